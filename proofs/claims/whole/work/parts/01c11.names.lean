theorem dX11_next_181 : decode cX11_next 181 = .ok (.iaload, 1) := by decide +kernel
theorem dX11_next_182 : decode cX11_next 182 = .ok (.invokestatic 98, 3) := by decide +kernel
theorem dX11_next_185 : decode cX11_next 185 = .ok (.ifCond .eq 80, 3) := by decide +kernel
theorem dX11_next_188 : decode cX11_next 188 = .ok (.goto 14, 3) := by decide +kernel
theorem dX11_next_191 : decode cX11_next 191 = .ok (.aload_n 0, 1) := by decide +kernel
theorem dX11_next_192 : decode cX11_next 192 = .ok (.getfield 85, 3) := by decide +kernel
theorem dX11_next_195 : decode cX11_next 195 = .ok (.aload_n 0, 1) := by decide +kernel
theorem dX11_next_196 : decode cX11_next 196 = .ok (.getfield 88, 3) := by decide +kernel
theorem dX11_next_199 : decode cX11_next 199 = .ok (.if_icmp .ne 66, 3) := by decide +kernel
theorem dX11_next_202 : decode cX11_next 202 = .ok (.iinc 2 1, 3) := by decide +kernel
theorem dX11_next_205 : decode cX11_next 205 = .ok (.aload_n 0, 1) := by decide +kernel
theorem dX11_next_206 : decode cX11_next 206 = .ok (.iload_n 2, 1) := by decide +kernel
theorem dX11_next_207 : decode cX11_next 207 = .ok (.iconst 4, 1) := by decide +kernel
theorem dX11_next_208 : decode cX11_next 208 = .ok (.if_icmp .le 9, 3) := by decide +kernel
theorem dX11_next_211 : decode cX11_next 211 = .ok (.sipush 10000, 3) := by decide +kernel
theorem dX11_next_214 : decode cX11_next 214 = .ok (.goto 35, 3) := by decide +kernel
theorem dX11_next_217 : decode cX11_next 217 = .ok (.aload_n 0, 1) := by decide +kernel
theorem dX11_next_218 : decode cX11_next 218 = .ok (.getfield 91, 3) := by decide +kernel
theorem dX11_next_221 : decode cX11_next 221 = .ok (.iconst 2, 1) := by decide +kernel
theorem dX11_next_222 : decode cX11_next 222 = .ok (.if_icmp .ne 26, 3) := by decide +kernel
theorem dX11_next_225 : decode cX11_next 225 = .ok (.bipush 10, 2) := by decide +kernel
theorem dX11_next_227 : decode cX11_next 227 = .ok (.aload_n 0, 1) := by decide +kernel
theorem dX11_next_228 : decode cX11_next 228 = .ok (.getfield 101, 3) := by decide +kernel
theorem dX11_next_231 : decode cX11_next 231 = .ok (.imul, 1) := by decide +kernel
theorem dX11_next_232 : decode cX11_next 232 = .ok (.aload_n 0, 1) := by decide +kernel
theorem dX11_next_233 : decode cX11_next 233 = .ok (.getfield 28, 3) := by decide +kernel
theorem dX11_next_236 : decode cX11_next 236 = .ok (.aload_n 0, 1) := by decide +kernel
theorem dX11_next_237 : decode cX11_next 237 = .ok (.getfield 85, 3) := by decide +kernel
theorem dX11_next_240 : decode cX11_next 240 = .ok (.iaload, 1) := by decide +kernel
theorem dX11_next_241 : decode cX11_next 241 = .ok (.iadd, 1) := by decide +kernel
theorem dX11_next_242 : decode cX11_next 242 = .ok (.bipush 48, 2) := by decide +kernel
theorem dX11_next_244 : decode cX11_next 244 = .ok (.isub, 1) := by decide +kernel
theorem dX11_next_245 : decode cX11_next 245 = .ok (.goto 4, 3) := by decide +kernel
theorem dX11_next_248 : decode cX11_next 248 = .ok (.iconst 0, 1) := by decide +kernel
theorem dX11_next_249 : decode cX11_next 249 = .ok (.putfield 101, 3) := by decide +kernel
theorem dX11_next_252 : decode cX11_next 252 = .ok (.aload_n 0, 1) := by decide +kernel
theorem dX11_next_253 : decode cX11_next 253 = .ok (.dup, 1) := by decide +kernel
theorem dX11_next_254 : decode cX11_next 254 = .ok (.getfield 85, 3) := by decide +kernel
theorem dX11_next_257 : decode cX11_next 257 = .ok (.iconst 1, 1) := by decide +kernel
theorem dX11_next_258 : decode cX11_next 258 = .ok (.iadd, 1) := by decide +kernel
theorem dX11_next_259 : decode cX11_next 259 = .ok (.putfield 85, 3) := by decide +kernel
theorem dX11_next_262 : decode cX11_next 262 = .ok (.goto (-134), 3) := by decide +kernel
theorem dX11_next_265 : decode cX11_next 265 = .ok (.return_, 1) := by decide +kernel
theorem dX11_isWrong_0 : decode cX11_isWrong 0 = .ok (.aload_n 0, 1) := by decide +kernel
theorem dX11_isWrong_1 : decode cX11_isWrong 1 = .ok (.getfield 104, 3) := by decide +kernel
theorem dX11_isWrong_4 : decode cX11_isWrong 4 = .ok (.iconst (-1), 1) := by decide +kernel
theorem dX11_isWrong_5 : decode cX11_isWrong 5 = .ok (.if_icmp .ne 11, 3) := by decide +kernel
theorem dX11_isWrong_8 : decode cX11_isWrong 8 = .ok (.aload_n 0, 1) := by decide +kernel
theorem dX11_isWrong_9 : decode cX11_isWrong 9 = .ok (.aload_n 0, 1) := by decide +kernel
theorem dX11_isWrong_10 : decode cX11_isWrong 10 = .ok (.getfield 88, 3) := by decide +kernel
theorem dX11_isWrong_13 : decode cX11_isWrong 13 = .ok (.putfield 104, 3) := by decide +kernel
theorem dX11_isWrong_16 : decode cX11_isWrong 16 = .ok (.return_, 1) := by decide +kernel
theorem dX11_letterAt_0 : decode cX11_letterAt 0 = .ok (.aload_n 0, 1) := by decide +kernel
theorem dX11_letterAt_1 : decode cX11_letterAt 1 = .ok (.getfield 88, 3) := by decide +kernel
theorem dX11_letterAt_4 : decode cX11_letterAt 4 = .ok (.iload_n 1, 1) := by decide +kernel
theorem dX11_letterAt_5 : decode cX11_letterAt 5 = .ok (.iadd, 1) := by decide +kernel
theorem dX11_letterAt_6 : decode cX11_letterAt 6 = .ok (.aload_n 0, 1) := by decide +kernel
theorem dX11_letterAt_7 : decode cX11_letterAt 7 = .ok (.getfield 85, 3) := by decide +kernel
theorem dX11_letterAt_10 : decode cX11_letterAt 10 = .ok (.if_icmp .ge 17, 3) := by decide +kernel
theorem dX11_letterAt_13 : decode cX11_letterAt 13 = .ok (.aload_n 0, 1) := by decide +kernel
theorem dX11_letterAt_14 : decode cX11_letterAt 14 = .ok (.getfield 28, 3) := by decide +kernel
theorem dX11_letterAt_17 : decode cX11_letterAt 17 = .ok (.aload_n 0, 1) := by decide +kernel
theorem dX11_letterAt_18 : decode cX11_letterAt 18 = .ok (.getfield 88, 3) := by decide +kernel
theorem dX11_letterAt_21 : decode cX11_letterAt 21 = .ok (.iload_n 1, 1) := by decide +kernel
theorem dX11_letterAt_22 : decode cX11_letterAt 22 = .ok (.iadd, 1) := by decide +kernel
theorem dX11_letterAt_23 : decode cX11_letterAt 23 = .ok (.iaload, 1) := by decide +kernel
theorem dX11_letterAt_24 : decode cX11_letterAt 24 = .ok (.goto 4, 3) := by decide +kernel
theorem dX11_letterAt_27 : decode cX11_letterAt 27 = .ok (.iconst 0, 1) := by decide +kernel
theorem dX11_letterAt_28 : decode cX11_letterAt 28 = .ok (.ireturn, 1) := by decide +kernel
set_option maxRecDepth 20000 in
theorem ggX11_isWord_X11_letterAt : GoodIn wsX11_isWord wsX11_letterAt := goodIn_r _ [8, 3, 2, 9, 10, 11, 12, 13, 14, 15, 16, 17, 18, 19, 20, 21, 22, 23, 24, 25, 26, 27, 28, 29, 30, 31, 32, 33, 34, 35, 36] (by decide +kernel) (by decide +kernel)
set_option maxRecDepth 20000 in
theorem gX11_isWord_X11_letterAt : GoodIn wsX11_isWord (wsV RX11 107 RX11 yX11_letterAt wsX11_letterAt) := goodIn_app (goodIn_of _ (by decide +kernel)) ggX11_isWord_X11_letterAt
theorem dX11_isWord_0 : decode cX11_isWord 0 = .ok (.aload_n 0, 1) := by decide +kernel
theorem dX11_isWord_1 : decode cX11_isWord 1 = .ok (.getfield 91, 3) := by decide +kernel
theorem dX11_isWord_4 : decode cX11_isWord 4 = .ok (.iconst 1, 1) := by decide +kernel
theorem dX11_isWord_5 : decode cX11_isWord 5 = .ok (.if_icmp .ne 67, 3) := by decide +kernel
theorem dX11_isWord_8 : decode cX11_isWord 8 = .ok (.aload_n 0, 1) := by decide +kernel
theorem dX11_isWord_9 : decode cX11_isWord 9 = .ok (.getfield 85, 3) := by decide +kernel
theorem dX11_isWord_12 : decode cX11_isWord 12 = .ok (.aload_n 0, 1) := by decide +kernel
theorem dX11_isWord_13 : decode cX11_isWord 13 = .ok (.getfield 88, 3) := by decide +kernel
theorem dX11_isWord_16 : decode cX11_isWord 16 = .ok (.isub, 1) := by decide +kernel
theorem dX11_isWord_17 : decode cX11_isWord 17 = .ok (.iconst 5, 1) := by decide +kernel
theorem dX11_isWord_18 : decode cX11_isWord 18 = .ok (.if_icmp .gt 54, 3) := by decide +kernel
theorem dX11_isWord_21 : decode cX11_isWord 21 = .ok (.aload_n 0, 1) := by decide +kernel
theorem dX11_isWord_22 : decode cX11_isWord 22 = .ok (.iconst 0, 1) := by decide +kernel
theorem dX11_isWord_23 : decode cX11_isWord 23 = .ok (.invokevirtual 107, 3) := by decide +kernel
theorem dX11_isWord_26 : decode cX11_isWord 26 = .ok (.iload_n 1, 1) := by decide +kernel
theorem dX11_isWord_27 : decode cX11_isWord 27 = .ok (.if_icmp .ne 45, 3) := by decide +kernel
theorem dX11_isWord_30 : decode cX11_isWord 30 = .ok (.aload_n 0, 1) := by decide +kernel
theorem dX11_isWord_31 : decode cX11_isWord 31 = .ok (.iconst 1, 1) := by decide +kernel
theorem dX11_isWord_32 : decode cX11_isWord 32 = .ok (.invokevirtual 107, 3) := by decide +kernel
theorem dX11_isWord_35 : decode cX11_isWord 35 = .ok (.iload_n 2, 1) := by decide +kernel
theorem dX11_isWord_36 : decode cX11_isWord 36 = .ok (.if_icmp .ne 36, 3) := by decide +kernel
theorem dX11_isWord_39 : decode cX11_isWord 39 = .ok (.aload_n 0, 1) := by decide +kernel
theorem dX11_isWord_40 : decode cX11_isWord 40 = .ok (.iconst 2, 1) := by decide +kernel
theorem dX11_isWord_41 : decode cX11_isWord 41 = .ok (.invokevirtual 107, 3) := by decide +kernel
theorem dX11_isWord_44 : decode cX11_isWord 44 = .ok (.iload_n 3, 1) := by decide +kernel
theorem dX11_isWord_45 : decode cX11_isWord 45 = .ok (.if_icmp .ne 27, 3) := by decide +kernel
theorem dX11_isWord_48 : decode cX11_isWord 48 = .ok (.aload_n 0, 1) := by decide +kernel
theorem dX11_isWord_49 : decode cX11_isWord 49 = .ok (.iconst 3, 1) := by decide +kernel
theorem dX11_isWord_50 : decode cX11_isWord 50 = .ok (.invokevirtual 107, 3) := by decide +kernel
theorem dX11_isWord_53 : decode cX11_isWord 53 = .ok (.iload 4, 2) := by decide +kernel
theorem dX11_isWord_55 : decode cX11_isWord 55 = .ok (.if_icmp .ne 17, 3) := by decide +kernel
theorem dX11_isWord_58 : decode cX11_isWord 58 = .ok (.aload_n 0, 1) := by decide +kernel
theorem dX11_isWord_59 : decode cX11_isWord 59 = .ok (.iconst 4, 1) := by decide +kernel
theorem dX11_isWord_60 : decode cX11_isWord 60 = .ok (.invokevirtual 107, 3) := by decide +kernel
theorem dX11_isWord_63 : decode cX11_isWord 63 = .ok (.iload 5, 2) := by decide +kernel
theorem dX11_isWord_65 : decode cX11_isWord 65 = .ok (.if_icmp .ne 7, 3) := by decide +kernel
theorem dX11_isWord_68 : decode cX11_isWord 68 = .ok (.iconst 1, 1) := by decide +kernel
theorem dX11_isWord_69 : decode cX11_isWord 69 = .ok (.goto 4, 3) := by decide +kernel
theorem dX11_isWord_72 : decode cX11_isWord 72 = .ok (.iconst 0, 1) := by decide +kernel
theorem dX11_isWord_73 : decode cX11_isWord 73 = .ok (.ireturn, 1) := by decide +kernel
set_option maxRecDepth 20000 in
theorem ggX11_takesNumber_X11_in : GoodIn wsX11_takesNumber wsX11_in := goodIn_r _ [6] (by decide +kernel) (by decide +kernel)
set_option maxRecDepth 20000 in
theorem gX11_takesNumber_X11_in : GoodIn wsX11_takesNumber (va_wsS RX11 69 yX11_in wsX11_in) := goodIn_app (goodIn_of _ (by decide +kernel)) ggX11_takesNumber_X11_in
set_option maxRecDepth 20000 in
theorem ggX11_takesNumber_X11_isWrong : GoodIn wsX11_takesNumber wsX11_isWrong := goodIn_r _ [10, 11, 12, 26, 27, 28, 29, 30, 31, 32, 33, 34, 35, 36, 37, 38, 39, 40, 41, 42, 43, 44, 45, 46, 47, 48, 49, 50, 51, 52] (by decide +kernel) (by decide +kernel)
set_option maxRecDepth 20000 in
theorem gX11_takesNumber_X11_isWrong : GoodIn wsX11_takesNumber (wsV RX11 110 RX11 yX11_isWrong wsX11_isWrong) := goodIn_app (goodIn_of _ (by decide +kernel)) ggX11_takesNumber_X11_isWrong
set_option maxRecDepth 20000 in
theorem ggX11_takesNumber_X11_next : GoodIn wsX11_takesNumber wsX11_next := goodIn_r _ [16, 17, 18, 19, 12, 2, 1, 20, 21, 5, 22, 3, 4, 6, 23, 24, 25, 26, 27, 28, 29, 30, 31, 32, 33, 34, 35, 36, 37, 38, 39, 40, 41, 42, 43, 44, 45, 46, 47, 48, 49, 50, 51, 52] (by decide +kernel) (by decide +kernel)
set_option maxRecDepth 20000 in
theorem gX11_takesNumber_X11_next : GoodIn wsX11_takesNumber (wsV RX11 113 RX11 yX11_next wsX11_next) := goodIn_app (goodIn_of _ (by decide +kernel)) ggX11_takesNumber_X11_next
theorem dX11_takesNumber_0 : decode cX11_takesNumber 0 = .ok (.aload_n 0, 1) := by decide +kernel
theorem dX11_takesNumber_1 : decode cX11_takesNumber 1 = .ok (.getfield 101, 3) := by decide +kernel
theorem dX11_takesNumber_4 : decode cX11_takesNumber 4 = .ok (.istore_n 3, 1) := by decide +kernel
theorem dX11_takesNumber_5 : decode cX11_takesNumber 5 = .ok (.aload_n 0, 1) := by decide +kernel
theorem dX11_takesNumber_6 : decode cX11_takesNumber 6 = .ok (.getfield 91, 3) := by decide +kernel
theorem dX11_takesNumber_9 : decode cX11_takesNumber 9 = .ok (.iconst 2, 1) := by decide +kernel
theorem dX11_takesNumber_10 : decode cX11_takesNumber 10 = .ok (.if_icmp .ne 12, 3) := by decide +kernel
theorem dX11_takesNumber_13 : decode cX11_takesNumber 13 = .ok (.iload_n 3, 1) := by decide +kernel
theorem dX11_takesNumber_14 : decode cX11_takesNumber 14 = .ok (.iload_n 1, 1) := by decide +kernel
theorem dX11_takesNumber_15 : decode cX11_takesNumber 15 = .ok (.iload_n 2, 1) := by decide +kernel
theorem dX11_takesNumber_16 : decode cX11_takesNumber 16 = .ok (.invokestatic 69, 3) := by decide +kernel
theorem dX11_takesNumber_19 : decode cX11_takesNumber 19 = .ok (.ifCond .ne 9, 3) := by decide +kernel
theorem dX11_takesNumber_22 : decode cX11_takesNumber 22 = .ok (.aload_n 0, 1) := by decide +kernel
theorem dX11_takesNumber_23 : decode cX11_takesNumber 23 = .ok (.invokevirtual 110, 3) := by decide +kernel
theorem dX11_takesNumber_26 : decode cX11_takesNumber 26 = .ok (.iload_n 1, 1) := by decide +kernel
theorem dX11_takesNumber_27 : decode cX11_takesNumber 27 = .ok (.ireturn, 1) := by decide +kernel
theorem dX11_takesNumber_28 : decode cX11_takesNumber 28 = .ok (.aload_n 0, 1) := by decide +kernel
theorem dX11_takesNumber_29 : decode cX11_takesNumber 29 = .ok (.invokevirtual 113, 3) := by decide +kernel
theorem dX11_takesNumber_32 : decode cX11_takesNumber 32 = .ok (.iload_n 3, 1) := by decide +kernel
theorem dX11_takesNumber_33 : decode cX11_takesNumber 33 = .ok (.ireturn, 1) := by decide +kernel
set_option maxRecDepth 20000 in
theorem ggX11_kindHere_X11_isWord : GoodIn wsX11_kindHere wsX11_isWord := goodIn_r _ [5, 6, 7, 8, 9, 10, 11, 4, 12, 13, 14, 15, 16, 17, 18, 19, 20, 21, 22, 23, 24, 25, 26, 27, 28, 29, 30, 31, 32, 33, 34, 35, 36, 37, 38, 39, 40] (by decide +kernel) (by decide +kernel)
set_option maxRecDepth 20000 in
theorem gX11_kindHere_X11_isWord : GoodIn wsX11_kindHere (wsV RX11 116 RX11 yX11_isWord wsX11_isWord) := goodIn_app (goodIn_of _ (by decide +kernel)) ggX11_kindHere_X11_isWord
theorem dX11_kindHere_0 : decode cX11_kindHere 0 = .ok (.aload_n 0, 1) := by decide +kernel
theorem dX11_kindHere_1 : decode cX11_kindHere 1 = .ok (.bipush 115, 2) := by decide +kernel
theorem dX11_kindHere_3 : decode cX11_kindHere 3 = .ok (.bipush 97, 2) := by decide +kernel
theorem dX11_kindHere_5 : decode cX11_kindHere 5 = .ok (.bipush 109, 2) := by decide +kernel
theorem dX11_kindHere_7 : decode cX11_kindHere 7 = .ok (.bipush 101, 2) := by decide +kernel
theorem dX11_kindHere_9 : decode cX11_kindHere 9 = .ok (.iconst 0, 1) := by decide +kernel
theorem dX11_kindHere_10 : decode cX11_kindHere 10 = .ok (.invokevirtual 116, 3) := by decide +kernel
theorem dX11_kindHere_13 : decode cX11_kindHere 13 = .ok (.ifCond .eq 5, 3) := by decide +kernel
theorem dX11_kindHere_16 : decode cX11_kindHere 16 = .ok (.iconst 0, 1) := by decide +kernel
theorem dX11_kindHere_17 : decode cX11_kindHere 17 = .ok (.ireturn, 1) := by decide +kernel
theorem dX11_kindHere_18 : decode cX11_kindHere 18 = .ok (.aload_n 0, 1) := by decide +kernel
theorem dX11_kindHere_19 : decode cX11_kindHere 19 = .ok (.bipush 114, 2) := by decide +kernel
theorem dX11_kindHere_21 : decode cX11_kindHere 21 = .ok (.bipush 105, 2) := by decide +kernel
theorem dX11_kindHere_23 : decode cX11_kindHere 23 = .ok (.bipush 115, 2) := by decide +kernel
theorem dX11_kindHere_25 : decode cX11_kindHere 25 = .ok (.bipush 101, 2) := by decide +kernel
theorem dX11_kindHere_27 : decode cX11_kindHere 27 = .ok (.iconst 0, 1) := by decide +kernel
theorem dX11_kindHere_28 : decode cX11_kindHere 28 = .ok (.invokevirtual 116, 3) := by decide +kernel
theorem dX11_kindHere_31 : decode cX11_kindHere 31 = .ok (.ifCond .eq 5, 3) := by decide +kernel
theorem dX11_kindHere_34 : decode cX11_kindHere 34 = .ok (.iconst 1, 1) := by decide +kernel
theorem dX11_kindHere_35 : decode cX11_kindHere 35 = .ok (.ireturn, 1) := by decide +kernel
theorem dX11_kindHere_36 : decode cX11_kindHere 36 = .ok (.aload_n 0, 1) := by decide +kernel
theorem dX11_kindHere_37 : decode cX11_kindHere 37 = .ok (.bipush 102, 2) := by decide +kernel
theorem dX11_kindHere_39 : decode cX11_kindHere 39 = .ok (.bipush 97, 2) := by decide +kernel
theorem dX11_kindHere_41 : decode cX11_kindHere 41 = .ok (.bipush 108, 2) := by decide +kernel
theorem dX11_kindHere_43 : decode cX11_kindHere 43 = .ok (.bipush 108, 2) := by decide +kernel
theorem dX11_kindHere_45 : decode cX11_kindHere 45 = .ok (.iconst 0, 1) := by decide +kernel
theorem dX11_kindHere_46 : decode cX11_kindHere 46 = .ok (.invokevirtual 116, 3) := by decide +kernel
theorem dX11_kindHere_49 : decode cX11_kindHere 49 = .ok (.ifCond .eq 5, 3) := by decide +kernel
theorem dX11_kindHere_52 : decode cX11_kindHere 52 = .ok (.iconst 2, 1) := by decide +kernel
theorem dX11_kindHere_53 : decode cX11_kindHere 53 = .ok (.ireturn, 1) := by decide +kernel
theorem dX11_kindHere_54 : decode cX11_kindHere 54 = .ok (.aload_n 0, 1) := by decide +kernel
theorem dX11_kindHere_55 : decode cX11_kindHere 55 = .ok (.bipush 119, 2) := by decide +kernel
theorem dX11_kindHere_57 : decode cX11_kindHere 57 = .ok (.bipush 97, 2) := by decide +kernel
theorem dX11_kindHere_59 : decode cX11_kindHere 59 = .ok (.bipush 118, 2) := by decide +kernel
theorem dX11_kindHere_61 : decode cX11_kindHere 61 = .ok (.bipush 101, 2) := by decide +kernel
theorem dX11_kindHere_63 : decode cX11_kindHere 63 = .ok (.iconst 0, 1) := by decide +kernel
theorem dX11_kindHere_64 : decode cX11_kindHere 64 = .ok (.invokevirtual 116, 3) := by decide +kernel
theorem dX11_kindHere_67 : decode cX11_kindHere 67 = .ok (.ifCond .eq 5, 3) := by decide +kernel
theorem dX11_kindHere_70 : decode cX11_kindHere 70 = .ok (.iconst 3, 1) := by decide +kernel
theorem dX11_kindHere_71 : decode cX11_kindHere 71 = .ok (.ireturn, 1) := by decide +kernel
theorem dX11_kindHere_72 : decode cX11_kindHere 72 = .ok (.aload_n 0, 1) := by decide +kernel
theorem dX11_kindHere_73 : decode cX11_kindHere 73 = .ok (.bipush 100, 2) := by decide +kernel
theorem dX11_kindHere_75 : decode cX11_kindHere 75 = .ok (.bipush 114, 2) := by decide +kernel
theorem dX11_kindHere_77 : decode cX11_kindHere 77 = .ok (.bipush 97, 2) := by decide +kernel
theorem dX11_kindHere_79 : decode cX11_kindHere 79 = .ok (.bipush 119, 2) := by decide +kernel
theorem dX11_kindHere_81 : decode cX11_kindHere 81 = .ok (.iconst 0, 1) := by decide +kernel
theorem dX11_kindHere_82 : decode cX11_kindHere 82 = .ok (.invokevirtual 116, 3) := by decide +kernel
theorem dX11_kindHere_85 : decode cX11_kindHere 85 = .ok (.ifCond .eq 5, 3) := by decide +kernel
theorem dX11_kindHere_88 : decode cX11_kindHere 88 = .ok (.iconst 4, 1) := by decide +kernel
theorem dX11_kindHere_89 : decode cX11_kindHere 89 = .ok (.ireturn, 1) := by decide +kernel
theorem dX11_kindHere_90 : decode cX11_kindHere 90 = .ok (.aload_n 0, 1) := by decide +kernel
theorem dX11_kindHere_91 : decode cX11_kindHere 91 = .ok (.bipush 116, 2) := by decide +kernel
theorem dX11_kindHere_93 : decode cX11_kindHere 93 = .ok (.bipush 101, 2) := by decide +kernel
theorem dX11_kindHere_95 : decode cX11_kindHere 95 = .ok (.bipush 101, 2) := by decide +kernel
theorem dX11_kindHere_97 : decode cX11_kindHere 97 = .ok (.bipush 116, 2) := by decide +kernel
theorem dX11_kindHere_99 : decode cX11_kindHere 99 = .ok (.bipush 104, 2) := by decide +kernel
theorem dX11_kindHere_101 : decode cX11_kindHere 101 = .ok (.invokevirtual 116, 3) := by decide +kernel
theorem dX11_kindHere_104 : decode cX11_kindHere 104 = .ok (.ifCond .eq 7, 3) := by decide +kernel
theorem dX11_kindHere_107 : decode cX11_kindHere 107 = .ok (.iconst 5, 1) := by decide +kernel
theorem dX11_kindHere_108 : decode cX11_kindHere 108 = .ok (.goto 4, 3) := by decide +kernel
theorem dX11_kindHere_111 : decode cX11_kindHere 111 = .ok (.iconst (-1), 1) := by decide +kernel
theorem dX11_kindHere_112 : decode cX11_kindHere 112 = .ok (.ireturn, 1) := by decide +kernel
set_option maxRecDepth 20000 in
theorem ggX11_takesStart_X11_takesNumber : GoodIn wsX11_takesStart wsX11_takesNumber := goodIn_r _ [6, 7, 1, 8, 9, 5, 10, 11, 12, 13, 14, 15, 16, 17, 18, 19, 20, 21, 22, 23, 24, 25, 26, 27, 28, 29, 30, 31, 32, 33, 34, 35, 36, 37, 38, 39, 40, 41, 42, 43, 44, 45, 46, 47, 48, 49, 50, 51, 52, 53, 54, 55, 56] (by decide +kernel) (by decide +kernel)
set_option maxRecDepth 20000 in
theorem gX11_takesStart_X11_takesNumber : GoodIn wsX11_takesStart (wsV RX11 120 RX11 yX11_takesNumber wsX11_takesNumber) := goodIn_app (goodIn_of _ (by decide +kernel)) ggX11_takesStart_X11_takesNumber
set_option maxRecDepth 20000 in
theorem ggX11_takesStart_X11_next : GoodIn wsX11_takesStart wsX11_next := goodIn_r _ [20, 21, 22, 23, 16, 1, 7, 24, 25, 5, 26, 8, 9, 10, 27, 28, 29, 30, 31, 32, 33, 34, 35, 36, 37, 38, 39, 40, 41, 42, 43, 44, 45, 46, 47, 48, 49, 50, 51, 52, 53, 54, 55, 56] (by decide +kernel) (by decide +kernel)
set_option maxRecDepth 20000 in
theorem gX11_takesStart_X11_next : GoodIn wsX11_takesStart (wsV RX11 113 RX11 yX11_next wsX11_next) := goodIn_app (goodIn_of _ (by decide +kernel)) ggX11_takesStart_X11_next
theorem dX11_takesStart_0 : decode cX11_takesStart 0 = .ok (.aload_n 0, 1) := by decide +kernel
theorem dX11_takesStart_1 : decode cX11_takesStart 1 = .ok (.getfield 91, 3) := by decide +kernel
theorem dX11_takesStart_4 : decode cX11_takesStart 4 = .ok (.iconst 4, 1) := by decide +kernel
theorem dX11_takesStart_5 : decode cX11_takesStart 5 = .ok (.if_icmp .eq 12, 3) := by decide +kernel
theorem dX11_takesStart_8 : decode cX11_takesStart 8 = .ok (.aload_n 0, 1) := by decide +kernel
theorem dX11_takesStart_9 : decode cX11_takesStart 9 = .ok (.iconst 0, 1) := by decide +kernel
theorem dX11_takesStart_10 : decode cX11_takesStart 10 = .ok (.sipush 9999, 3) := by decide +kernel
theorem dX11_takesStart_13 : decode cX11_takesStart 13 = .ok (.invokevirtual 120, 3) := by decide +kernel
theorem dX11_takesStart_16 : decode cX11_takesStart 16 = .ok (.ireturn, 1) := by decide +kernel
theorem dX11_takesStart_17 : decode cX11_takesStart 17 = .ok (.aload_n 0, 1) := by decide +kernel
theorem dX11_takesStart_18 : decode cX11_takesStart 18 = .ok (.invokevirtual 113, 3) := by decide +kernel
theorem dX11_takesStart_21 : decode cX11_takesStart 21 = .ok (.aload_n 0, 1) := by decide +kernel
theorem dX11_takesStart_22 : decode cX11_takesStart 22 = .ok (.iconst 0, 1) := by decide +kernel
theorem dX11_takesStart_23 : decode cX11_takesStart 23 = .ok (.sipush 9999, 3) := by decide +kernel
theorem dX11_takesStart_26 : decode cX11_takesStart 26 = .ok (.invokevirtual 120, 3) := by decide +kernel
theorem dX11_takesStart_29 : decode cX11_takesStart 29 = .ok (.ineg, 1) := by decide +kernel
theorem dX11_takesStart_30 : decode cX11_takesStart 30 = .ok (.ireturn, 1) := by decide +kernel
set_option maxRecDepth 20000 in
theorem ggX11_takesRun_X11_kindHere : GoodIn wsX11_takesRun wsX11_kindHere := goodIn_r _ [14, 15, 16, 17, 13, 18, 2, 19, 20, 21, 22, 23, 24, 25, 53, 54, 55, 56, 57, 58, 59, 60, 61, 62, 63, 64, 65, 66, 67, 68, 69, 70, 71, 72, 73, 74, 75, 76, 77, 78, 79] (by decide +kernel) (by decide +kernel)
set_option maxRecDepth 20000 in
theorem gX11_takesRun_X11_kindHere : GoodIn wsX11_takesRun (wsV RX11 124 RX11 yX11_kindHere wsX11_kindHere) := goodIn_app (goodIn_of _ (by decide +kernel)) ggX11_takesRun_X11_kindHere
set_option maxRecDepth 20000 in
theorem ggX11_takesRun_X11_isWrong : GoodIn wsX11_takesRun wsX11_isWrong := goodIn_r _ [29, 1, 20, 53, 54, 55, 56, 57, 58, 59, 60, 61, 62, 63, 64, 65, 66, 67, 68, 69, 70, 71, 72, 73, 74, 75, 76, 77, 78, 79] (by decide +kernel) (by decide +kernel)
set_option maxRecDepth 20000 in
theorem gX11_takesRun_X11_isWrong : GoodIn wsX11_takesRun (wsV RX11 110 RX11 yX11_isWrong wsX11_isWrong) := goodIn_app (goodIn_of _ (by decide +kernel)) ggX11_takesRun_X11_isWrong
set_option maxRecDepth 20000 in
theorem ggX11_takesRun_X11_next : GoodIn wsX11_takesRun wsX11_next := goodIn_r _ [33, 19, 34, 25, 20, 2, 35, 36, 37, 13, 38, 39, 40, 41, 42, 43, 44, 53, 54, 55, 56, 57, 58, 59, 60, 61, 62, 63, 64, 65, 66, 67, 68, 69, 70, 71, 72, 73, 74, 75, 76, 77, 78, 79] (by decide +kernel) (by decide +kernel)
set_option maxRecDepth 20000 in
theorem gX11_takesRun_X11_next : GoodIn wsX11_takesRun (wsV RX11 113 RX11 yX11_next wsX11_next) := goodIn_app (goodIn_of _ (by decide +kernel)) ggX11_takesRun_X11_next
set_option maxRecDepth 20000 in
theorem ggX11_takesRun_X11_takesNumber : GoodIn wsX11_takesRun wsX11_takesNumber := goodIn_r _ [48, 35, 2, 39, 40, 13, 41, 26, 27, 28, 29, 1, 20, 30, 31, 32, 33, 19, 34, 25, 36, 37, 38, 42, 43, 44, 53, 54, 55, 56, 57, 58, 59, 60, 61, 62, 63, 64, 65, 66, 67, 68, 69, 70, 71, 72, 73, 74, 75, 76, 77, 78, 79] (by decide +kernel) (by decide +kernel)
set_option maxRecDepth 20000 in
theorem gX11_takesRun_X11_takesNumber : GoodIn wsX11_takesRun (wsV RX11 120 RX11 yX11_takesNumber wsX11_takesNumber) := goodIn_app (goodIn_of _ (by decide +kernel)) ggX11_takesRun_X11_takesNumber
set_option maxRecDepth 20000 in
theorem ggX11_takesRun_X11_takesStart : GoodIn wsX11_takesRun wsX11_takesStart := goodIn_r _ [52, 2, 45, 46, 47, 13, 48, 35, 39, 40, 41, 26, 27, 28, 29, 1, 20, 30, 31, 32, 33, 19, 34, 25, 36, 37, 38, 42, 43, 44, 53, 54, 55, 56, 57, 58, 59, 60, 61, 62, 63, 64, 65, 66, 67, 68, 69, 70, 71, 72, 73, 74, 75, 76, 77, 78, 79] (by decide +kernel) (by decide +kernel)
set_option maxRecDepth 20000 in
theorem gX11_takesRun_X11_takesStart : GoodIn wsX11_takesRun (wsV RX11 128 RX11 yX11_takesStart wsX11_takesStart) := goodIn_app (goodIn_of _ (by decide +kernel)) ggX11_takesRun_X11_takesStart
set_option maxRecDepth 20000 in
theorem ggX11_takesRun_X11_isWord : GoodIn wsX11_takesRun wsX11_isWord := goodIn_r _ [18, 2, 19, 20, 21, 22, 23, 13, 24, 25, 53, 54, 55, 56, 57, 58, 59, 60, 61, 62, 63, 64, 65, 66, 67, 68, 69, 70, 71, 72, 73, 74, 75, 76, 77, 78, 79] (by decide +kernel) (by decide +kernel)
set_option maxRecDepth 20000 in
theorem gX11_takesRun_X11_isWord : GoodIn wsX11_takesRun (wsV RX11 116 RX11 yX11_isWord wsX11_isWord) := goodIn_app (goodIn_of _ (by decide +kernel)) ggX11_takesRun_X11_isWord
theorem dX11_takesRun_0 : decode cX11_takesRun 0 = .ok (.aload_n 0, 1) := by decide +kernel
theorem dX11_takesRun_1 : decode cX11_takesRun 1 = .ok (.invokevirtual 124, 3) := by decide +kernel
theorem dX11_takesRun_4 : decode cX11_takesRun 4 = .ok (.istore_n 1, 1) := by decide +kernel
theorem dX11_takesRun_5 : decode cX11_takesRun 5 = .ok (.iload_n 1, 1) := by decide +kernel
theorem dX11_takesRun_6 : decode cX11_takesRun 6 = .ok (.iconst (-1), 1) := by decide +kernel
theorem dX11_takesRun_7 : decode cX11_takesRun 7 = .ok (.if_icmp .ne 8, 3) := by decide +kernel
theorem dX11_takesRun_10 : decode cX11_takesRun 10 = .ok (.aload_n 0, 1) := by decide +kernel
theorem dX11_takesRun_11 : decode cX11_takesRun 11 = .ok (.invokevirtual 110, 3) := by decide +kernel
theorem dX11_takesRun_14 : decode cX11_takesRun 14 = .ok (.return_, 1) := by decide +kernel
theorem dX11_takesRun_15 : decode cX11_takesRun 15 = .ok (.aload_n 0, 1) := by decide +kernel
theorem dX11_takesRun_16 : decode cX11_takesRun 16 = .ok (.invokevirtual 113, 3) := by decide +kernel
theorem dX11_takesRun_19 : decode cX11_takesRun 19 = .ok (.aload_n 0, 1) := by decide +kernel
theorem dX11_takesRun_20 : decode cX11_takesRun 20 = .ok (.iconst 1, 1) := by decide +kernel
theorem dX11_takesRun_21 : decode cX11_takesRun 21 = .ok (.sipush 400, 3) := by decide +kernel
theorem dX11_takesRun_24 : decode cX11_takesRun 24 = .ok (.invokevirtual 120, 3) := by decide +kernel
theorem dX11_takesRun_27 : decode cX11_takesRun 27 = .ok (.istore_n 2, 1) := by decide +kernel
theorem dX11_takesRun_28 : decode cX11_takesRun 28 = .ok (.aload_n 0, 1) := by decide +kernel
theorem dX11_takesRun_29 : decode cX11_takesRun 29 = .ok (.getfield 104, 3) := by decide +kernel
theorem dX11_takesRun_32 : decode cX11_takesRun 32 = .ok (.iconst (-1), 1) := by decide +kernel
theorem dX11_takesRun_33 : decode cX11_takesRun 33 = .ok (.if_icmp .ne 10, 3) := by decide +kernel
theorem dX11_takesRun_36 : decode cX11_takesRun 36 = .ok (.aload_n 0, 1) := by decide +kernel
theorem dX11_takesRun_37 : decode cX11_takesRun 37 = .ok (.invokevirtual 128, 3) := by decide +kernel
theorem dX11_takesRun_40 : decode cX11_takesRun 40 = .ok (.goto 4, 3) := by decide +kernel
theorem dX11_takesRun_43 : decode cX11_takesRun 43 = .ok (.iconst 0, 1) := by decide +kernel
theorem dX11_takesRun_44 : decode cX11_takesRun 44 = .ok (.istore_n 3, 1) := by decide +kernel
theorem dX11_takesRun_45 : decode cX11_takesRun 45 = .ok (.aload_n 0, 1) := by decide +kernel
theorem dX11_takesRun_46 : decode cX11_takesRun 46 = .ok (.getfield 104, 3) := by decide +kernel
theorem dX11_takesRun_49 : decode cX11_takesRun 49 = .ok (.iconst (-1), 1) := by decide +kernel
theorem dX11_takesRun_50 : decode cX11_takesRun 50 = .ok (.if_icmp .ne 18, 3) := by decide +kernel
theorem dX11_takesRun_53 : decode cX11_takesRun 53 = .ok (.iload_n 1, 1) := by decide +kernel
theorem dX11_takesRun_54 : decode cX11_takesRun 54 = .ok (.ifCond .eq 14, 3) := by decide +kernel
theorem dX11_takesRun_57 : decode cX11_takesRun 57 = .ok (.aload_n 0, 1) := by decide +kernel
theorem dX11_takesRun_58 : decode cX11_takesRun 58 = .ok (.iconst 0, 1) := by decide +kernel
theorem dX11_takesRun_59 : decode cX11_takesRun 59 = .ok (.sipush 999, 3) := by decide +kernel
theorem dX11_takesRun_62 : decode cX11_takesRun 62 = .ok (.invokevirtual 120, 3) := by decide +kernel
theorem dX11_takesRun_65 : decode cX11_takesRun 65 = .ok (.goto 4, 3) := by decide +kernel
theorem dX11_takesRun_68 : decode cX11_takesRun 68 = .ok (.iconst 0, 1) := by decide +kernel
theorem dX11_takesRun_69 : decode cX11_takesRun 69 = .ok (.istore 4, 2) := by decide +kernel
theorem dX11_takesRun_71 : decode cX11_takesRun 71 = .ok (.aload_n 0, 1) := by decide +kernel
theorem dX11_takesRun_72 : decode cX11_takesRun 72 = .ok (.getfield 104, 3) := by decide +kernel
theorem dX11_takesRun_75 : decode cX11_takesRun 75 = .ok (.iconst (-1), 1) := by decide +kernel
theorem dX11_takesRun_76 : decode cX11_takesRun 76 = .ok (.if_icmp .ne 18, 3) := by decide +kernel
theorem dX11_takesRun_79 : decode cX11_takesRun 79 = .ok (.iload_n 1, 1) := by decide +kernel
theorem dX11_takesRun_80 : decode cX11_takesRun 80 = .ok (.iconst 5, 1) := by decide +kernel
theorem dX11_takesRun_81 : decode cX11_takesRun 81 = .ok (.if_icmp .ne 13, 3) := by decide +kernel
theorem dX11_takesRun_84 : decode cX11_takesRun 84 = .ok (.aload_n 0, 1) := by decide +kernel
theorem dX11_takesRun_85 : decode cX11_takesRun 85 = .ok (.iconst 1, 1) := by decide +kernel
theorem dX11_takesRun_86 : decode cX11_takesRun 86 = .ok (.bipush 99, 2) := by decide +kernel
theorem dX11_takesRun_88 : decode cX11_takesRun 88 = .ok (.invokevirtual 120, 3) := by decide +kernel
theorem dX11_takesRun_91 : decode cX11_takesRun 91 = .ok (.goto 4, 3) := by decide +kernel
theorem dX11_takesRun_94 : decode cX11_takesRun 94 = .ok (.iconst 1, 1) := by decide +kernel
theorem dX11_takesRun_95 : decode cX11_takesRun 95 = .ok (.istore 5, 2) := by decide +kernel
theorem dX11_takesRun_97 : decode cX11_takesRun 97 = .ok (.iconst 1, 1) := by decide +kernel
theorem dX11_takesRun_98 : decode cX11_takesRun 98 = .ok (.istore 6, 2) := by decide +kernel
theorem dX11_takesRun_100 : decode cX11_takesRun 100 = .ok (.aload_n 0, 1) := by decide +kernel
theorem dX11_takesRun_101 : decode cX11_takesRun 101 = .ok (.getfield 104, 3) := by decide +kernel
theorem dX11_takesRun_104 : decode cX11_takesRun 104 = .ok (.iconst (-1), 1) := by decide +kernel
theorem dX11_takesRun_105 : decode cX11_takesRun 105 = .ok (.if_icmp .ne 31, 3) := by decide +kernel
theorem dX11_takesRun_108 : decode cX11_takesRun 108 = .ok (.aload_n 0, 1) := by decide +kernel
theorem dX11_takesRun_109 : decode cX11_takesRun 109 = .ok (.bipush 109, 2) := by decide +kernel
theorem dX11_takesRun_111 : decode cX11_takesRun 111 = .ok (.bipush 111, 2) := by decide +kernel
theorem dX11_takesRun_113 : decode cX11_takesRun 113 = .ok (.bipush 100, 2) := by decide +kernel
theorem dX11_takesRun_115 : decode cX11_takesRun 115 = .ok (.iconst 0, 1) := by decide +kernel
theorem dX11_takesRun_116 : decode cX11_takesRun 116 = .ok (.iconst 0, 1) := by decide +kernel
theorem dX11_takesRun_117 : decode cX11_takesRun 117 = .ok (.invokevirtual 116, 3) := by decide +kernel
theorem dX11_takesRun_120 : decode cX11_takesRun 120 = .ok (.ifCond .eq 16, 3) := by decide +kernel
theorem dX11_takesRun_123 : decode cX11_takesRun 123 = .ok (.aload_n 0, 1) := by decide +kernel
theorem dX11_takesRun_124 : decode cX11_takesRun 124 = .ok (.invokevirtual 113, 3) := by decide +kernel
theorem dX11_takesRun_127 : decode cX11_takesRun 127 = .ok (.aload_n 0, 1) := by decide +kernel
theorem dX11_takesRun_128 : decode cX11_takesRun 128 = .ok (.iconst 1, 1) := by decide +kernel
theorem dX11_takesRun_129 : decode cX11_takesRun 129 = .ok (.bipush 99, 2) := by decide +kernel
theorem dX11_takesRun_131 : decode cX11_takesRun 131 = .ok (.invokevirtual 120, 3) := by decide +kernel
theorem dX11_takesRun_134 : decode cX11_takesRun 134 = .ok (.istore 6, 2) := by decide +kernel
theorem dX11_takesRun_136 : decode cX11_takesRun 136 = .ok (.aload_n 0, 1) := by decide +kernel
theorem dX11_takesRun_137 : decode cX11_takesRun 137 = .ok (.getfield 104, 3) := by decide +kernel
theorem dX11_takesRun_140 : decode cX11_takesRun 140 = .ok (.iconst (-1), 1) := by decide +kernel
theorem dX11_takesRun_141 : decode cX11_takesRun 141 = .ok (.if_icmp .ne 15, 3) := by decide +kernel
theorem dX11_takesRun_144 : decode cX11_takesRun 144 = .ok (.aload_n 0, 1) := by decide +kernel
theorem dX11_takesRun_145 : decode cX11_takesRun 145 = .ok (.getfield 91, 3) := by decide +kernel
theorem dX11_takesRun_148 : decode cX11_takesRun 148 = .ok (.iconst 3, 1) := by decide +kernel
theorem dX11_takesRun_149 : decode cX11_takesRun 149 = .ok (.if_icmp .eq 7, 3) := by decide +kernel
theorem dX11_takesRun_152 : decode cX11_takesRun 152 = .ok (.aload_n 0, 1) := by decide +kernel
theorem dX11_takesRun_153 : decode cX11_takesRun 153 = .ok (.invokevirtual 110, 3) := by decide +kernel
theorem dX11_takesRun_156 : decode cX11_takesRun 156 = .ok (.aload_n 0, 1) := by decide +kernel
theorem dX11_takesRun_157 : decode cX11_takesRun 157 = .ok (.getfield 104, 3) := by decide +kernel
theorem dX11_takesRun_160 : decode cX11_takesRun 160 = .ok (.iconst (-1), 1) := by decide +kernel
theorem dX11_takesRun_161 : decode cX11_takesRun 161 = .ok (.if_icmp .eq 4, 3) := by decide +kernel
theorem dX11_takesRun_164 : decode cX11_takesRun 164 = .ok (.return_, 1) := by decide +kernel
theorem dX11_takesRun_165 : decode cX11_takesRun 165 = .ok (.aload_n 0, 1) := by decide +kernel
theorem dX11_takesRun_166 : decode cX11_takesRun 166 = .ok (.invokevirtual 113, 3) := by decide +kernel
theorem dX11_takesRun_169 : decode cX11_takesRun 169 = .ok (.aload_n 0, 1) := by decide +kernel
theorem dX11_takesRun_170 : decode cX11_takesRun 170 = .ok (.getfield 41, 3) := by decide +kernel
theorem dX11_takesRun_173 : decode cX11_takesRun 173 = .ok (.aload_n 0, 1) := by decide +kernel
theorem dX11_takesRun_174 : decode cX11_takesRun 174 = .ok (.getfield 131, 3) := by decide +kernel
theorem dX11_takesRun_177 : decode cX11_takesRun 177 = .ok (.iload_n 1, 1) := by decide +kernel
theorem dX11_takesRun_178 : decode cX11_takesRun 178 = .ok (.iastore, 1) := by decide +kernel
theorem dX11_takesRun_179 : decode cX11_takesRun 179 = .ok (.aload_n 0, 1) := by decide +kernel
theorem dX11_takesRun_180 : decode cX11_takesRun 180 = .ok (.getfield 44, 3) := by decide +kernel
theorem dX11_takesRun_183 : decode cX11_takesRun 183 = .ok (.aload_n 0, 1) := by decide +kernel
theorem dX11_takesRun_184 : decode cX11_takesRun 184 = .ok (.getfield 131, 3) := by decide +kernel
theorem dX11_takesRun_187 : decode cX11_takesRun 187 = .ok (.iload_n 2, 1) := by decide +kernel
theorem dX11_takesRun_188 : decode cX11_takesRun 188 = .ok (.iastore, 1) := by decide +kernel
theorem dX11_takesRun_189 : decode cX11_takesRun 189 = .ok (.aload_n 0, 1) := by decide +kernel
theorem dX11_takesRun_190 : decode cX11_takesRun 190 = .ok (.getfield 47, 3) := by decide +kernel
theorem dX11_takesRun_193 : decode cX11_takesRun 193 = .ok (.aload_n 0, 1) := by decide +kernel
theorem dX11_takesRun_194 : decode cX11_takesRun 194 = .ok (.getfield 131, 3) := by decide +kernel
theorem dX11_takesRun_197 : decode cX11_takesRun 197 = .ok (.iload_n 3, 1) := by decide +kernel
theorem dX11_takesRun_198 : decode cX11_takesRun 198 = .ok (.iastore, 1) := by decide +kernel
theorem dX11_takesRun_199 : decode cX11_takesRun 199 = .ok (.aload_n 0, 1) := by decide +kernel
theorem dX11_takesRun_200 : decode cX11_takesRun 200 = .ok (.getfield 50, 3) := by decide +kernel
theorem dX11_takesRun_203 : decode cX11_takesRun 203 = .ok (.aload_n 0, 1) := by decide +kernel
theorem dX11_takesRun_204 : decode cX11_takesRun 204 = .ok (.getfield 131, 3) := by decide +kernel
theorem dX11_takesRun_207 : decode cX11_takesRun 207 = .ok (.iload 4, 2) := by decide +kernel
theorem dX11_takesRun_209 : decode cX11_takesRun 209 = .ok (.iastore, 1) := by decide +kernel
theorem dX11_takesRun_210 : decode cX11_takesRun 210 = .ok (.aload_n 0, 1) := by decide +kernel
theorem dX11_takesRun_211 : decode cX11_takesRun 211 = .ok (.getfield 53, 3) := by decide +kernel
theorem dX11_takesRun_214 : decode cX11_takesRun 214 = .ok (.aload_n 0, 1) := by decide +kernel
theorem dX11_takesRun_215 : decode cX11_takesRun 215 = .ok (.getfield 131, 3) := by decide +kernel
theorem dX11_takesRun_218 : decode cX11_takesRun 218 = .ok (.iload 5, 2) := by decide +kernel
theorem dX11_takesRun_220 : decode cX11_takesRun 220 = .ok (.iastore, 1) := by decide +kernel
theorem dX11_takesRun_221 : decode cX11_takesRun 221 = .ok (.aload_n 0, 1) := by decide +kernel
theorem dX11_takesRun_222 : decode cX11_takesRun 222 = .ok (.getfield 56, 3) := by decide +kernel
theorem dX11_takesRun_225 : decode cX11_takesRun 225 = .ok (.aload_n 0, 1) := by decide +kernel
theorem dX11_takesRun_226 : decode cX11_takesRun 226 = .ok (.getfield 131, 3) := by decide +kernel
theorem dX11_takesRun_229 : decode cX11_takesRun 229 = .ok (.iload 6, 2) := by decide +kernel
theorem dX11_takesRun_231 : decode cX11_takesRun 231 = .ok (.iastore, 1) := by decide +kernel
theorem dX11_takesRun_232 : decode cX11_takesRun 232 = .ok (.aload_n 0, 1) := by decide +kernel
theorem dX11_takesRun_233 : decode cX11_takesRun 233 = .ok (.dup, 1) := by decide +kernel
theorem dX11_takesRun_234 : decode cX11_takesRun 234 = .ok (.getfield 131, 3) := by decide +kernel
theorem dX11_takesRun_237 : decode cX11_takesRun 237 = .ok (.iconst 1, 1) := by decide +kernel
theorem dX11_takesRun_238 : decode cX11_takesRun 238 = .ok (.iadd, 1) := by decide +kernel
theorem dX11_takesRun_239 : decode cX11_takesRun 239 = .ok (.putfield 131, 3) := by decide +kernel
theorem dX11_takesRun_242 : decode cX11_takesRun 242 = .ok (.return_, 1) := by decide +kernel
set_option maxRecDepth 20000 in
theorem ggX11_reads_X11_next : GoodIn wsX11_reads wsX11_next := goodIn_r _ [9, 1, 10, 11, 12, 4, 13, 14, 15, 8, 16, 17, 18, 19, 20, 21, 22, 57, 58, 59, 60, 61, 62, 63, 64, 65, 66, 67, 68, 69, 70, 71, 72, 73, 74, 75, 76, 77, 78, 79, 80, 81, 82, 83] (by decide +kernel) (by decide +kernel)
set_option maxRecDepth 20000 in
theorem gX11_reads_X11_next : GoodIn wsX11_reads (wsV RX11 113 RX11 yX11_next wsX11_next) := goodIn_app (goodIn_of _ (by decide +kernel)) ggX11_reads_X11_next
set_option maxRecDepth 20000 in
theorem ggX11_reads_X11_takesRun : GoodIn wsX11_reads wsX11_takesRun := goodIn_r _ [26, 2, 4, 27, 3, 28, 29, 30, 31, 32, 33, 34, 35, 8, 36, 37, 38, 39, 40, 1, 12, 41, 42, 43, 44, 11, 45, 46, 47, 48, 5, 6, 7, 9, 10, 13, 14, 15, 16, 17, 18, 19, 20, 21, 22, 49, 50, 51, 52, 53, 54, 55, 56, 57, 58, 59, 60, 61, 62, 63, 64, 65, 66, 67, 68, 69, 70, 71, 72, 73, 74, 75, 76, 77, 78, 79, 80, 81, 82, 83] (by decide +kernel) (by decide +kernel)
set_option maxRecDepth 20000 in
theorem gX11_reads_X11_takesRun : GoodIn wsX11_reads (wsV RX11 134 RX11 yX11_takesRun wsX11_takesRun) := goodIn_app (goodIn_of _ (by decide +kernel)) ggX11_reads_X11_takesRun
theorem dX11_reads_0 : decode cX11_reads 0 = .ok (.aload_n 0, 1) := by decide +kernel
theorem dX11_reads_1 : decode cX11_reads 1 = .ok (.iconst 0, 1) := by decide +kernel
theorem dX11_reads_2 : decode cX11_reads 2 = .ok (.putfield 85, 3) := by decide +kernel
theorem dX11_reads_5 : decode cX11_reads 5 = .ok (.aload_n 0, 1) := by decide +kernel
theorem dX11_reads_6 : decode cX11_reads 6 = .ok (.iconst (-1), 1) := by decide +kernel
theorem dX11_reads_7 : decode cX11_reads 7 = .ok (.putfield 104, 3) := by decide +kernel
theorem dX11_reads_10 : decode cX11_reads 10 = .ok (.aload_n 0, 1) := by decide +kernel
theorem dX11_reads_11 : decode cX11_reads 11 = .ok (.iconst 0, 1) := by decide +kernel
theorem dX11_reads_12 : decode cX11_reads 12 = .ok (.putfield 131, 3) := by decide +kernel
theorem dX11_reads_15 : decode cX11_reads 15 = .ok (.aload_n 0, 1) := by decide +kernel
theorem dX11_reads_16 : decode cX11_reads 16 = .ok (.invokevirtual 113, 3) := by decide +kernel
theorem dX11_reads_19 : decode cX11_reads 19 = .ok (.aload_n 0, 1) := by decide +kernel
theorem dX11_reads_20 : decode cX11_reads 20 = .ok (.getfield 104, 3) := by decide +kernel
theorem dX11_reads_23 : decode cX11_reads 23 = .ok (.iconst (-1), 1) := by decide +kernel
theorem dX11_reads_24 : decode cX11_reads 24 = .ok (.if_icmp .ne 19, 3) := by decide +kernel
theorem dX11_reads_27 : decode cX11_reads 27 = .ok (.aload_n 0, 1) := by decide +kernel
theorem dX11_reads_28 : decode cX11_reads 28 = .ok (.getfield 91, 3) := by decide +kernel
theorem dX11_reads_31 : decode cX11_reads 31 = .ok (.bipush 6, 2) := by decide +kernel
theorem dX11_reads_33 : decode cX11_reads 33 = .ok (.if_icmp .eq 10, 3) := by decide +kernel
theorem dX11_reads_36 : decode cX11_reads 36 = .ok (.aload_n 0, 1) := by decide +kernel
theorem dX11_reads_37 : decode cX11_reads 37 = .ok (.invokevirtual 134, 3) := by decide +kernel
theorem dX11_reads_40 : decode cX11_reads 40 = .ok (.goto (-21), 3) := by decide +kernel
theorem dX11_reads_43 : decode cX11_reads 43 = .ok (.aload_n 0, 1) := by decide +kernel
theorem dX11_reads_44 : decode cX11_reads 44 = .ok (.getfield 104, 3) := by decide +kernel
theorem dX11_reads_47 : decode cX11_reads 47 = .ok (.ireturn, 1) := by decide +kernel
set_option maxRecDepth 20000 in
theorem ggX11_fault_X11_reads : GoodIn wsX11_fault wsX11_reads := goodIn_r _ [5, 6, 7, 8, 9, 10, 11, 12, 4, 13, 14, 15, 16, 17, 18, 19, 20, 21, 22, 23, 24, 25, 26, 27, 28, 29, 30, 31, 32, 33, 34, 35, 36, 37, 38, 39, 40, 41, 42, 43, 44, 45, 46, 47, 48, 49, 50, 51, 52, 53, 54, 55, 56, 57, 58, 59, 60, 66, 67, 68, 69, 70, 71, 72, 73, 74, 75, 76, 77, 78, 79, 80, 81, 82, 83, 84, 85, 86, 87, 88, 89, 90, 91, 92] (by decide +kernel) (by decide +kernel)
set_option maxRecDepth 20000 in
theorem gX11_fault_X11_reads : GoodIn wsX11_fault (wsV RX11 137 RX11 yX11_reads wsX11_reads) := goodIn_app (goodIn_of _ (by decide +kernel)) ggX11_fault_X11_reads
set_option maxRecDepth 20000 in
theorem ggX11_fault_X11_told : GoodIn wsX11_fault wsX11_told := goodIn_r _ [64, 65, 66, 67, 68, 69, 70, 71, 72, 73, 74, 75, 76, 77, 78, 79, 80, 81, 82, 83, 84, 85, 86, 87, 88, 89, 90, 91, 92] (by decide +kernel) (by decide +kernel)
set_option maxRecDepth 20000 in
theorem gX11_fault_X11_told : GoodIn wsX11_fault (wsV RX11 82 RX11 yX11_told wsX11_told) := goodIn_app (goodIn_of _ (by decide +kernel)) ggX11_fault_X11_told
theorem dX11_fault_0 : decode cX11_fault 0 = .ok (.aload_n 0, 1) := by decide +kernel
theorem dX11_fault_1 : decode cX11_fault 1 = .ok (.aload_n 0, 1) := by decide +kernel
theorem dX11_fault_2 : decode cX11_fault 2 = .ok (.invokevirtual 137, 3) := by decide +kernel
theorem dX11_fault_5 : decode cX11_fault 5 = .ok (.invokevirtual 82, 3) := by decide +kernel
theorem dX11_fault_8 : decode cX11_fault 8 = .ok (.ireturn, 1) := by decide +kernel
theorem dX11_makes_0 : decode cX11_makes 0 = .ok (.aload_n 0, 1) := by decide +kernel
theorem dX11_makes_1 : decode cX11_makes 1 = .ok (.getfield 7, 3) := by decide +kernel
theorem dX11_makes_4 : decode cX11_makes 4 = .ok (.aload_n 0, 1) := by decide +kernel
theorem dX11_makes_5 : decode cX11_makes 5 = .ok (.getfield 140, 3) := by decide +kernel
theorem dX11_makes_8 : decode cX11_makes 8 = .ok (.iload_n 1, 1) := by decide +kernel
theorem dX11_makes_9 : decode cX11_makes 9 = .ok (.iastore, 1) := by decide +kernel
theorem dX11_makes_10 : decode cX11_makes 10 = .ok (.aload_n 0, 1) := by decide +kernel
theorem dX11_makes_11 : decode cX11_makes 11 = .ok (.getfield 13, 3) := by decide +kernel
theorem dX11_makes_14 : decode cX11_makes 14 = .ok (.aload_n 0, 1) := by decide +kernel
theorem dX11_makes_15 : decode cX11_makes 15 = .ok (.getfield 140, 3) := by decide +kernel
theorem dX11_makes_18 : decode cX11_makes 18 = .ok (.iload_n 2, 1) := by decide +kernel
theorem dX11_makes_19 : decode cX11_makes 19 = .ok (.iastore, 1) := by decide +kernel
theorem dX11_makes_20 : decode cX11_makes 20 = .ok (.aload_n 0, 1) := by decide +kernel
theorem dX11_makes_21 : decode cX11_makes 21 = .ok (.dup, 1) := by decide +kernel
theorem dX11_makes_22 : decode cX11_makes 22 = .ok (.getfield 140, 3) := by decide +kernel
theorem dX11_makes_25 : decode cX11_makes 25 = .ok (.iconst 1, 1) := by decide +kernel
theorem dX11_makes_26 : decode cX11_makes 26 = .ok (.iadd, 1) := by decide +kernel
theorem dX11_makes_27 : decode cX11_makes 27 = .ok (.putfield 140, 3) := by decide +kernel
theorem dX11_makes_30 : decode cX11_makes 30 = .ok (.aload_n 0, 1) := by decide +kernel
theorem dX11_makes_31 : decode cX11_makes 31 = .ok (.getfield 140, 3) := by decide +kernel
theorem dX11_makes_34 : decode cX11_makes 34 = .ok (.iconst 1, 1) := by decide +kernel
theorem dX11_makes_35 : decode cX11_makes 35 = .ok (.isub, 1) := by decide +kernel
theorem dX11_makes_36 : decode cX11_makes 36 = .ok (.ireturn, 1) := by decide +kernel
theorem dX11_draws_0 : decode cX11_draws 0 = .ok (.aload_n 0, 1) := by decide +kernel
theorem dX11_draws_1 : decode cX11_draws 1 = .ok (.aload_n 0, 1) := by decide +kernel
theorem dX11_draws_2 : decode cX11_draws 2 = .ok (.getfield 31, 3) := by decide +kernel
theorem dX11_draws_5 : decode cX11_draws 5 = .ok (.ldc 143, 2) := by decide +kernel
theorem dX11_draws_7 : decode cX11_draws 7 = .ok (.imul, 1) := by decide +kernel
theorem dX11_draws_8 : decode cX11_draws 8 = .ok (.sipush 12345, 3) := by decide +kernel
theorem dX11_draws_11 : decode cX11_draws 11 = .ok (.iadd, 1) := by decide +kernel
theorem dX11_draws_12 : decode cX11_draws 12 = .ok (.putfield 31, 3) := by decide +kernel
theorem dX11_draws_15 : decode cX11_draws 15 = .ok (.aload_n 0, 1) := by decide +kernel
theorem dX11_draws_16 : decode cX11_draws 16 = .ok (.getfield 31, 3) := by decide +kernel
theorem dX11_draws_19 : decode cX11_draws 19 = .ok (.bipush 16, 2) := by decide +kernel
theorem dX11_draws_21 : decode cX11_draws 21 = .ok (.iushr, 1) := by decide +kernel
theorem dX11_draws_22 : decode cX11_draws 22 = .ok (.iload_n 1, 1) := by decide +kernel
theorem dX11_draws_23 : decode cX11_draws 23 = .ok (.irem, 1) := by decide +kernel
theorem dX11_draws_24 : decode cX11_draws 24 = .ok (.ireturn, 1) := by decide +kernel
set_option maxRecDepth 20000 in
theorem ggX11_firstOf_X11_draws : GoodIn wsX11_firstOf wsX11_draws := goodIn_r _ [9, 10, 11, 12, 13, 14, 15, 16, 17, 18, 19, 20, 21, 22, 23, 24, 25, 26, 27, 28, 29, 30, 31, 32, 33, 34, 35, 36, 37, 38] (by decide +kernel) (by decide +kernel)
set_option maxRecDepth 20000 in
theorem gX11_firstOf_X11_draws : GoodIn wsX11_firstOf (wsV RX11 144 RX11 yX11_draws wsX11_draws) := goodIn_app (goodIn_of _ (by decide +kernel)) ggX11_firstOf_X11_draws
theorem dX11_firstOf_0 : decode cX11_firstOf 0 = .ok (.aload_n 0, 1) := by decide +kernel
theorem dX11_firstOf_1 : decode cX11_firstOf 1 = .ok (.getfield 47, 3) := by decide +kernel
theorem dX11_firstOf_4 : decode cX11_firstOf 4 = .ok (.iload_n 1, 1) := by decide +kernel
theorem dX11_firstOf_5 : decode cX11_firstOf 5 = .ok (.iaload, 1) := by decide +kernel
theorem dX11_firstOf_6 : decode cX11_firstOf 6 = .ok (.istore_n 3, 1) := by decide +kernel
theorem dX11_firstOf_7 : decode cX11_firstOf 7 = .ok (.aload_n 0, 1) := by decide +kernel
theorem dX11_firstOf_8 : decode cX11_firstOf 8 = .ok (.getfield 50, 3) := by decide +kernel
theorem dX11_firstOf_11 : decode cX11_firstOf 11 = .ok (.iload_n 1, 1) := by decide +kernel
theorem dX11_firstOf_12 : decode cX11_firstOf 12 = .ok (.iaload, 1) := by decide +kernel
theorem dX11_firstOf_13 : decode cX11_firstOf 13 = .ok (.istore 4, 2) := by decide +kernel
theorem dX11_firstOf_15 : decode cX11_firstOf 15 = .ok (.aload_n 0, 1) := by decide +kernel
theorem dX11_firstOf_16 : decode cX11_firstOf 16 = .ok (.getfield 41, 3) := by decide +kernel
theorem dX11_firstOf_19 : decode cX11_firstOf 19 = .ok (.iload_n 1, 1) := by decide +kernel
theorem dX11_firstOf_20 : decode cX11_firstOf 20 = .ok (.iaload, 1) := by decide +kernel
theorem dX11_firstOf_21 : decode cX11_firstOf 21 = .ok (.tableswitch 89 1 5 #[35, 42, 49, 64, 75], 35) := by decide +kernel
theorem dX11_firstOf_56 : decode cX11_firstOf 56 = .ok (.iload_n 3, 1) := by decide +kernel
theorem dX11_firstOf_57 : decode cX11_firstOf 57 = .ok (.iload_n 2, 1) := by decide +kernel
theorem dX11_firstOf_58 : decode cX11_firstOf 58 = .ok (.iload 4, 2) := by decide +kernel
theorem dX11_firstOf_60 : decode cX11_firstOf 60 = .ok (.imul, 1) := by decide +kernel
theorem dX11_firstOf_61 : decode cX11_firstOf 61 = .ok (.iadd, 1) := by decide +kernel
theorem dX11_firstOf_62 : decode cX11_firstOf 62 = .ok (.ireturn, 1) := by decide +kernel
theorem dX11_firstOf_63 : decode cX11_firstOf 63 = .ok (.iload_n 3, 1) := by decide +kernel
theorem dX11_firstOf_64 : decode cX11_firstOf 64 = .ok (.iload_n 2, 1) := by decide +kernel
theorem dX11_firstOf_65 : decode cX11_firstOf 65 = .ok (.iload 4, 2) := by decide +kernel
theorem dX11_firstOf_67 : decode cX11_firstOf 67 = .ok (.imul, 1) := by decide +kernel
theorem dX11_firstOf_68 : decode cX11_firstOf 68 = .ok (.isub, 1) := by decide +kernel
theorem dX11_firstOf_69 : decode cX11_firstOf 69 = .ok (.ireturn, 1) := by decide +kernel
theorem dX11_firstOf_70 : decode cX11_firstOf 70 = .ok (.iload_n 2, 1) := by decide +kernel
theorem dX11_firstOf_71 : decode cX11_firstOf 71 = .ok (.iconst 2, 1) := by decide +kernel
theorem dX11_firstOf_72 : decode cX11_firstOf 72 = .ok (.irem, 1) := by decide +kernel
theorem dX11_firstOf_73 : decode cX11_firstOf 73 = .ok (.ifCond .ne 7, 3) := by decide +kernel
theorem dX11_firstOf_76 : decode cX11_firstOf 76 = .ok (.iload_n 3, 1) := by decide +kernel
theorem dX11_firstOf_77 : decode cX11_firstOf 77 = .ok (.goto 7, 3) := by decide +kernel
theorem dX11_firstOf_80 : decode cX11_firstOf 80 = .ok (.iload_n 3, 1) := by decide +kernel
theorem dX11_firstOf_81 : decode cX11_firstOf 81 = .ok (.iload 4, 2) := by decide +kernel
theorem dX11_firstOf_83 : decode cX11_firstOf 83 = .ok (.iadd, 1) := by decide +kernel
theorem dX11_firstOf_84 : decode cX11_firstOf 84 = .ok (.ireturn, 1) := by decide +kernel
theorem dX11_firstOf_85 : decode cX11_firstOf 85 = .ok (.iload_n 3, 1) := by decide +kernel
theorem dX11_firstOf_86 : decode cX11_firstOf 86 = .ok (.aload_n 0, 1) := by decide +kernel
theorem dX11_firstOf_87 : decode cX11_firstOf 87 = .ok (.iload 4, 2) := by decide +kernel
theorem dX11_firstOf_89 : decode cX11_firstOf 89 = .ok (.iconst 1, 1) := by decide +kernel
theorem dX11_firstOf_90 : decode cX11_firstOf 90 = .ok (.iadd, 1) := by decide +kernel
theorem dX11_firstOf_91 : decode cX11_firstOf 91 = .ok (.invokevirtual 144, 3) := by decide +kernel
theorem dX11_firstOf_94 : decode cX11_firstOf 94 = .ok (.iadd, 1) := by decide +kernel
theorem dX11_firstOf_95 : decode cX11_firstOf 95 = .ok (.ireturn, 1) := by decide +kernel
theorem dX11_firstOf_96 : decode cX11_firstOf 96 = .ok (.iload_n 3, 1) := by decide +kernel
theorem dX11_firstOf_97 : decode cX11_firstOf 97 = .ok (.iload 4, 2) := by decide +kernel
theorem dX11_firstOf_99 : decode cX11_firstOf 99 = .ok (.iload_n 2, 1) := by decide +kernel
theorem dX11_firstOf_100 : decode cX11_firstOf 100 = .ok (.aload_n 0, 1) := by decide +kernel
theorem dX11_firstOf_101 : decode cX11_firstOf 101 = .ok (.getfield 53, 3) := by decide +kernel
theorem dX11_firstOf_104 : decode cX11_firstOf 104 = .ok (.iload_n 1, 1) := by decide +kernel
theorem dX11_firstOf_105 : decode cX11_firstOf 105 = .ok (.iaload, 1) := by decide +kernel
theorem dX11_firstOf_106 : decode cX11_firstOf 106 = .ok (.irem, 1) := by decide +kernel
theorem dX11_firstOf_107 : decode cX11_firstOf 107 = .ok (.imul, 1) := by decide +kernel
theorem dX11_firstOf_108 : decode cX11_firstOf 108 = .ok (.iadd, 1) := by decide +kernel
theorem dX11_firstOf_109 : decode cX11_firstOf 109 = .ok (.ireturn, 1) := by decide +kernel
theorem dX11_firstOf_110 : decode cX11_firstOf 110 = .ok (.iload_n 3, 1) := by decide +kernel
theorem dX11_firstOf_111 : decode cX11_firstOf 111 = .ok (.ireturn, 1) := by decide +kernel
set_option maxRecDepth 20000 in
theorem ggX11_lay_X11_isRow : GoodIn wsX11_lay wsX11_isRow := goodIn_r _ [10, 11, 12, 9, 13] (by decide +kernel) (by decide +kernel)
set_option maxRecDepth 20000 in
theorem gX11_lay_X11_isRow : GoodIn wsX11_lay (va_wsS RX11 147 yX11_isRow wsX11_isRow) := goodIn_app (goodIn_of _ (by decide +kernel)) ggX11_lay_X11_isRow
set_option maxRecDepth 20000 in
theorem ggX11_lay_X11_refuse : GoodIn wsX11_lay wsX11_refuse := goodIn_r _ [17, 18, 92, 93, 94, 95, 96, 97, 98, 99, 100, 101, 102, 103, 104, 105, 106, 107, 108, 109, 110, 111, 112, 113, 114, 115, 116, 117, 118] (by decide +kernel) (by decide +kernel)
set_option maxRecDepth 20000 in
theorem gX11_lay_X11_refuse : GoodIn wsX11_lay (wsV RX11 78 RX11 yX11_refuse wsX11_refuse) := goodIn_app (goodIn_of _ (by decide +kernel)) ggX11_lay_X11_refuse
set_option maxRecDepth 20000 in
theorem ggX11_lay_X11_reads : GoodIn wsX11_lay wsX11_reads := goodIn_r _ [22, 23, 24, 1, 25, 26, 27, 28, 9, 29, 30, 31, 32, 33, 34, 35, 36, 11, 12, 13, 37, 38, 39, 40, 41, 42, 43, 44, 2, 45, 46, 47, 6, 48, 49, 50, 51, 52, 53, 54, 55, 56, 57, 58, 59, 60, 61, 62, 63, 64, 65, 66, 67, 68, 69, 70, 71, 92, 93, 94, 95, 96, 97, 98, 99, 100, 101, 102, 103, 104, 105, 106, 107, 108, 109, 110, 111, 112, 113, 114, 115, 116, 117, 118] (by decide +kernel) (by decide +kernel)
set_option maxRecDepth 20000 in
theorem gX11_lay_X11_reads : GoodIn wsX11_lay (wsV RX11 137 RX11 yX11_reads wsX11_reads) := goodIn_app (goodIn_of _ (by decide +kernel)) ggX11_lay_X11_reads
set_option maxRecDepth 20000 in
theorem ggX11_lay_X11_firstOf : GoodIn wsX11_lay wsX11_firstOf := goodIn_r _ [75, 45, 46, 44, 47, 76, 77, 78, 9, 79, 80, 81, 92, 93, 94, 95, 96, 97, 98, 99, 100, 101, 102, 103, 104, 105, 106, 107, 108, 109, 110, 111, 112, 113, 114, 115, 116, 117, 118] (by decide +kernel) (by decide +kernel)
set_option maxRecDepth 20000 in
theorem gX11_lay_X11_firstOf : GoodIn wsX11_lay (wsV RX11 150 RX11 yX11_firstOf wsX11_firstOf) := goodIn_app (goodIn_of _ (by decide +kernel)) ggX11_lay_X11_firstOf
set_option maxRecDepth 20000 in
theorem ggX11_lay_X11_makes : GoodIn wsX11_lay wsX11_makes := goodIn_r _ [85, 86, 4, 87, 92, 93, 94, 95, 96, 97, 98, 99, 100, 101, 102, 103, 104, 105, 106, 107, 108, 109, 110, 111, 112, 113, 114, 115, 116, 117, 118] (by decide +kernel) (by decide +kernel)
set_option maxRecDepth 20000 in
theorem gX11_lay_X11_makes : GoodIn wsX11_lay (wsV RX11 153 RX11 yX11_makes wsX11_makes) := goodIn_app (goodIn_of _ (by decide +kernel)) ggX11_lay_X11_makes
set_option maxRecDepth 20000 in
theorem ggX11_lay_X11_told : GoodIn wsX11_lay wsX11_told := goodIn_r _ [91, 18, 92, 93, 94, 95, 96, 97, 98, 99, 100, 101, 102, 103, 104, 105, 106, 107, 108, 109, 110, 111, 112, 113, 114, 115, 116, 117, 118] (by decide +kernel) (by decide +kernel)
set_option maxRecDepth 20000 in
theorem gX11_lay_X11_told : GoodIn wsX11_lay (wsV RX11 82 RX11 yX11_told wsX11_told) := goodIn_app (goodIn_of _ (by decide +kernel)) ggX11_lay_X11_told
theorem dX11_lay_0 : decode cX11_lay 0 = .ok (.iload_n 1, 1) := by decide +kernel
theorem dX11_lay_1 : decode cX11_lay 1 = .ok (.invokestatic 147, 3) := by decide +kernel
theorem dX11_lay_4 : decode cX11_lay 4 = .ok (.ifCond .ne 9, 3) := by decide +kernel
theorem dX11_lay_7 : decode cX11_lay 7 = .ok (.aload_n 0, 1) := by decide +kernel
theorem dX11_lay_8 : decode cX11_lay 8 = .ok (.iconst 1, 1) := by decide +kernel
theorem dX11_lay_9 : decode cX11_lay 9 = .ok (.invokevirtual 78, 3) := by decide +kernel
theorem dX11_lay_12 : decode cX11_lay 12 = .ok (.ireturn, 1) := by decide +kernel
theorem dX11_lay_13 : decode cX11_lay 13 = .ok (.aload_n 0, 1) := by decide +kernel
theorem dX11_lay_14 : decode cX11_lay 14 = .ok (.invokevirtual 137, 3) := by decide +kernel
theorem dX11_lay_17 : decode cX11_lay 17 = .ok (.iconst (-1), 1) := by decide +kernel
theorem dX11_lay_18 : decode cX11_lay 18 = .ok (.if_icmp .ne 7, 3) := by decide +kernel
theorem dX11_lay_21 : decode cX11_lay 21 = .ok (.iconst 1, 1) := by decide +kernel
theorem dX11_lay_22 : decode cX11_lay 22 = .ok (.goto 4, 3) := by decide +kernel
theorem dX11_lay_25 : decode cX11_lay 25 = .ok (.iconst 0, 1) := by decide +kernel
theorem dX11_lay_26 : decode cX11_lay 26 = .ok (.istore_n 2, 1) := by decide +kernel
theorem dX11_lay_27 : decode cX11_lay 27 = .ok (.iconst 0, 1) := by decide +kernel
theorem dX11_lay_28 : decode cX11_lay 28 = .ok (.istore_n 3, 1) := by decide +kernel
theorem dX11_lay_29 : decode cX11_lay 29 = .ok (.iconst 0, 1) := by decide +kernel
theorem dX11_lay_30 : decode cX11_lay 30 = .ok (.istore 4, 2) := by decide +kernel
theorem dX11_lay_32 : decode cX11_lay 32 = .ok (.iload 4, 2) := by decide +kernel
theorem dX11_lay_34 : decode cX11_lay 34 = .ok (.aload_n 0, 1) := by decide +kernel
theorem dX11_lay_35 : decode cX11_lay 35 = .ok (.getfield 131, 3) := by decide +kernel
theorem dX11_lay_38 : decode cX11_lay 38 = .ok (.if_icmp .ge 19, 3) := by decide +kernel
theorem dX11_lay_41 : decode cX11_lay 41 = .ok (.iload_n 3, 1) := by decide +kernel
theorem dX11_lay_42 : decode cX11_lay 42 = .ok (.aload_n 0, 1) := by decide +kernel
theorem dX11_lay_43 : decode cX11_lay 43 = .ok (.getfield 44, 3) := by decide +kernel
theorem dX11_lay_46 : decode cX11_lay 46 = .ok (.iload 4, 2) := by decide +kernel
theorem dX11_lay_48 : decode cX11_lay 48 = .ok (.iaload, 1) := by decide +kernel
theorem dX11_lay_49 : decode cX11_lay 49 = .ok (.iadd, 1) := by decide +kernel
theorem dX11_lay_50 : decode cX11_lay 50 = .ok (.istore_n 3, 1) := by decide +kernel
theorem dX11_lay_51 : decode cX11_lay 51 = .ok (.iinc 4 1, 3) := by decide +kernel
theorem dX11_lay_54 : decode cX11_lay 54 = .ok (.goto (-22), 3) := by decide +kernel
theorem dX11_lay_57 : decode cX11_lay 57 = .ok (.iload_n 2, 1) := by decide +kernel
theorem dX11_lay_58 : decode cX11_lay 58 = .ok (.ifCond .eq 29, 3) := by decide +kernel
theorem dX11_lay_61 : decode cX11_lay 61 = .ok (.aload_n 0, 1) := by decide +kernel
theorem dX11_lay_62 : decode cX11_lay 62 = .ok (.getfield 22, 3) := by decide +kernel
theorem dX11_lay_65 : decode cX11_lay 65 = .ok (.iload_n 1, 1) := by decide +kernel
theorem dX11_lay_66 : decode cX11_lay 66 = .ok (.iaload, 1) := by decide +kernel
theorem dX11_lay_67 : decode cX11_lay 67 = .ok (.iload_n 3, 1) := by decide +kernel
theorem dX11_lay_68 : decode cX11_lay 68 = .ok (.iadd, 1) := by decide +kernel
theorem dX11_lay_69 : decode cX11_lay 69 = .ok (.sipush 800, 3) := by decide +kernel
theorem dX11_lay_72 : decode cX11_lay 72 = .ok (.if_icmp .gt 15, 3) := by decide +kernel
theorem dX11_lay_75 : decode cX11_lay 75 = .ok (.aload_n 0, 1) := by decide +kernel
theorem dX11_lay_76 : decode cX11_lay 76 = .ok (.getfield 140, 3) := by decide +kernel
theorem dX11_lay_79 : decode cX11_lay 79 = .ok (.iload_n 3, 1) := by decide +kernel
theorem dX11_lay_80 : decode cX11_lay 80 = .ok (.iadd, 1) := by decide +kernel
theorem dX11_lay_81 : decode cX11_lay 81 = .ok (.sipush 20000, 3) := by decide +kernel
theorem dX11_lay_84 : decode cX11_lay 84 = .ok (.if_icmp .le 9, 3) := by decide +kernel
theorem dX11_lay_87 : decode cX11_lay 87 = .ok (.aload_n 0, 1) := by decide +kernel
theorem dX11_lay_88 : decode cX11_lay 88 = .ok (.iconst 2, 1) := by decide +kernel
theorem dX11_lay_89 : decode cX11_lay 89 = .ok (.invokevirtual 78, 3) := by decide +kernel
theorem dX11_lay_92 : decode cX11_lay 92 = .ok (.ireturn, 1) := by decide +kernel
theorem dX11_lay_93 : decode cX11_lay 93 = .ok (.iconst 0, 1) := by decide +kernel
theorem dX11_lay_94 : decode cX11_lay 94 = .ok (.istore 4, 2) := by decide +kernel
theorem dX11_lay_96 : decode cX11_lay 96 = .ok (.iload 4, 2) := by decide +kernel
theorem dX11_lay_98 : decode cX11_lay 98 = .ok (.aload_n 0, 1) := by decide +kernel
theorem dX11_lay_99 : decode cX11_lay 99 = .ok (.getfield 131, 3) := by decide +kernel
theorem dX11_lay_102 : decode cX11_lay 102 = .ok (.if_icmp .ge 79, 3) := by decide +kernel
theorem dX11_lay_105 : decode cX11_lay 105 = .ok (.iconst 0, 1) := by decide +kernel
theorem dX11_lay_106 : decode cX11_lay 106 = .ok (.istore 5, 2) := by decide +kernel
theorem dX11_lay_108 : decode cX11_lay 108 = .ok (.iload 5, 2) := by decide +kernel
theorem dX11_lay_110 : decode cX11_lay 110 = .ok (.aload_n 0, 1) := by decide +kernel
theorem dX11_lay_111 : decode cX11_lay 111 = .ok (.getfield 44, 3) := by decide +kernel
theorem dX11_lay_114 : decode cX11_lay 114 = .ok (.iload 4, 2) := by decide +kernel
theorem dX11_lay_116 : decode cX11_lay 116 = .ok (.iaload, 1) := by decide +kernel
theorem dX11_lay_117 : decode cX11_lay 117 = .ok (.if_icmp .ge 58, 3) := by decide +kernel
theorem dX11_lay_120 : decode cX11_lay 120 = .ok (.aload_n 0, 1) := by decide +kernel
theorem dX11_lay_121 : decode cX11_lay 121 = .ok (.getfield 16, 3) := by decide +kernel
theorem dX11_lay_124 : decode cX11_lay 124 = .ok (.sipush 800, 3) := by decide +kernel
theorem dX11_lay_127 : decode cX11_lay 127 = .ok (.iload_n 1, 1) := by decide +kernel
theorem dX11_lay_128 : decode cX11_lay 128 = .ok (.imul, 1) := by decide +kernel
theorem dX11_lay_129 : decode cX11_lay 129 = .ok (.aload_n 0, 1) := by decide +kernel
theorem dX11_lay_130 : decode cX11_lay 130 = .ok (.getfield 22, 3) := by decide +kernel
theorem dX11_lay_133 : decode cX11_lay 133 = .ok (.iload_n 1, 1) := by decide +kernel
theorem dX11_lay_134 : decode cX11_lay 134 = .ok (.iaload, 1) := by decide +kernel
theorem dX11_lay_135 : decode cX11_lay 135 = .ok (.iadd, 1) := by decide +kernel
theorem dX11_lay_136 : decode cX11_lay 136 = .ok (.aload_n 0, 1) := by decide +kernel
theorem dX11_lay_137 : decode cX11_lay 137 = .ok (.aload_n 0, 1) := by decide +kernel
theorem dX11_lay_138 : decode cX11_lay 138 = .ok (.iload 4, 2) := by decide +kernel
theorem dX11_lay_140 : decode cX11_lay 140 = .ok (.iload 5, 2) := by decide +kernel
theorem dX11_lay_142 : decode cX11_lay 142 = .ok (.invokevirtual 150, 3) := by decide +kernel
theorem dX11_lay_145 : decode cX11_lay 145 = .ok (.iload 5, 2) := by decide +kernel
theorem dX11_lay_147 : decode cX11_lay 147 = .ok (.aload_n 0, 1) := by decide +kernel
theorem dX11_lay_148 : decode cX11_lay 148 = .ok (.getfield 56, 3) := by decide +kernel
theorem dX11_lay_151 : decode cX11_lay 151 = .ok (.iload 4, 2) := by decide +kernel
theorem dX11_lay_153 : decode cX11_lay 153 = .ok (.iaload, 1) := by decide +kernel
theorem dX11_lay_154 : decode cX11_lay 154 = .ok (.irem, 1) := by decide +kernel
theorem dX11_lay_155 : decode cX11_lay 155 = .ok (.invokevirtual 153, 3) := by decide +kernel
theorem dX11_lay_158 : decode cX11_lay 158 = .ok (.iastore, 1) := by decide +kernel
theorem dX11_lay_159 : decode cX11_lay 159 = .ok (.aload_n 0, 1) := by decide +kernel
theorem dX11_lay_160 : decode cX11_lay 160 = .ok (.getfield 22, 3) := by decide +kernel
theorem dX11_lay_163 : decode cX11_lay 163 = .ok (.iload_n 1, 1) := by decide +kernel
theorem dX11_lay_164 : decode cX11_lay 164 = .ok (.dup2, 1) := by decide +kernel
theorem dX11_lay_165 : decode cX11_lay 165 = .ok (.iaload, 1) := by decide +kernel
theorem dX11_lay_166 : decode cX11_lay 166 = .ok (.iconst 1, 1) := by decide +kernel
theorem dX11_lay_167 : decode cX11_lay 167 = .ok (.iadd, 1) := by decide +kernel
theorem dX11_lay_168 : decode cX11_lay 168 = .ok (.iastore, 1) := by decide +kernel
theorem dX11_lay_169 : decode cX11_lay 169 = .ok (.iinc 5 1, 3) := by decide +kernel
theorem dX11_lay_172 : decode cX11_lay 172 = .ok (.goto (-64), 3) := by decide +kernel
theorem dX11_lay_175 : decode cX11_lay 175 = .ok (.iinc 4 1, 3) := by decide +kernel
theorem dX11_lay_178 : decode cX11_lay 178 = .ok (.goto (-82), 3) := by decide +kernel
theorem dX11_lay_181 : decode cX11_lay 181 = .ok (.aload_n 0, 1) := by decide +kernel
theorem dX11_lay_182 : decode cX11_lay 182 = .ok (.iload_n 3, 1) := by decide +kernel
theorem dX11_lay_183 : decode cX11_lay 183 = .ok (.invokevirtual 82, 3) := by decide +kernel
theorem dX11_lay_186 : decode cX11_lay 186 = .ok (.ireturn, 1) := by decide +kernel
set_option maxRecDepth 20000 in
theorem ggX11_put_X11_isRow : GoodIn wsX11_put wsX11_isRow := goodIn_r _ [7, 8, 9, 6, 10] (by decide +kernel) (by decide +kernel)
set_option maxRecDepth 20000 in
theorem gX11_put_X11_isRow : GoodIn wsX11_put (va_wsS RX11 147 yX11_isRow wsX11_isRow) := goodIn_app (goodIn_of _ (by decide +kernel)) ggX11_put_X11_isRow
set_option maxRecDepth 20000 in
theorem ggX11_put_X11_in : GoodIn wsX11_put wsX11_in := goodIn_r _ [10] (by decide +kernel) (by decide +kernel)
set_option maxRecDepth 20000 in
theorem gX11_put_X11_in : GoodIn wsX11_put (va_wsS RX11 69 yX11_in wsX11_in) := goodIn_app (goodIn_of _ (by decide +kernel)) ggX11_put_X11_in
set_option maxRecDepth 20000 in
theorem ggX11_put_X11_refuse : GoodIn wsX11_put wsX11_refuse := goodIn_r _ [14, 15, 26, 27, 28, 29, 30, 31, 32, 33, 34, 35, 36, 37, 38, 39, 40, 41, 42, 43, 44, 45, 46, 47, 48, 49, 50, 51, 52] (by decide +kernel) (by decide +kernel)
set_option maxRecDepth 20000 in
theorem gX11_put_X11_refuse : GoodIn wsX11_put (wsV RX11 78 RX11 yX11_refuse wsX11_refuse) := goodIn_app (goodIn_of _ (by decide +kernel)) ggX11_put_X11_refuse
set_option maxRecDepth 20000 in
theorem ggX11_put_X11_makes : GoodIn wsX11_put wsX11_makes := goodIn_r _ [19, 20, 2, 21, 26, 27, 28, 29, 30, 31, 32, 33, 34, 35, 36, 37, 38, 39, 40, 41, 42, 43, 44, 45, 46, 47, 48, 49, 50, 51, 52] (by decide +kernel) (by decide +kernel)
set_option maxRecDepth 20000 in
theorem gX11_put_X11_makes : GoodIn wsX11_put (wsV RX11 153 RX11 yX11_makes wsX11_makes) := goodIn_app (goodIn_of _ (by decide +kernel)) ggX11_put_X11_makes
set_option maxRecDepth 20000 in
theorem ggX11_put_X11_told : GoodIn wsX11_put wsX11_told := goodIn_r _ [25, 15, 26, 27, 28, 29, 30, 31, 32, 33, 34, 35, 36, 37, 38, 39, 40, 41, 42, 43, 44, 45, 46, 47, 48, 49, 50, 51, 52] (by decide +kernel) (by decide +kernel)
set_option maxRecDepth 20000 in
theorem gX11_put_X11_told : GoodIn wsX11_put (wsV RX11 82 RX11 yX11_told wsX11_told) := goodIn_app (goodIn_of _ (by decide +kernel)) ggX11_put_X11_told
theorem dX11_put_0 : decode cX11_put 0 = .ok (.iload_n 1, 1) := by decide +kernel
theorem dX11_put_1 : decode cX11_put 1 = .ok (.invokestatic 147, 3) := by decide +kernel
theorem dX11_put_4 : decode cX11_put 4 = .ok (.ifCond .eq 17, 3) := by decide +kernel
theorem dX11_put_7 : decode cX11_put 7 = .ok (.iload_n 2, 1) := by decide +kernel
theorem dX11_put_8 : decode cX11_put 8 = .ok (.iconst 0, 1) := by decide +kernel
theorem dX11_put_9 : decode cX11_put 9 = .ok (.aload_n 0, 1) := by decide +kernel
theorem dX11_put_10 : decode cX11_put 10 = .ok (.getfield 22, 3) := by decide +kernel
theorem dX11_put_13 : decode cX11_put 13 = .ok (.iload_n 1, 1) := by decide +kernel
theorem dX11_put_14 : decode cX11_put 14 = .ok (.iaload, 1) := by decide +kernel
theorem dX11_put_15 : decode cX11_put 15 = .ok (.invokestatic 69, 3) := by decide +kernel
theorem dX11_put_18 : decode cX11_put 18 = .ok (.ifCond .ne 9, 3) := by decide +kernel
theorem dX11_put_21 : decode cX11_put 21 = .ok (.aload_n 0, 1) := by decide +kernel
theorem dX11_put_22 : decode cX11_put 22 = .ok (.iconst 1, 1) := by decide +kernel
theorem dX11_put_23 : decode cX11_put 23 = .ok (.invokevirtual 78, 3) := by decide +kernel
theorem dX11_put_26 : decode cX11_put 26 = .ok (.ireturn, 1) := by decide +kernel
theorem dX11_put_27 : decode cX11_put 27 = .ok (.aload_n 0, 1) := by decide +kernel
theorem dX11_put_28 : decode cX11_put 28 = .ok (.getfield 22, 3) := by decide +kernel
theorem dX11_put_31 : decode cX11_put 31 = .ok (.iload_n 1, 1) := by decide +kernel
theorem dX11_put_32 : decode cX11_put 32 = .ok (.iaload, 1) := by decide +kernel
theorem dX11_put_33 : decode cX11_put 33 = .ok (.sipush 800, 3) := by decide +kernel
theorem dX11_put_36 : decode cX11_put 36 = .ok (.if_icmp .eq 13, 3) := by decide +kernel
theorem dX11_put_39 : decode cX11_put 39 = .ok (.aload_n 0, 1) := by decide +kernel
theorem dX11_put_40 : decode cX11_put 40 = .ok (.getfield 140, 3) := by decide +kernel
theorem dX11_put_43 : decode cX11_put 43 = .ok (.sipush 20000, 3) := by decide +kernel
theorem dX11_put_46 : decode cX11_put 46 = .ok (.if_icmp .ne 9, 3) := by decide +kernel
theorem dX11_put_49 : decode cX11_put 49 = .ok (.aload_n 0, 1) := by decide +kernel
theorem dX11_put_50 : decode cX11_put 50 = .ok (.iconst 2, 1) := by decide +kernel
theorem dX11_put_51 : decode cX11_put 51 = .ok (.invokevirtual 78, 3) := by decide +kernel
theorem dX11_put_54 : decode cX11_put 54 = .ok (.ireturn, 1) := by decide +kernel
theorem dX11_put_55 : decode cX11_put 55 = .ok (.aload_n 0, 1) := by decide +kernel
theorem dX11_put_56 : decode cX11_put 56 = .ok (.getfield 22, 3) := by decide +kernel
theorem dX11_put_59 : decode cX11_put 59 = .ok (.iload_n 1, 1) := by decide +kernel
theorem dX11_put_60 : decode cX11_put 60 = .ok (.iaload, 1) := by decide +kernel
theorem dX11_put_61 : decode cX11_put 61 = .ok (.istore 5, 2) := by decide +kernel
theorem dX11_put_63 : decode cX11_put 63 = .ok (.iload 5, 2) := by decide +kernel
theorem dX11_put_65 : decode cX11_put 65 = .ok (.iload_n 2, 1) := by decide +kernel
theorem dX11_put_66 : decode cX11_put 66 = .ok (.if_icmp .le 37, 3) := by decide +kernel
theorem dX11_put_69 : decode cX11_put 69 = .ok (.aload_n 0, 1) := by decide +kernel
theorem dX11_put_70 : decode cX11_put 70 = .ok (.getfield 16, 3) := by decide +kernel
theorem dX11_put_73 : decode cX11_put 73 = .ok (.sipush 800, 3) := by decide +kernel
theorem dX11_put_76 : decode cX11_put 76 = .ok (.iload_n 1, 1) := by decide +kernel
theorem dX11_put_77 : decode cX11_put 77 = .ok (.imul, 1) := by decide +kernel
theorem dX11_put_78 : decode cX11_put 78 = .ok (.iload 5, 2) := by decide +kernel
theorem dX11_put_80 : decode cX11_put 80 = .ok (.iadd, 1) := by decide +kernel
theorem dX11_put_81 : decode cX11_put 81 = .ok (.aload_n 0, 1) := by decide +kernel
theorem dX11_put_82 : decode cX11_put 82 = .ok (.getfield 16, 3) := by decide +kernel
theorem dX11_put_85 : decode cX11_put 85 = .ok (.sipush 800, 3) := by decide +kernel
theorem dX11_put_88 : decode cX11_put 88 = .ok (.iload_n 1, 1) := by decide +kernel
theorem dX11_put_89 : decode cX11_put 89 = .ok (.imul, 1) := by decide +kernel
theorem dX11_put_90 : decode cX11_put 90 = .ok (.iload 5, 2) := by decide +kernel
theorem dX11_put_92 : decode cX11_put 92 = .ok (.iadd, 1) := by decide +kernel
theorem dX11_put_93 : decode cX11_put 93 = .ok (.iconst 1, 1) := by decide +kernel
theorem dX11_put_94 : decode cX11_put 94 = .ok (.isub, 1) := by decide +kernel
theorem dX11_put_95 : decode cX11_put 95 = .ok (.iaload, 1) := by decide +kernel
theorem dX11_put_96 : decode cX11_put 96 = .ok (.iastore, 1) := by decide +kernel
theorem dX11_put_97 : decode cX11_put 97 = .ok (.iinc 5 (-1), 3) := by decide +kernel
theorem dX11_put_100 : decode cX11_put 100 = .ok (.goto (-37), 3) := by decide +kernel
theorem dX11_put_103 : decode cX11_put 103 = .ok (.aload_n 0, 1) := by decide +kernel
theorem dX11_put_104 : decode cX11_put 104 = .ok (.getfield 16, 3) := by decide +kernel
theorem dX11_put_107 : decode cX11_put 107 = .ok (.sipush 800, 3) := by decide +kernel
theorem dX11_put_110 : decode cX11_put 110 = .ok (.iload_n 1, 1) := by decide +kernel
theorem dX11_put_111 : decode cX11_put 111 = .ok (.imul, 1) := by decide +kernel
theorem dX11_put_112 : decode cX11_put 112 = .ok (.iload_n 2, 1) := by decide +kernel
theorem dX11_put_113 : decode cX11_put 113 = .ok (.iadd, 1) := by decide +kernel
theorem dX11_put_114 : decode cX11_put 114 = .ok (.aload_n 0, 1) := by decide +kernel
theorem dX11_put_115 : decode cX11_put 115 = .ok (.iload_n 3, 1) := by decide +kernel
theorem dX11_put_116 : decode cX11_put 116 = .ok (.iload 4, 2) := by decide +kernel
theorem dX11_put_118 : decode cX11_put 118 = .ok (.invokevirtual 153, 3) := by decide +kernel
theorem dX11_put_121 : decode cX11_put 121 = .ok (.iastore, 1) := by decide +kernel
theorem dX11_put_122 : decode cX11_put 122 = .ok (.aload_n 0, 1) := by decide +kernel
theorem dX11_put_123 : decode cX11_put 123 = .ok (.getfield 22, 3) := by decide +kernel
theorem dX11_put_126 : decode cX11_put 126 = .ok (.iload_n 1, 1) := by decide +kernel
theorem dX11_put_127 : decode cX11_put 127 = .ok (.dup2, 1) := by decide +kernel
theorem dX11_put_128 : decode cX11_put 128 = .ok (.iaload, 1) := by decide +kernel
theorem dX11_put_129 : decode cX11_put 129 = .ok (.iconst 1, 1) := by decide +kernel
theorem dX11_put_130 : decode cX11_put 130 = .ok (.iadd, 1) := by decide +kernel
theorem dX11_put_131 : decode cX11_put 131 = .ok (.iastore, 1) := by decide +kernel
theorem dX11_put_132 : decode cX11_put 132 = .ok (.aload_n 0, 1) := by decide +kernel
theorem dX11_put_133 : decode cX11_put 133 = .ok (.aload_n 0, 1) := by decide +kernel
theorem dX11_put_134 : decode cX11_put 134 = .ok (.getfield 140, 3) := by decide +kernel
theorem dX11_put_137 : decode cX11_put 137 = .ok (.iconst 1, 1) := by decide +kernel
theorem dX11_put_138 : decode cX11_put 138 = .ok (.isub, 1) := by decide +kernel
theorem dX11_put_139 : decode cX11_put 139 = .ok (.invokevirtual 82, 3) := by decide +kernel
theorem dX11_put_142 : decode cX11_put 142 = .ok (.ireturn, 1) := by decide +kernel
set_option maxRecDepth 20000 in
theorem ggX11_setSeed_X11_told : GoodIn wsX11_setSeed wsX11_told := goodIn_r _ [6, 7, 8, 9, 10, 11, 12, 13, 14, 15, 16, 17, 18, 19, 20, 21, 22, 23, 24, 25, 26, 27, 28, 29, 30, 31, 32, 33, 34] (by decide +kernel) (by decide +kernel)
set_option maxRecDepth 20000 in
theorem gX11_setSeed_X11_told : GoodIn wsX11_setSeed (wsV RX11 82 RX11 yX11_told wsX11_told) := goodIn_app (goodIn_of _ (by decide +kernel)) ggX11_setSeed_X11_told
theorem dX11_setSeed_0 : decode cX11_setSeed 0 = .ok (.aload_n 0, 1) := by decide +kernel
theorem dX11_setSeed_1 : decode cX11_setSeed 1 = .ok (.getfield 31, 3) := by decide +kernel
theorem dX11_setSeed_4 : decode cX11_setSeed 4 = .ok (.istore_n 2, 1) := by decide +kernel
theorem dX11_setSeed_5 : decode cX11_setSeed 5 = .ok (.aload_n 0, 1) := by decide +kernel
theorem dX11_setSeed_6 : decode cX11_setSeed 6 = .ok (.iload_n 1, 1) := by decide +kernel
theorem dX11_setSeed_7 : decode cX11_setSeed 7 = .ok (.putfield 31, 3) := by decide +kernel
theorem dX11_setSeed_10 : decode cX11_setSeed 10 = .ok (.aload_n 0, 1) := by decide +kernel
theorem dX11_setSeed_11 : decode cX11_setSeed 11 = .ok (.iload_n 2, 1) := by decide +kernel
theorem dX11_setSeed_12 : decode cX11_setSeed 12 = .ok (.invokevirtual 82, 3) := by decide +kernel
theorem dX11_setSeed_15 : decode cX11_setSeed 15 = .ok (.ireturn, 1) := by decide +kernel
theorem dX11_goesAhead_0 : decode cX11_goesAhead 0 = .ok (.iload_n 3, 1) := by decide +kernel
theorem dX11_goesAhead_1 : decode cX11_goesAhead 1 = .ok (.tableswitch 90 0 2 #[27, 48, 69], 27) := by decide +kernel
theorem dX11_goesAhead_28 : decode cX11_goesAhead 28 = .ok (.aload_n 0, 1) := by decide +kernel
theorem dX11_goesAhead_29 : decode cX11_goesAhead 29 = .ok (.getfield 7, 3) := by decide +kernel
theorem dX11_goesAhead_32 : decode cX11_goesAhead 32 = .ok (.iload_n 1, 1) := by decide +kernel
theorem dX11_goesAhead_33 : decode cX11_goesAhead 33 = .ok (.iaload, 1) := by decide +kernel
theorem dX11_goesAhead_34 : decode cX11_goesAhead 34 = .ok (.aload_n 0, 1) := by decide +kernel
theorem dX11_goesAhead_35 : decode cX11_goesAhead 35 = .ok (.getfield 7, 3) := by decide +kernel
theorem dX11_goesAhead_38 : decode cX11_goesAhead 38 = .ok (.iload_n 2, 1) := by decide +kernel
theorem dX11_goesAhead_39 : decode cX11_goesAhead 39 = .ok (.iaload, 1) := by decide +kernel
theorem dX11_goesAhead_40 : decode cX11_goesAhead 40 = .ok (.if_icmp .ge 7, 3) := by decide +kernel
theorem dX11_goesAhead_43 : decode cX11_goesAhead 43 = .ok (.iconst 1, 1) := by decide +kernel
theorem dX11_goesAhead_44 : decode cX11_goesAhead 44 = .ok (.goto 4, 3) := by decide +kernel
theorem dX11_goesAhead_47 : decode cX11_goesAhead 47 = .ok (.iconst 0, 1) := by decide +kernel
theorem dX11_goesAhead_48 : decode cX11_goesAhead 48 = .ok (.ireturn, 1) := by decide +kernel
theorem dX11_goesAhead_49 : decode cX11_goesAhead 49 = .ok (.aload_n 0, 1) := by decide +kernel
theorem dX11_goesAhead_50 : decode cX11_goesAhead 50 = .ok (.getfield 7, 3) := by decide +kernel
theorem dX11_goesAhead_53 : decode cX11_goesAhead 53 = .ok (.iload_n 1, 1) := by decide +kernel
theorem dX11_goesAhead_54 : decode cX11_goesAhead 54 = .ok (.iaload, 1) := by decide +kernel
theorem dX11_goesAhead_55 : decode cX11_goesAhead 55 = .ok (.aload_n 0, 1) := by decide +kernel
theorem dX11_goesAhead_56 : decode cX11_goesAhead 56 = .ok (.getfield 7, 3) := by decide +kernel
theorem dX11_goesAhead_59 : decode cX11_goesAhead 59 = .ok (.iload_n 2, 1) := by decide +kernel
theorem dX11_goesAhead_60 : decode cX11_goesAhead 60 = .ok (.iaload, 1) := by decide +kernel
theorem dX11_goesAhead_61 : decode cX11_goesAhead 61 = .ok (.if_icmp .le 7, 3) := by decide +kernel
theorem dX11_goesAhead_64 : decode cX11_goesAhead 64 = .ok (.iconst 1, 1) := by decide +kernel
theorem dX11_goesAhead_65 : decode cX11_goesAhead 65 = .ok (.goto 4, 3) := by decide +kernel
theorem dX11_goesAhead_68 : decode cX11_goesAhead 68 = .ok (.iconst 0, 1) := by decide +kernel
theorem dX11_goesAhead_69 : decode cX11_goesAhead 69 = .ok (.ireturn, 1) := by decide +kernel
theorem dX11_goesAhead_70 : decode cX11_goesAhead 70 = .ok (.aload_n 0, 1) := by decide +kernel
theorem dX11_goesAhead_71 : decode cX11_goesAhead 71 = .ok (.getfield 13, 3) := by decide +kernel
theorem dX11_goesAhead_74 : decode cX11_goesAhead 74 = .ok (.iload_n 1, 1) := by decide +kernel
theorem dX11_goesAhead_75 : decode cX11_goesAhead 75 = .ok (.iaload, 1) := by decide +kernel
theorem dX11_goesAhead_76 : decode cX11_goesAhead 76 = .ok (.aload_n 0, 1) := by decide +kernel
theorem dX11_goesAhead_77 : decode cX11_goesAhead 77 = .ok (.getfield 13, 3) := by decide +kernel
theorem dX11_goesAhead_80 : decode cX11_goesAhead 80 = .ok (.iload_n 2, 1) := by decide +kernel
theorem dX11_goesAhead_81 : decode cX11_goesAhead 81 = .ok (.iaload, 1) := by decide +kernel
theorem dX11_goesAhead_82 : decode cX11_goesAhead 82 = .ok (.if_icmp .ge 7, 3) := by decide +kernel
theorem dX11_goesAhead_85 : decode cX11_goesAhead 85 = .ok (.iconst 1, 1) := by decide +kernel
theorem dX11_goesAhead_86 : decode cX11_goesAhead 86 = .ok (.goto 4, 3) := by decide +kernel
theorem dX11_goesAhead_89 : decode cX11_goesAhead 89 = .ok (.iconst 0, 1) := by decide +kernel
theorem dX11_goesAhead_90 : decode cX11_goesAhead 90 = .ok (.ireturn, 1) := by decide +kernel
theorem dX11_goesAhead_91 : decode cX11_goesAhead 91 = .ok (.aload_n 0, 1) := by decide +kernel
theorem dX11_goesAhead_92 : decode cX11_goesAhead 92 = .ok (.getfield 7, 3) := by decide +kernel
theorem dX11_goesAhead_95 : decode cX11_goesAhead 95 = .ok (.iload_n 1, 1) := by decide +kernel
theorem dX11_goesAhead_96 : decode cX11_goesAhead 96 = .ok (.iaload, 1) := by decide +kernel
theorem dX11_goesAhead_97 : decode cX11_goesAhead 97 = .ok (.aload_n 0, 1) := by decide +kernel
theorem dX11_goesAhead_98 : decode cX11_goesAhead 98 = .ok (.getfield 7, 3) := by decide +kernel
theorem dX11_goesAhead_101 : decode cX11_goesAhead 101 = .ok (.iload_n 2, 1) := by decide +kernel
theorem dX11_goesAhead_102 : decode cX11_goesAhead 102 = .ok (.iaload, 1) := by decide +kernel
theorem dX11_goesAhead_103 : decode cX11_goesAhead 103 = .ok (.if_icmp .lt 33, 3) := by decide +kernel
theorem dX11_goesAhead_106 : decode cX11_goesAhead 106 = .ok (.aload_n 0, 1) := by decide +kernel
theorem dX11_goesAhead_107 : decode cX11_goesAhead 107 = .ok (.getfield 7, 3) := by decide +kernel
theorem dX11_goesAhead_110 : decode cX11_goesAhead 110 = .ok (.iload_n 1, 1) := by decide +kernel
theorem dX11_goesAhead_111 : decode cX11_goesAhead 111 = .ok (.iaload, 1) := by decide +kernel
theorem dX11_goesAhead_112 : decode cX11_goesAhead 112 = .ok (.aload_n 0, 1) := by decide +kernel
theorem dX11_goesAhead_113 : decode cX11_goesAhead 113 = .ok (.getfield 7, 3) := by decide +kernel
theorem dX11_goesAhead_116 : decode cX11_goesAhead 116 = .ok (.iload_n 2, 1) := by decide +kernel
theorem dX11_goesAhead_117 : decode cX11_goesAhead 117 = .ok (.iaload, 1) := by decide +kernel
theorem dX11_goesAhead_118 : decode cX11_goesAhead 118 = .ok (.if_icmp .ne 22, 3) := by decide +kernel
theorem dX11_goesAhead_121 : decode cX11_goesAhead 121 = .ok (.aload_n 0, 1) := by decide +kernel
theorem dX11_goesAhead_122 : decode cX11_goesAhead 122 = .ok (.getfield 13, 3) := by decide +kernel
theorem dX11_goesAhead_125 : decode cX11_goesAhead 125 = .ok (.iload_n 1, 1) := by decide +kernel
theorem dX11_goesAhead_126 : decode cX11_goesAhead 126 = .ok (.iaload, 1) := by decide +kernel
theorem dX11_goesAhead_127 : decode cX11_goesAhead 127 = .ok (.aload_n 0, 1) := by decide +kernel
theorem dX11_goesAhead_128 : decode cX11_goesAhead 128 = .ok (.getfield 13, 3) := by decide +kernel
theorem dX11_goesAhead_131 : decode cX11_goesAhead 131 = .ok (.iload_n 2, 1) := by decide +kernel
theorem dX11_goesAhead_132 : decode cX11_goesAhead 132 = .ok (.iaload, 1) := by decide +kernel
theorem dX11_goesAhead_133 : decode cX11_goesAhead 133 = .ok (.if_icmp .ge 7, 3) := by decide +kernel
theorem dX11_goesAhead_136 : decode cX11_goesAhead 136 = .ok (.iconst 1, 1) := by decide +kernel
theorem dX11_goesAhead_137 : decode cX11_goesAhead 137 = .ok (.goto 4, 3) := by decide +kernel
theorem dX11_goesAhead_140 : decode cX11_goesAhead 140 = .ok (.iconst 0, 1) := by decide +kernel
theorem dX11_goesAhead_141 : decode cX11_goesAhead 141 = .ok (.ireturn, 1) := by decide +kernel
set_option maxRecDepth 20000 in
theorem ggX11_sorts_X11_goesAhead : GoodIn wsX11_sorts wsX11_goesAhead := goodIn_r _ [7, 8, 9, 10, 11, 12, 13, 14, 15, 16, 17, 18, 19, 20, 21, 22, 23, 24, 25, 26, 27, 28, 29, 30, 31, 32, 33, 34, 35, 36] (by decide +kernel) (by decide +kernel)
set_option maxRecDepth 20000 in
theorem gX11_sorts_X11_goesAhead : GoodIn wsX11_sorts (wsV RX11 156 RX11 yX11_goesAhead wsX11_goesAhead) := goodIn_app (goodIn_of _ (by decide +kernel)) ggX11_sorts_X11_goesAhead
theorem dX11_sorts_0 : decode cX11_sorts 0 = .ok (.iconst 0, 1) := by decide +kernel
theorem dX11_sorts_1 : decode cX11_sorts 1 = .ok (.istore_n 3, 1) := by decide +kernel
theorem dX11_sorts_2 : decode cX11_sorts 2 = .ok (.iload_n 3, 1) := by decide +kernel
theorem dX11_sorts_3 : decode cX11_sorts 3 = .ok (.iload_n 1, 1) := by decide +kernel
theorem dX11_sorts_4 : decode cX11_sorts 4 = .ok (.if_icmp .ge 21, 3) := by decide +kernel
theorem dX11_sorts_7 : decode cX11_sorts 7 = .ok (.aload_n 0, 1) := by decide +kernel
theorem dX11_sorts_8 : decode cX11_sorts 8 = .ok (.getfield 38, 3) := by decide +kernel
theorem dX11_sorts_11 : decode cX11_sorts 11 = .ok (.iload_n 3, 1) := by decide +kernel
theorem dX11_sorts_12 : decode cX11_sorts 12 = .ok (.aload_n 0, 1) := by decide +kernel
theorem dX11_sorts_13 : decode cX11_sorts 13 = .ok (.getfield 35, 3) := by decide +kernel
theorem dX11_sorts_16 : decode cX11_sorts 16 = .ok (.iload_n 3, 1) := by decide +kernel
theorem dX11_sorts_17 : decode cX11_sorts 17 = .ok (.iaload, 1) := by decide +kernel
theorem dX11_sorts_18 : decode cX11_sorts 18 = .ok (.iastore, 1) := by decide +kernel
theorem dX11_sorts_19 : decode cX11_sorts 19 = .ok (.iinc 3 1, 3) := by decide +kernel
theorem dX11_sorts_22 : decode cX11_sorts 22 = .ok (.goto (-20), 3) := by decide +kernel
theorem dX11_sorts_25 : decode cX11_sorts 25 = .ok (.iconst 1, 1) := by decide +kernel
theorem dX11_sorts_26 : decode cX11_sorts 26 = .ok (.istore_n 3, 1) := by decide +kernel
theorem dX11_sorts_27 : decode cX11_sorts 27 = .ok (.iload_n 3, 1) := by decide +kernel
theorem dX11_sorts_28 : decode cX11_sorts 28 = .ok (.iload_n 1, 1) := by decide +kernel
theorem dX11_sorts_29 : decode cX11_sorts 29 = .ok (.if_icmp .ge 75, 3) := by decide +kernel
theorem dX11_sorts_32 : decode cX11_sorts 32 = .ok (.aload_n 0, 1) := by decide +kernel
theorem dX11_sorts_33 : decode cX11_sorts 33 = .ok (.getfield 35, 3) := by decide +kernel
theorem dX11_sorts_36 : decode cX11_sorts 36 = .ok (.iload_n 3, 1) := by decide +kernel
theorem dX11_sorts_37 : decode cX11_sorts 37 = .ok (.iaload, 1) := by decide +kernel
theorem dX11_sorts_38 : decode cX11_sorts 38 = .ok (.istore 4, 2) := by decide +kernel
theorem dX11_sorts_40 : decode cX11_sorts 40 = .ok (.iload_n 3, 1) := by decide +kernel
theorem dX11_sorts_41 : decode cX11_sorts 41 = .ok (.istore 5, 2) := by decide +kernel
theorem dX11_sorts_43 : decode cX11_sorts 43 = .ok (.iload 5, 2) := by decide +kernel
theorem dX11_sorts_45 : decode cX11_sorts 45 = .ok (.ifCond .le 44, 3) := by decide +kernel
theorem dX11_sorts_48 : decode cX11_sorts 48 = .ok (.aload_n 0, 1) := by decide +kernel
theorem dX11_sorts_49 : decode cX11_sorts 49 = .ok (.iload 4, 2) := by decide +kernel
theorem dX11_sorts_51 : decode cX11_sorts 51 = .ok (.aload_n 0, 1) := by decide +kernel
theorem dX11_sorts_52 : decode cX11_sorts 52 = .ok (.getfield 35, 3) := by decide +kernel
theorem dX11_sorts_55 : decode cX11_sorts 55 = .ok (.iload 5, 2) := by decide +kernel
theorem dX11_sorts_57 : decode cX11_sorts 57 = .ok (.iconst 1, 1) := by decide +kernel
theorem dX11_sorts_58 : decode cX11_sorts 58 = .ok (.isub, 1) := by decide +kernel
theorem dX11_sorts_59 : decode cX11_sorts 59 = .ok (.iaload, 1) := by decide +kernel
theorem dX11_sorts_60 : decode cX11_sorts 60 = .ok (.iload_n 2, 1) := by decide +kernel
theorem dX11_sorts_61 : decode cX11_sorts 61 = .ok (.invokevirtual 156, 3) := by decide +kernel
theorem dX11_sorts_64 : decode cX11_sorts 64 = .ok (.ifCond .eq 25, 3) := by decide +kernel
theorem dX11_sorts_67 : decode cX11_sorts 67 = .ok (.aload_n 0, 1) := by decide +kernel
theorem dX11_sorts_68 : decode cX11_sorts 68 = .ok (.getfield 35, 3) := by decide +kernel
theorem dX11_sorts_71 : decode cX11_sorts 71 = .ok (.iload 5, 2) := by decide +kernel
theorem dX11_sorts_73 : decode cX11_sorts 73 = .ok (.aload_n 0, 1) := by decide +kernel
theorem dX11_sorts_74 : decode cX11_sorts 74 = .ok (.getfield 35, 3) := by decide +kernel
theorem dX11_sorts_77 : decode cX11_sorts 77 = .ok (.iload 5, 2) := by decide +kernel
theorem dX11_sorts_79 : decode cX11_sorts 79 = .ok (.iconst 1, 1) := by decide +kernel
theorem dX11_sorts_80 : decode cX11_sorts 80 = .ok (.isub, 1) := by decide +kernel
theorem dX11_sorts_81 : decode cX11_sorts 81 = .ok (.iaload, 1) := by decide +kernel
theorem dX11_sorts_82 : decode cX11_sorts 82 = .ok (.iastore, 1) := by decide +kernel
theorem dX11_sorts_83 : decode cX11_sorts 83 = .ok (.iinc 5 (-1), 3) := by decide +kernel
theorem dX11_sorts_86 : decode cX11_sorts 86 = .ok (.goto (-43), 3) := by decide +kernel
theorem dX11_sorts_89 : decode cX11_sorts 89 = .ok (.aload_n 0, 1) := by decide +kernel
theorem dX11_sorts_90 : decode cX11_sorts 90 = .ok (.getfield 35, 3) := by decide +kernel
theorem dX11_sorts_93 : decode cX11_sorts 93 = .ok (.iload 5, 2) := by decide +kernel
theorem dX11_sorts_95 : decode cX11_sorts 95 = .ok (.iload 4, 2) := by decide +kernel
theorem dX11_sorts_97 : decode cX11_sorts 97 = .ok (.iastore, 1) := by decide +kernel
theorem dX11_sorts_98 : decode cX11_sorts 98 = .ok (.iinc 3 1, 3) := by decide +kernel
theorem dX11_sorts_101 : decode cX11_sorts 101 = .ok (.goto (-74), 3) := by decide +kernel
theorem dX11_sorts_104 : decode cX11_sorts 104 = .ok (.iconst 0, 1) := by decide +kernel
theorem dX11_sorts_105 : decode cX11_sorts 105 = .ok (.istore_n 3, 1) := by decide +kernel
theorem dX11_sorts_106 : decode cX11_sorts 106 = .ok (.iconst 0, 1) := by decide +kernel
theorem dX11_sorts_107 : decode cX11_sorts 107 = .ok (.istore 4, 2) := by decide +kernel
theorem dX11_sorts_109 : decode cX11_sorts 109 = .ok (.iload 4, 2) := by decide +kernel
theorem dX11_sorts_111 : decode cX11_sorts 111 = .ok (.iload_n 1, 1) := by decide +kernel
theorem dX11_sorts_112 : decode cX11_sorts 112 = .ok (.if_icmp .ge 34, 3) := by decide +kernel
theorem dX11_sorts_115 : decode cX11_sorts 115 = .ok (.iload_n 3, 1) := by decide +kernel
theorem dX11_sorts_116 : decode cX11_sorts 116 = .ok (.aload_n 0, 1) := by decide +kernel
theorem dX11_sorts_117 : decode cX11_sorts 117 = .ok (.getfield 35, 3) := by decide +kernel
theorem dX11_sorts_120 : decode cX11_sorts 120 = .ok (.iload 4, 2) := by decide +kernel
theorem dX11_sorts_122 : decode cX11_sorts 122 = .ok (.iaload, 1) := by decide +kernel
theorem dX11_sorts_123 : decode cX11_sorts 123 = .ok (.aload_n 0, 1) := by decide +kernel
theorem dX11_sorts_124 : decode cX11_sorts 124 = .ok (.getfield 38, 3) := by decide +kernel
theorem dX11_sorts_127 : decode cX11_sorts 127 = .ok (.iload 4, 2) := by decide +kernel
theorem dX11_sorts_129 : decode cX11_sorts 129 = .ok (.iaload, 1) := by decide +kernel
theorem dX11_sorts_130 : decode cX11_sorts 130 = .ok (.if_icmp .ne 7, 3) := by decide +kernel
theorem dX11_sorts_133 : decode cX11_sorts 133 = .ok (.iconst 0, 1) := by decide +kernel
theorem dX11_sorts_134 : decode cX11_sorts 134 = .ok (.goto 4, 3) := by decide +kernel
theorem dX11_sorts_137 : decode cX11_sorts 137 = .ok (.iconst 1, 1) := by decide +kernel
theorem dX11_sorts_138 : decode cX11_sorts 138 = .ok (.iadd, 1) := by decide +kernel
theorem dX11_sorts_139 : decode cX11_sorts 139 = .ok (.istore_n 3, 1) := by decide +kernel
theorem dX11_sorts_140 : decode cX11_sorts 140 = .ok (.iinc 4 1, 3) := by decide +kernel
theorem dX11_sorts_143 : decode cX11_sorts 143 = .ok (.goto (-34), 3) := by decide +kernel
theorem dX11_sorts_146 : decode cX11_sorts 146 = .ok (.iload_n 3, 1) := by decide +kernel
theorem dX11_sorts_147 : decode cX11_sorts 147 = .ok (.ireturn, 1) := by decide +kernel
set_option maxRecDepth 20000 in
theorem ggX11_sortsPart_X11_sorts : GoodIn wsX11_sortsPart wsX11_sorts := goodIn_r _ [7, 8, 1, 9, 10, 11, 6, 12, 13, 14, 15, 16, 17, 18, 19, 20, 21, 22, 23, 24, 25, 26, 27, 28, 29, 30, 31, 32, 33, 34, 35, 36, 37, 38, 39, 40, 41] (by decide +kernel) (by decide +kernel)
set_option maxRecDepth 20000 in
theorem gX11_sortsPart_X11_sorts : GoodIn wsX11_sortsPart (wsV RX11 159 RX11 yX11_sorts wsX11_sorts) := goodIn_app (goodIn_of _ (by decide +kernel)) ggX11_sortsPart_X11_sorts
theorem dX11_sortsPart_0 : decode cX11_sortsPart 0 = .ok (.iload_n 2, 1) := by decide +kernel
theorem dX11_sortsPart_1 : decode cX11_sortsPart 1 = .ok (.istore 5, 2) := by decide +kernel
theorem dX11_sortsPart_3 : decode cX11_sortsPart 3 = .ok (.iload 5, 2) := by decide +kernel
theorem dX11_sortsPart_5 : decode cX11_sortsPart 5 = .ok (.iload_n 3, 1) := by decide +kernel
theorem dX11_sortsPart_6 : decode cX11_sortsPart 6 = .ok (.if_icmp .ge 31, 3) := by decide +kernel
theorem dX11_sortsPart_9 : decode cX11_sortsPart 9 = .ok (.aload_n 0, 1) := by decide +kernel
theorem dX11_sortsPart_10 : decode cX11_sortsPart 10 = .ok (.getfield 35, 3) := by decide +kernel
theorem dX11_sortsPart_13 : decode cX11_sortsPart 13 = .ok (.iload 5, 2) := by decide +kernel
theorem dX11_sortsPart_15 : decode cX11_sortsPart 15 = .ok (.iload_n 2, 1) := by decide +kernel
theorem dX11_sortsPart_16 : decode cX11_sortsPart 16 = .ok (.isub, 1) := by decide +kernel
theorem dX11_sortsPart_17 : decode cX11_sortsPart 17 = .ok (.aload_n 0, 1) := by decide +kernel
theorem dX11_sortsPart_18 : decode cX11_sortsPart 18 = .ok (.getfield 16, 3) := by decide +kernel
theorem dX11_sortsPart_21 : decode cX11_sortsPart 21 = .ok (.sipush 800, 3) := by decide +kernel
theorem dX11_sortsPart_24 : decode cX11_sortsPart 24 = .ok (.iload_n 1, 1) := by decide +kernel
theorem dX11_sortsPart_25 : decode cX11_sortsPart 25 = .ok (.imul, 1) := by decide +kernel
theorem dX11_sortsPart_26 : decode cX11_sortsPart 26 = .ok (.iload 5, 2) := by decide +kernel
theorem dX11_sortsPart_28 : decode cX11_sortsPart 28 = .ok (.iadd, 1) := by decide +kernel
theorem dX11_sortsPart_29 : decode cX11_sortsPart 29 = .ok (.iaload, 1) := by decide +kernel
theorem dX11_sortsPart_30 : decode cX11_sortsPart 30 = .ok (.iastore, 1) := by decide +kernel
theorem dX11_sortsPart_31 : decode cX11_sortsPart 31 = .ok (.iinc 5 1, 3) := by decide +kernel
theorem dX11_sortsPart_34 : decode cX11_sortsPart 34 = .ok (.goto (-31), 3) := by decide +kernel
theorem dX11_sortsPart_37 : decode cX11_sortsPart 37 = .ok (.aload_n 0, 1) := by decide +kernel
theorem dX11_sortsPart_38 : decode cX11_sortsPart 38 = .ok (.iload_n 3, 1) := by decide +kernel
theorem dX11_sortsPart_39 : decode cX11_sortsPart 39 = .ok (.iload_n 2, 1) := by decide +kernel
theorem dX11_sortsPart_40 : decode cX11_sortsPart 40 = .ok (.isub, 1) := by decide +kernel
theorem dX11_sortsPart_41 : decode cX11_sortsPart 41 = .ok (.iload 4, 2) := by decide +kernel
theorem dX11_sortsPart_43 : decode cX11_sortsPart 43 = .ok (.invokevirtual 159, 3) := by decide +kernel
theorem dX11_sortsPart_46 : decode cX11_sortsPart 46 = .ok (.istore 5, 2) := by decide +kernel
theorem dX11_sortsPart_48 : decode cX11_sortsPart 48 = .ok (.iload_n 2, 1) := by decide +kernel
theorem dX11_sortsPart_49 : decode cX11_sortsPart 49 = .ok (.istore 6, 2) := by decide +kernel
theorem dX11_sortsPart_51 : decode cX11_sortsPart 51 = .ok (.iload 6, 2) := by decide +kernel
theorem dX11_sortsPart_53 : decode cX11_sortsPart 53 = .ok (.iload_n 3, 1) := by decide +kernel
theorem dX11_sortsPart_54 : decode cX11_sortsPart 54 = .ok (.if_icmp .ge 31, 3) := by decide +kernel
theorem dX11_sortsPart_57 : decode cX11_sortsPart 57 = .ok (.aload_n 0, 1) := by decide +kernel
theorem dX11_sortsPart_58 : decode cX11_sortsPart 58 = .ok (.getfield 16, 3) := by decide +kernel
theorem dX11_sortsPart_61 : decode cX11_sortsPart 61 = .ok (.sipush 800, 3) := by decide +kernel
theorem dX11_sortsPart_64 : decode cX11_sortsPart 64 = .ok (.iload_n 1, 1) := by decide +kernel
theorem dX11_sortsPart_65 : decode cX11_sortsPart 65 = .ok (.imul, 1) := by decide +kernel
theorem dX11_sortsPart_66 : decode cX11_sortsPart 66 = .ok (.iload 6, 2) := by decide +kernel
theorem dX11_sortsPart_68 : decode cX11_sortsPart 68 = .ok (.iadd, 1) := by decide +kernel
theorem dX11_sortsPart_69 : decode cX11_sortsPart 69 = .ok (.aload_n 0, 1) := by decide +kernel
theorem dX11_sortsPart_70 : decode cX11_sortsPart 70 = .ok (.getfield 35, 3) := by decide +kernel
theorem dX11_sortsPart_73 : decode cX11_sortsPart 73 = .ok (.iload 6, 2) := by decide +kernel
theorem dX11_sortsPart_75 : decode cX11_sortsPart 75 = .ok (.iload_n 2, 1) := by decide +kernel
theorem dX11_sortsPart_76 : decode cX11_sortsPart 76 = .ok (.isub, 1) := by decide +kernel
theorem dX11_sortsPart_77 : decode cX11_sortsPart 77 = .ok (.iaload, 1) := by decide +kernel
theorem dX11_sortsPart_78 : decode cX11_sortsPart 78 = .ok (.iastore, 1) := by decide +kernel
theorem dX11_sortsPart_79 : decode cX11_sortsPart 79 = .ok (.iinc 6 1, 3) := by decide +kernel
theorem dX11_sortsPart_82 : decode cX11_sortsPart 82 = .ok (.goto (-31), 3) := by decide +kernel
theorem dX11_sortsPart_85 : decode cX11_sortsPart 85 = .ok (.iload 5, 2) := by decide +kernel
theorem dX11_sortsPart_87 : decode cX11_sortsPart 87 = .ok (.ireturn, 1) := by decide +kernel
set_option maxRecDepth 20000 in
theorem ggX11_sort_X11_isRow : GoodIn wsX11_sort wsX11_isRow := goodIn_r _ [5, 6, 7, 4, 8] (by decide +kernel) (by decide +kernel)
set_option maxRecDepth 20000 in
theorem gX11_sort_X11_isRow : GoodIn wsX11_sort (va_wsS RX11 147 yX11_isRow wsX11_isRow) := goodIn_app (goodIn_of _ (by decide +kernel)) ggX11_sort_X11_isRow
set_option maxRecDepth 20000 in
theorem ggX11_sort_X11_sortsPart : GoodIn wsX11_sort wsX11_sortsPart := goodIn_r _ [12, 13, 14, 15, 16, 17, 4, 18, 19, 20, 21, 22, 23, 24, 25, 35, 36, 37, 38, 39, 40, 41, 42, 43, 44, 45, 46, 47, 48, 49, 50, 51, 52, 53, 54, 55, 56, 57, 58, 59, 60, 61] (by decide +kernel) (by decide +kernel)
set_option maxRecDepth 20000 in
theorem gX11_sort_X11_sortsPart : GoodIn wsX11_sort (wsV RX11 162 RX11 yX11_sortsPart wsX11_sortsPart) := goodIn_app (goodIn_of _ (by decide +kernel)) ggX11_sort_X11_sortsPart
set_option maxRecDepth 20000 in
theorem ggX11_sort_X11_told : GoodIn wsX11_sort wsX11_told := goodIn_r _ [29, 30, 35, 36, 37, 38, 39, 40, 41, 42, 43, 44, 45, 46, 47, 48, 49, 50, 51, 52, 53, 54, 55, 56, 57, 58, 59, 60, 61] (by decide +kernel) (by decide +kernel)
set_option maxRecDepth 20000 in
theorem gX11_sort_X11_told : GoodIn wsX11_sort (wsV RX11 82 RX11 yX11_told wsX11_told) := goodIn_app (goodIn_of _ (by decide +kernel)) ggX11_sort_X11_told
set_option maxRecDepth 20000 in
theorem ggX11_sort_X11_refuse : GoodIn wsX11_sort wsX11_refuse := goodIn_r _ [34, 30, 35, 36, 37, 38, 39, 40, 41, 42, 43, 44, 45, 46, 47, 48, 49, 50, 51, 52, 53, 54, 55, 56, 57, 58, 59, 60, 61] (by decide +kernel) (by decide +kernel)
set_option maxRecDepth 20000 in
theorem gX11_sort_X11_refuse : GoodIn wsX11_sort (wsV RX11 78 RX11 yX11_refuse wsX11_refuse) := goodIn_app (goodIn_of _ (by decide +kernel)) ggX11_sort_X11_refuse
theorem dX11_sort_0 : decode cX11_sort 0 = .ok (.iload_n 1, 1) := by decide +kernel
theorem dX11_sort_1 : decode cX11_sort 1 = .ok (.invokestatic 147, 3) := by decide +kernel
theorem dX11_sort_4 : decode cX11_sort 4 = .ok (.ifCond .eq 23, 3) := by decide +kernel
theorem dX11_sort_7 : decode cX11_sort 7 = .ok (.aload_n 0, 1) := by decide +kernel
theorem dX11_sort_8 : decode cX11_sort 8 = .ok (.aload_n 0, 1) := by decide +kernel
theorem dX11_sort_9 : decode cX11_sort 9 = .ok (.iload_n 1, 1) := by decide +kernel
theorem dX11_sort_10 : decode cX11_sort 10 = .ok (.iconst 0, 1) := by decide +kernel
theorem dX11_sort_11 : decode cX11_sort 11 = .ok (.aload_n 0, 1) := by decide +kernel
theorem dX11_sort_12 : decode cX11_sort 12 = .ok (.getfield 22, 3) := by decide +kernel
theorem dX11_sort_15 : decode cX11_sort 15 = .ok (.iload_n 1, 1) := by decide +kernel
theorem dX11_sort_16 : decode cX11_sort 16 = .ok (.iaload, 1) := by decide +kernel
theorem dX11_sort_17 : decode cX11_sort 17 = .ok (.iconst 0, 1) := by decide +kernel
theorem dX11_sort_18 : decode cX11_sort 18 = .ok (.invokevirtual 162, 3) := by decide +kernel
theorem dX11_sort_21 : decode cX11_sort 21 = .ok (.invokevirtual 82, 3) := by decide +kernel
theorem dX11_sort_24 : decode cX11_sort 24 = .ok (.goto 8, 3) := by decide +kernel
theorem dX11_sort_27 : decode cX11_sort 27 = .ok (.aload_n 0, 1) := by decide +kernel
theorem dX11_sort_28 : decode cX11_sort 28 = .ok (.iconst 1, 1) := by decide +kernel
theorem dX11_sort_29 : decode cX11_sort 29 = .ok (.invokevirtual 78, 3) := by decide +kernel
theorem dX11_sort_32 : decode cX11_sort 32 = .ok (.ireturn, 1) := by decide +kernel
set_option maxRecDepth 20000 in
theorem ggX11_sortAll_X11_sorts : GoodIn wsX11_sortAll wsX11_sorts := goodIn_r _ [8, 9, 2, 10, 11, 12, 7, 13, 14, 15, 21, 22, 23, 24, 25, 26, 27, 28, 29, 30, 31, 32, 33, 34, 35, 36, 37, 38, 39, 40, 41, 42, 43, 44, 45, 46, 47] (by decide +kernel) (by decide +kernel)
set_option maxRecDepth 20000 in
theorem gX11_sortAll_X11_sorts : GoodIn wsX11_sortAll (wsV RX11 159 RX11 yX11_sorts wsX11_sorts) := goodIn_app (goodIn_of _ (by decide +kernel)) ggX11_sortAll_X11_sorts
set_option maxRecDepth 20000 in
theorem ggX11_sortAll_X11_told : GoodIn wsX11_sortAll wsX11_told := goodIn_r _ [19, 20, 21, 22, 23, 24, 25, 26, 27, 28, 29, 30, 31, 32, 33, 34, 35, 36, 37, 38, 39, 40, 41, 42, 43, 44, 45, 46, 47] (by decide +kernel) (by decide +kernel)
set_option maxRecDepth 20000 in
theorem gX11_sortAll_X11_told : GoodIn wsX11_sortAll (wsV RX11 82 RX11 yX11_told wsX11_told) := goodIn_app (goodIn_of _ (by decide +kernel)) ggX11_sortAll_X11_told
theorem dX11_sortAll_0 : decode cX11_sortAll 0 = .ok (.iconst 0, 1) := by decide +kernel
theorem dX11_sortAll_1 : decode cX11_sortAll 1 = .ok (.istore_n 1, 1) := by decide +kernel
theorem dX11_sortAll_2 : decode cX11_sortAll 2 = .ok (.iconst 0, 1) := by decide +kernel
theorem dX11_sortAll_3 : decode cX11_sortAll 3 = .ok (.istore_n 2, 1) := by decide +kernel
theorem dX11_sortAll_4 : decode cX11_sortAll 4 = .ok (.iload_n 2, 1) := by decide +kernel
theorem dX11_sortAll_5 : decode cX11_sortAll 5 = .ok (.iconst 4, 1) := by decide +kernel
theorem dX11_sortAll_6 : decode cX11_sortAll 6 = .ok (.if_icmp .ge 48, 3) := by decide +kernel
theorem dX11_sortAll_9 : decode cX11_sortAll 9 = .ok (.iconst 0, 1) := by decide +kernel
theorem dX11_sortAll_10 : decode cX11_sortAll 10 = .ok (.istore_n 3, 1) := by decide +kernel
theorem dX11_sortAll_11 : decode cX11_sortAll 11 = .ok (.iload_n 3, 1) := by decide +kernel
theorem dX11_sortAll_12 : decode cX11_sortAll 12 = .ok (.aload_n 0, 1) := by decide +kernel
theorem dX11_sortAll_13 : decode cX11_sortAll 13 = .ok (.getfield 22, 3) := by decide +kernel
theorem dX11_sortAll_16 : decode cX11_sortAll 16 = .ok (.iload_n 2, 1) := by decide +kernel
theorem dX11_sortAll_17 : decode cX11_sortAll 17 = .ok (.iaload, 1) := by decide +kernel
theorem dX11_sortAll_18 : decode cX11_sortAll 18 = .ok (.if_icmp .ge 30, 3) := by decide +kernel
theorem dX11_sortAll_21 : decode cX11_sortAll 21 = .ok (.aload_n 0, 1) := by decide +kernel
theorem dX11_sortAll_22 : decode cX11_sortAll 22 = .ok (.getfield 35, 3) := by decide +kernel
theorem dX11_sortAll_25 : decode cX11_sortAll 25 = .ok (.iload_n 1, 1) := by decide +kernel
theorem dX11_sortAll_26 : decode cX11_sortAll 26 = .ok (.aload_n 0, 1) := by decide +kernel
theorem dX11_sortAll_27 : decode cX11_sortAll 27 = .ok (.getfield 16, 3) := by decide +kernel
theorem dX11_sortAll_30 : decode cX11_sortAll 30 = .ok (.sipush 800, 3) := by decide +kernel
theorem dX11_sortAll_33 : decode cX11_sortAll 33 = .ok (.iload_n 2, 1) := by decide +kernel
theorem dX11_sortAll_34 : decode cX11_sortAll 34 = .ok (.imul, 1) := by decide +kernel
theorem dX11_sortAll_35 : decode cX11_sortAll 35 = .ok (.iload_n 3, 1) := by decide +kernel
theorem dX11_sortAll_36 : decode cX11_sortAll 36 = .ok (.iadd, 1) := by decide +kernel
theorem dX11_sortAll_37 : decode cX11_sortAll 37 = .ok (.iaload, 1) := by decide +kernel
theorem dX11_sortAll_38 : decode cX11_sortAll 38 = .ok (.iastore, 1) := by decide +kernel
theorem dX11_sortAll_39 : decode cX11_sortAll 39 = .ok (.iinc 1 1, 3) := by decide +kernel
theorem dX11_sortAll_42 : decode cX11_sortAll 42 = .ok (.iinc 3 1, 3) := by decide +kernel
theorem dX11_sortAll_45 : decode cX11_sortAll 45 = .ok (.goto (-34), 3) := by decide +kernel
theorem dX11_sortAll_48 : decode cX11_sortAll 48 = .ok (.iinc 2 1, 3) := by decide +kernel
theorem dX11_sortAll_51 : decode cX11_sortAll 51 = .ok (.goto (-47), 3) := by decide +kernel
theorem dX11_sortAll_54 : decode cX11_sortAll 54 = .ok (.aload_n 0, 1) := by decide +kernel
theorem dX11_sortAll_55 : decode cX11_sortAll 55 = .ok (.iload_n 1, 1) := by decide +kernel
theorem dX11_sortAll_56 : decode cX11_sortAll 56 = .ok (.iconst 0, 1) := by decide +kernel
theorem dX11_sortAll_57 : decode cX11_sortAll 57 = .ok (.invokevirtual 159, 3) := by decide +kernel
theorem dX11_sortAll_60 : decode cX11_sortAll 60 = .ok (.istore_n 2, 1) := by decide +kernel
theorem dX11_sortAll_61 : decode cX11_sortAll 61 = .ok (.iconst 0, 1) := by decide +kernel
theorem dX11_sortAll_62 : decode cX11_sortAll 62 = .ok (.istore_n 1, 1) := by decide +kernel
theorem dX11_sortAll_63 : decode cX11_sortAll 63 = .ok (.iconst 0, 1) := by decide +kernel
theorem dX11_sortAll_64 : decode cX11_sortAll 64 = .ok (.istore_n 3, 1) := by decide +kernel
theorem dX11_sortAll_65 : decode cX11_sortAll 65 = .ok (.iload_n 3, 1) := by decide +kernel
theorem dX11_sortAll_66 : decode cX11_sortAll 66 = .ok (.iconst 4, 1) := by decide +kernel
theorem dX11_sortAll_67 : decode cX11_sortAll 67 = .ok (.if_icmp .ge 51, 3) := by decide +kernel
theorem dX11_sortAll_70 : decode cX11_sortAll 70 = .ok (.iconst 0, 1) := by decide +kernel
theorem dX11_sortAll_71 : decode cX11_sortAll 71 = .ok (.istore 4, 2) := by decide +kernel
theorem dX11_sortAll_73 : decode cX11_sortAll 73 = .ok (.iload 4, 2) := by decide +kernel
theorem dX11_sortAll_75 : decode cX11_sortAll 75 = .ok (.aload_n 0, 1) := by decide +kernel
theorem dX11_sortAll_76 : decode cX11_sortAll 76 = .ok (.getfield 22, 3) := by decide +kernel
theorem dX11_sortAll_79 : decode cX11_sortAll 79 = .ok (.iload_n 3, 1) := by decide +kernel
theorem dX11_sortAll_80 : decode cX11_sortAll 80 = .ok (.iaload, 1) := by decide +kernel
theorem dX11_sortAll_81 : decode cX11_sortAll 81 = .ok (.if_icmp .ge 31, 3) := by decide +kernel
theorem dX11_sortAll_84 : decode cX11_sortAll 84 = .ok (.aload_n 0, 1) := by decide +kernel
theorem dX11_sortAll_85 : decode cX11_sortAll 85 = .ok (.getfield 16, 3) := by decide +kernel
theorem dX11_sortAll_88 : decode cX11_sortAll 88 = .ok (.sipush 800, 3) := by decide +kernel
theorem dX11_sortAll_91 : decode cX11_sortAll 91 = .ok (.iload_n 3, 1) := by decide +kernel
theorem dX11_sortAll_92 : decode cX11_sortAll 92 = .ok (.imul, 1) := by decide +kernel
theorem dX11_sortAll_93 : decode cX11_sortAll 93 = .ok (.iload 4, 2) := by decide +kernel
theorem dX11_sortAll_95 : decode cX11_sortAll 95 = .ok (.iadd, 1) := by decide +kernel
theorem dX11_sortAll_96 : decode cX11_sortAll 96 = .ok (.aload_n 0, 1) := by decide +kernel
theorem dX11_sortAll_97 : decode cX11_sortAll 97 = .ok (.getfield 35, 3) := by decide +kernel
theorem dX11_sortAll_100 : decode cX11_sortAll 100 = .ok (.iload_n 1, 1) := by decide +kernel
theorem dX11_sortAll_101 : decode cX11_sortAll 101 = .ok (.iaload, 1) := by decide +kernel
theorem dX11_sortAll_102 : decode cX11_sortAll 102 = .ok (.iastore, 1) := by decide +kernel
theorem dX11_sortAll_103 : decode cX11_sortAll 103 = .ok (.iinc 1 1, 3) := by decide +kernel
theorem dX11_sortAll_106 : decode cX11_sortAll 106 = .ok (.iinc 4 1, 3) := by decide +kernel
theorem dX11_sortAll_109 : decode cX11_sortAll 109 = .ok (.goto (-36), 3) := by decide +kernel
theorem dX11_sortAll_112 : decode cX11_sortAll 112 = .ok (.iinc 3 1, 3) := by decide +kernel
theorem dX11_sortAll_115 : decode cX11_sortAll 115 = .ok (.goto (-50), 3) := by decide +kernel
theorem dX11_sortAll_118 : decode cX11_sortAll 118 = .ok (.aload_n 0, 1) := by decide +kernel
theorem dX11_sortAll_119 : decode cX11_sortAll 119 = .ok (.iload_n 2, 1) := by decide +kernel
theorem dX11_sortAll_120 : decode cX11_sortAll 120 = .ok (.invokevirtual 82, 3) := by decide +kernel
theorem dX11_sortAll_123 : decode cX11_sortAll 123 = .ok (.ireturn, 1) := by decide +kernel
set_option maxRecDepth 20000 in
theorem ggX11_isPart_X11_isRow : GoodIn wsX11_isPart wsX11_isRow := goodIn_r _ [5, 6, 7, 4, 8] (by decide +kernel) (by decide +kernel)
set_option maxRecDepth 20000 in
theorem gX11_isPart_X11_isRow : GoodIn wsX11_isPart (va_wsS RX11 147 yX11_isRow wsX11_isRow) := goodIn_app (goodIn_of _ (by decide +kernel)) ggX11_isPart_X11_isRow
theorem dX11_isPart_0 : decode cX11_isPart 0 = .ok (.iload_n 1, 1) := by decide +kernel
theorem dX11_isPart_1 : decode cX11_isPart 1 = .ok (.invokestatic 147, 3) := by decide +kernel
theorem dX11_isPart_4 : decode cX11_isPart 4 = .ok (.ifCond .eq 21, 3) := by decide +kernel
theorem dX11_isPart_7 : decode cX11_isPart 7 = .ok (.iload_n 2, 1) := by decide +kernel
theorem dX11_isPart_8 : decode cX11_isPart 8 = .ok (.ifCond .lt 17, 3) := by decide +kernel
theorem dX11_isPart_11 : decode cX11_isPart 11 = .ok (.iload_n 3, 1) := by decide +kernel
theorem dX11_isPart_12 : decode cX11_isPart 12 = .ok (.aload_n 0, 1) := by decide +kernel
theorem dX11_isPart_13 : decode cX11_isPart 13 = .ok (.getfield 22, 3) := by decide +kernel
theorem dX11_isPart_16 : decode cX11_isPart 16 = .ok (.iload_n 1, 1) := by decide +kernel
theorem dX11_isPart_17 : decode cX11_isPart 17 = .ok (.iaload, 1) := by decide +kernel
theorem dX11_isPart_18 : decode cX11_isPart 18 = .ok (.if_icmp .gt 7, 3) := by decide +kernel
theorem dX11_isPart_21 : decode cX11_isPart 21 = .ok (.iconst 1, 1) := by decide +kernel
theorem dX11_isPart_22 : decode cX11_isPart 22 = .ok (.goto 4, 3) := by decide +kernel
theorem dX11_isPart_25 : decode cX11_isPart 25 = .ok (.iconst 0, 1) := by decide +kernel
theorem dX11_isPart_26 : decode cX11_isPart 26 = .ok (.ireturn, 1) := by decide +kernel
set_option maxRecDepth 20000 in
theorem ggX11_sortPart_X11_isPart : GoodIn wsX11_sortPart wsX11_isPart := goodIn_r _ [5, 6, 7, 8, 4, 9, 10, 11, 12, 39, 40, 41, 42, 43, 44, 45, 46, 47, 48, 49, 50, 51, 52, 53, 54, 55, 56, 57, 58, 59, 60, 61, 62, 63, 64, 65] (by decide +kernel) (by decide +kernel)
set_option maxRecDepth 20000 in
theorem gX11_sortPart_X11_isPart : GoodIn wsX11_sortPart (wsV RX11 166 RX11 yX11_isPart wsX11_isPart) := goodIn_app (goodIn_of _ (by decide +kernel)) ggX11_sortPart_X11_isPart
set_option maxRecDepth 20000 in
theorem ggX11_sortPart_X11_refuse : GoodIn wsX11_sortPart wsX11_refuse := goodIn_r _ [16, 17, 39, 40, 41, 42, 43, 44, 45, 46, 47, 48, 49, 50, 51, 52, 53, 54, 55, 56, 57, 58, 59, 60, 61, 62, 63, 64, 65] (by decide +kernel) (by decide +kernel)
set_option maxRecDepth 20000 in
theorem gX11_sortPart_X11_refuse : GoodIn wsX11_sortPart (wsV RX11 78 RX11 yX11_refuse wsX11_refuse) := goodIn_app (goodIn_of _ (by decide +kernel)) ggX11_sortPart_X11_refuse
set_option maxRecDepth 20000 in
theorem ggX11_sortPart_X11_sortsPart : GoodIn wsX11_sortPart wsX11_sortsPart := goodIn_r _ [21, 22, 23, 24, 25, 26, 4, 27, 28, 29, 30, 31, 32, 33, 34, 39, 40, 41, 42, 43, 44, 45, 46, 47, 48, 49, 50, 51, 52, 53, 54, 55, 56, 57, 58, 59, 60, 61, 62, 63, 64, 65] (by decide +kernel) (by decide +kernel)
set_option maxRecDepth 20000 in
theorem gX11_sortPart_X11_sortsPart : GoodIn wsX11_sortPart (wsV RX11 162 RX11 yX11_sortsPart wsX11_sortsPart) := goodIn_app (goodIn_of _ (by decide +kernel)) ggX11_sortPart_X11_sortsPart
set_option maxRecDepth 20000 in
theorem ggX11_sortPart_X11_told : GoodIn wsX11_sortPart wsX11_told := goodIn_r _ [38, 17, 39, 40, 41, 42, 43, 44, 45, 46, 47, 48, 49, 50, 51, 52, 53, 54, 55, 56, 57, 58, 59, 60, 61, 62, 63, 64, 65] (by decide +kernel) (by decide +kernel)
set_option maxRecDepth 20000 in
theorem gX11_sortPart_X11_told : GoodIn wsX11_sortPart (wsV RX11 82 RX11 yX11_told wsX11_told) := goodIn_app (goodIn_of _ (by decide +kernel)) ggX11_sortPart_X11_told
theorem dX11_sortPart_0 : decode cX11_sortPart 0 = .ok (.aload_n 0, 1) := by decide +kernel
theorem dX11_sortPart_1 : decode cX11_sortPart 1 = .ok (.iload_n 1, 1) := by decide +kernel
theorem dX11_sortPart_2 : decode cX11_sortPart 2 = .ok (.iload_n 2, 1) := by decide +kernel
theorem dX11_sortPart_3 : decode cX11_sortPart 3 = .ok (.iload_n 3, 1) := by decide +kernel
theorem dX11_sortPart_4 : decode cX11_sortPart 4 = .ok (.invokevirtual 166, 3) := by decide +kernel
theorem dX11_sortPart_7 : decode cX11_sortPart 7 = .ok (.ifCond .ne 9, 3) := by decide +kernel
theorem dX11_sortPart_10 : decode cX11_sortPart 10 = .ok (.aload_n 0, 1) := by decide +kernel
theorem dX11_sortPart_11 : decode cX11_sortPart 11 = .ok (.iconst 1, 1) := by decide +kernel
theorem dX11_sortPart_12 : decode cX11_sortPart 12 = .ok (.invokevirtual 78, 3) := by decide +kernel
theorem dX11_sortPart_15 : decode cX11_sortPart 15 = .ok (.ireturn, 1) := by decide +kernel
theorem dX11_sortPart_16 : decode cX11_sortPart 16 = .ok (.iload_n 2, 1) := by decide +kernel
theorem dX11_sortPart_17 : decode cX11_sortPart 17 = .ok (.iload_n 3, 1) := by decide +kernel
theorem dX11_sortPart_18 : decode cX11_sortPart 18 = .ok (.if_icmp .le 11, 3) := by decide +kernel
theorem dX11_sortPart_21 : decode cX11_sortPart 21 = .ok (.aload_n 0, 1) := by decide +kernel
theorem dX11_sortPart_22 : decode cX11_sortPart 22 = .ok (.iconst 2, 1) := by decide +kernel
theorem dX11_sortPart_23 : decode cX11_sortPart 23 = .ok (.invokevirtual 78, 3) := by decide +kernel
theorem dX11_sortPart_26 : decode cX11_sortPart 26 = .ok (.goto 15, 3) := by decide +kernel
theorem dX11_sortPart_29 : decode cX11_sortPart 29 = .ok (.aload_n 0, 1) := by decide +kernel
theorem dX11_sortPart_30 : decode cX11_sortPart 30 = .ok (.aload_n 0, 1) := by decide +kernel
theorem dX11_sortPart_31 : decode cX11_sortPart 31 = .ok (.iload_n 1, 1) := by decide +kernel
theorem dX11_sortPart_32 : decode cX11_sortPart 32 = .ok (.iload_n 2, 1) := by decide +kernel
theorem dX11_sortPart_33 : decode cX11_sortPart 33 = .ok (.iload_n 3, 1) := by decide +kernel
theorem dX11_sortPart_34 : decode cX11_sortPart 34 = .ok (.iconst 0, 1) := by decide +kernel
theorem dX11_sortPart_35 : decode cX11_sortPart 35 = .ok (.invokevirtual 162, 3) := by decide +kernel
theorem dX11_sortPart_38 : decode cX11_sortPart 38 = .ok (.invokevirtual 82, 3) := by decide +kernel
theorem dX11_sortPart_41 : decode cX11_sortPart 41 = .ok (.ireturn, 1) := by decide +kernel
set_option maxRecDepth 20000 in
theorem ggX11_sortDown_X11_isPart : GoodIn wsX11_sortDown wsX11_isPart := goodIn_r _ [5, 6, 7, 8, 4, 9, 10, 11, 12, 39, 40, 41, 42, 43, 44, 45, 46, 47, 48, 49, 50, 51, 52, 53, 54, 55, 56, 57, 58, 59, 60, 61, 62, 63, 64, 65] (by decide +kernel) (by decide +kernel)
set_option maxRecDepth 20000 in
theorem gX11_sortDown_X11_isPart : GoodIn wsX11_sortDown (wsV RX11 166 RX11 yX11_isPart wsX11_isPart) := goodIn_app (goodIn_of _ (by decide +kernel)) ggX11_sortDown_X11_isPart
set_option maxRecDepth 20000 in
theorem ggX11_sortDown_X11_refuse : GoodIn wsX11_sortDown wsX11_refuse := goodIn_r _ [16, 17, 39, 40, 41, 42, 43, 44, 45, 46, 47, 48, 49, 50, 51, 52, 53, 54, 55, 56, 57, 58, 59, 60, 61, 62, 63, 64, 65] (by decide +kernel) (by decide +kernel)
set_option maxRecDepth 20000 in
theorem gX11_sortDown_X11_refuse : GoodIn wsX11_sortDown (wsV RX11 78 RX11 yX11_refuse wsX11_refuse) := goodIn_app (goodIn_of _ (by decide +kernel)) ggX11_sortDown_X11_refuse
set_option maxRecDepth 20000 in
theorem ggX11_sortDown_X11_sortsPart : GoodIn wsX11_sortDown wsX11_sortsPart := goodIn_r _ [21, 22, 23, 24, 25, 26, 4, 27, 28, 29, 30, 31, 32, 33, 34, 39, 40, 41, 42, 43, 44, 45, 46, 47, 48, 49, 50, 51, 52, 53, 54, 55, 56, 57, 58, 59, 60, 61, 62, 63, 64, 65] (by decide +kernel) (by decide +kernel)
set_option maxRecDepth 20000 in
theorem gX11_sortDown_X11_sortsPart : GoodIn wsX11_sortDown (wsV RX11 162 RX11 yX11_sortsPart wsX11_sortsPart) := goodIn_app (goodIn_of _ (by decide +kernel)) ggX11_sortDown_X11_sortsPart
set_option maxRecDepth 20000 in
theorem ggX11_sortDown_X11_told : GoodIn wsX11_sortDown wsX11_told := goodIn_r _ [38, 17, 39, 40, 41, 42, 43, 44, 45, 46, 47, 48, 49, 50, 51, 52, 53, 54, 55, 56, 57, 58, 59, 60, 61, 62, 63, 64, 65] (by decide +kernel) (by decide +kernel)
set_option maxRecDepth 20000 in
theorem gX11_sortDown_X11_told : GoodIn wsX11_sortDown (wsV RX11 82 RX11 yX11_told wsX11_told) := goodIn_app (goodIn_of _ (by decide +kernel)) ggX11_sortDown_X11_told
theorem dX11_sortDown_0 : decode cX11_sortDown 0 = .ok (.aload_n 0, 1) := by decide +kernel
theorem dX11_sortDown_1 : decode cX11_sortDown 1 = .ok (.iload_n 1, 1) := by decide +kernel
theorem dX11_sortDown_2 : decode cX11_sortDown 2 = .ok (.iload_n 2, 1) := by decide +kernel
theorem dX11_sortDown_3 : decode cX11_sortDown 3 = .ok (.iload_n 3, 1) := by decide +kernel
theorem dX11_sortDown_4 : decode cX11_sortDown 4 = .ok (.invokevirtual 166, 3) := by decide +kernel
theorem dX11_sortDown_7 : decode cX11_sortDown 7 = .ok (.ifCond .ne 9, 3) := by decide +kernel
theorem dX11_sortDown_10 : decode cX11_sortDown 10 = .ok (.aload_n 0, 1) := by decide +kernel
theorem dX11_sortDown_11 : decode cX11_sortDown 11 = .ok (.iconst 1, 1) := by decide +kernel
theorem dX11_sortDown_12 : decode cX11_sortDown 12 = .ok (.invokevirtual 78, 3) := by decide +kernel
theorem dX11_sortDown_15 : decode cX11_sortDown 15 = .ok (.ireturn, 1) := by decide +kernel
theorem dX11_sortDown_16 : decode cX11_sortDown 16 = .ok (.iload_n 2, 1) := by decide +kernel
theorem dX11_sortDown_17 : decode cX11_sortDown 17 = .ok (.iload_n 3, 1) := by decide +kernel
theorem dX11_sortDown_18 : decode cX11_sortDown 18 = .ok (.if_icmp .gt 11, 3) := by decide +kernel
theorem dX11_sortDown_21 : decode cX11_sortDown 21 = .ok (.iload_n 3, 1) := by decide +kernel
theorem dX11_sortDown_22 : decode cX11_sortDown 22 = .ok (.iload_n 2, 1) := by decide +kernel
theorem dX11_sortDown_23 : decode cX11_sortDown 23 = .ok (.isub, 1) := by decide +kernel
theorem dX11_sortDown_24 : decode cX11_sortDown 24 = .ok (.bipush 31, 2) := by decide +kernel
theorem dX11_sortDown_26 : decode cX11_sortDown 26 = .ok (.if_icmp .le 11, 3) := by decide +kernel
theorem dX11_sortDown_29 : decode cX11_sortDown 29 = .ok (.aload_n 0, 1) := by decide +kernel
theorem dX11_sortDown_30 : decode cX11_sortDown 30 = .ok (.iconst 2, 1) := by decide +kernel
theorem dX11_sortDown_31 : decode cX11_sortDown 31 = .ok (.invokevirtual 78, 3) := by decide +kernel
theorem dX11_sortDown_34 : decode cX11_sortDown 34 = .ok (.goto 15, 3) := by decide +kernel
theorem dX11_sortDown_37 : decode cX11_sortDown 37 = .ok (.aload_n 0, 1) := by decide +kernel
theorem dX11_sortDown_38 : decode cX11_sortDown 38 = .ok (.aload_n 0, 1) := by decide +kernel
theorem dX11_sortDown_39 : decode cX11_sortDown 39 = .ok (.iload_n 1, 1) := by decide +kernel
theorem dX11_sortDown_40 : decode cX11_sortDown 40 = .ok (.iload_n 2, 1) := by decide +kernel
theorem dX11_sortDown_41 : decode cX11_sortDown 41 = .ok (.iload_n 3, 1) := by decide +kernel
theorem dX11_sortDown_42 : decode cX11_sortDown 42 = .ok (.iconst 1, 1) := by decide +kernel
theorem dX11_sortDown_43 : decode cX11_sortDown 43 = .ok (.invokevirtual 162, 3) := by decide +kernel
theorem dX11_sortDown_46 : decode cX11_sortDown 46 = .ok (.invokevirtual 82, 3) := by decide +kernel
theorem dX11_sortDown_49 : decode cX11_sortDown 49 = .ok (.ireturn, 1) := by decide +kernel
set_option maxRecDepth 20000 in
theorem ggX11_sortBySecond_X11_isRow : GoodIn wsX11_sortBySecond wsX11_isRow := goodIn_r _ [5, 6, 7, 4, 8] (by decide +kernel) (by decide +kernel)
set_option maxRecDepth 20000 in
theorem gX11_sortBySecond_X11_isRow : GoodIn wsX11_sortBySecond (va_wsS RX11 147 yX11_isRow wsX11_isRow) := goodIn_app (goodIn_of _ (by decide +kernel)) ggX11_sortBySecond_X11_isRow
set_option maxRecDepth 20000 in
theorem ggX11_sortBySecond_X11_sortsPart : GoodIn wsX11_sortBySecond wsX11_sortsPart := goodIn_r _ [12, 13, 14, 15, 16, 17, 4, 18, 19, 20, 21, 22, 23, 24, 25, 35, 36, 37, 38, 39, 40, 41, 42, 43, 44, 45, 46, 47, 48, 49, 50, 51, 52, 53, 54, 55, 56, 57, 58, 59, 60, 61] (by decide +kernel) (by decide +kernel)
set_option maxRecDepth 20000 in
theorem gX11_sortBySecond_X11_sortsPart : GoodIn wsX11_sortBySecond (wsV RX11 162 RX11 yX11_sortsPart wsX11_sortsPart) := goodIn_app (goodIn_of _ (by decide +kernel)) ggX11_sortBySecond_X11_sortsPart
set_option maxRecDepth 20000 in
theorem ggX11_sortBySecond_X11_told : GoodIn wsX11_sortBySecond wsX11_told := goodIn_r _ [29, 30, 35, 36, 37, 38, 39, 40, 41, 42, 43, 44, 45, 46, 47, 48, 49, 50, 51, 52, 53, 54, 55, 56, 57, 58, 59, 60, 61] (by decide +kernel) (by decide +kernel)
set_option maxRecDepth 20000 in
theorem gX11_sortBySecond_X11_told : GoodIn wsX11_sortBySecond (wsV RX11 82 RX11 yX11_told wsX11_told) := goodIn_app (goodIn_of _ (by decide +kernel)) ggX11_sortBySecond_X11_told
set_option maxRecDepth 20000 in
theorem ggX11_sortBySecond_X11_refuse : GoodIn wsX11_sortBySecond wsX11_refuse := goodIn_r _ [34, 30, 35, 36, 37, 38, 39, 40, 41, 42, 43, 44, 45, 46, 47, 48, 49, 50, 51, 52, 53, 54, 55, 56, 57, 58, 59, 60, 61] (by decide +kernel) (by decide +kernel)
set_option maxRecDepth 20000 in
theorem gX11_sortBySecond_X11_refuse : GoodIn wsX11_sortBySecond (wsV RX11 78 RX11 yX11_refuse wsX11_refuse) := goodIn_app (goodIn_of _ (by decide +kernel)) ggX11_sortBySecond_X11_refuse
theorem dX11_sortBySecond_0 : decode cX11_sortBySecond 0 = .ok (.iload_n 1, 1) := by decide +kernel
theorem dX11_sortBySecond_1 : decode cX11_sortBySecond 1 = .ok (.invokestatic 147, 3) := by decide +kernel
theorem dX11_sortBySecond_4 : decode cX11_sortBySecond 4 = .ok (.ifCond .eq 23, 3) := by decide +kernel
theorem dX11_sortBySecond_7 : decode cX11_sortBySecond 7 = .ok (.aload_n 0, 1) := by decide +kernel
theorem dX11_sortBySecond_8 : decode cX11_sortBySecond 8 = .ok (.aload_n 0, 1) := by decide +kernel
theorem dX11_sortBySecond_9 : decode cX11_sortBySecond 9 = .ok (.iload_n 1, 1) := by decide +kernel
theorem dX11_sortBySecond_10 : decode cX11_sortBySecond 10 = .ok (.iconst 0, 1) := by decide +kernel
theorem dX11_sortBySecond_11 : decode cX11_sortBySecond 11 = .ok (.aload_n 0, 1) := by decide +kernel
theorem dX11_sortBySecond_12 : decode cX11_sortBySecond 12 = .ok (.getfield 22, 3) := by decide +kernel
theorem dX11_sortBySecond_15 : decode cX11_sortBySecond 15 = .ok (.iload_n 1, 1) := by decide +kernel
theorem dX11_sortBySecond_16 : decode cX11_sortBySecond 16 = .ok (.iaload, 1) := by decide +kernel
theorem dX11_sortBySecond_17 : decode cX11_sortBySecond 17 = .ok (.iconst 2, 1) := by decide +kernel
theorem dX11_sortBySecond_18 : decode cX11_sortBySecond 18 = .ok (.invokevirtual 162, 3) := by decide +kernel
theorem dX11_sortBySecond_21 : decode cX11_sortBySecond 21 = .ok (.invokevirtual 82, 3) := by decide +kernel
theorem dX11_sortBySecond_24 : decode cX11_sortBySecond 24 = .ok (.goto 8, 3) := by decide +kernel
theorem dX11_sortBySecond_27 : decode cX11_sortBySecond 27 = .ok (.aload_n 0, 1) := by decide +kernel
theorem dX11_sortBySecond_28 : decode cX11_sortBySecond 28 = .ok (.iconst 1, 1) := by decide +kernel
theorem dX11_sortBySecond_29 : decode cX11_sortBySecond 29 = .ok (.invokevirtual 78, 3) := by decide +kernel
theorem dX11_sortBySecond_32 : decode cX11_sortBySecond 32 = .ok (.ireturn, 1) := by decide +kernel
set_option maxRecDepth 20000 in
theorem ggX11_sortByBoth_X11_isRow : GoodIn wsX11_sortByBoth wsX11_isRow := goodIn_r _ [5, 6, 7, 4, 8] (by decide +kernel) (by decide +kernel)
set_option maxRecDepth 20000 in
theorem gX11_sortByBoth_X11_isRow : GoodIn wsX11_sortByBoth (va_wsS RX11 147 yX11_isRow wsX11_isRow) := goodIn_app (goodIn_of _ (by decide +kernel)) ggX11_sortByBoth_X11_isRow
set_option maxRecDepth 20000 in
theorem ggX11_sortByBoth_X11_sortsPart : GoodIn wsX11_sortByBoth wsX11_sortsPart := goodIn_r _ [12, 13, 14, 15, 16, 17, 4, 18, 19, 20, 21, 22, 23, 24, 25, 35, 36, 37, 38, 39, 40, 41, 42, 43, 44, 45, 46, 47, 48, 49, 50, 51, 52, 53, 54, 55, 56, 57, 58, 59, 60, 61] (by decide +kernel) (by decide +kernel)
set_option maxRecDepth 20000 in
theorem gX11_sortByBoth_X11_sortsPart : GoodIn wsX11_sortByBoth (wsV RX11 162 RX11 yX11_sortsPart wsX11_sortsPart) := goodIn_app (goodIn_of _ (by decide +kernel)) ggX11_sortByBoth_X11_sortsPart
set_option maxRecDepth 20000 in
theorem ggX11_sortByBoth_X11_told : GoodIn wsX11_sortByBoth wsX11_told := goodIn_r _ [29, 30, 35, 36, 37, 38, 39, 40, 41, 42, 43, 44, 45, 46, 47, 48, 49, 50, 51, 52, 53, 54, 55, 56, 57, 58, 59, 60, 61] (by decide +kernel) (by decide +kernel)
set_option maxRecDepth 20000 in
theorem gX11_sortByBoth_X11_told : GoodIn wsX11_sortByBoth (wsV RX11 82 RX11 yX11_told wsX11_told) := goodIn_app (goodIn_of _ (by decide +kernel)) ggX11_sortByBoth_X11_told
set_option maxRecDepth 20000 in
theorem ggX11_sortByBoth_X11_refuse : GoodIn wsX11_sortByBoth wsX11_refuse := goodIn_r _ [34, 30, 35, 36, 37, 38, 39, 40, 41, 42, 43, 44, 45, 46, 47, 48, 49, 50, 51, 52, 53, 54, 55, 56, 57, 58, 59, 60, 61] (by decide +kernel) (by decide +kernel)
set_option maxRecDepth 20000 in
theorem gX11_sortByBoth_X11_refuse : GoodIn wsX11_sortByBoth (wsV RX11 78 RX11 yX11_refuse wsX11_refuse) := goodIn_app (goodIn_of _ (by decide +kernel)) ggX11_sortByBoth_X11_refuse
theorem dX11_sortByBoth_0 : decode cX11_sortByBoth 0 = .ok (.iload_n 1, 1) := by decide +kernel
theorem dX11_sortByBoth_1 : decode cX11_sortByBoth 1 = .ok (.invokestatic 147, 3) := by decide +kernel
theorem dX11_sortByBoth_4 : decode cX11_sortByBoth 4 = .ok (.ifCond .eq 23, 3) := by decide +kernel
theorem dX11_sortByBoth_7 : decode cX11_sortByBoth 7 = .ok (.aload_n 0, 1) := by decide +kernel
theorem dX11_sortByBoth_8 : decode cX11_sortByBoth 8 = .ok (.aload_n 0, 1) := by decide +kernel
theorem dX11_sortByBoth_9 : decode cX11_sortByBoth 9 = .ok (.iload_n 1, 1) := by decide +kernel
theorem dX11_sortByBoth_10 : decode cX11_sortByBoth 10 = .ok (.iconst 0, 1) := by decide +kernel
theorem dX11_sortByBoth_11 : decode cX11_sortByBoth 11 = .ok (.aload_n 0, 1) := by decide +kernel
theorem dX11_sortByBoth_12 : decode cX11_sortByBoth 12 = .ok (.getfield 22, 3) := by decide +kernel
theorem dX11_sortByBoth_15 : decode cX11_sortByBoth 15 = .ok (.iload_n 1, 1) := by decide +kernel
theorem dX11_sortByBoth_16 : decode cX11_sortByBoth 16 = .ok (.iaload, 1) := by decide +kernel
theorem dX11_sortByBoth_17 : decode cX11_sortByBoth 17 = .ok (.iconst 3, 1) := by decide +kernel
theorem dX11_sortByBoth_18 : decode cX11_sortByBoth 18 = .ok (.invokevirtual 162, 3) := by decide +kernel
theorem dX11_sortByBoth_21 : decode cX11_sortByBoth 21 = .ok (.invokevirtual 82, 3) := by decide +kernel
theorem dX11_sortByBoth_24 : decode cX11_sortByBoth 24 = .ok (.goto 8, 3) := by decide +kernel
theorem dX11_sortByBoth_27 : decode cX11_sortByBoth 27 = .ok (.aload_n 0, 1) := by decide +kernel
theorem dX11_sortByBoth_28 : decode cX11_sortByBoth 28 = .ok (.iconst 1, 1) := by decide +kernel
theorem dX11_sortByBoth_29 : decode cX11_sortByBoth 29 = .ok (.invokevirtual 78, 3) := by decide +kernel
theorem dX11_sortByBoth_32 : decode cX11_sortByBoth 32 = .ok (.ireturn, 1) := by decide +kernel
set_option maxRecDepth 20000 in
theorem ggX11_pour_X11_isRow : GoodIn wsX11_pour wsX11_isRow := goodIn_r _ [6, 7, 8, 5, 9] (by decide +kernel) (by decide +kernel)
set_option maxRecDepth 20000 in
theorem gX11_pour_X11_isRow : GoodIn wsX11_pour (va_wsS RX11 147 yX11_isRow wsX11_isRow) := goodIn_app (goodIn_of _ (by decide +kernel)) ggX11_pour_X11_isRow
set_option maxRecDepth 20000 in
theorem ggX11_pour_X11_refuse : GoodIn wsX11_pour wsX11_refuse := goodIn_r _ [13, 14, 19, 20, 21, 22, 23, 24, 25, 26, 27, 28, 29, 30, 31, 32, 33, 34, 35, 36, 37, 38, 39, 40, 41, 42, 43, 44, 45] (by decide +kernel) (by decide +kernel)
set_option maxRecDepth 20000 in
theorem gX11_pour_X11_refuse : GoodIn wsX11_pour (wsV RX11 78 RX11 yX11_refuse wsX11_refuse) := goodIn_app (goodIn_of _ (by decide +kernel)) ggX11_pour_X11_refuse
set_option maxRecDepth 20000 in
theorem ggX11_pour_X11_told : GoodIn wsX11_pour wsX11_told := goodIn_r _ [18, 14, 19, 20, 21, 22, 23, 24, 25, 26, 27, 28, 29, 30, 31, 32, 33, 34, 35, 36, 37, 38, 39, 40, 41, 42, 43, 44, 45] (by decide +kernel) (by decide +kernel)
set_option maxRecDepth 20000 in
theorem gX11_pour_X11_told : GoodIn wsX11_pour (wsV RX11 82 RX11 yX11_told wsX11_told) := goodIn_app (goodIn_of _ (by decide +kernel)) ggX11_pour_X11_told
theorem dX11_pour_0 : decode cX11_pour 0 = .ok (.iload_n 1, 1) := by decide +kernel
theorem dX11_pour_1 : decode cX11_pour 1 = .ok (.invokestatic 147, 3) := by decide +kernel
theorem dX11_pour_4 : decode cX11_pour 4 = .ok (.ifCond .eq 10, 3) := by decide +kernel
theorem dX11_pour_7 : decode cX11_pour 7 = .ok (.iload_n 2, 1) := by decide +kernel
theorem dX11_pour_8 : decode cX11_pour 8 = .ok (.invokestatic 147, 3) := by decide +kernel
theorem dX11_pour_11 : decode cX11_pour 11 = .ok (.ifCond .ne 9, 3) := by decide +kernel
theorem dX11_pour_14 : decode cX11_pour 14 = .ok (.aload_n 0, 1) := by decide +kernel
theorem dX11_pour_15 : decode cX11_pour 15 = .ok (.iconst 1, 1) := by decide +kernel
theorem dX11_pour_16 : decode cX11_pour 16 = .ok (.invokevirtual 78, 3) := by decide +kernel
theorem dX11_pour_19 : decode cX11_pour 19 = .ok (.ireturn, 1) := by decide +kernel
theorem dX11_pour_20 : decode cX11_pour 20 = .ok (.iload_n 1, 1) := by decide +kernel
theorem dX11_pour_21 : decode cX11_pour 21 = .ok (.iload_n 2, 1) := by decide +kernel
theorem dX11_pour_22 : decode cX11_pour 22 = .ok (.if_icmp .ne 9, 3) := by decide +kernel
theorem dX11_pour_25 : decode cX11_pour 25 = .ok (.aload_n 0, 1) := by decide +kernel
theorem dX11_pour_26 : decode cX11_pour 26 = .ok (.iconst 2, 1) := by decide +kernel
theorem dX11_pour_27 : decode cX11_pour 27 = .ok (.invokevirtual 78, 3) := by decide +kernel
theorem dX11_pour_30 : decode cX11_pour 30 = .ok (.ireturn, 1) := by decide +kernel
theorem dX11_pour_31 : decode cX11_pour 31 = .ok (.aload_n 0, 1) := by decide +kernel
theorem dX11_pour_32 : decode cX11_pour 32 = .ok (.getfield 22, 3) := by decide +kernel
theorem dX11_pour_35 : decode cX11_pour 35 = .ok (.iload_n 1, 1) := by decide +kernel
theorem dX11_pour_36 : decode cX11_pour 36 = .ok (.iaload, 1) := by decide +kernel
theorem dX11_pour_37 : decode cX11_pour 37 = .ok (.aload_n 0, 1) := by decide +kernel
theorem dX11_pour_38 : decode cX11_pour 38 = .ok (.getfield 22, 3) := by decide +kernel
theorem dX11_pour_41 : decode cX11_pour 41 = .ok (.iload_n 2, 1) := by decide +kernel
theorem dX11_pour_42 : decode cX11_pour 42 = .ok (.iaload, 1) := by decide +kernel
theorem dX11_pour_43 : decode cX11_pour 43 = .ok (.iadd, 1) := by decide +kernel
theorem dX11_pour_44 : decode cX11_pour 44 = .ok (.sipush 800, 3) := by decide +kernel
theorem dX11_pour_47 : decode cX11_pour 47 = .ok (.if_icmp .le 9, 3) := by decide +kernel
theorem dX11_pour_50 : decode cX11_pour 50 = .ok (.aload_n 0, 1) := by decide +kernel
theorem dX11_pour_51 : decode cX11_pour 51 = .ok (.iconst 3, 1) := by decide +kernel
theorem dX11_pour_52 : decode cX11_pour 52 = .ok (.invokevirtual 78, 3) := by decide +kernel
theorem dX11_pour_55 : decode cX11_pour 55 = .ok (.ireturn, 1) := by decide +kernel
theorem dX11_pour_56 : decode cX11_pour 56 = .ok (.iconst 0, 1) := by decide +kernel
theorem dX11_pour_57 : decode cX11_pour 57 = .ok (.istore_n 3, 1) := by decide +kernel
theorem dX11_pour_58 : decode cX11_pour 58 = .ok (.iload_n 3, 1) := by decide +kernel
theorem dX11_pour_59 : decode cX11_pour 59 = .ok (.aload_n 0, 1) := by decide +kernel
theorem dX11_pour_60 : decode cX11_pour 60 = .ok (.getfield 22, 3) := by decide +kernel
theorem dX11_pour_63 : decode cX11_pour 63 = .ok (.iload_n 1, 1) := by decide +kernel
theorem dX11_pour_64 : decode cX11_pour 64 = .ok (.iaload, 1) := by decide +kernel
theorem dX11_pour_65 : decode cX11_pour 65 = .ok (.if_icmp .ge 40, 3) := by decide +kernel
theorem dX11_pour_68 : decode cX11_pour 68 = .ok (.aload_n 0, 1) := by decide +kernel
theorem dX11_pour_69 : decode cX11_pour 69 = .ok (.getfield 16, 3) := by decide +kernel
theorem dX11_pour_72 : decode cX11_pour 72 = .ok (.sipush 800, 3) := by decide +kernel
theorem dX11_pour_75 : decode cX11_pour 75 = .ok (.iload_n 2, 1) := by decide +kernel
theorem dX11_pour_76 : decode cX11_pour 76 = .ok (.imul, 1) := by decide +kernel
theorem dX11_pour_77 : decode cX11_pour 77 = .ok (.aload_n 0, 1) := by decide +kernel
theorem dX11_pour_78 : decode cX11_pour 78 = .ok (.getfield 22, 3) := by decide +kernel
theorem dX11_pour_81 : decode cX11_pour 81 = .ok (.iload_n 2, 1) := by decide +kernel
theorem dX11_pour_82 : decode cX11_pour 82 = .ok (.iaload, 1) := by decide +kernel
theorem dX11_pour_83 : decode cX11_pour 83 = .ok (.iadd, 1) := by decide +kernel
theorem dX11_pour_84 : decode cX11_pour 84 = .ok (.iload_n 3, 1) := by decide +kernel
theorem dX11_pour_85 : decode cX11_pour 85 = .ok (.iadd, 1) := by decide +kernel
theorem dX11_pour_86 : decode cX11_pour 86 = .ok (.aload_n 0, 1) := by decide +kernel
theorem dX11_pour_87 : decode cX11_pour 87 = .ok (.getfield 16, 3) := by decide +kernel
theorem dX11_pour_90 : decode cX11_pour 90 = .ok (.sipush 800, 3) := by decide +kernel
theorem dX11_pour_93 : decode cX11_pour 93 = .ok (.iload_n 1, 1) := by decide +kernel
theorem dX11_pour_94 : decode cX11_pour 94 = .ok (.imul, 1) := by decide +kernel
theorem dX11_pour_95 : decode cX11_pour 95 = .ok (.iload_n 3, 1) := by decide +kernel
theorem dX11_pour_96 : decode cX11_pour 96 = .ok (.iadd, 1) := by decide +kernel
theorem dX11_pour_97 : decode cX11_pour 97 = .ok (.iaload, 1) := by decide +kernel
theorem dX11_pour_98 : decode cX11_pour 98 = .ok (.iastore, 1) := by decide +kernel
theorem dX11_pour_99 : decode cX11_pour 99 = .ok (.iinc 3 1, 3) := by decide +kernel
theorem dX11_pour_102 : decode cX11_pour 102 = .ok (.goto (-44), 3) := by decide +kernel
theorem dX11_pour_105 : decode cX11_pour 105 = .ok (.aload_n 0, 1) := by decide +kernel
theorem dX11_pour_106 : decode cX11_pour 106 = .ok (.getfield 22, 3) := by decide +kernel
theorem dX11_pour_109 : decode cX11_pour 109 = .ok (.iload_n 2, 1) := by decide +kernel
theorem dX11_pour_110 : decode cX11_pour 110 = .ok (.dup2, 1) := by decide +kernel
theorem dX11_pour_111 : decode cX11_pour 111 = .ok (.iaload, 1) := by decide +kernel
theorem dX11_pour_112 : decode cX11_pour 112 = .ok (.aload_n 0, 1) := by decide +kernel
theorem dX11_pour_113 : decode cX11_pour 113 = .ok (.getfield 22, 3) := by decide +kernel
theorem dX11_pour_116 : decode cX11_pour 116 = .ok (.iload_n 1, 1) := by decide +kernel
theorem dX11_pour_117 : decode cX11_pour 117 = .ok (.iaload, 1) := by decide +kernel
theorem dX11_pour_118 : decode cX11_pour 118 = .ok (.iadd, 1) := by decide +kernel
theorem dX11_pour_119 : decode cX11_pour 119 = .ok (.iastore, 1) := by decide +kernel
theorem dX11_pour_120 : decode cX11_pour 120 = .ok (.aload_n 0, 1) := by decide +kernel
theorem dX11_pour_121 : decode cX11_pour 121 = .ok (.getfield 22, 3) := by decide +kernel
theorem dX11_pour_124 : decode cX11_pour 124 = .ok (.iload_n 1, 1) := by decide +kernel
theorem dX11_pour_125 : decode cX11_pour 125 = .ok (.iconst 0, 1) := by decide +kernel
theorem dX11_pour_126 : decode cX11_pour 126 = .ok (.iastore, 1) := by decide +kernel
theorem dX11_pour_127 : decode cX11_pour 127 = .ok (.aload_n 0, 1) := by decide +kernel
theorem dX11_pour_128 : decode cX11_pour 128 = .ok (.aload_n 0, 1) := by decide +kernel
theorem dX11_pour_129 : decode cX11_pour 129 = .ok (.getfield 22, 3) := by decide +kernel
theorem dX11_pour_132 : decode cX11_pour 132 = .ok (.iload_n 2, 1) := by decide +kernel
theorem dX11_pour_133 : decode cX11_pour 133 = .ok (.iaload, 1) := by decide +kernel
theorem dX11_pour_134 : decode cX11_pour 134 = .ok (.invokevirtual 82, 3) := by decide +kernel
theorem dX11_pour_137 : decode cX11_pour 137 = .ok (.ireturn, 1) := by decide +kernel
set_option maxRecDepth 20000 in
theorem ggX11_deal_X11_isRow : GoodIn wsX11_deal wsX11_isRow := goodIn_r _ [6, 7, 8, 5, 9] (by decide +kernel) (by decide +kernel)
set_option maxRecDepth 20000 in
theorem gX11_deal_X11_isRow : GoodIn wsX11_deal (va_wsS RX11 147 yX11_isRow wsX11_isRow) := goodIn_app (goodIn_of _ (by decide +kernel)) ggX11_deal_X11_isRow
set_option maxRecDepth 20000 in
theorem ggX11_deal_X11_refuse : GoodIn wsX11_deal wsX11_refuse := goodIn_r _ [13, 14, 19, 20, 21, 22, 23, 24, 25, 26, 27, 28, 29, 30, 31, 32, 33, 34, 35, 36, 37, 38, 39, 40, 41, 42, 43, 44, 45] (by decide +kernel) (by decide +kernel)
set_option maxRecDepth 20000 in
theorem gX11_deal_X11_refuse : GoodIn wsX11_deal (wsV RX11 78 RX11 yX11_refuse wsX11_refuse) := goodIn_app (goodIn_of _ (by decide +kernel)) ggX11_deal_X11_refuse
set_option maxRecDepth 20000 in
theorem ggX11_deal_X11_told : GoodIn wsX11_deal wsX11_told := goodIn_r _ [18, 14, 19, 20, 21, 22, 23, 24, 25, 26, 27, 28, 29, 30, 31, 32, 33, 34, 35, 36, 37, 38, 39, 40, 41, 42, 43, 44, 45] (by decide +kernel) (by decide +kernel)
set_option maxRecDepth 20000 in
theorem gX11_deal_X11_told : GoodIn wsX11_deal (wsV RX11 82 RX11 yX11_told wsX11_told) := goodIn_app (goodIn_of _ (by decide +kernel)) ggX11_deal_X11_told
theorem dX11_deal_0 : decode cX11_deal 0 = .ok (.iload_n 1, 1) := by decide +kernel
theorem dX11_deal_1 : decode cX11_deal 1 = .ok (.invokestatic 147, 3) := by decide +kernel
theorem dX11_deal_4 : decode cX11_deal 4 = .ok (.ifCond .eq 10, 3) := by decide +kernel
theorem dX11_deal_7 : decode cX11_deal 7 = .ok (.iload_n 2, 1) := by decide +kernel
theorem dX11_deal_8 : decode cX11_deal 8 = .ok (.invokestatic 147, 3) := by decide +kernel
theorem dX11_deal_11 : decode cX11_deal 11 = .ok (.ifCond .ne 9, 3) := by decide +kernel
theorem dX11_deal_14 : decode cX11_deal 14 = .ok (.aload_n 0, 1) := by decide +kernel
theorem dX11_deal_15 : decode cX11_deal 15 = .ok (.iconst 1, 1) := by decide +kernel
theorem dX11_deal_16 : decode cX11_deal 16 = .ok (.invokevirtual 78, 3) := by decide +kernel
theorem dX11_deal_19 : decode cX11_deal 19 = .ok (.ireturn, 1) := by decide +kernel
theorem dX11_deal_20 : decode cX11_deal 20 = .ok (.iload_n 1, 1) := by decide +kernel
theorem dX11_deal_21 : decode cX11_deal 21 = .ok (.iload_n 2, 1) := by decide +kernel
theorem dX11_deal_22 : decode cX11_deal 22 = .ok (.if_icmp .ne 9, 3) := by decide +kernel
theorem dX11_deal_25 : decode cX11_deal 25 = .ok (.aload_n 0, 1) := by decide +kernel
theorem dX11_deal_26 : decode cX11_deal 26 = .ok (.iconst 2, 1) := by decide +kernel
theorem dX11_deal_27 : decode cX11_deal 27 = .ok (.invokevirtual 78, 3) := by decide +kernel
theorem dX11_deal_30 : decode cX11_deal 30 = .ok (.ireturn, 1) := by decide +kernel
theorem dX11_deal_31 : decode cX11_deal 31 = .ok (.aload_n 0, 1) := by decide +kernel
theorem dX11_deal_32 : decode cX11_deal 32 = .ok (.getfield 22, 3) := by decide +kernel
theorem dX11_deal_35 : decode cX11_deal 35 = .ok (.iload_n 1, 1) := by decide +kernel
theorem dX11_deal_36 : decode cX11_deal 36 = .ok (.iaload, 1) := by decide +kernel
theorem dX11_deal_37 : decode cX11_deal 37 = .ok (.iconst 2, 1) := by decide +kernel
theorem dX11_deal_38 : decode cX11_deal 38 = .ok (.idiv, 1) := by decide +kernel
theorem dX11_deal_39 : decode cX11_deal 39 = .ok (.istore_n 3, 1) := by decide +kernel
theorem dX11_deal_40 : decode cX11_deal 40 = .ok (.aload_n 0, 1) := by decide +kernel
theorem dX11_deal_41 : decode cX11_deal 41 = .ok (.getfield 22, 3) := by decide +kernel
theorem dX11_deal_44 : decode cX11_deal 44 = .ok (.iload_n 2, 1) := by decide +kernel
theorem dX11_deal_45 : decode cX11_deal 45 = .ok (.iaload, 1) := by decide +kernel
theorem dX11_deal_46 : decode cX11_deal 46 = .ok (.iload_n 3, 1) := by decide +kernel
theorem dX11_deal_47 : decode cX11_deal 47 = .ok (.iadd, 1) := by decide +kernel
theorem dX11_deal_48 : decode cX11_deal 48 = .ok (.sipush 800, 3) := by decide +kernel
theorem dX11_deal_51 : decode cX11_deal 51 = .ok (.if_icmp .le 9, 3) := by decide +kernel
theorem dX11_deal_54 : decode cX11_deal 54 = .ok (.aload_n 0, 1) := by decide +kernel
theorem dX11_deal_55 : decode cX11_deal 55 = .ok (.iconst 3, 1) := by decide +kernel
theorem dX11_deal_56 : decode cX11_deal 56 = .ok (.invokevirtual 78, 3) := by decide +kernel
theorem dX11_deal_59 : decode cX11_deal 59 = .ok (.ireturn, 1) := by decide +kernel
theorem dX11_deal_60 : decode cX11_deal 60 = .ok (.iconst 0, 1) := by decide +kernel
theorem dX11_deal_61 : decode cX11_deal 61 = .ok (.istore 4, 2) := by decide +kernel
theorem dX11_deal_63 : decode cX11_deal 63 = .ok (.iload 4, 2) := by decide +kernel
theorem dX11_deal_65 : decode cX11_deal 65 = .ok (.aload_n 0, 1) := by decide +kernel
theorem dX11_deal_66 : decode cX11_deal 66 = .ok (.getfield 22, 3) := by decide +kernel
theorem dX11_deal_69 : decode cX11_deal 69 = .ok (.iload_n 1, 1) := by decide +kernel
theorem dX11_deal_70 : decode cX11_deal 70 = .ok (.iaload, 1) := by decide +kernel
theorem dX11_deal_71 : decode cX11_deal 71 = .ok (.if_icmp .ge 88, 3) := by decide +kernel
theorem dX11_deal_74 : decode cX11_deal 74 = .ok (.iload 4, 2) := by decide +kernel
theorem dX11_deal_76 : decode cX11_deal 76 = .ok (.iconst 2, 1) := by decide +kernel
theorem dX11_deal_77 : decode cX11_deal 77 = .ok (.irem, 1) := by decide +kernel
theorem dX11_deal_78 : decode cX11_deal 78 = .ok (.iconst 1, 1) := by decide +kernel
theorem dX11_deal_79 : decode cX11_deal 79 = .ok (.if_icmp .ne 46, 3) := by decide +kernel
theorem dX11_deal_82 : decode cX11_deal 82 = .ok (.aload_n 0, 1) := by decide +kernel
theorem dX11_deal_83 : decode cX11_deal 83 = .ok (.getfield 16, 3) := by decide +kernel
theorem dX11_deal_86 : decode cX11_deal 86 = .ok (.sipush 800, 3) := by decide +kernel
theorem dX11_deal_89 : decode cX11_deal 89 = .ok (.iload_n 2, 1) := by decide +kernel
theorem dX11_deal_90 : decode cX11_deal 90 = .ok (.imul, 1) := by decide +kernel
theorem dX11_deal_91 : decode cX11_deal 91 = .ok (.aload_n 0, 1) := by decide +kernel
theorem dX11_deal_92 : decode cX11_deal 92 = .ok (.getfield 22, 3) := by decide +kernel
theorem dX11_deal_95 : decode cX11_deal 95 = .ok (.iload_n 2, 1) := by decide +kernel
theorem dX11_deal_96 : decode cX11_deal 96 = .ok (.iaload, 1) := by decide +kernel
theorem dX11_deal_97 : decode cX11_deal 97 = .ok (.iadd, 1) := by decide +kernel
theorem dX11_deal_98 : decode cX11_deal 98 = .ok (.aload_n 0, 1) := by decide +kernel
theorem dX11_deal_99 : decode cX11_deal 99 = .ok (.getfield 16, 3) := by decide +kernel
theorem dX11_deal_102 : decode cX11_deal 102 = .ok (.sipush 800, 3) := by decide +kernel
theorem dX11_deal_105 : decode cX11_deal 105 = .ok (.iload_n 1, 1) := by decide +kernel
theorem dX11_deal_106 : decode cX11_deal 106 = .ok (.imul, 1) := by decide +kernel
theorem dX11_deal_107 : decode cX11_deal 107 = .ok (.iload 4, 2) := by decide +kernel
theorem dX11_deal_109 : decode cX11_deal 109 = .ok (.iadd, 1) := by decide +kernel
theorem dX11_deal_110 : decode cX11_deal 110 = .ok (.iaload, 1) := by decide +kernel
theorem dX11_deal_111 : decode cX11_deal 111 = .ok (.iastore, 1) := by decide +kernel
theorem dX11_deal_112 : decode cX11_deal 112 = .ok (.aload_n 0, 1) := by decide +kernel
theorem dX11_deal_113 : decode cX11_deal 113 = .ok (.getfield 22, 3) := by decide +kernel
theorem dX11_deal_116 : decode cX11_deal 116 = .ok (.iload_n 2, 1) := by decide +kernel
theorem dX11_deal_117 : decode cX11_deal 117 = .ok (.dup2, 1) := by decide +kernel
theorem dX11_deal_118 : decode cX11_deal 118 = .ok (.iaload, 1) := by decide +kernel
theorem dX11_deal_119 : decode cX11_deal 119 = .ok (.iconst 1, 1) := by decide +kernel
theorem dX11_deal_120 : decode cX11_deal 120 = .ok (.iadd, 1) := by decide +kernel
theorem dX11_deal_121 : decode cX11_deal 121 = .ok (.iastore, 1) := by decide +kernel
theorem dX11_deal_122 : decode cX11_deal 122 = .ok (.goto 31, 3) := by decide +kernel
theorem dX11_deal_125 : decode cX11_deal 125 = .ok (.aload_n 0, 1) := by decide +kernel
theorem dX11_deal_126 : decode cX11_deal 126 = .ok (.getfield 16, 3) := by decide +kernel
theorem dX11_deal_129 : decode cX11_deal 129 = .ok (.sipush 800, 3) := by decide +kernel
theorem dX11_deal_132 : decode cX11_deal 132 = .ok (.iload_n 1, 1) := by decide +kernel
theorem dX11_deal_133 : decode cX11_deal 133 = .ok (.imul, 1) := by decide +kernel
theorem dX11_deal_134 : decode cX11_deal 134 = .ok (.iload 4, 2) := by decide +kernel
theorem dX11_deal_136 : decode cX11_deal 136 = .ok (.iconst 2, 1) := by decide +kernel
theorem dX11_deal_137 : decode cX11_deal 137 = .ok (.idiv, 1) := by decide +kernel
theorem dX11_deal_138 : decode cX11_deal 138 = .ok (.iadd, 1) := by decide +kernel
theorem dX11_deal_139 : decode cX11_deal 139 = .ok (.aload_n 0, 1) := by decide +kernel
theorem dX11_deal_140 : decode cX11_deal 140 = .ok (.getfield 16, 3) := by decide +kernel
theorem dX11_deal_143 : decode cX11_deal 143 = .ok (.sipush 800, 3) := by decide +kernel
theorem dX11_deal_146 : decode cX11_deal 146 = .ok (.iload_n 1, 1) := by decide +kernel
theorem dX11_deal_147 : decode cX11_deal 147 = .ok (.imul, 1) := by decide +kernel
theorem dX11_deal_148 : decode cX11_deal 148 = .ok (.iload 4, 2) := by decide +kernel
theorem dX11_deal_150 : decode cX11_deal 150 = .ok (.iadd, 1) := by decide +kernel
theorem dX11_deal_151 : decode cX11_deal 151 = .ok (.iaload, 1) := by decide +kernel
theorem dX11_deal_152 : decode cX11_deal 152 = .ok (.iastore, 1) := by decide +kernel
theorem dX11_deal_153 : decode cX11_deal 153 = .ok (.iinc 4 1, 3) := by decide +kernel
theorem dX11_deal_156 : decode cX11_deal 156 = .ok (.goto (-93), 3) := by decide +kernel
theorem dX11_deal_159 : decode cX11_deal 159 = .ok (.aload_n 0, 1) := by decide +kernel
theorem dX11_deal_160 : decode cX11_deal 160 = .ok (.getfield 22, 3) := by decide +kernel
theorem dX11_deal_163 : decode cX11_deal 163 = .ok (.iload_n 1, 1) := by decide +kernel
theorem dX11_deal_164 : decode cX11_deal 164 = .ok (.dup2, 1) := by decide +kernel
theorem dX11_deal_165 : decode cX11_deal 165 = .ok (.iaload, 1) := by decide +kernel
theorem dX11_deal_166 : decode cX11_deal 166 = .ok (.iload_n 3, 1) := by decide +kernel
theorem dX11_deal_167 : decode cX11_deal 167 = .ok (.isub, 1) := by decide +kernel
theorem dX11_deal_168 : decode cX11_deal 168 = .ok (.iastore, 1) := by decide +kernel
theorem dX11_deal_169 : decode cX11_deal 169 = .ok (.aload_n 0, 1) := by decide +kernel
theorem dX11_deal_170 : decode cX11_deal 170 = .ok (.iload_n 3, 1) := by decide +kernel
theorem dX11_deal_171 : decode cX11_deal 171 = .ok (.invokevirtual 82, 3) := by decide +kernel
theorem dX11_deal_174 : decode cX11_deal 174 = .ok (.ireturn, 1) := by decide +kernel
set_option maxRecDepth 20000 in
theorem ggX11_turn_X11_isRow : GoodIn wsX11_turn wsX11_isRow := goodIn_r _ [6, 7, 8, 5, 9] (by decide +kernel) (by decide +kernel)
set_option maxRecDepth 20000 in
theorem gX11_turn_X11_isRow : GoodIn wsX11_turn (va_wsS RX11 147 yX11_isRow wsX11_isRow) := goodIn_app (goodIn_of _ (by decide +kernel)) ggX11_turn_X11_isRow
set_option maxRecDepth 20000 in
theorem ggX11_turn_X11_refuse : GoodIn wsX11_turn wsX11_refuse := goodIn_r _ [13, 14, 19, 20, 21, 22, 23, 24, 25, 26, 27, 28, 29, 30, 31, 32, 33, 34, 35, 36, 37, 38, 39, 40, 41, 42, 43, 44, 45] (by decide +kernel) (by decide +kernel)
set_option maxRecDepth 20000 in
theorem gX11_turn_X11_refuse : GoodIn wsX11_turn (wsV RX11 78 RX11 yX11_refuse wsX11_refuse) := goodIn_app (goodIn_of _ (by decide +kernel)) ggX11_turn_X11_refuse
set_option maxRecDepth 20000 in
theorem ggX11_turn_X11_told : GoodIn wsX11_turn wsX11_told := goodIn_r _ [18, 14, 19, 20, 21, 22, 23, 24, 25, 26, 27, 28, 29, 30, 31, 32, 33, 34, 35, 36, 37, 38, 39, 40, 41, 42, 43, 44, 45] (by decide +kernel) (by decide +kernel)
set_option maxRecDepth 20000 in
theorem gX11_turn_X11_told : GoodIn wsX11_turn (wsV RX11 82 RX11 yX11_told wsX11_told) := goodIn_app (goodIn_of _ (by decide +kernel)) ggX11_turn_X11_told
theorem dX11_turn_0 : decode cX11_turn 0 = .ok (.iload_n 1, 1) := by decide +kernel
theorem dX11_turn_1 : decode cX11_turn 1 = .ok (.invokestatic 147, 3) := by decide +kernel
theorem dX11_turn_4 : decode cX11_turn 4 = .ok (.ifCond .ne 9, 3) := by decide +kernel
theorem dX11_turn_7 : decode cX11_turn 7 = .ok (.aload_n 0, 1) := by decide +kernel
theorem dX11_turn_8 : decode cX11_turn 8 = .ok (.iconst 1, 1) := by decide +kernel
theorem dX11_turn_9 : decode cX11_turn 9 = .ok (.invokevirtual 78, 3) := by decide +kernel
theorem dX11_turn_12 : decode cX11_turn 12 = .ok (.ireturn, 1) := by decide +kernel
theorem dX11_turn_13 : decode cX11_turn 13 = .ok (.iconst 0, 1) := by decide +kernel
theorem dX11_turn_14 : decode cX11_turn 14 = .ok (.istore_n 2, 1) := by decide +kernel
theorem dX11_turn_15 : decode cX11_turn 15 = .ok (.iload_n 2, 1) := by decide +kernel
theorem dX11_turn_16 : decode cX11_turn 16 = .ok (.aload_n 0, 1) := by decide +kernel
theorem dX11_turn_17 : decode cX11_turn 17 = .ok (.getfield 22, 3) := by decide +kernel
theorem dX11_turn_20 : decode cX11_turn 20 = .ok (.iload_n 1, 1) := by decide +kernel
theorem dX11_turn_21 : decode cX11_turn 21 = .ok (.iaload, 1) := by decide +kernel
theorem dX11_turn_22 : decode cX11_turn 22 = .ok (.iconst 2, 1) := by decide +kernel
theorem dX11_turn_23 : decode cX11_turn 23 = .ok (.idiv, 1) := by decide +kernel
theorem dX11_turn_24 : decode cX11_turn 24 = .ok (.if_icmp .ge 77, 3) := by decide +kernel
theorem dX11_turn_27 : decode cX11_turn 27 = .ok (.aload_n 0, 1) := by decide +kernel
theorem dX11_turn_28 : decode cX11_turn 28 = .ok (.getfield 16, 3) := by decide +kernel
theorem dX11_turn_31 : decode cX11_turn 31 = .ok (.sipush 800, 3) := by decide +kernel
theorem dX11_turn_34 : decode cX11_turn 34 = .ok (.iload_n 1, 1) := by decide +kernel
theorem dX11_turn_35 : decode cX11_turn 35 = .ok (.imul, 1) := by decide +kernel
theorem dX11_turn_36 : decode cX11_turn 36 = .ok (.iload_n 2, 1) := by decide +kernel
theorem dX11_turn_37 : decode cX11_turn 37 = .ok (.iadd, 1) := by decide +kernel
theorem dX11_turn_38 : decode cX11_turn 38 = .ok (.iaload, 1) := by decide +kernel
theorem dX11_turn_39 : decode cX11_turn 39 = .ok (.istore_n 3, 1) := by decide +kernel
theorem dX11_turn_40 : decode cX11_turn 40 = .ok (.aload_n 0, 1) := by decide +kernel
theorem dX11_turn_41 : decode cX11_turn 41 = .ok (.getfield 16, 3) := by decide +kernel
theorem dX11_turn_44 : decode cX11_turn 44 = .ok (.sipush 800, 3) := by decide +kernel
theorem dX11_turn_47 : decode cX11_turn 47 = .ok (.iload_n 1, 1) := by decide +kernel
theorem dX11_turn_48 : decode cX11_turn 48 = .ok (.imul, 1) := by decide +kernel
theorem dX11_turn_49 : decode cX11_turn 49 = .ok (.iload_n 2, 1) := by decide +kernel
theorem dX11_turn_50 : decode cX11_turn 50 = .ok (.iadd, 1) := by decide +kernel
theorem dX11_turn_51 : decode cX11_turn 51 = .ok (.aload_n 0, 1) := by decide +kernel
theorem dX11_turn_52 : decode cX11_turn 52 = .ok (.getfield 16, 3) := by decide +kernel
theorem dX11_turn_55 : decode cX11_turn 55 = .ok (.sipush 800, 3) := by decide +kernel
theorem dX11_turn_58 : decode cX11_turn 58 = .ok (.iload_n 1, 1) := by decide +kernel
theorem dX11_turn_59 : decode cX11_turn 59 = .ok (.imul, 1) := by decide +kernel
theorem dX11_turn_60 : decode cX11_turn 60 = .ok (.aload_n 0, 1) := by decide +kernel
theorem dX11_turn_61 : decode cX11_turn 61 = .ok (.getfield 22, 3) := by decide +kernel
theorem dX11_turn_64 : decode cX11_turn 64 = .ok (.iload_n 1, 1) := by decide +kernel
theorem dX11_turn_65 : decode cX11_turn 65 = .ok (.iaload, 1) := by decide +kernel
theorem dX11_turn_66 : decode cX11_turn 66 = .ok (.iadd, 1) := by decide +kernel
theorem dX11_turn_67 : decode cX11_turn 67 = .ok (.iconst 1, 1) := by decide +kernel
theorem dX11_turn_68 : decode cX11_turn 68 = .ok (.isub, 1) := by decide +kernel
theorem dX11_turn_69 : decode cX11_turn 69 = .ok (.iload_n 2, 1) := by decide +kernel
theorem dX11_turn_70 : decode cX11_turn 70 = .ok (.isub, 1) := by decide +kernel
theorem dX11_turn_71 : decode cX11_turn 71 = .ok (.iaload, 1) := by decide +kernel
theorem dX11_turn_72 : decode cX11_turn 72 = .ok (.iastore, 1) := by decide +kernel
theorem dX11_turn_73 : decode cX11_turn 73 = .ok (.aload_n 0, 1) := by decide +kernel
theorem dX11_turn_74 : decode cX11_turn 74 = .ok (.getfield 16, 3) := by decide +kernel
theorem dX11_turn_77 : decode cX11_turn 77 = .ok (.sipush 800, 3) := by decide +kernel
theorem dX11_turn_80 : decode cX11_turn 80 = .ok (.iload_n 1, 1) := by decide +kernel
theorem dX11_turn_81 : decode cX11_turn 81 = .ok (.imul, 1) := by decide +kernel
theorem dX11_turn_82 : decode cX11_turn 82 = .ok (.aload_n 0, 1) := by decide +kernel
theorem dX11_turn_83 : decode cX11_turn 83 = .ok (.getfield 22, 3) := by decide +kernel
theorem dX11_turn_86 : decode cX11_turn 86 = .ok (.iload_n 1, 1) := by decide +kernel
theorem dX11_turn_87 : decode cX11_turn 87 = .ok (.iaload, 1) := by decide +kernel
theorem dX11_turn_88 : decode cX11_turn 88 = .ok (.iadd, 1) := by decide +kernel
theorem dX11_turn_89 : decode cX11_turn 89 = .ok (.iconst 1, 1) := by decide +kernel
theorem dX11_turn_90 : decode cX11_turn 90 = .ok (.isub, 1) := by decide +kernel
theorem dX11_turn_91 : decode cX11_turn 91 = .ok (.iload_n 2, 1) := by decide +kernel
theorem dX11_turn_92 : decode cX11_turn 92 = .ok (.isub, 1) := by decide +kernel
theorem dX11_turn_93 : decode cX11_turn 93 = .ok (.iload_n 3, 1) := by decide +kernel
theorem dX11_turn_94 : decode cX11_turn 94 = .ok (.iastore, 1) := by decide +kernel
theorem dX11_turn_95 : decode cX11_turn 95 = .ok (.iinc 2 1, 3) := by decide +kernel
theorem dX11_turn_98 : decode cX11_turn 98 = .ok (.goto (-83), 3) := by decide +kernel
theorem dX11_turn_101 : decode cX11_turn 101 = .ok (.aload_n 0, 1) := by decide +kernel
theorem dX11_turn_102 : decode cX11_turn 102 = .ok (.aload_n 0, 1) := by decide +kernel
theorem dX11_turn_103 : decode cX11_turn 103 = .ok (.getfield 22, 3) := by decide +kernel
theorem dX11_turn_106 : decode cX11_turn 106 = .ok (.iload_n 1, 1) := by decide +kernel
theorem dX11_turn_107 : decode cX11_turn 107 = .ok (.iaload, 1) := by decide +kernel
theorem dX11_turn_108 : decode cX11_turn 108 = .ok (.invokevirtual 82, 3) := by decide +kernel
theorem dX11_turn_111 : decode cX11_turn 111 = .ok (.ireturn, 1) := by decide +kernel
set_option maxRecDepth 20000 in
theorem ggX11_isPlace_X11_isRow : GoodIn wsX11_isPlace wsX11_isRow := goodIn_r _ [5, 6, 7, 4, 8] (by decide +kernel) (by decide +kernel)
set_option maxRecDepth 20000 in
theorem gX11_isPlace_X11_isRow : GoodIn wsX11_isPlace (va_wsS RX11 147 yX11_isRow wsX11_isRow) := goodIn_app (goodIn_of _ (by decide +kernel)) ggX11_isPlace_X11_isRow
set_option maxRecDepth 20000 in
theorem ggX11_isPlace_X11_in : GoodIn wsX11_isPlace wsX11_in := goodIn_r _ [8] (by decide +kernel) (by decide +kernel)
set_option maxRecDepth 20000 in
theorem gX11_isPlace_X11_in : GoodIn wsX11_isPlace (va_wsS RX11 69 yX11_in wsX11_in) := goodIn_app (goodIn_of _ (by decide +kernel)) ggX11_isPlace_X11_in
theorem dX11_isPlace_0 : decode cX11_isPlace 0 = .ok (.iload_n 1, 1) := by decide +kernel
theorem dX11_isPlace_1 : decode cX11_isPlace 1 = .ok (.invokestatic 147, 3) := by decide +kernel
theorem dX11_isPlace_4 : decode cX11_isPlace 4 = .ok (.ifCond .eq 23, 3) := by decide +kernel
theorem dX11_isPlace_7 : decode cX11_isPlace 7 = .ok (.iload_n 2, 1) := by decide +kernel
theorem dX11_isPlace_8 : decode cX11_isPlace 8 = .ok (.iconst 0, 1) := by decide +kernel
theorem dX11_isPlace_9 : decode cX11_isPlace 9 = .ok (.aload_n 0, 1) := by decide +kernel
theorem dX11_isPlace_10 : decode cX11_isPlace 10 = .ok (.getfield 22, 3) := by decide +kernel
theorem dX11_isPlace_13 : decode cX11_isPlace 13 = .ok (.iload_n 1, 1) := by decide +kernel
theorem dX11_isPlace_14 : decode cX11_isPlace 14 = .ok (.iaload, 1) := by decide +kernel
theorem dX11_isPlace_15 : decode cX11_isPlace 15 = .ok (.iconst 1, 1) := by decide +kernel
theorem dX11_isPlace_16 : decode cX11_isPlace 16 = .ok (.isub, 1) := by decide +kernel
theorem dX11_isPlace_17 : decode cX11_isPlace 17 = .ok (.invokestatic 69, 3) := by decide +kernel
theorem dX11_isPlace_20 : decode cX11_isPlace 20 = .ok (.ifCond .eq 7, 3) := by decide +kernel
theorem dX11_isPlace_23 : decode cX11_isPlace 23 = .ok (.iconst 1, 1) := by decide +kernel
theorem dX11_isPlace_24 : decode cX11_isPlace 24 = .ok (.goto 4, 3) := by decide +kernel
theorem dX11_isPlace_27 : decode cX11_isPlace 27 = .ok (.iconst 0, 1) := by decide +kernel
theorem dX11_isPlace_28 : decode cX11_isPlace 28 = .ok (.ireturn, 1) := by decide +kernel
set_option maxRecDepth 20000 in
theorem ggX11_move_X11_isPlace : GoodIn wsX11_move wsX11_isPlace := goodIn_r _ [6, 7, 8, 9, 5, 10, 11, 12, 13, 23, 24, 25, 26, 27, 28, 29, 30, 31, 32, 33, 34, 35, 36, 37, 38, 39, 40, 41, 42, 43, 44, 45, 46, 47, 48, 49] (by decide +kernel) (by decide +kernel)
set_option maxRecDepth 20000 in
theorem gX11_move_X11_isPlace : GoodIn wsX11_move (wsV RX11 169 RX11 yX11_isPlace wsX11_isPlace) := goodIn_app (goodIn_of _ (by decide +kernel)) ggX11_move_X11_isPlace
set_option maxRecDepth 20000 in
theorem ggX11_move_X11_refuse : GoodIn wsX11_move wsX11_refuse := goodIn_r _ [17, 18, 23, 24, 25, 26, 27, 28, 29, 30, 31, 32, 33, 34, 35, 36, 37, 38, 39, 40, 41, 42, 43, 44, 45, 46, 47, 48, 49] (by decide +kernel) (by decide +kernel)
set_option maxRecDepth 20000 in
theorem gX11_move_X11_refuse : GoodIn wsX11_move (wsV RX11 78 RX11 yX11_refuse wsX11_refuse) := goodIn_app (goodIn_of _ (by decide +kernel)) ggX11_move_X11_refuse
set_option maxRecDepth 20000 in
theorem ggX11_move_X11_told : GoodIn wsX11_move wsX11_told := goodIn_r _ [22, 18, 23, 24, 25, 26, 27, 28, 29, 30, 31, 32, 33, 34, 35, 36, 37, 38, 39, 40, 41, 42, 43, 44, 45, 46, 47, 48, 49] (by decide +kernel) (by decide +kernel)
set_option maxRecDepth 20000 in
theorem gX11_move_X11_told : GoodIn wsX11_move (wsV RX11 82 RX11 yX11_told wsX11_told) := goodIn_app (goodIn_of _ (by decide +kernel)) ggX11_move_X11_told
theorem dX11_move_0 : decode cX11_move 0 = .ok (.aload_n 0, 1) := by decide +kernel
theorem dX11_move_1 : decode cX11_move 1 = .ok (.iload_n 1, 1) := by decide +kernel
theorem dX11_move_2 : decode cX11_move 2 = .ok (.iload_n 2, 1) := by decide +kernel
theorem dX11_move_3 : decode cX11_move 3 = .ok (.invokevirtual 169, 3) := by decide +kernel
theorem dX11_move_6 : decode cX11_move 6 = .ok (.ifCond .eq 12, 3) := by decide +kernel
theorem dX11_move_9 : decode cX11_move 9 = .ok (.aload_n 0, 1) := by decide +kernel
theorem dX11_move_10 : decode cX11_move 10 = .ok (.iload_n 1, 1) := by decide +kernel
theorem dX11_move_11 : decode cX11_move 11 = .ok (.iload_n 3, 1) := by decide +kernel
theorem dX11_move_12 : decode cX11_move 12 = .ok (.invokevirtual 169, 3) := by decide +kernel
theorem dX11_move_15 : decode cX11_move 15 = .ok (.ifCond .ne 9, 3) := by decide +kernel
theorem dX11_move_18 : decode cX11_move 18 = .ok (.aload_n 0, 1) := by decide +kernel
theorem dX11_move_19 : decode cX11_move 19 = .ok (.iconst 1, 1) := by decide +kernel
theorem dX11_move_20 : decode cX11_move 20 = .ok (.invokevirtual 78, 3) := by decide +kernel
theorem dX11_move_23 : decode cX11_move 23 = .ok (.ireturn, 1) := by decide +kernel
theorem dX11_move_24 : decode cX11_move 24 = .ok (.aload_n 0, 1) := by decide +kernel
theorem dX11_move_25 : decode cX11_move 25 = .ok (.getfield 16, 3) := by decide +kernel
theorem dX11_move_28 : decode cX11_move 28 = .ok (.sipush 800, 3) := by decide +kernel
theorem dX11_move_31 : decode cX11_move 31 = .ok (.iload_n 1, 1) := by decide +kernel
theorem dX11_move_32 : decode cX11_move 32 = .ok (.imul, 1) := by decide +kernel
theorem dX11_move_33 : decode cX11_move 33 = .ok (.iload_n 2, 1) := by decide +kernel
theorem dX11_move_34 : decode cX11_move 34 = .ok (.iadd, 1) := by decide +kernel
theorem dX11_move_35 : decode cX11_move 35 = .ok (.iaload, 1) := by decide +kernel
theorem dX11_move_36 : decode cX11_move 36 = .ok (.istore 4, 2) := by decide +kernel
theorem dX11_move_38 : decode cX11_move 38 = .ok (.iload_n 2, 1) := by decide +kernel
theorem dX11_move_39 : decode cX11_move 39 = .ok (.istore 5, 2) := by decide +kernel
theorem dX11_move_41 : decode cX11_move 41 = .ok (.iload 5, 2) := by decide +kernel
theorem dX11_move_43 : decode cX11_move 43 = .ok (.iload_n 3, 1) := by decide +kernel
theorem dX11_move_44 : decode cX11_move 44 = .ok (.if_icmp .ge 37, 3) := by decide +kernel
theorem dX11_move_47 : decode cX11_move 47 = .ok (.aload_n 0, 1) := by decide +kernel
theorem dX11_move_48 : decode cX11_move 48 = .ok (.getfield 16, 3) := by decide +kernel
theorem dX11_move_51 : decode cX11_move 51 = .ok (.sipush 800, 3) := by decide +kernel
theorem dX11_move_54 : decode cX11_move 54 = .ok (.iload_n 1, 1) := by decide +kernel
theorem dX11_move_55 : decode cX11_move 55 = .ok (.imul, 1) := by decide +kernel
theorem dX11_move_56 : decode cX11_move 56 = .ok (.iload 5, 2) := by decide +kernel
theorem dX11_move_58 : decode cX11_move 58 = .ok (.iadd, 1) := by decide +kernel
theorem dX11_move_59 : decode cX11_move 59 = .ok (.aload_n 0, 1) := by decide +kernel
theorem dX11_move_60 : decode cX11_move 60 = .ok (.getfield 16, 3) := by decide +kernel
theorem dX11_move_63 : decode cX11_move 63 = .ok (.sipush 800, 3) := by decide +kernel
theorem dX11_move_66 : decode cX11_move 66 = .ok (.iload_n 1, 1) := by decide +kernel
theorem dX11_move_67 : decode cX11_move 67 = .ok (.imul, 1) := by decide +kernel
theorem dX11_move_68 : decode cX11_move 68 = .ok (.iload 5, 2) := by decide +kernel
