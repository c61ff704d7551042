theorem dX11_move_70 : decode cX11_move 70 = .ok (.iadd, 1) := by decide +kernel
theorem dX11_move_71 : decode cX11_move 71 = .ok (.iconst 1, 1) := by decide +kernel
theorem dX11_move_72 : decode cX11_move 72 = .ok (.iadd, 1) := by decide +kernel
theorem dX11_move_73 : decode cX11_move 73 = .ok (.iaload, 1) := by decide +kernel
theorem dX11_move_74 : decode cX11_move 74 = .ok (.iastore, 1) := by decide +kernel
theorem dX11_move_75 : decode cX11_move 75 = .ok (.iinc 5 1, 3) := by decide +kernel
theorem dX11_move_78 : decode cX11_move 78 = .ok (.goto (-37), 3) := by decide +kernel
theorem dX11_move_81 : decode cX11_move 81 = .ok (.iload_n 2, 1) := by decide +kernel
theorem dX11_move_82 : decode cX11_move 82 = .ok (.istore 5, 2) := by decide +kernel
theorem dX11_move_84 : decode cX11_move 84 = .ok (.iload 5, 2) := by decide +kernel
theorem dX11_move_86 : decode cX11_move 86 = .ok (.iload_n 3, 1) := by decide +kernel
theorem dX11_move_87 : decode cX11_move 87 = .ok (.if_icmp .le 37, 3) := by decide +kernel
theorem dX11_move_90 : decode cX11_move 90 = .ok (.aload_n 0, 1) := by decide +kernel
theorem dX11_move_91 : decode cX11_move 91 = .ok (.getfield 16, 3) := by decide +kernel
theorem dX11_move_94 : decode cX11_move 94 = .ok (.sipush 800, 3) := by decide +kernel
theorem dX11_move_97 : decode cX11_move 97 = .ok (.iload_n 1, 1) := by decide +kernel
theorem dX11_move_98 : decode cX11_move 98 = .ok (.imul, 1) := by decide +kernel
theorem dX11_move_99 : decode cX11_move 99 = .ok (.iload 5, 2) := by decide +kernel
theorem dX11_move_101 : decode cX11_move 101 = .ok (.iadd, 1) := by decide +kernel
theorem dX11_move_102 : decode cX11_move 102 = .ok (.aload_n 0, 1) := by decide +kernel
theorem dX11_move_103 : decode cX11_move 103 = .ok (.getfield 16, 3) := by decide +kernel
theorem dX11_move_106 : decode cX11_move 106 = .ok (.sipush 800, 3) := by decide +kernel
theorem dX11_move_109 : decode cX11_move 109 = .ok (.iload_n 1, 1) := by decide +kernel
theorem dX11_move_110 : decode cX11_move 110 = .ok (.imul, 1) := by decide +kernel
theorem dX11_move_111 : decode cX11_move 111 = .ok (.iload 5, 2) := by decide +kernel
theorem dX11_move_113 : decode cX11_move 113 = .ok (.iadd, 1) := by decide +kernel
theorem dX11_move_114 : decode cX11_move 114 = .ok (.iconst 1, 1) := by decide +kernel
theorem dX11_move_115 : decode cX11_move 115 = .ok (.isub, 1) := by decide +kernel
theorem dX11_move_116 : decode cX11_move 116 = .ok (.iaload, 1) := by decide +kernel
theorem dX11_move_117 : decode cX11_move 117 = .ok (.iastore, 1) := by decide +kernel
theorem dX11_move_118 : decode cX11_move 118 = .ok (.iinc 5 (-1), 3) := by decide +kernel
theorem dX11_move_121 : decode cX11_move 121 = .ok (.goto (-37), 3) := by decide +kernel
theorem dX11_move_124 : decode cX11_move 124 = .ok (.aload_n 0, 1) := by decide +kernel
theorem dX11_move_125 : decode cX11_move 125 = .ok (.getfield 16, 3) := by decide +kernel
theorem dX11_move_128 : decode cX11_move 128 = .ok (.sipush 800, 3) := by decide +kernel
theorem dX11_move_131 : decode cX11_move 131 = .ok (.iload_n 1, 1) := by decide +kernel
theorem dX11_move_132 : decode cX11_move 132 = .ok (.imul, 1) := by decide +kernel
theorem dX11_move_133 : decode cX11_move 133 = .ok (.iload_n 3, 1) := by decide +kernel
theorem dX11_move_134 : decode cX11_move 134 = .ok (.iadd, 1) := by decide +kernel
theorem dX11_move_135 : decode cX11_move 135 = .ok (.iload 4, 2) := by decide +kernel
theorem dX11_move_137 : decode cX11_move 137 = .ok (.iastore, 1) := by decide +kernel
theorem dX11_move_138 : decode cX11_move 138 = .ok (.aload_n 0, 1) := by decide +kernel
theorem dX11_move_139 : decode cX11_move 139 = .ok (.iload 4, 2) := by decide +kernel
theorem dX11_move_141 : decode cX11_move 141 = .ok (.invokevirtual 82, 3) := by decide +kernel
theorem dX11_move_144 : decode cX11_move 144 = .ok (.ireturn, 1) := by decide +kernel
set_option maxRecDepth 20000 in
theorem ggX11_thin_X11_isRow : GoodIn wsX11_thin wsX11_isRow := goodIn_r _ [7, 8, 9, 6, 10] (by decide +kernel) (by decide +kernel)
set_option maxRecDepth 20000 in
theorem gX11_thin_X11_isRow : GoodIn wsX11_thin (va_wsS RX11 147 yX11_isRow wsX11_isRow) := goodIn_app (goodIn_of _ (by decide +kernel)) ggX11_thin_X11_isRow
set_option maxRecDepth 20000 in
theorem ggX11_thin_X11_refuse : GoodIn wsX11_thin wsX11_refuse := goodIn_r _ [14, 15, 20, 21, 22, 23, 24, 25, 26, 27, 28, 29, 30, 31, 32, 33, 34, 35, 36, 37, 38, 39, 40, 41, 42, 43, 44, 45, 46] (by decide +kernel) (by decide +kernel)
set_option maxRecDepth 20000 in
theorem gX11_thin_X11_refuse : GoodIn wsX11_thin (wsV RX11 78 RX11 yX11_refuse wsX11_refuse) := goodIn_app (goodIn_of _ (by decide +kernel)) ggX11_thin_X11_refuse
set_option maxRecDepth 20000 in
theorem ggX11_thin_X11_told : GoodIn wsX11_thin wsX11_told := goodIn_r _ [19, 15, 20, 21, 22, 23, 24, 25, 26, 27, 28, 29, 30, 31, 32, 33, 34, 35, 36, 37, 38, 39, 40, 41, 42, 43, 44, 45, 46] (by decide +kernel) (by decide +kernel)
set_option maxRecDepth 20000 in
theorem gX11_thin_X11_told : GoodIn wsX11_thin (wsV RX11 82 RX11 yX11_told wsX11_told) := goodIn_app (goodIn_of _ (by decide +kernel)) ggX11_thin_X11_told
theorem dX11_thin_0 : decode cX11_thin 0 = .ok (.iload_n 1, 1) := by decide +kernel
theorem dX11_thin_1 : decode cX11_thin 1 = .ok (.invokestatic 147, 3) := by decide +kernel
theorem dX11_thin_4 : decode cX11_thin 4 = .ok (.ifCond .ne 9, 3) := by decide +kernel
theorem dX11_thin_7 : decode cX11_thin 7 = .ok (.aload_n 0, 1) := by decide +kernel
theorem dX11_thin_8 : decode cX11_thin 8 = .ok (.iconst 1, 1) := by decide +kernel
theorem dX11_thin_9 : decode cX11_thin 9 = .ok (.invokevirtual 78, 3) := by decide +kernel
theorem dX11_thin_12 : decode cX11_thin 12 = .ok (.ireturn, 1) := by decide +kernel
theorem dX11_thin_13 : decode cX11_thin 13 = .ok (.iconst 0, 1) := by decide +kernel
theorem dX11_thin_14 : decode cX11_thin 14 = .ok (.istore_n 3, 1) := by decide +kernel
theorem dX11_thin_15 : decode cX11_thin 15 = .ok (.iconst 0, 1) := by decide +kernel
theorem dX11_thin_16 : decode cX11_thin 16 = .ok (.istore 4, 2) := by decide +kernel
theorem dX11_thin_18 : decode cX11_thin 18 = .ok (.iload 4, 2) := by decide +kernel
theorem dX11_thin_20 : decode cX11_thin 20 = .ok (.aload_n 0, 1) := by decide +kernel
theorem dX11_thin_21 : decode cX11_thin 21 = .ok (.getfield 22, 3) := by decide +kernel
theorem dX11_thin_24 : decode cX11_thin 24 = .ok (.iload_n 1, 1) := by decide +kernel
theorem dX11_thin_25 : decode cX11_thin 25 = .ok (.iaload, 1) := by decide +kernel
theorem dX11_thin_26 : decode cX11_thin 26 = .ok (.if_icmp .ge 59, 3) := by decide +kernel
theorem dX11_thin_29 : decode cX11_thin 29 = .ok (.aload_n 0, 1) := by decide +kernel
theorem dX11_thin_30 : decode cX11_thin 30 = .ok (.getfield 13, 3) := by decide +kernel
theorem dX11_thin_33 : decode cX11_thin 33 = .ok (.aload_n 0, 1) := by decide +kernel
theorem dX11_thin_34 : decode cX11_thin 34 = .ok (.getfield 16, 3) := by decide +kernel
theorem dX11_thin_37 : decode cX11_thin 37 = .ok (.sipush 800, 3) := by decide +kernel
theorem dX11_thin_40 : decode cX11_thin 40 = .ok (.iload_n 1, 1) := by decide +kernel
theorem dX11_thin_41 : decode cX11_thin 41 = .ok (.imul, 1) := by decide +kernel
theorem dX11_thin_42 : decode cX11_thin 42 = .ok (.iload 4, 2) := by decide +kernel
theorem dX11_thin_44 : decode cX11_thin 44 = .ok (.iadd, 1) := by decide +kernel
theorem dX11_thin_45 : decode cX11_thin 45 = .ok (.iaload, 1) := by decide +kernel
theorem dX11_thin_46 : decode cX11_thin 46 = .ok (.iaload, 1) := by decide +kernel
theorem dX11_thin_47 : decode cX11_thin 47 = .ok (.iload_n 2, 1) := by decide +kernel
theorem dX11_thin_48 : decode cX11_thin 48 = .ok (.if_icmp .eq 31, 3) := by decide +kernel
theorem dX11_thin_51 : decode cX11_thin 51 = .ok (.aload_n 0, 1) := by decide +kernel
theorem dX11_thin_52 : decode cX11_thin 52 = .ok (.getfield 16, 3) := by decide +kernel
theorem dX11_thin_55 : decode cX11_thin 55 = .ok (.sipush 800, 3) := by decide +kernel
theorem dX11_thin_58 : decode cX11_thin 58 = .ok (.iload_n 1, 1) := by decide +kernel
theorem dX11_thin_59 : decode cX11_thin 59 = .ok (.imul, 1) := by decide +kernel
theorem dX11_thin_60 : decode cX11_thin 60 = .ok (.iload_n 3, 1) := by decide +kernel
theorem dX11_thin_61 : decode cX11_thin 61 = .ok (.iadd, 1) := by decide +kernel
theorem dX11_thin_62 : decode cX11_thin 62 = .ok (.aload_n 0, 1) := by decide +kernel
theorem dX11_thin_63 : decode cX11_thin 63 = .ok (.getfield 16, 3) := by decide +kernel
theorem dX11_thin_66 : decode cX11_thin 66 = .ok (.sipush 800, 3) := by decide +kernel
theorem dX11_thin_69 : decode cX11_thin 69 = .ok (.iload_n 1, 1) := by decide +kernel
theorem dX11_thin_70 : decode cX11_thin 70 = .ok (.imul, 1) := by decide +kernel
theorem dX11_thin_71 : decode cX11_thin 71 = .ok (.iload 4, 2) := by decide +kernel
theorem dX11_thin_73 : decode cX11_thin 73 = .ok (.iadd, 1) := by decide +kernel
theorem dX11_thin_74 : decode cX11_thin 74 = .ok (.iaload, 1) := by decide +kernel
theorem dX11_thin_75 : decode cX11_thin 75 = .ok (.iastore, 1) := by decide +kernel
theorem dX11_thin_76 : decode cX11_thin 76 = .ok (.iinc 3 1, 3) := by decide +kernel
theorem dX11_thin_79 : decode cX11_thin 79 = .ok (.iinc 4 1, 3) := by decide +kernel
theorem dX11_thin_82 : decode cX11_thin 82 = .ok (.goto (-64), 3) := by decide +kernel
theorem dX11_thin_85 : decode cX11_thin 85 = .ok (.aload_n 0, 1) := by decide +kernel
theorem dX11_thin_86 : decode cX11_thin 86 = .ok (.getfield 22, 3) := by decide +kernel
theorem dX11_thin_89 : decode cX11_thin 89 = .ok (.iload_n 1, 1) := by decide +kernel
theorem dX11_thin_90 : decode cX11_thin 90 = .ok (.iaload, 1) := by decide +kernel
theorem dX11_thin_91 : decode cX11_thin 91 = .ok (.iload_n 3, 1) := by decide +kernel
theorem dX11_thin_92 : decode cX11_thin 92 = .ok (.isub, 1) := by decide +kernel
theorem dX11_thin_93 : decode cX11_thin 93 = .ok (.istore 4, 2) := by decide +kernel
theorem dX11_thin_95 : decode cX11_thin 95 = .ok (.aload_n 0, 1) := by decide +kernel
theorem dX11_thin_96 : decode cX11_thin 96 = .ok (.getfield 22, 3) := by decide +kernel
theorem dX11_thin_99 : decode cX11_thin 99 = .ok (.iload_n 1, 1) := by decide +kernel
theorem dX11_thin_100 : decode cX11_thin 100 = .ok (.iload_n 3, 1) := by decide +kernel
theorem dX11_thin_101 : decode cX11_thin 101 = .ok (.iastore, 1) := by decide +kernel
theorem dX11_thin_102 : decode cX11_thin 102 = .ok (.aload_n 0, 1) := by decide +kernel
theorem dX11_thin_103 : decode cX11_thin 103 = .ok (.iload 4, 2) := by decide +kernel
theorem dX11_thin_105 : decode cX11_thin 105 = .ok (.invokevirtual 82, 3) := by decide +kernel
theorem dX11_thin_108 : decode cX11_thin 108 = .ok (.ireturn, 1) := by decide +kernel
set_option maxRecDepth 20000 in
theorem ggX11_single_X11_isRow : GoodIn wsX11_single wsX11_isRow := goodIn_r _ [7, 8, 9, 6, 10] (by decide +kernel) (by decide +kernel)
set_option maxRecDepth 20000 in
theorem gX11_single_X11_isRow : GoodIn wsX11_single (va_wsS RX11 147 yX11_isRow wsX11_isRow) := goodIn_app (goodIn_of _ (by decide +kernel)) ggX11_single_X11_isRow
set_option maxRecDepth 20000 in
theorem ggX11_single_X11_refuse : GoodIn wsX11_single wsX11_refuse := goodIn_r _ [14, 15, 20, 21, 22, 23, 24, 25, 26, 27, 28, 29, 30, 31, 32, 33, 34, 35, 36, 37, 38, 39, 40, 41, 42, 43, 44, 45, 46] (by decide +kernel) (by decide +kernel)
set_option maxRecDepth 20000 in
theorem gX11_single_X11_refuse : GoodIn wsX11_single (wsV RX11 78 RX11 yX11_refuse wsX11_refuse) := goodIn_app (goodIn_of _ (by decide +kernel)) ggX11_single_X11_refuse
set_option maxRecDepth 20000 in
theorem ggX11_single_X11_told : GoodIn wsX11_single wsX11_told := goodIn_r _ [19, 15, 20, 21, 22, 23, 24, 25, 26, 27, 28, 29, 30, 31, 32, 33, 34, 35, 36, 37, 38, 39, 40, 41, 42, 43, 44, 45, 46] (by decide +kernel) (by decide +kernel)
set_option maxRecDepth 20000 in
theorem gX11_single_X11_told : GoodIn wsX11_single (wsV RX11 82 RX11 yX11_told wsX11_told) := goodIn_app (goodIn_of _ (by decide +kernel)) ggX11_single_X11_told
theorem dX11_single_0 : decode cX11_single 0 = .ok (.iload_n 1, 1) := by decide +kernel
theorem dX11_single_1 : decode cX11_single 1 = .ok (.invokestatic 147, 3) := by decide +kernel
theorem dX11_single_4 : decode cX11_single 4 = .ok (.ifCond .ne 9, 3) := by decide +kernel
theorem dX11_single_7 : decode cX11_single 7 = .ok (.aload_n 0, 1) := by decide +kernel
theorem dX11_single_8 : decode cX11_single 8 = .ok (.iconst 1, 1) := by decide +kernel
theorem dX11_single_9 : decode cX11_single 9 = .ok (.invokevirtual 78, 3) := by decide +kernel
theorem dX11_single_12 : decode cX11_single 12 = .ok (.ireturn, 1) := by decide +kernel
theorem dX11_single_13 : decode cX11_single 13 = .ok (.iconst 0, 1) := by decide +kernel
theorem dX11_single_14 : decode cX11_single 14 = .ok (.istore_n 2, 1) := by decide +kernel
theorem dX11_single_15 : decode cX11_single 15 = .ok (.iconst 0, 1) := by decide +kernel
theorem dX11_single_16 : decode cX11_single 16 = .ok (.istore_n 3, 1) := by decide +kernel
theorem dX11_single_17 : decode cX11_single 17 = .ok (.iconst 0, 1) := by decide +kernel
theorem dX11_single_18 : decode cX11_single 18 = .ok (.istore 4, 2) := by decide +kernel
theorem dX11_single_20 : decode cX11_single 20 = .ok (.iload 4, 2) := by decide +kernel
theorem dX11_single_22 : decode cX11_single 22 = .ok (.aload_n 0, 1) := by decide +kernel
theorem dX11_single_23 : decode cX11_single 23 = .ok (.getfield 22, 3) := by decide +kernel
theorem dX11_single_26 : decode cX11_single 26 = .ok (.iload_n 1, 1) := by decide +kernel
theorem dX11_single_27 : decode cX11_single 27 = .ok (.iaload, 1) := by decide +kernel
theorem dX11_single_28 : decode cX11_single 28 = .ok (.if_icmp .ge 65, 3) := by decide +kernel
theorem dX11_single_31 : decode cX11_single 31 = .ok (.aload_n 0, 1) := by decide +kernel
theorem dX11_single_32 : decode cX11_single 32 = .ok (.getfield 16, 3) := by decide +kernel
theorem dX11_single_35 : decode cX11_single 35 = .ok (.sipush 800, 3) := by decide +kernel
theorem dX11_single_38 : decode cX11_single 38 = .ok (.iload_n 1, 1) := by decide +kernel
theorem dX11_single_39 : decode cX11_single 39 = .ok (.imul, 1) := by decide +kernel
theorem dX11_single_40 : decode cX11_single 40 = .ok (.iload 4, 2) := by decide +kernel
theorem dX11_single_42 : decode cX11_single 42 = .ok (.iadd, 1) := by decide +kernel
theorem dX11_single_43 : decode cX11_single 43 = .ok (.iaload, 1) := by decide +kernel
theorem dX11_single_44 : decode cX11_single 44 = .ok (.istore 5, 2) := by decide +kernel
theorem dX11_single_46 : decode cX11_single 46 = .ok (.iload 4, 2) := by decide +kernel
theorem dX11_single_48 : decode cX11_single 48 = .ok (.ifCond .eq 14, 3) := by decide +kernel
theorem dX11_single_51 : decode cX11_single 51 = .ok (.aload_n 0, 1) := by decide +kernel
theorem dX11_single_52 : decode cX11_single 52 = .ok (.getfield 7, 3) := by decide +kernel
theorem dX11_single_55 : decode cX11_single 55 = .ok (.iload 5, 2) := by decide +kernel
theorem dX11_single_57 : decode cX11_single 57 = .ok (.iaload, 1) := by decide +kernel
theorem dX11_single_58 : decode cX11_single 58 = .ok (.iload_n 3, 1) := by decide +kernel
theorem dX11_single_59 : decode cX11_single 59 = .ok (.if_icmp .eq 20, 3) := by decide +kernel
theorem dX11_single_62 : decode cX11_single 62 = .ok (.aload_n 0, 1) := by decide +kernel
theorem dX11_single_63 : decode cX11_single 63 = .ok (.getfield 16, 3) := by decide +kernel
theorem dX11_single_66 : decode cX11_single 66 = .ok (.sipush 800, 3) := by decide +kernel
theorem dX11_single_69 : decode cX11_single 69 = .ok (.iload_n 1, 1) := by decide +kernel
theorem dX11_single_70 : decode cX11_single 70 = .ok (.imul, 1) := by decide +kernel
theorem dX11_single_71 : decode cX11_single 71 = .ok (.iload_n 2, 1) := by decide +kernel
theorem dX11_single_72 : decode cX11_single 72 = .ok (.iadd, 1) := by decide +kernel
theorem dX11_single_73 : decode cX11_single 73 = .ok (.iload 5, 2) := by decide +kernel
theorem dX11_single_75 : decode cX11_single 75 = .ok (.iastore, 1) := by decide +kernel
theorem dX11_single_76 : decode cX11_single 76 = .ok (.iinc 2 1, 3) := by decide +kernel
theorem dX11_single_79 : decode cX11_single 79 = .ok (.aload_n 0, 1) := by decide +kernel
theorem dX11_single_80 : decode cX11_single 80 = .ok (.getfield 7, 3) := by decide +kernel
theorem dX11_single_83 : decode cX11_single 83 = .ok (.iload 5, 2) := by decide +kernel
theorem dX11_single_85 : decode cX11_single 85 = .ok (.iaload, 1) := by decide +kernel
theorem dX11_single_86 : decode cX11_single 86 = .ok (.istore_n 3, 1) := by decide +kernel
theorem dX11_single_87 : decode cX11_single 87 = .ok (.iinc 4 1, 3) := by decide +kernel
theorem dX11_single_90 : decode cX11_single 90 = .ok (.goto (-70), 3) := by decide +kernel
theorem dX11_single_93 : decode cX11_single 93 = .ok (.aload_n 0, 1) := by decide +kernel
theorem dX11_single_94 : decode cX11_single 94 = .ok (.getfield 22, 3) := by decide +kernel
theorem dX11_single_97 : decode cX11_single 97 = .ok (.iload_n 1, 1) := by decide +kernel
theorem dX11_single_98 : decode cX11_single 98 = .ok (.iaload, 1) := by decide +kernel
theorem dX11_single_99 : decode cX11_single 99 = .ok (.iload_n 2, 1) := by decide +kernel
theorem dX11_single_100 : decode cX11_single 100 = .ok (.isub, 1) := by decide +kernel
theorem dX11_single_101 : decode cX11_single 101 = .ok (.istore 4, 2) := by decide +kernel
theorem dX11_single_103 : decode cX11_single 103 = .ok (.aload_n 0, 1) := by decide +kernel
theorem dX11_single_104 : decode cX11_single 104 = .ok (.getfield 22, 3) := by decide +kernel
theorem dX11_single_107 : decode cX11_single 107 = .ok (.iload_n 1, 1) := by decide +kernel
theorem dX11_single_108 : decode cX11_single 108 = .ok (.iload_n 2, 1) := by decide +kernel
theorem dX11_single_109 : decode cX11_single 109 = .ok (.iastore, 1) := by decide +kernel
theorem dX11_single_110 : decode cX11_single 110 = .ok (.aload_n 0, 1) := by decide +kernel
theorem dX11_single_111 : decode cX11_single 111 = .ok (.iload 4, 2) := by decide +kernel
theorem dX11_single_113 : decode cX11_single 113 = .ok (.invokevirtual 82, 3) := by decide +kernel
theorem dX11_single_116 : decode cX11_single 116 = .ok (.ireturn, 1) := by decide +kernel
set_option maxRecDepth 20000 in
theorem ggX11_empty_X11_isRow : GoodIn wsX11_empty wsX11_isRow := goodIn_r _ [5, 6, 7, 4, 8] (by decide +kernel) (by decide +kernel)
set_option maxRecDepth 20000 in
theorem gX11_empty_X11_isRow : GoodIn wsX11_empty (va_wsS RX11 147 yX11_isRow wsX11_isRow) := goodIn_app (goodIn_of _ (by decide +kernel)) ggX11_empty_X11_isRow
set_option maxRecDepth 20000 in
theorem ggX11_empty_X11_refuse : GoodIn wsX11_empty wsX11_refuse := goodIn_r _ [12, 13, 18, 19, 20, 21, 22, 23, 24, 25, 26, 27, 28, 29, 30, 31, 32, 33, 34, 35, 36, 37, 38, 39, 40, 41, 42, 43, 44] (by decide +kernel) (by decide +kernel)
set_option maxRecDepth 20000 in
theorem gX11_empty_X11_refuse : GoodIn wsX11_empty (wsV RX11 78 RX11 yX11_refuse wsX11_refuse) := goodIn_app (goodIn_of _ (by decide +kernel)) ggX11_empty_X11_refuse
set_option maxRecDepth 20000 in
theorem ggX11_empty_X11_told : GoodIn wsX11_empty wsX11_told := goodIn_r _ [17, 13, 18, 19, 20, 21, 22, 23, 24, 25, 26, 27, 28, 29, 30, 31, 32, 33, 34, 35, 36, 37, 38, 39, 40, 41, 42, 43, 44] (by decide +kernel) (by decide +kernel)
set_option maxRecDepth 20000 in
theorem gX11_empty_X11_told : GoodIn wsX11_empty (wsV RX11 82 RX11 yX11_told wsX11_told) := goodIn_app (goodIn_of _ (by decide +kernel)) ggX11_empty_X11_told
theorem dX11_empty_0 : decode cX11_empty 0 = .ok (.iload_n 1, 1) := by decide +kernel
theorem dX11_empty_1 : decode cX11_empty 1 = .ok (.invokestatic 147, 3) := by decide +kernel
theorem dX11_empty_4 : decode cX11_empty 4 = .ok (.ifCond .ne 9, 3) := by decide +kernel
theorem dX11_empty_7 : decode cX11_empty 7 = .ok (.aload_n 0, 1) := by decide +kernel
theorem dX11_empty_8 : decode cX11_empty 8 = .ok (.iconst 1, 1) := by decide +kernel
theorem dX11_empty_9 : decode cX11_empty 9 = .ok (.invokevirtual 78, 3) := by decide +kernel
theorem dX11_empty_12 : decode cX11_empty 12 = .ok (.ireturn, 1) := by decide +kernel
theorem dX11_empty_13 : decode cX11_empty 13 = .ok (.aload_n 0, 1) := by decide +kernel
theorem dX11_empty_14 : decode cX11_empty 14 = .ok (.getfield 22, 3) := by decide +kernel
theorem dX11_empty_17 : decode cX11_empty 17 = .ok (.iload_n 1, 1) := by decide +kernel
theorem dX11_empty_18 : decode cX11_empty 18 = .ok (.iaload, 1) := by decide +kernel
theorem dX11_empty_19 : decode cX11_empty 19 = .ok (.istore_n 2, 1) := by decide +kernel
theorem dX11_empty_20 : decode cX11_empty 20 = .ok (.aload_n 0, 1) := by decide +kernel
theorem dX11_empty_21 : decode cX11_empty 21 = .ok (.getfield 22, 3) := by decide +kernel
theorem dX11_empty_24 : decode cX11_empty 24 = .ok (.iload_n 1, 1) := by decide +kernel
theorem dX11_empty_25 : decode cX11_empty 25 = .ok (.iconst 0, 1) := by decide +kernel
theorem dX11_empty_26 : decode cX11_empty 26 = .ok (.iastore, 1) := by decide +kernel
theorem dX11_empty_27 : decode cX11_empty 27 = .ok (.aload_n 0, 1) := by decide +kernel
theorem dX11_empty_28 : decode cX11_empty 28 = .ok (.iload_n 2, 1) := by decide +kernel
theorem dX11_empty_29 : decode cX11_empty 29 = .ok (.invokevirtual 82, 3) := by decide +kernel
theorem dX11_empty_32 : decode cX11_empty 32 = .ok (.ireturn, 1) := by decide +kernel
set_option maxRecDepth 20000 in
theorem ggX11_keep_X11_isRow : GoodIn wsX11_keep wsX11_isRow := goodIn_r _ [8, 9, 10, 7, 11] (by decide +kernel) (by decide +kernel)
set_option maxRecDepth 20000 in
theorem gX11_keep_X11_isRow : GoodIn wsX11_keep (va_wsS RX11 147 yX11_isRow wsX11_isRow) := goodIn_app (goodIn_of _ (by decide +kernel)) ggX11_keep_X11_isRow
set_option maxRecDepth 20000 in
theorem ggX11_keep_X11_refuse : GoodIn wsX11_keep wsX11_refuse := goodIn_r _ [15, 16, 21, 22, 23, 24, 25, 26, 27, 28, 29, 30, 31, 32, 33, 34, 35, 36, 37, 38, 39, 40, 41, 42, 43, 44, 45, 46, 47] (by decide +kernel) (by decide +kernel)
set_option maxRecDepth 20000 in
theorem gX11_keep_X11_refuse : GoodIn wsX11_keep (wsV RX11 78 RX11 yX11_refuse wsX11_refuse) := goodIn_app (goodIn_of _ (by decide +kernel)) ggX11_keep_X11_refuse
set_option maxRecDepth 20000 in
theorem ggX11_keep_X11_told : GoodIn wsX11_keep wsX11_told := goodIn_r _ [20, 16, 21, 22, 23, 24, 25, 26, 27, 28, 29, 30, 31, 32, 33, 34, 35, 36, 37, 38, 39, 40, 41, 42, 43, 44, 45, 46, 47] (by decide +kernel) (by decide +kernel)
set_option maxRecDepth 20000 in
theorem gX11_keep_X11_told : GoodIn wsX11_keep (wsV RX11 82 RX11 yX11_told wsX11_told) := goodIn_app (goodIn_of _ (by decide +kernel)) ggX11_keep_X11_told
theorem dX11_keep_0 : decode cX11_keep 0 = .ok (.iload_n 1, 1) := by decide +kernel
theorem dX11_keep_1 : decode cX11_keep 1 = .ok (.invokestatic 147, 3) := by decide +kernel
theorem dX11_keep_4 : decode cX11_keep 4 = .ok (.ifCond .ne 9, 3) := by decide +kernel
theorem dX11_keep_7 : decode cX11_keep 7 = .ok (.aload_n 0, 1) := by decide +kernel
theorem dX11_keep_8 : decode cX11_keep 8 = .ok (.iconst 1, 1) := by decide +kernel
theorem dX11_keep_9 : decode cX11_keep 9 = .ok (.invokevirtual 78, 3) := by decide +kernel
theorem dX11_keep_12 : decode cX11_keep 12 = .ok (.ireturn, 1) := by decide +kernel
theorem dX11_keep_13 : decode cX11_keep 13 = .ok (.iconst 0, 1) := by decide +kernel
theorem dX11_keep_14 : decode cX11_keep 14 = .ok (.istore_n 2, 1) := by decide +kernel
theorem dX11_keep_15 : decode cX11_keep 15 = .ok (.iload_n 2, 1) := by decide +kernel
theorem dX11_keep_16 : decode cX11_keep 16 = .ok (.aload_n 0, 1) := by decide +kernel
theorem dX11_keep_17 : decode cX11_keep 17 = .ok (.getfield 22, 3) := by decide +kernel
theorem dX11_keep_20 : decode cX11_keep 20 = .ok (.iload_n 1, 1) := by decide +kernel
theorem dX11_keep_21 : decode cX11_keep 21 = .ok (.iaload, 1) := by decide +kernel
theorem dX11_keep_22 : decode cX11_keep 22 = .ok (.if_icmp .ge 33, 3) := by decide +kernel
theorem dX11_keep_25 : decode cX11_keep 25 = .ok (.aload_n 0, 1) := by decide +kernel
theorem dX11_keep_26 : decode cX11_keep 26 = .ok (.getfield 19, 3) := by decide +kernel
theorem dX11_keep_29 : decode cX11_keep 29 = .ok (.sipush 800, 3) := by decide +kernel
theorem dX11_keep_32 : decode cX11_keep 32 = .ok (.iload_n 1, 1) := by decide +kernel
theorem dX11_keep_33 : decode cX11_keep 33 = .ok (.imul, 1) := by decide +kernel
theorem dX11_keep_34 : decode cX11_keep 34 = .ok (.iload_n 2, 1) := by decide +kernel
theorem dX11_keep_35 : decode cX11_keep 35 = .ok (.iadd, 1) := by decide +kernel
theorem dX11_keep_36 : decode cX11_keep 36 = .ok (.aload_n 0, 1) := by decide +kernel
theorem dX11_keep_37 : decode cX11_keep 37 = .ok (.getfield 16, 3) := by decide +kernel
theorem dX11_keep_40 : decode cX11_keep 40 = .ok (.sipush 800, 3) := by decide +kernel
theorem dX11_keep_43 : decode cX11_keep 43 = .ok (.iload_n 1, 1) := by decide +kernel
theorem dX11_keep_44 : decode cX11_keep 44 = .ok (.imul, 1) := by decide +kernel
theorem dX11_keep_45 : decode cX11_keep 45 = .ok (.iload_n 2, 1) := by decide +kernel
theorem dX11_keep_46 : decode cX11_keep 46 = .ok (.iadd, 1) := by decide +kernel
theorem dX11_keep_47 : decode cX11_keep 47 = .ok (.iaload, 1) := by decide +kernel
theorem dX11_keep_48 : decode cX11_keep 48 = .ok (.iastore, 1) := by decide +kernel
theorem dX11_keep_49 : decode cX11_keep 49 = .ok (.iinc 2 1, 3) := by decide +kernel
theorem dX11_keep_52 : decode cX11_keep 52 = .ok (.goto (-37), 3) := by decide +kernel
theorem dX11_keep_55 : decode cX11_keep 55 = .ok (.aload_n 0, 1) := by decide +kernel
theorem dX11_keep_56 : decode cX11_keep 56 = .ok (.getfield 25, 3) := by decide +kernel
theorem dX11_keep_59 : decode cX11_keep 59 = .ok (.iload_n 1, 1) := by decide +kernel
theorem dX11_keep_60 : decode cX11_keep 60 = .ok (.aload_n 0, 1) := by decide +kernel
theorem dX11_keep_61 : decode cX11_keep 61 = .ok (.getfield 22, 3) := by decide +kernel
theorem dX11_keep_64 : decode cX11_keep 64 = .ok (.iload_n 1, 1) := by decide +kernel
theorem dX11_keep_65 : decode cX11_keep 65 = .ok (.iaload, 1) := by decide +kernel
theorem dX11_keep_66 : decode cX11_keep 66 = .ok (.iastore, 1) := by decide +kernel
theorem dX11_keep_67 : decode cX11_keep 67 = .ok (.aload_n 0, 1) := by decide +kernel
theorem dX11_keep_68 : decode cX11_keep 68 = .ok (.aload_n 0, 1) := by decide +kernel
theorem dX11_keep_69 : decode cX11_keep 69 = .ok (.getfield 22, 3) := by decide +kernel
theorem dX11_keep_72 : decode cX11_keep 72 = .ok (.iload_n 1, 1) := by decide +kernel
theorem dX11_keep_73 : decode cX11_keep 73 = .ok (.iaload, 1) := by decide +kernel
theorem dX11_keep_74 : decode cX11_keep 74 = .ok (.invokevirtual 82, 3) := by decide +kernel
theorem dX11_keep_77 : decode cX11_keep 77 = .ok (.ireturn, 1) := by decide +kernel
set_option maxRecDepth 20000 in
theorem ggX11_restore_X11_isRow : GoodIn wsX11_restore wsX11_isRow := goodIn_r _ [8, 9, 10, 7, 11] (by decide +kernel) (by decide +kernel)
set_option maxRecDepth 20000 in
theorem gX11_restore_X11_isRow : GoodIn wsX11_restore (va_wsS RX11 147 yX11_isRow wsX11_isRow) := goodIn_app (goodIn_of _ (by decide +kernel)) ggX11_restore_X11_isRow
set_option maxRecDepth 20000 in
theorem ggX11_restore_X11_refuse : GoodIn wsX11_restore wsX11_refuse := goodIn_r _ [15, 16, 27, 28, 29, 30, 31, 32, 33, 34, 35, 36, 37, 38, 39, 40, 41, 42, 43, 44, 45, 46, 47, 48, 49, 50, 51, 52, 53] (by decide +kernel) (by decide +kernel)
set_option maxRecDepth 20000 in
theorem gX11_restore_X11_refuse : GoodIn wsX11_restore (wsV RX11 78 RX11 yX11_refuse wsX11_refuse) := goodIn_app (goodIn_of _ (by decide +kernel)) ggX11_restore_X11_refuse
set_option maxRecDepth 20000 in
theorem ggX11_restore_X11_more : GoodIn wsX11_restore wsX11_more := goodIn_r _ [19] (by decide +kernel) (by decide +kernel)
set_option maxRecDepth 20000 in
theorem gX11_restore_X11_more : GoodIn wsX11_restore (va_wsS RX11 173 yX11_more wsX11_more) := goodIn_app (goodIn_of _ (by decide +kernel)) ggX11_restore_X11_more
set_option maxRecDepth 20000 in
theorem ggX11_restore_X11_less : GoodIn wsX11_restore wsX11_less := goodIn_r _ [22] (by decide +kernel) (by decide +kernel)
set_option maxRecDepth 20000 in
theorem gX11_restore_X11_less : GoodIn wsX11_restore (va_wsS RX11 176 yX11_less wsX11_less) := goodIn_app (goodIn_of _ (by decide +kernel)) ggX11_restore_X11_less
set_option maxRecDepth 20000 in
theorem ggX11_restore_X11_told : GoodIn wsX11_restore wsX11_told := goodIn_r _ [26, 16, 27, 28, 29, 30, 31, 32, 33, 34, 35, 36, 37, 38, 39, 40, 41, 42, 43, 44, 45, 46, 47, 48, 49, 50, 51, 52, 53] (by decide +kernel) (by decide +kernel)
set_option maxRecDepth 20000 in
theorem gX11_restore_X11_told : GoodIn wsX11_restore (wsV RX11 82 RX11 yX11_told wsX11_told) := goodIn_app (goodIn_of _ (by decide +kernel)) ggX11_restore_X11_told
theorem dX11_restore_0 : decode cX11_restore 0 = .ok (.iload_n 1, 1) := by decide +kernel
theorem dX11_restore_1 : decode cX11_restore 1 = .ok (.invokestatic 147, 3) := by decide +kernel
theorem dX11_restore_4 : decode cX11_restore 4 = .ok (.ifCond .ne 9, 3) := by decide +kernel
theorem dX11_restore_7 : decode cX11_restore 7 = .ok (.aload_n 0, 1) := by decide +kernel
theorem dX11_restore_8 : decode cX11_restore 8 = .ok (.iconst 1, 1) := by decide +kernel
theorem dX11_restore_9 : decode cX11_restore 9 = .ok (.invokevirtual 78, 3) := by decide +kernel
theorem dX11_restore_12 : decode cX11_restore 12 = .ok (.ireturn, 1) := by decide +kernel
theorem dX11_restore_13 : decode cX11_restore 13 = .ok (.aload_n 0, 1) := by decide +kernel
theorem dX11_restore_14 : decode cX11_restore 14 = .ok (.getfield 25, 3) := by decide +kernel
theorem dX11_restore_17 : decode cX11_restore 17 = .ok (.iload_n 1, 1) := by decide +kernel
theorem dX11_restore_18 : decode cX11_restore 18 = .ok (.iaload, 1) := by decide +kernel
theorem dX11_restore_19 : decode cX11_restore 19 = .ok (.iconst (-1), 1) := by decide +kernel
theorem dX11_restore_20 : decode cX11_restore 20 = .ok (.if_icmp .ne 9, 3) := by decide +kernel
theorem dX11_restore_23 : decode cX11_restore 23 = .ok (.aload_n 0, 1) := by decide +kernel
theorem dX11_restore_24 : decode cX11_restore 24 = .ok (.iconst 2, 1) := by decide +kernel
theorem dX11_restore_25 : decode cX11_restore 25 = .ok (.invokevirtual 78, 3) := by decide +kernel
theorem dX11_restore_28 : decode cX11_restore 28 = .ok (.ireturn, 1) := by decide +kernel
theorem dX11_restore_29 : decode cX11_restore 29 = .ok (.aload_n 0, 1) := by decide +kernel
theorem dX11_restore_30 : decode cX11_restore 30 = .ok (.getfield 22, 3) := by decide +kernel
theorem dX11_restore_33 : decode cX11_restore 33 = .ok (.iload_n 1, 1) := by decide +kernel
theorem dX11_restore_34 : decode cX11_restore 34 = .ok (.iaload, 1) := by decide +kernel
theorem dX11_restore_35 : decode cX11_restore 35 = .ok (.aload_n 0, 1) := by decide +kernel
theorem dX11_restore_36 : decode cX11_restore 36 = .ok (.getfield 25, 3) := by decide +kernel
theorem dX11_restore_39 : decode cX11_restore 39 = .ok (.iload_n 1, 1) := by decide +kernel
theorem dX11_restore_40 : decode cX11_restore 40 = .ok (.iaload, 1) := by decide +kernel
theorem dX11_restore_41 : decode cX11_restore 41 = .ok (.invokestatic 173, 3) := by decide +kernel
theorem dX11_restore_44 : decode cX11_restore 44 = .ok (.aload_n 0, 1) := by decide +kernel
theorem dX11_restore_45 : decode cX11_restore 45 = .ok (.getfield 22, 3) := by decide +kernel
theorem dX11_restore_48 : decode cX11_restore 48 = .ok (.iload_n 1, 1) := by decide +kernel
theorem dX11_restore_49 : decode cX11_restore 49 = .ok (.iaload, 1) := by decide +kernel
theorem dX11_restore_50 : decode cX11_restore 50 = .ok (.aload_n 0, 1) := by decide +kernel
theorem dX11_restore_51 : decode cX11_restore 51 = .ok (.getfield 25, 3) := by decide +kernel
theorem dX11_restore_54 : decode cX11_restore 54 = .ok (.iload_n 1, 1) := by decide +kernel
theorem dX11_restore_55 : decode cX11_restore 55 = .ok (.iaload, 1) := by decide +kernel
theorem dX11_restore_56 : decode cX11_restore 56 = .ok (.invokestatic 176, 3) := by decide +kernel
theorem dX11_restore_59 : decode cX11_restore 59 = .ok (.isub, 1) := by decide +kernel
theorem dX11_restore_60 : decode cX11_restore 60 = .ok (.istore_n 2, 1) := by decide +kernel
theorem dX11_restore_61 : decode cX11_restore 61 = .ok (.iconst 0, 1) := by decide +kernel
theorem dX11_restore_62 : decode cX11_restore 62 = .ok (.istore_n 3, 1) := by decide +kernel
theorem dX11_restore_63 : decode cX11_restore 63 = .ok (.iload_n 3, 1) := by decide +kernel
theorem dX11_restore_64 : decode cX11_restore 64 = .ok (.aload_n 0, 1) := by decide +kernel
theorem dX11_restore_65 : decode cX11_restore 65 = .ok (.getfield 22, 3) := by decide +kernel
theorem dX11_restore_68 : decode cX11_restore 68 = .ok (.iload_n 1, 1) := by decide +kernel
theorem dX11_restore_69 : decode cX11_restore 69 = .ok (.iaload, 1) := by decide +kernel
theorem dX11_restore_70 : decode cX11_restore 70 = .ok (.aload_n 0, 1) := by decide +kernel
theorem dX11_restore_71 : decode cX11_restore 71 = .ok (.getfield 25, 3) := by decide +kernel
theorem dX11_restore_74 : decode cX11_restore 74 = .ok (.iload_n 1, 1) := by decide +kernel
theorem dX11_restore_75 : decode cX11_restore 75 = .ok (.iaload, 1) := by decide +kernel
theorem dX11_restore_76 : decode cX11_restore 76 = .ok (.invokestatic 176, 3) := by decide +kernel
theorem dX11_restore_79 : decode cX11_restore 79 = .ok (.if_icmp .ge 44, 3) := by decide +kernel
theorem dX11_restore_82 : decode cX11_restore 82 = .ok (.iload_n 2, 1) := by decide +kernel
theorem dX11_restore_83 : decode cX11_restore 83 = .ok (.aload_n 0, 1) := by decide +kernel
theorem dX11_restore_84 : decode cX11_restore 84 = .ok (.getfield 16, 3) := by decide +kernel
theorem dX11_restore_87 : decode cX11_restore 87 = .ok (.sipush 800, 3) := by decide +kernel
theorem dX11_restore_90 : decode cX11_restore 90 = .ok (.iload_n 1, 1) := by decide +kernel
theorem dX11_restore_91 : decode cX11_restore 91 = .ok (.imul, 1) := by decide +kernel
theorem dX11_restore_92 : decode cX11_restore 92 = .ok (.iload_n 3, 1) := by decide +kernel
theorem dX11_restore_93 : decode cX11_restore 93 = .ok (.iadd, 1) := by decide +kernel
theorem dX11_restore_94 : decode cX11_restore 94 = .ok (.iaload, 1) := by decide +kernel
theorem dX11_restore_95 : decode cX11_restore 95 = .ok (.aload_n 0, 1) := by decide +kernel
theorem dX11_restore_96 : decode cX11_restore 96 = .ok (.getfield 19, 3) := by decide +kernel
theorem dX11_restore_99 : decode cX11_restore 99 = .ok (.sipush 800, 3) := by decide +kernel
theorem dX11_restore_102 : decode cX11_restore 102 = .ok (.iload_n 1, 1) := by decide +kernel
theorem dX11_restore_103 : decode cX11_restore 103 = .ok (.imul, 1) := by decide +kernel
theorem dX11_restore_104 : decode cX11_restore 104 = .ok (.iload_n 3, 1) := by decide +kernel
theorem dX11_restore_105 : decode cX11_restore 105 = .ok (.iadd, 1) := by decide +kernel
theorem dX11_restore_106 : decode cX11_restore 106 = .ok (.iaload, 1) := by decide +kernel
theorem dX11_restore_107 : decode cX11_restore 107 = .ok (.if_icmp .ne 7, 3) := by decide +kernel
theorem dX11_restore_110 : decode cX11_restore 110 = .ok (.iconst 0, 1) := by decide +kernel
theorem dX11_restore_111 : decode cX11_restore 111 = .ok (.goto 4, 3) := by decide +kernel
theorem dX11_restore_114 : decode cX11_restore 114 = .ok (.iconst 1, 1) := by decide +kernel
theorem dX11_restore_115 : decode cX11_restore 115 = .ok (.iadd, 1) := by decide +kernel
theorem dX11_restore_116 : decode cX11_restore 116 = .ok (.istore_n 2, 1) := by decide +kernel
theorem dX11_restore_117 : decode cX11_restore 117 = .ok (.iinc 3 1, 3) := by decide +kernel
theorem dX11_restore_120 : decode cX11_restore 120 = .ok (.goto (-57), 3) := by decide +kernel
theorem dX11_restore_123 : decode cX11_restore 123 = .ok (.aload_n 0, 1) := by decide +kernel
theorem dX11_restore_124 : decode cX11_restore 124 = .ok (.getfield 22, 3) := by decide +kernel
theorem dX11_restore_127 : decode cX11_restore 127 = .ok (.iload_n 1, 1) := by decide +kernel
theorem dX11_restore_128 : decode cX11_restore 128 = .ok (.aload_n 0, 1) := by decide +kernel
theorem dX11_restore_129 : decode cX11_restore 129 = .ok (.getfield 25, 3) := by decide +kernel
theorem dX11_restore_132 : decode cX11_restore 132 = .ok (.iload_n 1, 1) := by decide +kernel
theorem dX11_restore_133 : decode cX11_restore 133 = .ok (.iaload, 1) := by decide +kernel
theorem dX11_restore_134 : decode cX11_restore 134 = .ok (.iastore, 1) := by decide +kernel
theorem dX11_restore_135 : decode cX11_restore 135 = .ok (.iconst 0, 1) := by decide +kernel
theorem dX11_restore_136 : decode cX11_restore 136 = .ok (.istore_n 3, 1) := by decide +kernel
theorem dX11_restore_137 : decode cX11_restore 137 = .ok (.iload_n 3, 1) := by decide +kernel
theorem dX11_restore_138 : decode cX11_restore 138 = .ok (.aload_n 0, 1) := by decide +kernel
theorem dX11_restore_139 : decode cX11_restore 139 = .ok (.getfield 22, 3) := by decide +kernel
theorem dX11_restore_142 : decode cX11_restore 142 = .ok (.iload_n 1, 1) := by decide +kernel
theorem dX11_restore_143 : decode cX11_restore 143 = .ok (.iaload, 1) := by decide +kernel
theorem dX11_restore_144 : decode cX11_restore 144 = .ok (.if_icmp .ge 33, 3) := by decide +kernel
theorem dX11_restore_147 : decode cX11_restore 147 = .ok (.aload_n 0, 1) := by decide +kernel
theorem dX11_restore_148 : decode cX11_restore 148 = .ok (.getfield 16, 3) := by decide +kernel
theorem dX11_restore_151 : decode cX11_restore 151 = .ok (.sipush 800, 3) := by decide +kernel
theorem dX11_restore_154 : decode cX11_restore 154 = .ok (.iload_n 1, 1) := by decide +kernel
theorem dX11_restore_155 : decode cX11_restore 155 = .ok (.imul, 1) := by decide +kernel
theorem dX11_restore_156 : decode cX11_restore 156 = .ok (.iload_n 3, 1) := by decide +kernel
theorem dX11_restore_157 : decode cX11_restore 157 = .ok (.iadd, 1) := by decide +kernel
theorem dX11_restore_158 : decode cX11_restore 158 = .ok (.aload_n 0, 1) := by decide +kernel
theorem dX11_restore_159 : decode cX11_restore 159 = .ok (.getfield 19, 3) := by decide +kernel
theorem dX11_restore_162 : decode cX11_restore 162 = .ok (.sipush 800, 3) := by decide +kernel
theorem dX11_restore_165 : decode cX11_restore 165 = .ok (.iload_n 1, 1) := by decide +kernel
theorem dX11_restore_166 : decode cX11_restore 166 = .ok (.imul, 1) := by decide +kernel
theorem dX11_restore_167 : decode cX11_restore 167 = .ok (.iload_n 3, 1) := by decide +kernel
theorem dX11_restore_168 : decode cX11_restore 168 = .ok (.iadd, 1) := by decide +kernel
theorem dX11_restore_169 : decode cX11_restore 169 = .ok (.iaload, 1) := by decide +kernel
theorem dX11_restore_170 : decode cX11_restore 170 = .ok (.iastore, 1) := by decide +kernel
theorem dX11_restore_171 : decode cX11_restore 171 = .ok (.iinc 3 1, 3) := by decide +kernel
theorem dX11_restore_174 : decode cX11_restore 174 = .ok (.goto (-37), 3) := by decide +kernel
theorem dX11_restore_177 : decode cX11_restore 177 = .ok (.aload_n 0, 1) := by decide +kernel
theorem dX11_restore_178 : decode cX11_restore 178 = .ok (.iload_n 2, 1) := by decide +kernel
theorem dX11_restore_179 : decode cX11_restore 179 = .ok (.invokevirtual 82, 3) := by decide +kernel
theorem dX11_restore_182 : decode cX11_restore 182 = .ok (.ireturn, 1) := by decide +kernel
theorem dX11_firstAt_0 : decode cX11_firstAt 0 = .ok (.aload_n 0, 1) := by decide +kernel
theorem dX11_firstAt_1 : decode cX11_firstAt 1 = .ok (.getfield 7, 3) := by decide +kernel
theorem dX11_firstAt_4 : decode cX11_firstAt 4 = .ok (.aload_n 0, 1) := by decide +kernel
theorem dX11_firstAt_5 : decode cX11_firstAt 5 = .ok (.getfield 16, 3) := by decide +kernel
theorem dX11_firstAt_8 : decode cX11_firstAt 8 = .ok (.sipush 800, 3) := by decide +kernel
theorem dX11_firstAt_11 : decode cX11_firstAt 11 = .ok (.iload_n 1, 1) := by decide +kernel
theorem dX11_firstAt_12 : decode cX11_firstAt 12 = .ok (.imul, 1) := by decide +kernel
theorem dX11_firstAt_13 : decode cX11_firstAt 13 = .ok (.iload_n 2, 1) := by decide +kernel
theorem dX11_firstAt_14 : decode cX11_firstAt 14 = .ok (.iadd, 1) := by decide +kernel
theorem dX11_firstAt_15 : decode cX11_firstAt 15 = .ok (.iaload, 1) := by decide +kernel
theorem dX11_firstAt_16 : decode cX11_firstAt 16 = .ok (.iaload, 1) := by decide +kernel
theorem dX11_firstAt_17 : decode cX11_firstAt 17 = .ok (.ireturn, 1) := by decide +kernel
set_option maxRecDepth 20000 in
theorem ggX11_count_X11_isRow : GoodIn wsX11_count wsX11_isRow := goodIn_r _ [5, 6, 7, 4, 8] (by decide +kernel) (by decide +kernel)
set_option maxRecDepth 20000 in
theorem gX11_count_X11_isRow : GoodIn wsX11_count (va_wsS RX11 147 yX11_isRow wsX11_isRow) := goodIn_app (goodIn_of _ (by decide +kernel)) ggX11_count_X11_isRow
set_option maxRecDepth 20000 in
theorem ggX11_count_X11_told : GoodIn wsX11_count wsX11_told := goodIn_r _ [12, 13, 18, 19, 20, 21, 22, 23, 24, 25, 26, 27, 28, 29, 30, 31, 32, 33, 34, 35, 36, 37, 38, 39, 40, 41, 42, 43, 44] (by decide +kernel) (by decide +kernel)
set_option maxRecDepth 20000 in
theorem gX11_count_X11_told : GoodIn wsX11_count (wsV RX11 82 RX11 yX11_told wsX11_told) := goodIn_app (goodIn_of _ (by decide +kernel)) ggX11_count_X11_told
set_option maxRecDepth 20000 in
theorem ggX11_count_X11_refuse : GoodIn wsX11_count wsX11_refuse := goodIn_r _ [17, 13, 18, 19, 20, 21, 22, 23, 24, 25, 26, 27, 28, 29, 30, 31, 32, 33, 34, 35, 36, 37, 38, 39, 40, 41, 42, 43, 44] (by decide +kernel) (by decide +kernel)
set_option maxRecDepth 20000 in
theorem gX11_count_X11_refuse : GoodIn wsX11_count (wsV RX11 78 RX11 yX11_refuse wsX11_refuse) := goodIn_app (goodIn_of _ (by decide +kernel)) ggX11_count_X11_refuse
theorem dX11_count_0 : decode cX11_count 0 = .ok (.iload_n 1, 1) := by decide +kernel
theorem dX11_count_1 : decode cX11_count 1 = .ok (.invokestatic 147, 3) := by decide +kernel
theorem dX11_count_4 : decode cX11_count 4 = .ok (.ifCond .eq 16, 3) := by decide +kernel
theorem dX11_count_7 : decode cX11_count 7 = .ok (.aload_n 0, 1) := by decide +kernel
theorem dX11_count_8 : decode cX11_count 8 = .ok (.aload_n 0, 1) := by decide +kernel
theorem dX11_count_9 : decode cX11_count 9 = .ok (.getfield 22, 3) := by decide +kernel
theorem dX11_count_12 : decode cX11_count 12 = .ok (.iload_n 1, 1) := by decide +kernel
theorem dX11_count_13 : decode cX11_count 13 = .ok (.iaload, 1) := by decide +kernel
theorem dX11_count_14 : decode cX11_count 14 = .ok (.invokevirtual 82, 3) := by decide +kernel
theorem dX11_count_17 : decode cX11_count 17 = .ok (.goto 8, 3) := by decide +kernel
theorem dX11_count_20 : decode cX11_count 20 = .ok (.aload_n 0, 1) := by decide +kernel
theorem dX11_count_21 : decode cX11_count 21 = .ok (.iconst 1, 1) := by decide +kernel
theorem dX11_count_22 : decode cX11_count 22 = .ok (.invokevirtual 78, 3) := by decide +kernel
theorem dX11_count_25 : decode cX11_count 25 = .ok (.ireturn, 1) := by decide +kernel
set_option maxRecDepth 20000 in
theorem ggX11_cardAt_X11_isPlace : GoodIn wsX11_cardAt wsX11_isPlace := goodIn_r _ [8, 9, 10, 11, 7, 12, 13, 14, 15, 25, 26, 27, 28, 29, 30, 31, 32, 33, 34, 35, 36, 37, 38, 39, 40, 41, 42, 43, 44, 45, 46, 47, 48, 49, 50, 51] (by decide +kernel) (by decide +kernel)
set_option maxRecDepth 20000 in
theorem gX11_cardAt_X11_isPlace : GoodIn wsX11_cardAt (wsV RX11 169 RX11 yX11_isPlace wsX11_isPlace) := goodIn_app (goodIn_of _ (by decide +kernel)) ggX11_cardAt_X11_isPlace
set_option maxRecDepth 20000 in
theorem ggX11_cardAt_X11_refuse : GoodIn wsX11_cardAt wsX11_refuse := goodIn_r _ [19, 20, 25, 26, 27, 28, 29, 30, 31, 32, 33, 34, 35, 36, 37, 38, 39, 40, 41, 42, 43, 44, 45, 46, 47, 48, 49, 50, 51] (by decide +kernel) (by decide +kernel)
set_option maxRecDepth 20000 in
theorem gX11_cardAt_X11_refuse : GoodIn wsX11_cardAt (wsV RX11 78 RX11 yX11_refuse wsX11_refuse) := goodIn_app (goodIn_of _ (by decide +kernel)) ggX11_cardAt_X11_refuse
set_option maxRecDepth 20000 in
theorem ggX11_cardAt_X11_told : GoodIn wsX11_cardAt wsX11_told := goodIn_r _ [24, 20, 25, 26, 27, 28, 29, 30, 31, 32, 33, 34, 35, 36, 37, 38, 39, 40, 41, 42, 43, 44, 45, 46, 47, 48, 49, 50, 51] (by decide +kernel) (by decide +kernel)
set_option maxRecDepth 20000 in
theorem gX11_cardAt_X11_told : GoodIn wsX11_cardAt (wsV RX11 82 RX11 yX11_told wsX11_told) := goodIn_app (goodIn_of _ (by decide +kernel)) ggX11_cardAt_X11_told
theorem dX11_cardAt_0 : decode cX11_cardAt 0 = .ok (.aload_n 0, 1) := by decide +kernel
theorem dX11_cardAt_1 : decode cX11_cardAt 1 = .ok (.iload_n 1, 1) := by decide +kernel
theorem dX11_cardAt_2 : decode cX11_cardAt 2 = .ok (.iload_n 2, 1) := by decide +kernel
theorem dX11_cardAt_3 : decode cX11_cardAt 3 = .ok (.invokevirtual 169, 3) := by decide +kernel
theorem dX11_cardAt_6 : decode cX11_cardAt 6 = .ok (.ifCond .ne 9, 3) := by decide +kernel
theorem dX11_cardAt_9 : decode cX11_cardAt 9 = .ok (.aload_n 0, 1) := by decide +kernel
theorem dX11_cardAt_10 : decode cX11_cardAt 10 = .ok (.iconst 1, 1) := by decide +kernel
theorem dX11_cardAt_11 : decode cX11_cardAt 11 = .ok (.invokevirtual 78, 3) := by decide +kernel
theorem dX11_cardAt_14 : decode cX11_cardAt 14 = .ok (.ireturn, 1) := by decide +kernel
theorem dX11_cardAt_15 : decode cX11_cardAt 15 = .ok (.aload_n 0, 1) := by decide +kernel
theorem dX11_cardAt_16 : decode cX11_cardAt 16 = .ok (.getfield 16, 3) := by decide +kernel
theorem dX11_cardAt_19 : decode cX11_cardAt 19 = .ok (.sipush 800, 3) := by decide +kernel
theorem dX11_cardAt_22 : decode cX11_cardAt 22 = .ok (.iload_n 1, 1) := by decide +kernel
theorem dX11_cardAt_23 : decode cX11_cardAt 23 = .ok (.imul, 1) := by decide +kernel
theorem dX11_cardAt_24 : decode cX11_cardAt 24 = .ok (.iload_n 2, 1) := by decide +kernel
theorem dX11_cardAt_25 : decode cX11_cardAt 25 = .ok (.iadd, 1) := by decide +kernel
theorem dX11_cardAt_26 : decode cX11_cardAt 26 = .ok (.iaload, 1) := by decide +kernel
theorem dX11_cardAt_27 : decode cX11_cardAt 27 = .ok (.istore 4, 2) := by decide +kernel
theorem dX11_cardAt_29 : decode cX11_cardAt 29 = .ok (.iload_n 3, 1) := by decide +kernel
theorem dX11_cardAt_30 : decode cX11_cardAt 30 = .ok (.tableswitch 57 0 2 #[26, 38, 50], 26) := by decide +kernel
theorem dX11_cardAt_56 : decode cX11_cardAt 56 = .ok (.aload_n 0, 1) := by decide +kernel
theorem dX11_cardAt_57 : decode cX11_cardAt 57 = .ok (.aload_n 0, 1) := by decide +kernel
theorem dX11_cardAt_58 : decode cX11_cardAt 58 = .ok (.getfield 7, 3) := by decide +kernel
theorem dX11_cardAt_61 : decode cX11_cardAt 61 = .ok (.iload 4, 2) := by decide +kernel
theorem dX11_cardAt_63 : decode cX11_cardAt 63 = .ok (.iaload, 1) := by decide +kernel
theorem dX11_cardAt_64 : decode cX11_cardAt 64 = .ok (.invokevirtual 82, 3) := by decide +kernel
theorem dX11_cardAt_67 : decode cX11_cardAt 67 = .ok (.ireturn, 1) := by decide +kernel
theorem dX11_cardAt_68 : decode cX11_cardAt 68 = .ok (.aload_n 0, 1) := by decide +kernel
theorem dX11_cardAt_69 : decode cX11_cardAt 69 = .ok (.aload_n 0, 1) := by decide +kernel
theorem dX11_cardAt_70 : decode cX11_cardAt 70 = .ok (.getfield 13, 3) := by decide +kernel
theorem dX11_cardAt_73 : decode cX11_cardAt 73 = .ok (.iload 4, 2) := by decide +kernel
theorem dX11_cardAt_75 : decode cX11_cardAt 75 = .ok (.iaload, 1) := by decide +kernel
theorem dX11_cardAt_76 : decode cX11_cardAt 76 = .ok (.invokevirtual 82, 3) := by decide +kernel
theorem dX11_cardAt_79 : decode cX11_cardAt 79 = .ok (.ireturn, 1) := by decide +kernel
theorem dX11_cardAt_80 : decode cX11_cardAt 80 = .ok (.aload_n 0, 1) := by decide +kernel
theorem dX11_cardAt_81 : decode cX11_cardAt 81 = .ok (.iload 4, 2) := by decide +kernel
theorem dX11_cardAt_83 : decode cX11_cardAt 83 = .ok (.invokevirtual 82, 3) := by decide +kernel
theorem dX11_cardAt_86 : decode cX11_cardAt 86 = .ok (.ireturn, 1) := by decide +kernel
theorem dX11_cardAt_87 : decode cX11_cardAt 87 = .ok (.aload_n 0, 1) := by decide +kernel
theorem dX11_cardAt_88 : decode cX11_cardAt 88 = .ok (.iconst 2, 1) := by decide +kernel
theorem dX11_cardAt_89 : decode cX11_cardAt 89 = .ok (.invokevirtual 78, 3) := by decide +kernel
theorem dX11_cardAt_92 : decode cX11_cardAt 92 = .ok (.ireturn, 1) := by decide +kernel
set_option maxRecDepth 20000 in
theorem ggX11_placeOf_X11_isRow : GoodIn wsX11_placeOf wsX11_isRow := goodIn_r _ [6, 7, 8, 5, 9] (by decide +kernel) (by decide +kernel)
set_option maxRecDepth 20000 in
theorem gX11_placeOf_X11_isRow : GoodIn wsX11_placeOf (va_wsS RX11 147 yX11_isRow wsX11_isRow) := goodIn_app (goodIn_of _ (by decide +kernel)) ggX11_placeOf_X11_isRow
set_option maxRecDepth 20000 in
theorem ggX11_placeOf_X11_refuse : GoodIn wsX11_placeOf wsX11_refuse := goodIn_r _ [13, 14, 19, 20, 21, 22, 23, 24, 25, 26, 27, 28, 29, 30, 31, 32, 33, 34, 35, 36, 37, 38, 39, 40, 41, 42, 43, 44, 45] (by decide +kernel) (by decide +kernel)
set_option maxRecDepth 20000 in
theorem gX11_placeOf_X11_refuse : GoodIn wsX11_placeOf (wsV RX11 78 RX11 yX11_refuse wsX11_refuse) := goodIn_app (goodIn_of _ (by decide +kernel)) ggX11_placeOf_X11_refuse
set_option maxRecDepth 20000 in
theorem ggX11_placeOf_X11_told : GoodIn wsX11_placeOf wsX11_told := goodIn_r _ [18, 14, 19, 20, 21, 22, 23, 24, 25, 26, 27, 28, 29, 30, 31, 32, 33, 34, 35, 36, 37, 38, 39, 40, 41, 42, 43, 44, 45] (by decide +kernel) (by decide +kernel)
set_option maxRecDepth 20000 in
theorem gX11_placeOf_X11_told : GoodIn wsX11_placeOf (wsV RX11 82 RX11 yX11_told wsX11_told) := goodIn_app (goodIn_of _ (by decide +kernel)) ggX11_placeOf_X11_told
theorem dX11_placeOf_0 : decode cX11_placeOf 0 = .ok (.iload_n 1, 1) := by decide +kernel
theorem dX11_placeOf_1 : decode cX11_placeOf 1 = .ok (.invokestatic 147, 3) := by decide +kernel
theorem dX11_placeOf_4 : decode cX11_placeOf 4 = .ok (.ifCond .ne 9, 3) := by decide +kernel
theorem dX11_placeOf_7 : decode cX11_placeOf 7 = .ok (.aload_n 0, 1) := by decide +kernel
theorem dX11_placeOf_8 : decode cX11_placeOf 8 = .ok (.iconst 1, 1) := by decide +kernel
theorem dX11_placeOf_9 : decode cX11_placeOf 9 = .ok (.invokevirtual 78, 3) := by decide +kernel
theorem dX11_placeOf_12 : decode cX11_placeOf 12 = .ok (.ireturn, 1) := by decide +kernel
theorem dX11_placeOf_13 : decode cX11_placeOf 13 = .ok (.iconst 0, 1) := by decide +kernel
theorem dX11_placeOf_14 : decode cX11_placeOf 14 = .ok (.istore_n 3, 1) := by decide +kernel
theorem dX11_placeOf_15 : decode cX11_placeOf 15 = .ok (.iload_n 3, 1) := by decide +kernel
theorem dX11_placeOf_16 : decode cX11_placeOf 16 = .ok (.aload_n 0, 1) := by decide +kernel
theorem dX11_placeOf_17 : decode cX11_placeOf 17 = .ok (.getfield 22, 3) := by decide +kernel
theorem dX11_placeOf_20 : decode cX11_placeOf 20 = .ok (.iload_n 1, 1) := by decide +kernel
theorem dX11_placeOf_21 : decode cX11_placeOf 21 = .ok (.iaload, 1) := by decide +kernel
theorem dX11_placeOf_22 : decode cX11_placeOf 22 = .ok (.if_icmp .ge 31, 3) := by decide +kernel
theorem dX11_placeOf_25 : decode cX11_placeOf 25 = .ok (.aload_n 0, 1) := by decide +kernel
theorem dX11_placeOf_26 : decode cX11_placeOf 26 = .ok (.getfield 16, 3) := by decide +kernel
theorem dX11_placeOf_29 : decode cX11_placeOf 29 = .ok (.sipush 800, 3) := by decide +kernel
theorem dX11_placeOf_32 : decode cX11_placeOf 32 = .ok (.iload_n 1, 1) := by decide +kernel
theorem dX11_placeOf_33 : decode cX11_placeOf 33 = .ok (.imul, 1) := by decide +kernel
theorem dX11_placeOf_34 : decode cX11_placeOf 34 = .ok (.iload_n 3, 1) := by decide +kernel
theorem dX11_placeOf_35 : decode cX11_placeOf 35 = .ok (.iadd, 1) := by decide +kernel
theorem dX11_placeOf_36 : decode cX11_placeOf 36 = .ok (.iaload, 1) := by decide +kernel
theorem dX11_placeOf_37 : decode cX11_placeOf 37 = .ok (.iload_n 2, 1) := by decide +kernel
theorem dX11_placeOf_38 : decode cX11_placeOf 38 = .ok (.if_icmp .ne 9, 3) := by decide +kernel
theorem dX11_placeOf_41 : decode cX11_placeOf 41 = .ok (.aload_n 0, 1) := by decide +kernel
theorem dX11_placeOf_42 : decode cX11_placeOf 42 = .ok (.iload_n 3, 1) := by decide +kernel
theorem dX11_placeOf_43 : decode cX11_placeOf 43 = .ok (.invokevirtual 82, 3) := by decide +kernel
theorem dX11_placeOf_46 : decode cX11_placeOf 46 = .ok (.ireturn, 1) := by decide +kernel
theorem dX11_placeOf_47 : decode cX11_placeOf 47 = .ok (.iinc 3 1, 3) := by decide +kernel
theorem dX11_placeOf_50 : decode cX11_placeOf 50 = .ok (.goto (-35), 3) := by decide +kernel
theorem dX11_placeOf_53 : decode cX11_placeOf 53 = .ok (.aload_n 0, 1) := by decide +kernel
theorem dX11_placeOf_54 : decode cX11_placeOf 54 = .ok (.iconst (-1), 1) := by decide +kernel
theorem dX11_placeOf_55 : decode cX11_placeOf 55 = .ok (.invokevirtual 82, 3) := by decide +kernel
theorem dX11_placeOf_58 : decode cX11_placeOf 58 = .ok (.ireturn, 1) := by decide +kernel
set_option maxRecDepth 20000 in
theorem ggX11_rises_X11_firstAt : GoodIn wsX11_rises wsX11_firstAt := goodIn_r _ [5, 6, 7, 8, 9, 10, 11, 12, 13, 14, 15, 16, 17, 18, 19, 20, 21, 22, 23, 24, 25, 26, 27, 28, 29, 30, 31, 32, 33, 34] (by decide +kernel) (by decide +kernel)
set_option maxRecDepth 20000 in
theorem gX11_rises_X11_firstAt : GoodIn wsX11_rises (wsV RX11 179 RX11 yX11_firstAt wsX11_firstAt) := goodIn_app (goodIn_of _ (by decide +kernel)) ggX11_rises_X11_firstAt
theorem dX11_rises_0 : decode cX11_rises 0 = .ok (.aload_n 0, 1) := by decide +kernel
theorem dX11_rises_1 : decode cX11_rises 1 = .ok (.iload_n 1, 1) := by decide +kernel
theorem dX11_rises_2 : decode cX11_rises 2 = .ok (.iload_n 2, 1) := by decide +kernel
theorem dX11_rises_3 : decode cX11_rises 3 = .ok (.invokevirtual 179, 3) := by decide +kernel
theorem dX11_rises_6 : decode cX11_rises 6 = .ok (.aload_n 0, 1) := by decide +kernel
theorem dX11_rises_7 : decode cX11_rises 7 = .ok (.iload_n 1, 1) := by decide +kernel
theorem dX11_rises_8 : decode cX11_rises 8 = .ok (.iload_n 2, 1) := by decide +kernel
theorem dX11_rises_9 : decode cX11_rises 9 = .ok (.iconst 1, 1) := by decide +kernel
theorem dX11_rises_10 : decode cX11_rises 10 = .ok (.isub, 1) := by decide +kernel
theorem dX11_rises_11 : decode cX11_rises 11 = .ok (.invokevirtual 179, 3) := by decide +kernel
theorem dX11_rises_14 : decode cX11_rises 14 = .ok (.if_icmp .lt 7, 3) := by decide +kernel
theorem dX11_rises_17 : decode cX11_rises 17 = .ok (.iconst 1, 1) := by decide +kernel
theorem dX11_rises_18 : decode cX11_rises 18 = .ok (.goto 4, 3) := by decide +kernel
theorem dX11_rises_21 : decode cX11_rises 21 = .ok (.iconst 0, 1) := by decide +kernel
theorem dX11_rises_22 : decode cX11_rises 22 = .ok (.ireturn, 1) := by decide +kernel
set_option maxRecDepth 20000 in
theorem ggX11_runsOf_X11_rises : GoodIn wsX11_runsOf wsX11_rises := goodIn_r _ [6, 7, 8, 9, 5, 10, 11, 12, 13, 14, 15, 16, 17, 18, 19, 20, 21, 22, 23, 24, 25, 26, 27, 28, 29, 30, 31, 32, 33, 34, 35, 36, 37, 38, 39] (by decide +kernel) (by decide +kernel)
set_option maxRecDepth 20000 in
theorem gX11_runsOf_X11_rises : GoodIn wsX11_runsOf (wsV RX11 182 RX11 yX11_rises wsX11_rises) := goodIn_app (goodIn_of _ (by decide +kernel)) ggX11_runsOf_X11_rises
theorem dX11_runsOf_0 : decode cX11_runsOf 0 = .ok (.aload_n 0, 1) := by decide +kernel
theorem dX11_runsOf_1 : decode cX11_runsOf 1 = .ok (.getfield 22, 3) := by decide +kernel
theorem dX11_runsOf_4 : decode cX11_runsOf 4 = .ok (.iload_n 1, 1) := by decide +kernel
theorem dX11_runsOf_5 : decode cX11_runsOf 5 = .ok (.iaload, 1) := by decide +kernel
theorem dX11_runsOf_6 : decode cX11_runsOf 6 = .ok (.ifCond .ne 7, 3) := by decide +kernel
theorem dX11_runsOf_9 : decode cX11_runsOf 9 = .ok (.iconst 0, 1) := by decide +kernel
theorem dX11_runsOf_10 : decode cX11_runsOf 10 = .ok (.goto 4, 3) := by decide +kernel
theorem dX11_runsOf_13 : decode cX11_runsOf 13 = .ok (.iconst 1, 1) := by decide +kernel
theorem dX11_runsOf_14 : decode cX11_runsOf 14 = .ok (.istore_n 2, 1) := by decide +kernel
theorem dX11_runsOf_15 : decode cX11_runsOf 15 = .ok (.iconst 1, 1) := by decide +kernel
theorem dX11_runsOf_16 : decode cX11_runsOf 16 = .ok (.istore_n 3, 1) := by decide +kernel
theorem dX11_runsOf_17 : decode cX11_runsOf 17 = .ok (.iload_n 3, 1) := by decide +kernel
theorem dX11_runsOf_18 : decode cX11_runsOf 18 = .ok (.aload_n 0, 1) := by decide +kernel
theorem dX11_runsOf_19 : decode cX11_runsOf 19 = .ok (.getfield 22, 3) := by decide +kernel
theorem dX11_runsOf_22 : decode cX11_runsOf 22 = .ok (.iload_n 1, 1) := by decide +kernel
theorem dX11_runsOf_23 : decode cX11_runsOf 23 = .ok (.iaload, 1) := by decide +kernel
theorem dX11_runsOf_24 : decode cX11_runsOf 24 = .ok (.if_icmp .ge 26, 3) := by decide +kernel
theorem dX11_runsOf_27 : decode cX11_runsOf 27 = .ok (.iload_n 2, 1) := by decide +kernel
theorem dX11_runsOf_28 : decode cX11_runsOf 28 = .ok (.aload_n 0, 1) := by decide +kernel
theorem dX11_runsOf_29 : decode cX11_runsOf 29 = .ok (.iload_n 1, 1) := by decide +kernel
theorem dX11_runsOf_30 : decode cX11_runsOf 30 = .ok (.iload_n 3, 1) := by decide +kernel
theorem dX11_runsOf_31 : decode cX11_runsOf 31 = .ok (.invokevirtual 182, 3) := by decide +kernel
theorem dX11_runsOf_34 : decode cX11_runsOf 34 = .ok (.ifCond .eq 7, 3) := by decide +kernel
theorem dX11_runsOf_37 : decode cX11_runsOf 37 = .ok (.iconst 0, 1) := by decide +kernel
theorem dX11_runsOf_38 : decode cX11_runsOf 38 = .ok (.goto 4, 3) := by decide +kernel
theorem dX11_runsOf_41 : decode cX11_runsOf 41 = .ok (.iconst 1, 1) := by decide +kernel
theorem dX11_runsOf_42 : decode cX11_runsOf 42 = .ok (.iadd, 1) := by decide +kernel
theorem dX11_runsOf_43 : decode cX11_runsOf 43 = .ok (.istore_n 2, 1) := by decide +kernel
theorem dX11_runsOf_44 : decode cX11_runsOf 44 = .ok (.iinc 3 1, 3) := by decide +kernel
theorem dX11_runsOf_47 : decode cX11_runsOf 47 = .ok (.goto (-30), 3) := by decide +kernel
theorem dX11_runsOf_50 : decode cX11_runsOf 50 = .ok (.iload_n 2, 1) := by decide +kernel
theorem dX11_runsOf_51 : decode cX11_runsOf 51 = .ok (.ireturn, 1) := by decide +kernel
set_option maxRecDepth 20000 in
theorem ggX11_longestOf_X11_rises : GoodIn wsX11_longestOf wsX11_rises := goodIn_r _ [6, 7, 8, 9, 5, 10, 11, 12, 16, 17, 18, 19, 20, 21, 22, 23, 24, 25, 26, 27, 28, 29, 30, 31, 32, 33, 34, 35, 36, 37, 38, 39, 40, 41, 42] (by decide +kernel) (by decide +kernel)
set_option maxRecDepth 20000 in
theorem gX11_longestOf_X11_rises : GoodIn wsX11_longestOf (wsV RX11 182 RX11 yX11_rises wsX11_rises) := goodIn_app (goodIn_of _ (by decide +kernel)) ggX11_longestOf_X11_rises
set_option maxRecDepth 20000 in
theorem ggX11_longestOf_X11_more : GoodIn wsX11_longestOf wsX11_more := goodIn_r _ [15] (by decide +kernel) (by decide +kernel)
set_option maxRecDepth 20000 in
theorem gX11_longestOf_X11_more : GoodIn wsX11_longestOf (va_wsS RX11 173 yX11_more wsX11_more) := goodIn_app (goodIn_of _ (by decide +kernel)) ggX11_longestOf_X11_more
theorem dX11_longestOf_0 : decode cX11_longestOf 0 = .ok (.iconst 0, 1) := by decide +kernel
theorem dX11_longestOf_1 : decode cX11_longestOf 1 = .ok (.istore_n 2, 1) := by decide +kernel
theorem dX11_longestOf_2 : decode cX11_longestOf 2 = .ok (.iconst 0, 1) := by decide +kernel
theorem dX11_longestOf_3 : decode cX11_longestOf 3 = .ok (.istore_n 3, 1) := by decide +kernel
theorem dX11_longestOf_4 : decode cX11_longestOf 4 = .ok (.iconst 0, 1) := by decide +kernel
theorem dX11_longestOf_5 : decode cX11_longestOf 5 = .ok (.istore 4, 2) := by decide +kernel
theorem dX11_longestOf_7 : decode cX11_longestOf 7 = .ok (.iload 4, 2) := by decide +kernel
theorem dX11_longestOf_9 : decode cX11_longestOf 9 = .ok (.aload_n 0, 1) := by decide +kernel
theorem dX11_longestOf_10 : decode cX11_longestOf 10 = .ok (.getfield 22, 3) := by decide +kernel
theorem dX11_longestOf_13 : decode cX11_longestOf 13 = .ok (.iload_n 1, 1) := by decide +kernel
theorem dX11_longestOf_14 : decode cX11_longestOf 14 = .ok (.iaload, 1) := by decide +kernel
theorem dX11_longestOf_15 : decode cX11_longestOf 15 = .ok (.if_icmp .ge 38, 3) := by decide +kernel
theorem dX11_longestOf_18 : decode cX11_longestOf 18 = .ok (.iload 4, 2) := by decide +kernel
theorem dX11_longestOf_20 : decode cX11_longestOf 20 = .ok (.ifCond .le 19, 3) := by decide +kernel
theorem dX11_longestOf_23 : decode cX11_longestOf 23 = .ok (.aload_n 0, 1) := by decide +kernel
theorem dX11_longestOf_24 : decode cX11_longestOf 24 = .ok (.iload_n 1, 1) := by decide +kernel
theorem dX11_longestOf_25 : decode cX11_longestOf 25 = .ok (.iload 4, 2) := by decide +kernel
theorem dX11_longestOf_27 : decode cX11_longestOf 27 = .ok (.invokevirtual 182, 3) := by decide +kernel
theorem dX11_longestOf_30 : decode cX11_longestOf 30 = .ok (.ifCond .eq 9, 3) := by decide +kernel
theorem dX11_longestOf_33 : decode cX11_longestOf 33 = .ok (.iload_n 3, 1) := by decide +kernel
theorem dX11_longestOf_34 : decode cX11_longestOf 34 = .ok (.iconst 1, 1) := by decide +kernel
theorem dX11_longestOf_35 : decode cX11_longestOf 35 = .ok (.iadd, 1) := by decide +kernel
theorem dX11_longestOf_36 : decode cX11_longestOf 36 = .ok (.goto 4, 3) := by decide +kernel
theorem dX11_longestOf_39 : decode cX11_longestOf 39 = .ok (.iconst 1, 1) := by decide +kernel
theorem dX11_longestOf_40 : decode cX11_longestOf 40 = .ok (.istore_n 3, 1) := by decide +kernel
theorem dX11_longestOf_41 : decode cX11_longestOf 41 = .ok (.iload_n 2, 1) := by decide +kernel
theorem dX11_longestOf_42 : decode cX11_longestOf 42 = .ok (.iload_n 3, 1) := by decide +kernel
theorem dX11_longestOf_43 : decode cX11_longestOf 43 = .ok (.invokestatic 173, 3) := by decide +kernel
theorem dX11_longestOf_46 : decode cX11_longestOf 46 = .ok (.istore_n 2, 1) := by decide +kernel
theorem dX11_longestOf_47 : decode cX11_longestOf 47 = .ok (.iinc 4 1, 3) := by decide +kernel
theorem dX11_longestOf_50 : decode cX11_longestOf 50 = .ok (.goto (-43), 3) := by decide +kernel
theorem dX11_longestOf_53 : decode cX11_longestOf 53 = .ok (.iload_n 2, 1) := by decide +kernel
theorem dX11_longestOf_54 : decode cX11_longestOf 54 = .ok (.ireturn, 1) := by decide +kernel
set_option maxRecDepth 20000 in
theorem ggX11_placeFor_X11_isRow : GoodIn wsX11_placeFor wsX11_isRow := goodIn_r _ [5, 6, 7, 4, 8] (by decide +kernel) (by decide +kernel)
set_option maxRecDepth 20000 in
theorem gX11_placeFor_X11_isRow : GoodIn wsX11_placeFor (va_wsS RX11 147 yX11_isRow wsX11_isRow) := goodIn_app (goodIn_of _ (by decide +kernel)) ggX11_placeFor_X11_isRow
set_option maxRecDepth 20000 in
theorem ggX11_placeFor_X11_refuse : GoodIn wsX11_placeFor wsX11_refuse := goodIn_r _ [12, 13, 32, 33, 34, 35, 36, 37, 38, 39, 40, 41, 42, 43, 44, 45, 46, 47, 48, 49, 50, 51, 52, 53, 54, 55, 56, 57, 58] (by decide +kernel) (by decide +kernel)
set_option maxRecDepth 20000 in
theorem gX11_placeFor_X11_refuse : GoodIn wsX11_placeFor (wsV RX11 78 RX11 yX11_refuse wsX11_refuse) := goodIn_app (goodIn_of _ (by decide +kernel)) ggX11_placeFor_X11_refuse
set_option maxRecDepth 20000 in
theorem ggX11_placeFor_X11_runsOf : GoodIn wsX11_placeFor wsX11_runsOf := goodIn_r _ [17, 1, 18, 19, 20, 4, 21, 22, 23, 24, 25, 26, 27, 32, 33, 34, 35, 36, 37, 38, 39, 40, 41, 42, 43, 44, 45, 46, 47, 48, 49, 50, 51, 52, 53, 54, 55, 56, 57, 58] (by decide +kernel) (by decide +kernel)
set_option maxRecDepth 20000 in
theorem gX11_placeFor_X11_runsOf : GoodIn wsX11_placeFor (wsV RX11 185 RX11 yX11_runsOf wsX11_runsOf) := goodIn_app (goodIn_of _ (by decide +kernel)) ggX11_placeFor_X11_runsOf
set_option maxRecDepth 20000 in
theorem ggX11_placeFor_X11_firstAt : GoodIn wsX11_placeFor wsX11_firstAt := goodIn_r _ [25, 26, 27, 32, 33, 34, 35, 36, 37, 38, 39, 40, 41, 42, 43, 44, 45, 46, 47, 48, 49, 50, 51, 52, 53, 54, 55, 56, 57, 58] (by decide +kernel) (by decide +kernel)
set_option maxRecDepth 20000 in
theorem gX11_placeFor_X11_firstAt : GoodIn wsX11_placeFor (wsV RX11 179 RX11 yX11_firstAt wsX11_firstAt) := goodIn_app (goodIn_of _ (by decide +kernel)) ggX11_placeFor_X11_firstAt
set_option maxRecDepth 20000 in
theorem ggX11_placeFor_X11_told : GoodIn wsX11_placeFor wsX11_told := goodIn_r _ [31, 13, 32, 33, 34, 35, 36, 37, 38, 39, 40, 41, 42, 43, 44, 45, 46, 47, 48, 49, 50, 51, 52, 53, 54, 55, 56, 57, 58] (by decide +kernel) (by decide +kernel)
set_option maxRecDepth 20000 in
theorem gX11_placeFor_X11_told : GoodIn wsX11_placeFor (wsV RX11 82 RX11 yX11_told wsX11_told) := goodIn_app (goodIn_of _ (by decide +kernel)) ggX11_placeFor_X11_told
theorem dX11_placeFor_0 : decode cX11_placeFor 0 = .ok (.iload_n 1, 1) := by decide +kernel
theorem dX11_placeFor_1 : decode cX11_placeFor 1 = .ok (.invokestatic 147, 3) := by decide +kernel
theorem dX11_placeFor_4 : decode cX11_placeFor 4 = .ok (.ifCond .ne 9, 3) := by decide +kernel
theorem dX11_placeFor_7 : decode cX11_placeFor 7 = .ok (.aload_n 0, 1) := by decide +kernel
theorem dX11_placeFor_8 : decode cX11_placeFor 8 = .ok (.iconst 1, 1) := by decide +kernel
theorem dX11_placeFor_9 : decode cX11_placeFor 9 = .ok (.invokevirtual 78, 3) := by decide +kernel
theorem dX11_placeFor_12 : decode cX11_placeFor 12 = .ok (.ireturn, 1) := by decide +kernel
theorem dX11_placeFor_13 : decode cX11_placeFor 13 = .ok (.aload_n 0, 1) := by decide +kernel
theorem dX11_placeFor_14 : decode cX11_placeFor 14 = .ok (.iload_n 1, 1) := by decide +kernel
theorem dX11_placeFor_15 : decode cX11_placeFor 15 = .ok (.invokevirtual 185, 3) := by decide +kernel
theorem dX11_placeFor_18 : decode cX11_placeFor 18 = .ok (.iconst 1, 1) := by decide +kernel
theorem dX11_placeFor_19 : decode cX11_placeFor 19 = .ok (.if_icmp .le 9, 3) := by decide +kernel
theorem dX11_placeFor_22 : decode cX11_placeFor 22 = .ok (.aload_n 0, 1) := by decide +kernel
theorem dX11_placeFor_23 : decode cX11_placeFor 23 = .ok (.iconst 2, 1) := by decide +kernel
theorem dX11_placeFor_24 : decode cX11_placeFor 24 = .ok (.invokevirtual 78, 3) := by decide +kernel
theorem dX11_placeFor_27 : decode cX11_placeFor 27 = .ok (.ireturn, 1) := by decide +kernel
theorem dX11_placeFor_28 : decode cX11_placeFor 28 = .ok (.iconst 0, 1) := by decide +kernel
theorem dX11_placeFor_29 : decode cX11_placeFor 29 = .ok (.istore_n 3, 1) := by decide +kernel
theorem dX11_placeFor_30 : decode cX11_placeFor 30 = .ok (.iload_n 3, 1) := by decide +kernel
theorem dX11_placeFor_31 : decode cX11_placeFor 31 = .ok (.aload_n 0, 1) := by decide +kernel
theorem dX11_placeFor_32 : decode cX11_placeFor 32 = .ok (.getfield 22, 3) := by decide +kernel
theorem dX11_placeFor_35 : decode cX11_placeFor 35 = .ok (.iload_n 1, 1) := by decide +kernel
theorem dX11_placeFor_36 : decode cX11_placeFor 36 = .ok (.iaload, 1) := by decide +kernel
theorem dX11_placeFor_37 : decode cX11_placeFor 37 = .ok (.if_icmp .ge 19, 3) := by decide +kernel
theorem dX11_placeFor_40 : decode cX11_placeFor 40 = .ok (.aload_n 0, 1) := by decide +kernel
theorem dX11_placeFor_41 : decode cX11_placeFor 41 = .ok (.iload_n 1, 1) := by decide +kernel
theorem dX11_placeFor_42 : decode cX11_placeFor 42 = .ok (.iload_n 3, 1) := by decide +kernel
theorem dX11_placeFor_43 : decode cX11_placeFor 43 = .ok (.invokevirtual 179, 3) := by decide +kernel
theorem dX11_placeFor_46 : decode cX11_placeFor 46 = .ok (.iload_n 2, 1) := by decide +kernel
theorem dX11_placeFor_47 : decode cX11_placeFor 47 = .ok (.if_icmp .gt 9, 3) := by decide +kernel
theorem dX11_placeFor_50 : decode cX11_placeFor 50 = .ok (.iinc 3 1, 3) := by decide +kernel
theorem dX11_placeFor_53 : decode cX11_placeFor 53 = .ok (.goto (-23), 3) := by decide +kernel
theorem dX11_placeFor_56 : decode cX11_placeFor 56 = .ok (.aload_n 0, 1) := by decide +kernel
theorem dX11_placeFor_57 : decode cX11_placeFor 57 = .ok (.iload_n 3, 1) := by decide +kernel
theorem dX11_placeFor_58 : decode cX11_placeFor 58 = .ok (.invokevirtual 82, 3) := by decide +kernel
theorem dX11_placeFor_61 : decode cX11_placeFor 61 = .ok (.ireturn, 1) := by decide +kernel
set_option maxRecDepth 20000 in
theorem ggX11_isSorted_X11_isRow : GoodIn wsX11_isSorted wsX11_isRow := goodIn_r _ [5, 6, 7, 4, 8] (by decide +kernel) (by decide +kernel)
set_option maxRecDepth 20000 in
theorem gX11_isSorted_X11_isRow : GoodIn wsX11_isSorted (va_wsS RX11 147 yX11_isRow wsX11_isRow) := goodIn_app (goodIn_of _ (by decide +kernel)) ggX11_isSorted_X11_isRow
set_option maxRecDepth 20000 in
theorem ggX11_isSorted_X11_runsOf : GoodIn wsX11_isSorted wsX11_runsOf := goodIn_r _ [12, 13, 14, 15, 16, 4, 17, 18, 19, 20, 21, 22, 23, 24, 25, 26, 27, 28, 29, 30, 31, 32, 33, 34, 35, 36, 37, 38, 39, 40, 41, 42, 43, 44, 45, 46, 47, 48, 49, 50] (by decide +kernel) (by decide +kernel)
set_option maxRecDepth 20000 in
theorem gX11_isSorted_X11_runsOf : GoodIn wsX11_isSorted (wsV RX11 185 RX11 yX11_runsOf wsX11_runsOf) := goodIn_app (goodIn_of _ (by decide +kernel)) ggX11_isSorted_X11_runsOf
theorem dX11_isSorted_0 : decode cX11_isSorted 0 = .ok (.aload_n 0, 1) := by decide +kernel
theorem dX11_isSorted_1 : decode cX11_isSorted 1 = .ok (.iload_n 1, 1) := by decide +kernel
theorem dX11_isSorted_2 : decode cX11_isSorted 2 = .ok (.invokestatic 147, 3) := by decide +kernel
theorem dX11_isSorted_5 : decode cX11_isSorted 5 = .ok (.ifCond .eq 7, 3) := by decide +kernel
theorem dX11_isSorted_8 : decode cX11_isSorted 8 = .ok (.iconst 0, 1) := by decide +kernel
theorem dX11_isSorted_9 : decode cX11_isSorted 9 = .ok (.goto 4, 3) := by decide +kernel
theorem dX11_isSorted_12 : decode cX11_isSorted 12 = .ok (.iconst 1, 1) := by decide +kernel
theorem dX11_isSorted_13 : decode cX11_isSorted 13 = .ok (.putfield 66, 3) := by decide +kernel
theorem dX11_isSorted_16 : decode cX11_isSorted 16 = .ok (.aload_n 0, 1) := by decide +kernel
theorem dX11_isSorted_17 : decode cX11_isSorted 17 = .ok (.getfield 66, 3) := by decide +kernel
theorem dX11_isSorted_20 : decode cX11_isSorted 20 = .ok (.ifCond .ne 16, 3) := by decide +kernel
theorem dX11_isSorted_23 : decode cX11_isSorted 23 = .ok (.aload_n 0, 1) := by decide +kernel
theorem dX11_isSorted_24 : decode cX11_isSorted 24 = .ok (.iload_n 1, 1) := by decide +kernel
theorem dX11_isSorted_25 : decode cX11_isSorted 25 = .ok (.invokevirtual 185, 3) := by decide +kernel
theorem dX11_isSorted_28 : decode cX11_isSorted 28 = .ok (.iconst 1, 1) := by decide +kernel
theorem dX11_isSorted_29 : decode cX11_isSorted 29 = .ok (.if_icmp .gt 7, 3) := by decide +kernel
theorem dX11_isSorted_32 : decode cX11_isSorted 32 = .ok (.iconst 1, 1) := by decide +kernel
theorem dX11_isSorted_33 : decode cX11_isSorted 33 = .ok (.goto 4, 3) := by decide +kernel
theorem dX11_isSorted_36 : decode cX11_isSorted 36 = .ok (.iconst 0, 1) := by decide +kernel
theorem dX11_isSorted_37 : decode cX11_isSorted 37 = .ok (.ireturn, 1) := by decide +kernel
set_option maxRecDepth 20000 in
theorem ggX11_runs_X11_isRow : GoodIn wsX11_runs wsX11_isRow := goodIn_r _ [4, 5, 6, 3, 7] (by decide +kernel) (by decide +kernel)
set_option maxRecDepth 20000 in
theorem gX11_runs_X11_isRow : GoodIn wsX11_runs (va_wsS RX11 147 yX11_isRow wsX11_isRow) := goodIn_app (goodIn_of _ (by decide +kernel)) ggX11_runs_X11_isRow
set_option maxRecDepth 20000 in
theorem ggX11_runs_X11_runsOf : GoodIn wsX11_runs wsX11_runsOf := goodIn_r _ [11, 12, 13, 14, 15, 3, 16, 17, 18, 19, 20, 21, 22, 32, 33, 34, 35, 36, 37, 38, 39, 40, 41, 42, 43, 44, 45, 46, 47, 48, 49, 50, 51, 52, 53, 54, 55, 56, 57, 58] (by decide +kernel) (by decide +kernel)
set_option maxRecDepth 20000 in
theorem gX11_runs_X11_runsOf : GoodIn wsX11_runs (wsV RX11 185 RX11 yX11_runsOf wsX11_runsOf) := goodIn_app (goodIn_of _ (by decide +kernel)) ggX11_runs_X11_runsOf
set_option maxRecDepth 20000 in
theorem ggX11_runs_X11_told : GoodIn wsX11_runs wsX11_told := goodIn_r _ [26, 27, 32, 33, 34, 35, 36, 37, 38, 39, 40, 41, 42, 43, 44, 45, 46, 47, 48, 49, 50, 51, 52, 53, 54, 55, 56, 57, 58] (by decide +kernel) (by decide +kernel)
set_option maxRecDepth 20000 in
theorem gX11_runs_X11_told : GoodIn wsX11_runs (wsV RX11 82 RX11 yX11_told wsX11_told) := goodIn_app (goodIn_of _ (by decide +kernel)) ggX11_runs_X11_told
set_option maxRecDepth 20000 in
theorem ggX11_runs_X11_refuse : GoodIn wsX11_runs wsX11_refuse := goodIn_r _ [31, 27, 32, 33, 34, 35, 36, 37, 38, 39, 40, 41, 42, 43, 44, 45, 46, 47, 48, 49, 50, 51, 52, 53, 54, 55, 56, 57, 58] (by decide +kernel) (by decide +kernel)
set_option maxRecDepth 20000 in
theorem gX11_runs_X11_refuse : GoodIn wsX11_runs (wsV RX11 78 RX11 yX11_refuse wsX11_refuse) := goodIn_app (goodIn_of _ (by decide +kernel)) ggX11_runs_X11_refuse
theorem dX11_runs_0 : decode cX11_runs 0 = .ok (.iload_n 1, 1) := by decide +kernel
theorem dX11_runs_1 : decode cX11_runs 1 = .ok (.invokestatic 147, 3) := by decide +kernel
theorem dX11_runs_4 : decode cX11_runs 4 = .ok (.ifCond .eq 15, 3) := by decide +kernel
theorem dX11_runs_7 : decode cX11_runs 7 = .ok (.aload_n 0, 1) := by decide +kernel
theorem dX11_runs_8 : decode cX11_runs 8 = .ok (.aload_n 0, 1) := by decide +kernel
theorem dX11_runs_9 : decode cX11_runs 9 = .ok (.iload_n 1, 1) := by decide +kernel
theorem dX11_runs_10 : decode cX11_runs 10 = .ok (.invokevirtual 185, 3) := by decide +kernel
theorem dX11_runs_13 : decode cX11_runs 13 = .ok (.invokevirtual 82, 3) := by decide +kernel
theorem dX11_runs_16 : decode cX11_runs 16 = .ok (.goto 8, 3) := by decide +kernel
theorem dX11_runs_19 : decode cX11_runs 19 = .ok (.aload_n 0, 1) := by decide +kernel
theorem dX11_runs_20 : decode cX11_runs 20 = .ok (.iconst 1, 1) := by decide +kernel
theorem dX11_runs_21 : decode cX11_runs 21 = .ok (.invokevirtual 78, 3) := by decide +kernel
theorem dX11_runs_24 : decode cX11_runs 24 = .ok (.ireturn, 1) := by decide +kernel
set_option maxRecDepth 20000 in
theorem ggX11_longestRun_X11_isRow : GoodIn wsX11_longestRun wsX11_isRow := goodIn_r _ [4, 5, 6, 3, 7] (by decide +kernel) (by decide +kernel)
set_option maxRecDepth 20000 in
theorem gX11_longestRun_X11_isRow : GoodIn wsX11_longestRun (va_wsS RX11 147 yX11_isRow wsX11_isRow) := goodIn_app (goodIn_of _ (by decide +kernel)) ggX11_longestRun_X11_isRow
set_option maxRecDepth 20000 in
theorem ggX11_longestRun_X11_longestOf : GoodIn wsX11_longestRun wsX11_longestOf := goodIn_r _ [11, 12, 13, 14, 15, 3, 16, 17, 18, 19, 20, 21, 22, 23, 24, 25, 35, 36, 37, 38, 39, 40, 41, 42, 43, 44, 45, 46, 47, 48, 49, 50, 51, 52, 53, 54, 55, 56, 57, 58, 59, 60, 61] (by decide +kernel) (by decide +kernel)
set_option maxRecDepth 20000 in
theorem gX11_longestRun_X11_longestOf : GoodIn wsX11_longestRun (wsV RX11 188 RX11 yX11_longestOf wsX11_longestOf) := goodIn_app (goodIn_of _ (by decide +kernel)) ggX11_longestRun_X11_longestOf
set_option maxRecDepth 20000 in
theorem ggX11_longestRun_X11_told : GoodIn wsX11_longestRun wsX11_told := goodIn_r _ [29, 30, 35, 36, 37, 38, 39, 40, 41, 42, 43, 44, 45, 46, 47, 48, 49, 50, 51, 52, 53, 54, 55, 56, 57, 58, 59, 60, 61] (by decide +kernel) (by decide +kernel)
set_option maxRecDepth 20000 in
theorem gX11_longestRun_X11_told : GoodIn wsX11_longestRun (wsV RX11 82 RX11 yX11_told wsX11_told) := goodIn_app (goodIn_of _ (by decide +kernel)) ggX11_longestRun_X11_told
set_option maxRecDepth 20000 in
theorem ggX11_longestRun_X11_refuse : GoodIn wsX11_longestRun wsX11_refuse := goodIn_r _ [34, 30, 35, 36, 37, 38, 39, 40, 41, 42, 43, 44, 45, 46, 47, 48, 49, 50, 51, 52, 53, 54, 55, 56, 57, 58, 59, 60, 61] (by decide +kernel) (by decide +kernel)
set_option maxRecDepth 20000 in
theorem gX11_longestRun_X11_refuse : GoodIn wsX11_longestRun (wsV RX11 78 RX11 yX11_refuse wsX11_refuse) := goodIn_app (goodIn_of _ (by decide +kernel)) ggX11_longestRun_X11_refuse
theorem dX11_longestRun_0 : decode cX11_longestRun 0 = .ok (.iload_n 1, 1) := by decide +kernel
theorem dX11_longestRun_1 : decode cX11_longestRun 1 = .ok (.invokestatic 147, 3) := by decide +kernel
theorem dX11_longestRun_4 : decode cX11_longestRun 4 = .ok (.ifCond .eq 15, 3) := by decide +kernel
theorem dX11_longestRun_7 : decode cX11_longestRun 7 = .ok (.aload_n 0, 1) := by decide +kernel
theorem dX11_longestRun_8 : decode cX11_longestRun 8 = .ok (.aload_n 0, 1) := by decide +kernel
theorem dX11_longestRun_9 : decode cX11_longestRun 9 = .ok (.iload_n 1, 1) := by decide +kernel
theorem dX11_longestRun_10 : decode cX11_longestRun 10 = .ok (.invokevirtual 188, 3) := by decide +kernel
theorem dX11_longestRun_13 : decode cX11_longestRun 13 = .ok (.invokevirtual 82, 3) := by decide +kernel
theorem dX11_longestRun_16 : decode cX11_longestRun 16 = .ok (.goto 8, 3) := by decide +kernel
theorem dX11_longestRun_19 : decode cX11_longestRun 19 = .ok (.aload_n 0, 1) := by decide +kernel
theorem dX11_longestRun_20 : decode cX11_longestRun 20 = .ok (.iconst 1, 1) := by decide +kernel
theorem dX11_longestRun_21 : decode cX11_longestRun 21 = .ok (.invokevirtual 78, 3) := by decide +kernel
theorem dX11_longestRun_24 : decode cX11_longestRun 24 = .ok (.ireturn, 1) := by decide +kernel
set_option maxRecDepth 20000 in
theorem ggX11_wrongPairs_X11_isRow : GoodIn wsX11_wrongPairs wsX11_isRow := goodIn_r _ [5, 6, 7, 4, 8] (by decide +kernel) (by decide +kernel)
set_option maxRecDepth 20000 in
theorem gX11_wrongPairs_X11_isRow : GoodIn wsX11_wrongPairs (va_wsS RX11 147 yX11_isRow wsX11_isRow) := goodIn_app (goodIn_of _ (by decide +kernel)) ggX11_wrongPairs_X11_isRow
set_option maxRecDepth 20000 in
theorem ggX11_wrongPairs_X11_refuse : GoodIn wsX11_wrongPairs wsX11_refuse := goodIn_r _ [12, 13, 24, 25, 26, 27, 28, 29, 30, 31, 32, 33, 34, 35, 36, 37, 38, 39, 40, 41, 42, 43, 44, 45, 46, 47, 48, 49, 50] (by decide +kernel) (by decide +kernel)
set_option maxRecDepth 20000 in
theorem gX11_wrongPairs_X11_refuse : GoodIn wsX11_wrongPairs (wsV RX11 78 RX11 yX11_refuse wsX11_refuse) := goodIn_app (goodIn_of _ (by decide +kernel)) ggX11_wrongPairs_X11_refuse
set_option maxRecDepth 20000 in
theorem ggX11_wrongPairs_X11_firstAt : GoodIn wsX11_wrongPairs wsX11_firstAt := goodIn_r _ [17, 18, 19, 24, 25, 26, 27, 28, 29, 30, 31, 32, 33, 34, 35, 36, 37, 38, 39, 40, 41, 42, 43, 44, 45, 46, 47, 48, 49, 50] (by decide +kernel) (by decide +kernel)
set_option maxRecDepth 20000 in
theorem gX11_wrongPairs_X11_firstAt : GoodIn wsX11_wrongPairs (wsV RX11 179 RX11 yX11_firstAt wsX11_firstAt) := goodIn_app (goodIn_of _ (by decide +kernel)) ggX11_wrongPairs_X11_firstAt
set_option maxRecDepth 20000 in
theorem ggX11_wrongPairs_X11_told : GoodIn wsX11_wrongPairs wsX11_told := goodIn_r _ [23, 13, 24, 25, 26, 27, 28, 29, 30, 31, 32, 33, 34, 35, 36, 37, 38, 39, 40, 41, 42, 43, 44, 45, 46, 47, 48, 49, 50] (by decide +kernel) (by decide +kernel)
set_option maxRecDepth 20000 in
theorem gX11_wrongPairs_X11_told : GoodIn wsX11_wrongPairs (wsV RX11 82 RX11 yX11_told wsX11_told) := goodIn_app (goodIn_of _ (by decide +kernel)) ggX11_wrongPairs_X11_told
theorem dX11_wrongPairs_0 : decode cX11_wrongPairs 0 = .ok (.iload_n 1, 1) := by decide +kernel
theorem dX11_wrongPairs_1 : decode cX11_wrongPairs 1 = .ok (.invokestatic 147, 3) := by decide +kernel
theorem dX11_wrongPairs_4 : decode cX11_wrongPairs 4 = .ok (.ifCond .ne 9, 3) := by decide +kernel
theorem dX11_wrongPairs_7 : decode cX11_wrongPairs 7 = .ok (.aload_n 0, 1) := by decide +kernel
theorem dX11_wrongPairs_8 : decode cX11_wrongPairs 8 = .ok (.iconst 1, 1) := by decide +kernel
theorem dX11_wrongPairs_9 : decode cX11_wrongPairs 9 = .ok (.invokevirtual 78, 3) := by decide +kernel
theorem dX11_wrongPairs_12 : decode cX11_wrongPairs 12 = .ok (.ireturn, 1) := by decide +kernel
theorem dX11_wrongPairs_13 : decode cX11_wrongPairs 13 = .ok (.iconst 0, 1) := by decide +kernel
theorem dX11_wrongPairs_14 : decode cX11_wrongPairs 14 = .ok (.istore_n 2, 1) := by decide +kernel
theorem dX11_wrongPairs_15 : decode cX11_wrongPairs 15 = .ok (.iconst 0, 1) := by decide +kernel
theorem dX11_wrongPairs_16 : decode cX11_wrongPairs 16 = .ok (.istore_n 3, 1) := by decide +kernel
theorem dX11_wrongPairs_17 : decode cX11_wrongPairs 17 = .ok (.iload_n 3, 1) := by decide +kernel
theorem dX11_wrongPairs_18 : decode cX11_wrongPairs 18 = .ok (.aload_n 0, 1) := by decide +kernel
theorem dX11_wrongPairs_19 : decode cX11_wrongPairs 19 = .ok (.getfield 22, 3) := by decide +kernel
theorem dX11_wrongPairs_22 : decode cX11_wrongPairs 22 = .ok (.iload_n 1, 1) := by decide +kernel
theorem dX11_wrongPairs_23 : decode cX11_wrongPairs 23 = .ok (.iaload, 1) := by decide +kernel
theorem dX11_wrongPairs_24 : decode cX11_wrongPairs 24 = .ok (.if_icmp .ge 48, 3) := by decide +kernel
theorem dX11_wrongPairs_27 : decode cX11_wrongPairs 27 = .ok (.iconst 0, 1) := by decide +kernel
theorem dX11_wrongPairs_28 : decode cX11_wrongPairs 28 = .ok (.istore 4, 2) := by decide +kernel
theorem dX11_wrongPairs_30 : decode cX11_wrongPairs 30 = .ok (.iload 4, 2) := by decide +kernel
theorem dX11_wrongPairs_32 : decode cX11_wrongPairs 32 = .ok (.iload_n 3, 1) := by decide +kernel
theorem dX11_wrongPairs_33 : decode cX11_wrongPairs 33 = .ok (.if_icmp .ge 33, 3) := by decide +kernel
theorem dX11_wrongPairs_36 : decode cX11_wrongPairs 36 = .ok (.iload_n 2, 1) := by decide +kernel
theorem dX11_wrongPairs_37 : decode cX11_wrongPairs 37 = .ok (.aload_n 0, 1) := by decide +kernel
theorem dX11_wrongPairs_38 : decode cX11_wrongPairs 38 = .ok (.iload_n 1, 1) := by decide +kernel
theorem dX11_wrongPairs_39 : decode cX11_wrongPairs 39 = .ok (.iload 4, 2) := by decide +kernel
theorem dX11_wrongPairs_41 : decode cX11_wrongPairs 41 = .ok (.invokevirtual 179, 3) := by decide +kernel
theorem dX11_wrongPairs_44 : decode cX11_wrongPairs 44 = .ok (.aload_n 0, 1) := by decide +kernel
theorem dX11_wrongPairs_45 : decode cX11_wrongPairs 45 = .ok (.iload_n 1, 1) := by decide +kernel
theorem dX11_wrongPairs_46 : decode cX11_wrongPairs 46 = .ok (.iload_n 3, 1) := by decide +kernel
theorem dX11_wrongPairs_47 : decode cX11_wrongPairs 47 = .ok (.invokevirtual 179, 3) := by decide +kernel
theorem dX11_wrongPairs_50 : decode cX11_wrongPairs 50 = .ok (.if_icmp .le 7, 3) := by decide +kernel
theorem dX11_wrongPairs_53 : decode cX11_wrongPairs 53 = .ok (.iconst 1, 1) := by decide +kernel
theorem dX11_wrongPairs_54 : decode cX11_wrongPairs 54 = .ok (.goto 4, 3) := by decide +kernel
theorem dX11_wrongPairs_57 : decode cX11_wrongPairs 57 = .ok (.iconst 0, 1) := by decide +kernel
theorem dX11_wrongPairs_58 : decode cX11_wrongPairs 58 = .ok (.iadd, 1) := by decide +kernel
theorem dX11_wrongPairs_59 : decode cX11_wrongPairs 59 = .ok (.istore_n 2, 1) := by decide +kernel
theorem dX11_wrongPairs_60 : decode cX11_wrongPairs 60 = .ok (.iinc 4 1, 3) := by decide +kernel
theorem dX11_wrongPairs_63 : decode cX11_wrongPairs 63 = .ok (.goto (-33), 3) := by decide +kernel
theorem dX11_wrongPairs_66 : decode cX11_wrongPairs 66 = .ok (.iinc 3 1, 3) := by decide +kernel
theorem dX11_wrongPairs_69 : decode cX11_wrongPairs 69 = .ok (.goto (-52), 3) := by decide +kernel
theorem dX11_wrongPairs_72 : decode cX11_wrongPairs 72 = .ok (.aload_n 0, 1) := by decide +kernel
theorem dX11_wrongPairs_73 : decode cX11_wrongPairs 73 = .ok (.iload_n 2, 1) := by decide +kernel
theorem dX11_wrongPairs_74 : decode cX11_wrongPairs 74 = .ok (.invokevirtual 82, 3) := by decide +kernel
theorem dX11_wrongPairs_77 : decode cX11_wrongPairs 77 = .ok (.ireturn, 1) := by decide +kernel
set_option maxRecDepth 20000 in
theorem ggX11_unlike_X11_isRow : GoodIn wsX11_unlike wsX11_isRow := goodIn_r _ [5, 6, 7, 4, 8] (by decide +kernel) (by decide +kernel)
set_option maxRecDepth 20000 in
theorem gX11_unlike_X11_isRow : GoodIn wsX11_unlike (va_wsS RX11 147 yX11_isRow wsX11_isRow) := goodIn_app (goodIn_of _ (by decide +kernel)) ggX11_unlike_X11_isRow
set_option maxRecDepth 20000 in
theorem ggX11_unlike_X11_refuse : GoodIn wsX11_unlike wsX11_refuse := goodIn_r _ [12, 13, 24, 25, 26, 27, 28, 29, 30, 31, 32, 33, 34, 35, 36, 37, 38, 39, 40, 41, 42, 43, 44, 45, 46, 47, 48, 49, 50] (by decide +kernel) (by decide +kernel)
set_option maxRecDepth 20000 in
theorem gX11_unlike_X11_refuse : GoodIn wsX11_unlike (wsV RX11 78 RX11 yX11_refuse wsX11_refuse) := goodIn_app (goodIn_of _ (by decide +kernel)) ggX11_unlike_X11_refuse
set_option maxRecDepth 20000 in
theorem ggX11_unlike_X11_firstAt : GoodIn wsX11_unlike wsX11_firstAt := goodIn_r _ [17, 18, 19, 24, 25, 26, 27, 28, 29, 30, 31, 32, 33, 34, 35, 36, 37, 38, 39, 40, 41, 42, 43, 44, 45, 46, 47, 48, 49, 50] (by decide +kernel) (by decide +kernel)
set_option maxRecDepth 20000 in
theorem gX11_unlike_X11_firstAt : GoodIn wsX11_unlike (wsV RX11 179 RX11 yX11_firstAt wsX11_firstAt) := goodIn_app (goodIn_of _ (by decide +kernel)) ggX11_unlike_X11_firstAt
set_option maxRecDepth 20000 in
theorem ggX11_unlike_X11_told : GoodIn wsX11_unlike wsX11_told := goodIn_r _ [23, 13, 24, 25, 26, 27, 28, 29, 30, 31, 32, 33, 34, 35, 36, 37, 38, 39, 40, 41, 42, 43, 44, 45, 46, 47, 48, 49, 50] (by decide +kernel) (by decide +kernel)
set_option maxRecDepth 20000 in
theorem gX11_unlike_X11_told : GoodIn wsX11_unlike (wsV RX11 82 RX11 yX11_told wsX11_told) := goodIn_app (goodIn_of _ (by decide +kernel)) ggX11_unlike_X11_told
theorem dX11_unlike_0 : decode cX11_unlike 0 = .ok (.iload_n 1, 1) := by decide +kernel
theorem dX11_unlike_1 : decode cX11_unlike 1 = .ok (.invokestatic 147, 3) := by decide +kernel
theorem dX11_unlike_4 : decode cX11_unlike 4 = .ok (.ifCond .ne 9, 3) := by decide +kernel
theorem dX11_unlike_7 : decode cX11_unlike 7 = .ok (.aload_n 0, 1) := by decide +kernel
theorem dX11_unlike_8 : decode cX11_unlike 8 = .ok (.iconst 1, 1) := by decide +kernel
theorem dX11_unlike_9 : decode cX11_unlike 9 = .ok (.invokevirtual 78, 3) := by decide +kernel
theorem dX11_unlike_12 : decode cX11_unlike 12 = .ok (.ireturn, 1) := by decide +kernel
theorem dX11_unlike_13 : decode cX11_unlike 13 = .ok (.iconst 0, 1) := by decide +kernel
theorem dX11_unlike_14 : decode cX11_unlike 14 = .ok (.istore_n 2, 1) := by decide +kernel
theorem dX11_unlike_15 : decode cX11_unlike 15 = .ok (.iconst 0, 1) := by decide +kernel
theorem dX11_unlike_16 : decode cX11_unlike 16 = .ok (.istore_n 3, 1) := by decide +kernel
theorem dX11_unlike_17 : decode cX11_unlike 17 = .ok (.iload_n 3, 1) := by decide +kernel
theorem dX11_unlike_18 : decode cX11_unlike 18 = .ok (.aload_n 0, 1) := by decide +kernel
theorem dX11_unlike_19 : decode cX11_unlike 19 = .ok (.getfield 22, 3) := by decide +kernel
theorem dX11_unlike_22 : decode cX11_unlike 22 = .ok (.iload_n 1, 1) := by decide +kernel
theorem dX11_unlike_23 : decode cX11_unlike 23 = .ok (.iaload, 1) := by decide +kernel
theorem dX11_unlike_24 : decode cX11_unlike 24 = .ok (.if_icmp .ge 68, 3) := by decide +kernel
theorem dX11_unlike_27 : decode cX11_unlike 27 = .ok (.iconst 1, 1) := by decide +kernel
theorem dX11_unlike_28 : decode cX11_unlike 28 = .ok (.istore 4, 2) := by decide +kernel
theorem dX11_unlike_30 : decode cX11_unlike 30 = .ok (.iconst 0, 1) := by decide +kernel
theorem dX11_unlike_31 : decode cX11_unlike 31 = .ok (.istore 5, 2) := by decide +kernel
theorem dX11_unlike_33 : decode cX11_unlike 33 = .ok (.iload 5, 2) := by decide +kernel
theorem dX11_unlike_35 : decode cX11_unlike 35 = .ok (.iload_n 3, 1) := by decide +kernel
theorem dX11_unlike_36 : decode cX11_unlike 36 = .ok (.if_icmp .ge 37, 3) := by decide +kernel
theorem dX11_unlike_39 : decode cX11_unlike 39 = .ok (.iload 4, 2) := by decide +kernel
theorem dX11_unlike_41 : decode cX11_unlike 41 = .ok (.ifCond .eq 32, 3) := by decide +kernel
theorem dX11_unlike_44 : decode cX11_unlike 44 = .ok (.aload_n 0, 1) := by decide +kernel
theorem dX11_unlike_45 : decode cX11_unlike 45 = .ok (.iload_n 1, 1) := by decide +kernel
theorem dX11_unlike_46 : decode cX11_unlike 46 = .ok (.iload 5, 2) := by decide +kernel
theorem dX11_unlike_48 : decode cX11_unlike 48 = .ok (.invokevirtual 179, 3) := by decide +kernel
theorem dX11_unlike_51 : decode cX11_unlike 51 = .ok (.aload_n 0, 1) := by decide +kernel
theorem dX11_unlike_52 : decode cX11_unlike 52 = .ok (.iload_n 1, 1) := by decide +kernel
theorem dX11_unlike_53 : decode cX11_unlike 53 = .ok (.iload_n 3, 1) := by decide +kernel
theorem dX11_unlike_54 : decode cX11_unlike 54 = .ok (.invokevirtual 179, 3) := by decide +kernel
theorem dX11_unlike_57 : decode cX11_unlike 57 = .ok (.if_icmp .eq 7, 3) := by decide +kernel
theorem dX11_unlike_60 : decode cX11_unlike 60 = .ok (.iconst 1, 1) := by decide +kernel
theorem dX11_unlike_61 : decode cX11_unlike 61 = .ok (.goto 4, 3) := by decide +kernel
theorem dX11_unlike_64 : decode cX11_unlike 64 = .ok (.iconst 0, 1) := by decide +kernel
theorem dX11_unlike_65 : decode cX11_unlike 65 = .ok (.istore 4, 2) := by decide +kernel
theorem dX11_unlike_67 : decode cX11_unlike 67 = .ok (.iinc 5 1, 3) := by decide +kernel
theorem dX11_unlike_70 : decode cX11_unlike 70 = .ok (.goto (-37), 3) := by decide +kernel
theorem dX11_unlike_73 : decode cX11_unlike 73 = .ok (.iload_n 2, 1) := by decide +kernel
theorem dX11_unlike_74 : decode cX11_unlike 74 = .ok (.iload 4, 2) := by decide +kernel
theorem dX11_unlike_76 : decode cX11_unlike 76 = .ok (.ifCond .eq 7, 3) := by decide +kernel
theorem dX11_unlike_79 : decode cX11_unlike 79 = .ok (.iconst 1, 1) := by decide +kernel
theorem dX11_unlike_80 : decode cX11_unlike 80 = .ok (.goto 4, 3) := by decide +kernel
theorem dX11_unlike_83 : decode cX11_unlike 83 = .ok (.iconst 0, 1) := by decide +kernel
theorem dX11_unlike_84 : decode cX11_unlike 84 = .ok (.iadd, 1) := by decide +kernel
theorem dX11_unlike_85 : decode cX11_unlike 85 = .ok (.istore_n 2, 1) := by decide +kernel
theorem dX11_unlike_86 : decode cX11_unlike 86 = .ok (.iinc 3 1, 3) := by decide +kernel
theorem dX11_unlike_89 : decode cX11_unlike 89 = .ok (.goto (-72), 3) := by decide +kernel
theorem dX11_unlike_92 : decode cX11_unlike 92 = .ok (.aload_n 0, 1) := by decide +kernel
theorem dX11_unlike_93 : decode cX11_unlike 93 = .ok (.iload_n 2, 1) := by decide +kernel
theorem dX11_unlike_94 : decode cX11_unlike 94 = .ok (.invokevirtual 82, 3) := by decide +kernel
theorem dX11_unlike_97 : decode cX11_unlike 97 = .ok (.ireturn, 1) := by decide +kernel
set_option maxRecDepth 20000 in
theorem ggX11_sum_X11_isRow : GoodIn wsX11_sum wsX11_isRow := goodIn_r _ [7, 8, 9, 6, 10] (by decide +kernel) (by decide +kernel)
set_option maxRecDepth 20000 in
theorem gX11_sum_X11_isRow : GoodIn wsX11_sum (va_wsS RX11 147 yX11_isRow wsX11_isRow) := goodIn_app (goodIn_of _ (by decide +kernel)) ggX11_sum_X11_isRow
theorem dX11_sum_0 : decode cX11_sum 0 = .ok (.aload_n 0, 1) := by decide +kernel
theorem dX11_sum_1 : decode cX11_sum 1 = .ok (.iload_n 1, 1) := by decide +kernel
theorem dX11_sum_2 : decode cX11_sum 2 = .ok (.invokestatic 147, 3) := by decide +kernel
theorem dX11_sum_5 : decode cX11_sum 5 = .ok (.ifCond .eq 7, 3) := by decide +kernel
theorem dX11_sum_8 : decode cX11_sum 8 = .ok (.iconst 0, 1) := by decide +kernel
theorem dX11_sum_9 : decode cX11_sum 9 = .ok (.goto 4, 3) := by decide +kernel
theorem dX11_sum_12 : decode cX11_sum 12 = .ok (.iconst 1, 1) := by decide +kernel
theorem dX11_sum_13 : decode cX11_sum 13 = .ok (.putfield 66, 3) := by decide +kernel
theorem dX11_sum_16 : decode cX11_sum 16 = .ok (.lconst 0, 1) := by decide +kernel
theorem dX11_sum_17 : decode cX11_sum 17 = .ok (.lstore_n 2, 1) := by decide +kernel
theorem dX11_sum_18 : decode cX11_sum 18 = .ok (.iconst 0, 1) := by decide +kernel
theorem dX11_sum_19 : decode cX11_sum 19 = .ok (.istore 4, 2) := by decide +kernel
theorem dX11_sum_21 : decode cX11_sum 21 = .ok (.aload_n 0, 1) := by decide +kernel
theorem dX11_sum_22 : decode cX11_sum 22 = .ok (.getfield 66, 3) := by decide +kernel
theorem dX11_sum_25 : decode cX11_sum 25 = .ok (.ifCond .ne 45, 3) := by decide +kernel
theorem dX11_sum_28 : decode cX11_sum 28 = .ok (.iload 4, 2) := by decide +kernel
theorem dX11_sum_30 : decode cX11_sum 30 = .ok (.aload_n 0, 1) := by decide +kernel
theorem dX11_sum_31 : decode cX11_sum 31 = .ok (.getfield 22, 3) := by decide +kernel
theorem dX11_sum_34 : decode cX11_sum 34 = .ok (.iload_n 1, 1) := by decide +kernel
theorem dX11_sum_35 : decode cX11_sum 35 = .ok (.iaload, 1) := by decide +kernel
theorem dX11_sum_36 : decode cX11_sum 36 = .ok (.if_icmp .ge 34, 3) := by decide +kernel
theorem dX11_sum_39 : decode cX11_sum 39 = .ok (.lload_n 2, 1) := by decide +kernel
theorem dX11_sum_40 : decode cX11_sum 40 = .ok (.iload 4, 2) := by decide +kernel
theorem dX11_sum_42 : decode cX11_sum 42 = .ok (.i2l, 1) := by decide +kernel
theorem dX11_sum_43 : decode cX11_sum 43 = .ok (.lconst 1, 1) := by decide +kernel
theorem dX11_sum_44 : decode cX11_sum 44 = .ok (.ladd, 1) := by decide +kernel
theorem dX11_sum_45 : decode cX11_sum 45 = .ok (.aload_n 0, 1) := by decide +kernel
theorem dX11_sum_46 : decode cX11_sum 46 = .ok (.getfield 16, 3) := by decide +kernel
theorem dX11_sum_49 : decode cX11_sum 49 = .ok (.sipush 800, 3) := by decide +kernel
theorem dX11_sum_52 : decode cX11_sum 52 = .ok (.iload_n 1, 1) := by decide +kernel
theorem dX11_sum_53 : decode cX11_sum 53 = .ok (.imul, 1) := by decide +kernel
theorem dX11_sum_54 : decode cX11_sum 54 = .ok (.iload 4, 2) := by decide +kernel
theorem dX11_sum_56 : decode cX11_sum 56 = .ok (.iadd, 1) := by decide +kernel
theorem dX11_sum_57 : decode cX11_sum 57 = .ok (.iaload, 1) := by decide +kernel
theorem dX11_sum_58 : decode cX11_sum 58 = .ok (.i2l, 1) := by decide +kernel
theorem dX11_sum_59 : decode cX11_sum 59 = .ok (.lconst 1, 1) := by decide +kernel
theorem dX11_sum_60 : decode cX11_sum 60 = .ok (.ladd, 1) := by decide +kernel
theorem dX11_sum_61 : decode cX11_sum 61 = .ok (.lmul, 1) := by decide +kernel
theorem dX11_sum_62 : decode cX11_sum 62 = .ok (.ladd, 1) := by decide +kernel
theorem dX11_sum_63 : decode cX11_sum 63 = .ok (.lstore_n 2, 1) := by decide +kernel
theorem dX11_sum_64 : decode cX11_sum 64 = .ok (.iinc 4 1, 3) := by decide +kernel
theorem dX11_sum_67 : decode cX11_sum 67 = .ok (.goto (-46), 3) := by decide +kernel
theorem dX11_sum_70 : decode cX11_sum 70 = .ok (.lload_n 2, 1) := by decide +kernel
theorem dX11_sum_71 : decode cX11_sum 71 = .ok (.lreturn, 1) := by decide +kernel
set_option maxRecDepth 20000 in
theorem ggX11_compare_X11_isRow : GoodIn wsX11_compare wsX11_isRow := goodIn_r _ [5, 6, 7, 4, 8] (by decide +kernel) (by decide +kernel)
set_option maxRecDepth 20000 in
theorem gX11_compare_X11_isRow : GoodIn wsX11_compare (va_wsS RX11 147 yX11_isRow wsX11_isRow) := goodIn_app (goodIn_of _ (by decide +kernel)) ggX11_compare_X11_isRow
set_option maxRecDepth 20000 in
theorem ggX11_compare_X11_refuse : GoodIn wsX11_compare wsX11_refuse := goodIn_r _ [12, 13, 27, 28, 29, 30, 31, 32, 33, 34, 35, 36, 37, 38, 39, 40, 41, 42, 43, 44, 45, 46, 47, 48, 49, 50, 51, 52, 53] (by decide +kernel) (by decide +kernel)
set_option maxRecDepth 20000 in
theorem gX11_compare_X11_refuse : GoodIn wsX11_compare (wsV RX11 78 RX11 yX11_refuse wsX11_refuse) := goodIn_app (goodIn_of _ (by decide +kernel)) ggX11_compare_X11_refuse
set_option maxRecDepth 20000 in
theorem ggX11_compare_X11_less : GoodIn wsX11_compare wsX11_less := goodIn_r _ [16] (by decide +kernel) (by decide +kernel)
set_option maxRecDepth 20000 in
theorem gX11_compare_X11_less : GoodIn wsX11_compare (va_wsS RX11 176 yX11_less wsX11_less) := goodIn_app (goodIn_of _ (by decide +kernel)) ggX11_compare_X11_less
set_option maxRecDepth 20000 in
theorem ggX11_compare_X11_firstAt : GoodIn wsX11_compare wsX11_firstAt := goodIn_r _ [20, 21, 22, 27, 28, 29, 30, 31, 32, 33, 34, 35, 36, 37, 38, 39, 40, 41, 42, 43, 44, 45, 46, 47, 48, 49, 50, 51, 52, 53] (by decide +kernel) (by decide +kernel)
set_option maxRecDepth 20000 in
theorem gX11_compare_X11_firstAt : GoodIn wsX11_compare (wsV RX11 179 RX11 yX11_firstAt wsX11_firstAt) := goodIn_app (goodIn_of _ (by decide +kernel)) ggX11_compare_X11_firstAt
set_option maxRecDepth 20000 in
theorem ggX11_compare_X11_told : GoodIn wsX11_compare wsX11_told := goodIn_r _ [26, 13, 27, 28, 29, 30, 31, 32, 33, 34, 35, 36, 37, 38, 39, 40, 41, 42, 43, 44, 45, 46, 47, 48, 49, 50, 51, 52, 53] (by decide +kernel) (by decide +kernel)
set_option maxRecDepth 20000 in
theorem gX11_compare_X11_told : GoodIn wsX11_compare (wsV RX11 82 RX11 yX11_told wsX11_told) := goodIn_app (goodIn_of _ (by decide +kernel)) ggX11_compare_X11_told
theorem dX11_compare_0 : decode cX11_compare 0 = .ok (.iload_n 1, 1) := by decide +kernel
theorem dX11_compare_1 : decode cX11_compare 1 = .ok (.invokestatic 147, 3) := by decide +kernel
theorem dX11_compare_4 : decode cX11_compare 4 = .ok (.ifCond .eq 10, 3) := by decide +kernel
theorem dX11_compare_7 : decode cX11_compare 7 = .ok (.iload_n 2, 1) := by decide +kernel
theorem dX11_compare_8 : decode cX11_compare 8 = .ok (.invokestatic 147, 3) := by decide +kernel
theorem dX11_compare_11 : decode cX11_compare 11 = .ok (.ifCond .ne 9, 3) := by decide +kernel
theorem dX11_compare_14 : decode cX11_compare 14 = .ok (.aload_n 0, 1) := by decide +kernel
theorem dX11_compare_15 : decode cX11_compare 15 = .ok (.iconst 1, 1) := by decide +kernel
theorem dX11_compare_16 : decode cX11_compare 16 = .ok (.invokevirtual 78, 3) := by decide +kernel
theorem dX11_compare_19 : decode cX11_compare 19 = .ok (.ireturn, 1) := by decide +kernel
theorem dX11_compare_20 : decode cX11_compare 20 = .ok (.iconst 0, 1) := by decide +kernel
theorem dX11_compare_21 : decode cX11_compare 21 = .ok (.istore_n 3, 1) := by decide +kernel
theorem dX11_compare_22 : decode cX11_compare 22 = .ok (.iload_n 3, 1) := by decide +kernel
theorem dX11_compare_23 : decode cX11_compare 23 = .ok (.aload_n 0, 1) := by decide +kernel
theorem dX11_compare_24 : decode cX11_compare 24 = .ok (.getfield 22, 3) := by decide +kernel
theorem dX11_compare_27 : decode cX11_compare 27 = .ok (.iload_n 1, 1) := by decide +kernel
theorem dX11_compare_28 : decode cX11_compare 28 = .ok (.iaload, 1) := by decide +kernel
theorem dX11_compare_29 : decode cX11_compare 29 = .ok (.aload_n 0, 1) := by decide +kernel
theorem dX11_compare_30 : decode cX11_compare 30 = .ok (.getfield 22, 3) := by decide +kernel
theorem dX11_compare_33 : decode cX11_compare 33 = .ok (.iload_n 2, 1) := by decide +kernel
theorem dX11_compare_34 : decode cX11_compare 34 = .ok (.iaload, 1) := by decide +kernel
theorem dX11_compare_35 : decode cX11_compare 35 = .ok (.invokestatic 176, 3) := by decide +kernel
theorem dX11_compare_38 : decode cX11_compare 38 = .ok (.if_icmp .ge 49, 3) := by decide +kernel
theorem dX11_compare_41 : decode cX11_compare 41 = .ok (.aload_n 0, 1) := by decide +kernel
theorem dX11_compare_42 : decode cX11_compare 42 = .ok (.iload_n 1, 1) := by decide +kernel
theorem dX11_compare_43 : decode cX11_compare 43 = .ok (.iload_n 3, 1) := by decide +kernel
theorem dX11_compare_44 : decode cX11_compare 44 = .ok (.invokevirtual 179, 3) := by decide +kernel
theorem dX11_compare_47 : decode cX11_compare 47 = .ok (.aload_n 0, 1) := by decide +kernel
theorem dX11_compare_48 : decode cX11_compare 48 = .ok (.iload_n 2, 1) := by decide +kernel
theorem dX11_compare_49 : decode cX11_compare 49 = .ok (.iload_n 3, 1) := by decide +kernel
theorem dX11_compare_50 : decode cX11_compare 50 = .ok (.invokevirtual 179, 3) := by decide +kernel
theorem dX11_compare_53 : decode cX11_compare 53 = .ok (.if_icmp .eq 28, 3) := by decide +kernel
theorem dX11_compare_56 : decode cX11_compare 56 = .ok (.aload_n 0, 1) := by decide +kernel
theorem dX11_compare_57 : decode cX11_compare 57 = .ok (.aload_n 0, 1) := by decide +kernel
theorem dX11_compare_58 : decode cX11_compare 58 = .ok (.iload_n 1, 1) := by decide +kernel
theorem dX11_compare_59 : decode cX11_compare 59 = .ok (.iload_n 3, 1) := by decide +kernel
theorem dX11_compare_60 : decode cX11_compare 60 = .ok (.invokevirtual 179, 3) := by decide +kernel
theorem dX11_compare_63 : decode cX11_compare 63 = .ok (.aload_n 0, 1) := by decide +kernel
theorem dX11_compare_64 : decode cX11_compare 64 = .ok (.iload_n 2, 1) := by decide +kernel
theorem dX11_compare_65 : decode cX11_compare 65 = .ok (.iload_n 3, 1) := by decide +kernel
theorem dX11_compare_66 : decode cX11_compare 66 = .ok (.invokevirtual 179, 3) := by decide +kernel
theorem dX11_compare_69 : decode cX11_compare 69 = .ok (.if_icmp .ge 7, 3) := by decide +kernel
theorem dX11_compare_72 : decode cX11_compare 72 = .ok (.iconst (-1), 1) := by decide +kernel
theorem dX11_compare_73 : decode cX11_compare 73 = .ok (.goto 4, 3) := by decide +kernel
theorem dX11_compare_76 : decode cX11_compare 76 = .ok (.iconst 1, 1) := by decide +kernel
theorem dX11_compare_77 : decode cX11_compare 77 = .ok (.invokevirtual 82, 3) := by decide +kernel
theorem dX11_compare_80 : decode cX11_compare 80 = .ok (.ireturn, 1) := by decide +kernel
theorem dX11_compare_81 : decode cX11_compare 81 = .ok (.iinc 3 1, 3) := by decide +kernel
theorem dX11_compare_84 : decode cX11_compare 84 = .ok (.goto (-62), 3) := by decide +kernel
theorem dX11_compare_87 : decode cX11_compare 87 = .ok (.aload_n 0, 1) := by decide +kernel
theorem dX11_compare_88 : decode cX11_compare 88 = .ok (.aload_n 0, 1) := by decide +kernel
theorem dX11_compare_89 : decode cX11_compare 89 = .ok (.getfield 22, 3) := by decide +kernel
theorem dX11_compare_92 : decode cX11_compare 92 = .ok (.iload_n 1, 1) := by decide +kernel
theorem dX11_compare_93 : decode cX11_compare 93 = .ok (.iaload, 1) := by decide +kernel
theorem dX11_compare_94 : decode cX11_compare 94 = .ok (.aload_n 0, 1) := by decide +kernel
theorem dX11_compare_95 : decode cX11_compare 95 = .ok (.getfield 22, 3) := by decide +kernel
theorem dX11_compare_98 : decode cX11_compare 98 = .ok (.iload_n 2, 1) := by decide +kernel
theorem dX11_compare_99 : decode cX11_compare 99 = .ok (.iaload, 1) := by decide +kernel
theorem dX11_compare_100 : decode cX11_compare 100 = .ok (.if_icmp .ge 7, 3) := by decide +kernel
theorem dX11_compare_103 : decode cX11_compare 103 = .ok (.iconst (-1), 1) := by decide +kernel
theorem dX11_compare_104 : decode cX11_compare 104 = .ok (.goto 23, 3) := by decide +kernel
theorem dX11_compare_107 : decode cX11_compare 107 = .ok (.aload_n 0, 1) := by decide +kernel
theorem dX11_compare_108 : decode cX11_compare 108 = .ok (.getfield 22, 3) := by decide +kernel
theorem dX11_compare_111 : decode cX11_compare 111 = .ok (.iload_n 1, 1) := by decide +kernel
theorem dX11_compare_112 : decode cX11_compare 112 = .ok (.iaload, 1) := by decide +kernel
theorem dX11_compare_113 : decode cX11_compare 113 = .ok (.aload_n 0, 1) := by decide +kernel
theorem dX11_compare_114 : decode cX11_compare 114 = .ok (.getfield 22, 3) := by decide +kernel
theorem dX11_compare_117 : decode cX11_compare 117 = .ok (.iload_n 2, 1) := by decide +kernel
theorem dX11_compare_118 : decode cX11_compare 118 = .ok (.iaload, 1) := by decide +kernel
theorem dX11_compare_119 : decode cX11_compare 119 = .ok (.if_icmp .le 7, 3) := by decide +kernel
theorem dX11_compare_122 : decode cX11_compare 122 = .ok (.iconst 1, 1) := by decide +kernel
theorem dX11_compare_123 : decode cX11_compare 123 = .ok (.goto 4, 3) := by decide +kernel
theorem dX11_compare_126 : decode cX11_compare 126 = .ok (.iconst 0, 1) := by decide +kernel
theorem dX11_compare_127 : decode cX11_compare 127 = .ok (.invokevirtual 82, 3) := by decide +kernel
theorem dX11_compare_130 : decode cX11_compare 130 = .ok (.ireturn, 1) := by decide +kernel
set_option maxRecDepth 20000 in
theorem ggX11_middle_X11_isRow : GoodIn wsX11_middle wsX11_isRow := goodIn_r _ [8, 9, 10, 7, 11] (by decide +kernel) (by decide +kernel)
set_option maxRecDepth 20000 in
theorem gX11_middle_X11_isRow : GoodIn wsX11_middle (va_wsS RX11 147 yX11_isRow wsX11_isRow) := goodIn_app (goodIn_of _ (by decide +kernel)) ggX11_middle_X11_isRow
set_option maxRecDepth 20000 in
theorem ggX11_middle_X11_refuse : GoodIn wsX11_middle wsX11_refuse := goodIn_r _ [15, 16, 31, 32, 33, 34, 35, 36, 37, 38, 39, 40, 41, 42, 43, 44, 45, 46, 47, 48, 49, 50, 51, 52, 53, 54, 55, 56, 57] (by decide +kernel) (by decide +kernel)
set_option maxRecDepth 20000 in
theorem gX11_middle_X11_refuse : GoodIn wsX11_middle (wsV RX11 78 RX11 yX11_refuse wsX11_refuse) := goodIn_app (goodIn_of _ (by decide +kernel)) ggX11_middle_X11_refuse
set_option maxRecDepth 20000 in
theorem ggX11_middle_X11_sorts : GoodIn wsX11_middle wsX11_sorts := goodIn_r _ [20, 21, 2, 22, 23, 24, 7, 25, 4, 26, 31, 32, 33, 34, 35, 36, 37, 38, 39, 40, 41, 42, 43, 44, 45, 46, 47, 48, 49, 50, 51, 52, 53, 54, 55, 56, 57] (by decide +kernel) (by decide +kernel)
set_option maxRecDepth 20000 in
theorem gX11_middle_X11_sorts : GoodIn wsX11_middle (wsV RX11 159 RX11 yX11_sorts wsX11_sorts) := goodIn_app (goodIn_of _ (by decide +kernel)) ggX11_middle_X11_sorts
set_option maxRecDepth 20000 in
theorem ggX11_middle_X11_told : GoodIn wsX11_middle wsX11_told := goodIn_r _ [30, 16, 31, 32, 33, 34, 35, 36, 37, 38, 39, 40, 41, 42, 43, 44, 45, 46, 47, 48, 49, 50, 51, 52, 53, 54, 55, 56, 57] (by decide +kernel) (by decide +kernel)
set_option maxRecDepth 20000 in
theorem gX11_middle_X11_told : GoodIn wsX11_middle (wsV RX11 82 RX11 yX11_told wsX11_told) := goodIn_app (goodIn_of _ (by decide +kernel)) ggX11_middle_X11_told
theorem dX11_middle_0 : decode cX11_middle 0 = .ok (.iload_n 1, 1) := by decide +kernel
theorem dX11_middle_1 : decode cX11_middle 1 = .ok (.invokestatic 147, 3) := by decide +kernel
theorem dX11_middle_4 : decode cX11_middle 4 = .ok (.ifCond .ne 9, 3) := by decide +kernel
theorem dX11_middle_7 : decode cX11_middle 7 = .ok (.aload_n 0, 1) := by decide +kernel
theorem dX11_middle_8 : decode cX11_middle 8 = .ok (.iconst 1, 1) := by decide +kernel
theorem dX11_middle_9 : decode cX11_middle 9 = .ok (.invokevirtual 78, 3) := by decide +kernel
theorem dX11_middle_12 : decode cX11_middle 12 = .ok (.ireturn, 1) := by decide +kernel
theorem dX11_middle_13 : decode cX11_middle 13 = .ok (.aload_n 0, 1) := by decide +kernel
theorem dX11_middle_14 : decode cX11_middle 14 = .ok (.getfield 22, 3) := by decide +kernel
theorem dX11_middle_17 : decode cX11_middle 17 = .ok (.iload_n 1, 1) := by decide +kernel
theorem dX11_middle_18 : decode cX11_middle 18 = .ok (.iaload, 1) := by decide +kernel
theorem dX11_middle_19 : decode cX11_middle 19 = .ok (.ifCond .ne 9, 3) := by decide +kernel
theorem dX11_middle_22 : decode cX11_middle 22 = .ok (.aload_n 0, 1) := by decide +kernel
theorem dX11_middle_23 : decode cX11_middle 23 = .ok (.iconst 2, 1) := by decide +kernel
theorem dX11_middle_24 : decode cX11_middle 24 = .ok (.invokevirtual 78, 3) := by decide +kernel
theorem dX11_middle_27 : decode cX11_middle 27 = .ok (.ireturn, 1) := by decide +kernel
theorem dX11_middle_28 : decode cX11_middle 28 = .ok (.iconst 0, 1) := by decide +kernel
theorem dX11_middle_29 : decode cX11_middle 29 = .ok (.istore_n 2, 1) := by decide +kernel
theorem dX11_middle_30 : decode cX11_middle 30 = .ok (.iload_n 2, 1) := by decide +kernel
theorem dX11_middle_31 : decode cX11_middle 31 = .ok (.aload_n 0, 1) := by decide +kernel
theorem dX11_middle_32 : decode cX11_middle 32 = .ok (.getfield 22, 3) := by decide +kernel
theorem dX11_middle_35 : decode cX11_middle 35 = .ok (.iload_n 1, 1) := by decide +kernel
theorem dX11_middle_36 : decode cX11_middle 36 = .ok (.iaload, 1) := by decide +kernel
theorem dX11_middle_37 : decode cX11_middle 37 = .ok (.if_icmp .ge 27, 3) := by decide +kernel
theorem dX11_middle_40 : decode cX11_middle 40 = .ok (.aload_n 0, 1) := by decide +kernel
theorem dX11_middle_41 : decode cX11_middle 41 = .ok (.getfield 35, 3) := by decide +kernel
theorem dX11_middle_44 : decode cX11_middle 44 = .ok (.iload_n 2, 1) := by decide +kernel
theorem dX11_middle_45 : decode cX11_middle 45 = .ok (.aload_n 0, 1) := by decide +kernel
theorem dX11_middle_46 : decode cX11_middle 46 = .ok (.getfield 16, 3) := by decide +kernel
theorem dX11_middle_49 : decode cX11_middle 49 = .ok (.sipush 800, 3) := by decide +kernel
theorem dX11_middle_52 : decode cX11_middle 52 = .ok (.iload_n 1, 1) := by decide +kernel
theorem dX11_middle_53 : decode cX11_middle 53 = .ok (.imul, 1) := by decide +kernel
theorem dX11_middle_54 : decode cX11_middle 54 = .ok (.iload_n 2, 1) := by decide +kernel
theorem dX11_middle_55 : decode cX11_middle 55 = .ok (.iadd, 1) := by decide +kernel
theorem dX11_middle_56 : decode cX11_middle 56 = .ok (.iaload, 1) := by decide +kernel
theorem dX11_middle_57 : decode cX11_middle 57 = .ok (.iastore, 1) := by decide +kernel
theorem dX11_middle_58 : decode cX11_middle 58 = .ok (.iinc 2 1, 3) := by decide +kernel
theorem dX11_middle_61 : decode cX11_middle 61 = .ok (.goto (-31), 3) := by decide +kernel
theorem dX11_middle_64 : decode cX11_middle 64 = .ok (.aload_n 0, 1) := by decide +kernel
theorem dX11_middle_65 : decode cX11_middle 65 = .ok (.aload_n 0, 1) := by decide +kernel
theorem dX11_middle_66 : decode cX11_middle 66 = .ok (.getfield 22, 3) := by decide +kernel
theorem dX11_middle_69 : decode cX11_middle 69 = .ok (.iload_n 1, 1) := by decide +kernel
theorem dX11_middle_70 : decode cX11_middle 70 = .ok (.iaload, 1) := by decide +kernel
theorem dX11_middle_71 : decode cX11_middle 71 = .ok (.iconst 0, 1) := by decide +kernel
theorem dX11_middle_72 : decode cX11_middle 72 = .ok (.invokevirtual 159, 3) := by decide +kernel
theorem dX11_middle_75 : decode cX11_middle 75 = .ok (.istore_n 2, 1) := by decide +kernel
theorem dX11_middle_76 : decode cX11_middle 76 = .ok (.aload_n 0, 1) := by decide +kernel
theorem dX11_middle_77 : decode cX11_middle 77 = .ok (.aload_n 0, 1) := by decide +kernel
theorem dX11_middle_78 : decode cX11_middle 78 = .ok (.getfield 7, 3) := by decide +kernel
theorem dX11_middle_81 : decode cX11_middle 81 = .ok (.aload_n 0, 1) := by decide +kernel
theorem dX11_middle_82 : decode cX11_middle 82 = .ok (.getfield 35, 3) := by decide +kernel
theorem dX11_middle_85 : decode cX11_middle 85 = .ok (.aload_n 0, 1) := by decide +kernel
theorem dX11_middle_86 : decode cX11_middle 86 = .ok (.getfield 22, 3) := by decide +kernel
theorem dX11_middle_89 : decode cX11_middle 89 = .ok (.iload_n 1, 1) := by decide +kernel
theorem dX11_middle_90 : decode cX11_middle 90 = .ok (.iaload, 1) := by decide +kernel
theorem dX11_middle_91 : decode cX11_middle 91 = .ok (.iconst 1, 1) := by decide +kernel
theorem dX11_middle_92 : decode cX11_middle 92 = .ok (.isub, 1) := by decide +kernel
theorem dX11_middle_93 : decode cX11_middle 93 = .ok (.iconst 2, 1) := by decide +kernel
theorem dX11_middle_94 : decode cX11_middle 94 = .ok (.idiv, 1) := by decide +kernel
theorem dX11_middle_95 : decode cX11_middle 95 = .ok (.iaload, 1) := by decide +kernel
theorem dX11_middle_96 : decode cX11_middle 96 = .ok (.iaload, 1) := by decide +kernel
theorem dX11_middle_97 : decode cX11_middle 97 = .ok (.invokevirtual 82, 3) := by decide +kernel
theorem dX11_middle_100 : decode cX11_middle 100 = .ok (.ireturn, 1) := by decide +kernel
set_option maxRecDepth 20000 in
theorem ggX11_mean_X11_isRow : GoodIn wsX11_mean wsX11_isRow := goodIn_r _ [6, 7, 8, 5, 9] (by decide +kernel) (by decide +kernel)
set_option maxRecDepth 20000 in
theorem gX11_mean_X11_isRow : GoodIn wsX11_mean (va_wsS RX11 147 yX11_isRow wsX11_isRow) := goodIn_app (goodIn_of _ (by decide +kernel)) ggX11_mean_X11_isRow
set_option maxRecDepth 20000 in
theorem ggX11_mean_X11_firstAt : GoodIn wsX11_mean wsX11_firstAt := goodIn_r _ [13, 14, 15, 16, 17, 18, 19, 20, 21, 22, 23, 24, 25, 26, 27, 28, 29, 30, 31, 32, 33, 34, 35, 36, 37, 38, 39, 40, 41, 42] (by decide +kernel) (by decide +kernel)
set_option maxRecDepth 20000 in
theorem gX11_mean_X11_firstAt : GoodIn wsX11_mean (wsV RX11 179 RX11 yX11_firstAt wsX11_firstAt) := goodIn_app (goodIn_of _ (by decide +kernel)) ggX11_mean_X11_firstAt
theorem dX11_mean_0 : decode cX11_mean 0 = .ok (.aload_n 0, 1) := by decide +kernel
theorem dX11_mean_1 : decode cX11_mean 1 = .ok (.iload_n 1, 1) := by decide +kernel
theorem dX11_mean_2 : decode cX11_mean 2 = .ok (.invokestatic 147, 3) := by decide +kernel
theorem dX11_mean_5 : decode cX11_mean 5 = .ok (.ifCond .eq 7, 3) := by decide +kernel
theorem dX11_mean_8 : decode cX11_mean 8 = .ok (.iconst 0, 1) := by decide +kernel
theorem dX11_mean_9 : decode cX11_mean 9 = .ok (.goto 4, 3) := by decide +kernel
theorem dX11_mean_12 : decode cX11_mean 12 = .ok (.iconst 1, 1) := by decide +kernel
theorem dX11_mean_13 : decode cX11_mean 13 = .ok (.putfield 66, 3) := by decide +kernel
theorem dX11_mean_16 : decode cX11_mean 16 = .ok (.aload_n 0, 1) := by decide +kernel
theorem dX11_mean_17 : decode cX11_mean 17 = .ok (.getfield 66, 3) := by decide +kernel
theorem dX11_mean_20 : decode cX11_mean 20 = .ok (.ifCond .ne 12, 3) := by decide +kernel
theorem dX11_mean_23 : decode cX11_mean 23 = .ok (.aload_n 0, 1) := by decide +kernel
theorem dX11_mean_24 : decode cX11_mean 24 = .ok (.getfield 22, 3) := by decide +kernel
theorem dX11_mean_27 : decode cX11_mean 27 = .ok (.iload_n 1, 1) := by decide +kernel
theorem dX11_mean_28 : decode cX11_mean 28 = .ok (.iaload, 1) := by decide +kernel
theorem dX11_mean_29 : decode cX11_mean 29 = .ok (.ifCond .ne 5, 3) := by decide +kernel
theorem dX11_mean_32 : decode cX11_mean 32 = .ok (.dconst 0, 1) := by decide +kernel
theorem dX11_mean_33 : decode cX11_mean 33 = .ok (.dreturn, 1) := by decide +kernel
theorem dX11_mean_34 : decode cX11_mean 34 = .ok (.lconst 0, 1) := by decide +kernel
theorem dX11_mean_35 : decode cX11_mean 35 = .ok (.lstore_n 2, 1) := by decide +kernel
theorem dX11_mean_36 : decode cX11_mean 36 = .ok (.iconst 0, 1) := by decide +kernel
theorem dX11_mean_37 : decode cX11_mean 37 = .ok (.istore 4, 2) := by decide +kernel
theorem dX11_mean_39 : decode cX11_mean 39 = .ok (.iload 4, 2) := by decide +kernel
theorem dX11_mean_41 : decode cX11_mean 41 = .ok (.aload_n 0, 1) := by decide +kernel
theorem dX11_mean_42 : decode cX11_mean 42 = .ok (.getfield 22, 3) := by decide +kernel
theorem dX11_mean_45 : decode cX11_mean 45 = .ok (.iload_n 1, 1) := by decide +kernel
theorem dX11_mean_46 : decode cX11_mean 46 = .ok (.iaload, 1) := by decide +kernel
theorem dX11_mean_47 : decode cX11_mean 47 = .ok (.if_icmp .ge 20, 3) := by decide +kernel
theorem dX11_mean_50 : decode cX11_mean 50 = .ok (.lload_n 2, 1) := by decide +kernel
theorem dX11_mean_51 : decode cX11_mean 51 = .ok (.aload_n 0, 1) := by decide +kernel
theorem dX11_mean_52 : decode cX11_mean 52 = .ok (.iload_n 1, 1) := by decide +kernel
theorem dX11_mean_53 : decode cX11_mean 53 = .ok (.iload 4, 2) := by decide +kernel
theorem dX11_mean_55 : decode cX11_mean 55 = .ok (.invokevirtual 179, 3) := by decide +kernel
theorem dX11_mean_58 : decode cX11_mean 58 = .ok (.i2l, 1) := by decide +kernel
theorem dX11_mean_59 : decode cX11_mean 59 = .ok (.ladd, 1) := by decide +kernel
theorem dX11_mean_60 : decode cX11_mean 60 = .ok (.lstore_n 2, 1) := by decide +kernel
theorem dX11_mean_61 : decode cX11_mean 61 = .ok (.iinc 4 1, 3) := by decide +kernel
theorem dX11_mean_64 : decode cX11_mean 64 = .ok (.goto (-25), 3) := by decide +kernel
theorem dX11_mean_67 : decode cX11_mean 67 = .ok (.lload_n 2, 1) := by decide +kernel
theorem dX11_mean_68 : decode cX11_mean 68 = .ok (.l2d, 1) := by decide +kernel
theorem dX11_mean_69 : decode cX11_mean 69 = .ok (.aload_n 0, 1) := by decide +kernel
theorem dX11_mean_70 : decode cX11_mean 70 = .ok (.getfield 22, 3) := by decide +kernel
theorem dX11_mean_73 : decode cX11_mean 73 = .ok (.iload_n 1, 1) := by decide +kernel
theorem dX11_mean_74 : decode cX11_mean 74 = .ok (.iaload, 1) := by decide +kernel
theorem dX11_mean_75 : decode cX11_mean 75 = .ok (.i2d, 1) := by decide +kernel
theorem dX11_mean_76 : decode cX11_mean 76 = .ok (.ddiv, 1) := by decide +kernel
theorem dX11_mean_77 : decode cX11_mean 77 = .ok (.dreturn, 1) := by decide +kernel
set_option maxRecDepth 20000 in
theorem ggX11_risingShare_X11_isRow : GoodIn wsX11_risingShare wsX11_isRow := goodIn_r _ [6, 7, 8, 5, 9] (by decide +kernel) (by decide +kernel)
set_option maxRecDepth 20000 in
theorem gX11_risingShare_X11_isRow : GoodIn wsX11_risingShare (va_wsS RX11 147 yX11_isRow wsX11_isRow) := goodIn_app (goodIn_of _ (by decide +kernel)) ggX11_risingShare_X11_isRow
set_option maxRecDepth 20000 in
theorem ggX11_risingShare_X11_longestOf : GoodIn wsX11_risingShare wsX11_longestOf := goodIn_r _ [13, 2, 14, 15, 16, 5, 17, 18, 19, 20, 21, 22, 23, 24, 25, 26, 27, 28, 29, 30, 31, 32, 33, 34, 35, 36, 37, 38, 39, 40, 41, 42, 43, 44, 45, 46, 47, 48, 49, 50, 51, 52, 53] (by decide +kernel) (by decide +kernel)
set_option maxRecDepth 20000 in
theorem gX11_risingShare_X11_longestOf : GoodIn wsX11_risingShare (wsV RX11 188 RX11 yX11_longestOf wsX11_longestOf) := goodIn_app (goodIn_of _ (by decide +kernel)) ggX11_risingShare_X11_longestOf
theorem dX11_risingShare_0 : decode cX11_risingShare 0 = .ok (.aload_n 0, 1) := by decide +kernel
theorem dX11_risingShare_1 : decode cX11_risingShare 1 = .ok (.iload_n 1, 1) := by decide +kernel
theorem dX11_risingShare_2 : decode cX11_risingShare 2 = .ok (.invokestatic 147, 3) := by decide +kernel
theorem dX11_risingShare_5 : decode cX11_risingShare 5 = .ok (.ifCond .eq 7, 3) := by decide +kernel
theorem dX11_risingShare_8 : decode cX11_risingShare 8 = .ok (.iconst 0, 1) := by decide +kernel
theorem dX11_risingShare_9 : decode cX11_risingShare 9 = .ok (.goto 4, 3) := by decide +kernel
theorem dX11_risingShare_12 : decode cX11_risingShare 12 = .ok (.iconst 1, 1) := by decide +kernel
theorem dX11_risingShare_13 : decode cX11_risingShare 13 = .ok (.putfield 66, 3) := by decide +kernel
theorem dX11_risingShare_16 : decode cX11_risingShare 16 = .ok (.aload_n 0, 1) := by decide +kernel
theorem dX11_risingShare_17 : decode cX11_risingShare 17 = .ok (.getfield 66, 3) := by decide +kernel
theorem dX11_risingShare_20 : decode cX11_risingShare 20 = .ok (.ifCond .ne 12, 3) := by decide +kernel
theorem dX11_risingShare_23 : decode cX11_risingShare 23 = .ok (.aload_n 0, 1) := by decide +kernel
theorem dX11_risingShare_24 : decode cX11_risingShare 24 = .ok (.getfield 22, 3) := by decide +kernel
theorem dX11_risingShare_27 : decode cX11_risingShare 27 = .ok (.iload_n 1, 1) := by decide +kernel
theorem dX11_risingShare_28 : decode cX11_risingShare 28 = .ok (.iaload, 1) := by decide +kernel
theorem dX11_risingShare_29 : decode cX11_risingShare 29 = .ok (.ifCond .ne 7, 3) := by decide +kernel
theorem dX11_risingShare_32 : decode cX11_risingShare 32 = .ok (.fconst 0, 1) := by decide +kernel
theorem dX11_risingShare_33 : decode cX11_risingShare 33 = .ok (.goto 17, 3) := by decide +kernel
theorem dX11_risingShare_36 : decode cX11_risingShare 36 = .ok (.aload_n 0, 1) := by decide +kernel
theorem dX11_risingShare_37 : decode cX11_risingShare 37 = .ok (.iload_n 1, 1) := by decide +kernel
theorem dX11_risingShare_38 : decode cX11_risingShare 38 = .ok (.invokevirtual 188, 3) := by decide +kernel
theorem dX11_risingShare_41 : decode cX11_risingShare 41 = .ok (.i2f, 1) := by decide +kernel
theorem dX11_risingShare_42 : decode cX11_risingShare 42 = .ok (.aload_n 0, 1) := by decide +kernel
theorem dX11_risingShare_43 : decode cX11_risingShare 43 = .ok (.getfield 22, 3) := by decide +kernel
theorem dX11_risingShare_46 : decode cX11_risingShare 46 = .ok (.iload_n 1, 1) := by decide +kernel
theorem dX11_risingShare_47 : decode cX11_risingShare 47 = .ok (.iaload, 1) := by decide +kernel
theorem dX11_risingShare_48 : decode cX11_risingShare 48 = .ok (.i2f, 1) := by decide +kernel
theorem dX11_risingShare_49 : decode cX11_risingShare 49 = .ok (.fdiv, 1) := by decide +kernel
theorem dX11_risingShare_50 : decode cX11_risingShare 50 = .ok (.freturn, 1) := by decide +kernel
theorem dX11_loads_0 : decode cX11_loads 0 = .ok (.iconst 0, 1) := by decide +kernel
theorem dX11_loads_1 : decode cX11_loads 1 = .ok (.istore_n 2, 1) := by decide +kernel
theorem dX11_loads_2 : decode cX11_loads 2 = .ok (.iload_n 2, 1) := by decide +kernel
theorem dX11_loads_3 : decode cX11_loads 3 = .ok (.aload_n 0, 1) := by decide +kernel
theorem dX11_loads_4 : decode cX11_loads 4 = .ok (.getfield 22, 3) := by decide +kernel
theorem dX11_loads_7 : decode cX11_loads 7 = .ok (.iload_n 1, 1) := by decide +kernel
theorem dX11_loads_8 : decode cX11_loads 8 = .ok (.iaload, 1) := by decide +kernel
theorem dX11_loads_9 : decode cX11_loads 9 = .ok (.if_icmp .ge 27, 3) := by decide +kernel
theorem dX11_loads_12 : decode cX11_loads 12 = .ok (.aload_n 0, 1) := by decide +kernel
theorem dX11_loads_13 : decode cX11_loads 13 = .ok (.getfield 35, 3) := by decide +kernel
theorem dX11_loads_16 : decode cX11_loads 16 = .ok (.iload_n 2, 1) := by decide +kernel
theorem dX11_loads_17 : decode cX11_loads 17 = .ok (.aload_n 0, 1) := by decide +kernel
theorem dX11_loads_18 : decode cX11_loads 18 = .ok (.getfield 16, 3) := by decide +kernel
theorem dX11_loads_21 : decode cX11_loads 21 = .ok (.sipush 800, 3) := by decide +kernel
theorem dX11_loads_24 : decode cX11_loads 24 = .ok (.iload_n 1, 1) := by decide +kernel
theorem dX11_loads_25 : decode cX11_loads 25 = .ok (.imul, 1) := by decide +kernel
theorem dX11_loads_26 : decode cX11_loads 26 = .ok (.iload_n 2, 1) := by decide +kernel
theorem dX11_loads_27 : decode cX11_loads 27 = .ok (.iadd, 1) := by decide +kernel
theorem dX11_loads_28 : decode cX11_loads 28 = .ok (.iaload, 1) := by decide +kernel
theorem dX11_loads_29 : decode cX11_loads 29 = .ok (.iastore, 1) := by decide +kernel
theorem dX11_loads_30 : decode cX11_loads 30 = .ok (.iinc 2 1, 3) := by decide +kernel
theorem dX11_loads_33 : decode cX11_loads 33 = .ok (.goto (-31), 3) := by decide +kernel
theorem dX11_loads_36 : decode cX11_loads 36 = .ok (.return_, 1) := by decide +kernel
set_option maxRecDepth 20000 in
theorem ggX11_isAsChosen_X11_firstAt : GoodIn wsX11_isAsChosen wsX11_firstAt := goodIn_r _ [9, 10, 4, 11, 12, 13, 14, 15, 16, 17, 18, 19, 20, 21, 22, 23, 24, 25, 26, 27, 28, 29, 30, 31, 32, 33, 34, 35, 36, 37] (by decide +kernel) (by decide +kernel)
set_option maxRecDepth 20000 in
theorem gX11_isAsChosen_X11_firstAt : GoodIn wsX11_isAsChosen (wsV RX11 179 RX11 yX11_firstAt wsX11_firstAt) := goodIn_app (goodIn_of _ (by decide +kernel)) ggX11_isAsChosen_X11_firstAt
theorem dX11_isAsChosen_0 : decode cX11_isAsChosen 0 = .ok (.aload_n 0, 1) := by decide +kernel
theorem dX11_isAsChosen_1 : decode cX11_isAsChosen 1 = .ok (.getfield 22, 3) := by decide +kernel
theorem dX11_isAsChosen_4 : decode cX11_isAsChosen 4 = .ok (.iload_n 1, 1) := by decide +kernel
theorem dX11_isAsChosen_5 : decode cX11_isAsChosen 5 = .ok (.iaload, 1) := by decide +kernel
theorem dX11_isAsChosen_6 : decode cX11_isAsChosen 6 = .ok (.istore_n 2, 1) := by decide +kernel
theorem dX11_isAsChosen_7 : decode cX11_isAsChosen 7 = .ok (.iconst 0, 1) := by decide +kernel
theorem dX11_isAsChosen_8 : decode cX11_isAsChosen 8 = .ok (.istore_n 3, 1) := by decide +kernel
theorem dX11_isAsChosen_9 : decode cX11_isAsChosen 9 = .ok (.iload_n 3, 1) := by decide +kernel
theorem dX11_isAsChosen_10 : decode cX11_isAsChosen 10 = .ok (.iload_n 2, 1) := by decide +kernel
theorem dX11_isAsChosen_11 : decode cX11_isAsChosen 11 = .ok (.if_icmp .ge 16, 3) := by decide +kernel
theorem dX11_isAsChosen_14 : decode cX11_isAsChosen 14 = .ok (.aload_n 0, 1) := by decide +kernel
theorem dX11_isAsChosen_15 : decode cX11_isAsChosen 15 = .ok (.getfield 59, 3) := by decide +kernel
theorem dX11_isAsChosen_18 : decode cX11_isAsChosen 18 = .ok (.iload_n 3, 1) := by decide +kernel
theorem dX11_isAsChosen_19 : decode cX11_isAsChosen 19 = .ok (.iconst 0, 1) := by decide +kernel
theorem dX11_isAsChosen_20 : decode cX11_isAsChosen 20 = .ok (.bastore, 1) := by decide +kernel
theorem dX11_isAsChosen_21 : decode cX11_isAsChosen 21 = .ok (.iinc 3 1, 3) := by decide +kernel
theorem dX11_isAsChosen_24 : decode cX11_isAsChosen 24 = .ok (.goto (-15), 3) := by decide +kernel
theorem dX11_isAsChosen_27 : decode cX11_isAsChosen 27 = .ok (.iconst 0, 1) := by decide +kernel
theorem dX11_isAsChosen_28 : decode cX11_isAsChosen 28 = .ok (.istore_n 3, 1) := by decide +kernel
theorem dX11_isAsChosen_29 : decode cX11_isAsChosen 29 = .ok (.iload_n 3, 1) := by decide +kernel
theorem dX11_isAsChosen_30 : decode cX11_isAsChosen 30 = .ok (.iload_n 2, 1) := by decide +kernel
theorem dX11_isAsChosen_31 : decode cX11_isAsChosen 31 = .ok (.if_icmp .ge 96, 3) := by decide +kernel
theorem dX11_isAsChosen_34 : decode cX11_isAsChosen 34 = .ok (.iconst (-1), 1) := by decide +kernel
theorem dX11_isAsChosen_35 : decode cX11_isAsChosen 35 = .ok (.istore 4, 2) := by decide +kernel
theorem dX11_isAsChosen_37 : decode cX11_isAsChosen 37 = .ok (.iconst 0, 1) := by decide +kernel
theorem dX11_isAsChosen_38 : decode cX11_isAsChosen 38 = .ok (.istore 5, 2) := by decide +kernel
theorem dX11_isAsChosen_40 : decode cX11_isAsChosen 40 = .ok (.iload 5, 2) := by decide +kernel
theorem dX11_isAsChosen_42 : decode cX11_isAsChosen 42 = .ok (.iload_n 2, 1) := by decide +kernel
theorem dX11_isAsChosen_43 : decode cX11_isAsChosen 43 = .ok (.if_icmp .ge 46, 3) := by decide +kernel
theorem dX11_isAsChosen_46 : decode cX11_isAsChosen 46 = .ok (.aload_n 0, 1) := by decide +kernel
theorem dX11_isAsChosen_47 : decode cX11_isAsChosen 47 = .ok (.getfield 59, 3) := by decide +kernel
theorem dX11_isAsChosen_50 : decode cX11_isAsChosen 50 = .ok (.iload 5, 2) := by decide +kernel
theorem dX11_isAsChosen_52 : decode cX11_isAsChosen 52 = .ok (.baload, 1) := by decide +kernel
theorem dX11_isAsChosen_53 : decode cX11_isAsChosen 53 = .ok (.ifCond .ne 30, 3) := by decide +kernel
theorem dX11_isAsChosen_56 : decode cX11_isAsChosen 56 = .ok (.iload 4, 2) := by decide +kernel
theorem dX11_isAsChosen_58 : decode cX11_isAsChosen 58 = .ok (.iconst (-1), 1) := by decide +kernel
theorem dX11_isAsChosen_59 : decode cX11_isAsChosen 59 = .ok (.if_icmp .eq 20, 3) := by decide +kernel
theorem dX11_isAsChosen_62 : decode cX11_isAsChosen 62 = .ok (.aload_n 0, 1) := by decide +kernel
theorem dX11_isAsChosen_63 : decode cX11_isAsChosen 63 = .ok (.iload_n 1, 1) := by decide +kernel
theorem dX11_isAsChosen_64 : decode cX11_isAsChosen 64 = .ok (.iload 5, 2) := by decide +kernel
theorem dX11_isAsChosen_66 : decode cX11_isAsChosen 66 = .ok (.invokevirtual 179, 3) := by decide +kernel
theorem dX11_isAsChosen_69 : decode cX11_isAsChosen 69 = .ok (.aload_n 0, 1) := by decide +kernel
theorem dX11_isAsChosen_70 : decode cX11_isAsChosen 70 = .ok (.iload_n 1, 1) := by decide +kernel
theorem dX11_isAsChosen_71 : decode cX11_isAsChosen 71 = .ok (.iload 4, 2) := by decide +kernel
theorem dX11_isAsChosen_73 : decode cX11_isAsChosen 73 = .ok (.invokevirtual 179, 3) := by decide +kernel
theorem dX11_isAsChosen_76 : decode cX11_isAsChosen 76 = .ok (.if_icmp .ge 7, 3) := by decide +kernel
theorem dX11_isAsChosen_79 : decode cX11_isAsChosen 79 = .ok (.iload 5, 2) := by decide +kernel
theorem dX11_isAsChosen_81 : decode cX11_isAsChosen 81 = .ok (.istore 4, 2) := by decide +kernel
theorem dX11_isAsChosen_83 : decode cX11_isAsChosen 83 = .ok (.iinc 5 1, 3) := by decide +kernel
theorem dX11_isAsChosen_86 : decode cX11_isAsChosen 86 = .ok (.goto (-46), 3) := by decide +kernel
theorem dX11_isAsChosen_89 : decode cX11_isAsChosen 89 = .ok (.aload_n 0, 1) := by decide +kernel
theorem dX11_isAsChosen_90 : decode cX11_isAsChosen 90 = .ok (.getfield 35, 3) := by decide +kernel
theorem dX11_isAsChosen_93 : decode cX11_isAsChosen 93 = .ok (.iload_n 3, 1) := by decide +kernel
theorem dX11_isAsChosen_94 : decode cX11_isAsChosen 94 = .ok (.iaload, 1) := by decide +kernel
theorem dX11_isAsChosen_95 : decode cX11_isAsChosen 95 = .ok (.aload_n 0, 1) := by decide +kernel
theorem dX11_isAsChosen_96 : decode cX11_isAsChosen 96 = .ok (.getfield 16, 3) := by decide +kernel
theorem dX11_isAsChosen_99 : decode cX11_isAsChosen 99 = .ok (.sipush 800, 3) := by decide +kernel
theorem dX11_isAsChosen_102 : decode cX11_isAsChosen 102 = .ok (.iload_n 1, 1) := by decide +kernel
theorem dX11_isAsChosen_103 : decode cX11_isAsChosen 103 = .ok (.imul, 1) := by decide +kernel
theorem dX11_isAsChosen_104 : decode cX11_isAsChosen 104 = .ok (.iload 4, 2) := by decide +kernel
theorem dX11_isAsChosen_106 : decode cX11_isAsChosen 106 = .ok (.iadd, 1) := by decide +kernel
theorem dX11_isAsChosen_107 : decode cX11_isAsChosen 107 = .ok (.iaload, 1) := by decide +kernel
theorem dX11_isAsChosen_108 : decode cX11_isAsChosen 108 = .ok (.if_icmp .eq 5, 3) := by decide +kernel
theorem dX11_isAsChosen_111 : decode cX11_isAsChosen 111 = .ok (.iconst 0, 1) := by decide +kernel
theorem dX11_isAsChosen_112 : decode cX11_isAsChosen 112 = .ok (.ireturn, 1) := by decide +kernel
theorem dX11_isAsChosen_113 : decode cX11_isAsChosen 113 = .ok (.aload_n 0, 1) := by decide +kernel
theorem dX11_isAsChosen_114 : decode cX11_isAsChosen 114 = .ok (.getfield 59, 3) := by decide +kernel
theorem dX11_isAsChosen_117 : decode cX11_isAsChosen 117 = .ok (.iload 4, 2) := by decide +kernel
theorem dX11_isAsChosen_119 : decode cX11_isAsChosen 119 = .ok (.iconst 1, 1) := by decide +kernel
theorem dX11_isAsChosen_120 : decode cX11_isAsChosen 120 = .ok (.bastore, 1) := by decide +kernel
theorem dX11_isAsChosen_121 : decode cX11_isAsChosen 121 = .ok (.iinc 3 1, 3) := by decide +kernel
theorem dX11_isAsChosen_124 : decode cX11_isAsChosen 124 = .ok (.goto (-95), 3) := by decide +kernel
theorem dX11_isAsChosen_127 : decode cX11_isAsChosen 127 = .ok (.iconst 1, 1) := by decide +kernel
theorem dX11_isAsChosen_128 : decode cX11_isAsChosen 128 = .ok (.ireturn, 1) := by decide +kernel
set_option maxRecDepth 20000 in
theorem ggX11_isTrue_X11_loads : GoodIn wsX11_isTrue wsX11_loads := goodIn_r _ [8, 1, 3, 9, 30, 31, 32, 33, 34, 35, 36, 37, 38, 39, 40, 41, 42, 43, 44, 45, 46, 47, 48, 49, 50, 51, 52, 53, 54, 55, 56] (by decide +kernel) (by decide +kernel)
set_option maxRecDepth 20000 in
theorem gX11_isTrue_X11_loads : GoodIn wsX11_isTrue (wsV RX11 191 RX11 yX11_loads wsX11_loads) := goodIn_app (goodIn_of _ (by decide +kernel)) ggX11_isTrue_X11_loads
set_option maxRecDepth 20000 in
theorem ggX11_isTrue_X11_sorts : GoodIn wsX11_isTrue wsX11_sorts := goodIn_r _ [13, 14, 3, 15, 16, 17, 7, 18, 19, 20, 30, 31, 32, 33, 34, 35, 36, 37, 38, 39, 40, 41, 42, 43, 44, 45, 46, 47, 48, 49, 50, 51, 52, 53, 54, 55, 56] (by decide +kernel) (by decide +kernel)
set_option maxRecDepth 20000 in
theorem gX11_isTrue_X11_sorts : GoodIn wsX11_isTrue (wsV RX11 159 RX11 yX11_sorts wsX11_sorts) := goodIn_app (goodIn_of _ (by decide +kernel)) ggX11_isTrue_X11_sorts
set_option maxRecDepth 20000 in
theorem ggX11_isTrue_X11_isAsChosen : GoodIn wsX11_isTrue wsX11_isAsChosen := goodIn_r _ [24, 1, 25, 3, 9, 26, 27, 28, 7, 29, 19, 30, 31, 32, 33, 34, 35, 36, 37, 38, 39, 40, 41, 42, 43, 44, 45, 46, 47, 48, 49, 50, 51, 52, 53, 54, 55, 56] (by decide +kernel) (by decide +kernel)
set_option maxRecDepth 20000 in
theorem gX11_isTrue_X11_isAsChosen : GoodIn wsX11_isTrue (wsV RX11 195 RX11 yX11_isAsChosen wsX11_isAsChosen) := goodIn_app (goodIn_of _ (by decide +kernel)) ggX11_isTrue_X11_isAsChosen
theorem dX11_isTrue_0 : decode cX11_isTrue 0 = .ok (.aload_n 0, 1) := by decide +kernel
theorem dX11_isTrue_1 : decode cX11_isTrue 1 = .ok (.getfield 22, 3) := by decide +kernel
theorem dX11_isTrue_4 : decode cX11_isTrue 4 = .ok (.iload_n 1, 1) := by decide +kernel
theorem dX11_isTrue_5 : decode cX11_isTrue 5 = .ok (.iaload, 1) := by decide +kernel
theorem dX11_isTrue_6 : decode cX11_isTrue 6 = .ok (.istore_n 2, 1) := by decide +kernel
theorem dX11_isTrue_7 : decode cX11_isTrue 7 = .ok (.aload_n 0, 1) := by decide +kernel
theorem dX11_isTrue_8 : decode cX11_isTrue 8 = .ok (.iload_n 1, 1) := by decide +kernel
theorem dX11_isTrue_9 : decode cX11_isTrue 9 = .ok (.invokevirtual 191, 3) := by decide +kernel
theorem dX11_isTrue_12 : decode cX11_isTrue 12 = .ok (.aload_n 0, 1) := by decide +kernel
theorem dX11_isTrue_13 : decode cX11_isTrue 13 = .ok (.iload_n 2, 1) := by decide +kernel
theorem dX11_isTrue_14 : decode cX11_isTrue 14 = .ok (.iconst 0, 1) := by decide +kernel
theorem dX11_isTrue_15 : decode cX11_isTrue 15 = .ok (.invokevirtual 159, 3) := by decide +kernel
theorem dX11_isTrue_18 : decode cX11_isTrue 18 = .ok (.istore_n 3, 1) := by decide +kernel
theorem dX11_isTrue_19 : decode cX11_isTrue 19 = .ok (.aload_n 0, 1) := by decide +kernel
theorem dX11_isTrue_20 : decode cX11_isTrue 20 = .ok (.iload_n 1, 1) := by decide +kernel
theorem dX11_isTrue_21 : decode cX11_isTrue 21 = .ok (.invokevirtual 195, 3) := by decide +kernel
theorem dX11_isTrue_24 : decode cX11_isTrue 24 = .ok (.ifCond .eq 12, 3) := by decide +kernel
theorem dX11_isTrue_27 : decode cX11_isTrue 27 = .ok (.aload_n 0, 1) := by decide +kernel
theorem dX11_isTrue_28 : decode cX11_isTrue 28 = .ok (.iload_n 2, 1) := by decide +kernel
theorem dX11_isTrue_29 : decode cX11_isTrue 29 = .ok (.iconst 0, 1) := by decide +kernel
theorem dX11_isTrue_30 : decode cX11_isTrue 30 = .ok (.invokevirtual 159, 3) := by decide +kernel
theorem dX11_isTrue_33 : decode cX11_isTrue 33 = .ok (.ifCond .eq 5, 3) := by decide +kernel
theorem dX11_isTrue_36 : decode cX11_isTrue 36 = .ok (.iconst 0, 1) := by decide +kernel
theorem dX11_isTrue_37 : decode cX11_isTrue 37 = .ok (.ireturn, 1) := by decide +kernel
theorem dX11_isTrue_38 : decode cX11_isTrue 38 = .ok (.aload_n 0, 1) := by decide +kernel
theorem dX11_isTrue_39 : decode cX11_isTrue 39 = .ok (.iload_n 1, 1) := by decide +kernel
theorem dX11_isTrue_40 : decode cX11_isTrue 40 = .ok (.invokevirtual 191, 3) := by decide +kernel
theorem dX11_isTrue_43 : decode cX11_isTrue 43 = .ok (.iload_n 3, 1) := by decide +kernel
theorem dX11_isTrue_44 : decode cX11_isTrue 44 = .ok (.aload_n 0, 1) := by decide +kernel
theorem dX11_isTrue_45 : decode cX11_isTrue 45 = .ok (.iload_n 2, 1) := by decide +kernel
theorem dX11_isTrue_46 : decode cX11_isTrue 46 = .ok (.iconst 3, 1) := by decide +kernel
theorem dX11_isTrue_47 : decode cX11_isTrue 47 = .ok (.invokevirtual 159, 3) := by decide +kernel
theorem dX11_isTrue_50 : decode cX11_isTrue 50 = .ok (.iadd, 1) := by decide +kernel
theorem dX11_isTrue_51 : decode cX11_isTrue 51 = .ok (.istore_n 3, 1) := by decide +kernel
theorem dX11_isTrue_52 : decode cX11_isTrue 52 = .ok (.iconst 0, 1) := by decide +kernel
theorem dX11_isTrue_53 : decode cX11_isTrue 53 = .ok (.istore 4, 2) := by decide +kernel
theorem dX11_isTrue_55 : decode cX11_isTrue 55 = .ok (.iload 4, 2) := by decide +kernel
theorem dX11_isTrue_57 : decode cX11_isTrue 57 = .ok (.iload_n 2, 1) := by decide +kernel
theorem dX11_isTrue_58 : decode cX11_isTrue 58 = .ok (.if_icmp .ge 23, 3) := by decide +kernel
theorem dX11_isTrue_61 : decode cX11_isTrue 61 = .ok (.aload_n 0, 1) := by decide +kernel
theorem dX11_isTrue_62 : decode cX11_isTrue 62 = .ok (.getfield 63, 3) := by decide +kernel
theorem dX11_isTrue_65 : decode cX11_isTrue 65 = .ok (.iload 4, 2) := by decide +kernel
theorem dX11_isTrue_67 : decode cX11_isTrue 67 = .ok (.aload_n 0, 1) := by decide +kernel
theorem dX11_isTrue_68 : decode cX11_isTrue 68 = .ok (.getfield 35, 3) := by decide +kernel
theorem dX11_isTrue_71 : decode cX11_isTrue 71 = .ok (.iload 4, 2) := by decide +kernel
theorem dX11_isTrue_73 : decode cX11_isTrue 73 = .ok (.iaload, 1) := by decide +kernel
theorem dX11_isTrue_74 : decode cX11_isTrue 74 = .ok (.iastore, 1) := by decide +kernel
theorem dX11_isTrue_75 : decode cX11_isTrue 75 = .ok (.iinc 4 1, 3) := by decide +kernel
theorem dX11_isTrue_78 : decode cX11_isTrue 78 = .ok (.goto (-23), 3) := by decide +kernel
theorem dX11_isTrue_81 : decode cX11_isTrue 81 = .ok (.aload_n 0, 1) := by decide +kernel
theorem dX11_isTrue_82 : decode cX11_isTrue 82 = .ok (.iload_n 1, 1) := by decide +kernel
theorem dX11_isTrue_83 : decode cX11_isTrue 83 = .ok (.invokevirtual 191, 3) := by decide +kernel
theorem dX11_isTrue_86 : decode cX11_isTrue 86 = .ok (.iload_n 3, 1) := by decide +kernel
theorem dX11_isTrue_87 : decode cX11_isTrue 87 = .ok (.aload_n 0, 1) := by decide +kernel
theorem dX11_isTrue_88 : decode cX11_isTrue 88 = .ok (.iload_n 2, 1) := by decide +kernel
theorem dX11_isTrue_89 : decode cX11_isTrue 89 = .ok (.iconst 2, 1) := by decide +kernel
theorem dX11_isTrue_90 : decode cX11_isTrue 90 = .ok (.invokevirtual 159, 3) := by decide +kernel
theorem dX11_isTrue_93 : decode cX11_isTrue 93 = .ok (.aload_n 0, 1) := by decide +kernel
theorem dX11_isTrue_94 : decode cX11_isTrue 94 = .ok (.iload_n 2, 1) := by decide +kernel
theorem dX11_isTrue_95 : decode cX11_isTrue 95 = .ok (.iconst 0, 1) := by decide +kernel
theorem dX11_isTrue_96 : decode cX11_isTrue 96 = .ok (.invokevirtual 159, 3) := by decide +kernel
theorem dX11_isTrue_99 : decode cX11_isTrue 99 = .ok (.iadd, 1) := by decide +kernel
theorem dX11_isTrue_100 : decode cX11_isTrue 100 = .ok (.iadd, 1) := by decide +kernel
theorem dX11_isTrue_101 : decode cX11_isTrue 101 = .ok (.istore_n 3, 1) := by decide +kernel
theorem dX11_isTrue_102 : decode cX11_isTrue 102 = .ok (.iconst 0, 1) := by decide +kernel
theorem dX11_isTrue_103 : decode cX11_isTrue 103 = .ok (.istore 4, 2) := by decide +kernel
theorem dX11_isTrue_105 : decode cX11_isTrue 105 = .ok (.iload 4, 2) := by decide +kernel
theorem dX11_isTrue_107 : decode cX11_isTrue 107 = .ok (.iload_n 2, 1) := by decide +kernel
theorem dX11_isTrue_108 : decode cX11_isTrue 108 = .ok (.if_icmp .ge 28, 3) := by decide +kernel
theorem dX11_isTrue_111 : decode cX11_isTrue 111 = .ok (.aload_n 0, 1) := by decide +kernel
theorem dX11_isTrue_112 : decode cX11_isTrue 112 = .ok (.getfield 35, 3) := by decide +kernel
theorem dX11_isTrue_115 : decode cX11_isTrue 115 = .ok (.iload 4, 2) := by decide +kernel
theorem dX11_isTrue_117 : decode cX11_isTrue 117 = .ok (.iaload, 1) := by decide +kernel
theorem dX11_isTrue_118 : decode cX11_isTrue 118 = .ok (.aload_n 0, 1) := by decide +kernel
theorem dX11_isTrue_119 : decode cX11_isTrue 119 = .ok (.getfield 63, 3) := by decide +kernel
theorem dX11_isTrue_122 : decode cX11_isTrue 122 = .ok (.iload 4, 2) := by decide +kernel
theorem dX11_isTrue_124 : decode cX11_isTrue 124 = .ok (.iaload, 1) := by decide +kernel
theorem dX11_isTrue_125 : decode cX11_isTrue 125 = .ok (.if_icmp .eq 5, 3) := by decide +kernel
theorem dX11_isTrue_128 : decode cX11_isTrue 128 = .ok (.iconst 0, 1) := by decide +kernel
theorem dX11_isTrue_129 : decode cX11_isTrue 129 = .ok (.ireturn, 1) := by decide +kernel
theorem dX11_isTrue_130 : decode cX11_isTrue 130 = .ok (.iinc 4 1, 3) := by decide +kernel
theorem dX11_isTrue_133 : decode cX11_isTrue 133 = .ok (.goto (-28), 3) := by decide +kernel
theorem dX11_isTrue_136 : decode cX11_isTrue 136 = .ok (.iload_n 3, 1) := by decide +kernel
theorem dX11_isTrue_137 : decode cX11_isTrue 137 = .ok (.ifCond .lt 7, 3) := by decide +kernel
theorem dX11_isTrue_140 : decode cX11_isTrue 140 = .ok (.iconst 1, 1) := by decide +kernel
theorem dX11_isTrue_141 : decode cX11_isTrue 141 = .ok (.goto 4, 3) := by decide +kernel
theorem dX11_isTrue_144 : decode cX11_isTrue 144 = .ok (.iconst 0, 1) := by decide +kernel
theorem dX11_isTrue_145 : decode cX11_isTrue 145 = .ok (.ireturn, 1) := by decide +kernel
set_option maxRecDepth 20000 in
theorem ggX11_errors_X11_isTrue : GoodIn wsX11_errors wsX11_isTrue := goodIn_r _ [5, 6, 7, 8, 9, 10, 11, 4, 12, 13, 14, 15, 16, 17, 18, 19, 20, 21, 22, 23, 24, 25, 26, 27, 28, 29, 30, 31, 32, 33, 39, 40, 41, 42, 43, 44, 45, 46, 47, 48, 49, 50, 51, 52, 53, 54, 55, 56, 57, 58, 59, 60, 61, 62, 63, 64, 65] (by decide +kernel) (by decide +kernel)
set_option maxRecDepth 20000 in
theorem gX11_errors_X11_isTrue : GoodIn wsX11_errors (wsV RX11 198 RX11 yX11_isTrue wsX11_isTrue) := goodIn_app (goodIn_of _ (by decide +kernel)) ggX11_errors_X11_isTrue
set_option maxRecDepth 20000 in
theorem ggX11_errors_X11_told : GoodIn wsX11_errors wsX11_told := goodIn_r _ [37, 38, 39, 40, 41, 42, 43, 44, 45, 46, 47, 48, 49, 50, 51, 52, 53, 54, 55, 56, 57, 58, 59, 60, 61, 62, 63, 64, 65] (by decide +kernel) (by decide +kernel)
set_option maxRecDepth 20000 in
theorem gX11_errors_X11_told : GoodIn wsX11_errors (wsV RX11 82 RX11 yX11_told wsX11_told) := goodIn_app (goodIn_of _ (by decide +kernel)) ggX11_errors_X11_told
theorem dX11_errors_0 : decode cX11_errors 0 = .ok (.iconst 0, 1) := by decide +kernel
theorem dX11_errors_1 : decode cX11_errors 1 = .ok (.istore_n 1, 1) := by decide +kernel
theorem dX11_errors_2 : decode cX11_errors 2 = .ok (.iconst 0, 1) := by decide +kernel
theorem dX11_errors_3 : decode cX11_errors 3 = .ok (.istore_n 2, 1) := by decide +kernel
theorem dX11_errors_4 : decode cX11_errors 4 = .ok (.iload_n 2, 1) := by decide +kernel
theorem dX11_errors_5 : decode cX11_errors 5 = .ok (.iconst 4, 1) := by decide +kernel
theorem dX11_errors_6 : decode cX11_errors 6 = .ok (.if_icmp .ge 25, 3) := by decide +kernel
theorem dX11_errors_9 : decode cX11_errors 9 = .ok (.iload_n 1, 1) := by decide +kernel
theorem dX11_errors_10 : decode cX11_errors 10 = .ok (.aload_n 0, 1) := by decide +kernel
theorem dX11_errors_11 : decode cX11_errors 11 = .ok (.iload_n 2, 1) := by decide +kernel
theorem dX11_errors_12 : decode cX11_errors 12 = .ok (.invokevirtual 198, 3) := by decide +kernel
theorem dX11_errors_15 : decode cX11_errors 15 = .ok (.ifCond .eq 7, 3) := by decide +kernel
theorem dX11_errors_18 : decode cX11_errors 18 = .ok (.iconst 0, 1) := by decide +kernel
theorem dX11_errors_19 : decode cX11_errors 19 = .ok (.goto 4, 3) := by decide +kernel
theorem dX11_errors_22 : decode cX11_errors 22 = .ok (.iconst 1, 1) := by decide +kernel
theorem dX11_errors_23 : decode cX11_errors 23 = .ok (.iadd, 1) := by decide +kernel
theorem dX11_errors_24 : decode cX11_errors 24 = .ok (.istore_n 1, 1) := by decide +kernel
theorem dX11_errors_25 : decode cX11_errors 25 = .ok (.iinc 2 1, 3) := by decide +kernel
theorem dX11_errors_28 : decode cX11_errors 28 = .ok (.goto (-24), 3) := by decide +kernel
theorem dX11_errors_31 : decode cX11_errors 31 = .ok (.aload_n 0, 1) := by decide +kernel
theorem dX11_errors_32 : decode cX11_errors 32 = .ok (.iload_n 1, 1) := by decide +kernel
theorem dX11_errors_33 : decode cX11_errors 33 = .ok (.invokevirtual 82, 3) := by decide +kernel
theorem dX11_errors_36 : decode cX11_errors 36 = .ok (.ireturn, 1) := by decide +kernel
theorem dJx29ce0_ordinal_8abf5_0 : decode cJx29ce0_ordinal_8abf5 0 = .ok (.aload_n 0, 1) := by decide +kernel
theorem dJx29ce0_ordinal_8abf5_1 : decode cJx29ce0_ordinal_8abf5 1 = .ok (.getfield 7, 3) := by decide +kernel
theorem dJx29ce0_ordinal_8abf5_4 : decode cJx29ce0_ordinal_8abf5 4 = .ok (.ireturn, 1) := by decide +kernel
theorem dJ9_max_7cf53_0 : decode cJ9_max_7cf53 0 = .ok (.iload_n 0, 1) := by decide +kernel
theorem dJ9_max_7cf53_1 : decode cJ9_max_7cf53 1 = .ok (.iload_n 1, 1) := by decide +kernel
theorem dJ9_max_7cf53_2 : decode cJ9_max_7cf53 2 = .ok (.if_icmp .lt 7, 3) := by decide +kernel
theorem dJ9_max_7cf53_5 : decode cJ9_max_7cf53 5 = .ok (.iload_n 0, 1) := by decide +kernel
theorem dJ9_max_7cf53_6 : decode cJ9_max_7cf53 6 = .ok (.goto 4, 3) := by decide +kernel
theorem dJ9_max_7cf53_9 : decode cJ9_max_7cf53 9 = .ok (.iload_n 1, 1) := by decide +kernel
theorem dJ9_max_7cf53_10 : decode cJ9_max_7cf53 10 = .ok (.ireturn, 1) := by decide +kernel
theorem dJ9_min_7cf53_0 : decode cJ9_min_7cf53 0 = .ok (.iload_n 0, 1) := by decide +kernel
theorem dJ9_min_7cf53_1 : decode cJ9_min_7cf53 1 = .ok (.iload_n 1, 1) := by decide +kernel
theorem dJ9_min_7cf53_2 : decode cJ9_min_7cf53 2 = .ok (.if_icmp .gt 7, 3) := by decide +kernel
theorem dJ9_min_7cf53_5 : decode cJ9_min_7cf53 5 = .ok (.iload_n 0, 1) := by decide +kernel
theorem dJ9_min_7cf53_6 : decode cJ9_min_7cf53 6 = .ok (.goto 4, 3) := by decide +kernel
theorem dJ9_min_7cf53_9 : decode cJ9_min_7cf53 9 = .ok (.iload_n 1, 1) := by decide +kernel
theorem dJ9_min_7cf53_10 : decode cJ9_min_7cf53 10 = .ok (.ireturn, 1) := by decide +kernel
set_option maxRecDepth 20000 in
theorem ggJ0_length_8abf5_J0_coder_7d493 : GoodIn wsJ0_length_8abf5 wsJ0_coder_7d493 := goodIn_r _ [6, 7, 8] (by decide +kernel) (by decide +kernel)
set_option maxRecDepth 20000 in
theorem gJ0_length_8abf5_J0_coder_7d493 : GoodIn wsJ0_length_8abf5 (wsV RJ0 335 RJ0 yJ0_coder_7d493 wsJ0_coder_7d493) := goodIn_app (goodIn_of _ (by decide +kernel)) ggJ0_length_8abf5_J0_coder_7d493
theorem dJ0_length_8abf5_0 : decode cJ0_length_8abf5 0 = .ok (.aload_n 0, 1) := by decide +kernel
theorem dJ0_length_8abf5_1 : decode cJ0_length_8abf5 1 = .ok (.getfield 9, 3) := by decide +kernel
theorem dJ0_length_8abf5_4 : decode cJ0_length_8abf5 4 = .ok (.arraylength, 1) := by decide +kernel
theorem dJ0_length_8abf5_5 : decode cJ0_length_8abf5 5 = .ok (.aload_n 0, 1) := by decide +kernel
theorem dJ0_length_8abf5_6 : decode cJ0_length_8abf5 6 = .ok (.invokevirtual 335, 3) := by decide +kernel
theorem dJ0_length_8abf5_9 : decode cJ0_length_8abf5 9 = .ok (.ishr, 1) := by decide +kernel
theorem dJ0_length_8abf5_10 : decode cJ0_length_8abf5 10 = .ok (.ireturn, 1) := by decide +kernel
set_option maxRecDepth 20000 in
theorem ggJ0_charAt_5068e_J0_isLatin1_aae02 : GoodIn wsJ0_charAt_5068e wsJ0_isLatin1_aae02 := goodIn_r _ [6, 7, 8] (by decide +kernel) (by decide +kernel)
set_option maxRecDepth 20000 in
theorem gJ0_charAt_5068e_J0_isLatin1_aae02 : GoodIn wsJ0_charAt_5068e (wsV RJ0 492 RJ0 yJ0_isLatin1_aae02 wsJ0_isLatin1_aae02) := goodIn_app (goodIn_of _ (by decide +kernel)) ggJ0_charAt_5068e_J0_isLatin1_aae02
set_option maxRecDepth 20000 in
theorem ggJ0_charAt_5068e_J1_charAt_3b067 : GoodIn wsJ0_charAt_5068e wsJ1_charAt_3b067 := goodIn_r _ [12, 13, 14, 5, 15, 16, 17, 18, 19, 20] (by decide +kernel) (by decide +kernel)
set_option maxRecDepth 20000 in
theorem gJ0_charAt_5068e_J1_charAt_3b067 : GoodIn wsJ0_charAt_5068e (va_wsS RJ0 495 yJ1_charAt_3b067 wsJ1_charAt_3b067) := goodIn_app (goodIn_of _ (by decide +kernel)) ggJ0_charAt_5068e_J1_charAt_3b067
set_option maxRecDepth 20000 in
theorem ggJ0_charAt_5068e_J2_charAt_3b067 : GoodIn wsJ0_charAt_5068e wsJ2_charAt_3b067 := goodIn_r _ [24, 25, 26, 23, 27, 28, 29, 30, 31, 14, 5, 15, 16, 17, 18, 19, 20, 32, 33, 34, 35, 36, 37] (by decide +kernel) (by decide +kernel)
set_option maxRecDepth 20000 in
theorem gJ0_charAt_5068e_J2_charAt_3b067 : GoodIn wsJ0_charAt_5068e (va_wsS RJ0 498 yJ2_charAt_3b067 wsJ2_charAt_3b067) := goodIn_app (goodIn_of _ (by decide +kernel)) ggJ0_charAt_5068e_J2_charAt_3b067
theorem dJ0_charAt_5068e_0 : decode cJ0_charAt_5068e 0 = .ok (.aload_n 0, 1) := by decide +kernel
theorem dJ0_charAt_5068e_1 : decode cJ0_charAt_5068e 1 = .ok (.invokevirtual 492, 3) := by decide +kernel
theorem dJ0_charAt_5068e_4 : decode cJ0_charAt_5068e 4 = .ok (.ifCond .eq 12, 3) := by decide +kernel
theorem dJ0_charAt_5068e_7 : decode cJ0_charAt_5068e 7 = .ok (.aload_n 0, 1) := by decide +kernel
theorem dJ0_charAt_5068e_8 : decode cJ0_charAt_5068e 8 = .ok (.getfield 9, 3) := by decide +kernel
theorem dJ0_charAt_5068e_11 : decode cJ0_charAt_5068e 11 = .ok (.iload_n 1, 1) := by decide +kernel
theorem dJ0_charAt_5068e_12 : decode cJ0_charAt_5068e 12 = .ok (.invokestatic 495, 3) := by decide +kernel
theorem dJ0_charAt_5068e_15 : decode cJ0_charAt_5068e 15 = .ok (.ireturn, 1) := by decide +kernel
theorem dJ0_charAt_5068e_16 : decode cJ0_charAt_5068e 16 = .ok (.aload_n 0, 1) := by decide +kernel
theorem dJ0_charAt_5068e_17 : decode cJ0_charAt_5068e 17 = .ok (.getfield 9, 3) := by decide +kernel
theorem dJ0_charAt_5068e_20 : decode cJ0_charAt_5068e 20 = .ok (.iload_n 1, 1) := by decide +kernel
theorem dJ0_charAt_5068e_21 : decode cJ0_charAt_5068e 21 = .ok (.invokestatic 498, 3) := by decide +kernel
theorem dJ0_charAt_5068e_24 : decode cJ0_charAt_5068e 24 = .ok (.ireturn, 1) := by decide +kernel
theorem dJ0_coder_7d493_0 : decode cJ0_coder_7d493 0 = .ok (.getstatic 38, 3) := by decide +kernel
theorem dJ0_coder_7d493_3 : decode cJ0_coder_7d493 3 = .ok (.ifCond .eq 10, 3) := by decide +kernel
theorem dJ0_coder_7d493_6 : decode cJ0_coder_7d493 6 = .ok (.aload_n 0, 1) := by decide +kernel
theorem dJ0_coder_7d493_7 : decode cJ0_coder_7d493 7 = .ok (.getfield 15, 3) := by decide +kernel
theorem dJ0_coder_7d493_10 : decode cJ0_coder_7d493 10 = .ok (.goto 4, 3) := by decide +kernel
theorem dJ0_coder_7d493_13 : decode cJ0_coder_7d493 13 = .ok (.iconst 1, 1) := by decide +kernel
theorem dJ0_coder_7d493_14 : decode cJ0_coder_7d493 14 = .ok (.ireturn, 1) := by decide +kernel
theorem dJ0_isLatin1_aae02_0 : decode cJ0_isLatin1_aae02 0 = .ok (.getstatic 38, 3) := by decide +kernel
theorem dJ0_isLatin1_aae02_3 : decode cJ0_isLatin1_aae02 3 = .ok (.ifCond .eq 14, 3) := by decide +kernel
theorem dJ0_isLatin1_aae02_6 : decode cJ0_isLatin1_aae02 6 = .ok (.aload_n 0, 1) := by decide +kernel
theorem dJ0_isLatin1_aae02_7 : decode cJ0_isLatin1_aae02 7 = .ok (.getfield 15, 3) := by decide +kernel
theorem dJ0_isLatin1_aae02_10 : decode cJ0_isLatin1_aae02 10 = .ok (.ifCond .ne 7, 3) := by decide +kernel
theorem dJ0_isLatin1_aae02_13 : decode cJ0_isLatin1_aae02 13 = .ok (.iconst 1, 1) := by decide +kernel
theorem dJ0_isLatin1_aae02_14 : decode cJ0_isLatin1_aae02 14 = .ok (.goto 4, 3) := by decide +kernel
theorem dJ0_isLatin1_aae02_17 : decode cJ0_isLatin1_aae02 17 = .ok (.iconst 0, 1) := by decide +kernel
theorem dJ0_isLatin1_aae02_18 : decode cJ0_isLatin1_aae02 18 = .ok (.ireturn, 1) := by decide +kernel
set_option maxRecDepth 20000 in
theorem ggJ0_checkIndex_df160_J3_checkIndex_8e157 : GoodIn wsJ0_checkIndex_df160 wsJ3_checkIndex_8e157 := goodIn_r _ [5] (by decide +kernel) (by decide +kernel)
set_option maxRecDepth 20000 in
theorem gJ0_checkIndex_df160_J3_checkIndex_8e157 : GoodIn wsJ0_checkIndex_df160 (va_wsS RJ0 1059 yJ3_checkIndex_8e157 wsJ3_checkIndex_8e157) := goodIn_app (goodIn_of _ (by decide +kernel)) ggJ0_checkIndex_df160_J3_checkIndex_8e157
theorem dJ0_checkIndex_df160_0 : decode cJ0_checkIndex_df160 0 = .ok (.iload_n 0, 1) := by decide +kernel
theorem dJ0_checkIndex_df160_1 : decode cJ0_checkIndex_df160 1 = .ok (.iload_n 1, 1) := by decide +kernel
theorem dJ0_checkIndex_df160_2 : decode cJ0_checkIndex_df160 2 = .ok (.getstatic 1053, 3) := by decide +kernel
theorem dJ0_checkIndex_df160_5 : decode cJ0_checkIndex_df160 5 = .ok (.invokestatic 1059, 3) := by decide +kernel
theorem dJ0_checkIndex_df160_8 : decode cJ0_checkIndex_df160 8 = .ok (.pop, 1) := by decide +kernel
theorem dJ0_checkIndex_df160_9 : decode cJ0_checkIndex_df160 9 = .ok (.return_, 1) := by decide +kernel
set_option maxRecDepth 20000 in
theorem ggJ1_charAt_3b067_J0_checkIndex_df160 : GoodIn wsJ1_charAt_3b067 wsJ0_checkIndex_df160 := goodIn_r _ [4, 5, 6, 7, 8, 9] (by decide +kernel) (by decide +kernel)
set_option maxRecDepth 20000 in
theorem gJ1_charAt_3b067_J0_checkIndex_df160 : GoodIn wsJ1_charAt_3b067 (va_wsS RJ1 9 yJ0_checkIndex_df160 wsJ0_checkIndex_df160) := goodIn_app (goodIn_of _ (by decide +kernel)) ggJ1_charAt_3b067_J0_checkIndex_df160
theorem dJ1_charAt_3b067_0 : decode cJ1_charAt_3b067 0 = .ok (.iload_n 1, 1) := by decide +kernel
theorem dJ1_charAt_3b067_1 : decode cJ1_charAt_3b067 1 = .ok (.aload_n 0, 1) := by decide +kernel
theorem dJ1_charAt_3b067_2 : decode cJ1_charAt_3b067 2 = .ok (.arraylength, 1) := by decide +kernel
theorem dJ1_charAt_3b067_3 : decode cJ1_charAt_3b067 3 = .ok (.invokestatic 9, 3) := by decide +kernel
theorem dJ1_charAt_3b067_6 : decode cJ1_charAt_3b067 6 = .ok (.aload_n 0, 1) := by decide +kernel
theorem dJ1_charAt_3b067_7 : decode cJ1_charAt_3b067 7 = .ok (.iload_n 1, 1) := by decide +kernel
theorem dJ1_charAt_3b067_8 : decode cJ1_charAt_3b067 8 = .ok (.baload, 1) := by decide +kernel
theorem dJ1_charAt_3b067_9 : decode cJ1_charAt_3b067 9 = .ok (.sipush 255, 3) := by decide +kernel
theorem dJ1_charAt_3b067_12 : decode cJ1_charAt_3b067 12 = .ok (.iand, 1) := by decide +kernel
theorem dJ1_charAt_3b067_13 : decode cJ1_charAt_3b067 13 = .ok (.i2c, 1) := by decide +kernel
theorem dJ1_charAt_3b067_14 : decode cJ1_charAt_3b067 14 = .ok (.ireturn, 1) := by decide +kernel
set_option maxRecDepth 20000 in
theorem ggJ2_getChar_3b067_J2_length_9d52b : GoodIn wsJ2_getChar_3b067 wsJ2_length_9d52b := goodIn_r _ [7] (by decide +kernel) (by decide +kernel)
set_option maxRecDepth 20000 in
theorem gJ2_getChar_3b067_J2_length_9d52b : GoodIn wsJ2_getChar_3b067 (va_wsS RJ2 48 yJ2_length_9d52b wsJ2_length_9d52b) := goodIn_app (goodIn_of _ (by decide +kernel)) ggJ2_getChar_3b067_J2_length_9d52b
theorem dJ2_getChar_3b067_0 : decode cJ2_getChar_3b067 0 = .ok (.getstatic 44, 3) := by decide +kernel
theorem dJ2_getChar_3b067_3 : decode cJ2_getChar_3b067 3 = .ok (.ifCond .ne 25, 3) := by decide +kernel
theorem dJ2_getChar_3b067_6 : decode cJ2_getChar_3b067 6 = .ok (.iload_n 1, 1) := by decide +kernel
theorem dJ2_getChar_3b067_7 : decode cJ2_getChar_3b067 7 = .ok (.ifCond .lt 11, 3) := by decide +kernel
theorem dJ2_getChar_3b067_10 : decode cJ2_getChar_3b067 10 = .ok (.iload_n 1, 1) := by decide +kernel
theorem dJ2_getChar_3b067_11 : decode cJ2_getChar_3b067 11 = .ok (.aload_n 0, 1) := by decide +kernel
theorem dJ2_getChar_3b067_12 : decode cJ2_getChar_3b067 12 = .ok (.invokestatic 48, 3) := by decide +kernel
theorem dJ2_getChar_3b067_15 : decode cJ2_getChar_3b067 15 = .ok (.if_icmp .lt 13, 3) := by decide +kernel
theorem dJ2_getChar_3b067_18 : decode cJ2_getChar_3b067 18 = .ok (.new 52, 3) := by decide +kernel
theorem dJ2_getChar_3b067_21 : decode cJ2_getChar_3b067 21 = .ok (.dup, 1) := by decide +kernel
theorem dJ2_getChar_3b067_22 : decode cJ2_getChar_3b067 22 = .ok (.ldc 54, 2) := by decide +kernel
theorem dJ2_getChar_3b067_24 : decode cJ2_getChar_3b067 24 = .ok (.invokespecial 56, 3) := by decide +kernel
theorem dJ2_getChar_3b067_27 : decode cJ2_getChar_3b067 27 = .ok (.athrow, 1) := by decide +kernel
theorem dJ2_getChar_3b067_28 : decode cJ2_getChar_3b067 28 = .ok (.iload_n 1, 1) := by decide +kernel
theorem dJ2_getChar_3b067_29 : decode cJ2_getChar_3b067 29 = .ok (.iconst 1, 1) := by decide +kernel
theorem dJ2_getChar_3b067_30 : decode cJ2_getChar_3b067 30 = .ok (.ishl, 1) := by decide +kernel
theorem dJ2_getChar_3b067_31 : decode cJ2_getChar_3b067 31 = .ok (.istore_n 1, 1) := by decide +kernel
theorem dJ2_getChar_3b067_32 : decode cJ2_getChar_3b067 32 = .ok (.aload_n 0, 1) := by decide +kernel
theorem dJ2_getChar_3b067_33 : decode cJ2_getChar_3b067 33 = .ok (.iload_n 1, 1) := by decide +kernel
theorem dJ2_getChar_3b067_34 : decode cJ2_getChar_3b067 34 = .ok (.iinc 1 1, 3) := by decide +kernel
theorem dJ2_getChar_3b067_37 : decode cJ2_getChar_3b067 37 = .ok (.baload, 1) := by decide +kernel
theorem dJ2_getChar_3b067_38 : decode cJ2_getChar_3b067 38 = .ok (.sipush 255, 3) := by decide +kernel
theorem dJ2_getChar_3b067_41 : decode cJ2_getChar_3b067 41 = .ok (.iand, 1) := by decide +kernel
theorem dJ2_getChar_3b067_42 : decode cJ2_getChar_3b067 42 = .ok (.getstatic 59, 3) := by decide +kernel
theorem dJ2_getChar_3b067_45 : decode cJ2_getChar_3b067 45 = .ok (.ishl, 1) := by decide +kernel
theorem dJ2_getChar_3b067_46 : decode cJ2_getChar_3b067 46 = .ok (.aload_n 0, 1) := by decide +kernel
theorem dJ2_getChar_3b067_47 : decode cJ2_getChar_3b067 47 = .ok (.iload_n 1, 1) := by decide +kernel
theorem dJ2_getChar_3b067_48 : decode cJ2_getChar_3b067 48 = .ok (.baload, 1) := by decide +kernel
theorem dJ2_getChar_3b067_49 : decode cJ2_getChar_3b067 49 = .ok (.sipush 255, 3) := by decide +kernel
theorem dJ2_getChar_3b067_52 : decode cJ2_getChar_3b067 52 = .ok (.iand, 1) := by decide +kernel
theorem dJ2_getChar_3b067_53 : decode cJ2_getChar_3b067 53 = .ok (.getstatic 63, 3) := by decide +kernel
theorem dJ2_getChar_3b067_56 : decode cJ2_getChar_3b067 56 = .ok (.ishl, 1) := by decide +kernel
theorem dJ2_getChar_3b067_57 : decode cJ2_getChar_3b067 57 = .ok (.ior, 1) := by decide +kernel
theorem dJ2_getChar_3b067_58 : decode cJ2_getChar_3b067 58 = .ok (.i2c, 1) := by decide +kernel
theorem dJ2_getChar_3b067_59 : decode cJ2_getChar_3b067 59 = .ok (.ireturn, 1) := by decide +kernel
theorem dJ2_length_9d52b_0 : decode cJ2_length_9d52b 0 = .ok (.aload_n 0, 1) := by decide +kernel
theorem dJ2_length_9d52b_1 : decode cJ2_length_9d52b 1 = .ok (.arraylength, 1) := by decide +kernel
theorem dJ2_length_9d52b_2 : decode cJ2_length_9d52b 2 = .ok (.iconst 1, 1) := by decide +kernel
theorem dJ2_length_9d52b_3 : decode cJ2_length_9d52b 3 = .ok (.ishr, 1) := by decide +kernel
theorem dJ2_length_9d52b_4 : decode cJ2_length_9d52b 4 = .ok (.ireturn, 1) := by decide +kernel
set_option maxRecDepth 20000 in
theorem ggJ2_charAt_3b067_J2_checkIndex_2214a : GoodIn wsJ2_charAt_3b067 wsJ2_checkIndex_2214a := goodIn_r _ [4, 5, 6, 3, 7, 8, 9, 10, 11, 12, 13, 14, 15, 16] (by decide +kernel) (by decide +kernel)
set_option maxRecDepth 20000 in
theorem gJ2_charAt_3b067_J2_checkIndex_2214a : GoodIn wsJ2_charAt_3b067 (va_wsS RJ2 67 yJ2_checkIndex_2214a wsJ2_checkIndex_2214a) := goodIn_app (goodIn_of _ (by decide +kernel)) ggJ2_charAt_3b067_J2_checkIndex_2214a
set_option maxRecDepth 20000 in
theorem ggJ2_charAt_3b067_J2_getChar_3b067 : GoodIn wsJ2_charAt_3b067 wsJ2_getChar_3b067 := goodIn_r _ [19, 20, 21, 22, 5, 6, 3, 7] (by decide +kernel) (by decide +kernel)
set_option maxRecDepth 20000 in
theorem gJ2_charAt_3b067_J2_getChar_3b067 : GoodIn wsJ2_charAt_3b067 (va_wsS RJ2 71 yJ2_getChar_3b067 wsJ2_getChar_3b067) := goodIn_app (goodIn_of _ (by decide +kernel)) ggJ2_charAt_3b067_J2_getChar_3b067
theorem dJ2_charAt_3b067_0 : decode cJ2_charAt_3b067 0 = .ok (.iload_n 1, 1) := by decide +kernel
theorem dJ2_charAt_3b067_1 : decode cJ2_charAt_3b067 1 = .ok (.aload_n 0, 1) := by decide +kernel
theorem dJ2_charAt_3b067_2 : decode cJ2_charAt_3b067 2 = .ok (.invokestatic 67, 3) := by decide +kernel
theorem dJ2_charAt_3b067_5 : decode cJ2_charAt_3b067 5 = .ok (.aload_n 0, 1) := by decide +kernel
theorem dJ2_charAt_3b067_6 : decode cJ2_charAt_3b067 6 = .ok (.iload_n 1, 1) := by decide +kernel
theorem dJ2_charAt_3b067_7 : decode cJ2_charAt_3b067 7 = .ok (.invokestatic 71, 3) := by decide +kernel
theorem dJ2_charAt_3b067_10 : decode cJ2_charAt_3b067 10 = .ok (.ireturn, 1) := by decide +kernel
set_option maxRecDepth 20000 in
theorem ggJ2_checkIndex_2214a_J2_length_9d52b : GoodIn wsJ2_checkIndex_2214a wsJ2_length_9d52b := goodIn_r _ [4] (by decide +kernel) (by decide +kernel)
set_option maxRecDepth 20000 in
theorem gJ2_checkIndex_2214a_J2_length_9d52b : GoodIn wsJ2_checkIndex_2214a (va_wsS RJ2 48 yJ2_length_9d52b wsJ2_length_9d52b) := goodIn_app (goodIn_of _ (by decide +kernel)) ggJ2_checkIndex_2214a_J2_length_9d52b
set_option maxRecDepth 20000 in
theorem ggJ2_checkIndex_2214a_J0_checkIndex_df160 : GoodIn wsJ2_checkIndex_2214a wsJ0_checkIndex_df160 := goodIn_r _ [8, 9, 10, 11, 12, 13] (by decide +kernel) (by decide +kernel)
set_option maxRecDepth 20000 in
theorem gJ2_checkIndex_2214a_J0_checkIndex_df160 : GoodIn wsJ2_checkIndex_2214a (va_wsS RJ2 414 yJ0_checkIndex_df160 wsJ0_checkIndex_df160) := goodIn_app (goodIn_of _ (by decide +kernel)) ggJ2_checkIndex_2214a_J0_checkIndex_df160
theorem dJ2_checkIndex_2214a_0 : decode cJ2_checkIndex_2214a 0 = .ok (.iload_n 0, 1) := by decide +kernel
theorem dJ2_checkIndex_2214a_1 : decode cJ2_checkIndex_2214a 1 = .ok (.aload_n 1, 1) := by decide +kernel
theorem dJ2_checkIndex_2214a_2 : decode cJ2_checkIndex_2214a 2 = .ok (.invokestatic 48, 3) := by decide +kernel
theorem dJ2_checkIndex_2214a_5 : decode cJ2_checkIndex_2214a 5 = .ok (.invokestatic 414, 3) := by decide +kernel
theorem dJ2_checkIndex_2214a_8 : decode cJ2_checkIndex_2214a 8 = .ok (.return_, 1) := by decide +kernel
theorem dJ3_checkIndex_8e157_0 : decode cJ3_checkIndex_8e157 0 = .ok (.iload_n 0, 1) := by decide +kernel
theorem dJ3_checkIndex_8e157_1 : decode cJ3_checkIndex_8e157 1 = .ok (.ifCond .lt 8, 3) := by decide +kernel
theorem dJ3_checkIndex_8e157_4 : decode cJ3_checkIndex_8e157 4 = .ok (.iload_n 0, 1) := by decide +kernel
theorem dJ3_checkIndex_8e157_5 : decode cJ3_checkIndex_8e157 5 = .ok (.iload_n 1, 1) := by decide +kernel
theorem dJ3_checkIndex_8e157_6 : decode cJ3_checkIndex_8e157 6 = .ok (.if_icmp .lt 10, 3) := by decide +kernel
theorem dJ3_checkIndex_8e157_9 : decode cJ3_checkIndex_8e157 9 = .ok (.aload_n 2, 1) := by decide +kernel
theorem dJ3_checkIndex_8e157_10 : decode cJ3_checkIndex_8e157 10 = .ok (.iload_n 0, 1) := by decide +kernel
theorem dJ3_checkIndex_8e157_11 : decode cJ3_checkIndex_8e157 11 = .ok (.iload_n 1, 1) := by decide +kernel
theorem dJ3_checkIndex_8e157_12 : decode cJ3_checkIndex_8e157 12 = .ok (.invokestatic 95, 3) := by decide +kernel
theorem dJ3_checkIndex_8e157_15 : decode cJ3_checkIndex_8e157 15 = .ok (.athrow, 1) := by decide +kernel
theorem dJ3_checkIndex_8e157_16 : decode cJ3_checkIndex_8e157 16 = .ok (.iload_n 0, 1) := by decide +kernel
theorem dJ3_checkIndex_8e157_17 : decode cJ3_checkIndex_8e157 17 = .ok (.ireturn, 1) := by decide +kernel
set_option maxRecDepth 20000 in
theorem ggL_type_X10_type : GoodIn wsL_type wsX10_type := goodIn_ca (goodIn_r _ [6, 7, 8, 9, 10, 11, 12, 13, 14, 15, 16, 17, 18, 19, 20, 21, 22, 23, 24, 25, 26, 27, 28, 29, 30, 31, 32, 33, 34] (by decide +kernel) (by decide +kernel)) (goodIn_sub (fun _ h => List.mem_cons_of_mem _ (List.mem_append_right _ h)) (by decide +kernel))
