theorem dL_isAhead_36 : decode cL_isAhead 36 = .ok (.aload_n 2, 1) := by decide +kernel
theorem dL_isAhead_37 : decode cL_isAhead 37 = .ok (.iconst 1, 1) := by decide +kernel
theorem dL_isAhead_38 : decode cL_isAhead 38 = .ok (.aaload, 1) := by decide +kernel
theorem dL_isAhead_39 : decode cL_isAhead 39 = .ok (.iload_n 3, 1) := by decide +kernel
theorem dL_isAhead_40 : decode cL_isAhead 40 = .ok (.iaload, 1) := by decide +kernel
theorem dL_isAhead_41 : decode cL_isAhead 41 = .ok (.if_icmp .ge 7, 3) := by decide +kernel
theorem dL_isAhead_44 : decode cL_isAhead 44 = .ok (.iconst 1, 1) := by decide +kernel
theorem dL_isAhead_45 : decode cL_isAhead 45 = .ok (.goto 4, 3) := by decide +kernel
theorem dL_isAhead_48 : decode cL_isAhead 48 = .ok (.iconst 0, 1) := by decide +kernel
theorem dL_isAhead_49 : decode cL_isAhead 49 = .ok (.ireturn, 1) := by decide +kernel
theorem dL_isAhead_50 : decode cL_isAhead 50 = .ok (.aload_n 0, 1) := by decide +kernel
theorem dL_isAhead_51 : decode cL_isAhead 51 = .ok (.iconst 0, 1) := by decide +kernel
theorem dL_isAhead_52 : decode cL_isAhead 52 = .ok (.aaload, 1) := by decide +kernel
theorem dL_isAhead_53 : decode cL_isAhead 53 = .ok (.iload_n 1, 1) := by decide +kernel
theorem dL_isAhead_54 : decode cL_isAhead 54 = .ok (.iaload, 1) := by decide +kernel
theorem dL_isAhead_55 : decode cL_isAhead 55 = .ok (.aload_n 2, 1) := by decide +kernel
theorem dL_isAhead_56 : decode cL_isAhead 56 = .ok (.iconst 0, 1) := by decide +kernel
theorem dL_isAhead_57 : decode cL_isAhead 57 = .ok (.aaload, 1) := by decide +kernel
theorem dL_isAhead_58 : decode cL_isAhead 58 = .ok (.iload_n 3, 1) := by decide +kernel
theorem dL_isAhead_59 : decode cL_isAhead 59 = .ok (.iaload, 1) := by decide +kernel
theorem dL_isAhead_60 : decode cL_isAhead 60 = .ok (.if_icmp .lt 35, 3) := by decide +kernel
theorem dL_isAhead_63 : decode cL_isAhead 63 = .ok (.iload 4, 2) := by decide +kernel
theorem dL_isAhead_65 : decode cL_isAhead 65 = .ok (.iconst 3, 1) := by decide +kernel
theorem dL_isAhead_66 : decode cL_isAhead 66 = .ok (.if_icmp .ne 33, 3) := by decide +kernel
theorem dL_isAhead_69 : decode cL_isAhead 69 = .ok (.aload_n 0, 1) := by decide +kernel
theorem dL_isAhead_70 : decode cL_isAhead 70 = .ok (.iconst 0, 1) := by decide +kernel
theorem dL_isAhead_71 : decode cL_isAhead 71 = .ok (.aaload, 1) := by decide +kernel
theorem dL_isAhead_72 : decode cL_isAhead 72 = .ok (.iload_n 1, 1) := by decide +kernel
theorem dL_isAhead_73 : decode cL_isAhead 73 = .ok (.iaload, 1) := by decide +kernel
theorem dL_isAhead_74 : decode cL_isAhead 74 = .ok (.aload_n 2, 1) := by decide +kernel
theorem dL_isAhead_75 : decode cL_isAhead 75 = .ok (.iconst 0, 1) := by decide +kernel
theorem dL_isAhead_76 : decode cL_isAhead 76 = .ok (.aaload, 1) := by decide +kernel
theorem dL_isAhead_77 : decode cL_isAhead 77 = .ok (.iload_n 3, 1) := by decide +kernel
theorem dL_isAhead_78 : decode cL_isAhead 78 = .ok (.iaload, 1) := by decide +kernel
theorem dL_isAhead_79 : decode cL_isAhead 79 = .ok (.if_icmp .ne 20, 3) := by decide +kernel
theorem dL_isAhead_82 : decode cL_isAhead 82 = .ok (.aload_n 0, 1) := by decide +kernel
theorem dL_isAhead_83 : decode cL_isAhead 83 = .ok (.iconst 1, 1) := by decide +kernel
theorem dL_isAhead_84 : decode cL_isAhead 84 = .ok (.aaload, 1) := by decide +kernel
theorem dL_isAhead_85 : decode cL_isAhead 85 = .ok (.iload_n 1, 1) := by decide +kernel
theorem dL_isAhead_86 : decode cL_isAhead 86 = .ok (.iaload, 1) := by decide +kernel
theorem dL_isAhead_87 : decode cL_isAhead 87 = .ok (.aload_n 2, 1) := by decide +kernel
theorem dL_isAhead_88 : decode cL_isAhead 88 = .ok (.iconst 1, 1) := by decide +kernel
theorem dL_isAhead_89 : decode cL_isAhead 89 = .ok (.aaload, 1) := by decide +kernel
theorem dL_isAhead_90 : decode cL_isAhead 90 = .ok (.iload_n 3, 1) := by decide +kernel
theorem dL_isAhead_91 : decode cL_isAhead 91 = .ok (.iaload, 1) := by decide +kernel
theorem dL_isAhead_92 : decode cL_isAhead 92 = .ok (.if_icmp .ge 7, 3) := by decide +kernel
theorem dL_isAhead_95 : decode cL_isAhead 95 = .ok (.iconst 1, 1) := by decide +kernel
theorem dL_isAhead_96 : decode cL_isAhead 96 = .ok (.goto 4, 3) := by decide +kernel
theorem dL_isAhead_99 : decode cL_isAhead 99 = .ok (.iconst 0, 1) := by decide +kernel
theorem dL_isAhead_100 : decode cL_isAhead 100 = .ok (.ireturn, 1) := by decide +kernel
set_option maxRecDepth 20000 in
theorem ggL_due_L_isAhead : GoodIn wsL_due wsL_isAhead := goodIn_r _ [4] (by decide +kernel) (by decide +kernel)
set_option maxRecDepth 20000 in
theorem gL_due_L_isAhead : GoodIn wsL_due (va_wsS RL 149 yL_isAhead wsL_isAhead) := goodIn_app (goodIn_of _ (by decide +kernel)) ggL_due_L_isAhead
set_option maxRecDepth 20000 in
theorem ggL_due_L_copies : GoodIn wsL_due wsL_copies := goodIn_r _ [7] (by decide +kernel) (by decide +kernel)
set_option maxRecDepth 20000 in
theorem gL_due_L_copies : GoodIn wsL_due (va_wsS RL 153 yL_copies wsL_copies) := goodIn_app (goodIn_of _ (by decide +kernel)) ggL_due_L_copies
theorem dL_due_0 : decode cL_due 0 = .ok (.iconst 0, 1) := by decide +kernel
theorem dL_due_1 : decode cL_due 1 = .ok (.istore 6, 2) := by decide +kernel
theorem dL_due_3 : decode cL_due 3 = .ok (.iload_n 1, 1) := by decide +kernel
theorem dL_due_4 : decode cL_due 4 = .ok (.istore 7, 2) := by decide +kernel
theorem dL_due_6 : decode cL_due 6 = .ok (.iload 7, 2) := by decide +kernel
theorem dL_due_8 : decode cL_due 8 = .ok (.iload_n 2, 1) := by decide +kernel
theorem dL_due_9 : decode cL_due 9 = .ok (.if_icmp .ge 15, 3) := by decide +kernel
theorem dL_due_12 : decode cL_due 12 = .ok (.aload 5, 2) := by decide +kernel
theorem dL_due_14 : decode cL_due 14 = .ok (.iload 7, 2) := by decide +kernel
theorem dL_due_16 : decode cL_due 16 = .ok (.iconst 0, 1) := by decide +kernel
theorem dL_due_17 : decode cL_due 17 = .ok (.bastore, 1) := by decide +kernel
theorem dL_due_18 : decode cL_due 18 = .ok (.iinc 7 1, 3) := by decide +kernel
theorem dL_due_21 : decode cL_due 21 = .ok (.goto (-15), 3) := by decide +kernel
theorem dL_due_24 : decode cL_due 24 = .ok (.iload_n 1, 1) := by decide +kernel
theorem dL_due_25 : decode cL_due 25 = .ok (.istore 7, 2) := by decide +kernel
theorem dL_due_27 : decode cL_due 27 = .ok (.iload 7, 2) := by decide +kernel
theorem dL_due_29 : decode cL_due 29 = .ok (.iload_n 2, 1) := by decide +kernel
theorem dL_due_30 : decode cL_due 30 = .ok (.if_icmp .ge 98, 3) := by decide +kernel
theorem dL_due_33 : decode cL_due 33 = .ok (.iconst (-1), 1) := by decide +kernel
theorem dL_due_34 : decode cL_due 34 = .ok (.istore 8, 2) := by decide +kernel
theorem dL_due_36 : decode cL_due 36 = .ok (.iload_n 1, 1) := by decide +kernel
theorem dL_due_37 : decode cL_due 37 = .ok (.istore 9, 2) := by decide +kernel
theorem dL_due_39 : decode cL_due 39 = .ok (.iload 9, 2) := by decide +kernel
theorem dL_due_41 : decode cL_due 41 = .ok (.iload_n 2, 1) := by decide +kernel
theorem dL_due_42 : decode cL_due 42 = .ok (.if_icmp .ge 39, 3) := by decide +kernel
theorem dL_due_45 : decode cL_due 45 = .ok (.aload 5, 2) := by decide +kernel
theorem dL_due_47 : decode cL_due 47 = .ok (.iload 9, 2) := by decide +kernel
theorem dL_due_49 : decode cL_due 49 = .ok (.baload, 1) := by decide +kernel
theorem dL_due_50 : decode cL_due 50 = .ok (.ifCond .ne 25, 3) := by decide +kernel
theorem dL_due_53 : decode cL_due 53 = .ok (.iload 8, 2) := by decide +kernel
theorem dL_due_55 : decode cL_due 55 = .ok (.ifCond .lt 16, 3) := by decide +kernel
theorem dL_due_58 : decode cL_due 58 = .ok (.aload_n 0, 1) := by decide +kernel
theorem dL_due_59 : decode cL_due 59 = .ok (.iload 9, 2) := by decide +kernel
theorem dL_due_61 : decode cL_due 61 = .ok (.aload_n 0, 1) := by decide +kernel
theorem dL_due_62 : decode cL_due 62 = .ok (.iload 8, 2) := by decide +kernel
theorem dL_due_64 : decode cL_due 64 = .ok (.iload_n 3, 1) := by decide +kernel
theorem dL_due_65 : decode cL_due 65 = .ok (.invokestatic 149, 3) := by decide +kernel
theorem dL_due_68 : decode cL_due 68 = .ok (.ifCond .eq 7, 3) := by decide +kernel
theorem dL_due_71 : decode cL_due 71 = .ok (.iload 9, 2) := by decide +kernel
theorem dL_due_73 : decode cL_due 73 = .ok (.istore 8, 2) := by decide +kernel
theorem dL_due_75 : decode cL_due 75 = .ok (.iinc 9 1, 3) := by decide +kernel
theorem dL_due_78 : decode cL_due 78 = .ok (.goto (-39), 3) := by decide +kernel
theorem dL_due_81 : decode cL_due 81 = .ok (.aload 5, 2) := by decide +kernel
theorem dL_due_83 : decode cL_due 83 = .ok (.iload 8, 2) := by decide +kernel
theorem dL_due_85 : decode cL_due 85 = .ok (.iconst 1, 1) := by decide +kernel
theorem dL_due_86 : decode cL_due 86 = .ok (.bastore, 1) := by decide +kernel
theorem dL_due_87 : decode cL_due 87 = .ok (.aload_n 0, 1) := by decide +kernel
theorem dL_due_88 : decode cL_due 88 = .ok (.iload 8, 2) := by decide +kernel
theorem dL_due_90 : decode cL_due 90 = .ok (.aload 4, 2) := by decide +kernel
theorem dL_due_92 : decode cL_due 92 = .ok (.iload 7, 2) := by decide +kernel
theorem dL_due_94 : decode cL_due 94 = .ok (.invokestatic 153, 3) := by decide +kernel
theorem dL_due_97 : decode cL_due 97 = .ok (.iload 6, 2) := by decide +kernel
theorem dL_due_99 : decode cL_due 99 = .ok (.aload_n 0, 1) := by decide +kernel
theorem dL_due_100 : decode cL_due 100 = .ok (.iconst 2, 1) := by decide +kernel
theorem dL_due_101 : decode cL_due 101 = .ok (.aaload, 1) := by decide +kernel
theorem dL_due_102 : decode cL_due 102 = .ok (.iload 8, 2) := by decide +kernel
theorem dL_due_104 : decode cL_due 104 = .ok (.iaload, 1) := by decide +kernel
theorem dL_due_105 : decode cL_due 105 = .ok (.aload_n 0, 1) := by decide +kernel
theorem dL_due_106 : decode cL_due 106 = .ok (.iconst 2, 1) := by decide +kernel
theorem dL_due_107 : decode cL_due 107 = .ok (.aaload, 1) := by decide +kernel
theorem dL_due_108 : decode cL_due 108 = .ok (.iload 7, 2) := by decide +kernel
theorem dL_due_110 : decode cL_due 110 = .ok (.iaload, 1) := by decide +kernel
theorem dL_due_111 : decode cL_due 111 = .ok (.if_icmp .ne 7, 3) := by decide +kernel
theorem dL_due_114 : decode cL_due 114 = .ok (.iconst 0, 1) := by decide +kernel
theorem dL_due_115 : decode cL_due 115 = .ok (.goto 4, 3) := by decide +kernel
theorem dL_due_118 : decode cL_due 118 = .ok (.iconst 1, 1) := by decide +kernel
theorem dL_due_119 : decode cL_due 119 = .ok (.iadd, 1) := by decide +kernel
theorem dL_due_120 : decode cL_due 120 = .ok (.istore 6, 2) := by decide +kernel
theorem dL_due_122 : decode cL_due 122 = .ok (.iinc 7 1, 3) := by decide +kernel
theorem dL_due_125 : decode cL_due 125 = .ok (.goto (-98), 3) := by decide +kernel
theorem dL_due_128 : decode cL_due 128 = .ok (.iload 6, 2) := by decide +kernel
theorem dL_due_130 : decode cL_due 130 = .ok (.ireturn, 1) := by decide +kernel
theorem dL_sorts_0 : decode cL_sorts 0 = .ok (.aload_n 0, 1) := by decide +kernel
theorem dL_sorts_1 : decode cL_sorts 1 = .ok (.iload_n 2, 1) := by decide +kernel
theorem dL_sorts_2 : decode cL_sorts 2 = .ok (.aload 4, 2) := by decide +kernel
theorem dL_sorts_4 : decode cL_sorts 4 = .ok (.invokestatic 157, 3) := by decide +kernel
theorem dL_sorts_7 : decode cL_sorts 7 = .ok (.istore 8, 2) := by decide +kernel
theorem dL_sorts_9 : decode cL_sorts 9 = .ok (.iload_n 3, 1) := by decide +kernel
theorem dL_sorts_10 : decode cL_sorts 10 = .ok (.iconst 2, 1) := by decide +kernel
theorem dL_sorts_11 : decode cL_sorts 11 = .ok (.if_icmp .eq 8, 3) := by decide +kernel
theorem dL_sorts_14 : decode cL_sorts 14 = .ok (.iload_n 3, 1) := by decide +kernel
theorem dL_sorts_15 : decode cL_sorts 15 = .ok (.iconst 3, 1) := by decide +kernel
theorem dL_sorts_16 : decode cL_sorts 16 = .ok (.if_icmp .ne 7, 3) := by decide +kernel
theorem dL_sorts_19 : decode cL_sorts 19 = .ok (.iconst 1, 1) := by decide +kernel
theorem dL_sorts_20 : decode cL_sorts 20 = .ok (.goto 4, 3) := by decide +kernel
theorem dL_sorts_23 : decode cL_sorts 23 = .ok (.iconst 0, 1) := by decide +kernel
theorem dL_sorts_24 : decode cL_sorts 24 = .ok (.istore 9, 2) := by decide +kernel
theorem dL_sorts_26 : decode cL_sorts 26 = .ok (.iload 9, 2) := by decide +kernel
theorem dL_sorts_28 : decode cL_sorts 28 = .ok (.ifCond .eq 15, 3) := by decide +kernel
theorem dL_sorts_31 : decode cL_sorts 31 = .ok (.aload_n 1, 1) := by decide +kernel
theorem dL_sorts_32 : decode cL_sorts 32 = .ok (.invokestatic 8, 3) := by decide +kernel
theorem dL_sorts_35 : decode cL_sorts 35 = .ok (.iload 8, 2) := by decide +kernel
theorem dL_sorts_37 : decode cL_sorts 37 = .ok (.iconst 1, 1) := by decide +kernel
theorem dL_sorts_38 : decode cL_sorts 38 = .ok (.iadd, 1) := by decide +kernel
theorem dL_sorts_39 : decode cL_sorts 39 = .ok (.irem, 1) := by decide +kernel
theorem dL_sorts_40 : decode cL_sorts 40 = .ok (.goto 4, 3) := by decide +kernel
theorem dL_sorts_43 : decode cL_sorts 43 = .ok (.iconst 0, 1) := by decide +kernel
theorem dL_sorts_44 : decode cL_sorts 44 = .ok (.istore 10, 2) := by decide +kernel
theorem dL_sorts_46 : decode cL_sorts 46 = .ok (.iload 9, 2) := by decide +kernel
theorem dL_sorts_48 : decode cL_sorts 48 = .ok (.ifCond .eq 33, 3) := by decide +kernel
theorem dL_sorts_51 : decode cL_sorts 51 = .ok (.iload 8, 2) := by decide +kernel
theorem dL_sorts_53 : decode cL_sorts 53 = .ok (.iload 10, 2) := by decide +kernel
theorem dL_sorts_55 : decode cL_sorts 55 = .ok (.aload_n 1, 1) := by decide +kernel
theorem dL_sorts_56 : decode cL_sorts 56 = .ok (.invokestatic 8, 3) := by decide +kernel
theorem dL_sorts_59 : decode cL_sorts 59 = .ok (.iload_n 3, 1) := by decide +kernel
theorem dL_sorts_60 : decode cL_sorts 60 = .ok (.iconst 3, 1) := by decide +kernel
theorem dL_sorts_61 : decode cL_sorts 61 = .ok (.if_icmp .ne 8, 3) := by decide +kernel
theorem dL_sorts_64 : decode cL_sorts 64 = .ok (.bipush 32, 2) := by decide +kernel
theorem dL_sorts_66 : decode cL_sorts 66 = .ok (.goto 7, 3) := by decide +kernel
theorem dL_sorts_69 : decode cL_sorts 69 = .ok (.iload 8, 2) := by decide +kernel
theorem dL_sorts_71 : decode cL_sorts 71 = .ok (.iconst 1, 1) := by decide +kernel
theorem dL_sorts_72 : decode cL_sorts 72 = .ok (.iadd, 1) := by decide +kernel
theorem dL_sorts_73 : decode cL_sorts 73 = .ok (.irem, 1) := by decide +kernel
theorem dL_sorts_74 : decode cL_sorts 74 = .ok (.iadd, 1) := by decide +kernel
theorem dL_sorts_75 : decode cL_sorts 75 = .ok (.invokestatic 161, 3) := by decide +kernel
theorem dL_sorts_78 : decode cL_sorts 78 = .ok (.goto 5, 3) := by decide +kernel
theorem dL_sorts_81 : decode cL_sorts 81 = .ok (.iload 8, 2) := by decide +kernel
theorem dL_sorts_83 : decode cL_sorts 83 = .ok (.istore 11, 2) := by decide +kernel
theorem dL_sorts_85 : decode cL_sorts 85 = .ok (.iload_n 3, 1) := by decide +kernel
theorem dL_sorts_86 : decode cL_sorts 86 = .ok (.iconst 3, 1) := by decide +kernel
theorem dL_sorts_87 : decode cL_sorts 87 = .ok (.if_icmp .ne 7, 3) := by decide +kernel
theorem dL_sorts_90 : decode cL_sorts 90 = .ok (.iconst 1, 1) := by decide +kernel
theorem dL_sorts_91 : decode cL_sorts 91 = .ok (.goto 22, 3) := by decide +kernel
theorem dL_sorts_94 : decode cL_sorts 94 = .ok (.iload_n 3, 1) := by decide +kernel
theorem dL_sorts_95 : decode cL_sorts 95 = .ok (.iconst 4, 1) := by decide +kernel
theorem dL_sorts_96 : decode cL_sorts 96 = .ok (.if_icmp .ne 7, 3) := by decide +kernel
theorem dL_sorts_99 : decode cL_sorts 99 = .ok (.iconst 2, 1) := by decide +kernel
theorem dL_sorts_100 : decode cL_sorts 100 = .ok (.goto 13, 3) := by decide +kernel
theorem dL_sorts_103 : decode cL_sorts 103 = .ok (.iload_n 3, 1) := by decide +kernel
theorem dL_sorts_104 : decode cL_sorts 104 = .ok (.iconst 5, 1) := by decide +kernel
theorem dL_sorts_105 : decode cL_sorts 105 = .ok (.if_icmp .ne 7, 3) := by decide +kernel
theorem dL_sorts_108 : decode cL_sorts 108 = .ok (.iconst 3, 1) := by decide +kernel
theorem dL_sorts_109 : decode cL_sorts 109 = .ok (.goto 4, 3) := by decide +kernel
theorem dL_sorts_112 : decode cL_sorts 112 = .ok (.iconst 0, 1) := by decide +kernel
theorem dL_sorts_113 : decode cL_sorts 113 = .ok (.istore 12, 2) := by decide +kernel
theorem dL_sorts_115 : decode cL_sorts 115 = .ok (.iconst 0, 1) := by decide +kernel
theorem dL_sorts_116 : decode cL_sorts 116 = .ok (.istore 13, 2) := by decide +kernel
theorem dL_sorts_118 : decode cL_sorts 118 = .ok (.iload 13, 2) := by decide +kernel
theorem dL_sorts_120 : decode cL_sorts 120 = .ok (.iload 8, 2) := by decide +kernel
theorem dL_sorts_122 : decode cL_sorts 122 = .ok (.if_icmp .ge 20, 3) := by decide +kernel
theorem dL_sorts_125 : decode cL_sorts 125 = .ok (.aload 4, 2) := by decide +kernel
theorem dL_sorts_127 : decode cL_sorts 127 = .ok (.iload 13, 2) := by decide +kernel
theorem dL_sorts_129 : decode cL_sorts 129 = .ok (.aload 5, 2) := by decide +kernel
theorem dL_sorts_131 : decode cL_sorts 131 = .ok (.iload 13, 2) := by decide +kernel
theorem dL_sorts_133 : decode cL_sorts 133 = .ok (.invokestatic 153, 3) := by decide +kernel
theorem dL_sorts_136 : decode cL_sorts 136 = .ok (.iinc 13 1, 3) := by decide +kernel
theorem dL_sorts_139 : decode cL_sorts 139 = .ok (.goto (-21), 3) := by decide +kernel
theorem dL_sorts_142 : decode cL_sorts 142 = .ok (.aload 4, 2) := by decide +kernel
theorem dL_sorts_144 : decode cL_sorts 144 = .ok (.iload 10, 2) := by decide +kernel
theorem dL_sorts_146 : decode cL_sorts 146 = .ok (.iload 11, 2) := by decide +kernel
theorem dL_sorts_148 : decode cL_sorts 148 = .ok (.iload 12, 2) := by decide +kernel
theorem dL_sorts_150 : decode cL_sorts 150 = .ok (.aload 5, 2) := by decide +kernel
theorem dL_sorts_152 : decode cL_sorts 152 = .ok (.aload 7, 2) := by decide +kernel
theorem dL_sorts_154 : decode cL_sorts 154 = .ok (.invokestatic 166, 3) := by decide +kernel
theorem dL_sorts_157 : decode cL_sorts 157 = .ok (.istore 13, 2) := by decide +kernel
theorem dL_sorts_159 : decode cL_sorts 159 = .ok (.aload_n 0, 1) := by decide +kernel
theorem dL_sorts_160 : decode cL_sorts 160 = .ok (.iload_n 3, 1) := by decide +kernel
theorem dL_sorts_161 : decode cL_sorts 161 = .ok (.iload_n 2, 1) := by decide +kernel
theorem dL_sorts_162 : decode cL_sorts 162 = .ok (.iload 10, 2) := by decide +kernel
theorem dL_sorts_164 : decode cL_sorts 164 = .ok (.iload 11, 2) := by decide +kernel
theorem dL_sorts_166 : decode cL_sorts 166 = .ok (.invokestatic 170, 3) := by decide +kernel
theorem dL_sorts_169 : decode cL_sorts 169 = .ok (.iload 13, 2) := by decide +kernel
theorem dL_sorts_171 : decode cL_sorts 171 = .ok (.if_icmp .ne 68, 3) := by decide +kernel
theorem dL_sorts_174 : decode cL_sorts 174 = .ok (.aload_n 0, 1) := by decide +kernel
theorem dL_sorts_175 : decode cL_sorts 175 = .ok (.iload_n 2, 1) := by decide +kernel
theorem dL_sorts_176 : decode cL_sorts 176 = .ok (.aload 6, 2) := by decide +kernel
theorem dL_sorts_178 : decode cL_sorts 178 = .ok (.invokestatic 157, 3) := by decide +kernel
theorem dL_sorts_181 : decode cL_sorts 181 = .ok (.iload 8, 2) := by decide +kernel
theorem dL_sorts_183 : decode cL_sorts 183 = .ok (.if_icmp .ne 56, 3) := by decide +kernel
theorem dL_sorts_186 : decode cL_sorts 186 = .ok (.aload 5, 2) := by decide +kernel
theorem dL_sorts_188 : decode cL_sorts 188 = .ok (.aload 6, 2) := by decide +kernel
theorem dL_sorts_190 : decode cL_sorts 190 = .ok (.iload 8, 2) := by decide +kernel
theorem dL_sorts_192 : decode cL_sorts 192 = .ok (.invokestatic 174, 3) := by decide +kernel
theorem dL_sorts_195 : decode cL_sorts 195 = .ok (.ifCond .eq 44, 3) := by decide +kernel
theorem dL_sorts_198 : decode cL_sorts 198 = .ok (.aload_n 0, 1) := by decide +kernel
theorem dL_sorts_199 : decode cL_sorts 199 = .ok (.iload_n 3, 1) := by decide +kernel
theorem dL_sorts_200 : decode cL_sorts 200 = .ok (.iload_n 2, 1) := by decide +kernel
theorem dL_sorts_201 : decode cL_sorts 201 = .ok (.iload 10, 2) := by decide +kernel
theorem dL_sorts_203 : decode cL_sorts 203 = .ok (.iload 11, 2) := by decide +kernel
theorem dL_sorts_205 : decode cL_sorts 205 = .ok (.invokestatic 170, 3) := by decide +kernel
theorem dL_sorts_208 : decode cL_sorts 208 = .ok (.ifCond .ne 31, 3) := by decide +kernel
theorem dL_sorts_211 : decode cL_sorts 211 = .ok (.aload_n 0, 1) := by decide +kernel
theorem dL_sorts_212 : decode cL_sorts 212 = .ok (.iload_n 2, 1) := by decide +kernel
theorem dL_sorts_213 : decode cL_sorts 213 = .ok (.aload 6, 2) := by decide +kernel
theorem dL_sorts_215 : decode cL_sorts 215 = .ok (.invokestatic 157, 3) := by decide +kernel
theorem dL_sorts_218 : decode cL_sorts 218 = .ok (.iload 8, 2) := by decide +kernel
theorem dL_sorts_220 : decode cL_sorts 220 = .ok (.if_icmp .ne 19, 3) := by decide +kernel
theorem dL_sorts_223 : decode cL_sorts 223 = .ok (.aload 5, 2) := by decide +kernel
theorem dL_sorts_225 : decode cL_sorts 225 = .ok (.aload 6, 2) := by decide +kernel
theorem dL_sorts_227 : decode cL_sorts 227 = .ok (.iload 8, 2) := by decide +kernel
theorem dL_sorts_229 : decode cL_sorts 229 = .ok (.invokestatic 174, 3) := by decide +kernel
theorem dL_sorts_232 : decode cL_sorts 232 = .ok (.ifCond .eq 7, 3) := by decide +kernel
theorem dL_sorts_235 : decode cL_sorts 235 = .ok (.iconst 1, 1) := by decide +kernel
theorem dL_sorts_236 : decode cL_sorts 236 = .ok (.goto 4, 3) := by decide +kernel
theorem dL_sorts_239 : decode cL_sorts 239 = .ok (.iconst 0, 1) := by decide +kernel
theorem dL_sorts_240 : decode cL_sorts 240 = .ok (.istore 14, 2) := by decide +kernel
theorem dL_sorts_242 : decode cL_sorts 242 = .ok (.iload 14, 2) := by decide +kernel
theorem dL_sorts_244 : decode cL_sorts 244 = .ok (.ifCond .eq 78, 3) := by decide +kernel
theorem dL_sorts_247 : decode cL_sorts 247 = .ok (.iload_n 3, 1) := by decide +kernel
theorem dL_sorts_248 : decode cL_sorts 248 = .ok (.iconst 1, 1) := by decide +kernel
theorem dL_sorts_249 : decode cL_sorts 249 = .ok (.if_icmp .ne 73, 3) := by decide +kernel
theorem dL_sorts_252 : decode cL_sorts 252 = .ok (.iload 8, 2) := by decide +kernel
theorem dL_sorts_254 : decode cL_sorts 254 = .ok (.ifCond .le 68, 3) := by decide +kernel
theorem dL_sorts_257 : decode cL_sorts 257 = .ok (.aload_n 0, 1) := by decide +kernel
theorem dL_sorts_258 : decode cL_sorts 258 = .ok (.iload_n 2, 1) := by decide +kernel
theorem dL_sorts_259 : decode cL_sorts 259 = .ok (.invokevirtual 178, 3) := by decide +kernel
theorem dL_sorts_262 : decode cL_sorts 262 = .ok (.ifCond .eq 57, 3) := by decide +kernel
theorem dL_sorts_265 : decode cL_sorts 265 = .ok (.aload_n 0, 1) := by decide +kernel
theorem dL_sorts_266 : decode cL_sorts 266 = .ok (.iload_n 2, 1) := by decide +kernel
theorem dL_sorts_267 : decode cL_sorts 267 = .ok (.invokevirtual 182, 3) := by decide +kernel
theorem dL_sorts_270 : decode cL_sorts 270 = .ok (.iconst 1, 1) := by decide +kernel
theorem dL_sorts_271 : decode cL_sorts 271 = .ok (.if_icmp .ne 48, 3) := by decide +kernel
theorem dL_sorts_274 : decode cL_sorts 274 = .ok (.aload_n 0, 1) := by decide +kernel
theorem dL_sorts_275 : decode cL_sorts 275 = .ok (.iload_n 2, 1) := by decide +kernel
theorem dL_sorts_276 : decode cL_sorts 276 = .ok (.invokevirtual 185, 3) := by decide +kernel
theorem dL_sorts_279 : decode cL_sorts 279 = .ok (.iload 8, 2) := by decide +kernel
theorem dL_sorts_281 : decode cL_sorts 281 = .ok (.if_icmp .ne 38, 3) := by decide +kernel
theorem dL_sorts_284 : decode cL_sorts 284 = .ok (.aload_n 0, 1) := by decide +kernel
theorem dL_sorts_285 : decode cL_sorts 285 = .ok (.iload_n 2, 1) := by decide +kernel
theorem dL_sorts_286 : decode cL_sorts 286 = .ok (.invokevirtual 188, 3) := by decide +kernel
theorem dL_sorts_289 : decode cL_sorts 289 = .ok (.ifCond .ne 30, 3) := by decide +kernel
theorem dL_sorts_292 : decode cL_sorts 292 = .ok (.aload_n 0, 1) := by decide +kernel
theorem dL_sorts_293 : decode cL_sorts 293 = .ok (.bipush 15, 2) := by decide +kernel
theorem dL_sorts_295 : decode cL_sorts 295 = .ok (.iload_n 2, 1) := by decide +kernel
theorem dL_sorts_296 : decode cL_sorts 296 = .ok (.iconst 0, 1) := by decide +kernel
theorem dL_sorts_297 : decode cL_sorts 297 = .ok (.iconst 0, 1) := by decide +kernel
theorem dL_sorts_298 : decode cL_sorts 298 = .ok (.invokestatic 170, 3) := by decide +kernel
theorem dL_sorts_301 : decode cL_sorts 301 = .ok (.aload 5, 2) := by decide +kernel
theorem dL_sorts_303 : decode cL_sorts 303 = .ok (.iconst 0, 1) := by decide +kernel
theorem dL_sorts_304 : decode cL_sorts 304 = .ok (.aaload, 1) := by decide +kernel
theorem dL_sorts_305 : decode cL_sorts 305 = .ok (.iload 8, 2) := by decide +kernel
theorem dL_sorts_307 : decode cL_sorts 307 = .ok (.iconst 1, 1) := by decide +kernel
theorem dL_sorts_308 : decode cL_sorts 308 = .ok (.isub, 1) := by decide +kernel
theorem dL_sorts_309 : decode cL_sorts 309 = .ok (.iconst 2, 1) := by decide +kernel
theorem dL_sorts_310 : decode cL_sorts 310 = .ok (.idiv, 1) := by decide +kernel
theorem dL_sorts_311 : decode cL_sorts 311 = .ok (.iaload, 1) := by decide +kernel
theorem dL_sorts_312 : decode cL_sorts 312 = .ok (.if_icmp .ne 7, 3) := by decide +kernel
theorem dL_sorts_315 : decode cL_sorts 315 = .ok (.iconst 1, 1) := by decide +kernel
theorem dL_sorts_316 : decode cL_sorts 316 = .ok (.goto 4, 3) := by decide +kernel
theorem dL_sorts_319 : decode cL_sorts 319 = .ok (.iconst 0, 1) := by decide +kernel
theorem dL_sorts_320 : decode cL_sorts 320 = .ok (.istore 14, 2) := by decide +kernel
theorem dL_sorts_322 : decode cL_sorts 322 = .ok (.iload 14, 2) := by decide +kernel
theorem dL_sorts_324 : decode cL_sorts 324 = .ok (.ireturn, 1) := by decide +kernel
theorem dL_isBoth_0 : decode cL_isBoth 0 = .ok (.aload_n 0, 1) := by decide +kernel
theorem dL_isBoth_1 : decode cL_isBoth 1 = .ok (.iload_n 1, 1) := by decide +kernel
theorem dL_isBoth_2 : decode cL_isBoth 2 = .ok (.aload_n 2, 1) := by decide +kernel
theorem dL_isBoth_3 : decode cL_isBoth 3 = .ok (.invokestatic 157, 3) := by decide +kernel
theorem dL_isBoth_6 : decode cL_isBoth 6 = .ok (.istore 5, 2) := by decide +kernel
theorem dL_isBoth_8 : decode cL_isBoth 8 = .ok (.aload_n 0, 1) := by decide +kernel
theorem dL_isBoth_9 : decode cL_isBoth 9 = .ok (.bipush 12, 2) := by decide +kernel
theorem dL_isBoth_11 : decode cL_isBoth 11 = .ok (.iload_n 1, 1) := by decide +kernel
theorem dL_isBoth_12 : decode cL_isBoth 12 = .ok (.iconst 0, 1) := by decide +kernel
theorem dL_isBoth_13 : decode cL_isBoth 13 = .ok (.iconst 0, 1) := by decide +kernel
theorem dL_isBoth_14 : decode cL_isBoth 14 = .ok (.invokestatic 170, 3) := by decide +kernel
theorem dL_isBoth_17 : decode cL_isBoth 17 = .ok (.istore 6, 2) := by decide +kernel
theorem dL_isBoth_19 : decode cL_isBoth 19 = .ok (.aload_n 2, 1) := by decide +kernel
theorem dL_isBoth_20 : decode cL_isBoth 20 = .ok (.iconst 0, 1) := by decide +kernel
theorem dL_isBoth_21 : decode cL_isBoth 21 = .ok (.iload 5, 2) := by decide +kernel
theorem dL_isBoth_23 : decode cL_isBoth 23 = .ok (.iconst 3, 1) := by decide +kernel
theorem dL_isBoth_24 : decode cL_isBoth 24 = .ok (.aload_n 3, 1) := by decide +kernel
theorem dL_isBoth_25 : decode cL_isBoth 25 = .ok (.aload 4, 2) := by decide +kernel
theorem dL_isBoth_27 : decode cL_isBoth 27 = .ok (.invokestatic 166, 3) := by decide +kernel
theorem dL_isBoth_30 : decode cL_isBoth 30 = .ok (.istore 7, 2) := by decide +kernel
theorem dL_isBoth_32 : decode cL_isBoth 32 = .ok (.iload 6, 2) := by decide +kernel
theorem dL_isBoth_34 : decode cL_isBoth 34 = .ok (.iload 5, 2) := by decide +kernel
theorem dL_isBoth_36 : decode cL_isBoth 36 = .ok (.if_icmp .ne 29, 3) := by decide +kernel
theorem dL_isBoth_39 : decode cL_isBoth 39 = .ok (.aload_n 0, 1) := by decide +kernel
theorem dL_isBoth_40 : decode cL_isBoth 40 = .ok (.iconst 4, 1) := by decide +kernel
theorem dL_isBoth_41 : decode cL_isBoth 41 = .ok (.iload_n 1, 1) := by decide +kernel
theorem dL_isBoth_42 : decode cL_isBoth 42 = .ok (.iconst 0, 1) := by decide +kernel
theorem dL_isBoth_43 : decode cL_isBoth 43 = .ok (.iconst 0, 1) := by decide +kernel
theorem dL_isBoth_44 : decode cL_isBoth 44 = .ok (.invokestatic 170, 3) := by decide +kernel
theorem dL_isBoth_47 : decode cL_isBoth 47 = .ok (.ifCond .lt 18, 3) := by decide +kernel
theorem dL_isBoth_50 : decode cL_isBoth 50 = .ok (.aload_n 0, 1) := by decide +kernel
theorem dL_isBoth_51 : decode cL_isBoth 51 = .ok (.iconst 1, 1) := by decide +kernel
theorem dL_isBoth_52 : decode cL_isBoth 52 = .ok (.iload_n 1, 1) := by decide +kernel
theorem dL_isBoth_53 : decode cL_isBoth 53 = .ok (.iconst 0, 1) := by decide +kernel
theorem dL_isBoth_54 : decode cL_isBoth 54 = .ok (.iconst 0, 1) := by decide +kernel
theorem dL_isBoth_55 : decode cL_isBoth 55 = .ok (.invokestatic 170, 3) := by decide +kernel
theorem dL_isBoth_58 : decode cL_isBoth 58 = .ok (.ifCond .lt 7, 3) := by decide +kernel
theorem dL_isBoth_61 : decode cL_isBoth 61 = .ok (.iconst 1, 1) := by decide +kernel
theorem dL_isBoth_62 : decode cL_isBoth 62 = .ok (.goto 4, 3) := by decide +kernel
theorem dL_isBoth_65 : decode cL_isBoth 65 = .ok (.iconst 0, 1) := by decide +kernel
theorem dL_isBoth_66 : decode cL_isBoth 66 = .ok (.istore 8, 2) := by decide +kernel
theorem dL_isBoth_68 : decode cL_isBoth 68 = .ok (.iconst 0, 1) := by decide +kernel
theorem dL_isBoth_69 : decode cL_isBoth 69 = .ok (.istore 9, 2) := by decide +kernel
theorem dL_isBoth_71 : decode cL_isBoth 71 = .ok (.iload 9, 2) := by decide +kernel
theorem dL_isBoth_73 : decode cL_isBoth 73 = .ok (.iload 5, 2) := by decide +kernel
theorem dL_isBoth_75 : decode cL_isBoth 75 = .ok (.if_icmp .ge 38, 3) := by decide +kernel
theorem dL_isBoth_78 : decode cL_isBoth 78 = .ok (.iload 8, 2) := by decide +kernel
theorem dL_isBoth_80 : decode cL_isBoth 80 = .ok (.ifCond .eq 33, 3) := by decide +kernel
theorem dL_isBoth_83 : decode cL_isBoth 83 = .ok (.aload_n 0, 1) := by decide +kernel
theorem dL_isBoth_84 : decode cL_isBoth 84 = .ok (.iload_n 1, 1) := by decide +kernel
theorem dL_isBoth_85 : decode cL_isBoth 85 = .ok (.iload 9, 2) := by decide +kernel
theorem dL_isBoth_87 : decode cL_isBoth 87 = .ok (.iconst 2, 1) := by decide +kernel
theorem dL_isBoth_88 : decode cL_isBoth 88 = .ok (.invokevirtual 133, 3) := by decide +kernel
theorem dL_isBoth_91 : decode cL_isBoth 91 = .ok (.aload_n 3, 1) := by decide +kernel
theorem dL_isBoth_92 : decode cL_isBoth 92 = .ok (.iconst 2, 1) := by decide +kernel
theorem dL_isBoth_93 : decode cL_isBoth 93 = .ok (.aaload, 1) := by decide +kernel
theorem dL_isBoth_94 : decode cL_isBoth 94 = .ok (.iload 9, 2) := by decide +kernel
theorem dL_isBoth_96 : decode cL_isBoth 96 = .ok (.iaload, 1) := by decide +kernel
theorem dL_isBoth_97 : decode cL_isBoth 97 = .ok (.if_icmp .ne 7, 3) := by decide +kernel
theorem dL_isBoth_100 : decode cL_isBoth 100 = .ok (.iconst 1, 1) := by decide +kernel
theorem dL_isBoth_101 : decode cL_isBoth 101 = .ok (.goto 4, 3) := by decide +kernel
theorem dL_isBoth_104 : decode cL_isBoth 104 = .ok (.iconst 0, 1) := by decide +kernel
theorem dL_isBoth_105 : decode cL_isBoth 105 = .ok (.istore 8, 2) := by decide +kernel
theorem dL_isBoth_107 : decode cL_isBoth 107 = .ok (.iinc 9 1, 3) := by decide +kernel
theorem dL_isBoth_110 : decode cL_isBoth 110 = .ok (.goto (-39), 3) := by decide +kernel
theorem dL_isBoth_113 : decode cL_isBoth 113 = .ok (.iload 8, 2) := by decide +kernel
theorem dL_isBoth_115 : decode cL_isBoth 115 = .ok (.ifCond .eq 47, 3) := by decide +kernel
theorem dL_isBoth_118 : decode cL_isBoth 118 = .ok (.aload_n 0, 1) := by decide +kernel
theorem dL_isBoth_119 : decode cL_isBoth 119 = .ok (.iconst 5, 1) := by decide +kernel
theorem dL_isBoth_120 : decode cL_isBoth 120 = .ok (.iload_n 1, 1) := by decide +kernel
theorem dL_isBoth_121 : decode cL_isBoth 121 = .ok (.iconst 0, 1) := by decide +kernel
theorem dL_isBoth_122 : decode cL_isBoth 122 = .ok (.iconst 0, 1) := by decide +kernel
theorem dL_isBoth_123 : decode cL_isBoth 123 = .ok (.invokestatic 170, 3) := by decide +kernel
theorem dL_isBoth_126 : decode cL_isBoth 126 = .ok (.ifCond .ne 36, 3) := by decide +kernel
theorem dL_isBoth_129 : decode cL_isBoth 129 = .ok (.aload_n 0, 1) := by decide +kernel
theorem dL_isBoth_130 : decode cL_isBoth 130 = .ok (.bipush 13, 2) := by decide +kernel
theorem dL_isBoth_132 : decode cL_isBoth 132 = .ok (.iload_n 1, 1) := by decide +kernel
theorem dL_isBoth_133 : decode cL_isBoth 133 = .ok (.iconst 0, 1) := by decide +kernel
theorem dL_isBoth_134 : decode cL_isBoth 134 = .ok (.iconst 0, 1) := by decide +kernel
theorem dL_isBoth_135 : decode cL_isBoth 135 = .ok (.invokestatic 170, 3) := by decide +kernel
theorem dL_isBoth_138 : decode cL_isBoth 138 = .ok (.iload 7, 2) := by decide +kernel
theorem dL_isBoth_140 : decode cL_isBoth 140 = .ok (.if_icmp .ne 22, 3) := by decide +kernel
theorem dL_isBoth_143 : decode cL_isBoth 143 = .ok (.aload_n 0, 1) := by decide +kernel
theorem dL_isBoth_144 : decode cL_isBoth 144 = .ok (.iload_n 1, 1) := by decide +kernel
theorem dL_isBoth_145 : decode cL_isBoth 145 = .ok (.invokevirtual 191, 3) := by decide +kernel
theorem dL_isBoth_148 : decode cL_isBoth 148 = .ok (.aload_n 2, 1) := by decide +kernel
theorem dL_isBoth_149 : decode cL_isBoth 149 = .ok (.iload 5, 2) := by decide +kernel
theorem dL_isBoth_151 : decode cL_isBoth 151 = .ok (.invokestatic 195, 3) := by decide +kernel
theorem dL_isBoth_154 : decode cL_isBoth 154 = .ok (.lcmp, 1) := by decide +kernel
theorem dL_isBoth_155 : decode cL_isBoth 155 = .ok (.ifCond .ne 7, 3) := by decide +kernel
theorem dL_isBoth_158 : decode cL_isBoth 158 = .ok (.iconst 1, 1) := by decide +kernel
theorem dL_isBoth_159 : decode cL_isBoth 159 = .ok (.goto 4, 3) := by decide +kernel
theorem dL_isBoth_162 : decode cL_isBoth 162 = .ok (.iconst 0, 1) := by decide +kernel
theorem dL_isBoth_163 : decode cL_isBoth 163 = .ok (.ireturn, 1) := by decide +kernel
theorem dL_sum_0 : decode cL_sum 0 = .ok (.lconst 0, 1) := by decide +kernel
theorem dL_sum_1 : decode cL_sum 1 = .ok (.lstore_n 2, 1) := by decide +kernel
theorem dL_sum_2 : decode cL_sum 2 = .ok (.iconst 0, 1) := by decide +kernel
theorem dL_sum_3 : decode cL_sum 3 = .ok (.istore 4, 2) := by decide +kernel
theorem dL_sum_5 : decode cL_sum 5 = .ok (.iload 4, 2) := by decide +kernel
theorem dL_sum_7 : decode cL_sum 7 = .ok (.iload_n 1, 1) := by decide +kernel
theorem dL_sum_8 : decode cL_sum 8 = .ok (.if_icmp .ge 27, 3) := by decide +kernel
theorem dL_sum_11 : decode cL_sum 11 = .ok (.lload_n 2, 1) := by decide +kernel
theorem dL_sum_12 : decode cL_sum 12 = .ok (.iload 4, 2) := by decide +kernel
theorem dL_sum_14 : decode cL_sum 14 = .ok (.i2l, 1) := by decide +kernel
theorem dL_sum_15 : decode cL_sum 15 = .ok (.lconst 1, 1) := by decide +kernel
theorem dL_sum_16 : decode cL_sum 16 = .ok (.ladd, 1) := by decide +kernel
theorem dL_sum_17 : decode cL_sum 17 = .ok (.aload_n 0, 1) := by decide +kernel
theorem dL_sum_18 : decode cL_sum 18 = .ok (.iconst 2, 1) := by decide +kernel
theorem dL_sum_19 : decode cL_sum 19 = .ok (.aaload, 1) := by decide +kernel
theorem dL_sum_20 : decode cL_sum 20 = .ok (.iload 4, 2) := by decide +kernel
theorem dL_sum_22 : decode cL_sum 22 = .ok (.iaload, 1) := by decide +kernel
theorem dL_sum_23 : decode cL_sum 23 = .ok (.i2l, 1) := by decide +kernel
theorem dL_sum_24 : decode cL_sum 24 = .ok (.lconst 1, 1) := by decide +kernel
theorem dL_sum_25 : decode cL_sum 25 = .ok (.ladd, 1) := by decide +kernel
theorem dL_sum_26 : decode cL_sum 26 = .ok (.lmul, 1) := by decide +kernel
theorem dL_sum_27 : decode cL_sum 27 = .ok (.ladd, 1) := by decide +kernel
theorem dL_sum_28 : decode cL_sum 28 = .ok (.lstore_n 2, 1) := by decide +kernel
theorem dL_sum_29 : decode cL_sum 29 = .ok (.iinc 4 1, 3) := by decide +kernel
theorem dL_sum_32 : decode cL_sum 32 = .ok (.goto (-27), 3) := by decide +kernel
theorem dL_sum_35 : decode cL_sum 35 = .ok (.lload_n 2, 1) := by decide +kernel
theorem dL_sum_36 : decode cL_sum 36 = .ok (.lreturn, 1) := by decide +kernel
set_option maxRecDepth 20000 in
theorem ggL_sortsAll_L_sees : GoodIn wsL_sortsAll wsL_sees := goodIn_ca (goodIn_ca (goodIn_r _ [5, 6, 7, 8, 9, 10, 11, 12, 13, 14, 15, 16, 17, 18, 19, 20, 21, 22, 23, 24, 25, 26, 27, 28, 29, 30, 31, 32, 33, 34, 35, 36, 37, 38, 39, 40, 41, 101, 102, 103, 104, 105, 106, 107, 108, 109, 110, 111, 112, 113, 114, 115] (by decide +kernel) (by decide +kernel)) (goodIn_sub (fun _ h => List.mem_cons_of_mem _ (List.mem_append_left _ (List.mem_append_right _ h))) (by decide +kernel))) (goodIn_sub (fun _ h => List.mem_cons_of_mem _ (List.mem_append_right _ h)) (by decide +kernel))
set_option maxRecDepth 20000 in
theorem gL_sortsAll_L_sees : GoodIn wsL_sortsAll (va_wsS RL 157 yL_sees wsL_sees) := goodIn_app (goodIn_of _ (by decide +kernel)) ggL_sortsAll_L_sees
set_option maxRecDepth 20000 in
theorem ggL_sortsAll_L_copies : GoodIn wsL_sortsAll wsL_copies := goodIn_r _ [44] (by decide +kernel) (by decide +kernel)
set_option maxRecDepth 20000 in
theorem gL_sortsAll_L_copies : GoodIn wsL_sortsAll (va_wsS RL 153 yL_copies wsL_copies) := goodIn_app (goodIn_of _ (by decide +kernel)) ggL_sortsAll_L_copies
set_option maxRecDepth 20000 in
theorem ggL_sortsAll_L_due : GoodIn wsL_sortsAll wsL_due := goodIn_r _ [47, 48, 49, 4, 50, 42, 43, 44] (by decide +kernel) (by decide +kernel)
set_option maxRecDepth 20000 in
theorem gL_sortsAll_L_due : GoodIn wsL_sortsAll (va_wsS RL 166 yL_due wsL_due) := goodIn_app (goodIn_of _ (by decide +kernel)) ggL_sortsAll_L_due
set_option maxRecDepth 20000 in
theorem ggL_sortsAll_X10_sortAll : GoodIn wsL_sortsAll wsX10_sortAll := goodIn_r _ [54, 55, 18, 11, 56, 57, 58, 59, 60, 61, 62, 63, 64, 65, 66, 67, 68, 69, 70, 71, 72, 73, 74, 75, 76, 77, 78, 79, 80, 81, 82, 83, 84, 85, 86, 87, 88, 31, 32, 33, 34, 35, 36, 89, 90, 91, 92, 93, 94, 95, 96, 38, 39, 40, 41, 97, 98, 99, 100, 103, 104, 105, 106, 107, 108, 109, 110, 111, 112, 101, 102, 116, 117, 118, 119, 113, 114, 115] (by decide +kernel) (by decide +kernel)
set_option maxRecDepth 20000 in
theorem gL_sortsAll_X10_sortAll : GoodIn wsL_sortsAll (wsV RL 198 RX10 yX10_sortAll wsX10_sortAll) := goodIn_app (goodIn_of _ (by decide +kernel)) ggL_sortsAll_X10_sortAll
theorem dL_sortsAll_0 : decode cL_sortsAll 0 = .ok (.iconst 0, 1) := by decide +kernel
theorem dL_sortsAll_1 : decode cL_sortsAll 1 = .ok (.istore 5, 2) := by decide +kernel
theorem dL_sortsAll_3 : decode cL_sortsAll 3 = .ok (.iconst 4, 1) := by decide +kernel
theorem dL_sortsAll_4 : decode cL_sortsAll 4 = .ok (.newarray .int, 2) := by decide +kernel
theorem dL_sortsAll_6 : decode cL_sortsAll 6 = .ok (.astore 6, 2) := by decide +kernel
theorem dL_sortsAll_8 : decode cL_sortsAll 8 = .ok (.iconst 0, 1) := by decide +kernel
theorem dL_sortsAll_9 : decode cL_sortsAll 9 = .ok (.istore 7, 2) := by decide +kernel
theorem dL_sortsAll_11 : decode cL_sortsAll 11 = .ok (.iload 7, 2) := by decide +kernel
theorem dL_sortsAll_13 : decode cL_sortsAll 13 = .ok (.iconst 4, 1) := by decide +kernel
theorem dL_sortsAll_14 : decode cL_sortsAll 14 = .ok (.if_icmp .ge 62, 3) := by decide +kernel
theorem dL_sortsAll_17 : decode cL_sortsAll 17 = .ok (.aload 6, 2) := by decide +kernel
theorem dL_sortsAll_19 : decode cL_sortsAll 19 = .ok (.iload 7, 2) := by decide +kernel
theorem dL_sortsAll_21 : decode cL_sortsAll 21 = .ok (.aload_n 0, 1) := by decide +kernel
theorem dL_sortsAll_22 : decode cL_sortsAll 22 = .ok (.iload 7, 2) := by decide +kernel
theorem dL_sortsAll_24 : decode cL_sortsAll 24 = .ok (.aload_n 3, 1) := by decide +kernel
theorem dL_sortsAll_25 : decode cL_sortsAll 25 = .ok (.invokestatic 157, 3) := by decide +kernel
theorem dL_sortsAll_28 : decode cL_sortsAll 28 = .ok (.iastore, 1) := by decide +kernel
theorem dL_sortsAll_29 : decode cL_sortsAll 29 = .ok (.iconst 0, 1) := by decide +kernel
theorem dL_sortsAll_30 : decode cL_sortsAll 30 = .ok (.istore 8, 2) := by decide +kernel
theorem dL_sortsAll_32 : decode cL_sortsAll 32 = .ok (.iload 8, 2) := by decide +kernel
theorem dL_sortsAll_34 : decode cL_sortsAll 34 = .ok (.aload 6, 2) := by decide +kernel
theorem dL_sortsAll_36 : decode cL_sortsAll 36 = .ok (.iload 7, 2) := by decide +kernel
theorem dL_sortsAll_38 : decode cL_sortsAll 38 = .ok (.iaload, 1) := by decide +kernel
theorem dL_sortsAll_39 : decode cL_sortsAll 39 = .ok (.if_icmp .ge 21, 3) := by decide +kernel
theorem dL_sortsAll_42 : decode cL_sortsAll 42 = .ok (.aload_n 3, 1) := by decide +kernel
theorem dL_sortsAll_43 : decode cL_sortsAll 43 = .ok (.iload 8, 2) := by decide +kernel
theorem dL_sortsAll_45 : decode cL_sortsAll 45 = .ok (.aload_n 1, 1) := by decide +kernel
theorem dL_sortsAll_46 : decode cL_sortsAll 46 = .ok (.iload 5, 2) := by decide +kernel
theorem dL_sortsAll_48 : decode cL_sortsAll 48 = .ok (.iload 8, 2) := by decide +kernel
theorem dL_sortsAll_50 : decode cL_sortsAll 50 = .ok (.iadd, 1) := by decide +kernel
theorem dL_sortsAll_51 : decode cL_sortsAll 51 = .ok (.invokestatic 153, 3) := by decide +kernel
theorem dL_sortsAll_54 : decode cL_sortsAll 54 = .ok (.iinc 8 1, 3) := by decide +kernel
theorem dL_sortsAll_57 : decode cL_sortsAll 57 = .ok (.goto (-25), 3) := by decide +kernel
theorem dL_sortsAll_60 : decode cL_sortsAll 60 = .ok (.iload 5, 2) := by decide +kernel
theorem dL_sortsAll_62 : decode cL_sortsAll 62 = .ok (.aload 6, 2) := by decide +kernel
theorem dL_sortsAll_64 : decode cL_sortsAll 64 = .ok (.iload 7, 2) := by decide +kernel
theorem dL_sortsAll_66 : decode cL_sortsAll 66 = .ok (.iaload, 1) := by decide +kernel
theorem dL_sortsAll_67 : decode cL_sortsAll 67 = .ok (.iadd, 1) := by decide +kernel
theorem dL_sortsAll_68 : decode cL_sortsAll 68 = .ok (.istore 5, 2) := by decide +kernel
theorem dL_sortsAll_70 : decode cL_sortsAll 70 = .ok (.iinc 7 1, 3) := by decide +kernel
theorem dL_sortsAll_73 : decode cL_sortsAll 73 = .ok (.goto (-62), 3) := by decide +kernel
theorem dL_sortsAll_76 : decode cL_sortsAll 76 = .ok (.aload_n 1, 1) := by decide +kernel
theorem dL_sortsAll_77 : decode cL_sortsAll 77 = .ok (.iconst 0, 1) := by decide +kernel
theorem dL_sortsAll_78 : decode cL_sortsAll 78 = .ok (.iload 5, 2) := by decide +kernel
theorem dL_sortsAll_80 : decode cL_sortsAll 80 = .ok (.iconst 0, 1) := by decide +kernel
theorem dL_sortsAll_81 : decode cL_sortsAll 81 = .ok (.aload_n 2, 1) := by decide +kernel
theorem dL_sortsAll_82 : decode cL_sortsAll 82 = .ok (.aload 4, 2) := by decide +kernel
theorem dL_sortsAll_84 : decode cL_sortsAll 84 = .ok (.invokestatic 166, 3) := by decide +kernel
theorem dL_sortsAll_87 : decode cL_sortsAll 87 = .ok (.istore 7, 2) := by decide +kernel
theorem dL_sortsAll_89 : decode cL_sortsAll 89 = .ok (.aload_n 0, 1) := by decide +kernel
theorem dL_sortsAll_90 : decode cL_sortsAll 90 = .ok (.invokevirtual 198, 3) := by decide +kernel
theorem dL_sortsAll_93 : decode cL_sortsAll 93 = .ok (.iload 7, 2) := by decide +kernel
theorem dL_sortsAll_95 : decode cL_sortsAll 95 = .ok (.if_icmp .ne 7, 3) := by decide +kernel
theorem dL_sortsAll_98 : decode cL_sortsAll 98 = .ok (.iconst 1, 1) := by decide +kernel
theorem dL_sortsAll_99 : decode cL_sortsAll 99 = .ok (.goto 4, 3) := by decide +kernel
theorem dL_sortsAll_102 : decode cL_sortsAll 102 = .ok (.iconst 0, 1) := by decide +kernel
theorem dL_sortsAll_103 : decode cL_sortsAll 103 = .ok (.istore 8, 2) := by decide +kernel
theorem dL_sortsAll_105 : decode cL_sortsAll 105 = .ok (.iconst 0, 1) := by decide +kernel
theorem dL_sortsAll_106 : decode cL_sortsAll 106 = .ok (.istore 5, 2) := by decide +kernel
theorem dL_sortsAll_108 : decode cL_sortsAll 108 = .ok (.iconst 0, 1) := by decide +kernel
theorem dL_sortsAll_109 : decode cL_sortsAll 109 = .ok (.istore 9, 2) := by decide +kernel
theorem dL_sortsAll_111 : decode cL_sortsAll 111 = .ok (.iload 9, 2) := by decide +kernel
theorem dL_sortsAll_113 : decode cL_sortsAll 113 = .ok (.iconst 4, 1) := by decide +kernel
theorem dL_sortsAll_114 : decode cL_sortsAll 114 = .ok (.if_icmp .ge 95, 3) := by decide +kernel
theorem dL_sortsAll_117 : decode cL_sortsAll 117 = .ok (.iload 8, 2) := by decide +kernel
theorem dL_sortsAll_119 : decode cL_sortsAll 119 = .ok (.ifCond .eq 90, 3) := by decide +kernel
theorem dL_sortsAll_122 : decode cL_sortsAll 122 = .ok (.aload_n 0, 1) := by decide +kernel
theorem dL_sortsAll_123 : decode cL_sortsAll 123 = .ok (.iload 9, 2) := by decide +kernel
theorem dL_sortsAll_125 : decode cL_sortsAll 125 = .ok (.aload_n 3, 1) := by decide +kernel
theorem dL_sortsAll_126 : decode cL_sortsAll 126 = .ok (.invokestatic 157, 3) := by decide +kernel
theorem dL_sortsAll_129 : decode cL_sortsAll 129 = .ok (.aload 6, 2) := by decide +kernel
theorem dL_sortsAll_131 : decode cL_sortsAll 131 = .ok (.iload 9, 2) := by decide +kernel
theorem dL_sortsAll_133 : decode cL_sortsAll 133 = .ok (.iaload, 1) := by decide +kernel
theorem dL_sortsAll_134 : decode cL_sortsAll 134 = .ok (.if_icmp .ne 7, 3) := by decide +kernel
theorem dL_sortsAll_137 : decode cL_sortsAll 137 = .ok (.iconst 1, 1) := by decide +kernel
theorem dL_sortsAll_138 : decode cL_sortsAll 138 = .ok (.goto 4, 3) := by decide +kernel
theorem dL_sortsAll_141 : decode cL_sortsAll 141 = .ok (.iconst 0, 1) := by decide +kernel
theorem dL_sortsAll_142 : decode cL_sortsAll 142 = .ok (.istore 8, 2) := by decide +kernel
theorem dL_sortsAll_144 : decode cL_sortsAll 144 = .ok (.iconst 0, 1) := by decide +kernel
theorem dL_sortsAll_145 : decode cL_sortsAll 145 = .ok (.istore 10, 2) := by decide +kernel
theorem dL_sortsAll_147 : decode cL_sortsAll 147 = .ok (.iload 10, 2) := by decide +kernel
theorem dL_sortsAll_149 : decode cL_sortsAll 149 = .ok (.aload 6, 2) := by decide +kernel
theorem dL_sortsAll_151 : decode cL_sortsAll 151 = .ok (.iload 9, 2) := by decide +kernel
theorem dL_sortsAll_153 : decode cL_sortsAll 153 = .ok (.iaload, 1) := by decide +kernel
theorem dL_sortsAll_154 : decode cL_sortsAll 154 = .ok (.if_icmp .ge 39, 3) := by decide +kernel
theorem dL_sortsAll_157 : decode cL_sortsAll 157 = .ok (.iload 8, 2) := by decide +kernel
theorem dL_sortsAll_159 : decode cL_sortsAll 159 = .ok (.ifCond .eq 34, 3) := by decide +kernel
theorem dL_sortsAll_162 : decode cL_sortsAll 162 = .ok (.aload_n 3, 1) := by decide +kernel
theorem dL_sortsAll_163 : decode cL_sortsAll 163 = .ok (.iconst 2, 1) := by decide +kernel
theorem dL_sortsAll_164 : decode cL_sortsAll 164 = .ok (.aaload, 1) := by decide +kernel
theorem dL_sortsAll_165 : decode cL_sortsAll 165 = .ok (.iload 10, 2) := by decide +kernel
theorem dL_sortsAll_167 : decode cL_sortsAll 167 = .ok (.iaload, 1) := by decide +kernel
theorem dL_sortsAll_168 : decode cL_sortsAll 168 = .ok (.aload_n 2, 1) := by decide +kernel
theorem dL_sortsAll_169 : decode cL_sortsAll 169 = .ok (.iconst 2, 1) := by decide +kernel
theorem dL_sortsAll_170 : decode cL_sortsAll 170 = .ok (.aaload, 1) := by decide +kernel
theorem dL_sortsAll_171 : decode cL_sortsAll 171 = .ok (.iload 5, 2) := by decide +kernel
theorem dL_sortsAll_173 : decode cL_sortsAll 173 = .ok (.iload 10, 2) := by decide +kernel
theorem dL_sortsAll_175 : decode cL_sortsAll 175 = .ok (.iadd, 1) := by decide +kernel
theorem dL_sortsAll_176 : decode cL_sortsAll 176 = .ok (.iaload, 1) := by decide +kernel
theorem dL_sortsAll_177 : decode cL_sortsAll 177 = .ok (.if_icmp .ne 7, 3) := by decide +kernel
theorem dL_sortsAll_180 : decode cL_sortsAll 180 = .ok (.iconst 1, 1) := by decide +kernel
theorem dL_sortsAll_181 : decode cL_sortsAll 181 = .ok (.goto 4, 3) := by decide +kernel
theorem dL_sortsAll_184 : decode cL_sortsAll 184 = .ok (.iconst 0, 1) := by decide +kernel
theorem dL_sortsAll_185 : decode cL_sortsAll 185 = .ok (.istore 8, 2) := by decide +kernel
theorem dL_sortsAll_187 : decode cL_sortsAll 187 = .ok (.iinc 10 1, 3) := by decide +kernel
theorem dL_sortsAll_190 : decode cL_sortsAll 190 = .ok (.goto (-43), 3) := by decide +kernel
theorem dL_sortsAll_193 : decode cL_sortsAll 193 = .ok (.iload 5, 2) := by decide +kernel
theorem dL_sortsAll_195 : decode cL_sortsAll 195 = .ok (.aload 6, 2) := by decide +kernel
theorem dL_sortsAll_197 : decode cL_sortsAll 197 = .ok (.iload 9, 2) := by decide +kernel
theorem dL_sortsAll_199 : decode cL_sortsAll 199 = .ok (.iaload, 1) := by decide +kernel
theorem dL_sortsAll_200 : decode cL_sortsAll 200 = .ok (.iadd, 1) := by decide +kernel
theorem dL_sortsAll_201 : decode cL_sortsAll 201 = .ok (.istore 5, 2) := by decide +kernel
theorem dL_sortsAll_203 : decode cL_sortsAll 203 = .ok (.iinc 9 1, 3) := by decide +kernel
theorem dL_sortsAll_206 : decode cL_sortsAll 206 = .ok (.goto (-95), 3) := by decide +kernel
theorem dL_sortsAll_209 : decode cL_sortsAll 209 = .ok (.iload 8, 2) := by decide +kernel
theorem dL_sortsAll_211 : decode cL_sortsAll 211 = .ok (.ifCond .eq 14, 3) := by decide +kernel
theorem dL_sortsAll_214 : decode cL_sortsAll 214 = .ok (.aload_n 0, 1) := by decide +kernel
theorem dL_sortsAll_215 : decode cL_sortsAll 215 = .ok (.invokevirtual 198, 3) := by decide +kernel
theorem dL_sortsAll_218 : decode cL_sortsAll 218 = .ok (.ifCond .ne 7, 3) := by decide +kernel
theorem dL_sortsAll_221 : decode cL_sortsAll 221 = .ok (.iconst 1, 1) := by decide +kernel
theorem dL_sortsAll_222 : decode cL_sortsAll 222 = .ok (.goto 4, 3) := by decide +kernel
theorem dL_sortsAll_225 : decode cL_sortsAll 225 = .ok (.iconst 0, 1) := by decide +kernel
theorem dL_sortsAll_226 : decode cL_sortsAll 226 = .ok (.ireturn, 1) := by decide +kernel
theorem dL_moves_0 : decode cL_moves 0 = .ok (.aload_n 0, 1) := by decide +kernel
theorem dL_moves_1 : decode cL_moves 1 = .ok (.iload_n 2, 1) := by decide +kernel
theorem dL_moves_2 : decode cL_moves 2 = .ok (.aload 4, 2) := by decide +kernel
theorem dL_moves_4 : decode cL_moves 4 = .ok (.invokestatic 157, 3) := by decide +kernel
theorem dL_moves_7 : decode cL_moves 7 = .ok (.istore 7, 2) := by decide +kernel
theorem dL_moves_9 : decode cL_moves 9 = .ok (.iload_n 2, 1) := by decide +kernel
theorem dL_moves_10 : decode cL_moves 10 = .ok (.iconst 1, 1) := by decide +kernel
theorem dL_moves_11 : decode cL_moves 11 = .ok (.iadd, 1) := by decide +kernel
theorem dL_moves_12 : decode cL_moves 12 = .ok (.aload_n 1, 1) := by decide +kernel
theorem dL_moves_13 : decode cL_moves 13 = .ok (.invokestatic 8, 3) := by decide +kernel
theorem dL_moves_16 : decode cL_moves 16 = .ok (.iconst 3, 1) := by decide +kernel
theorem dL_moves_17 : decode cL_moves 17 = .ok (.irem, 1) := by decide +kernel
theorem dL_moves_18 : decode cL_moves 18 = .ok (.iadd, 1) := by decide +kernel
theorem dL_moves_19 : decode cL_moves 19 = .ok (.iconst 4, 1) := by decide +kernel
theorem dL_moves_20 : decode cL_moves 20 = .ok (.irem, 1) := by decide +kernel
theorem dL_moves_21 : decode cL_moves 21 = .ok (.istore 8, 2) := by decide +kernel
theorem dL_moves_23 : decode cL_moves 23 = .ok (.aload_n 0, 1) := by decide +kernel
theorem dL_moves_24 : decode cL_moves 24 = .ok (.iload 8, 2) := by decide +kernel
theorem dL_moves_26 : decode cL_moves 26 = .ok (.aload 5, 2) := by decide +kernel
theorem dL_moves_28 : decode cL_moves 28 = .ok (.invokestatic 157, 3) := by decide +kernel
theorem dL_moves_31 : decode cL_moves 31 = .ok (.istore 9, 2) := by decide +kernel
theorem dL_moves_33 : decode cL_moves 33 = .ok (.iload_n 3, 1) := by decide +kernel
theorem dL_moves_34 : decode cL_moves 34 = .ok (.bipush 6, 2) := by decide +kernel
theorem dL_moves_36 : decode cL_moves 36 = .ok (.if_icmp .ne 128, 3) := by decide +kernel
theorem dL_moves_39 : decode cL_moves 39 = .ok (.iload 7, 2) := by decide +kernel
theorem dL_moves_41 : decode cL_moves 41 = .ok (.iload 9, 2) := by decide +kernel
theorem dL_moves_43 : decode cL_moves 43 = .ok (.iadd, 1) := by decide +kernel
theorem dL_moves_44 : decode cL_moves 44 = .ok (.sipush 800, 3) := by decide +kernel
theorem dL_moves_47 : decode cL_moves 47 = .ok (.if_icmp .le 24, 3) := by decide +kernel
theorem dL_moves_50 : decode cL_moves 50 = .ok (.aload_n 0, 1) := by decide +kernel
theorem dL_moves_51 : decode cL_moves 51 = .ok (.bipush 6, 2) := by decide +kernel
theorem dL_moves_53 : decode cL_moves 53 = .ok (.iload_n 2, 1) := by decide +kernel
theorem dL_moves_54 : decode cL_moves 54 = .ok (.iload 8, 2) := by decide +kernel
theorem dL_moves_56 : decode cL_moves 56 = .ok (.iconst 0, 1) := by decide +kernel
theorem dL_moves_57 : decode cL_moves 57 = .ok (.invokestatic 170, 3) := by decide +kernel
theorem dL_moves_60 : decode cL_moves 60 = .ok (.bipush (-3), 2) := by decide +kernel
theorem dL_moves_62 : decode cL_moves 62 = .ok (.if_icmp .ne 7, 3) := by decide +kernel
theorem dL_moves_65 : decode cL_moves 65 = .ok (.iconst 1, 1) := by decide +kernel
theorem dL_moves_66 : decode cL_moves 66 = .ok (.goto 4, 3) := by decide +kernel
theorem dL_moves_69 : decode cL_moves 69 = .ok (.iconst 0, 1) := by decide +kernel
theorem dL_moves_70 : decode cL_moves 70 = .ok (.ireturn, 1) := by decide +kernel
theorem dL_moves_71 : decode cL_moves 71 = .ok (.iconst 0, 1) := by decide +kernel
theorem dL_moves_72 : decode cL_moves 72 = .ok (.istore 10, 2) := by decide +kernel
theorem dL_moves_74 : decode cL_moves 74 = .ok (.iload 10, 2) := by decide +kernel
theorem dL_moves_76 : decode cL_moves 76 = .ok (.iload 7, 2) := by decide +kernel
theorem dL_moves_78 : decode cL_moves 78 = .ok (.if_icmp .ge 23, 3) := by decide +kernel
theorem dL_moves_81 : decode cL_moves 81 = .ok (.aload 4, 2) := by decide +kernel
theorem dL_moves_83 : decode cL_moves 83 = .ok (.iload 10, 2) := by decide +kernel
theorem dL_moves_85 : decode cL_moves 85 = .ok (.aload 5, 2) := by decide +kernel
theorem dL_moves_87 : decode cL_moves 87 = .ok (.iload 9, 2) := by decide +kernel
theorem dL_moves_89 : decode cL_moves 89 = .ok (.iload 10, 2) := by decide +kernel
theorem dL_moves_91 : decode cL_moves 91 = .ok (.iadd, 1) := by decide +kernel
theorem dL_moves_92 : decode cL_moves 92 = .ok (.invokestatic 153, 3) := by decide +kernel
theorem dL_moves_95 : decode cL_moves 95 = .ok (.iinc 10 1, 3) := by decide +kernel
theorem dL_moves_98 : decode cL_moves 98 = .ok (.goto (-24), 3) := by decide +kernel
theorem dL_moves_101 : decode cL_moves 101 = .ok (.aload_n 0, 1) := by decide +kernel
theorem dL_moves_102 : decode cL_moves 102 = .ok (.bipush 6, 2) := by decide +kernel
theorem dL_moves_104 : decode cL_moves 104 = .ok (.iload_n 2, 1) := by decide +kernel
theorem dL_moves_105 : decode cL_moves 105 = .ok (.iload 8, 2) := by decide +kernel
theorem dL_moves_107 : decode cL_moves 107 = .ok (.iconst 0, 1) := by decide +kernel
theorem dL_moves_108 : decode cL_moves 108 = .ok (.invokestatic 170, 3) := by decide +kernel
theorem dL_moves_111 : decode cL_moves 111 = .ok (.iload 7, 2) := by decide +kernel
theorem dL_moves_113 : decode cL_moves 113 = .ok (.iload 9, 2) := by decide +kernel
theorem dL_moves_115 : decode cL_moves 115 = .ok (.iadd, 1) := by decide +kernel
theorem dL_moves_116 : decode cL_moves 116 = .ok (.if_icmp .ne 46, 3) := by decide +kernel
theorem dL_moves_119 : decode cL_moves 119 = .ok (.aload_n 0, 1) := by decide +kernel
theorem dL_moves_120 : decode cL_moves 120 = .ok (.iload_n 2, 1) := by decide +kernel
theorem dL_moves_121 : decode cL_moves 121 = .ok (.invokevirtual 136, 3) := by decide +kernel
theorem dL_moves_124 : decode cL_moves 124 = .ok (.ifCond .ne 38, 3) := by decide +kernel
theorem dL_moves_127 : decode cL_moves 127 = .ok (.aload_n 0, 1) := by decide +kernel
theorem dL_moves_128 : decode cL_moves 128 = .ok (.iload 8, 2) := by decide +kernel
theorem dL_moves_130 : decode cL_moves 130 = .ok (.aload 6, 2) := by decide +kernel
theorem dL_moves_132 : decode cL_moves 132 = .ok (.invokestatic 157, 3) := by decide +kernel
theorem dL_moves_135 : decode cL_moves 135 = .ok (.iload 7, 2) := by decide +kernel
theorem dL_moves_137 : decode cL_moves 137 = .ok (.iload 9, 2) := by decide +kernel
theorem dL_moves_139 : decode cL_moves 139 = .ok (.iadd, 1) := by decide +kernel
theorem dL_moves_140 : decode cL_moves 140 = .ok (.if_icmp .ne 22, 3) := by decide +kernel
theorem dL_moves_143 : decode cL_moves 143 = .ok (.aload 5, 2) := by decide +kernel
theorem dL_moves_145 : decode cL_moves 145 = .ok (.aload 6, 2) := by decide +kernel
theorem dL_moves_147 : decode cL_moves 147 = .ok (.iload 7, 2) := by decide +kernel
theorem dL_moves_149 : decode cL_moves 149 = .ok (.iload 9, 2) := by decide +kernel
theorem dL_moves_151 : decode cL_moves 151 = .ok (.iadd, 1) := by decide +kernel
theorem dL_moves_152 : decode cL_moves 152 = .ok (.invokestatic 174, 3) := by decide +kernel
theorem dL_moves_155 : decode cL_moves 155 = .ok (.ifCond .eq 7, 3) := by decide +kernel
theorem dL_moves_158 : decode cL_moves 158 = .ok (.iconst 1, 1) := by decide +kernel
theorem dL_moves_159 : decode cL_moves 159 = .ok (.goto 4, 3) := by decide +kernel
theorem dL_moves_162 : decode cL_moves 162 = .ok (.iconst 0, 1) := by decide +kernel
theorem dL_moves_163 : decode cL_moves 163 = .ok (.ireturn, 1) := by decide +kernel
theorem dL_moves_164 : decode cL_moves 164 = .ok (.iload_n 3, 1) := by decide +kernel
theorem dL_moves_165 : decode cL_moves 165 = .ok (.bipush 7, 2) := by decide +kernel
theorem dL_moves_167 : decode cL_moves 167 = .ok (.if_icmp .ne 200, 3) := by decide +kernel
theorem dL_moves_170 : decode cL_moves 170 = .ok (.iload 9, 2) := by decide +kernel
theorem dL_moves_172 : decode cL_moves 172 = .ok (.iload 7, 2) := by decide +kernel
theorem dL_moves_174 : decode cL_moves 174 = .ok (.iconst 2, 1) := by decide +kernel
theorem dL_moves_175 : decode cL_moves 175 = .ok (.idiv, 1) := by decide +kernel
theorem dL_moves_176 : decode cL_moves 176 = .ok (.iadd, 1) := by decide +kernel
theorem dL_moves_177 : decode cL_moves 177 = .ok (.sipush 800, 3) := by decide +kernel
theorem dL_moves_180 : decode cL_moves 180 = .ok (.if_icmp .le 24, 3) := by decide +kernel
theorem dL_moves_183 : decode cL_moves 183 = .ok (.aload_n 0, 1) := by decide +kernel
theorem dL_moves_184 : decode cL_moves 184 = .ok (.bipush 7, 2) := by decide +kernel
theorem dL_moves_186 : decode cL_moves 186 = .ok (.iload_n 2, 1) := by decide +kernel
theorem dL_moves_187 : decode cL_moves 187 = .ok (.iload 8, 2) := by decide +kernel
theorem dL_moves_189 : decode cL_moves 189 = .ok (.iconst 0, 1) := by decide +kernel
theorem dL_moves_190 : decode cL_moves 190 = .ok (.invokestatic 170, 3) := by decide +kernel
theorem dL_moves_193 : decode cL_moves 193 = .ok (.bipush (-3), 2) := by decide +kernel
theorem dL_moves_195 : decode cL_moves 195 = .ok (.if_icmp .ne 7, 3) := by decide +kernel
theorem dL_moves_198 : decode cL_moves 198 = .ok (.iconst 1, 1) := by decide +kernel
theorem dL_moves_199 : decode cL_moves 199 = .ok (.goto 4, 3) := by decide +kernel
theorem dL_moves_202 : decode cL_moves 202 = .ok (.iconst 0, 1) := by decide +kernel
theorem dL_moves_203 : decode cL_moves 203 = .ok (.ireturn, 1) := by decide +kernel
theorem dL_moves_204 : decode cL_moves 204 = .ok (.iconst 1, 1) := by decide +kernel
theorem dL_moves_205 : decode cL_moves 205 = .ok (.istore 10, 2) := by decide +kernel
theorem dL_moves_207 : decode cL_moves 207 = .ok (.iload 10, 2) := by decide +kernel
theorem dL_moves_209 : decode cL_moves 209 = .ok (.iload 7, 2) := by decide +kernel
theorem dL_moves_211 : decode cL_moves 211 = .ok (.if_icmp .ge 25, 3) := by decide +kernel
theorem dL_moves_214 : decode cL_moves 214 = .ok (.aload 4, 2) := by decide +kernel
theorem dL_moves_216 : decode cL_moves 216 = .ok (.iload 10, 2) := by decide +kernel
theorem dL_moves_218 : decode cL_moves 218 = .ok (.aload 5, 2) := by decide +kernel
theorem dL_moves_220 : decode cL_moves 220 = .ok (.iload 9, 2) := by decide +kernel
theorem dL_moves_222 : decode cL_moves 222 = .ok (.iload 10, 2) := by decide +kernel
theorem dL_moves_224 : decode cL_moves 224 = .ok (.iconst 2, 1) := by decide +kernel
theorem dL_moves_225 : decode cL_moves 225 = .ok (.idiv, 1) := by decide +kernel
theorem dL_moves_226 : decode cL_moves 226 = .ok (.iadd, 1) := by decide +kernel
theorem dL_moves_227 : decode cL_moves 227 = .ok (.invokestatic 153, 3) := by decide +kernel
theorem dL_moves_230 : decode cL_moves 230 = .ok (.iinc 10 2, 3) := by decide +kernel
theorem dL_moves_233 : decode cL_moves 233 = .ok (.goto (-26), 3) := by decide +kernel
theorem dL_moves_236 : decode cL_moves 236 = .ok (.aload_n 0, 1) := by decide +kernel
theorem dL_moves_237 : decode cL_moves 237 = .ok (.bipush 7, 2) := by decide +kernel
theorem dL_moves_239 : decode cL_moves 239 = .ok (.iload_n 2, 1) := by decide +kernel
theorem dL_moves_240 : decode cL_moves 240 = .ok (.iload 8, 2) := by decide +kernel
theorem dL_moves_242 : decode cL_moves 242 = .ok (.iconst 0, 1) := by decide +kernel
theorem dL_moves_243 : decode cL_moves 243 = .ok (.invokestatic 170, 3) := by decide +kernel
theorem dL_moves_246 : decode cL_moves 246 = .ok (.iload 7, 2) := by decide +kernel
theorem dL_moves_248 : decode cL_moves 248 = .ok (.iconst 2, 1) := by decide +kernel
theorem dL_moves_249 : decode cL_moves 249 = .ok (.idiv, 1) := by decide +kernel
theorem dL_moves_250 : decode cL_moves 250 = .ok (.if_icmp .ne 59, 3) := by decide +kernel
theorem dL_moves_253 : decode cL_moves 253 = .ok (.aload_n 0, 1) := by decide +kernel
theorem dL_moves_254 : decode cL_moves 254 = .ok (.iload 8, 2) := by decide +kernel
theorem dL_moves_256 : decode cL_moves 256 = .ok (.aload 6, 2) := by decide +kernel
theorem dL_moves_258 : decode cL_moves 258 = .ok (.invokestatic 157, 3) := by decide +kernel
theorem dL_moves_261 : decode cL_moves 261 = .ok (.iload 9, 2) := by decide +kernel
theorem dL_moves_263 : decode cL_moves 263 = .ok (.iload 7, 2) := by decide +kernel
theorem dL_moves_265 : decode cL_moves 265 = .ok (.iconst 2, 1) := by decide +kernel
theorem dL_moves_266 : decode cL_moves 266 = .ok (.idiv, 1) := by decide +kernel
theorem dL_moves_267 : decode cL_moves 267 = .ok (.iadd, 1) := by decide +kernel
theorem dL_moves_268 : decode cL_moves 268 = .ok (.if_icmp .ne 41, 3) := by decide +kernel
theorem dL_moves_271 : decode cL_moves 271 = .ok (.aload 5, 2) := by decide +kernel
theorem dL_moves_273 : decode cL_moves 273 = .ok (.aload 6, 2) := by decide +kernel
theorem dL_moves_275 : decode cL_moves 275 = .ok (.iload 9, 2) := by decide +kernel
theorem dL_moves_277 : decode cL_moves 277 = .ok (.iload 7, 2) := by decide +kernel
theorem dL_moves_279 : decode cL_moves 279 = .ok (.iconst 2, 1) := by decide +kernel
theorem dL_moves_280 : decode cL_moves 280 = .ok (.idiv, 1) := by decide +kernel
theorem dL_moves_281 : decode cL_moves 281 = .ok (.iadd, 1) := by decide +kernel
theorem dL_moves_282 : decode cL_moves 282 = .ok (.invokestatic 174, 3) := by decide +kernel
theorem dL_moves_285 : decode cL_moves 285 = .ok (.ifCond .eq 24, 3) := by decide +kernel
theorem dL_moves_288 : decode cL_moves 288 = .ok (.aload_n 0, 1) := by decide +kernel
theorem dL_moves_289 : decode cL_moves 289 = .ok (.iload_n 2, 1) := by decide +kernel
theorem dL_moves_290 : decode cL_moves 290 = .ok (.aload 6, 2) := by decide +kernel
theorem dL_moves_292 : decode cL_moves 292 = .ok (.invokestatic 157, 3) := by decide +kernel
theorem dL_moves_295 : decode cL_moves 295 = .ok (.iload 7, 2) := by decide +kernel
theorem dL_moves_297 : decode cL_moves 297 = .ok (.iload 7, 2) := by decide +kernel
theorem dL_moves_299 : decode cL_moves 299 = .ok (.iconst 2, 1) := by decide +kernel
theorem dL_moves_300 : decode cL_moves 300 = .ok (.idiv, 1) := by decide +kernel
theorem dL_moves_301 : decode cL_moves 301 = .ok (.isub, 1) := by decide +kernel
theorem dL_moves_302 : decode cL_moves 302 = .ok (.if_icmp .ne 7, 3) := by decide +kernel
theorem dL_moves_305 : decode cL_moves 305 = .ok (.iconst 1, 1) := by decide +kernel
theorem dL_moves_306 : decode cL_moves 306 = .ok (.goto 4, 3) := by decide +kernel
theorem dL_moves_309 : decode cL_moves 309 = .ok (.iconst 0, 1) := by decide +kernel
theorem dL_moves_310 : decode cL_moves 310 = .ok (.istore 10, 2) := by decide +kernel
theorem dL_moves_312 : decode cL_moves 312 = .ok (.iconst 0, 1) := by decide +kernel
theorem dL_moves_313 : decode cL_moves 313 = .ok (.istore 11, 2) := by decide +kernel
theorem dL_moves_315 : decode cL_moves 315 = .ok (.iload 11, 2) := by decide +kernel
theorem dL_moves_317 : decode cL_moves 317 = .ok (.iload 7, 2) := by decide +kernel
theorem dL_moves_319 : decode cL_moves 319 = .ok (.iload 7, 2) := by decide +kernel
theorem dL_moves_321 : decode cL_moves 321 = .ok (.iconst 2, 1) := by decide +kernel
theorem dL_moves_322 : decode cL_moves 322 = .ok (.idiv, 1) := by decide +kernel
theorem dL_moves_323 : decode cL_moves 323 = .ok (.isub, 1) := by decide +kernel
theorem dL_moves_324 : decode cL_moves 324 = .ok (.if_icmp .ge 40, 3) := by decide +kernel
theorem dL_moves_327 : decode cL_moves 327 = .ok (.iload 10, 2) := by decide +kernel
theorem dL_moves_329 : decode cL_moves 329 = .ok (.ifCond .eq 35, 3) := by decide +kernel
theorem dL_moves_332 : decode cL_moves 332 = .ok (.aload 6, 2) := by decide +kernel
theorem dL_moves_334 : decode cL_moves 334 = .ok (.iconst 2, 1) := by decide +kernel
theorem dL_moves_335 : decode cL_moves 335 = .ok (.aaload, 1) := by decide +kernel
theorem dL_moves_336 : decode cL_moves 336 = .ok (.iload 11, 2) := by decide +kernel
theorem dL_moves_338 : decode cL_moves 338 = .ok (.iaload, 1) := by decide +kernel
theorem dL_moves_339 : decode cL_moves 339 = .ok (.aload 4, 2) := by decide +kernel
theorem dL_moves_341 : decode cL_moves 341 = .ok (.iconst 2, 1) := by decide +kernel
theorem dL_moves_342 : decode cL_moves 342 = .ok (.aaload, 1) := by decide +kernel
theorem dL_moves_343 : decode cL_moves 343 = .ok (.iconst 2, 1) := by decide +kernel
theorem dL_moves_344 : decode cL_moves 344 = .ok (.iload 11, 2) := by decide +kernel
theorem dL_moves_346 : decode cL_moves 346 = .ok (.imul, 1) := by decide +kernel
theorem dL_moves_347 : decode cL_moves 347 = .ok (.iaload, 1) := by decide +kernel
theorem dL_moves_348 : decode cL_moves 348 = .ok (.if_icmp .ne 7, 3) := by decide +kernel
theorem dL_moves_351 : decode cL_moves 351 = .ok (.iconst 1, 1) := by decide +kernel
theorem dL_moves_352 : decode cL_moves 352 = .ok (.goto 4, 3) := by decide +kernel
theorem dL_moves_355 : decode cL_moves 355 = .ok (.iconst 0, 1) := by decide +kernel
theorem dL_moves_356 : decode cL_moves 356 = .ok (.istore 10, 2) := by decide +kernel
theorem dL_moves_358 : decode cL_moves 358 = .ok (.iinc 11 1, 3) := by decide +kernel
theorem dL_moves_361 : decode cL_moves 361 = .ok (.goto (-46), 3) := by decide +kernel
theorem dL_moves_364 : decode cL_moves 364 = .ok (.iload 10, 2) := by decide +kernel
theorem dL_moves_366 : decode cL_moves 366 = .ok (.ireturn, 1) := by decide +kernel
theorem dL_moves_367 : decode cL_moves 367 = .ok (.iload_n 3, 1) := by decide +kernel
theorem dL_moves_368 : decode cL_moves 368 = .ok (.bipush 8, 2) := by decide +kernel
theorem dL_moves_370 : decode cL_moves 370 = .ok (.if_icmp .ne 89, 3) := by decide +kernel
theorem dL_moves_373 : decode cL_moves 373 = .ok (.aload_n 0, 1) := by decide +kernel
theorem dL_moves_374 : decode cL_moves 374 = .ok (.bipush 8, 2) := by decide +kernel
theorem dL_moves_376 : decode cL_moves 376 = .ok (.iload_n 2, 1) := by decide +kernel
theorem dL_moves_377 : decode cL_moves 377 = .ok (.iconst 0, 1) := by decide +kernel
theorem dL_moves_378 : decode cL_moves 378 = .ok (.iconst 0, 1) := by decide +kernel
theorem dL_moves_379 : decode cL_moves 379 = .ok (.invokestatic 170, 3) := by decide +kernel
theorem dL_moves_382 : decode cL_moves 382 = .ok (.iload 7, 2) := by decide +kernel
theorem dL_moves_384 : decode cL_moves 384 = .ok (.if_icmp .ne 19, 3) := by decide +kernel
theorem dL_moves_387 : decode cL_moves 387 = .ok (.aload_n 0, 1) := by decide +kernel
theorem dL_moves_388 : decode cL_moves 388 = .ok (.iload_n 2, 1) := by decide +kernel
theorem dL_moves_389 : decode cL_moves 389 = .ok (.aload 6, 2) := by decide +kernel
theorem dL_moves_391 : decode cL_moves 391 = .ok (.invokestatic 157, 3) := by decide +kernel
theorem dL_moves_394 : decode cL_moves 394 = .ok (.iload 7, 2) := by decide +kernel
theorem dL_moves_396 : decode cL_moves 396 = .ok (.if_icmp .ne 7, 3) := by decide +kernel
theorem dL_moves_399 : decode cL_moves 399 = .ok (.iconst 1, 1) := by decide +kernel
theorem dL_moves_400 : decode cL_moves 400 = .ok (.goto 4, 3) := by decide +kernel
theorem dL_moves_403 : decode cL_moves 403 = .ok (.iconst 0, 1) := by decide +kernel
theorem dL_moves_404 : decode cL_moves 404 = .ok (.istore 10, 2) := by decide +kernel
theorem dL_moves_406 : decode cL_moves 406 = .ok (.iconst 0, 1) := by decide +kernel
theorem dL_moves_407 : decode cL_moves 407 = .ok (.istore 11, 2) := by decide +kernel
theorem dL_moves_409 : decode cL_moves 409 = .ok (.iload 11, 2) := by decide +kernel
theorem dL_moves_411 : decode cL_moves 411 = .ok (.iload 7, 2) := by decide +kernel
theorem dL_moves_413 : decode cL_moves 413 = .ok (.if_icmp .ge 43, 3) := by decide +kernel
theorem dL_moves_416 : decode cL_moves 416 = .ok (.iload 10, 2) := by decide +kernel
theorem dL_moves_418 : decode cL_moves 418 = .ok (.ifCond .eq 38, 3) := by decide +kernel
theorem dL_moves_421 : decode cL_moves 421 = .ok (.aload 6, 2) := by decide +kernel
theorem dL_moves_423 : decode cL_moves 423 = .ok (.iconst 2, 1) := by decide +kernel
theorem dL_moves_424 : decode cL_moves 424 = .ok (.aaload, 1) := by decide +kernel
theorem dL_moves_425 : decode cL_moves 425 = .ok (.iload 11, 2) := by decide +kernel
theorem dL_moves_427 : decode cL_moves 427 = .ok (.iaload, 1) := by decide +kernel
theorem dL_moves_428 : decode cL_moves 428 = .ok (.aload 4, 2) := by decide +kernel
theorem dL_moves_430 : decode cL_moves 430 = .ok (.iconst 2, 1) := by decide +kernel
theorem dL_moves_431 : decode cL_moves 431 = .ok (.aaload, 1) := by decide +kernel
theorem dL_moves_432 : decode cL_moves 432 = .ok (.iload 7, 2) := by decide +kernel
theorem dL_moves_434 : decode cL_moves 434 = .ok (.iconst 1, 1) := by decide +kernel
theorem dL_moves_435 : decode cL_moves 435 = .ok (.isub, 1) := by decide +kernel
theorem dL_moves_436 : decode cL_moves 436 = .ok (.iload 11, 2) := by decide +kernel
theorem dL_moves_438 : decode cL_moves 438 = .ok (.isub, 1) := by decide +kernel
theorem dL_moves_439 : decode cL_moves 439 = .ok (.iaload, 1) := by decide +kernel
theorem dL_moves_440 : decode cL_moves 440 = .ok (.if_icmp .ne 7, 3) := by decide +kernel
theorem dL_moves_443 : decode cL_moves 443 = .ok (.iconst 1, 1) := by decide +kernel
theorem dL_moves_444 : decode cL_moves 444 = .ok (.goto 4, 3) := by decide +kernel
theorem dL_moves_447 : decode cL_moves 447 = .ok (.iconst 0, 1) := by decide +kernel
theorem dL_moves_448 : decode cL_moves 448 = .ok (.istore 10, 2) := by decide +kernel
theorem dL_moves_450 : decode cL_moves 450 = .ok (.iinc 11 1, 3) := by decide +kernel
theorem dL_moves_453 : decode cL_moves 453 = .ok (.goto (-44), 3) := by decide +kernel
theorem dL_moves_456 : decode cL_moves 456 = .ok (.iload 10, 2) := by decide +kernel
theorem dL_moves_458 : decode cL_moves 458 = .ok (.ireturn, 1) := by decide +kernel
theorem dL_moves_459 : decode cL_moves 459 = .ok (.iload_n 3, 1) := by decide +kernel
theorem dL_moves_460 : decode cL_moves 460 = .ok (.bipush 9, 2) := by decide +kernel
theorem dL_moves_462 : decode cL_moves 462 = .ok (.if_icmp .ne 195, 3) := by decide +kernel
theorem dL_moves_465 : decode cL_moves 465 = .ok (.iload 7, 2) := by decide +kernel
theorem dL_moves_467 : decode cL_moves 467 = .ok (.ifCond .ne 22, 3) := by decide +kernel
theorem dL_moves_470 : decode cL_moves 470 = .ok (.aload_n 0, 1) := by decide +kernel
theorem dL_moves_471 : decode cL_moves 471 = .ok (.bipush 9, 2) := by decide +kernel
theorem dL_moves_473 : decode cL_moves 473 = .ok (.iload_n 2, 1) := by decide +kernel
theorem dL_moves_474 : decode cL_moves 474 = .ok (.iconst 0, 1) := by decide +kernel
theorem dL_moves_475 : decode cL_moves 475 = .ok (.iconst 0, 1) := by decide +kernel
theorem dL_moves_476 : decode cL_moves 476 = .ok (.invokestatic 170, 3) := by decide +kernel
theorem dL_moves_479 : decode cL_moves 479 = .ok (.iconst (-1), 1) := by decide +kernel
theorem dL_moves_480 : decode cL_moves 480 = .ok (.if_icmp .ne 7, 3) := by decide +kernel
theorem dL_moves_483 : decode cL_moves 483 = .ok (.iconst 1, 1) := by decide +kernel
theorem dL_moves_484 : decode cL_moves 484 = .ok (.goto 4, 3) := by decide +kernel
theorem dL_moves_487 : decode cL_moves 487 = .ok (.iconst 0, 1) := by decide +kernel
theorem dL_moves_488 : decode cL_moves 488 = .ok (.ireturn, 1) := by decide +kernel
theorem dL_moves_489 : decode cL_moves 489 = .ok (.aload_n 1, 1) := by decide +kernel
theorem dL_moves_490 : decode cL_moves 490 = .ok (.invokestatic 8, 3) := by decide +kernel
theorem dL_moves_493 : decode cL_moves 493 = .ok (.iload 7, 2) := by decide +kernel
theorem dL_moves_495 : decode cL_moves 495 = .ok (.irem, 1) := by decide +kernel
theorem dL_moves_496 : decode cL_moves 496 = .ok (.istore 10, 2) := by decide +kernel
theorem dL_moves_498 : decode cL_moves 498 = .ok (.aload_n 1, 1) := by decide +kernel
theorem dL_moves_499 : decode cL_moves 499 = .ok (.invokestatic 8, 3) := by decide +kernel
theorem dL_moves_502 : decode cL_moves 502 = .ok (.iload 7, 2) := by decide +kernel
theorem dL_moves_504 : decode cL_moves 504 = .ok (.irem, 1) := by decide +kernel
theorem dL_moves_505 : decode cL_moves 505 = .ok (.istore 11, 2) := by decide +kernel
theorem dL_moves_507 : decode cL_moves 507 = .ok (.aload_n 0, 1) := by decide +kernel
theorem dL_moves_508 : decode cL_moves 508 = .ok (.bipush 9, 2) := by decide +kernel
theorem dL_moves_510 : decode cL_moves 510 = .ok (.iload_n 2, 1) := by decide +kernel
theorem dL_moves_511 : decode cL_moves 511 = .ok (.iload 10, 2) := by decide +kernel
theorem dL_moves_513 : decode cL_moves 513 = .ok (.iload 11, 2) := by decide +kernel
theorem dL_moves_515 : decode cL_moves 515 = .ok (.invokestatic 170, 3) := by decide +kernel
theorem dL_moves_518 : decode cL_moves 518 = .ok (.aload 4, 2) := by decide +kernel
theorem dL_moves_520 : decode cL_moves 520 = .ok (.iconst 2, 1) := by decide +kernel
theorem dL_moves_521 : decode cL_moves 521 = .ok (.aaload, 1) := by decide +kernel
theorem dL_moves_522 : decode cL_moves 522 = .ok (.iload 10, 2) := by decide +kernel
theorem dL_moves_524 : decode cL_moves 524 = .ok (.iaload, 1) := by decide +kernel
theorem dL_moves_525 : decode cL_moves 525 = .ok (.if_icmp .ne 36, 3) := by decide +kernel
theorem dL_moves_528 : decode cL_moves 528 = .ok (.aload_n 0, 1) := by decide +kernel
theorem dL_moves_529 : decode cL_moves 529 = .ok (.iload_n 2, 1) := by decide +kernel
theorem dL_moves_530 : decode cL_moves 530 = .ok (.aload 6, 2) := by decide +kernel
theorem dL_moves_532 : decode cL_moves 532 = .ok (.invokestatic 157, 3) := by decide +kernel
theorem dL_moves_535 : decode cL_moves 535 = .ok (.iload 7, 2) := by decide +kernel
theorem dL_moves_537 : decode cL_moves 537 = .ok (.if_icmp .ne 24, 3) := by decide +kernel
theorem dL_moves_540 : decode cL_moves 540 = .ok (.aload 6, 2) := by decide +kernel
theorem dL_moves_542 : decode cL_moves 542 = .ok (.iconst 2, 1) := by decide +kernel
theorem dL_moves_543 : decode cL_moves 543 = .ok (.aaload, 1) := by decide +kernel
theorem dL_moves_544 : decode cL_moves 544 = .ok (.iload 11, 2) := by decide +kernel
theorem dL_moves_546 : decode cL_moves 546 = .ok (.iaload, 1) := by decide +kernel
theorem dL_moves_547 : decode cL_moves 547 = .ok (.aload 4, 2) := by decide +kernel
theorem dL_moves_549 : decode cL_moves 549 = .ok (.iconst 2, 1) := by decide +kernel
theorem dL_moves_550 : decode cL_moves 550 = .ok (.aaload, 1) := by decide +kernel
theorem dL_moves_551 : decode cL_moves 551 = .ok (.iload 10, 2) := by decide +kernel
theorem dL_moves_553 : decode cL_moves 553 = .ok (.iaload, 1) := by decide +kernel
theorem dL_moves_554 : decode cL_moves 554 = .ok (.if_icmp .ne 7, 3) := by decide +kernel
theorem dL_moves_557 : decode cL_moves 557 = .ok (.iconst 1, 1) := by decide +kernel
theorem dL_moves_558 : decode cL_moves 558 = .ok (.goto 4, 3) := by decide +kernel
theorem dL_moves_561 : decode cL_moves 561 = .ok (.iconst 0, 1) := by decide +kernel
theorem dL_moves_562 : decode cL_moves 562 = .ok (.istore 12, 2) := by decide +kernel
theorem dL_moves_564 : decode cL_moves 564 = .ok (.iconst 0, 1) := by decide +kernel
theorem dL_moves_565 : decode cL_moves 565 = .ok (.istore 13, 2) := by decide +kernel
theorem dL_moves_567 : decode cL_moves 567 = .ok (.iload 13, 2) := by decide +kernel
theorem dL_moves_569 : decode cL_moves 569 = .ok (.iload 7, 2) := by decide +kernel
theorem dL_moves_571 : decode cL_moves 571 = .ok (.if_icmp .ge 83, 3) := by decide +kernel
theorem dL_moves_574 : decode cL_moves 574 = .ok (.iload 12, 2) := by decide +kernel
theorem dL_moves_576 : decode cL_moves 576 = .ok (.ifCond .eq 78, 3) := by decide +kernel
theorem dL_moves_579 : decode cL_moves 579 = .ok (.iload 13, 2) := by decide +kernel
theorem dL_moves_581 : decode cL_moves 581 = .ok (.iload 10, 2) := by decide +kernel
theorem dL_moves_583 : decode cL_moves 583 = .ok (.if_icmp .eq 58, 3) := by decide +kernel
theorem dL_moves_586 : decode cL_moves 586 = .ok (.aload 6, 2) := by decide +kernel
theorem dL_moves_588 : decode cL_moves 588 = .ok (.iconst 2, 1) := by decide +kernel
theorem dL_moves_589 : decode cL_moves 589 = .ok (.aaload, 1) := by decide +kernel
theorem dL_moves_590 : decode cL_moves 590 = .ok (.iload 13, 2) := by decide +kernel
theorem dL_moves_592 : decode cL_moves 592 = .ok (.iload 13, 2) := by decide +kernel
theorem dL_moves_594 : decode cL_moves 594 = .ok (.iload 10, 2) := by decide +kernel
theorem dL_moves_596 : decode cL_moves 596 = .ok (.if_icmp .le 14, 3) := by decide +kernel
theorem dL_moves_599 : decode cL_moves 599 = .ok (.iload 13, 2) := by decide +kernel
theorem dL_moves_601 : decode cL_moves 601 = .ok (.iload 11, 2) := by decide +kernel
theorem dL_moves_603 : decode cL_moves 603 = .ok (.if_icmp .gt 7, 3) := by decide +kernel
theorem dL_moves_606 : decode cL_moves 606 = .ok (.iconst (-1), 1) := by decide +kernel
theorem dL_moves_607 : decode cL_moves 607 = .ok (.goto 22, 3) := by decide +kernel
theorem dL_moves_610 : decode cL_moves 610 = .ok (.iload 13, 2) := by decide +kernel
theorem dL_moves_612 : decode cL_moves 612 = .ok (.iload 10, 2) := by decide +kernel
theorem dL_moves_614 : decode cL_moves 614 = .ok (.if_icmp .ge 14, 3) := by decide +kernel
theorem dL_moves_617 : decode cL_moves 617 = .ok (.iload 13, 2) := by decide +kernel
theorem dL_moves_619 : decode cL_moves 619 = .ok (.iload 11, 2) := by decide +kernel
theorem dL_moves_621 : decode cL_moves 621 = .ok (.if_icmp .lt 7, 3) := by decide +kernel
theorem dL_moves_624 : decode cL_moves 624 = .ok (.iconst 1, 1) := by decide +kernel
theorem dL_moves_625 : decode cL_moves 625 = .ok (.goto 4, 3) := by decide +kernel
theorem dL_moves_628 : decode cL_moves 628 = .ok (.iconst 0, 1) := by decide +kernel
theorem dL_moves_629 : decode cL_moves 629 = .ok (.iadd, 1) := by decide +kernel
theorem dL_moves_630 : decode cL_moves 630 = .ok (.iaload, 1) := by decide +kernel
theorem dL_moves_631 : decode cL_moves 631 = .ok (.aload 4, 2) := by decide +kernel
theorem dL_moves_633 : decode cL_moves 633 = .ok (.iconst 2, 1) := by decide +kernel
theorem dL_moves_634 : decode cL_moves 634 = .ok (.aaload, 1) := by decide +kernel
theorem dL_moves_635 : decode cL_moves 635 = .ok (.iload 13, 2) := by decide +kernel
theorem dL_moves_637 : decode cL_moves 637 = .ok (.iaload, 1) := by decide +kernel
theorem dL_moves_638 : decode cL_moves 638 = .ok (.if_icmp .ne 7, 3) := by decide +kernel
theorem dL_moves_641 : decode cL_moves 641 = .ok (.iconst 1, 1) := by decide +kernel
theorem dL_moves_642 : decode cL_moves 642 = .ok (.goto 4, 3) := by decide +kernel
theorem dL_moves_645 : decode cL_moves 645 = .ok (.iconst 0, 1) := by decide +kernel
theorem dL_moves_646 : decode cL_moves 646 = .ok (.istore 12, 2) := by decide +kernel
theorem dL_moves_648 : decode cL_moves 648 = .ok (.iinc 13 1, 3) := by decide +kernel
theorem dL_moves_651 : decode cL_moves 651 = .ok (.goto (-84), 3) := by decide +kernel
theorem dL_moves_654 : decode cL_moves 654 = .ok (.iload 12, 2) := by decide +kernel
theorem dL_moves_656 : decode cL_moves 656 = .ok (.ireturn, 1) := by decide +kernel
theorem dL_moves_657 : decode cL_moves 657 = .ok (.iconst 0, 1) := by decide +kernel
theorem dL_moves_658 : decode cL_moves 658 = .ok (.istore 10, 2) := by decide +kernel
theorem dL_moves_660 : decode cL_moves 660 = .ok (.aload_n 1, 1) := by decide +kernel
theorem dL_moves_661 : decode cL_moves 661 = .ok (.invokestatic 8, 3) := by decide +kernel
theorem dL_moves_664 : decode cL_moves 664 = .ok (.iconst 4, 1) := by decide +kernel
theorem dL_moves_665 : decode cL_moves 665 = .ok (.irem, 1) := by decide +kernel
theorem dL_moves_666 : decode cL_moves 666 = .ok (.istore 11, 2) := by decide +kernel
theorem dL_moves_668 : decode cL_moves 668 = .ok (.iconst 0, 1) := by decide +kernel
theorem dL_moves_669 : decode cL_moves 669 = .ok (.istore 12, 2) := by decide +kernel
theorem dL_moves_671 : decode cL_moves 671 = .ok (.iload 12, 2) := by decide +kernel
theorem dL_moves_673 : decode cL_moves 673 = .ok (.iload 7, 2) := by decide +kernel
theorem dL_moves_675 : decode cL_moves 675 = .ok (.if_icmp .ge 71, 3) := by decide +kernel
theorem dL_moves_678 : decode cL_moves 678 = .ok (.iload_n 3, 1) := by decide +kernel
theorem dL_moves_679 : decode cL_moves 679 = .ok (.bipush 10, 2) := by decide +kernel
theorem dL_moves_681 : decode cL_moves 681 = .ok (.if_icmp .ne 18, 3) := by decide +kernel
theorem dL_moves_684 : decode cL_moves 684 = .ok (.aload 4, 2) := by decide +kernel
theorem dL_moves_686 : decode cL_moves 686 = .ok (.iconst 1, 1) := by decide +kernel
theorem dL_moves_687 : decode cL_moves 687 = .ok (.aaload, 1) := by decide +kernel
theorem dL_moves_688 : decode cL_moves 688 = .ok (.iload 12, 2) := by decide +kernel
theorem dL_moves_690 : decode cL_moves 690 = .ok (.iaload, 1) := by decide +kernel
theorem dL_moves_691 : decode cL_moves 691 = .ok (.iload 11, 2) := by decide +kernel
theorem dL_moves_693 : decode cL_moves 693 = .ok (.if_icmp .ne 33, 3) := by decide +kernel
theorem dL_moves_696 : decode cL_moves 696 = .ok (.goto 44, 3) := by decide +kernel
theorem dL_moves_699 : decode cL_moves 699 = .ok (.iload 12, 2) := by decide +kernel
theorem dL_moves_701 : decode cL_moves 701 = .ok (.ifCond .le 25, 3) := by decide +kernel
theorem dL_moves_704 : decode cL_moves 704 = .ok (.aload 4, 2) := by decide +kernel
theorem dL_moves_706 : decode cL_moves 706 = .ok (.iconst 0, 1) := by decide +kernel
theorem dL_moves_707 : decode cL_moves 707 = .ok (.aaload, 1) := by decide +kernel
theorem dL_moves_708 : decode cL_moves 708 = .ok (.iload 12, 2) := by decide +kernel
theorem dL_moves_710 : decode cL_moves 710 = .ok (.iaload, 1) := by decide +kernel
theorem dL_moves_711 : decode cL_moves 711 = .ok (.aload 4, 2) := by decide +kernel
theorem dL_moves_713 : decode cL_moves 713 = .ok (.iconst 0, 1) := by decide +kernel
theorem dL_moves_714 : decode cL_moves 714 = .ok (.aaload, 1) := by decide +kernel
theorem dL_moves_715 : decode cL_moves 715 = .ok (.iload 12, 2) := by decide +kernel
theorem dL_moves_717 : decode cL_moves 717 = .ok (.iconst 1, 1) := by decide +kernel
theorem dL_moves_718 : decode cL_moves 718 = .ok (.isub, 1) := by decide +kernel
theorem dL_moves_719 : decode cL_moves 719 = .ok (.iaload, 1) := by decide +kernel
theorem dL_moves_720 : decode cL_moves 720 = .ok (.if_icmp .ne 6, 3) := by decide +kernel
theorem dL_moves_723 : decode cL_moves 723 = .ok (.goto 17, 3) := by decide +kernel
theorem dL_moves_726 : decode cL_moves 726 = .ok (.aload 4, 2) := by decide +kernel
theorem dL_moves_728 : decode cL_moves 728 = .ok (.iload 12, 2) := by decide +kernel
theorem dL_moves_730 : decode cL_moves 730 = .ok (.aload 5, 2) := by decide +kernel
theorem dL_moves_732 : decode cL_moves 732 = .ok (.iload 10, 2) := by decide +kernel
theorem dL_moves_734 : decode cL_moves 734 = .ok (.invokestatic 153, 3) := by decide +kernel
theorem dL_moves_737 : decode cL_moves 737 = .ok (.iinc 10 1, 3) := by decide +kernel
theorem dL_moves_740 : decode cL_moves 740 = .ok (.iinc 12 1, 3) := by decide +kernel
theorem dL_moves_743 : decode cL_moves 743 = .ok (.goto (-72), 3) := by decide +kernel
theorem dL_moves_746 : decode cL_moves 746 = .ok (.aload_n 0, 1) := by decide +kernel
theorem dL_moves_747 : decode cL_moves 747 = .ok (.iload_n 3, 1) := by decide +kernel
theorem dL_moves_748 : decode cL_moves 748 = .ok (.iload_n 2, 1) := by decide +kernel
theorem dL_moves_749 : decode cL_moves 749 = .ok (.iload 11, 2) := by decide +kernel
theorem dL_moves_751 : decode cL_moves 751 = .ok (.iconst 0, 1) := by decide +kernel
theorem dL_moves_752 : decode cL_moves 752 = .ok (.invokestatic 170, 3) := by decide +kernel
theorem dL_moves_755 : decode cL_moves 755 = .ok (.iload 7, 2) := by decide +kernel
theorem dL_moves_757 : decode cL_moves 757 = .ok (.iload 10, 2) := by decide +kernel
theorem dL_moves_759 : decode cL_moves 759 = .ok (.isub, 1) := by decide +kernel
theorem dL_moves_760 : decode cL_moves 760 = .ok (.if_icmp .ne 31, 3) := by decide +kernel
theorem dL_moves_763 : decode cL_moves 763 = .ok (.aload_n 0, 1) := by decide +kernel
theorem dL_moves_764 : decode cL_moves 764 = .ok (.iload_n 2, 1) := by decide +kernel
theorem dL_moves_765 : decode cL_moves 765 = .ok (.aload 6, 2) := by decide +kernel
theorem dL_moves_767 : decode cL_moves 767 = .ok (.invokestatic 157, 3) := by decide +kernel
theorem dL_moves_770 : decode cL_moves 770 = .ok (.iload 10, 2) := by decide +kernel
theorem dL_moves_772 : decode cL_moves 772 = .ok (.if_icmp .ne 19, 3) := by decide +kernel
theorem dL_moves_775 : decode cL_moves 775 = .ok (.aload 5, 2) := by decide +kernel
theorem dL_moves_777 : decode cL_moves 777 = .ok (.aload 6, 2) := by decide +kernel
theorem dL_moves_779 : decode cL_moves 779 = .ok (.iload 10, 2) := by decide +kernel
theorem dL_moves_781 : decode cL_moves 781 = .ok (.invokestatic 174, 3) := by decide +kernel
theorem dL_moves_784 : decode cL_moves 784 = .ok (.ifCond .eq 7, 3) := by decide +kernel
theorem dL_moves_787 : decode cL_moves 787 = .ok (.iconst 1, 1) := by decide +kernel
theorem dL_moves_788 : decode cL_moves 788 = .ok (.goto 4, 3) := by decide +kernel
theorem dL_moves_791 : decode cL_moves 791 = .ok (.iconst 0, 1) := by decide +kernel
theorem dL_moves_792 : decode cL_moves 792 = .ok (.ireturn, 1) := by decide +kernel
theorem dL_comes_0 : decode cL_comes 0 = .ok (.aload_n 1, 1) := by decide +kernel
theorem dL_comes_1 : decode cL_comes 1 = .ok (.bipush (-40), 2) := by decide +kernel
theorem dL_comes_3 : decode cL_comes 3 = .ok (.bipush 80, 2) := by decide +kernel
theorem dL_comes_5 : decode cL_comes 5 = .ok (.invokestatic 32, 3) := by decide +kernel
theorem dL_comes_8 : decode cL_comes 8 = .ok (.istore_n 3, 1) := by decide +kernel
theorem dL_comes_9 : decode cL_comes 9 = .ok (.aload_n 0, 1) := by decide +kernel
theorem dL_comes_10 : decode cL_comes 10 = .ok (.bipush 14, 2) := by decide +kernel
theorem dL_comes_12 : decode cL_comes 12 = .ok (.iload_n 2, 1) := by decide +kernel
theorem dL_comes_13 : decode cL_comes 13 = .ok (.iload_n 3, 1) := by decide +kernel
theorem dL_comes_14 : decode cL_comes 14 = .ok (.iconst 0, 1) := by decide +kernel
theorem dL_comes_15 : decode cL_comes 15 = .ok (.invokestatic 170, 3) := by decide +kernel
theorem dL_comes_18 : decode cL_comes 18 = .ok (.istore 4, 2) := by decide +kernel
theorem dL_comes_20 : decode cL_comes 20 = .ok (.aload_n 0, 1) := by decide +kernel
theorem dL_comes_21 : decode cL_comes 21 = .ok (.iload_n 2, 1) := by decide +kernel
theorem dL_comes_22 : decode cL_comes 22 = .ok (.invokevirtual 178, 3) := by decide +kernel
theorem dL_comes_25 : decode cL_comes 25 = .ok (.ifCond .ne 25, 3) := by decide +kernel
theorem dL_comes_28 : decode cL_comes 28 = .ok (.iload 4, 2) := by decide +kernel
theorem dL_comes_30 : decode cL_comes 30 = .ok (.bipush (-3), 2) := by decide +kernel
theorem dL_comes_32 : decode cL_comes 32 = .ok (.if_icmp .ne 16, 3) := by decide +kernel
theorem dL_comes_35 : decode cL_comes 35 = .ok (.aload_n 0, 1) := by decide +kernel
theorem dL_comes_36 : decode cL_comes 36 = .ok (.iload_n 2, 1) := by decide +kernel
theorem dL_comes_37 : decode cL_comes 37 = .ok (.invokevirtual 182, 3) := by decide +kernel
theorem dL_comes_40 : decode cL_comes 40 = .ok (.iconst 1, 1) := by decide +kernel
theorem dL_comes_41 : decode cL_comes 41 = .ok (.if_icmp .le 7, 3) := by decide +kernel
theorem dL_comes_44 : decode cL_comes 44 = .ok (.iconst 1, 1) := by decide +kernel
theorem dL_comes_45 : decode cL_comes 45 = .ok (.goto 4, 3) := by decide +kernel
theorem dL_comes_48 : decode cL_comes 48 = .ok (.iconst 0, 1) := by decide +kernel
theorem dL_comes_49 : decode cL_comes 49 = .ok (.ireturn, 1) := by decide +kernel
theorem dL_comes_50 : decode cL_comes 50 = .ok (.aload_n 0, 1) := by decide +kernel
theorem dL_comes_51 : decode cL_comes 51 = .ok (.iload_n 2, 1) := by decide +kernel
theorem dL_comes_52 : decode cL_comes 52 = .ok (.invokevirtual 136, 3) := by decide +kernel
theorem dL_comes_55 : decode cL_comes 55 = .ok (.istore 5, 2) := by decide +kernel
theorem dL_comes_57 : decode cL_comes 57 = .ok (.iload 4, 2) := by decide +kernel
theorem dL_comes_59 : decode cL_comes 59 = .ok (.ifCond .lt 52, 3) := by decide +kernel
theorem dL_comes_62 : decode cL_comes 62 = .ok (.iload 4, 2) := by decide +kernel
theorem dL_comes_64 : decode cL_comes 64 = .ok (.iload 5, 2) := by decide +kernel
theorem dL_comes_66 : decode cL_comes 66 = .ok (.if_icmp .gt 45, 3) := by decide +kernel
theorem dL_comes_69 : decode cL_comes 69 = .ok (.iload 4, 2) := by decide +kernel
theorem dL_comes_71 : decode cL_comes 71 = .ok (.ifCond .eq 17, 3) := by decide +kernel
theorem dL_comes_74 : decode cL_comes 74 = .ok (.aload_n 0, 1) := by decide +kernel
theorem dL_comes_75 : decode cL_comes 75 = .ok (.iload_n 2, 1) := by decide +kernel
theorem dL_comes_76 : decode cL_comes 76 = .ok (.iload 4, 2) := by decide +kernel
theorem dL_comes_78 : decode cL_comes 78 = .ok (.iconst 1, 1) := by decide +kernel
theorem dL_comes_79 : decode cL_comes 79 = .ok (.isub, 1) := by decide +kernel
theorem dL_comes_80 : decode cL_comes 80 = .ok (.iconst 0, 1) := by decide +kernel
theorem dL_comes_81 : decode cL_comes 81 = .ok (.invokevirtual 133, 3) := by decide +kernel
theorem dL_comes_84 : decode cL_comes 84 = .ok (.iload_n 3, 1) := by decide +kernel
theorem dL_comes_85 : decode cL_comes 85 = .ok (.if_icmp .gt 26, 3) := by decide +kernel
theorem dL_comes_88 : decode cL_comes 88 = .ok (.iload 4, 2) := by decide +kernel
theorem dL_comes_90 : decode cL_comes 90 = .ok (.iload 5, 2) := by decide +kernel
theorem dL_comes_92 : decode cL_comes 92 = .ok (.if_icmp .eq 15, 3) := by decide +kernel
theorem dL_comes_95 : decode cL_comes 95 = .ok (.aload_n 0, 1) := by decide +kernel
theorem dL_comes_96 : decode cL_comes 96 = .ok (.iload_n 2, 1) := by decide +kernel
theorem dL_comes_97 : decode cL_comes 97 = .ok (.iload 4, 2) := by decide +kernel
theorem dL_comes_99 : decode cL_comes 99 = .ok (.iconst 0, 1) := by decide +kernel
theorem dL_comes_100 : decode cL_comes 100 = .ok (.invokevirtual 133, 3) := by decide +kernel
theorem dL_comes_103 : decode cL_comes 103 = .ok (.iload_n 3, 1) := by decide +kernel
theorem dL_comes_104 : decode cL_comes 104 = .ok (.if_icmp .le 7, 3) := by decide +kernel
theorem dL_comes_107 : decode cL_comes 107 = .ok (.iconst 1, 1) := by decide +kernel
theorem dL_comes_108 : decode cL_comes 108 = .ok (.goto 4, 3) := by decide +kernel
theorem dL_comes_111 : decode cL_comes 111 = .ok (.iconst 0, 1) := by decide +kernel
theorem dL_comes_112 : decode cL_comes 112 = .ok (.istore 6, 2) := by decide +kernel
theorem dL_comes_114 : decode cL_comes 114 = .ok (.aload_n 0, 1) := by decide +kernel
theorem dL_comes_115 : decode cL_comes 115 = .ok (.iload_n 2, 1) := by decide +kernel
theorem dL_comes_116 : decode cL_comes 116 = .ok (.iload 4, 2) := by decide +kernel
theorem dL_comes_118 : decode cL_comes 118 = .ok (.iload_n 3, 1) := by decide +kernel
theorem dL_comes_119 : decode cL_comes 119 = .ok (.bipush 77, 2) := by decide +kernel
theorem dL_comes_121 : decode cL_comes 121 = .ok (.invokestatic 201, 3) := by decide +kernel
theorem dL_comes_124 : decode cL_comes 124 = .ok (.istore 7, 2) := by decide +kernel
theorem dL_comes_126 : decode cL_comes 126 = .ok (.iload 6, 2) := by decide +kernel
theorem dL_comes_128 : decode cL_comes 128 = .ok (.ifCond .eq 11, 3) := by decide +kernel
theorem dL_comes_131 : decode cL_comes 131 = .ok (.iload 5, 2) := by decide +kernel
theorem dL_comes_133 : decode cL_comes 133 = .ok (.sipush 800, 3) := by decide +kernel
theorem dL_comes_136 : decode cL_comes 136 = .ok (.if_icmp .ne 21, 3) := by decide +kernel
theorem dL_comes_139 : decode cL_comes 139 = .ok (.iload 6, 2) := by decide +kernel
theorem dL_comes_141 : decode cL_comes 141 = .ok (.ifCond .eq 14, 3) := by decide +kernel
theorem dL_comes_144 : decode cL_comes 144 = .ok (.iload 7, 2) := by decide +kernel
theorem dL_comes_146 : decode cL_comes 146 = .ok (.bipush (-3), 2) := by decide +kernel
theorem dL_comes_148 : decode cL_comes 148 = .ok (.if_icmp .ne 7, 3) := by decide +kernel
theorem dL_comes_151 : decode cL_comes 151 = .ok (.iconst 1, 1) := by decide +kernel
theorem dL_comes_152 : decode cL_comes 152 = .ok (.goto 4, 3) := by decide +kernel
theorem dL_comes_155 : decode cL_comes 155 = .ok (.iconst 0, 1) := by decide +kernel
theorem dL_comes_156 : decode cL_comes 156 = .ok (.ireturn, 1) := by decide +kernel
theorem dL_comes_157 : decode cL_comes 157 = .ok (.iload 7, 2) := by decide +kernel
theorem dL_comes_159 : decode cL_comes 159 = .ok (.ifCond .lt 63, 3) := by decide +kernel
theorem dL_comes_162 : decode cL_comes 162 = .ok (.aload_n 0, 1) := by decide +kernel
theorem dL_comes_163 : decode cL_comes 163 = .ok (.iload_n 2, 1) := by decide +kernel
theorem dL_comes_164 : decode cL_comes 164 = .ok (.invokevirtual 178, 3) := by decide +kernel
theorem dL_comes_167 : decode cL_comes 167 = .ok (.ifCond .eq 55, 3) := by decide +kernel
theorem dL_comes_170 : decode cL_comes 170 = .ok (.aload_n 0, 1) := by decide +kernel
theorem dL_comes_171 : decode cL_comes 171 = .ok (.iload_n 2, 1) := by decide +kernel
theorem dL_comes_172 : decode cL_comes 172 = .ok (.iload 7, 2) := by decide +kernel
theorem dL_comes_174 : decode cL_comes 174 = .ok (.invokevirtual 203, 3) := by decide +kernel
theorem dL_comes_177 : decode cL_comes 177 = .ok (.iload 4, 2) := by decide +kernel
theorem dL_comes_179 : decode cL_comes 179 = .ok (.if_icmp .ne 43, 3) := by decide +kernel
theorem dL_comes_182 : decode cL_comes 182 = .ok (.aload_n 0, 1) := by decide +kernel
theorem dL_comes_183 : decode cL_comes 183 = .ok (.iload_n 2, 1) := by decide +kernel
theorem dL_comes_184 : decode cL_comes 184 = .ok (.iload 4, 2) := by decide +kernel
theorem dL_comes_186 : decode cL_comes 186 = .ok (.iconst 1, 1) := by decide +kernel
theorem dL_comes_187 : decode cL_comes 187 = .ok (.invokevirtual 133, 3) := by decide +kernel
theorem dL_comes_190 : decode cL_comes 190 = .ok (.bipush 77, 2) := by decide +kernel
theorem dL_comes_192 : decode cL_comes 192 = .ok (.if_icmp .ne 30, 3) := by decide +kernel
theorem dL_comes_195 : decode cL_comes 195 = .ok (.aload_n 0, 1) := by decide +kernel
theorem dL_comes_196 : decode cL_comes 196 = .ok (.iload_n 2, 1) := by decide +kernel
theorem dL_comes_197 : decode cL_comes 197 = .ok (.invokevirtual 136, 3) := by decide +kernel
theorem dL_comes_200 : decode cL_comes 200 = .ok (.iload 5, 2) := by decide +kernel
theorem dL_comes_202 : decode cL_comes 202 = .ok (.iconst 1, 1) := by decide +kernel
theorem dL_comes_203 : decode cL_comes 203 = .ok (.iadd, 1) := by decide +kernel
theorem dL_comes_204 : decode cL_comes 204 = .ok (.if_icmp .ne 18, 3) := by decide +kernel
theorem dL_comes_207 : decode cL_comes 207 = .ok (.aload_n 0, 1) := by decide +kernel
theorem dL_comes_208 : decode cL_comes 208 = .ok (.iconst 1, 1) := by decide +kernel
theorem dL_comes_209 : decode cL_comes 209 = .ok (.iload_n 2, 1) := by decide +kernel
theorem dL_comes_210 : decode cL_comes 210 = .ok (.iconst 0, 1) := by decide +kernel
theorem dL_comes_211 : decode cL_comes 211 = .ok (.iconst 0, 1) := by decide +kernel
theorem dL_comes_212 : decode cL_comes 212 = .ok (.invokestatic 170, 3) := by decide +kernel
theorem dL_comes_215 : decode cL_comes 215 = .ok (.ifCond .ne 7, 3) := by decide +kernel
theorem dL_comes_218 : decode cL_comes 218 = .ok (.iconst 1, 1) := by decide +kernel
theorem dL_comes_219 : decode cL_comes 219 = .ok (.goto 4, 3) := by decide +kernel
theorem dL_comes_222 : decode cL_comes 222 = .ok (.iconst 0, 1) := by decide +kernel
theorem dL_comes_223 : decode cL_comes 223 = .ok (.ireturn, 1) := by decide +kernel
theorem dL_lays_0 : decode cL_lays 0 = .ok (.ldc 30, 2) := by decide +kernel
theorem dL_lays_2 : decode cL_lays 2 = .ok (.astore_n 3, 1) := by decide +kernel
theorem dL_lays_3 : decode cL_lays 3 = .ok (.aload_n 1, 1) := by decide +kernel
theorem dL_lays_4 : decode cL_lays 4 = .ok (.iconst 1, 1) := by decide +kernel
theorem dL_lays_5 : decode cL_lays 5 = .ok (.iconst 4, 1) := by decide +kernel
theorem dL_lays_6 : decode cL_lays 6 = .ok (.invokestatic 32, 3) := by decide +kernel
theorem dL_lays_9 : decode cL_lays 9 = .ok (.istore 4, 2) := by decide +kernel
theorem dL_lays_11 : decode cL_lays 11 = .ok (.iload 4, 2) := by decide +kernel
theorem dL_lays_13 : decode cL_lays 13 = .ok (.ifCond .le 31, 3) := by decide +kernel
theorem dL_lays_16 : decode cL_lays 16 = .ok (.new 14, 3) := by decide +kernel
theorem dL_lays_19 : decode cL_lays 19 = .ok (.dup, 1) := by decide +kernel
theorem dL_lays_20 : decode cL_lays 20 = .ok (.invokespecial 16, 3) := by decide +kernel
theorem dL_lays_23 : decode cL_lays 23 = .ok (.aload_n 3, 1) := by decide +kernel
theorem dL_lays_24 : decode cL_lays 24 = .ok (.invokevirtual 19, 3) := by decide +kernel
theorem dL_lays_27 : decode cL_lays 27 = .ok (.aload_n 1, 1) := by decide +kernel
theorem dL_lays_28 : decode cL_lays 28 = .ok (.invokestatic 206, 3) := by decide +kernel
theorem dL_lays_31 : decode cL_lays 31 = .ok (.invokevirtual 19, 3) := by decide +kernel
theorem dL_lays_34 : decode cL_lays 34 = .ok (.invokevirtual 26, 3) := by decide +kernel
theorem dL_lays_37 : decode cL_lays 37 = .ok (.astore_n 3, 1) := by decide +kernel
theorem dL_lays_38 : decode cL_lays 38 = .ok (.iinc 4 (-1), 3) := by decide +kernel
theorem dL_lays_41 : decode cL_lays 41 = .ok (.goto (-30), 3) := by decide +kernel
theorem dL_lays_44 : decode cL_lays 44 = .ok (.aload_n 0, 1) := by decide +kernel
theorem dL_lays_45 : decode cL_lays 45 = .ok (.iload_n 2, 1) := by decide +kernel
theorem dL_lays_46 : decode cL_lays 46 = .ok (.invokevirtual 136, 3) := by decide +kernel
theorem dL_lays_49 : decode cL_lays 49 = .ok (.istore 4, 2) := by decide +kernel
theorem dL_lays_51 : decode cL_lays 51 = .ok (.aload_n 0, 1) := by decide +kernel
theorem dL_lays_52 : decode cL_lays 52 = .ok (.aload_n 3, 1) := by decide +kernel
theorem dL_lays_53 : decode cL_lays 53 = .ok (.invokestatic 210, 3) := by decide +kernel
theorem dL_lays_56 : decode cL_lays 56 = .ok (.ifCond .ne 5, 3) := by decide +kernel
theorem dL_lays_59 : decode cL_lays 59 = .ok (.iconst 0, 1) := by decide +kernel
theorem dL_lays_60 : decode cL_lays 60 = .ok (.ireturn, 1) := by decide +kernel
theorem dL_lays_61 : decode cL_lays 61 = .ok (.aload_n 0, 1) := by decide +kernel
theorem dL_lays_62 : decode cL_lays 62 = .ok (.iconst 0, 1) := by decide +kernel
theorem dL_lays_63 : decode cL_lays 63 = .ok (.iload_n 2, 1) := by decide +kernel
theorem dL_lays_64 : decode cL_lays 64 = .ok (.iconst 0, 1) := by decide +kernel
theorem dL_lays_65 : decode cL_lays 65 = .ok (.iconst 0, 1) := by decide +kernel
theorem dL_lays_66 : decode cL_lays 66 = .ok (.invokestatic 170, 3) := by decide +kernel
theorem dL_lays_69 : decode cL_lays 69 = .ok (.istore 5, 2) := by decide +kernel
theorem dL_lays_71 : decode cL_lays 71 = .ok (.iload 5, 2) := by decide +kernel
theorem dL_lays_73 : decode cL_lays 73 = .ok (.bipush (-3), 2) := by decide +kernel
theorem dL_lays_75 : decode cL_lays 75 = .ok (.if_icmp .ne 21, 3) := by decide +kernel
theorem dL_lays_78 : decode cL_lays 78 = .ok (.aload_n 0, 1) := by decide +kernel
theorem dL_lays_79 : decode cL_lays 79 = .ok (.iload_n 2, 1) := by decide +kernel
theorem dL_lays_80 : decode cL_lays 80 = .ok (.invokevirtual 136, 3) := by decide +kernel
theorem dL_lays_83 : decode cL_lays 83 = .ok (.iload 4, 2) := by decide +kernel
theorem dL_lays_85 : decode cL_lays 85 = .ok (.if_icmp .ne 7, 3) := by decide +kernel
theorem dL_lays_88 : decode cL_lays 88 = .ok (.iconst 1, 1) := by decide +kernel
theorem dL_lays_89 : decode cL_lays 89 = .ok (.goto 30, 3) := by decide +kernel
theorem dL_lays_92 : decode cL_lays 92 = .ok (.iconst 0, 1) := by decide +kernel
theorem dL_lays_93 : decode cL_lays 93 = .ok (.goto 26, 3) := by decide +kernel
theorem dL_lays_96 : decode cL_lays 96 = .ok (.iload 5, 2) := by decide +kernel
theorem dL_lays_98 : decode cL_lays 98 = .ok (.ifCond .le 20, 3) := by decide +kernel
theorem dL_lays_101 : decode cL_lays 101 = .ok (.aload_n 0, 1) := by decide +kernel
theorem dL_lays_102 : decode cL_lays 102 = .ok (.iload_n 2, 1) := by decide +kernel
theorem dL_lays_103 : decode cL_lays 103 = .ok (.invokevirtual 136, 3) := by decide +kernel
theorem dL_lays_106 : decode cL_lays 106 = .ok (.iload 4, 2) := by decide +kernel
theorem dL_lays_108 : decode cL_lays 108 = .ok (.iload 5, 2) := by decide +kernel
theorem dL_lays_110 : decode cL_lays 110 = .ok (.iadd, 1) := by decide +kernel
theorem dL_lays_111 : decode cL_lays 111 = .ok (.if_icmp .ne 7, 3) := by decide +kernel
theorem dL_lays_114 : decode cL_lays 114 = .ok (.iconst 1, 1) := by decide +kernel
theorem dL_lays_115 : decode cL_lays 115 = .ok (.goto 4, 3) := by decide +kernel
theorem dL_lays_118 : decode cL_lays 118 = .ok (.iconst 0, 1) := by decide +kernel
theorem dL_lays_119 : decode cL_lays 119 = .ok (.ireturn, 1) := by decide +kernel
theorem dL_plays_0 : decode cL_plays 0 = .ok (.new 59, 3) := by decide +kernel
theorem dL_plays_3 : decode cL_plays 3 = .ok (.dup, 1) := by decide +kernel
theorem dL_plays_4 : decode cL_plays 4 = .ok (.invokespecial 214, 3) := by decide +kernel
theorem dL_plays_7 : decode cL_plays 7 = .ok (.astore 5, 2) := by decide +kernel
theorem dL_plays_9 : decode cL_plays 9 = .ok (.aload 5, 2) := by decide +kernel
theorem dL_plays_11 : decode cL_plays 11 = .ok (.aload_n 0, 1) := by decide +kernel
theorem dL_plays_12 : decode cL_plays 12 = .ok (.invokestatic 8, 3) := by decide +kernel
theorem dL_plays_15 : decode cL_plays 15 = .ok (.invokevirtual 215, 3) := by decide +kernel
theorem dL_plays_18 : decode cL_plays 18 = .ok (.iconst 1, 1) := by decide +kernel
theorem dL_plays_19 : decode cL_plays 19 = .ok (.if_icmp .ne 7, 3) := by decide +kernel
theorem dL_plays_22 : decode cL_plays 22 = .ok (.iconst 1, 1) := by decide +kernel
theorem dL_plays_23 : decode cL_plays 23 = .ok (.goto 4, 3) := by decide +kernel
theorem dL_plays_26 : decode cL_plays 26 = .ok (.iconst 0, 1) := by decide +kernel
theorem dL_plays_27 : decode cL_plays 27 = .ok (.istore 6, 2) := by decide +kernel
theorem dL_plays_29 : decode cL_plays 29 = .ok (.iconst 0, 1) := by decide +kernel
theorem dL_plays_30 : decode cL_plays 30 = .ok (.istore 7, 2) := by decide +kernel
theorem dL_plays_32 : decode cL_plays 32 = .ok (.iload 7, 2) := by decide +kernel
theorem dL_plays_34 : decode cL_plays 34 = .ok (.iconst 3, 1) := by decide +kernel
theorem dL_plays_35 : decode cL_plays 35 = .ok (.if_icmp .ge 24, 3) := by decide +kernel
theorem dL_plays_38 : decode cL_plays 38 = .ok (.iload 6, 2) := by decide +kernel
theorem dL_plays_40 : decode cL_plays 40 = .ok (.ifCond .eq 19, 3) := by decide +kernel
theorem dL_plays_43 : decode cL_plays 43 = .ok (.aload 5, 2) := by decide +kernel
theorem dL_plays_45 : decode cL_plays 45 = .ok (.aload_n 0, 1) := by decide +kernel
theorem dL_plays_46 : decode cL_plays 46 = .ok (.iload 7, 2) := by decide +kernel
theorem dL_plays_48 : decode cL_plays 48 = .ok (.invokestatic 218, 3) := by decide +kernel
theorem dL_plays_51 : decode cL_plays 51 = .ok (.istore 6, 2) := by decide +kernel
theorem dL_plays_53 : decode cL_plays 53 = .ok (.iinc 7 1, 3) := by decide +kernel
theorem dL_plays_56 : decode cL_plays 56 = .ok (.goto (-24), 3) := by decide +kernel
theorem dL_plays_59 : decode cL_plays 59 = .ok (.iconst 0, 1) := by decide +kernel
theorem dL_plays_60 : decode cL_plays 60 = .ok (.istore 7, 2) := by decide +kernel
theorem dL_plays_62 : decode cL_plays 62 = .ok (.iload 7, 2) := by decide +kernel
theorem dL_plays_64 : decode cL_plays 64 = .ok (.bipush 18, 2) := by decide +kernel
theorem dL_plays_66 : decode cL_plays 66 = .ok (.if_icmp .ge 232, 3) := by decide +kernel
theorem dL_plays_69 : decode cL_plays 69 = .ok (.iload 6, 2) := by decide +kernel
theorem dL_plays_71 : decode cL_plays 71 = .ok (.ifCond .eq 227, 3) := by decide +kernel
theorem dL_plays_74 : decode cL_plays 74 = .ok (.aload_n 0, 1) := by decide +kernel
theorem dL_plays_75 : decode cL_plays 75 = .ok (.invokestatic 8, 3) := by decide +kernel
theorem dL_plays_78 : decode cL_plays 78 = .ok (.iconst 4, 1) := by decide +kernel
theorem dL_plays_79 : decode cL_plays 79 = .ok (.irem, 1) := by decide +kernel
theorem dL_plays_80 : decode cL_plays 80 = .ok (.istore 8, 2) := by decide +kernel
theorem dL_plays_82 : decode cL_plays 82 = .ok (.aload_n 0, 1) := by decide +kernel
theorem dL_plays_83 : decode cL_plays 83 = .ok (.invokestatic 8, 3) := by decide +kernel
theorem dL_plays_86 : decode cL_plays 86 = .ok (.bipush 17, 2) := by decide +kernel
theorem dL_plays_88 : decode cL_plays 88 = .ok (.irem, 1) := by decide +kernel
theorem dL_plays_89 : decode cL_plays 89 = .ok (.istore 9, 2) := by decide +kernel
theorem dL_plays_91 : decode cL_plays 91 = .ok (.iload 9, 2) := by decide +kernel
theorem dL_plays_93 : decode cL_plays 93 = .ok (.iconst 1, 1) := by decide +kernel
theorem dL_plays_94 : decode cL_plays 94 = .ok (.if_icmp .lt 29, 3) := by decide +kernel
theorem dL_plays_97 : decode cL_plays 97 = .ok (.iload 9, 2) := by decide +kernel
theorem dL_plays_99 : decode cL_plays 99 = .ok (.iconst 5, 1) := by decide +kernel
theorem dL_plays_100 : decode cL_plays 100 = .ok (.if_icmp .gt 23, 3) := by decide +kernel
theorem dL_plays_103 : decode cL_plays 103 = .ok (.aload 5, 2) := by decide +kernel
theorem dL_plays_105 : decode cL_plays 105 = .ok (.aload_n 0, 1) := by decide +kernel
theorem dL_plays_106 : decode cL_plays 106 = .ok (.iload 8, 2) := by decide +kernel
theorem dL_plays_108 : decode cL_plays 108 = .ok (.iload 9, 2) := by decide +kernel
theorem dL_plays_110 : decode cL_plays 110 = .ok (.aload_n 1, 1) := by decide +kernel
theorem dL_plays_111 : decode cL_plays 111 = .ok (.aload_n 2, 1) := by decide +kernel
theorem dL_plays_112 : decode cL_plays 112 = .ok (.aload_n 3, 1) := by decide +kernel
theorem dL_plays_113 : decode cL_plays 113 = .ok (.aload 4, 2) := by decide +kernel
theorem dL_plays_115 : decode cL_plays 115 = .ok (.invokestatic 222, 3) := by decide +kernel
theorem dL_plays_118 : decode cL_plays 118 = .ok (.istore 6, 2) := by decide +kernel
theorem dL_plays_120 : decode cL_plays 120 = .ok (.goto 172, 3) := by decide +kernel
theorem dL_plays_123 : decode cL_plays 123 = .ok (.iload 9, 2) := by decide +kernel
theorem dL_plays_125 : decode cL_plays 125 = .ok (.bipush 6, 2) := by decide +kernel
theorem dL_plays_127 : decode cL_plays 127 = .ok (.if_icmp .lt 28, 3) := by decide +kernel
theorem dL_plays_130 : decode cL_plays 130 = .ok (.iload 9, 2) := by decide +kernel
theorem dL_plays_132 : decode cL_plays 132 = .ok (.bipush 11, 2) := by decide +kernel
theorem dL_plays_134 : decode cL_plays 134 = .ok (.if_icmp .gt 21, 3) := by decide +kernel
theorem dL_plays_137 : decode cL_plays 137 = .ok (.aload 5, 2) := by decide +kernel
theorem dL_plays_139 : decode cL_plays 139 = .ok (.aload_n 0, 1) := by decide +kernel
theorem dL_plays_140 : decode cL_plays 140 = .ok (.iload 8, 2) := by decide +kernel
theorem dL_plays_142 : decode cL_plays 142 = .ok (.iload 9, 2) := by decide +kernel
theorem dL_plays_144 : decode cL_plays 144 = .ok (.aload_n 1, 1) := by decide +kernel
theorem dL_plays_145 : decode cL_plays 145 = .ok (.aload_n 2, 1) := by decide +kernel
theorem dL_plays_146 : decode cL_plays 146 = .ok (.aload_n 3, 1) := by decide +kernel
theorem dL_plays_147 : decode cL_plays 147 = .ok (.invokestatic 226, 3) := by decide +kernel
theorem dL_plays_150 : decode cL_plays 150 = .ok (.istore 6, 2) := by decide +kernel
theorem dL_plays_152 : decode cL_plays 152 = .ok (.goto 140, 3) := by decide +kernel
theorem dL_plays_155 : decode cL_plays 155 = .ok (.iload 9, 2) := by decide +kernel
theorem dL_plays_157 : decode cL_plays 157 = .ok (.bipush 12, 2) := by decide +kernel
theorem dL_plays_159 : decode cL_plays 159 = .ok (.if_icmp .ne 18, 3) := by decide +kernel
theorem dL_plays_162 : decode cL_plays 162 = .ok (.aload 5, 2) := by decide +kernel
theorem dL_plays_164 : decode cL_plays 164 = .ok (.aload_n 1, 1) := by decide +kernel
theorem dL_plays_165 : decode cL_plays 165 = .ok (.aload_n 2, 1) := by decide +kernel
theorem dL_plays_166 : decode cL_plays 166 = .ok (.aload_n 3, 1) := by decide +kernel
theorem dL_plays_167 : decode cL_plays 167 = .ok (.aload 4, 2) := by decide +kernel
theorem dL_plays_169 : decode cL_plays 169 = .ok (.invokestatic 230, 3) := by decide +kernel
theorem dL_plays_172 : decode cL_plays 172 = .ok (.istore 6, 2) := by decide +kernel
theorem dL_plays_174 : decode cL_plays 174 = .ok (.goto 118, 3) := by decide +kernel
theorem dL_plays_177 : decode cL_plays 177 = .ok (.iload 9, 2) := by decide +kernel
theorem dL_plays_179 : decode cL_plays 179 = .ok (.bipush 13, 2) := by decide +kernel
theorem dL_plays_181 : decode cL_plays 181 = .ok (.if_icmp .ne 19, 3) := by decide +kernel
theorem dL_plays_184 : decode cL_plays 184 = .ok (.aload 5, 2) := by decide +kernel
theorem dL_plays_186 : decode cL_plays 186 = .ok (.iload 8, 2) := by decide +kernel
theorem dL_plays_188 : decode cL_plays 188 = .ok (.aload_n 1, 1) := by decide +kernel
theorem dL_plays_189 : decode cL_plays 189 = .ok (.aload_n 2, 1) := by decide +kernel
theorem dL_plays_190 : decode cL_plays 190 = .ok (.aload 4, 2) := by decide +kernel
theorem dL_plays_192 : decode cL_plays 192 = .ok (.invokestatic 234, 3) := by decide +kernel
theorem dL_plays_195 : decode cL_plays 195 = .ok (.istore 6, 2) := by decide +kernel
theorem dL_plays_197 : decode cL_plays 197 = .ok (.goto 95, 3) := by decide +kernel
theorem dL_plays_200 : decode cL_plays 200 = .ok (.iload 9, 2) := by decide +kernel
theorem dL_plays_202 : decode cL_plays 202 = .ok (.bipush 14, 2) := by decide +kernel
theorem dL_plays_204 : decode cL_plays 204 = .ok (.if_icmp .ne 16, 3) := by decide +kernel
theorem dL_plays_207 : decode cL_plays 207 = .ok (.aload 5, 2) := by decide +kernel
theorem dL_plays_209 : decode cL_plays 209 = .ok (.aload_n 0, 1) := by decide +kernel
theorem dL_plays_210 : decode cL_plays 210 = .ok (.iload 8, 2) := by decide +kernel
theorem dL_plays_212 : decode cL_plays 212 = .ok (.invokestatic 238, 3) := by decide +kernel
theorem dL_plays_215 : decode cL_plays 215 = .ok (.istore 6, 2) := by decide +kernel
theorem dL_plays_217 : decode cL_plays 217 = .ok (.goto 75, 3) := by decide +kernel
theorem dL_plays_220 : decode cL_plays 220 = .ok (.iload 9, 2) := by decide +kernel
theorem dL_plays_222 : decode cL_plays 222 = .ok (.bipush 15, 2) := by decide +kernel
theorem dL_plays_224 : decode cL_plays 224 = .ok (.if_icmp .ne 37, 3) := by decide +kernel
theorem dL_plays_227 : decode cL_plays 227 = .ok (.aload 5, 2) := by decide +kernel
theorem dL_plays_229 : decode cL_plays 229 = .ok (.iconst 1, 1) := by decide +kernel
theorem dL_plays_230 : decode cL_plays 230 = .ok (.iload 8, 2) := by decide +kernel
theorem dL_plays_232 : decode cL_plays 232 = .ok (.iconst 0, 1) := by decide +kernel
theorem dL_plays_233 : decode cL_plays 233 = .ok (.iconst 0, 1) := by decide +kernel
theorem dL_plays_234 : decode cL_plays 234 = .ok (.invokestatic 170, 3) := by decide +kernel
theorem dL_plays_237 : decode cL_plays 237 = .ok (.ifCond .lt 18, 3) := by decide +kernel
theorem dL_plays_240 : decode cL_plays 240 = .ok (.aload 5, 2) := by decide +kernel
theorem dL_plays_242 : decode cL_plays 242 = .ok (.aload_n 0, 1) := by decide +kernel
theorem dL_plays_243 : decode cL_plays 243 = .ok (.iload 8, 2) := by decide +kernel
theorem dL_plays_245 : decode cL_plays 245 = .ok (.invokestatic 238, 3) := by decide +kernel
theorem dL_plays_248 : decode cL_plays 248 = .ok (.ifCond .eq 7, 3) := by decide +kernel
theorem dL_plays_251 : decode cL_plays 251 = .ok (.iconst 1, 1) := by decide +kernel
theorem dL_plays_252 : decode cL_plays 252 = .ok (.goto 4, 3) := by decide +kernel
theorem dL_plays_255 : decode cL_plays 255 = .ok (.iconst 0, 1) := by decide +kernel
theorem dL_plays_256 : decode cL_plays 256 = .ok (.istore 6, 2) := by decide +kernel
theorem dL_plays_258 : decode cL_plays 258 = .ok (.goto 34, 3) := by decide +kernel
theorem dL_plays_261 : decode cL_plays 261 = .ok (.aload 5, 2) := by decide +kernel
theorem dL_plays_263 : decode cL_plays 263 = .ok (.iload 8, 2) := by decide +kernel
theorem dL_plays_265 : decode cL_plays 265 = .ok (.invokevirtual 136, 3) := by decide +kernel
theorem dL_plays_268 : decode cL_plays 268 = .ok (.sipush 500, 3) := by decide +kernel
theorem dL_plays_271 : decode cL_plays 271 = .ok (.if_icmp .gt 14, 3) := by decide +kernel
theorem dL_plays_274 : decode cL_plays 274 = .ok (.aload 5, 2) := by decide +kernel
theorem dL_plays_276 : decode cL_plays 276 = .ok (.aload_n 0, 1) := by decide +kernel
theorem dL_plays_277 : decode cL_plays 277 = .ok (.iload 8, 2) := by decide +kernel
theorem dL_plays_279 : decode cL_plays 279 = .ok (.invokestatic 218, 3) := by decide +kernel
theorem dL_plays_282 : decode cL_plays 282 = .ok (.ifCond .eq 7, 3) := by decide +kernel
theorem dL_plays_285 : decode cL_plays 285 = .ok (.iconst 1, 1) := by decide +kernel
theorem dL_plays_286 : decode cL_plays 286 = .ok (.goto 4, 3) := by decide +kernel
theorem dL_plays_289 : decode cL_plays 289 = .ok (.iconst 0, 1) := by decide +kernel
theorem dL_plays_290 : decode cL_plays 290 = .ok (.istore 6, 2) := by decide +kernel
theorem dL_plays_292 : decode cL_plays 292 = .ok (.iinc 7 1, 3) := by decide +kernel
theorem dL_plays_295 : decode cL_plays 295 = .ok (.goto (-233), 3) := by decide +kernel
theorem dL_plays_298 : decode cL_plays 298 = .ok (.iload 6, 2) := by decide +kernel
theorem dL_plays_300 : decode cL_plays 300 = .ok (.ifCond .eq 88, 3) := by decide +kernel
theorem dL_plays_303 : decode cL_plays 303 = .ok (.aload 5, 2) := by decide +kernel
theorem dL_plays_305 : decode cL_plays 305 = .ok (.iconst 1, 1) := by decide +kernel
theorem dL_plays_306 : decode cL_plays 306 = .ok (.iconst 4, 1) := by decide +kernel
theorem dL_plays_307 : decode cL_plays 307 = .ok (.iconst 0, 1) := by decide +kernel
theorem dL_plays_308 : decode cL_plays 308 = .ok (.iconst 0, 1) := by decide +kernel
theorem dL_plays_309 : decode cL_plays 309 = .ok (.invokestatic 170, 3) := by decide +kernel
theorem dL_plays_312 : decode cL_plays 312 = .ok (.iconst (-1), 1) := by decide +kernel
theorem dL_plays_313 : decode cL_plays 313 = .ok (.if_icmp .ne 75, 3) := by decide +kernel
theorem dL_plays_316 : decode cL_plays 316 = .ok (.aload 5, 2) := by decide +kernel
theorem dL_plays_318 : decode cL_plays 318 = .ok (.iconst 2, 1) := by decide +kernel
theorem dL_plays_319 : decode cL_plays 319 = .ok (.iconst 0, 1) := by decide +kernel
theorem dL_plays_320 : decode cL_plays 320 = .ok (.iconst 0, 1) := by decide +kernel
theorem dL_plays_321 : decode cL_plays 321 = .ok (.aload 5, 2) := by decide +kernel
theorem dL_plays_323 : decode cL_plays 323 = .ok (.iconst 0, 1) := by decide +kernel
theorem dL_plays_324 : decode cL_plays 324 = .ok (.invokevirtual 136, 3) := by decide +kernel
theorem dL_plays_327 : decode cL_plays 327 = .ok (.iconst 1, 1) := by decide +kernel
theorem dL_plays_328 : decode cL_plays 328 = .ok (.iadd, 1) := by decide +kernel
theorem dL_plays_329 : decode cL_plays 329 = .ok (.invokestatic 170, 3) := by decide +kernel
theorem dL_plays_332 : decode cL_plays 332 = .ok (.iconst (-1), 1) := by decide +kernel
theorem dL_plays_333 : decode cL_plays 333 = .ok (.if_icmp .ne 55, 3) := by decide +kernel
theorem dL_plays_336 : decode cL_plays 336 = .ok (.aload 5, 2) := by decide +kernel
theorem dL_plays_338 : decode cL_plays 338 = .ok (.iconst 2, 1) := by decide +kernel
theorem dL_plays_339 : decode cL_plays 339 = .ok (.iconst 0, 1) := by decide +kernel
theorem dL_plays_340 : decode cL_plays 340 = .ok (.iconst 1, 1) := by decide +kernel
theorem dL_plays_341 : decode cL_plays 341 = .ok (.iconst 0, 1) := by decide +kernel
theorem dL_plays_342 : decode cL_plays 342 = .ok (.invokestatic 170, 3) := by decide +kernel
theorem dL_plays_345 : decode cL_plays 345 = .ok (.bipush (-2), 2) := by decide +kernel
theorem dL_plays_347 : decode cL_plays 347 = .ok (.if_icmp .ne 41, 3) := by decide +kernel
theorem dL_plays_350 : decode cL_plays 350 = .ok (.aload 5, 2) := by decide +kernel
theorem dL_plays_352 : decode cL_plays 352 = .ok (.bipush 6, 2) := by decide +kernel
theorem dL_plays_354 : decode cL_plays 354 = .ok (.iconst 0, 1) := by decide +kernel
theorem dL_plays_355 : decode cL_plays 355 = .ok (.iconst 0, 1) := by decide +kernel
theorem dL_plays_356 : decode cL_plays 356 = .ok (.iconst 0, 1) := by decide +kernel
theorem dL_plays_357 : decode cL_plays 357 = .ok (.invokestatic 170, 3) := by decide +kernel
theorem dL_plays_360 : decode cL_plays 360 = .ok (.bipush (-2), 2) := by decide +kernel
theorem dL_plays_362 : decode cL_plays 362 = .ok (.if_icmp .ne 26, 3) := by decide +kernel
theorem dL_plays_365 : decode cL_plays 365 = .ok (.aload 5, 2) := by decide +kernel
theorem dL_plays_367 : decode cL_plays 367 = .ok (.bipush 16, 2) := by decide +kernel
theorem dL_plays_369 : decode cL_plays 369 = .ok (.iconst 0, 1) := by decide +kernel
theorem dL_plays_370 : decode cL_plays 370 = .ok (.aload 5, 2) := by decide +kernel
theorem dL_plays_372 : decode cL_plays 372 = .ok (.iconst 0, 1) := by decide +kernel
theorem dL_plays_373 : decode cL_plays 373 = .ok (.invokevirtual 136, 3) := by decide +kernel
theorem dL_plays_376 : decode cL_plays 376 = .ok (.iconst 0, 1) := by decide +kernel
theorem dL_plays_377 : decode cL_plays 377 = .ok (.invokestatic 170, 3) := by decide +kernel
theorem dL_plays_380 : decode cL_plays 380 = .ok (.iconst (-1), 1) := by decide +kernel
theorem dL_plays_381 : decode cL_plays 381 = .ok (.if_icmp .ne 7, 3) := by decide +kernel
theorem dL_plays_384 : decode cL_plays 384 = .ok (.iconst 1, 1) := by decide +kernel
theorem dL_plays_385 : decode cL_plays 385 = .ok (.goto 4, 3) := by decide +kernel
theorem dL_plays_388 : decode cL_plays 388 = .ok (.iconst 0, 1) := by decide +kernel
theorem dL_plays_389 : decode cL_plays 389 = .ok (.istore 6, 2) := by decide +kernel
theorem dL_plays_391 : decode cL_plays 391 = .ok (.iload 6, 2) := by decide +kernel
theorem dL_plays_393 : decode cL_plays 393 = .ok (.ifCond .eq 15, 3) := by decide +kernel
theorem dL_plays_396 : decode cL_plays 396 = .ok (.aload 5, 2) := by decide +kernel
theorem dL_plays_398 : decode cL_plays 398 = .ok (.invokevirtual 241, 3) := by decide +kernel
theorem dL_plays_401 : decode cL_plays 401 = .ok (.ifCond .ne 7, 3) := by decide +kernel
theorem dL_plays_404 : decode cL_plays 404 = .ok (.iconst 1, 1) := by decide +kernel
theorem dL_plays_405 : decode cL_plays 405 = .ok (.goto 4, 3) := by decide +kernel
theorem dL_plays_408 : decode cL_plays 408 = .ok (.iconst 0, 1) := by decide +kernel
theorem dL_plays_409 : decode cL_plays 409 = .ok (.ireturn, 1) := by decide +kernel
abbrev vwCl : List vw_C := [(RJ0, TJ0, 4), (RJ4, TJ4, 4), (RX1, TX1, 3), (RX2, TX2, 1), (RX5, TX5, 3), (RX6, TX6, 2), (RX7, TX7, 6), (RX8, TX8, 4), (RX9, TX9, 4), (RX10, TX10, 10)]
