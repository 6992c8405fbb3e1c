theorem dX7_init_0 : decode cX7_init 0 = .ok (.aload_n 0, 1) := by decide +kernel
theorem dX7_init_1 : decode cX7_init 1 = .ok (.invokespecial 1, 3) := by decide +kernel
theorem dX7_init_4 : decode cX7_init 4 = .ok (.aload_n 0, 1) := by decide +kernel
theorem dX7_init_5 : decode cX7_init 5 = .ok (.iconst 0, 1) := by decide +kernel
theorem dX7_init_6 : decode cX7_init 6 = .ok (.anewarray 7, 3) := by decide +kernel
theorem dX7_init_9 : decode cX7_init 9 = .ok (.putfield 9, 3) := by decide +kernel
theorem dX7_init_12 : decode cX7_init 12 = .ok (.aload_n 0, 1) := by decide +kernel
theorem dX7_init_13 : decode cX7_init 13 = .ok (.iconst (-1), 1) := by decide +kernel
theorem dX7_init_14 : decode cX7_init 14 = .ok (.putfield 15, 3) := by decide +kernel
theorem dX7_init_17 : decode cX7_init 17 = .ok (.return_, 1) := by decide +kernel
theorem dX7_hard_0 : decode cX7_hard 0 = .ok (.aload_n 0, 1) := by decide +kernel
theorem dX7_hard_1 : decode cX7_hard 1 = .ok (.getfield 9, 3) := by decide +kernel
theorem dX7_hard_4 : decode cX7_hard 4 = .ok (.iload_n 1, 1) := by decide +kernel
theorem dX7_hard_5 : decode cX7_hard 5 = .ok (.aaload, 1) := by decide +kernel
theorem dX7_hard_6 : decode cX7_hard 6 = .ok (.iconst 1, 1) := by decide +kernel
theorem dX7_hard_7 : decode cX7_hard 7 = .ok (.iaload, 1) := by decide +kernel
theorem dX7_hard_8 : decode cX7_hard 8 = .ok (.iload_n 2, 1) := by decide +kernel
theorem dX7_hard_9 : decode cX7_hard 9 = .ok (.iconst 5, 1) := by decide +kernel
theorem dX7_hard_10 : decode cX7_hard 10 = .ok (.idiv, 1) := by decide +kernel
theorem dX7_hard_11 : decode cX7_hard 11 = .ok (.isub, 1) := by decide +kernel
theorem dX7_hard_12 : decode cX7_hard 12 = .ok (.iconst 0, 1) := by decide +kernel
theorem dX7_hard_13 : decode cX7_hard 13 = .ok (.invokestatic 19, 3) := by decide +kernel
theorem dX7_hard_16 : decode cX7_hard 16 = .ok (.ireturn, 1) := by decide +kernel
theorem dX7_echoes_0 : decode cX7_echoes 0 = .ok (.iconst 4, 1) := by decide +kernel
theorem dX7_echoes_1 : decode cX7_echoes 1 = .ok (.newarray .int, 2) := by decide +kernel
theorem dX7_echoes_3 : decode cX7_echoes 3 = .ok (.dup, 1) := by decide +kernel
theorem dX7_echoes_4 : decode cX7_echoes 4 = .ok (.iconst 0, 1) := by decide +kernel
theorem dX7_echoes_5 : decode cX7_echoes 5 = .ok (.iconst 0, 1) := by decide +kernel
theorem dX7_echoes_6 : decode cX7_echoes 6 = .ok (.iastore, 1) := by decide +kernel
theorem dX7_echoes_7 : decode cX7_echoes 7 = .ok (.dup, 1) := by decide +kernel
theorem dX7_echoes_8 : decode cX7_echoes 8 = .ok (.iconst 1, 1) := by decide +kernel
theorem dX7_echoes_9 : decode cX7_echoes 9 = .ok (.iconst 0, 1) := by decide +kernel
theorem dX7_echoes_10 : decode cX7_echoes 10 = .ok (.iastore, 1) := by decide +kernel
theorem dX7_echoes_11 : decode cX7_echoes 11 = .ok (.dup, 1) := by decide +kernel
theorem dX7_echoes_12 : decode cX7_echoes 12 = .ok (.iconst 2, 1) := by decide +kernel
theorem dX7_echoes_13 : decode cX7_echoes 13 = .ok (.iconst (-1), 1) := by decide +kernel
theorem dX7_echoes_14 : decode cX7_echoes 14 = .ok (.iastore, 1) := by decide +kernel
theorem dX7_echoes_15 : decode cX7_echoes 15 = .ok (.dup, 1) := by decide +kernel
theorem dX7_echoes_16 : decode cX7_echoes 16 = .ok (.iconst 3, 1) := by decide +kernel
theorem dX7_echoes_17 : decode cX7_echoes 17 = .ok (.iconst (-1), 1) := by decide +kernel
theorem dX7_echoes_18 : decode cX7_echoes 18 = .ok (.iastore, 1) := by decide +kernel
theorem dX7_echoes_19 : decode cX7_echoes 19 = .ok (.astore 5, 2) := by decide +kernel
theorem dX7_echoes_21 : decode cX7_echoes 21 = .ok (.iconst 0, 1) := by decide +kernel
theorem dX7_echoes_22 : decode cX7_echoes 22 = .ok (.istore 6, 2) := by decide +kernel
theorem dX7_echoes_24 : decode cX7_echoes 24 = .ok (.iload 6, 2) := by decide +kernel
theorem dX7_echoes_26 : decode cX7_echoes 26 = .ok (.aload_n 0, 1) := by decide +kernel
theorem dX7_echoes_27 : decode cX7_echoes 27 = .ok (.getfield 9, 3) := by decide +kernel
theorem dX7_echoes_30 : decode cX7_echoes 30 = .ok (.arraylength, 1) := by decide +kernel
theorem dX7_echoes_31 : decode cX7_echoes 31 = .ok (.if_icmp .ge 154, 3) := by decide +kernel
theorem dX7_echoes_34 : decode cX7_echoes 34 = .ok (.iload_n 1, 1) := by decide +kernel
theorem dX7_echoes_35 : decode cX7_echoes 35 = .ok (.istore 7, 2) := by decide +kernel
theorem dX7_echoes_37 : decode cX7_echoes 37 = .ok (.bipush 6, 2) := by decide +kernel
theorem dX7_echoes_39 : decode cX7_echoes 39 = .ok (.aload_n 0, 1) := by decide +kernel
theorem dX7_echoes_40 : decode cX7_echoes 40 = .ok (.getfield 9, 3) := by decide +kernel
theorem dX7_echoes_43 : decode cX7_echoes 43 = .ok (.iload 6, 2) := by decide +kernel
theorem dX7_echoes_45 : decode cX7_echoes 45 = .ok (.aaload, 1) := by decide +kernel
theorem dX7_echoes_46 : decode cX7_echoes 46 = .ok (.iconst 0, 1) := by decide +kernel
theorem dX7_echoes_47 : decode cX7_echoes 47 = .ok (.iaload, 1) := by decide +kernel
theorem dX7_echoes_48 : decode cX7_echoes 48 = .ok (.imul, 1) := by decide +kernel
theorem dX7_echoes_49 : decode cX7_echoes 49 = .ok (.istore 8, 2) := by decide +kernel
theorem dX7_echoes_51 : decode cX7_echoes 51 = .ok (.iload 8, 2) := by decide +kernel
theorem dX7_echoes_53 : decode cX7_echoes 53 = .ok (.sipush 3000, 3) := by decide +kernel
theorem dX7_echoes_56 : decode cX7_echoes 56 = .ok (.if_icmp .gt 123, 3) := by decide +kernel
theorem dX7_echoes_59 : decode cX7_echoes 59 = .ok (.iload 7, 2) := by decide +kernel
theorem dX7_echoes_61 : decode cX7_echoes 61 = .ok (.aload_n 0, 1) := by decide +kernel
theorem dX7_echoes_62 : decode cX7_echoes 62 = .ok (.iload 6, 2) := by decide +kernel
theorem dX7_echoes_64 : decode cX7_echoes 64 = .ok (.iload 4, 2) := by decide +kernel
theorem dX7_echoes_66 : decode cX7_echoes 66 = .ok (.invokevirtual 25, 3) := by decide +kernel
theorem dX7_echoes_69 : decode cX7_echoes 69 = .ok (.imul, 1) := by decide +kernel
theorem dX7_echoes_70 : decode cX7_echoes 70 = .ok (.bipush 100, 2) := by decide +kernel
theorem dX7_echoes_72 : decode cX7_echoes 72 = .ok (.idiv, 1) := by decide +kernel
theorem dX7_echoes_73 : decode cX7_echoes 73 = .ok (.istore 7, 2) := by decide +kernel
theorem dX7_echoes_75 : decode cX7_echoes 75 = .ok (.iload 7, 2) := by decide +kernel
theorem dX7_echoes_77 : decode cX7_echoes 77 = .ok (.bipush 100, 2) := by decide +kernel
theorem dX7_echoes_79 : decode cX7_echoes 79 = .ok (.iload_n 3, 1) := by decide +kernel
theorem dX7_echoes_80 : decode cX7_echoes 80 = .ok (.isub, 1) := by decide +kernel
theorem dX7_echoes_81 : decode cX7_echoes 81 = .ok (.imul, 1) := by decide +kernel
theorem dX7_echoes_82 : decode cX7_echoes 82 = .ok (.bipush 100, 2) := by decide +kernel
theorem dX7_echoes_84 : decode cX7_echoes 84 = .ok (.idiv, 1) := by decide +kernel
theorem dX7_echoes_85 : decode cX7_echoes 85 = .ok (.istore 7, 2) := by decide +kernel
theorem dX7_echoes_87 : decode cX7_echoes 87 = .ok (.iload 7, 2) := by decide +kernel
theorem dX7_echoes_89 : decode cX7_echoes 89 = .ok (.ifCond .ne 6, 3) := by decide +kernel
theorem dX7_echoes_92 : decode cX7_echoes 92 = .ok (.goto 87, 3) := by decide +kernel
theorem dX7_echoes_95 : decode cX7_echoes 95 = .ok (.aload 5, 2) := by decide +kernel
theorem dX7_echoes_97 : decode cX7_echoes 97 = .ok (.iconst 0, 1) := by decide +kernel
theorem dX7_echoes_98 : decode cX7_echoes 98 = .ok (.dup2, 1) := by decide +kernel
theorem dX7_echoes_99 : decode cX7_echoes 99 = .ok (.iaload, 1) := by decide +kernel
theorem dX7_echoes_100 : decode cX7_echoes 100 = .ok (.iconst 1, 1) := by decide +kernel
theorem dX7_echoes_101 : decode cX7_echoes 101 = .ok (.iadd, 1) := by decide +kernel
theorem dX7_echoes_102 : decode cX7_echoes 102 = .ok (.iastore, 1) := by decide +kernel
theorem dX7_echoes_103 : decode cX7_echoes 103 = .ok (.aload 5, 2) := by decide +kernel
theorem dX7_echoes_105 : decode cX7_echoes 105 = .ok (.iconst 1, 1) := by decide +kernel
theorem dX7_echoes_106 : decode cX7_echoes 106 = .ok (.dup2, 1) := by decide +kernel
theorem dX7_echoes_107 : decode cX7_echoes 107 = .ok (.iaload, 1) := by decide +kernel
theorem dX7_echoes_108 : decode cX7_echoes 108 = .ok (.iload 7, 2) := by decide +kernel
theorem dX7_echoes_110 : decode cX7_echoes 110 = .ok (.iload_n 2, 1) := by decide +kernel
theorem dX7_echoes_111 : decode cX7_echoes 111 = .ok (.if_icmp .lt 7, 3) := by decide +kernel
theorem dX7_echoes_114 : decode cX7_echoes 114 = .ok (.iconst 1, 1) := by decide +kernel
theorem dX7_echoes_115 : decode cX7_echoes 115 = .ok (.goto 4, 3) := by decide +kernel
theorem dX7_echoes_118 : decode cX7_echoes 118 = .ok (.iconst 0, 1) := by decide +kernel
theorem dX7_echoes_119 : decode cX7_echoes 119 = .ok (.iadd, 1) := by decide +kernel
theorem dX7_echoes_120 : decode cX7_echoes 120 = .ok (.iastore, 1) := by decide +kernel
theorem dX7_echoes_121 : decode cX7_echoes 121 = .ok (.aload 5, 2) := by decide +kernel
theorem dX7_echoes_123 : decode cX7_echoes 123 = .ok (.iconst 2, 1) := by decide +kernel
theorem dX7_echoes_124 : decode cX7_echoes 124 = .ok (.aload 5, 2) := by decide +kernel
theorem dX7_echoes_126 : decode cX7_echoes 126 = .ok (.iconst 2, 1) := by decide +kernel
theorem dX7_echoes_127 : decode cX7_echoes 127 = .ok (.iaload, 1) := by decide +kernel
theorem dX7_echoes_128 : decode cX7_echoes 128 = .ok (.ifCond .ge 8, 3) := by decide +kernel
theorem dX7_echoes_131 : decode cX7_echoes 131 = .ok (.iload 8, 2) := by decide +kernel
theorem dX7_echoes_133 : decode cX7_echoes 133 = .ok (.goto 12, 3) := by decide +kernel
theorem dX7_echoes_136 : decode cX7_echoes 136 = .ok (.aload 5, 2) := by decide +kernel
theorem dX7_echoes_138 : decode cX7_echoes 138 = .ok (.iconst 2, 1) := by decide +kernel
theorem dX7_echoes_139 : decode cX7_echoes 139 = .ok (.iaload, 1) := by decide +kernel
theorem dX7_echoes_140 : decode cX7_echoes 140 = .ok (.iload 8, 2) := by decide +kernel
theorem dX7_echoes_142 : decode cX7_echoes 142 = .ok (.invokestatic 28, 3) := by decide +kernel
theorem dX7_echoes_145 : decode cX7_echoes 145 = .ok (.iastore, 1) := by decide +kernel
theorem dX7_echoes_146 : decode cX7_echoes 146 = .ok (.aload 5, 2) := by decide +kernel
theorem dX7_echoes_148 : decode cX7_echoes 148 = .ok (.iconst 3, 1) := by decide +kernel
theorem dX7_echoes_149 : decode cX7_echoes 149 = .ok (.aload 5, 2) := by decide +kernel
theorem dX7_echoes_151 : decode cX7_echoes 151 = .ok (.iconst 3, 1) := by decide +kernel
theorem dX7_echoes_152 : decode cX7_echoes 152 = .ok (.iaload, 1) := by decide +kernel
theorem dX7_echoes_153 : decode cX7_echoes 153 = .ok (.iload 8, 2) := by decide +kernel
theorem dX7_echoes_155 : decode cX7_echoes 155 = .ok (.invokestatic 19, 3) := by decide +kernel
theorem dX7_echoes_158 : decode cX7_echoes 158 = .ok (.iastore, 1) := by decide +kernel
theorem dX7_echoes_159 : decode cX7_echoes 159 = .ok (.iload 8, 2) := by decide +kernel
theorem dX7_echoes_161 : decode cX7_echoes 161 = .ok (.bipush 6, 2) := by decide +kernel
theorem dX7_echoes_163 : decode cX7_echoes 163 = .ok (.aload_n 0, 1) := by decide +kernel
theorem dX7_echoes_164 : decode cX7_echoes 164 = .ok (.getfield 9, 3) := by decide +kernel
theorem dX7_echoes_167 : decode cX7_echoes 167 = .ok (.iload 6, 2) := by decide +kernel
theorem dX7_echoes_169 : decode cX7_echoes 169 = .ok (.aaload, 1) := by decide +kernel
theorem dX7_echoes_170 : decode cX7_echoes 170 = .ok (.iconst 0, 1) := by decide +kernel
theorem dX7_echoes_171 : decode cX7_echoes 171 = .ok (.iaload, 1) := by decide +kernel
theorem dX7_echoes_172 : decode cX7_echoes 172 = .ok (.imul, 1) := by decide +kernel
theorem dX7_echoes_173 : decode cX7_echoes 173 = .ok (.iadd, 1) := by decide +kernel
theorem dX7_echoes_174 : decode cX7_echoes 174 = .ok (.istore 8, 2) := by decide +kernel
theorem dX7_echoes_176 : decode cX7_echoes 176 = .ok (.goto (-125), 3) := by decide +kernel
theorem dX7_echoes_179 : decode cX7_echoes 179 = .ok (.iinc 6 1, 3) := by decide +kernel
theorem dX7_echoes_182 : decode cX7_echoes 182 = .ok (.goto (-158), 3) := by decide +kernel
theorem dX7_echoes_185 : decode cX7_echoes 185 = .ok (.aload 5, 2) := by decide +kernel
theorem dX7_echoes_187 : decode cX7_echoes 187 = .ok (.areturn, 1) := by decide +kernel
theorem dX7_meets_0 : decode cX7_meets 0 = .ok (.aload_n 0, 1) := by decide +kernel
theorem dX7_meets_1 : decode cX7_meets 1 = .ok (.sipush 1000, 3) := by decide +kernel
theorem dX7_meets_4 : decode cX7_meets 4 = .ok (.aload_n 1, 1) := by decide +kernel
theorem dX7_meets_5 : decode cX7_meets 5 = .ok (.iconst 1, 1) := by decide +kernel
theorem dX7_meets_6 : decode cX7_meets 6 = .ok (.iaload, 1) := by decide +kernel
theorem dX7_meets_7 : decode cX7_meets 7 = .ok (.iload_n 2, 1) := by decide +kernel
theorem dX7_meets_8 : decode cX7_meets 8 = .ok (.iload_n 3, 1) := by decide +kernel
theorem dX7_meets_9 : decode cX7_meets 9 = .ok (.invokevirtual 37, 3) := by decide +kernel
theorem dX7_meets_12 : decode cX7_meets 12 = .ok (.astore 4, 2) := by decide +kernel
theorem dX7_meets_14 : decode cX7_meets 14 = .ok (.aload 4, 2) := by decide +kernel
theorem dX7_meets_16 : decode cX7_meets 16 = .ok (.iconst 0, 1) := by decide +kernel
theorem dX7_meets_17 : decode cX7_meets 17 = .ok (.iaload, 1) := by decide +kernel
theorem dX7_meets_18 : decode cX7_meets 18 = .ok (.ifCond .eq 23, 3) := by decide +kernel
theorem dX7_meets_21 : decode cX7_meets 21 = .ok (.aload 4, 2) := by decide +kernel
theorem dX7_meets_23 : decode cX7_meets 23 = .ok (.iconst 2, 1) := by decide +kernel
theorem dX7_meets_24 : decode cX7_meets 24 = .ok (.iaload, 1) := by decide +kernel
theorem dX7_meets_25 : decode cX7_meets 25 = .ok (.aload_n 1, 1) := by decide +kernel
theorem dX7_meets_26 : decode cX7_meets 26 = .ok (.iconst 0, 1) := by decide +kernel
theorem dX7_meets_27 : decode cX7_meets 27 = .ok (.iaload, 1) := by decide +kernel
theorem dX7_meets_28 : decode cX7_meets 28 = .ok (.if_icmp .lt 27, 3) := by decide +kernel
theorem dX7_meets_31 : decode cX7_meets 31 = .ok (.aload 4, 2) := by decide +kernel
theorem dX7_meets_33 : decode cX7_meets 33 = .ok (.iconst 3, 1) := by decide +kernel
theorem dX7_meets_34 : decode cX7_meets 34 = .ok (.iaload, 1) := by decide +kernel
theorem dX7_meets_35 : decode cX7_meets 35 = .ok (.aload_n 1, 1) := by decide +kernel
theorem dX7_meets_36 : decode cX7_meets 36 = .ok (.iconst 3, 1) := by decide +kernel
theorem dX7_meets_37 : decode cX7_meets 37 = .ok (.iaload, 1) := by decide +kernel
theorem dX7_meets_38 : decode cX7_meets 38 = .ok (.if_icmp .gt 17, 3) := by decide +kernel
theorem dX7_meets_41 : decode cX7_meets 41 = .ok (.aload 4, 2) := by decide +kernel
theorem dX7_meets_43 : decode cX7_meets 43 = .ok (.iconst 1, 1) := by decide +kernel
theorem dX7_meets_44 : decode cX7_meets 44 = .ok (.iaload, 1) := by decide +kernel
theorem dX7_meets_45 : decode cX7_meets 45 = .ok (.aload_n 1, 1) := by decide +kernel
theorem dX7_meets_46 : decode cX7_meets 46 = .ok (.iconst 2, 1) := by decide +kernel
theorem dX7_meets_47 : decode cX7_meets 47 = .ok (.iaload, 1) := by decide +kernel
theorem dX7_meets_48 : decode cX7_meets 48 = .ok (.if_icmp .gt 7, 3) := by decide +kernel
theorem dX7_meets_51 : decode cX7_meets 51 = .ok (.iconst 1, 1) := by decide +kernel
theorem dX7_meets_52 : decode cX7_meets 52 = .ok (.goto 4, 3) := by decide +kernel
theorem dX7_meets_55 : decode cX7_meets 55 = .ok (.iconst 0, 1) := by decide +kernel
theorem dX7_meets_56 : decode cX7_meets 56 = .ok (.ireturn, 1) := by decide +kernel
theorem dX7_strike_0 : decode cX7_strike 0 = .ok (.aload_n 0, 1) := by decide +kernel
theorem dX7_strike_1 : decode cX7_strike 1 = .ok (.iconst (-1), 1) := by decide +kernel
theorem dX7_strike_2 : decode cX7_strike 2 = .ok (.putfield 15, 3) := by decide +kernel
theorem dX7_strike_5 : decode cX7_strike 5 = .ok (.aload_n 0, 1) := by decide +kernel
theorem dX7_strike_6 : decode cX7_strike 6 = .ok (.iconst 0, 1) := by decide +kernel
theorem dX7_strike_7 : decode cX7_strike 7 = .ok (.putfield 41, 3) := by decide +kernel
theorem dX7_strike_10 : decode cX7_strike 10 = .ok (.return_, 1) := by decide +kernel
