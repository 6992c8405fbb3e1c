theorem dX7_init_0 : decode cX7_init 0 = .ok (.aload_n 0, 1) := by decide +kernel
theorem dX7_init_1 : decode cX7_init 1 = .ok (.invokespecial 1, 3) := by decide +kernel
theorem dX7_init_4 : decode cX7_init 4 = .ok (.aload_n 0, 1) := by decide +kernel
theorem dX7_init_5 : decode cX7_init 5 = .ok (.bipush 8, 2) := by decide +kernel
theorem dX7_init_7 : decode cX7_init 7 = .ok (.newarray .int, 2) := by decide +kernel
theorem dX7_init_9 : decode cX7_init 9 = .ok (.putfield 9, 3) := by decide +kernel
theorem dX7_init_12 : decode cX7_init 12 = .ok (.aload_n 0, 1) := by decide +kernel
theorem dX7_init_13 : decode cX7_init 13 = .ok (.bipush 8, 2) := by decide +kernel
theorem dX7_init_15 : decode cX7_init 15 = .ok (.newarray .int, 2) := by decide +kernel
theorem dX7_init_17 : decode cX7_init 17 = .ok (.putfield 13, 3) := by decide +kernel
theorem dX7_init_20 : decode cX7_init 20 = .ok (.aload_n 0, 1) := by decide +kernel
theorem dX7_init_21 : decode cX7_init 21 = .ok (.bipush 8, 2) := by decide +kernel
theorem dX7_init_23 : decode cX7_init 23 = .ok (.newarray .int, 2) := by decide +kernel
theorem dX7_init_25 : decode cX7_init 25 = .ok (.putfield 16, 3) := by decide +kernel
theorem dX7_init_28 : decode cX7_init 28 = .ok (.aload_n 0, 1) := by decide +kernel
theorem dX7_init_29 : decode cX7_init 29 = .ok (.bipush 8, 2) := by decide +kernel
theorem dX7_init_31 : decode cX7_init 31 = .ok (.newarray .int, 2) := by decide +kernel
theorem dX7_init_33 : decode cX7_init 33 = .ok (.putfield 19, 3) := by decide +kernel
theorem dX7_init_36 : decode cX7_init 36 = .ok (.aload_n 0, 1) := by decide +kernel
theorem dX7_init_37 : decode cX7_init 37 = .ok (.bipush 8, 2) := by decide +kernel
theorem dX7_init_39 : decode cX7_init 39 = .ok (.newarray .int, 2) := by decide +kernel
theorem dX7_init_41 : decode cX7_init 41 = .ok (.putfield 22, 3) := by decide +kernel
theorem dX7_init_44 : decode cX7_init 44 = .ok (.aload_n 0, 1) := by decide +kernel
theorem dX7_init_45 : decode cX7_init 45 = .ok (.bipush 48, 2) := by decide +kernel
theorem dX7_init_47 : decode cX7_init 47 = .ok (.newarray .int, 2) := by decide +kernel
theorem dX7_init_49 : decode cX7_init 49 = .ok (.putfield 25, 3) := by decide +kernel
theorem dX7_init_52 : decode cX7_init 52 = .ok (.aload_n 0, 1) := by decide +kernel
theorem dX7_init_53 : decode cX7_init 53 = .ok (.bipush 48, 2) := by decide +kernel
theorem dX7_init_55 : decode cX7_init 55 = .ok (.newarray .int, 2) := by decide +kernel
theorem dX7_init_57 : decode cX7_init 57 = .ok (.putfield 28, 3) := by decide +kernel
theorem dX7_init_60 : decode cX7_init 60 = .ok (.aload_n 0, 1) := by decide +kernel
theorem dX7_init_61 : decode cX7_init 61 = .ok (.bipush 25, 2) := by decide +kernel
theorem dX7_init_63 : decode cX7_init 63 = .ok (.newarray .int, 2) := by decide +kernel
theorem dX7_init_65 : decode cX7_init 65 = .ok (.putfield 31, 3) := by decide +kernel
theorem dX7_init_68 : decode cX7_init 68 = .ok (.aload_n 0, 1) := by decide +kernel
theorem dX7_init_69 : decode cX7_init 69 = .ok (.sipush 3000, 3) := by decide +kernel
theorem dX7_init_72 : decode cX7_init 72 = .ok (.newarray .int, 2) := by decide +kernel
theorem dX7_init_74 : decode cX7_init 74 = .ok (.putfield 34, 3) := by decide +kernel
theorem dX7_init_77 : decode cX7_init 77 = .ok (.aload_n 0, 1) := by decide +kernel
theorem dX7_init_78 : decode cX7_init 78 = .ok (.bipush 6, 2) := by decide +kernel
theorem dX7_init_80 : decode cX7_init 80 = .ok (.newarray .int, 2) := by decide +kernel
theorem dX7_init_82 : decode cX7_init 82 = .ok (.putfield 37, 3) := by decide +kernel
theorem dX7_init_85 : decode cX7_init 85 = .ok (.aload_n 0, 1) := by decide +kernel
theorem dX7_init_86 : decode cX7_init 86 = .ok (.bipush 6, 2) := by decide +kernel
theorem dX7_init_88 : decode cX7_init 88 = .ok (.newarray .int, 2) := by decide +kernel
theorem dX7_init_90 : decode cX7_init 90 = .ok (.putfield 40, 3) := by decide +kernel
theorem dX7_init_93 : decode cX7_init 93 = .ok (.return_, 1) := by decide +kernel
theorem dX7_thrown_0 : decode cX7_thrown 0 = .ok (.aload_n 0, 1) := by decide +kernel
theorem dX7_thrown_1 : decode cX7_thrown 1 = .ok (.getfield 43, 3) := by decide +kernel
theorem dX7_thrown_4 : decode cX7_thrown 4 = .ok (.ireturn, 1) := by decide +kernel
theorem dX7_fail_0 : decode cX7_fail 0 = .ok (.aload_n 0, 1) := by decide +kernel
theorem dX7_fail_1 : decode cX7_fail 1 = .ok (.iload_n 1, 1) := by decide +kernel
theorem dX7_fail_2 : decode cX7_fail 2 = .ok (.putfield 43, 3) := by decide +kernel
theorem dX7_fail_5 : decode cX7_fail 5 = .ok (.iconst 0, 1) := by decide +kernel
theorem dX7_fail_6 : decode cX7_fail 6 = .ok (.ireturn, 1) := by decide +kernel
theorem dX7_failed_0 : decode cX7_failed 0 = .ok (.aload_n 0, 1) := by decide +kernel
theorem dX7_failed_1 : decode cX7_failed 1 = .ok (.iload_n 1, 1) := by decide +kernel
theorem dX7_failed_2 : decode cX7_failed 2 = .ok (.putfield 43, 3) := by decide +kernel
theorem dX7_failed_5 : decode cX7_failed 5 = .ok (.iconst 0, 1) := by decide +kernel
theorem dX7_failed_6 : decode cX7_failed 6 = .ok (.ireturn, 1) := by decide +kernel
theorem dX7_isIn_0 : decode cX7_isIn 0 = .ok (.iload_n 0, 1) := by decide +kernel
theorem dX7_isIn_1 : decode cX7_isIn 1 = .ok (.iload_n 1, 1) := by decide +kernel
theorem dX7_isIn_2 : decode cX7_isIn 2 = .ok (.if_icmp .lt 12, 3) := by decide +kernel
theorem dX7_isIn_5 : decode cX7_isIn 5 = .ok (.iload_n 0, 1) := by decide +kernel
theorem dX7_isIn_6 : decode cX7_isIn 6 = .ok (.iload_n 2, 1) := by decide +kernel
theorem dX7_isIn_7 : decode cX7_isIn 7 = .ok (.if_icmp .gt 7, 3) := by decide +kernel
theorem dX7_isIn_10 : decode cX7_isIn 10 = .ok (.iconst 1, 1) := by decide +kernel
theorem dX7_isIn_11 : decode cX7_isIn 11 = .ok (.goto 4, 3) := by decide +kernel
theorem dX7_isIn_14 : decode cX7_isIn 14 = .ok (.iconst 0, 1) := by decide +kernel
theorem dX7_isIn_15 : decode cX7_isIn 15 = .ok (.ireturn, 1) := by decide +kernel
theorem dX7_isHall_0 : decode cX7_isHall 0 = .ok (.iload_n 1, 1) := by decide +kernel
theorem dX7_isHall_1 : decode cX7_isHall 1 = .ok (.iconst 0, 1) := by decide +kernel
theorem dX7_isHall_2 : decode cX7_isHall 2 = .ok (.aload_n 0, 1) := by decide +kernel
theorem dX7_isHall_3 : decode cX7_isHall 3 = .ok (.getfield 47, 3) := by decide +kernel
theorem dX7_isHall_6 : decode cX7_isHall 6 = .ok (.iconst 1, 1) := by decide +kernel
theorem dX7_isHall_7 : decode cX7_isHall 7 = .ok (.isub, 1) := by decide +kernel
theorem dX7_isHall_8 : decode cX7_isHall 8 = .ok (.invokestatic 50, 3) := by decide +kernel
theorem dX7_isHall_11 : decode cX7_isHall 11 = .ok (.ireturn, 1) := by decide +kernel
theorem dX7_isStandard_0 : decode cX7_isStandard 0 = .ok (.iload_n 1, 1) := by decide +kernel
theorem dX7_isStandard_1 : decode cX7_isStandard 1 = .ok (.iconst 0, 1) := by decide +kernel
theorem dX7_isStandard_2 : decode cX7_isStandard 2 = .ok (.aload_n 0, 1) := by decide +kernel
theorem dX7_isStandard_3 : decode cX7_isStandard 3 = .ok (.getfield 54, 3) := by decide +kernel
theorem dX7_isStandard_6 : decode cX7_isStandard 6 = .ok (.iconst 1, 1) := by decide +kernel
theorem dX7_isStandard_7 : decode cX7_isStandard 7 = .ok (.isub, 1) := by decide +kernel
theorem dX7_isStandard_8 : decode cX7_isStandard 8 = .ok (.invokestatic 50, 3) := by decide +kernel
theorem dX7_isStandard_11 : decode cX7_isStandard 11 = .ok (.ireturn, 1) := by decide +kernel
theorem dX7_isSurface_0 : decode cX7_isSurface 0 = .ok (.aload_n 0, 1) := by decide +kernel
theorem dX7_isSurface_1 : decode cX7_isSurface 1 = .ok (.iload_n 1, 1) := by decide +kernel
theorem dX7_isSurface_2 : decode cX7_isSurface 2 = .ok (.invokevirtual 57, 3) := by decide +kernel
theorem dX7_isSurface_5 : decode cX7_isSurface 5 = .ok (.ifCond .eq 23, 3) := by decide +kernel
theorem dX7_isSurface_8 : decode cX7_isSurface 8 = .ok (.iload_n 2, 1) := by decide +kernel
theorem dX7_isSurface_9 : decode cX7_isSurface 9 = .ok (.iconst 0, 1) := by decide +kernel
theorem dX7_isSurface_10 : decode cX7_isSurface 10 = .ok (.aload_n 0, 1) := by decide +kernel
theorem dX7_isSurface_11 : decode cX7_isSurface 11 = .ok (.getfield 9, 3) := by decide +kernel
theorem dX7_isSurface_14 : decode cX7_isSurface 14 = .ok (.iload_n 1, 1) := by decide +kernel
theorem dX7_isSurface_15 : decode cX7_isSurface 15 = .ok (.iaload, 1) := by decide +kernel
theorem dX7_isSurface_16 : decode cX7_isSurface 16 = .ok (.iconst 1, 1) := by decide +kernel
theorem dX7_isSurface_17 : decode cX7_isSurface 17 = .ok (.isub, 1) := by decide +kernel
theorem dX7_isSurface_18 : decode cX7_isSurface 18 = .ok (.invokestatic 50, 3) := by decide +kernel
theorem dX7_isSurface_21 : decode cX7_isSurface 21 = .ok (.ifCond .eq 7, 3) := by decide +kernel
theorem dX7_isSurface_24 : decode cX7_isSurface 24 = .ok (.iconst 1, 1) := by decide +kernel
theorem dX7_isSurface_25 : decode cX7_isSurface 25 = .ok (.goto 4, 3) := by decide +kernel
theorem dX7_isSurface_28 : decode cX7_isSurface 28 = .ok (.iconst 0, 1) := by decide +kernel
theorem dX7_isSurface_29 : decode cX7_isSurface 29 = .ok (.ireturn, 1) := by decide +kernel
theorem dX7_rule_0 : decode cX7_rule 0 = .ok (.aload_n 0, 1) := by decide +kernel
theorem dX7_rule_1 : decode cX7_rule 1 = .ok (.getfield 31, 3) := by decide +kernel
theorem dX7_rule_4 : decode cX7_rule 4 = .ok (.iconst 5, 1) := by decide +kernel
theorem dX7_rule_5 : decode cX7_rule 5 = .ok (.iload_n 1, 1) := by decide +kernel
theorem dX7_rule_6 : decode cX7_rule 6 = .ok (.imul, 1) := by decide +kernel
theorem dX7_rule_7 : decode cX7_rule 7 = .ok (.iload_n 2, 1) := by decide +kernel
theorem dX7_rule_8 : decode cX7_rule 8 = .ok (.iadd, 1) := by decide +kernel
theorem dX7_rule_9 : decode cX7_rule 9 = .ok (.iaload, 1) := by decide +kernel
theorem dX7_rule_10 : decode cX7_rule 10 = .ok (.ireturn, 1) := by decide +kernel
theorem dX7_hard_0 : decode cX7_hard 0 = .ok (.iconst 0, 1) := by decide +kernel
theorem dX7_hard_1 : decode cX7_hard 1 = .ok (.aload_n 0, 1) := by decide +kernel
theorem dX7_hard_2 : decode cX7_hard 2 = .ok (.getfield 28, 3) := by decide +kernel
theorem dX7_hard_5 : decode cX7_hard 5 = .ok (.bipush 6, 2) := by decide +kernel
theorem dX7_hard_7 : decode cX7_hard 7 = .ok (.iload_n 1, 1) := by decide +kernel
theorem dX7_hard_8 : decode cX7_hard 8 = .ok (.imul, 1) := by decide +kernel
theorem dX7_hard_9 : decode cX7_hard 9 = .ok (.iload_n 2, 1) := by decide +kernel
theorem dX7_hard_10 : decode cX7_hard 10 = .ok (.iadd, 1) := by decide +kernel
theorem dX7_hard_11 : decode cX7_hard 11 = .ok (.iaload, 1) := by decide +kernel
theorem dX7_hard_12 : decode cX7_hard 12 = .ok (.iload_n 3, 1) := by decide +kernel
theorem dX7_hard_13 : decode cX7_hard 13 = .ok (.iconst 5, 1) := by decide +kernel
theorem dX7_hard_14 : decode cX7_hard 14 = .ok (.idiv, 1) := by decide +kernel
theorem dX7_hard_15 : decode cX7_hard 15 = .ok (.isub, 1) := by decide +kernel
theorem dX7_hard_16 : decode cX7_hard 16 = .ok (.invokestatic 61, 3) := by decide +kernel
theorem dX7_hard_19 : decode cX7_hard 19 = .ok (.ireturn, 1) := by decide +kernel
theorem dX7_click_0 : decode cX7_click 0 = .ok (.aload_n 0, 1) := by decide +kernel
theorem dX7_click_1 : decode cX7_click 1 = .ok (.aload_n 0, 1) := by decide +kernel
theorem dX7_click_2 : decode cX7_click 2 = .ok (.getfield 9, 3) := by decide +kernel
theorem dX7_click_5 : decode cX7_click 5 = .ok (.iload_n 1, 1) := by decide +kernel
theorem dX7_click_6 : decode cX7_click 6 = .ok (.iaload, 1) := by decide +kernel
theorem dX7_click_7 : decode cX7_click 7 = .ok (.putfield 67, 3) := by decide +kernel
theorem dX7_click_10 : decode cX7_click 10 = .ok (.iconst 0, 1) := by decide +kernel
theorem dX7_click_11 : decode cX7_click 11 = .ok (.istore 5, 2) := by decide +kernel
theorem dX7_click_13 : decode cX7_click 13 = .ok (.iload 5, 2) := by decide +kernel
theorem dX7_click_15 : decode cX7_click 15 = .ok (.aload_n 0, 1) := by decide +kernel
theorem dX7_click_16 : decode cX7_click 16 = .ok (.getfield 67, 3) := by decide +kernel
theorem dX7_click_19 : decode cX7_click 19 = .ok (.if_icmp .ge 130, 3) := by decide +kernel
theorem dX7_click_22 : decode cX7_click 22 = .ok (.aload_n 0, 1) := by decide +kernel
theorem dX7_click_23 : decode cX7_click 23 = .ok (.iload_n 1, 1) := by decide +kernel
theorem dX7_click_24 : decode cX7_click 24 = .ok (.iload 5, 2) := by decide +kernel
theorem dX7_click_26 : decode cX7_click 26 = .ok (.iload 4, 2) := by decide +kernel
theorem dX7_click_28 : decode cX7_click 28 = .ok (.invokevirtual 70, 3) := by decide +kernel
theorem dX7_click_31 : decode cX7_click 31 = .ok (.istore 6, 2) := by decide +kernel
theorem dX7_click_33 : decode cX7_click 33 = .ok (.iload_n 2, 1) := by decide +kernel
theorem dX7_click_34 : decode cX7_click 34 = .ok (.istore 7, 2) := by decide +kernel
theorem dX7_click_36 : decode cX7_click 36 = .ok (.aload_n 0, 1) := by decide +kernel
theorem dX7_click_37 : decode cX7_click 37 = .ok (.getfield 40, 3) := by decide +kernel
theorem dX7_click_40 : decode cX7_click 40 = .ok (.iload 5, 2) := by decide +kernel
theorem dX7_click_42 : decode cX7_click 42 = .ok (.bipush 6, 2) := by decide +kernel
theorem dX7_click_44 : decode cX7_click 44 = .ok (.aload_n 0, 1) := by decide +kernel
theorem dX7_click_45 : decode cX7_click 45 = .ok (.getfield 25, 3) := by decide +kernel
theorem dX7_click_48 : decode cX7_click 48 = .ok (.bipush 6, 2) := by decide +kernel
theorem dX7_click_50 : decode cX7_click 50 = .ok (.iload_n 1, 1) := by decide +kernel
theorem dX7_click_51 : decode cX7_click 51 = .ok (.imul, 1) := by decide +kernel
theorem dX7_click_52 : decode cX7_click 52 = .ok (.iload 5, 2) := by decide +kernel
theorem dX7_click_54 : decode cX7_click 54 = .ok (.iadd, 1) := by decide +kernel
theorem dX7_click_55 : decode cX7_click 55 = .ok (.iaload, 1) := by decide +kernel
theorem dX7_click_56 : decode cX7_click 56 = .ok (.imul, 1) := by decide +kernel
theorem dX7_click_57 : decode cX7_click 57 = .ok (.iastore, 1) := by decide +kernel
theorem dX7_click_58 : decode cX7_click 58 = .ok (.sipush 3000, 3) := by decide +kernel
theorem dX7_click_61 : decode cX7_click 61 = .ok (.aload_n 0, 1) := by decide +kernel
theorem dX7_click_62 : decode cX7_click 62 = .ok (.getfield 40, 3) := by decide +kernel
theorem dX7_click_65 : decode cX7_click 65 = .ok (.iload 5, 2) := by decide +kernel
theorem dX7_click_67 : decode cX7_click 67 = .ok (.iaload, 1) := by decide +kernel
theorem dX7_click_68 : decode cX7_click 68 = .ok (.idiv, 1) := by decide +kernel
theorem dX7_click_69 : decode cX7_click 69 = .ok (.istore 8, 2) := by decide +kernel
theorem dX7_click_71 : decode cX7_click 71 = .ok (.iconst 0, 1) := by decide +kernel
theorem dX7_click_72 : decode cX7_click 72 = .ok (.istore 9, 2) := by decide +kernel
theorem dX7_click_74 : decode cX7_click 74 = .ok (.iload 9, 2) := by decide +kernel
theorem dX7_click_76 : decode cX7_click 76 = .ok (.iload 8, 2) := by decide +kernel
theorem dX7_click_78 : decode cX7_click 78 = .ok (.if_icmp .ge 56, 3) := by decide +kernel
theorem dX7_click_81 : decode cX7_click 81 = .ok (.iload 7, 2) := by decide +kernel
theorem dX7_click_83 : decode cX7_click 83 = .ok (.ifCond .le 51, 3) := by decide +kernel
theorem dX7_click_86 : decode cX7_click 86 = .ok (.iload 7, 2) := by decide +kernel
theorem dX7_click_88 : decode cX7_click 88 = .ok (.iload 6, 2) := by decide +kernel
theorem dX7_click_90 : decode cX7_click 90 = .ok (.imul, 1) := by decide +kernel
theorem dX7_click_91 : decode cX7_click 91 = .ok (.bipush 100, 2) := by decide +kernel
theorem dX7_click_93 : decode cX7_click 93 = .ok (.idiv, 1) := by decide +kernel
theorem dX7_click_94 : decode cX7_click 94 = .ok (.bipush 100, 2) := by decide +kernel
theorem dX7_click_96 : decode cX7_click 96 = .ok (.iload_n 3, 1) := by decide +kernel
theorem dX7_click_97 : decode cX7_click 97 = .ok (.isub, 1) := by decide +kernel
theorem dX7_click_98 : decode cX7_click 98 = .ok (.imul, 1) := by decide +kernel
theorem dX7_click_99 : decode cX7_click 99 = .ok (.bipush 100, 2) := by decide +kernel
theorem dX7_click_101 : decode cX7_click 101 = .ok (.idiv, 1) := by decide +kernel
theorem dX7_click_102 : decode cX7_click 102 = .ok (.istore 7, 2) := by decide +kernel
theorem dX7_click_104 : decode cX7_click 104 = .ok (.iload 7, 2) := by decide +kernel
theorem dX7_click_106 : decode cX7_click 106 = .ok (.ifCond .ne 6, 3) := by decide +kernel
theorem dX7_click_109 : decode cX7_click 109 = .ok (.goto (-35), 3) := by decide +kernel
theorem dX7_click_112 : decode cX7_click 112 = .ok (.aload_n 0, 1) := by decide +kernel
theorem dX7_click_113 : decode cX7_click 113 = .ok (.getfield 34, 3) := by decide +kernel
theorem dX7_click_116 : decode cX7_click 116 = .ok (.sipush 500, 3) := by decide +kernel
theorem dX7_click_119 : decode cX7_click 119 = .ok (.iload 5, 2) := by decide +kernel
theorem dX7_click_121 : decode cX7_click 121 = .ok (.imul, 1) := by decide +kernel
theorem dX7_click_122 : decode cX7_click 122 = .ok (.iload 9, 2) := by decide +kernel
theorem dX7_click_124 : decode cX7_click 124 = .ok (.iadd, 1) := by decide +kernel
theorem dX7_click_125 : decode cX7_click 125 = .ok (.iload 7, 2) := by decide +kernel
theorem dX7_click_127 : decode cX7_click 127 = .ok (.iastore, 1) := by decide +kernel
theorem dX7_click_128 : decode cX7_click 128 = .ok (.iinc 9 1, 3) := by decide +kernel
theorem dX7_click_131 : decode cX7_click 131 = .ok (.goto (-57), 3) := by decide +kernel
theorem dX7_click_134 : decode cX7_click 134 = .ok (.aload_n 0, 1) := by decide +kernel
theorem dX7_click_135 : decode cX7_click 135 = .ok (.getfield 37, 3) := by decide +kernel
theorem dX7_click_138 : decode cX7_click 138 = .ok (.iload 5, 2) := by decide +kernel
theorem dX7_click_140 : decode cX7_click 140 = .ok (.iload 9, 2) := by decide +kernel
theorem dX7_click_142 : decode cX7_click 142 = .ok (.iastore, 1) := by decide +kernel
theorem dX7_click_143 : decode cX7_click 143 = .ok (.iinc 5 1, 3) := by decide +kernel
theorem dX7_click_146 : decode cX7_click 146 = .ok (.goto (-133), 3) := by decide +kernel
theorem dX7_click_149 : decode cX7_click 149 = .ok (.return_, 1) := by decide +kernel
theorem dX7_clickNow_0 : decode cX7_clickNow 0 = .ok (.aload_n 0, 1) := by decide +kernel
theorem dX7_clickNow_1 : decode cX7_clickNow 1 = .ok (.iload_n 1, 1) := by decide +kernel
theorem dX7_clickNow_2 : decode cX7_clickNow 2 = .ok (.iload_n 2, 1) := by decide +kernel
theorem dX7_clickNow_3 : decode cX7_clickNow 3 = .ok (.aload_n 0, 1) := by decide +kernel
theorem dX7_clickNow_4 : decode cX7_clickNow 4 = .ok (.getfield 13, 3) := by decide +kernel
theorem dX7_clickNow_7 : decode cX7_clickNow 7 = .ok (.iload_n 1, 1) := by decide +kernel
theorem dX7_clickNow_8 : decode cX7_clickNow 8 = .ok (.iaload, 1) := by decide +kernel
theorem dX7_clickNow_9 : decode cX7_clickNow 9 = .ok (.aload_n 0, 1) := by decide +kernel
theorem dX7_clickNow_10 : decode cX7_clickNow 10 = .ok (.getfield 16, 3) := by decide +kernel
theorem dX7_clickNow_13 : decode cX7_clickNow 13 = .ok (.iload_n 1, 1) := by decide +kernel
theorem dX7_clickNow_14 : decode cX7_clickNow 14 = .ok (.iaload, 1) := by decide +kernel
theorem dX7_clickNow_15 : decode cX7_clickNow 15 = .ok (.invokevirtual 74, 3) := by decide +kernel
theorem dX7_clickNow_18 : decode cX7_clickNow 18 = .ok (.return_, 1) := by decide +kernel
theorem dX7_all_0 : decode cX7_all 0 = .ok (.iconst 0, 1) := by decide +kernel
theorem dX7_all_1 : decode cX7_all 1 = .ok (.istore_n 1, 1) := by decide +kernel
theorem dX7_all_2 : decode cX7_all 2 = .ok (.iconst 0, 1) := by decide +kernel
theorem dX7_all_3 : decode cX7_all 3 = .ok (.istore_n 2, 1) := by decide +kernel
theorem dX7_all_4 : decode cX7_all 4 = .ok (.iload_n 2, 1) := by decide +kernel
theorem dX7_all_5 : decode cX7_all 5 = .ok (.aload_n 0, 1) := by decide +kernel
theorem dX7_all_6 : decode cX7_all 6 = .ok (.getfield 67, 3) := by decide +kernel
theorem dX7_all_9 : decode cX7_all 9 = .ok (.if_icmp .ge 18, 3) := by decide +kernel
theorem dX7_all_12 : decode cX7_all 12 = .ok (.iload_n 1, 1) := by decide +kernel
theorem dX7_all_13 : decode cX7_all 13 = .ok (.aload_n 0, 1) := by decide +kernel
theorem dX7_all_14 : decode cX7_all 14 = .ok (.getfield 37, 3) := by decide +kernel
theorem dX7_all_17 : decode cX7_all 17 = .ok (.iload_n 2, 1) := by decide +kernel
theorem dX7_all_18 : decode cX7_all 18 = .ok (.iaload, 1) := by decide +kernel
theorem dX7_all_19 : decode cX7_all 19 = .ok (.iadd, 1) := by decide +kernel
theorem dX7_all_20 : decode cX7_all 20 = .ok (.istore_n 1, 1) := by decide +kernel
theorem dX7_all_21 : decode cX7_all 21 = .ok (.iinc 2 1, 3) := by decide +kernel
theorem dX7_all_24 : decode cX7_all 24 = .ok (.goto (-20), 3) := by decide +kernel
theorem dX7_all_27 : decode cX7_all 27 = .ok (.iload_n 1, 1) := by decide +kernel
theorem dX7_all_28 : decode cX7_all 28 = .ok (.ireturn, 1) := by decide +kernel
theorem dX7_louder_0 : decode cX7_louder 0 = .ok (.iconst 0, 1) := by decide +kernel
theorem dX7_louder_1 : decode cX7_louder 1 = .ok (.istore_n 2, 1) := by decide +kernel
theorem dX7_louder_2 : decode cX7_louder 2 = .ok (.iconst 0, 1) := by decide +kernel
theorem dX7_louder_3 : decode cX7_louder 3 = .ok (.istore_n 3, 1) := by decide +kernel
theorem dX7_louder_4 : decode cX7_louder 4 = .ok (.iload_n 3, 1) := by decide +kernel
theorem dX7_louder_5 : decode cX7_louder 5 = .ok (.aload_n 0, 1) := by decide +kernel
theorem dX7_louder_6 : decode cX7_louder 6 = .ok (.getfield 67, 3) := by decide +kernel
theorem dX7_louder_9 : decode cX7_louder 9 = .ok (.if_icmp .ge 51, 3) := by decide +kernel
theorem dX7_louder_12 : decode cX7_louder 12 = .ok (.iconst 0, 1) := by decide +kernel
theorem dX7_louder_13 : decode cX7_louder 13 = .ok (.istore 4, 2) := by decide +kernel
theorem dX7_louder_15 : decode cX7_louder 15 = .ok (.iload 4, 2) := by decide +kernel
theorem dX7_louder_17 : decode cX7_louder 17 = .ok (.aload_n 0, 1) := by decide +kernel
theorem dX7_louder_18 : decode cX7_louder 18 = .ok (.getfield 37, 3) := by decide +kernel
theorem dX7_louder_21 : decode cX7_louder 21 = .ok (.iload_n 3, 1) := by decide +kernel
theorem dX7_louder_22 : decode cX7_louder 22 = .ok (.iaload, 1) := by decide +kernel
theorem dX7_louder_23 : decode cX7_louder 23 = .ok (.if_icmp .ge 26, 3) := by decide +kernel
theorem dX7_louder_26 : decode cX7_louder 26 = .ok (.aload_n 0, 1) := by decide +kernel
theorem dX7_louder_27 : decode cX7_louder 27 = .ok (.getfield 34, 3) := by decide +kernel
theorem dX7_louder_30 : decode cX7_louder 30 = .ok (.sipush 500, 3) := by decide +kernel
theorem dX7_louder_33 : decode cX7_louder 33 = .ok (.iload_n 3, 1) := by decide +kernel
theorem dX7_louder_34 : decode cX7_louder 34 = .ok (.imul, 1) := by decide +kernel
theorem dX7_louder_35 : decode cX7_louder 35 = .ok (.iload 4, 2) := by decide +kernel
theorem dX7_louder_37 : decode cX7_louder 37 = .ok (.iadd, 1) := by decide +kernel
theorem dX7_louder_38 : decode cX7_louder 38 = .ok (.iaload, 1) := by decide +kernel
theorem dX7_louder_39 : decode cX7_louder 39 = .ok (.iload_n 1, 1) := by decide +kernel
theorem dX7_louder_40 : decode cX7_louder 40 = .ok (.if_icmp .lt 9, 3) := by decide +kernel
theorem dX7_louder_43 : decode cX7_louder 43 = .ok (.iinc 4 1, 3) := by decide +kernel
theorem dX7_louder_46 : decode cX7_louder 46 = .ok (.goto (-31), 3) := by decide +kernel
theorem dX7_louder_49 : decode cX7_louder 49 = .ok (.iload_n 2, 1) := by decide +kernel
theorem dX7_louder_50 : decode cX7_louder 50 = .ok (.iload 4, 2) := by decide +kernel
theorem dX7_louder_52 : decode cX7_louder 52 = .ok (.iadd, 1) := by decide +kernel
theorem dX7_louder_53 : decode cX7_louder 53 = .ok (.istore_n 2, 1) := by decide +kernel
theorem dX7_louder_54 : decode cX7_louder 54 = .ok (.iinc 3 1, 3) := by decide +kernel
theorem dX7_louder_57 : decode cX7_louder 57 = .ok (.goto (-53), 3) := by decide +kernel
theorem dX7_louder_60 : decode cX7_louder 60 = .ok (.iload_n 2, 1) := by decide +kernel
theorem dX7_louder_61 : decode cX7_louder 61 = .ok (.ireturn, 1) := by decide +kernel
theorem dX7_first_0 : decode cX7_first 0 = .ok (.iconst (-1), 1) := by decide +kernel
theorem dX7_first_1 : decode cX7_first 1 = .ok (.istore_n 1, 1) := by decide +kernel
theorem dX7_first_2 : decode cX7_first 2 = .ok (.iconst 0, 1) := by decide +kernel
theorem dX7_first_3 : decode cX7_first 3 = .ok (.istore_n 2, 1) := by decide +kernel
theorem dX7_first_4 : decode cX7_first 4 = .ok (.iload_n 2, 1) := by decide +kernel
theorem dX7_first_5 : decode cX7_first 5 = .ok (.aload_n 0, 1) := by decide +kernel
theorem dX7_first_6 : decode cX7_first 6 = .ok (.getfield 67, 3) := by decide +kernel
theorem dX7_first_9 : decode cX7_first 9 = .ok (.if_icmp .ge 40, 3) := by decide +kernel
theorem dX7_first_12 : decode cX7_first 12 = .ok (.aload_n 0, 1) := by decide +kernel
theorem dX7_first_13 : decode cX7_first 13 = .ok (.getfield 37, 3) := by decide +kernel
theorem dX7_first_16 : decode cX7_first 16 = .ok (.iload_n 2, 1) := by decide +kernel
theorem dX7_first_17 : decode cX7_first 17 = .ok (.iaload, 1) := by decide +kernel
theorem dX7_first_18 : decode cX7_first 18 = .ok (.ifCond .le 25, 3) := by decide +kernel
theorem dX7_first_21 : decode cX7_first 21 = .ok (.iload_n 1, 1) := by decide +kernel
theorem dX7_first_22 : decode cX7_first 22 = .ok (.iconst (-1), 1) := by decide +kernel
theorem dX7_first_23 : decode cX7_first 23 = .ok (.if_icmp .eq 13, 3) := by decide +kernel
theorem dX7_first_26 : decode cX7_first 26 = .ok (.aload_n 0, 1) := by decide +kernel
theorem dX7_first_27 : decode cX7_first 27 = .ok (.getfield 40, 3) := by decide +kernel
theorem dX7_first_30 : decode cX7_first 30 = .ok (.iload_n 2, 1) := by decide +kernel
theorem dX7_first_31 : decode cX7_first 31 = .ok (.iaload, 1) := by decide +kernel
theorem dX7_first_32 : decode cX7_first 32 = .ok (.iload_n 1, 1) := by decide +kernel
theorem dX7_first_33 : decode cX7_first 33 = .ok (.if_icmp .ge 10, 3) := by decide +kernel
theorem dX7_first_36 : decode cX7_first 36 = .ok (.aload_n 0, 1) := by decide +kernel
theorem dX7_first_37 : decode cX7_first 37 = .ok (.getfield 40, 3) := by decide +kernel
theorem dX7_first_40 : decode cX7_first 40 = .ok (.iload_n 2, 1) := by decide +kernel
theorem dX7_first_41 : decode cX7_first 41 = .ok (.iaload, 1) := by decide +kernel
theorem dX7_first_42 : decode cX7_first 42 = .ok (.istore_n 1, 1) := by decide +kernel
theorem dX7_first_43 : decode cX7_first 43 = .ok (.iinc 2 1, 3) := by decide +kernel
theorem dX7_first_46 : decode cX7_first 46 = .ok (.goto (-42), 3) := by decide +kernel
theorem dX7_first_49 : decode cX7_first 49 = .ok (.iload_n 1, 1) := by decide +kernel
theorem dX7_first_50 : decode cX7_first 50 = .ok (.ireturn, 1) := by decide +kernel
theorem dX7_last_0 : decode cX7_last 0 = .ok (.iconst (-1), 1) := by decide +kernel
theorem dX7_last_1 : decode cX7_last 1 = .ok (.istore_n 1, 1) := by decide +kernel
theorem dX7_last_2 : decode cX7_last 2 = .ok (.iconst 0, 1) := by decide +kernel
theorem dX7_last_3 : decode cX7_last 3 = .ok (.istore_n 2, 1) := by decide +kernel
theorem dX7_last_4 : decode cX7_last 4 = .ok (.iload_n 2, 1) := by decide +kernel
theorem dX7_last_5 : decode cX7_last 5 = .ok (.aload_n 0, 1) := by decide +kernel
theorem dX7_last_6 : decode cX7_last 6 = .ok (.getfield 67, 3) := by decide +kernel
theorem dX7_last_9 : decode cX7_last 9 = .ok (.if_icmp .ge 36, 3) := by decide +kernel
theorem dX7_last_12 : decode cX7_last 12 = .ok (.aload_n 0, 1) := by decide +kernel
theorem dX7_last_13 : decode cX7_last 13 = .ok (.getfield 37, 3) := by decide +kernel
theorem dX7_last_16 : decode cX7_last 16 = .ok (.iload_n 2, 1) := by decide +kernel
theorem dX7_last_17 : decode cX7_last 17 = .ok (.iaload, 1) := by decide +kernel
theorem dX7_last_18 : decode cX7_last 18 = .ok (.ifCond .le 21, 3) := by decide +kernel
theorem dX7_last_21 : decode cX7_last 21 = .ok (.iload_n 1, 1) := by decide +kernel
theorem dX7_last_22 : decode cX7_last 22 = .ok (.aload_n 0, 1) := by decide +kernel
theorem dX7_last_23 : decode cX7_last 23 = .ok (.getfield 40, 3) := by decide +kernel
theorem dX7_last_26 : decode cX7_last 26 = .ok (.iload_n 2, 1) := by decide +kernel
theorem dX7_last_27 : decode cX7_last 27 = .ok (.iaload, 1) := by decide +kernel
theorem dX7_last_28 : decode cX7_last 28 = .ok (.aload_n 0, 1) := by decide +kernel
theorem dX7_last_29 : decode cX7_last 29 = .ok (.getfield 37, 3) := by decide +kernel
theorem dX7_last_32 : decode cX7_last 32 = .ok (.iload_n 2, 1) := by decide +kernel
theorem dX7_last_33 : decode cX7_last 33 = .ok (.iaload, 1) := by decide +kernel
theorem dX7_last_34 : decode cX7_last 34 = .ok (.imul, 1) := by decide +kernel
theorem dX7_last_35 : decode cX7_last 35 = .ok (.invokestatic 61, 3) := by decide +kernel
theorem dX7_last_38 : decode cX7_last 38 = .ok (.istore_n 1, 1) := by decide +kernel
theorem dX7_last_39 : decode cX7_last 39 = .ok (.iinc 2 1, 3) := by decide +kernel
theorem dX7_last_42 : decode cX7_last 42 = .ok (.goto (-38), 3) := by decide +kernel
theorem dX7_last_45 : decode cX7_last 45 = .ok (.iload_n 1, 1) := by decide +kernel
theorem dX7_last_46 : decode cX7_last 46 = .ok (.ireturn, 1) := by decide +kernel
theorem dX7_at_0 : decode cX7_at 0 = .ok (.iconst 0, 1) := by decide +kernel
theorem dX7_at_1 : decode cX7_at 1 = .ok (.istore_n 2, 1) := by decide +kernel
theorem dX7_at_2 : decode cX7_at 2 = .ok (.iconst 0, 1) := by decide +kernel
theorem dX7_at_3 : decode cX7_at 3 = .ok (.istore_n 3, 1) := by decide +kernel
theorem dX7_at_4 : decode cX7_at 4 = .ok (.iload_n 3, 1) := by decide +kernel
theorem dX7_at_5 : decode cX7_at 5 = .ok (.aload_n 0, 1) := by decide +kernel
theorem dX7_at_6 : decode cX7_at 6 = .ok (.getfield 67, 3) := by decide +kernel
theorem dX7_at_9 : decode cX7_at 9 = .ok (.if_icmp .ge 64, 3) := by decide +kernel
theorem dX7_at_12 : decode cX7_at 12 = .ok (.iload_n 1, 1) := by decide +kernel
theorem dX7_at_13 : decode cX7_at 13 = .ok (.aload_n 0, 1) := by decide +kernel
theorem dX7_at_14 : decode cX7_at 14 = .ok (.getfield 40, 3) := by decide +kernel
theorem dX7_at_17 : decode cX7_at 17 = .ok (.iload_n 3, 1) := by decide +kernel
theorem dX7_at_18 : decode cX7_at 18 = .ok (.iaload, 1) := by decide +kernel
theorem dX7_at_19 : decode cX7_at 19 = .ok (.idiv, 1) := by decide +kernel
theorem dX7_at_20 : decode cX7_at 20 = .ok (.istore 4, 2) := by decide +kernel
theorem dX7_at_22 : decode cX7_at 22 = .ok (.iload_n 1, 1) := by decide +kernel
theorem dX7_at_23 : decode cX7_at 23 = .ok (.aload_n 0, 1) := by decide +kernel
theorem dX7_at_24 : decode cX7_at 24 = .ok (.getfield 40, 3) := by decide +kernel
theorem dX7_at_27 : decode cX7_at 27 = .ok (.iload_n 3, 1) := by decide +kernel
theorem dX7_at_28 : decode cX7_at 28 = .ok (.iaload, 1) := by decide +kernel
theorem dX7_at_29 : decode cX7_at 29 = .ok (.irem, 1) := by decide +kernel
theorem dX7_at_30 : decode cX7_at 30 = .ok (.ifCond .ne 37, 3) := by decide +kernel
theorem dX7_at_33 : decode cX7_at 33 = .ok (.iload 4, 2) := by decide +kernel
theorem dX7_at_35 : decode cX7_at 35 = .ok (.ifCond .le 32, 3) := by decide +kernel
theorem dX7_at_38 : decode cX7_at 38 = .ok (.iload 4, 2) := by decide +kernel
theorem dX7_at_40 : decode cX7_at 40 = .ok (.aload_n 0, 1) := by decide +kernel
theorem dX7_at_41 : decode cX7_at 41 = .ok (.getfield 37, 3) := by decide +kernel
theorem dX7_at_44 : decode cX7_at 44 = .ok (.iload_n 3, 1) := by decide +kernel
theorem dX7_at_45 : decode cX7_at 45 = .ok (.iaload, 1) := by decide +kernel
theorem dX7_at_46 : decode cX7_at 46 = .ok (.if_icmp .gt 21, 3) := by decide +kernel
theorem dX7_at_49 : decode cX7_at 49 = .ok (.iload_n 2, 1) := by decide +kernel
theorem dX7_at_50 : decode cX7_at 50 = .ok (.aload_n 0, 1) := by decide +kernel
theorem dX7_at_51 : decode cX7_at 51 = .ok (.getfield 34, 3) := by decide +kernel
theorem dX7_at_54 : decode cX7_at 54 = .ok (.sipush 500, 3) := by decide +kernel
theorem dX7_at_57 : decode cX7_at 57 = .ok (.iload_n 3, 1) := by decide +kernel
theorem dX7_at_58 : decode cX7_at 58 = .ok (.imul, 1) := by decide +kernel
theorem dX7_at_59 : decode cX7_at 59 = .ok (.iload 4, 2) := by decide +kernel
theorem dX7_at_61 : decode cX7_at 61 = .ok (.iadd, 1) := by decide +kernel
theorem dX7_at_62 : decode cX7_at 62 = .ok (.iconst 1, 1) := by decide +kernel
theorem dX7_at_63 : decode cX7_at 63 = .ok (.isub, 1) := by decide +kernel
theorem dX7_at_64 : decode cX7_at 64 = .ok (.iaload, 1) := by decide +kernel
theorem dX7_at_65 : decode cX7_at 65 = .ok (.iadd, 1) := by decide +kernel
theorem dX7_at_66 : decode cX7_at 66 = .ok (.istore_n 2, 1) := by decide +kernel
theorem dX7_at_67 : decode cX7_at 67 = .ok (.iinc 3 1, 3) := by decide +kernel
theorem dX7_at_70 : decode cX7_at 70 = .ok (.goto (-66), 3) := by decide +kernel
theorem dX7_at_73 : decode cX7_at 73 = .ok (.iload_n 2, 1) := by decide +kernel
theorem dX7_at_74 : decode cX7_at 74 = .ok (.ireturn, 1) := by decide +kernel
theorem dX7_loudest_0 : decode cX7_loudest 0 = .ok (.iconst (-1), 1) := by decide +kernel
theorem dX7_loudest_1 : decode cX7_loudest 1 = .ok (.istore_n 1, 1) := by decide +kernel
theorem dX7_loudest_2 : decode cX7_loudest 2 = .ok (.iconst 0, 1) := by decide +kernel
theorem dX7_loudest_3 : decode cX7_loudest 3 = .ok (.istore_n 2, 1) := by decide +kernel
theorem dX7_loudest_4 : decode cX7_loudest 4 = .ok (.iconst 0, 1) := by decide +kernel
theorem dX7_loudest_5 : decode cX7_loudest 5 = .ok (.istore_n 3, 1) := by decide +kernel
theorem dX7_loudest_6 : decode cX7_loudest 6 = .ok (.iload_n 3, 1) := by decide +kernel
theorem dX7_loudest_7 : decode cX7_loudest 7 = .ok (.aload_n 0, 1) := by decide +kernel
theorem dX7_loudest_8 : decode cX7_loudest 8 = .ok (.getfield 67, 3) := by decide +kernel
theorem dX7_loudest_11 : decode cX7_loudest 11 = .ok (.if_icmp .ge 75, 3) := by decide +kernel
theorem dX7_loudest_14 : decode cX7_loudest 14 = .ok (.iconst 1, 1) := by decide +kernel
theorem dX7_loudest_15 : decode cX7_loudest 15 = .ok (.istore 4, 2) := by decide +kernel
theorem dX7_loudest_17 : decode cX7_loudest 17 = .ok (.iload 4, 2) := by decide +kernel
theorem dX7_loudest_19 : decode cX7_loudest 19 = .ok (.aload_n 0, 1) := by decide +kernel
theorem dX7_loudest_20 : decode cX7_loudest 20 = .ok (.getfield 37, 3) := by decide +kernel
theorem dX7_loudest_23 : decode cX7_loudest 23 = .ok (.iload_n 3, 1) := by decide +kernel
theorem dX7_loudest_24 : decode cX7_loudest 24 = .ok (.iaload, 1) := by decide +kernel
theorem dX7_loudest_25 : decode cX7_loudest 25 = .ok (.if_icmp .gt 55, 3) := by decide +kernel
theorem dX7_loudest_28 : decode cX7_loudest 28 = .ok (.aload_n 0, 1) := by decide +kernel
theorem dX7_loudest_29 : decode cX7_loudest 29 = .ok (.getfield 40, 3) := by decide +kernel
theorem dX7_loudest_32 : decode cX7_loudest 32 = .ok (.iload_n 3, 1) := by decide +kernel
theorem dX7_loudest_33 : decode cX7_loudest 33 = .ok (.iaload, 1) := by decide +kernel
theorem dX7_loudest_34 : decode cX7_loudest 34 = .ok (.iload 4, 2) := by decide +kernel
theorem dX7_loudest_36 : decode cX7_loudest 36 = .ok (.imul, 1) := by decide +kernel
theorem dX7_loudest_37 : decode cX7_loudest 37 = .ok (.istore 5, 2) := by decide +kernel
theorem dX7_loudest_39 : decode cX7_loudest 39 = .ok (.aload_n 0, 1) := by decide +kernel
theorem dX7_loudest_40 : decode cX7_loudest 40 = .ok (.iload 5, 2) := by decide +kernel
theorem dX7_loudest_42 : decode cX7_loudest 42 = .ok (.invokevirtual 78, 3) := by decide +kernel
theorem dX7_loudest_45 : decode cX7_loudest 45 = .ok (.istore 6, 2) := by decide +kernel
theorem dX7_loudest_47 : decode cX7_loudest 47 = .ok (.iload 6, 2) := by decide +kernel
theorem dX7_loudest_49 : decode cX7_loudest 49 = .ok (.iload_n 2, 1) := by decide +kernel
theorem dX7_loudest_50 : decode cX7_loudest 50 = .ok (.if_icmp .lt 24, 3) := by decide +kernel
theorem dX7_loudest_53 : decode cX7_loudest 53 = .ok (.iload 6, 2) := by decide +kernel
theorem dX7_loudest_55 : decode cX7_loudest 55 = .ok (.iload_n 2, 1) := by decide +kernel
theorem dX7_loudest_56 : decode cX7_loudest 56 = .ok (.if_icmp .ne 12, 3) := by decide +kernel
theorem dX7_loudest_59 : decode cX7_loudest 59 = .ok (.iload 5, 2) := by decide +kernel
theorem dX7_loudest_61 : decode cX7_loudest 61 = .ok (.iload_n 1, 1) := by decide +kernel
theorem dX7_loudest_62 : decode cX7_loudest 62 = .ok (.if_icmp .lt 6, 3) := by decide +kernel
theorem dX7_loudest_65 : decode cX7_loudest 65 = .ok (.goto 9, 3) := by decide +kernel
theorem dX7_loudest_68 : decode cX7_loudest 68 = .ok (.iload 5, 2) := by decide +kernel
theorem dX7_loudest_70 : decode cX7_loudest 70 = .ok (.istore_n 1, 1) := by decide +kernel
theorem dX7_loudest_71 : decode cX7_loudest 71 = .ok (.iload 6, 2) := by decide +kernel
theorem dX7_loudest_73 : decode cX7_loudest 73 = .ok (.istore_n 2, 1) := by decide +kernel
theorem dX7_loudest_74 : decode cX7_loudest 74 = .ok (.iinc 4 1, 3) := by decide +kernel
theorem dX7_loudest_77 : decode cX7_loudest 77 = .ok (.goto (-60), 3) := by decide +kernel
theorem dX7_loudest_80 : decode cX7_loudest 80 = .ok (.iinc 3 1, 3) := by decide +kernel
theorem dX7_loudest_83 : decode cX7_loudest 83 = .ok (.goto (-77), 3) := by decide +kernel
theorem dX7_loudest_86 : decode cX7_loudest 86 = .ok (.iload_n 1, 1) := by decide +kernel
theorem dX7_loudest_87 : decode cX7_loudest 87 = .ok (.ireturn, 1) := by decide +kernel
theorem dX7_meets_0 : decode cX7_meets 0 = .ok (.aload_n 0, 1) := by decide +kernel
theorem dX7_meets_1 : decode cX7_meets 1 = .ok (.iload_n 1, 1) := by decide +kernel
theorem dX7_meets_2 : decode cX7_meets 2 = .ok (.sipush 1000, 3) := by decide +kernel
theorem dX7_meets_5 : decode cX7_meets 5 = .ok (.iload_n 3, 1) := by decide +kernel
theorem dX7_meets_6 : decode cX7_meets 6 = .ok (.iload 4, 2) := by decide +kernel
theorem dX7_meets_8 : decode cX7_meets 8 = .ok (.invokevirtual 74, 3) := by decide +kernel
theorem dX7_meets_11 : decode cX7_meets 11 = .ok (.aload_n 0, 1) := by decide +kernel
theorem dX7_meets_12 : decode cX7_meets 12 = .ok (.invokevirtual 82, 3) := by decide +kernel
theorem dX7_meets_15 : decode cX7_meets 15 = .ok (.ifCond .eq 29, 3) := by decide +kernel
theorem dX7_meets_18 : decode cX7_meets 18 = .ok (.aload_n 0, 1) := by decide +kernel
theorem dX7_meets_19 : decode cX7_meets 19 = .ok (.invokevirtual 86, 3) := by decide +kernel
theorem dX7_meets_22 : decode cX7_meets 22 = .ok (.aload_n 0, 1) := by decide +kernel
theorem dX7_meets_23 : decode cX7_meets 23 = .ok (.iload_n 2, 1) := by decide +kernel
theorem dX7_meets_24 : decode cX7_meets 24 = .ok (.iconst 0, 1) := by decide +kernel
theorem dX7_meets_25 : decode cX7_meets 25 = .ok (.invokevirtual 89, 3) := by decide +kernel
theorem dX7_meets_28 : decode cX7_meets 28 = .ok (.if_icmp .lt 39, 3) := by decide +kernel
theorem dX7_meets_31 : decode cX7_meets 31 = .ok (.aload_n 0, 1) := by decide +kernel
theorem dX7_meets_32 : decode cX7_meets 32 = .ok (.invokevirtual 92, 3) := by decide +kernel
theorem dX7_meets_35 : decode cX7_meets 35 = .ok (.aload_n 0, 1) := by decide +kernel
theorem dX7_meets_36 : decode cX7_meets 36 = .ok (.iload_n 2, 1) := by decide +kernel
theorem dX7_meets_37 : decode cX7_meets 37 = .ok (.iconst 3, 1) := by decide +kernel
theorem dX7_meets_38 : decode cX7_meets 38 = .ok (.invokevirtual 89, 3) := by decide +kernel
theorem dX7_meets_41 : decode cX7_meets 41 = .ok (.if_icmp .gt 26, 3) := by decide +kernel
theorem dX7_meets_44 : decode cX7_meets 44 = .ok (.aload_n 0, 1) := by decide +kernel
theorem dX7_meets_45 : decode cX7_meets 45 = .ok (.aload_n 0, 1) := by decide +kernel
theorem dX7_meets_46 : decode cX7_meets 46 = .ok (.iload_n 2, 1) := by decide +kernel
theorem dX7_meets_47 : decode cX7_meets 47 = .ok (.iconst 1, 1) := by decide +kernel
theorem dX7_meets_48 : decode cX7_meets 48 = .ok (.invokevirtual 89, 3) := by decide +kernel
theorem dX7_meets_51 : decode cX7_meets 51 = .ok (.invokevirtual 95, 3) := by decide +kernel
theorem dX7_meets_54 : decode cX7_meets 54 = .ok (.aload_n 0, 1) := by decide +kernel
theorem dX7_meets_55 : decode cX7_meets 55 = .ok (.iload_n 2, 1) := by decide +kernel
theorem dX7_meets_56 : decode cX7_meets 56 = .ok (.iconst 2, 1) := by decide +kernel
theorem dX7_meets_57 : decode cX7_meets 57 = .ok (.invokevirtual 89, 3) := by decide +kernel
theorem dX7_meets_60 : decode cX7_meets 60 = .ok (.if_icmp .gt 7, 3) := by decide +kernel
theorem dX7_meets_63 : decode cX7_meets 63 = .ok (.iconst 1, 1) := by decide +kernel
theorem dX7_meets_64 : decode cX7_meets 64 = .ok (.goto 4, 3) := by decide +kernel
theorem dX7_meets_67 : decode cX7_meets 67 = .ok (.iconst 0, 1) := by decide +kernel
theorem dX7_meets_68 : decode cX7_meets 68 = .ok (.ireturn, 1) := by decide +kernel
theorem dX7_meetsNow_0 : decode cX7_meetsNow 0 = .ok (.aload_n 0, 1) := by decide +kernel
theorem dX7_meetsNow_1 : decode cX7_meetsNow 1 = .ok (.iload_n 1, 1) := by decide +kernel
theorem dX7_meetsNow_2 : decode cX7_meetsNow 2 = .ok (.iload_n 2, 1) := by decide +kernel
theorem dX7_meetsNow_3 : decode cX7_meetsNow 3 = .ok (.aload_n 0, 1) := by decide +kernel
theorem dX7_meetsNow_4 : decode cX7_meetsNow 4 = .ok (.getfield 13, 3) := by decide +kernel
theorem dX7_meetsNow_7 : decode cX7_meetsNow 7 = .ok (.iload_n 1, 1) := by decide +kernel
theorem dX7_meetsNow_8 : decode cX7_meetsNow 8 = .ok (.iaload, 1) := by decide +kernel
theorem dX7_meetsNow_9 : decode cX7_meetsNow 9 = .ok (.aload_n 0, 1) := by decide +kernel
theorem dX7_meetsNow_10 : decode cX7_meetsNow 10 = .ok (.getfield 16, 3) := by decide +kernel
theorem dX7_meetsNow_13 : decode cX7_meetsNow 13 = .ok (.iload_n 1, 1) := by decide +kernel
theorem dX7_meetsNow_14 : decode cX7_meetsNow 14 = .ok (.iaload, 1) := by decide +kernel
theorem dX7_meetsNow_15 : decode cX7_meetsNow 15 = .ok (.invokevirtual 98, 3) := by decide +kernel
theorem dX7_meetsNow_18 : decode cX7_meetsNow 18 = .ok (.ireturn, 1) := by decide +kernel
theorem dX7_addHall_0 : decode cX7_addHall 0 = .ok (.aload_n 0, 1) := by decide +kernel
theorem dX7_addHall_1 : decode cX7_addHall 1 = .ok (.iconst 0, 1) := by decide +kernel
theorem dX7_addHall_2 : decode cX7_addHall 2 = .ok (.putfield 43, 3) := by decide +kernel
theorem dX7_addHall_5 : decode cX7_addHall 5 = .ok (.iload_n 1, 1) := by decide +kernel
theorem dX7_addHall_6 : decode cX7_addHall 6 = .ok (.iconst 0, 1) := by decide +kernel
theorem dX7_addHall_7 : decode cX7_addHall 7 = .ok (.bipush 90, 2) := by decide +kernel
theorem dX7_addHall_9 : decode cX7_addHall 9 = .ok (.invokestatic 50, 3) := by decide +kernel
theorem dX7_addHall_12 : decode cX7_addHall 12 = .ok (.ifCond .ne 9, 3) := by decide +kernel
theorem dX7_addHall_15 : decode cX7_addHall 15 = .ok (.aload_n 0, 1) := by decide +kernel
theorem dX7_addHall_16 : decode cX7_addHall 16 = .ok (.iconst 1, 1) := by decide +kernel
theorem dX7_addHall_17 : decode cX7_addHall 17 = .ok (.invokevirtual 102, 3) := by decide +kernel
theorem dX7_addHall_20 : decode cX7_addHall 20 = .ok (.ireturn, 1) := by decide +kernel
theorem dX7_addHall_21 : decode cX7_addHall 21 = .ok (.aload_n 0, 1) := by decide +kernel
theorem dX7_addHall_22 : decode cX7_addHall 22 = .ok (.getfield 47, 3) := by decide +kernel
theorem dX7_addHall_25 : decode cX7_addHall 25 = .ok (.bipush 8, 2) := by decide +kernel
theorem dX7_addHall_27 : decode cX7_addHall 27 = .ok (.if_icmp .ne 9, 3) := by decide +kernel
theorem dX7_addHall_30 : decode cX7_addHall 30 = .ok (.aload_n 0, 1) := by decide +kernel
theorem dX7_addHall_31 : decode cX7_addHall 31 = .ok (.iconst 2, 1) := by decide +kernel
theorem dX7_addHall_32 : decode cX7_addHall 32 = .ok (.invokevirtual 102, 3) := by decide +kernel
theorem dX7_addHall_35 : decode cX7_addHall 35 = .ok (.ireturn, 1) := by decide +kernel
theorem dX7_addHall_36 : decode cX7_addHall 36 = .ok (.aload_n 0, 1) := by decide +kernel
theorem dX7_addHall_37 : decode cX7_addHall 37 = .ok (.getfield 13, 3) := by decide +kernel
theorem dX7_addHall_40 : decode cX7_addHall 40 = .ok (.aload_n 0, 1) := by decide +kernel
theorem dX7_addHall_41 : decode cX7_addHall 41 = .ok (.getfield 47, 3) := by decide +kernel
theorem dX7_addHall_44 : decode cX7_addHall 44 = .ok (.iload_n 1, 1) := by decide +kernel
theorem dX7_addHall_45 : decode cX7_addHall 45 = .ok (.iastore, 1) := by decide +kernel
theorem dX7_addHall_46 : decode cX7_addHall 46 = .ok (.aload_n 0, 1) := by decide +kernel
theorem dX7_addHall_47 : decode cX7_addHall 47 = .ok (.getfield 19, 3) := by decide +kernel
theorem dX7_addHall_50 : decode cX7_addHall 50 = .ok (.aload_n 0, 1) := by decide +kernel
theorem dX7_addHall_51 : decode cX7_addHall 51 = .ok (.getfield 47, 3) := by decide +kernel
theorem dX7_addHall_54 : decode cX7_addHall 54 = .ok (.iconst (-1), 1) := by decide +kernel
theorem dX7_addHall_55 : decode cX7_addHall 55 = .ok (.iastore, 1) := by decide +kernel
theorem dX7_addHall_56 : decode cX7_addHall 56 = .ok (.aload_n 0, 1) := by decide +kernel
theorem dX7_addHall_57 : decode cX7_addHall 57 = .ok (.dup, 1) := by decide +kernel
theorem dX7_addHall_58 : decode cX7_addHall 58 = .ok (.getfield 47, 3) := by decide +kernel
theorem dX7_addHall_61 : decode cX7_addHall 61 = .ok (.iconst 1, 1) := by decide +kernel
theorem dX7_addHall_62 : decode cX7_addHall 62 = .ok (.iadd, 1) := by decide +kernel
theorem dX7_addHall_63 : decode cX7_addHall 63 = .ok (.putfield 47, 3) := by decide +kernel
theorem dX7_addHall_66 : decode cX7_addHall 66 = .ok (.aload_n 0, 1) := by decide +kernel
theorem dX7_addHall_67 : decode cX7_addHall 67 = .ok (.getfield 47, 3) := by decide +kernel
theorem dX7_addHall_70 : decode cX7_addHall 70 = .ok (.iconst 1, 1) := by decide +kernel
theorem dX7_addHall_71 : decode cX7_addHall 71 = .ok (.isub, 1) := by decide +kernel
theorem dX7_addHall_72 : decode cX7_addHall 72 = .ok (.ireturn, 1) := by decide +kernel
theorem dX7_strike_0 : decode cX7_strike 0 = .ok (.aload_n 0, 1) := by decide +kernel
theorem dX7_strike_1 : decode cX7_strike 1 = .ok (.getfield 19, 3) := by decide +kernel
theorem dX7_strike_4 : decode cX7_strike 4 = .ok (.iload_n 1, 1) := by decide +kernel
theorem dX7_strike_5 : decode cX7_strike 5 = .ok (.iconst (-1), 1) := by decide +kernel
theorem dX7_strike_6 : decode cX7_strike 6 = .ok (.iastore, 1) := by decide +kernel
theorem dX7_strike_7 : decode cX7_strike 7 = .ok (.aload_n 0, 1) := by decide +kernel
theorem dX7_strike_8 : decode cX7_strike 8 = .ok (.getfield 22, 3) := by decide +kernel
theorem dX7_strike_11 : decode cX7_strike 11 = .ok (.iload_n 1, 1) := by decide +kernel
theorem dX7_strike_12 : decode cX7_strike 12 = .ok (.iconst 0, 1) := by decide +kernel
theorem dX7_strike_13 : decode cX7_strike 13 = .ok (.iastore, 1) := by decide +kernel
theorem dX7_strike_14 : decode cX7_strike 14 = .ok (.return_, 1) := by decide +kernel
theorem dX7_addSurface_0 : decode cX7_addSurface 0 = .ok (.aload_n 0, 1) := by decide +kernel
theorem dX7_addSurface_1 : decode cX7_addSurface 1 = .ok (.iconst 0, 1) := by decide +kernel
theorem dX7_addSurface_2 : decode cX7_addSurface 2 = .ok (.putfield 43, 3) := by decide +kernel
theorem dX7_addSurface_5 : decode cX7_addSurface 5 = .ok (.aload_n 0, 1) := by decide +kernel
theorem dX7_addSurface_6 : decode cX7_addSurface 6 = .ok (.iload_n 1, 1) := by decide +kernel
theorem dX7_addSurface_7 : decode cX7_addSurface 7 = .ok (.invokevirtual 57, 3) := by decide +kernel
theorem dX7_addSurface_10 : decode cX7_addSurface 10 = .ok (.ifCond .ne 9, 3) := by decide +kernel
theorem dX7_addSurface_13 : decode cX7_addSurface 13 = .ok (.aload_n 0, 1) := by decide +kernel
theorem dX7_addSurface_14 : decode cX7_addSurface 14 = .ok (.iconst 1, 1) := by decide +kernel
theorem dX7_addSurface_15 : decode cX7_addSurface 15 = .ok (.invokevirtual 102, 3) := by decide +kernel
theorem dX7_addSurface_18 : decode cX7_addSurface 18 = .ok (.ireturn, 1) := by decide +kernel
theorem dX7_addSurface_19 : decode cX7_addSurface 19 = .ok (.iload_n 2, 1) := by decide +kernel
theorem dX7_addSurface_20 : decode cX7_addSurface 20 = .ok (.iconst 1, 1) := by decide +kernel
theorem dX7_addSurface_21 : decode cX7_addSurface 21 = .ok (.bipush 60, 2) := by decide +kernel
theorem dX7_addSurface_23 : decode cX7_addSurface 23 = .ok (.invokestatic 50, 3) := by decide +kernel
theorem dX7_addSurface_26 : decode cX7_addSurface 26 = .ok (.ifCond .eq 13, 3) := by decide +kernel
theorem dX7_addSurface_29 : decode cX7_addSurface 29 = .ok (.iload_n 3, 1) := by decide +kernel
theorem dX7_addSurface_30 : decode cX7_addSurface 30 = .ok (.iconst 0, 1) := by decide +kernel
theorem dX7_addSurface_31 : decode cX7_addSurface 31 = .ok (.bipush 99, 2) := by decide +kernel
theorem dX7_addSurface_33 : decode cX7_addSurface 33 = .ok (.invokestatic 50, 3) := by decide +kernel
theorem dX7_addSurface_36 : decode cX7_addSurface 36 = .ok (.ifCond .ne 9, 3) := by decide +kernel
theorem dX7_addSurface_39 : decode cX7_addSurface 39 = .ok (.aload_n 0, 1) := by decide +kernel
theorem dX7_addSurface_40 : decode cX7_addSurface 40 = .ok (.iconst 2, 1) := by decide +kernel
theorem dX7_addSurface_41 : decode cX7_addSurface 41 = .ok (.invokevirtual 102, 3) := by decide +kernel
theorem dX7_addSurface_44 : decode cX7_addSurface 44 = .ok (.ireturn, 1) := by decide +kernel
theorem dX7_addSurface_45 : decode cX7_addSurface 45 = .ok (.aload_n 0, 1) := by decide +kernel
theorem dX7_addSurface_46 : decode cX7_addSurface 46 = .ok (.getfield 9, 3) := by decide +kernel
theorem dX7_addSurface_49 : decode cX7_addSurface 49 = .ok (.iload_n 1, 1) := by decide +kernel
theorem dX7_addSurface_50 : decode cX7_addSurface 50 = .ok (.iaload, 1) := by decide +kernel
theorem dX7_addSurface_51 : decode cX7_addSurface 51 = .ok (.bipush 6, 2) := by decide +kernel
theorem dX7_addSurface_53 : decode cX7_addSurface 53 = .ok (.if_icmp .ne 9, 3) := by decide +kernel
theorem dX7_addSurface_56 : decode cX7_addSurface 56 = .ok (.aload_n 0, 1) := by decide +kernel
theorem dX7_addSurface_57 : decode cX7_addSurface 57 = .ok (.iconst 3, 1) := by decide +kernel
theorem dX7_addSurface_58 : decode cX7_addSurface 58 = .ok (.invokevirtual 102, 3) := by decide +kernel
theorem dX7_addSurface_61 : decode cX7_addSurface 61 = .ok (.ireturn, 1) := by decide +kernel
theorem dX7_addSurface_62 : decode cX7_addSurface 62 = .ok (.aload_n 0, 1) := by decide +kernel
theorem dX7_addSurface_63 : decode cX7_addSurface 63 = .ok (.getfield 25, 3) := by decide +kernel
theorem dX7_addSurface_66 : decode cX7_addSurface 66 = .ok (.bipush 6, 2) := by decide +kernel
theorem dX7_addSurface_68 : decode cX7_addSurface 68 = .ok (.iload_n 1, 1) := by decide +kernel
theorem dX7_addSurface_69 : decode cX7_addSurface 69 = .ok (.imul, 1) := by decide +kernel
theorem dX7_addSurface_70 : decode cX7_addSurface 70 = .ok (.aload_n 0, 1) := by decide +kernel
theorem dX7_addSurface_71 : decode cX7_addSurface 71 = .ok (.getfield 9, 3) := by decide +kernel
theorem dX7_addSurface_74 : decode cX7_addSurface 74 = .ok (.iload_n 1, 1) := by decide +kernel
theorem dX7_addSurface_75 : decode cX7_addSurface 75 = .ok (.iaload, 1) := by decide +kernel
theorem dX7_addSurface_76 : decode cX7_addSurface 76 = .ok (.iadd, 1) := by decide +kernel
theorem dX7_addSurface_77 : decode cX7_addSurface 77 = .ok (.iload_n 2, 1) := by decide +kernel
theorem dX7_addSurface_78 : decode cX7_addSurface 78 = .ok (.iastore, 1) := by decide +kernel
theorem dX7_addSurface_79 : decode cX7_addSurface 79 = .ok (.aload_n 0, 1) := by decide +kernel
theorem dX7_addSurface_80 : decode cX7_addSurface 80 = .ok (.getfield 28, 3) := by decide +kernel
theorem dX7_addSurface_83 : decode cX7_addSurface 83 = .ok (.bipush 6, 2) := by decide +kernel
theorem dX7_addSurface_85 : decode cX7_addSurface 85 = .ok (.iload_n 1, 1) := by decide +kernel
theorem dX7_addSurface_86 : decode cX7_addSurface 86 = .ok (.imul, 1) := by decide +kernel
theorem dX7_addSurface_87 : decode cX7_addSurface 87 = .ok (.aload_n 0, 1) := by decide +kernel
theorem dX7_addSurface_88 : decode cX7_addSurface 88 = .ok (.getfield 9, 3) := by decide +kernel
theorem dX7_addSurface_91 : decode cX7_addSurface 91 = .ok (.iload_n 1, 1) := by decide +kernel
theorem dX7_addSurface_92 : decode cX7_addSurface 92 = .ok (.iaload, 1) := by decide +kernel
theorem dX7_addSurface_93 : decode cX7_addSurface 93 = .ok (.iadd, 1) := by decide +kernel
theorem dX7_addSurface_94 : decode cX7_addSurface 94 = .ok (.iload_n 3, 1) := by decide +kernel
theorem dX7_addSurface_95 : decode cX7_addSurface 95 = .ok (.iastore, 1) := by decide +kernel
theorem dX7_addSurface_96 : decode cX7_addSurface 96 = .ok (.aload_n 0, 1) := by decide +kernel
theorem dX7_addSurface_97 : decode cX7_addSurface 97 = .ok (.getfield 9, 3) := by decide +kernel
theorem dX7_addSurface_100 : decode cX7_addSurface 100 = .ok (.iload_n 1, 1) := by decide +kernel
theorem dX7_addSurface_101 : decode cX7_addSurface 101 = .ok (.dup2, 1) := by decide +kernel
theorem dX7_addSurface_102 : decode cX7_addSurface 102 = .ok (.iaload, 1) := by decide +kernel
theorem dX7_addSurface_103 : decode cX7_addSurface 103 = .ok (.iconst 1, 1) := by decide +kernel
theorem dX7_addSurface_104 : decode cX7_addSurface 104 = .ok (.iadd, 1) := by decide +kernel
theorem dX7_addSurface_105 : decode cX7_addSurface 105 = .ok (.iastore, 1) := by decide +kernel
theorem dX7_addSurface_106 : decode cX7_addSurface 106 = .ok (.aload_n 0, 1) := by decide +kernel
theorem dX7_addSurface_107 : decode cX7_addSurface 107 = .ok (.iload_n 1, 1) := by decide +kernel
theorem dX7_addSurface_108 : decode cX7_addSurface 108 = .ok (.invokevirtual 105, 3) := by decide +kernel
theorem dX7_addSurface_111 : decode cX7_addSurface 111 = .ok (.aload_n 0, 1) := by decide +kernel
theorem dX7_addSurface_112 : decode cX7_addSurface 112 = .ok (.getfield 9, 3) := by decide +kernel
theorem dX7_addSurface_115 : decode cX7_addSurface 115 = .ok (.iload_n 1, 1) := by decide +kernel
theorem dX7_addSurface_116 : decode cX7_addSurface 116 = .ok (.iaload, 1) := by decide +kernel
theorem dX7_addSurface_117 : decode cX7_addSurface 117 = .ok (.iconst 1, 1) := by decide +kernel
theorem dX7_addSurface_118 : decode cX7_addSurface 118 = .ok (.isub, 1) := by decide +kernel
theorem dX7_addSurface_119 : decode cX7_addSurface 119 = .ok (.ireturn, 1) := by decide +kernel
theorem dX7_moveSurface_0 : decode cX7_moveSurface 0 = .ok (.aload_n 0, 1) := by decide +kernel
theorem dX7_moveSurface_1 : decode cX7_moveSurface 1 = .ok (.iconst 0, 1) := by decide +kernel
theorem dX7_moveSurface_2 : decode cX7_moveSurface 2 = .ok (.putfield 43, 3) := by decide +kernel
theorem dX7_moveSurface_5 : decode cX7_moveSurface 5 = .ok (.aload_n 0, 1) := by decide +kernel
theorem dX7_moveSurface_6 : decode cX7_moveSurface 6 = .ok (.iload_n 1, 1) := by decide +kernel
theorem dX7_moveSurface_7 : decode cX7_moveSurface 7 = .ok (.iload_n 2, 1) := by decide +kernel
theorem dX7_moveSurface_8 : decode cX7_moveSurface 8 = .ok (.invokevirtual 109, 3) := by decide +kernel
theorem dX7_moveSurface_11 : decode cX7_moveSurface 11 = .ok (.ifCond .ne 9, 3) := by decide +kernel
theorem dX7_moveSurface_14 : decode cX7_moveSurface 14 = .ok (.aload_n 0, 1) := by decide +kernel
theorem dX7_moveSurface_15 : decode cX7_moveSurface 15 = .ok (.iconst 1, 1) := by decide +kernel
theorem dX7_moveSurface_16 : decode cX7_moveSurface 16 = .ok (.invokevirtual 102, 3) := by decide +kernel
theorem dX7_moveSurface_19 : decode cX7_moveSurface 19 = .ok (.ireturn, 1) := by decide +kernel
theorem dX7_moveSurface_20 : decode cX7_moveSurface 20 = .ok (.iload_n 3, 1) := by decide +kernel
theorem dX7_moveSurface_21 : decode cX7_moveSurface 21 = .ok (.iconst 1, 1) := by decide +kernel
theorem dX7_moveSurface_22 : decode cX7_moveSurface 22 = .ok (.bipush 60, 2) := by decide +kernel
theorem dX7_moveSurface_24 : decode cX7_moveSurface 24 = .ok (.invokestatic 50, 3) := by decide +kernel
theorem dX7_moveSurface_27 : decode cX7_moveSurface 27 = .ok (.ifCond .ne 9, 3) := by decide +kernel
theorem dX7_moveSurface_30 : decode cX7_moveSurface 30 = .ok (.aload_n 0, 1) := by decide +kernel
theorem dX7_moveSurface_31 : decode cX7_moveSurface 31 = .ok (.iconst 2, 1) := by decide +kernel
theorem dX7_moveSurface_32 : decode cX7_moveSurface 32 = .ok (.invokevirtual 102, 3) := by decide +kernel
theorem dX7_moveSurface_35 : decode cX7_moveSurface 35 = .ok (.ireturn, 1) := by decide +kernel
theorem dX7_moveSurface_36 : decode cX7_moveSurface 36 = .ok (.aload_n 0, 1) := by decide +kernel
theorem dX7_moveSurface_37 : decode cX7_moveSurface 37 = .ok (.getfield 25, 3) := by decide +kernel
theorem dX7_moveSurface_40 : decode cX7_moveSurface 40 = .ok (.bipush 6, 2) := by decide +kernel
theorem dX7_moveSurface_42 : decode cX7_moveSurface 42 = .ok (.iload_n 1, 1) := by decide +kernel
theorem dX7_moveSurface_43 : decode cX7_moveSurface 43 = .ok (.imul, 1) := by decide +kernel
theorem dX7_moveSurface_44 : decode cX7_moveSurface 44 = .ok (.iload_n 2, 1) := by decide +kernel
theorem dX7_moveSurface_45 : decode cX7_moveSurface 45 = .ok (.iadd, 1) := by decide +kernel
theorem dX7_moveSurface_46 : decode cX7_moveSurface 46 = .ok (.iaload, 1) := by decide +kernel
theorem dX7_moveSurface_47 : decode cX7_moveSurface 47 = .ok (.istore 4, 2) := by decide +kernel
theorem dX7_moveSurface_49 : decode cX7_moveSurface 49 = .ok (.aload_n 0, 1) := by decide +kernel
theorem dX7_moveSurface_50 : decode cX7_moveSurface 50 = .ok (.getfield 25, 3) := by decide +kernel
theorem dX7_moveSurface_53 : decode cX7_moveSurface 53 = .ok (.bipush 6, 2) := by decide +kernel
theorem dX7_moveSurface_55 : decode cX7_moveSurface 55 = .ok (.iload_n 1, 1) := by decide +kernel
theorem dX7_moveSurface_56 : decode cX7_moveSurface 56 = .ok (.imul, 1) := by decide +kernel
theorem dX7_moveSurface_57 : decode cX7_moveSurface 57 = .ok (.iload_n 2, 1) := by decide +kernel
theorem dX7_moveSurface_58 : decode cX7_moveSurface 58 = .ok (.iadd, 1) := by decide +kernel
theorem dX7_moveSurface_59 : decode cX7_moveSurface 59 = .ok (.iload_n 3, 1) := by decide +kernel
theorem dX7_moveSurface_60 : decode cX7_moveSurface 60 = .ok (.iastore, 1) := by decide +kernel
theorem dX7_moveSurface_61 : decode cX7_moveSurface 61 = .ok (.aload_n 0, 1) := by decide +kernel
theorem dX7_moveSurface_62 : decode cX7_moveSurface 62 = .ok (.iload_n 1, 1) := by decide +kernel
theorem dX7_moveSurface_63 : decode cX7_moveSurface 63 = .ok (.invokevirtual 105, 3) := by decide +kernel
theorem dX7_moveSurface_66 : decode cX7_moveSurface 66 = .ok (.iload 4, 2) := by decide +kernel
theorem dX7_moveSurface_68 : decode cX7_moveSurface 68 = .ok (.ireturn, 1) := by decide +kernel
theorem dX7_setDamping_0 : decode cX7_setDamping 0 = .ok (.aload_n 0, 1) := by decide +kernel
theorem dX7_setDamping_1 : decode cX7_setDamping 1 = .ok (.iconst 0, 1) := by decide +kernel
theorem dX7_setDamping_2 : decode cX7_setDamping 2 = .ok (.putfield 43, 3) := by decide +kernel
theorem dX7_setDamping_5 : decode cX7_setDamping 5 = .ok (.aload_n 0, 1) := by decide +kernel
theorem dX7_setDamping_6 : decode cX7_setDamping 6 = .ok (.iload_n 1, 1) := by decide +kernel
theorem dX7_setDamping_7 : decode cX7_setDamping 7 = .ok (.invokevirtual 57, 3) := by decide +kernel
theorem dX7_setDamping_10 : decode cX7_setDamping 10 = .ok (.ifCond .ne 9, 3) := by decide +kernel
theorem dX7_setDamping_13 : decode cX7_setDamping 13 = .ok (.aload_n 0, 1) := by decide +kernel
theorem dX7_setDamping_14 : decode cX7_setDamping 14 = .ok (.iconst 1, 1) := by decide +kernel
theorem dX7_setDamping_15 : decode cX7_setDamping 15 = .ok (.invokevirtual 102, 3) := by decide +kernel
theorem dX7_setDamping_18 : decode cX7_setDamping 18 = .ok (.ireturn, 1) := by decide +kernel
theorem dX7_setDamping_19 : decode cX7_setDamping 19 = .ok (.iload_n 2, 1) := by decide +kernel
theorem dX7_setDamping_20 : decode cX7_setDamping 20 = .ok (.iconst 0, 1) := by decide +kernel
theorem dX7_setDamping_21 : decode cX7_setDamping 21 = .ok (.bipush 90, 2) := by decide +kernel
theorem dX7_setDamping_23 : decode cX7_setDamping 23 = .ok (.invokestatic 50, 3) := by decide +kernel
theorem dX7_setDamping_26 : decode cX7_setDamping 26 = .ok (.ifCond .ne 9, 3) := by decide +kernel
theorem dX7_setDamping_29 : decode cX7_setDamping 29 = .ok (.aload_n 0, 1) := by decide +kernel
theorem dX7_setDamping_30 : decode cX7_setDamping 30 = .ok (.iconst 2, 1) := by decide +kernel
theorem dX7_setDamping_31 : decode cX7_setDamping 31 = .ok (.invokevirtual 102, 3) := by decide +kernel
theorem dX7_setDamping_34 : decode cX7_setDamping 34 = .ok (.ireturn, 1) := by decide +kernel
theorem dX7_setDamping_35 : decode cX7_setDamping 35 = .ok (.aload_n 0, 1) := by decide +kernel
theorem dX7_setDamping_36 : decode cX7_setDamping 36 = .ok (.getfield 13, 3) := by decide +kernel
theorem dX7_setDamping_39 : decode cX7_setDamping 39 = .ok (.iload_n 1, 1) := by decide +kernel
theorem dX7_setDamping_40 : decode cX7_setDamping 40 = .ok (.iaload, 1) := by decide +kernel
theorem dX7_setDamping_41 : decode cX7_setDamping 41 = .ok (.istore_n 3, 1) := by decide +kernel
theorem dX7_setDamping_42 : decode cX7_setDamping 42 = .ok (.aload_n 0, 1) := by decide +kernel
theorem dX7_setDamping_43 : decode cX7_setDamping 43 = .ok (.getfield 13, 3) := by decide +kernel
theorem dX7_setDamping_46 : decode cX7_setDamping 46 = .ok (.iload_n 1, 1) := by decide +kernel
theorem dX7_setDamping_47 : decode cX7_setDamping 47 = .ok (.iload_n 2, 1) := by decide +kernel
theorem dX7_setDamping_48 : decode cX7_setDamping 48 = .ok (.iastore, 1) := by decide +kernel
theorem dX7_setDamping_49 : decode cX7_setDamping 49 = .ok (.aload_n 0, 1) := by decide +kernel
theorem dX7_setDamping_50 : decode cX7_setDamping 50 = .ok (.iload_n 1, 1) := by decide +kernel
theorem dX7_setDamping_51 : decode cX7_setDamping 51 = .ok (.invokevirtual 105, 3) := by decide +kernel
theorem dX7_setDamping_54 : decode cX7_setDamping 54 = .ok (.iload_n 3, 1) := by decide +kernel
theorem dX7_setDamping_55 : decode cX7_setDamping 55 = .ok (.ireturn, 1) := by decide +kernel
theorem dX7_clean_0 : decode cX7_clean 0 = .ok (.aload_n 0, 1) := by decide +kernel
theorem dX7_clean_1 : decode cX7_clean 1 = .ok (.iconst 0, 1) := by decide +kernel
theorem dX7_clean_2 : decode cX7_clean 2 = .ok (.putfield 43, 3) := by decide +kernel
theorem dX7_clean_5 : decode cX7_clean 5 = .ok (.aload_n 0, 1) := by decide +kernel
theorem dX7_clean_6 : decode cX7_clean 6 = .ok (.iload_n 1, 1) := by decide +kernel
theorem dX7_clean_7 : decode cX7_clean 7 = .ok (.invokevirtual 57, 3) := by decide +kernel
theorem dX7_clean_10 : decode cX7_clean 10 = .ok (.ifCond .ne 9, 3) := by decide +kernel
theorem dX7_clean_13 : decode cX7_clean 13 = .ok (.aload_n 0, 1) := by decide +kernel
theorem dX7_clean_14 : decode cX7_clean 14 = .ok (.iconst 1, 1) := by decide +kernel
theorem dX7_clean_15 : decode cX7_clean 15 = .ok (.invokevirtual 102, 3) := by decide +kernel
theorem dX7_clean_18 : decode cX7_clean 18 = .ok (.ireturn, 1) := by decide +kernel
theorem dX7_clean_19 : decode cX7_clean 19 = .ok (.aload_n 0, 1) := by decide +kernel
theorem dX7_clean_20 : decode cX7_clean 20 = .ok (.getfield 16, 3) := by decide +kernel
theorem dX7_clean_23 : decode cX7_clean 23 = .ok (.iload_n 1, 1) := by decide +kernel
theorem dX7_clean_24 : decode cX7_clean 24 = .ok (.iaload, 1) := by decide +kernel
theorem dX7_clean_25 : decode cX7_clean 25 = .ok (.istore_n 2, 1) := by decide +kernel
theorem dX7_clean_26 : decode cX7_clean 26 = .ok (.aload_n 0, 1) := by decide +kernel
theorem dX7_clean_27 : decode cX7_clean 27 = .ok (.getfield 16, 3) := by decide +kernel
theorem dX7_clean_30 : decode cX7_clean 30 = .ok (.iload_n 1, 1) := by decide +kernel
theorem dX7_clean_31 : decode cX7_clean 31 = .ok (.iconst 0, 1) := by decide +kernel
theorem dX7_clean_32 : decode cX7_clean 32 = .ok (.iastore, 1) := by decide +kernel
theorem dX7_clean_33 : decode cX7_clean 33 = .ok (.iload_n 2, 1) := by decide +kernel
theorem dX7_clean_34 : decode cX7_clean 34 = .ok (.ireturn, 1) := by decide +kernel
theorem dX7_addStandard_0 : decode cX7_addStandard 0 = .ok (.aload_n 0, 1) := by decide +kernel
theorem dX7_addStandard_1 : decode cX7_addStandard 1 = .ok (.iconst 0, 1) := by decide +kernel
theorem dX7_addStandard_2 : decode cX7_addStandard 2 = .ok (.putfield 43, 3) := by decide +kernel
theorem dX7_addStandard_5 : decode cX7_addStandard 5 = .ok (.iload_n 1, 1) := by decide +kernel
theorem dX7_addStandard_6 : decode cX7_addStandard 6 = .ok (.iconst 0, 1) := by decide +kernel
theorem dX7_addStandard_7 : decode cX7_addStandard 7 = .ok (.sipush 500, 3) := by decide +kernel
theorem dX7_addStandard_10 : decode cX7_addStandard 10 = .ok (.invokestatic 50, 3) := by decide +kernel
theorem dX7_addStandard_13 : decode cX7_addStandard 13 = .ok (.ifCond .eq 47, 3) := by decide +kernel
theorem dX7_addStandard_16 : decode cX7_addStandard 16 = .ok (.iload_n 2, 1) := by decide +kernel
theorem dX7_addStandard_17 : decode cX7_addStandard 17 = .ok (.iconst 1, 1) := by decide +kernel
theorem dX7_addStandard_18 : decode cX7_addStandard 18 = .ok (.sipush 1000, 3) := by decide +kernel
theorem dX7_addStandard_21 : decode cX7_addStandard 21 = .ok (.invokestatic 50, 3) := by decide +kernel
theorem dX7_addStandard_24 : decode cX7_addStandard 24 = .ok (.ifCond .eq 36, 3) := by decide +kernel
theorem dX7_addStandard_27 : decode cX7_addStandard 27 = .ok (.iload_n 3, 1) := by decide +kernel
theorem dX7_addStandard_28 : decode cX7_addStandard 28 = .ok (.iconst 0, 1) := by decide +kernel
theorem dX7_addStandard_29 : decode cX7_addStandard 29 = .ok (.bipush 99, 2) := by decide +kernel
theorem dX7_addStandard_31 : decode cX7_addStandard 31 = .ok (.invokestatic 50, 3) := by decide +kernel
theorem dX7_addStandard_34 : decode cX7_addStandard 34 = .ok (.ifCond .eq 26, 3) := by decide +kernel
theorem dX7_addStandard_37 : decode cX7_addStandard 37 = .ok (.iload 4, 2) := by decide +kernel
theorem dX7_addStandard_39 : decode cX7_addStandard 39 = .ok (.iconst 0, 1) := by decide +kernel
theorem dX7_addStandard_40 : decode cX7_addStandard 40 = .ok (.sipush 3000, 3) := by decide +kernel
theorem dX7_addStandard_43 : decode cX7_addStandard 43 = .ok (.invokestatic 50, 3) := by decide +kernel
theorem dX7_addStandard_46 : decode cX7_addStandard 46 = .ok (.ifCond .eq 14, 3) := by decide +kernel
theorem dX7_addStandard_49 : decode cX7_addStandard 49 = .ok (.iload 5, 2) := by decide +kernel
theorem dX7_addStandard_51 : decode cX7_addStandard 51 = .ok (.iconst 1, 1) := by decide +kernel
theorem dX7_addStandard_52 : decode cX7_addStandard 52 = .ok (.bipush 100, 2) := by decide +kernel
theorem dX7_addStandard_54 : decode cX7_addStandard 54 = .ok (.invokestatic 50, 3) := by decide +kernel
theorem dX7_addStandard_57 : decode cX7_addStandard 57 = .ok (.ifCond .ne 9, 3) := by decide +kernel
theorem dX7_addStandard_60 : decode cX7_addStandard 60 = .ok (.aload_n 0, 1) := by decide +kernel
theorem dX7_addStandard_61 : decode cX7_addStandard 61 = .ok (.iconst 1, 1) := by decide +kernel
theorem dX7_addStandard_62 : decode cX7_addStandard 62 = .ok (.invokevirtual 102, 3) := by decide +kernel
theorem dX7_addStandard_65 : decode cX7_addStandard 65 = .ok (.ireturn, 1) := by decide +kernel
theorem dX7_addStandard_66 : decode cX7_addStandard 66 = .ok (.aload_n 0, 1) := by decide +kernel
theorem dX7_addStandard_67 : decode cX7_addStandard 67 = .ok (.getfield 54, 3) := by decide +kernel
theorem dX7_addStandard_70 : decode cX7_addStandard 70 = .ok (.iconst 5, 1) := by decide +kernel
theorem dX7_addStandard_71 : decode cX7_addStandard 71 = .ok (.if_icmp .ne 9, 3) := by decide +kernel
theorem dX7_addStandard_74 : decode cX7_addStandard 74 = .ok (.aload_n 0, 1) := by decide +kernel
theorem dX7_addStandard_75 : decode cX7_addStandard 75 = .ok (.iconst 2, 1) := by decide +kernel
theorem dX7_addStandard_76 : decode cX7_addStandard 76 = .ok (.invokevirtual 102, 3) := by decide +kernel
theorem dX7_addStandard_79 : decode cX7_addStandard 79 = .ok (.ireturn, 1) := by decide +kernel
theorem dX7_addStandard_80 : decode cX7_addStandard 80 = .ok (.iconst 5, 1) := by decide +kernel
theorem dX7_addStandard_81 : decode cX7_addStandard 81 = .ok (.newarray .int, 2) := by decide +kernel
theorem dX7_addStandard_83 : decode cX7_addStandard 83 = .ok (.dup, 1) := by decide +kernel
theorem dX7_addStandard_84 : decode cX7_addStandard 84 = .ok (.iconst 0, 1) := by decide +kernel
theorem dX7_addStandard_85 : decode cX7_addStandard 85 = .ok (.iload_n 1, 1) := by decide +kernel
theorem dX7_addStandard_86 : decode cX7_addStandard 86 = .ok (.iastore, 1) := by decide +kernel
theorem dX7_addStandard_87 : decode cX7_addStandard 87 = .ok (.dup, 1) := by decide +kernel
theorem dX7_addStandard_88 : decode cX7_addStandard 88 = .ok (.iconst 1, 1) := by decide +kernel
theorem dX7_addStandard_89 : decode cX7_addStandard 89 = .ok (.iload_n 2, 1) := by decide +kernel
theorem dX7_addStandard_90 : decode cX7_addStandard 90 = .ok (.iastore, 1) := by decide +kernel
theorem dX7_addStandard_91 : decode cX7_addStandard 91 = .ok (.dup, 1) := by decide +kernel
theorem dX7_addStandard_92 : decode cX7_addStandard 92 = .ok (.iconst 2, 1) := by decide +kernel
theorem dX7_addStandard_93 : decode cX7_addStandard 93 = .ok (.iload_n 3, 1) := by decide +kernel
theorem dX7_addStandard_94 : decode cX7_addStandard 94 = .ok (.iastore, 1) := by decide +kernel
theorem dX7_addStandard_95 : decode cX7_addStandard 95 = .ok (.dup, 1) := by decide +kernel
theorem dX7_addStandard_96 : decode cX7_addStandard 96 = .ok (.iconst 3, 1) := by decide +kernel
theorem dX7_addStandard_97 : decode cX7_addStandard 97 = .ok (.iload 4, 2) := by decide +kernel
theorem dX7_addStandard_99 : decode cX7_addStandard 99 = .ok (.iastore, 1) := by decide +kernel
theorem dX7_addStandard_100 : decode cX7_addStandard 100 = .ok (.dup, 1) := by decide +kernel
theorem dX7_addStandard_101 : decode cX7_addStandard 101 = .ok (.iconst 4, 1) := by decide +kernel
theorem dX7_addStandard_102 : decode cX7_addStandard 102 = .ok (.iload 5, 2) := by decide +kernel
theorem dX7_addStandard_104 : decode cX7_addStandard 104 = .ok (.iastore, 1) := by decide +kernel
theorem dX7_addStandard_105 : decode cX7_addStandard 105 = .ok (.astore 6, 2) := by decide +kernel
theorem dX7_addStandard_107 : decode cX7_addStandard 107 = .ok (.aload 6, 2) := by decide +kernel
theorem dX7_addStandard_109 : decode cX7_addStandard 109 = .ok (.iconst 0, 1) := by decide +kernel
theorem dX7_addStandard_110 : decode cX7_addStandard 110 = .ok (.aload_n 0, 1) := by decide +kernel
theorem dX7_addStandard_111 : decode cX7_addStandard 111 = .ok (.getfield 31, 3) := by decide +kernel
theorem dX7_addStandard_114 : decode cX7_addStandard 114 = .ok (.iconst 5, 1) := by decide +kernel
theorem dX7_addStandard_115 : decode cX7_addStandard 115 = .ok (.aload_n 0, 1) := by decide +kernel
theorem dX7_addStandard_116 : decode cX7_addStandard 116 = .ok (.getfield 54, 3) := by decide +kernel
theorem dX7_addStandard_119 : decode cX7_addStandard 119 = .ok (.imul, 1) := by decide +kernel
theorem dX7_addStandard_120 : decode cX7_addStandard 120 = .ok (.iconst 5, 1) := by decide +kernel
theorem dX7_addStandard_121 : decode cX7_addStandard 121 = .ok (.invokestatic 113, 3) := by decide +kernel
theorem dX7_addStandard_124 : decode cX7_addStandard 124 = .ok (.aload_n 0, 1) := by decide +kernel
theorem dX7_addStandard_125 : decode cX7_addStandard 125 = .ok (.dup, 1) := by decide +kernel
theorem dX7_addStandard_126 : decode cX7_addStandard 126 = .ok (.getfield 54, 3) := by decide +kernel
theorem dX7_addStandard_129 : decode cX7_addStandard 129 = .ok (.iconst 1, 1) := by decide +kernel
theorem dX7_addStandard_130 : decode cX7_addStandard 130 = .ok (.iadd, 1) := by decide +kernel
theorem dX7_addStandard_131 : decode cX7_addStandard 131 = .ok (.putfield 54, 3) := by decide +kernel
theorem dX7_addStandard_134 : decode cX7_addStandard 134 = .ok (.aload_n 0, 1) := by decide +kernel
theorem dX7_addStandard_135 : decode cX7_addStandard 135 = .ok (.getfield 54, 3) := by decide +kernel
theorem dX7_addStandard_138 : decode cX7_addStandard 138 = .ok (.iconst 1, 1) := by decide +kernel
theorem dX7_addStandard_139 : decode cX7_addStandard 139 = .ok (.isub, 1) := by decide +kernel
theorem dX7_addStandard_140 : decode cX7_addStandard 140 = .ok (.ireturn, 1) := by decide +kernel
theorem dX7_isPair_0 : decode cX7_isPair 0 = .ok (.aload_n 0, 1) := by decide +kernel
theorem dX7_isPair_1 : decode cX7_isPair 1 = .ok (.aload_n 0, 1) := by decide +kernel
theorem dX7_isPair_2 : decode cX7_isPair 2 = .ok (.iload_n 1, 1) := by decide +kernel
theorem dX7_isPair_3 : decode cX7_isPair 3 = .ok (.invokevirtual 57, 3) := by decide +kernel
theorem dX7_isPair_6 : decode cX7_isPair 6 = .ok (.ifCond .eq 15, 3) := by decide +kernel
theorem dX7_isPair_9 : decode cX7_isPair 9 = .ok (.aload_n 0, 1) := by decide +kernel
theorem dX7_isPair_10 : decode cX7_isPair 10 = .ok (.iload_n 2, 1) := by decide +kernel
theorem dX7_isPair_11 : decode cX7_isPair 11 = .ok (.invokevirtual 119, 3) := by decide +kernel
theorem dX7_isPair_14 : decode cX7_isPair 14 = .ok (.ifCond .eq 7, 3) := by decide +kernel
theorem dX7_isPair_17 : decode cX7_isPair 17 = .ok (.iconst 0, 1) := by decide +kernel
theorem dX7_isPair_18 : decode cX7_isPair 18 = .ok (.goto 4, 3) := by decide +kernel
theorem dX7_isPair_21 : decode cX7_isPair 21 = .ok (.iconst 1, 1) := by decide +kernel
theorem dX7_isPair_22 : decode cX7_isPair 22 = .ok (.putfield 43, 3) := by decide +kernel
theorem dX7_isPair_25 : decode cX7_isPair 25 = .ok (.aload_n 0, 1) := by decide +kernel
theorem dX7_isPair_26 : decode cX7_isPair 26 = .ok (.getfield 43, 3) := by decide +kernel
theorem dX7_isPair_29 : decode cX7_isPair 29 = .ok (.ifCond .ne 7, 3) := by decide +kernel
theorem dX7_isPair_32 : decode cX7_isPair 32 = .ok (.iconst 1, 1) := by decide +kernel
theorem dX7_isPair_33 : decode cX7_isPair 33 = .ok (.goto 4, 3) := by decide +kernel
theorem dX7_isPair_36 : decode cX7_isPair 36 = .ok (.iconst 0, 1) := by decide +kernel
theorem dX7_isPair_37 : decode cX7_isPair 37 = .ok (.ireturn, 1) := by decide +kernel
theorem dX7_inspect_0 : decode cX7_inspect 0 = .ok (.aload_n 0, 1) := by decide +kernel
theorem dX7_inspect_1 : decode cX7_inspect 1 = .ok (.iload_n 1, 1) := by decide +kernel
theorem dX7_inspect_2 : decode cX7_inspect 2 = .ok (.iload_n 2, 1) := by decide +kernel
theorem dX7_inspect_3 : decode cX7_inspect 3 = .ok (.invokevirtual 122, 3) := by decide +kernel
theorem dX7_inspect_6 : decode cX7_inspect 6 = .ok (.ifCond .ne 5, 3) := by decide +kernel
theorem dX7_inspect_9 : decode cX7_inspect 9 = .ok (.iconst 0, 1) := by decide +kernel
theorem dX7_inspect_10 : decode cX7_inspect 10 = .ok (.ireturn, 1) := by decide +kernel
theorem dX7_inspect_11 : decode cX7_inspect 11 = .ok (.aload_n 0, 1) := by decide +kernel
theorem dX7_inspect_12 : decode cX7_inspect 12 = .ok (.dup, 1) := by decide +kernel
theorem dX7_inspect_13 : decode cX7_inspect 13 = .ok (.getfield 125, 3) := by decide +kernel
theorem dX7_inspect_16 : decode cX7_inspect 16 = .ok (.iconst 1, 1) := by decide +kernel
theorem dX7_inspect_17 : decode cX7_inspect 17 = .ok (.iadd, 1) := by decide +kernel
theorem dX7_inspect_18 : decode cX7_inspect 18 = .ok (.putfield 125, 3) := by decide +kernel
theorem dX7_inspect_21 : decode cX7_inspect 21 = .ok (.aload_n 0, 1) := by decide +kernel
theorem dX7_inspect_22 : decode cX7_inspect 22 = .ok (.iload_n 1, 1) := by decide +kernel
theorem dX7_inspect_23 : decode cX7_inspect 23 = .ok (.iload_n 2, 1) := by decide +kernel
theorem dX7_inspect_24 : decode cX7_inspect 24 = .ok (.invokevirtual 128, 3) := by decide +kernel
theorem dX7_inspect_27 : decode cX7_inspect 27 = .ok (.istore_n 3, 1) := by decide +kernel
theorem dX7_inspect_28 : decode cX7_inspect 28 = .ok (.iload_n 3, 1) := by decide +kernel
theorem dX7_inspect_29 : decode cX7_inspect 29 = .ok (.ifCond .eq 25, 3) := by decide +kernel
theorem dX7_inspect_32 : decode cX7_inspect 32 = .ok (.aload_n 0, 1) := by decide +kernel
theorem dX7_inspect_33 : decode cX7_inspect 33 = .ok (.getfield 19, 3) := by decide +kernel
theorem dX7_inspect_36 : decode cX7_inspect 36 = .ok (.iload_n 1, 1) := by decide +kernel
theorem dX7_inspect_37 : decode cX7_inspect 37 = .ok (.iload_n 2, 1) := by decide +kernel
theorem dX7_inspect_38 : decode cX7_inspect 38 = .ok (.iastore, 1) := by decide +kernel
theorem dX7_inspect_39 : decode cX7_inspect 39 = .ok (.aload_n 0, 1) := by decide +kernel
theorem dX7_inspect_40 : decode cX7_inspect 40 = .ok (.getfield 22, 3) := by decide +kernel
theorem dX7_inspect_43 : decode cX7_inspect 43 = .ok (.iload_n 1, 1) := by decide +kernel
theorem dX7_inspect_44 : decode cX7_inspect 44 = .ok (.aload_n 0, 1) := by decide +kernel
theorem dX7_inspect_45 : decode cX7_inspect 45 = .ok (.iload_n 2, 1) := by decide +kernel
theorem dX7_inspect_46 : decode cX7_inspect 46 = .ok (.iconst 4, 1) := by decide +kernel
theorem dX7_inspect_47 : decode cX7_inspect 47 = .ok (.invokevirtual 89, 3) := by decide +kernel
theorem dX7_inspect_50 : decode cX7_inspect 50 = .ok (.iastore, 1) := by decide +kernel
theorem dX7_inspect_51 : decode cX7_inspect 51 = .ok (.goto 18, 3) := by decide +kernel
theorem dX7_inspect_54 : decode cX7_inspect 54 = .ok (.aload_n 0, 1) := by decide +kernel
theorem dX7_inspect_55 : decode cX7_inspect 55 = .ok (.getfield 19, 3) := by decide +kernel
theorem dX7_inspect_58 : decode cX7_inspect 58 = .ok (.iload_n 1, 1) := by decide +kernel
theorem dX7_inspect_59 : decode cX7_inspect 59 = .ok (.iaload, 1) := by decide +kernel
theorem dX7_inspect_60 : decode cX7_inspect 60 = .ok (.iload_n 2, 1) := by decide +kernel
theorem dX7_inspect_61 : decode cX7_inspect 61 = .ok (.if_icmp .ne 8, 3) := by decide +kernel
theorem dX7_inspect_64 : decode cX7_inspect 64 = .ok (.aload_n 0, 1) := by decide +kernel
theorem dX7_inspect_65 : decode cX7_inspect 65 = .ok (.iload_n 1, 1) := by decide +kernel
theorem dX7_inspect_66 : decode cX7_inspect 66 = .ok (.invokevirtual 105, 3) := by decide +kernel
theorem dX7_inspect_69 : decode cX7_inspect 69 = .ok (.iload_n 3, 1) := by decide +kernel
theorem dX7_inspect_70 : decode cX7_inspect 70 = .ok (.ireturn, 1) := by decide +kernel
theorem dX7_revoke_0 : decode cX7_revoke 0 = .ok (.aload_n 0, 1) := by decide +kernel
theorem dX7_revoke_1 : decode cX7_revoke 1 = .ok (.iconst 0, 1) := by decide +kernel
theorem dX7_revoke_2 : decode cX7_revoke 2 = .ok (.putfield 43, 3) := by decide +kernel
theorem dX7_revoke_5 : decode cX7_revoke 5 = .ok (.aload_n 0, 1) := by decide +kernel
theorem dX7_revoke_6 : decode cX7_revoke 6 = .ok (.iload_n 1, 1) := by decide +kernel
theorem dX7_revoke_7 : decode cX7_revoke 7 = .ok (.invokevirtual 57, 3) := by decide +kernel
theorem dX7_revoke_10 : decode cX7_revoke 10 = .ok (.ifCond .ne 9, 3) := by decide +kernel
theorem dX7_revoke_13 : decode cX7_revoke 13 = .ok (.aload_n 0, 1) := by decide +kernel
theorem dX7_revoke_14 : decode cX7_revoke 14 = .ok (.iconst 1, 1) := by decide +kernel
theorem dX7_revoke_15 : decode cX7_revoke 15 = .ok (.invokevirtual 102, 3) := by decide +kernel
theorem dX7_revoke_18 : decode cX7_revoke 18 = .ok (.ireturn, 1) := by decide +kernel
theorem dX7_revoke_19 : decode cX7_revoke 19 = .ok (.aload_n 0, 1) := by decide +kernel
theorem dX7_revoke_20 : decode cX7_revoke 20 = .ok (.getfield 19, 3) := by decide +kernel
theorem dX7_revoke_23 : decode cX7_revoke 23 = .ok (.iload_n 1, 1) := by decide +kernel
theorem dX7_revoke_24 : decode cX7_revoke 24 = .ok (.iaload, 1) := by decide +kernel
theorem dX7_revoke_25 : decode cX7_revoke 25 = .ok (.iconst (-1), 1) := by decide +kernel
theorem dX7_revoke_26 : decode cX7_revoke 26 = .ok (.if_icmp .ne 9, 3) := by decide +kernel
theorem dX7_revoke_29 : decode cX7_revoke 29 = .ok (.aload_n 0, 1) := by decide +kernel
theorem dX7_revoke_30 : decode cX7_revoke 30 = .ok (.iconst 2, 1) := by decide +kernel
theorem dX7_revoke_31 : decode cX7_revoke 31 = .ok (.invokevirtual 102, 3) := by decide +kernel
theorem dX7_revoke_34 : decode cX7_revoke 34 = .ok (.ireturn, 1) := by decide +kernel
theorem dX7_revoke_35 : decode cX7_revoke 35 = .ok (.aload_n 0, 1) := by decide +kernel
theorem dX7_revoke_36 : decode cX7_revoke 36 = .ok (.getfield 22, 3) := by decide +kernel
theorem dX7_revoke_39 : decode cX7_revoke 39 = .ok (.iload_n 1, 1) := by decide +kernel
theorem dX7_revoke_40 : decode cX7_revoke 40 = .ok (.iaload, 1) := by decide +kernel
theorem dX7_revoke_41 : decode cX7_revoke 41 = .ok (.istore_n 2, 1) := by decide +kernel
theorem dX7_revoke_42 : decode cX7_revoke 42 = .ok (.aload_n 0, 1) := by decide +kernel
theorem dX7_revoke_43 : decode cX7_revoke 43 = .ok (.iload_n 1, 1) := by decide +kernel
theorem dX7_revoke_44 : decode cX7_revoke 44 = .ok (.invokevirtual 105, 3) := by decide +kernel
theorem dX7_revoke_47 : decode cX7_revoke 47 = .ok (.iload_n 2, 1) := by decide +kernel
theorem dX7_revoke_48 : decode cX7_revoke 48 = .ok (.ireturn, 1) := by decide +kernel
theorem dX7_certified_0 : decode cX7_certified 0 = .ok (.iconst 0, 1) := by decide +kernel
theorem dX7_certified_1 : decode cX7_certified 1 = .ok (.istore_n 1, 1) := by decide +kernel
theorem dX7_certified_2 : decode cX7_certified 2 = .ok (.iconst 0, 1) := by decide +kernel
theorem dX7_certified_3 : decode cX7_certified 3 = .ok (.istore_n 2, 1) := by decide +kernel
theorem dX7_certified_4 : decode cX7_certified 4 = .ok (.iload_n 2, 1) := by decide +kernel
theorem dX7_certified_5 : decode cX7_certified 5 = .ok (.aload_n 0, 1) := by decide +kernel
theorem dX7_certified_6 : decode cX7_certified 6 = .ok (.getfield 47, 3) := by decide +kernel
theorem dX7_certified_9 : decode cX7_certified 9 = .ok (.if_icmp .ge 27, 3) := by decide +kernel
theorem dX7_certified_12 : decode cX7_certified 12 = .ok (.iload_n 1, 1) := by decide +kernel
theorem dX7_certified_13 : decode cX7_certified 13 = .ok (.aload_n 0, 1) := by decide +kernel
theorem dX7_certified_14 : decode cX7_certified 14 = .ok (.getfield 19, 3) := by decide +kernel
theorem dX7_certified_17 : decode cX7_certified 17 = .ok (.iload_n 2, 1) := by decide +kernel
theorem dX7_certified_18 : decode cX7_certified 18 = .ok (.iaload, 1) := by decide +kernel
theorem dX7_certified_19 : decode cX7_certified 19 = .ok (.iconst (-1), 1) := by decide +kernel
theorem dX7_certified_20 : decode cX7_certified 20 = .ok (.if_icmp .ne 7, 3) := by decide +kernel
theorem dX7_certified_23 : decode cX7_certified 23 = .ok (.iconst 0, 1) := by decide +kernel
theorem dX7_certified_24 : decode cX7_certified 24 = .ok (.goto 4, 3) := by decide +kernel
theorem dX7_certified_27 : decode cX7_certified 27 = .ok (.iconst 1, 1) := by decide +kernel
theorem dX7_certified_28 : decode cX7_certified 28 = .ok (.iadd, 1) := by decide +kernel
theorem dX7_certified_29 : decode cX7_certified 29 = .ok (.istore_n 1, 1) := by decide +kernel
theorem dX7_certified_30 : decode cX7_certified 30 = .ok (.iinc 2 1, 3) := by decide +kernel
theorem dX7_certified_33 : decode cX7_certified 33 = .ok (.goto (-29), 3) := by decide +kernel
theorem dX7_certified_36 : decode cX7_certified 36 = .ok (.iload_n 1, 1) := by decide +kernel
theorem dX7_certified_37 : decode cX7_certified 37 = .ok (.ireturn, 1) := by decide +kernel
theorem dX7_passDays_0 : decode cX7_passDays 0 = .ok (.aload_n 0, 1) := by decide +kernel
theorem dX7_passDays_1 : decode cX7_passDays 1 = .ok (.iconst 0, 1) := by decide +kernel
theorem dX7_passDays_2 : decode cX7_passDays 2 = .ok (.putfield 43, 3) := by decide +kernel
theorem dX7_passDays_5 : decode cX7_passDays 5 = .ok (.iload_n 1, 1) := by decide +kernel
theorem dX7_passDays_6 : decode cX7_passDays 6 = .ok (.iconst 1, 1) := by decide +kernel
theorem dX7_passDays_7 : decode cX7_passDays 7 = .ok (.bipush 100, 2) := by decide +kernel
theorem dX7_passDays_9 : decode cX7_passDays 9 = .ok (.invokestatic 50, 3) := by decide +kernel
theorem dX7_passDays_12 : decode cX7_passDays 12 = .ok (.ifCond .ne 9, 3) := by decide +kernel
theorem dX7_passDays_15 : decode cX7_passDays 15 = .ok (.aload_n 0, 1) := by decide +kernel
theorem dX7_passDays_16 : decode cX7_passDays 16 = .ok (.iconst 1, 1) := by decide +kernel
theorem dX7_passDays_17 : decode cX7_passDays 17 = .ok (.invokevirtual 102, 3) := by decide +kernel
theorem dX7_passDays_20 : decode cX7_passDays 20 = .ok (.ireturn, 1) := by decide +kernel
theorem dX7_passDays_21 : decode cX7_passDays 21 = .ok (.iconst 0, 1) := by decide +kernel
theorem dX7_passDays_22 : decode cX7_passDays 22 = .ok (.istore_n 2, 1) := by decide +kernel
theorem dX7_passDays_23 : decode cX7_passDays 23 = .ok (.iload_n 2, 1) := by decide +kernel
theorem dX7_passDays_24 : decode cX7_passDays 24 = .ok (.aload_n 0, 1) := by decide +kernel
theorem dX7_passDays_25 : decode cX7_passDays 25 = .ok (.getfield 47, 3) := by decide +kernel
theorem dX7_passDays_28 : decode cX7_passDays 28 = .ok (.if_icmp .ge 56, 3) := by decide +kernel
theorem dX7_passDays_31 : decode cX7_passDays 31 = .ok (.aload_n 0, 1) := by decide +kernel
theorem dX7_passDays_32 : decode cX7_passDays 32 = .ok (.getfield 16, 3) := by decide +kernel
theorem dX7_passDays_35 : decode cX7_passDays 35 = .ok (.iload_n 2, 1) := by decide +kernel
theorem dX7_passDays_36 : decode cX7_passDays 36 = .ok (.bipush 100, 2) := by decide +kernel
theorem dX7_passDays_38 : decode cX7_passDays 38 = .ok (.aload_n 0, 1) := by decide +kernel
theorem dX7_passDays_39 : decode cX7_passDays 39 = .ok (.getfield 16, 3) := by decide +kernel
theorem dX7_passDays_42 : decode cX7_passDays 42 = .ok (.iload_n 2, 1) := by decide +kernel
theorem dX7_passDays_43 : decode cX7_passDays 43 = .ok (.iaload, 1) := by decide +kernel
theorem dX7_passDays_44 : decode cX7_passDays 44 = .ok (.iload_n 1, 1) := by decide +kernel
theorem dX7_passDays_45 : decode cX7_passDays 45 = .ok (.iadd, 1) := by decide +kernel
theorem dX7_passDays_46 : decode cX7_passDays 46 = .ok (.invokestatic 131, 3) := by decide +kernel
theorem dX7_passDays_49 : decode cX7_passDays 49 = .ok (.iastore, 1) := by decide +kernel
theorem dX7_passDays_50 : decode cX7_passDays 50 = .ok (.aload_n 0, 1) := by decide +kernel
theorem dX7_passDays_51 : decode cX7_passDays 51 = .ok (.getfield 22, 3) := by decide +kernel
theorem dX7_passDays_54 : decode cX7_passDays 54 = .ok (.iload_n 2, 1) := by decide +kernel
theorem dX7_passDays_55 : decode cX7_passDays 55 = .ok (.iaload, 1) := by decide +kernel
theorem dX7_passDays_56 : decode cX7_passDays 56 = .ok (.iload_n 1, 1) := by decide +kernel
theorem dX7_passDays_57 : decode cX7_passDays 57 = .ok (.if_icmp .gt 11, 3) := by decide +kernel
theorem dX7_passDays_60 : decode cX7_passDays 60 = .ok (.aload_n 0, 1) := by decide +kernel
theorem dX7_passDays_61 : decode cX7_passDays 61 = .ok (.iload_n 2, 1) := by decide +kernel
theorem dX7_passDays_62 : decode cX7_passDays 62 = .ok (.invokevirtual 105, 3) := by decide +kernel
theorem dX7_passDays_65 : decode cX7_passDays 65 = .ok (.goto 13, 3) := by decide +kernel
theorem dX7_passDays_68 : decode cX7_passDays 68 = .ok (.aload_n 0, 1) := by decide +kernel
theorem dX7_passDays_69 : decode cX7_passDays 69 = .ok (.getfield 22, 3) := by decide +kernel
theorem dX7_passDays_72 : decode cX7_passDays 72 = .ok (.iload_n 2, 1) := by decide +kernel
theorem dX7_passDays_73 : decode cX7_passDays 73 = .ok (.dup2, 1) := by decide +kernel
theorem dX7_passDays_74 : decode cX7_passDays 74 = .ok (.iaload, 1) := by decide +kernel
theorem dX7_passDays_75 : decode cX7_passDays 75 = .ok (.iload_n 1, 1) := by decide +kernel
theorem dX7_passDays_76 : decode cX7_passDays 76 = .ok (.isub, 1) := by decide +kernel
theorem dX7_passDays_77 : decode cX7_passDays 77 = .ok (.iastore, 1) := by decide +kernel
theorem dX7_passDays_78 : decode cX7_passDays 78 = .ok (.iinc 2 1, 3) := by decide +kernel
theorem dX7_passDays_81 : decode cX7_passDays 81 = .ok (.goto (-58), 3) := by decide +kernel
theorem dX7_passDays_84 : decode cX7_passDays 84 = .ok (.aload_n 0, 1) := by decide +kernel
theorem dX7_passDays_85 : decode cX7_passDays 85 = .ok (.dup, 1) := by decide +kernel
theorem dX7_passDays_86 : decode cX7_passDays 86 = .ok (.getfield 134, 3) := by decide +kernel
theorem dX7_passDays_89 : decode cX7_passDays 89 = .ok (.iload_n 1, 1) := by decide +kernel
theorem dX7_passDays_90 : decode cX7_passDays 90 = .ok (.iadd, 1) := by decide +kernel
theorem dX7_passDays_91 : decode cX7_passDays 91 = .ok (.putfield 134, 3) := by decide +kernel
theorem dX7_passDays_94 : decode cX7_passDays 94 = .ok (.aload_n 0, 1) := by decide +kernel
theorem dX7_passDays_95 : decode cX7_passDays 95 = .ok (.invokevirtual 137, 3) := by decide +kernel
theorem dX7_passDays_98 : decode cX7_passDays 98 = .ok (.ireturn, 1) := by decide +kernel
theorem dX7_surfacesOf_0 : decode cX7_surfacesOf 0 = .ok (.aload_n 0, 1) := by decide +kernel
theorem dX7_surfacesOf_1 : decode cX7_surfacesOf 1 = .ok (.iconst 0, 1) := by decide +kernel
theorem dX7_surfacesOf_2 : decode cX7_surfacesOf 2 = .ok (.putfield 43, 3) := by decide +kernel
theorem dX7_surfacesOf_5 : decode cX7_surfacesOf 5 = .ok (.aload_n 0, 1) := by decide +kernel
theorem dX7_surfacesOf_6 : decode cX7_surfacesOf 6 = .ok (.iload_n 1, 1) := by decide +kernel
theorem dX7_surfacesOf_7 : decode cX7_surfacesOf 7 = .ok (.invokevirtual 57, 3) := by decide +kernel
theorem dX7_surfacesOf_10 : decode cX7_surfacesOf 10 = .ok (.ifCond .eq 12, 3) := by decide +kernel
theorem dX7_surfacesOf_13 : decode cX7_surfacesOf 13 = .ok (.aload_n 0, 1) := by decide +kernel
theorem dX7_surfacesOf_14 : decode cX7_surfacesOf 14 = .ok (.getfield 9, 3) := by decide +kernel
theorem dX7_surfacesOf_17 : decode cX7_surfacesOf 17 = .ok (.iload_n 1, 1) := by decide +kernel
theorem dX7_surfacesOf_18 : decode cX7_surfacesOf 18 = .ok (.iaload, 1) := by decide +kernel
theorem dX7_surfacesOf_19 : decode cX7_surfacesOf 19 = .ok (.goto 8, 3) := by decide +kernel
theorem dX7_surfacesOf_22 : decode cX7_surfacesOf 22 = .ok (.aload_n 0, 1) := by decide +kernel
theorem dX7_surfacesOf_23 : decode cX7_surfacesOf 23 = .ok (.iconst 1, 1) := by decide +kernel
theorem dX7_surfacesOf_24 : decode cX7_surfacesOf 24 = .ok (.invokevirtual 102, 3) := by decide +kernel
theorem dX7_surfacesOf_27 : decode cX7_surfacesOf 27 = .ok (.ireturn, 1) := by decide +kernel
theorem dX7_distanceOf_0 : decode cX7_distanceOf 0 = .ok (.aload_n 0, 1) := by decide +kernel
theorem dX7_distanceOf_1 : decode cX7_distanceOf 1 = .ok (.iconst 0, 1) := by decide +kernel
theorem dX7_distanceOf_2 : decode cX7_distanceOf 2 = .ok (.putfield 43, 3) := by decide +kernel
theorem dX7_distanceOf_5 : decode cX7_distanceOf 5 = .ok (.aload_n 0, 1) := by decide +kernel
theorem dX7_distanceOf_6 : decode cX7_distanceOf 6 = .ok (.iload_n 1, 1) := by decide +kernel
theorem dX7_distanceOf_7 : decode cX7_distanceOf 7 = .ok (.iload_n 2, 1) := by decide +kernel
theorem dX7_distanceOf_8 : decode cX7_distanceOf 8 = .ok (.invokevirtual 109, 3) := by decide +kernel
theorem dX7_distanceOf_11 : decode cX7_distanceOf 11 = .ok (.ifCond .eq 17, 3) := by decide +kernel
theorem dX7_distanceOf_14 : decode cX7_distanceOf 14 = .ok (.aload_n 0, 1) := by decide +kernel
theorem dX7_distanceOf_15 : decode cX7_distanceOf 15 = .ok (.getfield 25, 3) := by decide +kernel
theorem dX7_distanceOf_18 : decode cX7_distanceOf 18 = .ok (.bipush 6, 2) := by decide +kernel
theorem dX7_distanceOf_20 : decode cX7_distanceOf 20 = .ok (.iload_n 1, 1) := by decide +kernel
theorem dX7_distanceOf_21 : decode cX7_distanceOf 21 = .ok (.imul, 1) := by decide +kernel
theorem dX7_distanceOf_22 : decode cX7_distanceOf 22 = .ok (.iload_n 2, 1) := by decide +kernel
theorem dX7_distanceOf_23 : decode cX7_distanceOf 23 = .ok (.iadd, 1) := by decide +kernel
theorem dX7_distanceOf_24 : decode cX7_distanceOf 24 = .ok (.iaload, 1) := by decide +kernel
theorem dX7_distanceOf_25 : decode cX7_distanceOf 25 = .ok (.goto 8, 3) := by decide +kernel
theorem dX7_distanceOf_28 : decode cX7_distanceOf 28 = .ok (.aload_n 0, 1) := by decide +kernel
theorem dX7_distanceOf_29 : decode cX7_distanceOf 29 = .ok (.iconst 1, 1) := by decide +kernel
theorem dX7_distanceOf_30 : decode cX7_distanceOf 30 = .ok (.invokevirtual 102, 3) := by decide +kernel
theorem dX7_distanceOf_33 : decode cX7_distanceOf 33 = .ok (.ireturn, 1) := by decide +kernel
theorem dX7_hardnessOf_0 : decode cX7_hardnessOf 0 = .ok (.aload_n 0, 1) := by decide +kernel
theorem dX7_hardnessOf_1 : decode cX7_hardnessOf 1 = .ok (.iconst 0, 1) := by decide +kernel
theorem dX7_hardnessOf_2 : decode cX7_hardnessOf 2 = .ok (.putfield 43, 3) := by decide +kernel
theorem dX7_hardnessOf_5 : decode cX7_hardnessOf 5 = .ok (.aload_n 0, 1) := by decide +kernel
theorem dX7_hardnessOf_6 : decode cX7_hardnessOf 6 = .ok (.iload_n 1, 1) := by decide +kernel
theorem dX7_hardnessOf_7 : decode cX7_hardnessOf 7 = .ok (.iload_n 2, 1) := by decide +kernel
theorem dX7_hardnessOf_8 : decode cX7_hardnessOf 8 = .ok (.invokevirtual 109, 3) := by decide +kernel
theorem dX7_hardnessOf_11 : decode cX7_hardnessOf 11 = .ok (.ifCond .eq 18, 3) := by decide +kernel
theorem dX7_hardnessOf_14 : decode cX7_hardnessOf 14 = .ok (.aload_n 0, 1) := by decide +kernel
theorem dX7_hardnessOf_15 : decode cX7_hardnessOf 15 = .ok (.iload_n 1, 1) := by decide +kernel
theorem dX7_hardnessOf_16 : decode cX7_hardnessOf 16 = .ok (.iload_n 2, 1) := by decide +kernel
theorem dX7_hardnessOf_17 : decode cX7_hardnessOf 17 = .ok (.aload_n 0, 1) := by decide +kernel
theorem dX7_hardnessOf_18 : decode cX7_hardnessOf 18 = .ok (.getfield 16, 3) := by decide +kernel
theorem dX7_hardnessOf_21 : decode cX7_hardnessOf 21 = .ok (.iload_n 1, 1) := by decide +kernel
theorem dX7_hardnessOf_22 : decode cX7_hardnessOf 22 = .ok (.iaload, 1) := by decide +kernel
theorem dX7_hardnessOf_23 : decode cX7_hardnessOf 23 = .ok (.invokevirtual 70, 3) := by decide +kernel
theorem dX7_hardnessOf_26 : decode cX7_hardnessOf 26 = .ok (.goto 8, 3) := by decide +kernel
theorem dX7_hardnessOf_29 : decode cX7_hardnessOf 29 = .ok (.aload_n 0, 1) := by decide +kernel
theorem dX7_hardnessOf_30 : decode cX7_hardnessOf 30 = .ok (.iconst 1, 1) := by decide +kernel
theorem dX7_hardnessOf_31 : decode cX7_hardnessOf 31 = .ok (.invokevirtual 102, 3) := by decide +kernel
theorem dX7_hardnessOf_34 : decode cX7_hardnessOf 34 = .ok (.ireturn, 1) := by decide +kernel
theorem dX7_dampingOf_0 : decode cX7_dampingOf 0 = .ok (.aload_n 0, 1) := by decide +kernel
theorem dX7_dampingOf_1 : decode cX7_dampingOf 1 = .ok (.iconst 0, 1) := by decide +kernel
theorem dX7_dampingOf_2 : decode cX7_dampingOf 2 = .ok (.putfield 43, 3) := by decide +kernel
theorem dX7_dampingOf_5 : decode cX7_dampingOf 5 = .ok (.aload_n 0, 1) := by decide +kernel
theorem dX7_dampingOf_6 : decode cX7_dampingOf 6 = .ok (.iload_n 1, 1) := by decide +kernel
theorem dX7_dampingOf_7 : decode cX7_dampingOf 7 = .ok (.invokevirtual 57, 3) := by decide +kernel
theorem dX7_dampingOf_10 : decode cX7_dampingOf 10 = .ok (.ifCond .eq 12, 3) := by decide +kernel
theorem dX7_dampingOf_13 : decode cX7_dampingOf 13 = .ok (.aload_n 0, 1) := by decide +kernel
theorem dX7_dampingOf_14 : decode cX7_dampingOf 14 = .ok (.getfield 13, 3) := by decide +kernel
theorem dX7_dampingOf_17 : decode cX7_dampingOf 17 = .ok (.iload_n 1, 1) := by decide +kernel
theorem dX7_dampingOf_18 : decode cX7_dampingOf 18 = .ok (.iaload, 1) := by decide +kernel
theorem dX7_dampingOf_19 : decode cX7_dampingOf 19 = .ok (.goto 8, 3) := by decide +kernel
theorem dX7_dampingOf_22 : decode cX7_dampingOf 22 = .ok (.aload_n 0, 1) := by decide +kernel
theorem dX7_dampingOf_23 : decode cX7_dampingOf 23 = .ok (.iconst 1, 1) := by decide +kernel
theorem dX7_dampingOf_24 : decode cX7_dampingOf 24 = .ok (.invokevirtual 102, 3) := by decide +kernel
theorem dX7_dampingOf_27 : decode cX7_dampingOf 27 = .ok (.ireturn, 1) := by decide +kernel
theorem dX7_dustOf_0 : decode cX7_dustOf 0 = .ok (.aload_n 0, 1) := by decide +kernel
theorem dX7_dustOf_1 : decode cX7_dustOf 1 = .ok (.iconst 0, 1) := by decide +kernel
theorem dX7_dustOf_2 : decode cX7_dustOf 2 = .ok (.putfield 43, 3) := by decide +kernel
theorem dX7_dustOf_5 : decode cX7_dustOf 5 = .ok (.aload_n 0, 1) := by decide +kernel
theorem dX7_dustOf_6 : decode cX7_dustOf 6 = .ok (.iload_n 1, 1) := by decide +kernel
theorem dX7_dustOf_7 : decode cX7_dustOf 7 = .ok (.invokevirtual 57, 3) := by decide +kernel
theorem dX7_dustOf_10 : decode cX7_dustOf 10 = .ok (.ifCond .eq 12, 3) := by decide +kernel
theorem dX7_dustOf_13 : decode cX7_dustOf 13 = .ok (.aload_n 0, 1) := by decide +kernel
theorem dX7_dustOf_14 : decode cX7_dustOf 14 = .ok (.getfield 16, 3) := by decide +kernel
theorem dX7_dustOf_17 : decode cX7_dustOf 17 = .ok (.iload_n 1, 1) := by decide +kernel
theorem dX7_dustOf_18 : decode cX7_dustOf 18 = .ok (.iaload, 1) := by decide +kernel
theorem dX7_dustOf_19 : decode cX7_dustOf 19 = .ok (.goto 8, 3) := by decide +kernel
theorem dX7_dustOf_22 : decode cX7_dustOf 22 = .ok (.aload_n 0, 1) := by decide +kernel
theorem dX7_dustOf_23 : decode cX7_dustOf 23 = .ok (.iconst 1, 1) := by decide +kernel
theorem dX7_dustOf_24 : decode cX7_dustOf 24 = .ok (.invokevirtual 102, 3) := by decide +kernel
theorem dX7_dustOf_27 : decode cX7_dustOf 27 = .ok (.ireturn, 1) := by decide +kernel
theorem dX7_isClick_0 : decode cX7_isClick 0 = .ok (.aload_n 0, 1) := by decide +kernel
theorem dX7_isClick_1 : decode cX7_isClick 1 = .ok (.aload_n 0, 1) := by decide +kernel
theorem dX7_isClick_2 : decode cX7_isClick 2 = .ok (.iload_n 1, 1) := by decide +kernel
theorem dX7_isClick_3 : decode cX7_isClick 3 = .ok (.invokevirtual 57, 3) := by decide +kernel
theorem dX7_isClick_6 : decode cX7_isClick 6 = .ok (.ifCond .ne 7, 3) := by decide +kernel
theorem dX7_isClick_9 : decode cX7_isClick 9 = .ok (.iconst 1, 1) := by decide +kernel
theorem dX7_isClick_10 : decode cX7_isClick 10 = .ok (.goto 23, 3) := by decide +kernel
theorem dX7_isClick_13 : decode cX7_isClick 13 = .ok (.iload_n 2, 1) := by decide +kernel
theorem dX7_isClick_14 : decode cX7_isClick 14 = .ok (.iconst 1, 1) := by decide +kernel
theorem dX7_isClick_15 : decode cX7_isClick 15 = .ok (.sipush 1000, 3) := by decide +kernel
theorem dX7_isClick_18 : decode cX7_isClick 18 = .ok (.invokestatic 50, 3) := by decide +kernel
theorem dX7_isClick_21 : decode cX7_isClick 21 = .ok (.ifCond .eq 11, 3) := by decide +kernel
theorem dX7_isClick_24 : decode cX7_isClick 24 = .ok (.iload_n 3, 1) := by decide +kernel
theorem dX7_isClick_25 : decode cX7_isClick 25 = .ok (.ifCond .eq 7, 3) := by decide +kernel
theorem dX7_isClick_28 : decode cX7_isClick 28 = .ok (.iconst 0, 1) := by decide +kernel
theorem dX7_isClick_29 : decode cX7_isClick 29 = .ok (.goto 4, 3) := by decide +kernel
theorem dX7_isClick_32 : decode cX7_isClick 32 = .ok (.iconst 2, 1) := by decide +kernel
theorem dX7_isClick_33 : decode cX7_isClick 33 = .ok (.putfield 43, 3) := by decide +kernel
theorem dX7_isClick_36 : decode cX7_isClick 36 = .ok (.aload_n 0, 1) := by decide +kernel
theorem dX7_isClick_37 : decode cX7_isClick 37 = .ok (.getfield 43, 3) := by decide +kernel
theorem dX7_isClick_40 : decode cX7_isClick 40 = .ok (.ifCond .ne 9, 3) := by decide +kernel
theorem dX7_isClick_43 : decode cX7_isClick 43 = .ok (.aload_n 0, 1) := by decide +kernel
theorem dX7_isClick_44 : decode cX7_isClick 44 = .ok (.iload_n 1, 1) := by decide +kernel
theorem dX7_isClick_45 : decode cX7_isClick 45 = .ok (.iload_n 2, 1) := by decide +kernel
theorem dX7_isClick_46 : decode cX7_isClick 46 = .ok (.invokevirtual 140, 3) := by decide +kernel
theorem dX7_isClick_49 : decode cX7_isClick 49 = .ok (.aload_n 0, 1) := by decide +kernel
theorem dX7_isClick_50 : decode cX7_isClick 50 = .ok (.getfield 43, 3) := by decide +kernel
theorem dX7_isClick_53 : decode cX7_isClick 53 = .ok (.ifCond .ne 7, 3) := by decide +kernel
theorem dX7_isClick_56 : decode cX7_isClick 56 = .ok (.iconst 1, 1) := by decide +kernel
theorem dX7_isClick_57 : decode cX7_isClick 57 = .ok (.goto 4, 3) := by decide +kernel
theorem dX7_isClick_60 : decode cX7_isClick 60 = .ok (.iconst 0, 1) := by decide +kernel
theorem dX7_isClick_61 : decode cX7_isClick 61 = .ok (.ireturn, 1) := by decide +kernel
theorem dX7_echoes_0 : decode cX7_echoes 0 = .ok (.aload_n 0, 1) := by decide +kernel
theorem dX7_echoes_1 : decode cX7_echoes 1 = .ok (.iload_n 1, 1) := by decide +kernel
theorem dX7_echoes_2 : decode cX7_echoes 2 = .ok (.iload_n 2, 1) := by decide +kernel
theorem dX7_echoes_3 : decode cX7_echoes 3 = .ok (.iconst 1, 1) := by decide +kernel
theorem dX7_echoes_4 : decode cX7_echoes 4 = .ok (.invokevirtual 144, 3) := by decide +kernel
theorem dX7_echoes_7 : decode cX7_echoes 7 = .ok (.ifCond .eq 10, 3) := by decide +kernel
theorem dX7_echoes_10 : decode cX7_echoes 10 = .ok (.aload_n 0, 1) := by decide +kernel
theorem dX7_echoes_11 : decode cX7_echoes 11 = .ok (.invokevirtual 82, 3) := by decide +kernel
theorem dX7_echoes_14 : decode cX7_echoes 14 = .ok (.goto 4, 3) := by decide +kernel
theorem dX7_echoes_17 : decode cX7_echoes 17 = .ok (.iconst 0, 1) := by decide +kernel
theorem dX7_echoes_18 : decode cX7_echoes 18 = .ok (.ireturn, 1) := by decide +kernel
theorem dX7_loudEchoes_0 : decode cX7_loudEchoes 0 = .ok (.aload_n 0, 1) := by decide +kernel
theorem dX7_loudEchoes_1 : decode cX7_loudEchoes 1 = .ok (.iload_n 1, 1) := by decide +kernel
theorem dX7_loudEchoes_2 : decode cX7_loudEchoes 2 = .ok (.iload_n 2, 1) := by decide +kernel
theorem dX7_loudEchoes_3 : decode cX7_loudEchoes 3 = .ok (.iload_n 3, 1) := by decide +kernel
theorem dX7_loudEchoes_4 : decode cX7_loudEchoes 4 = .ok (.iconst 1, 1) := by decide +kernel
theorem dX7_loudEchoes_5 : decode cX7_loudEchoes 5 = .ok (.sipush 1000, 3) := by decide +kernel
theorem dX7_loudEchoes_8 : decode cX7_loudEchoes 8 = .ok (.invokestatic 50, 3) := by decide +kernel
theorem dX7_loudEchoes_11 : decode cX7_loudEchoes 11 = .ok (.invokevirtual 144, 3) := by decide +kernel
theorem dX7_loudEchoes_14 : decode cX7_loudEchoes 14 = .ok (.ifCond .eq 11, 3) := by decide +kernel
theorem dX7_loudEchoes_17 : decode cX7_loudEchoes 17 = .ok (.aload_n 0, 1) := by decide +kernel
theorem dX7_loudEchoes_18 : decode cX7_loudEchoes 18 = .ok (.iload_n 3, 1) := by decide +kernel
theorem dX7_loudEchoes_19 : decode cX7_loudEchoes 19 = .ok (.invokevirtual 95, 3) := by decide +kernel
theorem dX7_loudEchoes_22 : decode cX7_loudEchoes 22 = .ok (.goto 4, 3) := by decide +kernel
theorem dX7_loudEchoes_25 : decode cX7_loudEchoes 25 = .ok (.iconst 0, 1) := by decide +kernel
theorem dX7_loudEchoes_26 : decode cX7_loudEchoes 26 = .ok (.ireturn, 1) := by decide +kernel
theorem dX7_firstEcho_0 : decode cX7_firstEcho 0 = .ok (.aload_n 0, 1) := by decide +kernel
theorem dX7_firstEcho_1 : decode cX7_firstEcho 1 = .ok (.iload_n 1, 1) := by decide +kernel
theorem dX7_firstEcho_2 : decode cX7_firstEcho 2 = .ok (.iload_n 2, 1) := by decide +kernel
theorem dX7_firstEcho_3 : decode cX7_firstEcho 3 = .ok (.iconst 1, 1) := by decide +kernel
theorem dX7_firstEcho_4 : decode cX7_firstEcho 4 = .ok (.invokevirtual 144, 3) := by decide +kernel
theorem dX7_firstEcho_7 : decode cX7_firstEcho 7 = .ok (.ifCond .eq 10, 3) := by decide +kernel
theorem dX7_firstEcho_10 : decode cX7_firstEcho 10 = .ok (.aload_n 0, 1) := by decide +kernel
theorem dX7_firstEcho_11 : decode cX7_firstEcho 11 = .ok (.invokevirtual 86, 3) := by decide +kernel
theorem dX7_firstEcho_14 : decode cX7_firstEcho 14 = .ok (.goto 4, 3) := by decide +kernel
theorem dX7_firstEcho_17 : decode cX7_firstEcho 17 = .ok (.iconst 0, 1) := by decide +kernel
theorem dX7_firstEcho_18 : decode cX7_firstEcho 18 = .ok (.ireturn, 1) := by decide +kernel
theorem dX7_lastEcho_0 : decode cX7_lastEcho 0 = .ok (.aload_n 0, 1) := by decide +kernel
theorem dX7_lastEcho_1 : decode cX7_lastEcho 1 = .ok (.iload_n 1, 1) := by decide +kernel
theorem dX7_lastEcho_2 : decode cX7_lastEcho 2 = .ok (.iload_n 2, 1) := by decide +kernel
theorem dX7_lastEcho_3 : decode cX7_lastEcho 3 = .ok (.iconst 1, 1) := by decide +kernel
theorem dX7_lastEcho_4 : decode cX7_lastEcho 4 = .ok (.invokevirtual 144, 3) := by decide +kernel
theorem dX7_lastEcho_7 : decode cX7_lastEcho 7 = .ok (.ifCond .eq 10, 3) := by decide +kernel
theorem dX7_lastEcho_10 : decode cX7_lastEcho 10 = .ok (.aload_n 0, 1) := by decide +kernel
theorem dX7_lastEcho_11 : decode cX7_lastEcho 11 = .ok (.invokevirtual 92, 3) := by decide +kernel
theorem dX7_lastEcho_14 : decode cX7_lastEcho 14 = .ok (.goto 4, 3) := by decide +kernel
theorem dX7_lastEcho_17 : decode cX7_lastEcho 17 = .ok (.iconst 0, 1) := by decide +kernel
theorem dX7_lastEcho_18 : decode cX7_lastEcho 18 = .ok (.ireturn, 1) := by decide +kernel
theorem dX7_loudnessAt_0 : decode cX7_loudnessAt 0 = .ok (.aload_n 0, 1) := by decide +kernel
theorem dX7_loudnessAt_1 : decode cX7_loudnessAt 1 = .ok (.iload_n 1, 1) := by decide +kernel
theorem dX7_loudnessAt_2 : decode cX7_loudnessAt 2 = .ok (.iload_n 2, 1) := by decide +kernel
theorem dX7_loudnessAt_3 : decode cX7_loudnessAt 3 = .ok (.iload_n 3, 1) := by decide +kernel
theorem dX7_loudnessAt_4 : decode cX7_loudnessAt 4 = .ok (.iconst 0, 1) := by decide +kernel
theorem dX7_loudnessAt_5 : decode cX7_loudnessAt 5 = .ok (.sipush 3000, 3) := by decide +kernel
theorem dX7_loudnessAt_8 : decode cX7_loudnessAt 8 = .ok (.invokestatic 50, 3) := by decide +kernel
theorem dX7_loudnessAt_11 : decode cX7_loudnessAt 11 = .ok (.invokevirtual 144, 3) := by decide +kernel
theorem dX7_loudnessAt_14 : decode cX7_loudnessAt 14 = .ok (.ifCond .eq 11, 3) := by decide +kernel
theorem dX7_loudnessAt_17 : decode cX7_loudnessAt 17 = .ok (.aload_n 0, 1) := by decide +kernel
theorem dX7_loudnessAt_18 : decode cX7_loudnessAt 18 = .ok (.iload_n 3, 1) := by decide +kernel
theorem dX7_loudnessAt_19 : decode cX7_loudnessAt 19 = .ok (.invokevirtual 78, 3) := by decide +kernel
theorem dX7_loudnessAt_22 : decode cX7_loudnessAt 22 = .ok (.goto 4, 3) := by decide +kernel
theorem dX7_loudnessAt_25 : decode cX7_loudnessAt 25 = .ok (.iconst 0, 1) := by decide +kernel
theorem dX7_loudnessAt_26 : decode cX7_loudnessAt 26 = .ok (.ireturn, 1) := by decide +kernel
theorem dX7_loudestMoment_0 : decode cX7_loudestMoment 0 = .ok (.aload_n 0, 1) := by decide +kernel
theorem dX7_loudestMoment_1 : decode cX7_loudestMoment 1 = .ok (.iload_n 1, 1) := by decide +kernel
theorem dX7_loudestMoment_2 : decode cX7_loudestMoment 2 = .ok (.iload_n 2, 1) := by decide +kernel
theorem dX7_loudestMoment_3 : decode cX7_loudestMoment 3 = .ok (.iconst 1, 1) := by decide +kernel
theorem dX7_loudestMoment_4 : decode cX7_loudestMoment 4 = .ok (.invokevirtual 144, 3) := by decide +kernel
theorem dX7_loudestMoment_7 : decode cX7_loudestMoment 7 = .ok (.ifCond .eq 10, 3) := by decide +kernel
theorem dX7_loudestMoment_10 : decode cX7_loudestMoment 10 = .ok (.aload_n 0, 1) := by decide +kernel
theorem dX7_loudestMoment_11 : decode cX7_loudestMoment 11 = .ok (.invokevirtual 148, 3) := by decide +kernel
theorem dX7_loudestMoment_14 : decode cX7_loudestMoment 14 = .ok (.goto 4, 3) := by decide +kernel
theorem dX7_loudestMoment_17 : decode cX7_loudestMoment 17 = .ok (.iconst 0, 1) := by decide +kernel
theorem dX7_loudestMoment_18 : decode cX7_loudestMoment 18 = .ok (.ireturn, 1) := by decide +kernel
theorem dX7_meets__0 : decode cX7_meets_ 0 = .ok (.aload_n 0, 1) := by decide +kernel
theorem dX7_meets__1 : decode cX7_meets_ 1 = .ok (.iload_n 1, 1) := by decide +kernel
theorem dX7_meets__2 : decode cX7_meets_ 2 = .ok (.iload_n 2, 1) := by decide +kernel
theorem dX7_meets__3 : decode cX7_meets_ 3 = .ok (.invokevirtual 122, 3) := by decide +kernel
theorem dX7_meets__6 : decode cX7_meets_ 6 = .ok (.ifCond .eq 16, 3) := by decide +kernel
theorem dX7_meets__9 : decode cX7_meets_ 9 = .ok (.aload_n 0, 1) := by decide +kernel
theorem dX7_meets__10 : decode cX7_meets_ 10 = .ok (.iload_n 1, 1) := by decide +kernel
theorem dX7_meets__11 : decode cX7_meets_ 11 = .ok (.iload_n 2, 1) := by decide +kernel
theorem dX7_meets__12 : decode cX7_meets_ 12 = .ok (.invokevirtual 128, 3) := by decide +kernel
theorem dX7_meets__15 : decode cX7_meets_ 15 = .ok (.ifCond .eq 7, 3) := by decide +kernel
theorem dX7_meets__18 : decode cX7_meets_ 18 = .ok (.iconst 1, 1) := by decide +kernel
theorem dX7_meets__19 : decode cX7_meets_ 19 = .ok (.goto 4, 3) := by decide +kernel
theorem dX7_meets__22 : decode cX7_meets_ 22 = .ok (.iconst 0, 1) := by decide +kernel
theorem dX7_meets__23 : decode cX7_meets_ 23 = .ok (.ireturn, 1) := by decide +kernel
theorem dX7_hallsMeeting_0 : decode cX7_hallsMeeting 0 = .ok (.aload_n 0, 1) := by decide +kernel
theorem dX7_hallsMeeting_1 : decode cX7_hallsMeeting 1 = .ok (.iconst 0, 1) := by decide +kernel
theorem dX7_hallsMeeting_2 : decode cX7_hallsMeeting 2 = .ok (.putfield 43, 3) := by decide +kernel
theorem dX7_hallsMeeting_5 : decode cX7_hallsMeeting 5 = .ok (.aload_n 0, 1) := by decide +kernel
theorem dX7_hallsMeeting_6 : decode cX7_hallsMeeting 6 = .ok (.iload_n 1, 1) := by decide +kernel
theorem dX7_hallsMeeting_7 : decode cX7_hallsMeeting 7 = .ok (.invokevirtual 119, 3) := by decide +kernel
theorem dX7_hallsMeeting_10 : decode cX7_hallsMeeting 10 = .ok (.ifCond .ne 9, 3) := by decide +kernel
theorem dX7_hallsMeeting_13 : decode cX7_hallsMeeting 13 = .ok (.aload_n 0, 1) := by decide +kernel
theorem dX7_hallsMeeting_14 : decode cX7_hallsMeeting 14 = .ok (.iconst 1, 1) := by decide +kernel
theorem dX7_hallsMeeting_15 : decode cX7_hallsMeeting 15 = .ok (.invokevirtual 102, 3) := by decide +kernel
theorem dX7_hallsMeeting_18 : decode cX7_hallsMeeting 18 = .ok (.ireturn, 1) := by decide +kernel
theorem dX7_hallsMeeting_19 : decode cX7_hallsMeeting 19 = .ok (.iconst 0, 1) := by decide +kernel
theorem dX7_hallsMeeting_20 : decode cX7_hallsMeeting 20 = .ok (.istore_n 2, 1) := by decide +kernel
theorem dX7_hallsMeeting_21 : decode cX7_hallsMeeting 21 = .ok (.iconst 0, 1) := by decide +kernel
theorem dX7_hallsMeeting_22 : decode cX7_hallsMeeting 22 = .ok (.istore_n 3, 1) := by decide +kernel
theorem dX7_hallsMeeting_23 : decode cX7_hallsMeeting 23 = .ok (.iload_n 3, 1) := by decide +kernel
theorem dX7_hallsMeeting_24 : decode cX7_hallsMeeting 24 = .ok (.aload_n 0, 1) := by decide +kernel
theorem dX7_hallsMeeting_25 : decode cX7_hallsMeeting 25 = .ok (.getfield 47, 3) := by decide +kernel
theorem dX7_hallsMeeting_28 : decode cX7_hallsMeeting 28 = .ok (.if_icmp .ge 26, 3) := by decide +kernel
theorem dX7_hallsMeeting_31 : decode cX7_hallsMeeting 31 = .ok (.iload_n 2, 1) := by decide +kernel
theorem dX7_hallsMeeting_32 : decode cX7_hallsMeeting 32 = .ok (.aload_n 0, 1) := by decide +kernel
theorem dX7_hallsMeeting_33 : decode cX7_hallsMeeting 33 = .ok (.iload_n 3, 1) := by decide +kernel
theorem dX7_hallsMeeting_34 : decode cX7_hallsMeeting 34 = .ok (.iload_n 1, 1) := by decide +kernel
theorem dX7_hallsMeeting_35 : decode cX7_hallsMeeting 35 = .ok (.invokevirtual 128, 3) := by decide +kernel
theorem dX7_hallsMeeting_38 : decode cX7_hallsMeeting 38 = .ok (.ifCond .eq 7, 3) := by decide +kernel
theorem dX7_hallsMeeting_41 : decode cX7_hallsMeeting 41 = .ok (.iconst 1, 1) := by decide +kernel
theorem dX7_hallsMeeting_42 : decode cX7_hallsMeeting 42 = .ok (.goto 4, 3) := by decide +kernel
theorem dX7_hallsMeeting_45 : decode cX7_hallsMeeting 45 = .ok (.iconst 0, 1) := by decide +kernel
theorem dX7_hallsMeeting_46 : decode cX7_hallsMeeting 46 = .ok (.iadd, 1) := by decide +kernel
theorem dX7_hallsMeeting_47 : decode cX7_hallsMeeting 47 = .ok (.istore_n 2, 1) := by decide +kernel
theorem dX7_hallsMeeting_48 : decode cX7_hallsMeeting 48 = .ok (.iinc 3 1, 3) := by decide +kernel
theorem dX7_hallsMeeting_51 : decode cX7_hallsMeeting 51 = .ok (.goto (-28), 3) := by decide +kernel
theorem dX7_hallsMeeting_54 : decode cX7_hallsMeeting 54 = .ok (.iload_n 2, 1) := by decide +kernel
theorem dX7_hallsMeeting_55 : decode cX7_hallsMeeting 55 = .ok (.ireturn, 1) := by decide +kernel
theorem dX7_isCertified_0 : decode cX7_isCertified 0 = .ok (.aload_n 0, 1) := by decide +kernel
theorem dX7_isCertified_1 : decode cX7_isCertified 1 = .ok (.iconst 0, 1) := by decide +kernel
theorem dX7_isCertified_2 : decode cX7_isCertified 2 = .ok (.putfield 43, 3) := by decide +kernel
theorem dX7_isCertified_5 : decode cX7_isCertified 5 = .ok (.aload_n 0, 1) := by decide +kernel
theorem dX7_isCertified_6 : decode cX7_isCertified 6 = .ok (.iload_n 1, 1) := by decide +kernel
theorem dX7_isCertified_7 : decode cX7_isCertified 7 = .ok (.invokevirtual 57, 3) := by decide +kernel
theorem dX7_isCertified_10 : decode cX7_isCertified 10 = .ok (.ifCond .eq 21, 3) := by decide +kernel
theorem dX7_isCertified_13 : decode cX7_isCertified 13 = .ok (.aload_n 0, 1) := by decide +kernel
theorem dX7_isCertified_14 : decode cX7_isCertified 14 = .ok (.getfield 19, 3) := by decide +kernel
theorem dX7_isCertified_17 : decode cX7_isCertified 17 = .ok (.iload_n 1, 1) := by decide +kernel
theorem dX7_isCertified_18 : decode cX7_isCertified 18 = .ok (.iaload, 1) := by decide +kernel
theorem dX7_isCertified_19 : decode cX7_isCertified 19 = .ok (.iconst (-1), 1) := by decide +kernel
theorem dX7_isCertified_20 : decode cX7_isCertified 20 = .ok (.if_icmp .eq 7, 3) := by decide +kernel
theorem dX7_isCertified_23 : decode cX7_isCertified 23 = .ok (.iconst 1, 1) := by decide +kernel
theorem dX7_isCertified_24 : decode cX7_isCertified 24 = .ok (.goto 12, 3) := by decide +kernel
theorem dX7_isCertified_27 : decode cX7_isCertified 27 = .ok (.iconst 0, 1) := by decide +kernel
theorem dX7_isCertified_28 : decode cX7_isCertified 28 = .ok (.goto 8, 3) := by decide +kernel
theorem dX7_isCertified_31 : decode cX7_isCertified 31 = .ok (.aload_n 0, 1) := by decide +kernel
theorem dX7_isCertified_32 : decode cX7_isCertified 32 = .ok (.iconst 1, 1) := by decide +kernel
theorem dX7_isCertified_33 : decode cX7_isCertified 33 = .ok (.invokevirtual 151, 3) := by decide +kernel
theorem dX7_isCertified_36 : decode cX7_isCertified 36 = .ok (.ireturn, 1) := by decide +kernel
theorem dX7_certifiedBy_0 : decode cX7_certifiedBy 0 = .ok (.aload_n 0, 1) := by decide +kernel
theorem dX7_certifiedBy_1 : decode cX7_certifiedBy 1 = .ok (.iconst 0, 1) := by decide +kernel
theorem dX7_certifiedBy_2 : decode cX7_certifiedBy 2 = .ok (.putfield 43, 3) := by decide +kernel
theorem dX7_certifiedBy_5 : decode cX7_certifiedBy 5 = .ok (.aload_n 0, 1) := by decide +kernel
theorem dX7_certifiedBy_6 : decode cX7_certifiedBy 6 = .ok (.iload_n 1, 1) := by decide +kernel
theorem dX7_certifiedBy_7 : decode cX7_certifiedBy 7 = .ok (.invokevirtual 57, 3) := by decide +kernel
theorem dX7_certifiedBy_10 : decode cX7_certifiedBy 10 = .ok (.ifCond .ne 9, 3) := by decide +kernel
theorem dX7_certifiedBy_13 : decode cX7_certifiedBy 13 = .ok (.aload_n 0, 1) := by decide +kernel
theorem dX7_certifiedBy_14 : decode cX7_certifiedBy 14 = .ok (.iconst 1, 1) := by decide +kernel
theorem dX7_certifiedBy_15 : decode cX7_certifiedBy 15 = .ok (.invokevirtual 102, 3) := by decide +kernel
theorem dX7_certifiedBy_18 : decode cX7_certifiedBy 18 = .ok (.ireturn, 1) := by decide +kernel
theorem dX7_certifiedBy_19 : decode cX7_certifiedBy 19 = .ok (.aload_n 0, 1) := by decide +kernel
theorem dX7_certifiedBy_20 : decode cX7_certifiedBy 20 = .ok (.getfield 19, 3) := by decide +kernel
theorem dX7_certifiedBy_23 : decode cX7_certifiedBy 23 = .ok (.iload_n 1, 1) := by decide +kernel
theorem dX7_certifiedBy_24 : decode cX7_certifiedBy 24 = .ok (.iaload, 1) := by decide +kernel
theorem dX7_certifiedBy_25 : decode cX7_certifiedBy 25 = .ok (.iconst (-1), 1) := by decide +kernel
theorem dX7_certifiedBy_26 : decode cX7_certifiedBy 26 = .ok (.if_icmp .ne 11, 3) := by decide +kernel
theorem dX7_certifiedBy_29 : decode cX7_certifiedBy 29 = .ok (.aload_n 0, 1) := by decide +kernel
theorem dX7_certifiedBy_30 : decode cX7_certifiedBy 30 = .ok (.iconst 2, 1) := by decide +kernel
theorem dX7_certifiedBy_31 : decode cX7_certifiedBy 31 = .ok (.invokevirtual 102, 3) := by decide +kernel
theorem dX7_certifiedBy_34 : decode cX7_certifiedBy 34 = .ok (.goto 9, 3) := by decide +kernel
theorem dX7_certifiedBy_37 : decode cX7_certifiedBy 37 = .ok (.aload_n 0, 1) := by decide +kernel
theorem dX7_certifiedBy_38 : decode cX7_certifiedBy 38 = .ok (.getfield 19, 3) := by decide +kernel
theorem dX7_certifiedBy_41 : decode cX7_certifiedBy 41 = .ok (.iload_n 1, 1) := by decide +kernel
theorem dX7_certifiedBy_42 : decode cX7_certifiedBy 42 = .ok (.iaload, 1) := by decide +kernel
theorem dX7_certifiedBy_43 : decode cX7_certifiedBy 43 = .ok (.ireturn, 1) := by decide +kernel
theorem dX7_daysLeft_0 : decode cX7_daysLeft 0 = .ok (.aload_n 0, 1) := by decide +kernel
theorem dX7_daysLeft_1 : decode cX7_daysLeft 1 = .ok (.iconst 0, 1) := by decide +kernel
theorem dX7_daysLeft_2 : decode cX7_daysLeft 2 = .ok (.putfield 43, 3) := by decide +kernel
theorem dX7_daysLeft_5 : decode cX7_daysLeft 5 = .ok (.aload_n 0, 1) := by decide +kernel
theorem dX7_daysLeft_6 : decode cX7_daysLeft 6 = .ok (.iload_n 1, 1) := by decide +kernel
theorem dX7_daysLeft_7 : decode cX7_daysLeft 7 = .ok (.invokevirtual 57, 3) := by decide +kernel
theorem dX7_daysLeft_10 : decode cX7_daysLeft 10 = .ok (.ifCond .eq 12, 3) := by decide +kernel
theorem dX7_daysLeft_13 : decode cX7_daysLeft 13 = .ok (.aload_n 0, 1) := by decide +kernel
theorem dX7_daysLeft_14 : decode cX7_daysLeft 14 = .ok (.getfield 22, 3) := by decide +kernel
theorem dX7_daysLeft_17 : decode cX7_daysLeft 17 = .ok (.iload_n 1, 1) := by decide +kernel
theorem dX7_daysLeft_18 : decode cX7_daysLeft 18 = .ok (.iaload, 1) := by decide +kernel
theorem dX7_daysLeft_19 : decode cX7_daysLeft 19 = .ok (.goto 8, 3) := by decide +kernel
theorem dX7_daysLeft_22 : decode cX7_daysLeft 22 = .ok (.aload_n 0, 1) := by decide +kernel
theorem dX7_daysLeft_23 : decode cX7_daysLeft 23 = .ok (.iconst 1, 1) := by decide +kernel
theorem dX7_daysLeft_24 : decode cX7_daysLeft 24 = .ok (.invokevirtual 102, 3) := by decide +kernel
theorem dX7_daysLeft_27 : decode cX7_daysLeft 27 = .ok (.ireturn, 1) := by decide +kernel
theorem dX7_halls_0 : decode cX7_halls 0 = .ok (.aload_n 0, 1) := by decide +kernel
theorem dX7_halls_1 : decode cX7_halls 1 = .ok (.iconst 0, 1) := by decide +kernel
theorem dX7_halls_2 : decode cX7_halls 2 = .ok (.putfield 43, 3) := by decide +kernel
theorem dX7_halls_5 : decode cX7_halls 5 = .ok (.aload_n 0, 1) := by decide +kernel
theorem dX7_halls_6 : decode cX7_halls 6 = .ok (.getfield 47, 3) := by decide +kernel
theorem dX7_halls_9 : decode cX7_halls 9 = .ok (.ireturn, 1) := by decide +kernel
theorem dX7_standards_0 : decode cX7_standards 0 = .ok (.aload_n 0, 1) := by decide +kernel
theorem dX7_standards_1 : decode cX7_standards 1 = .ok (.iconst 0, 1) := by decide +kernel
theorem dX7_standards_2 : decode cX7_standards 2 = .ok (.putfield 43, 3) := by decide +kernel
theorem dX7_standards_5 : decode cX7_standards 5 = .ok (.aload_n 0, 1) := by decide +kernel
theorem dX7_standards_6 : decode cX7_standards 6 = .ok (.getfield 54, 3) := by decide +kernel
theorem dX7_standards_9 : decode cX7_standards 9 = .ok (.ireturn, 1) := by decide +kernel
theorem dX7_day_0 : decode cX7_day 0 = .ok (.aload_n 0, 1) := by decide +kernel
theorem dX7_day_1 : decode cX7_day 1 = .ok (.iconst 0, 1) := by decide +kernel
theorem dX7_day_2 : decode cX7_day 2 = .ok (.putfield 43, 3) := by decide +kernel
theorem dX7_day_5 : decode cX7_day 5 = .ok (.aload_n 0, 1) := by decide +kernel
theorem dX7_day_6 : decode cX7_day 6 = .ok (.getfield 134, 3) := by decide +kernel
theorem dX7_day_9 : decode cX7_day 9 = .ok (.ireturn, 1) := by decide +kernel
theorem dX7_inspections_0 : decode cX7_inspections 0 = .ok (.aload_n 0, 1) := by decide +kernel
theorem dX7_inspections_1 : decode cX7_inspections 1 = .ok (.iconst 0, 1) := by decide +kernel
theorem dX7_inspections_2 : decode cX7_inspections 2 = .ok (.putfield 43, 3) := by decide +kernel
theorem dX7_inspections_5 : decode cX7_inspections 5 = .ok (.aload_n 0, 1) := by decide +kernel
theorem dX7_inspections_6 : decode cX7_inspections 6 = .ok (.getfield 125, 3) := by decide +kernel
theorem dX7_inspections_9 : decode cX7_inspections 9 = .ok (.ireturn, 1) := by decide +kernel
theorem dX7_certifiedHalls_0 : decode cX7_certifiedHalls 0 = .ok (.aload_n 0, 1) := by decide +kernel
theorem dX7_certifiedHalls_1 : decode cX7_certifiedHalls 1 = .ok (.iconst 0, 1) := by decide +kernel
theorem dX7_certifiedHalls_2 : decode cX7_certifiedHalls 2 = .ok (.putfield 43, 3) := by decide +kernel
theorem dX7_certifiedHalls_5 : decode cX7_certifiedHalls 5 = .ok (.aload_n 0, 1) := by decide +kernel
theorem dX7_certifiedHalls_6 : decode cX7_certifiedHalls 6 = .ok (.invokevirtual 137, 3) := by decide +kernel
theorem dX7_certifiedHalls_9 : decode cX7_certifiedHalls 9 = .ok (.ireturn, 1) := by decide +kernel
theorem dX7_meetsWithDamping_0 : decode cX7_meetsWithDamping 0 = .ok (.aload_n 0, 1) := by decide +kernel
theorem dX7_meetsWithDamping_1 : decode cX7_meetsWithDamping 1 = .ok (.iload_n 1, 1) := by decide +kernel
theorem dX7_meetsWithDamping_2 : decode cX7_meetsWithDamping 2 = .ok (.iload_n 2, 1) := by decide +kernel
theorem dX7_meetsWithDamping_3 : decode cX7_meetsWithDamping 3 = .ok (.invokevirtual 122, 3) := by decide +kernel
theorem dX7_meetsWithDamping_6 : decode cX7_meetsWithDamping 6 = .ok (.ifCond .ne 5, 3) := by decide +kernel
theorem dX7_meetsWithDamping_9 : decode cX7_meetsWithDamping 9 = .ok (.iconst 0, 1) := by decide +kernel
theorem dX7_meetsWithDamping_10 : decode cX7_meetsWithDamping 10 = .ok (.ireturn, 1) := by decide +kernel
theorem dX7_meetsWithDamping_11 : decode cX7_meetsWithDamping 11 = .ok (.iload_n 3, 1) := by decide +kernel
theorem dX7_meetsWithDamping_12 : decode cX7_meetsWithDamping 12 = .ok (.iconst 0, 1) := by decide +kernel
theorem dX7_meetsWithDamping_13 : decode cX7_meetsWithDamping 13 = .ok (.bipush 90, 2) := by decide +kernel
theorem dX7_meetsWithDamping_15 : decode cX7_meetsWithDamping 15 = .ok (.invokestatic 50, 3) := by decide +kernel
theorem dX7_meetsWithDamping_18 : decode cX7_meetsWithDamping 18 = .ok (.ifCond .eq 19, 3) := by decide +kernel
theorem dX7_meetsWithDamping_21 : decode cX7_meetsWithDamping 21 = .ok (.aload_n 0, 1) := by decide +kernel
theorem dX7_meetsWithDamping_22 : decode cX7_meetsWithDamping 22 = .ok (.iload_n 1, 1) := by decide +kernel
theorem dX7_meetsWithDamping_23 : decode cX7_meetsWithDamping 23 = .ok (.iload_n 2, 1) := by decide +kernel
theorem dX7_meetsWithDamping_24 : decode cX7_meetsWithDamping 24 = .ok (.iload_n 3, 1) := by decide +kernel
theorem dX7_meetsWithDamping_25 : decode cX7_meetsWithDamping 25 = .ok (.aload_n 0, 1) := by decide +kernel
theorem dX7_meetsWithDamping_26 : decode cX7_meetsWithDamping 26 = .ok (.getfield 16, 3) := by decide +kernel
theorem dX7_meetsWithDamping_29 : decode cX7_meetsWithDamping 29 = .ok (.iload_n 1, 1) := by decide +kernel
theorem dX7_meetsWithDamping_30 : decode cX7_meetsWithDamping 30 = .ok (.iaload, 1) := by decide +kernel
theorem dX7_meetsWithDamping_31 : decode cX7_meetsWithDamping 31 = .ok (.invokevirtual 98, 3) := by decide +kernel
theorem dX7_meetsWithDamping_34 : decode cX7_meetsWithDamping 34 = .ok (.goto 8, 3) := by decide +kernel
theorem dX7_meetsWithDamping_37 : decode cX7_meetsWithDamping 37 = .ok (.aload_n 0, 1) := by decide +kernel
theorem dX7_meetsWithDamping_38 : decode cX7_meetsWithDamping 38 = .ok (.iconst 2, 1) := by decide +kernel
theorem dX7_meetsWithDamping_39 : decode cX7_meetsWithDamping 39 = .ok (.invokevirtual 151, 3) := by decide +kernel
theorem dX7_meetsWithDamping_42 : decode cX7_meetsWithDamping 42 = .ok (.ireturn, 1) := by decide +kernel
theorem dX7_least_0 : decode cX7_least 0 = .ok (.iconst 0, 1) := by decide +kernel
theorem dX7_least_1 : decode cX7_least 1 = .ok (.istore_n 3, 1) := by decide +kernel
theorem dX7_least_2 : decode cX7_least 2 = .ok (.iload_n 3, 1) := by decide +kernel
theorem dX7_least_3 : decode cX7_least 3 = .ok (.bipush 90, 2) := by decide +kernel
theorem dX7_least_5 : decode cX7_least 5 = .ok (.if_icmp .gt 27, 3) := by decide +kernel
theorem dX7_least_8 : decode cX7_least 8 = .ok (.aload_n 0, 1) := by decide +kernel
theorem dX7_least_9 : decode cX7_least 9 = .ok (.iload_n 1, 1) := by decide +kernel
theorem dX7_least_10 : decode cX7_least 10 = .ok (.iload_n 2, 1) := by decide +kernel
theorem dX7_least_11 : decode cX7_least 11 = .ok (.iload_n 3, 1) := by decide +kernel
theorem dX7_least_12 : decode cX7_least 12 = .ok (.aload_n 0, 1) := by decide +kernel
theorem dX7_least_13 : decode cX7_least 13 = .ok (.getfield 16, 3) := by decide +kernel
theorem dX7_least_16 : decode cX7_least 16 = .ok (.iload_n 1, 1) := by decide +kernel
theorem dX7_least_17 : decode cX7_least 17 = .ok (.iaload, 1) := by decide +kernel
theorem dX7_least_18 : decode cX7_least 18 = .ok (.invokevirtual 98, 3) := by decide +kernel
theorem dX7_least_21 : decode cX7_least 21 = .ok (.ifCond .eq 5, 3) := by decide +kernel
theorem dX7_least_24 : decode cX7_least 24 = .ok (.iload_n 3, 1) := by decide +kernel
theorem dX7_least_25 : decode cX7_least 25 = .ok (.ireturn, 1) := by decide +kernel
theorem dX7_least_26 : decode cX7_least 26 = .ok (.iinc 3 1, 3) := by decide +kernel
theorem dX7_least_29 : decode cX7_least 29 = .ok (.goto (-27), 3) := by decide +kernel
theorem dX7_least_32 : decode cX7_least 32 = .ok (.iconst (-1), 1) := by decide +kernel
theorem dX7_least_33 : decode cX7_least 33 = .ok (.ireturn, 1) := by decide +kernel
theorem dX7_leastDamping_0 : decode cX7_leastDamping 0 = .ok (.aload_n 0, 1) := by decide +kernel
theorem dX7_leastDamping_1 : decode cX7_leastDamping 1 = .ok (.iload_n 1, 1) := by decide +kernel
theorem dX7_leastDamping_2 : decode cX7_leastDamping 2 = .ok (.iload_n 2, 1) := by decide +kernel
theorem dX7_leastDamping_3 : decode cX7_leastDamping 3 = .ok (.invokevirtual 122, 3) := by decide +kernel
theorem dX7_leastDamping_6 : decode cX7_leastDamping 6 = .ok (.ifCond .eq 12, 3) := by decide +kernel
theorem dX7_leastDamping_9 : decode cX7_leastDamping 9 = .ok (.aload_n 0, 1) := by decide +kernel
theorem dX7_leastDamping_10 : decode cX7_leastDamping 10 = .ok (.iload_n 1, 1) := by decide +kernel
theorem dX7_leastDamping_11 : decode cX7_leastDamping 11 = .ok (.iload_n 2, 1) := by decide +kernel
theorem dX7_leastDamping_12 : decode cX7_leastDamping 12 = .ok (.invokevirtual 154, 3) := by decide +kernel
theorem dX7_leastDamping_15 : decode cX7_leastDamping 15 = .ok (.goto 4, 3) := by decide +kernel
theorem dX7_leastDamping_18 : decode cX7_leastDamping 18 = .ok (.iconst 0, 1) := by decide +kernel
theorem dX7_leastDamping_19 : decode cX7_leastDamping 19 = .ok (.ireturn, 1) := by decide +kernel
theorem dX7_daysUntilMet_0 : decode cX7_daysUntilMet 0 = .ok (.aload_n 0, 1) := by decide +kernel
theorem dX7_daysUntilMet_1 : decode cX7_daysUntilMet 1 = .ok (.iload_n 1, 1) := by decide +kernel
theorem dX7_daysUntilMet_2 : decode cX7_daysUntilMet 2 = .ok (.iload_n 2, 1) := by decide +kernel
theorem dX7_daysUntilMet_3 : decode cX7_daysUntilMet 3 = .ok (.invokevirtual 122, 3) := by decide +kernel
theorem dX7_daysUntilMet_6 : decode cX7_daysUntilMet 6 = .ok (.ifCond .ne 5, 3) := by decide +kernel
theorem dX7_daysUntilMet_9 : decode cX7_daysUntilMet 9 = .ok (.iconst 0, 1) := by decide +kernel
theorem dX7_daysUntilMet_10 : decode cX7_daysUntilMet 10 = .ok (.ireturn, 1) := by decide +kernel
theorem dX7_daysUntilMet_11 : decode cX7_daysUntilMet 11 = .ok (.iconst 0, 1) := by decide +kernel
theorem dX7_daysUntilMet_12 : decode cX7_daysUntilMet 12 = .ok (.istore_n 3, 1) := by decide +kernel
theorem dX7_daysUntilMet_13 : decode cX7_daysUntilMet 13 = .ok (.iload_n 3, 1) := by decide +kernel
theorem dX7_daysUntilMet_14 : decode cX7_daysUntilMet 14 = .ok (.bipush 100, 2) := by decide +kernel
theorem dX7_daysUntilMet_16 : decode cX7_daysUntilMet 16 = .ok (.if_icmp .gt 39, 3) := by decide +kernel
theorem dX7_daysUntilMet_19 : decode cX7_daysUntilMet 19 = .ok (.aload_n 0, 1) := by decide +kernel
theorem dX7_daysUntilMet_20 : decode cX7_daysUntilMet 20 = .ok (.iload_n 1, 1) := by decide +kernel
theorem dX7_daysUntilMet_21 : decode cX7_daysUntilMet 21 = .ok (.iload_n 2, 1) := by decide +kernel
theorem dX7_daysUntilMet_22 : decode cX7_daysUntilMet 22 = .ok (.aload_n 0, 1) := by decide +kernel
theorem dX7_daysUntilMet_23 : decode cX7_daysUntilMet 23 = .ok (.getfield 13, 3) := by decide +kernel
theorem dX7_daysUntilMet_26 : decode cX7_daysUntilMet 26 = .ok (.iload_n 1, 1) := by decide +kernel
theorem dX7_daysUntilMet_27 : decode cX7_daysUntilMet 27 = .ok (.iaload, 1) := by decide +kernel
theorem dX7_daysUntilMet_28 : decode cX7_daysUntilMet 28 = .ok (.bipush 100, 2) := by decide +kernel
theorem dX7_daysUntilMet_30 : decode cX7_daysUntilMet 30 = .ok (.aload_n 0, 1) := by decide +kernel
theorem dX7_daysUntilMet_31 : decode cX7_daysUntilMet 31 = .ok (.getfield 16, 3) := by decide +kernel
theorem dX7_daysUntilMet_34 : decode cX7_daysUntilMet 34 = .ok (.iload_n 1, 1) := by decide +kernel
theorem dX7_daysUntilMet_35 : decode cX7_daysUntilMet 35 = .ok (.iaload, 1) := by decide +kernel
theorem dX7_daysUntilMet_36 : decode cX7_daysUntilMet 36 = .ok (.iload_n 3, 1) := by decide +kernel
theorem dX7_daysUntilMet_37 : decode cX7_daysUntilMet 37 = .ok (.iadd, 1) := by decide +kernel
theorem dX7_daysUntilMet_38 : decode cX7_daysUntilMet 38 = .ok (.invokestatic 131, 3) := by decide +kernel
theorem dX7_daysUntilMet_41 : decode cX7_daysUntilMet 41 = .ok (.invokevirtual 98, 3) := by decide +kernel
theorem dX7_daysUntilMet_44 : decode cX7_daysUntilMet 44 = .ok (.ifCond .eq 5, 3) := by decide +kernel
theorem dX7_daysUntilMet_47 : decode cX7_daysUntilMet 47 = .ok (.iload_n 3, 1) := by decide +kernel
theorem dX7_daysUntilMet_48 : decode cX7_daysUntilMet 48 = .ok (.ireturn, 1) := by decide +kernel
theorem dX7_daysUntilMet_49 : decode cX7_daysUntilMet 49 = .ok (.iinc 3 1, 3) := by decide +kernel
theorem dX7_daysUntilMet_52 : decode cX7_daysUntilMet 52 = .ok (.goto (-39), 3) := by decide +kernel
theorem dX7_daysUntilMet_55 : decode cX7_daysUntilMet 55 = .ok (.iconst (-1), 1) := by decide +kernel
theorem dX7_daysUntilMet_56 : decode cX7_daysUntilMet 56 = .ok (.ireturn, 1) := by decide +kernel
theorem dX7_easiestHall_0 : decode cX7_easiestHall 0 = .ok (.aload_n 0, 1) := by decide +kernel
theorem dX7_easiestHall_1 : decode cX7_easiestHall 1 = .ok (.iconst 0, 1) := by decide +kernel
theorem dX7_easiestHall_2 : decode cX7_easiestHall 2 = .ok (.putfield 43, 3) := by decide +kernel
theorem dX7_easiestHall_5 : decode cX7_easiestHall 5 = .ok (.aload_n 0, 1) := by decide +kernel
theorem dX7_easiestHall_6 : decode cX7_easiestHall 6 = .ok (.iload_n 1, 1) := by decide +kernel
theorem dX7_easiestHall_7 : decode cX7_easiestHall 7 = .ok (.invokevirtual 119, 3) := by decide +kernel
theorem dX7_easiestHall_10 : decode cX7_easiestHall 10 = .ok (.ifCond .ne 9, 3) := by decide +kernel
theorem dX7_easiestHall_13 : decode cX7_easiestHall 13 = .ok (.aload_n 0, 1) := by decide +kernel
theorem dX7_easiestHall_14 : decode cX7_easiestHall 14 = .ok (.iconst 1, 1) := by decide +kernel
theorem dX7_easiestHall_15 : decode cX7_easiestHall 15 = .ok (.invokevirtual 102, 3) := by decide +kernel
theorem dX7_easiestHall_18 : decode cX7_easiestHall 18 = .ok (.ireturn, 1) := by decide +kernel
theorem dX7_easiestHall_19 : decode cX7_easiestHall 19 = .ok (.iconst (-1), 1) := by decide +kernel
theorem dX7_easiestHall_20 : decode cX7_easiestHall 20 = .ok (.istore_n 2, 1) := by decide +kernel
theorem dX7_easiestHall_21 : decode cX7_easiestHall 21 = .ok (.bipush 91, 2) := by decide +kernel
theorem dX7_easiestHall_23 : decode cX7_easiestHall 23 = .ok (.istore_n 3, 1) := by decide +kernel
theorem dX7_easiestHall_24 : decode cX7_easiestHall 24 = .ok (.iconst 0, 1) := by decide +kernel
theorem dX7_easiestHall_25 : decode cX7_easiestHall 25 = .ok (.istore 4, 2) := by decide +kernel
theorem dX7_easiestHall_27 : decode cX7_easiestHall 27 = .ok (.iload 4, 2) := by decide +kernel
theorem dX7_easiestHall_29 : decode cX7_easiestHall 29 = .ok (.aload_n 0, 1) := by decide +kernel
theorem dX7_easiestHall_30 : decode cX7_easiestHall 30 = .ok (.getfield 47, 3) := by decide +kernel
theorem dX7_easiestHall_33 : decode cX7_easiestHall 33 = .ok (.if_icmp .ge 39, 3) := by decide +kernel
theorem dX7_easiestHall_36 : decode cX7_easiestHall 36 = .ok (.aload_n 0, 1) := by decide +kernel
theorem dX7_easiestHall_37 : decode cX7_easiestHall 37 = .ok (.iload 4, 2) := by decide +kernel
theorem dX7_easiestHall_39 : decode cX7_easiestHall 39 = .ok (.iload_n 1, 1) := by decide +kernel
theorem dX7_easiestHall_40 : decode cX7_easiestHall 40 = .ok (.invokevirtual 154, 3) := by decide +kernel
theorem dX7_easiestHall_43 : decode cX7_easiestHall 43 = .ok (.istore 5, 2) := by decide +kernel
theorem dX7_easiestHall_45 : decode cX7_easiestHall 45 = .ok (.iload 5, 2) := by decide +kernel
theorem dX7_easiestHall_47 : decode cX7_easiestHall 47 = .ok (.iconst (-1), 1) := by decide +kernel
theorem dX7_easiestHall_48 : decode cX7_easiestHall 48 = .ok (.if_icmp .eq 18, 3) := by decide +kernel
theorem dX7_easiestHall_51 : decode cX7_easiestHall 51 = .ok (.iload 5, 2) := by decide +kernel
theorem dX7_easiestHall_53 : decode cX7_easiestHall 53 = .ok (.iload_n 3, 1) := by decide +kernel
theorem dX7_easiestHall_54 : decode cX7_easiestHall 54 = .ok (.if_icmp .lt 6, 3) := by decide +kernel
theorem dX7_easiestHall_57 : decode cX7_easiestHall 57 = .ok (.goto 9, 3) := by decide +kernel
theorem dX7_easiestHall_60 : decode cX7_easiestHall 60 = .ok (.iload 4, 2) := by decide +kernel
theorem dX7_easiestHall_62 : decode cX7_easiestHall 62 = .ok (.istore_n 2, 1) := by decide +kernel
theorem dX7_easiestHall_63 : decode cX7_easiestHall 63 = .ok (.iload 5, 2) := by decide +kernel
theorem dX7_easiestHall_65 : decode cX7_easiestHall 65 = .ok (.istore_n 3, 1) := by decide +kernel
theorem dX7_easiestHall_66 : decode cX7_easiestHall 66 = .ok (.iinc 4 1, 3) := by decide +kernel
theorem dX7_easiestHall_69 : decode cX7_easiestHall 69 = .ok (.goto (-42), 3) := by decide +kernel
theorem dX7_easiestHall_72 : decode cX7_easiestHall 72 = .ok (.iload_n 2, 1) := by decide +kernel
theorem dX7_easiestHall_73 : decode cX7_easiestHall 73 = .ok (.ireturn, 1) := by decide +kernel
theorem dX7_meanDamping_0 : decode cX7_meanDamping 0 = .ok (.aload_n 0, 1) := by decide +kernel
theorem dX7_meanDamping_1 : decode cX7_meanDamping 1 = .ok (.iconst 0, 1) := by decide +kernel
theorem dX7_meanDamping_2 : decode cX7_meanDamping 2 = .ok (.putfield 43, 3) := by decide +kernel
theorem dX7_meanDamping_5 : decode cX7_meanDamping 5 = .ok (.iconst 0, 1) := by decide +kernel
theorem dX7_meanDamping_6 : decode cX7_meanDamping 6 = .ok (.istore_n 1, 1) := by decide +kernel
theorem dX7_meanDamping_7 : decode cX7_meanDamping 7 = .ok (.iconst 0, 1) := by decide +kernel
theorem dX7_meanDamping_8 : decode cX7_meanDamping 8 = .ok (.istore_n 2, 1) := by decide +kernel
theorem dX7_meanDamping_9 : decode cX7_meanDamping 9 = .ok (.iload_n 2, 1) := by decide +kernel
theorem dX7_meanDamping_10 : decode cX7_meanDamping 10 = .ok (.aload_n 0, 1) := by decide +kernel
theorem dX7_meanDamping_11 : decode cX7_meanDamping 11 = .ok (.getfield 47, 3) := by decide +kernel
theorem dX7_meanDamping_14 : decode cX7_meanDamping 14 = .ok (.if_icmp .ge 18, 3) := by decide +kernel
theorem dX7_meanDamping_17 : decode cX7_meanDamping 17 = .ok (.iload_n 1, 1) := by decide +kernel
theorem dX7_meanDamping_18 : decode cX7_meanDamping 18 = .ok (.aload_n 0, 1) := by decide +kernel
theorem dX7_meanDamping_19 : decode cX7_meanDamping 19 = .ok (.getfield 13, 3) := by decide +kernel
theorem dX7_meanDamping_22 : decode cX7_meanDamping 22 = .ok (.iload_n 2, 1) := by decide +kernel
theorem dX7_meanDamping_23 : decode cX7_meanDamping 23 = .ok (.iaload, 1) := by decide +kernel
theorem dX7_meanDamping_24 : decode cX7_meanDamping 24 = .ok (.iadd, 1) := by decide +kernel
theorem dX7_meanDamping_25 : decode cX7_meanDamping 25 = .ok (.istore_n 1, 1) := by decide +kernel
theorem dX7_meanDamping_26 : decode cX7_meanDamping 26 = .ok (.iinc 2 1, 3) := by decide +kernel
theorem dX7_meanDamping_29 : decode cX7_meanDamping 29 = .ok (.goto (-20), 3) := by decide +kernel
theorem dX7_meanDamping_32 : decode cX7_meanDamping 32 = .ok (.aload_n 0, 1) := by decide +kernel
theorem dX7_meanDamping_33 : decode cX7_meanDamping 33 = .ok (.getfield 47, 3) := by decide +kernel
theorem dX7_meanDamping_36 : decode cX7_meanDamping 36 = .ok (.ifCond .ne 7, 3) := by decide +kernel
theorem dX7_meanDamping_39 : decode cX7_meanDamping 39 = .ok (.dconst 0, 1) := by decide +kernel
theorem dX7_meanDamping_40 : decode cX7_meanDamping 40 = .ok (.goto 11, 3) := by decide +kernel
theorem dX7_meanDamping_43 : decode cX7_meanDamping 43 = .ok (.iload_n 1, 1) := by decide +kernel
theorem dX7_meanDamping_44 : decode cX7_meanDamping 44 = .ok (.i2d, 1) := by decide +kernel
theorem dX7_meanDamping_45 : decode cX7_meanDamping 45 = .ok (.aload_n 0, 1) := by decide +kernel
theorem dX7_meanDamping_46 : decode cX7_meanDamping 46 = .ok (.getfield 47, 3) := by decide +kernel
theorem dX7_meanDamping_49 : decode cX7_meanDamping 49 = .ok (.i2d, 1) := by decide +kernel
theorem dX7_meanDamping_50 : decode cX7_meanDamping 50 = .ok (.ddiv, 1) := by decide +kernel
theorem dX7_meanDamping_51 : decode cX7_meanDamping 51 = .ok (.dreturn, 1) := by decide +kernel
theorem dX7_digest_0 : decode cX7_digest 0 = .ok (.aload_n 0, 1) := by decide +kernel
theorem dX7_digest_1 : decode cX7_digest 1 = .ok (.iconst 0, 1) := by decide +kernel
theorem dX7_digest_2 : decode cX7_digest 2 = .ok (.putfield 43, 3) := by decide +kernel
theorem dX7_digest_5 : decode cX7_digest 5 = .ok (.iconst 5, 1) := by decide +kernel
theorem dX7_digest_6 : decode cX7_digest 6 = .ok (.newarray .int, 2) := by decide +kernel
theorem dX7_digest_8 : decode cX7_digest 8 = .ok (.dup, 1) := by decide +kernel
theorem dX7_digest_9 : decode cX7_digest 9 = .ok (.iconst 0, 1) := by decide +kernel
theorem dX7_digest_10 : decode cX7_digest 10 = .ok (.aload_n 0, 1) := by decide +kernel
theorem dX7_digest_11 : decode cX7_digest 11 = .ok (.getfield 47, 3) := by decide +kernel
theorem dX7_digest_14 : decode cX7_digest 14 = .ok (.iastore, 1) := by decide +kernel
theorem dX7_digest_15 : decode cX7_digest 15 = .ok (.dup, 1) := by decide +kernel
theorem dX7_digest_16 : decode cX7_digest 16 = .ok (.iconst 1, 1) := by decide +kernel
theorem dX7_digest_17 : decode cX7_digest 17 = .ok (.aload_n 0, 1) := by decide +kernel
theorem dX7_digest_18 : decode cX7_digest 18 = .ok (.getfield 54, 3) := by decide +kernel
theorem dX7_digest_21 : decode cX7_digest 21 = .ok (.iastore, 1) := by decide +kernel
theorem dX7_digest_22 : decode cX7_digest 22 = .ok (.dup, 1) := by decide +kernel
theorem dX7_digest_23 : decode cX7_digest 23 = .ok (.iconst 2, 1) := by decide +kernel
theorem dX7_digest_24 : decode cX7_digest 24 = .ok (.aload_n 0, 1) := by decide +kernel
theorem dX7_digest_25 : decode cX7_digest 25 = .ok (.getfield 134, 3) := by decide +kernel
theorem dX7_digest_28 : decode cX7_digest 28 = .ok (.iastore, 1) := by decide +kernel
theorem dX7_digest_29 : decode cX7_digest 29 = .ok (.dup, 1) := by decide +kernel
theorem dX7_digest_30 : decode cX7_digest 30 = .ok (.iconst 3, 1) := by decide +kernel
theorem dX7_digest_31 : decode cX7_digest 31 = .ok (.aload_n 0, 1) := by decide +kernel
theorem dX7_digest_32 : decode cX7_digest 32 = .ok (.getfield 125, 3) := by decide +kernel
theorem dX7_digest_35 : decode cX7_digest 35 = .ok (.iastore, 1) := by decide +kernel
theorem dX7_digest_36 : decode cX7_digest 36 = .ok (.dup, 1) := by decide +kernel
theorem dX7_digest_37 : decode cX7_digest 37 = .ok (.iconst 4, 1) := by decide +kernel
theorem dX7_digest_38 : decode cX7_digest 38 = .ok (.aload_n 0, 1) := by decide +kernel
theorem dX7_digest_39 : decode cX7_digest 39 = .ok (.invokevirtual 137, 3) := by decide +kernel
theorem dX7_digest_42 : decode cX7_digest 42 = .ok (.iastore, 1) := by decide +kernel
theorem dX7_digest_43 : decode cX7_digest 43 = .ok (.astore_n 1, 1) := by decide +kernel
theorem dX7_digest_44 : decode cX7_digest 44 = .ok (.ldc2_w 157, 3) := by decide +kernel
theorem dX7_digest_47 : decode cX7_digest 47 = .ok (.lstore_n 2, 1) := by decide +kernel
theorem dX7_digest_48 : decode cX7_digest 48 = .ok (.aload_n 1, 1) := by decide +kernel
theorem dX7_digest_49 : decode cX7_digest 49 = .ok (.astore 4, 2) := by decide +kernel
theorem dX7_digest_51 : decode cX7_digest 51 = .ok (.aload 4, 2) := by decide +kernel
theorem dX7_digest_53 : decode cX7_digest 53 = .ok (.arraylength, 1) := by decide +kernel
theorem dX7_digest_54 : decode cX7_digest 54 = .ok (.istore 5, 2) := by decide +kernel
theorem dX7_digest_56 : decode cX7_digest 56 = .ok (.iconst 0, 1) := by decide +kernel
theorem dX7_digest_57 : decode cX7_digest 57 = .ok (.istore 6, 2) := by decide +kernel
theorem dX7_digest_59 : decode cX7_digest 59 = .ok (.iload 6, 2) := by decide +kernel
theorem dX7_digest_61 : decode cX7_digest 61 = .ok (.iload 5, 2) := by decide +kernel
theorem dX7_digest_63 : decode cX7_digest 63 = .ok (.if_icmp .ge 26, 3) := by decide +kernel
theorem dX7_digest_66 : decode cX7_digest 66 = .ok (.aload 4, 2) := by decide +kernel
theorem dX7_digest_68 : decode cX7_digest 68 = .ok (.iload 6, 2) := by decide +kernel
theorem dX7_digest_70 : decode cX7_digest 70 = .ok (.iaload, 1) := by decide +kernel
theorem dX7_digest_71 : decode cX7_digest 71 = .ok (.istore 7, 2) := by decide +kernel
theorem dX7_digest_73 : decode cX7_digest 73 = .ok (.lload_n 2, 1) := by decide +kernel
theorem dX7_digest_74 : decode cX7_digest 74 = .ok (.ldc2_w 159, 3) := by decide +kernel
theorem dX7_digest_77 : decode cX7_digest 77 = .ok (.lmul, 1) := by decide +kernel
theorem dX7_digest_78 : decode cX7_digest 78 = .ok (.iload 7, 2) := by decide +kernel
theorem dX7_digest_80 : decode cX7_digest 80 = .ok (.i2l, 1) := by decide +kernel
theorem dX7_digest_81 : decode cX7_digest 81 = .ok (.ladd, 1) := by decide +kernel
theorem dX7_digest_82 : decode cX7_digest 82 = .ok (.lstore_n 2, 1) := by decide +kernel
theorem dX7_digest_83 : decode cX7_digest 83 = .ok (.iinc 6 1, 3) := by decide +kernel
theorem dX7_digest_86 : decode cX7_digest 86 = .ok (.goto (-27), 3) := by decide +kernel
theorem dX7_digest_89 : decode cX7_digest 89 = .ok (.iconst 0, 1) := by decide +kernel
theorem dX7_digest_90 : decode cX7_digest 90 = .ok (.istore 4, 2) := by decide +kernel
theorem dX7_digest_92 : decode cX7_digest 92 = .ok (.iload 4, 2) := by decide +kernel
theorem dX7_digest_94 : decode cX7_digest 94 = .ok (.aload_n 0, 1) := by decide +kernel
theorem dX7_digest_95 : decode cX7_digest 95 = .ok (.getfield 47, 3) := by decide +kernel
theorem dX7_digest_98 : decode cX7_digest 98 = .ok (.if_icmp .ge 171, 3) := by decide +kernel
theorem dX7_digest_101 : decode cX7_digest 101 = .ok (.iconst 5, 1) := by decide +kernel
theorem dX7_digest_102 : decode cX7_digest 102 = .ok (.newarray .int, 2) := by decide +kernel
theorem dX7_digest_104 : decode cX7_digest 104 = .ok (.dup, 1) := by decide +kernel
theorem dX7_digest_105 : decode cX7_digest 105 = .ok (.iconst 0, 1) := by decide +kernel
theorem dX7_digest_106 : decode cX7_digest 106 = .ok (.aload_n 0, 1) := by decide +kernel
theorem dX7_digest_107 : decode cX7_digest 107 = .ok (.getfield 9, 3) := by decide +kernel
theorem dX7_digest_110 : decode cX7_digest 110 = .ok (.iload 4, 2) := by decide +kernel
theorem dX7_digest_112 : decode cX7_digest 112 = .ok (.iaload, 1) := by decide +kernel
theorem dX7_digest_113 : decode cX7_digest 113 = .ok (.iastore, 1) := by decide +kernel
theorem dX7_digest_114 : decode cX7_digest 114 = .ok (.dup, 1) := by decide +kernel
theorem dX7_digest_115 : decode cX7_digest 115 = .ok (.iconst 1, 1) := by decide +kernel
theorem dX7_digest_116 : decode cX7_digest 116 = .ok (.aload_n 0, 1) := by decide +kernel
theorem dX7_digest_117 : decode cX7_digest 117 = .ok (.getfield 13, 3) := by decide +kernel
theorem dX7_digest_120 : decode cX7_digest 120 = .ok (.iload 4, 2) := by decide +kernel
theorem dX7_digest_122 : decode cX7_digest 122 = .ok (.iaload, 1) := by decide +kernel
theorem dX7_digest_123 : decode cX7_digest 123 = .ok (.iastore, 1) := by decide +kernel
theorem dX7_digest_124 : decode cX7_digest 124 = .ok (.dup, 1) := by decide +kernel
theorem dX7_digest_125 : decode cX7_digest 125 = .ok (.iconst 2, 1) := by decide +kernel
theorem dX7_digest_126 : decode cX7_digest 126 = .ok (.aload_n 0, 1) := by decide +kernel
theorem dX7_digest_127 : decode cX7_digest 127 = .ok (.getfield 16, 3) := by decide +kernel
theorem dX7_digest_130 : decode cX7_digest 130 = .ok (.iload 4, 2) := by decide +kernel
theorem dX7_digest_132 : decode cX7_digest 132 = .ok (.iaload, 1) := by decide +kernel
theorem dX7_digest_133 : decode cX7_digest 133 = .ok (.iastore, 1) := by decide +kernel
theorem dX7_digest_134 : decode cX7_digest 134 = .ok (.dup, 1) := by decide +kernel
theorem dX7_digest_135 : decode cX7_digest 135 = .ok (.iconst 3, 1) := by decide +kernel
theorem dX7_digest_136 : decode cX7_digest 136 = .ok (.aload_n 0, 1) := by decide +kernel
theorem dX7_digest_137 : decode cX7_digest 137 = .ok (.getfield 19, 3) := by decide +kernel
theorem dX7_digest_140 : decode cX7_digest 140 = .ok (.iload 4, 2) := by decide +kernel
theorem dX7_digest_142 : decode cX7_digest 142 = .ok (.iaload, 1) := by decide +kernel
theorem dX7_digest_143 : decode cX7_digest 143 = .ok (.iastore, 1) := by decide +kernel
theorem dX7_digest_144 : decode cX7_digest 144 = .ok (.dup, 1) := by decide +kernel
theorem dX7_digest_145 : decode cX7_digest 145 = .ok (.iconst 4, 1) := by decide +kernel
theorem dX7_digest_146 : decode cX7_digest 146 = .ok (.aload_n 0, 1) := by decide +kernel
theorem dX7_digest_147 : decode cX7_digest 147 = .ok (.getfield 22, 3) := by decide +kernel
theorem dX7_digest_150 : decode cX7_digest 150 = .ok (.iload 4, 2) := by decide +kernel
theorem dX7_digest_152 : decode cX7_digest 152 = .ok (.iaload, 1) := by decide +kernel
theorem dX7_digest_153 : decode cX7_digest 153 = .ok (.iastore, 1) := by decide +kernel
theorem dX7_digest_154 : decode cX7_digest 154 = .ok (.astore 5, 2) := by decide +kernel
theorem dX7_digest_156 : decode cX7_digest 156 = .ok (.aload 5, 2) := by decide +kernel
theorem dX7_digest_158 : decode cX7_digest 158 = .ok (.astore 6, 2) := by decide +kernel
theorem dX7_digest_160 : decode cX7_digest 160 = .ok (.aload 6, 2) := by decide +kernel
theorem dX7_digest_162 : decode cX7_digest 162 = .ok (.arraylength, 1) := by decide +kernel
theorem dX7_digest_163 : decode cX7_digest 163 = .ok (.istore 7, 2) := by decide +kernel
theorem dX7_digest_165 : decode cX7_digest 165 = .ok (.iconst 0, 1) := by decide +kernel
theorem dX7_digest_166 : decode cX7_digest 166 = .ok (.istore 8, 2) := by decide +kernel
theorem dX7_digest_168 : decode cX7_digest 168 = .ok (.iload 8, 2) := by decide +kernel
theorem dX7_digest_170 : decode cX7_digest 170 = .ok (.iload 7, 2) := by decide +kernel
theorem dX7_digest_172 : decode cX7_digest 172 = .ok (.if_icmp .ge 26, 3) := by decide +kernel
theorem dX7_digest_175 : decode cX7_digest 175 = .ok (.aload 6, 2) := by decide +kernel
theorem dX7_digest_177 : decode cX7_digest 177 = .ok (.iload 8, 2) := by decide +kernel
theorem dX7_digest_179 : decode cX7_digest 179 = .ok (.iaload, 1) := by decide +kernel
theorem dX7_digest_180 : decode cX7_digest 180 = .ok (.istore 9, 2) := by decide +kernel
theorem dX7_digest_182 : decode cX7_digest 182 = .ok (.lload_n 2, 1) := by decide +kernel
theorem dX7_digest_183 : decode cX7_digest 183 = .ok (.ldc2_w 159, 3) := by decide +kernel
theorem dX7_digest_186 : decode cX7_digest 186 = .ok (.lmul, 1) := by decide +kernel
theorem dX7_digest_187 : decode cX7_digest 187 = .ok (.iload 9, 2) := by decide +kernel
theorem dX7_digest_189 : decode cX7_digest 189 = .ok (.i2l, 1) := by decide +kernel
theorem dX7_digest_190 : decode cX7_digest 190 = .ok (.ladd, 1) := by decide +kernel
theorem dX7_digest_191 : decode cX7_digest 191 = .ok (.lstore_n 2, 1) := by decide +kernel
theorem dX7_digest_192 : decode cX7_digest 192 = .ok (.iinc 8 1, 3) := by decide +kernel
theorem dX7_digest_195 : decode cX7_digest 195 = .ok (.goto (-27), 3) := by decide +kernel
theorem dX7_digest_198 : decode cX7_digest 198 = .ok (.iconst 0, 1) := by decide +kernel
theorem dX7_digest_199 : decode cX7_digest 199 = .ok (.istore 6, 2) := by decide +kernel
theorem dX7_digest_201 : decode cX7_digest 201 = .ok (.iload 6, 2) := by decide +kernel
theorem dX7_digest_203 : decode cX7_digest 203 = .ok (.aload_n 0, 1) := by decide +kernel
theorem dX7_digest_204 : decode cX7_digest 204 = .ok (.getfield 9, 3) := by decide +kernel
theorem dX7_digest_207 : decode cX7_digest 207 = .ok (.iload 4, 2) := by decide +kernel
theorem dX7_digest_209 : decode cX7_digest 209 = .ok (.iaload, 1) := by decide +kernel
theorem dX7_digest_210 : decode cX7_digest 210 = .ok (.if_icmp .ge 53, 3) := by decide +kernel
theorem dX7_digest_213 : decode cX7_digest 213 = .ok (.lload_n 2, 1) := by decide +kernel
theorem dX7_digest_214 : decode cX7_digest 214 = .ok (.ldc2_w 159, 3) := by decide +kernel
theorem dX7_digest_217 : decode cX7_digest 217 = .ok (.lmul, 1) := by decide +kernel
theorem dX7_digest_218 : decode cX7_digest 218 = .ok (.aload_n 0, 1) := by decide +kernel
theorem dX7_digest_219 : decode cX7_digest 219 = .ok (.getfield 25, 3) := by decide +kernel
theorem dX7_digest_222 : decode cX7_digest 222 = .ok (.bipush 6, 2) := by decide +kernel
theorem dX7_digest_224 : decode cX7_digest 224 = .ok (.iload 4, 2) := by decide +kernel
theorem dX7_digest_226 : decode cX7_digest 226 = .ok (.imul, 1) := by decide +kernel
theorem dX7_digest_227 : decode cX7_digest 227 = .ok (.iload 6, 2) := by decide +kernel
theorem dX7_digest_229 : decode cX7_digest 229 = .ok (.iadd, 1) := by decide +kernel
theorem dX7_digest_230 : decode cX7_digest 230 = .ok (.iaload, 1) := by decide +kernel
theorem dX7_digest_231 : decode cX7_digest 231 = .ok (.i2l, 1) := by decide +kernel
theorem dX7_digest_232 : decode cX7_digest 232 = .ok (.ladd, 1) := by decide +kernel
theorem dX7_digest_233 : decode cX7_digest 233 = .ok (.lstore_n 2, 1) := by decide +kernel
theorem dX7_digest_234 : decode cX7_digest 234 = .ok (.lload_n 2, 1) := by decide +kernel
theorem dX7_digest_235 : decode cX7_digest 235 = .ok (.ldc2_w 159, 3) := by decide +kernel
theorem dX7_digest_238 : decode cX7_digest 238 = .ok (.lmul, 1) := by decide +kernel
theorem dX7_digest_239 : decode cX7_digest 239 = .ok (.aload_n 0, 1) := by decide +kernel
theorem dX7_digest_240 : decode cX7_digest 240 = .ok (.iload 4, 2) := by decide +kernel
theorem dX7_digest_242 : decode cX7_digest 242 = .ok (.iload 6, 2) := by decide +kernel
theorem dX7_digest_244 : decode cX7_digest 244 = .ok (.aload_n 0, 1) := by decide +kernel
theorem dX7_digest_245 : decode cX7_digest 245 = .ok (.getfield 16, 3) := by decide +kernel
theorem dX7_digest_248 : decode cX7_digest 248 = .ok (.iload 4, 2) := by decide +kernel
theorem dX7_digest_250 : decode cX7_digest 250 = .ok (.iaload, 1) := by decide +kernel
theorem dX7_digest_251 : decode cX7_digest 251 = .ok (.invokevirtual 70, 3) := by decide +kernel
theorem dX7_digest_254 : decode cX7_digest 254 = .ok (.i2l, 1) := by decide +kernel
theorem dX7_digest_255 : decode cX7_digest 255 = .ok (.ladd, 1) := by decide +kernel
theorem dX7_digest_256 : decode cX7_digest 256 = .ok (.lstore_n 2, 1) := by decide +kernel
theorem dX7_digest_257 : decode cX7_digest 257 = .ok (.iinc 6 1, 3) := by decide +kernel
theorem dX7_digest_260 : decode cX7_digest 260 = .ok (.goto (-59), 3) := by decide +kernel
theorem dX7_digest_263 : decode cX7_digest 263 = .ok (.iinc 4 1, 3) := by decide +kernel
theorem dX7_digest_266 : decode cX7_digest 266 = .ok (.goto (-174), 3) := by decide +kernel
theorem dX7_digest_269 : decode cX7_digest 269 = .ok (.iconst 0, 1) := by decide +kernel
theorem dX7_digest_270 : decode cX7_digest 270 = .ok (.istore 4, 2) := by decide +kernel
theorem dX7_digest_272 : decode cX7_digest 272 = .ok (.iload 4, 2) := by decide +kernel
theorem dX7_digest_274 : decode cX7_digest 274 = .ok (.aload_n 0, 1) := by decide +kernel
theorem dX7_digest_275 : decode cX7_digest 275 = .ok (.getfield 47, 3) := by decide +kernel
theorem dX7_digest_278 : decode cX7_digest 278 = .ok (.if_icmp .ge 135, 3) := by decide +kernel
theorem dX7_digest_281 : decode cX7_digest 281 = .ok (.aload_n 0, 1) := by decide +kernel
theorem dX7_digest_282 : decode cX7_digest 282 = .ok (.iload 4, 2) := by decide +kernel
theorem dX7_digest_284 : decode cX7_digest 284 = .ok (.sipush 1000, 3) := by decide +kernel
theorem dX7_digest_287 : decode cX7_digest 287 = .ok (.invokevirtual 140, 3) := by decide +kernel
theorem dX7_digest_290 : decode cX7_digest 290 = .ok (.iconst 4, 1) := by decide +kernel
theorem dX7_digest_291 : decode cX7_digest 291 = .ok (.newarray .int, 2) := by decide +kernel
theorem dX7_digest_293 : decode cX7_digest 293 = .ok (.dup, 1) := by decide +kernel
theorem dX7_digest_294 : decode cX7_digest 294 = .ok (.iconst 0, 1) := by decide +kernel
theorem dX7_digest_295 : decode cX7_digest 295 = .ok (.aload_n 0, 1) := by decide +kernel
theorem dX7_digest_296 : decode cX7_digest 296 = .ok (.invokevirtual 82, 3) := by decide +kernel
theorem dX7_digest_299 : decode cX7_digest 299 = .ok (.iastore, 1) := by decide +kernel
theorem dX7_digest_300 : decode cX7_digest 300 = .ok (.dup, 1) := by decide +kernel
theorem dX7_digest_301 : decode cX7_digest 301 = .ok (.iconst 1, 1) := by decide +kernel
theorem dX7_digest_302 : decode cX7_digest 302 = .ok (.aload_n 0, 1) := by decide +kernel
theorem dX7_digest_303 : decode cX7_digest 303 = .ok (.invokevirtual 86, 3) := by decide +kernel
theorem dX7_digest_306 : decode cX7_digest 306 = .ok (.iastore, 1) := by decide +kernel
theorem dX7_digest_307 : decode cX7_digest 307 = .ok (.dup, 1) := by decide +kernel
theorem dX7_digest_308 : decode cX7_digest 308 = .ok (.iconst 2, 1) := by decide +kernel
theorem dX7_digest_309 : decode cX7_digest 309 = .ok (.aload_n 0, 1) := by decide +kernel
theorem dX7_digest_310 : decode cX7_digest 310 = .ok (.invokevirtual 92, 3) := by decide +kernel
theorem dX7_digest_313 : decode cX7_digest 313 = .ok (.iastore, 1) := by decide +kernel
theorem dX7_digest_314 : decode cX7_digest 314 = .ok (.dup, 1) := by decide +kernel
theorem dX7_digest_315 : decode cX7_digest 315 = .ok (.iconst 3, 1) := by decide +kernel
theorem dX7_digest_316 : decode cX7_digest 316 = .ok (.aload_n 0, 1) := by decide +kernel
theorem dX7_digest_317 : decode cX7_digest 317 = .ok (.invokevirtual 148, 3) := by decide +kernel
theorem dX7_digest_320 : decode cX7_digest 320 = .ok (.iastore, 1) := by decide +kernel
theorem dX7_digest_321 : decode cX7_digest 321 = .ok (.astore 5, 2) := by decide +kernel
theorem dX7_digest_323 : decode cX7_digest 323 = .ok (.aload 5, 2) := by decide +kernel
theorem dX7_digest_325 : decode cX7_digest 325 = .ok (.astore 6, 2) := by decide +kernel
theorem dX7_digest_327 : decode cX7_digest 327 = .ok (.aload 6, 2) := by decide +kernel
theorem dX7_digest_329 : decode cX7_digest 329 = .ok (.arraylength, 1) := by decide +kernel
theorem dX7_digest_330 : decode cX7_digest 330 = .ok (.istore 7, 2) := by decide +kernel
theorem dX7_digest_332 : decode cX7_digest 332 = .ok (.iconst 0, 1) := by decide +kernel
theorem dX7_digest_333 : decode cX7_digest 333 = .ok (.istore 8, 2) := by decide +kernel
theorem dX7_digest_335 : decode cX7_digest 335 = .ok (.iload 8, 2) := by decide +kernel
theorem dX7_digest_337 : decode cX7_digest 337 = .ok (.iload 7, 2) := by decide +kernel
theorem dX7_digest_339 : decode cX7_digest 339 = .ok (.if_icmp .ge 26, 3) := by decide +kernel
theorem dX7_digest_342 : decode cX7_digest 342 = .ok (.aload 6, 2) := by decide +kernel
theorem dX7_digest_344 : decode cX7_digest 344 = .ok (.iload 8, 2) := by decide +kernel
theorem dX7_digest_346 : decode cX7_digest 346 = .ok (.iaload, 1) := by decide +kernel
theorem dX7_digest_347 : decode cX7_digest 347 = .ok (.istore 9, 2) := by decide +kernel
theorem dX7_digest_349 : decode cX7_digest 349 = .ok (.lload_n 2, 1) := by decide +kernel
theorem dX7_digest_350 : decode cX7_digest 350 = .ok (.ldc2_w 159, 3) := by decide +kernel
theorem dX7_digest_353 : decode cX7_digest 353 = .ok (.lmul, 1) := by decide +kernel
theorem dX7_digest_354 : decode cX7_digest 354 = .ok (.iload 9, 2) := by decide +kernel
theorem dX7_digest_356 : decode cX7_digest 356 = .ok (.i2l, 1) := by decide +kernel
theorem dX7_digest_357 : decode cX7_digest 357 = .ok (.ladd, 1) := by decide +kernel
theorem dX7_digest_358 : decode cX7_digest 358 = .ok (.lstore_n 2, 1) := by decide +kernel
theorem dX7_digest_359 : decode cX7_digest 359 = .ok (.iinc 8 1, 3) := by decide +kernel
theorem dX7_digest_362 : decode cX7_digest 362 = .ok (.goto (-27), 3) := by decide +kernel
theorem dX7_digest_365 : decode cX7_digest 365 = .ok (.iconst 0, 1) := by decide +kernel
theorem dX7_digest_366 : decode cX7_digest 366 = .ok (.istore 6, 2) := by decide +kernel
theorem dX7_digest_368 : decode cX7_digest 368 = .ok (.iload 6, 2) := by decide +kernel
theorem dX7_digest_370 : decode cX7_digest 370 = .ok (.aload_n 0, 1) := by decide +kernel
theorem dX7_digest_371 : decode cX7_digest 371 = .ok (.getfield 54, 3) := by decide +kernel
theorem dX7_digest_374 : decode cX7_digest 374 = .ok (.if_icmp .ge 33, 3) := by decide +kernel
theorem dX7_digest_377 : decode cX7_digest 377 = .ok (.lload_n 2, 1) := by decide +kernel
theorem dX7_digest_378 : decode cX7_digest 378 = .ok (.ldc2_w 159, 3) := by decide +kernel
theorem dX7_digest_381 : decode cX7_digest 381 = .ok (.lmul, 1) := by decide +kernel
theorem dX7_digest_382 : decode cX7_digest 382 = .ok (.aload_n 0, 1) := by decide +kernel
theorem dX7_digest_383 : decode cX7_digest 383 = .ok (.iload 4, 2) := by decide +kernel
theorem dX7_digest_385 : decode cX7_digest 385 = .ok (.iload 6, 2) := by decide +kernel
theorem dX7_digest_387 : decode cX7_digest 387 = .ok (.invokevirtual 128, 3) := by decide +kernel
theorem dX7_digest_390 : decode cX7_digest 390 = .ok (.ifCond .eq 7, 3) := by decide +kernel
theorem dX7_digest_393 : decode cX7_digest 393 = .ok (.iconst 1, 1) := by decide +kernel
theorem dX7_digest_394 : decode cX7_digest 394 = .ok (.goto 4, 3) := by decide +kernel
theorem dX7_digest_397 : decode cX7_digest 397 = .ok (.iconst 0, 1) := by decide +kernel
theorem dX7_digest_398 : decode cX7_digest 398 = .ok (.i2l, 1) := by decide +kernel
theorem dX7_digest_399 : decode cX7_digest 399 = .ok (.ladd, 1) := by decide +kernel
theorem dX7_digest_400 : decode cX7_digest 400 = .ok (.lstore_n 2, 1) := by decide +kernel
theorem dX7_digest_401 : decode cX7_digest 401 = .ok (.iinc 6 1, 3) := by decide +kernel
theorem dX7_digest_404 : decode cX7_digest 404 = .ok (.goto (-36), 3) := by decide +kernel
theorem dX7_digest_407 : decode cX7_digest 407 = .ok (.iinc 4 1, 3) := by decide +kernel
theorem dX7_digest_410 : decode cX7_digest 410 = .ok (.goto (-138), 3) := by decide +kernel
theorem dX7_digest_413 : decode cX7_digest 413 = .ok (.lload_n 2, 1) := by decide +kernel
theorem dX7_digest_414 : decode cX7_digest 414 = .ok (.lreturn, 1) := by decide +kernel
