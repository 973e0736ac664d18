theorem dX10_init_0 : decode cX10_init 0 = .ok (.aload_n 0, 1) := by decide +kernel
theorem dX10_init_1 : decode cX10_init 1 = .ok (.invokespecial 1, 3) := by decide +kernel
theorem dX10_init_4 : decode cX10_init 4 = .ok (.aload_n 0, 1) := by decide +kernel
theorem dX10_init_5 : decode cX10_init 5 = .ok (.bipush 110, 2) := by decide +kernel
theorem dX10_init_7 : decode cX10_init 7 = .ok (.newarray .int, 2) := by decide +kernel
theorem dX10_init_9 : decode cX10_init 9 = .ok (.putfield 7, 3) := by decide +kernel
theorem dX10_init_12 : decode cX10_init 12 = .ok (.aload_n 0, 1) := by decide +kernel
theorem dX10_init_13 : decode cX10_init 13 = .ok (.sipush 143, 3) := by decide +kernel
theorem dX10_init_16 : decode cX10_init 16 = .ok (.newarray .int, 2) := by decide +kernel
theorem dX10_init_18 : decode cX10_init 18 = .ok (.putfield 13, 3) := by decide +kernel
theorem dX10_init_21 : decode cX10_init 21 = .ok (.aload_n 0, 1) := by decide +kernel
theorem dX10_init_22 : decode cX10_init 22 = .ok (.sipush 143, 3) := by decide +kernel
theorem dX10_init_25 : decode cX10_init 25 = .ok (.newarray .int, 2) := by decide +kernel
theorem dX10_init_27 : decode cX10_init 27 = .ok (.putfield 16, 3) := by decide +kernel
theorem dX10_init_30 : decode cX10_init 30 = .ok (.aload_n 0, 1) := by decide +kernel
theorem dX10_init_31 : decode cX10_init 31 = .ok (.sipush 143, 3) := by decide +kernel
theorem dX10_init_34 : decode cX10_init 34 = .ok (.newarray .int, 2) := by decide +kernel
theorem dX10_init_36 : decode cX10_init 36 = .ok (.putfield 19, 3) := by decide +kernel
theorem dX10_init_39 : decode cX10_init 39 = .ok (.aload_n 0, 1) := by decide +kernel
theorem dX10_init_40 : decode cX10_init 40 = .ok (.sipush 2002, 3) := by decide +kernel
theorem dX10_init_43 : decode cX10_init 43 = .ok (.newarray .int, 2) := by decide +kernel
theorem dX10_init_45 : decode cX10_init 45 = .ok (.putfield 22, 3) := by decide +kernel
theorem dX10_init_48 : decode cX10_init 48 = .ok (.aload_n 0, 1) := by decide +kernel
theorem dX10_init_49 : decode cX10_init 49 = .ok (.sipush 286, 3) := by decide +kernel
theorem dX10_init_52 : decode cX10_init 52 = .ok (.newarray .int, 2) := by decide +kernel
theorem dX10_init_54 : decode cX10_init 54 = .ok (.putfield 25, 3) := by decide +kernel
theorem dX10_init_57 : decode cX10_init 57 = .ok (.aload_n 0, 1) := by decide +kernel
theorem dX10_init_58 : decode cX10_init 58 = .ok (.iconst 2, 1) := by decide +kernel
theorem dX10_init_59 : decode cX10_init 59 = .ok (.newarray .boolean, 2) := by decide +kernel
theorem dX10_init_61 : decode cX10_init 61 = .ok (.putfield 28, 3) := by decide +kernel
theorem dX10_init_64 : decode cX10_init 64 = .ok (.aload_n 0, 1) := by decide +kernel
theorem dX10_init_65 : decode cX10_init 65 = .ok (.bipush 21, 2) := by decide +kernel
theorem dX10_init_67 : decode cX10_init 67 = .ok (.newarray .int, 2) := by decide +kernel
theorem dX10_init_69 : decode cX10_init 69 = .ok (.putfield 32, 3) := by decide +kernel
theorem dX10_init_72 : decode cX10_init 72 = .ok (.aload_n 0, 1) := by decide +kernel
theorem dX10_init_73 : decode cX10_init 73 = .ok (.bipush 21, 2) := by decide +kernel
theorem dX10_init_75 : decode cX10_init 75 = .ok (.newarray .int, 2) := by decide +kernel
theorem dX10_init_77 : decode cX10_init 77 = .ok (.putfield 35, 3) := by decide +kernel
theorem dX10_init_80 : decode cX10_init 80 = .ok (.aload_n 0, 1) := by decide +kernel
theorem dX10_init_81 : decode cX10_init 81 = .ok (.bipush 10, 2) := by decide +kernel
theorem dX10_init_83 : decode cX10_init 83 = .ok (.newarray .boolean, 2) := by decide +kernel
theorem dX10_init_85 : decode cX10_init 85 = .ok (.putfield 38, 3) := by decide +kernel
theorem dX10_init_88 : decode cX10_init 88 = .ok (.aload_n 0, 1) := by decide +kernel
theorem dX10_init_89 : decode cX10_init 89 = .ok (.bipush 10, 2) := by decide +kernel
theorem dX10_init_91 : decode cX10_init 91 = .ok (.newarray .int, 2) := by decide +kernel
theorem dX10_init_93 : decode cX10_init 93 = .ok (.putfield 41, 3) := by decide +kernel
theorem dX10_init_96 : decode cX10_init 96 = .ok (.aload_n 0, 1) := by decide +kernel
theorem dX10_init_97 : decode cX10_init 97 = .ok (.bipush 10, 2) := by decide +kernel
theorem dX10_init_99 : decode cX10_init 99 = .ok (.newarray .int, 2) := by decide +kernel
theorem dX10_init_101 : decode cX10_init 101 = .ok (.putfield 44, 3) := by decide +kernel
theorem dX10_init_104 : decode cX10_init 104 = .ok (.aload_n 0, 1) := by decide +kernel
theorem dX10_init_105 : decode cX10_init 105 = .ok (.bipush 10, 2) := by decide +kernel
theorem dX10_init_107 : decode cX10_init 107 = .ok (.newarray .boolean, 2) := by decide +kernel
theorem dX10_init_109 : decode cX10_init 109 = .ok (.putfield 47, 3) := by decide +kernel
theorem dX10_init_112 : decode cX10_init 112 = .ok (.aload_n 0, 1) := by decide +kernel
theorem dX10_init_113 : decode cX10_init 113 = .ok (.bipush 10, 2) := by decide +kernel
theorem dX10_init_115 : decode cX10_init 115 = .ok (.newarray .int, 2) := by decide +kernel
theorem dX10_init_117 : decode cX10_init 117 = .ok (.putfield 50, 3) := by decide +kernel
theorem dX10_init_120 : decode cX10_init 120 = .ok (.aload_n 0, 1) := by decide +kernel
theorem dX10_init_121 : decode cX10_init 121 = .ok (.bipush 10, 2) := by decide +kernel
theorem dX10_init_123 : decode cX10_init 123 = .ok (.newarray .int, 2) := by decide +kernel
theorem dX10_init_125 : decode cX10_init 125 = .ok (.putfield 53, 3) := by decide +kernel
theorem dX10_init_128 : decode cX10_init 128 = .ok (.aload_n 0, 1) := by decide +kernel
theorem dX10_init_129 : decode cX10_init 129 = .ok (.bipush 25, 2) := by decide +kernel
theorem dX10_init_131 : decode cX10_init 131 = .ok (.newarray .int, 2) := by decide +kernel
theorem dX10_init_133 : decode cX10_init 133 = .ok (.putfield 56, 3) := by decide +kernel
theorem dX10_init_136 : decode cX10_init 136 = .ok (.aload_n 0, 1) := by decide +kernel
theorem dX10_init_137 : decode cX10_init 137 = .ok (.sipush 168, 3) := by decide +kernel
theorem dX10_init_140 : decode cX10_init 140 = .ok (.newarray .int, 2) := by decide +kernel
theorem dX10_init_142 : decode cX10_init 142 = .ok (.putfield 59, 3) := by decide +kernel
theorem dX10_init_145 : decode cX10_init 145 = .ok (.aload_n 0, 1) := by decide +kernel
theorem dX10_init_146 : decode cX10_init 146 = .ok (.iconst 4, 1) := by decide +kernel
theorem dX10_init_147 : decode cX10_init 147 = .ok (.newarray .int, 2) := by decide +kernel
theorem dX10_init_149 : decode cX10_init 149 = .ok (.putfield 62, 3) := by decide +kernel
theorem dX10_init_152 : decode cX10_init 152 = .ok (.aload_n 0, 1) := by decide +kernel
theorem dX10_init_153 : decode cX10_init 153 = .ok (.iconst 4, 1) := by decide +kernel
theorem dX10_init_154 : decode cX10_init 154 = .ok (.newarray .int, 2) := by decide +kernel
theorem dX10_init_156 : decode cX10_init 156 = .ok (.putfield 65, 3) := by decide +kernel
theorem dX10_init_159 : decode cX10_init 159 = .ok (.aload_n 0, 1) := by decide +kernel
theorem dX10_init_160 : decode cX10_init 160 = .ok (.iconst 5, 1) := by decide +kernel
theorem dX10_init_161 : decode cX10_init 161 = .ok (.newarray .int, 2) := by decide +kernel
theorem dX10_init_163 : decode cX10_init 163 = .ok (.putfield 68, 3) := by decide +kernel
theorem dX10_init_166 : decode cX10_init 166 = .ok (.aload_n 0, 1) := by decide +kernel
theorem dX10_init_167 : decode cX10_init 167 = .ok (.iconst 5, 1) := by decide +kernel
theorem dX10_init_168 : decode cX10_init 168 = .ok (.newarray .int, 2) := by decide +kernel
theorem dX10_init_170 : decode cX10_init 170 = .ok (.putfield 71, 3) := by decide +kernel
theorem dX10_init_173 : decode cX10_init 173 = .ok (.aload_n 0, 1) := by decide +kernel
theorem dX10_init_174 : decode cX10_init 174 = .ok (.iconst 5, 1) := by decide +kernel
theorem dX10_init_175 : decode cX10_init 175 = .ok (.newarray .int, 2) := by decide +kernel
theorem dX10_init_177 : decode cX10_init 177 = .ok (.putfield 74, 3) := by decide +kernel
theorem dX10_init_180 : decode cX10_init 180 = .ok (.aload_n 0, 1) := by decide +kernel
theorem dX10_init_181 : decode cX10_init 181 = .ok (.iconst 0, 1) := by decide +kernel
theorem dX10_init_182 : decode cX10_init 182 = .ok (.putfield 77, 3) := by decide +kernel
theorem dX10_init_185 : decode cX10_init 185 = .ok (.return_, 1) := by decide +kernel
theorem dX10_thrown_0 : decode cX10_thrown 0 = .ok (.aload_n 0, 1) := by decide +kernel
theorem dX10_thrown_1 : decode cX10_thrown 1 = .ok (.getfield 81, 3) := by decide +kernel
theorem dX10_thrown_4 : decode cX10_thrown 4 = .ok (.ireturn, 1) := by decide +kernel
theorem dX10_refused_0 : decode cX10_refused 0 = .ok (.aload_n 0, 1) := by decide +kernel
theorem dX10_refused_1 : decode cX10_refused 1 = .ok (.iload_n 1, 1) := by decide +kernel
theorem dX10_refused_2 : decode cX10_refused 2 = .ok (.putfield 81, 3) := by decide +kernel
theorem dX10_refused_5 : decode cX10_refused 5 = .ok (.iload_n 1, 1) := by decide +kernel
theorem dX10_refused_6 : decode cX10_refused 6 = .ok (.ifCond .le 7, 3) := by decide +kernel
theorem dX10_refused_9 : decode cX10_refused 9 = .ok (.iconst 1, 1) := by decide +kernel
theorem dX10_refused_10 : decode cX10_refused 10 = .ok (.goto 4, 3) := by decide +kernel
theorem dX10_refused_13 : decode cX10_refused 13 = .ok (.iconst 0, 1) := by decide +kernel
theorem dX10_refused_14 : decode cX10_refused 14 = .ok (.ireturn, 1) := by decide +kernel
theorem dX10_in_0 : decode cX10_in 0 = .ok (.lload_n 0, 1) := by decide +kernel
theorem dX10_in_1 : decode cX10_in 1 = .ok (.lload_n 2, 1) := by decide +kernel
theorem dX10_in_2 : decode cX10_in 2 = .ok (.lcmp, 1) := by decide +kernel
theorem dX10_in_3 : decode cX10_in 3 = .ok (.ifCond .lt 14, 3) := by decide +kernel
theorem dX10_in_6 : decode cX10_in 6 = .ok (.lload_n 0, 1) := by decide +kernel
theorem dX10_in_7 : decode cX10_in 7 = .ok (.lload 4, 2) := by decide +kernel
theorem dX10_in_9 : decode cX10_in 9 = .ok (.lcmp, 1) := by decide +kernel
theorem dX10_in_10 : decode cX10_in 10 = .ok (.ifCond .gt 7, 3) := by decide +kernel
theorem dX10_in_13 : decode cX10_in 13 = .ok (.iconst 1, 1) := by decide +kernel
theorem dX10_in_14 : decode cX10_in 14 = .ok (.goto 4, 3) := by decide +kernel
theorem dX10_in_17 : decode cX10_in 17 = .ok (.iconst 0, 1) := by decide +kernel
theorem dX10_in_18 : decode cX10_in 18 = .ok (.ireturn, 1) := by decide +kernel
theorem dX10_copyGraph_0 : decode cX10_copyGraph 0 = .ok (.iconst 0, 1) := by decide +kernel
theorem dX10_copyGraph_1 : decode cX10_copyGraph 1 = .ok (.istore 4, 2) := by decide +kernel
theorem dX10_copyGraph_3 : decode cX10_copyGraph 3 = .ok (.iload 4, 2) := by decide +kernel
theorem dX10_copyGraph_5 : decode cX10_copyGraph 5 = .ok (.sipush 143, 3) := by decide +kernel
theorem dX10_copyGraph_8 : decode cX10_copyGraph 8 = .ok (.if_icmp .ge 21, 3) := by decide +kernel
theorem dX10_copyGraph_11 : decode cX10_copyGraph 11 = .ok (.aload_n 2, 1) := by decide +kernel
theorem dX10_copyGraph_12 : decode cX10_copyGraph 12 = .ok (.iload_n 3, 1) := by decide +kernel
theorem dX10_copyGraph_13 : decode cX10_copyGraph 13 = .ok (.iload 4, 2) := by decide +kernel
theorem dX10_copyGraph_15 : decode cX10_copyGraph 15 = .ok (.iadd, 1) := by decide +kernel
theorem dX10_copyGraph_16 : decode cX10_copyGraph 16 = .ok (.aload_n 0, 1) := by decide +kernel
theorem dX10_copyGraph_17 : decode cX10_copyGraph 17 = .ok (.iload_n 1, 1) := by decide +kernel
theorem dX10_copyGraph_18 : decode cX10_copyGraph 18 = .ok (.iload 4, 2) := by decide +kernel
theorem dX10_copyGraph_20 : decode cX10_copyGraph 20 = .ok (.iadd, 1) := by decide +kernel
theorem dX10_copyGraph_21 : decode cX10_copyGraph 21 = .ok (.iaload, 1) := by decide +kernel
theorem dX10_copyGraph_22 : decode cX10_copyGraph 22 = .ok (.iastore, 1) := by decide +kernel
theorem dX10_copyGraph_23 : decode cX10_copyGraph 23 = .ok (.iinc 4 1, 3) := by decide +kernel
theorem dX10_copyGraph_26 : decode cX10_copyGraph 26 = .ok (.goto (-23), 3) := by decide +kernel
theorem dX10_copyGraph_29 : decode cX10_copyGraph 29 = .ok (.return_, 1) := by decide +kernel
theorem dX10_isPerson_0 : decode cX10_isPerson 0 = .ok (.iload_n 1, 1) := by decide +kernel
theorem dX10_isPerson_1 : decode cX10_isPerson 1 = .ok (.i2l, 1) := by decide +kernel
theorem dX10_isPerson_2 : decode cX10_isPerson 2 = .ok (.lconst 0, 1) := by decide +kernel
theorem dX10_isPerson_3 : decode cX10_isPerson 3 = .ok (.aload_n 0, 1) := by decide +kernel
theorem dX10_isPerson_4 : decode cX10_isPerson 4 = .ok (.iconst 0, 1) := by decide +kernel
theorem dX10_isPerson_5 : decode cX10_isPerson 5 = .ok (.iaload, 1) := by decide +kernel
theorem dX10_isPerson_6 : decode cX10_isPerson 6 = .ok (.iconst 1, 1) := by decide +kernel
theorem dX10_isPerson_7 : decode cX10_isPerson 7 = .ok (.isub, 1) := by decide +kernel
theorem dX10_isPerson_8 : decode cX10_isPerson 8 = .ok (.i2l, 1) := by decide +kernel
theorem dX10_isPerson_9 : decode cX10_isPerson 9 = .ok (.invokestatic 84, 3) := by decide +kernel
theorem dX10_isPerson_12 : decode cX10_isPerson 12 = .ok (.ireturn, 1) := by decide +kernel
theorem dX10_isStep_0 : decode cX10_isStep 0 = .ok (.iload_n 1, 1) := by decide +kernel
theorem dX10_isStep_1 : decode cX10_isStep 1 = .ok (.i2l, 1) := by decide +kernel
theorem dX10_isStep_2 : decode cX10_isStep 2 = .ok (.lconst 0, 1) := by decide +kernel
theorem dX10_isStep_3 : decode cX10_isStep 3 = .ok (.aload_n 0, 1) := by decide +kernel
theorem dX10_isStep_4 : decode cX10_isStep 4 = .ok (.iconst 1, 1) := by decide +kernel
theorem dX10_isStep_5 : decode cX10_isStep 5 = .ok (.iaload, 1) := by decide +kernel
theorem dX10_isStep_6 : decode cX10_isStep 6 = .ok (.iconst 1, 1) := by decide +kernel
theorem dX10_isStep_7 : decode cX10_isStep 7 = .ok (.isub, 1) := by decide +kernel
theorem dX10_isStep_8 : decode cX10_isStep 8 = .ok (.i2l, 1) := by decide +kernel
theorem dX10_isStep_9 : decode cX10_isStep 9 = .ok (.invokestatic 84, 3) := by decide +kernel
theorem dX10_isStep_12 : decode cX10_isStep 12 = .ok (.ireturn, 1) := by decide +kernel
theorem dX10_at_0 : decode cX10_at 0 = .ok (.iconst 3, 1) := by decide +kernel
theorem dX10_at_1 : decode cX10_at 1 = .ok (.iconst 4, 1) := by decide +kernel
theorem dX10_at_2 : decode cX10_at 2 = .ok (.iload_n 0, 1) := by decide +kernel
theorem dX10_at_3 : decode cX10_at 3 = .ok (.imul, 1) := by decide +kernel
theorem dX10_at_4 : decode cX10_at 4 = .ok (.iadd, 1) := by decide +kernel
theorem dX10_at_5 : decode cX10_at 5 = .ok (.ireturn, 1) := by decide +kernel
theorem dX10_found_0 : decode cX10_found 0 = .ok (.iconst 0, 1) := by decide +kernel
theorem dX10_found_1 : decode cX10_found 1 = .ok (.istore 4, 2) := by decide +kernel
theorem dX10_found_3 : decode cX10_found 3 = .ok (.iload 4, 2) := by decide +kernel
theorem dX10_found_5 : decode cX10_found 5 = .ok (.aload_n 0, 1) := by decide +kernel
theorem dX10_found_6 : decode cX10_found 6 = .ok (.iconst 1, 1) := by decide +kernel
theorem dX10_found_7 : decode cX10_found 7 = .ok (.iaload, 1) := by decide +kernel
theorem dX10_found_8 : decode cX10_found 8 = .ok (.if_icmp .ge 49, 3) := by decide +kernel
theorem dX10_found_11 : decode cX10_found 11 = .ok (.aload_n 0, 1) := by decide +kernel
theorem dX10_found_12 : decode cX10_found 12 = .ok (.iload 4, 2) := by decide +kernel
theorem dX10_found_14 : decode cX10_found 14 = .ok (.invokestatic 88, 3) := by decide +kernel
theorem dX10_found_17 : decode cX10_found 17 = .ok (.iaload, 1) := by decide +kernel
theorem dX10_found_18 : decode cX10_found 18 = .ok (.iload_n 1, 1) := by decide +kernel
theorem dX10_found_19 : decode cX10_found 19 = .ok (.if_icmp .ne 32, 3) := by decide +kernel
theorem dX10_found_22 : decode cX10_found 22 = .ok (.aload_n 0, 1) := by decide +kernel
theorem dX10_found_23 : decode cX10_found 23 = .ok (.iload 4, 2) := by decide +kernel
theorem dX10_found_25 : decode cX10_found 25 = .ok (.invokestatic 88, 3) := by decide +kernel
theorem dX10_found_28 : decode cX10_found 28 = .ok (.iconst 1, 1) := by decide +kernel
theorem dX10_found_29 : decode cX10_found 29 = .ok (.iadd, 1) := by decide +kernel
theorem dX10_found_30 : decode cX10_found 30 = .ok (.iaload, 1) := by decide +kernel
theorem dX10_found_31 : decode cX10_found 31 = .ok (.iload_n 2, 1) := by decide +kernel
theorem dX10_found_32 : decode cX10_found 32 = .ok (.if_icmp .ne 19, 3) := by decide +kernel
theorem dX10_found_35 : decode cX10_found 35 = .ok (.aload_n 0, 1) := by decide +kernel
theorem dX10_found_36 : decode cX10_found 36 = .ok (.iload 4, 2) := by decide +kernel
theorem dX10_found_38 : decode cX10_found 38 = .ok (.invokestatic 88, 3) := by decide +kernel
theorem dX10_found_41 : decode cX10_found 41 = .ok (.iconst 2, 1) := by decide +kernel
theorem dX10_found_42 : decode cX10_found 42 = .ok (.iadd, 1) := by decide +kernel
theorem dX10_found_43 : decode cX10_found 43 = .ok (.iaload, 1) := by decide +kernel
theorem dX10_found_44 : decode cX10_found 44 = .ok (.iload_n 3, 1) := by decide +kernel
theorem dX10_found_45 : decode cX10_found 45 = .ok (.if_icmp .ne 6, 3) := by decide +kernel
theorem dX10_found_48 : decode cX10_found 48 = .ok (.iload 4, 2) := by decide +kernel
theorem dX10_found_50 : decode cX10_found 50 = .ok (.ireturn, 1) := by decide +kernel
theorem dX10_found_51 : decode cX10_found 51 = .ok (.iinc 4 1, 3) := by decide +kernel
theorem dX10_found_54 : decode cX10_found 54 = .ok (.goto (-51), 3) := by decide +kernel
theorem dX10_found_57 : decode cX10_found 57 = .ok (.bipush (-9), 2) := by decide +kernel
theorem dX10_found_59 : decode cX10_found 59 = .ok (.ireturn, 1) := by decide +kernel
theorem dX10_add_0 : decode cX10_add 0 = .ok (.aload_n 0, 1) := by decide +kernel
theorem dX10_add_1 : decode cX10_add 1 = .ok (.iconst 1, 1) := by decide +kernel
theorem dX10_add_2 : decode cX10_add 2 = .ok (.iaload, 1) := by decide +kernel
theorem dX10_add_3 : decode cX10_add 3 = .ok (.invokestatic 88, 3) := by decide +kernel
theorem dX10_add_6 : decode cX10_add 6 = .ok (.istore 5, 2) := by decide +kernel
theorem dX10_add_8 : decode cX10_add 8 = .ok (.aload_n 0, 1) := by decide +kernel
theorem dX10_add_9 : decode cX10_add 9 = .ok (.iload 5, 2) := by decide +kernel
theorem dX10_add_11 : decode cX10_add 11 = .ok (.iload_n 1, 1) := by decide +kernel
theorem dX10_add_12 : decode cX10_add 12 = .ok (.iastore, 1) := by decide +kernel
theorem dX10_add_13 : decode cX10_add 13 = .ok (.aload_n 0, 1) := by decide +kernel
theorem dX10_add_14 : decode cX10_add 14 = .ok (.iload 5, 2) := by decide +kernel
theorem dX10_add_16 : decode cX10_add 16 = .ok (.iconst 1, 1) := by decide +kernel
theorem dX10_add_17 : decode cX10_add 17 = .ok (.iadd, 1) := by decide +kernel
theorem dX10_add_18 : decode cX10_add 18 = .ok (.iload_n 2, 1) := by decide +kernel
theorem dX10_add_19 : decode cX10_add 19 = .ok (.iastore, 1) := by decide +kernel
theorem dX10_add_20 : decode cX10_add 20 = .ok (.aload_n 0, 1) := by decide +kernel
theorem dX10_add_21 : decode cX10_add 21 = .ok (.iload 5, 2) := by decide +kernel
theorem dX10_add_23 : decode cX10_add 23 = .ok (.iconst 2, 1) := by decide +kernel
theorem dX10_add_24 : decode cX10_add 24 = .ok (.iadd, 1) := by decide +kernel
theorem dX10_add_25 : decode cX10_add 25 = .ok (.iload_n 3, 1) := by decide +kernel
theorem dX10_add_26 : decode cX10_add 26 = .ok (.iastore, 1) := by decide +kernel
theorem dX10_add_27 : decode cX10_add 27 = .ok (.aload_n 0, 1) := by decide +kernel
theorem dX10_add_28 : decode cX10_add 28 = .ok (.iload 5, 2) := by decide +kernel
theorem dX10_add_30 : decode cX10_add 30 = .ok (.iconst 3, 1) := by decide +kernel
theorem dX10_add_31 : decode cX10_add 31 = .ok (.iadd, 1) := by decide +kernel
theorem dX10_add_32 : decode cX10_add 32 = .ok (.iload 4, 2) := by decide +kernel
theorem dX10_add_34 : decode cX10_add 34 = .ok (.iastore, 1) := by decide +kernel
theorem dX10_add_35 : decode cX10_add 35 = .ok (.aload_n 0, 1) := by decide +kernel
theorem dX10_add_36 : decode cX10_add 36 = .ok (.iconst 1, 1) := by decide +kernel
theorem dX10_add_37 : decode cX10_add 37 = .ok (.dup2, 1) := by decide +kernel
theorem dX10_add_38 : decode cX10_add 38 = .ok (.iaload, 1) := by decide +kernel
theorem dX10_add_39 : decode cX10_add 39 = .ok (.iconst 1, 1) := by decide +kernel
theorem dX10_add_40 : decode cX10_add 40 = .ok (.iadd, 1) := by decide +kernel
theorem dX10_add_41 : decode cX10_add 41 = .ok (.iastore, 1) := by decide +kernel
theorem dX10_add_42 : decode cX10_add 42 = .ok (.aload_n 0, 1) := by decide +kernel
theorem dX10_add_43 : decode cX10_add 43 = .ok (.iconst 1, 1) := by decide +kernel
theorem dX10_add_44 : decode cX10_add 44 = .ok (.iaload, 1) := by decide +kernel
theorem dX10_add_45 : decode cX10_add 45 = .ok (.iconst 1, 1) := by decide +kernel
theorem dX10_add_46 : decode cX10_add 46 = .ok (.isub, 1) := by decide +kernel
theorem dX10_add_47 : decode cX10_add 47 = .ok (.ireturn, 1) := by decide +kernel
theorem dX10_cut_0 : decode cX10_cut 0 = .ok (.aload_n 0, 1) := by decide +kernel
theorem dX10_cut_1 : decode cX10_cut 1 = .ok (.iconst 1, 1) := by decide +kernel
theorem dX10_cut_2 : decode cX10_cut 2 = .ok (.dup2, 1) := by decide +kernel
theorem dX10_cut_3 : decode cX10_cut 3 = .ok (.iaload, 1) := by decide +kernel
theorem dX10_cut_4 : decode cX10_cut 4 = .ok (.iconst 1, 1) := by decide +kernel
theorem dX10_cut_5 : decode cX10_cut 5 = .ok (.isub, 1) := by decide +kernel
theorem dX10_cut_6 : decode cX10_cut 6 = .ok (.iastore, 1) := by decide +kernel
theorem dX10_cut_7 : decode cX10_cut 7 = .ok (.iload_n 1, 1) := by decide +kernel
theorem dX10_cut_8 : decode cX10_cut 8 = .ok (.invokestatic 88, 3) := by decide +kernel
theorem dX10_cut_11 : decode cX10_cut 11 = .ok (.istore_n 2, 1) := by decide +kernel
theorem dX10_cut_12 : decode cX10_cut 12 = .ok (.iload_n 2, 1) := by decide +kernel
theorem dX10_cut_13 : decode cX10_cut 13 = .ok (.aload_n 0, 1) := by decide +kernel
theorem dX10_cut_14 : decode cX10_cut 14 = .ok (.iconst 1, 1) := by decide +kernel
theorem dX10_cut_15 : decode cX10_cut 15 = .ok (.iaload, 1) := by decide +kernel
theorem dX10_cut_16 : decode cX10_cut 16 = .ok (.invokestatic 88, 3) := by decide +kernel
theorem dX10_cut_19 : decode cX10_cut 19 = .ok (.if_icmp .ge 17, 3) := by decide +kernel
theorem dX10_cut_22 : decode cX10_cut 22 = .ok (.aload_n 0, 1) := by decide +kernel
theorem dX10_cut_23 : decode cX10_cut 23 = .ok (.iload_n 2, 1) := by decide +kernel
theorem dX10_cut_24 : decode cX10_cut 24 = .ok (.aload_n 0, 1) := by decide +kernel
theorem dX10_cut_25 : decode cX10_cut 25 = .ok (.iload_n 2, 1) := by decide +kernel
theorem dX10_cut_26 : decode cX10_cut 26 = .ok (.iconst 4, 1) := by decide +kernel
theorem dX10_cut_27 : decode cX10_cut 27 = .ok (.iadd, 1) := by decide +kernel
theorem dX10_cut_28 : decode cX10_cut 28 = .ok (.iaload, 1) := by decide +kernel
theorem dX10_cut_29 : decode cX10_cut 29 = .ok (.iastore, 1) := by decide +kernel
theorem dX10_cut_30 : decode cX10_cut 30 = .ok (.iinc 2 1, 3) := by decide +kernel
theorem dX10_cut_33 : decode cX10_cut 33 = .ok (.goto (-21), 3) := by decide +kernel
theorem dX10_cut_36 : decode cX10_cut 36 = .ok (.return_, 1) := by decide +kernel
theorem dX10_beginBranch_0 : decode cX10_beginBranch 0 = .ok (.aload_n 0, 1) := by decide +kernel
theorem dX10_beginBranch_1 : decode cX10_beginBranch 1 = .ok (.getfield 47, 3) := by decide +kernel
theorem dX10_beginBranch_4 : decode cX10_beginBranch 4 = .ok (.iload_n 1, 1) := by decide +kernel
theorem dX10_beginBranch_5 : decode cX10_beginBranch 5 = .ok (.iconst 1, 1) := by decide +kernel
theorem dX10_beginBranch_6 : decode cX10_beginBranch 6 = .ok (.bastore, 1) := by decide +kernel
theorem dX10_beginBranch_7 : decode cX10_beginBranch 7 = .ok (.aload_n 0, 1) := by decide +kernel
theorem dX10_beginBranch_8 : decode cX10_beginBranch 8 = .ok (.getfield 50, 3) := by decide +kernel
theorem dX10_beginBranch_11 : decode cX10_beginBranch 11 = .ok (.iload_n 1, 1) := by decide +kernel
theorem dX10_beginBranch_12 : decode cX10_beginBranch 12 = .ok (.iconst 0, 1) := by decide +kernel
theorem dX10_beginBranch_13 : decode cX10_beginBranch 13 = .ok (.iastore, 1) := by decide +kernel
theorem dX10_beginBranch_14 : decode cX10_beginBranch 14 = .ok (.aload_n 0, 1) := by decide +kernel
theorem dX10_beginBranch_15 : decode cX10_beginBranch 15 = .ok (.getfield 53, 3) := by decide +kernel
theorem dX10_beginBranch_18 : decode cX10_beginBranch 18 = .ok (.iload_n 1, 1) := by decide +kernel
theorem dX10_beginBranch_19 : decode cX10_beginBranch 19 = .ok (.iconst 0, 1) := by decide +kernel
theorem dX10_beginBranch_20 : decode cX10_beginBranch 20 = .ok (.iastore, 1) := by decide +kernel
theorem dX10_beginBranch_21 : decode cX10_beginBranch 21 = .ok (.return_, 1) := by decide +kernel
theorem dX10_beginLevel_0 : decode cX10_beginLevel 0 = .ok (.aload_n 0, 1) := by decide +kernel
theorem dX10_beginLevel_1 : decode cX10_beginLevel 1 = .ok (.getfield 38, 3) := by decide +kernel
theorem dX10_beginLevel_4 : decode cX10_beginLevel 4 = .ok (.iload_n 1, 1) := by decide +kernel
theorem dX10_beginLevel_5 : decode cX10_beginLevel 5 = .ok (.iconst 0, 1) := by decide +kernel
theorem dX10_beginLevel_6 : decode cX10_beginLevel 6 = .ok (.bastore, 1) := by decide +kernel
theorem dX10_beginLevel_7 : decode cX10_beginLevel 7 = .ok (.aload_n 0, 1) := by decide +kernel
theorem dX10_beginLevel_8 : decode cX10_beginLevel 8 = .ok (.getfield 41, 3) := by decide +kernel
theorem dX10_beginLevel_11 : decode cX10_beginLevel 11 = .ok (.iload_n 1, 1) := by decide +kernel
theorem dX10_beginLevel_12 : decode cX10_beginLevel 12 = .ok (.iconst 0, 1) := by decide +kernel
theorem dX10_beginLevel_13 : decode cX10_beginLevel 13 = .ok (.iastore, 1) := by decide +kernel
theorem dX10_beginLevel_14 : decode cX10_beginLevel 14 = .ok (.aload_n 0, 1) := by decide +kernel
theorem dX10_beginLevel_15 : decode cX10_beginLevel 15 = .ok (.getfield 44, 3) := by decide +kernel
theorem dX10_beginLevel_18 : decode cX10_beginLevel 18 = .ok (.iload_n 1, 1) := by decide +kernel
theorem dX10_beginLevel_19 : decode cX10_beginLevel 19 = .ok (.iconst 0, 1) := by decide +kernel
theorem dX10_beginLevel_20 : decode cX10_beginLevel 20 = .ok (.iastore, 1) := by decide +kernel
theorem dX10_beginLevel_21 : decode cX10_beginLevel 21 = .ok (.aload_n 0, 1) := by decide +kernel
theorem dX10_beginLevel_22 : decode cX10_beginLevel 22 = .ok (.iload_n 1, 1) := by decide +kernel
theorem dX10_beginLevel_23 : decode cX10_beginLevel 23 = .ok (.invokevirtual 92, 3) := by decide +kernel
theorem dX10_beginLevel_26 : decode cX10_beginLevel 26 = .ok (.return_, 1) := by decide +kernel
theorem dX10_endBranch_0 : decode cX10_endBranch 0 = .ok (.aload_n 0, 1) := by decide +kernel
theorem dX10_endBranch_1 : decode cX10_endBranch 1 = .ok (.getfield 38, 3) := by decide +kernel
theorem dX10_endBranch_4 : decode cX10_endBranch 4 = .ok (.iload_n 1, 1) := by decide +kernel
theorem dX10_endBranch_5 : decode cX10_endBranch 5 = .ok (.aload_n 0, 1) := by decide +kernel
theorem dX10_endBranch_6 : decode cX10_endBranch 6 = .ok (.getfield 38, 3) := by decide +kernel
theorem dX10_endBranch_9 : decode cX10_endBranch 9 = .ok (.iload_n 1, 1) := by decide +kernel
theorem dX10_endBranch_10 : decode cX10_endBranch 10 = .ok (.baload, 1) := by decide +kernel
theorem dX10_endBranch_11 : decode cX10_endBranch 11 = .ok (.ifCond .ne 12, 3) := by decide +kernel
theorem dX10_endBranch_14 : decode cX10_endBranch 14 = .ok (.aload_n 0, 1) := by decide +kernel
theorem dX10_endBranch_15 : decode cX10_endBranch 15 = .ok (.getfield 47, 3) := by decide +kernel
theorem dX10_endBranch_18 : decode cX10_endBranch 18 = .ok (.iload_n 1, 1) := by decide +kernel
theorem dX10_endBranch_19 : decode cX10_endBranch 19 = .ok (.baload, 1) := by decide +kernel
theorem dX10_endBranch_20 : decode cX10_endBranch 20 = .ok (.ifCond .eq 7, 3) := by decide +kernel
theorem dX10_endBranch_23 : decode cX10_endBranch 23 = .ok (.iconst 1, 1) := by decide +kernel
theorem dX10_endBranch_24 : decode cX10_endBranch 24 = .ok (.goto 4, 3) := by decide +kernel
theorem dX10_endBranch_27 : decode cX10_endBranch 27 = .ok (.iconst 0, 1) := by decide +kernel
theorem dX10_endBranch_28 : decode cX10_endBranch 28 = .ok (.bastore, 1) := by decide +kernel
theorem dX10_endBranch_29 : decode cX10_endBranch 29 = .ok (.aload_n 0, 1) := by decide +kernel
theorem dX10_endBranch_30 : decode cX10_endBranch 30 = .ok (.getfield 41, 3) := by decide +kernel
theorem dX10_endBranch_33 : decode cX10_endBranch 33 = .ok (.iload_n 1, 1) := by decide +kernel
theorem dX10_endBranch_34 : decode cX10_endBranch 34 = .ok (.dup2, 1) := by decide +kernel
theorem dX10_endBranch_35 : decode cX10_endBranch 35 = .ok (.iaload, 1) := by decide +kernel
theorem dX10_endBranch_36 : decode cX10_endBranch 36 = .ok (.aload_n 0, 1) := by decide +kernel
theorem dX10_endBranch_37 : decode cX10_endBranch 37 = .ok (.getfield 50, 3) := by decide +kernel
theorem dX10_endBranch_40 : decode cX10_endBranch 40 = .ok (.iload_n 1, 1) := by decide +kernel
theorem dX10_endBranch_41 : decode cX10_endBranch 41 = .ok (.iaload, 1) := by decide +kernel
theorem dX10_endBranch_42 : decode cX10_endBranch 42 = .ok (.ior, 1) := by decide +kernel
theorem dX10_endBranch_43 : decode cX10_endBranch 43 = .ok (.iastore, 1) := by decide +kernel
theorem dX10_endBranch_44 : decode cX10_endBranch 44 = .ok (.aload_n 0, 1) := by decide +kernel
theorem dX10_endBranch_45 : decode cX10_endBranch 45 = .ok (.getfield 44, 3) := by decide +kernel
theorem dX10_endBranch_48 : decode cX10_endBranch 48 = .ok (.iload_n 1, 1) := by decide +kernel
theorem dX10_endBranch_49 : decode cX10_endBranch 49 = .ok (.dup2, 1) := by decide +kernel
theorem dX10_endBranch_50 : decode cX10_endBranch 50 = .ok (.iaload, 1) := by decide +kernel
theorem dX10_endBranch_51 : decode cX10_endBranch 51 = .ok (.aload_n 0, 1) := by decide +kernel
theorem dX10_endBranch_52 : decode cX10_endBranch 52 = .ok (.getfield 53, 3) := by decide +kernel
theorem dX10_endBranch_55 : decode cX10_endBranch 55 = .ok (.iload_n 1, 1) := by decide +kernel
theorem dX10_endBranch_56 : decode cX10_endBranch 56 = .ok (.iaload, 1) := by decide +kernel
theorem dX10_endBranch_57 : decode cX10_endBranch 57 = .ok (.ior, 1) := by decide +kernel
theorem dX10_endBranch_58 : decode cX10_endBranch 58 = .ok (.iastore, 1) := by decide +kernel
theorem dX10_endBranch_59 : decode cX10_endBranch 59 = .ok (.return_, 1) := by decide +kernel
theorem dX10_letFollow_0 : decode cX10_letFollow 0 = .ok (.iconst 1, 1) := by decide +kernel
theorem dX10_letFollow_1 : decode cX10_letFollow 1 = .ok (.istore_n 3, 1) := by decide +kernel
theorem dX10_letFollow_2 : decode cX10_letFollow 2 = .ok (.iload_n 3, 1) := by decide +kernel
theorem dX10_letFollow_3 : decode cX10_letFollow 3 = .ok (.aload_n 0, 1) := by decide +kernel
theorem dX10_letFollow_4 : decode cX10_letFollow 4 = .ok (.getfield 96, 3) := by decide +kernel
theorem dX10_letFollow_7 : decode cX10_letFollow 7 = .ok (.if_icmp .gt 32, 3) := by decide +kernel
theorem dX10_letFollow_10 : decode cX10_letFollow 10 = .ok (.aload_n 0, 1) := by decide +kernel
theorem dX10_letFollow_11 : decode cX10_letFollow 11 = .ok (.getfield 32, 3) := by decide +kernel
theorem dX10_letFollow_14 : decode cX10_letFollow 14 = .ok (.iload_n 3, 1) := by decide +kernel
theorem dX10_letFollow_15 : decode cX10_letFollow 15 = .ok (.dup2, 1) := by decide +kernel
theorem dX10_letFollow_16 : decode cX10_letFollow 16 = .ok (.iaload, 1) := by decide +kernel
theorem dX10_letFollow_17 : decode cX10_letFollow 17 = .ok (.iload_n 1, 1) := by decide +kernel
theorem dX10_letFollow_18 : decode cX10_letFollow 18 = .ok (.iload_n 3, 1) := by decide +kernel
theorem dX10_letFollow_19 : decode cX10_letFollow 19 = .ok (.ishr, 1) := by decide +kernel
theorem dX10_letFollow_20 : decode cX10_letFollow 20 = .ok (.iconst 1, 1) := by decide +kernel
theorem dX10_letFollow_21 : decode cX10_letFollow 21 = .ok (.iand, 1) := by decide +kernel
theorem dX10_letFollow_22 : decode cX10_letFollow 22 = .ok (.iconst 1, 1) := by decide +kernel
theorem dX10_letFollow_23 : decode cX10_letFollow 23 = .ok (.if_icmp .ne 7, 3) := by decide +kernel
theorem dX10_letFollow_26 : decode cX10_letFollow 26 = .ok (.iload_n 2, 1) := by decide +kernel
theorem dX10_letFollow_27 : decode cX10_letFollow 27 = .ok (.goto 4, 3) := by decide +kernel
theorem dX10_letFollow_30 : decode cX10_letFollow 30 = .ok (.iconst 0, 1) := by decide +kernel
theorem dX10_letFollow_31 : decode cX10_letFollow 31 = .ok (.ior, 1) := by decide +kernel
theorem dX10_letFollow_32 : decode cX10_letFollow 32 = .ok (.iastore, 1) := by decide +kernel
theorem dX10_letFollow_33 : decode cX10_letFollow 33 = .ok (.iinc 3 1, 3) := by decide +kernel
theorem dX10_letFollow_36 : decode cX10_letFollow 36 = .ok (.goto (-34), 3) := by decide +kernel
theorem dX10_letFollow_39 : decode cX10_letFollow 39 = .ok (.return_, 1) := by decide +kernel
theorem dX10_addPart_0 : decode cX10_addPart 0 = .ok (.aload_n 0, 1) := by decide +kernel
theorem dX10_addPart_1 : decode cX10_addPart 1 = .ok (.aload_n 0, 1) := by decide +kernel
theorem dX10_addPart_2 : decode cX10_addPart 2 = .ok (.getfield 53, 3) := by decide +kernel
theorem dX10_addPart_5 : decode cX10_addPart 5 = .ok (.iload_n 1, 1) := by decide +kernel
theorem dX10_addPart_6 : decode cX10_addPart 6 = .ok (.iaload, 1) := by decide +kernel
theorem dX10_addPart_7 : decode cX10_addPart 7 = .ok (.iload_n 3, 1) := by decide +kernel
theorem dX10_addPart_8 : decode cX10_addPart 8 = .ok (.invokevirtual 99, 3) := by decide +kernel
theorem dX10_addPart_11 : decode cX10_addPart 11 = .ok (.aload_n 0, 1) := by decide +kernel
theorem dX10_addPart_12 : decode cX10_addPart 12 = .ok (.getfield 50, 3) := by decide +kernel
theorem dX10_addPart_15 : decode cX10_addPart 15 = .ok (.iload_n 1, 1) := by decide +kernel
theorem dX10_addPart_16 : decode cX10_addPart 16 = .ok (.dup2, 1) := by decide +kernel
theorem dX10_addPart_17 : decode cX10_addPart 17 = .ok (.iaload, 1) := by decide +kernel
theorem dX10_addPart_18 : decode cX10_addPart 18 = .ok (.aload_n 0, 1) := by decide +kernel
theorem dX10_addPart_19 : decode cX10_addPart 19 = .ok (.getfield 47, 3) := by decide +kernel
theorem dX10_addPart_22 : decode cX10_addPart 22 = .ok (.iload_n 1, 1) := by decide +kernel
theorem dX10_addPart_23 : decode cX10_addPart 23 = .ok (.baload, 1) := by decide +kernel
theorem dX10_addPart_24 : decode cX10_addPart 24 = .ok (.ifCond .eq 7, 3) := by decide +kernel
theorem dX10_addPart_27 : decode cX10_addPart 27 = .ok (.iload_n 3, 1) := by decide +kernel
theorem dX10_addPart_28 : decode cX10_addPart 28 = .ok (.goto 4, 3) := by decide +kernel
theorem dX10_addPart_31 : decode cX10_addPart 31 = .ok (.iconst 0, 1) := by decide +kernel
theorem dX10_addPart_32 : decode cX10_addPart 32 = .ok (.ior, 1) := by decide +kernel
theorem dX10_addPart_33 : decode cX10_addPart 33 = .ok (.iastore, 1) := by decide +kernel
theorem dX10_addPart_34 : decode cX10_addPart 34 = .ok (.aload_n 0, 1) := by decide +kernel
theorem dX10_addPart_35 : decode cX10_addPart 35 = .ok (.getfield 53, 3) := by decide +kernel
theorem dX10_addPart_38 : decode cX10_addPart 38 = .ok (.iload_n 1, 1) := by decide +kernel
theorem dX10_addPart_39 : decode cX10_addPart 39 = .ok (.iload_n 2, 1) := by decide +kernel
theorem dX10_addPart_40 : decode cX10_addPart 40 = .ok (.ifCond .eq 15, 3) := by decide +kernel
theorem dX10_addPart_43 : decode cX10_addPart 43 = .ok (.aload_n 0, 1) := by decide +kernel
theorem dX10_addPart_44 : decode cX10_addPart 44 = .ok (.getfield 53, 3) := by decide +kernel
theorem dX10_addPart_47 : decode cX10_addPart 47 = .ok (.iload_n 1, 1) := by decide +kernel
theorem dX10_addPart_48 : decode cX10_addPart 48 = .ok (.iaload, 1) := by decide +kernel
theorem dX10_addPart_49 : decode cX10_addPart 49 = .ok (.iload 4, 2) := by decide +kernel
theorem dX10_addPart_51 : decode cX10_addPart 51 = .ok (.ior, 1) := by decide +kernel
theorem dX10_addPart_52 : decode cX10_addPart 52 = .ok (.goto 5, 3) := by decide +kernel
theorem dX10_addPart_55 : decode cX10_addPart 55 = .ok (.iload 4, 2) := by decide +kernel
theorem dX10_addPart_57 : decode cX10_addPart 57 = .ok (.iastore, 1) := by decide +kernel
theorem dX10_addPart_58 : decode cX10_addPart 58 = .ok (.aload_n 0, 1) := by decide +kernel
theorem dX10_addPart_59 : decode cX10_addPart 59 = .ok (.getfield 47, 3) := by decide +kernel
theorem dX10_addPart_62 : decode cX10_addPart 62 = .ok (.iload_n 1, 1) := by decide +kernel
theorem dX10_addPart_63 : decode cX10_addPart 63 = .ok (.aload_n 0, 1) := by decide +kernel
theorem dX10_addPart_64 : decode cX10_addPart 64 = .ok (.getfield 47, 3) := by decide +kernel
theorem dX10_addPart_67 : decode cX10_addPart 67 = .ok (.iload_n 1, 1) := by decide +kernel
theorem dX10_addPart_68 : decode cX10_addPart 68 = .ok (.baload, 1) := by decide +kernel
theorem dX10_addPart_69 : decode cX10_addPart 69 = .ok (.ifCond .eq 11, 3) := by decide +kernel
theorem dX10_addPart_72 : decode cX10_addPart 72 = .ok (.iload_n 2, 1) := by decide +kernel
theorem dX10_addPart_73 : decode cX10_addPart 73 = .ok (.ifCond .eq 7, 3) := by decide +kernel
theorem dX10_addPart_76 : decode cX10_addPart 76 = .ok (.iconst 1, 1) := by decide +kernel
theorem dX10_addPart_77 : decode cX10_addPart 77 = .ok (.goto 4, 3) := by decide +kernel
theorem dX10_addPart_80 : decode cX10_addPart 80 = .ok (.iconst 0, 1) := by decide +kernel
theorem dX10_addPart_81 : decode cX10_addPart 81 = .ok (.bastore, 1) := by decide +kernel
theorem dX10_addPart_82 : decode cX10_addPart 82 = .ok (.return_, 1) := by decide +kernel
theorem dX10_signOf_0 : decode cX10_signOf 0 = .ok (.iload_n 0, 1) := by decide +kernel
theorem dX10_signOf_1 : decode cX10_signOf 1 = .ok (.i2l, 1) := by decide +kernel
theorem dX10_signOf_2 : decode cX10_signOf 2 = .ok (.ldc2_w 103, 3) := by decide +kernel
theorem dX10_signOf_5 : decode cX10_signOf 5 = .ok (.ldc2_w 105, 3) := by decide +kernel
theorem dX10_signOf_8 : decode cX10_signOf 8 = .ok (.invokestatic 84, 3) := by decide +kernel
theorem dX10_signOf_11 : decode cX10_signOf 11 = .ok (.ifCond .eq 10, 3) := by decide +kernel
theorem dX10_signOf_14 : decode cX10_signOf 14 = .ok (.iload_n 0, 1) := by decide +kernel
theorem dX10_signOf_15 : decode cX10_signOf 15 = .ok (.bipush 97, 2) := by decide +kernel
theorem dX10_signOf_17 : decode cX10_signOf 17 = .ok (.isub, 1) := by decide +kernel
theorem dX10_signOf_18 : decode cX10_signOf 18 = .ok (.goto 39, 3) := by decide +kernel
theorem dX10_signOf_21 : decode cX10_signOf 21 = .ok (.iload_n 0, 1) := by decide +kernel
theorem dX10_signOf_22 : decode cX10_signOf 22 = .ok (.i2l, 1) := by decide +kernel
theorem dX10_signOf_23 : decode cX10_signOf 23 = .ok (.ldc2_w 107, 3) := by decide +kernel
theorem dX10_signOf_26 : decode cX10_signOf 26 = .ok (.ldc2_w 109, 3) := by decide +kernel
theorem dX10_signOf_29 : decode cX10_signOf 29 = .ok (.invokestatic 84, 3) := by decide +kernel
theorem dX10_signOf_32 : decode cX10_signOf 32 = .ok (.ifCond .eq 12, 3) := by decide +kernel
theorem dX10_signOf_35 : decode cX10_signOf 35 = .ok (.iconst 4, 1) := by decide +kernel
theorem dX10_signOf_36 : decode cX10_signOf 36 = .ok (.iload_n 0, 1) := by decide +kernel
theorem dX10_signOf_37 : decode cX10_signOf 37 = .ok (.iadd, 1) := by decide +kernel
theorem dX10_signOf_38 : decode cX10_signOf 38 = .ok (.bipush 65, 2) := by decide +kernel
theorem dX10_signOf_40 : decode cX10_signOf 40 = .ok (.isub, 1) := by decide +kernel
theorem dX10_signOf_41 : decode cX10_signOf 41 = .ok (.goto 16, 3) := by decide +kernel
theorem dX10_signOf_44 : decode cX10_signOf 44 = .ok (.iload_n 0, 1) := by decide +kernel
theorem dX10_signOf_45 : decode cX10_signOf 45 = .ok (.bipush 46, 2) := by decide +kernel
theorem dX10_signOf_47 : decode cX10_signOf 47 = .ok (.if_icmp .ne 8, 3) := by decide +kernel
theorem dX10_signOf_50 : decode cX10_signOf 50 = .ok (.bipush 8, 2) := by decide +kernel
theorem dX10_signOf_52 : decode cX10_signOf 52 = .ok (.goto 5, 3) := by decide +kernel
theorem dX10_signOf_55 : decode cX10_signOf 55 = .ok (.bipush (-9), 2) := by decide +kernel
theorem dX10_signOf_57 : decode cX10_signOf 57 = .ok (.ireturn, 1) := by decide +kernel
theorem dX10_compile_0 : decode cX10_compile 0 = .ok (.aload_n 0, 1) := by decide +kernel
theorem dX10_compile_1 : decode cX10_compile 1 = .ok (.iconst 0, 1) := by decide +kernel
theorem dX10_compile_2 : decode cX10_compile 2 = .ok (.putfield 96, 3) := by decide +kernel
theorem dX10_compile_5 : decode cX10_compile 5 = .ok (.iconst 0, 1) := by decide +kernel
theorem dX10_compile_6 : decode cX10_compile 6 = .ok (.istore 4, 2) := by decide +kernel
theorem dX10_compile_8 : decode cX10_compile 8 = .ok (.aload_n 0, 1) := by decide +kernel
theorem dX10_compile_9 : decode cX10_compile 9 = .ok (.iconst 0, 1) := by decide +kernel
theorem dX10_compile_10 : decode cX10_compile 10 = .ok (.invokevirtual 111, 3) := by decide +kernel
theorem dX10_compile_13 : decode cX10_compile 13 = .ok (.iconst 0, 1) := by decide +kernel
theorem dX10_compile_14 : decode cX10_compile 14 = .ok (.istore 5, 2) := by decide +kernel
theorem dX10_compile_16 : decode cX10_compile 16 = .ok (.iload 5, 2) := by decide +kernel
theorem dX10_compile_18 : decode cX10_compile 18 = .ok (.iload_n 3, 1) := by decide +kernel
theorem dX10_compile_19 : decode cX10_compile 19 = .ok (.if_icmp .ge 384, 3) := by decide +kernel
theorem dX10_compile_22 : decode cX10_compile 22 = .ok (.aload_n 1, 1) := by decide +kernel
theorem dX10_compile_23 : decode cX10_compile 23 = .ok (.iload_n 2, 1) := by decide +kernel
theorem dX10_compile_24 : decode cX10_compile 24 = .ok (.iload 5, 2) := by decide +kernel
theorem dX10_compile_26 : decode cX10_compile 26 = .ok (.iadd, 1) := by decide +kernel
theorem dX10_compile_27 : decode cX10_compile 27 = .ok (.iaload, 1) := by decide +kernel
theorem dX10_compile_28 : decode cX10_compile 28 = .ok (.istore 6, 2) := by decide +kernel
theorem dX10_compile_30 : decode cX10_compile 30 = .ok (.iload 6, 2) := by decide +kernel
theorem dX10_compile_32 : decode cX10_compile 32 = .ok (.invokestatic 114, 3) := by decide +kernel
theorem dX10_compile_35 : decode cX10_compile 35 = .ok (.istore 7, 2) := by decide +kernel
theorem dX10_compile_37 : decode cX10_compile 37 = .ok (.iload 7, 2) := by decide +kernel
theorem dX10_compile_39 : decode cX10_compile 39 = .ok (.bipush (-9), 2) := by decide +kernel
theorem dX10_compile_41 : decode cX10_compile 41 = .ok (.if_icmp .ne 10, 3) := by decide +kernel
theorem dX10_compile_44 : decode cX10_compile 44 = .ok (.iload 6, 2) := by decide +kernel
theorem dX10_compile_46 : decode cX10_compile 46 = .ok (.bipush 41, 2) := by decide +kernel
theorem dX10_compile_48 : decode cX10_compile 48 = .ok (.if_icmp .ne 7, 3) := by decide +kernel
theorem dX10_compile_51 : decode cX10_compile 51 = .ok (.iconst 1, 1) := by decide +kernel
theorem dX10_compile_52 : decode cX10_compile 52 = .ok (.goto 4, 3) := by decide +kernel
theorem dX10_compile_55 : decode cX10_compile 55 = .ok (.iconst 0, 1) := by decide +kernel
theorem dX10_compile_56 : decode cX10_compile 56 = .ok (.istore 8, 2) := by decide +kernel
theorem dX10_compile_58 : decode cX10_compile 58 = .ok (.iload 7, 2) := by decide +kernel
theorem dX10_compile_60 : decode cX10_compile 60 = .ok (.bipush (-9), 2) := by decide +kernel
theorem dX10_compile_62 : decode cX10_compile 62 = .ok (.if_icmp .eq 12, 3) := by decide +kernel
theorem dX10_compile_65 : decode cX10_compile 65 = .ok (.aload_n 0, 1) := by decide +kernel
theorem dX10_compile_66 : decode cX10_compile 66 = .ok (.getfield 96, 3) := by decide +kernel
theorem dX10_compile_69 : decode cX10_compile 69 = .ok (.bipush 20, 2) := by decide +kernel
theorem dX10_compile_71 : decode cX10_compile 71 = .ok (.if_icmp .lt 36, 3) := by decide +kernel
theorem dX10_compile_74 : decode cX10_compile 74 = .ok (.iload 6, 2) := by decide +kernel
theorem dX10_compile_76 : decode cX10_compile 76 = .ok (.bipush 40, 2) := by decide +kernel
theorem dX10_compile_78 : decode cX10_compile 78 = .ok (.if_icmp .ne 10, 3) := by decide +kernel
theorem dX10_compile_81 : decode cX10_compile 81 = .ok (.iload 4, 2) := by decide +kernel
theorem dX10_compile_83 : decode cX10_compile 83 = .ok (.bipush 9, 2) := by decide +kernel
theorem dX10_compile_85 : decode cX10_compile 85 = .ok (.if_icmp .lt 22, 3) := by decide +kernel
theorem dX10_compile_88 : decode cX10_compile 88 = .ok (.iload 6, 2) := by decide +kernel
theorem dX10_compile_90 : decode cX10_compile 90 = .ok (.bipush 124, 2) := by decide +kernel
theorem dX10_compile_92 : decode cX10_compile 92 = .ok (.if_icmp .eq 15, 3) := by decide +kernel
theorem dX10_compile_95 : decode cX10_compile 95 = .ok (.iload 6, 2) := by decide +kernel
theorem dX10_compile_97 : decode cX10_compile 97 = .ok (.bipush 41, 2) := by decide +kernel
theorem dX10_compile_99 : decode cX10_compile 99 = .ok (.if_icmp .ne 12, 3) := by decide +kernel
theorem dX10_compile_102 : decode cX10_compile 102 = .ok (.iload 4, 2) := by decide +kernel
theorem dX10_compile_104 : decode cX10_compile 104 = .ok (.ifCond .le 7, 3) := by decide +kernel
theorem dX10_compile_107 : decode cX10_compile 107 = .ok (.iconst 1, 1) := by decide +kernel
theorem dX10_compile_108 : decode cX10_compile 108 = .ok (.goto 4, 3) := by decide +kernel
theorem dX10_compile_111 : decode cX10_compile 111 = .ok (.iconst 0, 1) := by decide +kernel
theorem dX10_compile_112 : decode cX10_compile 112 = .ok (.istore 9, 2) := by decide +kernel
theorem dX10_compile_114 : decode cX10_compile 114 = .ok (.iload 5, 2) := by decide +kernel
theorem dX10_compile_116 : decode cX10_compile 116 = .ok (.bipush 40, 2) := by decide +kernel
theorem dX10_compile_118 : decode cX10_compile 118 = .ok (.if_icmp .eq 8, 3) := by decide +kernel
theorem dX10_compile_121 : decode cX10_compile 121 = .ok (.iload 9, 2) := by decide +kernel
theorem dX10_compile_123 : decode cX10_compile 123 = .ok (.ifCond .ne 6, 3) := by decide +kernel
theorem dX10_compile_126 : decode cX10_compile 126 = .ok (.iload 5, 2) := by decide +kernel
theorem dX10_compile_128 : decode cX10_compile 128 = .ok (.ireturn, 1) := by decide +kernel
theorem dX10_compile_129 : decode cX10_compile 129 = .ok (.iconst 0, 1) := by decide +kernel
theorem dX10_compile_130 : decode cX10_compile 130 = .ok (.istore 10, 2) := by decide +kernel
theorem dX10_compile_132 : decode cX10_compile 132 = .ok (.iconst 0, 1) := by decide +kernel
theorem dX10_compile_133 : decode cX10_compile 133 = .ok (.istore 11, 2) := by decide +kernel
theorem dX10_compile_135 : decode cX10_compile 135 = .ok (.iconst 0, 1) := by decide +kernel
theorem dX10_compile_136 : decode cX10_compile 136 = .ok (.istore 12, 2) := by decide +kernel
theorem dX10_compile_138 : decode cX10_compile 138 = .ok (.iload 7, 2) := by decide +kernel
theorem dX10_compile_140 : decode cX10_compile 140 = .ok (.bipush (-9), 2) := by decide +kernel
theorem dX10_compile_142 : decode cX10_compile 142 = .ok (.if_icmp .eq 53, 3) := by decide +kernel
theorem dX10_compile_145 : decode cX10_compile 145 = .ok (.aload_n 0, 1) := by decide +kernel
theorem dX10_compile_146 : decode cX10_compile 146 = .ok (.dup, 1) := by decide +kernel
theorem dX10_compile_147 : decode cX10_compile 147 = .ok (.getfield 96, 3) := by decide +kernel
theorem dX10_compile_150 : decode cX10_compile 150 = .ok (.iconst 1, 1) := by decide +kernel
theorem dX10_compile_151 : decode cX10_compile 151 = .ok (.iadd, 1) := by decide +kernel
theorem dX10_compile_152 : decode cX10_compile 152 = .ok (.putfield 96, 3) := by decide +kernel
theorem dX10_compile_155 : decode cX10_compile 155 = .ok (.aload_n 0, 1) := by decide +kernel
theorem dX10_compile_156 : decode cX10_compile 156 = .ok (.getfield 35, 3) := by decide +kernel
theorem dX10_compile_159 : decode cX10_compile 159 = .ok (.aload_n 0, 1) := by decide +kernel
theorem dX10_compile_160 : decode cX10_compile 160 = .ok (.getfield 96, 3) := by decide +kernel
theorem dX10_compile_163 : decode cX10_compile 163 = .ok (.iload 7, 2) := by decide +kernel
theorem dX10_compile_165 : decode cX10_compile 165 = .ok (.iastore, 1) := by decide +kernel
theorem dX10_compile_166 : decode cX10_compile 166 = .ok (.aload_n 0, 1) := by decide +kernel
theorem dX10_compile_167 : decode cX10_compile 167 = .ok (.getfield 32, 3) := by decide +kernel
theorem dX10_compile_170 : decode cX10_compile 170 = .ok (.aload_n 0, 1) := by decide +kernel
theorem dX10_compile_171 : decode cX10_compile 171 = .ok (.getfield 96, 3) := by decide +kernel
theorem dX10_compile_174 : decode cX10_compile 174 = .ok (.iconst 0, 1) := by decide +kernel
theorem dX10_compile_175 : decode cX10_compile 175 = .ok (.iastore, 1) := by decide +kernel
theorem dX10_compile_176 : decode cX10_compile 176 = .ok (.iconst 1, 1) := by decide +kernel
theorem dX10_compile_177 : decode cX10_compile 177 = .ok (.aload_n 0, 1) := by decide +kernel
theorem dX10_compile_178 : decode cX10_compile 178 = .ok (.getfield 96, 3) := by decide +kernel
theorem dX10_compile_181 : decode cX10_compile 181 = .ok (.ishl, 1) := by decide +kernel
theorem dX10_compile_182 : decode cX10_compile 182 = .ok (.istore 11, 2) := by decide +kernel
theorem dX10_compile_184 : decode cX10_compile 184 = .ok (.iconst 1, 1) := by decide +kernel
theorem dX10_compile_185 : decode cX10_compile 185 = .ok (.aload_n 0, 1) := by decide +kernel
theorem dX10_compile_186 : decode cX10_compile 186 = .ok (.getfield 96, 3) := by decide +kernel
theorem dX10_compile_189 : decode cX10_compile 189 = .ok (.ishl, 1) := by decide +kernel
theorem dX10_compile_190 : decode cX10_compile 190 = .ok (.istore 12, 2) := by decide +kernel
theorem dX10_compile_192 : decode cX10_compile 192 = .ok (.goto 80, 3) := by decide +kernel
theorem dX10_compile_195 : decode cX10_compile 195 = .ok (.iload 6, 2) := by decide +kernel
theorem dX10_compile_197 : decode cX10_compile 197 = .ok (.bipush 40, 2) := by decide +kernel
theorem dX10_compile_199 : decode cX10_compile 199 = .ok (.if_icmp .ne 15, 3) := by decide +kernel
theorem dX10_compile_202 : decode cX10_compile 202 = .ok (.iinc 4 1, 3) := by decide +kernel
theorem dX10_compile_205 : decode cX10_compile 205 = .ok (.aload_n 0, 1) := by decide +kernel
theorem dX10_compile_206 : decode cX10_compile 206 = .ok (.iload 4, 2) := by decide +kernel
theorem dX10_compile_208 : decode cX10_compile 208 = .ok (.invokevirtual 111, 3) := by decide +kernel
theorem dX10_compile_211 : decode cX10_compile 211 = .ok (.goto 61, 3) := by decide +kernel
theorem dX10_compile_214 : decode cX10_compile 214 = .ok (.iload 6, 2) := by decide +kernel
theorem dX10_compile_216 : decode cX10_compile 216 = .ok (.bipush 124, 2) := by decide +kernel
theorem dX10_compile_218 : decode cX10_compile 218 = .ok (.if_icmp .ne 18, 3) := by decide +kernel
theorem dX10_compile_221 : decode cX10_compile 221 = .ok (.aload_n 0, 1) := by decide +kernel
theorem dX10_compile_222 : decode cX10_compile 222 = .ok (.iload 4, 2) := by decide +kernel
theorem dX10_compile_224 : decode cX10_compile 224 = .ok (.invokevirtual 117, 3) := by decide +kernel
theorem dX10_compile_227 : decode cX10_compile 227 = .ok (.aload_n 0, 1) := by decide +kernel
theorem dX10_compile_228 : decode cX10_compile 228 = .ok (.iload 4, 2) := by decide +kernel
theorem dX10_compile_230 : decode cX10_compile 230 = .ok (.invokevirtual 92, 3) := by decide +kernel
theorem dX10_compile_233 : decode cX10_compile 233 = .ok (.goto 39, 3) := by decide +kernel
theorem dX10_compile_236 : decode cX10_compile 236 = .ok (.aload_n 0, 1) := by decide +kernel
theorem dX10_compile_237 : decode cX10_compile 237 = .ok (.iload 4, 2) := by decide +kernel
theorem dX10_compile_239 : decode cX10_compile 239 = .ok (.invokevirtual 117, 3) := by decide +kernel
theorem dX10_compile_242 : decode cX10_compile 242 = .ok (.aload_n 0, 1) := by decide +kernel
theorem dX10_compile_243 : decode cX10_compile 243 = .ok (.getfield 38, 3) := by decide +kernel
theorem dX10_compile_246 : decode cX10_compile 246 = .ok (.iload 4, 2) := by decide +kernel
theorem dX10_compile_248 : decode cX10_compile 248 = .ok (.baload, 1) := by decide +kernel
theorem dX10_compile_249 : decode cX10_compile 249 = .ok (.istore 10, 2) := by decide +kernel
theorem dX10_compile_251 : decode cX10_compile 251 = .ok (.aload_n 0, 1) := by decide +kernel
theorem dX10_compile_252 : decode cX10_compile 252 = .ok (.getfield 41, 3) := by decide +kernel
theorem dX10_compile_255 : decode cX10_compile 255 = .ok (.iload 4, 2) := by decide +kernel
theorem dX10_compile_257 : decode cX10_compile 257 = .ok (.iaload, 1) := by decide +kernel
theorem dX10_compile_258 : decode cX10_compile 258 = .ok (.istore 11, 2) := by decide +kernel
theorem dX10_compile_260 : decode cX10_compile 260 = .ok (.aload_n 0, 1) := by decide +kernel
theorem dX10_compile_261 : decode cX10_compile 261 = .ok (.getfield 44, 3) := by decide +kernel
theorem dX10_compile_264 : decode cX10_compile 264 = .ok (.iload 4, 2) := by decide +kernel
theorem dX10_compile_266 : decode cX10_compile 266 = .ok (.iaload, 1) := by decide +kernel
theorem dX10_compile_267 : decode cX10_compile 267 = .ok (.istore 12, 2) := by decide +kernel
theorem dX10_compile_269 : decode cX10_compile 269 = .ok (.iinc 4 (-1), 3) := by decide +kernel
theorem dX10_compile_272 : decode cX10_compile 272 = .ok (.iinc 5 1, 3) := by decide +kernel
theorem dX10_compile_275 : decode cX10_compile 275 = .ok (.iload 8, 2) := by decide +kernel
theorem dX10_compile_277 : decode cX10_compile 277 = .ok (.ifCond .eq 123, 3) := by decide +kernel
theorem dX10_compile_280 : decode cX10_compile 280 = .ok (.iload 5, 2) := by decide +kernel
theorem dX10_compile_282 : decode cX10_compile 282 = .ok (.iload_n 3, 1) := by decide +kernel
theorem dX10_compile_283 : decode cX10_compile 283 = .ok (.if_icmp .ge 19, 3) := by decide +kernel
theorem dX10_compile_286 : decode cX10_compile 286 = .ok (.iload 5, 2) := by decide +kernel
theorem dX10_compile_288 : decode cX10_compile 288 = .ok (.bipush 40, 2) := by decide +kernel
theorem dX10_compile_290 : decode cX10_compile 290 = .ok (.if_icmp .ge 12, 3) := by decide +kernel
theorem dX10_compile_293 : decode cX10_compile 293 = .ok (.aload_n 1, 1) := by decide +kernel
theorem dX10_compile_294 : decode cX10_compile 294 = .ok (.iload_n 2, 1) := by decide +kernel
theorem dX10_compile_295 : decode cX10_compile 295 = .ok (.iload 5, 2) := by decide +kernel
theorem dX10_compile_297 : decode cX10_compile 297 = .ok (.iadd, 1) := by decide +kernel
theorem dX10_compile_298 : decode cX10_compile 298 = .ok (.iaload, 1) := by decide +kernel
theorem dX10_compile_299 : decode cX10_compile 299 = .ok (.goto 5, 3) := by decide +kernel
theorem dX10_compile_302 : decode cX10_compile 302 = .ok (.bipush (-9), 2) := by decide +kernel
theorem dX10_compile_304 : decode cX10_compile 304 = .ok (.istore 13, 2) := by decide +kernel
theorem dX10_compile_306 : decode cX10_compile 306 = .ok (.iload 13, 2) := by decide +kernel
theorem dX10_compile_308 : decode cX10_compile 308 = .ok (.bipush 42, 2) := by decide +kernel
theorem dX10_compile_310 : decode cX10_compile 310 = .ok (.if_icmp .eq 10, 3) := by decide +kernel
theorem dX10_compile_313 : decode cX10_compile 313 = .ok (.iload 13, 2) := by decide +kernel
theorem dX10_compile_315 : decode cX10_compile 315 = .ok (.bipush 43, 2) := by decide +kernel
theorem dX10_compile_317 : decode cX10_compile 317 = .ok (.if_icmp .ne 7, 3) := by decide +kernel
theorem dX10_compile_320 : decode cX10_compile 320 = .ok (.iconst 1, 1) := by decide +kernel
theorem dX10_compile_321 : decode cX10_compile 321 = .ok (.goto 4, 3) := by decide +kernel
theorem dX10_compile_324 : decode cX10_compile 324 = .ok (.iconst 0, 1) := by decide +kernel
theorem dX10_compile_325 : decode cX10_compile 325 = .ok (.istore 14, 2) := by decide +kernel
theorem dX10_compile_327 : decode cX10_compile 327 = .ok (.iload 14, 2) := by decide +kernel
theorem dX10_compile_329 : decode cX10_compile 329 = .ok (.ifCond .eq 11, 3) := by decide +kernel
theorem dX10_compile_332 : decode cX10_compile 332 = .ok (.aload_n 0, 1) := by decide +kernel
theorem dX10_compile_333 : decode cX10_compile 333 = .ok (.iload 12, 2) := by decide +kernel
theorem dX10_compile_335 : decode cX10_compile 335 = .ok (.iload 11, 2) := by decide +kernel
theorem dX10_compile_337 : decode cX10_compile 337 = .ok (.invokevirtual 99, 3) := by decide +kernel
theorem dX10_compile_340 : decode cX10_compile 340 = .ok (.iload 10, 2) := by decide +kernel
theorem dX10_compile_342 : decode cX10_compile 342 = .ok (.ifCond .ne 17, 3) := by decide +kernel
theorem dX10_compile_345 : decode cX10_compile 345 = .ok (.iload 13, 2) := by decide +kernel
theorem dX10_compile_347 : decode cX10_compile 347 = .ok (.bipush 42, 2) := by decide +kernel
theorem dX10_compile_349 : decode cX10_compile 349 = .ok (.if_icmp .eq 10, 3) := by decide +kernel
theorem dX10_compile_352 : decode cX10_compile 352 = .ok (.iload 13, 2) := by decide +kernel
theorem dX10_compile_354 : decode cX10_compile 354 = .ok (.bipush 63, 2) := by decide +kernel
theorem dX10_compile_356 : decode cX10_compile 356 = .ok (.if_icmp .ne 7, 3) := by decide +kernel
theorem dX10_compile_359 : decode cX10_compile 359 = .ok (.iconst 1, 1) := by decide +kernel
theorem dX10_compile_360 : decode cX10_compile 360 = .ok (.goto 4, 3) := by decide +kernel
theorem dX10_compile_363 : decode cX10_compile 363 = .ok (.iconst 0, 1) := by decide +kernel
theorem dX10_compile_364 : decode cX10_compile 364 = .ok (.istore 10, 2) := by decide +kernel
theorem dX10_compile_366 : decode cX10_compile 366 = .ok (.iload 5, 2) := by decide +kernel
theorem dX10_compile_368 : decode cX10_compile 368 = .ok (.iload 14, 2) := by decide +kernel
theorem dX10_compile_370 : decode cX10_compile 370 = .ok (.ifCond .ne 10, 3) := by decide +kernel
theorem dX10_compile_373 : decode cX10_compile 373 = .ok (.iload 13, 2) := by decide +kernel
theorem dX10_compile_375 : decode cX10_compile 375 = .ok (.bipush 63, 2) := by decide +kernel
theorem dX10_compile_377 : decode cX10_compile 377 = .ok (.if_icmp .ne 7, 3) := by decide +kernel
theorem dX10_compile_380 : decode cX10_compile 380 = .ok (.iconst 1, 1) := by decide +kernel
theorem dX10_compile_381 : decode cX10_compile 381 = .ok (.goto 4, 3) := by decide +kernel
theorem dX10_compile_384 : decode cX10_compile 384 = .ok (.iconst 0, 1) := by decide +kernel
theorem dX10_compile_385 : decode cX10_compile 385 = .ok (.iadd, 1) := by decide +kernel
theorem dX10_compile_386 : decode cX10_compile 386 = .ok (.istore 5, 2) := by decide +kernel
theorem dX10_compile_388 : decode cX10_compile 388 = .ok (.aload_n 0, 1) := by decide +kernel
theorem dX10_compile_389 : decode cX10_compile 389 = .ok (.iload 4, 2) := by decide +kernel
theorem dX10_compile_391 : decode cX10_compile 391 = .ok (.iload 10, 2) := by decide +kernel
theorem dX10_compile_393 : decode cX10_compile 393 = .ok (.iload 11, 2) := by decide +kernel
theorem dX10_compile_395 : decode cX10_compile 395 = .ok (.iload 12, 2) := by decide +kernel
theorem dX10_compile_397 : decode cX10_compile 397 = .ok (.invokevirtual 120, 3) := by decide +kernel
theorem dX10_compile_400 : decode cX10_compile 400 = .ok (.goto (-384), 3) := by decide +kernel
theorem dX10_compile_403 : decode cX10_compile 403 = .ok (.iload 4, 2) := by decide +kernel
theorem dX10_compile_405 : decode cX10_compile 405 = .ok (.ifCond .le 5, 3) := by decide +kernel
theorem dX10_compile_408 : decode cX10_compile 408 = .ok (.iload_n 3, 1) := by decide +kernel
theorem dX10_compile_409 : decode cX10_compile 409 = .ok (.ireturn, 1) := by decide +kernel
theorem dX10_compile_410 : decode cX10_compile 410 = .ok (.aload_n 0, 1) := by decide +kernel
theorem dX10_compile_411 : decode cX10_compile 411 = .ok (.iconst 0, 1) := by decide +kernel
theorem dX10_compile_412 : decode cX10_compile 412 = .ok (.invokevirtual 117, 3) := by decide +kernel
theorem dX10_compile_415 : decode cX10_compile 415 = .ok (.aload_n 0, 1) := by decide +kernel
theorem dX10_compile_416 : decode cX10_compile 416 = .ok (.aload_n 0, 1) := by decide +kernel
theorem dX10_compile_417 : decode cX10_compile 417 = .ok (.getfield 38, 3) := by decide +kernel
theorem dX10_compile_420 : decode cX10_compile 420 = .ok (.iconst 0, 1) := by decide +kernel
theorem dX10_compile_421 : decode cX10_compile 421 = .ok (.baload, 1) := by decide +kernel
theorem dX10_compile_422 : decode cX10_compile 422 = .ok (.putfield 124, 3) := by decide +kernel
theorem dX10_compile_425 : decode cX10_compile 425 = .ok (.aload_n 0, 1) := by decide +kernel
theorem dX10_compile_426 : decode cX10_compile 426 = .ok (.aload_n 0, 1) := by decide +kernel
theorem dX10_compile_427 : decode cX10_compile 427 = .ok (.getfield 41, 3) := by decide +kernel
theorem dX10_compile_430 : decode cX10_compile 430 = .ok (.iconst 0, 1) := by decide +kernel
theorem dX10_compile_431 : decode cX10_compile 431 = .ok (.iaload, 1) := by decide +kernel
theorem dX10_compile_432 : decode cX10_compile 432 = .ok (.putfield 128, 3) := by decide +kernel
theorem dX10_compile_435 : decode cX10_compile 435 = .ok (.aload_n 0, 1) := by decide +kernel
theorem dX10_compile_436 : decode cX10_compile 436 = .ok (.aload_n 0, 1) := by decide +kernel
theorem dX10_compile_437 : decode cX10_compile 437 = .ok (.getfield 44, 3) := by decide +kernel
theorem dX10_compile_440 : decode cX10_compile 440 = .ok (.iconst 0, 1) := by decide +kernel
theorem dX10_compile_441 : decode cX10_compile 441 = .ok (.iaload, 1) := by decide +kernel
theorem dX10_compile_442 : decode cX10_compile 442 = .ok (.putfield 131, 3) := by decide +kernel
theorem dX10_compile_445 : decode cX10_compile 445 = .ok (.aload_n 0, 1) := by decide +kernel
theorem dX10_compile_446 : decode cX10_compile 446 = .ok (.getfield 32, 3) := by decide +kernel
theorem dX10_compile_449 : decode cX10_compile 449 = .ok (.iconst 0, 1) := by decide +kernel
theorem dX10_compile_450 : decode cX10_compile 450 = .ok (.aload_n 0, 1) := by decide +kernel
theorem dX10_compile_451 : decode cX10_compile 451 = .ok (.getfield 128, 3) := by decide +kernel
theorem dX10_compile_454 : decode cX10_compile 454 = .ok (.iastore, 1) := by decide +kernel
theorem dX10_compile_455 : decode cX10_compile 455 = .ok (.bipush (-9), 2) := by decide +kernel
theorem dX10_compile_457 : decode cX10_compile 457 = .ok (.ireturn, 1) := by decide +kernel
theorem dX10_compileOf_0 : decode cX10_compileOf 0 = .ok (.aload_n 0, 1) := by decide +kernel
theorem dX10_compileOf_1 : decode cX10_compileOf 1 = .ok (.aload_n 1, 1) := by decide +kernel
theorem dX10_compileOf_2 : decode cX10_compileOf 2 = .ok (.bipush 103, 2) := by decide +kernel
theorem dX10_compileOf_4 : decode cX10_compileOf 4 = .ok (.aload_n 1, 1) := by decide +kernel
theorem dX10_compileOf_5 : decode cX10_compileOf 5 = .ok (.iconst 2, 1) := by decide +kernel
theorem dX10_compileOf_6 : decode cX10_compileOf 6 = .ok (.iaload, 1) := by decide +kernel
theorem dX10_compileOf_7 : decode cX10_compileOf 7 = .ok (.invokevirtual 134, 3) := by decide +kernel
theorem dX10_compileOf_10 : decode cX10_compileOf 10 = .ok (.pop, 1) := by decide +kernel
theorem dX10_compileOf_11 : decode cX10_compileOf 11 = .ok (.return_, 1) := by decide +kernel
theorem dX10_isEnd_0 : decode cX10_isEnd 0 = .ok (.iload_n 1, 1) := by decide +kernel
theorem dX10_isEnd_1 : decode cX10_isEnd 1 = .ok (.aload_n 0, 1) := by decide +kernel
theorem dX10_isEnd_2 : decode cX10_isEnd 2 = .ok (.getfield 131, 3) := by decide +kernel
theorem dX10_isEnd_5 : decode cX10_isEnd 5 = .ok (.iand, 1) := by decide +kernel
theorem dX10_isEnd_6 : decode cX10_isEnd 6 = .ok (.ifCond .ne 17, 3) := by decide +kernel
theorem dX10_isEnd_9 : decode cX10_isEnd 9 = .ok (.aload_n 0, 1) := by decide +kernel
theorem dX10_isEnd_10 : decode cX10_isEnd 10 = .ok (.getfield 124, 3) := by decide +kernel
theorem dX10_isEnd_13 : decode cX10_isEnd 13 = .ok (.ifCond .eq 14, 3) := by decide +kernel
theorem dX10_isEnd_16 : decode cX10_isEnd 16 = .ok (.iload_n 1, 1) := by decide +kernel
theorem dX10_isEnd_17 : decode cX10_isEnd 17 = .ok (.iconst 1, 1) := by decide +kernel
theorem dX10_isEnd_18 : decode cX10_isEnd 18 = .ok (.iand, 1) := by decide +kernel
theorem dX10_isEnd_19 : decode cX10_isEnd 19 = .ok (.iconst 1, 1) := by decide +kernel
theorem dX10_isEnd_20 : decode cX10_isEnd 20 = .ok (.if_icmp .ne 7, 3) := by decide +kernel
theorem dX10_isEnd_23 : decode cX10_isEnd 23 = .ok (.iconst 1, 1) := by decide +kernel
theorem dX10_isEnd_24 : decode cX10_isEnd 24 = .ok (.goto 4, 3) := by decide +kernel
theorem dX10_isEnd_27 : decode cX10_isEnd 27 = .ok (.iconst 0, 1) := by decide +kernel
theorem dX10_isEnd_28 : decode cX10_isEnd 28 = .ok (.ireturn, 1) := by decide +kernel
theorem dX10_fits_0 : decode cX10_fits 0 = .ok (.iconst 0, 1) := by decide +kernel
theorem dX10_fits_1 : decode cX10_fits 1 = .ok (.istore_n 3, 1) := by decide +kernel
theorem dX10_fits_2 : decode cX10_fits 2 = .ok (.iconst 1, 1) := by decide +kernel
theorem dX10_fits_3 : decode cX10_fits 3 = .ok (.istore 4, 2) := by decide +kernel
theorem dX10_fits_5 : decode cX10_fits 5 = .ok (.iload 4, 2) := by decide +kernel
theorem dX10_fits_7 : decode cX10_fits 7 = .ok (.aload_n 0, 1) := by decide +kernel
theorem dX10_fits_8 : decode cX10_fits 8 = .ok (.getfield 96, 3) := by decide +kernel
theorem dX10_fits_11 : decode cX10_fits 11 = .ok (.if_icmp .gt 80, 3) := by decide +kernel
theorem dX10_fits_14 : decode cX10_fits 14 = .ok (.iload_n 2, 1) := by decide +kernel
theorem dX10_fits_15 : decode cX10_fits 15 = .ok (.ifCond .eq 24, 3) := by decide +kernel
theorem dX10_fits_18 : decode cX10_fits 18 = .ok (.aload_n 0, 1) := by decide +kernel
theorem dX10_fits_19 : decode cX10_fits 19 = .ok (.getfield 35, 3) := by decide +kernel
theorem dX10_fits_22 : decode cX10_fits 22 = .ok (.iload 4, 2) := by decide +kernel
theorem dX10_fits_24 : decode cX10_fits 24 = .ok (.iaload, 1) := by decide +kernel
theorem dX10_fits_25 : decode cX10_fits 25 = .ok (.iconst 4, 1) := by decide +kernel
theorem dX10_fits_26 : decode cX10_fits 26 = .ok (.iload_n 1, 1) := by decide +kernel
theorem dX10_fits_27 : decode cX10_fits 27 = .ok (.iadd, 1) := by decide +kernel
theorem dX10_fits_28 : decode cX10_fits 28 = .ok (.if_icmp .ne 7, 3) := by decide +kernel
theorem dX10_fits_31 : decode cX10_fits 31 = .ok (.iconst 1, 1) := by decide +kernel
theorem dX10_fits_32 : decode cX10_fits 32 = .ok (.goto 35, 3) := by decide +kernel
theorem dX10_fits_35 : decode cX10_fits 35 = .ok (.iconst 0, 1) := by decide +kernel
theorem dX10_fits_36 : decode cX10_fits 36 = .ok (.goto 31, 3) := by decide +kernel
theorem dX10_fits_39 : decode cX10_fits 39 = .ok (.aload_n 0, 1) := by decide +kernel
theorem dX10_fits_40 : decode cX10_fits 40 = .ok (.getfield 35, 3) := by decide +kernel
theorem dX10_fits_43 : decode cX10_fits 43 = .ok (.iload 4, 2) := by decide +kernel
theorem dX10_fits_45 : decode cX10_fits 45 = .ok (.iaload, 1) := by decide +kernel
theorem dX10_fits_46 : decode cX10_fits 46 = .ok (.iload_n 1, 1) := by decide +kernel
theorem dX10_fits_47 : decode cX10_fits 47 = .ok (.if_icmp .eq 15, 3) := by decide +kernel
theorem dX10_fits_50 : decode cX10_fits 50 = .ok (.aload_n 0, 1) := by decide +kernel
theorem dX10_fits_51 : decode cX10_fits 51 = .ok (.getfield 35, 3) := by decide +kernel
theorem dX10_fits_54 : decode cX10_fits 54 = .ok (.iload 4, 2) := by decide +kernel
theorem dX10_fits_56 : decode cX10_fits 56 = .ok (.iaload, 1) := by decide +kernel
theorem dX10_fits_57 : decode cX10_fits 57 = .ok (.bipush 8, 2) := by decide +kernel
theorem dX10_fits_59 : decode cX10_fits 59 = .ok (.if_icmp .ne 7, 3) := by decide +kernel
theorem dX10_fits_62 : decode cX10_fits 62 = .ok (.iconst 1, 1) := by decide +kernel
theorem dX10_fits_63 : decode cX10_fits 63 = .ok (.goto 4, 3) := by decide +kernel
theorem dX10_fits_66 : decode cX10_fits 66 = .ok (.iconst 0, 1) := by decide +kernel
theorem dX10_fits_67 : decode cX10_fits 67 = .ok (.istore 5, 2) := by decide +kernel
theorem dX10_fits_69 : decode cX10_fits 69 = .ok (.iload_n 3, 1) := by decide +kernel
theorem dX10_fits_70 : decode cX10_fits 70 = .ok (.iload 5, 2) := by decide +kernel
theorem dX10_fits_72 : decode cX10_fits 72 = .ok (.ifCond .eq 10, 3) := by decide +kernel
theorem dX10_fits_75 : decode cX10_fits 75 = .ok (.iconst 1, 1) := by decide +kernel
theorem dX10_fits_76 : decode cX10_fits 76 = .ok (.iload 4, 2) := by decide +kernel
theorem dX10_fits_78 : decode cX10_fits 78 = .ok (.ishl, 1) := by decide +kernel
theorem dX10_fits_79 : decode cX10_fits 79 = .ok (.goto 4, 3) := by decide +kernel
theorem dX10_fits_82 : decode cX10_fits 82 = .ok (.iconst 0, 1) := by decide +kernel
theorem dX10_fits_83 : decode cX10_fits 83 = .ok (.ior, 1) := by decide +kernel
theorem dX10_fits_84 : decode cX10_fits 84 = .ok (.istore_n 3, 1) := by decide +kernel
theorem dX10_fits_85 : decode cX10_fits 85 = .ok (.iinc 4 1, 3) := by decide +kernel
theorem dX10_fits_88 : decode cX10_fits 88 = .ok (.goto (-83), 3) := by decide +kernel
theorem dX10_fits_91 : decode cX10_fits 91 = .ok (.iload_n 3, 1) := by decide +kernel
theorem dX10_fits_92 : decode cX10_fits 92 = .ok (.ireturn, 1) := by decide +kernel
theorem dX10_behind_0 : decode cX10_behind 0 = .ok (.iconst 0, 1) := by decide +kernel
theorem dX10_behind_1 : decode cX10_behind 1 = .ok (.istore_n 3, 1) := by decide +kernel
theorem dX10_behind_2 : decode cX10_behind 2 = .ok (.iconst 0, 1) := by decide +kernel
theorem dX10_behind_3 : decode cX10_behind 3 = .ok (.istore 4, 2) := by decide +kernel
theorem dX10_behind_5 : decode cX10_behind 5 = .ok (.iload 4, 2) := by decide +kernel
theorem dX10_behind_7 : decode cX10_behind 7 = .ok (.aload_n 0, 1) := by decide +kernel
theorem dX10_behind_8 : decode cX10_behind 8 = .ok (.getfield 96, 3) := by decide +kernel
theorem dX10_behind_11 : decode cX10_behind 11 = .ok (.if_icmp .gt 33, 3) := by decide +kernel
theorem dX10_behind_14 : decode cX10_behind 14 = .ok (.iload_n 3, 1) := by decide +kernel
theorem dX10_behind_15 : decode cX10_behind 15 = .ok (.iload_n 1, 1) := by decide +kernel
theorem dX10_behind_16 : decode cX10_behind 16 = .ok (.iload 4, 2) := by decide +kernel
theorem dX10_behind_18 : decode cX10_behind 18 = .ok (.ishr, 1) := by decide +kernel
theorem dX10_behind_19 : decode cX10_behind 19 = .ok (.iconst 1, 1) := by decide +kernel
theorem dX10_behind_20 : decode cX10_behind 20 = .ok (.iand, 1) := by decide +kernel
theorem dX10_behind_21 : decode cX10_behind 21 = .ok (.iconst 1, 1) := by decide +kernel
theorem dX10_behind_22 : decode cX10_behind 22 = .ok (.if_icmp .ne 13, 3) := by decide +kernel
theorem dX10_behind_25 : decode cX10_behind 25 = .ok (.aload_n 0, 1) := by decide +kernel
theorem dX10_behind_26 : decode cX10_behind 26 = .ok (.getfield 32, 3) := by decide +kernel
theorem dX10_behind_29 : decode cX10_behind 29 = .ok (.iload 4, 2) := by decide +kernel
theorem dX10_behind_31 : decode cX10_behind 31 = .ok (.iaload, 1) := by decide +kernel
theorem dX10_behind_32 : decode cX10_behind 32 = .ok (.goto 4, 3) := by decide +kernel
theorem dX10_behind_35 : decode cX10_behind 35 = .ok (.iconst 0, 1) := by decide +kernel
theorem dX10_behind_36 : decode cX10_behind 36 = .ok (.ior, 1) := by decide +kernel
theorem dX10_behind_37 : decode cX10_behind 37 = .ok (.istore_n 3, 1) := by decide +kernel
theorem dX10_behind_38 : decode cX10_behind 38 = .ok (.iinc 4 1, 3) := by decide +kernel
theorem dX10_behind_41 : decode cX10_behind 41 = .ok (.goto (-36), 3) := by decide +kernel
theorem dX10_behind_44 : decode cX10_behind 44 = .ok (.iload_n 3, 1) := by decide +kernel
theorem dX10_behind_45 : decode cX10_behind 45 = .ok (.iload_n 2, 1) := by decide +kernel
theorem dX10_behind_46 : decode cX10_behind 46 = .ok (.iand, 1) := by decide +kernel
theorem dX10_behind_47 : decode cX10_behind 47 = .ok (.ireturn, 1) := by decide +kernel
theorem dX10_layPrices_0 : decode cX10_layPrices 0 = .ok (.iconst 0, 1) := by decide +kernel
theorem dX10_layPrices_1 : decode cX10_layPrices 1 = .ok (.istore_n 3, 1) := by decide +kernel
theorem dX10_layPrices_2 : decode cX10_layPrices 2 = .ok (.iload_n 3, 1) := by decide +kernel
theorem dX10_layPrices_3 : decode cX10_layPrices 3 = .ok (.aload_n 1, 1) := by decide +kernel
theorem dX10_layPrices_4 : decode cX10_layPrices 4 = .ok (.iconst 1, 1) := by decide +kernel
theorem dX10_layPrices_5 : decode cX10_layPrices 5 = .ok (.iaload, 1) := by decide +kernel
theorem dX10_layPrices_6 : decode cX10_layPrices 6 = .ok (.if_icmp .ge 32, 3) := by decide +kernel
theorem dX10_layPrices_9 : decode cX10_layPrices 9 = .ok (.aload_n 0, 1) := by decide +kernel
theorem dX10_layPrices_10 : decode cX10_layPrices 10 = .ok (.getfield 56, 3) := by decide +kernel
theorem dX10_layPrices_13 : decode cX10_layPrices 13 = .ok (.iload_n 3, 1) := by decide +kernel
theorem dX10_layPrices_14 : decode cX10_layPrices 14 = .ok (.iload_n 3, 1) := by decide +kernel
theorem dX10_layPrices_15 : decode cX10_layPrices 15 = .ok (.iload_n 2, 1) := by decide +kernel
theorem dX10_layPrices_16 : decode cX10_layPrices 16 = .ok (.if_icmp .ne 7, 3) := by decide +kernel
theorem dX10_layPrices_19 : decode cX10_layPrices 19 = .ok (.iconst 0, 1) := by decide +kernel
theorem dX10_layPrices_20 : decode cX10_layPrices 20 = .ok (.goto 11, 3) := by decide +kernel
theorem dX10_layPrices_23 : decode cX10_layPrices 23 = .ok (.aload_n 1, 1) := by decide +kernel
theorem dX10_layPrices_24 : decode cX10_layPrices 24 = .ok (.iload_n 3, 1) := by decide +kernel
theorem dX10_layPrices_25 : decode cX10_layPrices 25 = .ok (.invokestatic 88, 3) := by decide +kernel
theorem dX10_layPrices_28 : decode cX10_layPrices 28 = .ok (.iconst 3, 1) := by decide +kernel
theorem dX10_layPrices_29 : decode cX10_layPrices 29 = .ok (.iadd, 1) := by decide +kernel
theorem dX10_layPrices_30 : decode cX10_layPrices 30 = .ok (.iaload, 1) := by decide +kernel
theorem dX10_layPrices_31 : decode cX10_layPrices 31 = .ok (.iastore, 1) := by decide +kernel
theorem dX10_layPrices_32 : decode cX10_layPrices 32 = .ok (.iinc 3 1, 3) := by decide +kernel
theorem dX10_layPrices_35 : decode cX10_layPrices 35 = .ok (.goto (-33), 3) := by decide +kernel
theorem dX10_layPrices_38 : decode cX10_layPrices 38 = .ok (.return_, 1) := by decide +kernel
theorem dX10_relax_0 : decode cX10_relax 0 = .ok (.iconst 0, 1) := by decide +kernel
theorem dX10_relax_1 : decode cX10_relax 1 = .ok (.istore 5, 2) := by decide +kernel
theorem dX10_relax_3 : decode cX10_relax 3 = .ok (.iconst 0, 1) := by decide +kernel
theorem dX10_relax_4 : decode cX10_relax 4 = .ok (.istore 6, 2) := by decide +kernel
theorem dX10_relax_6 : decode cX10_relax 6 = .ok (.iload 6, 2) := by decide +kernel
theorem dX10_relax_8 : decode cX10_relax 8 = .ok (.aload_n 0, 1) := by decide +kernel
theorem dX10_relax_9 : decode cX10_relax 9 = .ok (.getfield 96, 3) := by decide +kernel
theorem dX10_relax_12 : decode cX10_relax 12 = .ok (.if_icmp .gt 114, 3) := by decide +kernel
theorem dX10_relax_15 : decode cX10_relax 15 = .ok (.aload_n 0, 1) := by decide +kernel
theorem dX10_relax_16 : decode cX10_relax 16 = .ok (.getfield 32, 3) := by decide +kernel
theorem dX10_relax_19 : decode cX10_relax 19 = .ok (.iload 6, 2) := by decide +kernel
theorem dX10_relax_21 : decode cX10_relax 21 = .ok (.iaload, 1) := by decide +kernel
theorem dX10_relax_22 : decode cX10_relax 22 = .ok (.iload_n 3, 1) := by decide +kernel
theorem dX10_relax_23 : decode cX10_relax 23 = .ok (.iand, 1) := by decide +kernel
theorem dX10_relax_24 : decode cX10_relax 24 = .ok (.istore 7, 2) := by decide +kernel
theorem dX10_relax_26 : decode cX10_relax 26 = .ok (.iconst 1, 1) := by decide +kernel
theorem dX10_relax_27 : decode cX10_relax 27 = .ok (.istore 8, 2) := by decide +kernel
theorem dX10_relax_29 : decode cX10_relax 29 = .ok (.iload 8, 2) := by decide +kernel
theorem dX10_relax_31 : decode cX10_relax 31 = .ok (.aload_n 0, 1) := by decide +kernel
theorem dX10_relax_32 : decode cX10_relax 32 = .ok (.getfield 96, 3) := by decide +kernel
theorem dX10_relax_35 : decode cX10_relax 35 = .ok (.if_icmp .gt 85, 3) := by decide +kernel
theorem dX10_relax_38 : decode cX10_relax 38 = .ok (.iload 7, 2) := by decide +kernel
theorem dX10_relax_40 : decode cX10_relax 40 = .ok (.ifCond .eq 80, 3) := by decide +kernel
theorem dX10_relax_43 : decode cX10_relax 43 = .ok (.iload 7, 2) := by decide +kernel
theorem dX10_relax_45 : decode cX10_relax 45 = .ok (.iload 8, 2) := by decide +kernel
theorem dX10_relax_47 : decode cX10_relax 47 = .ok (.ishr, 1) := by decide +kernel
theorem dX10_relax_48 : decode cX10_relax 48 = .ok (.iconst 1, 1) := by decide +kernel
theorem dX10_relax_49 : decode cX10_relax 49 = .ok (.iand, 1) := by decide +kernel
theorem dX10_relax_50 : decode cX10_relax 50 = .ok (.iconst 1, 1) := by decide +kernel
theorem dX10_relax_51 : decode cX10_relax 51 = .ok (.if_icmp .ne 63, 3) := by decide +kernel
theorem dX10_relax_54 : decode cX10_relax 54 = .ok (.aload_n 0, 1) := by decide +kernel
theorem dX10_relax_55 : decode cX10_relax 55 = .ok (.getfield 59, 3) := by decide +kernel
theorem dX10_relax_58 : decode cX10_relax 58 = .ok (.bipush 21, 2) := by decide +kernel
theorem dX10_relax_60 : decode cX10_relax 60 = .ok (.iload_n 2, 1) := by decide +kernel
theorem dX10_relax_61 : decode cX10_relax 61 = .ok (.imul, 1) := by decide +kernel
theorem dX10_relax_62 : decode cX10_relax 62 = .ok (.iload 8, 2) := by decide +kernel
theorem dX10_relax_64 : decode cX10_relax 64 = .ok (.iadd, 1) := by decide +kernel
theorem dX10_relax_65 : decode cX10_relax 65 = .ok (.iaload, 1) := by decide +kernel
theorem dX10_relax_66 : decode cX10_relax 66 = .ok (.iload 4, 2) := by decide +kernel
theorem dX10_relax_68 : decode cX10_relax 68 = .ok (.iadd, 1) := by decide +kernel
theorem dX10_relax_69 : decode cX10_relax 69 = .ok (.aload_n 0, 1) := by decide +kernel
theorem dX10_relax_70 : decode cX10_relax 70 = .ok (.getfield 59, 3) := by decide +kernel
theorem dX10_relax_73 : decode cX10_relax 73 = .ok (.bipush 21, 2) := by decide +kernel
theorem dX10_relax_75 : decode cX10_relax 75 = .ok (.iload_n 1, 1) := by decide +kernel
theorem dX10_relax_76 : decode cX10_relax 76 = .ok (.imul, 1) := by decide +kernel
theorem dX10_relax_77 : decode cX10_relax 77 = .ok (.iload 6, 2) := by decide +kernel
theorem dX10_relax_79 : decode cX10_relax 79 = .ok (.iadd, 1) := by decide +kernel
theorem dX10_relax_80 : decode cX10_relax 80 = .ok (.iaload, 1) := by decide +kernel
theorem dX10_relax_81 : decode cX10_relax 81 = .ok (.if_icmp .ge 33, 3) := by decide +kernel
theorem dX10_relax_84 : decode cX10_relax 84 = .ok (.aload_n 0, 1) := by decide +kernel
theorem dX10_relax_85 : decode cX10_relax 85 = .ok (.getfield 59, 3) := by decide +kernel
theorem dX10_relax_88 : decode cX10_relax 88 = .ok (.bipush 21, 2) := by decide +kernel
theorem dX10_relax_90 : decode cX10_relax 90 = .ok (.iload_n 1, 1) := by decide +kernel
theorem dX10_relax_91 : decode cX10_relax 91 = .ok (.imul, 1) := by decide +kernel
theorem dX10_relax_92 : decode cX10_relax 92 = .ok (.iload 6, 2) := by decide +kernel
theorem dX10_relax_94 : decode cX10_relax 94 = .ok (.iadd, 1) := by decide +kernel
theorem dX10_relax_95 : decode cX10_relax 95 = .ok (.aload_n 0, 1) := by decide +kernel
theorem dX10_relax_96 : decode cX10_relax 96 = .ok (.getfield 59, 3) := by decide +kernel
theorem dX10_relax_99 : decode cX10_relax 99 = .ok (.bipush 21, 2) := by decide +kernel
theorem dX10_relax_101 : decode cX10_relax 101 = .ok (.iload_n 2, 1) := by decide +kernel
theorem dX10_relax_102 : decode cX10_relax 102 = .ok (.imul, 1) := by decide +kernel
theorem dX10_relax_103 : decode cX10_relax 103 = .ok (.iload 8, 2) := by decide +kernel
theorem dX10_relax_105 : decode cX10_relax 105 = .ok (.iadd, 1) := by decide +kernel
theorem dX10_relax_106 : decode cX10_relax 106 = .ok (.iaload, 1) := by decide +kernel
theorem dX10_relax_107 : decode cX10_relax 107 = .ok (.iload 4, 2) := by decide +kernel
theorem dX10_relax_109 : decode cX10_relax 109 = .ok (.iadd, 1) := by decide +kernel
theorem dX10_relax_110 : decode cX10_relax 110 = .ok (.iastore, 1) := by decide +kernel
theorem dX10_relax_111 : decode cX10_relax 111 = .ok (.iconst 1, 1) := by decide +kernel
theorem dX10_relax_112 : decode cX10_relax 112 = .ok (.istore 5, 2) := by decide +kernel
theorem dX10_relax_114 : decode cX10_relax 114 = .ok (.iinc 8 1, 3) := by decide +kernel
theorem dX10_relax_117 : decode cX10_relax 117 = .ok (.goto (-88), 3) := by decide +kernel
theorem dX10_relax_120 : decode cX10_relax 120 = .ok (.iinc 6 1, 3) := by decide +kernel
theorem dX10_relax_123 : decode cX10_relax 123 = .ok (.goto (-117), 3) := by decide +kernel
theorem dX10_relax_126 : decode cX10_relax 126 = .ok (.iload 5, 2) := by decide +kernel
theorem dX10_relax_128 : decode cX10_relax 128 = .ok (.ireturn, 1) := by decide +kernel
theorem dX10_layFits_0 : decode cX10_layFits 0 = .ok (.iconst 0, 1) := by decide +kernel
theorem dX10_layFits_1 : decode cX10_layFits 1 = .ok (.istore_n 1, 1) := by decide +kernel
theorem dX10_layFits_2 : decode cX10_layFits 2 = .ok (.iload_n 1, 1) := by decide +kernel
theorem dX10_layFits_3 : decode cX10_layFits 3 = .ok (.iconst 4, 1) := by decide +kernel
theorem dX10_layFits_4 : decode cX10_layFits 4 = .ok (.if_icmp .ge 33, 3) := by decide +kernel
theorem dX10_layFits_7 : decode cX10_layFits 7 = .ok (.aload_n 0, 1) := by decide +kernel
theorem dX10_layFits_8 : decode cX10_layFits 8 = .ok (.getfield 62, 3) := by decide +kernel
theorem dX10_layFits_11 : decode cX10_layFits 11 = .ok (.iload_n 1, 1) := by decide +kernel
theorem dX10_layFits_12 : decode cX10_layFits 12 = .ok (.aload_n 0, 1) := by decide +kernel
theorem dX10_layFits_13 : decode cX10_layFits 13 = .ok (.iload_n 1, 1) := by decide +kernel
theorem dX10_layFits_14 : decode cX10_layFits 14 = .ok (.iconst 0, 1) := by decide +kernel
theorem dX10_layFits_15 : decode cX10_layFits 15 = .ok (.invokevirtual 138, 3) := by decide +kernel
theorem dX10_layFits_18 : decode cX10_layFits 18 = .ok (.iastore, 1) := by decide +kernel
theorem dX10_layFits_19 : decode cX10_layFits 19 = .ok (.aload_n 0, 1) := by decide +kernel
theorem dX10_layFits_20 : decode cX10_layFits 20 = .ok (.getfield 65, 3) := by decide +kernel
theorem dX10_layFits_23 : decode cX10_layFits 23 = .ok (.iload_n 1, 1) := by decide +kernel
theorem dX10_layFits_24 : decode cX10_layFits 24 = .ok (.aload_n 0, 1) := by decide +kernel
theorem dX10_layFits_25 : decode cX10_layFits 25 = .ok (.iload_n 1, 1) := by decide +kernel
theorem dX10_layFits_26 : decode cX10_layFits 26 = .ok (.iconst 1, 1) := by decide +kernel
theorem dX10_layFits_27 : decode cX10_layFits 27 = .ok (.invokevirtual 138, 3) := by decide +kernel
theorem dX10_layFits_30 : decode cX10_layFits 30 = .ok (.iastore, 1) := by decide +kernel
theorem dX10_layFits_31 : decode cX10_layFits 31 = .ok (.iinc 1 1, 3) := by decide +kernel
theorem dX10_layFits_34 : decode cX10_layFits 34 = .ok (.goto (-32), 3) := by decide +kernel
theorem dX10_layFits_37 : decode cX10_layFits 37 = .ok (.return_, 1) := by decide +kernel
theorem dX10_layFar_0 : decode cX10_layFar 0 = .ok (.aload_n 0, 1) := by decide +kernel
theorem dX10_layFar_1 : decode cX10_layFar 1 = .ok (.invokevirtual 142, 3) := by decide +kernel
theorem dX10_layFar_4 : decode cX10_layFar 4 = .ok (.iconst 0, 1) := by decide +kernel
theorem dX10_layFar_5 : decode cX10_layFar 5 = .ok (.istore_n 3, 1) := by decide +kernel
theorem dX10_layFar_6 : decode cX10_layFar 6 = .ok (.iload_n 3, 1) := by decide +kernel
theorem dX10_layFar_7 : decode cX10_layFar 7 = .ok (.aload_n 0, 1) := by decide +kernel
theorem dX10_layFar_8 : decode cX10_layFar 8 = .ok (.getfield 59, 3) := by decide +kernel
theorem dX10_layFar_11 : decode cX10_layFar 11 = .ok (.arraylength, 1) := by decide +kernel
theorem dX10_layFar_12 : decode cX10_layFar 12 = .ok (.if_icmp .ge 17, 3) := by decide +kernel
theorem dX10_layFar_15 : decode cX10_layFar 15 = .ok (.aload_n 0, 1) := by decide +kernel
theorem dX10_layFar_16 : decode cX10_layFar 16 = .ok (.getfield 59, 3) := by decide +kernel
theorem dX10_layFar_19 : decode cX10_layFar 19 = .ok (.iload_n 3, 1) := by decide +kernel
theorem dX10_layFar_20 : decode cX10_layFar 20 = .ok (.ldc 145, 2) := by decide +kernel
theorem dX10_layFar_22 : decode cX10_layFar 22 = .ok (.iastore, 1) := by decide +kernel
theorem dX10_layFar_23 : decode cX10_layFar 23 = .ok (.iinc 3 1, 3) := by decide +kernel
theorem dX10_layFar_26 : decode cX10_layFar 26 = .ok (.goto (-20), 3) := by decide +kernel
theorem dX10_layFar_29 : decode cX10_layFar 29 = .ok (.iconst 0, 1) := by decide +kernel
theorem dX10_layFar_30 : decode cX10_layFar 30 = .ok (.istore_n 3, 1) := by decide +kernel
theorem dX10_layFar_31 : decode cX10_layFar 31 = .ok (.iload_n 3, 1) := by decide +kernel
theorem dX10_layFar_32 : decode cX10_layFar 32 = .ok (.aload_n 0, 1) := by decide +kernel
theorem dX10_layFar_33 : decode cX10_layFar 33 = .ok (.getfield 96, 3) := by decide +kernel
theorem dX10_layFar_36 : decode cX10_layFar 36 = .ok (.if_icmp .gt 36, 3) := by decide +kernel
theorem dX10_layFar_39 : decode cX10_layFar 39 = .ok (.aload_n 0, 1) := by decide +kernel
theorem dX10_layFar_40 : decode cX10_layFar 40 = .ok (.getfield 59, 3) := by decide +kernel
theorem dX10_layFar_43 : decode cX10_layFar 43 = .ok (.bipush 21, 2) := by decide +kernel
theorem dX10_layFar_45 : decode cX10_layFar 45 = .ok (.iload_n 2, 1) := by decide +kernel
theorem dX10_layFar_46 : decode cX10_layFar 46 = .ok (.imul, 1) := by decide +kernel
theorem dX10_layFar_47 : decode cX10_layFar 47 = .ok (.iload_n 3, 1) := by decide +kernel
theorem dX10_layFar_48 : decode cX10_layFar 48 = .ok (.iadd, 1) := by decide +kernel
theorem dX10_layFar_49 : decode cX10_layFar 49 = .ok (.aload_n 0, 1) := by decide +kernel
theorem dX10_layFar_50 : decode cX10_layFar 50 = .ok (.iconst 1, 1) := by decide +kernel
theorem dX10_layFar_51 : decode cX10_layFar 51 = .ok (.iload_n 3, 1) := by decide +kernel
theorem dX10_layFar_52 : decode cX10_layFar 52 = .ok (.ishl, 1) := by decide +kernel
theorem dX10_layFar_53 : decode cX10_layFar 53 = .ok (.invokevirtual 146, 3) := by decide +kernel
theorem dX10_layFar_56 : decode cX10_layFar 56 = .ok (.ifCond .eq 7, 3) := by decide +kernel
theorem dX10_layFar_59 : decode cX10_layFar 59 = .ok (.iconst 0, 1) := by decide +kernel
theorem dX10_layFar_60 : decode cX10_layFar 60 = .ok (.goto 5, 3) := by decide +kernel
theorem dX10_layFar_63 : decode cX10_layFar 63 = .ok (.ldc 145, 2) := by decide +kernel
theorem dX10_layFar_65 : decode cX10_layFar 65 = .ok (.iastore, 1) := by decide +kernel
theorem dX10_layFar_66 : decode cX10_layFar 66 = .ok (.iinc 3 1, 3) := by decide +kernel
theorem dX10_layFar_69 : decode cX10_layFar 69 = .ok (.goto (-38), 3) := by decide +kernel
theorem dX10_layFar_72 : decode cX10_layFar 72 = .ok (.iconst 1, 1) := by decide +kernel
theorem dX10_layFar_73 : decode cX10_layFar 73 = .ok (.istore_n 3, 1) := by decide +kernel
theorem dX10_layFar_74 : decode cX10_layFar 74 = .ok (.iload_n 3, 1) := by decide +kernel
theorem dX10_layFar_75 : decode cX10_layFar 75 = .ok (.ifCond .eq 128, 3) := by decide +kernel
theorem dX10_layFar_78 : decode cX10_layFar 78 = .ok (.iconst 0, 1) := by decide +kernel
theorem dX10_layFar_79 : decode cX10_layFar 79 = .ok (.istore_n 3, 1) := by decide +kernel
theorem dX10_layFar_80 : decode cX10_layFar 80 = .ok (.iconst 0, 1) := by decide +kernel
theorem dX10_layFar_81 : decode cX10_layFar 81 = .ok (.istore 4, 2) := by decide +kernel
theorem dX10_layFar_83 : decode cX10_layFar 83 = .ok (.iload 4, 2) := by decide +kernel
theorem dX10_layFar_85 : decode cX10_layFar 85 = .ok (.aload_n 1, 1) := by decide +kernel
theorem dX10_layFar_86 : decode cX10_layFar 86 = .ok (.iconst 1, 1) := by decide +kernel
theorem dX10_layFar_87 : decode cX10_layFar 87 = .ok (.iaload, 1) := by decide +kernel
theorem dX10_layFar_88 : decode cX10_layFar 88 = .ok (.if_icmp .ge 112, 3) := by decide +kernel
theorem dX10_layFar_91 : decode cX10_layFar 91 = .ok (.aload_n 0, 1) := by decide +kernel
theorem dX10_layFar_92 : decode cX10_layFar 92 = .ok (.getfield 56, 3) := by decide +kernel
theorem dX10_layFar_95 : decode cX10_layFar 95 = .ok (.iload 4, 2) := by decide +kernel
theorem dX10_layFar_97 : decode cX10_layFar 97 = .ok (.iaload, 1) := by decide +kernel
theorem dX10_layFar_98 : decode cX10_layFar 98 = .ok (.ifCond .le 96, 3) := by decide +kernel
theorem dX10_layFar_101 : decode cX10_layFar 101 = .ok (.aload_n 1, 1) := by decide +kernel
theorem dX10_layFar_102 : decode cX10_layFar 102 = .ok (.iload 4, 2) := by decide +kernel
theorem dX10_layFar_104 : decode cX10_layFar 104 = .ok (.invokestatic 88, 3) := by decide +kernel
theorem dX10_layFar_107 : decode cX10_layFar 107 = .ok (.iaload, 1) := by decide +kernel
theorem dX10_layFar_108 : decode cX10_layFar 108 = .ok (.istore 5, 2) := by decide +kernel
theorem dX10_layFar_110 : decode cX10_layFar 110 = .ok (.aload_n 1, 1) := by decide +kernel
theorem dX10_layFar_111 : decode cX10_layFar 111 = .ok (.iload 4, 2) := by decide +kernel
theorem dX10_layFar_113 : decode cX10_layFar 113 = .ok (.invokestatic 88, 3) := by decide +kernel
theorem dX10_layFar_116 : decode cX10_layFar 116 = .ok (.iconst 2, 1) := by decide +kernel
theorem dX10_layFar_117 : decode cX10_layFar 117 = .ok (.iadd, 1) := by decide +kernel
theorem dX10_layFar_118 : decode cX10_layFar 118 = .ok (.iaload, 1) := by decide +kernel
theorem dX10_layFar_119 : decode cX10_layFar 119 = .ok (.istore 6, 2) := by decide +kernel
theorem dX10_layFar_121 : decode cX10_layFar 121 = .ok (.aload_n 1, 1) := by decide +kernel
theorem dX10_layFar_122 : decode cX10_layFar 122 = .ok (.iload 4, 2) := by decide +kernel
theorem dX10_layFar_124 : decode cX10_layFar 124 = .ok (.invokestatic 88, 3) := by decide +kernel
theorem dX10_layFar_127 : decode cX10_layFar 127 = .ok (.iconst 1, 1) := by decide +kernel
theorem dX10_layFar_128 : decode cX10_layFar 128 = .ok (.iadd, 1) := by decide +kernel
theorem dX10_layFar_129 : decode cX10_layFar 129 = .ok (.iaload, 1) := by decide +kernel
theorem dX10_layFar_130 : decode cX10_layFar 130 = .ok (.istore 7, 2) := by decide +kernel
theorem dX10_layFar_132 : decode cX10_layFar 132 = .ok (.iload_n 3, 1) := by decide +kernel
theorem dX10_layFar_133 : decode cX10_layFar 133 = .ok (.aload_n 0, 1) := by decide +kernel
theorem dX10_layFar_134 : decode cX10_layFar 134 = .ok (.iload 5, 2) := by decide +kernel
theorem dX10_layFar_136 : decode cX10_layFar 136 = .ok (.iload 6, 2) := by decide +kernel
theorem dX10_layFar_138 : decode cX10_layFar 138 = .ok (.aload_n 0, 1) := by decide +kernel
theorem dX10_layFar_139 : decode cX10_layFar 139 = .ok (.getfield 62, 3) := by decide +kernel
theorem dX10_layFar_142 : decode cX10_layFar 142 = .ok (.iload 7, 2) := by decide +kernel
theorem dX10_layFar_144 : decode cX10_layFar 144 = .ok (.iaload, 1) := by decide +kernel
theorem dX10_layFar_145 : decode cX10_layFar 145 = .ok (.sipush 1000, 3) := by decide +kernel
theorem dX10_layFar_148 : decode cX10_layFar 148 = .ok (.aload_n 0, 1) := by decide +kernel
theorem dX10_layFar_149 : decode cX10_layFar 149 = .ok (.getfield 56, 3) := by decide +kernel
theorem dX10_layFar_152 : decode cX10_layFar 152 = .ok (.iload 4, 2) := by decide +kernel
theorem dX10_layFar_154 : decode cX10_layFar 154 = .ok (.iaload, 1) := by decide +kernel
theorem dX10_layFar_155 : decode cX10_layFar 155 = .ok (.imul, 1) := by decide +kernel
theorem dX10_layFar_156 : decode cX10_layFar 156 = .ok (.iconst 1, 1) := by decide +kernel
theorem dX10_layFar_157 : decode cX10_layFar 157 = .ok (.iadd, 1) := by decide +kernel
theorem dX10_layFar_158 : decode cX10_layFar 158 = .ok (.invokevirtual 150, 3) := by decide +kernel
theorem dX10_layFar_161 : decode cX10_layFar 161 = .ok (.ior, 1) := by decide +kernel
theorem dX10_layFar_162 : decode cX10_layFar 162 = .ok (.istore_n 3, 1) := by decide +kernel
theorem dX10_layFar_163 : decode cX10_layFar 163 = .ok (.iload_n 3, 1) := by decide +kernel
theorem dX10_layFar_164 : decode cX10_layFar 164 = .ok (.aload_n 0, 1) := by decide +kernel
theorem dX10_layFar_165 : decode cX10_layFar 165 = .ok (.iload 6, 2) := by decide +kernel
theorem dX10_layFar_167 : decode cX10_layFar 167 = .ok (.iload 5, 2) := by decide +kernel
theorem dX10_layFar_169 : decode cX10_layFar 169 = .ok (.aload_n 0, 1) := by decide +kernel
theorem dX10_layFar_170 : decode cX10_layFar 170 = .ok (.getfield 65, 3) := by decide +kernel
theorem dX10_layFar_173 : decode cX10_layFar 173 = .ok (.iload 7, 2) := by decide +kernel
theorem dX10_layFar_175 : decode cX10_layFar 175 = .ok (.iaload, 1) := by decide +kernel
theorem dX10_layFar_176 : decode cX10_layFar 176 = .ok (.sipush 1000, 3) := by decide +kernel
theorem dX10_layFar_179 : decode cX10_layFar 179 = .ok (.aload_n 0, 1) := by decide +kernel
theorem dX10_layFar_180 : decode cX10_layFar 180 = .ok (.getfield 56, 3) := by decide +kernel
theorem dX10_layFar_183 : decode cX10_layFar 183 = .ok (.iload 4, 2) := by decide +kernel
theorem dX10_layFar_185 : decode cX10_layFar 185 = .ok (.iaload, 1) := by decide +kernel
theorem dX10_layFar_186 : decode cX10_layFar 186 = .ok (.imul, 1) := by decide +kernel
theorem dX10_layFar_187 : decode cX10_layFar 187 = .ok (.iconst 1, 1) := by decide +kernel
theorem dX10_layFar_188 : decode cX10_layFar 188 = .ok (.iadd, 1) := by decide +kernel
theorem dX10_layFar_189 : decode cX10_layFar 189 = .ok (.invokevirtual 150, 3) := by decide +kernel
theorem dX10_layFar_192 : decode cX10_layFar 192 = .ok (.ior, 1) := by decide +kernel
theorem dX10_layFar_193 : decode cX10_layFar 193 = .ok (.istore_n 3, 1) := by decide +kernel
theorem dX10_layFar_194 : decode cX10_layFar 194 = .ok (.iinc 4 1, 3) := by decide +kernel
theorem dX10_layFar_197 : decode cX10_layFar 197 = .ok (.goto (-114), 3) := by decide +kernel
theorem dX10_layFar_200 : decode cX10_layFar 200 = .ok (.goto (-126), 3) := by decide +kernel
theorem dX10_layFar_203 : decode cX10_layFar 203 = .ok (.return_, 1) := by decide +kernel
theorem dX10_best_0 : decode cX10_best 0 = .ok (.aload_n 0, 1) := by decide +kernel
theorem dX10_best_1 : decode cX10_best 1 = .ok (.aload_n 1, 1) := by decide +kernel
theorem dX10_best_2 : decode cX10_best 2 = .ok (.iload_n 3, 1) := by decide +kernel
theorem dX10_best_3 : decode cX10_best 3 = .ok (.invokevirtual 154, 3) := by decide +kernel
theorem dX10_best_6 : decode cX10_best 6 = .ok (.aload_n 0, 1) := by decide +kernel
theorem dX10_best_7 : decode cX10_best 7 = .ok (.getfield 59, 3) := by decide +kernel
theorem dX10_best_10 : decode cX10_best 10 = .ok (.bipush 21, 2) := by decide +kernel
theorem dX10_best_12 : decode cX10_best 12 = .ok (.iload_n 2, 1) := by decide +kernel
theorem dX10_best_13 : decode cX10_best 13 = .ok (.imul, 1) := by decide +kernel
theorem dX10_best_14 : decode cX10_best 14 = .ok (.iaload, 1) := by decide +kernel
theorem dX10_best_15 : decode cX10_best 15 = .ok (.ireturn, 1) := by decide +kernel
theorem dX10_bestNow_0 : decode cX10_bestNow 0 = .ok (.aload_n 0, 1) := by decide +kernel
theorem dX10_bestNow_1 : decode cX10_bestNow 1 = .ok (.aload_n 0, 1) := by decide +kernel
theorem dX10_bestNow_2 : decode cX10_bestNow 2 = .ok (.getfield 16, 3) := by decide +kernel
theorem dX10_bestNow_5 : decode cX10_bestNow 5 = .ok (.invokevirtual 158, 3) := by decide +kernel
theorem dX10_bestNow_8 : decode cX10_bestNow 8 = .ok (.aload_n 0, 1) := by decide +kernel
theorem dX10_bestNow_9 : decode cX10_bestNow 9 = .ok (.aload_n 0, 1) := by decide +kernel
theorem dX10_bestNow_10 : decode cX10_bestNow 10 = .ok (.getfield 16, 3) := by decide +kernel
theorem dX10_bestNow_13 : decode cX10_bestNow 13 = .ok (.bipush (-9), 2) := by decide +kernel
theorem dX10_bestNow_15 : decode cX10_bestNow 15 = .ok (.invokevirtual 162, 3) := by decide +kernel
theorem dX10_bestNow_18 : decode cX10_bestNow 18 = .ok (.aload_n 0, 1) := by decide +kernel
theorem dX10_bestNow_19 : decode cX10_bestNow 19 = .ok (.aload_n 0, 1) := by decide +kernel
theorem dX10_bestNow_20 : decode cX10_bestNow 20 = .ok (.getfield 16, 3) := by decide +kernel
theorem dX10_bestNow_23 : decode cX10_bestNow 23 = .ok (.iload_n 1, 1) := by decide +kernel
theorem dX10_bestNow_24 : decode cX10_bestNow 24 = .ok (.iload_n 2, 1) := by decide +kernel
theorem dX10_bestNow_25 : decode cX10_bestNow 25 = .ok (.invokevirtual 165, 3) := by decide +kernel
theorem dX10_bestNow_28 : decode cX10_bestNow 28 = .ok (.ireturn, 1) := by decide +kernel
theorem dX10_bestOf_0 : decode cX10_bestOf 0 = .ok (.aload_n 0, 1) := by decide +kernel
theorem dX10_bestOf_1 : decode cX10_bestOf 1 = .ok (.aload_n 1, 1) := by decide +kernel
theorem dX10_bestOf_2 : decode cX10_bestOf 2 = .ok (.invokevirtual 158, 3) := by decide +kernel
theorem dX10_bestOf_5 : decode cX10_bestOf 5 = .ok (.aload_n 0, 1) := by decide +kernel
theorem dX10_bestOf_6 : decode cX10_bestOf 6 = .ok (.aload_n 1, 1) := by decide +kernel
theorem dX10_bestOf_7 : decode cX10_bestOf 7 = .ok (.iload 4, 2) := by decide +kernel
theorem dX10_bestOf_9 : decode cX10_bestOf 9 = .ok (.invokevirtual 162, 3) := by decide +kernel
theorem dX10_bestOf_12 : decode cX10_bestOf 12 = .ok (.aload_n 0, 1) := by decide +kernel
theorem dX10_bestOf_13 : decode cX10_bestOf 13 = .ok (.aload_n 1, 1) := by decide +kernel
theorem dX10_bestOf_14 : decode cX10_bestOf 14 = .ok (.iload_n 2, 1) := by decide +kernel
theorem dX10_bestOf_15 : decode cX10_bestOf 15 = .ok (.iload_n 3, 1) := by decide +kernel
theorem dX10_bestOf_16 : decode cX10_bestOf 16 = .ok (.invokevirtual 165, 3) := by decide +kernel
theorem dX10_bestOf_19 : decode cX10_bestOf 19 = .ok (.ireturn, 1) := by decide +kernel
theorem dX10_append_0 : decode cX10_append 0 = .ok (.aload_n 0, 1) := by decide +kernel
theorem dX10_append_1 : decode cX10_append 1 = .ok (.iload_n 1, 1) := by decide +kernel
theorem dX10_append_2 : decode cX10_append 2 = .ok (.i2l, 1) := by decide +kernel
theorem dX10_append_3 : decode cX10_append 3 = .ok (.lconst 0, 1) := by decide +kernel
theorem dX10_append_4 : decode cX10_append 4 = .ok (.ldc2_w 168, 3) := by decide +kernel
theorem dX10_append_7 : decode cX10_append 7 = .ok (.invokestatic 84, 3) := by decide +kernel
theorem dX10_append_10 : decode cX10_append 10 = .ok (.ifCond .ne 7, 3) := by decide +kernel
theorem dX10_append_13 : decode cX10_append 13 = .ok (.iconst 1, 1) := by decide +kernel
theorem dX10_append_14 : decode cX10_append 14 = .ok (.goto 17, 3) := by decide +kernel
theorem dX10_append_17 : decode cX10_append 17 = .ok (.aload_n 0, 1) := by decide +kernel
theorem dX10_append_18 : decode cX10_append 18 = .ok (.getfield 170, 3) := by decide +kernel
theorem dX10_append_21 : decode cX10_append 21 = .ok (.bipush 110, 2) := by decide +kernel
theorem dX10_append_23 : decode cX10_append 23 = .ok (.if_icmp .ne 7, 3) := by decide +kernel
theorem dX10_append_26 : decode cX10_append 26 = .ok (.iconst 2, 1) := by decide +kernel
theorem dX10_append_27 : decode cX10_append 27 = .ok (.goto 4, 3) := by decide +kernel
theorem dX10_append_30 : decode cX10_append 30 = .ok (.iconst 0, 1) := by decide +kernel
theorem dX10_append_31 : decode cX10_append 31 = .ok (.invokevirtual 173, 3) := by decide +kernel
theorem dX10_append_34 : decode cX10_append 34 = .ok (.ifCond .eq 5, 3) := by decide +kernel
theorem dX10_append_37 : decode cX10_append 37 = .ok (.iconst 0, 1) := by decide +kernel
theorem dX10_append_38 : decode cX10_append 38 = .ok (.ireturn, 1) := by decide +kernel
theorem dX10_append_39 : decode cX10_append 39 = .ok (.aload_n 0, 1) := by decide +kernel
theorem dX10_append_40 : decode cX10_append 40 = .ok (.getfield 7, 3) := by decide +kernel
theorem dX10_append_43 : decode cX10_append 43 = .ok (.aload_n 0, 1) := by decide +kernel
theorem dX10_append_44 : decode cX10_append 44 = .ok (.getfield 170, 3) := by decide +kernel
theorem dX10_append_47 : decode cX10_append 47 = .ok (.iload_n 1, 1) := by decide +kernel
theorem dX10_append_48 : decode cX10_append 48 = .ok (.iastore, 1) := by decide +kernel
theorem dX10_append_49 : decode cX10_append 49 = .ok (.aload_n 0, 1) := by decide +kernel
theorem dX10_append_50 : decode cX10_append 50 = .ok (.dup, 1) := by decide +kernel
theorem dX10_append_51 : decode cX10_append 51 = .ok (.getfield 170, 3) := by decide +kernel
theorem dX10_append_54 : decode cX10_append 54 = .ok (.iconst 1, 1) := by decide +kernel
theorem dX10_append_55 : decode cX10_append 55 = .ok (.iadd, 1) := by decide +kernel
theorem dX10_append_56 : decode cX10_append 56 = .ok (.putfield 170, 3) := by decide +kernel
theorem dX10_append_59 : decode cX10_append 59 = .ok (.aload_n 0, 1) := by decide +kernel
theorem dX10_append_60 : decode cX10_append 60 = .ok (.getfield 170, 3) := by decide +kernel
theorem dX10_append_63 : decode cX10_append 63 = .ok (.ireturn, 1) := by decide +kernel
theorem dX10_clearText_0 : decode cX10_clearText 0 = .ok (.aload_n 0, 1) := by decide +kernel
theorem dX10_clearText_1 : decode cX10_clearText 1 = .ok (.getfield 170, 3) := by decide +kernel
theorem dX10_clearText_4 : decode cX10_clearText 4 = .ok (.istore_n 1, 1) := by decide +kernel
theorem dX10_clearText_5 : decode cX10_clearText 5 = .ok (.aload_n 0, 1) := by decide +kernel
theorem dX10_clearText_6 : decode cX10_clearText 6 = .ok (.iconst 0, 1) := by decide +kernel
theorem dX10_clearText_7 : decode cX10_clearText 7 = .ok (.putfield 170, 3) := by decide +kernel
theorem dX10_clearText_10 : decode cX10_clearText 10 = .ok (.iload_n 1, 1) := by decide +kernel
theorem dX10_clearText_11 : decode cX10_clearText 11 = .ok (.ireturn, 1) := by decide +kernel
theorem dX10_sign_0 : decode cX10_sign 0 = .ok (.aload_n 0, 1) := by decide +kernel
theorem dX10_sign_1 : decode cX10_sign 1 = .ok (.getfield 176, 3) := by decide +kernel
theorem dX10_sign_4 : decode cX10_sign 4 = .ok (.aload_n 0, 1) := by decide +kernel
theorem dX10_sign_5 : decode cX10_sign 5 = .ok (.getfield 170, 3) := by decide +kernel
theorem dX10_sign_8 : decode cX10_sign 8 = .ok (.if_icmp .ge 15, 3) := by decide +kernel
theorem dX10_sign_11 : decode cX10_sign 11 = .ok (.aload_n 0, 1) := by decide +kernel
theorem dX10_sign_12 : decode cX10_sign 12 = .ok (.getfield 7, 3) := by decide +kernel
theorem dX10_sign_15 : decode cX10_sign 15 = .ok (.aload_n 0, 1) := by decide +kernel
theorem dX10_sign_16 : decode cX10_sign 16 = .ok (.getfield 176, 3) := by decide +kernel
theorem dX10_sign_19 : decode cX10_sign 19 = .ok (.iaload, 1) := by decide +kernel
theorem dX10_sign_20 : decode cX10_sign 20 = .ok (.goto 5, 3) := by decide +kernel
theorem dX10_sign_23 : decode cX10_sign 23 = .ok (.bipush (-9), 2) := by decide +kernel
theorem dX10_sign_25 : decode cX10_sign 25 = .ok (.istore_n 3, 1) := by decide +kernel
theorem dX10_sign_26 : decode cX10_sign 26 = .ok (.iload_n 3, 1) := by decide +kernel
theorem dX10_sign_27 : decode cX10_sign 27 = .ok (.i2l, 1) := by decide +kernel
theorem dX10_sign_28 : decode cX10_sign 28 = .ok (.iload_n 1, 1) := by decide +kernel
theorem dX10_sign_29 : decode cX10_sign 29 = .ok (.i2l, 1) := by decide +kernel
theorem dX10_sign_30 : decode cX10_sign 30 = .ok (.iload_n 2, 1) := by decide +kernel
theorem dX10_sign_31 : decode cX10_sign 31 = .ok (.i2l, 1) := by decide +kernel
theorem dX10_sign_32 : decode cX10_sign 32 = .ok (.invokestatic 84, 3) := by decide +kernel
theorem dX10_sign_35 : decode cX10_sign 35 = .ok (.ifCond .ne 6, 3) := by decide +kernel
theorem dX10_sign_38 : decode cX10_sign 38 = .ok (.bipush (-9), 2) := by decide +kernel
theorem dX10_sign_40 : decode cX10_sign 40 = .ok (.ireturn, 1) := by decide +kernel
theorem dX10_sign_41 : decode cX10_sign 41 = .ok (.aload_n 0, 1) := by decide +kernel
theorem dX10_sign_42 : decode cX10_sign 42 = .ok (.dup, 1) := by decide +kernel
theorem dX10_sign_43 : decode cX10_sign 43 = .ok (.getfield 176, 3) := by decide +kernel
theorem dX10_sign_46 : decode cX10_sign 46 = .ok (.iconst 1, 1) := by decide +kernel
theorem dX10_sign_47 : decode cX10_sign 47 = .ok (.iadd, 1) := by decide +kernel
theorem dX10_sign_48 : decode cX10_sign 48 = .ok (.putfield 176, 3) := by decide +kernel
theorem dX10_sign_51 : decode cX10_sign 51 = .ok (.iload_n 3, 1) := by decide +kernel
theorem dX10_sign_52 : decode cX10_sign 52 = .ok (.iload_n 1, 1) := by decide +kernel
theorem dX10_sign_53 : decode cX10_sign 53 = .ok (.isub, 1) := by decide +kernel
theorem dX10_sign_54 : decode cX10_sign 54 = .ok (.ireturn, 1) := by decide +kernel
theorem dX10_readStep_0 : decode cX10_readStep 0 = .ok (.aload_n 0, 1) := by decide +kernel
theorem dX10_readStep_1 : decode cX10_readStep 1 = .ok (.getfield 13, 3) := by decide +kernel
theorem dX10_readStep_4 : decode cX10_readStep 4 = .ok (.iconst 0, 1) := by decide +kernel
theorem dX10_readStep_5 : decode cX10_readStep 5 = .ok (.iaload, 1) := by decide +kernel
theorem dX10_readStep_6 : decode cX10_readStep 6 = .ok (.istore_n 1, 1) := by decide +kernel
theorem dX10_readStep_7 : decode cX10_readStep 7 = .ok (.aload_n 0, 1) := by decide +kernel
theorem dX10_readStep_8 : decode cX10_readStep 8 = .ok (.getfield 13, 3) := by decide +kernel
theorem dX10_readStep_11 : decode cX10_readStep 11 = .ok (.iconst 1, 1) := by decide +kernel
theorem dX10_readStep_12 : decode cX10_readStep 12 = .ok (.iaload, 1) := by decide +kernel
theorem dX10_readStep_13 : decode cX10_readStep 13 = .ok (.bipush 24, 2) := by decide +kernel
theorem dX10_readStep_15 : decode cX10_readStep 15 = .ok (.if_icmp .ge 18, 3) := by decide +kernel
theorem dX10_readStep_18 : decode cX10_readStep 18 = .ok (.aload_n 0, 1) := by decide +kernel
theorem dX10_readStep_19 : decode cX10_readStep 19 = .ok (.bipush 48, 2) := by decide +kernel
theorem dX10_readStep_21 : decode cX10_readStep 21 = .ok (.bipush 48, 2) := by decide +kernel
theorem dX10_readStep_23 : decode cX10_readStep 23 = .ok (.iload_n 1, 1) := by decide +kernel
theorem dX10_readStep_24 : decode cX10_readStep 24 = .ok (.iadd, 1) := by decide +kernel
theorem dX10_readStep_25 : decode cX10_readStep 25 = .ok (.iconst 1, 1) := by decide +kernel
theorem dX10_readStep_26 : decode cX10_readStep 26 = .ok (.isub, 1) := by decide +kernel
theorem dX10_readStep_27 : decode cX10_readStep 27 = .ok (.invokevirtual 179, 3) := by decide +kernel
theorem dX10_readStep_30 : decode cX10_readStep 30 = .ok (.goto 5, 3) := by decide +kernel
theorem dX10_readStep_33 : decode cX10_readStep 33 = .ok (.bipush (-9), 2) := by decide +kernel
theorem dX10_readStep_35 : decode cX10_readStep 35 = .ok (.istore_n 2, 1) := by decide +kernel
theorem dX10_readStep_36 : decode cX10_readStep 36 = .ok (.iload_n 2, 1) := by decide +kernel
theorem dX10_readStep_37 : decode cX10_readStep 37 = .ok (.bipush (-9), 2) := by decide +kernel
theorem dX10_readStep_39 : decode cX10_readStep 39 = .ok (.if_icmp .ne 8, 3) := by decide +kernel
theorem dX10_readStep_42 : decode cX10_readStep 42 = .ok (.bipush (-9), 2) := by decide +kernel
theorem dX10_readStep_44 : decode cX10_readStep 44 = .ok (.goto 11, 3) := by decide +kernel
theorem dX10_readStep_47 : decode cX10_readStep 47 = .ok (.aload_n 0, 1) := by decide +kernel
theorem dX10_readStep_48 : decode cX10_readStep 48 = .ok (.bipush 97, 2) := by decide +kernel
theorem dX10_readStep_50 : decode cX10_readStep 50 = .ok (.bipush 100, 2) := by decide +kernel
theorem dX10_readStep_52 : decode cX10_readStep 52 = .ok (.invokevirtual 179, 3) := by decide +kernel
theorem dX10_readStep_55 : decode cX10_readStep 55 = .ok (.istore_n 3, 1) := by decide +kernel
theorem dX10_readStep_56 : decode cX10_readStep 56 = .ok (.iload_n 3, 1) := by decide +kernel
theorem dX10_readStep_57 : decode cX10_readStep 57 = .ok (.bipush (-9), 2) := by decide +kernel
theorem dX10_readStep_59 : decode cX10_readStep 59 = .ok (.if_icmp .ne 8, 3) := by decide +kernel
theorem dX10_readStep_62 : decode cX10_readStep 62 = .ok (.bipush (-9), 2) := by decide +kernel
theorem dX10_readStep_64 : decode cX10_readStep 64 = .ok (.goto 15, 3) := by decide +kernel
theorem dX10_readStep_67 : decode cX10_readStep 67 = .ok (.aload_n 0, 1) := by decide +kernel
theorem dX10_readStep_68 : decode cX10_readStep 68 = .ok (.bipush 48, 2) := by decide +kernel
theorem dX10_readStep_70 : decode cX10_readStep 70 = .ok (.bipush 48, 2) := by decide +kernel
theorem dX10_readStep_72 : decode cX10_readStep 72 = .ok (.iload_n 1, 1) := by decide +kernel
theorem dX10_readStep_73 : decode cX10_readStep 73 = .ok (.iadd, 1) := by decide +kernel
theorem dX10_readStep_74 : decode cX10_readStep 74 = .ok (.iconst 1, 1) := by decide +kernel
theorem dX10_readStep_75 : decode cX10_readStep 75 = .ok (.isub, 1) := by decide +kernel
theorem dX10_readStep_76 : decode cX10_readStep 76 = .ok (.invokevirtual 179, 3) := by decide +kernel
theorem dX10_readStep_79 : decode cX10_readStep 79 = .ok (.istore 4, 2) := by decide +kernel
theorem dX10_readStep_81 : decode cX10_readStep 81 = .ok (.iload 4, 2) := by decide +kernel
theorem dX10_readStep_83 : decode cX10_readStep 83 = .ok (.bipush (-9), 2) := by decide +kernel
theorem dX10_readStep_85 : decode cX10_readStep 85 = .ok (.if_icmp .eq 37, 3) := by decide +kernel
theorem dX10_readStep_88 : decode cX10_readStep 88 = .ok (.iload 4, 2) := by decide +kernel
theorem dX10_readStep_90 : decode cX10_readStep 90 = .ok (.iload_n 2, 1) := by decide +kernel
theorem dX10_readStep_91 : decode cX10_readStep 91 = .ok (.if_icmp .eq 19, 3) := by decide +kernel
theorem dX10_readStep_94 : decode cX10_readStep 94 = .ok (.aload_n 0, 1) := by decide +kernel
theorem dX10_readStep_95 : decode cX10_readStep 95 = .ok (.getfield 13, 3) := by decide +kernel
theorem dX10_readStep_98 : decode cX10_readStep 98 = .ok (.iload_n 2, 1) := by decide +kernel
theorem dX10_readStep_99 : decode cX10_readStep 99 = .ok (.iload_n 3, 1) := by decide +kernel
theorem dX10_readStep_100 : decode cX10_readStep 100 = .ok (.iload 4, 2) := by decide +kernel
theorem dX10_readStep_102 : decode cX10_readStep 102 = .ok (.invokestatic 182, 3) := by decide +kernel
theorem dX10_readStep_105 : decode cX10_readStep 105 = .ok (.bipush (-9), 2) := by decide +kernel
theorem dX10_readStep_107 : decode cX10_readStep 107 = .ok (.if_icmp .eq 15, 3) := by decide +kernel
theorem dX10_readStep_110 : decode cX10_readStep 110 = .ok (.aload_n 0, 1) := by decide +kernel
theorem dX10_readStep_111 : decode cX10_readStep 111 = .ok (.dup, 1) := by decide +kernel
theorem dX10_readStep_112 : decode cX10_readStep 112 = .ok (.getfield 176, 3) := by decide +kernel
theorem dX10_readStep_115 : decode cX10_readStep 115 = .ok (.iconst 1, 1) := by decide +kernel
theorem dX10_readStep_116 : decode cX10_readStep 116 = .ok (.isub, 1) := by decide +kernel
theorem dX10_readStep_117 : decode cX10_readStep 117 = .ok (.putfield 176, 3) := by decide +kernel
theorem dX10_readStep_120 : decode cX10_readStep 120 = .ok (.iconst 0, 1) := by decide +kernel
theorem dX10_readStep_121 : decode cX10_readStep 121 = .ok (.ireturn, 1) := by decide +kernel
theorem dX10_readStep_122 : decode cX10_readStep 122 = .ok (.iload 4, 2) := by decide +kernel
theorem dX10_readStep_124 : decode cX10_readStep 124 = .ok (.bipush (-9), 2) := by decide +kernel
theorem dX10_readStep_126 : decode cX10_readStep 126 = .ok (.if_icmp .ne 8, 3) := by decide +kernel
theorem dX10_readStep_129 : decode cX10_readStep 129 = .ok (.bipush (-9), 2) := by decide +kernel
theorem dX10_readStep_131 : decode cX10_readStep 131 = .ok (.goto 11, 3) := by decide +kernel
theorem dX10_readStep_134 : decode cX10_readStep 134 = .ok (.aload_n 0, 1) := by decide +kernel
theorem dX10_readStep_135 : decode cX10_readStep 135 = .ok (.bipush 48, 2) := by decide +kernel
theorem dX10_readStep_137 : decode cX10_readStep 137 = .ok (.bipush 57, 2) := by decide +kernel
theorem dX10_readStep_139 : decode cX10_readStep 139 = .ok (.invokevirtual 179, 3) := by decide +kernel
theorem dX10_readStep_142 : decode cX10_readStep 142 = .ok (.istore 5, 2) := by decide +kernel
theorem dX10_readStep_144 : decode cX10_readStep 144 = .ok (.iload 5, 2) := by decide +kernel
theorem dX10_readStep_146 : decode cX10_readStep 146 = .ok (.ifCond .ne 13, 3) := by decide +kernel
theorem dX10_readStep_149 : decode cX10_readStep 149 = .ok (.aload_n 0, 1) := by decide +kernel
theorem dX10_readStep_150 : decode cX10_readStep 150 = .ok (.dup, 1) := by decide +kernel
theorem dX10_readStep_151 : decode cX10_readStep 151 = .ok (.getfield 176, 3) := by decide +kernel
theorem dX10_readStep_154 : decode cX10_readStep 154 = .ok (.iconst 1, 1) := by decide +kernel
theorem dX10_readStep_155 : decode cX10_readStep 155 = .ok (.isub, 1) := by decide +kernel
theorem dX10_readStep_156 : decode cX10_readStep 156 = .ok (.putfield 176, 3) := by decide +kernel
theorem dX10_readStep_159 : decode cX10_readStep 159 = .ok (.iload 5, 2) := by decide +kernel
theorem dX10_readStep_161 : decode cX10_readStep 161 = .ok (.ifCond .le 23, 3) := by decide +kernel
theorem dX10_readStep_164 : decode cX10_readStep 164 = .ok (.aload_n 0, 1) := by decide +kernel
theorem dX10_readStep_165 : decode cX10_readStep 165 = .ok (.getfield 13, 3) := by decide +kernel
theorem dX10_readStep_168 : decode cX10_readStep 168 = .ok (.iload_n 2, 1) := by decide +kernel
theorem dX10_readStep_169 : decode cX10_readStep 169 = .ok (.iload_n 3, 1) := by decide +kernel
theorem dX10_readStep_170 : decode cX10_readStep 170 = .ok (.iload 4, 2) := by decide +kernel
theorem dX10_readStep_172 : decode cX10_readStep 172 = .ok (.iload 5, 2) := by decide +kernel
theorem dX10_readStep_174 : decode cX10_readStep 174 = .ok (.invokestatic 186, 3) := by decide +kernel
theorem dX10_readStep_177 : decode cX10_readStep 177 = .ok (.ifCond .lt 7, 3) := by decide +kernel
theorem dX10_readStep_180 : decode cX10_readStep 180 = .ok (.iconst 1, 1) := by decide +kernel
theorem dX10_readStep_181 : decode cX10_readStep 181 = .ok (.goto 4, 3) := by decide +kernel
theorem dX10_readStep_184 : decode cX10_readStep 184 = .ok (.iconst 0, 1) := by decide +kernel
theorem dX10_readStep_185 : decode cX10_readStep 185 = .ok (.ireturn, 1) := by decide +kernel
theorem dX10_readGraph_0 : decode cX10_readGraph 0 = .ok (.aload_n 0, 1) := by decide +kernel
theorem dX10_readGraph_1 : decode cX10_readGraph 1 = .ok (.iconst 0, 1) := by decide +kernel
theorem dX10_readGraph_2 : decode cX10_readGraph 2 = .ok (.putfield 176, 3) := by decide +kernel
theorem dX10_readGraph_5 : decode cX10_readGraph 5 = .ok (.iconst 0, 1) := by decide +kernel
theorem dX10_readGraph_6 : decode cX10_readGraph 6 = .ok (.istore_n 1, 1) := by decide +kernel
theorem dX10_readGraph_7 : decode cX10_readGraph 7 = .ok (.iload_n 1, 1) := by decide +kernel
theorem dX10_readGraph_8 : decode cX10_readGraph 8 = .ok (.sipush 143, 3) := by decide +kernel
theorem dX10_readGraph_11 : decode cX10_readGraph 11 = .ok (.if_icmp .ge 16, 3) := by decide +kernel
theorem dX10_readGraph_14 : decode cX10_readGraph 14 = .ok (.aload_n 0, 1) := by decide +kernel
theorem dX10_readGraph_15 : decode cX10_readGraph 15 = .ok (.getfield 13, 3) := by decide +kernel
theorem dX10_readGraph_18 : decode cX10_readGraph 18 = .ok (.iload_n 1, 1) := by decide +kernel
theorem dX10_readGraph_19 : decode cX10_readGraph 19 = .ok (.iconst 0, 1) := by decide +kernel
theorem dX10_readGraph_20 : decode cX10_readGraph 20 = .ok (.iastore, 1) := by decide +kernel
theorem dX10_readGraph_21 : decode cX10_readGraph 21 = .ok (.iinc 1 1, 3) := by decide +kernel
theorem dX10_readGraph_24 : decode cX10_readGraph 24 = .ok (.goto (-17), 3) := by decide +kernel
theorem dX10_readGraph_27 : decode cX10_readGraph 27 = .ok (.aload_n 0, 1) := by decide +kernel
theorem dX10_readGraph_28 : decode cX10_readGraph 28 = .ok (.bipush 75, 2) := by decide +kernel
theorem dX10_readGraph_30 : decode cX10_readGraph 30 = .ok (.bipush 75, 2) := by decide +kernel
theorem dX10_readGraph_32 : decode cX10_readGraph 32 = .ok (.invokevirtual 179, 3) := by decide +kernel
theorem dX10_readGraph_35 : decode cX10_readGraph 35 = .ok (.bipush (-9), 2) := by decide +kernel
theorem dX10_readGraph_37 : decode cX10_readGraph 37 = .ok (.if_icmp .ne 5, 3) := by decide +kernel
theorem dX10_readGraph_40 : decode cX10_readGraph 40 = .ok (.iconst 0, 1) := by decide +kernel
theorem dX10_readGraph_41 : decode cX10_readGraph 41 = .ok (.ireturn, 1) := by decide +kernel
theorem dX10_readGraph_42 : decode cX10_readGraph 42 = .ok (.aload_n 0, 1) := by decide +kernel
theorem dX10_readGraph_43 : decode cX10_readGraph 43 = .ok (.bipush 49, 2) := by decide +kernel
theorem dX10_readGraph_45 : decode cX10_readGraph 45 = .ok (.bipush 56, 2) := by decide +kernel
theorem dX10_readGraph_47 : decode cX10_readGraph 47 = .ok (.invokevirtual 179, 3) := by decide +kernel
theorem dX10_readGraph_50 : decode cX10_readGraph 50 = .ok (.istore_n 1, 1) := by decide +kernel
theorem dX10_readGraph_51 : decode cX10_readGraph 51 = .ok (.iload_n 1, 1) := by decide +kernel
theorem dX10_readGraph_52 : decode cX10_readGraph 52 = .ok (.bipush (-9), 2) := by decide +kernel
theorem dX10_readGraph_54 : decode cX10_readGraph 54 = .ok (.if_icmp .ne 5, 3) := by decide +kernel
theorem dX10_readGraph_57 : decode cX10_readGraph 57 = .ok (.iconst 0, 1) := by decide +kernel
theorem dX10_readGraph_58 : decode cX10_readGraph 58 = .ok (.ireturn, 1) := by decide +kernel
theorem dX10_readGraph_59 : decode cX10_readGraph 59 = .ok (.aload_n 0, 1) := by decide +kernel
theorem dX10_readGraph_60 : decode cX10_readGraph 60 = .ok (.getfield 13, 3) := by decide +kernel
theorem dX10_readGraph_63 : decode cX10_readGraph 63 = .ok (.iconst 0, 1) := by decide +kernel
theorem dX10_readGraph_64 : decode cX10_readGraph 64 = .ok (.iload_n 1, 1) := by decide +kernel
theorem dX10_readGraph_65 : decode cX10_readGraph 65 = .ok (.iconst 1, 1) := by decide +kernel
theorem dX10_readGraph_66 : decode cX10_readGraph 66 = .ok (.iadd, 1) := by decide +kernel
theorem dX10_readGraph_67 : decode cX10_readGraph 67 = .ok (.iastore, 1) := by decide +kernel
theorem dX10_readGraph_68 : decode cX10_readGraph 68 = .ok (.iconst 1, 1) := by decide +kernel
theorem dX10_readGraph_69 : decode cX10_readGraph 69 = .ok (.istore_n 2, 1) := by decide +kernel
theorem dX10_readGraph_70 : decode cX10_readGraph 70 = .ok (.iload_n 2, 1) := by decide +kernel
theorem dX10_readGraph_71 : decode cX10_readGraph 71 = .ok (.ifCond .eq 22, 3) := by decide +kernel
theorem dX10_readGraph_74 : decode cX10_readGraph 74 = .ok (.aload_n 0, 1) := by decide +kernel
theorem dX10_readGraph_75 : decode cX10_readGraph 75 = .ok (.getfield 176, 3) := by decide +kernel
theorem dX10_readGraph_78 : decode cX10_readGraph 78 = .ok (.aload_n 0, 1) := by decide +kernel
theorem dX10_readGraph_79 : decode cX10_readGraph 79 = .ok (.getfield 170, 3) := by decide +kernel
theorem dX10_readGraph_82 : decode cX10_readGraph 82 = .ok (.if_icmp .ge 11, 3) := by decide +kernel
theorem dX10_readGraph_85 : decode cX10_readGraph 85 = .ok (.aload_n 0, 1) := by decide +kernel
theorem dX10_readGraph_86 : decode cX10_readGraph 86 = .ok (.invokevirtual 190, 3) := by decide +kernel
theorem dX10_readGraph_89 : decode cX10_readGraph 89 = .ok (.istore_n 2, 1) := by decide +kernel
theorem dX10_readGraph_90 : decode cX10_readGraph 90 = .ok (.goto (-20), 3) := by decide +kernel
theorem dX10_readGraph_93 : decode cX10_readGraph 93 = .ok (.iload_n 2, 1) := by decide +kernel
theorem dX10_readGraph_94 : decode cX10_readGraph 94 = .ok (.ireturn, 1) := by decide +kernel
theorem dX10_errorPosition_0 : decode cX10_errorPosition 0 = .ok (.iload_n 1, 1) := by decide +kernel
theorem dX10_errorPosition_1 : decode cX10_errorPosition 1 = .ok (.ifCond .eq 17, 3) := by decide +kernel
theorem dX10_errorPosition_4 : decode cX10_errorPosition 4 = .ok (.aload_n 0, 1) := by decide +kernel
theorem dX10_errorPosition_5 : decode cX10_errorPosition 5 = .ok (.aload_n 0, 1) := by decide +kernel
theorem dX10_errorPosition_6 : decode cX10_errorPosition 6 = .ok (.getfield 7, 3) := by decide +kernel
theorem dX10_errorPosition_9 : decode cX10_errorPosition 9 = .ok (.iconst 0, 1) := by decide +kernel
theorem dX10_errorPosition_10 : decode cX10_errorPosition 10 = .ok (.aload_n 0, 1) := by decide +kernel
theorem dX10_errorPosition_11 : decode cX10_errorPosition 11 = .ok (.getfield 170, 3) := by decide +kernel
theorem dX10_errorPosition_14 : decode cX10_errorPosition 14 = .ok (.invokevirtual 134, 3) := by decide +kernel
theorem dX10_errorPosition_17 : decode cX10_errorPosition 17 = .ok (.ireturn, 1) := by decide +kernel
theorem dX10_errorPosition_18 : decode cX10_errorPosition 18 = .ok (.aload_n 0, 1) := by decide +kernel
theorem dX10_errorPosition_19 : decode cX10_errorPosition 19 = .ok (.invokevirtual 194, 3) := by decide +kernel
theorem dX10_errorPosition_22 : decode cX10_errorPosition 22 = .ok (.ifCond .eq 8, 3) := by decide +kernel
theorem dX10_errorPosition_25 : decode cX10_errorPosition 25 = .ok (.bipush (-9), 2) := by decide +kernel
theorem dX10_errorPosition_27 : decode cX10_errorPosition 27 = .ok (.goto 7, 3) := by decide +kernel
theorem dX10_errorPosition_30 : decode cX10_errorPosition 30 = .ok (.aload_n 0, 1) := by decide +kernel
theorem dX10_errorPosition_31 : decode cX10_errorPosition 31 = .ok (.getfield 176, 3) := by decide +kernel
theorem dX10_errorPosition_34 : decode cX10_errorPosition 34 = .ok (.ireturn, 1) := by decide +kernel
theorem dX10_load_0 : decode cX10_load 0 = .ok (.aload_n 0, 1) := by decide +kernel
theorem dX10_load_1 : decode cX10_load 1 = .ok (.aload_n 0, 1) := by decide +kernel
theorem dX10_load_2 : decode cX10_load 2 = .ok (.invokevirtual 194, 3) := by decide +kernel
theorem dX10_load_5 : decode cX10_load 5 = .ok (.ifCond .eq 7, 3) := by decide +kernel
theorem dX10_load_8 : decode cX10_load 8 = .ok (.iconst 0, 1) := by decide +kernel
theorem dX10_load_9 : decode cX10_load 9 = .ok (.goto 4, 3) := by decide +kernel
theorem dX10_load_12 : decode cX10_load 12 = .ok (.iconst 1, 1) := by decide +kernel
theorem dX10_load_13 : decode cX10_load 13 = .ok (.invokevirtual 173, 3) := by decide +kernel
theorem dX10_load_16 : decode cX10_load 16 = .ok (.ifCond .eq 5, 3) := by decide +kernel
theorem dX10_load_19 : decode cX10_load 19 = .ok (.iconst 0, 1) := by decide +kernel
theorem dX10_load_20 : decode cX10_load 20 = .ok (.ireturn, 1) := by decide +kernel
theorem dX10_load_21 : decode cX10_load 21 = .ok (.aload_n 0, 1) := by decide +kernel
theorem dX10_load_22 : decode cX10_load 22 = .ok (.getfield 13, 3) := by decide +kernel
theorem dX10_load_25 : decode cX10_load 25 = .ok (.iconst 0, 1) := by decide +kernel
theorem dX10_load_26 : decode cX10_load 26 = .ok (.aload_n 0, 1) := by decide +kernel
theorem dX10_load_27 : decode cX10_load 27 = .ok (.getfield 16, 3) := by decide +kernel
theorem dX10_load_30 : decode cX10_load 30 = .ok (.iconst 0, 1) := by decide +kernel
theorem dX10_load_31 : decode cX10_load 31 = .ok (.invokestatic 197, 3) := by decide +kernel
theorem dX10_load_34 : decode cX10_load 34 = .ok (.aload_n 0, 1) := by decide +kernel
theorem dX10_load_35 : decode cX10_load 35 = .ok (.iconst 0, 1) := by decide +kernel
theorem dX10_load_36 : decode cX10_load 36 = .ok (.putfield 77, 3) := by decide +kernel
theorem dX10_load_39 : decode cX10_load 39 = .ok (.aload_n 0, 1) := by decide +kernel
theorem dX10_load_40 : decode cX10_load 40 = .ok (.getfield 28, 3) := by decide +kernel
theorem dX10_load_43 : decode cX10_load 43 = .ok (.iconst 0, 1) := by decide +kernel
theorem dX10_load_44 : decode cX10_load 44 = .ok (.iconst 0, 1) := by decide +kernel
theorem dX10_load_45 : decode cX10_load 45 = .ok (.bastore, 1) := by decide +kernel
theorem dX10_load_46 : decode cX10_load 46 = .ok (.aload_n 0, 1) := by decide +kernel
theorem dX10_load_47 : decode cX10_load 47 = .ok (.getfield 28, 3) := by decide +kernel
theorem dX10_load_50 : decode cX10_load 50 = .ok (.iconst 1, 1) := by decide +kernel
theorem dX10_load_51 : decode cX10_load 51 = .ok (.iconst 0, 1) := by decide +kernel
theorem dX10_load_52 : decode cX10_load 52 = .ok (.bastore, 1) := by decide +kernel
theorem dX10_load_53 : decode cX10_load 53 = .ok (.aload_n 0, 1) := by decide +kernel
theorem dX10_load_54 : decode cX10_load 54 = .ok (.getfield 16, 3) := by decide +kernel
theorem dX10_load_57 : decode cX10_load 57 = .ok (.iconst 1, 1) := by decide +kernel
theorem dX10_load_58 : decode cX10_load 58 = .ok (.iaload, 1) := by decide +kernel
theorem dX10_load_59 : decode cX10_load 59 = .ok (.ireturn, 1) := by decide +kernel
theorem dX10_layPairs_0 : decode cX10_layPairs 0 = .ok (.aload_n 0, 1) := by decide +kernel
theorem dX10_layPairs_1 : decode cX10_layPairs 1 = .ok (.iconst 0, 1) := by decide +kernel
theorem dX10_layPairs_2 : decode cX10_layPairs 2 = .ok (.putfield 201, 3) := by decide +kernel
theorem dX10_layPairs_5 : decode cX10_layPairs 5 = .ok (.aload_n 0, 1) := by decide +kernel
theorem dX10_layPairs_6 : decode cX10_layPairs 6 = .ok (.bipush (-9), 2) := by decide +kernel
theorem dX10_layPairs_8 : decode cX10_layPairs 8 = .ok (.putfield 204, 3) := by decide +kernel
theorem dX10_layPairs_11 : decode cX10_layPairs 11 = .ok (.iconst 0, 1) := by decide +kernel
theorem dX10_layPairs_12 : decode cX10_layPairs 12 = .ok (.istore_n 2, 1) := by decide +kernel
theorem dX10_layPairs_13 : decode cX10_layPairs 13 = .ok (.iload_n 2, 1) := by decide +kernel
theorem dX10_layPairs_14 : decode cX10_layPairs 14 = .ok (.aload_n 1, 1) := by decide +kernel
theorem dX10_layPairs_15 : decode cX10_layPairs 15 = .ok (.iconst 0, 1) := by decide +kernel
theorem dX10_layPairs_16 : decode cX10_layPairs 16 = .ok (.iaload, 1) := by decide +kernel
theorem dX10_layPairs_17 : decode cX10_layPairs 17 = .ok (.if_icmp .ge 88, 3) := by decide +kernel
theorem dX10_layPairs_20 : decode cX10_layPairs 20 = .ok (.aload_n 0, 1) := by decide +kernel
theorem dX10_layPairs_21 : decode cX10_layPairs 21 = .ok (.aload_n 1, 1) := by decide +kernel
theorem dX10_layPairs_22 : decode cX10_layPairs 22 = .ok (.iload_n 2, 1) := by decide +kernel
theorem dX10_layPairs_23 : decode cX10_layPairs 23 = .ok (.invokevirtual 154, 3) := by decide +kernel
theorem dX10_layPairs_26 : decode cX10_layPairs 26 = .ok (.iconst 0, 1) := by decide +kernel
theorem dX10_layPairs_27 : decode cX10_layPairs 27 = .ok (.istore_n 3, 1) := by decide +kernel
theorem dX10_layPairs_28 : decode cX10_layPairs 28 = .ok (.iload_n 3, 1) := by decide +kernel
theorem dX10_layPairs_29 : decode cX10_layPairs 29 = .ok (.aload_n 1, 1) := by decide +kernel
theorem dX10_layPairs_30 : decode cX10_layPairs 30 = .ok (.iconst 0, 1) := by decide +kernel
theorem dX10_layPairs_31 : decode cX10_layPairs 31 = .ok (.iaload, 1) := by decide +kernel
theorem dX10_layPairs_32 : decode cX10_layPairs 32 = .ok (.if_icmp .ge 67, 3) := by decide +kernel
theorem dX10_layPairs_35 : decode cX10_layPairs 35 = .ok (.aload_n 0, 1) := by decide +kernel
theorem dX10_layPairs_36 : decode cX10_layPairs 36 = .ok (.getfield 59, 3) := by decide +kernel
theorem dX10_layPairs_39 : decode cX10_layPairs 39 = .ok (.bipush 21, 2) := by decide +kernel
theorem dX10_layPairs_41 : decode cX10_layPairs 41 = .ok (.iload_n 3, 1) := by decide +kernel
theorem dX10_layPairs_42 : decode cX10_layPairs 42 = .ok (.imul, 1) := by decide +kernel
theorem dX10_layPairs_43 : decode cX10_layPairs 43 = .ok (.iaload, 1) := by decide +kernel
theorem dX10_layPairs_44 : decode cX10_layPairs 44 = .ok (.istore 4, 2) := by decide +kernel
theorem dX10_layPairs_46 : decode cX10_layPairs 46 = .ok (.iload 4, 2) := by decide +kernel
theorem dX10_layPairs_48 : decode cX10_layPairs 48 = .ok (.ldc 145, 2) := by decide +kernel
theorem dX10_layPairs_50 : decode cX10_layPairs 50 = .ok (.if_icmp .ge 43, 3) := by decide +kernel
theorem dX10_layPairs_53 : decode cX10_layPairs 53 = .ok (.aload_n 0, 1) := by decide +kernel
theorem dX10_layPairs_54 : decode cX10_layPairs 54 = .ok (.dup, 1) := by decide +kernel
theorem dX10_layPairs_55 : decode cX10_layPairs 55 = .ok (.getfield 201, 3) := by decide +kernel
theorem dX10_layPairs_58 : decode cX10_layPairs 58 = .ok (.iconst 1, 1) := by decide +kernel
theorem dX10_layPairs_59 : decode cX10_layPairs 59 = .ok (.iadd, 1) := by decide +kernel
theorem dX10_layPairs_60 : decode cX10_layPairs 60 = .ok (.putfield 201, 3) := by decide +kernel
theorem dX10_layPairs_63 : decode cX10_layPairs 63 = .ok (.aload_n 0, 1) := by decide +kernel
theorem dX10_layPairs_64 : decode cX10_layPairs 64 = .ok (.iload 4, 2) := by decide +kernel
theorem dX10_layPairs_66 : decode cX10_layPairs 66 = .ok (.sipush 1000, 3) := by decide +kernel
theorem dX10_layPairs_69 : decode cX10_layPairs 69 = .ok (.idiv, 1) := by decide +kernel
theorem dX10_layPairs_70 : decode cX10_layPairs 70 = .ok (.aload_n 0, 1) := by decide +kernel
theorem dX10_layPairs_71 : decode cX10_layPairs 71 = .ok (.getfield 204, 3) := by decide +kernel
theorem dX10_layPairs_74 : decode cX10_layPairs 74 = .ok (.if_icmp .le 12, 3) := by decide +kernel
theorem dX10_layPairs_77 : decode cX10_layPairs 77 = .ok (.iload 4, 2) := by decide +kernel
theorem dX10_layPairs_79 : decode cX10_layPairs 79 = .ok (.sipush 1000, 3) := by decide +kernel
theorem dX10_layPairs_82 : decode cX10_layPairs 82 = .ok (.idiv, 1) := by decide +kernel
theorem dX10_layPairs_83 : decode cX10_layPairs 83 = .ok (.goto 7, 3) := by decide +kernel
theorem dX10_layPairs_86 : decode cX10_layPairs 86 = .ok (.aload_n 0, 1) := by decide +kernel
theorem dX10_layPairs_87 : decode cX10_layPairs 87 = .ok (.getfield 204, 3) := by decide +kernel
theorem dX10_layPairs_90 : decode cX10_layPairs 90 = .ok (.putfield 204, 3) := by decide +kernel
theorem dX10_layPairs_93 : decode cX10_layPairs 93 = .ok (.iinc 3 1, 3) := by decide +kernel
theorem dX10_layPairs_96 : decode cX10_layPairs 96 = .ok (.goto (-68), 3) := by decide +kernel
theorem dX10_layPairs_99 : decode cX10_layPairs 99 = .ok (.iinc 2 1, 3) := by decide +kernel
theorem dX10_layPairs_102 : decode cX10_layPairs 102 = .ok (.goto (-89), 3) := by decide +kernel
theorem dX10_layPairs_105 : decode cX10_layPairs 105 = .ok (.return_, 1) := by decide +kernel
theorem dX10_about_0 : decode cX10_about 0 = .ok (.aload_n 0, 1) := by decide +kernel
theorem dX10_about_1 : decode cX10_about 1 = .ok (.iload_n 1, 1) := by decide +kernel
theorem dX10_about_2 : decode cX10_about 2 = .ok (.i2l, 1) := by decide +kernel
theorem dX10_about_3 : decode cX10_about 3 = .ok (.lconst 0, 1) := by decide +kernel
theorem dX10_about_4 : decode cX10_about 4 = .ok (.ldc2_w 207, 3) := by decide +kernel
theorem dX10_about_7 : decode cX10_about 7 = .ok (.invokestatic 84, 3) := by decide +kernel
theorem dX10_about_10 : decode cX10_about 10 = .ok (.ifCond .eq 7, 3) := by decide +kernel
theorem dX10_about_13 : decode cX10_about 13 = .ok (.iconst 0, 1) := by decide +kernel
theorem dX10_about_14 : decode cX10_about 14 = .ok (.goto 4, 3) := by decide +kernel
theorem dX10_about_17 : decode cX10_about 17 = .ok (.iconst 1, 1) := by decide +kernel
theorem dX10_about_18 : decode cX10_about 18 = .ok (.invokevirtual 173, 3) := by decide +kernel
theorem dX10_about_21 : decode cX10_about 21 = .ok (.ifCond .eq 5, 3) := by decide +kernel
theorem dX10_about_24 : decode cX10_about 24 = .ok (.iconst 0, 1) := by decide +kernel
theorem dX10_about_25 : decode cX10_about 25 = .ok (.ireturn, 1) := by decide +kernel
theorem dX10_about_26 : decode cX10_about 26 = .ok (.aload_n 0, 1) := by decide +kernel
theorem dX10_about_27 : decode cX10_about 27 = .ok (.aload_n 0, 1) := by decide +kernel
theorem dX10_about_28 : decode cX10_about 28 = .ok (.getfield 16, 3) := by decide +kernel
theorem dX10_about_31 : decode cX10_about 31 = .ok (.invokevirtual 158, 3) := by decide +kernel
theorem dX10_about_34 : decode cX10_about 34 = .ok (.aload_n 0, 1) := by decide +kernel
theorem dX10_about_35 : decode cX10_about 35 = .ok (.aload_n 0, 1) := by decide +kernel
theorem dX10_about_36 : decode cX10_about 36 = .ok (.getfield 16, 3) := by decide +kernel
theorem dX10_about_39 : decode cX10_about 39 = .ok (.bipush (-9), 2) := by decide +kernel
theorem dX10_about_41 : decode cX10_about 41 = .ok (.invokevirtual 162, 3) := by decide +kernel
theorem dX10_about_44 : decode cX10_about 44 = .ok (.iload_n 1, 1) := by decide +kernel
theorem dX10_about_45 : decode cX10_about 45 = .ok (.tableswitch 113 0 6 #[43, 50, 57, 64, 69, 113, 82], 43) := by decide +kernel
theorem dX10_about_88 : decode cX10_about 88 = .ok (.aload_n 0, 1) := by decide +kernel
theorem dX10_about_89 : decode cX10_about 89 = .ok (.getfield 16, 3) := by decide +kernel
theorem dX10_about_92 : decode cX10_about 92 = .ok (.iconst 0, 1) := by decide +kernel
theorem dX10_about_93 : decode cX10_about 93 = .ok (.iaload, 1) := by decide +kernel
theorem dX10_about_94 : decode cX10_about 94 = .ok (.ireturn, 1) := by decide +kernel
theorem dX10_about_95 : decode cX10_about 95 = .ok (.aload_n 0, 1) := by decide +kernel
theorem dX10_about_96 : decode cX10_about 96 = .ok (.getfield 16, 3) := by decide +kernel
theorem dX10_about_99 : decode cX10_about 99 = .ok (.iconst 1, 1) := by decide +kernel
theorem dX10_about_100 : decode cX10_about 100 = .ok (.iaload, 1) := by decide +kernel
theorem dX10_about_101 : decode cX10_about 101 = .ok (.ireturn, 1) := by decide +kernel
theorem dX10_about_102 : decode cX10_about 102 = .ok (.aload_n 0, 1) := by decide +kernel
theorem dX10_about_103 : decode cX10_about 103 = .ok (.getfield 16, 3) := by decide +kernel
theorem dX10_about_106 : decode cX10_about 106 = .ok (.iconst 2, 1) := by decide +kernel
theorem dX10_about_107 : decode cX10_about 107 = .ok (.iaload, 1) := by decide +kernel
theorem dX10_about_108 : decode cX10_about 108 = .ok (.ireturn, 1) := by decide +kernel
theorem dX10_about_109 : decode cX10_about 109 = .ok (.aload_n 0, 1) := by decide +kernel
theorem dX10_about_110 : decode cX10_about 110 = .ok (.getfield 96, 3) := by decide +kernel
theorem dX10_about_113 : decode cX10_about 113 = .ok (.ireturn, 1) := by decide +kernel
theorem dX10_about_114 : decode cX10_about 114 = .ok (.aload_n 0, 1) := by decide +kernel
theorem dX10_about_115 : decode cX10_about 115 = .ok (.getfield 124, 3) := by decide +kernel
theorem dX10_about_118 : decode cX10_about 118 = .ok (.ifCond .eq 7, 3) := by decide +kernel
theorem dX10_about_121 : decode cX10_about 121 = .ok (.iconst 1, 1) := by decide +kernel
theorem dX10_about_122 : decode cX10_about 122 = .ok (.goto 4, 3) := by decide +kernel
theorem dX10_about_125 : decode cX10_about 125 = .ok (.iconst 0, 1) := by decide +kernel
theorem dX10_about_126 : decode cX10_about 126 = .ok (.ireturn, 1) := by decide +kernel
theorem dX10_about_127 : decode cX10_about 127 = .ok (.iconst 0, 1) := by decide +kernel
theorem dX10_about_128 : decode cX10_about 128 = .ok (.istore_n 2, 1) := by decide +kernel
theorem dX10_about_129 : decode cX10_about 129 = .ok (.iconst 0, 1) := by decide +kernel
theorem dX10_about_130 : decode cX10_about 130 = .ok (.istore_n 3, 1) := by decide +kernel
theorem dX10_about_131 : decode cX10_about 131 = .ok (.iload_n 3, 1) := by decide +kernel
theorem dX10_about_132 : decode cX10_about 132 = .ok (.aload_n 0, 1) := by decide +kernel
theorem dX10_about_133 : decode cX10_about 133 = .ok (.getfield 16, 3) := by decide +kernel
theorem dX10_about_136 : decode cX10_about 136 = .ok (.iconst 1, 1) := by decide +kernel
theorem dX10_about_137 : decode cX10_about 137 = .ok (.iaload, 1) := by decide +kernel
theorem dX10_about_138 : decode cX10_about 138 = .ok (.if_icmp .ge 18, 3) := by decide +kernel
theorem dX10_about_141 : decode cX10_about 141 = .ok (.iload_n 2, 1) := by decide +kernel
theorem dX10_about_142 : decode cX10_about 142 = .ok (.aload_n 0, 1) := by decide +kernel
theorem dX10_about_143 : decode cX10_about 143 = .ok (.getfield 56, 3) := by decide +kernel
theorem dX10_about_146 : decode cX10_about 146 = .ok (.iload_n 3, 1) := by decide +kernel
theorem dX10_about_147 : decode cX10_about 147 = .ok (.iaload, 1) := by decide +kernel
theorem dX10_about_148 : decode cX10_about 148 = .ok (.iadd, 1) := by decide +kernel
theorem dX10_about_149 : decode cX10_about 149 = .ok (.istore_n 2, 1) := by decide +kernel
theorem dX10_about_150 : decode cX10_about 150 = .ok (.iinc 3 1, 3) := by decide +kernel
theorem dX10_about_153 : decode cX10_about 153 = .ok (.goto (-22), 3) := by decide +kernel
theorem dX10_about_156 : decode cX10_about 156 = .ok (.iload_n 2, 1) := by decide +kernel
theorem dX10_about_157 : decode cX10_about 157 = .ok (.ireturn, 1) := by decide +kernel
theorem dX10_about_158 : decode cX10_about 158 = .ok (.aload_n 0, 1) := by decide +kernel
theorem dX10_about_159 : decode cX10_about 159 = .ok (.aload_n 0, 1) := by decide +kernel
theorem dX10_about_160 : decode cX10_about 160 = .ok (.getfield 16, 3) := by decide +kernel
theorem dX10_about_163 : decode cX10_about 163 = .ok (.invokevirtual 209, 3) := by decide +kernel
theorem dX10_about_166 : decode cX10_about 166 = .ok (.iload_n 1, 1) := by decide +kernel
theorem dX10_about_167 : decode cX10_about 167 = .ok (.iconst 5, 1) := by decide +kernel
theorem dX10_about_168 : decode cX10_about 168 = .ok (.if_icmp .ne 10, 3) := by decide +kernel
theorem dX10_about_171 : decode cX10_about 171 = .ok (.aload_n 0, 1) := by decide +kernel
theorem dX10_about_172 : decode cX10_about 172 = .ok (.getfield 201, 3) := by decide +kernel
theorem dX10_about_175 : decode cX10_about 175 = .ok (.goto 7, 3) := by decide +kernel
theorem dX10_about_178 : decode cX10_about 178 = .ok (.aload_n 0, 1) := by decide +kernel
theorem dX10_about_179 : decode cX10_about 179 = .ok (.getfield 204, 3) := by decide +kernel
theorem dX10_about_182 : decode cX10_about 182 = .ok (.ireturn, 1) := by decide +kernel
theorem dX10_step_0 : decode cX10_step 0 = .ok (.aload_n 0, 1) := by decide +kernel
theorem dX10_step_1 : decode cX10_step 1 = .ok (.aload_n 0, 1) := by decide +kernel
theorem dX10_step_2 : decode cX10_step 2 = .ok (.getfield 16, 3) := by decide +kernel
theorem dX10_step_5 : decode cX10_step 5 = .ok (.iload_n 1, 1) := by decide +kernel
theorem dX10_step_6 : decode cX10_step 6 = .ok (.invokestatic 212, 3) := by decide +kernel
theorem dX10_step_9 : decode cX10_step 9 = .ok (.ifCond .ne 7, 3) := by decide +kernel
theorem dX10_step_12 : decode cX10_step 12 = .ok (.iconst 1, 1) := by decide +kernel
theorem dX10_step_13 : decode cX10_step 13 = .ok (.goto 20, 3) := by decide +kernel
theorem dX10_step_16 : decode cX10_step 16 = .ok (.iload_n 2, 1) := by decide +kernel
theorem dX10_step_17 : decode cX10_step 17 = .ok (.i2l, 1) := by decide +kernel
theorem dX10_step_18 : decode cX10_step 18 = .ok (.lconst 0, 1) := by decide +kernel
theorem dX10_step_19 : decode cX10_step 19 = .ok (.ldc2_w 216, 3) := by decide +kernel
theorem dX10_step_22 : decode cX10_step 22 = .ok (.invokestatic 84, 3) := by decide +kernel
theorem dX10_step_25 : decode cX10_step 25 = .ok (.ifCond .eq 7, 3) := by decide +kernel
theorem dX10_step_28 : decode cX10_step 28 = .ok (.iconst 0, 1) := by decide +kernel
theorem dX10_step_29 : decode cX10_step 29 = .ok (.goto 4, 3) := by decide +kernel
theorem dX10_step_32 : decode cX10_step 32 = .ok (.iconst 2, 1) := by decide +kernel
theorem dX10_step_33 : decode cX10_step 33 = .ok (.invokevirtual 173, 3) := by decide +kernel
theorem dX10_step_36 : decode cX10_step 36 = .ok (.ifCond .eq 5, 3) := by decide +kernel
theorem dX10_step_39 : decode cX10_step 39 = .ok (.iconst 0, 1) := by decide +kernel
theorem dX10_step_40 : decode cX10_step 40 = .ok (.ireturn, 1) := by decide +kernel
theorem dX10_step_41 : decode cX10_step 41 = .ok (.aload_n 0, 1) := by decide +kernel
theorem dX10_step_42 : decode cX10_step 42 = .ok (.getfield 16, 3) := by decide +kernel
theorem dX10_step_45 : decode cX10_step 45 = .ok (.iload_n 1, 1) := by decide +kernel
theorem dX10_step_46 : decode cX10_step 46 = .ok (.invokestatic 88, 3) := by decide +kernel
theorem dX10_step_49 : decode cX10_step 49 = .ok (.iload_n 2, 1) := by decide +kernel
theorem dX10_step_50 : decode cX10_step 50 = .ok (.iadd, 1) := by decide +kernel
theorem dX10_step_51 : decode cX10_step 51 = .ok (.iaload, 1) := by decide +kernel
theorem dX10_step_52 : decode cX10_step 52 = .ok (.ireturn, 1) := by decide +kernel
theorem dX10_reached_0 : decode cX10_reached 0 = .ok (.aload_n 0, 1) := by decide +kernel
theorem dX10_reached_1 : decode cX10_reached 1 = .ok (.aload_n 1, 1) := by decide +kernel
theorem dX10_reached_2 : decode cX10_reached 2 = .ok (.invokevirtual 158, 3) := by decide +kernel
theorem dX10_reached_5 : decode cX10_reached 5 = .ok (.aload_n 0, 1) := by decide +kernel
theorem dX10_reached_6 : decode cX10_reached 6 = .ok (.aload_n 1, 1) := by decide +kernel
theorem dX10_reached_7 : decode cX10_reached 7 = .ok (.bipush (-9), 2) := by decide +kernel
theorem dX10_reached_9 : decode cX10_reached 9 = .ok (.invokevirtual 162, 3) := by decide +kernel
theorem dX10_reached_12 : decode cX10_reached 12 = .ok (.iconst 0, 1) := by decide +kernel
theorem dX10_reached_13 : decode cX10_reached 13 = .ok (.istore_n 3, 1) := by decide +kernel
theorem dX10_reached_14 : decode cX10_reached 14 = .ok (.iconst 0, 1) := by decide +kernel
theorem dX10_reached_15 : decode cX10_reached 15 = .ok (.istore 4, 2) := by decide +kernel
theorem dX10_reached_17 : decode cX10_reached 17 = .ok (.iload 4, 2) := by decide +kernel
theorem dX10_reached_19 : decode cX10_reached 19 = .ok (.aload_n 1, 1) := by decide +kernel
theorem dX10_reached_20 : decode cX10_reached 20 = .ok (.iconst 0, 1) := by decide +kernel
theorem dX10_reached_21 : decode cX10_reached 21 = .ok (.iaload, 1) := by decide +kernel
theorem dX10_reached_22 : decode cX10_reached 22 = .ok (.if_icmp .ge 33, 3) := by decide +kernel
theorem dX10_reached_25 : decode cX10_reached 25 = .ok (.iload_n 3, 1) := by decide +kernel
theorem dX10_reached_26 : decode cX10_reached 26 = .ok (.aload_n 0, 1) := by decide +kernel
theorem dX10_reached_27 : decode cX10_reached 27 = .ok (.aload_n 1, 1) := by decide +kernel
theorem dX10_reached_28 : decode cX10_reached 28 = .ok (.iload_n 2, 1) := by decide +kernel
theorem dX10_reached_29 : decode cX10_reached 29 = .ok (.iload 4, 2) := by decide +kernel
theorem dX10_reached_31 : decode cX10_reached 31 = .ok (.invokevirtual 165, 3) := by decide +kernel
theorem dX10_reached_34 : decode cX10_reached 34 = .ok (.ldc 145, 2) := by decide +kernel
theorem dX10_reached_36 : decode cX10_reached 36 = .ok (.if_icmp .ge 10, 3) := by decide +kernel
theorem dX10_reached_39 : decode cX10_reached 39 = .ok (.iconst 1, 1) := by decide +kernel
theorem dX10_reached_40 : decode cX10_reached 40 = .ok (.iload 4, 2) := by decide +kernel
theorem dX10_reached_42 : decode cX10_reached 42 = .ok (.ishl, 1) := by decide +kernel
theorem dX10_reached_43 : decode cX10_reached 43 = .ok (.goto 4, 3) := by decide +kernel
theorem dX10_reached_46 : decode cX10_reached 46 = .ok (.iconst 0, 1) := by decide +kernel
theorem dX10_reached_47 : decode cX10_reached 47 = .ok (.ior, 1) := by decide +kernel
theorem dX10_reached_48 : decode cX10_reached 48 = .ok (.istore_n 3, 1) := by decide +kernel
theorem dX10_reached_49 : decode cX10_reached 49 = .ok (.iinc 4 1, 3) := by decide +kernel
theorem dX10_reached_52 : decode cX10_reached 52 = .ok (.goto (-35), 3) := by decide +kernel
theorem dX10_reached_55 : decode cX10_reached 55 = .ok (.iload_n 3, 1) := by decide +kernel
theorem dX10_reached_56 : decode cX10_reached 56 = .ok (.ireturn, 1) := by decide +kernel
theorem dX10_person_0 : decode cX10_person 0 = .ok (.aload_n 0, 1) := by decide +kernel
theorem dX10_person_1 : decode cX10_person 1 = .ok (.aload_n 0, 1) := by decide +kernel
theorem dX10_person_2 : decode cX10_person 2 = .ok (.getfield 16, 3) := by decide +kernel
theorem dX10_person_5 : decode cX10_person 5 = .ok (.iload_n 1, 1) := by decide +kernel
theorem dX10_person_6 : decode cX10_person 6 = .ok (.invokestatic 218, 3) := by decide +kernel
theorem dX10_person_9 : decode cX10_person 9 = .ok (.ifCond .ne 7, 3) := by decide +kernel
theorem dX10_person_12 : decode cX10_person 12 = .ok (.iconst 1, 1) := by decide +kernel
theorem dX10_person_13 : decode cX10_person 13 = .ok (.goto 20, 3) := by decide +kernel
theorem dX10_person_16 : decode cX10_person 16 = .ok (.iload_n 2, 1) := by decide +kernel
theorem dX10_person_17 : decode cX10_person 17 = .ok (.i2l, 1) := by decide +kernel
theorem dX10_person_18 : decode cX10_person 18 = .ok (.lconst 0, 1) := by decide +kernel
theorem dX10_person_19 : decode cX10_person 19 = .ok (.ldc2_w 216, 3) := by decide +kernel
theorem dX10_person_22 : decode cX10_person 22 = .ok (.invokestatic 84, 3) := by decide +kernel
theorem dX10_person_25 : decode cX10_person 25 = .ok (.ifCond .eq 7, 3) := by decide +kernel
theorem dX10_person_28 : decode cX10_person 28 = .ok (.iconst 0, 1) := by decide +kernel
theorem dX10_person_29 : decode cX10_person 29 = .ok (.goto 4, 3) := by decide +kernel
theorem dX10_person_32 : decode cX10_person 32 = .ok (.iconst 2, 1) := by decide +kernel
theorem dX10_person_33 : decode cX10_person 33 = .ok (.invokevirtual 173, 3) := by decide +kernel
theorem dX10_person_36 : decode cX10_person 36 = .ok (.ifCond .eq 5, 3) := by decide +kernel
theorem dX10_person_39 : decode cX10_person 39 = .ok (.iconst 0, 1) := by decide +kernel
theorem dX10_person_40 : decode cX10_person 40 = .ok (.ireturn, 1) := by decide +kernel
theorem dX10_person_41 : decode cX10_person 41 = .ok (.iconst 0, 1) := by decide +kernel
theorem dX10_person_42 : decode cX10_person 42 = .ok (.istore_n 3, 1) := by decide +kernel
theorem dX10_person_43 : decode cX10_person 43 = .ok (.iload_n 2, 1) := by decide +kernel
theorem dX10_person_44 : decode cX10_person 44 = .ok (.iconst 2, 1) := by decide +kernel
theorem dX10_person_45 : decode cX10_person 45 = .ok (.if_icmp .ge 57, 3) := by decide +kernel
theorem dX10_person_48 : decode cX10_person 48 = .ok (.iconst 0, 1) := by decide +kernel
theorem dX10_person_49 : decode cX10_person 49 = .ok (.istore 4, 2) := by decide +kernel
theorem dX10_person_51 : decode cX10_person 51 = .ok (.iload 4, 2) := by decide +kernel
theorem dX10_person_53 : decode cX10_person 53 = .ok (.aload_n 0, 1) := by decide +kernel
theorem dX10_person_54 : decode cX10_person 54 = .ok (.getfield 16, 3) := by decide +kernel
theorem dX10_person_57 : decode cX10_person 57 = .ok (.iconst 1, 1) := by decide +kernel
theorem dX10_person_58 : decode cX10_person 58 = .ok (.iaload, 1) := by decide +kernel
theorem dX10_person_59 : decode cX10_person 59 = .ok (.if_icmp .ge 41, 3) := by decide +kernel
theorem dX10_person_62 : decode cX10_person 62 = .ok (.iload_n 3, 1) := by decide +kernel
theorem dX10_person_63 : decode cX10_person 63 = .ok (.aload_n 0, 1) := by decide +kernel
theorem dX10_person_64 : decode cX10_person 64 = .ok (.getfield 16, 3) := by decide +kernel
theorem dX10_person_67 : decode cX10_person 67 = .ok (.iload 4, 2) := by decide +kernel
theorem dX10_person_69 : decode cX10_person 69 = .ok (.invokestatic 88, 3) := by decide +kernel
theorem dX10_person_72 : decode cX10_person 72 = .ok (.iload_n 2, 1) := by decide +kernel
theorem dX10_person_73 : decode cX10_person 73 = .ok (.ifCond .ne 7, 3) := by decide +kernel
theorem dX10_person_76 : decode cX10_person 76 = .ok (.iconst 0, 1) := by decide +kernel
theorem dX10_person_77 : decode cX10_person 77 = .ok (.goto 4, 3) := by decide +kernel
theorem dX10_person_80 : decode cX10_person 80 = .ok (.iconst 2, 1) := by decide +kernel
theorem dX10_person_81 : decode cX10_person 81 = .ok (.iadd, 1) := by decide +kernel
theorem dX10_person_82 : decode cX10_person 82 = .ok (.iaload, 1) := by decide +kernel
theorem dX10_person_83 : decode cX10_person 83 = .ok (.iload_n 1, 1) := by decide +kernel
theorem dX10_person_84 : decode cX10_person 84 = .ok (.if_icmp .ne 7, 3) := by decide +kernel
theorem dX10_person_87 : decode cX10_person 87 = .ok (.iconst 1, 1) := by decide +kernel
theorem dX10_person_88 : decode cX10_person 88 = .ok (.goto 4, 3) := by decide +kernel
theorem dX10_person_91 : decode cX10_person 91 = .ok (.iconst 0, 1) := by decide +kernel
theorem dX10_person_92 : decode cX10_person 92 = .ok (.iadd, 1) := by decide +kernel
theorem dX10_person_93 : decode cX10_person 93 = .ok (.istore_n 3, 1) := by decide +kernel
theorem dX10_person_94 : decode cX10_person 94 = .ok (.iinc 4 1, 3) := by decide +kernel
theorem dX10_person_97 : decode cX10_person 97 = .ok (.goto (-46), 3) := by decide +kernel
theorem dX10_person_100 : decode cX10_person 100 = .ok (.iload_n 3, 1) := by decide +kernel
theorem dX10_person_101 : decode cX10_person 101 = .ok (.ireturn, 1) := by decide +kernel
theorem dX10_person_102 : decode cX10_person 102 = .ok (.iload_n 2, 1) := by decide +kernel
theorem dX10_person_103 : decode cX10_person 103 = .ok (.iconst 2, 1) := by decide +kernel
theorem dX10_person_104 : decode cX10_person 104 = .ok (.if_icmp .ne 13, 3) := by decide +kernel
theorem dX10_person_107 : decode cX10_person 107 = .ok (.aload_n 0, 1) := by decide +kernel
theorem dX10_person_108 : decode cX10_person 108 = .ok (.aload_n 0, 1) := by decide +kernel
theorem dX10_person_109 : decode cX10_person 109 = .ok (.getfield 16, 3) := by decide +kernel
theorem dX10_person_112 : decode cX10_person 112 = .ok (.iload_n 1, 1) := by decide +kernel
theorem dX10_person_113 : decode cX10_person 113 = .ok (.invokevirtual 221, 3) := by decide +kernel
theorem dX10_person_116 : decode cX10_person 116 = .ok (.ireturn, 1) := by decide +kernel
theorem dX10_person_117 : decode cX10_person 117 = .ok (.aload_n 0, 1) := by decide +kernel
theorem dX10_person_118 : decode cX10_person 118 = .ok (.aload_n 0, 1) := by decide +kernel
theorem dX10_person_119 : decode cX10_person 119 = .ok (.getfield 16, 3) := by decide +kernel
theorem dX10_person_122 : decode cX10_person 122 = .ok (.invokevirtual 158, 3) := by decide +kernel
theorem dX10_person_125 : decode cX10_person 125 = .ok (.aload_n 0, 1) := by decide +kernel
theorem dX10_person_126 : decode cX10_person 126 = .ok (.aload_n 0, 1) := by decide +kernel
theorem dX10_person_127 : decode cX10_person 127 = .ok (.getfield 16, 3) := by decide +kernel
theorem dX10_person_130 : decode cX10_person 130 = .ok (.bipush (-9), 2) := by decide +kernel
theorem dX10_person_132 : decode cX10_person 132 = .ok (.invokevirtual 162, 3) := by decide +kernel
theorem dX10_person_135 : decode cX10_person 135 = .ok (.aload_n 0, 1) := by decide +kernel
theorem dX10_person_136 : decode cX10_person 136 = .ok (.aload_n 0, 1) := by decide +kernel
theorem dX10_person_137 : decode cX10_person 137 = .ok (.getfield 16, 3) := by decide +kernel
theorem dX10_person_140 : decode cX10_person 140 = .ok (.iload_n 1, 1) := by decide +kernel
theorem dX10_person_141 : decode cX10_person 141 = .ok (.invokevirtual 154, 3) := by decide +kernel
theorem dX10_person_144 : decode cX10_person 144 = .ok (.iconst 0, 1) := by decide +kernel
theorem dX10_person_145 : decode cX10_person 145 = .ok (.istore 4, 2) := by decide +kernel
theorem dX10_person_147 : decode cX10_person 147 = .ok (.iload 4, 2) := by decide +kernel
theorem dX10_person_149 : decode cX10_person 149 = .ok (.aload_n 0, 1) := by decide +kernel
theorem dX10_person_150 : decode cX10_person 150 = .ok (.getfield 16, 3) := by decide +kernel
theorem dX10_person_153 : decode cX10_person 153 = .ok (.iconst 0, 1) := by decide +kernel
theorem dX10_person_154 : decode cX10_person 154 = .ok (.iaload, 1) := by decide +kernel
theorem dX10_person_155 : decode cX10_person 155 = .ok (.if_icmp .ge 35, 3) := by decide +kernel
theorem dX10_person_158 : decode cX10_person 158 = .ok (.iload_n 3, 1) := by decide +kernel
theorem dX10_person_159 : decode cX10_person 159 = .ok (.aload_n 0, 1) := by decide +kernel
theorem dX10_person_160 : decode cX10_person 160 = .ok (.getfield 59, 3) := by decide +kernel
theorem dX10_person_163 : decode cX10_person 163 = .ok (.bipush 21, 2) := by decide +kernel
theorem dX10_person_165 : decode cX10_person 165 = .ok (.iload 4, 2) := by decide +kernel
theorem dX10_person_167 : decode cX10_person 167 = .ok (.imul, 1) := by decide +kernel
theorem dX10_person_168 : decode cX10_person 168 = .ok (.iaload, 1) := by decide +kernel
theorem dX10_person_169 : decode cX10_person 169 = .ok (.ldc 145, 2) := by decide +kernel
theorem dX10_person_171 : decode cX10_person 171 = .ok (.if_icmp .ge 10, 3) := by decide +kernel
theorem dX10_person_174 : decode cX10_person 174 = .ok (.iconst 1, 1) := by decide +kernel
theorem dX10_person_175 : decode cX10_person 175 = .ok (.iload 4, 2) := by decide +kernel
theorem dX10_person_177 : decode cX10_person 177 = .ok (.ishl, 1) := by decide +kernel
theorem dX10_person_178 : decode cX10_person 178 = .ok (.goto 4, 3) := by decide +kernel
theorem dX10_person_181 : decode cX10_person 181 = .ok (.iconst 0, 1) := by decide +kernel
theorem dX10_person_182 : decode cX10_person 182 = .ok (.ior, 1) := by decide +kernel
theorem dX10_person_183 : decode cX10_person 183 = .ok (.istore_n 3, 1) := by decide +kernel
theorem dX10_person_184 : decode cX10_person 184 = .ok (.iinc 4 1, 3) := by decide +kernel
theorem dX10_person_187 : decode cX10_person 187 = .ok (.goto (-40), 3) := by decide +kernel
theorem dX10_person_190 : decode cX10_person 190 = .ok (.iload_n 3, 1) := by decide +kernel
theorem dX10_person_191 : decode cX10_person 191 = .ok (.ireturn, 1) := by decide +kernel
theorem dX10_find_0 : decode cX10_find 0 = .ok (.aload_n 0, 1) := by decide +kernel
theorem dX10_find_1 : decode cX10_find 1 = .ok (.aload_n 0, 1) := by decide +kernel
theorem dX10_find_2 : decode cX10_find 2 = .ok (.getfield 16, 3) := by decide +kernel
theorem dX10_find_5 : decode cX10_find 5 = .ok (.iload_n 1, 1) := by decide +kernel
theorem dX10_find_6 : decode cX10_find 6 = .ok (.invokestatic 218, 3) := by decide +kernel
theorem dX10_find_9 : decode cX10_find 9 = .ok (.ifCond .eq 14, 3) := by decide +kernel
theorem dX10_find_12 : decode cX10_find 12 = .ok (.aload_n 0, 1) := by decide +kernel
theorem dX10_find_13 : decode cX10_find 13 = .ok (.getfield 16, 3) := by decide +kernel
theorem dX10_find_16 : decode cX10_find 16 = .ok (.iload_n 3, 1) := by decide +kernel
theorem dX10_find_17 : decode cX10_find 17 = .ok (.invokestatic 218, 3) := by decide +kernel
theorem dX10_find_20 : decode cX10_find 20 = .ok (.ifCond .ne 7, 3) := by decide +kernel
theorem dX10_find_23 : decode cX10_find 23 = .ok (.iconst 1, 1) := by decide +kernel
theorem dX10_find_24 : decode cX10_find 24 = .ok (.goto 25, 3) := by decide +kernel
theorem dX10_find_27 : decode cX10_find 27 = .ok (.iload_n 1, 1) := by decide +kernel
theorem dX10_find_28 : decode cX10_find 28 = .ok (.iload_n 3, 1) := by decide +kernel
theorem dX10_find_29 : decode cX10_find 29 = .ok (.if_icmp .eq 15, 3) := by decide +kernel
theorem dX10_find_32 : decode cX10_find 32 = .ok (.iload_n 2, 1) := by decide +kernel
theorem dX10_find_33 : decode cX10_find 33 = .ok (.i2l, 1) := by decide +kernel
theorem dX10_find_34 : decode cX10_find 34 = .ok (.lconst 0, 1) := by decide +kernel
theorem dX10_find_35 : decode cX10_find 35 = .ok (.ldc2_w 216, 3) := by decide +kernel
theorem dX10_find_38 : decode cX10_find 38 = .ok (.invokestatic 84, 3) := by decide +kernel
theorem dX10_find_41 : decode cX10_find 41 = .ok (.ifCond .ne 7, 3) := by decide +kernel
theorem dX10_find_44 : decode cX10_find 44 = .ok (.iconst 2, 1) := by decide +kernel
theorem dX10_find_45 : decode cX10_find 45 = .ok (.goto 4, 3) := by decide +kernel
theorem dX10_find_48 : decode cX10_find 48 = .ok (.iconst 0, 1) := by decide +kernel
theorem dX10_find_49 : decode cX10_find 49 = .ok (.invokevirtual 173, 3) := by decide +kernel
theorem dX10_find_52 : decode cX10_find 52 = .ok (.ifCond .eq 5, 3) := by decide +kernel
theorem dX10_find_55 : decode cX10_find 55 = .ok (.iconst 0, 1) := by decide +kernel
theorem dX10_find_56 : decode cX10_find 56 = .ok (.ireturn, 1) := by decide +kernel
theorem dX10_find_57 : decode cX10_find 57 = .ok (.aload_n 0, 1) := by decide +kernel
theorem dX10_find_58 : decode cX10_find 58 = .ok (.getfield 16, 3) := by decide +kernel
theorem dX10_find_61 : decode cX10_find 61 = .ok (.iload_n 1, 1) := by decide +kernel
theorem dX10_find_62 : decode cX10_find 62 = .ok (.iload_n 2, 1) := by decide +kernel
theorem dX10_find_63 : decode cX10_find 63 = .ok (.iload_n 3, 1) := by decide +kernel
theorem dX10_find_64 : decode cX10_find 64 = .ok (.invokestatic 182, 3) := by decide +kernel
theorem dX10_find_67 : decode cX10_find 67 = .ok (.ireturn, 1) := by decide +kernel
theorem dX10_patternAt_0 : decode cX10_patternAt 0 = .ok (.aload_n 0, 1) := by decide +kernel
theorem dX10_patternAt_1 : decode cX10_patternAt 1 = .ok (.iload_n 1, 1) := by decide +kernel
theorem dX10_patternAt_2 : decode cX10_patternAt 2 = .ok (.ifCond .ge 7, 3) := by decide +kernel
theorem dX10_patternAt_5 : decode cX10_patternAt 5 = .ok (.iconst 1, 1) := by decide +kernel
theorem dX10_patternAt_6 : decode cX10_patternAt 6 = .ok (.goto 4, 3) := by decide +kernel
theorem dX10_patternAt_9 : decode cX10_patternAt 9 = .ok (.iconst 0, 1) := by decide +kernel
theorem dX10_patternAt_10 : decode cX10_patternAt 10 = .ok (.invokevirtual 173, 3) := by decide +kernel
theorem dX10_patternAt_13 : decode cX10_patternAt 13 = .ok (.ifCond .eq 5, 3) := by decide +kernel
theorem dX10_patternAt_16 : decode cX10_patternAt 16 = .ok (.iconst 0, 1) := by decide +kernel
theorem dX10_patternAt_17 : decode cX10_patternAt 17 = .ok (.ireturn, 1) := by decide +kernel
theorem dX10_patternAt_18 : decode cX10_patternAt 18 = .ok (.iload_n 1, 1) := by decide +kernel
theorem dX10_patternAt_19 : decode cX10_patternAt 19 = .ok (.aload_n 0, 1) := by decide +kernel
theorem dX10_patternAt_20 : decode cX10_patternAt 20 = .ok (.getfield 16, 3) := by decide +kernel
theorem dX10_patternAt_23 : decode cX10_patternAt 23 = .ok (.iconst 2, 1) := by decide +kernel
theorem dX10_patternAt_24 : decode cX10_patternAt 24 = .ok (.iaload, 1) := by decide +kernel
theorem dX10_patternAt_25 : decode cX10_patternAt 25 = .ok (.if_icmp .ge 15, 3) := by decide +kernel
theorem dX10_patternAt_28 : decode cX10_patternAt 28 = .ok (.aload_n 0, 1) := by decide +kernel
theorem dX10_patternAt_29 : decode cX10_patternAt 29 = .ok (.getfield 16, 3) := by decide +kernel
theorem dX10_patternAt_32 : decode cX10_patternAt 32 = .ok (.bipush 103, 2) := by decide +kernel
theorem dX10_patternAt_34 : decode cX10_patternAt 34 = .ok (.iload_n 1, 1) := by decide +kernel
theorem dX10_patternAt_35 : decode cX10_patternAt 35 = .ok (.iadd, 1) := by decide +kernel
theorem dX10_patternAt_36 : decode cX10_patternAt 36 = .ok (.iaload, 1) := by decide +kernel
theorem dX10_patternAt_37 : decode cX10_patternAt 37 = .ok (.goto 5, 3) := by decide +kernel
theorem dX10_patternAt_40 : decode cX10_patternAt 40 = .ok (.bipush (-9), 2) := by decide +kernel
theorem dX10_patternAt_42 : decode cX10_patternAt 42 = .ok (.ireturn, 1) := by decide +kernel
theorem dX10_remember_0 : decode cX10_remember 0 = .ok (.aload_n 0, 1) := by decide +kernel
theorem dX10_remember_1 : decode cX10_remember 1 = .ok (.getfield 77, 3) := by decide +kernel
theorem dX10_remember_4 : decode cX10_remember 4 = .ok (.bipush 14, 2) := by decide +kernel
theorem dX10_remember_6 : decode cX10_remember 6 = .ok (.if_icmp .ne 44, 3) := by decide +kernel
theorem dX10_remember_9 : decode cX10_remember 9 = .ok (.iconst 0, 1) := by decide +kernel
theorem dX10_remember_10 : decode cX10_remember 10 = .ok (.istore_n 1, 1) := by decide +kernel
theorem dX10_remember_11 : decode cX10_remember 11 = .ok (.iload_n 1, 1) := by decide +kernel
theorem dX10_remember_12 : decode cX10_remember 12 = .ok (.sipush 1859, 3) := by decide +kernel
theorem dX10_remember_15 : decode cX10_remember 15 = .ok (.if_icmp .ge 25, 3) := by decide +kernel
theorem dX10_remember_18 : decode cX10_remember 18 = .ok (.aload_n 0, 1) := by decide +kernel
theorem dX10_remember_19 : decode cX10_remember 19 = .ok (.getfield 22, 3) := by decide +kernel
theorem dX10_remember_22 : decode cX10_remember 22 = .ok (.iload_n 1, 1) := by decide +kernel
theorem dX10_remember_23 : decode cX10_remember 23 = .ok (.aload_n 0, 1) := by decide +kernel
theorem dX10_remember_24 : decode cX10_remember 24 = .ok (.getfield 22, 3) := by decide +kernel
theorem dX10_remember_27 : decode cX10_remember 27 = .ok (.iload_n 1, 1) := by decide +kernel
theorem dX10_remember_28 : decode cX10_remember 28 = .ok (.sipush 143, 3) := by decide +kernel
theorem dX10_remember_31 : decode cX10_remember 31 = .ok (.iadd, 1) := by decide +kernel
theorem dX10_remember_32 : decode cX10_remember 32 = .ok (.iaload, 1) := by decide +kernel
theorem dX10_remember_33 : decode cX10_remember 33 = .ok (.iastore, 1) := by decide +kernel
theorem dX10_remember_34 : decode cX10_remember 34 = .ok (.iinc 1 1, 3) := by decide +kernel
theorem dX10_remember_37 : decode cX10_remember 37 = .ok (.goto (-26), 3) := by decide +kernel
theorem dX10_remember_40 : decode cX10_remember 40 = .ok (.aload_n 0, 1) := by decide +kernel
theorem dX10_remember_41 : decode cX10_remember 41 = .ok (.dup, 1) := by decide +kernel
theorem dX10_remember_42 : decode cX10_remember 42 = .ok (.getfield 77, 3) := by decide +kernel
theorem dX10_remember_45 : decode cX10_remember 45 = .ok (.iconst 1, 1) := by decide +kernel
theorem dX10_remember_46 : decode cX10_remember 46 = .ok (.isub, 1) := by decide +kernel
theorem dX10_remember_47 : decode cX10_remember 47 = .ok (.putfield 77, 3) := by decide +kernel
theorem dX10_remember_50 : decode cX10_remember 50 = .ok (.aload_n 0, 1) := by decide +kernel
theorem dX10_remember_51 : decode cX10_remember 51 = .ok (.getfield 16, 3) := by decide +kernel
theorem dX10_remember_54 : decode cX10_remember 54 = .ok (.iconst 0, 1) := by decide +kernel
theorem dX10_remember_55 : decode cX10_remember 55 = .ok (.aload_n 0, 1) := by decide +kernel
theorem dX10_remember_56 : decode cX10_remember 56 = .ok (.getfield 22, 3) := by decide +kernel
theorem dX10_remember_59 : decode cX10_remember 59 = .ok (.sipush 143, 3) := by decide +kernel
theorem dX10_remember_62 : decode cX10_remember 62 = .ok (.aload_n 0, 1) := by decide +kernel
theorem dX10_remember_63 : decode cX10_remember 63 = .ok (.getfield 77, 3) := by decide +kernel
theorem dX10_remember_66 : decode cX10_remember 66 = .ok (.imul, 1) := by decide +kernel
theorem dX10_remember_67 : decode cX10_remember 67 = .ok (.invokestatic 197, 3) := by decide +kernel
theorem dX10_remember_70 : decode cX10_remember 70 = .ok (.aload_n 0, 1) := by decide +kernel
theorem dX10_remember_71 : decode cX10_remember 71 = .ok (.dup, 1) := by decide +kernel
theorem dX10_remember_72 : decode cX10_remember 72 = .ok (.getfield 77, 3) := by decide +kernel
theorem dX10_remember_75 : decode cX10_remember 75 = .ok (.iconst 1, 1) := by decide +kernel
theorem dX10_remember_76 : decode cX10_remember 76 = .ok (.iadd, 1) := by decide +kernel
theorem dX10_remember_77 : decode cX10_remember 77 = .ok (.putfield 77, 3) := by decide +kernel
theorem dX10_remember_80 : decode cX10_remember 80 = .ok (.return_, 1) := by decide +kernel
theorem dX10_addPerson_0 : decode cX10_addPerson 0 = .ok (.aload_n 0, 1) := by decide +kernel
theorem dX10_addPerson_1 : decode cX10_addPerson 1 = .ok (.aload_n 0, 1) := by decide +kernel
theorem dX10_addPerson_2 : decode cX10_addPerson 2 = .ok (.getfield 16, 3) := by decide +kernel
theorem dX10_addPerson_5 : decode cX10_addPerson 5 = .ok (.iconst 0, 1) := by decide +kernel
theorem dX10_addPerson_6 : decode cX10_addPerson 6 = .ok (.iaload, 1) := by decide +kernel
theorem dX10_addPerson_7 : decode cX10_addPerson 7 = .ok (.bipush 8, 2) := by decide +kernel
theorem dX10_addPerson_9 : decode cX10_addPerson 9 = .ok (.if_icmp .ne 7, 3) := by decide +kernel
theorem dX10_addPerson_12 : decode cX10_addPerson 12 = .ok (.iconst 1, 1) := by decide +kernel
theorem dX10_addPerson_13 : decode cX10_addPerson 13 = .ok (.goto 4, 3) := by decide +kernel
theorem dX10_addPerson_16 : decode cX10_addPerson 16 = .ok (.iconst 0, 1) := by decide +kernel
theorem dX10_addPerson_17 : decode cX10_addPerson 17 = .ok (.invokevirtual 173, 3) := by decide +kernel
theorem dX10_addPerson_20 : decode cX10_addPerson 20 = .ok (.ifCond .eq 5, 3) := by decide +kernel
theorem dX10_addPerson_23 : decode cX10_addPerson 23 = .ok (.iconst 0, 1) := by decide +kernel
theorem dX10_addPerson_24 : decode cX10_addPerson 24 = .ok (.ireturn, 1) := by decide +kernel
theorem dX10_addPerson_25 : decode cX10_addPerson 25 = .ok (.aload_n 0, 1) := by decide +kernel
theorem dX10_addPerson_26 : decode cX10_addPerson 26 = .ok (.invokevirtual 225, 3) := by decide +kernel
theorem dX10_addPerson_29 : decode cX10_addPerson 29 = .ok (.aload_n 0, 1) := by decide +kernel
theorem dX10_addPerson_30 : decode cX10_addPerson 30 = .ok (.getfield 16, 3) := by decide +kernel
theorem dX10_addPerson_33 : decode cX10_addPerson 33 = .ok (.iconst 0, 1) := by decide +kernel
theorem dX10_addPerson_34 : decode cX10_addPerson 34 = .ok (.dup2, 1) := by decide +kernel
theorem dX10_addPerson_35 : decode cX10_addPerson 35 = .ok (.iaload, 1) := by decide +kernel
theorem dX10_addPerson_36 : decode cX10_addPerson 36 = .ok (.iconst 1, 1) := by decide +kernel
theorem dX10_addPerson_37 : decode cX10_addPerson 37 = .ok (.iadd, 1) := by decide +kernel
theorem dX10_addPerson_38 : decode cX10_addPerson 38 = .ok (.iastore, 1) := by decide +kernel
theorem dX10_addPerson_39 : decode cX10_addPerson 39 = .ok (.aload_n 0, 1) := by decide +kernel
theorem dX10_addPerson_40 : decode cX10_addPerson 40 = .ok (.getfield 16, 3) := by decide +kernel
theorem dX10_addPerson_43 : decode cX10_addPerson 43 = .ok (.iconst 0, 1) := by decide +kernel
theorem dX10_addPerson_44 : decode cX10_addPerson 44 = .ok (.iaload, 1) := by decide +kernel
theorem dX10_addPerson_45 : decode cX10_addPerson 45 = .ok (.iconst 1, 1) := by decide +kernel
theorem dX10_addPerson_46 : decode cX10_addPerson 46 = .ok (.isub, 1) := by decide +kernel
theorem dX10_addPerson_47 : decode cX10_addPerson 47 = .ok (.ireturn, 1) := by decide +kernel
theorem dX10_whyNotAdd_0 : decode cX10_whyNotAdd 0 = .ok (.aload_n 0, 1) := by decide +kernel
theorem dX10_whyNotAdd_1 : decode cX10_whyNotAdd 1 = .ok (.iload_n 1, 1) := by decide +kernel
theorem dX10_whyNotAdd_2 : decode cX10_whyNotAdd 2 = .ok (.invokestatic 218, 3) := by decide +kernel
theorem dX10_whyNotAdd_5 : decode cX10_whyNotAdd 5 = .ok (.ifCond .eq 11, 3) := by decide +kernel
theorem dX10_whyNotAdd_8 : decode cX10_whyNotAdd 8 = .ok (.aload_n 0, 1) := by decide +kernel
theorem dX10_whyNotAdd_9 : decode cX10_whyNotAdd 9 = .ok (.iload_n 3, 1) := by decide +kernel
theorem dX10_whyNotAdd_10 : decode cX10_whyNotAdd 10 = .ok (.invokestatic 218, 3) := by decide +kernel
theorem dX10_whyNotAdd_13 : decode cX10_whyNotAdd 13 = .ok (.ifCond .ne 5, 3) := by decide +kernel
theorem dX10_whyNotAdd_16 : decode cX10_whyNotAdd 16 = .ok (.iconst 1, 1) := by decide +kernel
theorem dX10_whyNotAdd_17 : decode cX10_whyNotAdd 17 = .ok (.ireturn, 1) := by decide +kernel
theorem dX10_whyNotAdd_18 : decode cX10_whyNotAdd 18 = .ok (.iload_n 1, 1) := by decide +kernel
theorem dX10_whyNotAdd_19 : decode cX10_whyNotAdd 19 = .ok (.iload_n 3, 1) := by decide +kernel
theorem dX10_whyNotAdd_20 : decode cX10_whyNotAdd 20 = .ok (.if_icmp .eq 28, 3) := by decide +kernel
theorem dX10_whyNotAdd_23 : decode cX10_whyNotAdd 23 = .ok (.iload_n 2, 1) := by decide +kernel
theorem dX10_whyNotAdd_24 : decode cX10_whyNotAdd 24 = .ok (.i2l, 1) := by decide +kernel
theorem dX10_whyNotAdd_25 : decode cX10_whyNotAdd 25 = .ok (.lconst 0, 1) := by decide +kernel
theorem dX10_whyNotAdd_26 : decode cX10_whyNotAdd 26 = .ok (.ldc2_w 216, 3) := by decide +kernel
theorem dX10_whyNotAdd_29 : decode cX10_whyNotAdd 29 = .ok (.invokestatic 84, 3) := by decide +kernel
theorem dX10_whyNotAdd_32 : decode cX10_whyNotAdd 32 = .ok (.ifCond .eq 16, 3) := by decide +kernel
theorem dX10_whyNotAdd_35 : decode cX10_whyNotAdd 35 = .ok (.iload 4, 2) := by decide +kernel
theorem dX10_whyNotAdd_37 : decode cX10_whyNotAdd 37 = .ok (.i2l, 1) := by decide +kernel
theorem dX10_whyNotAdd_38 : decode cX10_whyNotAdd 38 = .ok (.lconst 1, 1) := by decide +kernel
theorem dX10_whyNotAdd_39 : decode cX10_whyNotAdd 39 = .ok (.ldc2_w 228, 3) := by decide +kernel
theorem dX10_whyNotAdd_42 : decode cX10_whyNotAdd 42 = .ok (.invokestatic 84, 3) := by decide +kernel
theorem dX10_whyNotAdd_45 : decode cX10_whyNotAdd 45 = .ok (.ifCond .ne 5, 3) := by decide +kernel
theorem dX10_whyNotAdd_48 : decode cX10_whyNotAdd 48 = .ok (.iconst 2, 1) := by decide +kernel
theorem dX10_whyNotAdd_49 : decode cX10_whyNotAdd 49 = .ok (.ireturn, 1) := by decide +kernel
theorem dX10_whyNotAdd_50 : decode cX10_whyNotAdd 50 = .ok (.aload_n 0, 1) := by decide +kernel
theorem dX10_whyNotAdd_51 : decode cX10_whyNotAdd 51 = .ok (.iload_n 1, 1) := by decide +kernel
theorem dX10_whyNotAdd_52 : decode cX10_whyNotAdd 52 = .ok (.iload_n 2, 1) := by decide +kernel
theorem dX10_whyNotAdd_53 : decode cX10_whyNotAdd 53 = .ok (.iload_n 3, 1) := by decide +kernel
theorem dX10_whyNotAdd_54 : decode cX10_whyNotAdd 54 = .ok (.invokestatic 182, 3) := by decide +kernel
theorem dX10_whyNotAdd_57 : decode cX10_whyNotAdd 57 = .ok (.bipush (-9), 2) := by decide +kernel
theorem dX10_whyNotAdd_59 : decode cX10_whyNotAdd 59 = .ok (.if_icmp .ne 11, 3) := by decide +kernel
theorem dX10_whyNotAdd_62 : decode cX10_whyNotAdd 62 = .ok (.aload_n 0, 1) := by decide +kernel
theorem dX10_whyNotAdd_63 : decode cX10_whyNotAdd 63 = .ok (.iconst 1, 1) := by decide +kernel
theorem dX10_whyNotAdd_64 : decode cX10_whyNotAdd 64 = .ok (.iaload, 1) := by decide +kernel
theorem dX10_whyNotAdd_65 : decode cX10_whyNotAdd 65 = .ok (.bipush 24, 2) := by decide +kernel
theorem dX10_whyNotAdd_67 : decode cX10_whyNotAdd 67 = .ok (.if_icmp .ne 7, 3) := by decide +kernel
theorem dX10_whyNotAdd_70 : decode cX10_whyNotAdd 70 = .ok (.iconst 3, 1) := by decide +kernel
theorem dX10_whyNotAdd_71 : decode cX10_whyNotAdd 71 = .ok (.goto 4, 3) := by decide +kernel
theorem dX10_whyNotAdd_74 : decode cX10_whyNotAdd 74 = .ok (.iconst 0, 1) := by decide +kernel
theorem dX10_whyNotAdd_75 : decode cX10_whyNotAdd 75 = .ok (.ireturn, 1) := by decide +kernel
theorem dX10_addStep_0 : decode cX10_addStep 0 = .ok (.aload_n 0, 1) := by decide +kernel
theorem dX10_addStep_1 : decode cX10_addStep 1 = .ok (.aload_n 0, 1) := by decide +kernel
theorem dX10_addStep_2 : decode cX10_addStep 2 = .ok (.getfield 16, 3) := by decide +kernel
theorem dX10_addStep_5 : decode cX10_addStep 5 = .ok (.iload_n 1, 1) := by decide +kernel
theorem dX10_addStep_6 : decode cX10_addStep 6 = .ok (.iload_n 2, 1) := by decide +kernel
theorem dX10_addStep_7 : decode cX10_addStep 7 = .ok (.iload_n 3, 1) := by decide +kernel
theorem dX10_addStep_8 : decode cX10_addStep 8 = .ok (.iload 4, 2) := by decide +kernel
theorem dX10_addStep_10 : decode cX10_addStep 10 = .ok (.invokestatic 230, 3) := by decide +kernel
theorem dX10_addStep_13 : decode cX10_addStep 13 = .ok (.invokevirtual 173, 3) := by decide +kernel
theorem dX10_addStep_16 : decode cX10_addStep 16 = .ok (.ifCond .eq 5, 3) := by decide +kernel
theorem dX10_addStep_19 : decode cX10_addStep 19 = .ok (.iconst 0, 1) := by decide +kernel
theorem dX10_addStep_20 : decode cX10_addStep 20 = .ok (.ireturn, 1) := by decide +kernel
theorem dX10_addStep_21 : decode cX10_addStep 21 = .ok (.aload_n 0, 1) := by decide +kernel
theorem dX10_addStep_22 : decode cX10_addStep 22 = .ok (.invokevirtual 225, 3) := by decide +kernel
theorem dX10_addStep_25 : decode cX10_addStep 25 = .ok (.aload_n 0, 1) := by decide +kernel
theorem dX10_addStep_26 : decode cX10_addStep 26 = .ok (.getfield 16, 3) := by decide +kernel
theorem dX10_addStep_29 : decode cX10_addStep 29 = .ok (.iload_n 1, 1) := by decide +kernel
theorem dX10_addStep_30 : decode cX10_addStep 30 = .ok (.iload_n 2, 1) := by decide +kernel
theorem dX10_addStep_31 : decode cX10_addStep 31 = .ok (.iload_n 3, 1) := by decide +kernel
theorem dX10_addStep_32 : decode cX10_addStep 32 = .ok (.iload 4, 2) := by decide +kernel
theorem dX10_addStep_34 : decode cX10_addStep 34 = .ok (.invokestatic 186, 3) := by decide +kernel
theorem dX10_addStep_37 : decode cX10_addStep 37 = .ok (.ireturn, 1) := by decide +kernel
theorem dX10_removeStep_0 : decode cX10_removeStep 0 = .ok (.aload_n 0, 1) := by decide +kernel
theorem dX10_removeStep_1 : decode cX10_removeStep 1 = .ok (.aload_n 0, 1) := by decide +kernel
theorem dX10_removeStep_2 : decode cX10_removeStep 2 = .ok (.getfield 16, 3) := by decide +kernel
theorem dX10_removeStep_5 : decode cX10_removeStep 5 = .ok (.iload_n 1, 1) := by decide +kernel
theorem dX10_removeStep_6 : decode cX10_removeStep 6 = .ok (.invokestatic 212, 3) := by decide +kernel
theorem dX10_removeStep_9 : decode cX10_removeStep 9 = .ok (.ifCond .eq 7, 3) := by decide +kernel
theorem dX10_removeStep_12 : decode cX10_removeStep 12 = .ok (.iconst 0, 1) := by decide +kernel
theorem dX10_removeStep_13 : decode cX10_removeStep 13 = .ok (.goto 4, 3) := by decide +kernel
theorem dX10_removeStep_16 : decode cX10_removeStep 16 = .ok (.iconst 1, 1) := by decide +kernel
theorem dX10_removeStep_17 : decode cX10_removeStep 17 = .ok (.invokevirtual 173, 3) := by decide +kernel
theorem dX10_removeStep_20 : decode cX10_removeStep 20 = .ok (.ifCond .eq 5, 3) := by decide +kernel
theorem dX10_removeStep_23 : decode cX10_removeStep 23 = .ok (.iconst 0, 1) := by decide +kernel
theorem dX10_removeStep_24 : decode cX10_removeStep 24 = .ok (.ireturn, 1) := by decide +kernel
theorem dX10_removeStep_25 : decode cX10_removeStep 25 = .ok (.aload_n 0, 1) := by decide +kernel
theorem dX10_removeStep_26 : decode cX10_removeStep 26 = .ok (.invokevirtual 225, 3) := by decide +kernel
theorem dX10_removeStep_29 : decode cX10_removeStep 29 = .ok (.aload_n 0, 1) := by decide +kernel
theorem dX10_removeStep_30 : decode cX10_removeStep 30 = .ok (.getfield 16, 3) := by decide +kernel
theorem dX10_removeStep_33 : decode cX10_removeStep 33 = .ok (.iload_n 1, 1) := by decide +kernel
theorem dX10_removeStep_34 : decode cX10_removeStep 34 = .ok (.invokestatic 233, 3) := by decide +kernel
theorem dX10_removeStep_37 : decode cX10_removeStep 37 = .ok (.aload_n 0, 1) := by decide +kernel
theorem dX10_removeStep_38 : decode cX10_removeStep 38 = .ok (.getfield 16, 3) := by decide +kernel
theorem dX10_removeStep_41 : decode cX10_removeStep 41 = .ok (.iconst 1, 1) := by decide +kernel
theorem dX10_removeStep_42 : decode cX10_removeStep 42 = .ok (.iaload, 1) := by decide +kernel
theorem dX10_removeStep_43 : decode cX10_removeStep 43 = .ok (.ireturn, 1) := by decide +kernel
theorem dX10_setCost_0 : decode cX10_setCost 0 = .ok (.aload_n 0, 1) := by decide +kernel
theorem dX10_setCost_1 : decode cX10_setCost 1 = .ok (.aload_n 0, 1) := by decide +kernel
theorem dX10_setCost_2 : decode cX10_setCost 2 = .ok (.getfield 16, 3) := by decide +kernel
theorem dX10_setCost_5 : decode cX10_setCost 5 = .ok (.iload_n 1, 1) := by decide +kernel
theorem dX10_setCost_6 : decode cX10_setCost 6 = .ok (.invokestatic 212, 3) := by decide +kernel
theorem dX10_setCost_9 : decode cX10_setCost 9 = .ok (.ifCond .ne 7, 3) := by decide +kernel
theorem dX10_setCost_12 : decode cX10_setCost 12 = .ok (.iconst 1, 1) := by decide +kernel
theorem dX10_setCost_13 : decode cX10_setCost 13 = .ok (.goto 20, 3) := by decide +kernel
theorem dX10_setCost_16 : decode cX10_setCost 16 = .ok (.iload_n 2, 1) := by decide +kernel
theorem dX10_setCost_17 : decode cX10_setCost 17 = .ok (.i2l, 1) := by decide +kernel
theorem dX10_setCost_18 : decode cX10_setCost 18 = .ok (.lconst 1, 1) := by decide +kernel
theorem dX10_setCost_19 : decode cX10_setCost 19 = .ok (.ldc2_w 228, 3) := by decide +kernel
theorem dX10_setCost_22 : decode cX10_setCost 22 = .ok (.invokestatic 84, 3) := by decide +kernel
theorem dX10_setCost_25 : decode cX10_setCost 25 = .ok (.ifCond .eq 7, 3) := by decide +kernel
theorem dX10_setCost_28 : decode cX10_setCost 28 = .ok (.iconst 0, 1) := by decide +kernel
theorem dX10_setCost_29 : decode cX10_setCost 29 = .ok (.goto 4, 3) := by decide +kernel
theorem dX10_setCost_32 : decode cX10_setCost 32 = .ok (.iconst 2, 1) := by decide +kernel
theorem dX10_setCost_33 : decode cX10_setCost 33 = .ok (.invokevirtual 173, 3) := by decide +kernel
theorem dX10_setCost_36 : decode cX10_setCost 36 = .ok (.ifCond .eq 5, 3) := by decide +kernel
theorem dX10_setCost_39 : decode cX10_setCost 39 = .ok (.iconst 0, 1) := by decide +kernel
theorem dX10_setCost_40 : decode cX10_setCost 40 = .ok (.ireturn, 1) := by decide +kernel
theorem dX10_setCost_41 : decode cX10_setCost 41 = .ok (.aload_n 0, 1) := by decide +kernel
theorem dX10_setCost_42 : decode cX10_setCost 42 = .ok (.invokevirtual 225, 3) := by decide +kernel
theorem dX10_setCost_45 : decode cX10_setCost 45 = .ok (.aload_n 0, 1) := by decide +kernel
theorem dX10_setCost_46 : decode cX10_setCost 46 = .ok (.getfield 16, 3) := by decide +kernel
theorem dX10_setCost_49 : decode cX10_setCost 49 = .ok (.iload_n 1, 1) := by decide +kernel
theorem dX10_setCost_50 : decode cX10_setCost 50 = .ok (.invokestatic 88, 3) := by decide +kernel
theorem dX10_setCost_53 : decode cX10_setCost 53 = .ok (.iconst 3, 1) := by decide +kernel
theorem dX10_setCost_54 : decode cX10_setCost 54 = .ok (.iadd, 1) := by decide +kernel
theorem dX10_setCost_55 : decode cX10_setCost 55 = .ok (.iaload, 1) := by decide +kernel
theorem dX10_setCost_56 : decode cX10_setCost 56 = .ok (.istore_n 3, 1) := by decide +kernel
theorem dX10_setCost_57 : decode cX10_setCost 57 = .ok (.aload_n 0, 1) := by decide +kernel
theorem dX10_setCost_58 : decode cX10_setCost 58 = .ok (.getfield 16, 3) := by decide +kernel
theorem dX10_setCost_61 : decode cX10_setCost 61 = .ok (.iload_n 1, 1) := by decide +kernel
theorem dX10_setCost_62 : decode cX10_setCost 62 = .ok (.invokestatic 88, 3) := by decide +kernel
theorem dX10_setCost_65 : decode cX10_setCost 65 = .ok (.iconst 3, 1) := by decide +kernel
theorem dX10_setCost_66 : decode cX10_setCost 66 = .ok (.iadd, 1) := by decide +kernel
theorem dX10_setCost_67 : decode cX10_setCost 67 = .ok (.iload_n 2, 1) := by decide +kernel
theorem dX10_setCost_68 : decode cX10_setCost 68 = .ok (.iastore, 1) := by decide +kernel
theorem dX10_setCost_69 : decode cX10_setCost 69 = .ok (.iload_n 3, 1) := by decide +kernel
theorem dX10_setCost_70 : decode cX10_setCost 70 = .ok (.ireturn, 1) := by decide +kernel
theorem dX10_whyNotTurn_0 : decode cX10_whyNotTurn 0 = .ok (.aload_n 0, 1) := by decide +kernel
theorem dX10_whyNotTurn_1 : decode cX10_whyNotTurn 1 = .ok (.iload_n 1, 1) := by decide +kernel
theorem dX10_whyNotTurn_2 : decode cX10_whyNotTurn 2 = .ok (.invokestatic 212, 3) := by decide +kernel
theorem dX10_whyNotTurn_5 : decode cX10_whyNotTurn 5 = .ok (.ifCond .ne 5, 3) := by decide +kernel
theorem dX10_whyNotTurn_8 : decode cX10_whyNotTurn 8 = .ok (.iconst 1, 1) := by decide +kernel
theorem dX10_whyNotTurn_9 : decode cX10_whyNotTurn 9 = .ok (.ireturn, 1) := by decide +kernel
theorem dX10_whyNotTurn_10 : decode cX10_whyNotTurn 10 = .ok (.aload_n 0, 1) := by decide +kernel
theorem dX10_whyNotTurn_11 : decode cX10_whyNotTurn 11 = .ok (.aload_n 0, 1) := by decide +kernel
theorem dX10_whyNotTurn_12 : decode cX10_whyNotTurn 12 = .ok (.iload_n 1, 1) := by decide +kernel
theorem dX10_whyNotTurn_13 : decode cX10_whyNotTurn 13 = .ok (.invokestatic 88, 3) := by decide +kernel
theorem dX10_whyNotTurn_16 : decode cX10_whyNotTurn 16 = .ok (.iconst 2, 1) := by decide +kernel
theorem dX10_whyNotTurn_17 : decode cX10_whyNotTurn 17 = .ok (.iadd, 1) := by decide +kernel
theorem dX10_whyNotTurn_18 : decode cX10_whyNotTurn 18 = .ok (.iaload, 1) := by decide +kernel
theorem dX10_whyNotTurn_19 : decode cX10_whyNotTurn 19 = .ok (.aload_n 0, 1) := by decide +kernel
theorem dX10_whyNotTurn_20 : decode cX10_whyNotTurn 20 = .ok (.iload_n 1, 1) := by decide +kernel
theorem dX10_whyNotTurn_21 : decode cX10_whyNotTurn 21 = .ok (.invokestatic 88, 3) := by decide +kernel
theorem dX10_whyNotTurn_24 : decode cX10_whyNotTurn 24 = .ok (.iconst 1, 1) := by decide +kernel
theorem dX10_whyNotTurn_25 : decode cX10_whyNotTurn 25 = .ok (.iadd, 1) := by decide +kernel
theorem dX10_whyNotTurn_26 : decode cX10_whyNotTurn 26 = .ok (.iaload, 1) := by decide +kernel
theorem dX10_whyNotTurn_27 : decode cX10_whyNotTurn 27 = .ok (.aload_n 0, 1) := by decide +kernel
theorem dX10_whyNotTurn_28 : decode cX10_whyNotTurn 28 = .ok (.iload_n 1, 1) := by decide +kernel
theorem dX10_whyNotTurn_29 : decode cX10_whyNotTurn 29 = .ok (.invokestatic 88, 3) := by decide +kernel
theorem dX10_whyNotTurn_32 : decode cX10_whyNotTurn 32 = .ok (.iaload, 1) := by decide +kernel
theorem dX10_whyNotTurn_33 : decode cX10_whyNotTurn 33 = .ok (.invokestatic 182, 3) := by decide +kernel
theorem dX10_whyNotTurn_36 : decode cX10_whyNotTurn 36 = .ok (.bipush (-9), 2) := by decide +kernel
theorem dX10_whyNotTurn_38 : decode cX10_whyNotTurn 38 = .ok (.if_icmp .eq 7, 3) := by decide +kernel
theorem dX10_whyNotTurn_41 : decode cX10_whyNotTurn 41 = .ok (.iconst 2, 1) := by decide +kernel
theorem dX10_whyNotTurn_42 : decode cX10_whyNotTurn 42 = .ok (.goto 4, 3) := by decide +kernel
theorem dX10_whyNotTurn_45 : decode cX10_whyNotTurn 45 = .ok (.iconst 0, 1) := by decide +kernel
theorem dX10_whyNotTurn_46 : decode cX10_whyNotTurn 46 = .ok (.ireturn, 1) := by decide +kernel
theorem dX10_turnOn_0 : decode cX10_turnOn 0 = .ok (.aload_n 0, 1) := by decide +kernel
theorem dX10_turnOn_1 : decode cX10_turnOn 1 = .ok (.iload_n 1, 1) := by decide +kernel
theorem dX10_turnOn_2 : decode cX10_turnOn 2 = .ok (.invokestatic 88, 3) := by decide +kernel
theorem dX10_turnOn_5 : decode cX10_turnOn 5 = .ok (.iaload, 1) := by decide +kernel
theorem dX10_turnOn_6 : decode cX10_turnOn 6 = .ok (.istore_n 2, 1) := by decide +kernel
theorem dX10_turnOn_7 : decode cX10_turnOn 7 = .ok (.aload_n 0, 1) := by decide +kernel
theorem dX10_turnOn_8 : decode cX10_turnOn 8 = .ok (.iload_n 1, 1) := by decide +kernel
theorem dX10_turnOn_9 : decode cX10_turnOn 9 = .ok (.invokestatic 88, 3) := by decide +kernel
theorem dX10_turnOn_12 : decode cX10_turnOn 12 = .ok (.aload_n 0, 1) := by decide +kernel
theorem dX10_turnOn_13 : decode cX10_turnOn 13 = .ok (.iload_n 1, 1) := by decide +kernel
theorem dX10_turnOn_14 : decode cX10_turnOn 14 = .ok (.invokestatic 88, 3) := by decide +kernel
theorem dX10_turnOn_17 : decode cX10_turnOn 17 = .ok (.iconst 2, 1) := by decide +kernel
theorem dX10_turnOn_18 : decode cX10_turnOn 18 = .ok (.iadd, 1) := by decide +kernel
theorem dX10_turnOn_19 : decode cX10_turnOn 19 = .ok (.iaload, 1) := by decide +kernel
theorem dX10_turnOn_20 : decode cX10_turnOn 20 = .ok (.iastore, 1) := by decide +kernel
theorem dX10_turnOn_21 : decode cX10_turnOn 21 = .ok (.aload_n 0, 1) := by decide +kernel
theorem dX10_turnOn_22 : decode cX10_turnOn 22 = .ok (.iload_n 1, 1) := by decide +kernel
theorem dX10_turnOn_23 : decode cX10_turnOn 23 = .ok (.invokestatic 88, 3) := by decide +kernel
theorem dX10_turnOn_26 : decode cX10_turnOn 26 = .ok (.iconst 2, 1) := by decide +kernel
theorem dX10_turnOn_27 : decode cX10_turnOn 27 = .ok (.iadd, 1) := by decide +kernel
theorem dX10_turnOn_28 : decode cX10_turnOn 28 = .ok (.iload_n 2, 1) := by decide +kernel
theorem dX10_turnOn_29 : decode cX10_turnOn 29 = .ok (.iastore, 1) := by decide +kernel
theorem dX10_turnOn_30 : decode cX10_turnOn 30 = .ok (.aload_n 0, 1) := by decide +kernel
theorem dX10_turnOn_31 : decode cX10_turnOn 31 = .ok (.iload_n 1, 1) := by decide +kernel
theorem dX10_turnOn_32 : decode cX10_turnOn 32 = .ok (.invokestatic 88, 3) := by decide +kernel
theorem dX10_turnOn_35 : decode cX10_turnOn 35 = .ok (.iaload, 1) := by decide +kernel
theorem dX10_turnOn_36 : decode cX10_turnOn 36 = .ok (.ireturn, 1) := by decide +kernel
theorem dX10_turn_0 : decode cX10_turn 0 = .ok (.aload_n 0, 1) := by decide +kernel
theorem dX10_turn_1 : decode cX10_turn 1 = .ok (.aload_n 0, 1) := by decide +kernel
theorem dX10_turn_2 : decode cX10_turn 2 = .ok (.getfield 16, 3) := by decide +kernel
theorem dX10_turn_5 : decode cX10_turn 5 = .ok (.iload_n 1, 1) := by decide +kernel
theorem dX10_turn_6 : decode cX10_turn 6 = .ok (.invokestatic 236, 3) := by decide +kernel
theorem dX10_turn_9 : decode cX10_turn 9 = .ok (.invokevirtual 173, 3) := by decide +kernel
theorem dX10_turn_12 : decode cX10_turn 12 = .ok (.ifCond .eq 5, 3) := by decide +kernel
theorem dX10_turn_15 : decode cX10_turn 15 = .ok (.iconst 0, 1) := by decide +kernel
theorem dX10_turn_16 : decode cX10_turn 16 = .ok (.ireturn, 1) := by decide +kernel
theorem dX10_turn_17 : decode cX10_turn 17 = .ok (.aload_n 0, 1) := by decide +kernel
theorem dX10_turn_18 : decode cX10_turn 18 = .ok (.invokevirtual 225, 3) := by decide +kernel
theorem dX10_turn_21 : decode cX10_turn 21 = .ok (.aload_n 0, 1) := by decide +kernel
theorem dX10_turn_22 : decode cX10_turn 22 = .ok (.getfield 16, 3) := by decide +kernel
theorem dX10_turn_25 : decode cX10_turn 25 = .ok (.iload_n 1, 1) := by decide +kernel
theorem dX10_turn_26 : decode cX10_turn 26 = .ok (.invokestatic 239, 3) := by decide +kernel
theorem dX10_turn_29 : decode cX10_turn 29 = .ok (.ireturn, 1) := by decide +kernel
theorem dX10_exchangeOn_0 : decode cX10_exchangeOn 0 = .ok (.iconst 0, 1) := by decide +kernel
theorem dX10_exchangeOn_1 : decode cX10_exchangeOn 1 = .ok (.istore_n 3, 1) := by decide +kernel
theorem dX10_exchangeOn_2 : decode cX10_exchangeOn 2 = .ok (.iconst 0, 1) := by decide +kernel
theorem dX10_exchangeOn_3 : decode cX10_exchangeOn 3 = .ok (.istore 4, 2) := by decide +kernel
theorem dX10_exchangeOn_5 : decode cX10_exchangeOn 5 = .ok (.iload 4, 2) := by decide +kernel
theorem dX10_exchangeOn_7 : decode cX10_exchangeOn 7 = .ok (.aload_n 0, 1) := by decide +kernel
theorem dX10_exchangeOn_8 : decode cX10_exchangeOn 8 = .ok (.iconst 1, 1) := by decide +kernel
theorem dX10_exchangeOn_9 : decode cX10_exchangeOn 9 = .ok (.iaload, 1) := by decide +kernel
theorem dX10_exchangeOn_10 : decode cX10_exchangeOn 10 = .ok (.if_icmp .ge 70, 3) := by decide +kernel
theorem dX10_exchangeOn_13 : decode cX10_exchangeOn 13 = .ok (.aload_n 0, 1) := by decide +kernel
theorem dX10_exchangeOn_14 : decode cX10_exchangeOn 14 = .ok (.iload 4, 2) := by decide +kernel
theorem dX10_exchangeOn_16 : decode cX10_exchangeOn 16 = .ok (.invokestatic 88, 3) := by decide +kernel
theorem dX10_exchangeOn_19 : decode cX10_exchangeOn 19 = .ok (.iconst 1, 1) := by decide +kernel
theorem dX10_exchangeOn_20 : decode cX10_exchangeOn 20 = .ok (.iadd, 1) := by decide +kernel
theorem dX10_exchangeOn_21 : decode cX10_exchangeOn 21 = .ok (.iaload, 1) := by decide +kernel
theorem dX10_exchangeOn_22 : decode cX10_exchangeOn 22 = .ok (.istore 5, 2) := by decide +kernel
theorem dX10_exchangeOn_24 : decode cX10_exchangeOn 24 = .ok (.iload 5, 2) := by decide +kernel
theorem dX10_exchangeOn_26 : decode cX10_exchangeOn 26 = .ok (.iload_n 1, 1) := by decide +kernel
theorem dX10_exchangeOn_27 : decode cX10_exchangeOn 27 = .ok (.if_icmp .ne 7, 3) := by decide +kernel
theorem dX10_exchangeOn_30 : decode cX10_exchangeOn 30 = .ok (.iload_n 2, 1) := by decide +kernel
theorem dX10_exchangeOn_31 : decode cX10_exchangeOn 31 = .ok (.goto 15, 3) := by decide +kernel
theorem dX10_exchangeOn_34 : decode cX10_exchangeOn 34 = .ok (.iload 5, 2) := by decide +kernel
theorem dX10_exchangeOn_36 : decode cX10_exchangeOn 36 = .ok (.iload_n 2, 1) := by decide +kernel
theorem dX10_exchangeOn_37 : decode cX10_exchangeOn 37 = .ok (.if_icmp .ne 7, 3) := by decide +kernel
theorem dX10_exchangeOn_40 : decode cX10_exchangeOn 40 = .ok (.iload_n 1, 1) := by decide +kernel
theorem dX10_exchangeOn_41 : decode cX10_exchangeOn 41 = .ok (.goto 5, 3) := by decide +kernel
theorem dX10_exchangeOn_44 : decode cX10_exchangeOn 44 = .ok (.iload 5, 2) := by decide +kernel
theorem dX10_exchangeOn_46 : decode cX10_exchangeOn 46 = .ok (.istore 6, 2) := by decide +kernel
theorem dX10_exchangeOn_48 : decode cX10_exchangeOn 48 = .ok (.aload_n 0, 1) := by decide +kernel
theorem dX10_exchangeOn_49 : decode cX10_exchangeOn 49 = .ok (.iload 4, 2) := by decide +kernel
theorem dX10_exchangeOn_51 : decode cX10_exchangeOn 51 = .ok (.invokestatic 88, 3) := by decide +kernel
theorem dX10_exchangeOn_54 : decode cX10_exchangeOn 54 = .ok (.iconst 1, 1) := by decide +kernel
theorem dX10_exchangeOn_55 : decode cX10_exchangeOn 55 = .ok (.iadd, 1) := by decide +kernel
theorem dX10_exchangeOn_56 : decode cX10_exchangeOn 56 = .ok (.iload 6, 2) := by decide +kernel
theorem dX10_exchangeOn_58 : decode cX10_exchangeOn 58 = .ok (.iastore, 1) := by decide +kernel
theorem dX10_exchangeOn_59 : decode cX10_exchangeOn 59 = .ok (.iload_n 3, 1) := by decide +kernel
theorem dX10_exchangeOn_60 : decode cX10_exchangeOn 60 = .ok (.iload 6, 2) := by decide +kernel
theorem dX10_exchangeOn_62 : decode cX10_exchangeOn 62 = .ok (.iload 5, 2) := by decide +kernel
theorem dX10_exchangeOn_64 : decode cX10_exchangeOn 64 = .ok (.if_icmp .ne 7, 3) := by decide +kernel
theorem dX10_exchangeOn_67 : decode cX10_exchangeOn 67 = .ok (.iconst 0, 1) := by decide +kernel
theorem dX10_exchangeOn_68 : decode cX10_exchangeOn 68 = .ok (.goto 4, 3) := by decide +kernel
theorem dX10_exchangeOn_71 : decode cX10_exchangeOn 71 = .ok (.iconst 1, 1) := by decide +kernel
theorem dX10_exchangeOn_72 : decode cX10_exchangeOn 72 = .ok (.iadd, 1) := by decide +kernel
theorem dX10_exchangeOn_73 : decode cX10_exchangeOn 73 = .ok (.istore_n 3, 1) := by decide +kernel
theorem dX10_exchangeOn_74 : decode cX10_exchangeOn 74 = .ok (.iinc 4 1, 3) := by decide +kernel
theorem dX10_exchangeOn_77 : decode cX10_exchangeOn 77 = .ok (.goto (-72), 3) := by decide +kernel
theorem dX10_exchangeOn_80 : decode cX10_exchangeOn 80 = .ok (.iload_n 3, 1) := by decide +kernel
theorem dX10_exchangeOn_81 : decode cX10_exchangeOn 81 = .ok (.ireturn, 1) := by decide +kernel
theorem dX10_exchange_0 : decode cX10_exchange 0 = .ok (.aload_n 0, 1) := by decide +kernel
theorem dX10_exchange_1 : decode cX10_exchange 1 = .ok (.iload_n 1, 1) := by decide +kernel
theorem dX10_exchange_2 : decode cX10_exchange 2 = .ok (.i2l, 1) := by decide +kernel
theorem dX10_exchange_3 : decode cX10_exchange 3 = .ok (.lconst 0, 1) := by decide +kernel
theorem dX10_exchange_4 : decode cX10_exchange 4 = .ok (.ldc2_w 216, 3) := by decide +kernel
theorem dX10_exchange_7 : decode cX10_exchange 7 = .ok (.invokestatic 84, 3) := by decide +kernel
theorem dX10_exchange_10 : decode cX10_exchange 10 = .ok (.ifCond .eq 19, 3) := by decide +kernel
theorem dX10_exchange_13 : decode cX10_exchange 13 = .ok (.iload_n 2, 1) := by decide +kernel
theorem dX10_exchange_14 : decode cX10_exchange 14 = .ok (.i2l, 1) := by decide +kernel
theorem dX10_exchange_15 : decode cX10_exchange 15 = .ok (.lconst 0, 1) := by decide +kernel
theorem dX10_exchange_16 : decode cX10_exchange 16 = .ok (.ldc2_w 216, 3) := by decide +kernel
theorem dX10_exchange_19 : decode cX10_exchange 19 = .ok (.invokestatic 84, 3) := by decide +kernel
theorem dX10_exchange_22 : decode cX10_exchange 22 = .ok (.ifCond .eq 7, 3) := by decide +kernel
theorem dX10_exchange_25 : decode cX10_exchange 25 = .ok (.iconst 0, 1) := by decide +kernel
theorem dX10_exchange_26 : decode cX10_exchange 26 = .ok (.goto 4, 3) := by decide +kernel
theorem dX10_exchange_29 : decode cX10_exchange 29 = .ok (.iconst 1, 1) := by decide +kernel
theorem dX10_exchange_30 : decode cX10_exchange 30 = .ok (.invokevirtual 173, 3) := by decide +kernel
theorem dX10_exchange_33 : decode cX10_exchange 33 = .ok (.ifCond .eq 5, 3) := by decide +kernel
theorem dX10_exchange_36 : decode cX10_exchange 36 = .ok (.iconst 0, 1) := by decide +kernel
theorem dX10_exchange_37 : decode cX10_exchange 37 = .ok (.ireturn, 1) := by decide +kernel
theorem dX10_exchange_38 : decode cX10_exchange 38 = .ok (.aload_n 0, 1) := by decide +kernel
theorem dX10_exchange_39 : decode cX10_exchange 39 = .ok (.invokevirtual 225, 3) := by decide +kernel
theorem dX10_exchange_42 : decode cX10_exchange 42 = .ok (.aload_n 0, 1) := by decide +kernel
theorem dX10_exchange_43 : decode cX10_exchange 43 = .ok (.getfield 16, 3) := by decide +kernel
theorem dX10_exchange_46 : decode cX10_exchange 46 = .ok (.iload_n 1, 1) := by decide +kernel
theorem dX10_exchange_47 : decode cX10_exchange 47 = .ok (.iload_n 2, 1) := by decide +kernel
theorem dX10_exchange_48 : decode cX10_exchange 48 = .ok (.invokestatic 242, 3) := by decide +kernel
theorem dX10_exchange_51 : decode cX10_exchange 51 = .ok (.ireturn, 1) := by decide +kernel
theorem dX10_take_0 : decode cX10_take 0 = .ok (.aload_n 0, 1) := by decide +kernel
theorem dX10_take_1 : decode cX10_take 1 = .ok (.aload_n 0, 1) := by decide +kernel
theorem dX10_take_2 : decode cX10_take 2 = .ok (.aload_n 0, 1) := by decide +kernel
theorem dX10_take_3 : decode cX10_take 3 = .ok (.getfield 7, 3) := by decide +kernel
theorem dX10_take_6 : decode cX10_take 6 = .ok (.iconst 0, 1) := by decide +kernel
theorem dX10_take_7 : decode cX10_take 7 = .ok (.aload_n 0, 1) := by decide +kernel
theorem dX10_take_8 : decode cX10_take 8 = .ok (.getfield 170, 3) := by decide +kernel
theorem dX10_take_11 : decode cX10_take 11 = .ok (.invokevirtual 134, 3) := by decide +kernel
theorem dX10_take_14 : decode cX10_take 14 = .ok (.bipush (-9), 2) := by decide +kernel
theorem dX10_take_16 : decode cX10_take 16 = .ok (.if_icmp .ne 7, 3) := by decide +kernel
theorem dX10_take_19 : decode cX10_take 19 = .ok (.iconst 0, 1) := by decide +kernel
theorem dX10_take_20 : decode cX10_take 20 = .ok (.goto 4, 3) := by decide +kernel
theorem dX10_take_23 : decode cX10_take 23 = .ok (.iconst 1, 1) := by decide +kernel
theorem dX10_take_24 : decode cX10_take 24 = .ok (.invokevirtual 173, 3) := by decide +kernel
theorem dX10_take_27 : decode cX10_take 27 = .ok (.ifCond .eq 5, 3) := by decide +kernel
theorem dX10_take_30 : decode cX10_take 30 = .ok (.iconst 0, 1) := by decide +kernel
theorem dX10_take_31 : decode cX10_take 31 = .ok (.ireturn, 1) := by decide +kernel
theorem dX10_take_32 : decode cX10_take 32 = .ok (.aload_n 0, 1) := by decide +kernel
theorem dX10_take_33 : decode cX10_take 33 = .ok (.invokevirtual 225, 3) := by decide +kernel
theorem dX10_take_36 : decode cX10_take 36 = .ok (.aload_n 0, 1) := by decide +kernel
theorem dX10_take_37 : decode cX10_take 37 = .ok (.getfield 16, 3) := by decide +kernel
theorem dX10_take_40 : decode cX10_take 40 = .ok (.iconst 2, 1) := by decide +kernel
theorem dX10_take_41 : decode cX10_take 41 = .ok (.aload_n 0, 1) := by decide +kernel
theorem dX10_take_42 : decode cX10_take 42 = .ok (.getfield 170, 3) := by decide +kernel
theorem dX10_take_45 : decode cX10_take 45 = .ok (.iastore, 1) := by decide +kernel
theorem dX10_take_46 : decode cX10_take 46 = .ok (.iconst 0, 1) := by decide +kernel
theorem dX10_take_47 : decode cX10_take 47 = .ok (.istore_n 1, 1) := by decide +kernel
theorem dX10_take_48 : decode cX10_take 48 = .ok (.iload_n 1, 1) := by decide +kernel
theorem dX10_take_49 : decode cX10_take 49 = .ok (.bipush 40, 2) := by decide +kernel
theorem dX10_take_51 : decode cX10_take 51 = .ok (.if_icmp .ge 36, 3) := by decide +kernel
theorem dX10_take_54 : decode cX10_take 54 = .ok (.aload_n 0, 1) := by decide +kernel
theorem dX10_take_55 : decode cX10_take 55 = .ok (.getfield 16, 3) := by decide +kernel
theorem dX10_take_58 : decode cX10_take 58 = .ok (.bipush 103, 2) := by decide +kernel
theorem dX10_take_60 : decode cX10_take 60 = .ok (.iload_n 1, 1) := by decide +kernel
theorem dX10_take_61 : decode cX10_take 61 = .ok (.iadd, 1) := by decide +kernel
theorem dX10_take_62 : decode cX10_take 62 = .ok (.iload_n 1, 1) := by decide +kernel
theorem dX10_take_63 : decode cX10_take 63 = .ok (.aload_n 0, 1) := by decide +kernel
theorem dX10_take_64 : decode cX10_take 64 = .ok (.getfield 170, 3) := by decide +kernel
theorem dX10_take_67 : decode cX10_take 67 = .ok (.if_icmp .ge 12, 3) := by decide +kernel
theorem dX10_take_70 : decode cX10_take 70 = .ok (.aload_n 0, 1) := by decide +kernel
theorem dX10_take_71 : decode cX10_take 71 = .ok (.getfield 7, 3) := by decide +kernel
theorem dX10_take_74 : decode cX10_take 74 = .ok (.iload_n 1, 1) := by decide +kernel
theorem dX10_take_75 : decode cX10_take 75 = .ok (.iaload, 1) := by decide +kernel
theorem dX10_take_76 : decode cX10_take 76 = .ok (.goto 4, 3) := by decide +kernel
theorem dX10_take_79 : decode cX10_take 79 = .ok (.iconst 0, 1) := by decide +kernel
theorem dX10_take_80 : decode cX10_take 80 = .ok (.iastore, 1) := by decide +kernel
theorem dX10_take_81 : decode cX10_take 81 = .ok (.iinc 1 1, 3) := by decide +kernel
theorem dX10_take_84 : decode cX10_take 84 = .ok (.goto (-36), 3) := by decide +kernel
theorem dX10_take_87 : decode cX10_take 87 = .ok (.aload_n 0, 1) := by decide +kernel
theorem dX10_take_88 : decode cX10_take 88 = .ok (.getfield 96, 3) := by decide +kernel
theorem dX10_take_91 : decode cX10_take 91 = .ok (.ireturn, 1) := by decide +kernel
theorem dX10_undo_0 : decode cX10_undo 0 = .ok (.aload_n 0, 1) := by decide +kernel
theorem dX10_undo_1 : decode cX10_undo 1 = .ok (.aload_n 0, 1) := by decide +kernel
theorem dX10_undo_2 : decode cX10_undo 2 = .ok (.getfield 77, 3) := by decide +kernel
theorem dX10_undo_5 : decode cX10_undo 5 = .ok (.ifCond .ne 7, 3) := by decide +kernel
theorem dX10_undo_8 : decode cX10_undo 8 = .ok (.iconst 1, 1) := by decide +kernel
theorem dX10_undo_9 : decode cX10_undo 9 = .ok (.goto 4, 3) := by decide +kernel
theorem dX10_undo_12 : decode cX10_undo 12 = .ok (.iconst 0, 1) := by decide +kernel
theorem dX10_undo_13 : decode cX10_undo 13 = .ok (.invokevirtual 173, 3) := by decide +kernel
theorem dX10_undo_16 : decode cX10_undo 16 = .ok (.ifCond .eq 5, 3) := by decide +kernel
theorem dX10_undo_19 : decode cX10_undo 19 = .ok (.iconst 0, 1) := by decide +kernel
theorem dX10_undo_20 : decode cX10_undo 20 = .ok (.ireturn, 1) := by decide +kernel
theorem dX10_undo_21 : decode cX10_undo 21 = .ok (.aload_n 0, 1) := by decide +kernel
theorem dX10_undo_22 : decode cX10_undo 22 = .ok (.dup, 1) := by decide +kernel
theorem dX10_undo_23 : decode cX10_undo 23 = .ok (.getfield 77, 3) := by decide +kernel
theorem dX10_undo_26 : decode cX10_undo 26 = .ok (.iconst 1, 1) := by decide +kernel
theorem dX10_undo_27 : decode cX10_undo 27 = .ok (.isub, 1) := by decide +kernel
theorem dX10_undo_28 : decode cX10_undo 28 = .ok (.putfield 77, 3) := by decide +kernel
theorem dX10_undo_31 : decode cX10_undo 31 = .ok (.aload_n 0, 1) := by decide +kernel
theorem dX10_undo_32 : decode cX10_undo 32 = .ok (.getfield 22, 3) := by decide +kernel
theorem dX10_undo_35 : decode cX10_undo 35 = .ok (.sipush 143, 3) := by decide +kernel
theorem dX10_undo_38 : decode cX10_undo 38 = .ok (.aload_n 0, 1) := by decide +kernel
theorem dX10_undo_39 : decode cX10_undo 39 = .ok (.getfield 77, 3) := by decide +kernel
theorem dX10_undo_42 : decode cX10_undo 42 = .ok (.imul, 1) := by decide +kernel
theorem dX10_undo_43 : decode cX10_undo 43 = .ok (.aload_n 0, 1) := by decide +kernel
theorem dX10_undo_44 : decode cX10_undo 44 = .ok (.getfield 16, 3) := by decide +kernel
theorem dX10_undo_47 : decode cX10_undo 47 = .ok (.iconst 0, 1) := by decide +kernel
theorem dX10_undo_48 : decode cX10_undo 48 = .ok (.invokestatic 197, 3) := by decide +kernel
theorem dX10_undo_51 : decode cX10_undo 51 = .ok (.aload_n 0, 1) := by decide +kernel
theorem dX10_undo_52 : decode cX10_undo 52 = .ok (.getfield 77, 3) := by decide +kernel
theorem dX10_undo_55 : decode cX10_undo 55 = .ok (.ireturn, 1) := by decide +kernel
theorem dX10_areNoPeople_0 : decode cX10_areNoPeople 0 = .ok (.aload_n 0, 1) := by decide +kernel
theorem dX10_areNoPeople_1 : decode cX10_areNoPeople 1 = .ok (.aload_n 0, 1) := by decide +kernel
theorem dX10_areNoPeople_2 : decode cX10_areNoPeople 2 = .ok (.getfield 16, 3) := by decide +kernel
theorem dX10_areNoPeople_5 : decode cX10_areNoPeople 5 = .ok (.iload_n 1, 1) := by decide +kernel
theorem dX10_areNoPeople_6 : decode cX10_areNoPeople 6 = .ok (.invokestatic 218, 3) := by decide +kernel
theorem dX10_areNoPeople_9 : decode cX10_areNoPeople 9 = .ok (.ifCond .eq 18, 3) := by decide +kernel
theorem dX10_areNoPeople_12 : decode cX10_areNoPeople 12 = .ok (.aload_n 0, 1) := by decide +kernel
theorem dX10_areNoPeople_13 : decode cX10_areNoPeople 13 = .ok (.getfield 16, 3) := by decide +kernel
theorem dX10_areNoPeople_16 : decode cX10_areNoPeople 16 = .ok (.iload_n 2, 1) := by decide +kernel
theorem dX10_areNoPeople_17 : decode cX10_areNoPeople 17 = .ok (.invokestatic 218, 3) := by decide +kernel
theorem dX10_areNoPeople_20 : decode cX10_areNoPeople 20 = .ok (.ifCond .eq 7, 3) := by decide +kernel
theorem dX10_areNoPeople_23 : decode cX10_areNoPeople 23 = .ok (.iconst 0, 1) := by decide +kernel
theorem dX10_areNoPeople_24 : decode cX10_areNoPeople 24 = .ok (.goto 4, 3) := by decide +kernel
theorem dX10_areNoPeople_27 : decode cX10_areNoPeople 27 = .ok (.iconst 1, 1) := by decide +kernel
theorem dX10_areNoPeople_28 : decode cX10_areNoPeople 28 = .ok (.invokevirtual 173, 3) := by decide +kernel
theorem dX10_areNoPeople_31 : decode cX10_areNoPeople 31 = .ok (.ireturn, 1) := by decide +kernel
theorem dX10_cost_0 : decode cX10_cost 0 = .ok (.aload_n 0, 1) := by decide +kernel
theorem dX10_cost_1 : decode cX10_cost 1 = .ok (.iload_n 1, 1) := by decide +kernel
theorem dX10_cost_2 : decode cX10_cost 2 = .ok (.iload_n 2, 1) := by decide +kernel
theorem dX10_cost_3 : decode cX10_cost 3 = .ok (.invokevirtual 245, 3) := by decide +kernel
theorem dX10_cost_6 : decode cX10_cost 6 = .ok (.ifCond .eq 5, 3) := by decide +kernel
theorem dX10_cost_9 : decode cX10_cost 9 = .ok (.iconst 0, 1) := by decide +kernel
theorem dX10_cost_10 : decode cX10_cost 10 = .ok (.ireturn, 1) := by decide +kernel
theorem dX10_cost_11 : decode cX10_cost 11 = .ok (.aload_n 0, 1) := by decide +kernel
theorem dX10_cost_12 : decode cX10_cost 12 = .ok (.iload_n 1, 1) := by decide +kernel
theorem dX10_cost_13 : decode cX10_cost 13 = .ok (.iload_n 2, 1) := by decide +kernel
theorem dX10_cost_14 : decode cX10_cost 14 = .ok (.invokevirtual 249, 3) := by decide +kernel
theorem dX10_cost_17 : decode cX10_cost 17 = .ok (.istore_n 3, 1) := by decide +kernel
theorem dX10_cost_18 : decode cX10_cost 18 = .ok (.iload_n 3, 1) := by decide +kernel
theorem dX10_cost_19 : decode cX10_cost 19 = .ok (.ldc 145, 2) := by decide +kernel
theorem dX10_cost_21 : decode cX10_cost 21 = .ok (.if_icmp .ge 11, 3) := by decide +kernel
theorem dX10_cost_24 : decode cX10_cost 24 = .ok (.iload_n 3, 1) := by decide +kernel
theorem dX10_cost_25 : decode cX10_cost 25 = .ok (.sipush 1000, 3) := by decide +kernel
theorem dX10_cost_28 : decode cX10_cost 28 = .ok (.idiv, 1) := by decide +kernel
theorem dX10_cost_29 : decode cX10_cost 29 = .ok (.goto 5, 3) := by decide +kernel
theorem dX10_cost_32 : decode cX10_cost 32 = .ok (.bipush (-9), 2) := by decide +kernel
theorem dX10_cost_34 : decode cX10_cost 34 = .ok (.ireturn, 1) := by decide +kernel
theorem dX10_length_0 : decode cX10_length 0 = .ok (.aload_n 0, 1) := by decide +kernel
theorem dX10_length_1 : decode cX10_length 1 = .ok (.iload_n 1, 1) := by decide +kernel
theorem dX10_length_2 : decode cX10_length 2 = .ok (.iload_n 2, 1) := by decide +kernel
theorem dX10_length_3 : decode cX10_length 3 = .ok (.invokevirtual 245, 3) := by decide +kernel
theorem dX10_length_6 : decode cX10_length 6 = .ok (.ifCond .eq 5, 3) := by decide +kernel
theorem dX10_length_9 : decode cX10_length 9 = .ok (.iconst 0, 1) := by decide +kernel
theorem dX10_length_10 : decode cX10_length 10 = .ok (.ireturn, 1) := by decide +kernel
theorem dX10_length_11 : decode cX10_length 11 = .ok (.aload_n 0, 1) := by decide +kernel
theorem dX10_length_12 : decode cX10_length 12 = .ok (.iload_n 1, 1) := by decide +kernel
theorem dX10_length_13 : decode cX10_length 13 = .ok (.iload_n 2, 1) := by decide +kernel
theorem dX10_length_14 : decode cX10_length 14 = .ok (.invokevirtual 249, 3) := by decide +kernel
theorem dX10_length_17 : decode cX10_length 17 = .ok (.istore_n 3, 1) := by decide +kernel
theorem dX10_length_18 : decode cX10_length 18 = .ok (.iload_n 3, 1) := by decide +kernel
theorem dX10_length_19 : decode cX10_length 19 = .ok (.ldc 145, 2) := by decide +kernel
theorem dX10_length_21 : decode cX10_length 21 = .ok (.if_icmp .ge 11, 3) := by decide +kernel
theorem dX10_length_24 : decode cX10_length 24 = .ok (.iload_n 3, 1) := by decide +kernel
theorem dX10_length_25 : decode cX10_length 25 = .ok (.sipush 1000, 3) := by decide +kernel
theorem dX10_length_28 : decode cX10_length 28 = .ok (.irem, 1) := by decide +kernel
theorem dX10_length_29 : decode cX10_length 29 = .ok (.goto 5, 3) := by decide +kernel
theorem dX10_length_32 : decode cX10_length 32 = .ok (.bipush (-9), 2) := by decide +kernel
theorem dX10_length_34 : decode cX10_length 34 = .ok (.ireturn, 1) := by decide +kernel
theorem dX10_soFar_0 : decode cX10_soFar 0 = .ok (.iconst 0, 1) := by decide +kernel
theorem dX10_soFar_1 : decode cX10_soFar 1 = .ok (.istore 4, 2) := by decide +kernel
theorem dX10_soFar_3 : decode cX10_soFar 3 = .ok (.iconst 0, 1) := by decide +kernel
theorem dX10_soFar_4 : decode cX10_soFar 4 = .ok (.istore 5, 2) := by decide +kernel
theorem dX10_soFar_6 : decode cX10_soFar 6 = .ok (.iload 5, 2) := by decide +kernel
theorem dX10_soFar_8 : decode cX10_soFar 8 = .ok (.aload_n 0, 1) := by decide +kernel
theorem dX10_soFar_9 : decode cX10_soFar 9 = .ok (.getfield 96, 3) := by decide +kernel
theorem dX10_soFar_12 : decode cX10_soFar 12 = .ok (.if_icmp .gt 48, 3) := by decide +kernel
theorem dX10_soFar_15 : decode cX10_soFar 15 = .ok (.iload 4, 2) := by decide +kernel
theorem dX10_soFar_17 : decode cX10_soFar 17 = .ok (.iload_n 1, 1) := by decide +kernel
theorem dX10_soFar_18 : decode cX10_soFar 18 = .ok (.iload 5, 2) := by decide +kernel
theorem dX10_soFar_20 : decode cX10_soFar 20 = .ok (.ishr, 1) := by decide +kernel
theorem dX10_soFar_21 : decode cX10_soFar 21 = .ok (.iconst 1, 1) := by decide +kernel
theorem dX10_soFar_22 : decode cX10_soFar 22 = .ok (.iand, 1) := by decide +kernel
theorem dX10_soFar_23 : decode cX10_soFar 23 = .ok (.iconst 1, 1) := by decide +kernel
theorem dX10_soFar_24 : decode cX10_soFar 24 = .ok (.if_icmp .ne 26, 3) := by decide +kernel
theorem dX10_soFar_27 : decode cX10_soFar 27 = .ok (.aload_n 0, 1) := by decide +kernel
theorem dX10_soFar_28 : decode cX10_soFar 28 = .ok (.getfield 59, 3) := by decide +kernel
theorem dX10_soFar_31 : decode cX10_soFar 31 = .ok (.bipush 21, 2) := by decide +kernel
theorem dX10_soFar_33 : decode cX10_soFar 33 = .ok (.iload_n 2, 1) := by decide +kernel
theorem dX10_soFar_34 : decode cX10_soFar 34 = .ok (.imul, 1) := by decide +kernel
theorem dX10_soFar_35 : decode cX10_soFar 35 = .ok (.iload 5, 2) := by decide +kernel
theorem dX10_soFar_37 : decode cX10_soFar 37 = .ok (.iadd, 1) := by decide +kernel
theorem dX10_soFar_38 : decode cX10_soFar 38 = .ok (.iaload, 1) := by decide +kernel
theorem dX10_soFar_39 : decode cX10_soFar 39 = .ok (.iload_n 3, 1) := by decide +kernel
theorem dX10_soFar_40 : decode cX10_soFar 40 = .ok (.if_icmp .ne 10, 3) := by decide +kernel
theorem dX10_soFar_43 : decode cX10_soFar 43 = .ok (.iconst 1, 1) := by decide +kernel
theorem dX10_soFar_44 : decode cX10_soFar 44 = .ok (.iload 5, 2) := by decide +kernel
theorem dX10_soFar_46 : decode cX10_soFar 46 = .ok (.ishl, 1) := by decide +kernel
theorem dX10_soFar_47 : decode cX10_soFar 47 = .ok (.goto 4, 3) := by decide +kernel
theorem dX10_soFar_50 : decode cX10_soFar 50 = .ok (.iconst 0, 1) := by decide +kernel
theorem dX10_soFar_51 : decode cX10_soFar 51 = .ok (.ior, 1) := by decide +kernel
theorem dX10_soFar_52 : decode cX10_soFar 52 = .ok (.istore 4, 2) := by decide +kernel
theorem dX10_soFar_54 : decode cX10_soFar 54 = .ok (.iinc 5 1, 3) := by decide +kernel
theorem dX10_soFar_57 : decode cX10_soFar 57 = .ok (.goto (-51), 3) := by decide +kernel
theorem dX10_soFar_60 : decode cX10_soFar 60 = .ok (.iload 4, 2) := by decide +kernel
theorem dX10_soFar_62 : decode cX10_soFar 62 = .ok (.ireturn, 1) := by decide +kernel
theorem dX10_pathAt_0 : decode cX10_pathAt 0 = .ok (.aload_n 0, 1) := by decide +kernel
theorem dX10_pathAt_1 : decode cX10_pathAt 1 = .ok (.aload_n 0, 1) := by decide +kernel
theorem dX10_pathAt_2 : decode cX10_pathAt 2 = .ok (.getfield 16, 3) := by decide +kernel
theorem dX10_pathAt_5 : decode cX10_pathAt 5 = .ok (.iload_n 1, 1) := by decide +kernel
theorem dX10_pathAt_6 : decode cX10_pathAt 6 = .ok (.invokestatic 218, 3) := by decide +kernel
theorem dX10_pathAt_9 : decode cX10_pathAt 9 = .ok (.ifCond .eq 14, 3) := by decide +kernel
theorem dX10_pathAt_12 : decode cX10_pathAt 12 = .ok (.aload_n 0, 1) := by decide +kernel
theorem dX10_pathAt_13 : decode cX10_pathAt 13 = .ok (.getfield 16, 3) := by decide +kernel
theorem dX10_pathAt_16 : decode cX10_pathAt 16 = .ok (.iload_n 2, 1) := by decide +kernel
theorem dX10_pathAt_17 : decode cX10_pathAt 17 = .ok (.invokestatic 218, 3) := by decide +kernel
theorem dX10_pathAt_20 : decode cX10_pathAt 20 = .ok (.ifCond .ne 7, 3) := by decide +kernel
theorem dX10_pathAt_23 : decode cX10_pathAt 23 = .ok (.iconst 1, 1) := by decide +kernel
theorem dX10_pathAt_24 : decode cX10_pathAt 24 = .ok (.goto 12, 3) := by decide +kernel
theorem dX10_pathAt_27 : decode cX10_pathAt 27 = .ok (.iload_n 3, 1) := by decide +kernel
theorem dX10_pathAt_28 : decode cX10_pathAt 28 = .ok (.ifCond .ge 7, 3) := by decide +kernel
theorem dX10_pathAt_31 : decode cX10_pathAt 31 = .ok (.iconst 2, 1) := by decide +kernel
theorem dX10_pathAt_32 : decode cX10_pathAt 32 = .ok (.goto 4, 3) := by decide +kernel
theorem dX10_pathAt_35 : decode cX10_pathAt 35 = .ok (.iconst 0, 1) := by decide +kernel
theorem dX10_pathAt_36 : decode cX10_pathAt 36 = .ok (.invokevirtual 173, 3) := by decide +kernel
theorem dX10_pathAt_39 : decode cX10_pathAt 39 = .ok (.ifCond .eq 5, 3) := by decide +kernel
theorem dX10_pathAt_42 : decode cX10_pathAt 42 = .ok (.iconst 0, 1) := by decide +kernel
theorem dX10_pathAt_43 : decode cX10_pathAt 43 = .ok (.ireturn, 1) := by decide +kernel
theorem dX10_pathAt_44 : decode cX10_pathAt 44 = .ok (.aload_n 0, 1) := by decide +kernel
theorem dX10_pathAt_45 : decode cX10_pathAt 45 = .ok (.iload_n 1, 1) := by decide +kernel
theorem dX10_pathAt_46 : decode cX10_pathAt 46 = .ok (.iload_n 2, 1) := by decide +kernel
theorem dX10_pathAt_47 : decode cX10_pathAt 47 = .ok (.invokevirtual 249, 3) := by decide +kernel
theorem dX10_pathAt_50 : decode cX10_pathAt 50 = .ok (.istore 4, 2) := by decide +kernel
theorem dX10_pathAt_52 : decode cX10_pathAt 52 = .ok (.iload 4, 2) := by decide +kernel
theorem dX10_pathAt_54 : decode cX10_pathAt 54 = .ok (.ldc 145, 2) := by decide +kernel
theorem dX10_pathAt_56 : decode cX10_pathAt 56 = .ok (.if_icmp .ge 13, 3) := by decide +kernel
theorem dX10_pathAt_59 : decode cX10_pathAt 59 = .ok (.iload_n 3, 1) := by decide +kernel
theorem dX10_pathAt_60 : decode cX10_pathAt 60 = .ok (.iload 4, 2) := by decide +kernel
theorem dX10_pathAt_62 : decode cX10_pathAt 62 = .ok (.sipush 1000, 3) := by decide +kernel
theorem dX10_pathAt_65 : decode cX10_pathAt 65 = .ok (.irem, 1) := by decide +kernel
theorem dX10_pathAt_66 : decode cX10_pathAt 66 = .ok (.if_icmp .lt 6, 3) := by decide +kernel
theorem dX10_pathAt_69 : decode cX10_pathAt 69 = .ok (.bipush (-9), 2) := by decide +kernel
theorem dX10_pathAt_71 : decode cX10_pathAt 71 = .ok (.ireturn, 1) := by decide +kernel
theorem dX10_pathAt_72 : decode cX10_pathAt 72 = .ok (.iconst 1, 1) := by decide +kernel
theorem dX10_pathAt_73 : decode cX10_pathAt 73 = .ok (.istore 5, 2) := by decide +kernel
theorem dX10_pathAt_75 : decode cX10_pathAt 75 = .ok (.iload_n 1, 1) := by decide +kernel
theorem dX10_pathAt_76 : decode cX10_pathAt 76 = .ok (.istore 6, 2) := by decide +kernel
theorem dX10_pathAt_78 : decode cX10_pathAt 78 = .ok (.bipush (-9), 2) := by decide +kernel
theorem dX10_pathAt_80 : decode cX10_pathAt 80 = .ok (.istore 7, 2) := by decide +kernel
theorem dX10_pathAt_82 : decode cX10_pathAt 82 = .ok (.iconst 0, 1) := by decide +kernel
theorem dX10_pathAt_83 : decode cX10_pathAt 83 = .ok (.istore 8, 2) := by decide +kernel
theorem dX10_pathAt_85 : decode cX10_pathAt 85 = .ok (.iload 8, 2) := by decide +kernel
theorem dX10_pathAt_87 : decode cX10_pathAt 87 = .ok (.iload_n 3, 1) := by decide +kernel
theorem dX10_pathAt_88 : decode cX10_pathAt 88 = .ok (.if_icmp .gt 210, 3) := by decide +kernel
theorem dX10_pathAt_91 : decode cX10_pathAt 91 = .ok (.iconst 0, 1) := by decide +kernel
theorem dX10_pathAt_92 : decode cX10_pathAt 92 = .ok (.istore 9, 2) := by decide +kernel
theorem dX10_pathAt_94 : decode cX10_pathAt 94 = .ok (.iconst 0, 1) := by decide +kernel
theorem dX10_pathAt_95 : decode cX10_pathAt 95 = .ok (.istore 10, 2) := by decide +kernel
theorem dX10_pathAt_97 : decode cX10_pathAt 97 = .ok (.iload 10, 2) := by decide +kernel
theorem dX10_pathAt_99 : decode cX10_pathAt 99 = .ok (.iconst 2, 1) := by decide +kernel
theorem dX10_pathAt_100 : decode cX10_pathAt 100 = .ok (.aload_n 0, 1) := by decide +kernel
theorem dX10_pathAt_101 : decode cX10_pathAt 101 = .ok (.getfield 16, 3) := by decide +kernel
theorem dX10_pathAt_104 : decode cX10_pathAt 104 = .ok (.iconst 1, 1) := by decide +kernel
theorem dX10_pathAt_105 : decode cX10_pathAt 105 = .ok (.iaload, 1) := by decide +kernel
theorem dX10_pathAt_106 : decode cX10_pathAt 106 = .ok (.imul, 1) := by decide +kernel
theorem dX10_pathAt_107 : decode cX10_pathAt 107 = .ok (.if_icmp .ge 185, 3) := by decide +kernel
theorem dX10_pathAt_110 : decode cX10_pathAt 110 = .ok (.iload 9, 2) := by decide +kernel
theorem dX10_pathAt_112 : decode cX10_pathAt 112 = .ok (.ifCond .ne 180, 3) := by decide +kernel
theorem dX10_pathAt_115 : decode cX10_pathAt 115 = .ok (.iload 10, 2) := by decide +kernel
theorem dX10_pathAt_117 : decode cX10_pathAt 117 = .ok (.iconst 2, 1) := by decide +kernel
theorem dX10_pathAt_118 : decode cX10_pathAt 118 = .ok (.idiv, 1) := by decide +kernel
theorem dX10_pathAt_119 : decode cX10_pathAt 119 = .ok (.istore 11, 2) := by decide +kernel
theorem dX10_pathAt_121 : decode cX10_pathAt 121 = .ok (.aload_n 0, 1) := by decide +kernel
theorem dX10_pathAt_122 : decode cX10_pathAt 122 = .ok (.getfield 16, 3) := by decide +kernel
theorem dX10_pathAt_125 : decode cX10_pathAt 125 = .ok (.iload 11, 2) := by decide +kernel
theorem dX10_pathAt_127 : decode cX10_pathAt 127 = .ok (.invokestatic 88, 3) := by decide +kernel
theorem dX10_pathAt_130 : decode cX10_pathAt 130 = .ok (.iload 10, 2) := by decide +kernel
theorem dX10_pathAt_132 : decode cX10_pathAt 132 = .ok (.iconst 2, 1) := by decide +kernel
theorem dX10_pathAt_133 : decode cX10_pathAt 133 = .ok (.irem, 1) := by decide +kernel
theorem dX10_pathAt_134 : decode cX10_pathAt 134 = .ok (.ifCond .ne 7, 3) := by decide +kernel
theorem dX10_pathAt_137 : decode cX10_pathAt 137 = .ok (.iconst 0, 1) := by decide +kernel
theorem dX10_pathAt_138 : decode cX10_pathAt 138 = .ok (.goto 4, 3) := by decide +kernel
theorem dX10_pathAt_141 : decode cX10_pathAt 141 = .ok (.iconst 2, 1) := by decide +kernel
theorem dX10_pathAt_142 : decode cX10_pathAt 142 = .ok (.iadd, 1) := by decide +kernel
theorem dX10_pathAt_143 : decode cX10_pathAt 143 = .ok (.iaload, 1) := by decide +kernel
theorem dX10_pathAt_144 : decode cX10_pathAt 144 = .ok (.istore 12, 2) := by decide +kernel
theorem dX10_pathAt_146 : decode cX10_pathAt 146 = .ok (.aload_n 0, 1) := by decide +kernel
theorem dX10_pathAt_147 : decode cX10_pathAt 147 = .ok (.getfield 16, 3) := by decide +kernel
theorem dX10_pathAt_150 : decode cX10_pathAt 150 = .ok (.iload 11, 2) := by decide +kernel
theorem dX10_pathAt_152 : decode cX10_pathAt 152 = .ok (.invokestatic 88, 3) := by decide +kernel
theorem dX10_pathAt_155 : decode cX10_pathAt 155 = .ok (.iload 10, 2) := by decide +kernel
theorem dX10_pathAt_157 : decode cX10_pathAt 157 = .ok (.iconst 2, 1) := by decide +kernel
theorem dX10_pathAt_158 : decode cX10_pathAt 158 = .ok (.irem, 1) := by decide +kernel
theorem dX10_pathAt_159 : decode cX10_pathAt 159 = .ok (.ifCond .ne 7, 3) := by decide +kernel
theorem dX10_pathAt_162 : decode cX10_pathAt 162 = .ok (.iconst 2, 1) := by decide +kernel
theorem dX10_pathAt_163 : decode cX10_pathAt 163 = .ok (.goto 4, 3) := by decide +kernel
theorem dX10_pathAt_166 : decode cX10_pathAt 166 = .ok (.iconst 0, 1) := by decide +kernel
theorem dX10_pathAt_167 : decode cX10_pathAt 167 = .ok (.iadd, 1) := by decide +kernel
theorem dX10_pathAt_168 : decode cX10_pathAt 168 = .ok (.iaload, 1) := by decide +kernel
theorem dX10_pathAt_169 : decode cX10_pathAt 169 = .ok (.istore 13, 2) := by decide +kernel
theorem dX10_pathAt_171 : decode cX10_pathAt 171 = .ok (.aload_n 0, 1) := by decide +kernel
theorem dX10_pathAt_172 : decode cX10_pathAt 172 = .ok (.getfield 16, 3) := by decide +kernel
theorem dX10_pathAt_175 : decode cX10_pathAt 175 = .ok (.iload 11, 2) := by decide +kernel
theorem dX10_pathAt_177 : decode cX10_pathAt 177 = .ok (.invokestatic 88, 3) := by decide +kernel
theorem dX10_pathAt_180 : decode cX10_pathAt 180 = .ok (.iconst 1, 1) := by decide +kernel
theorem dX10_pathAt_181 : decode cX10_pathAt 181 = .ok (.iadd, 1) := by decide +kernel
theorem dX10_pathAt_182 : decode cX10_pathAt 182 = .ok (.iaload, 1) := by decide +kernel
theorem dX10_pathAt_183 : decode cX10_pathAt 183 = .ok (.istore 14, 2) := by decide +kernel
theorem dX10_pathAt_185 : decode cX10_pathAt 185 = .ok (.iload 4, 2) := by decide +kernel
theorem dX10_pathAt_187 : decode cX10_pathAt 187 = .ok (.sipush 1000, 3) := by decide +kernel
theorem dX10_pathAt_190 : decode cX10_pathAt 190 = .ok (.aload_n 0, 1) := by decide +kernel
theorem dX10_pathAt_191 : decode cX10_pathAt 191 = .ok (.getfield 56, 3) := by decide +kernel
theorem dX10_pathAt_194 : decode cX10_pathAt 194 = .ok (.iload 11, 2) := by decide +kernel
theorem dX10_pathAt_196 : decode cX10_pathAt 196 = .ok (.iaload, 1) := by decide +kernel
theorem dX10_pathAt_197 : decode cX10_pathAt 197 = .ok (.imul, 1) := by decide +kernel
theorem dX10_pathAt_198 : decode cX10_pathAt 198 = .ok (.isub, 1) := by decide +kernel
theorem dX10_pathAt_199 : decode cX10_pathAt 199 = .ok (.iconst 1, 1) := by decide +kernel
theorem dX10_pathAt_200 : decode cX10_pathAt 200 = .ok (.isub, 1) := by decide +kernel
theorem dX10_pathAt_201 : decode cX10_pathAt 201 = .ok (.istore 15, 2) := by decide +kernel
theorem dX10_pathAt_203 : decode cX10_pathAt 203 = .ok (.iload 12, 2) := by decide +kernel
theorem dX10_pathAt_205 : decode cX10_pathAt 205 = .ok (.iload 6, 2) := by decide +kernel
theorem dX10_pathAt_207 : decode cX10_pathAt 207 = .ok (.if_icmp .ne 44, 3) := by decide +kernel
theorem dX10_pathAt_210 : decode cX10_pathAt 210 = .ok (.aload_n 0, 1) := by decide +kernel
theorem dX10_pathAt_211 : decode cX10_pathAt 211 = .ok (.aload_n 0, 1) := by decide +kernel
theorem dX10_pathAt_212 : decode cX10_pathAt 212 = .ok (.iload 5, 2) := by decide +kernel
theorem dX10_pathAt_214 : decode cX10_pathAt 214 = .ok (.iload 10, 2) := by decide +kernel
theorem dX10_pathAt_216 : decode cX10_pathAt 216 = .ok (.iconst 2, 1) := by decide +kernel
theorem dX10_pathAt_217 : decode cX10_pathAt 217 = .ok (.irem, 1) := by decide +kernel
theorem dX10_pathAt_218 : decode cX10_pathAt 218 = .ok (.ifCond .ne 13, 3) := by decide +kernel
theorem dX10_pathAt_221 : decode cX10_pathAt 221 = .ok (.aload_n 0, 1) := by decide +kernel
theorem dX10_pathAt_222 : decode cX10_pathAt 222 = .ok (.getfield 62, 3) := by decide +kernel
theorem dX10_pathAt_225 : decode cX10_pathAt 225 = .ok (.iload 14, 2) := by decide +kernel
theorem dX10_pathAt_227 : decode cX10_pathAt 227 = .ok (.iaload, 1) := by decide +kernel
theorem dX10_pathAt_228 : decode cX10_pathAt 228 = .ok (.goto 10, 3) := by decide +kernel
theorem dX10_pathAt_231 : decode cX10_pathAt 231 = .ok (.aload_n 0, 1) := by decide +kernel
theorem dX10_pathAt_232 : decode cX10_pathAt 232 = .ok (.getfield 65, 3) := by decide +kernel
theorem dX10_pathAt_235 : decode cX10_pathAt 235 = .ok (.iload 14, 2) := by decide +kernel
theorem dX10_pathAt_237 : decode cX10_pathAt 237 = .ok (.iaload, 1) := by decide +kernel
theorem dX10_pathAt_238 : decode cX10_pathAt 238 = .ok (.invokevirtual 252, 3) := by decide +kernel
theorem dX10_pathAt_241 : decode cX10_pathAt 241 = .ok (.iload 13, 2) := by decide +kernel
theorem dX10_pathAt_243 : decode cX10_pathAt 243 = .ok (.iload 15, 2) := by decide +kernel
theorem dX10_pathAt_245 : decode cX10_pathAt 245 = .ok (.invokevirtual 255, 3) := by decide +kernel
theorem dX10_pathAt_248 : decode cX10_pathAt 248 = .ok (.goto 4, 3) := by decide +kernel
theorem dX10_pathAt_251 : decode cX10_pathAt 251 = .ok (.iconst 0, 1) := by decide +kernel
theorem dX10_pathAt_252 : decode cX10_pathAt 252 = .ok (.istore 16, 2) := by decide +kernel
theorem dX10_pathAt_254 : decode cX10_pathAt 254 = .ok (.iload 16, 2) := by decide +kernel
theorem dX10_pathAt_256 : decode cX10_pathAt 256 = .ok (.ifCond .eq 30, 3) := by decide +kernel
theorem dX10_pathAt_259 : decode cX10_pathAt 259 = .ok (.iconst 1, 1) := by decide +kernel
theorem dX10_pathAt_260 : decode cX10_pathAt 260 = .ok (.istore 9, 2) := by decide +kernel
theorem dX10_pathAt_262 : decode cX10_pathAt 262 = .ok (.bipush 10, 2) := by decide +kernel
theorem dX10_pathAt_264 : decode cX10_pathAt 264 = .ok (.iload 11, 2) := by decide +kernel
theorem dX10_pathAt_266 : decode cX10_pathAt 266 = .ok (.imul, 1) := by decide +kernel
theorem dX10_pathAt_267 : decode cX10_pathAt 267 = .ok (.iload 10, 2) := by decide +kernel
theorem dX10_pathAt_269 : decode cX10_pathAt 269 = .ok (.iconst 2, 1) := by decide +kernel
theorem dX10_pathAt_270 : decode cX10_pathAt 270 = .ok (.irem, 1) := by decide +kernel
theorem dX10_pathAt_271 : decode cX10_pathAt 271 = .ok (.iadd, 1) := by decide +kernel
theorem dX10_pathAt_272 : decode cX10_pathAt 272 = .ok (.istore 7, 2) := by decide +kernel
theorem dX10_pathAt_274 : decode cX10_pathAt 274 = .ok (.iload 16, 2) := by decide +kernel
theorem dX10_pathAt_276 : decode cX10_pathAt 276 = .ok (.istore 5, 2) := by decide +kernel
theorem dX10_pathAt_278 : decode cX10_pathAt 278 = .ok (.iload 13, 2) := by decide +kernel
theorem dX10_pathAt_280 : decode cX10_pathAt 280 = .ok (.istore 6, 2) := by decide +kernel
theorem dX10_pathAt_282 : decode cX10_pathAt 282 = .ok (.iload 15, 2) := by decide +kernel
theorem dX10_pathAt_284 : decode cX10_pathAt 284 = .ok (.istore 4, 2) := by decide +kernel
theorem dX10_pathAt_286 : decode cX10_pathAt 286 = .ok (.iinc 10 1, 3) := by decide +kernel
theorem dX10_pathAt_289 : decode cX10_pathAt 289 = .ok (.goto (-192), 3) := by decide +kernel
theorem dX10_pathAt_292 : decode cX10_pathAt 292 = .ok (.iinc 8 1, 3) := by decide +kernel
theorem dX10_pathAt_295 : decode cX10_pathAt 295 = .ok (.goto (-210), 3) := by decide +kernel
theorem dX10_pathAt_298 : decode cX10_pathAt 298 = .ok (.iload 7, 2) := by decide +kernel
theorem dX10_pathAt_300 : decode cX10_pathAt 300 = .ok (.ireturn, 1) := by decide +kernel
theorem dX10_paths_0 : decode cX10_paths 0 = .ok (.aload_n 0, 1) := by decide +kernel
theorem dX10_paths_1 : decode cX10_paths 1 = .ok (.aload_n 0, 1) := by decide +kernel
theorem dX10_paths_2 : decode cX10_paths 2 = .ok (.getfield 16, 3) := by decide +kernel
theorem dX10_paths_5 : decode cX10_paths 5 = .ok (.iload_n 1, 1) := by decide +kernel
theorem dX10_paths_6 : decode cX10_paths 6 = .ok (.invokestatic 218, 3) := by decide +kernel
theorem dX10_paths_9 : decode cX10_paths 9 = .ok (.ifCond .eq 14, 3) := by decide +kernel
theorem dX10_paths_12 : decode cX10_paths 12 = .ok (.aload_n 0, 1) := by decide +kernel
theorem dX10_paths_13 : decode cX10_paths 13 = .ok (.getfield 16, 3) := by decide +kernel
theorem dX10_paths_16 : decode cX10_paths 16 = .ok (.iload_n 2, 1) := by decide +kernel
theorem dX10_paths_17 : decode cX10_paths 17 = .ok (.invokestatic 218, 3) := by decide +kernel
theorem dX10_paths_20 : decode cX10_paths 20 = .ok (.ifCond .ne 7, 3) := by decide +kernel
theorem dX10_paths_23 : decode cX10_paths 23 = .ok (.iconst 1, 1) := by decide +kernel
theorem dX10_paths_24 : decode cX10_paths 24 = .ok (.goto 20, 3) := by decide +kernel
theorem dX10_paths_27 : decode cX10_paths 27 = .ok (.iload_n 3, 1) := by decide +kernel
theorem dX10_paths_28 : decode cX10_paths 28 = .ok (.i2l, 1) := by decide +kernel
theorem dX10_paths_29 : decode cX10_paths 29 = .ok (.lconst 0, 1) := by decide +kernel
theorem dX10_paths_30 : decode cX10_paths 30 = .ok (.ldc2_w 259, 3) := by decide +kernel
theorem dX10_paths_33 : decode cX10_paths 33 = .ok (.invokestatic 84, 3) := by decide +kernel
theorem dX10_paths_36 : decode cX10_paths 36 = .ok (.ifCond .eq 7, 3) := by decide +kernel
theorem dX10_paths_39 : decode cX10_paths 39 = .ok (.iconst 0, 1) := by decide +kernel
theorem dX10_paths_40 : decode cX10_paths 40 = .ok (.goto 4, 3) := by decide +kernel
theorem dX10_paths_43 : decode cX10_paths 43 = .ok (.iconst 2, 1) := by decide +kernel
theorem dX10_paths_44 : decode cX10_paths 44 = .ok (.invokevirtual 173, 3) := by decide +kernel
theorem dX10_paths_47 : decode cX10_paths 47 = .ok (.ifCond .eq 5, 3) := by decide +kernel
theorem dX10_paths_50 : decode cX10_paths 50 = .ok (.iconst 0, 1) := by decide +kernel
theorem dX10_paths_51 : decode cX10_paths 51 = .ok (.ireturn, 1) := by decide +kernel
theorem dX10_paths_52 : decode cX10_paths 52 = .ok (.aload_n 0, 1) := by decide +kernel
theorem dX10_paths_53 : decode cX10_paths 53 = .ok (.aload_n 0, 1) := by decide +kernel
theorem dX10_paths_54 : decode cX10_paths 54 = .ok (.getfield 16, 3) := by decide +kernel
theorem dX10_paths_57 : decode cX10_paths 57 = .ok (.invokevirtual 158, 3) := by decide +kernel
theorem dX10_paths_60 : decode cX10_paths 60 = .ok (.aload_n 0, 1) := by decide +kernel
theorem dX10_paths_61 : decode cX10_paths 61 = .ok (.invokevirtual 142, 3) := by decide +kernel
theorem dX10_paths_64 : decode cX10_paths 64 = .ok (.iload_n 1, 1) := by decide +kernel
theorem dX10_paths_65 : decode cX10_paths 65 = .ok (.iload_n 2, 1) := by decide +kernel
theorem dX10_paths_66 : decode cX10_paths 66 = .ok (.if_icmp .ne 14, 3) := by decide +kernel
theorem dX10_paths_69 : decode cX10_paths 69 = .ok (.aload_n 0, 1) := by decide +kernel
theorem dX10_paths_70 : decode cX10_paths 70 = .ok (.getfield 124, 3) := by decide +kernel
theorem dX10_paths_73 : decode cX10_paths 73 = .ok (.ifCond .eq 7, 3) := by decide +kernel
theorem dX10_paths_76 : decode cX10_paths 76 = .ok (.iconst 1, 1) := by decide +kernel
theorem dX10_paths_77 : decode cX10_paths 77 = .ok (.goto 4, 3) := by decide +kernel
theorem dX10_paths_80 : decode cX10_paths 80 = .ok (.iconst 0, 1) := by decide +kernel
theorem dX10_paths_81 : decode cX10_paths 81 = .ok (.istore 4, 2) := by decide +kernel
theorem dX10_paths_83 : decode cX10_paths 83 = .ok (.iconst 0, 1) := by decide +kernel
theorem dX10_paths_84 : decode cX10_paths 84 = .ok (.istore 5, 2) := by decide +kernel
theorem dX10_paths_86 : decode cX10_paths 86 = .ok (.aload_n 0, 1) := by decide +kernel
theorem dX10_paths_87 : decode cX10_paths 87 = .ok (.getfield 68, 3) := by decide +kernel
theorem dX10_paths_90 : decode cX10_paths 90 = .ok (.iconst 0, 1) := by decide +kernel
theorem dX10_paths_91 : decode cX10_paths 91 = .ok (.iload_n 1, 1) := by decide +kernel
theorem dX10_paths_92 : decode cX10_paths 92 = .ok (.iastore, 1) := by decide +kernel
theorem dX10_paths_93 : decode cX10_paths 93 = .ok (.aload_n 0, 1) := by decide +kernel
theorem dX10_paths_94 : decode cX10_paths 94 = .ok (.getfield 71, 3) := by decide +kernel
theorem dX10_paths_97 : decode cX10_paths 97 = .ok (.iconst 0, 1) := by decide +kernel
theorem dX10_paths_98 : decode cX10_paths 98 = .ok (.iconst 1, 1) := by decide +kernel
theorem dX10_paths_99 : decode cX10_paths 99 = .ok (.iastore, 1) := by decide +kernel
theorem dX10_paths_100 : decode cX10_paths 100 = .ok (.aload_n 0, 1) := by decide +kernel
theorem dX10_paths_101 : decode cX10_paths 101 = .ok (.getfield 74, 3) := by decide +kernel
theorem dX10_paths_104 : decode cX10_paths 104 = .ok (.iconst 0, 1) := by decide +kernel
theorem dX10_paths_105 : decode cX10_paths 105 = .ok (.iconst 0, 1) := by decide +kernel
theorem dX10_paths_106 : decode cX10_paths 106 = .ok (.iastore, 1) := by decide +kernel
theorem dX10_paths_107 : decode cX10_paths 107 = .ok (.iload 5, 2) := by decide +kernel
theorem dX10_paths_109 : decode cX10_paths 109 = .ok (.ifCond .lt 242, 3) := by decide +kernel
theorem dX10_paths_112 : decode cX10_paths 112 = .ok (.aload_n 0, 1) := by decide +kernel
theorem dX10_paths_113 : decode cX10_paths 113 = .ok (.getfield 74, 3) := by decide +kernel
theorem dX10_paths_116 : decode cX10_paths 116 = .ok (.iload 5, 2) := by decide +kernel
theorem dX10_paths_118 : decode cX10_paths 118 = .ok (.iaload, 1) := by decide +kernel
theorem dX10_paths_119 : decode cX10_paths 119 = .ok (.istore 6, 2) := by decide +kernel
theorem dX10_paths_121 : decode cX10_paths 121 = .ok (.aload_n 0, 1) := by decide +kernel
theorem dX10_paths_122 : decode cX10_paths 122 = .ok (.getfield 74, 3) := by decide +kernel
theorem dX10_paths_125 : decode cX10_paths 125 = .ok (.iload 5, 2) := by decide +kernel
theorem dX10_paths_127 : decode cX10_paths 127 = .ok (.dup2, 1) := by decide +kernel
theorem dX10_paths_128 : decode cX10_paths 128 = .ok (.iaload, 1) := by decide +kernel
theorem dX10_paths_129 : decode cX10_paths 129 = .ok (.iconst 1, 1) := by decide +kernel
theorem dX10_paths_130 : decode cX10_paths 130 = .ok (.iadd, 1) := by decide +kernel
theorem dX10_paths_131 : decode cX10_paths 131 = .ok (.iastore, 1) := by decide +kernel
theorem dX10_paths_132 : decode cX10_paths 132 = .ok (.iload 6, 2) := by decide +kernel
theorem dX10_paths_134 : decode cX10_paths 134 = .ok (.iconst 2, 1) := by decide +kernel
theorem dX10_paths_135 : decode cX10_paths 135 = .ok (.aload_n 0, 1) := by decide +kernel
theorem dX10_paths_136 : decode cX10_paths 136 = .ok (.getfield 16, 3) := by decide +kernel
theorem dX10_paths_139 : decode cX10_paths 139 = .ok (.iconst 1, 1) := by decide +kernel
theorem dX10_paths_140 : decode cX10_paths 140 = .ok (.iaload, 1) := by decide +kernel
theorem dX10_paths_141 : decode cX10_paths 141 = .ok (.imul, 1) := by decide +kernel
theorem dX10_paths_142 : decode cX10_paths 142 = .ok (.if_icmp .eq 9, 3) := by decide +kernel
theorem dX10_paths_145 : decode cX10_paths 145 = .ok (.iload 5, 2) := by decide +kernel
theorem dX10_paths_147 : decode cX10_paths 147 = .ok (.iload_n 3, 1) := by decide +kernel
theorem dX10_paths_148 : decode cX10_paths 148 = .ok (.if_icmp .ne 9, 3) := by decide +kernel
theorem dX10_paths_151 : decode cX10_paths 151 = .ok (.iinc 5 (-1), 3) := by decide +kernel
theorem dX10_paths_154 : decode cX10_paths 154 = .ok (.goto 194, 3) := by decide +kernel
theorem dX10_paths_157 : decode cX10_paths 157 = .ok (.iload 6, 2) := by decide +kernel
theorem dX10_paths_159 : decode cX10_paths 159 = .ok (.iconst 2, 1) := by decide +kernel
theorem dX10_paths_160 : decode cX10_paths 160 = .ok (.idiv, 1) := by decide +kernel
theorem dX10_paths_161 : decode cX10_paths 161 = .ok (.istore 7, 2) := by decide +kernel
theorem dX10_paths_163 : decode cX10_paths 163 = .ok (.aload_n 0, 1) := by decide +kernel
theorem dX10_paths_164 : decode cX10_paths 164 = .ok (.getfield 16, 3) := by decide +kernel
theorem dX10_paths_167 : decode cX10_paths 167 = .ok (.iload 7, 2) := by decide +kernel
theorem dX10_paths_169 : decode cX10_paths 169 = .ok (.invokestatic 88, 3) := by decide +kernel
theorem dX10_paths_172 : decode cX10_paths 172 = .ok (.iconst 1, 1) := by decide +kernel
theorem dX10_paths_173 : decode cX10_paths 173 = .ok (.iadd, 1) := by decide +kernel
theorem dX10_paths_174 : decode cX10_paths 174 = .ok (.iaload, 1) := by decide +kernel
theorem dX10_paths_175 : decode cX10_paths 175 = .ok (.istore 8, 2) := by decide +kernel
theorem dX10_paths_177 : decode cX10_paths 177 = .ok (.aload_n 0, 1) := by decide +kernel
theorem dX10_paths_178 : decode cX10_paths 178 = .ok (.getfield 16, 3) := by decide +kernel
theorem dX10_paths_181 : decode cX10_paths 181 = .ok (.iload 7, 2) := by decide +kernel
theorem dX10_paths_183 : decode cX10_paths 183 = .ok (.invokestatic 88, 3) := by decide +kernel
theorem dX10_paths_186 : decode cX10_paths 186 = .ok (.iload 6, 2) := by decide +kernel
theorem dX10_paths_188 : decode cX10_paths 188 = .ok (.iconst 2, 1) := by decide +kernel
theorem dX10_paths_189 : decode cX10_paths 189 = .ok (.irem, 1) := by decide +kernel
theorem dX10_paths_190 : decode cX10_paths 190 = .ok (.ifCond .ne 7, 3) := by decide +kernel
theorem dX10_paths_193 : decode cX10_paths 193 = .ok (.iconst 0, 1) := by decide +kernel
theorem dX10_paths_194 : decode cX10_paths 194 = .ok (.goto 4, 3) := by decide +kernel
theorem dX10_paths_197 : decode cX10_paths 197 = .ok (.iconst 2, 1) := by decide +kernel
theorem dX10_paths_198 : decode cX10_paths 198 = .ok (.iadd, 1) := by decide +kernel
theorem dX10_paths_199 : decode cX10_paths 199 = .ok (.iaload, 1) := by decide +kernel
theorem dX10_paths_200 : decode cX10_paths 200 = .ok (.aload_n 0, 1) := by decide +kernel
theorem dX10_paths_201 : decode cX10_paths 201 = .ok (.getfield 68, 3) := by decide +kernel
theorem dX10_paths_204 : decode cX10_paths 204 = .ok (.iload 5, 2) := by decide +kernel
theorem dX10_paths_206 : decode cX10_paths 206 = .ok (.iaload, 1) := by decide +kernel
theorem dX10_paths_207 : decode cX10_paths 207 = .ok (.if_icmp .ne 7, 3) := by decide +kernel
theorem dX10_paths_210 : decode cX10_paths 210 = .ok (.iconst 1, 1) := by decide +kernel
theorem dX10_paths_211 : decode cX10_paths 211 = .ok (.goto 4, 3) := by decide +kernel
theorem dX10_paths_214 : decode cX10_paths 214 = .ok (.iconst 0, 1) := by decide +kernel
theorem dX10_paths_215 : decode cX10_paths 215 = .ok (.istore 9, 2) := by decide +kernel
theorem dX10_paths_217 : decode cX10_paths 217 = .ok (.iload 9, 2) := by decide +kernel
theorem dX10_paths_219 : decode cX10_paths 219 = .ok (.ifCond .eq 41, 3) := by decide +kernel
theorem dX10_paths_222 : decode cX10_paths 222 = .ok (.aload_n 0, 1) := by decide +kernel
theorem dX10_paths_223 : decode cX10_paths 223 = .ok (.aload_n 0, 1) := by decide +kernel
theorem dX10_paths_224 : decode cX10_paths 224 = .ok (.getfield 71, 3) := by decide +kernel
theorem dX10_paths_227 : decode cX10_paths 227 = .ok (.iload 5, 2) := by decide +kernel
theorem dX10_paths_229 : decode cX10_paths 229 = .ok (.iaload, 1) := by decide +kernel
theorem dX10_paths_230 : decode cX10_paths 230 = .ok (.iload 6, 2) := by decide +kernel
theorem dX10_paths_232 : decode cX10_paths 232 = .ok (.iconst 2, 1) := by decide +kernel
theorem dX10_paths_233 : decode cX10_paths 233 = .ok (.irem, 1) := by decide +kernel
theorem dX10_paths_234 : decode cX10_paths 234 = .ok (.ifCond .ne 13, 3) := by decide +kernel
theorem dX10_paths_237 : decode cX10_paths 237 = .ok (.aload_n 0, 1) := by decide +kernel
theorem dX10_paths_238 : decode cX10_paths 238 = .ok (.getfield 62, 3) := by decide +kernel
theorem dX10_paths_241 : decode cX10_paths 241 = .ok (.iload 8, 2) := by decide +kernel
theorem dX10_paths_243 : decode cX10_paths 243 = .ok (.iaload, 1) := by decide +kernel
theorem dX10_paths_244 : decode cX10_paths 244 = .ok (.goto 10, 3) := by decide +kernel
theorem dX10_paths_247 : decode cX10_paths 247 = .ok (.aload_n 0, 1) := by decide +kernel
theorem dX10_paths_248 : decode cX10_paths 248 = .ok (.getfield 65, 3) := by decide +kernel
theorem dX10_paths_251 : decode cX10_paths 251 = .ok (.iload 8, 2) := by decide +kernel
theorem dX10_paths_253 : decode cX10_paths 253 = .ok (.iaload, 1) := by decide +kernel
theorem dX10_paths_254 : decode cX10_paths 254 = .ok (.invokevirtual 252, 3) := by decide +kernel
theorem dX10_paths_257 : decode cX10_paths 257 = .ok (.goto 4, 3) := by decide +kernel
theorem dX10_paths_260 : decode cX10_paths 260 = .ok (.iconst 0, 1) := by decide +kernel
theorem dX10_paths_261 : decode cX10_paths 261 = .ok (.istore 10, 2) := by decide +kernel
theorem dX10_paths_263 : decode cX10_paths 263 = .ok (.iload 10, 2) := by decide +kernel
theorem dX10_paths_265 : decode cX10_paths 265 = .ok (.ifCond .eq 83, 3) := by decide +kernel
theorem dX10_paths_268 : decode cX10_paths 268 = .ok (.iinc 5 1, 3) := by decide +kernel
theorem dX10_paths_271 : decode cX10_paths 271 = .ok (.aload_n 0, 1) := by decide +kernel
theorem dX10_paths_272 : decode cX10_paths 272 = .ok (.getfield 68, 3) := by decide +kernel
theorem dX10_paths_275 : decode cX10_paths 275 = .ok (.iload 5, 2) := by decide +kernel
theorem dX10_paths_277 : decode cX10_paths 277 = .ok (.aload_n 0, 1) := by decide +kernel
theorem dX10_paths_278 : decode cX10_paths 278 = .ok (.getfield 16, 3) := by decide +kernel
theorem dX10_paths_281 : decode cX10_paths 281 = .ok (.iload 7, 2) := by decide +kernel
theorem dX10_paths_283 : decode cX10_paths 283 = .ok (.invokestatic 88, 3) := by decide +kernel
theorem dX10_paths_286 : decode cX10_paths 286 = .ok (.iload 6, 2) := by decide +kernel
theorem dX10_paths_288 : decode cX10_paths 288 = .ok (.iconst 2, 1) := by decide +kernel
theorem dX10_paths_289 : decode cX10_paths 289 = .ok (.irem, 1) := by decide +kernel
theorem dX10_paths_290 : decode cX10_paths 290 = .ok (.ifCond .ne 7, 3) := by decide +kernel
theorem dX10_paths_293 : decode cX10_paths 293 = .ok (.iconst 2, 1) := by decide +kernel
theorem dX10_paths_294 : decode cX10_paths 294 = .ok (.goto 4, 3) := by decide +kernel
theorem dX10_paths_297 : decode cX10_paths 297 = .ok (.iconst 0, 1) := by decide +kernel
theorem dX10_paths_298 : decode cX10_paths 298 = .ok (.iadd, 1) := by decide +kernel
theorem dX10_paths_299 : decode cX10_paths 299 = .ok (.iaload, 1) := by decide +kernel
theorem dX10_paths_300 : decode cX10_paths 300 = .ok (.iastore, 1) := by decide +kernel
theorem dX10_paths_301 : decode cX10_paths 301 = .ok (.aload_n 0, 1) := by decide +kernel
theorem dX10_paths_302 : decode cX10_paths 302 = .ok (.getfield 71, 3) := by decide +kernel
theorem dX10_paths_305 : decode cX10_paths 305 = .ok (.iload 5, 2) := by decide +kernel
theorem dX10_paths_307 : decode cX10_paths 307 = .ok (.iload 10, 2) := by decide +kernel
theorem dX10_paths_309 : decode cX10_paths 309 = .ok (.iastore, 1) := by decide +kernel
theorem dX10_paths_310 : decode cX10_paths 310 = .ok (.aload_n 0, 1) := by decide +kernel
theorem dX10_paths_311 : decode cX10_paths 311 = .ok (.getfield 74, 3) := by decide +kernel
theorem dX10_paths_314 : decode cX10_paths 314 = .ok (.iload 5, 2) := by decide +kernel
theorem dX10_paths_316 : decode cX10_paths 316 = .ok (.iconst 0, 1) := by decide +kernel
theorem dX10_paths_317 : decode cX10_paths 317 = .ok (.iastore, 1) := by decide +kernel
theorem dX10_paths_318 : decode cX10_paths 318 = .ok (.iload 4, 2) := by decide +kernel
theorem dX10_paths_320 : decode cX10_paths 320 = .ok (.aload_n 0, 1) := by decide +kernel
theorem dX10_paths_321 : decode cX10_paths 321 = .ok (.getfield 68, 3) := by decide +kernel
theorem dX10_paths_324 : decode cX10_paths 324 = .ok (.iload 5, 2) := by decide +kernel
theorem dX10_paths_326 : decode cX10_paths 326 = .ok (.iaload, 1) := by decide +kernel
theorem dX10_paths_327 : decode cX10_paths 327 = .ok (.iload_n 2, 1) := by decide +kernel
theorem dX10_paths_328 : decode cX10_paths 328 = .ok (.if_icmp .ne 16, 3) := by decide +kernel
theorem dX10_paths_331 : decode cX10_paths 331 = .ok (.aload_n 0, 1) := by decide +kernel
theorem dX10_paths_332 : decode cX10_paths 332 = .ok (.iload 10, 2) := by decide +kernel
theorem dX10_paths_334 : decode cX10_paths 334 = .ok (.invokevirtual 146, 3) := by decide +kernel
theorem dX10_paths_337 : decode cX10_paths 337 = .ok (.ifCond .eq 7, 3) := by decide +kernel
theorem dX10_paths_340 : decode cX10_paths 340 = .ok (.iconst 1, 1) := by decide +kernel
theorem dX10_paths_341 : decode cX10_paths 341 = .ok (.goto 4, 3) := by decide +kernel
theorem dX10_paths_344 : decode cX10_paths 344 = .ok (.iconst 0, 1) := by decide +kernel
theorem dX10_paths_345 : decode cX10_paths 345 = .ok (.iadd, 1) := by decide +kernel
theorem dX10_paths_346 : decode cX10_paths 346 = .ok (.istore 4, 2) := by decide +kernel
theorem dX10_paths_348 : decode cX10_paths 348 = .ok (.goto (-241), 3) := by decide +kernel
theorem dX10_paths_351 : decode cX10_paths 351 = .ok (.iload 4, 2) := by decide +kernel
theorem dX10_paths_353 : decode cX10_paths 353 = .ok (.ireturn, 1) := by decide +kernel
theorem dX10_neededIn_0 : decode cX10_neededIn 0 = .ok (.iconst 0, 1) := by decide +kernel
theorem dX10_neededIn_1 : decode cX10_neededIn 1 = .ok (.istore 4, 2) := by decide +kernel
theorem dX10_neededIn_3 : decode cX10_neededIn 3 = .ok (.aload_n 0, 1) := by decide +kernel
theorem dX10_neededIn_4 : decode cX10_neededIn 4 = .ok (.aload_n 1, 1) := by decide +kernel
theorem dX10_neededIn_5 : decode cX10_neededIn 5 = .ok (.iload_n 2, 1) := by decide +kernel
theorem dX10_neededIn_6 : decode cX10_neededIn 6 = .ok (.iload_n 3, 1) := by decide +kernel
theorem dX10_neededIn_7 : decode cX10_neededIn 7 = .ok (.bipush (-9), 2) := by decide +kernel
theorem dX10_neededIn_9 : decode cX10_neededIn 9 = .ok (.invokevirtual 261, 3) := by decide +kernel
theorem dX10_neededIn_12 : decode cX10_neededIn 12 = .ok (.ldc 145, 2) := by decide +kernel
theorem dX10_neededIn_14 : decode cX10_neededIn 14 = .ok (.if_icmp .ge 7, 3) := by decide +kernel
theorem dX10_neededIn_17 : decode cX10_neededIn 17 = .ok (.iconst 1, 1) := by decide +kernel
theorem dX10_neededIn_18 : decode cX10_neededIn 18 = .ok (.goto 4, 3) := by decide +kernel
theorem dX10_neededIn_21 : decode cX10_neededIn 21 = .ok (.iconst 0, 1) := by decide +kernel
theorem dX10_neededIn_22 : decode cX10_neededIn 22 = .ok (.istore 5, 2) := by decide +kernel
theorem dX10_neededIn_24 : decode cX10_neededIn 24 = .ok (.iconst 0, 1) := by decide +kernel
theorem dX10_neededIn_25 : decode cX10_neededIn 25 = .ok (.istore 6, 2) := by decide +kernel
theorem dX10_neededIn_27 : decode cX10_neededIn 27 = .ok (.iload 6, 2) := by decide +kernel
theorem dX10_neededIn_29 : decode cX10_neededIn 29 = .ok (.aload_n 1, 1) := by decide +kernel
theorem dX10_neededIn_30 : decode cX10_neededIn 30 = .ok (.iconst 1, 1) := by decide +kernel
theorem dX10_neededIn_31 : decode cX10_neededIn 31 = .ok (.iaload, 1) := by decide +kernel
theorem dX10_neededIn_32 : decode cX10_neededIn 32 = .ok (.if_icmp .ge 41, 3) := by decide +kernel
theorem dX10_neededIn_35 : decode cX10_neededIn 35 = .ok (.iload 5, 2) := by decide +kernel
theorem dX10_neededIn_37 : decode cX10_neededIn 37 = .ok (.ifCond .eq 36, 3) := by decide +kernel
theorem dX10_neededIn_40 : decode cX10_neededIn 40 = .ok (.iload 4, 2) := by decide +kernel
theorem dX10_neededIn_42 : decode cX10_neededIn 42 = .ok (.aload_n 0, 1) := by decide +kernel
theorem dX10_neededIn_43 : decode cX10_neededIn 43 = .ok (.aload_n 1, 1) := by decide +kernel
theorem dX10_neededIn_44 : decode cX10_neededIn 44 = .ok (.iload_n 2, 1) := by decide +kernel
theorem dX10_neededIn_45 : decode cX10_neededIn 45 = .ok (.iload_n 3, 1) := by decide +kernel
theorem dX10_neededIn_46 : decode cX10_neededIn 46 = .ok (.iload 6, 2) := by decide +kernel
theorem dX10_neededIn_48 : decode cX10_neededIn 48 = .ok (.invokevirtual 261, 3) := by decide +kernel
theorem dX10_neededIn_51 : decode cX10_neededIn 51 = .ok (.ldc 145, 2) := by decide +kernel
theorem dX10_neededIn_53 : decode cX10_neededIn 53 = .ok (.if_icmp .ge 7, 3) := by decide +kernel
theorem dX10_neededIn_56 : decode cX10_neededIn 56 = .ok (.iconst 0, 1) := by decide +kernel
theorem dX10_neededIn_57 : decode cX10_neededIn 57 = .ok (.goto 7, 3) := by decide +kernel
theorem dX10_neededIn_60 : decode cX10_neededIn 60 = .ok (.iconst 1, 1) := by decide +kernel
theorem dX10_neededIn_61 : decode cX10_neededIn 61 = .ok (.iload 6, 2) := by decide +kernel
theorem dX10_neededIn_63 : decode cX10_neededIn 63 = .ok (.ishl, 1) := by decide +kernel
theorem dX10_neededIn_64 : decode cX10_neededIn 64 = .ok (.ior, 1) := by decide +kernel
theorem dX10_neededIn_65 : decode cX10_neededIn 65 = .ok (.istore 4, 2) := by decide +kernel
theorem dX10_neededIn_67 : decode cX10_neededIn 67 = .ok (.iinc 6 1, 3) := by decide +kernel
theorem dX10_neededIn_70 : decode cX10_neededIn 70 = .ok (.goto (-43), 3) := by decide +kernel
theorem dX10_neededIn_73 : decode cX10_neededIn 73 = .ok (.iload 4, 2) := by decide +kernel
theorem dX10_neededIn_75 : decode cX10_neededIn 75 = .ok (.ireturn, 1) := by decide +kernel
theorem dX10_needed_0 : decode cX10_needed 0 = .ok (.aload_n 0, 1) := by decide +kernel
theorem dX10_needed_1 : decode cX10_needed 1 = .ok (.iload_n 1, 1) := by decide +kernel
theorem dX10_needed_2 : decode cX10_needed 2 = .ok (.iload_n 2, 1) := by decide +kernel
theorem dX10_needed_3 : decode cX10_needed 3 = .ok (.invokevirtual 245, 3) := by decide +kernel
theorem dX10_needed_6 : decode cX10_needed 6 = .ok (.ifCond .eq 5, 3) := by decide +kernel
theorem dX10_needed_9 : decode cX10_needed 9 = .ok (.iconst 0, 1) := by decide +kernel
theorem dX10_needed_10 : decode cX10_needed 10 = .ok (.ireturn, 1) := by decide +kernel
theorem dX10_needed_11 : decode cX10_needed 11 = .ok (.aload_n 0, 1) := by decide +kernel
theorem dX10_needed_12 : decode cX10_needed 12 = .ok (.aload_n 0, 1) := by decide +kernel
theorem dX10_needed_13 : decode cX10_needed 13 = .ok (.getfield 16, 3) := by decide +kernel
theorem dX10_needed_16 : decode cX10_needed 16 = .ok (.iload_n 1, 1) := by decide +kernel
theorem dX10_needed_17 : decode cX10_needed 17 = .ok (.iload_n 2, 1) := by decide +kernel
theorem dX10_needed_18 : decode cX10_needed 18 = .ok (.invokevirtual 264, 3) := by decide +kernel
theorem dX10_needed_21 : decode cX10_needed 21 = .ok (.ireturn, 1) := by decide +kernel
theorem dX10_bestNew_0 : decode cX10_bestNew 0 = .ok (.aload_n 0, 1) := by decide +kernel
theorem dX10_bestNew_1 : decode cX10_bestNew 1 = .ok (.iload_n 1, 1) := by decide +kernel
theorem dX10_bestNew_2 : decode cX10_bestNew 2 = .ok (.iload_n 2, 1) := by decide +kernel
theorem dX10_bestNew_3 : decode cX10_bestNew 3 = .ok (.invokevirtual 245, 3) := by decide +kernel
theorem dX10_bestNew_6 : decode cX10_bestNew 6 = .ok (.ifCond .eq 5, 3) := by decide +kernel
theorem dX10_bestNew_9 : decode cX10_bestNew 9 = .ok (.iconst 0, 1) := by decide +kernel
theorem dX10_bestNew_10 : decode cX10_bestNew 10 = .ok (.ireturn, 1) := by decide +kernel
theorem dX10_bestNew_11 : decode cX10_bestNew 11 = .ok (.aload_n 0, 1) := by decide +kernel
theorem dX10_bestNew_12 : decode cX10_bestNew 12 = .ok (.getfield 16, 3) := by decide +kernel
theorem dX10_bestNew_15 : decode cX10_bestNew 15 = .ok (.iconst 0, 1) := by decide +kernel
theorem dX10_bestNew_16 : decode cX10_bestNew 16 = .ok (.aload_n 0, 1) := by decide +kernel
theorem dX10_bestNew_17 : decode cX10_bestNew 17 = .ok (.getfield 19, 3) := by decide +kernel
theorem dX10_bestNew_20 : decode cX10_bestNew 20 = .ok (.iconst 0, 1) := by decide +kernel
theorem dX10_bestNew_21 : decode cX10_bestNew 21 = .ok (.invokestatic 197, 3) := by decide +kernel
theorem dX10_bestNew_24 : decode cX10_bestNew 24 = .ok (.aload_n 0, 1) := by decide +kernel
theorem dX10_bestNew_25 : decode cX10_bestNew 25 = .ok (.getfield 16, 3) := by decide +kernel
theorem dX10_bestNew_28 : decode cX10_bestNew 28 = .ok (.iconst 1, 1) := by decide +kernel
theorem dX10_bestNew_29 : decode cX10_bestNew 29 = .ok (.iaload, 1) := by decide +kernel
theorem dX10_bestNew_30 : decode cX10_bestNew 30 = .ok (.istore_n 3, 1) := by decide +kernel
theorem dX10_bestNew_31 : decode cX10_bestNew 31 = .ok (.bipush (-9), 2) := by decide +kernel
theorem dX10_bestNew_33 : decode cX10_bestNew 33 = .ok (.istore 4, 2) := by decide +kernel
theorem dX10_bestNew_35 : decode cX10_bestNew 35 = .ok (.ldc_w 267, 3) := by decide +kernel
theorem dX10_bestNew_38 : decode cX10_bestNew 38 = .ok (.istore 5, 2) := by decide +kernel
theorem dX10_bestNew_40 : decode cX10_bestNew 40 = .ok (.iconst 0, 1) := by decide +kernel
theorem dX10_bestNew_41 : decode cX10_bestNew 41 = .ok (.istore 6, 2) := by decide +kernel
theorem dX10_bestNew_43 : decode cX10_bestNew 43 = .ok (.iload 6, 2) := by decide +kernel
theorem dX10_bestNew_45 : decode cX10_bestNew 45 = .ok (.sipush 800, 3) := by decide +kernel
theorem dX10_bestNew_48 : decode cX10_bestNew 48 = .ok (.if_icmp .ge 172, 3) := by decide +kernel
theorem dX10_bestNew_51 : decode cX10_bestNew 51 = .ok (.iload 6, 2) := by decide +kernel
theorem dX10_bestNew_53 : decode cX10_bestNew 53 = .ok (.bipush 100, 2) := by decide +kernel
theorem dX10_bestNew_55 : decode cX10_bestNew 55 = .ok (.idiv, 1) := by decide +kernel
theorem dX10_bestNew_56 : decode cX10_bestNew 56 = .ok (.istore 7, 2) := by decide +kernel
theorem dX10_bestNew_58 : decode cX10_bestNew 58 = .ok (.iload 6, 2) := by decide +kernel
theorem dX10_bestNew_60 : decode cX10_bestNew 60 = .ok (.bipush 10, 2) := by decide +kernel
theorem dX10_bestNew_62 : decode cX10_bestNew 62 = .ok (.idiv, 1) := by decide +kernel
theorem dX10_bestNew_63 : decode cX10_bestNew 63 = .ok (.bipush 10, 2) := by decide +kernel
theorem dX10_bestNew_65 : decode cX10_bestNew 65 = .ok (.irem, 1) := by decide +kernel
theorem dX10_bestNew_66 : decode cX10_bestNew 66 = .ok (.istore 8, 2) := by decide +kernel
theorem dX10_bestNew_68 : decode cX10_bestNew 68 = .ok (.iload 6, 2) := by decide +kernel
theorem dX10_bestNew_70 : decode cX10_bestNew 70 = .ok (.bipush 10, 2) := by decide +kernel
theorem dX10_bestNew_72 : decode cX10_bestNew 72 = .ok (.irem, 1) := by decide +kernel
theorem dX10_bestNew_73 : decode cX10_bestNew 73 = .ok (.istore 9, 2) := by decide +kernel
theorem dX10_bestNew_75 : decode cX10_bestNew 75 = .ok (.aload_n 0, 1) := by decide +kernel
theorem dX10_bestNew_76 : decode cX10_bestNew 76 = .ok (.getfield 16, 3) := by decide +kernel
theorem dX10_bestNew_79 : decode cX10_bestNew 79 = .ok (.iload 7, 2) := by decide +kernel
theorem dX10_bestNew_81 : decode cX10_bestNew 81 = .ok (.invokestatic 218, 3) := by decide +kernel
theorem dX10_bestNew_84 : decode cX10_bestNew 84 = .ok (.ifCond .eq 50, 3) := by decide +kernel
theorem dX10_bestNew_87 : decode cX10_bestNew 87 = .ok (.aload_n 0, 1) := by decide +kernel
theorem dX10_bestNew_88 : decode cX10_bestNew 88 = .ok (.getfield 16, 3) := by decide +kernel
theorem dX10_bestNew_91 : decode cX10_bestNew 91 = .ok (.iload 9, 2) := by decide +kernel
theorem dX10_bestNew_93 : decode cX10_bestNew 93 = .ok (.invokestatic 218, 3) := by decide +kernel
theorem dX10_bestNew_96 : decode cX10_bestNew 96 = .ok (.ifCond .eq 38, 3) := by decide +kernel
theorem dX10_bestNew_99 : decode cX10_bestNew 99 = .ok (.iload 7, 2) := by decide +kernel
theorem dX10_bestNew_101 : decode cX10_bestNew 101 = .ok (.iload 9, 2) := by decide +kernel
theorem dX10_bestNew_103 : decode cX10_bestNew 103 = .ok (.if_icmp .eq 31, 3) := by decide +kernel
theorem dX10_bestNew_106 : decode cX10_bestNew 106 = .ok (.iload 8, 2) := by decide +kernel
theorem dX10_bestNew_108 : decode cX10_bestNew 108 = .ok (.iconst 4, 1) := by decide +kernel
theorem dX10_bestNew_109 : decode cX10_bestNew 109 = .ok (.if_icmp .ge 25, 3) := by decide +kernel
theorem dX10_bestNew_112 : decode cX10_bestNew 112 = .ok (.aload_n 0, 1) := by decide +kernel
theorem dX10_bestNew_113 : decode cX10_bestNew 113 = .ok (.getfield 16, 3) := by decide +kernel
theorem dX10_bestNew_116 : decode cX10_bestNew 116 = .ok (.iload 7, 2) := by decide +kernel
theorem dX10_bestNew_118 : decode cX10_bestNew 118 = .ok (.iload 8, 2) := by decide +kernel
theorem dX10_bestNew_120 : decode cX10_bestNew 120 = .ok (.iload 9, 2) := by decide +kernel
theorem dX10_bestNew_122 : decode cX10_bestNew 122 = .ok (.invokestatic 182, 3) := by decide +kernel
theorem dX10_bestNew_125 : decode cX10_bestNew 125 = .ok (.bipush (-9), 2) := by decide +kernel
theorem dX10_bestNew_127 : decode cX10_bestNew 127 = .ok (.if_icmp .ne 7, 3) := by decide +kernel
theorem dX10_bestNew_130 : decode cX10_bestNew 130 = .ok (.iconst 1, 1) := by decide +kernel
theorem dX10_bestNew_131 : decode cX10_bestNew 131 = .ok (.goto 4, 3) := by decide +kernel
theorem dX10_bestNew_134 : decode cX10_bestNew 134 = .ok (.iconst 0, 1) := by decide +kernel
theorem dX10_bestNew_135 : decode cX10_bestNew 135 = .ok (.istore 10, 2) := by decide +kernel
theorem dX10_bestNew_137 : decode cX10_bestNew 137 = .ok (.iload 10, 2) := by decide +kernel
theorem dX10_bestNew_139 : decode cX10_bestNew 139 = .ok (.ifCond .eq 75, 3) := by decide +kernel
theorem dX10_bestNew_142 : decode cX10_bestNew 142 = .ok (.aload_n 0, 1) := by decide +kernel
theorem dX10_bestNew_143 : decode cX10_bestNew 143 = .ok (.getfield 19, 3) := by decide +kernel
theorem dX10_bestNew_146 : decode cX10_bestNew 146 = .ok (.iconst 1, 1) := by decide +kernel
theorem dX10_bestNew_147 : decode cX10_bestNew 147 = .ok (.iload_n 3, 1) := by decide +kernel
theorem dX10_bestNew_148 : decode cX10_bestNew 148 = .ok (.iastore, 1) := by decide +kernel
theorem dX10_bestNew_149 : decode cX10_bestNew 149 = .ok (.aload_n 0, 1) := by decide +kernel
theorem dX10_bestNew_150 : decode cX10_bestNew 150 = .ok (.getfield 19, 3) := by decide +kernel
theorem dX10_bestNew_153 : decode cX10_bestNew 153 = .ok (.iload 7, 2) := by decide +kernel
theorem dX10_bestNew_155 : decode cX10_bestNew 155 = .ok (.iload 8, 2) := by decide +kernel
theorem dX10_bestNew_157 : decode cX10_bestNew 157 = .ok (.iload 9, 2) := by decide +kernel
theorem dX10_bestNew_159 : decode cX10_bestNew 159 = .ok (.iconst 1, 1) := by decide +kernel
theorem dX10_bestNew_160 : decode cX10_bestNew 160 = .ok (.invokestatic 186, 3) := by decide +kernel
theorem dX10_bestNew_163 : decode cX10_bestNew 163 = .ok (.pop, 1) := by decide +kernel
theorem dX10_bestNew_164 : decode cX10_bestNew 164 = .ok (.aload_n 0, 1) := by decide +kernel
theorem dX10_bestNew_165 : decode cX10_bestNew 165 = .ok (.aload_n 0, 1) := by decide +kernel
theorem dX10_bestNew_166 : decode cX10_bestNew 166 = .ok (.getfield 19, 3) := by decide +kernel
theorem dX10_bestNew_169 : decode cX10_bestNew 169 = .ok (.iload_n 1, 1) := by decide +kernel
theorem dX10_bestNew_170 : decode cX10_bestNew 170 = .ok (.iload_n 2, 1) := by decide +kernel
theorem dX10_bestNew_171 : decode cX10_bestNew 171 = .ok (.bipush (-9), 2) := by decide +kernel
theorem dX10_bestNew_173 : decode cX10_bestNew 173 = .ok (.invokevirtual 261, 3) := by decide +kernel
theorem dX10_bestNew_176 : decode cX10_bestNew 176 = .ok (.sipush 1000, 3) := by decide +kernel
theorem dX10_bestNew_179 : decode cX10_bestNew 179 = .ok (.idiv, 1) := by decide +kernel
theorem dX10_bestNew_180 : decode cX10_bestNew 180 = .ok (.istore 11, 2) := by decide +kernel
theorem dX10_bestNew_182 : decode cX10_bestNew 182 = .ok (.iload 11, 2) := by decide +kernel
theorem dX10_bestNew_184 : decode cX10_bestNew 184 = .ok (.iload 5, 2) := by decide +kernel
theorem dX10_bestNew_186 : decode cX10_bestNew 186 = .ok (.if_icmp .ge 8, 3) := by decide +kernel
theorem dX10_bestNew_189 : decode cX10_bestNew 189 = .ok (.iload 6, 2) := by decide +kernel
theorem dX10_bestNew_191 : decode cX10_bestNew 191 = .ok (.goto 5, 3) := by decide +kernel
theorem dX10_bestNew_194 : decode cX10_bestNew 194 = .ok (.iload 4, 2) := by decide +kernel
theorem dX10_bestNew_196 : decode cX10_bestNew 196 = .ok (.istore 4, 2) := by decide +kernel
theorem dX10_bestNew_198 : decode cX10_bestNew 198 = .ok (.iload 11, 2) := by decide +kernel
theorem dX10_bestNew_200 : decode cX10_bestNew 200 = .ok (.iload 5, 2) := by decide +kernel
theorem dX10_bestNew_202 : decode cX10_bestNew 202 = .ok (.if_icmp .ge 8, 3) := by decide +kernel
theorem dX10_bestNew_205 : decode cX10_bestNew 205 = .ok (.iload 11, 2) := by decide +kernel
theorem dX10_bestNew_207 : decode cX10_bestNew 207 = .ok (.goto 5, 3) := by decide +kernel
theorem dX10_bestNew_210 : decode cX10_bestNew 210 = .ok (.iload 5, 2) := by decide +kernel
theorem dX10_bestNew_212 : decode cX10_bestNew 212 = .ok (.istore 5, 2) := by decide +kernel
theorem dX10_bestNew_214 : decode cX10_bestNew 214 = .ok (.iinc 6 1, 3) := by decide +kernel
theorem dX10_bestNew_217 : decode cX10_bestNew 217 = .ok (.goto (-174), 3) := by decide +kernel
theorem dX10_bestNew_220 : decode cX10_bestNew 220 = .ok (.iload 4, 2) := by decide +kernel
theorem dX10_bestNew_222 : decode cX10_bestNew 222 = .ok (.ireturn, 1) := by decide +kernel
theorem dX10_follow_0 : decode cX10_follow 0 = .ok (.lconst 1, 1) := by decide +kernel
theorem dX10_follow_1 : decode cX10_follow 1 = .ok (.lstore 5, 2) := by decide +kernel
theorem dX10_follow_3 : decode cX10_follow 3 = .ok (.iconst 0, 1) := by decide +kernel
theorem dX10_follow_4 : decode cX10_follow 4 = .ok (.istore 7, 2) := by decide +kernel
theorem dX10_follow_6 : decode cX10_follow 6 = .ok (.iload 7, 2) := by decide +kernel
theorem dX10_follow_8 : decode cX10_follow 8 = .ok (.iload_n 2, 1) := by decide +kernel
theorem dX10_follow_9 : decode cX10_follow 9 = .ok (.if_icmp .ge 23, 3) := by decide +kernel
theorem dX10_follow_12 : decode cX10_follow 12 = .ok (.iload 7, 2) := by decide +kernel
theorem dX10_follow_14 : decode cX10_follow 14 = .ok (.iconst 5, 1) := by decide +kernel
theorem dX10_follow_15 : decode cX10_follow 15 = .ok (.if_icmp .ge 17, 3) := by decide +kernel
theorem dX10_follow_18 : decode cX10_follow 18 = .ok (.lload 5, 2) := by decide +kernel
theorem dX10_follow_20 : decode cX10_follow 20 = .ok (.ldc2_w 268, 3) := by decide +kernel
theorem dX10_follow_23 : decode cX10_follow 23 = .ok (.lmul, 1) := by decide +kernel
theorem dX10_follow_24 : decode cX10_follow 24 = .ok (.lstore 5, 2) := by decide +kernel
theorem dX10_follow_26 : decode cX10_follow 26 = .ok (.iinc 7 1, 3) := by decide +kernel
theorem dX10_follow_29 : decode cX10_follow 29 = .ok (.goto (-23), 3) := by decide +kernel
theorem dX10_follow_32 : decode cX10_follow 32 = .ok (.aload_n 0, 1) := by decide +kernel
theorem dX10_follow_33 : decode cX10_follow 33 = .ok (.aload_n 0, 1) := by decide +kernel
theorem dX10_follow_34 : decode cX10_follow 34 = .ok (.getfield 16, 3) := by decide +kernel
theorem dX10_follow_37 : decode cX10_follow 37 = .ok (.iload_n 1, 1) := by decide +kernel
theorem dX10_follow_38 : decode cX10_follow 38 = .ok (.invokestatic 218, 3) := by decide +kernel
theorem dX10_follow_41 : decode cX10_follow 41 = .ok (.ifCond .ne 7, 3) := by decide +kernel
theorem dX10_follow_44 : decode cX10_follow 44 = .ok (.iconst 1, 1) := by decide +kernel
theorem dX10_follow_45 : decode cX10_follow 45 = .ok (.goto 32, 3) := by decide +kernel
theorem dX10_follow_48 : decode cX10_follow 48 = .ok (.iload_n 2, 1) := by decide +kernel
theorem dX10_follow_49 : decode cX10_follow 49 = .ok (.i2l, 1) := by decide +kernel
theorem dX10_follow_50 : decode cX10_follow 50 = .ok (.lconst 1, 1) := by decide +kernel
theorem dX10_follow_51 : decode cX10_follow 51 = .ok (.ldc2_w 270, 3) := by decide +kernel
theorem dX10_follow_54 : decode cX10_follow 54 = .ok (.invokestatic 84, 3) := by decide +kernel
theorem dX10_follow_57 : decode cX10_follow 57 = .ok (.ifCond .eq 19, 3) := by decide +kernel
theorem dX10_follow_60 : decode cX10_follow 60 = .ok (.lload_n 3, 1) := by decide +kernel
theorem dX10_follow_61 : decode cX10_follow 61 = .ok (.lconst 0, 1) := by decide +kernel
theorem dX10_follow_62 : decode cX10_follow 62 = .ok (.lload 5, 2) := by decide +kernel
theorem dX10_follow_64 : decode cX10_follow 64 = .ok (.lconst 1, 1) := by decide +kernel
theorem dX10_follow_65 : decode cX10_follow 65 = .ok (.lsub, 1) := by decide +kernel
theorem dX10_follow_66 : decode cX10_follow 66 = .ok (.invokestatic 84, 3) := by decide +kernel
theorem dX10_follow_69 : decode cX10_follow 69 = .ok (.ifCond .eq 7, 3) := by decide +kernel
theorem dX10_follow_72 : decode cX10_follow 72 = .ok (.iconst 0, 1) := by decide +kernel
theorem dX10_follow_73 : decode cX10_follow 73 = .ok (.goto 4, 3) := by decide +kernel
theorem dX10_follow_76 : decode cX10_follow 76 = .ok (.iconst 2, 1) := by decide +kernel
theorem dX10_follow_77 : decode cX10_follow 77 = .ok (.invokevirtual 173, 3) := by decide +kernel
theorem dX10_follow_80 : decode cX10_follow 80 = .ok (.ifCond .eq 5, 3) := by decide +kernel
theorem dX10_follow_83 : decode cX10_follow 83 = .ok (.iconst 0, 1) := by decide +kernel
theorem dX10_follow_84 : decode cX10_follow 84 = .ok (.ireturn, 1) := by decide +kernel
theorem dX10_follow_85 : decode cX10_follow 85 = .ok (.aload_n 0, 1) := by decide +kernel
theorem dX10_follow_86 : decode cX10_follow 86 = .ok (.aload_n 0, 1) := by decide +kernel
theorem dX10_follow_87 : decode cX10_follow 87 = .ok (.getfield 16, 3) := by decide +kernel
theorem dX10_follow_90 : decode cX10_follow 90 = .ok (.invokevirtual 158, 3) := by decide +kernel
theorem dX10_follow_93 : decode cX10_follow 93 = .ok (.aload_n 0, 1) := by decide +kernel
theorem dX10_follow_94 : decode cX10_follow 94 = .ok (.invokevirtual 142, 3) := by decide +kernel
theorem dX10_follow_97 : decode cX10_follow 97 = .ok (.iconst 1, 1) := by decide +kernel
theorem dX10_follow_98 : decode cX10_follow 98 = .ok (.istore 7, 2) := by decide +kernel
theorem dX10_follow_100 : decode cX10_follow 100 = .ok (.iload_n 1, 1) := by decide +kernel
theorem dX10_follow_101 : decode cX10_follow 101 = .ok (.istore 8, 2) := by decide +kernel
theorem dX10_follow_103 : decode cX10_follow 103 = .ok (.iconst 1, 1) := by decide +kernel
theorem dX10_follow_104 : decode cX10_follow 104 = .ok (.istore 9, 2) := by decide +kernel
theorem dX10_follow_106 : decode cX10_follow 106 = .ok (.iload 9, 2) := by decide +kernel
theorem dX10_follow_108 : decode cX10_follow 108 = .ok (.iload_n 2, 1) := by decide +kernel
theorem dX10_follow_109 : decode cX10_follow 109 = .ok (.if_icmp .gt 176, 3) := by decide +kernel
theorem dX10_follow_112 : decode cX10_follow 112 = .ok (.lload 5, 2) := by decide +kernel
theorem dX10_follow_114 : decode cX10_follow 114 = .ok (.ldc2_w 268, 3) := by decide +kernel
theorem dX10_follow_117 : decode cX10_follow 117 = .ok (.ldiv, 1) := by decide +kernel
theorem dX10_follow_118 : decode cX10_follow 118 = .ok (.lstore 5, 2) := by decide +kernel
theorem dX10_follow_120 : decode cX10_follow 120 = .ok (.lload_n 3, 1) := by decide +kernel
theorem dX10_follow_121 : decode cX10_follow 121 = .ok (.lload 5, 2) := by decide +kernel
theorem dX10_follow_123 : decode cX10_follow 123 = .ok (.ldiv, 1) := by decide +kernel
theorem dX10_follow_124 : decode cX10_follow 124 = .ok (.ldc2_w 268, 3) := by decide +kernel
theorem dX10_follow_127 : decode cX10_follow 127 = .ok (.lrem, 1) := by decide +kernel
theorem dX10_follow_128 : decode cX10_follow 128 = .ok (.l2i, 1) := by decide +kernel
theorem dX10_follow_129 : decode cX10_follow 129 = .ok (.istore 10, 2) := by decide +kernel
theorem dX10_follow_131 : decode cX10_follow 131 = .ok (.iload 10, 2) := by decide +kernel
theorem dX10_follow_133 : decode cX10_follow 133 = .ok (.bipush 10, 2) := by decide +kernel
theorem dX10_follow_135 : decode cX10_follow 135 = .ok (.idiv, 1) := by decide +kernel
theorem dX10_follow_136 : decode cX10_follow 136 = .ok (.istore 11, 2) := by decide +kernel
theorem dX10_follow_138 : decode cX10_follow 138 = .ok (.iload 10, 2) := by decide +kernel
theorem dX10_follow_140 : decode cX10_follow 140 = .ok (.bipush 10, 2) := by decide +kernel
theorem dX10_follow_142 : decode cX10_follow 142 = .ok (.irem, 1) := by decide +kernel
theorem dX10_follow_143 : decode cX10_follow 143 = .ok (.iconst 1, 1) := by decide +kernel
theorem dX10_follow_144 : decode cX10_follow 144 = .ok (.if_icmp .ne 7, 3) := by decide +kernel
theorem dX10_follow_147 : decode cX10_follow 147 = .ok (.iconst 1, 1) := by decide +kernel
theorem dX10_follow_148 : decode cX10_follow 148 = .ok (.goto 4, 3) := by decide +kernel
theorem dX10_follow_151 : decode cX10_follow 151 = .ok (.iconst 0, 1) := by decide +kernel
theorem dX10_follow_152 : decode cX10_follow 152 = .ok (.istore 12, 2) := by decide +kernel
theorem dX10_follow_154 : decode cX10_follow 154 = .ok (.iload 10, 2) := by decide +kernel
theorem dX10_follow_156 : decode cX10_follow 156 = .ok (.bipush 10, 2) := by decide +kernel
theorem dX10_follow_158 : decode cX10_follow 158 = .ok (.irem, 1) := by decide +kernel
theorem dX10_follow_159 : decode cX10_follow 159 = .ok (.iconst 1, 1) := by decide +kernel
theorem dX10_follow_160 : decode cX10_follow 160 = .ok (.if_icmp .gt 41, 3) := by decide +kernel
theorem dX10_follow_163 : decode cX10_follow 163 = .ok (.aload_n 0, 1) := by decide +kernel
theorem dX10_follow_164 : decode cX10_follow 164 = .ok (.getfield 16, 3) := by decide +kernel
theorem dX10_follow_167 : decode cX10_follow 167 = .ok (.iload 11, 2) := by decide +kernel
theorem dX10_follow_169 : decode cX10_follow 169 = .ok (.invokestatic 212, 3) := by decide +kernel
theorem dX10_follow_172 : decode cX10_follow 172 = .ok (.ifCond .eq 29, 3) := by decide +kernel
theorem dX10_follow_175 : decode cX10_follow 175 = .ok (.aload_n 0, 1) := by decide +kernel
theorem dX10_follow_176 : decode cX10_follow 176 = .ok (.getfield 16, 3) := by decide +kernel
theorem dX10_follow_179 : decode cX10_follow 179 = .ok (.iload 11, 2) := by decide +kernel
theorem dX10_follow_181 : decode cX10_follow 181 = .ok (.invokestatic 88, 3) := by decide +kernel
theorem dX10_follow_184 : decode cX10_follow 184 = .ok (.iload 12, 2) := by decide +kernel
theorem dX10_follow_186 : decode cX10_follow 186 = .ok (.ifCond .eq 7, 3) := by decide +kernel
theorem dX10_follow_189 : decode cX10_follow 189 = .ok (.iconst 2, 1) := by decide +kernel
theorem dX10_follow_190 : decode cX10_follow 190 = .ok (.goto 4, 3) := by decide +kernel
theorem dX10_follow_193 : decode cX10_follow 193 = .ok (.iconst 0, 1) := by decide +kernel
theorem dX10_follow_194 : decode cX10_follow 194 = .ok (.iadd, 1) := by decide +kernel
theorem dX10_follow_195 : decode cX10_follow 195 = .ok (.iaload, 1) := by decide +kernel
theorem dX10_follow_196 : decode cX10_follow 196 = .ok (.iload 8, 2) := by decide +kernel
theorem dX10_follow_198 : decode cX10_follow 198 = .ok (.if_icmp .eq 6, 3) := by decide +kernel
theorem dX10_follow_201 : decode cX10_follow 201 = .ok (.iload 9, 2) := by decide +kernel
theorem dX10_follow_203 : decode cX10_follow 203 = .ok (.ireturn, 1) := by decide +kernel
theorem dX10_follow_204 : decode cX10_follow 204 = .ok (.aload_n 0, 1) := by decide +kernel
theorem dX10_follow_205 : decode cX10_follow 205 = .ok (.getfield 16, 3) := by decide +kernel
theorem dX10_follow_208 : decode cX10_follow 208 = .ok (.iload 11, 2) := by decide +kernel
theorem dX10_follow_210 : decode cX10_follow 210 = .ok (.invokestatic 88, 3) := by decide +kernel
theorem dX10_follow_213 : decode cX10_follow 213 = .ok (.iconst 1, 1) := by decide +kernel
theorem dX10_follow_214 : decode cX10_follow 214 = .ok (.iadd, 1) := by decide +kernel
theorem dX10_follow_215 : decode cX10_follow 215 = .ok (.iaload, 1) := by decide +kernel
theorem dX10_follow_216 : decode cX10_follow 216 = .ok (.istore 13, 2) := by decide +kernel
theorem dX10_follow_218 : decode cX10_follow 218 = .ok (.aload_n 0, 1) := by decide +kernel
theorem dX10_follow_219 : decode cX10_follow 219 = .ok (.iload 7, 2) := by decide +kernel
theorem dX10_follow_221 : decode cX10_follow 221 = .ok (.iload 12, 2) := by decide +kernel
theorem dX10_follow_223 : decode cX10_follow 223 = .ok (.ifCond .eq 13, 3) := by decide +kernel
theorem dX10_follow_226 : decode cX10_follow 226 = .ok (.aload_n 0, 1) := by decide +kernel
theorem dX10_follow_227 : decode cX10_follow 227 = .ok (.getfield 65, 3) := by decide +kernel
theorem dX10_follow_230 : decode cX10_follow 230 = .ok (.iload 13, 2) := by decide +kernel
theorem dX10_follow_232 : decode cX10_follow 232 = .ok (.iaload, 1) := by decide +kernel
theorem dX10_follow_233 : decode cX10_follow 233 = .ok (.goto 10, 3) := by decide +kernel
theorem dX10_follow_236 : decode cX10_follow 236 = .ok (.aload_n 0, 1) := by decide +kernel
theorem dX10_follow_237 : decode cX10_follow 237 = .ok (.getfield 62, 3) := by decide +kernel
theorem dX10_follow_240 : decode cX10_follow 240 = .ok (.iload 13, 2) := by decide +kernel
theorem dX10_follow_242 : decode cX10_follow 242 = .ok (.iaload, 1) := by decide +kernel
theorem dX10_follow_243 : decode cX10_follow 243 = .ok (.invokevirtual 252, 3) := by decide +kernel
theorem dX10_follow_246 : decode cX10_follow 246 = .ok (.istore 7, 2) := by decide +kernel
theorem dX10_follow_248 : decode cX10_follow 248 = .ok (.iload 7, 2) := by decide +kernel
theorem dX10_follow_250 : decode cX10_follow 250 = .ok (.ifCond .ne 6, 3) := by decide +kernel
theorem dX10_follow_253 : decode cX10_follow 253 = .ok (.iload 9, 2) := by decide +kernel
theorem dX10_follow_255 : decode cX10_follow 255 = .ok (.ireturn, 1) := by decide +kernel
theorem dX10_follow_256 : decode cX10_follow 256 = .ok (.aload_n 0, 1) := by decide +kernel
theorem dX10_follow_257 : decode cX10_follow 257 = .ok (.getfield 16, 3) := by decide +kernel
theorem dX10_follow_260 : decode cX10_follow 260 = .ok (.iload 11, 2) := by decide +kernel
theorem dX10_follow_262 : decode cX10_follow 262 = .ok (.invokestatic 88, 3) := by decide +kernel
theorem dX10_follow_265 : decode cX10_follow 265 = .ok (.iload 12, 2) := by decide +kernel
theorem dX10_follow_267 : decode cX10_follow 267 = .ok (.ifCond .eq 7, 3) := by decide +kernel
theorem dX10_follow_270 : decode cX10_follow 270 = .ok (.iconst 0, 1) := by decide +kernel
theorem dX10_follow_271 : decode cX10_follow 271 = .ok (.goto 4, 3) := by decide +kernel
theorem dX10_follow_274 : decode cX10_follow 274 = .ok (.iconst 2, 1) := by decide +kernel
theorem dX10_follow_275 : decode cX10_follow 275 = .ok (.iadd, 1) := by decide +kernel
theorem dX10_follow_276 : decode cX10_follow 276 = .ok (.iaload, 1) := by decide +kernel
theorem dX10_follow_277 : decode cX10_follow 277 = .ok (.istore 8, 2) := by decide +kernel
theorem dX10_follow_279 : decode cX10_follow 279 = .ok (.iinc 9 1, 3) := by decide +kernel
theorem dX10_follow_282 : decode cX10_follow 282 = .ok (.goto (-176), 3) := by decide +kernel
theorem dX10_follow_285 : decode cX10_follow 285 = .ok (.aload_n 0, 1) := by decide +kernel
theorem dX10_follow_286 : decode cX10_follow 286 = .ok (.iload 7, 2) := by decide +kernel
theorem dX10_follow_288 : decode cX10_follow 288 = .ok (.invokevirtual 146, 3) := by decide +kernel
theorem dX10_follow_291 : decode cX10_follow 291 = .ok (.ifCond .eq 8, 3) := by decide +kernel
theorem dX10_follow_294 : decode cX10_follow 294 = .ok (.bipush (-9), 2) := by decide +kernel
theorem dX10_follow_296 : decode cX10_follow 296 = .ok (.goto 6, 3) := by decide +kernel
theorem dX10_follow_299 : decode cX10_follow 299 = .ok (.iload_n 2, 1) := by decide +kernel
theorem dX10_follow_300 : decode cX10_follow 300 = .ok (.iconst 1, 1) := by decide +kernel
theorem dX10_follow_301 : decode cX10_follow 301 = .ok (.iadd, 1) := by decide +kernel
theorem dX10_follow_302 : decode cX10_follow 302 = .ok (.ireturn, 1) := by decide +kernel
theorem dX10_ones_0 : decode cX10_ones 0 = .ok (.iconst 0, 1) := by decide +kernel
theorem dX10_ones_1 : decode cX10_ones 1 = .ok (.istore_n 1, 1) := by decide +kernel
theorem dX10_ones_2 : decode cX10_ones 2 = .ok (.iconst 0, 1) := by decide +kernel
theorem dX10_ones_3 : decode cX10_ones 3 = .ok (.istore_n 2, 1) := by decide +kernel
theorem dX10_ones_4 : decode cX10_ones 4 = .ok (.iload_n 2, 1) := by decide +kernel
theorem dX10_ones_5 : decode cX10_ones 5 = .ok (.bipush 24, 2) := by decide +kernel
theorem dX10_ones_7 : decode cX10_ones 7 = .ok (.if_icmp .ge 17, 3) := by decide +kernel
theorem dX10_ones_10 : decode cX10_ones 10 = .ok (.iload_n 1, 1) := by decide +kernel
theorem dX10_ones_11 : decode cX10_ones 11 = .ok (.iload_n 0, 1) := by decide +kernel
theorem dX10_ones_12 : decode cX10_ones 12 = .ok (.iload_n 2, 1) := by decide +kernel
theorem dX10_ones_13 : decode cX10_ones 13 = .ok (.ishr, 1) := by decide +kernel
theorem dX10_ones_14 : decode cX10_ones 14 = .ok (.iconst 1, 1) := by decide +kernel
theorem dX10_ones_15 : decode cX10_ones 15 = .ok (.iand, 1) := by decide +kernel
theorem dX10_ones_16 : decode cX10_ones 16 = .ok (.iadd, 1) := by decide +kernel
theorem dX10_ones_17 : decode cX10_ones 17 = .ok (.istore_n 1, 1) := by decide +kernel
theorem dX10_ones_18 : decode cX10_ones 18 = .ok (.iinc 2 1, 3) := by decide +kernel
theorem dX10_ones_21 : decode cX10_ones 21 = .ok (.goto (-17), 3) := by decide +kernel
theorem dX10_ones_24 : decode cX10_ones 24 = .ok (.iload_n 1, 1) := by decide +kernel
theorem dX10_ones_25 : decode cX10_ones 25 = .ok (.ireturn, 1) := by decide +kernel
theorem dX10_command_0 : decode cX10_command 0 = .ok (.bipush 10, 2) := by decide +kernel
theorem dX10_command_2 : decode cX10_command 2 = .ok (.iload_n 2, 1) := by decide +kernel
theorem dX10_command_3 : decode cX10_command 3 = .ok (.imul, 1) := by decide +kernel
theorem dX10_command_4 : decode cX10_command 4 = .ok (.iload_n 3, 1) := by decide +kernel
theorem dX10_command_5 : decode cX10_command 5 = .ok (.iadd, 1) := by decide +kernel
theorem dX10_command_6 : decode cX10_command 6 = .ok (.istore 6, 2) := by decide +kernel
theorem dX10_command_8 : decode cX10_command 8 = .ok (.iload_n 1, 1) := by decide +kernel
theorem dX10_command_9 : decode cX10_command 9 = .ok (.tableswitch 441 1 9 #[51, 89, 122, 162, 200, 236, 236, 335, 376], 51) := by decide +kernel
theorem dX10_command_60 : decode cX10_command 60 = .ok (.aload_n 0, 1) := by decide +kernel
theorem dX10_command_61 : decode cX10_command 61 = .ok (.getfield 19, 3) := by decide +kernel
theorem dX10_command_64 : decode cX10_command 64 = .ok (.iload_n 2, 1) := by decide +kernel
theorem dX10_command_65 : decode cX10_command 65 = .ok (.iload_n 3, 1) := by decide +kernel
theorem dX10_command_66 : decode cX10_command 66 = .ok (.iload 4, 2) := by decide +kernel
theorem dX10_command_68 : decode cX10_command 68 = .ok (.iload 5, 2) := by decide +kernel
theorem dX10_command_70 : decode cX10_command 70 = .ok (.invokestatic 230, 3) := by decide +kernel
theorem dX10_command_73 : decode cX10_command 73 = .ok (.ifCond .ne 23, 3) := by decide +kernel
theorem dX10_command_76 : decode cX10_command 76 = .ok (.aload_n 0, 1) := by decide +kernel
theorem dX10_command_77 : decode cX10_command 77 = .ok (.getfield 19, 3) := by decide +kernel
theorem dX10_command_80 : decode cX10_command 80 = .ok (.iload_n 2, 1) := by decide +kernel
theorem dX10_command_81 : decode cX10_command 81 = .ok (.iload_n 3, 1) := by decide +kernel
theorem dX10_command_82 : decode cX10_command 82 = .ok (.iload 4, 2) := by decide +kernel
theorem dX10_command_84 : decode cX10_command 84 = .ok (.iload 5, 2) := by decide +kernel
theorem dX10_command_86 : decode cX10_command 86 = .ok (.invokestatic 186, 3) := by decide +kernel
theorem dX10_command_89 : decode cX10_command 89 = .ok (.ifCond .lt 7, 3) := by decide +kernel
theorem dX10_command_92 : decode cX10_command 92 = .ok (.iconst 1, 1) := by decide +kernel
theorem dX10_command_93 : decode cX10_command 93 = .ok (.goto 4, 3) := by decide +kernel
theorem dX10_command_96 : decode cX10_command 96 = .ok (.iconst 0, 1) := by decide +kernel
theorem dX10_command_97 : decode cX10_command 97 = .ok (.ireturn, 1) := by decide +kernel
theorem dX10_command_98 : decode cX10_command 98 = .ok (.iload 4, 2) := by decide +kernel
theorem dX10_command_100 : decode cX10_command 100 = .ok (.iload 5, 2) := by decide +kernel
theorem dX10_command_102 : decode cX10_command 102 = .ok (.iadd, 1) := by decide +kernel
theorem dX10_command_103 : decode cX10_command 103 = .ok (.ifCond .gt 15, 3) := by decide +kernel
theorem dX10_command_106 : decode cX10_command 106 = .ok (.aload_n 0, 1) := by decide +kernel
theorem dX10_command_107 : decode cX10_command 107 = .ok (.getfield 19, 3) := by decide +kernel
theorem dX10_command_110 : decode cX10_command 110 = .ok (.iload 6, 2) := by decide +kernel
theorem dX10_command_112 : decode cX10_command 112 = .ok (.invokestatic 212, 3) := by decide +kernel
theorem dX10_command_115 : decode cX10_command 115 = .ok (.ifCond .ne 5, 3) := by decide +kernel
theorem dX10_command_118 : decode cX10_command 118 = .ok (.iconst 0, 1) := by decide +kernel
theorem dX10_command_119 : decode cX10_command 119 = .ok (.ireturn, 1) := by decide +kernel
theorem dX10_command_120 : decode cX10_command 120 = .ok (.aload_n 0, 1) := by decide +kernel
theorem dX10_command_121 : decode cX10_command 121 = .ok (.getfield 19, 3) := by decide +kernel
theorem dX10_command_124 : decode cX10_command 124 = .ok (.iload 6, 2) := by decide +kernel
theorem dX10_command_126 : decode cX10_command 126 = .ok (.invokestatic 233, 3) := by decide +kernel
theorem dX10_command_129 : decode cX10_command 129 = .ok (.iconst 1, 1) := by decide +kernel
theorem dX10_command_130 : decode cX10_command 130 = .ok (.ireturn, 1) := by decide +kernel
theorem dX10_command_131 : decode cX10_command 131 = .ok (.iload 4, 2) := by decide +kernel
theorem dX10_command_133 : decode cX10_command 133 = .ok (.ifCond .gt 20, 3) := by decide +kernel
theorem dX10_command_136 : decode cX10_command 136 = .ok (.iload 5, 2) := by decide +kernel
theorem dX10_command_138 : decode cX10_command 138 = .ok (.ifCond .eq 15, 3) := by decide +kernel
theorem dX10_command_141 : decode cX10_command 141 = .ok (.aload_n 0, 1) := by decide +kernel
theorem dX10_command_142 : decode cX10_command 142 = .ok (.getfield 19, 3) := by decide +kernel
theorem dX10_command_145 : decode cX10_command 145 = .ok (.iload 6, 2) := by decide +kernel
theorem dX10_command_147 : decode cX10_command 147 = .ok (.invokestatic 212, 3) := by decide +kernel
theorem dX10_command_150 : decode cX10_command 150 = .ok (.ifCond .ne 5, 3) := by decide +kernel
theorem dX10_command_153 : decode cX10_command 153 = .ok (.iconst 0, 1) := by decide +kernel
theorem dX10_command_154 : decode cX10_command 154 = .ok (.ireturn, 1) := by decide +kernel
theorem dX10_command_155 : decode cX10_command 155 = .ok (.aload_n 0, 1) := by decide +kernel
theorem dX10_command_156 : decode cX10_command 156 = .ok (.getfield 19, 3) := by decide +kernel
theorem dX10_command_159 : decode cX10_command 159 = .ok (.iload 6, 2) := by decide +kernel
theorem dX10_command_161 : decode cX10_command 161 = .ok (.invokestatic 88, 3) := by decide +kernel
theorem dX10_command_164 : decode cX10_command 164 = .ok (.iconst 3, 1) := by decide +kernel
theorem dX10_command_165 : decode cX10_command 165 = .ok (.iadd, 1) := by decide +kernel
theorem dX10_command_166 : decode cX10_command 166 = .ok (.iload 5, 2) := by decide +kernel
theorem dX10_command_168 : decode cX10_command 168 = .ok (.iastore, 1) := by decide +kernel
theorem dX10_command_169 : decode cX10_command 169 = .ok (.iconst 1, 1) := by decide +kernel
theorem dX10_command_170 : decode cX10_command 170 = .ok (.ireturn, 1) := by decide +kernel
theorem dX10_command_171 : decode cX10_command 171 = .ok (.iload 4, 2) := by decide +kernel
theorem dX10_command_173 : decode cX10_command 173 = .ok (.iload 5, 2) := by decide +kernel
theorem dX10_command_175 : decode cX10_command 175 = .ok (.iadd, 1) := by decide +kernel
theorem dX10_command_176 : decode cX10_command 176 = .ok (.ifCond .ne 31, 3) := by decide +kernel
theorem dX10_command_179 : decode cX10_command 179 = .ok (.aload_n 0, 1) := by decide +kernel
theorem dX10_command_180 : decode cX10_command 180 = .ok (.getfield 19, 3) := by decide +kernel
theorem dX10_command_183 : decode cX10_command 183 = .ok (.iload 6, 2) := by decide +kernel
theorem dX10_command_185 : decode cX10_command 185 = .ok (.invokestatic 236, 3) := by decide +kernel
theorem dX10_command_188 : decode cX10_command 188 = .ok (.ifCond .ne 19, 3) := by decide +kernel
theorem dX10_command_191 : decode cX10_command 191 = .ok (.aload_n 0, 1) := by decide +kernel
theorem dX10_command_192 : decode cX10_command 192 = .ok (.getfield 19, 3) := by decide +kernel
theorem dX10_command_195 : decode cX10_command 195 = .ok (.iload 6, 2) := by decide +kernel
theorem dX10_command_197 : decode cX10_command 197 = .ok (.invokestatic 239, 3) := by decide +kernel
theorem dX10_command_200 : decode cX10_command 200 = .ok (.ifCond .lt 7, 3) := by decide +kernel
theorem dX10_command_203 : decode cX10_command 203 = .ok (.iconst 1, 1) := by decide +kernel
theorem dX10_command_204 : decode cX10_command 204 = .ok (.goto 4, 3) := by decide +kernel
theorem dX10_command_207 : decode cX10_command 207 = .ok (.iconst 0, 1) := by decide +kernel
theorem dX10_command_208 : decode cX10_command 208 = .ok (.ireturn, 1) := by decide +kernel
theorem dX10_command_209 : decode cX10_command 209 = .ok (.iload 4, 2) := by decide +kernel
theorem dX10_command_211 : decode cX10_command 211 = .ok (.iload 5, 2) := by decide +kernel
theorem dX10_command_213 : decode cX10_command 213 = .ok (.iadd, 1) := by decide +kernel
theorem dX10_command_214 : decode cX10_command 214 = .ok (.ifCond .ne 29, 3) := by decide +kernel
theorem dX10_command_217 : decode cX10_command 217 = .ok (.iload_n 2, 1) := by decide +kernel
theorem dX10_command_218 : decode cX10_command 218 = .ok (.iconst 4, 1) := by decide +kernel
theorem dX10_command_219 : decode cX10_command 219 = .ok (.if_icmp .ge 24, 3) := by decide +kernel
theorem dX10_command_222 : decode cX10_command 222 = .ok (.iload_n 3, 1) := by decide +kernel
theorem dX10_command_223 : decode cX10_command 223 = .ok (.iconst 4, 1) := by decide +kernel
theorem dX10_command_224 : decode cX10_command 224 = .ok (.if_icmp .ge 19, 3) := by decide +kernel
theorem dX10_command_227 : decode cX10_command 227 = .ok (.aload_n 0, 1) := by decide +kernel
theorem dX10_command_228 : decode cX10_command 228 = .ok (.getfield 19, 3) := by decide +kernel
theorem dX10_command_231 : decode cX10_command 231 = .ok (.iload_n 2, 1) := by decide +kernel
theorem dX10_command_232 : decode cX10_command 232 = .ok (.iload_n 3, 1) := by decide +kernel
theorem dX10_command_233 : decode cX10_command 233 = .ok (.invokestatic 242, 3) := by decide +kernel
theorem dX10_command_236 : decode cX10_command 236 = .ok (.ifCond .lt 7, 3) := by decide +kernel
theorem dX10_command_239 : decode cX10_command 239 = .ok (.iconst 1, 1) := by decide +kernel
theorem dX10_command_240 : decode cX10_command 240 = .ok (.goto 4, 3) := by decide +kernel
theorem dX10_command_243 : decode cX10_command 243 = .ok (.iconst 0, 1) := by decide +kernel
theorem dX10_command_244 : decode cX10_command 244 = .ok (.ireturn, 1) := by decide +kernel
theorem dX10_command_245 : decode cX10_command 245 = .ok (.aload_n 0, 1) := by decide +kernel
theorem dX10_command_246 : decode cX10_command 246 = .ok (.getfield 19, 3) := by decide +kernel
theorem dX10_command_249 : decode cX10_command 249 = .ok (.iload_n 2, 1) := by decide +kernel
theorem dX10_command_250 : decode cX10_command 250 = .ok (.invokestatic 218, 3) := by decide +kernel
theorem dX10_command_253 : decode cX10_command 253 = .ok (.ifCond .eq 25, 3) := by decide +kernel
theorem dX10_command_256 : decode cX10_command 256 = .ok (.aload_n 0, 1) := by decide +kernel
theorem dX10_command_257 : decode cX10_command 257 = .ok (.getfield 19, 3) := by decide +kernel
theorem dX10_command_260 : decode cX10_command 260 = .ok (.iload_n 3, 1) := by decide +kernel
theorem dX10_command_261 : decode cX10_command 261 = .ok (.invokestatic 218, 3) := by decide +kernel
theorem dX10_command_264 : decode cX10_command 264 = .ok (.ifCond .eq 14, 3) := by decide +kernel
theorem dX10_command_267 : decode cX10_command 267 = .ok (.iload_n 1, 1) := by decide +kernel
theorem dX10_command_268 : decode cX10_command 268 = .ok (.bipush 7, 2) := by decide +kernel
theorem dX10_command_270 : decode cX10_command 270 = .ok (.if_icmp .ne 10, 3) := by decide +kernel
theorem dX10_command_273 : decode cX10_command 273 = .ok (.iload 4, 2) := by decide +kernel
theorem dX10_command_275 : decode cX10_command 275 = .ok (.ifCond .le 5, 3) := by decide +kernel
theorem dX10_command_278 : decode cX10_command 278 = .ok (.iconst 0, 1) := by decide +kernel
theorem dX10_command_279 : decode cX10_command 279 = .ok (.ireturn, 1) := by decide +kernel
theorem dX10_command_280 : decode cX10_command 280 = .ok (.aload_n 0, 1) := by decide +kernel
theorem dX10_command_281 : decode cX10_command 281 = .ok (.aload_n 0, 1) := by decide +kernel
theorem dX10_command_282 : decode cX10_command 282 = .ok (.getfield 19, 3) := by decide +kernel
theorem dX10_command_285 : decode cX10_command 285 = .ok (.iload_n 2, 1) := by decide +kernel
theorem dX10_command_286 : decode cX10_command 286 = .ok (.iload_n 3, 1) := by decide +kernel
theorem dX10_command_287 : decode cX10_command 287 = .ok (.bipush (-9), 2) := by decide +kernel
theorem dX10_command_289 : decode cX10_command 289 = .ok (.invokevirtual 261, 3) := by decide +kernel
theorem dX10_command_292 : decode cX10_command 292 = .ok (.istore 7, 2) := by decide +kernel
theorem dX10_command_294 : decode cX10_command 294 = .ok (.iload 7, 2) := by decide +kernel
theorem dX10_command_296 : decode cX10_command 296 = .ok (.ldc 145, 2) := by decide +kernel
theorem dX10_command_298 : decode cX10_command 298 = .ok (.if_icmp .ge 44, 3) := by decide +kernel
theorem dX10_command_301 : decode cX10_command 301 = .ok (.iload_n 1, 1) := by decide +kernel
theorem dX10_command_302 : decode cX10_command 302 = .ok (.bipush 6, 2) := by decide +kernel
theorem dX10_command_304 : decode cX10_command 304 = .ok (.if_icmp .ne 23, 3) := by decide +kernel
theorem dX10_command_307 : decode cX10_command 307 = .ok (.iload 7, 2) := by decide +kernel
theorem dX10_command_309 : decode cX10_command 309 = .ok (.sipush 1000, 3) := by decide +kernel
theorem dX10_command_312 : decode cX10_command 312 = .ok (.idiv, 1) := by decide +kernel
theorem dX10_command_313 : decode cX10_command 313 = .ok (.bipush 10, 2) := by decide +kernel
theorem dX10_command_315 : decode cX10_command 315 = .ok (.iload 4, 2) := by decide +kernel
theorem dX10_command_317 : decode cX10_command 317 = .ok (.imul, 1) := by decide +kernel
theorem dX10_command_318 : decode cX10_command 318 = .ok (.iload 5, 2) := by decide +kernel
theorem dX10_command_320 : decode cX10_command 320 = .ok (.iadd, 1) := by decide +kernel
theorem dX10_command_321 : decode cX10_command 321 = .ok (.if_icmp .gt 21, 3) := by decide +kernel
theorem dX10_command_324 : decode cX10_command 324 = .ok (.goto 14, 3) := by decide +kernel
theorem dX10_command_327 : decode cX10_command 327 = .ok (.iload 7, 2) := by decide +kernel
theorem dX10_command_329 : decode cX10_command 329 = .ok (.sipush 1000, 3) := by decide +kernel
theorem dX10_command_332 : decode cX10_command 332 = .ok (.irem, 1) := by decide +kernel
theorem dX10_command_333 : decode cX10_command 333 = .ok (.iload 5, 2) := by decide +kernel
theorem dX10_command_335 : decode cX10_command 335 = .ok (.if_icmp .gt 7, 3) := by decide +kernel
theorem dX10_command_338 : decode cX10_command 338 = .ok (.iconst 1, 1) := by decide +kernel
theorem dX10_command_339 : decode cX10_command 339 = .ok (.goto 4, 3) := by decide +kernel
theorem dX10_command_342 : decode cX10_command 342 = .ok (.iconst 0, 1) := by decide +kernel
theorem dX10_command_343 : decode cX10_command 343 = .ok (.ireturn, 1) := by decide +kernel
theorem dX10_command_344 : decode cX10_command 344 = .ok (.iload_n 3, 1) := by decide +kernel
theorem dX10_command_345 : decode cX10_command 345 = .ok (.iload 4, 2) := by decide +kernel
theorem dX10_command_347 : decode cX10_command 347 = .ok (.iadd, 1) := by decide +kernel
theorem dX10_command_348 : decode cX10_command 348 = .ok (.ifCond .ne 35, 3) := by decide +kernel
theorem dX10_command_351 : decode cX10_command 351 = .ok (.aload_n 0, 1) := by decide +kernel
theorem dX10_command_352 : decode cX10_command 352 = .ok (.getfield 19, 3) := by decide +kernel
theorem dX10_command_355 : decode cX10_command 355 = .ok (.iload_n 2, 1) := by decide +kernel
theorem dX10_command_356 : decode cX10_command 356 = .ok (.invokestatic 218, 3) := by decide +kernel
theorem dX10_command_359 : decode cX10_command 359 = .ok (.ifCond .eq 24, 3) := by decide +kernel
theorem dX10_command_362 : decode cX10_command 362 = .ok (.aload_n 0, 1) := by decide +kernel
theorem dX10_command_363 : decode cX10_command 363 = .ok (.aload_n 0, 1) := by decide +kernel
theorem dX10_command_364 : decode cX10_command 364 = .ok (.getfield 19, 3) := by decide +kernel
theorem dX10_command_367 : decode cX10_command 367 = .ok (.iload_n 2, 1) := by decide +kernel
theorem dX10_command_368 : decode cX10_command 368 = .ok (.invokevirtual 221, 3) := by decide +kernel
theorem dX10_command_371 : decode cX10_command 371 = .ok (.invokestatic 272, 3) := by decide +kernel
theorem dX10_command_374 : decode cX10_command 374 = .ok (.iload 5, 2) := by decide +kernel
theorem dX10_command_376 : decode cX10_command 376 = .ok (.if_icmp .lt 7, 3) := by decide +kernel
theorem dX10_command_379 : decode cX10_command 379 = .ok (.iconst 1, 1) := by decide +kernel
theorem dX10_command_380 : decode cX10_command 380 = .ok (.goto 4, 3) := by decide +kernel
theorem dX10_command_383 : decode cX10_command 383 = .ok (.iconst 0, 1) := by decide +kernel
theorem dX10_command_384 : decode cX10_command 384 = .ok (.ireturn, 1) := by decide +kernel
theorem dX10_command_385 : decode cX10_command 385 = .ok (.aload_n 0, 1) := by decide +kernel
theorem dX10_command_386 : decode cX10_command 386 = .ok (.getfield 19, 3) := by decide +kernel
theorem dX10_command_389 : decode cX10_command 389 = .ok (.iload 6, 2) := by decide +kernel
theorem dX10_command_391 : decode cX10_command 391 = .ok (.invokestatic 212, 3) := by decide +kernel
theorem dX10_command_394 : decode cX10_command 394 = .ok (.ifCond .eq 27, 3) := by decide +kernel
theorem dX10_command_397 : decode cX10_command 397 = .ok (.aload_n 0, 1) := by decide +kernel
theorem dX10_command_398 : decode cX10_command 398 = .ok (.getfield 19, 3) := by decide +kernel
theorem dX10_command_401 : decode cX10_command 401 = .ok (.iload 4, 2) := by decide +kernel
theorem dX10_command_403 : decode cX10_command 403 = .ok (.invokestatic 218, 3) := by decide +kernel
theorem dX10_command_406 : decode cX10_command 406 = .ok (.ifCond .eq 15, 3) := by decide +kernel
theorem dX10_command_409 : decode cX10_command 409 = .ok (.aload_n 0, 1) := by decide +kernel
theorem dX10_command_410 : decode cX10_command 410 = .ok (.getfield 19, 3) := by decide +kernel
theorem dX10_command_413 : decode cX10_command 413 = .ok (.iload 5, 2) := by decide +kernel
theorem dX10_command_415 : decode cX10_command 415 = .ok (.invokestatic 218, 3) := by decide +kernel
theorem dX10_command_418 : decode cX10_command 418 = .ok (.ifCond .ne 5, 3) := by decide +kernel
theorem dX10_command_421 : decode cX10_command 421 = .ok (.iconst 0, 1) := by decide +kernel
theorem dX10_command_422 : decode cX10_command 422 = .ok (.ireturn, 1) := by decide +kernel
theorem dX10_command_423 : decode cX10_command 423 = .ok (.aload_n 0, 1) := by decide +kernel
theorem dX10_command_424 : decode cX10_command 424 = .ok (.aload_n 0, 1) := by decide +kernel
theorem dX10_command_425 : decode cX10_command 425 = .ok (.getfield 19, 3) := by decide +kernel
theorem dX10_command_428 : decode cX10_command 428 = .ok (.iload 4, 2) := by decide +kernel
theorem dX10_command_430 : decode cX10_command 430 = .ok (.iload 5, 2) := by decide +kernel
theorem dX10_command_432 : decode cX10_command 432 = .ok (.invokevirtual 264, 3) := by decide +kernel
theorem dX10_command_435 : decode cX10_command 435 = .ok (.iload 6, 2) := by decide +kernel
theorem dX10_command_437 : decode cX10_command 437 = .ok (.ishr, 1) := by decide +kernel
theorem dX10_command_438 : decode cX10_command 438 = .ok (.iconst 1, 1) := by decide +kernel
theorem dX10_command_439 : decode cX10_command 439 = .ok (.iand, 1) := by decide +kernel
theorem dX10_command_440 : decode cX10_command 440 = .ok (.iconst 1, 1) := by decide +kernel
theorem dX10_command_441 : decode cX10_command 441 = .ok (.if_icmp .ne 7, 3) := by decide +kernel
theorem dX10_command_444 : decode cX10_command 444 = .ok (.iconst 1, 1) := by decide +kernel
theorem dX10_command_445 : decode cX10_command 445 = .ok (.goto 4, 3) := by decide +kernel
theorem dX10_command_448 : decode cX10_command 448 = .ok (.iconst 0, 1) := by decide +kernel
theorem dX10_command_449 : decode cX10_command 449 = .ok (.ireturn, 1) := by decide +kernel
theorem dX10_command_450 : decode cX10_command 450 = .ok (.iconst 0, 1) := by decide +kernel
theorem dX10_command_451 : decode cX10_command 451 = .ok (.ireturn, 1) := by decide +kernel
theorem dX10_runScript_0 : decode cX10_runScript 0 = .ok (.lconst 1, 1) := by decide +kernel
theorem dX10_runScript_1 : decode cX10_runScript 1 = .ok (.lstore 4, 2) := by decide +kernel
theorem dX10_runScript_3 : decode cX10_runScript 3 = .ok (.iconst 0, 1) := by decide +kernel
theorem dX10_runScript_4 : decode cX10_runScript 4 = .ok (.istore 6, 2) := by decide +kernel
theorem dX10_runScript_6 : decode cX10_runScript 6 = .ok (.iload 6, 2) := by decide +kernel
theorem dX10_runScript_8 : decode cX10_runScript 8 = .ok (.iload_n 1, 1) := by decide +kernel
theorem dX10_runScript_9 : decode cX10_runScript 9 = .ok (.if_icmp .ge 23, 3) := by decide +kernel
theorem dX10_runScript_12 : decode cX10_runScript 12 = .ok (.iload 6, 2) := by decide +kernel
theorem dX10_runScript_14 : decode cX10_runScript 14 = .ok (.iconst 3, 1) := by decide +kernel
theorem dX10_runScript_15 : decode cX10_runScript 15 = .ok (.if_icmp .ge 17, 3) := by decide +kernel
theorem dX10_runScript_18 : decode cX10_runScript 18 = .ok (.lload 4, 2) := by decide +kernel
theorem dX10_runScript_20 : decode cX10_runScript 20 = .ok (.ldc2_w 275, 3) := by decide +kernel
theorem dX10_runScript_23 : decode cX10_runScript 23 = .ok (.lmul, 1) := by decide +kernel
theorem dX10_runScript_24 : decode cX10_runScript 24 = .ok (.lstore 4, 2) := by decide +kernel
theorem dX10_runScript_26 : decode cX10_runScript 26 = .ok (.iinc 6 1, 3) := by decide +kernel
theorem dX10_runScript_29 : decode cX10_runScript 29 = .ok (.goto (-23), 3) := by decide +kernel
theorem dX10_runScript_32 : decode cX10_runScript 32 = .ok (.aload_n 0, 1) := by decide +kernel
theorem dX10_runScript_33 : decode cX10_runScript 33 = .ok (.iload_n 1, 1) := by decide +kernel
theorem dX10_runScript_34 : decode cX10_runScript 34 = .ok (.i2l, 1) := by decide +kernel
theorem dX10_runScript_35 : decode cX10_runScript 35 = .ok (.lconst 1, 1) := by decide +kernel
theorem dX10_runScript_36 : decode cX10_runScript 36 = .ok (.ldc2_w 216, 3) := by decide +kernel
theorem dX10_runScript_39 : decode cX10_runScript 39 = .ok (.invokestatic 84, 3) := by decide +kernel
theorem dX10_runScript_42 : decode cX10_runScript 42 = .ok (.ifCond .eq 19, 3) := by decide +kernel
theorem dX10_runScript_45 : decode cX10_runScript 45 = .ok (.lload_n 2, 1) := by decide +kernel
theorem dX10_runScript_46 : decode cX10_runScript 46 = .ok (.lconst 0, 1) := by decide +kernel
theorem dX10_runScript_47 : decode cX10_runScript 47 = .ok (.lload 4, 2) := by decide +kernel
theorem dX10_runScript_49 : decode cX10_runScript 49 = .ok (.lconst 1, 1) := by decide +kernel
theorem dX10_runScript_50 : decode cX10_runScript 50 = .ok (.lsub, 1) := by decide +kernel
theorem dX10_runScript_51 : decode cX10_runScript 51 = .ok (.invokestatic 84, 3) := by decide +kernel
theorem dX10_runScript_54 : decode cX10_runScript 54 = .ok (.ifCond .eq 7, 3) := by decide +kernel
theorem dX10_runScript_57 : decode cX10_runScript 57 = .ok (.iconst 0, 1) := by decide +kernel
theorem dX10_runScript_58 : decode cX10_runScript 58 = .ok (.goto 4, 3) := by decide +kernel
theorem dX10_runScript_61 : decode cX10_runScript 61 = .ok (.iconst 1, 1) := by decide +kernel
theorem dX10_runScript_62 : decode cX10_runScript 62 = .ok (.invokevirtual 173, 3) := by decide +kernel
theorem dX10_runScript_65 : decode cX10_runScript 65 = .ok (.ifCond .eq 5, 3) := by decide +kernel
theorem dX10_runScript_68 : decode cX10_runScript 68 = .ok (.iconst 0, 1) := by decide +kernel
theorem dX10_runScript_69 : decode cX10_runScript 69 = .ok (.ireturn, 1) := by decide +kernel
theorem dX10_runScript_70 : decode cX10_runScript 70 = .ok (.aload_n 0, 1) := by decide +kernel
theorem dX10_runScript_71 : decode cX10_runScript 71 = .ok (.getfield 16, 3) := by decide +kernel
theorem dX10_runScript_74 : decode cX10_runScript 74 = .ok (.iconst 0, 1) := by decide +kernel
theorem dX10_runScript_75 : decode cX10_runScript 75 = .ok (.aload_n 0, 1) := by decide +kernel
theorem dX10_runScript_76 : decode cX10_runScript 76 = .ok (.getfield 19, 3) := by decide +kernel
theorem dX10_runScript_79 : decode cX10_runScript 79 = .ok (.iconst 0, 1) := by decide +kernel
theorem dX10_runScript_80 : decode cX10_runScript 80 = .ok (.invokestatic 197, 3) := by decide +kernel
theorem dX10_runScript_83 : decode cX10_runScript 83 = .ok (.iconst 0, 1) := by decide +kernel
theorem dX10_runScript_84 : decode cX10_runScript 84 = .ok (.istore 6, 2) := by decide +kernel
theorem dX10_runScript_86 : decode cX10_runScript 86 = .ok (.iload 6, 2) := by decide +kernel
theorem dX10_runScript_88 : decode cX10_runScript 88 = .ok (.iload_n 1, 1) := by decide +kernel
theorem dX10_runScript_89 : decode cX10_runScript 89 = .ok (.if_icmp .ge 74, 3) := by decide +kernel
theorem dX10_runScript_92 : decode cX10_runScript 92 = .ok (.lload 4, 2) := by decide +kernel
theorem dX10_runScript_94 : decode cX10_runScript 94 = .ok (.ldc2_w 275, 3) := by decide +kernel
theorem dX10_runScript_97 : decode cX10_runScript 97 = .ok (.ldiv, 1) := by decide +kernel
theorem dX10_runScript_98 : decode cX10_runScript 98 = .ok (.lstore 4, 2) := by decide +kernel
theorem dX10_runScript_100 : decode cX10_runScript 100 = .ok (.lload_n 2, 1) := by decide +kernel
theorem dX10_runScript_101 : decode cX10_runScript 101 = .ok (.lload 4, 2) := by decide +kernel
theorem dX10_runScript_103 : decode cX10_runScript 103 = .ok (.ldiv, 1) := by decide +kernel
theorem dX10_runScript_104 : decode cX10_runScript 104 = .ok (.ldc2_w 275, 3) := by decide +kernel
theorem dX10_runScript_107 : decode cX10_runScript 107 = .ok (.lrem, 1) := by decide +kernel
theorem dX10_runScript_108 : decode cX10_runScript 108 = .ok (.l2i, 1) := by decide +kernel
theorem dX10_runScript_109 : decode cX10_runScript 109 = .ok (.istore 7, 2) := by decide +kernel
theorem dX10_runScript_111 : decode cX10_runScript 111 = .ok (.aload_n 0, 1) := by decide +kernel
theorem dX10_runScript_112 : decode cX10_runScript 112 = .ok (.iload 7, 2) := by decide +kernel
theorem dX10_runScript_114 : decode cX10_runScript 114 = .ok (.sipush 10000, 3) := by decide +kernel
theorem dX10_runScript_117 : decode cX10_runScript 117 = .ok (.idiv, 1) := by decide +kernel
theorem dX10_runScript_118 : decode cX10_runScript 118 = .ok (.iload 7, 2) := by decide +kernel
theorem dX10_runScript_120 : decode cX10_runScript 120 = .ok (.sipush 1000, 3) := by decide +kernel
theorem dX10_runScript_123 : decode cX10_runScript 123 = .ok (.idiv, 1) := by decide +kernel
theorem dX10_runScript_124 : decode cX10_runScript 124 = .ok (.bipush 10, 2) := by decide +kernel
theorem dX10_runScript_126 : decode cX10_runScript 126 = .ok (.irem, 1) := by decide +kernel
theorem dX10_runScript_127 : decode cX10_runScript 127 = .ok (.iload 7, 2) := by decide +kernel
theorem dX10_runScript_129 : decode cX10_runScript 129 = .ok (.bipush 100, 2) := by decide +kernel
theorem dX10_runScript_131 : decode cX10_runScript 131 = .ok (.idiv, 1) := by decide +kernel
theorem dX10_runScript_132 : decode cX10_runScript 132 = .ok (.bipush 10, 2) := by decide +kernel
theorem dX10_runScript_134 : decode cX10_runScript 134 = .ok (.irem, 1) := by decide +kernel
theorem dX10_runScript_135 : decode cX10_runScript 135 = .ok (.iload 7, 2) := by decide +kernel
theorem dX10_runScript_137 : decode cX10_runScript 137 = .ok (.bipush 10, 2) := by decide +kernel
theorem dX10_runScript_139 : decode cX10_runScript 139 = .ok (.idiv, 1) := by decide +kernel
theorem dX10_runScript_140 : decode cX10_runScript 140 = .ok (.bipush 10, 2) := by decide +kernel
theorem dX10_runScript_142 : decode cX10_runScript 142 = .ok (.irem, 1) := by decide +kernel
theorem dX10_runScript_143 : decode cX10_runScript 143 = .ok (.iload 7, 2) := by decide +kernel
theorem dX10_runScript_145 : decode cX10_runScript 145 = .ok (.bipush 10, 2) := by decide +kernel
theorem dX10_runScript_147 : decode cX10_runScript 147 = .ok (.irem, 1) := by decide +kernel
theorem dX10_runScript_148 : decode cX10_runScript 148 = .ok (.invokevirtual 277, 3) := by decide +kernel
theorem dX10_runScript_151 : decode cX10_runScript 151 = .ok (.ifCond .ne 6, 3) := by decide +kernel
theorem dX10_runScript_154 : decode cX10_runScript 154 = .ok (.iload 6, 2) := by decide +kernel
theorem dX10_runScript_156 : decode cX10_runScript 156 = .ok (.ireturn, 1) := by decide +kernel
theorem dX10_runScript_157 : decode cX10_runScript 157 = .ok (.iinc 6 1, 3) := by decide +kernel
theorem dX10_runScript_160 : decode cX10_runScript 160 = .ok (.goto (-74), 3) := by decide +kernel
theorem dX10_runScript_163 : decode cX10_runScript 163 = .ok (.bipush (-9), 2) := by decide +kernel
theorem dX10_runScript_165 : decode cX10_runScript 165 = .ok (.ireturn, 1) := by decide +kernel
theorem dX10_simulate_0 : decode cX10_simulate 0 = .ok (.aload_n 0, 1) := by decide +kernel
theorem dX10_simulate_1 : decode cX10_simulate 1 = .ok (.iload_n 3, 1) := by decide +kernel
theorem dX10_simulate_2 : decode cX10_simulate 2 = .ok (.i2l, 1) := by decide +kernel
theorem dX10_simulate_3 : decode cX10_simulate 3 = .ok (.lconst 1, 1) := by decide +kernel
theorem dX10_simulate_4 : decode cX10_simulate 4 = .ok (.ldc2_w 281, 3) := by decide +kernel
theorem dX10_simulate_7 : decode cX10_simulate 7 = .ok (.invokestatic 84, 3) := by decide +kernel
theorem dX10_simulate_10 : decode cX10_simulate 10 = .ok (.ifCond .eq 7, 3) := by decide +kernel
theorem dX10_simulate_13 : decode cX10_simulate 13 = .ok (.iconst 0, 1) := by decide +kernel
theorem dX10_simulate_14 : decode cX10_simulate 14 = .ok (.goto 4, 3) := by decide +kernel
theorem dX10_simulate_17 : decode cX10_simulate 17 = .ok (.iconst 1, 1) := by decide +kernel
theorem dX10_simulate_18 : decode cX10_simulate 18 = .ok (.invokevirtual 173, 3) := by decide +kernel
theorem dX10_simulate_21 : decode cX10_simulate 21 = .ok (.ifCond .eq 5, 3) := by decide +kernel
theorem dX10_simulate_24 : decode cX10_simulate 24 = .ok (.iconst 0, 1) := by decide +kernel
theorem dX10_simulate_25 : decode cX10_simulate 25 = .ok (.ireturn, 1) := by decide +kernel
theorem dX10_simulate_26 : decode cX10_simulate 26 = .ok (.aload_n 0, 1) := by decide +kernel
theorem dX10_simulate_27 : decode cX10_simulate 27 = .ok (.aload_n 0, 1) := by decide +kernel
theorem dX10_simulate_28 : decode cX10_simulate 28 = .ok (.getfield 16, 3) := by decide +kernel
theorem dX10_simulate_31 : decode cX10_simulate 31 = .ok (.invokevirtual 158, 3) := by decide +kernel
theorem dX10_simulate_34 : decode cX10_simulate 34 = .ok (.iconst 0, 1) := by decide +kernel
theorem dX10_simulate_35 : decode cX10_simulate 35 = .ok (.istore 4, 2) := by decide +kernel
theorem dX10_simulate_37 : decode cX10_simulate 37 = .ok (.iconst 0, 1) := by decide +kernel
theorem dX10_simulate_38 : decode cX10_simulate 38 = .ok (.istore 5, 2) := by decide +kernel
theorem dX10_simulate_40 : decode cX10_simulate 40 = .ok (.lload_n 1, 1) := by decide +kernel
theorem dX10_simulate_41 : decode cX10_simulate 41 = .ok (.lstore 6, 2) := by decide +kernel
theorem dX10_simulate_43 : decode cX10_simulate 43 = .ok (.iconst 0, 1) := by decide +kernel
theorem dX10_simulate_44 : decode cX10_simulate 44 = .ok (.istore 8, 2) := by decide +kernel
theorem dX10_simulate_46 : decode cX10_simulate 46 = .ok (.iload 8, 2) := by decide +kernel
theorem dX10_simulate_48 : decode cX10_simulate 48 = .ok (.iload_n 3, 1) := by decide +kernel
theorem dX10_simulate_49 : decode cX10_simulate 49 = .ok (.if_icmp .ge 117, 3) := by decide +kernel
theorem dX10_simulate_52 : decode cX10_simulate 52 = .ok (.iconst 0, 1) := by decide +kernel
theorem dX10_simulate_53 : decode cX10_simulate 53 = .ok (.istore 9, 2) := by decide +kernel
theorem dX10_simulate_55 : decode cX10_simulate 55 = .ok (.iload 9, 2) := by decide +kernel
theorem dX10_simulate_57 : decode cX10_simulate 57 = .ok (.aload_n 0, 1) := by decide +kernel
theorem dX10_simulate_58 : decode cX10_simulate 58 = .ok (.getfield 16, 3) := by decide +kernel
theorem dX10_simulate_61 : decode cX10_simulate 61 = .ok (.iconst 1, 1) := by decide +kernel
theorem dX10_simulate_62 : decode cX10_simulate 62 = .ok (.iaload, 1) := by decide +kernel
theorem dX10_simulate_63 : decode cX10_simulate 63 = .ok (.if_icmp .ge 58, 3) := by decide +kernel
theorem dX10_simulate_66 : decode cX10_simulate 66 = .ok (.lload 6, 2) := by decide +kernel
theorem dX10_simulate_68 : decode cX10_simulate 68 = .ok (.ldc2_w 283, 3) := by decide +kernel
theorem dX10_simulate_71 : decode cX10_simulate 71 = .ok (.lmul, 1) := by decide +kernel
theorem dX10_simulate_72 : decode cX10_simulate 72 = .ok (.ldc2_w 285, 3) := by decide +kernel
theorem dX10_simulate_75 : decode cX10_simulate 75 = .ok (.ladd, 1) := by decide +kernel
theorem dX10_simulate_76 : decode cX10_simulate 76 = .ok (.lstore 6, 2) := by decide +kernel
theorem dX10_simulate_78 : decode cX10_simulate 78 = .ok (.lload 6, 2) := by decide +kernel
theorem dX10_simulate_80 : decode cX10_simulate 80 = .ok (.bipush 33, 2) := by decide +kernel
theorem dX10_simulate_82 : decode cX10_simulate 82 = .ok (.lushr, 1) := by decide +kernel
theorem dX10_simulate_83 : decode cX10_simulate 83 = .ok (.l2i, 1) := by decide +kernel
theorem dX10_simulate_84 : decode cX10_simulate 84 = .ok (.istore 10, 2) := by decide +kernel
theorem dX10_simulate_86 : decode cX10_simulate 86 = .ok (.aload_n 0, 1) := by decide +kernel
theorem dX10_simulate_87 : decode cX10_simulate 87 = .ok (.getfield 56, 3) := by decide +kernel
theorem dX10_simulate_90 : decode cX10_simulate 90 = .ok (.iload 9, 2) := by decide +kernel
theorem dX10_simulate_92 : decode cX10_simulate 92 = .ok (.iload 10, 2) := by decide +kernel
theorem dX10_simulate_94 : decode cX10_simulate 94 = .ok (.bipush 16, 2) := by decide +kernel
theorem dX10_simulate_96 : decode cX10_simulate 96 = .ok (.idiv, 1) := by decide +kernel
theorem dX10_simulate_97 : decode cX10_simulate 97 = .ok (.bipush 8, 2) := by decide +kernel
theorem dX10_simulate_99 : decode cX10_simulate 99 = .ok (.irem, 1) := by decide +kernel
theorem dX10_simulate_100 : decode cX10_simulate 100 = .ok (.ifCond .ne 7, 3) := by decide +kernel
theorem dX10_simulate_103 : decode cX10_simulate 103 = .ok (.iconst 0, 1) := by decide +kernel
theorem dX10_simulate_104 : decode cX10_simulate 104 = .ok (.goto 10, 3) := by decide +kernel
theorem dX10_simulate_107 : decode cX10_simulate 107 = .ok (.iconst 1, 1) := by decide +kernel
theorem dX10_simulate_108 : decode cX10_simulate 108 = .ok (.iload 10, 2) := by decide +kernel
theorem dX10_simulate_110 : decode cX10_simulate 110 = .ok (.bipush 9, 2) := by decide +kernel
theorem dX10_simulate_112 : decode cX10_simulate 112 = .ok (.irem, 1) := by decide +kernel
theorem dX10_simulate_113 : decode cX10_simulate 113 = .ok (.iadd, 1) := by decide +kernel
theorem dX10_simulate_114 : decode cX10_simulate 114 = .ok (.iastore, 1) := by decide +kernel
theorem dX10_simulate_115 : decode cX10_simulate 115 = .ok (.iinc 9 1, 3) := by decide +kernel
theorem dX10_simulate_118 : decode cX10_simulate 118 = .ok (.goto (-63), 3) := by decide +kernel
theorem dX10_simulate_121 : decode cX10_simulate 121 = .ok (.aload_n 0, 1) := by decide +kernel
theorem dX10_simulate_122 : decode cX10_simulate 122 = .ok (.aload_n 0, 1) := by decide +kernel
theorem dX10_simulate_123 : decode cX10_simulate 123 = .ok (.getfield 16, 3) := by decide +kernel
theorem dX10_simulate_126 : decode cX10_simulate 126 = .ok (.invokevirtual 209, 3) := by decide +kernel
theorem dX10_simulate_129 : decode cX10_simulate 129 = .ok (.iload 4, 2) := by decide +kernel
theorem dX10_simulate_131 : decode cX10_simulate 131 = .ok (.aload_n 0, 1) := by decide +kernel
theorem dX10_simulate_132 : decode cX10_simulate 132 = .ok (.getfield 201, 3) := by decide +kernel
theorem dX10_simulate_135 : decode cX10_simulate 135 = .ok (.iadd, 1) := by decide +kernel
theorem dX10_simulate_136 : decode cX10_simulate 136 = .ok (.istore 4, 2) := by decide +kernel
theorem dX10_simulate_138 : decode cX10_simulate 138 = .ok (.iload 5, 2) := by decide +kernel
theorem dX10_simulate_140 : decode cX10_simulate 140 = .ok (.aload_n 0, 1) := by decide +kernel
theorem dX10_simulate_141 : decode cX10_simulate 141 = .ok (.getfield 204, 3) := by decide +kernel
theorem dX10_simulate_144 : decode cX10_simulate 144 = .ok (.bipush (-9), 2) := by decide +kernel
theorem dX10_simulate_146 : decode cX10_simulate 146 = .ok (.if_icmp .ne 7, 3) := by decide +kernel
theorem dX10_simulate_149 : decode cX10_simulate 149 = .ok (.iconst 0, 1) := by decide +kernel
theorem dX10_simulate_150 : decode cX10_simulate 150 = .ok (.goto 7, 3) := by decide +kernel
theorem dX10_simulate_153 : decode cX10_simulate 153 = .ok (.aload_n 0, 1) := by decide +kernel
theorem dX10_simulate_154 : decode cX10_simulate 154 = .ok (.getfield 204, 3) := by decide +kernel
theorem dX10_simulate_157 : decode cX10_simulate 157 = .ok (.iadd, 1) := by decide +kernel
theorem dX10_simulate_158 : decode cX10_simulate 158 = .ok (.istore 5, 2) := by decide +kernel
theorem dX10_simulate_160 : decode cX10_simulate 160 = .ok (.iinc 8 1, 3) := by decide +kernel
theorem dX10_simulate_163 : decode cX10_simulate 163 = .ok (.goto (-117), 3) := by decide +kernel
theorem dX10_simulate_166 : decode cX10_simulate 166 = .ok (.ldc_w 267, 3) := by decide +kernel
theorem dX10_simulate_169 : decode cX10_simulate 169 = .ok (.iload 4, 2) := by decide +kernel
theorem dX10_simulate_171 : decode cX10_simulate 171 = .ok (.imul, 1) := by decide +kernel
theorem dX10_simulate_172 : decode cX10_simulate 172 = .ok (.iload 5, 2) := by decide +kernel
theorem dX10_simulate_174 : decode cX10_simulate 174 = .ok (.iadd, 1) := by decide +kernel
theorem dX10_simulate_175 : decode cX10_simulate 175 = .ok (.ireturn, 1) := by decide +kernel
theorem dX10_save_0 : decode cX10_save 0 = .ok (.aload_n 0, 1) := by decide +kernel
theorem dX10_save_1 : decode cX10_save 1 = .ok (.iload_n 1, 1) := by decide +kernel
theorem dX10_save_2 : decode cX10_save 2 = .ok (.i2l, 1) := by decide +kernel
theorem dX10_save_3 : decode cX10_save 3 = .ok (.lconst 0, 1) := by decide +kernel
theorem dX10_save_4 : decode cX10_save 4 = .ok (.lconst 1, 1) := by decide +kernel
theorem dX10_save_5 : decode cX10_save 5 = .ok (.invokestatic 84, 3) := by decide +kernel
theorem dX10_save_8 : decode cX10_save 8 = .ok (.ifCond .eq 7, 3) := by decide +kernel
theorem dX10_save_11 : decode cX10_save 11 = .ok (.iconst 0, 1) := by decide +kernel
theorem dX10_save_12 : decode cX10_save 12 = .ok (.goto 4, 3) := by decide +kernel
theorem dX10_save_15 : decode cX10_save 15 = .ok (.iconst 1, 1) := by decide +kernel
theorem dX10_save_16 : decode cX10_save 16 = .ok (.invokevirtual 173, 3) := by decide +kernel
theorem dX10_save_19 : decode cX10_save 19 = .ok (.ifCond .eq 5, 3) := by decide +kernel
theorem dX10_save_22 : decode cX10_save 22 = .ok (.iconst 0, 1) := by decide +kernel
theorem dX10_save_23 : decode cX10_save 23 = .ok (.ireturn, 1) := by decide +kernel
theorem dX10_save_24 : decode cX10_save 24 = .ok (.aload_n 0, 1) := by decide +kernel
theorem dX10_save_25 : decode cX10_save 25 = .ok (.getfield 16, 3) := by decide +kernel
theorem dX10_save_28 : decode cX10_save 28 = .ok (.iconst 0, 1) := by decide +kernel
theorem dX10_save_29 : decode cX10_save 29 = .ok (.aload_n 0, 1) := by decide +kernel
theorem dX10_save_30 : decode cX10_save 30 = .ok (.getfield 25, 3) := by decide +kernel
theorem dX10_save_33 : decode cX10_save 33 = .ok (.sipush 143, 3) := by decide +kernel
theorem dX10_save_36 : decode cX10_save 36 = .ok (.iload_n 1, 1) := by decide +kernel
theorem dX10_save_37 : decode cX10_save 37 = .ok (.imul, 1) := by decide +kernel
theorem dX10_save_38 : decode cX10_save 38 = .ok (.invokestatic 197, 3) := by decide +kernel
theorem dX10_save_41 : decode cX10_save 41 = .ok (.aload_n 0, 1) := by decide +kernel
theorem dX10_save_42 : decode cX10_save 42 = .ok (.getfield 28, 3) := by decide +kernel
theorem dX10_save_45 : decode cX10_save 45 = .ok (.iload_n 1, 1) := by decide +kernel
theorem dX10_save_46 : decode cX10_save 46 = .ok (.iconst 1, 1) := by decide +kernel
theorem dX10_save_47 : decode cX10_save 47 = .ok (.bastore, 1) := by decide +kernel
theorem dX10_save_48 : decode cX10_save 48 = .ok (.aload_n 0, 1) := by decide +kernel
theorem dX10_save_49 : decode cX10_save 49 = .ok (.getfield 16, 3) := by decide +kernel
theorem dX10_save_52 : decode cX10_save 52 = .ok (.iconst 1, 1) := by decide +kernel
theorem dX10_save_53 : decode cX10_save 53 = .ok (.iaload, 1) := by decide +kernel
theorem dX10_save_54 : decode cX10_save 54 = .ok (.ireturn, 1) := by decide +kernel
theorem dX10_restore_0 : decode cX10_restore 0 = .ok (.aload_n 0, 1) := by decide +kernel
theorem dX10_restore_1 : decode cX10_restore 1 = .ok (.iload_n 1, 1) := by decide +kernel
theorem dX10_restore_2 : decode cX10_restore 2 = .ok (.i2l, 1) := by decide +kernel
theorem dX10_restore_3 : decode cX10_restore 3 = .ok (.lconst 0, 1) := by decide +kernel
theorem dX10_restore_4 : decode cX10_restore 4 = .ok (.lconst 1, 1) := by decide +kernel
theorem dX10_restore_5 : decode cX10_restore 5 = .ok (.invokestatic 84, 3) := by decide +kernel
theorem dX10_restore_8 : decode cX10_restore 8 = .ok (.ifCond .ne 7, 3) := by decide +kernel
theorem dX10_restore_11 : decode cX10_restore 11 = .ok (.iconst 1, 1) := by decide +kernel
theorem dX10_restore_12 : decode cX10_restore 12 = .ok (.goto 17, 3) := by decide +kernel
theorem dX10_restore_15 : decode cX10_restore 15 = .ok (.aload_n 0, 1) := by decide +kernel
theorem dX10_restore_16 : decode cX10_restore 16 = .ok (.getfield 28, 3) := by decide +kernel
theorem dX10_restore_19 : decode cX10_restore 19 = .ok (.iload_n 1, 1) := by decide +kernel
theorem dX10_restore_20 : decode cX10_restore 20 = .ok (.baload, 1) := by decide +kernel
theorem dX10_restore_21 : decode cX10_restore 21 = .ok (.ifCond .ne 7, 3) := by decide +kernel
theorem dX10_restore_24 : decode cX10_restore 24 = .ok (.iconst 2, 1) := by decide +kernel
theorem dX10_restore_25 : decode cX10_restore 25 = .ok (.goto 4, 3) := by decide +kernel
theorem dX10_restore_28 : decode cX10_restore 28 = .ok (.iconst 0, 1) := by decide +kernel
theorem dX10_restore_29 : decode cX10_restore 29 = .ok (.invokevirtual 173, 3) := by decide +kernel
theorem dX10_restore_32 : decode cX10_restore 32 = .ok (.ifCond .eq 5, 3) := by decide +kernel
theorem dX10_restore_35 : decode cX10_restore 35 = .ok (.iconst 0, 1) := by decide +kernel
theorem dX10_restore_36 : decode cX10_restore 36 = .ok (.ireturn, 1) := by decide +kernel
theorem dX10_restore_37 : decode cX10_restore 37 = .ok (.aload_n 0, 1) := by decide +kernel
theorem dX10_restore_38 : decode cX10_restore 38 = .ok (.getfield 25, 3) := by decide +kernel
theorem dX10_restore_41 : decode cX10_restore 41 = .ok (.sipush 143, 3) := by decide +kernel
theorem dX10_restore_44 : decode cX10_restore 44 = .ok (.iload_n 1, 1) := by decide +kernel
theorem dX10_restore_45 : decode cX10_restore 45 = .ok (.imul, 1) := by decide +kernel
theorem dX10_restore_46 : decode cX10_restore 46 = .ok (.aload_n 0, 1) := by decide +kernel
theorem dX10_restore_47 : decode cX10_restore 47 = .ok (.getfield 16, 3) := by decide +kernel
theorem dX10_restore_50 : decode cX10_restore 50 = .ok (.iconst 0, 1) := by decide +kernel
theorem dX10_restore_51 : decode cX10_restore 51 = .ok (.invokestatic 197, 3) := by decide +kernel
theorem dX10_restore_54 : decode cX10_restore 54 = .ok (.aload_n 0, 1) := by decide +kernel
theorem dX10_restore_55 : decode cX10_restore 55 = .ok (.iconst 0, 1) := by decide +kernel
theorem dX10_restore_56 : decode cX10_restore 56 = .ok (.putfield 77, 3) := by decide +kernel
theorem dX10_restore_59 : decode cX10_restore 59 = .ok (.aload_n 0, 1) := by decide +kernel
theorem dX10_restore_60 : decode cX10_restore 60 = .ok (.getfield 16, 3) := by decide +kernel
theorem dX10_restore_63 : decode cX10_restore 63 = .ok (.iconst 1, 1) := by decide +kernel
theorem dX10_restore_64 : decode cX10_restore 64 = .ok (.iaload, 1) := by decide +kernel
theorem dX10_restore_65 : decode cX10_restore 65 = .ok (.ireturn, 1) := by decide +kernel
