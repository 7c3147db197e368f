theorem dX7_init_0 : decode cX7_init 0 = .ok (.aload_n 0, 1) := by decide +kernel
theorem dX7_init_1 : decode cX7_init 1 = .ok (.invokespecial 1, 3) := by decide +kernel
theorem dX7_init_4 : decode cX7_init 4 = .ok (.aload_n 0, 1) := by decide +kernel
theorem dX7_init_5 : decode cX7_init 5 = .ok (.sipush 3090, 3) := by decide +kernel
theorem dX7_init_8 : decode cX7_init 8 = .ok (.newarray .int, 2) := by decide +kernel
theorem dX7_init_10 : decode cX7_init 10 = .ok (.putfield 7, 3) := by decide +kernel
theorem dX7_init_13 : decode cX7_init 13 = .ok (.aload_n 0, 1) := by decide +kernel
theorem dX7_init_14 : decode cX7_init 14 = .ok (.sipush 3090, 3) := by decide +kernel
theorem dX7_init_17 : decode cX7_init 17 = .ok (.newarray .int, 2) := by decide +kernel
theorem dX7_init_19 : decode cX7_init 19 = .ok (.putfield 13, 3) := by decide +kernel
theorem dX7_init_22 : decode cX7_init 22 = .ok (.aload_n 0, 1) := by decide +kernel
theorem dX7_init_23 : decode cX7_init 23 = .ok (.sipush 3090, 3) := by decide +kernel
theorem dX7_init_26 : decode cX7_init 26 = .ok (.newarray .int, 2) := by decide +kernel
theorem dX7_init_28 : decode cX7_init 28 = .ok (.putfield 16, 3) := by decide +kernel
theorem dX7_init_31 : decode cX7_init 31 = .ok (.aload_n 0, 1) := by decide +kernel
theorem dX7_init_32 : decode cX7_init 32 = .ok (.iconst 4, 1) := by decide +kernel
theorem dX7_init_33 : decode cX7_init 33 = .ok (.newarray .int, 2) := by decide +kernel
theorem dX7_init_35 : decode cX7_init 35 = .ok (.putfield 19, 3) := by decide +kernel
theorem dX7_init_38 : decode cX7_init 38 = .ok (.aload_n 0, 1) := by decide +kernel
theorem dX7_init_39 : decode cX7_init 39 = .ok (.iconst 4, 1) := by decide +kernel
theorem dX7_init_40 : decode cX7_init 40 = .ok (.newarray .int, 2) := by decide +kernel
theorem dX7_init_42 : decode cX7_init 42 = .ok (.putfield 22, 3) := by decide +kernel
theorem dX7_init_45 : decode cX7_init 45 = .ok (.aload_n 0, 1) := by decide +kernel
theorem dX7_init_46 : decode cX7_init 46 = .ok (.bipush 96, 2) := by decide +kernel
theorem dX7_init_48 : decode cX7_init 48 = .ok (.newarray .int, 2) := by decide +kernel
theorem dX7_init_50 : decode cX7_init 50 = .ok (.putfield 25, 3) := by decide +kernel
theorem dX7_init_53 : decode cX7_init 53 = .ok (.aload_n 0, 1) := by decide +kernel
theorem dX7_init_54 : decode cX7_init 54 = .ok (.iconst 5, 1) := by decide +kernel
theorem dX7_init_55 : decode cX7_init 55 = .ok (.newarray .int, 2) := by decide +kernel
theorem dX7_init_57 : decode cX7_init 57 = .ok (.putfield 28, 3) := by decide +kernel
theorem dX7_init_60 : decode cX7_init 60 = .ok (.aload_n 0, 1) := by decide +kernel
theorem dX7_init_61 : decode cX7_init 61 = .ok (.iconst 5, 1) := by decide +kernel
theorem dX7_init_62 : decode cX7_init 62 = .ok (.newarray .int, 2) := by decide +kernel
theorem dX7_init_64 : decode cX7_init 64 = .ok (.putfield 31, 3) := by decide +kernel
theorem dX7_init_67 : decode cX7_init 67 = .ok (.aload_n 0, 1) := by decide +kernel
theorem dX7_init_68 : decode cX7_init 68 = .ok (.iconst 5, 1) := by decide +kernel
theorem dX7_init_69 : decode cX7_init 69 = .ok (.newarray .int, 2) := by decide +kernel
theorem dX7_init_71 : decode cX7_init 71 = .ok (.putfield 34, 3) := by decide +kernel
theorem dX7_init_74 : decode cX7_init 74 = .ok (.aload_n 0, 1) := by decide +kernel
theorem dX7_init_75 : decode cX7_init 75 = .ok (.iconst 5, 1) := by decide +kernel
theorem dX7_init_76 : decode cX7_init 76 = .ok (.newarray .int, 2) := by decide +kernel
theorem dX7_init_78 : decode cX7_init 78 = .ok (.putfield 37, 3) := by decide +kernel
theorem dX7_init_81 : decode cX7_init 81 = .ok (.aload_n 0, 1) := by decide +kernel
theorem dX7_init_82 : decode cX7_init 82 = .ok (.bipush 120, 2) := by decide +kernel
theorem dX7_init_84 : decode cX7_init 84 = .ok (.newarray .int, 2) := by decide +kernel
theorem dX7_init_86 : decode cX7_init 86 = .ok (.putfield 40, 3) := by decide +kernel
theorem dX7_init_89 : decode cX7_init 89 = .ok (.aload_n 0, 1) := by decide +kernel
theorem dX7_init_90 : decode cX7_init 90 = .ok (.bipush 8, 2) := by decide +kernel
theorem dX7_init_92 : decode cX7_init 92 = .ok (.newarray .long, 2) := by decide +kernel
theorem dX7_init_94 : decode cX7_init 94 = .ok (.putfield 43, 3) := by decide +kernel
theorem dX7_init_97 : decode cX7_init 97 = .ok (.aload_n 0, 1) := by decide +kernel
theorem dX7_init_98 : decode cX7_init 98 = .ok (.bipush 90, 2) := by decide +kernel
theorem dX7_init_100 : decode cX7_init 100 = .ok (.newarray .int, 2) := by decide +kernel
theorem dX7_init_102 : decode cX7_init 102 = .ok (.putfield 47, 3) := by decide +kernel
theorem dX7_init_105 : decode cX7_init 105 = .ok (.aload_n 0, 1) := by decide +kernel
theorem dX7_init_106 : decode cX7_init 106 = .ok (.bipush 96, 2) := by decide +kernel
theorem dX7_init_108 : decode cX7_init 108 = .ok (.newarray .int, 2) := by decide +kernel
theorem dX7_init_110 : decode cX7_init 110 = .ok (.putfield 50, 3) := by decide +kernel
theorem dX7_init_113 : decode cX7_init 113 = .ok (.aload_n 0, 1) := by decide +kernel
theorem dX7_init_114 : decode cX7_init 114 = .ok (.sipush 128, 3) := by decide +kernel
theorem dX7_init_117 : decode cX7_init 117 = .ok (.newarray .int, 2) := by decide +kernel
theorem dX7_init_119 : decode cX7_init 119 = .ok (.putfield 53, 3) := by decide +kernel
theorem dX7_init_122 : decode cX7_init 122 = .ok (.aload_n 0, 1) := by decide +kernel
theorem dX7_init_123 : decode cX7_init 123 = .ok (.bipush 100, 2) := by decide +kernel
theorem dX7_init_125 : decode cX7_init 125 = .ok (.newarray .int, 2) := by decide +kernel
theorem dX7_init_127 : decode cX7_init 127 = .ok (.putfield 56, 3) := by decide +kernel
theorem dX7_init_130 : decode cX7_init 130 = .ok (.aload_n 0, 1) := by decide +kernel
theorem dX7_init_131 : decode cX7_init 131 = .ok (.bipush 24, 2) := by decide +kernel
theorem dX7_init_133 : decode cX7_init 133 = .ok (.newarray .int, 2) := by decide +kernel
theorem dX7_init_135 : decode cX7_init 135 = .ok (.putfield 59, 3) := by decide +kernel
theorem dX7_init_138 : decode cX7_init 138 = .ok (.aload_n 0, 1) := by decide +kernel
theorem dX7_init_139 : decode cX7_init 139 = .ok (.bipush 60, 2) := by decide +kernel
theorem dX7_init_141 : decode cX7_init 141 = .ok (.newarray .int, 2) := by decide +kernel
theorem dX7_init_143 : decode cX7_init 143 = .ok (.putfield 62, 3) := by decide +kernel
theorem dX7_init_146 : decode cX7_init 146 = .ok (.aload_n 0, 1) := by decide +kernel
theorem dX7_init_147 : decode cX7_init 147 = .ok (.bipush 60, 2) := by decide +kernel
theorem dX7_init_149 : decode cX7_init 149 = .ok (.newarray .int, 2) := by decide +kernel
theorem dX7_init_151 : decode cX7_init 151 = .ok (.putfield 65, 3) := by decide +kernel
theorem dX7_init_154 : decode cX7_init 154 = .ok (.aload_n 0, 1) := by decide +kernel
theorem dX7_init_155 : decode cX7_init 155 = .ok (.getfield 7, 3) := by decide +kernel
theorem dX7_init_158 : decode cX7_init 158 = .ok (.bipush 9, 2) := by decide +kernel
theorem dX7_init_160 : decode cX7_init 160 = .ok (.iconst 1, 1) := by decide +kernel
theorem dX7_init_161 : decode cX7_init 161 = .ok (.iastore, 1) := by decide +kernel
theorem dX7_init_162 : decode cX7_init 162 = .ok (.aload_n 0, 1) := by decide +kernel
theorem dX7_init_163 : decode cX7_init 163 = .ok (.getfield 7, 3) := by decide +kernel
theorem dX7_init_166 : decode cX7_init 166 = .ok (.iconst 3, 1) := by decide +kernel
theorem dX7_init_167 : decode cX7_init 167 = .ok (.bipush 20, 2) := by decide +kernel
theorem dX7_init_169 : decode cX7_init 169 = .ok (.iastore, 1) := by decide +kernel
theorem dX7_init_170 : decode cX7_init 170 = .ok (.aload_n 0, 1) := by decide +kernel
theorem dX7_init_171 : decode cX7_init 171 = .ok (.getfield 7, 3) := by decide +kernel
theorem dX7_init_174 : decode cX7_init 174 = .ok (.iconst 4, 1) := by decide +kernel
theorem dX7_init_175 : decode cX7_init 175 = .ok (.bipush 30, 2) := by decide +kernel
theorem dX7_init_177 : decode cX7_init 177 = .ok (.iastore, 1) := by decide +kernel
theorem dX7_init_178 : decode cX7_init 178 = .ok (.iconst 0, 1) := by decide +kernel
theorem dX7_init_179 : decode cX7_init 179 = .ok (.istore_n 1, 1) := by decide +kernel
theorem dX7_init_180 : decode cX7_init 180 = .ok (.iload_n 1, 1) := by decide +kernel
theorem dX7_init_181 : decode cX7_init 181 = .ok (.iconst 4, 1) := by decide +kernel
theorem dX7_init_182 : decode cX7_init 182 = .ok (.if_icmp .ge 16, 3) := by decide +kernel
theorem dX7_init_185 : decode cX7_init 185 = .ok (.aload_n 0, 1) := by decide +kernel
theorem dX7_init_186 : decode cX7_init 186 = .ok (.getfield 19, 3) := by decide +kernel
theorem dX7_init_189 : decode cX7_init 189 = .ok (.iload_n 1, 1) := by decide +kernel
theorem dX7_init_190 : decode cX7_init 190 = .ok (.iconst (-1), 1) := by decide +kernel
theorem dX7_init_191 : decode cX7_init 191 = .ok (.iastore, 1) := by decide +kernel
theorem dX7_init_192 : decode cX7_init 192 = .ok (.iinc 1 1, 3) := by decide +kernel
theorem dX7_init_195 : decode cX7_init 195 = .ok (.goto (-15), 3) := by decide +kernel
theorem dX7_init_198 : decode cX7_init 198 = .ok (.return_, 1) := by decide +kernel
theorem dX7_isIn_0 : decode cX7_isIn 0 = .ok (.lload_n 0, 1) := by decide +kernel
theorem dX7_isIn_1 : decode cX7_isIn 1 = .ok (.lload_n 2, 1) := by decide +kernel
theorem dX7_isIn_2 : decode cX7_isIn 2 = .ok (.lcmp, 1) := by decide +kernel
theorem dX7_isIn_3 : decode cX7_isIn 3 = .ok (.ifCond .lt 14, 3) := by decide +kernel
theorem dX7_isIn_6 : decode cX7_isIn 6 = .ok (.lload_n 0, 1) := by decide +kernel
theorem dX7_isIn_7 : decode cX7_isIn 7 = .ok (.lload 4, 2) := by decide +kernel
theorem dX7_isIn_9 : decode cX7_isIn 9 = .ok (.lcmp, 1) := by decide +kernel
theorem dX7_isIn_10 : decode cX7_isIn 10 = .ok (.ifCond .gt 7, 3) := by decide +kernel
theorem dX7_isIn_13 : decode cX7_isIn 13 = .ok (.iconst 1, 1) := by decide +kernel
theorem dX7_isIn_14 : decode cX7_isIn 14 = .ok (.goto 4, 3) := by decide +kernel
theorem dX7_isIn_17 : decode cX7_isIn 17 = .ok (.iconst 0, 1) := by decide +kernel
theorem dX7_isIn_18 : decode cX7_isIn 18 = .ok (.ireturn, 1) := by decide +kernel
theorem dX7_orNone_0 : decode cX7_orNone 0 = .ok (.iload_n 0, 1) := by decide +kernel
theorem dX7_orNone_1 : decode cX7_orNone 1 = .ok (.ifCond .ge 8, 3) := by decide +kernel
theorem dX7_orNone_4 : decode cX7_orNone 4 = .ok (.ldc 68, 2) := by decide +kernel
theorem dX7_orNone_6 : decode cX7_orNone 6 = .ok (.goto 4, 3) := by decide +kernel
theorem dX7_orNone_9 : decode cX7_orNone 9 = .ok (.iload_n 0, 1) := by decide +kernel
theorem dX7_orNone_10 : decode cX7_orNone 10 = .ok (.ireturn, 1) := by decide +kernel
theorem dX7_within_0 : decode cX7_within 0 = .ok (.iload_n 0, 1) := by decide +kernel
theorem dX7_within_1 : decode cX7_within 1 = .ok (.ifCond .ge 7, 3) := by decide +kernel
theorem dX7_within_4 : decode cX7_within 4 = .ok (.iconst 0, 1) := by decide +kernel
theorem dX7_within_5 : decode cX7_within 5 = .ok (.goto 13, 3) := by decide +kernel
theorem dX7_within_8 : decode cX7_within 8 = .ok (.iload_n 0, 1) := by decide +kernel
theorem dX7_within_9 : decode cX7_within 9 = .ok (.iload_n 1, 1) := by decide +kernel
theorem dX7_within_10 : decode cX7_within 10 = .ok (.if_icmp .le 7, 3) := by decide +kernel
theorem dX7_within_13 : decode cX7_within 13 = .ok (.iload_n 1, 1) := by decide +kernel
theorem dX7_within_14 : decode cX7_within 14 = .ok (.goto 4, 3) := by decide +kernel
theorem dX7_within_17 : decode cX7_within 17 = .ok (.iload_n 0, 1) := by decide +kernel
theorem dX7_within_18 : decode cX7_within 18 = .ok (.ireturn, 1) := by decide +kernel
theorem dX7_off_0 : decode cX7_off 0 = .ok (.iload_n 0, 1) := by decide +kernel
theorem dX7_off_1 : decode cX7_off 1 = .ok (.iload_n 1, 1) := by decide +kernel
theorem dX7_off_2 : decode cX7_off 2 = .ok (.if_icmp .ge 9, 3) := by decide +kernel
theorem dX7_off_5 : decode cX7_off 5 = .ok (.iload_n 1, 1) := by decide +kernel
theorem dX7_off_6 : decode cX7_off 6 = .ok (.iload_n 0, 1) := by decide +kernel
theorem dX7_off_7 : decode cX7_off 7 = .ok (.isub, 1) := by decide +kernel
theorem dX7_off_8 : decode cX7_off 8 = .ok (.goto 6, 3) := by decide +kernel
theorem dX7_off_11 : decode cX7_off 11 = .ok (.iload_n 0, 1) := by decide +kernel
theorem dX7_off_12 : decode cX7_off 12 = .ok (.iload_n 1, 1) := by decide +kernel
theorem dX7_off_13 : decode cX7_off 13 = .ok (.isub, 1) := by decide +kernel
theorem dX7_off_14 : decode cX7_off 14 = .ok (.ireturn, 1) := by decide +kernel
theorem dX7_changes_0 : decode cX7_changes 0 = .ok (.aload_n 0, 1) := by decide +kernel
theorem dX7_changes_1 : decode cX7_changes 1 = .ok (.getfield 7, 3) := by decide +kernel
theorem dX7_changes_4 : decode cX7_changes 4 = .ok (.iload_n 1, 1) := by decide +kernel
theorem dX7_changes_5 : decode cX7_changes 5 = .ok (.iaload, 1) := by decide +kernel
theorem dX7_changes_6 : decode cX7_changes 6 = .ok (.istore_n 3, 1) := by decide +kernel
theorem dX7_changes_7 : decode cX7_changes 7 = .ok (.aload_n 0, 1) := by decide +kernel
theorem dX7_changes_8 : decode cX7_changes 8 = .ok (.getfield 7, 3) := by decide +kernel
theorem dX7_changes_11 : decode cX7_changes 11 = .ok (.iload_n 1, 1) := by decide +kernel
theorem dX7_changes_12 : decode cX7_changes 12 = .ok (.iload_n 2, 1) := by decide +kernel
theorem dX7_changes_13 : decode cX7_changes 13 = .ok (.iastore, 1) := by decide +kernel
theorem dX7_changes_14 : decode cX7_changes 14 = .ok (.iload_n 3, 1) := by decide +kernel
theorem dX7_changes_15 : decode cX7_changes 15 = .ok (.ireturn, 1) := by decide +kernel
theorem dX7_textAt_0 : decode cX7_textAt 0 = .ok (.bipush 90, 2) := by decide +kernel
theorem dX7_textAt_2 : decode cX7_textAt 2 = .ok (.sipush 200, 3) := by decide +kernel
theorem dX7_textAt_5 : decode cX7_textAt 5 = .ok (.iload_n 1, 1) := by decide +kernel
theorem dX7_textAt_6 : decode cX7_textAt 6 = .ok (.imul, 1) := by decide +kernel
theorem dX7_textAt_7 : decode cX7_textAt 7 = .ok (.iadd, 1) := by decide +kernel
theorem dX7_textAt_8 : decode cX7_textAt 8 = .ok (.ireturn, 1) := by decide +kernel
theorem dX7_of_0 : decode cX7_of 0 = .ok (.aload_n 0, 1) := by decide +kernel
theorem dX7_of_1 : decode cX7_of 1 = .ok (.getfield 7, 3) := by decide +kernel
theorem dX7_of_4 : decode cX7_of 4 = .ok (.bipush 10, 2) := by decide +kernel
theorem dX7_of_6 : decode cX7_of 6 = .ok (.iconst 4, 1) := by decide +kernel
theorem dX7_of_7 : decode cX7_of 7 = .ok (.iload_n 1, 1) := by decide +kernel
theorem dX7_of_8 : decode cX7_of 8 = .ok (.imul, 1) := by decide +kernel
theorem dX7_of_9 : decode cX7_of 9 = .ok (.iadd, 1) := by decide +kernel
theorem dX7_of_10 : decode cX7_of 10 = .ok (.iload_n 2, 1) := by decide +kernel
theorem dX7_of_11 : decode cX7_of 11 = .ok (.iadd, 1) := by decide +kernel
theorem dX7_of_12 : decode cX7_of 12 = .ok (.iaload, 1) := by decide +kernel
theorem dX7_of_13 : decode cX7_of 13 = .ok (.ireturn, 1) := by decide +kernel
theorem dX7_sets_0 : decode cX7_sets 0 = .ok (.aload_n 0, 1) := by decide +kernel
theorem dX7_sets_1 : decode cX7_sets 1 = .ok (.getfield 7, 3) := by decide +kernel
theorem dX7_sets_4 : decode cX7_sets 4 = .ok (.bipush 10, 2) := by decide +kernel
theorem dX7_sets_6 : decode cX7_sets 6 = .ok (.iconst 4, 1) := by decide +kernel
theorem dX7_sets_7 : decode cX7_sets 7 = .ok (.iload_n 1, 1) := by decide +kernel
theorem dX7_sets_8 : decode cX7_sets 8 = .ok (.imul, 1) := by decide +kernel
theorem dX7_sets_9 : decode cX7_sets 9 = .ok (.iadd, 1) := by decide +kernel
theorem dX7_sets_10 : decode cX7_sets 10 = .ok (.iload_n 2, 1) := by decide +kernel
theorem dX7_sets_11 : decode cX7_sets 11 = .ok (.iadd, 1) := by decide +kernel
theorem dX7_sets_12 : decode cX7_sets 12 = .ok (.iload_n 3, 1) := by decide +kernel
theorem dX7_sets_13 : decode cX7_sets 13 = .ok (.iastore, 1) := by decide +kernel
theorem dX7_sets_14 : decode cX7_sets 14 = .ok (.return_, 1) := by decide +kernel
theorem dX7_isPost_0 : decode cX7_isPost 0 = .ok (.iload_n 1, 1) := by decide +kernel
theorem dX7_isPost_1 : decode cX7_isPost 1 = .ok (.i2l, 1) := by decide +kernel
theorem dX7_isPost_2 : decode cX7_isPost 2 = .ok (.lconst 0, 1) := by decide +kernel
theorem dX7_isPost_3 : decode cX7_isPost 3 = .ok (.aload_n 0, 1) := by decide +kernel
theorem dX7_isPost_4 : decode cX7_isPost 4 = .ok (.getfield 7, 3) := by decide +kernel
theorem dX7_isPost_7 : decode cX7_isPost 7 = .ok (.iconst 0, 1) := by decide +kernel
theorem dX7_isPost_8 : decode cX7_isPost 8 = .ok (.iaload, 1) := by decide +kernel
theorem dX7_isPost_9 : decode cX7_isPost 9 = .ok (.iconst 1, 1) := by decide +kernel
theorem dX7_isPost_10 : decode cX7_isPost 10 = .ok (.isub, 1) := by decide +kernel
theorem dX7_isPost_11 : decode cX7_isPost 11 = .ok (.i2l, 1) := by decide +kernel
theorem dX7_isPost_12 : decode cX7_isPost 12 = .ok (.invokestatic 69, 3) := by decide +kernel
theorem dX7_isPost_15 : decode cX7_isPost 15 = .ok (.ireturn, 1) := by decide +kernel
theorem dX7_isText_0 : decode cX7_isText 0 = .ok (.iload_n 1, 1) := by decide +kernel
theorem dX7_isText_1 : decode cX7_isText 1 = .ok (.i2l, 1) := by decide +kernel
theorem dX7_isText_2 : decode cX7_isText 2 = .ok (.lconst 0, 1) := by decide +kernel
theorem dX7_isText_3 : decode cX7_isText 3 = .ok (.aload_n 0, 1) := by decide +kernel
theorem dX7_isText_4 : decode cX7_isText 4 = .ok (.getfield 7, 3) := by decide +kernel
theorem dX7_isText_7 : decode cX7_isText 7 = .ok (.iconst 1, 1) := by decide +kernel
theorem dX7_isText_8 : decode cX7_isText 8 = .ok (.iaload, 1) := by decide +kernel
theorem dX7_isText_9 : decode cX7_isText 9 = .ok (.iconst 1, 1) := by decide +kernel
theorem dX7_isText_10 : decode cX7_isText 10 = .ok (.isub, 1) := by decide +kernel
theorem dX7_isText_11 : decode cX7_isText 11 = .ok (.i2l, 1) := by decide +kernel
theorem dX7_isText_12 : decode cX7_isText 12 = .ok (.invokestatic 69, 3) := by decide +kernel
theorem dX7_isText_15 : decode cX7_isText 15 = .ok (.ireturn, 1) := by decide +kernel
theorem dX7_drawn_0 : decode cX7_drawn 0 = .ok (.aload_n 0, 1) := by decide +kernel
theorem dX7_drawn_1 : decode cX7_drawn 1 = .ok (.getfield 7, 3) := by decide +kernel
theorem dX7_drawn_4 : decode cX7_drawn 4 = .ok (.bipush 9, 2) := by decide +kernel
theorem dX7_drawn_6 : decode cX7_drawn 6 = .ok (.aload_n 0, 1) := by decide +kernel
theorem dX7_drawn_7 : decode cX7_drawn 7 = .ok (.getfield 7, 3) := by decide +kernel
theorem dX7_drawn_10 : decode cX7_drawn 10 = .ok (.bipush 9, 2) := by decide +kernel
theorem dX7_drawn_12 : decode cX7_drawn 12 = .ok (.iaload, 1) := by decide +kernel
theorem dX7_drawn_13 : decode cX7_drawn 13 = .ok (.ldc 73, 2) := by decide +kernel
theorem dX7_drawn_15 : decode cX7_drawn 15 = .ok (.imul, 1) := by decide +kernel
theorem dX7_drawn_16 : decode cX7_drawn 16 = .ok (.sipush 12345, 3) := by decide +kernel
theorem dX7_drawn_19 : decode cX7_drawn 19 = .ok (.iadd, 1) := by decide +kernel
theorem dX7_drawn_20 : decode cX7_drawn 20 = .ok (.iastore, 1) := by decide +kernel
theorem dX7_drawn_21 : decode cX7_drawn 21 = .ok (.aload_n 0, 1) := by decide +kernel
theorem dX7_drawn_22 : decode cX7_drawn 22 = .ok (.getfield 7, 3) := by decide +kernel
theorem dX7_drawn_25 : decode cX7_drawn 25 = .ok (.bipush 9, 2) := by decide +kernel
theorem dX7_drawn_27 : decode cX7_drawn 27 = .ok (.iaload, 1) := by decide +kernel
theorem dX7_drawn_28 : decode cX7_drawn 28 = .ok (.bipush 8, 2) := by decide +kernel
theorem dX7_drawn_30 : decode cX7_drawn 30 = .ok (.iushr, 1) := by decide +kernel
theorem dX7_drawn_31 : decode cX7_drawn 31 = .ok (.ireturn, 1) := by decide +kernel
theorem dX7_isOf_0 : decode cX7_isOf 0 = .ok (.iload_n 0, 1) := by decide +kernel
theorem dX7_isOf_1 : decode cX7_isOf 1 = .ok (.iload_n 1, 1) := by decide +kernel
theorem dX7_isOf_2 : decode cX7_isOf 2 = .ok (.if_icmp .eq 27, 3) := by decide +kernel
theorem dX7_isOf_5 : decode cX7_isOf 5 = .ok (.iload_n 1, 1) := by decide +kernel
theorem dX7_isOf_6 : decode cX7_isOf 6 = .ok (.ifCond .eq 23, 3) := by decide +kernel
theorem dX7_isOf_9 : decode cX7_isOf 9 = .ok (.iload_n 1, 1) := by decide +kernel
theorem dX7_isOf_10 : decode cX7_isOf 10 = .ok (.iconst 1, 1) := by decide +kernel
theorem dX7_isOf_11 : decode cX7_isOf 11 = .ok (.if_icmp .ne 8, 3) := by decide +kernel
theorem dX7_isOf_14 : decode cX7_isOf 14 = .ok (.iload_n 0, 1) := by decide +kernel
theorem dX7_isOf_15 : decode cX7_isOf 15 = .ok (.iconst 3, 1) := by decide +kernel
theorem dX7_isOf_16 : decode cX7_isOf 16 = .ok (.if_icmp .eq 13, 3) := by decide +kernel
theorem dX7_isOf_19 : decode cX7_isOf 19 = .ok (.iload_n 1, 1) := by decide +kernel
theorem dX7_isOf_20 : decode cX7_isOf 20 = .ok (.iconst 2, 1) := by decide +kernel
theorem dX7_isOf_21 : decode cX7_isOf 21 = .ok (.if_icmp .ne 12, 3) := by decide +kernel
theorem dX7_isOf_24 : decode cX7_isOf 24 = .ok (.iload_n 0, 1) := by decide +kernel
theorem dX7_isOf_25 : decode cX7_isOf 25 = .ok (.iconst 4, 1) := by decide +kernel
theorem dX7_isOf_26 : decode cX7_isOf 26 = .ok (.if_icmp .ne 7, 3) := by decide +kernel
theorem dX7_isOf_29 : decode cX7_isOf 29 = .ok (.iconst 1, 1) := by decide +kernel
theorem dX7_isOf_30 : decode cX7_isOf 30 = .ok (.goto 4, 3) := by decide +kernel
theorem dX7_isOf_33 : decode cX7_isOf 33 = .ok (.iconst 0, 1) := by decide +kernel
theorem dX7_isOf_34 : decode cX7_isOf 34 = .ok (.ireturn, 1) := by decide +kernel
theorem dX7_isCell_0 : decode cX7_isCell 0 = .ok (.iload_n 0, 1) := by decide +kernel
theorem dX7_isCell_1 : decode cX7_isCell 1 = .ok (.i2l, 1) := by decide +kernel
theorem dX7_isCell_2 : decode cX7_isCell 2 = .ok (.lconst 0, 1) := by decide +kernel
theorem dX7_isCell_3 : decode cX7_isCell 3 = .ok (.ldc2_w 74, 3) := by decide +kernel
theorem dX7_isCell_6 : decode cX7_isCell 6 = .ok (.invokestatic 69, 3) := by decide +kernel
theorem dX7_isCell_9 : decode cX7_isCell 9 = .ok (.ireturn, 1) := by decide +kernel
theorem dX7_hasWall_0 : decode cX7_hasWall 0 = .ok (.aload_n 0, 1) := by decide +kernel
theorem dX7_hasWall_1 : decode cX7_hasWall 1 = .ok (.getfield 7, 3) := by decide +kernel
theorem dX7_hasWall_4 : decode cX7_hasWall 4 = .ok (.bipush 42, 2) := by decide +kernel
theorem dX7_hasWall_6 : decode cX7_hasWall 6 = .ok (.iload_n 1, 1) := by decide +kernel
theorem dX7_hasWall_7 : decode cX7_hasWall 7 = .ok (.iadd, 1) := by decide +kernel
theorem dX7_hasWall_8 : decode cX7_hasWall 8 = .ok (.iaload, 1) := by decide +kernel
theorem dX7_hasWall_9 : decode cX7_hasWall 9 = .ok (.iconst 1, 1) := by decide +kernel
theorem dX7_hasWall_10 : decode cX7_hasWall 10 = .ok (.if_icmp .ne 7, 3) := by decide +kernel
theorem dX7_hasWall_13 : decode cX7_hasWall 13 = .ok (.iconst 1, 1) := by decide +kernel
theorem dX7_hasWall_14 : decode cX7_hasWall 14 = .ok (.goto 4, 3) := by decide +kernel
theorem dX7_hasWall_17 : decode cX7_hasWall 17 = .ok (.iconst 0, 1) := by decide +kernel
theorem dX7_hasWall_18 : decode cX7_hasWall 18 = .ok (.ireturn, 1) := by decide +kernel
theorem dX7_whose_0 : decode cX7_whose 0 = .ok (.iconst 0, 1) := by decide +kernel
theorem dX7_whose_1 : decode cX7_whose 1 = .ok (.istore_n 2, 1) := by decide +kernel
theorem dX7_whose_2 : decode cX7_whose 2 = .ok (.iload_n 2, 1) := by decide +kernel
theorem dX7_whose_3 : decode cX7_whose 3 = .ok (.aload_n 0, 1) := by decide +kernel
theorem dX7_whose_4 : decode cX7_whose 4 = .ok (.getfield 7, 3) := by decide +kernel
theorem dX7_whose_7 : decode cX7_whose 7 = .ok (.iconst 0, 1) := by decide +kernel
theorem dX7_whose_8 : decode cX7_whose 8 = .ok (.iaload, 1) := by decide +kernel
theorem dX7_whose_9 : decode cX7_whose 9 = .ok (.if_icmp .ge 19, 3) := by decide +kernel
theorem dX7_whose_12 : decode cX7_whose 12 = .ok (.aload_n 0, 1) := by decide +kernel
theorem dX7_whose_13 : decode cX7_whose 13 = .ok (.iload_n 2, 1) := by decide +kernel
theorem dX7_whose_14 : decode cX7_whose 14 = .ok (.iconst 1, 1) := by decide +kernel
theorem dX7_whose_15 : decode cX7_whose 15 = .ok (.invokevirtual 76, 3) := by decide +kernel
theorem dX7_whose_18 : decode cX7_whose 18 = .ok (.iload_n 1, 1) := by decide +kernel
theorem dX7_whose_19 : decode cX7_whose 19 = .ok (.if_icmp .eq 9, 3) := by decide +kernel
theorem dX7_whose_22 : decode cX7_whose 22 = .ok (.iinc 2 1, 3) := by decide +kernel
theorem dX7_whose_25 : decode cX7_whose 25 = .ok (.goto (-23), 3) := by decide +kernel
theorem dX7_whose_28 : decode cX7_whose 28 = .ok (.iload_n 2, 1) := by decide +kernel
theorem dX7_whose_29 : decode cX7_whose 29 = .ok (.aload_n 0, 1) := by decide +kernel
theorem dX7_whose_30 : decode cX7_whose 30 = .ok (.getfield 7, 3) := by decide +kernel
theorem dX7_whose_33 : decode cX7_whose 33 = .ok (.iconst 0, 1) := by decide +kernel
theorem dX7_whose_34 : decode cX7_whose 34 = .ok (.iaload, 1) := by decide +kernel
theorem dX7_whose_35 : decode cX7_whose 35 = .ok (.if_icmp .ge 7, 3) := by decide +kernel
theorem dX7_whose_38 : decode cX7_whose 38 = .ok (.iload_n 2, 1) := by decide +kernel
theorem dX7_whose_39 : decode cX7_whose 39 = .ok (.goto 4, 3) := by decide +kernel
theorem dX7_whose_42 : decode cX7_whose 42 = .ok (.iconst (-1), 1) := by decide +kernel
theorem dX7_whose_43 : decode cX7_whose 43 = .ok (.ireturn, 1) := by decide +kernel
theorem dX7_isFree_0 : decode cX7_isFree 0 = .ok (.aload_n 0, 1) := by decide +kernel
theorem dX7_isFree_1 : decode cX7_isFree 1 = .ok (.iload_n 1, 1) := by decide +kernel
theorem dX7_isFree_2 : decode cX7_isFree 2 = .ok (.invokevirtual 80, 3) := by decide +kernel
theorem dX7_isFree_5 : decode cX7_isFree 5 = .ok (.ifCond .ne 15, 3) := by decide +kernel
theorem dX7_isFree_8 : decode cX7_isFree 8 = .ok (.aload_n 0, 1) := by decide +kernel
theorem dX7_isFree_9 : decode cX7_isFree 9 = .ok (.iload_n 1, 1) := by decide +kernel
theorem dX7_isFree_10 : decode cX7_isFree 10 = .ok (.invokevirtual 84, 3) := by decide +kernel
theorem dX7_isFree_13 : decode cX7_isFree 13 = .ok (.ifCond .ge 7, 3) := by decide +kernel
theorem dX7_isFree_16 : decode cX7_isFree 16 = .ok (.iconst 1, 1) := by decide +kernel
theorem dX7_isFree_17 : decode cX7_isFree 17 = .ok (.goto 4, 3) := by decide +kernel
theorem dX7_isFree_20 : decode cX7_isFree 20 = .ok (.iconst 0, 1) := by decide +kernel
theorem dX7_isFree_21 : decode cX7_isFree 21 = .ok (.ireturn, 1) := by decide +kernel
theorem dX7_plain_0 : decode cX7_plain 0 = .ok (.aload_n 0, 1) := by decide +kernel
theorem dX7_plain_1 : decode cX7_plain 1 = .ok (.iconst 0, 1) := by decide +kernel
theorem dX7_plain_2 : decode cX7_plain 2 = .ok (.invokevirtual 88, 3) := by decide +kernel
theorem dX7_plain_5 : decode cX7_plain 5 = .ok (.istore_n 3, 1) := by decide +kernel
theorem dX7_plain_6 : decode cX7_plain 6 = .ok (.iload_n 3, 1) := by decide +kernel
theorem dX7_plain_7 : decode cX7_plain 7 = .ok (.ifCond .ge 5, 3) := by decide +kernel
theorem dX7_plain_10 : decode cX7_plain 10 = .ok (.iconst 5, 1) := by decide +kernel
theorem dX7_plain_11 : decode cX7_plain 11 = .ok (.ireturn, 1) := by decide +kernel
theorem dX7_plain_12 : decode cX7_plain 12 = .ok (.aload_n 0, 1) := by decide +kernel
theorem dX7_plain_13 : decode cX7_plain 13 = .ok (.getfield 53, 3) := by decide +kernel
theorem dX7_plain_16 : decode cX7_plain 16 = .ok (.bipush 116, 2) := by decide +kernel
theorem dX7_plain_18 : decode cX7_plain 18 = .ok (.iload_n 1, 1) := by decide +kernel
theorem dX7_plain_19 : decode cX7_plain 19 = .ok (.iastore, 1) := by decide +kernel
theorem dX7_plain_20 : decode cX7_plain 20 = .ok (.aload_n 0, 1) := by decide +kernel
theorem dX7_plain_21 : decode cX7_plain 21 = .ok (.getfield 53, 3) := by decide +kernel
theorem dX7_plain_24 : decode cX7_plain 24 = .ok (.bipush 115, 2) := by decide +kernel
theorem dX7_plain_26 : decode cX7_plain 26 = .ok (.iload_n 2, 1) := by decide +kernel
theorem dX7_plain_27 : decode cX7_plain 27 = .ok (.iastore, 1) := by decide +kernel
theorem dX7_plain_28 : decode cX7_plain 28 = .ok (.aload_n 0, 1) := by decide +kernel
theorem dX7_plain_29 : decode cX7_plain 29 = .ok (.getfield 53, 3) := by decide +kernel
theorem dX7_plain_32 : decode cX7_plain 32 = .ok (.bipush 104, 2) := by decide +kernel
theorem dX7_plain_34 : decode cX7_plain 34 = .ok (.aload_n 0, 1) := by decide +kernel
theorem dX7_plain_35 : decode cX7_plain 35 = .ok (.getfield 7, 3) := by decide +kernel
theorem dX7_plain_38 : decode cX7_plain 38 = .ok (.iconst 2, 1) := by decide +kernel
theorem dX7_plain_39 : decode cX7_plain 39 = .ok (.iaload, 1) := by decide +kernel
theorem dX7_plain_40 : decode cX7_plain 40 = .ok (.iastore, 1) := by decide +kernel
theorem dX7_plain_41 : decode cX7_plain 41 = .ok (.aload_n 0, 1) := by decide +kernel
theorem dX7_plain_42 : decode cX7_plain 42 = .ok (.iload_n 3, 1) := by decide +kernel
theorem dX7_plain_43 : decode cX7_plain 43 = .ok (.invokevirtual 91, 3) := by decide +kernel
theorem dX7_plain_46 : decode cX7_plain 46 = .ok (.bipush 99, 2) := by decide +kernel
theorem dX7_plain_48 : decode cX7_plain 48 = .ok (.invokestatic 94, 3) := by decide +kernel
theorem dX7_plain_51 : decode cX7_plain 51 = .ok (.ireturn, 1) := by decide +kernel
theorem dX7_reaches_0 : decode cX7_reaches 0 = .ok (.aload_n 0, 1) := by decide +kernel
theorem dX7_reaches_1 : decode cX7_reaches 1 = .ok (.iload_n 3, 1) := by decide +kernel
theorem dX7_reaches_2 : decode cX7_reaches 2 = .ok (.iload_n 2, 1) := by decide +kernel
theorem dX7_reaches_3 : decode cX7_reaches 3 = .ok (.invokevirtual 97, 3) := by decide +kernel
theorem dX7_reaches_6 : decode cX7_reaches 6 = .ok (.istore 4, 2) := by decide +kernel
theorem dX7_reaches_8 : decode cX7_reaches 8 = .ok (.iload_n 1, 1) := by decide +kernel
theorem dX7_reaches_9 : decode cX7_reaches 9 = .ok (.iconst 1, 1) := by decide +kernel
theorem dX7_reaches_10 : decode cX7_reaches 10 = .ok (.if_icmp .ne 10, 3) := by decide +kernel
theorem dX7_reaches_13 : decode cX7_reaches 13 = .ok (.iload 4, 2) := by decide +kernel
theorem dX7_reaches_15 : decode cX7_reaches 15 = .ok (.iconst 2, 1) := by decide +kernel
theorem dX7_reaches_16 : decode cX7_reaches 16 = .ok (.iadd, 1) := by decide +kernel
theorem dX7_reaches_17 : decode cX7_reaches 17 = .ok (.goto 19, 3) := by decide +kernel
theorem dX7_reaches_20 : decode cX7_reaches 20 = .ok (.iload_n 1, 1) := by decide +kernel
theorem dX7_reaches_21 : decode cX7_reaches 21 = .ok (.iconst 3, 1) := by decide +kernel
theorem dX7_reaches_22 : decode cX7_reaches 22 = .ok (.if_icmp .ne 12, 3) := by decide +kernel
theorem dX7_reaches_25 : decode cX7_reaches 25 = .ok (.iconst 2, 1) := by decide +kernel
theorem dX7_reaches_26 : decode cX7_reaches 26 = .ok (.iload 4, 2) := by decide +kernel
theorem dX7_reaches_28 : decode cX7_reaches 28 = .ok (.iconst 2, 1) := by decide +kernel
theorem dX7_reaches_29 : decode cX7_reaches 29 = .ok (.iadd, 1) := by decide +kernel
theorem dX7_reaches_30 : decode cX7_reaches 30 = .ok (.imul, 1) := by decide +kernel
theorem dX7_reaches_31 : decode cX7_reaches 31 = .ok (.goto 5, 3) := by decide +kernel
theorem dX7_reaches_34 : decode cX7_reaches 34 = .ok (.iload 4, 2) := by decide +kernel
theorem dX7_reaches_36 : decode cX7_reaches 36 = .ok (.ireturn, 1) := by decide +kernel
theorem dX7_ahead_0 : decode cX7_ahead 0 = .ok (.iload_n 0, 1) := by decide +kernel
theorem dX7_ahead_1 : decode cX7_ahead 1 = .ok (.ifCond .ne 8, 3) := by decide +kernel
theorem dX7_ahead_4 : decode cX7_ahead 4 = .ok (.iload_n 1, 1) := by decide +kernel
theorem dX7_ahead_5 : decode cX7_ahead 5 = .ok (.ineg, 1) := by decide +kernel
theorem dX7_ahead_6 : decode cX7_ahead 6 = .ok (.goto 23, 3) := by decide +kernel
theorem dX7_ahead_9 : decode cX7_ahead 9 = .ok (.iload_n 0, 1) := by decide +kernel
theorem dX7_ahead_10 : decode cX7_ahead 10 = .ok (.iconst 1, 1) := by decide +kernel
theorem dX7_ahead_11 : decode cX7_ahead 11 = .ok (.if_icmp .ne 7, 3) := by decide +kernel
theorem dX7_ahead_14 : decode cX7_ahead 14 = .ok (.iload_n 2, 1) := by decide +kernel
theorem dX7_ahead_15 : decode cX7_ahead 15 = .ok (.goto 14, 3) := by decide +kernel
theorem dX7_ahead_18 : decode cX7_ahead 18 = .ok (.iload_n 0, 1) := by decide +kernel
theorem dX7_ahead_19 : decode cX7_ahead 19 = .ok (.iconst 2, 1) := by decide +kernel
theorem dX7_ahead_20 : decode cX7_ahead 20 = .ok (.if_icmp .ne 7, 3) := by decide +kernel
theorem dX7_ahead_23 : decode cX7_ahead 23 = .ok (.iload_n 1, 1) := by decide +kernel
theorem dX7_ahead_24 : decode cX7_ahead 24 = .ok (.goto 5, 3) := by decide +kernel
theorem dX7_ahead_27 : decode cX7_ahead 27 = .ok (.iload_n 2, 1) := by decide +kernel
theorem dX7_ahead_28 : decode cX7_ahead 28 = .ok (.ineg, 1) := by decide +kernel
theorem dX7_ahead_29 : decode cX7_ahead 29 = .ok (.ireturn, 1) := by decide +kernel
theorem dX7_looks_0 : decode cX7_looks 0 = .ok (.iload_n 1, 1) := by decide +kernel
theorem dX7_looks_1 : decode cX7_looks 1 = .ok (.iload_n 2, 1) := by decide +kernel
theorem dX7_looks_2 : decode cX7_looks 2 = .ok (.iload_n 3, 1) := by decide +kernel
theorem dX7_looks_3 : decode cX7_looks 3 = .ok (.invokestatic 100, 3) := by decide +kernel
theorem dX7_looks_6 : decode cX7_looks 6 = .ok (.istore 4, 2) := by decide +kernel
theorem dX7_looks_8 : decode cX7_looks 8 = .ok (.iload_n 1, 1) := by decide +kernel
theorem dX7_looks_9 : decode cX7_looks 9 = .ok (.iconst 1, 1) := by decide +kernel
theorem dX7_looks_10 : decode cX7_looks 10 = .ok (.iadd, 1) := by decide +kernel
theorem dX7_looks_11 : decode cX7_looks 11 = .ok (.iconst 4, 1) := by decide +kernel
theorem dX7_looks_12 : decode cX7_looks 12 = .ok (.irem, 1) := by decide +kernel
theorem dX7_looks_13 : decode cX7_looks 13 = .ok (.iload_n 2, 1) := by decide +kernel
theorem dX7_looks_14 : decode cX7_looks 14 = .ok (.iload_n 3, 1) := by decide +kernel
theorem dX7_looks_15 : decode cX7_looks 15 = .ok (.invokestatic 100, 3) := by decide +kernel
theorem dX7_looks_18 : decode cX7_looks 18 = .ok (.iconst 0, 1) := by decide +kernel
theorem dX7_looks_19 : decode cX7_looks 19 = .ok (.invokestatic 104, 3) := by decide +kernel
theorem dX7_looks_22 : decode cX7_looks 22 = .ok (.istore 5, 2) := by decide +kernel
theorem dX7_looks_24 : decode cX7_looks 24 = .ok (.iload_n 0, 1) := by decide +kernel
theorem dX7_looks_25 : decode cX7_looks 25 = .ok (.tableswitch 81 1 4 #[31, 81, 44, 60], 31) := by decide +kernel
theorem dX7_looks_56 : decode cX7_looks 56 = .ok (.iload 4, 2) := by decide +kernel
theorem dX7_looks_58 : decode cX7_looks 58 = .ok (.iload 5, 2) := by decide +kernel
theorem dX7_looks_60 : decode cX7_looks 60 = .ok (.if_icmp .lt 7, 3) := by decide +kernel
theorem dX7_looks_63 : decode cX7_looks 63 = .ok (.iconst 1, 1) := by decide +kernel
theorem dX7_looks_64 : decode cX7_looks 64 = .ok (.goto 4, 3) := by decide +kernel
theorem dX7_looks_67 : decode cX7_looks 67 = .ok (.iconst 0, 1) := by decide +kernel
theorem dX7_looks_68 : decode cX7_looks 68 = .ok (.ireturn, 1) := by decide +kernel
theorem dX7_looks_69 : decode cX7_looks 69 = .ok (.iload 4, 2) := by decide +kernel
theorem dX7_looks_71 : decode cX7_looks 71 = .ok (.ifCond .lt 12, 3) := by decide +kernel
theorem dX7_looks_74 : decode cX7_looks 74 = .ok (.iload 5, 2) := by decide +kernel
theorem dX7_looks_76 : decode cX7_looks 76 = .ok (.ifCond .ne 7, 3) := by decide +kernel
theorem dX7_looks_79 : decode cX7_looks 79 = .ok (.iconst 1, 1) := by decide +kernel
theorem dX7_looks_80 : decode cX7_looks 80 = .ok (.goto 4, 3) := by decide +kernel
theorem dX7_looks_83 : decode cX7_looks 83 = .ok (.iconst 0, 1) := by decide +kernel
theorem dX7_looks_84 : decode cX7_looks 84 = .ok (.ireturn, 1) := by decide +kernel
theorem dX7_looks_85 : decode cX7_looks 85 = .ok (.iload_n 2, 1) := by decide +kernel
theorem dX7_looks_86 : decode cX7_looks 86 = .ok (.iconst 0, 1) := by decide +kernel
theorem dX7_looks_87 : decode cX7_looks 87 = .ok (.invokestatic 104, 3) := by decide +kernel
theorem dX7_looks_90 : decode cX7_looks 90 = .ok (.iload_n 3, 1) := by decide +kernel
theorem dX7_looks_91 : decode cX7_looks 91 = .ok (.iconst 0, 1) := by decide +kernel
theorem dX7_looks_92 : decode cX7_looks 92 = .ok (.invokestatic 104, 3) := by decide +kernel
theorem dX7_looks_95 : decode cX7_looks 95 = .ok (.iadd, 1) := by decide +kernel
theorem dX7_looks_96 : decode cX7_looks 96 = .ok (.iconst 2, 1) := by decide +kernel
theorem dX7_looks_97 : decode cX7_looks 97 = .ok (.if_icmp .gt 7, 3) := by decide +kernel
theorem dX7_looks_100 : decode cX7_looks 100 = .ok (.iconst 1, 1) := by decide +kernel
theorem dX7_looks_101 : decode cX7_looks 101 = .ok (.goto 4, 3) := by decide +kernel
theorem dX7_looks_104 : decode cX7_looks 104 = .ok (.iconst 0, 1) := by decide +kernel
theorem dX7_looks_105 : decode cX7_looks 105 = .ok (.ireturn, 1) := by decide +kernel
theorem dX7_looks_106 : decode cX7_looks 106 = .ok (.iconst 1, 1) := by decide +kernel
theorem dX7_looks_107 : decode cX7_looks 107 = .ok (.ireturn, 1) := by decide +kernel
theorem dX7_nearest_0 : decode cX7_nearest 0 = .ok (.iconst 2, 1) := by decide +kernel
theorem dX7_nearest_1 : decode cX7_nearest 1 = .ok (.iload_n 0, 1) := by decide +kernel
theorem dX7_nearest_2 : decode cX7_nearest 2 = .ok (.imul, 1) := by decide +kernel
theorem dX7_nearest_3 : decode cX7_nearest 3 = .ok (.iload_n 1, 1) := by decide +kernel
theorem dX7_nearest_4 : decode cX7_nearest 4 = .ok (.iadd, 1) := by decide +kernel
theorem dX7_nearest_5 : decode cX7_nearest 5 = .ok (.istore_n 2, 1) := by decide +kernel
theorem dX7_nearest_6 : decode cX7_nearest 6 = .ok (.iload_n 2, 1) := by decide +kernel
theorem dX7_nearest_7 : decode cX7_nearest 7 = .ok (.iconst 2, 1) := by decide +kernel
theorem dX7_nearest_8 : decode cX7_nearest 8 = .ok (.iload_n 1, 1) := by decide +kernel
theorem dX7_nearest_9 : decode cX7_nearest 9 = .ok (.imul, 1) := by decide +kernel
theorem dX7_nearest_10 : decode cX7_nearest 10 = .ok (.idiv, 1) := by decide +kernel
theorem dX7_nearest_11 : decode cX7_nearest 11 = .ok (.istore_n 3, 1) := by decide +kernel
theorem dX7_nearest_12 : decode cX7_nearest 12 = .ok (.iload_n 2, 1) := by decide +kernel
theorem dX7_nearest_13 : decode cX7_nearest 13 = .ok (.ifCond .ge 18, 3) := by decide +kernel
theorem dX7_nearest_16 : decode cX7_nearest 16 = .ok (.iload_n 3, 1) := by decide +kernel
theorem dX7_nearest_17 : decode cX7_nearest 17 = .ok (.iconst 2, 1) := by decide +kernel
theorem dX7_nearest_18 : decode cX7_nearest 18 = .ok (.imul, 1) := by decide +kernel
theorem dX7_nearest_19 : decode cX7_nearest 19 = .ok (.iload_n 1, 1) := by decide +kernel
theorem dX7_nearest_20 : decode cX7_nearest 20 = .ok (.imul, 1) := by decide +kernel
theorem dX7_nearest_21 : decode cX7_nearest 21 = .ok (.iload_n 2, 1) := by decide +kernel
theorem dX7_nearest_22 : decode cX7_nearest 22 = .ok (.if_icmp .eq 9, 3) := by decide +kernel
theorem dX7_nearest_25 : decode cX7_nearest 25 = .ok (.iload_n 3, 1) := by decide +kernel
theorem dX7_nearest_26 : decode cX7_nearest 26 = .ok (.iconst 1, 1) := by decide +kernel
theorem dX7_nearest_27 : decode cX7_nearest 27 = .ok (.isub, 1) := by decide +kernel
theorem dX7_nearest_28 : decode cX7_nearest 28 = .ok (.goto 4, 3) := by decide +kernel
theorem dX7_nearest_31 : decode cX7_nearest 31 = .ok (.iload_n 3, 1) := by decide +kernel
theorem dX7_nearest_32 : decode cX7_nearest 32 = .ok (.ireturn, 1) := by decide +kernel
theorem dX7_isOpen_0 : decode cX7_isOpen 0 = .ok (.iload_n 2, 1) := by decide +kernel
theorem dX7_isOpen_1 : decode cX7_isOpen 1 = .ok (.iconst 0, 1) := by decide +kernel
theorem dX7_isOpen_2 : decode cX7_isOpen 2 = .ok (.invokestatic 104, 3) := by decide +kernel
theorem dX7_isOpen_5 : decode cX7_isOpen 5 = .ok (.iload_n 3, 1) := by decide +kernel
theorem dX7_isOpen_6 : decode cX7_isOpen 6 = .ok (.iconst 0, 1) := by decide +kernel
theorem dX7_isOpen_7 : decode cX7_isOpen 7 = .ok (.invokestatic 104, 3) := by decide +kernel
theorem dX7_isOpen_10 : decode cX7_isOpen 10 = .ok (.if_icmp .le 11, 3) := by decide +kernel
theorem dX7_isOpen_13 : decode cX7_isOpen 13 = .ok (.iload_n 2, 1) := by decide +kernel
theorem dX7_isOpen_14 : decode cX7_isOpen 14 = .ok (.iconst 0, 1) := by decide +kernel
theorem dX7_isOpen_15 : decode cX7_isOpen 15 = .ok (.invokestatic 104, 3) := by decide +kernel
theorem dX7_isOpen_18 : decode cX7_isOpen 18 = .ok (.goto 8, 3) := by decide +kernel
theorem dX7_isOpen_21 : decode cX7_isOpen 21 = .ok (.iload_n 3, 1) := by decide +kernel
theorem dX7_isOpen_22 : decode cX7_isOpen 22 = .ok (.iconst 0, 1) := by decide +kernel
theorem dX7_isOpen_23 : decode cX7_isOpen 23 = .ok (.invokestatic 104, 3) := by decide +kernel
theorem dX7_isOpen_26 : decode cX7_isOpen 26 = .ok (.istore 4, 2) := by decide +kernel
theorem dX7_isOpen_28 : decode cX7_isOpen 28 = .ok (.iconst 1, 1) := by decide +kernel
theorem dX7_isOpen_29 : decode cX7_isOpen 29 = .ok (.istore 5, 2) := by decide +kernel
theorem dX7_isOpen_31 : decode cX7_isOpen 31 = .ok (.iconst 1, 1) := by decide +kernel
theorem dX7_isOpen_32 : decode cX7_isOpen 32 = .ok (.istore 6, 2) := by decide +kernel
theorem dX7_isOpen_34 : decode cX7_isOpen 34 = .ok (.iload 6, 2) := by decide +kernel
theorem dX7_isOpen_36 : decode cX7_isOpen 36 = .ok (.iload 4, 2) := by decide +kernel
theorem dX7_isOpen_38 : decode cX7_isOpen 38 = .ok (.if_icmp .ge 66, 3) := by decide +kernel
theorem dX7_isOpen_41 : decode cX7_isOpen 41 = .ok (.iload_n 1, 1) := by decide +kernel
theorem dX7_isOpen_42 : decode cX7_isOpen 42 = .ok (.bipush 8, 2) := by decide +kernel
theorem dX7_isOpen_44 : decode cX7_isOpen 44 = .ok (.idiv, 1) := by decide +kernel
theorem dX7_isOpen_45 : decode cX7_isOpen 45 = .ok (.iload_n 2, 1) := by decide +kernel
theorem dX7_isOpen_46 : decode cX7_isOpen 46 = .ok (.iload 6, 2) := by decide +kernel
theorem dX7_isOpen_48 : decode cX7_isOpen 48 = .ok (.imul, 1) := by decide +kernel
theorem dX7_isOpen_49 : decode cX7_isOpen 49 = .ok (.iload 4, 2) := by decide +kernel
theorem dX7_isOpen_51 : decode cX7_isOpen 51 = .ok (.invokestatic 107, 3) := by decide +kernel
theorem dX7_isOpen_54 : decode cX7_isOpen 54 = .ok (.iadd, 1) := by decide +kernel
theorem dX7_isOpen_55 : decode cX7_isOpen 55 = .ok (.istore 7, 2) := by decide +kernel
theorem dX7_isOpen_57 : decode cX7_isOpen 57 = .ok (.iload_n 1, 1) := by decide +kernel
theorem dX7_isOpen_58 : decode cX7_isOpen 58 = .ok (.bipush 8, 2) := by decide +kernel
theorem dX7_isOpen_60 : decode cX7_isOpen 60 = .ok (.irem, 1) := by decide +kernel
theorem dX7_isOpen_61 : decode cX7_isOpen 61 = .ok (.iload_n 3, 1) := by decide +kernel
theorem dX7_isOpen_62 : decode cX7_isOpen 62 = .ok (.iload 6, 2) := by decide +kernel
theorem dX7_isOpen_64 : decode cX7_isOpen 64 = .ok (.imul, 1) := by decide +kernel
theorem dX7_isOpen_65 : decode cX7_isOpen 65 = .ok (.iload 4, 2) := by decide +kernel
theorem dX7_isOpen_67 : decode cX7_isOpen 67 = .ok (.invokestatic 107, 3) := by decide +kernel
theorem dX7_isOpen_70 : decode cX7_isOpen 70 = .ok (.iadd, 1) := by decide +kernel
theorem dX7_isOpen_71 : decode cX7_isOpen 71 = .ok (.istore 8, 2) := by decide +kernel
theorem dX7_isOpen_73 : decode cX7_isOpen 73 = .ok (.iload 5, 2) := by decide +kernel
theorem dX7_isOpen_75 : decode cX7_isOpen 75 = .ok (.aload_n 0, 1) := by decide +kernel
theorem dX7_isOpen_76 : decode cX7_isOpen 76 = .ok (.bipush 8, 2) := by decide +kernel
theorem dX7_isOpen_78 : decode cX7_isOpen 78 = .ok (.iload 7, 2) := by decide +kernel
theorem dX7_isOpen_80 : decode cX7_isOpen 80 = .ok (.imul, 1) := by decide +kernel
theorem dX7_isOpen_81 : decode cX7_isOpen 81 = .ok (.iload 8, 2) := by decide +kernel
theorem dX7_isOpen_83 : decode cX7_isOpen 83 = .ok (.iadd, 1) := by decide +kernel
theorem dX7_isOpen_84 : decode cX7_isOpen 84 = .ok (.invokevirtual 80, 3) := by decide +kernel
theorem dX7_isOpen_87 : decode cX7_isOpen 87 = .ok (.ifCond .ne 7, 3) := by decide +kernel
theorem dX7_isOpen_90 : decode cX7_isOpen 90 = .ok (.iconst 1, 1) := by decide +kernel
theorem dX7_isOpen_91 : decode cX7_isOpen 91 = .ok (.goto 4, 3) := by decide +kernel
theorem dX7_isOpen_94 : decode cX7_isOpen 94 = .ok (.iconst 0, 1) := by decide +kernel
theorem dX7_isOpen_95 : decode cX7_isOpen 95 = .ok (.iand, 1) := by decide +kernel
theorem dX7_isOpen_96 : decode cX7_isOpen 96 = .ok (.istore 5, 2) := by decide +kernel
theorem dX7_isOpen_98 : decode cX7_isOpen 98 = .ok (.iinc 6 1, 3) := by decide +kernel
theorem dX7_isOpen_101 : decode cX7_isOpen 101 = .ok (.goto (-67), 3) := by decide +kernel
theorem dX7_isOpen_104 : decode cX7_isOpen 104 = .ok (.iload 5, 2) := by decide +kernel
theorem dX7_isOpen_106 : decode cX7_isOpen 106 = .ok (.ireturn, 1) := by decide +kernel
theorem dX7_isSeen_0 : decode cX7_isSeen 0 = .ok (.iload 5, 2) := by decide +kernel
theorem dX7_isSeen_2 : decode cX7_isSeen 2 = .ok (.bipush 8, 2) := by decide +kernel
theorem dX7_isSeen_4 : decode cX7_isSeen 4 = .ok (.idiv, 1) := by decide +kernel
theorem dX7_isSeen_5 : decode cX7_isSeen 5 = .ok (.iload_n 2, 1) := by decide +kernel
theorem dX7_isSeen_6 : decode cX7_isSeen 6 = .ok (.bipush 8, 2) := by decide +kernel
theorem dX7_isSeen_8 : decode cX7_isSeen 8 = .ok (.idiv, 1) := by decide +kernel
theorem dX7_isSeen_9 : decode cX7_isSeen 9 = .ok (.isub, 1) := by decide +kernel
theorem dX7_isSeen_10 : decode cX7_isSeen 10 = .ok (.istore 6, 2) := by decide +kernel
theorem dX7_isSeen_12 : decode cX7_isSeen 12 = .ok (.iload 5, 2) := by decide +kernel
theorem dX7_isSeen_14 : decode cX7_isSeen 14 = .ok (.bipush 8, 2) := by decide +kernel
theorem dX7_isSeen_16 : decode cX7_isSeen 16 = .ok (.irem, 1) := by decide +kernel
theorem dX7_isSeen_17 : decode cX7_isSeen 17 = .ok (.iload_n 2, 1) := by decide +kernel
theorem dX7_isSeen_18 : decode cX7_isSeen 18 = .ok (.bipush 8, 2) := by decide +kernel
theorem dX7_isSeen_20 : decode cX7_isSeen 20 = .ok (.irem, 1) := by decide +kernel
theorem dX7_isSeen_21 : decode cX7_isSeen 21 = .ok (.isub, 1) := by decide +kernel
theorem dX7_isSeen_22 : decode cX7_isSeen 22 = .ok (.istore 7, 2) := by decide +kernel
theorem dX7_isSeen_24 : decode cX7_isSeen 24 = .ok (.iload 5, 2) := by decide +kernel
theorem dX7_isSeen_26 : decode cX7_isSeen 26 = .ok (.iload_n 2, 1) := by decide +kernel
theorem dX7_isSeen_27 : decode cX7_isSeen 27 = .ok (.if_icmp .eq 54, 3) := by decide +kernel
theorem dX7_isSeen_30 : decode cX7_isSeen 30 = .ok (.aload_n 0, 1) := by decide +kernel
theorem dX7_isSeen_31 : decode cX7_isSeen 31 = .ok (.iload 5, 2) := by decide +kernel
theorem dX7_isSeen_33 : decode cX7_isSeen 33 = .ok (.invokevirtual 80, 3) := by decide +kernel
theorem dX7_isSeen_36 : decode cX7_isSeen 36 = .ok (.ifCond .ne 49, 3) := by decide +kernel
theorem dX7_isSeen_39 : decode cX7_isSeen 39 = .ok (.iload_n 1, 1) := by decide +kernel
theorem dX7_isSeen_40 : decode cX7_isSeen 40 = .ok (.iload_n 3, 1) := by decide +kernel
theorem dX7_isSeen_41 : decode cX7_isSeen 41 = .ok (.iload 6, 2) := by decide +kernel
theorem dX7_isSeen_43 : decode cX7_isSeen 43 = .ok (.iload 7, 2) := by decide +kernel
theorem dX7_isSeen_45 : decode cX7_isSeen 45 = .ok (.invokestatic 110, 3) := by decide +kernel
theorem dX7_isSeen_48 : decode cX7_isSeen 48 = .ok (.ifCond .eq 37, 3) := by decide +kernel
theorem dX7_isSeen_51 : decode cX7_isSeen 51 = .ok (.iload 6, 2) := by decide +kernel
theorem dX7_isSeen_53 : decode cX7_isSeen 53 = .ok (.iconst 0, 1) := by decide +kernel
theorem dX7_isSeen_54 : decode cX7_isSeen 54 = .ok (.invokestatic 104, 3) := by decide +kernel
theorem dX7_isSeen_57 : decode cX7_isSeen 57 = .ok (.iload 7, 2) := by decide +kernel
theorem dX7_isSeen_59 : decode cX7_isSeen 59 = .ok (.iconst 0, 1) := by decide +kernel
theorem dX7_isSeen_60 : decode cX7_isSeen 60 = .ok (.invokestatic 104, 3) := by decide +kernel
theorem dX7_isSeen_63 : decode cX7_isSeen 63 = .ok (.iadd, 1) := by decide +kernel
theorem dX7_isSeen_64 : decode cX7_isSeen 64 = .ok (.iload 4, 2) := by decide +kernel
theorem dX7_isSeen_66 : decode cX7_isSeen 66 = .ok (.if_icmp .gt 19, 3) := by decide +kernel
theorem dX7_isSeen_69 : decode cX7_isSeen 69 = .ok (.aload_n 0, 1) := by decide +kernel
theorem dX7_isSeen_70 : decode cX7_isSeen 70 = .ok (.iload_n 2, 1) := by decide +kernel
theorem dX7_isSeen_71 : decode cX7_isSeen 71 = .ok (.iload 6, 2) := by decide +kernel
theorem dX7_isSeen_73 : decode cX7_isSeen 73 = .ok (.iload 7, 2) := by decide +kernel
theorem dX7_isSeen_75 : decode cX7_isSeen 75 = .ok (.invokevirtual 114, 3) := by decide +kernel
theorem dX7_isSeen_78 : decode cX7_isSeen 78 = .ok (.ifCond .eq 7, 3) := by decide +kernel
theorem dX7_isSeen_81 : decode cX7_isSeen 81 = .ok (.iconst 1, 1) := by decide +kernel
theorem dX7_isSeen_82 : decode cX7_isSeen 82 = .ok (.goto 4, 3) := by decide +kernel
theorem dX7_isSeen_85 : decode cX7_isSeen 85 = .ok (.iconst 0, 1) := by decide +kernel
theorem dX7_isSeen_86 : decode cX7_isSeen 86 = .ok (.ireturn, 1) := by decide +kernel
theorem dX7_reachOf_0 : decode cX7_reachOf 0 = .ok (.aload_n 0, 1) := by decide +kernel
theorem dX7_reachOf_1 : decode cX7_reachOf 1 = .ok (.aload_n 0, 1) := by decide +kernel
theorem dX7_reachOf_2 : decode cX7_reachOf 2 = .ok (.iload_n 1, 1) := by decide +kernel
theorem dX7_reachOf_3 : decode cX7_reachOf 3 = .ok (.iconst 0, 1) := by decide +kernel
theorem dX7_reachOf_4 : decode cX7_reachOf 4 = .ok (.invokevirtual 76, 3) := by decide +kernel
theorem dX7_reachOf_7 : decode cX7_reachOf 7 = .ok (.aload_n 0, 1) := by decide +kernel
theorem dX7_reachOf_8 : decode cX7_reachOf 8 = .ok (.iload_n 1, 1) := by decide +kernel
theorem dX7_reachOf_9 : decode cX7_reachOf 9 = .ok (.iconst 2, 1) := by decide +kernel
theorem dX7_reachOf_10 : decode cX7_reachOf 10 = .ok (.invokevirtual 76, 3) := by decide +kernel
theorem dX7_reachOf_13 : decode cX7_reachOf 13 = .ok (.aload_n 0, 1) := by decide +kernel
theorem dX7_reachOf_14 : decode cX7_reachOf 14 = .ok (.iload_n 1, 1) := by decide +kernel
theorem dX7_reachOf_15 : decode cX7_reachOf 15 = .ok (.iconst 3, 1) := by decide +kernel
theorem dX7_reachOf_16 : decode cX7_reachOf 16 = .ok (.invokevirtual 76, 3) := by decide +kernel
theorem dX7_reachOf_19 : decode cX7_reachOf 19 = .ok (.invokevirtual 118, 3) := by decide +kernel
theorem dX7_reachOf_22 : decode cX7_reachOf 22 = .ok (.ireturn, 1) := by decide +kernel
theorem dX7_seesIt_0 : decode cX7_seesIt 0 = .ok (.aload_n 0, 1) := by decide +kernel
theorem dX7_seesIt_1 : decode cX7_seesIt 1 = .ok (.aload_n 0, 1) := by decide +kernel
theorem dX7_seesIt_2 : decode cX7_seesIt 2 = .ok (.iload_n 1, 1) := by decide +kernel
theorem dX7_seesIt_3 : decode cX7_seesIt 3 = .ok (.iconst 0, 1) := by decide +kernel
theorem dX7_seesIt_4 : decode cX7_seesIt 4 = .ok (.invokevirtual 76, 3) := by decide +kernel
theorem dX7_seesIt_7 : decode cX7_seesIt 7 = .ok (.aload_n 0, 1) := by decide +kernel
theorem dX7_seesIt_8 : decode cX7_seesIt 8 = .ok (.iload_n 1, 1) := by decide +kernel
theorem dX7_seesIt_9 : decode cX7_seesIt 9 = .ok (.iconst 1, 1) := by decide +kernel
theorem dX7_seesIt_10 : decode cX7_seesIt 10 = .ok (.invokevirtual 76, 3) := by decide +kernel
theorem dX7_seesIt_13 : decode cX7_seesIt 13 = .ok (.aload_n 0, 1) := by decide +kernel
theorem dX7_seesIt_14 : decode cX7_seesIt 14 = .ok (.iload_n 1, 1) := by decide +kernel
theorem dX7_seesIt_15 : decode cX7_seesIt 15 = .ok (.iconst 2, 1) := by decide +kernel
theorem dX7_seesIt_16 : decode cX7_seesIt 16 = .ok (.invokevirtual 76, 3) := by decide +kernel
theorem dX7_seesIt_19 : decode cX7_seesIt 19 = .ok (.aload_n 0, 1) := by decide +kernel
theorem dX7_seesIt_20 : decode cX7_seesIt 20 = .ok (.iload_n 1, 1) := by decide +kernel
theorem dX7_seesIt_21 : decode cX7_seesIt 21 = .ok (.invokevirtual 121, 3) := by decide +kernel
theorem dX7_seesIt_24 : decode cX7_seesIt 24 = .ok (.iload_n 2, 1) := by decide +kernel
theorem dX7_seesIt_25 : decode cX7_seesIt 25 = .ok (.invokevirtual 124, 3) := by decide +kernel
theorem dX7_seesIt_28 : decode cX7_seesIt 28 = .ok (.ireturn, 1) := by decide +kernel
theorem dX7_seenFrom_0 : decode cX7_seenFrom 0 = .ok (.lconst 0, 1) := by decide +kernel
theorem dX7_seenFrom_1 : decode cX7_seenFrom 1 = .ok (.lstore 5, 2) := by decide +kernel
theorem dX7_seenFrom_3 : decode cX7_seenFrom 3 = .ok (.iconst 0, 1) := by decide +kernel
theorem dX7_seenFrom_4 : decode cX7_seenFrom 4 = .ok (.istore 7, 2) := by decide +kernel
theorem dX7_seenFrom_6 : decode cX7_seenFrom 6 = .ok (.iload 7, 2) := by decide +kernel
theorem dX7_seenFrom_8 : decode cX7_seenFrom 8 = .ok (.bipush 48, 2) := by decide +kernel
theorem dX7_seenFrom_10 : decode cX7_seenFrom 10 = .ok (.if_icmp .ge 36, 3) := by decide +kernel
theorem dX7_seenFrom_13 : decode cX7_seenFrom 13 = .ok (.lload 5, 2) := by decide +kernel
theorem dX7_seenFrom_15 : decode cX7_seenFrom 15 = .ok (.aload_n 0, 1) := by decide +kernel
theorem dX7_seenFrom_16 : decode cX7_seenFrom 16 = .ok (.iload_n 1, 1) := by decide +kernel
theorem dX7_seenFrom_17 : decode cX7_seenFrom 17 = .ok (.iload_n 2, 1) := by decide +kernel
theorem dX7_seenFrom_18 : decode cX7_seenFrom 18 = .ok (.iload_n 3, 1) := by decide +kernel
theorem dX7_seenFrom_19 : decode cX7_seenFrom 19 = .ok (.iload 4, 2) := by decide +kernel
theorem dX7_seenFrom_21 : decode cX7_seenFrom 21 = .ok (.iload 7, 2) := by decide +kernel
theorem dX7_seenFrom_23 : decode cX7_seenFrom 23 = .ok (.invokevirtual 124, 3) := by decide +kernel
theorem dX7_seenFrom_26 : decode cX7_seenFrom 26 = .ok (.ifCond .eq 10, 3) := by decide +kernel
theorem dX7_seenFrom_29 : decode cX7_seenFrom 29 = .ok (.lconst 1, 1) := by decide +kernel
theorem dX7_seenFrom_30 : decode cX7_seenFrom 30 = .ok (.iload 7, 2) := by decide +kernel
theorem dX7_seenFrom_32 : decode cX7_seenFrom 32 = .ok (.lshl, 1) := by decide +kernel
theorem dX7_seenFrom_33 : decode cX7_seenFrom 33 = .ok (.goto 4, 3) := by decide +kernel
theorem dX7_seenFrom_36 : decode cX7_seenFrom 36 = .ok (.lconst 0, 1) := by decide +kernel
theorem dX7_seenFrom_37 : decode cX7_seenFrom 37 = .ok (.lor, 1) := by decide +kernel
theorem dX7_seenFrom_38 : decode cX7_seenFrom 38 = .ok (.lstore 5, 2) := by decide +kernel
theorem dX7_seenFrom_40 : decode cX7_seenFrom 40 = .ok (.iinc 7 1, 3) := by decide +kernel
theorem dX7_seenFrom_43 : decode cX7_seenFrom 43 = .ok (.goto (-37), 3) := by decide +kernel
theorem dX7_seenFrom_46 : decode cX7_seenFrom 46 = .ok (.lload 5, 2) := by decide +kernel
theorem dX7_seenFrom_48 : decode cX7_seenFrom 48 = .ok (.lreturn, 1) := by decide +kernel
theorem dX7_seenBy_0 : decode cX7_seenBy 0 = .ok (.aload_n 0, 1) := by decide +kernel
theorem dX7_seenBy_1 : decode cX7_seenBy 1 = .ok (.aload_n 0, 1) := by decide +kernel
theorem dX7_seenBy_2 : decode cX7_seenBy 2 = .ok (.iload_n 1, 1) := by decide +kernel
theorem dX7_seenBy_3 : decode cX7_seenBy 3 = .ok (.iconst 0, 1) := by decide +kernel
theorem dX7_seenBy_4 : decode cX7_seenBy 4 = .ok (.invokevirtual 76, 3) := by decide +kernel
theorem dX7_seenBy_7 : decode cX7_seenBy 7 = .ok (.aload_n 0, 1) := by decide +kernel
theorem dX7_seenBy_8 : decode cX7_seenBy 8 = .ok (.iload_n 1, 1) := by decide +kernel
theorem dX7_seenBy_9 : decode cX7_seenBy 9 = .ok (.iconst 1, 1) := by decide +kernel
theorem dX7_seenBy_10 : decode cX7_seenBy 10 = .ok (.invokevirtual 76, 3) := by decide +kernel
theorem dX7_seenBy_13 : decode cX7_seenBy 13 = .ok (.aload_n 0, 1) := by decide +kernel
theorem dX7_seenBy_14 : decode cX7_seenBy 14 = .ok (.iload_n 1, 1) := by decide +kernel
theorem dX7_seenBy_15 : decode cX7_seenBy 15 = .ok (.iconst 2, 1) := by decide +kernel
theorem dX7_seenBy_16 : decode cX7_seenBy 16 = .ok (.invokevirtual 76, 3) := by decide +kernel
theorem dX7_seenBy_19 : decode cX7_seenBy 19 = .ok (.aload_n 0, 1) := by decide +kernel
theorem dX7_seenBy_20 : decode cX7_seenBy 20 = .ok (.iload_n 1, 1) := by decide +kernel
theorem dX7_seenBy_21 : decode cX7_seenBy 21 = .ok (.invokevirtual 121, 3) := by decide +kernel
theorem dX7_seenBy_24 : decode cX7_seenBy 24 = .ok (.invokevirtual 128, 3) := by decide +kernel
theorem dX7_seenBy_27 : decode cX7_seenBy 27 = .ok (.lreturn, 1) := by decide +kernel
theorem dX7_many_0 : decode cX7_many 0 = .ok (.iconst 0, 1) := by decide +kernel
theorem dX7_many_1 : decode cX7_many 1 = .ok (.istore_n 2, 1) := by decide +kernel
theorem dX7_many_2 : decode cX7_many 2 = .ok (.lload_n 0, 1) := by decide +kernel
theorem dX7_many_3 : decode cX7_many 3 = .ok (.lstore_n 3, 1) := by decide +kernel
theorem dX7_many_4 : decode cX7_many 4 = .ok (.lload_n 3, 1) := by decide +kernel
theorem dX7_many_5 : decode cX7_many 5 = .ok (.lconst 0, 1) := by decide +kernel
theorem dX7_many_6 : decode cX7_many 6 = .ok (.lcmp, 1) := by decide +kernel
theorem dX7_many_7 : decode cX7_many 7 = .ok (.ifCond .eq 15, 3) := by decide +kernel
theorem dX7_many_10 : decode cX7_many 10 = .ok (.iinc 2 1, 3) := by decide +kernel
theorem dX7_many_13 : decode cX7_many 13 = .ok (.lload_n 3, 1) := by decide +kernel
theorem dX7_many_14 : decode cX7_many 14 = .ok (.lload_n 3, 1) := by decide +kernel
theorem dX7_many_15 : decode cX7_many 15 = .ok (.lconst 1, 1) := by decide +kernel
theorem dX7_many_16 : decode cX7_many 16 = .ok (.lsub, 1) := by decide +kernel
theorem dX7_many_17 : decode cX7_many 17 = .ok (.land, 1) := by decide +kernel
theorem dX7_many_18 : decode cX7_many 18 = .ok (.lstore_n 3, 1) := by decide +kernel
theorem dX7_many_19 : decode cX7_many 19 = .ok (.goto (-15), 3) := by decide +kernel
theorem dX7_many_22 : decode cX7_many 22 = .ok (.iload_n 2, 1) := by decide +kernel
theorem dX7_many_23 : decode cX7_many 23 = .ok (.ireturn, 1) := by decide +kernel
theorem dX7_isAwake_0 : decode cX7_isAwake 0 = .ok (.aload_n 0, 1) := by decide +kernel
theorem dX7_isAwake_1 : decode cX7_isAwake 1 = .ok (.iload_n 1, 1) := by decide +kernel
theorem dX7_isAwake_2 : decode cX7_isAwake 2 = .ok (.iconst 0, 1) := by decide +kernel
theorem dX7_isAwake_3 : decode cX7_isAwake 3 = .ok (.invokevirtual 76, 3) := by decide +kernel
theorem dX7_isAwake_6 : decode cX7_isAwake 6 = .ok (.tableswitch 92 2 5 #[30, 92, 47, 75], 30) := by decide +kernel
theorem dX7_isAwake_36 : decode cX7_isAwake 36 = .ok (.aload_n 0, 1) := by decide +kernel
theorem dX7_isAwake_37 : decode cX7_isAwake 37 = .ok (.getfield 7, 3) := by decide +kernel
theorem dX7_isAwake_40 : decode cX7_isAwake 40 = .ok (.iconst 2, 1) := by decide +kernel
theorem dX7_isAwake_41 : decode cX7_isAwake 41 = .ok (.iaload, 1) := by decide +kernel
theorem dX7_isAwake_42 : decode cX7_isAwake 42 = .ok (.iconst 2, 1) := by decide +kernel
theorem dX7_isAwake_43 : decode cX7_isAwake 43 = .ok (.irem, 1) := by decide +kernel
theorem dX7_isAwake_44 : decode cX7_isAwake 44 = .ok (.ifCond .ne 7, 3) := by decide +kernel
theorem dX7_isAwake_47 : decode cX7_isAwake 47 = .ok (.iconst 1, 1) := by decide +kernel
theorem dX7_isAwake_48 : decode cX7_isAwake 48 = .ok (.goto 4, 3) := by decide +kernel
theorem dX7_isAwake_51 : decode cX7_isAwake 51 = .ok (.iconst 0, 1) := by decide +kernel
theorem dX7_isAwake_52 : decode cX7_isAwake 52 = .ok (.ireturn, 1) := by decide +kernel
theorem dX7_isAwake_53 : decode cX7_isAwake 53 = .ok (.aload_n 0, 1) := by decide +kernel
theorem dX7_isAwake_54 : decode cX7_isAwake 54 = .ok (.getfield 7, 3) := by decide +kernel
theorem dX7_isAwake_57 : decode cX7_isAwake 57 = .ok (.iconst 2, 1) := by decide +kernel
theorem dX7_isAwake_58 : decode cX7_isAwake 58 = .ok (.iaload, 1) := by decide +kernel
theorem dX7_isAwake_59 : decode cX7_isAwake 59 = .ok (.iconst 2, 1) := by decide +kernel
theorem dX7_isAwake_60 : decode cX7_isAwake 60 = .ok (.irem, 1) := by decide +kernel
theorem dX7_isAwake_61 : decode cX7_isAwake 61 = .ok (.ifCond .eq 14, 3) := by decide +kernel
theorem dX7_isAwake_64 : decode cX7_isAwake 64 = .ok (.aload_n 0, 1) := by decide +kernel
theorem dX7_isAwake_65 : decode cX7_isAwake 65 = .ok (.getfield 7, 3) := by decide +kernel
theorem dX7_isAwake_68 : decode cX7_isAwake 68 = .ok (.iconst 2, 1) := by decide +kernel
theorem dX7_isAwake_69 : decode cX7_isAwake 69 = .ok (.iaload, 1) := by decide +kernel
theorem dX7_isAwake_70 : decode cX7_isAwake 70 = .ok (.iconst 3, 1) := by decide +kernel
theorem dX7_isAwake_71 : decode cX7_isAwake 71 = .ok (.irem, 1) := by decide +kernel
theorem dX7_isAwake_72 : decode cX7_isAwake 72 = .ok (.ifCond .ne 7, 3) := by decide +kernel
theorem dX7_isAwake_75 : decode cX7_isAwake 75 = .ok (.iconst 1, 1) := by decide +kernel
theorem dX7_isAwake_76 : decode cX7_isAwake 76 = .ok (.goto 4, 3) := by decide +kernel
theorem dX7_isAwake_79 : decode cX7_isAwake 79 = .ok (.iconst 0, 1) := by decide +kernel
theorem dX7_isAwake_80 : decode cX7_isAwake 80 = .ok (.ireturn, 1) := by decide +kernel
theorem dX7_isAwake_81 : decode cX7_isAwake 81 = .ok (.aload_n 0, 1) := by decide +kernel
theorem dX7_isAwake_82 : decode cX7_isAwake 82 = .ok (.iload_n 1, 1) := by decide +kernel
theorem dX7_isAwake_83 : decode cX7_isAwake 83 = .ok (.iconst 3, 1) := by decide +kernel
theorem dX7_isAwake_84 : decode cX7_isAwake 84 = .ok (.invokevirtual 76, 3) := by decide +kernel
theorem dX7_isAwake_87 : decode cX7_isAwake 87 = .ok (.bipush 50, 2) := by decide +kernel
theorem dX7_isAwake_89 : decode cX7_isAwake 89 = .ok (.if_icmp .ge 7, 3) := by decide +kernel
theorem dX7_isAwake_92 : decode cX7_isAwake 92 = .ok (.iconst 1, 1) := by decide +kernel
theorem dX7_isAwake_93 : decode cX7_isAwake 93 = .ok (.goto 4, 3) := by decide +kernel
theorem dX7_isAwake_96 : decode cX7_isAwake 96 = .ok (.iconst 0, 1) := by decide +kernel
theorem dX7_isAwake_97 : decode cX7_isAwake 97 = .ok (.ireturn, 1) := by decide +kernel
theorem dX7_isAwake_98 : decode cX7_isAwake 98 = .ok (.iconst 1, 1) := by decide +kernel
theorem dX7_isAwake_99 : decode cX7_isAwake 99 = .ok (.ireturn, 1) := by decide +kernel
theorem dX7_seenByAll_0 : decode cX7_seenByAll 0 = .ok (.lconst 0, 1) := by decide +kernel
theorem dX7_seenByAll_1 : decode cX7_seenByAll 1 = .ok (.lstore_n 2, 1) := by decide +kernel
theorem dX7_seenByAll_2 : decode cX7_seenByAll 2 = .ok (.iconst 0, 1) := by decide +kernel
theorem dX7_seenByAll_3 : decode cX7_seenByAll 3 = .ok (.istore 4, 2) := by decide +kernel
theorem dX7_seenByAll_5 : decode cX7_seenByAll 5 = .ok (.iload 4, 2) := by decide +kernel
theorem dX7_seenByAll_7 : decode cX7_seenByAll 7 = .ok (.aload_n 0, 1) := by decide +kernel
theorem dX7_seenByAll_8 : decode cX7_seenByAll 8 = .ok (.getfield 7, 3) := by decide +kernel
theorem dX7_seenByAll_11 : decode cX7_seenByAll 11 = .ok (.iconst 0, 1) := by decide +kernel
theorem dX7_seenByAll_12 : decode cX7_seenByAll 12 = .ok (.iaload, 1) := by decide +kernel
theorem dX7_seenByAll_13 : decode cX7_seenByAll 13 = .ok (.if_icmp .ge 32, 3) := by decide +kernel
theorem dX7_seenByAll_16 : decode cX7_seenByAll 16 = .ok (.lload_n 2, 1) := by decide +kernel
theorem dX7_seenByAll_17 : decode cX7_seenByAll 17 = .ok (.iload_n 1, 1) := by decide +kernel
theorem dX7_seenByAll_18 : decode cX7_seenByAll 18 = .ok (.iload 4, 2) := by decide +kernel
theorem dX7_seenByAll_20 : decode cX7_seenByAll 20 = .ok (.ishr, 1) := by decide +kernel
theorem dX7_seenByAll_21 : decode cX7_seenByAll 21 = .ok (.iconst 1, 1) := by decide +kernel
theorem dX7_seenByAll_22 : decode cX7_seenByAll 22 = .ok (.iand, 1) := by decide +kernel
theorem dX7_seenByAll_23 : decode cX7_seenByAll 23 = .ok (.iconst 1, 1) := by decide +kernel
theorem dX7_seenByAll_24 : decode cX7_seenByAll 24 = .ok (.if_icmp .ne 12, 3) := by decide +kernel
theorem dX7_seenByAll_27 : decode cX7_seenByAll 27 = .ok (.aload_n 0, 1) := by decide +kernel
theorem dX7_seenByAll_28 : decode cX7_seenByAll 28 = .ok (.iload 4, 2) := by decide +kernel
theorem dX7_seenByAll_30 : decode cX7_seenByAll 30 = .ok (.invokevirtual 132, 3) := by decide +kernel
theorem dX7_seenByAll_33 : decode cX7_seenByAll 33 = .ok (.goto 4, 3) := by decide +kernel
theorem dX7_seenByAll_36 : decode cX7_seenByAll 36 = .ok (.lconst 0, 1) := by decide +kernel
theorem dX7_seenByAll_37 : decode cX7_seenByAll 37 = .ok (.lor, 1) := by decide +kernel
theorem dX7_seenByAll_38 : decode cX7_seenByAll 38 = .ok (.lstore_n 2, 1) := by decide +kernel
theorem dX7_seenByAll_39 : decode cX7_seenByAll 39 = .ok (.iinc 4 1, 3) := by decide +kernel
theorem dX7_seenByAll_42 : decode cX7_seenByAll 42 = .ok (.goto (-37), 3) := by decide +kernel
theorem dX7_seenByAll_45 : decode cX7_seenByAll 45 = .ok (.lload_n 2, 1) := by decide +kernel
theorem dX7_seenByAll_46 : decode cX7_seenByAll 46 = .ok (.lreturn, 1) := by decide +kernel
theorem dX7_everybody_0 : decode cX7_everybody 0 = .ok (.iconst 1, 1) := by decide +kernel
theorem dX7_everybody_1 : decode cX7_everybody 1 = .ok (.aload_n 0, 1) := by decide +kernel
theorem dX7_everybody_2 : decode cX7_everybody 2 = .ok (.getfield 7, 3) := by decide +kernel
theorem dX7_everybody_5 : decode cX7_everybody 5 = .ok (.iconst 0, 1) := by decide +kernel
theorem dX7_everybody_6 : decode cX7_everybody 6 = .ok (.iaload, 1) := by decide +kernel
theorem dX7_everybody_7 : decode cX7_everybody 7 = .ok (.ishl, 1) := by decide +kernel
theorem dX7_everybody_8 : decode cX7_everybody 8 = .ok (.iconst 1, 1) := by decide +kernel
theorem dX7_everybody_9 : decode cX7_everybody 9 = .ok (.isub, 1) := by decide +kernel
theorem dX7_everybody_10 : decode cX7_everybody 10 = .ok (.ireturn, 1) := by decide +kernel
theorem dX7_awake_0 : decode cX7_awake 0 = .ok (.iconst 0, 1) := by decide +kernel
theorem dX7_awake_1 : decode cX7_awake 1 = .ok (.istore_n 1, 1) := by decide +kernel
theorem dX7_awake_2 : decode cX7_awake 2 = .ok (.iconst 0, 1) := by decide +kernel
theorem dX7_awake_3 : decode cX7_awake 3 = .ok (.istore_n 2, 1) := by decide +kernel
theorem dX7_awake_4 : decode cX7_awake 4 = .ok (.iload_n 2, 1) := by decide +kernel
theorem dX7_awake_5 : decode cX7_awake 5 = .ok (.aload_n 0, 1) := by decide +kernel
theorem dX7_awake_6 : decode cX7_awake 6 = .ok (.getfield 7, 3) := by decide +kernel
theorem dX7_awake_9 : decode cX7_awake 9 = .ok (.iconst 0, 1) := by decide +kernel
theorem dX7_awake_10 : decode cX7_awake 10 = .ok (.iaload, 1) := by decide +kernel
theorem dX7_awake_11 : decode cX7_awake 11 = .ok (.if_icmp .ge 27, 3) := by decide +kernel
theorem dX7_awake_14 : decode cX7_awake 14 = .ok (.iload_n 1, 1) := by decide +kernel
theorem dX7_awake_15 : decode cX7_awake 15 = .ok (.aload_n 0, 1) := by decide +kernel
theorem dX7_awake_16 : decode cX7_awake 16 = .ok (.iload_n 2, 1) := by decide +kernel
theorem dX7_awake_17 : decode cX7_awake 17 = .ok (.invokevirtual 136, 3) := by decide +kernel
theorem dX7_awake_20 : decode cX7_awake 20 = .ok (.ifCond .eq 9, 3) := by decide +kernel
theorem dX7_awake_23 : decode cX7_awake 23 = .ok (.iconst 1, 1) := by decide +kernel
theorem dX7_awake_24 : decode cX7_awake 24 = .ok (.iload_n 2, 1) := by decide +kernel
theorem dX7_awake_25 : decode cX7_awake 25 = .ok (.ishl, 1) := by decide +kernel
theorem dX7_awake_26 : decode cX7_awake 26 = .ok (.goto 4, 3) := by decide +kernel
theorem dX7_awake_29 : decode cX7_awake 29 = .ok (.iconst 0, 1) := by decide +kernel
theorem dX7_awake_30 : decode cX7_awake 30 = .ok (.ior, 1) := by decide +kernel
theorem dX7_awake_31 : decode cX7_awake 31 = .ok (.istore_n 1, 1) := by decide +kernel
theorem dX7_awake_32 : decode cX7_awake 32 = .ok (.iinc 2 1, 3) := by decide +kernel
theorem dX7_awake_35 : decode cX7_awake 35 = .ok (.goto (-31), 3) := by decide +kernel
theorem dX7_awake_38 : decode cX7_awake 38 = .ok (.iload_n 1, 1) := by decide +kernel
theorem dX7_awake_39 : decode cX7_awake 39 = .ok (.ireturn, 1) := by decide +kernel
theorem dX7_blind_0 : decode cX7_blind 0 = .ok (.aload_n 0, 1) := by decide +kernel
theorem dX7_blind_1 : decode cX7_blind 1 = .ok (.aload_n 0, 1) := by decide +kernel
theorem dX7_blind_2 : decode cX7_blind 2 = .ok (.invokevirtual 139, 3) := by decide +kernel
theorem dX7_blind_5 : decode cX7_blind 5 = .ok (.invokevirtual 143, 3) := by decide +kernel
theorem dX7_blind_8 : decode cX7_blind 8 = .ok (.ldc2_w 146, 3) := by decide +kernel
theorem dX7_blind_11 : decode cX7_blind 11 = .ok (.lxor, 1) := by decide +kernel
theorem dX7_blind_12 : decode cX7_blind 12 = .ok (.lstore_n 1, 1) := by decide +kernel
theorem dX7_blind_13 : decode cX7_blind 13 = .ok (.iconst 0, 1) := by decide +kernel
theorem dX7_blind_14 : decode cX7_blind 14 = .ok (.istore_n 3, 1) := by decide +kernel
theorem dX7_blind_15 : decode cX7_blind 15 = .ok (.iload_n 3, 1) := by decide +kernel
theorem dX7_blind_16 : decode cX7_blind 16 = .ok (.bipush 48, 2) := by decide +kernel
theorem dX7_blind_18 : decode cX7_blind 18 = .ok (.if_icmp .ge 33, 3) := by decide +kernel
theorem dX7_blind_21 : decode cX7_blind 21 = .ok (.lload_n 1, 1) := by decide +kernel
theorem dX7_blind_22 : decode cX7_blind 22 = .ok (.aload_n 0, 1) := by decide +kernel
theorem dX7_blind_23 : decode cX7_blind 23 = .ok (.iload_n 3, 1) := by decide +kernel
theorem dX7_blind_24 : decode cX7_blind 24 = .ok (.invokevirtual 80, 3) := by decide +kernel
theorem dX7_blind_27 : decode cX7_blind 27 = .ok (.ifCond .eq 13, 3) := by decide +kernel
theorem dX7_blind_30 : decode cX7_blind 30 = .ok (.lconst 1, 1) := by decide +kernel
theorem dX7_blind_31 : decode cX7_blind 31 = .ok (.iload_n 3, 1) := by decide +kernel
theorem dX7_blind_32 : decode cX7_blind 32 = .ok (.lshl, 1) := by decide +kernel
theorem dX7_blind_33 : decode cX7_blind 33 = .ok (.ldc2_w 146, 3) := by decide +kernel
theorem dX7_blind_36 : decode cX7_blind 36 = .ok (.lxor, 1) := by decide +kernel
theorem dX7_blind_37 : decode cX7_blind 37 = .ok (.goto 6, 3) := by decide +kernel
theorem dX7_blind_40 : decode cX7_blind 40 = .ok (.ldc2_w 146, 3) := by decide +kernel
theorem dX7_blind_43 : decode cX7_blind 43 = .ok (.land, 1) := by decide +kernel
theorem dX7_blind_44 : decode cX7_blind 44 = .ok (.lstore_n 1, 1) := by decide +kernel
theorem dX7_blind_45 : decode cX7_blind 45 = .ok (.iinc 3 1, 3) := by decide +kernel
theorem dX7_blind_48 : decode cX7_blind 48 = .ok (.goto (-33), 3) := by decide +kernel
theorem dX7_blind_51 : decode cX7_blind 51 = .ok (.lload_n 1, 1) := by decide +kernel
theorem dX7_blind_52 : decode cX7_blind 52 = .ok (.ldc2_w 148, 3) := by decide +kernel
theorem dX7_blind_55 : decode cX7_blind 55 = .ok (.land, 1) := by decide +kernel
theorem dX7_blind_56 : decode cX7_blind 56 = .ok (.lreturn, 1) := by decide +kernel
theorem dX7_worth_0 : decode cX7_worth 0 = .ok (.aload_n 0, 1) := by decide +kernel
theorem dX7_worth_1 : decode cX7_worth 1 = .ok (.iload_n 1, 1) := by decide +kernel
theorem dX7_worth_2 : decode cX7_worth 2 = .ok (.iconst 3, 1) := by decide +kernel
theorem dX7_worth_3 : decode cX7_worth 3 = .ok (.invokevirtual 76, 3) := by decide +kernel
theorem dX7_worth_6 : decode cX7_worth 6 = .ok (.istore_n 2, 1) := by decide +kernel
theorem dX7_worth_7 : decode cX7_worth 7 = .ok (.aload_n 0, 1) := by decide +kernel
theorem dX7_worth_8 : decode cX7_worth 8 = .ok (.iload_n 1, 1) := by decide +kernel
theorem dX7_worth_9 : decode cX7_worth 9 = .ok (.iconst 0, 1) := by decide +kernel
theorem dX7_worth_10 : decode cX7_worth 10 = .ok (.invokevirtual 76, 3) := by decide +kernel
theorem dX7_worth_13 : decode cX7_worth 13 = .ok (.tableswitch 60 1 5 #[35, 39, 44, 50, 58], 35) := by decide +kernel
theorem dX7_worth_48 : decode cX7_worth 48 = .ok (.iload_n 2, 1) := by decide +kernel
theorem dX7_worth_49 : decode cX7_worth 49 = .ok (.iconst 4, 1) := by decide +kernel
theorem dX7_worth_50 : decode cX7_worth 50 = .ok (.iadd, 1) := by decide +kernel
theorem dX7_worth_51 : decode cX7_worth 51 = .ok (.ireturn, 1) := by decide +kernel
theorem dX7_worth_52 : decode cX7_worth 52 = .ok (.bipush 99, 2) := by decide +kernel
theorem dX7_worth_54 : decode cX7_worth 54 = .ok (.iload_n 2, 1) := by decide +kernel
theorem dX7_worth_55 : decode cX7_worth 55 = .ok (.isub, 1) := by decide +kernel
theorem dX7_worth_56 : decode cX7_worth 56 = .ok (.ireturn, 1) := by decide +kernel
theorem dX7_worth_57 : decode cX7_worth 57 = .ok (.iconst 2, 1) := by decide +kernel
theorem dX7_worth_58 : decode cX7_worth 58 = .ok (.iload_n 2, 1) := by decide +kernel
theorem dX7_worth_59 : decode cX7_worth 59 = .ok (.iconst 4, 1) := by decide +kernel
theorem dX7_worth_60 : decode cX7_worth 60 = .ok (.iadd, 1) := by decide +kernel
theorem dX7_worth_61 : decode cX7_worth 61 = .ok (.imul, 1) := by decide +kernel
theorem dX7_worth_62 : decode cX7_worth 62 = .ok (.ireturn, 1) := by decide +kernel
theorem dX7_worth_63 : decode cX7_worth 63 = .ok (.bipush 99, 2) := by decide +kernel
theorem dX7_worth_65 : decode cX7_worth 65 = .ok (.iload_n 2, 1) := by decide +kernel
theorem dX7_worth_66 : decode cX7_worth 66 = .ok (.isub, 1) := by decide +kernel
theorem dX7_worth_67 : decode cX7_worth 67 = .ok (.bipush 6, 2) := by decide +kernel
theorem dX7_worth_69 : decode cX7_worth 69 = .ok (.isub, 1) := by decide +kernel
theorem dX7_worth_70 : decode cX7_worth 70 = .ok (.ireturn, 1) := by decide +kernel
theorem dX7_worth_71 : decode cX7_worth 71 = .ok (.iconst 3, 1) := by decide +kernel
theorem dX7_worth_72 : decode cX7_worth 72 = .ok (.ireturn, 1) := by decide +kernel
theorem dX7_worth_73 : decode cX7_worth 73 = .ok (.iload_n 2, 1) := by decide +kernel
theorem dX7_worth_74 : decode cX7_worth 74 = .ok (.ireturn, 1) := by decide +kernel
theorem dX7_comes_0 : decode cX7_comes 0 = .ok (.aload_n 0, 1) := by decide +kernel
theorem dX7_comes_1 : decode cX7_comes 1 = .ok (.getfield 7, 3) := by decide +kernel
theorem dX7_comes_4 : decode cX7_comes 4 = .ok (.iconst 0, 1) := by decide +kernel
theorem dX7_comes_5 : decode cX7_comes 5 = .ok (.iaload, 1) := by decide +kernel
theorem dX7_comes_6 : decode cX7_comes 6 = .ok (.istore 5, 2) := by decide +kernel
theorem dX7_comes_8 : decode cX7_comes 8 = .ok (.aload_n 0, 1) := by decide +kernel
theorem dX7_comes_9 : decode cX7_comes 9 = .ok (.getfield 7, 3) := by decide +kernel
theorem dX7_comes_12 : decode cX7_comes 12 = .ok (.iconst 0, 1) := by decide +kernel
theorem dX7_comes_13 : decode cX7_comes 13 = .ok (.dup2, 1) := by decide +kernel
theorem dX7_comes_14 : decode cX7_comes 14 = .ok (.iaload, 1) := by decide +kernel
theorem dX7_comes_15 : decode cX7_comes 15 = .ok (.iconst 1, 1) := by decide +kernel
theorem dX7_comes_16 : decode cX7_comes 16 = .ok (.iadd, 1) := by decide +kernel
theorem dX7_comes_17 : decode cX7_comes 17 = .ok (.iastore, 1) := by decide +kernel
theorem dX7_comes_18 : decode cX7_comes 18 = .ok (.aload_n 0, 1) := by decide +kernel
theorem dX7_comes_19 : decode cX7_comes 19 = .ok (.iload 5, 2) := by decide +kernel
theorem dX7_comes_21 : decode cX7_comes 21 = .ok (.iconst 0, 1) := by decide +kernel
theorem dX7_comes_22 : decode cX7_comes 22 = .ok (.iload_n 1, 1) := by decide +kernel
theorem dX7_comes_23 : decode cX7_comes 23 = .ok (.invokevirtual 150, 3) := by decide +kernel
theorem dX7_comes_26 : decode cX7_comes 26 = .ok (.aload_n 0, 1) := by decide +kernel
theorem dX7_comes_27 : decode cX7_comes 27 = .ok (.iload 5, 2) := by decide +kernel
theorem dX7_comes_29 : decode cX7_comes 29 = .ok (.iconst 1, 1) := by decide +kernel
theorem dX7_comes_30 : decode cX7_comes 30 = .ok (.iload_n 2, 1) := by decide +kernel
theorem dX7_comes_31 : decode cX7_comes 31 = .ok (.invokevirtual 150, 3) := by decide +kernel
theorem dX7_comes_34 : decode cX7_comes 34 = .ok (.aload_n 0, 1) := by decide +kernel
theorem dX7_comes_35 : decode cX7_comes 35 = .ok (.iload 5, 2) := by decide +kernel
theorem dX7_comes_37 : decode cX7_comes 37 = .ok (.iconst 2, 1) := by decide +kernel
theorem dX7_comes_38 : decode cX7_comes 38 = .ok (.iload_n 3, 1) := by decide +kernel
theorem dX7_comes_39 : decode cX7_comes 39 = .ok (.invokevirtual 150, 3) := by decide +kernel
theorem dX7_comes_42 : decode cX7_comes 42 = .ok (.aload_n 0, 1) := by decide +kernel
theorem dX7_comes_43 : decode cX7_comes 43 = .ok (.iload 5, 2) := by decide +kernel
theorem dX7_comes_45 : decode cX7_comes 45 = .ok (.iconst 3, 1) := by decide +kernel
theorem dX7_comes_46 : decode cX7_comes 46 = .ok (.iload 4, 2) := by decide +kernel
theorem dX7_comes_48 : decode cX7_comes 48 = .ok (.invokevirtual 150, 3) := by decide +kernel
theorem dX7_comes_51 : decode cX7_comes 51 = .ok (.return_, 1) := by decide +kernel
theorem dX7_post_0 : decode cX7_post 0 = .ok (.iload_n 1, 1) := by decide +kernel
theorem dX7_post_1 : decode cX7_post 1 = .ok (.i2l, 1) := by decide +kernel
theorem dX7_post_2 : decode cX7_post 2 = .ok (.lconst 0, 1) := by decide +kernel
theorem dX7_post_3 : decode cX7_post 3 = .ok (.ldc2_w 154, 3) := by decide +kernel
theorem dX7_post_6 : decode cX7_post 6 = .ok (.invokestatic 69, 3) := by decide +kernel
theorem dX7_post_9 : decode cX7_post 9 = .ok (.ifCond .eq 22, 3) := by decide +kernel
theorem dX7_post_12 : decode cX7_post 12 = .ok (.iload_n 2, 1) := by decide +kernel
theorem dX7_post_13 : decode cX7_post 13 = .ok (.invokestatic 156, 3) := by decide +kernel
theorem dX7_post_16 : decode cX7_post 16 = .ok (.ifCond .eq 15, 3) := by decide +kernel
theorem dX7_post_19 : decode cX7_post 19 = .ok (.iload_n 3, 1) := by decide +kernel
theorem dX7_post_20 : decode cX7_post 20 = .ok (.i2l, 1) := by decide +kernel
theorem dX7_post_21 : decode cX7_post 21 = .ok (.lconst 0, 1) := by decide +kernel
theorem dX7_post_22 : decode cX7_post 22 = .ok (.ldc2_w 159, 3) := by decide +kernel
theorem dX7_post_25 : decode cX7_post 25 = .ok (.invokestatic 69, 3) := by decide +kernel
theorem dX7_post_28 : decode cX7_post 28 = .ok (.ifCond .ne 6, 3) := by decide +kernel
theorem dX7_post_31 : decode cX7_post 31 = .ok (.ldc 161, 2) := by decide +kernel
theorem dX7_post_33 : decode cX7_post 33 = .ok (.ireturn, 1) := by decide +kernel
theorem dX7_post_34 : decode cX7_post 34 = .ok (.aload_n 0, 1) := by decide +kernel
theorem dX7_post_35 : decode cX7_post 35 = .ok (.iload_n 2, 1) := by decide +kernel
theorem dX7_post_36 : decode cX7_post 36 = .ok (.invokevirtual 162, 3) := by decide +kernel
theorem dX7_post_39 : decode cX7_post 39 = .ok (.ifCond .ne 6, 3) := by decide +kernel
theorem dX7_post_42 : decode cX7_post 42 = .ok (.ldc 165, 2) := by decide +kernel
theorem dX7_post_44 : decode cX7_post 44 = .ok (.ireturn, 1) := by decide +kernel
theorem dX7_post_45 : decode cX7_post 45 = .ok (.aload_n 0, 1) := by decide +kernel
theorem dX7_post_46 : decode cX7_post 46 = .ok (.getfield 7, 3) := by decide +kernel
theorem dX7_post_49 : decode cX7_post 49 = .ok (.iconst 0, 1) := by decide +kernel
theorem dX7_post_50 : decode cX7_post 50 = .ok (.iaload, 1) := by decide +kernel
theorem dX7_post_51 : decode cX7_post 51 = .ok (.bipush 8, 2) := by decide +kernel
theorem dX7_post_53 : decode cX7_post 53 = .ok (.if_icmp .ne 6, 3) := by decide +kernel
theorem dX7_post_56 : decode cX7_post 56 = .ok (.ldc 166, 2) := by decide +kernel
theorem dX7_post_58 : decode cX7_post 58 = .ok (.ireturn, 1) := by decide +kernel
theorem dX7_post_59 : decode cX7_post 59 = .ok (.aload_n 0, 1) := by decide +kernel
theorem dX7_post_60 : decode cX7_post 60 = .ok (.iload_n 1, 1) := by decide +kernel
theorem dX7_post_61 : decode cX7_post 61 = .ok (.iload_n 2, 1) := by decide +kernel
theorem dX7_post_62 : decode cX7_post 62 = .ok (.iload_n 3, 1) := by decide +kernel
theorem dX7_post_63 : decode cX7_post 63 = .ok (.iconst 0, 1) := by decide +kernel
theorem dX7_post_64 : decode cX7_post 64 = .ok (.invokevirtual 167, 3) := by decide +kernel
theorem dX7_post_67 : decode cX7_post 67 = .ok (.aload_n 0, 1) := by decide +kernel
theorem dX7_post_68 : decode cX7_post 68 = .ok (.getfield 7, 3) := by decide +kernel
theorem dX7_post_71 : decode cX7_post 71 = .ok (.iconst 0, 1) := by decide +kernel
theorem dX7_post_72 : decode cX7_post 72 = .ok (.iaload, 1) := by decide +kernel
theorem dX7_post_73 : decode cX7_post 73 = .ok (.iconst 1, 1) := by decide +kernel
theorem dX7_post_74 : decode cX7_post 74 = .ok (.isub, 1) := by decide +kernel
theorem dX7_post_75 : decode cX7_post 75 = .ok (.ireturn, 1) := by decide +kernel
theorem dX7_told_0 : decode cX7_told 0 = .ok (.aload_n 0, 1) := by decide +kernel
theorem dX7_told_1 : decode cX7_told 1 = .ok (.iload_n 1, 1) := by decide +kernel
theorem dX7_told_2 : decode cX7_told 2 = .ok (.invokevirtual 171, 3) := by decide +kernel
theorem dX7_told_5 : decode cX7_told 5 = .ok (.ifCond .eq 15, 3) := by decide +kernel
theorem dX7_told_8 : decode cX7_told 8 = .ok (.iload_n 2, 1) := by decide +kernel
theorem dX7_told_9 : decode cX7_told 9 = .ok (.i2l, 1) := by decide +kernel
theorem dX7_told_10 : decode cX7_told 10 = .ok (.lconst 0, 1) := by decide +kernel
theorem dX7_told_11 : decode cX7_told 11 = .ok (.ldc2_w 174, 3) := by decide +kernel
theorem dX7_told_14 : decode cX7_told 14 = .ok (.invokestatic 69, 3) := by decide +kernel
theorem dX7_told_17 : decode cX7_told 17 = .ok (.ifCond .ne 6, 3) := by decide +kernel
theorem dX7_told_20 : decode cX7_told 20 = .ok (.ldc 161, 2) := by decide +kernel
theorem dX7_told_22 : decode cX7_told 22 = .ok (.ireturn, 1) := by decide +kernel
theorem dX7_told_23 : decode cX7_told 23 = .ok (.iload_n 2, 1) := by decide +kernel
theorem dX7_told_24 : decode cX7_told 24 = .ok (.tableswitch 67 4 7 #[32, 46, 52, 61], 32) := by decide +kernel
theorem dX7_told_56 : decode cX7_told 56 = .ok (.aload_n 0, 1) := by decide +kernel
theorem dX7_told_57 : decode cX7_told 57 = .ok (.iload_n 1, 1) := by decide +kernel
theorem dX7_told_58 : decode cX7_told 58 = .ok (.invokevirtual 136, 3) := by decide +kernel
theorem dX7_told_61 : decode cX7_told 61 = .ok (.ifCond .eq 7, 3) := by decide +kernel
theorem dX7_told_64 : decode cX7_told 64 = .ok (.iconst 1, 1) := by decide +kernel
theorem dX7_told_65 : decode cX7_told 65 = .ok (.goto 4, 3) := by decide +kernel
theorem dX7_told_68 : decode cX7_told 68 = .ok (.iconst 0, 1) := by decide +kernel
theorem dX7_told_69 : decode cX7_told 69 = .ok (.ireturn, 1) := by decide +kernel
theorem dX7_told_70 : decode cX7_told 70 = .ok (.aload_n 0, 1) := by decide +kernel
theorem dX7_told_71 : decode cX7_told 71 = .ok (.iload_n 1, 1) := by decide +kernel
theorem dX7_told_72 : decode cX7_told 72 = .ok (.invokevirtual 121, 3) := by decide +kernel
theorem dX7_told_75 : decode cX7_told 75 = .ok (.ireturn, 1) := by decide +kernel
theorem dX7_told_76 : decode cX7_told 76 = .ok (.aload_n 0, 1) := by decide +kernel
theorem dX7_told_77 : decode cX7_told 77 = .ok (.iload_n 1, 1) := by decide +kernel
theorem dX7_told_78 : decode cX7_told 78 = .ok (.invokevirtual 132, 3) := by decide +kernel
theorem dX7_told_81 : decode cX7_told 81 = .ok (.invokestatic 176, 3) := by decide +kernel
theorem dX7_told_84 : decode cX7_told 84 = .ok (.ireturn, 1) := by decide +kernel
theorem dX7_told_85 : decode cX7_told 85 = .ok (.aload_n 0, 1) := by decide +kernel
theorem dX7_told_86 : decode cX7_told 86 = .ok (.iload_n 1, 1) := by decide +kernel
theorem dX7_told_87 : decode cX7_told 87 = .ok (.invokevirtual 180, 3) := by decide +kernel
theorem dX7_told_90 : decode cX7_told 90 = .ok (.ireturn, 1) := by decide +kernel
theorem dX7_told_91 : decode cX7_told 91 = .ok (.aload_n 0, 1) := by decide +kernel
theorem dX7_told_92 : decode cX7_told 92 = .ok (.iload_n 1, 1) := by decide +kernel
theorem dX7_told_93 : decode cX7_told 93 = .ok (.iload_n 2, 1) := by decide +kernel
theorem dX7_told_94 : decode cX7_told 94 = .ok (.invokevirtual 76, 3) := by decide +kernel
theorem dX7_told_97 : decode cX7_told 97 = .ok (.ireturn, 1) := by decide +kernel
theorem dX7_as_0 : decode cX7_as 0 = .ok (.aload_n 0, 1) := by decide +kernel
theorem dX7_as_1 : decode cX7_as 1 = .ok (.iload_n 1, 1) := by decide +kernel
theorem dX7_as_2 : decode cX7_as 2 = .ok (.invokevirtual 171, 3) := by decide +kernel
theorem dX7_as_5 : decode cX7_as 5 = .ok (.ifCond .eq 15, 3) := by decide +kernel
theorem dX7_as_8 : decode cX7_as 8 = .ok (.iload_n 2, 1) := by decide +kernel
theorem dX7_as_9 : decode cX7_as 9 = .ok (.i2l, 1) := by decide +kernel
theorem dX7_as_10 : decode cX7_as 10 = .ok (.lconst 0, 1) := by decide +kernel
theorem dX7_as_11 : decode cX7_as 11 = .ok (.ldc2_w 154, 3) := by decide +kernel
theorem dX7_as_14 : decode cX7_as 14 = .ok (.invokestatic 69, 3) := by decide +kernel
theorem dX7_as_17 : decode cX7_as 17 = .ok (.ifCond .ne 6, 3) := by decide +kernel
theorem dX7_as_20 : decode cX7_as 20 = .ok (.ldc 161, 2) := by decide +kernel
theorem dX7_as_22 : decode cX7_as 22 = .ok (.ireturn, 1) := by decide +kernel
theorem dX7_as_23 : decode cX7_as 23 = .ok (.aload_n 0, 1) := by decide +kernel
theorem dX7_as_24 : decode cX7_as 24 = .ok (.iload_n 1, 1) := by decide +kernel
theorem dX7_as_25 : decode cX7_as 25 = .ok (.iconst 0, 1) := by decide +kernel
theorem dX7_as_26 : decode cX7_as 26 = .ok (.invokevirtual 76, 3) := by decide +kernel
theorem dX7_as_29 : decode cX7_as 29 = .ok (.iload_n 2, 1) := by decide +kernel
theorem dX7_as_30 : decode cX7_as 30 = .ok (.invokestatic 183, 3) := by decide +kernel
theorem dX7_as_33 : decode cX7_as 33 = .ok (.ifCond .eq 12, 3) := by decide +kernel
theorem dX7_as_36 : decode cX7_as 36 = .ok (.aload_n 0, 1) := by decide +kernel
theorem dX7_as_37 : decode cX7_as 37 = .ok (.iload_n 1, 1) := by decide +kernel
theorem dX7_as_38 : decode cX7_as 38 = .ok (.iconst 1, 1) := by decide +kernel
theorem dX7_as_39 : decode cX7_as 39 = .ok (.invokevirtual 76, 3) := by decide +kernel
theorem dX7_as_42 : decode cX7_as 42 = .ok (.goto 5, 3) := by decide +kernel
theorem dX7_as_45 : decode cX7_as 45 = .ok (.ldc 187, 2) := by decide +kernel
theorem dX7_as_47 : decode cX7_as 47 = .ok (.ireturn, 1) := by decide +kernel
theorem dX7_turns_0 : decode cX7_turns 0 = .ok (.aload_n 0, 1) := by decide +kernel
theorem dX7_turns_1 : decode cX7_turns 1 = .ok (.iload_n 1, 1) := by decide +kernel
theorem dX7_turns_2 : decode cX7_turns 2 = .ok (.invokevirtual 171, 3) := by decide +kernel
theorem dX7_turns_5 : decode cX7_turns 5 = .ok (.ifCond .eq 29, 3) := by decide +kernel
theorem dX7_turns_8 : decode cX7_turns 8 = .ok (.iload_n 2, 1) := by decide +kernel
theorem dX7_turns_9 : decode cX7_turns 9 = .ok (.i2l, 1) := by decide +kernel
theorem dX7_turns_10 : decode cX7_turns 10 = .ok (.lconst 0, 1) := by decide +kernel
theorem dX7_turns_11 : decode cX7_turns 11 = .ok (.ldc2_w 154, 3) := by decide +kernel
theorem dX7_turns_14 : decode cX7_turns 14 = .ok (.invokestatic 69, 3) := by decide +kernel
theorem dX7_turns_17 : decode cX7_turns 17 = .ok (.ifCond .eq 17, 3) := by decide +kernel
theorem dX7_turns_20 : decode cX7_turns 20 = .ok (.aload_n 0, 1) := by decide +kernel
theorem dX7_turns_21 : decode cX7_turns 21 = .ok (.bipush 10, 2) := by decide +kernel
theorem dX7_turns_23 : decode cX7_turns 23 = .ok (.iconst 4, 1) := by decide +kernel
theorem dX7_turns_24 : decode cX7_turns 24 = .ok (.iload_n 1, 1) := by decide +kernel
theorem dX7_turns_25 : decode cX7_turns 25 = .ok (.imul, 1) := by decide +kernel
theorem dX7_turns_26 : decode cX7_turns 26 = .ok (.iadd, 1) := by decide +kernel
theorem dX7_turns_27 : decode cX7_turns 27 = .ok (.iload_n 2, 1) := by decide +kernel
theorem dX7_turns_28 : decode cX7_turns 28 = .ok (.invokevirtual 188, 3) := by decide +kernel
theorem dX7_turns_31 : decode cX7_turns 31 = .ok (.goto 5, 3) := by decide +kernel
theorem dX7_turns_34 : decode cX7_turns 34 = .ok (.ldc 161, 2) := by decide +kernel
theorem dX7_turns_36 : decode cX7_turns 36 = .ok (.ireturn, 1) := by decide +kernel
theorem dX7_set_0 : decode cX7_set 0 = .ok (.aload_n 0, 1) := by decide +kernel
theorem dX7_set_1 : decode cX7_set 1 = .ok (.iload_n 1, 1) := by decide +kernel
theorem dX7_set_2 : decode cX7_set 2 = .ok (.invokevirtual 171, 3) := by decide +kernel
theorem dX7_set_5 : decode cX7_set 5 = .ok (.ifCond .eq 40, 3) := by decide +kernel
theorem dX7_set_8 : decode cX7_set 8 = .ok (.iload_n 2, 1) := by decide +kernel
theorem dX7_set_9 : decode cX7_set 9 = .ok (.i2l, 1) := by decide +kernel
theorem dX7_set_10 : decode cX7_set 10 = .ok (.ldc2_w 191, 3) := by decide +kernel
theorem dX7_set_13 : decode cX7_set 13 = .ok (.ldc2_w 159, 3) := by decide +kernel
theorem dX7_set_16 : decode cX7_set 16 = .ok (.invokestatic 69, 3) := by decide +kernel
theorem dX7_set_19 : decode cX7_set 19 = .ok (.ifCond .eq 26, 3) := by decide +kernel
theorem dX7_set_22 : decode cX7_set 22 = .ok (.iload_n 3, 1) := by decide +kernel
theorem dX7_set_23 : decode cX7_set 23 = .ok (.i2l, 1) := by decide +kernel
theorem dX7_set_24 : decode cX7_set 24 = .ok (.lconst 0, 1) := by decide +kernel
theorem dX7_set_25 : decode cX7_set 25 = .ok (.iload_n 2, 1) := by decide +kernel
theorem dX7_set_26 : decode cX7_set 26 = .ok (.iconst 2, 1) := by decide +kernel
theorem dX7_set_27 : decode cX7_set 27 = .ok (.if_icmp .ne 9, 3) := by decide +kernel
theorem dX7_set_30 : decode cX7_set 30 = .ok (.ldc2_w 159, 3) := by decide +kernel
theorem dX7_set_33 : decode cX7_set 33 = .ok (.goto 6, 3) := by decide +kernel
theorem dX7_set_36 : decode cX7_set 36 = .ok (.ldc2_w 193, 3) := by decide +kernel
theorem dX7_set_39 : decode cX7_set 39 = .ok (.invokestatic 69, 3) := by decide +kernel
theorem dX7_set_42 : decode cX7_set 42 = .ok (.ifCond .ne 6, 3) := by decide +kernel
theorem dX7_set_45 : decode cX7_set 45 = .ok (.ldc 161, 2) := by decide +kernel
theorem dX7_set_47 : decode cX7_set 47 = .ok (.ireturn, 1) := by decide +kernel
theorem dX7_set_48 : decode cX7_set 48 = .ok (.aload_n 0, 1) := by decide +kernel
theorem dX7_set_49 : decode cX7_set 49 = .ok (.bipush 10, 2) := by decide +kernel
theorem dX7_set_51 : decode cX7_set 51 = .ok (.iconst 4, 1) := by decide +kernel
theorem dX7_set_52 : decode cX7_set 52 = .ok (.iload_n 1, 1) := by decide +kernel
theorem dX7_set_53 : decode cX7_set 53 = .ok (.imul, 1) := by decide +kernel
theorem dX7_set_54 : decode cX7_set 54 = .ok (.iadd, 1) := by decide +kernel
theorem dX7_set_55 : decode cX7_set 55 = .ok (.iload_n 2, 1) := by decide +kernel
theorem dX7_set_56 : decode cX7_set 56 = .ok (.iadd, 1) := by decide +kernel
theorem dX7_set_57 : decode cX7_set 57 = .ok (.iload_n 3, 1) := by decide +kernel
theorem dX7_set_58 : decode cX7_set 58 = .ok (.invokevirtual 188, 3) := by decide +kernel
theorem dX7_set_61 : decode cX7_set 61 = .ok (.ireturn, 1) := by decide +kernel
theorem dX7_moves_0 : decode cX7_moves 0 = .ok (.aload_n 0, 1) := by decide +kernel
theorem dX7_moves_1 : decode cX7_moves 1 = .ok (.iload_n 1, 1) := by decide +kernel
theorem dX7_moves_2 : decode cX7_moves 2 = .ok (.invokevirtual 171, 3) := by decide +kernel
theorem dX7_moves_5 : decode cX7_moves 5 = .ok (.ifCond .eq 10, 3) := by decide +kernel
theorem dX7_moves_8 : decode cX7_moves 8 = .ok (.iload_n 2, 1) := by decide +kernel
theorem dX7_moves_9 : decode cX7_moves 9 = .ok (.invokestatic 156, 3) := by decide +kernel
theorem dX7_moves_12 : decode cX7_moves 12 = .ok (.ifCond .ne 6, 3) := by decide +kernel
theorem dX7_moves_15 : decode cX7_moves 15 = .ok (.ldc 161, 2) := by decide +kernel
theorem dX7_moves_17 : decode cX7_moves 17 = .ok (.ireturn, 1) := by decide +kernel
theorem dX7_moves_18 : decode cX7_moves 18 = .ok (.aload_n 0, 1) := by decide +kernel
theorem dX7_moves_19 : decode cX7_moves 19 = .ok (.iload_n 2, 1) := by decide +kernel
theorem dX7_moves_20 : decode cX7_moves 20 = .ok (.invokevirtual 162, 3) := by decide +kernel
theorem dX7_moves_23 : decode cX7_moves 23 = .ok (.ifCond .eq 19, 3) := by decide +kernel
theorem dX7_moves_26 : decode cX7_moves 26 = .ok (.aload_n 0, 1) := by decide +kernel
theorem dX7_moves_27 : decode cX7_moves 27 = .ok (.bipush 10, 2) := by decide +kernel
theorem dX7_moves_29 : decode cX7_moves 29 = .ok (.iconst 4, 1) := by decide +kernel
theorem dX7_moves_30 : decode cX7_moves 30 = .ok (.iload_n 1, 1) := by decide +kernel
theorem dX7_moves_31 : decode cX7_moves 31 = .ok (.imul, 1) := by decide +kernel
theorem dX7_moves_32 : decode cX7_moves 32 = .ok (.iadd, 1) := by decide +kernel
theorem dX7_moves_33 : decode cX7_moves 33 = .ok (.iconst 1, 1) := by decide +kernel
theorem dX7_moves_34 : decode cX7_moves 34 = .ok (.iadd, 1) := by decide +kernel
theorem dX7_moves_35 : decode cX7_moves 35 = .ok (.iload_n 2, 1) := by decide +kernel
theorem dX7_moves_36 : decode cX7_moves 36 = .ok (.invokevirtual 188, 3) := by decide +kernel
theorem dX7_moves_39 : decode cX7_moves 39 = .ok (.goto 5, 3) := by decide +kernel
theorem dX7_moves_42 : decode cX7_moves 42 = .ok (.ldc 165, 2) := by decide +kernel
theorem dX7_moves_44 : decode cX7_moves 44 = .ok (.ireturn, 1) := by decide +kernel
theorem dX7_wall_0 : decode cX7_wall 0 = .ok (.iload_n 1, 1) := by decide +kernel
theorem dX7_wall_1 : decode cX7_wall 1 = .ok (.invokestatic 156, 3) := by decide +kernel
theorem dX7_wall_4 : decode cX7_wall 4 = .ok (.ifCond .eq 13, 3) := by decide +kernel
theorem dX7_wall_7 : decode cX7_wall 7 = .ok (.iload_n 2, 1) := by decide +kernel
theorem dX7_wall_8 : decode cX7_wall 8 = .ok (.i2l, 1) := by decide +kernel
theorem dX7_wall_9 : decode cX7_wall 9 = .ok (.lconst 0, 1) := by decide +kernel
theorem dX7_wall_10 : decode cX7_wall 10 = .ok (.lconst 1, 1) := by decide +kernel
theorem dX7_wall_11 : decode cX7_wall 11 = .ok (.invokestatic 69, 3) := by decide +kernel
theorem dX7_wall_14 : decode cX7_wall 14 = .ok (.ifCond .ne 6, 3) := by decide +kernel
theorem dX7_wall_17 : decode cX7_wall 17 = .ok (.ldc 161, 2) := by decide +kernel
theorem dX7_wall_19 : decode cX7_wall 19 = .ok (.ireturn, 1) := by decide +kernel
theorem dX7_wall_20 : decode cX7_wall 20 = .ok (.iload_n 2, 1) := by decide +kernel
theorem dX7_wall_21 : decode cX7_wall 21 = .ok (.iconst 1, 1) := by decide +kernel
theorem dX7_wall_22 : decode cX7_wall 22 = .ok (.if_icmp .ne 25, 3) := by decide +kernel
theorem dX7_wall_25 : decode cX7_wall 25 = .ok (.aload_n 0, 1) := by decide +kernel
theorem dX7_wall_26 : decode cX7_wall 26 = .ok (.iload_n 1, 1) := by decide +kernel
theorem dX7_wall_27 : decode cX7_wall 27 = .ok (.invokevirtual 84, 3) := by decide +kernel
theorem dX7_wall_30 : decode cX7_wall 30 = .ok (.ifCond .ge 14, 3) := by decide +kernel
theorem dX7_wall_33 : decode cX7_wall 33 = .ok (.aload_n 0, 1) := by decide +kernel
theorem dX7_wall_34 : decode cX7_wall 34 = .ok (.getfield 7, 3) := by decide +kernel
theorem dX7_wall_37 : decode cX7_wall 37 = .ok (.bipush 7, 2) := by decide +kernel
theorem dX7_wall_39 : decode cX7_wall 39 = .ok (.iaload, 1) := by decide +kernel
theorem dX7_wall_40 : decode cX7_wall 40 = .ok (.iload_n 1, 1) := by decide +kernel
theorem dX7_wall_41 : decode cX7_wall 41 = .ok (.if_icmp .ne 6, 3) := by decide +kernel
theorem dX7_wall_44 : decode cX7_wall 44 = .ok (.ldc 165, 2) := by decide +kernel
theorem dX7_wall_46 : decode cX7_wall 46 = .ok (.ireturn, 1) := by decide +kernel
theorem dX7_wall_47 : decode cX7_wall 47 = .ok (.aload_n 0, 1) := by decide +kernel
theorem dX7_wall_48 : decode cX7_wall 48 = .ok (.bipush 42, 2) := by decide +kernel
theorem dX7_wall_50 : decode cX7_wall 50 = .ok (.iload_n 1, 1) := by decide +kernel
theorem dX7_wall_51 : decode cX7_wall 51 = .ok (.iadd, 1) := by decide +kernel
theorem dX7_wall_52 : decode cX7_wall 52 = .ok (.iload_n 2, 1) := by decide +kernel
theorem dX7_wall_53 : decode cX7_wall 53 = .ok (.invokevirtual 188, 3) := by decide +kernel
theorem dX7_wall_56 : decode cX7_wall 56 = .ok (.ireturn, 1) := by decide +kernel
theorem dX7_at_0 : decode cX7_at 0 = .ok (.iload_n 1, 1) := by decide +kernel
theorem dX7_at_1 : decode cX7_at 1 = .ok (.invokestatic 156, 3) := by decide +kernel
theorem dX7_at_4 : decode cX7_at 4 = .ok (.ifCond .eq 13, 3) := by decide +kernel
theorem dX7_at_7 : decode cX7_at 7 = .ok (.iload_n 2, 1) := by decide +kernel
theorem dX7_at_8 : decode cX7_at 8 = .ok (.i2l, 1) := by decide +kernel
theorem dX7_at_9 : decode cX7_at 9 = .ok (.lconst 0, 1) := by decide +kernel
theorem dX7_at_10 : decode cX7_at 10 = .ok (.lconst 1, 1) := by decide +kernel
theorem dX7_at_11 : decode cX7_at 11 = .ok (.invokestatic 69, 3) := by decide +kernel
theorem dX7_at_14 : decode cX7_at 14 = .ok (.ifCond .ne 6, 3) := by decide +kernel
theorem dX7_at_17 : decode cX7_at 17 = .ok (.ldc 161, 2) := by decide +kernel
theorem dX7_at_19 : decode cX7_at 19 = .ok (.ireturn, 1) := by decide +kernel
theorem dX7_at_20 : decode cX7_at 20 = .ok (.iload_n 2, 1) := by decide +kernel
theorem dX7_at_21 : decode cX7_at 21 = .ok (.ifCond .ne 14, 3) := by decide +kernel
theorem dX7_at_24 : decode cX7_at 24 = .ok (.aload_n 0, 1) := by decide +kernel
theorem dX7_at_25 : decode cX7_at 25 = .ok (.iload_n 1, 1) := by decide +kernel
theorem dX7_at_26 : decode cX7_at 26 = .ok (.invokevirtual 84, 3) := by decide +kernel
theorem dX7_at_29 : decode cX7_at 29 = .ok (.invokestatic 195, 3) := by decide +kernel
theorem dX7_at_32 : decode cX7_at 32 = .ok (.goto 12, 3) := by decide +kernel
theorem dX7_at_35 : decode cX7_at 35 = .ok (.aload_n 0, 1) := by decide +kernel
theorem dX7_at_36 : decode cX7_at 36 = .ok (.getfield 7, 3) := by decide +kernel
theorem dX7_at_39 : decode cX7_at 39 = .ok (.bipush 42, 2) := by decide +kernel
theorem dX7_at_41 : decode cX7_at 41 = .ok (.iload_n 1, 1) := by decide +kernel
theorem dX7_at_42 : decode cX7_at 42 = .ok (.iadd, 1) := by decide +kernel
theorem dX7_at_43 : decode cX7_at 43 = .ok (.iaload, 1) := by decide +kernel
theorem dX7_at_44 : decode cX7_at 44 = .ok (.ireturn, 1) := by decide +kernel
theorem dX7_thief_0 : decode cX7_thief 0 = .ok (.iload_n 1, 1) := by decide +kernel
theorem dX7_thief_1 : decode cX7_thief 1 = .ok (.invokestatic 156, 3) := by decide +kernel
theorem dX7_thief_4 : decode cX7_thief 4 = .ok (.ifCond .ne 6, 3) := by decide +kernel
theorem dX7_thief_7 : decode cX7_thief 7 = .ok (.ldc 161, 2) := by decide +kernel
theorem dX7_thief_9 : decode cX7_thief 9 = .ok (.ireturn, 1) := by decide +kernel
theorem dX7_thief_10 : decode cX7_thief 10 = .ok (.aload_n 0, 1) := by decide +kernel
theorem dX7_thief_11 : decode cX7_thief 11 = .ok (.iload_n 1, 1) := by decide +kernel
theorem dX7_thief_12 : decode cX7_thief 12 = .ok (.invokevirtual 80, 3) := by decide +kernel
theorem dX7_thief_15 : decode cX7_thief 15 = .ok (.ifCond .eq 8, 3) := by decide +kernel
theorem dX7_thief_18 : decode cX7_thief 18 = .ok (.ldc 165, 2) := by decide +kernel
theorem dX7_thief_20 : decode cX7_thief 20 = .ok (.goto 10, 3) := by decide +kernel
theorem dX7_thief_23 : decode cX7_thief 23 = .ok (.aload_n 0, 1) := by decide +kernel
theorem dX7_thief_24 : decode cX7_thief 24 = .ok (.bipush 7, 2) := by decide +kernel
theorem dX7_thief_26 : decode cX7_thief 26 = .ok (.iload_n 1, 1) := by decide +kernel
theorem dX7_thief_27 : decode cX7_thief 27 = .ok (.invokevirtual 188, 3) := by decide +kernel
theorem dX7_thief_30 : decode cX7_thief 30 = .ok (.ireturn, 1) := by decide +kernel
theorem dX7_rule_0 : decode cX7_rule 0 = .ok (.iload_n 1, 1) := by decide +kernel
theorem dX7_rule_1 : decode cX7_rule 1 = .ok (.i2l, 1) := by decide +kernel
theorem dX7_rule_2 : decode cX7_rule 2 = .ok (.lconst 0, 1) := by decide +kernel
theorem dX7_rule_3 : decode cX7_rule 3 = .ok (.lconst 1, 1) := by decide +kernel
theorem dX7_rule_4 : decode cX7_rule 4 = .ok (.invokestatic 69, 3) := by decide +kernel
theorem dX7_rule_7 : decode cX7_rule 7 = .ok (.ifCond .eq 26, 3) := by decide +kernel
theorem dX7_rule_10 : decode cX7_rule 10 = .ok (.iload_n 2, 1) := by decide +kernel
theorem dX7_rule_11 : decode cX7_rule 11 = .ok (.i2l, 1) := by decide +kernel
theorem dX7_rule_12 : decode cX7_rule 12 = .ok (.lconst 0, 1) := by decide +kernel
theorem dX7_rule_13 : decode cX7_rule 13 = .ok (.ldc2_w 198, 3) := by decide +kernel
theorem dX7_rule_16 : decode cX7_rule 16 = .ok (.invokestatic 69, 3) := by decide +kernel
theorem dX7_rule_19 : decode cX7_rule 19 = .ok (.ifCond .eq 14, 3) := by decide +kernel
theorem dX7_rule_22 : decode cX7_rule 22 = .ok (.aload_n 0, 1) := by decide +kernel
theorem dX7_rule_23 : decode cX7_rule 23 = .ok (.iconst 3, 1) := by decide +kernel
theorem dX7_rule_24 : decode cX7_rule 24 = .ok (.iload_n 1, 1) := by decide +kernel
theorem dX7_rule_25 : decode cX7_rule 25 = .ok (.iadd, 1) := by decide +kernel
theorem dX7_rule_26 : decode cX7_rule 26 = .ok (.iload_n 2, 1) := by decide +kernel
theorem dX7_rule_27 : decode cX7_rule 27 = .ok (.invokevirtual 188, 3) := by decide +kernel
theorem dX7_rule_30 : decode cX7_rule 30 = .ok (.goto 5, 3) := by decide +kernel
theorem dX7_rule_33 : decode cX7_rule 33 = .ok (.ldc 161, 2) := by decide +kernel
theorem dX7_rule_35 : decode cX7_rule 35 = .ok (.ireturn, 1) := by decide +kernel
theorem dX7_nextFree_0 : decode cX7_nextFree 0 = .ok (.iload_n 1, 1) := by decide +kernel
theorem dX7_nextFree_1 : decode cX7_nextFree 1 = .ok (.istore_n 2, 1) := by decide +kernel
theorem dX7_nextFree_2 : decode cX7_nextFree 2 = .ok (.iconst 0, 1) := by decide +kernel
theorem dX7_nextFree_3 : decode cX7_nextFree 3 = .ok (.istore_n 3, 1) := by decide +kernel
theorem dX7_nextFree_4 : decode cX7_nextFree 4 = .ok (.iload_n 3, 1) := by decide +kernel
theorem dX7_nextFree_5 : decode cX7_nextFree 5 = .ok (.bipush 48, 2) := by decide +kernel
theorem dX7_nextFree_7 : decode cX7_nextFree 7 = .ok (.if_icmp .ge 24, 3) := by decide +kernel
theorem dX7_nextFree_10 : decode cX7_nextFree 10 = .ok (.aload_n 0, 1) := by decide +kernel
theorem dX7_nextFree_11 : decode cX7_nextFree 11 = .ok (.iload_n 2, 1) := by decide +kernel
theorem dX7_nextFree_12 : decode cX7_nextFree 12 = .ok (.invokevirtual 162, 3) := by decide +kernel
theorem dX7_nextFree_15 : decode cX7_nextFree 15 = .ok (.ifCond .ne 16, 3) := by decide +kernel
theorem dX7_nextFree_18 : decode cX7_nextFree 18 = .ok (.iload_n 2, 1) := by decide +kernel
theorem dX7_nextFree_19 : decode cX7_nextFree 19 = .ok (.iconst 1, 1) := by decide +kernel
theorem dX7_nextFree_20 : decode cX7_nextFree 20 = .ok (.iadd, 1) := by decide +kernel
theorem dX7_nextFree_21 : decode cX7_nextFree 21 = .ok (.bipush 48, 2) := by decide +kernel
theorem dX7_nextFree_23 : decode cX7_nextFree 23 = .ok (.irem, 1) := by decide +kernel
theorem dX7_nextFree_24 : decode cX7_nextFree 24 = .ok (.istore_n 2, 1) := by decide +kernel
theorem dX7_nextFree_25 : decode cX7_nextFree 25 = .ok (.iinc 3 1, 3) := by decide +kernel
theorem dX7_nextFree_28 : decode cX7_nextFree 28 = .ok (.goto (-24), 3) := by decide +kernel
theorem dX7_nextFree_31 : decode cX7_nextFree 31 = .ok (.aload_n 0, 1) := by decide +kernel
theorem dX7_nextFree_32 : decode cX7_nextFree 32 = .ok (.iload_n 2, 1) := by decide +kernel
theorem dX7_nextFree_33 : decode cX7_nextFree 33 = .ok (.invokevirtual 162, 3) := by decide +kernel
theorem dX7_nextFree_36 : decode cX7_nextFree 36 = .ok (.ifCond .eq 7, 3) := by decide +kernel
theorem dX7_nextFree_39 : decode cX7_nextFree 39 = .ok (.iload_n 2, 1) := by decide +kernel
theorem dX7_nextFree_40 : decode cX7_nextFree 40 = .ok (.goto 4, 3) := by decide +kernel
theorem dX7_nextFree_43 : decode cX7_nextFree 43 = .ok (.iconst (-1), 1) := by decide +kernel
theorem dX7_nextFree_44 : decode cX7_nextFree 44 = .ok (.ireturn, 1) := by decide +kernel
theorem dX7_deal_0 : decode cX7_deal 0 = .ok (.iload_n 1, 1) := by decide +kernel
theorem dX7_deal_1 : decode cX7_deal 1 = .ok (.i2l, 1) := by decide +kernel
theorem dX7_deal_2 : decode cX7_deal 2 = .ok (.lconst 1, 1) := by decide +kernel
theorem dX7_deal_3 : decode cX7_deal 3 = .ok (.ldc2_w 200, 3) := by decide +kernel
theorem dX7_deal_6 : decode cX7_deal 6 = .ok (.invokestatic 69, 3) := by decide +kernel
theorem dX7_deal_9 : decode cX7_deal 9 = .ok (.ifCond .ne 6, 3) := by decide +kernel
theorem dX7_deal_12 : decode cX7_deal 12 = .ok (.ldc 161, 2) := by decide +kernel
theorem dX7_deal_14 : decode cX7_deal 14 = .ok (.ireturn, 1) := by decide +kernel
theorem dX7_deal_15 : decode cX7_deal 15 = .ok (.iconst 0, 1) := by decide +kernel
theorem dX7_deal_16 : decode cX7_deal 16 = .ok (.istore_n 2, 1) := by decide +kernel
theorem dX7_deal_17 : decode cX7_deal 17 = .ok (.iconst 1, 1) := by decide +kernel
theorem dX7_deal_18 : decode cX7_deal 18 = .ok (.istore_n 3, 1) := by decide +kernel
theorem dX7_deal_19 : decode cX7_deal 19 = .ok (.iload_n 3, 1) := by decide +kernel
theorem dX7_deal_20 : decode cX7_deal 20 = .ok (.ifCond .eq 91, 3) := by decide +kernel
theorem dX7_deal_23 : decode cX7_deal 23 = .ok (.iload_n 2, 1) := by decide +kernel
theorem dX7_deal_24 : decode cX7_deal 24 = .ok (.iload_n 1, 1) := by decide +kernel
theorem dX7_deal_25 : decode cX7_deal 25 = .ok (.if_icmp .ge 86, 3) := by decide +kernel
theorem dX7_deal_28 : decode cX7_deal 28 = .ok (.aload_n 0, 1) := by decide +kernel
theorem dX7_deal_29 : decode cX7_deal 29 = .ok (.getfield 7, 3) := by decide +kernel
theorem dX7_deal_32 : decode cX7_deal 32 = .ok (.iconst 0, 1) := by decide +kernel
theorem dX7_deal_33 : decode cX7_deal 33 = .ok (.iaload, 1) := by decide +kernel
theorem dX7_deal_34 : decode cX7_deal 34 = .ok (.bipush 8, 2) := by decide +kernel
theorem dX7_deal_36 : decode cX7_deal 36 = .ok (.if_icmp .ge 75, 3) := by decide +kernel
theorem dX7_deal_39 : decode cX7_deal 39 = .ok (.aload_n 0, 1) := by decide +kernel
theorem dX7_deal_40 : decode cX7_deal 40 = .ok (.invokevirtual 202, 3) := by decide +kernel
theorem dX7_deal_43 : decode cX7_deal 43 = .ok (.bipush 6, 2) := by decide +kernel
theorem dX7_deal_45 : decode cX7_deal 45 = .ok (.irem, 1) := by decide +kernel
theorem dX7_deal_46 : decode cX7_deal 46 = .ok (.istore 4, 2) := by decide +kernel
theorem dX7_deal_48 : decode cX7_deal 48 = .ok (.aload_n 0, 1) := by decide +kernel
theorem dX7_deal_49 : decode cX7_deal 49 = .ok (.aload_n 0, 1) := by decide +kernel
theorem dX7_deal_50 : decode cX7_deal 50 = .ok (.invokevirtual 202, 3) := by decide +kernel
theorem dX7_deal_53 : decode cX7_deal 53 = .ok (.bipush 48, 2) := by decide +kernel
theorem dX7_deal_55 : decode cX7_deal 55 = .ok (.irem, 1) := by decide +kernel
theorem dX7_deal_56 : decode cX7_deal 56 = .ok (.invokevirtual 205, 3) := by decide +kernel
theorem dX7_deal_59 : decode cX7_deal 59 = .ok (.istore 5, 2) := by decide +kernel
theorem dX7_deal_61 : decode cX7_deal 61 = .ok (.aload_n 0, 1) := by decide +kernel
theorem dX7_deal_62 : decode cX7_deal 62 = .ok (.invokevirtual 202, 3) := by decide +kernel
theorem dX7_deal_65 : decode cX7_deal 65 = .ok (.iconst 4, 1) := by decide +kernel
theorem dX7_deal_66 : decode cX7_deal 66 = .ok (.irem, 1) := by decide +kernel
theorem dX7_deal_67 : decode cX7_deal 67 = .ok (.istore 6, 2) := by decide +kernel
theorem dX7_deal_69 : decode cX7_deal 69 = .ok (.aload_n 0, 1) := by decide +kernel
theorem dX7_deal_70 : decode cX7_deal 70 = .ok (.invokevirtual 202, 3) := by decide +kernel
theorem dX7_deal_73 : decode cX7_deal 73 = .ok (.bipush 60, 2) := by decide +kernel
theorem dX7_deal_75 : decode cX7_deal 75 = .ok (.irem, 1) := by decide +kernel
theorem dX7_deal_76 : decode cX7_deal 76 = .ok (.istore 7, 2) := by decide +kernel
theorem dX7_deal_78 : decode cX7_deal 78 = .ok (.iload 5, 2) := by decide +kernel
theorem dX7_deal_80 : decode cX7_deal 80 = .ok (.ifCond .lt 7, 3) := by decide +kernel
theorem dX7_deal_83 : decode cX7_deal 83 = .ok (.iconst 1, 1) := by decide +kernel
theorem dX7_deal_84 : decode cX7_deal 84 = .ok (.goto 4, 3) := by decide +kernel
theorem dX7_deal_87 : decode cX7_deal 87 = .ok (.iconst 0, 1) := by decide +kernel
theorem dX7_deal_88 : decode cX7_deal 88 = .ok (.istore_n 3, 1) := by decide +kernel
theorem dX7_deal_89 : decode cX7_deal 89 = .ok (.iload_n 3, 1) := by decide +kernel
theorem dX7_deal_90 : decode cX7_deal 90 = .ok (.ifCond .eq 18, 3) := by decide +kernel
theorem dX7_deal_93 : decode cX7_deal 93 = .ok (.aload_n 0, 1) := by decide +kernel
theorem dX7_deal_94 : decode cX7_deal 94 = .ok (.iload 4, 2) := by decide +kernel
theorem dX7_deal_96 : decode cX7_deal 96 = .ok (.iload 5, 2) := by decide +kernel
theorem dX7_deal_98 : decode cX7_deal 98 = .ok (.iload 6, 2) := by decide +kernel
theorem dX7_deal_100 : decode cX7_deal 100 = .ok (.iload 7, 2) := by decide +kernel
theorem dX7_deal_102 : decode cX7_deal 102 = .ok (.invokevirtual 167, 3) := by decide +kernel
theorem dX7_deal_105 : decode cX7_deal 105 = .ok (.iinc 2 1, 3) := by decide +kernel
theorem dX7_deal_108 : decode cX7_deal 108 = .ok (.goto (-89), 3) := by decide +kernel
theorem dX7_deal_111 : decode cX7_deal 111 = .ok (.iload_n 2, 1) := by decide +kernel
theorem dX7_deal_112 : decode cX7_deal 112 = .ok (.ireturn, 1) := by decide +kernel
theorem dX7_seed_0 : decode cX7_seed 0 = .ok (.aload_n 0, 1) := by decide +kernel
theorem dX7_seed_1 : decode cX7_seed 1 = .ok (.bipush 9, 2) := by decide +kernel
theorem dX7_seed_3 : decode cX7_seed 3 = .ok (.iload_n 1, 1) := by decide +kernel
theorem dX7_seed_4 : decode cX7_seed 4 = .ok (.invokevirtual 188, 3) := by decide +kernel
theorem dX7_seed_7 : decode cX7_seed 7 = .ok (.ireturn, 1) := by decide +kernel
theorem dX7_sees_0 : decode cX7_sees 0 = .ok (.aload_n 0, 1) := by decide +kernel
theorem dX7_sees_1 : decode cX7_sees 1 = .ok (.iload_n 1, 1) := by decide +kernel
theorem dX7_sees_2 : decode cX7_sees 2 = .ok (.invokevirtual 171, 3) := by decide +kernel
theorem dX7_sees_5 : decode cX7_sees 5 = .ok (.ifCond .eq 10, 3) := by decide +kernel
theorem dX7_sees_8 : decode cX7_sees 8 = .ok (.iload_n 2, 1) := by decide +kernel
theorem dX7_sees_9 : decode cX7_sees 9 = .ok (.invokestatic 156, 3) := by decide +kernel
theorem dX7_sees_12 : decode cX7_sees 12 = .ok (.ifCond .ne 6, 3) := by decide +kernel
theorem dX7_sees_15 : decode cX7_sees 15 = .ok (.ldc 161, 2) := by decide +kernel
theorem dX7_sees_17 : decode cX7_sees 17 = .ok (.ireturn, 1) := by decide +kernel
theorem dX7_sees_18 : decode cX7_sees 18 = .ok (.aload_n 0, 1) := by decide +kernel
theorem dX7_sees_19 : decode cX7_sees 19 = .ok (.iload_n 1, 1) := by decide +kernel
theorem dX7_sees_20 : decode cX7_sees 20 = .ok (.iload_n 2, 1) := by decide +kernel
theorem dX7_sees_21 : decode cX7_sees 21 = .ok (.invokevirtual 208, 3) := by decide +kernel
theorem dX7_sees_24 : decode cX7_sees 24 = .ok (.ifCond .eq 7, 3) := by decide +kernel
theorem dX7_sees_27 : decode cX7_sees 27 = .ok (.iconst 1, 1) := by decide +kernel
theorem dX7_sees_28 : decode cX7_sees 28 = .ok (.goto 4, 3) := by decide +kernel
theorem dX7_sees_31 : decode cX7_sees 31 = .ok (.iconst 0, 1) := by decide +kernel
theorem dX7_sees_32 : decode cX7_sees 32 = .ok (.ireturn, 1) := by decide +kernel
theorem dX7_row_0 : decode cX7_row 0 = .ok (.aload_n 0, 1) := by decide +kernel
theorem dX7_row_1 : decode cX7_row 1 = .ok (.iload_n 1, 1) := by decide +kernel
theorem dX7_row_2 : decode cX7_row 2 = .ok (.invokevirtual 171, 3) := by decide +kernel
theorem dX7_row_5 : decode cX7_row 5 = .ok (.ifCond .eq 15, 3) := by decide +kernel
theorem dX7_row_8 : decode cX7_row 8 = .ok (.iload_n 2, 1) := by decide +kernel
theorem dX7_row_9 : decode cX7_row 9 = .ok (.i2l, 1) := by decide +kernel
theorem dX7_row_10 : decode cX7_row 10 = .ok (.lconst 0, 1) := by decide +kernel
theorem dX7_row_11 : decode cX7_row 11 = .ok (.ldc2_w 154, 3) := by decide +kernel
theorem dX7_row_14 : decode cX7_row 14 = .ok (.invokestatic 69, 3) := by decide +kernel
theorem dX7_row_17 : decode cX7_row 17 = .ok (.ifCond .ne 6, 3) := by decide +kernel
theorem dX7_row_20 : decode cX7_row 20 = .ok (.ldc 161, 2) := by decide +kernel
theorem dX7_row_22 : decode cX7_row 22 = .ok (.ireturn, 1) := by decide +kernel
theorem dX7_row_23 : decode cX7_row 23 = .ok (.aload_n 0, 1) := by decide +kernel
theorem dX7_row_24 : decode cX7_row 24 = .ok (.iload_n 1, 1) := by decide +kernel
theorem dX7_row_25 : decode cX7_row 25 = .ok (.invokevirtual 132, 3) := by decide +kernel
theorem dX7_row_28 : decode cX7_row 28 = .ok (.bipush 8, 2) := by decide +kernel
theorem dX7_row_30 : decode cX7_row 30 = .ok (.iload_n 2, 1) := by decide +kernel
theorem dX7_row_31 : decode cX7_row 31 = .ok (.imul, 1) := by decide +kernel
theorem dX7_row_32 : decode cX7_row 32 = .ok (.lshr, 1) := by decide +kernel
theorem dX7_row_33 : decode cX7_row 33 = .ok (.ldc2_w 211, 3) := by decide +kernel
theorem dX7_row_36 : decode cX7_row 36 = .ok (.land, 1) := by decide +kernel
theorem dX7_row_37 : decode cX7_row 37 = .ok (.l2i, 1) := by decide +kernel
theorem dX7_row_38 : decode cX7_row 38 = .ok (.ireturn, 1) := by decide +kernel
theorem dX7_firstOf_0 : decode cX7_firstOf 0 = .ok (.iconst 0, 1) := by decide +kernel
theorem dX7_firstOf_1 : decode cX7_firstOf 1 = .ok (.istore_n 2, 1) := by decide +kernel
theorem dX7_firstOf_2 : decode cX7_firstOf 2 = .ok (.iload_n 2, 1) := by decide +kernel
theorem dX7_firstOf_3 : decode cX7_firstOf 3 = .ok (.bipush 48, 2) := by decide +kernel
theorem dX7_firstOf_5 : decode cX7_firstOf 5 = .ok (.if_icmp .ge 19, 3) := by decide +kernel
theorem dX7_firstOf_8 : decode cX7_firstOf 8 = .ok (.lload_n 0, 1) := by decide +kernel
theorem dX7_firstOf_9 : decode cX7_firstOf 9 = .ok (.iload_n 2, 1) := by decide +kernel
theorem dX7_firstOf_10 : decode cX7_firstOf 10 = .ok (.lshr, 1) := by decide +kernel
theorem dX7_firstOf_11 : decode cX7_firstOf 11 = .ok (.lconst 1, 1) := by decide +kernel
theorem dX7_firstOf_12 : decode cX7_firstOf 12 = .ok (.land, 1) := by decide +kernel
theorem dX7_firstOf_13 : decode cX7_firstOf 13 = .ok (.lconst 0, 1) := by decide +kernel
theorem dX7_firstOf_14 : decode cX7_firstOf 14 = .ok (.lcmp, 1) := by decide +kernel
theorem dX7_firstOf_15 : decode cX7_firstOf 15 = .ok (.ifCond .ne 9, 3) := by decide +kernel
theorem dX7_firstOf_18 : decode cX7_firstOf 18 = .ok (.iinc 2 1, 3) := by decide +kernel
theorem dX7_firstOf_21 : decode cX7_firstOf 21 = .ok (.goto (-19), 3) := by decide +kernel
theorem dX7_firstOf_24 : decode cX7_firstOf 24 = .ok (.iload_n 2, 1) := by decide +kernel
theorem dX7_firstOf_25 : decode cX7_firstOf 25 = .ok (.bipush 48, 2) := by decide +kernel
theorem dX7_firstOf_27 : decode cX7_firstOf 27 = .ok (.if_icmp .ge 7, 3) := by decide +kernel
theorem dX7_firstOf_30 : decode cX7_firstOf 30 = .ok (.iload_n 2, 1) := by decide +kernel
theorem dX7_firstOf_31 : decode cX7_firstOf 31 = .ok (.goto 4, 3) := by decide +kernel
theorem dX7_firstOf_34 : decode cX7_firstOf 34 = .ok (.iconst (-1), 1) := by decide +kernel
theorem dX7_firstOf_35 : decode cX7_firstOf 35 = .ok (.ireturn, 1) := by decide +kernel
theorem dX7_watched_0 : decode cX7_watched 0 = .ok (.iload_n 1, 1) := by decide +kernel
theorem dX7_watched_1 : decode cX7_watched 1 = .ok (.i2l, 1) := by decide +kernel
theorem dX7_watched_2 : decode cX7_watched 2 = .ok (.lconst 0, 1) := by decide +kernel
theorem dX7_watched_3 : decode cX7_watched 3 = .ok (.ldc2_w 159, 3) := by decide +kernel
theorem dX7_watched_6 : decode cX7_watched 6 = .ok (.invokestatic 69, 3) := by decide +kernel
theorem dX7_watched_9 : decode cX7_watched 9 = .ok (.ifCond .ne 6, 3) := by decide +kernel
theorem dX7_watched_12 : decode cX7_watched 12 = .ok (.ldc 161, 2) := by decide +kernel
theorem dX7_watched_14 : decode cX7_watched 14 = .ok (.ireturn, 1) := by decide +kernel
theorem dX7_watched_15 : decode cX7_watched 15 = .ok (.iload_n 1, 1) := by decide +kernel
theorem dX7_watched_16 : decode cX7_watched 16 = .ok (.iconst 1, 1) := by decide +kernel
theorem dX7_watched_17 : decode cX7_watched 17 = .ok (.if_icmp .eq 8, 3) := by decide +kernel
theorem dX7_watched_20 : decode cX7_watched 20 = .ok (.iload_n 1, 1) := by decide +kernel
theorem dX7_watched_21 : decode cX7_watched 21 = .ok (.iconst 2, 1) := by decide +kernel
theorem dX7_watched_22 : decode cX7_watched 22 = .ok (.if_icmp .ne 29, 3) := by decide +kernel
theorem dX7_watched_25 : decode cX7_watched 25 = .ok (.iload_n 1, 1) := by decide +kernel
theorem dX7_watched_26 : decode cX7_watched 26 = .ok (.iconst 1, 1) := by decide +kernel
theorem dX7_watched_27 : decode cX7_watched 27 = .ok (.if_icmp .ne 13, 3) := by decide +kernel
theorem dX7_watched_30 : decode cX7_watched 30 = .ok (.aload_n 0, 1) := by decide +kernel
theorem dX7_watched_31 : decode cX7_watched 31 = .ok (.invokevirtual 213, 3) := by decide +kernel
theorem dX7_watched_34 : decode cX7_watched 34 = .ok (.invokestatic 176, 3) := by decide +kernel
theorem dX7_watched_37 : decode cX7_watched 37 = .ok (.goto 13, 3) := by decide +kernel
theorem dX7_watched_40 : decode cX7_watched 40 = .ok (.aload_n 0, 1) := by decide +kernel
theorem dX7_watched_41 : decode cX7_watched 41 = .ok (.invokevirtual 213, 3) := by decide +kernel
theorem dX7_watched_44 : decode cX7_watched 44 = .ok (.invokestatic 217, 3) := by decide +kernel
theorem dX7_watched_47 : decode cX7_watched 47 = .ok (.invokestatic 195, 3) := by decide +kernel
theorem dX7_watched_50 : decode cX7_watched 50 = .ok (.ireturn, 1) := by decide +kernel
theorem dX7_watched_51 : decode cX7_watched 51 = .ok (.aload_n 0, 1) := by decide +kernel
theorem dX7_watched_52 : decode cX7_watched 52 = .ok (.iload_n 1, 1) := by decide +kernel
theorem dX7_watched_53 : decode cX7_watched 53 = .ok (.ifCond .ne 10, 3) := by decide +kernel
theorem dX7_watched_56 : decode cX7_watched 56 = .ok (.aload_n 0, 1) := by decide +kernel
theorem dX7_watched_57 : decode cX7_watched 57 = .ok (.invokevirtual 139, 3) := by decide +kernel
theorem dX7_watched_60 : decode cX7_watched 60 = .ok (.goto 7, 3) := by decide +kernel
theorem dX7_watched_63 : decode cX7_watched 63 = .ok (.aload_n 0, 1) := by decide +kernel
theorem dX7_watched_64 : decode cX7_watched 64 = .ok (.invokevirtual 220, 3) := by decide +kernel
theorem dX7_watched_67 : decode cX7_watched 67 = .ok (.invokevirtual 143, 3) := by decide +kernel
theorem dX7_watched_70 : decode cX7_watched 70 = .ok (.invokestatic 176, 3) := by decide +kernel
theorem dX7_watched_73 : decode cX7_watched 73 = .ok (.ireturn, 1) := by decide +kernel
theorem dX7_spare_0 : decode cX7_spare 0 = .ok (.aload_n 0, 1) := by decide +kernel
theorem dX7_spare_1 : decode cX7_spare 1 = .ok (.iload_n 1, 1) := by decide +kernel
theorem dX7_spare_2 : decode cX7_spare 2 = .ok (.invokevirtual 171, 3) := by decide +kernel
theorem dX7_spare_5 : decode cX7_spare 5 = .ok (.ifCond .ne 6, 3) := by decide +kernel
theorem dX7_spare_8 : decode cX7_spare 8 = .ok (.ldc 161, 2) := by decide +kernel
theorem dX7_spare_10 : decode cX7_spare 10 = .ok (.ireturn, 1) := by decide +kernel
theorem dX7_spare_11 : decode cX7_spare 11 = .ok (.aload_n 0, 1) := by decide +kernel
theorem dX7_spare_12 : decode cX7_spare 12 = .ok (.iload_n 1, 1) := by decide +kernel
theorem dX7_spare_13 : decode cX7_spare 13 = .ok (.invokevirtual 132, 3) := by decide +kernel
theorem dX7_spare_16 : decode cX7_spare 16 = .ok (.aload_n 0, 1) := by decide +kernel
theorem dX7_spare_17 : decode cX7_spare 17 = .ok (.aload_n 0, 1) := by decide +kernel
theorem dX7_spare_18 : decode cX7_spare 18 = .ok (.invokevirtual 139, 3) := by decide +kernel
theorem dX7_spare_21 : decode cX7_spare 21 = .ok (.iconst 1, 1) := by decide +kernel
theorem dX7_spare_22 : decode cX7_spare 22 = .ok (.iload_n 1, 1) := by decide +kernel
theorem dX7_spare_23 : decode cX7_spare 23 = .ok (.ishl, 1) := by decide +kernel
theorem dX7_spare_24 : decode cX7_spare 24 = .ok (.iconst (-1), 1) := by decide +kernel
theorem dX7_spare_25 : decode cX7_spare 25 = .ok (.ixor, 1) := by decide +kernel
theorem dX7_spare_26 : decode cX7_spare 26 = .ok (.iand, 1) := by decide +kernel
theorem dX7_spare_27 : decode cX7_spare 27 = .ok (.invokevirtual 143, 3) := by decide +kernel
theorem dX7_spare_30 : decode cX7_spare 30 = .ok (.ldc2_w 146, 3) := by decide +kernel
theorem dX7_spare_33 : decode cX7_spare 33 = .ok (.lxor, 1) := by decide +kernel
theorem dX7_spare_34 : decode cX7_spare 34 = .ok (.land, 1) := by decide +kernel
theorem dX7_spare_35 : decode cX7_spare 35 = .ok (.lconst 0, 1) := by decide +kernel
theorem dX7_spare_36 : decode cX7_spare 36 = .ok (.lcmp, 1) := by decide +kernel
theorem dX7_spare_37 : decode cX7_spare 37 = .ok (.ifCond .ne 7, 3) := by decide +kernel
theorem dX7_spare_40 : decode cX7_spare 40 = .ok (.iconst 1, 1) := by decide +kernel
theorem dX7_spare_41 : decode cX7_spare 41 = .ok (.goto 4, 3) := by decide +kernel
theorem dX7_spare_44 : decode cX7_spare 44 = .ok (.iconst 0, 1) := by decide +kernel
theorem dX7_spare_45 : decode cX7_spare 45 = .ok (.ireturn, 1) := by decide +kernel
theorem dX7_together_0 : decode cX7_together 0 = .ok (.lconst 0, 1) := by decide +kernel
theorem dX7_together_1 : decode cX7_together 1 = .ok (.lstore_n 2, 1) := by decide +kernel
theorem dX7_together_2 : decode cX7_together 2 = .ok (.iconst 0, 1) := by decide +kernel
theorem dX7_together_3 : decode cX7_together 3 = .ok (.istore 4, 2) := by decide +kernel
theorem dX7_together_5 : decode cX7_together 5 = .ok (.iload 4, 2) := by decide +kernel
theorem dX7_together_7 : decode cX7_together 7 = .ok (.aload_n 0, 1) := by decide +kernel
theorem dX7_together_8 : decode cX7_together 8 = .ok (.getfield 7, 3) := by decide +kernel
theorem dX7_together_11 : decode cX7_together 11 = .ok (.iconst 0, 1) := by decide +kernel
theorem dX7_together_12 : decode cX7_together 12 = .ok (.iaload, 1) := by decide +kernel
theorem dX7_together_13 : decode cX7_together 13 = .ok (.if_icmp .ge 33, 3) := by decide +kernel
theorem dX7_together_16 : decode cX7_together 16 = .ok (.lload_n 2, 1) := by decide +kernel
theorem dX7_together_17 : decode cX7_together 17 = .ok (.iload_n 1, 1) := by decide +kernel
theorem dX7_together_18 : decode cX7_together 18 = .ok (.iload 4, 2) := by decide +kernel
theorem dX7_together_20 : decode cX7_together 20 = .ok (.ishr, 1) := by decide +kernel
theorem dX7_together_21 : decode cX7_together 21 = .ok (.iconst 1, 1) := by decide +kernel
theorem dX7_together_22 : decode cX7_together 22 = .ok (.iand, 1) := by decide +kernel
theorem dX7_together_23 : decode cX7_together 23 = .ok (.iconst 1, 1) := by decide +kernel
theorem dX7_together_24 : decode cX7_together 24 = .ok (.if_icmp .ne 13, 3) := by decide +kernel
theorem dX7_together_27 : decode cX7_together 27 = .ok (.aload_n 0, 1) := by decide +kernel
theorem dX7_together_28 : decode cX7_together 28 = .ok (.getfield 43, 3) := by decide +kernel
theorem dX7_together_31 : decode cX7_together 31 = .ok (.iload 4, 2) := by decide +kernel
theorem dX7_together_33 : decode cX7_together 33 = .ok (.laload, 1) := by decide +kernel
theorem dX7_together_34 : decode cX7_together 34 = .ok (.goto 4, 3) := by decide +kernel
theorem dX7_together_37 : decode cX7_together 37 = .ok (.lconst 0, 1) := by decide +kernel
theorem dX7_together_38 : decode cX7_together 38 = .ok (.lor, 1) := by decide +kernel
theorem dX7_together_39 : decode cX7_together 39 = .ok (.lstore_n 2, 1) := by decide +kernel
theorem dX7_together_40 : decode cX7_together 40 = .ok (.iinc 4 1, 3) := by decide +kernel
theorem dX7_together_43 : decode cX7_together 43 = .ok (.goto (-38), 3) := by decide +kernel
theorem dX7_together_46 : decode cX7_together 46 = .ok (.lload_n 2, 1) := by decide +kernel
theorem dX7_together_47 : decode cX7_together 47 = .ok (.lreturn, 1) := by decide +kernel
theorem dX7_fewest_0 : decode cX7_fewest 0 = .ok (.iload_n 1, 1) := by decide +kernel
theorem dX7_fewest_1 : decode cX7_fewest 1 = .ok (.i2l, 1) := by decide +kernel
theorem dX7_fewest_2 : decode cX7_fewest 2 = .ok (.lconst 0, 1) := by decide +kernel
theorem dX7_fewest_3 : decode cX7_fewest 3 = .ok (.lconst 1, 1) := by decide +kernel
theorem dX7_fewest_4 : decode cX7_fewest 4 = .ok (.invokestatic 69, 3) := by decide +kernel
theorem dX7_fewest_7 : decode cX7_fewest 7 = .ok (.ifCond .ne 6, 3) := by decide +kernel
theorem dX7_fewest_10 : decode cX7_fewest 10 = .ok (.ldc 161, 2) := by decide +kernel
theorem dX7_fewest_12 : decode cX7_fewest 12 = .ok (.ireturn, 1) := by decide +kernel
theorem dX7_fewest_13 : decode cX7_fewest 13 = .ok (.iconst 0, 1) := by decide +kernel
theorem dX7_fewest_14 : decode cX7_fewest 14 = .ok (.istore_n 2, 1) := by decide +kernel
theorem dX7_fewest_15 : decode cX7_fewest 15 = .ok (.iload_n 2, 1) := by decide +kernel
theorem dX7_fewest_16 : decode cX7_fewest 16 = .ok (.aload_n 0, 1) := by decide +kernel
theorem dX7_fewest_17 : decode cX7_fewest 17 = .ok (.getfield 7, 3) := by decide +kernel
theorem dX7_fewest_20 : decode cX7_fewest 20 = .ok (.iconst 0, 1) := by decide +kernel
theorem dX7_fewest_21 : decode cX7_fewest 21 = .ok (.iaload, 1) := by decide +kernel
theorem dX7_fewest_22 : decode cX7_fewest 22 = .ok (.if_icmp .ge 20, 3) := by decide +kernel
theorem dX7_fewest_25 : decode cX7_fewest 25 = .ok (.aload_n 0, 1) := by decide +kernel
theorem dX7_fewest_26 : decode cX7_fewest 26 = .ok (.getfield 43, 3) := by decide +kernel
theorem dX7_fewest_29 : decode cX7_fewest 29 = .ok (.iload_n 2, 1) := by decide +kernel
theorem dX7_fewest_30 : decode cX7_fewest 30 = .ok (.aload_n 0, 1) := by decide +kernel
theorem dX7_fewest_31 : decode cX7_fewest 31 = .ok (.iload_n 2, 1) := by decide +kernel
theorem dX7_fewest_32 : decode cX7_fewest 32 = .ok (.invokevirtual 132, 3) := by decide +kernel
theorem dX7_fewest_35 : decode cX7_fewest 35 = .ok (.lastore, 1) := by decide +kernel
theorem dX7_fewest_36 : decode cX7_fewest 36 = .ok (.iinc 2 1, 3) := by decide +kernel
theorem dX7_fewest_39 : decode cX7_fewest 39 = .ok (.goto (-24), 3) := by decide +kernel
theorem dX7_fewest_42 : decode cX7_fewest 42 = .ok (.aload_n 0, 1) := by decide +kernel
theorem dX7_fewest_43 : decode cX7_fewest 43 = .ok (.aload_n 0, 1) := by decide +kernel
theorem dX7_fewest_44 : decode cX7_fewest 44 = .ok (.invokevirtual 139, 3) := by decide +kernel
theorem dX7_fewest_47 : decode cX7_fewest 47 = .ok (.invokevirtual 223, 3) := by decide +kernel
theorem dX7_fewest_50 : decode cX7_fewest 50 = .ok (.lstore_n 2, 1) := by decide +kernel
theorem dX7_fewest_51 : decode cX7_fewest 51 = .ok (.iconst 0, 1) := by decide +kernel
theorem dX7_fewest_52 : decode cX7_fewest 52 = .ok (.istore 4, 2) := by decide +kernel
theorem dX7_fewest_54 : decode cX7_fewest 54 = .ok (.bipush 9, 2) := by decide +kernel
theorem dX7_fewest_56 : decode cX7_fewest 56 = .ok (.istore 5, 2) := by decide +kernel
theorem dX7_fewest_58 : decode cX7_fewest 58 = .ok (.iconst 0, 1) := by decide +kernel
theorem dX7_fewest_59 : decode cX7_fewest 59 = .ok (.istore 6, 2) := by decide +kernel
theorem dX7_fewest_61 : decode cX7_fewest 61 = .ok (.iload 6, 2) := by decide +kernel
theorem dX7_fewest_63 : decode cX7_fewest 63 = .ok (.aload_n 0, 1) := by decide +kernel
theorem dX7_fewest_64 : decode cX7_fewest 64 = .ok (.invokevirtual 139, 3) := by decide +kernel
theorem dX7_fewest_67 : decode cX7_fewest 67 = .ok (.if_icmp .gt 43, 3) := by decide +kernel
theorem dX7_fewest_70 : decode cX7_fewest 70 = .ok (.iload 6, 2) := by decide +kernel
theorem dX7_fewest_72 : decode cX7_fewest 72 = .ok (.i2l, 1) := by decide +kernel
theorem dX7_fewest_73 : decode cX7_fewest 73 = .ok (.invokestatic 176, 3) := by decide +kernel
theorem dX7_fewest_76 : decode cX7_fewest 76 = .ok (.iload 5, 2) := by decide +kernel
theorem dX7_fewest_78 : decode cX7_fewest 78 = .ok (.if_icmp .ge 26, 3) := by decide +kernel
theorem dX7_fewest_81 : decode cX7_fewest 81 = .ok (.aload_n 0, 1) := by decide +kernel
theorem dX7_fewest_82 : decode cX7_fewest 82 = .ok (.iload 6, 2) := by decide +kernel
theorem dX7_fewest_84 : decode cX7_fewest 84 = .ok (.invokevirtual 223, 3) := by decide +kernel
theorem dX7_fewest_87 : decode cX7_fewest 87 = .ok (.lload_n 2, 1) := by decide +kernel
theorem dX7_fewest_88 : decode cX7_fewest 88 = .ok (.lcmp, 1) := by decide +kernel
theorem dX7_fewest_89 : decode cX7_fewest 89 = .ok (.ifCond .ne 15, 3) := by decide +kernel
theorem dX7_fewest_92 : decode cX7_fewest 92 = .ok (.iload 6, 2) := by decide +kernel
theorem dX7_fewest_94 : decode cX7_fewest 94 = .ok (.istore 4, 2) := by decide +kernel
theorem dX7_fewest_96 : decode cX7_fewest 96 = .ok (.iload 6, 2) := by decide +kernel
theorem dX7_fewest_98 : decode cX7_fewest 98 = .ok (.i2l, 1) := by decide +kernel
theorem dX7_fewest_99 : decode cX7_fewest 99 = .ok (.invokestatic 176, 3) := by decide +kernel
theorem dX7_fewest_102 : decode cX7_fewest 102 = .ok (.istore 5, 2) := by decide +kernel
theorem dX7_fewest_104 : decode cX7_fewest 104 = .ok (.iinc 6 1, 3) := by decide +kernel
theorem dX7_fewest_107 : decode cX7_fewest 107 = .ok (.goto (-46), 3) := by decide +kernel
theorem dX7_fewest_110 : decode cX7_fewest 110 = .ok (.iload_n 1, 1) := by decide +kernel
theorem dX7_fewest_111 : decode cX7_fewest 111 = .ok (.ifCond .ne 8, 3) := by decide +kernel
theorem dX7_fewest_114 : decode cX7_fewest 114 = .ok (.iload 4, 2) := by decide +kernel
theorem dX7_fewest_116 : decode cX7_fewest 116 = .ok (.goto 5, 3) := by decide +kernel
theorem dX7_fewest_119 : decode cX7_fewest 119 = .ok (.iload 5, 2) := by decide +kernel
theorem dX7_fewest_121 : decode cX7_fewest 121 = .ok (.ireturn, 1) := by decide +kernel
theorem dX7_stand_0 : decode cX7_stand 0 = .ok (.iload_n 1, 1) := by decide +kernel
theorem dX7_stand_1 : decode cX7_stand 1 = .ok (.i2l, 1) := by decide +kernel
theorem dX7_stand_2 : decode cX7_stand 2 = .ok (.lconst 0, 1) := by decide +kernel
theorem dX7_stand_3 : decode cX7_stand 3 = .ok (.ldc2_w 154, 3) := by decide +kernel
theorem dX7_stand_6 : decode cX7_stand 6 = .ok (.invokestatic 69, 3) := by decide +kernel
theorem dX7_stand_9 : decode cX7_stand 9 = .ok (.ifCond .eq 25, 3) := by decide +kernel
theorem dX7_stand_12 : decode cX7_stand 12 = .ok (.iload_n 2, 1) := by decide +kernel
theorem dX7_stand_13 : decode cX7_stand 13 = .ok (.i2l, 1) := by decide +kernel
theorem dX7_stand_14 : decode cX7_stand 14 = .ok (.lconst 0, 1) := by decide +kernel
theorem dX7_stand_15 : decode cX7_stand 15 = .ok (.ldc2_w 159, 3) := by decide +kernel
theorem dX7_stand_18 : decode cX7_stand 18 = .ok (.invokestatic 69, 3) := by decide +kernel
theorem dX7_stand_21 : decode cX7_stand 21 = .ok (.ifCond .eq 13, 3) := by decide +kernel
theorem dX7_stand_24 : decode cX7_stand 24 = .ok (.iload_n 3, 1) := by decide +kernel
theorem dX7_stand_25 : decode cX7_stand 25 = .ok (.i2l, 1) := by decide +kernel
theorem dX7_stand_26 : decode cX7_stand 26 = .ok (.lconst 0, 1) := by decide +kernel
theorem dX7_stand_27 : decode cX7_stand 27 = .ok (.lconst 1, 1) := by decide +kernel
theorem dX7_stand_28 : decode cX7_stand 28 = .ok (.invokestatic 69, 3) := by decide +kernel
theorem dX7_stand_31 : decode cX7_stand 31 = .ok (.ifCond .ne 6, 3) := by decide +kernel
theorem dX7_stand_34 : decode cX7_stand 34 = .ok (.ldc 161, 2) := by decide +kernel
theorem dX7_stand_36 : decode cX7_stand 36 = .ok (.ireturn, 1) := by decide +kernel
theorem dX7_stand_37 : decode cX7_stand 37 = .ok (.aload_n 0, 1) := by decide +kernel
theorem dX7_stand_38 : decode cX7_stand 38 = .ok (.getfield 7, 3) := by decide +kernel
theorem dX7_stand_41 : decode cX7_stand 41 = .ok (.iconst 0, 1) := by decide +kernel
theorem dX7_stand_42 : decode cX7_stand 42 = .ok (.iaload, 1) := by decide +kernel
theorem dX7_stand_43 : decode cX7_stand 43 = .ok (.bipush 8, 2) := by decide +kernel
theorem dX7_stand_45 : decode cX7_stand 45 = .ok (.if_icmp .ne 6, 3) := by decide +kernel
theorem dX7_stand_48 : decode cX7_stand 48 = .ok (.ldc 166, 2) := by decide +kernel
theorem dX7_stand_50 : decode cX7_stand 50 = .ok (.ireturn, 1) := by decide +kernel
theorem dX7_stand_51 : decode cX7_stand 51 = .ok (.aload_n 0, 1) := by decide +kernel
theorem dX7_stand_52 : decode cX7_stand 52 = .ok (.aload_n 0, 1) := by decide +kernel
theorem dX7_stand_53 : decode cX7_stand 53 = .ok (.invokevirtual 139, 3) := by decide +kernel
theorem dX7_stand_56 : decode cX7_stand 56 = .ok (.invokevirtual 143, 3) := by decide +kernel
theorem dX7_stand_59 : decode cX7_stand 59 = .ok (.lstore 4, 2) := by decide +kernel
theorem dX7_stand_61 : decode cX7_stand 61 = .ok (.aload_n 0, 1) := by decide +kernel
theorem dX7_stand_62 : decode cX7_stand 62 = .ok (.iload_n 1, 1) := by decide +kernel
theorem dX7_stand_63 : decode cX7_stand 63 = .ok (.iload_n 2, 1) := by decide +kernel
theorem dX7_stand_64 : decode cX7_stand 64 = .ok (.iconst 0, 1) := by decide +kernel
theorem dX7_stand_65 : decode cX7_stand 65 = .ok (.invokevirtual 118, 3) := by decide +kernel
theorem dX7_stand_68 : decode cX7_stand 68 = .ok (.istore 6, 2) := by decide +kernel
theorem dX7_stand_70 : decode cX7_stand 70 = .ok (.iconst (-1), 1) := by decide +kernel
theorem dX7_stand_71 : decode cX7_stand 71 = .ok (.istore 7, 2) := by decide +kernel
theorem dX7_stand_73 : decode cX7_stand 73 = .ok (.iconst (-1), 1) := by decide +kernel
theorem dX7_stand_74 : decode cX7_stand 74 = .ok (.istore 8, 2) := by decide +kernel
theorem dX7_stand_76 : decode cX7_stand 76 = .ok (.iconst 0, 1) := by decide +kernel
theorem dX7_stand_77 : decode cX7_stand 77 = .ok (.istore 9, 2) := by decide +kernel
theorem dX7_stand_79 : decode cX7_stand 79 = .ok (.iload 9, 2) := by decide +kernel
theorem dX7_stand_81 : decode cX7_stand 81 = .ok (.bipush 48, 2) := by decide +kernel
theorem dX7_stand_83 : decode cX7_stand 83 = .ok (.if_icmp .ge 76, 3) := by decide +kernel
theorem dX7_stand_86 : decode cX7_stand 86 = .ok (.aload_n 0, 1) := by decide +kernel
theorem dX7_stand_87 : decode cX7_stand 87 = .ok (.iload 9, 2) := by decide +kernel
theorem dX7_stand_89 : decode cX7_stand 89 = .ok (.invokevirtual 162, 3) := by decide +kernel
theorem dX7_stand_92 : decode cX7_stand 92 = .ok (.ifCond .eq 26, 3) := by decide +kernel
theorem dX7_stand_95 : decode cX7_stand 95 = .ok (.aload_n 0, 1) := by decide +kernel
theorem dX7_stand_96 : decode cX7_stand 96 = .ok (.iload_n 1, 1) := by decide +kernel
theorem dX7_stand_97 : decode cX7_stand 97 = .ok (.iload 9, 2) := by decide +kernel
theorem dX7_stand_99 : decode cX7_stand 99 = .ok (.iload_n 2, 1) := by decide +kernel
theorem dX7_stand_100 : decode cX7_stand 100 = .ok (.iload 6, 2) := by decide +kernel
theorem dX7_stand_102 : decode cX7_stand 102 = .ok (.invokevirtual 128, 3) := by decide +kernel
theorem dX7_stand_105 : decode cX7_stand 105 = .ok (.lload 4, 2) := by decide +kernel
theorem dX7_stand_107 : decode cX7_stand 107 = .ok (.ldc2_w 146, 3) := by decide +kernel
theorem dX7_stand_110 : decode cX7_stand 110 = .ok (.lxor, 1) := by decide +kernel
theorem dX7_stand_111 : decode cX7_stand 111 = .ok (.land, 1) := by decide +kernel
theorem dX7_stand_112 : decode cX7_stand 112 = .ok (.invokestatic 176, 3) := by decide +kernel
theorem dX7_stand_115 : decode cX7_stand 115 = .ok (.goto 4, 3) := by decide +kernel
theorem dX7_stand_118 : decode cX7_stand 118 = .ok (.iconst (-1), 1) := by decide +kernel
theorem dX7_stand_119 : decode cX7_stand 119 = .ok (.istore 10, 2) := by decide +kernel
theorem dX7_stand_121 : decode cX7_stand 121 = .ok (.iload 10, 2) := by decide +kernel
theorem dX7_stand_123 : decode cX7_stand 123 = .ok (.iload 8, 2) := by decide +kernel
theorem dX7_stand_125 : decode cX7_stand 125 = .ok (.if_icmp .le 8, 3) := by decide +kernel
theorem dX7_stand_128 : decode cX7_stand 128 = .ok (.iload 9, 2) := by decide +kernel
theorem dX7_stand_130 : decode cX7_stand 130 = .ok (.goto 5, 3) := by decide +kernel
theorem dX7_stand_133 : decode cX7_stand 133 = .ok (.iload 7, 2) := by decide +kernel
theorem dX7_stand_135 : decode cX7_stand 135 = .ok (.istore 7, 2) := by decide +kernel
theorem dX7_stand_137 : decode cX7_stand 137 = .ok (.iload 10, 2) := by decide +kernel
theorem dX7_stand_139 : decode cX7_stand 139 = .ok (.iload 8, 2) := by decide +kernel
theorem dX7_stand_141 : decode cX7_stand 141 = .ok (.if_icmp .le 8, 3) := by decide +kernel
theorem dX7_stand_144 : decode cX7_stand 144 = .ok (.iload 10, 2) := by decide +kernel
theorem dX7_stand_146 : decode cX7_stand 146 = .ok (.goto 5, 3) := by decide +kernel
theorem dX7_stand_149 : decode cX7_stand 149 = .ok (.iload 8, 2) := by decide +kernel
theorem dX7_stand_151 : decode cX7_stand 151 = .ok (.istore 8, 2) := by decide +kernel
theorem dX7_stand_153 : decode cX7_stand 153 = .ok (.iinc 9 1, 3) := by decide +kernel
theorem dX7_stand_156 : decode cX7_stand 156 = .ok (.goto (-77), 3) := by decide +kernel
theorem dX7_stand_159 : decode cX7_stand 159 = .ok (.iload 7, 2) := by decide +kernel
theorem dX7_stand_161 : decode cX7_stand 161 = .ok (.ifCond .ge 8, 3) := by decide +kernel
theorem dX7_stand_164 : decode cX7_stand 164 = .ok (.ldc 68, 2) := by decide +kernel
theorem dX7_stand_166 : decode cX7_stand 166 = .ok (.goto 14, 3) := by decide +kernel
theorem dX7_stand_169 : decode cX7_stand 169 = .ok (.iload_n 3, 1) := by decide +kernel
theorem dX7_stand_170 : decode cX7_stand 170 = .ok (.ifCond .ne 8, 3) := by decide +kernel
theorem dX7_stand_173 : decode cX7_stand 173 = .ok (.iload 7, 2) := by decide +kernel
theorem dX7_stand_175 : decode cX7_stand 175 = .ok (.goto 5, 3) := by decide +kernel
theorem dX7_stand_178 : decode cX7_stand 178 = .ok (.iload 8, 2) := by decide +kernel
theorem dX7_stand_180 : decode cX7_stand 180 = .ok (.ireturn, 1) := by decide +kernel
theorem dX7_beside_0 : decode cX7_beside 0 = .ok (.lconst 0, 1) := by decide +kernel
theorem dX7_beside_1 : decode cX7_beside 1 = .ok (.lstore_n 2, 1) := by decide +kernel
theorem dX7_beside_2 : decode cX7_beside 2 = .ok (.lconst 0, 1) := by decide +kernel
theorem dX7_beside_3 : decode cX7_beside 3 = .ok (.lstore 4, 2) := by decide +kernel
theorem dX7_beside_5 : decode cX7_beside 5 = .ok (.iconst 0, 1) := by decide +kernel
theorem dX7_beside_6 : decode cX7_beside 6 = .ok (.istore 6, 2) := by decide +kernel
theorem dX7_beside_8 : decode cX7_beside 8 = .ok (.iload 6, 2) := by decide +kernel
theorem dX7_beside_10 : decode cX7_beside 10 = .ok (.bipush 6, 2) := by decide +kernel
theorem dX7_beside_12 : decode cX7_beside 12 = .ok (.if_icmp .ge 36, 3) := by decide +kernel
theorem dX7_beside_15 : decode cX7_beside 15 = .ok (.lload_n 2, 1) := by decide +kernel
theorem dX7_beside_16 : decode cX7_beside 16 = .ok (.lconst 1, 1) := by decide +kernel
theorem dX7_beside_17 : decode cX7_beside 17 = .ok (.bipush 8, 2) := by decide +kernel
theorem dX7_beside_19 : decode cX7_beside 19 = .ok (.iload 6, 2) := by decide +kernel
theorem dX7_beside_21 : decode cX7_beside 21 = .ok (.imul, 1) := by decide +kernel
theorem dX7_beside_22 : decode cX7_beside 22 = .ok (.lshl, 1) := by decide +kernel
theorem dX7_beside_23 : decode cX7_beside 23 = .ok (.lor, 1) := by decide +kernel
theorem dX7_beside_24 : decode cX7_beside 24 = .ok (.lstore_n 2, 1) := by decide +kernel
theorem dX7_beside_25 : decode cX7_beside 25 = .ok (.lload 4, 2) := by decide +kernel
theorem dX7_beside_27 : decode cX7_beside 27 = .ok (.lconst 1, 1) := by decide +kernel
theorem dX7_beside_28 : decode cX7_beside 28 = .ok (.bipush 8, 2) := by decide +kernel
theorem dX7_beside_30 : decode cX7_beside 30 = .ok (.iload 6, 2) := by decide +kernel
theorem dX7_beside_32 : decode cX7_beside 32 = .ok (.imul, 1) := by decide +kernel
theorem dX7_beside_33 : decode cX7_beside 33 = .ok (.bipush 8, 2) := by decide +kernel
theorem dX7_beside_35 : decode cX7_beside 35 = .ok (.iadd, 1) := by decide +kernel
theorem dX7_beside_36 : decode cX7_beside 36 = .ok (.iconst 1, 1) := by decide +kernel
theorem dX7_beside_37 : decode cX7_beside 37 = .ok (.isub, 1) := by decide +kernel
theorem dX7_beside_38 : decode cX7_beside 38 = .ok (.lshl, 1) := by decide +kernel
theorem dX7_beside_39 : decode cX7_beside 39 = .ok (.lor, 1) := by decide +kernel
theorem dX7_beside_40 : decode cX7_beside 40 = .ok (.lstore 4, 2) := by decide +kernel
theorem dX7_beside_42 : decode cX7_beside 42 = .ok (.iinc 6 1, 3) := by decide +kernel
theorem dX7_beside_45 : decode cX7_beside 45 = .ok (.goto (-37), 3) := by decide +kernel
theorem dX7_beside_48 : decode cX7_beside 48 = .ok (.lload_n 0, 1) := by decide +kernel
theorem dX7_beside_49 : decode cX7_beside 49 = .ok (.bipush 8, 2) := by decide +kernel
theorem dX7_beside_51 : decode cX7_beside 51 = .ok (.lshl, 1) := by decide +kernel
theorem dX7_beside_52 : decode cX7_beside 52 = .ok (.lload_n 0, 1) := by decide +kernel
theorem dX7_beside_53 : decode cX7_beside 53 = .ok (.bipush 8, 2) := by decide +kernel
theorem dX7_beside_55 : decode cX7_beside 55 = .ok (.lshr, 1) := by decide +kernel
theorem dX7_beside_56 : decode cX7_beside 56 = .ok (.lor, 1) := by decide +kernel
theorem dX7_beside_57 : decode cX7_beside 57 = .ok (.lload_n 0, 1) := by decide +kernel
theorem dX7_beside_58 : decode cX7_beside 58 = .ok (.lload 4, 2) := by decide +kernel
theorem dX7_beside_60 : decode cX7_beside 60 = .ok (.ldc2_w 146, 3) := by decide +kernel
theorem dX7_beside_63 : decode cX7_beside 63 = .ok (.lxor, 1) := by decide +kernel
theorem dX7_beside_64 : decode cX7_beside 64 = .ok (.land, 1) := by decide +kernel
theorem dX7_beside_65 : decode cX7_beside 65 = .ok (.iconst 1, 1) := by decide +kernel
theorem dX7_beside_66 : decode cX7_beside 66 = .ok (.lshl, 1) := by decide +kernel
theorem dX7_beside_67 : decode cX7_beside 67 = .ok (.lor, 1) := by decide +kernel
theorem dX7_beside_68 : decode cX7_beside 68 = .ok (.lload_n 0, 1) := by decide +kernel
theorem dX7_beside_69 : decode cX7_beside 69 = .ok (.lload_n 2, 1) := by decide +kernel
theorem dX7_beside_70 : decode cX7_beside 70 = .ok (.ldc2_w 146, 3) := by decide +kernel
theorem dX7_beside_73 : decode cX7_beside 73 = .ok (.lxor, 1) := by decide +kernel
theorem dX7_beside_74 : decode cX7_beside 74 = .ok (.land, 1) := by decide +kernel
theorem dX7_beside_75 : decode cX7_beside 75 = .ok (.iconst 1, 1) := by decide +kernel
theorem dX7_beside_76 : decode cX7_beside 76 = .ok (.lshr, 1) := by decide +kernel
theorem dX7_beside_77 : decode cX7_beside 77 = .ok (.lor, 1) := by decide +kernel
theorem dX7_beside_78 : decode cX7_beside 78 = .ok (.lreturn, 1) := by decide +kernel
theorem dX7_sneak_0 : decode cX7_sneak 0 = .ok (.iload_n 1, 1) := by decide +kernel
theorem dX7_sneak_1 : decode cX7_sneak 1 = .ok (.invokestatic 156, 3) := by decide +kernel
theorem dX7_sneak_4 : decode cX7_sneak 4 = .ok (.ifCond .eq 10, 3) := by decide +kernel
theorem dX7_sneak_7 : decode cX7_sneak 7 = .ok (.iload_n 2, 1) := by decide +kernel
theorem dX7_sneak_8 : decode cX7_sneak 8 = .ok (.invokestatic 156, 3) := by decide +kernel
theorem dX7_sneak_11 : decode cX7_sneak 11 = .ok (.ifCond .ne 6, 3) := by decide +kernel
theorem dX7_sneak_14 : decode cX7_sneak 14 = .ok (.ldc 161, 2) := by decide +kernel
theorem dX7_sneak_16 : decode cX7_sneak 16 = .ok (.ireturn, 1) := by decide +kernel
theorem dX7_sneak_17 : decode cX7_sneak 17 = .ok (.aload_n 0, 1) := by decide +kernel
theorem dX7_sneak_18 : decode cX7_sneak 18 = .ok (.invokevirtual 213, 3) := by decide +kernel
theorem dX7_sneak_21 : decode cX7_sneak 21 = .ok (.lstore_n 3, 1) := by decide +kernel
theorem dX7_sneak_22 : decode cX7_sneak 22 = .ok (.lload_n 3, 1) := by decide +kernel
theorem dX7_sneak_23 : decode cX7_sneak 23 = .ok (.lconst 1, 1) := by decide +kernel
theorem dX7_sneak_24 : decode cX7_sneak 24 = .ok (.iload_n 1, 1) := by decide +kernel
theorem dX7_sneak_25 : decode cX7_sneak 25 = .ok (.lshl, 1) := by decide +kernel
theorem dX7_sneak_26 : decode cX7_sneak 26 = .ok (.land, 1) := by decide +kernel
theorem dX7_sneak_27 : decode cX7_sneak 27 = .ok (.lstore 5, 2) := by decide +kernel
theorem dX7_sneak_29 : decode cX7_sneak 29 = .ok (.iconst 0, 1) := by decide +kernel
theorem dX7_sneak_30 : decode cX7_sneak 30 = .ok (.istore 7, 2) := by decide +kernel
theorem dX7_sneak_32 : decode cX7_sneak 32 = .ok (.lload 5, 2) := by decide +kernel
theorem dX7_sneak_34 : decode cX7_sneak 34 = .ok (.lconst 0, 1) := by decide +kernel
theorem dX7_sneak_35 : decode cX7_sneak 35 = .ok (.lcmp, 1) := by decide +kernel
theorem dX7_sneak_36 : decode cX7_sneak 36 = .ok (.ifCond .eq 7, 3) := by decide +kernel
theorem dX7_sneak_39 : decode cX7_sneak 39 = .ok (.iconst 1, 1) := by decide +kernel
theorem dX7_sneak_40 : decode cX7_sneak 40 = .ok (.goto 4, 3) := by decide +kernel
theorem dX7_sneak_43 : decode cX7_sneak 43 = .ok (.iconst 0, 1) := by decide +kernel
theorem dX7_sneak_44 : decode cX7_sneak 44 = .ok (.istore 8, 2) := by decide +kernel
theorem dX7_sneak_46 : decode cX7_sneak 46 = .ok (.iload 8, 2) := by decide +kernel
theorem dX7_sneak_48 : decode cX7_sneak 48 = .ok (.ifCond .eq 51, 3) := by decide +kernel
theorem dX7_sneak_51 : decode cX7_sneak 51 = .ok (.lload 5, 2) := by decide +kernel
theorem dX7_sneak_53 : decode cX7_sneak 53 = .ok (.iload_n 2, 1) := by decide +kernel
theorem dX7_sneak_54 : decode cX7_sneak 54 = .ok (.lshr, 1) := by decide +kernel
theorem dX7_sneak_55 : decode cX7_sneak 55 = .ok (.lconst 1, 1) := by decide +kernel
theorem dX7_sneak_56 : decode cX7_sneak 56 = .ok (.land, 1) := by decide +kernel
theorem dX7_sneak_57 : decode cX7_sneak 57 = .ok (.lconst 0, 1) := by decide +kernel
theorem dX7_sneak_58 : decode cX7_sneak 58 = .ok (.lcmp, 1) := by decide +kernel
theorem dX7_sneak_59 : decode cX7_sneak 59 = .ok (.ifCond .ne 40, 3) := by decide +kernel
theorem dX7_sneak_62 : decode cX7_sneak 62 = .ok (.lload 5, 2) := by decide +kernel
theorem dX7_sneak_64 : decode cX7_sneak 64 = .ok (.lload 5, 2) := by decide +kernel
theorem dX7_sneak_66 : decode cX7_sneak 66 = .ok (.invokestatic 226, 3) := by decide +kernel
theorem dX7_sneak_69 : decode cX7_sneak 69 = .ok (.lload_n 3, 1) := by decide +kernel
theorem dX7_sneak_70 : decode cX7_sneak 70 = .ok (.land, 1) := by decide +kernel
theorem dX7_sneak_71 : decode cX7_sneak 71 = .ok (.lor, 1) := by decide +kernel
theorem dX7_sneak_72 : decode cX7_sneak 72 = .ok (.lstore 9, 2) := by decide +kernel
theorem dX7_sneak_74 : decode cX7_sneak 74 = .ok (.lload 9, 2) := by decide +kernel
theorem dX7_sneak_76 : decode cX7_sneak 76 = .ok (.lload 5, 2) := by decide +kernel
theorem dX7_sneak_78 : decode cX7_sneak 78 = .ok (.lcmp, 1) := by decide +kernel
theorem dX7_sneak_79 : decode cX7_sneak 79 = .ok (.ifCond .eq 7, 3) := by decide +kernel
theorem dX7_sneak_82 : decode cX7_sneak 82 = .ok (.iconst 1, 1) := by decide +kernel
theorem dX7_sneak_83 : decode cX7_sneak 83 = .ok (.goto 4, 3) := by decide +kernel
theorem dX7_sneak_86 : decode cX7_sneak 86 = .ok (.iconst 0, 1) := by decide +kernel
theorem dX7_sneak_87 : decode cX7_sneak 87 = .ok (.istore 8, 2) := by decide +kernel
theorem dX7_sneak_89 : decode cX7_sneak 89 = .ok (.lload 9, 2) := by decide +kernel
theorem dX7_sneak_91 : decode cX7_sneak 91 = .ok (.lstore 5, 2) := by decide +kernel
theorem dX7_sneak_93 : decode cX7_sneak 93 = .ok (.iinc 7 1, 3) := by decide +kernel
theorem dX7_sneak_96 : decode cX7_sneak 96 = .ok (.goto (-50), 3) := by decide +kernel
theorem dX7_sneak_99 : decode cX7_sneak 99 = .ok (.lload 5, 2) := by decide +kernel
theorem dX7_sneak_101 : decode cX7_sneak 101 = .ok (.iload_n 2, 1) := by decide +kernel
theorem dX7_sneak_102 : decode cX7_sneak 102 = .ok (.lshr, 1) := by decide +kernel
theorem dX7_sneak_103 : decode cX7_sneak 103 = .ok (.lconst 1, 1) := by decide +kernel
theorem dX7_sneak_104 : decode cX7_sneak 104 = .ok (.land, 1) := by decide +kernel
theorem dX7_sneak_105 : decode cX7_sneak 105 = .ok (.lconst 1, 1) := by decide +kernel
theorem dX7_sneak_106 : decode cX7_sneak 106 = .ok (.lcmp, 1) := by decide +kernel
theorem dX7_sneak_107 : decode cX7_sneak 107 = .ok (.ifCond .ne 8, 3) := by decide +kernel
theorem dX7_sneak_110 : decode cX7_sneak 110 = .ok (.iload 7, 2) := by decide +kernel
theorem dX7_sneak_112 : decode cX7_sneak 112 = .ok (.goto 5, 3) := by decide +kernel
theorem dX7_sneak_115 : decode cX7_sneak 115 = .ok (.ldc 68, 2) := by decide +kernel
theorem dX7_sneak_117 : decode cX7_sneak 117 = .ok (.ireturn, 1) := by decide +kernel
theorem dX7_wanders_0 : decode cX7_wanders 0 = .ok (.aload_n 0, 1) := by decide +kernel
theorem dX7_wanders_1 : decode cX7_wanders 1 = .ok (.invokevirtual 202, 3) := by decide +kernel
theorem dX7_wanders_4 : decode cX7_wanders 4 = .ok (.iconst 4, 1) := by decide +kernel
theorem dX7_wanders_5 : decode cX7_wanders 5 = .ok (.irem, 1) := by decide +kernel
theorem dX7_wanders_6 : decode cX7_wanders 6 = .ok (.istore_n 1, 1) := by decide +kernel
theorem dX7_wanders_7 : decode cX7_wanders 7 = .ok (.aload_n 0, 1) := by decide +kernel
theorem dX7_wanders_8 : decode cX7_wanders 8 = .ok (.getfield 7, 3) := by decide +kernel
theorem dX7_wanders_11 : decode cX7_wanders 11 = .ok (.bipush 7, 2) := by decide +kernel
theorem dX7_wanders_13 : decode cX7_wanders 13 = .ok (.iaload, 1) := by decide +kernel
theorem dX7_wanders_14 : decode cX7_wanders 14 = .ok (.bipush 8, 2) := by decide +kernel
theorem dX7_wanders_16 : decode cX7_wanders 16 = .ok (.idiv, 1) := by decide +kernel
theorem dX7_wanders_17 : decode cX7_wanders 17 = .ok (.iload_n 1, 1) := by decide +kernel
theorem dX7_wanders_18 : decode cX7_wanders 18 = .ok (.ifCond .ne 7, 3) := by decide +kernel
theorem dX7_wanders_21 : decode cX7_wanders 21 = .ok (.iconst (-1), 1) := by decide +kernel
theorem dX7_wanders_22 : decode cX7_wanders 22 = .ok (.goto 13, 3) := by decide +kernel
theorem dX7_wanders_25 : decode cX7_wanders 25 = .ok (.iload_n 1, 1) := by decide +kernel
theorem dX7_wanders_26 : decode cX7_wanders 26 = .ok (.iconst 2, 1) := by decide +kernel
theorem dX7_wanders_27 : decode cX7_wanders 27 = .ok (.if_icmp .ne 7, 3) := by decide +kernel
theorem dX7_wanders_30 : decode cX7_wanders 30 = .ok (.iconst 1, 1) := by decide +kernel
theorem dX7_wanders_31 : decode cX7_wanders 31 = .ok (.goto 4, 3) := by decide +kernel
theorem dX7_wanders_34 : decode cX7_wanders 34 = .ok (.iconst 0, 1) := by decide +kernel
theorem dX7_wanders_35 : decode cX7_wanders 35 = .ok (.iadd, 1) := by decide +kernel
theorem dX7_wanders_36 : decode cX7_wanders 36 = .ok (.istore_n 2, 1) := by decide +kernel
theorem dX7_wanders_37 : decode cX7_wanders 37 = .ok (.aload_n 0, 1) := by decide +kernel
theorem dX7_wanders_38 : decode cX7_wanders 38 = .ok (.getfield 7, 3) := by decide +kernel
theorem dX7_wanders_41 : decode cX7_wanders 41 = .ok (.bipush 7, 2) := by decide +kernel
theorem dX7_wanders_43 : decode cX7_wanders 43 = .ok (.iaload, 1) := by decide +kernel
theorem dX7_wanders_44 : decode cX7_wanders 44 = .ok (.bipush 8, 2) := by decide +kernel
theorem dX7_wanders_46 : decode cX7_wanders 46 = .ok (.irem, 1) := by decide +kernel
theorem dX7_wanders_47 : decode cX7_wanders 47 = .ok (.iload_n 1, 1) := by decide +kernel
theorem dX7_wanders_48 : decode cX7_wanders 48 = .ok (.iconst 1, 1) := by decide +kernel
theorem dX7_wanders_49 : decode cX7_wanders 49 = .ok (.if_icmp .ne 7, 3) := by decide +kernel
theorem dX7_wanders_52 : decode cX7_wanders 52 = .ok (.iconst 1, 1) := by decide +kernel
theorem dX7_wanders_53 : decode cX7_wanders 53 = .ok (.goto 13, 3) := by decide +kernel
theorem dX7_wanders_56 : decode cX7_wanders 56 = .ok (.iload_n 1, 1) := by decide +kernel
theorem dX7_wanders_57 : decode cX7_wanders 57 = .ok (.iconst 3, 1) := by decide +kernel
theorem dX7_wanders_58 : decode cX7_wanders 58 = .ok (.if_icmp .ne 7, 3) := by decide +kernel
theorem dX7_wanders_61 : decode cX7_wanders 61 = .ok (.iconst (-1), 1) := by decide +kernel
theorem dX7_wanders_62 : decode cX7_wanders 62 = .ok (.goto 4, 3) := by decide +kernel
theorem dX7_wanders_65 : decode cX7_wanders 65 = .ok (.iconst 0, 1) := by decide +kernel
theorem dX7_wanders_66 : decode cX7_wanders 66 = .ok (.iadd, 1) := by decide +kernel
theorem dX7_wanders_67 : decode cX7_wanders 67 = .ok (.istore_n 3, 1) := by decide +kernel
theorem dX7_wanders_68 : decode cX7_wanders 68 = .ok (.iload_n 2, 1) := by decide +kernel
theorem dX7_wanders_69 : decode cX7_wanders 69 = .ok (.i2l, 1) := by decide +kernel
theorem dX7_wanders_70 : decode cX7_wanders 70 = .ok (.lconst 0, 1) := by decide +kernel
theorem dX7_wanders_71 : decode cX7_wanders 71 = .ok (.ldc2_w 154, 3) := by decide +kernel
theorem dX7_wanders_74 : decode cX7_wanders 74 = .ok (.invokestatic 69, 3) := by decide +kernel
theorem dX7_wanders_77 : decode cX7_wanders 77 = .ok (.ifCond .eq 41, 3) := by decide +kernel
theorem dX7_wanders_80 : decode cX7_wanders 80 = .ok (.iload_n 3, 1) := by decide +kernel
theorem dX7_wanders_81 : decode cX7_wanders 81 = .ok (.i2l, 1) := by decide +kernel
theorem dX7_wanders_82 : decode cX7_wanders 82 = .ok (.lconst 0, 1) := by decide +kernel
theorem dX7_wanders_83 : decode cX7_wanders 83 = .ok (.ldc2_w 174, 3) := by decide +kernel
theorem dX7_wanders_86 : decode cX7_wanders 86 = .ok (.invokestatic 69, 3) := by decide +kernel
theorem dX7_wanders_89 : decode cX7_wanders 89 = .ok (.ifCond .eq 29, 3) := by decide +kernel
theorem dX7_wanders_92 : decode cX7_wanders 92 = .ok (.aload_n 0, 1) := by decide +kernel
theorem dX7_wanders_93 : decode cX7_wanders 93 = .ok (.bipush 8, 2) := by decide +kernel
theorem dX7_wanders_95 : decode cX7_wanders 95 = .ok (.iload_n 2, 1) := by decide +kernel
theorem dX7_wanders_96 : decode cX7_wanders 96 = .ok (.imul, 1) := by decide +kernel
theorem dX7_wanders_97 : decode cX7_wanders 97 = .ok (.iload_n 3, 1) := by decide +kernel
theorem dX7_wanders_98 : decode cX7_wanders 98 = .ok (.iadd, 1) := by decide +kernel
theorem dX7_wanders_99 : decode cX7_wanders 99 = .ok (.invokevirtual 80, 3) := by decide +kernel
theorem dX7_wanders_102 : decode cX7_wanders 102 = .ok (.ifCond .ne 16, 3) := by decide +kernel
theorem dX7_wanders_105 : decode cX7_wanders 105 = .ok (.aload_n 0, 1) := by decide +kernel
theorem dX7_wanders_106 : decode cX7_wanders 106 = .ok (.getfield 7, 3) := by decide +kernel
theorem dX7_wanders_109 : decode cX7_wanders 109 = .ok (.bipush 7, 2) := by decide +kernel
theorem dX7_wanders_111 : decode cX7_wanders 111 = .ok (.bipush 8, 2) := by decide +kernel
theorem dX7_wanders_113 : decode cX7_wanders 113 = .ok (.iload_n 2, 1) := by decide +kernel
theorem dX7_wanders_114 : decode cX7_wanders 114 = .ok (.imul, 1) := by decide +kernel
theorem dX7_wanders_115 : decode cX7_wanders 115 = .ok (.iload_n 3, 1) := by decide +kernel
theorem dX7_wanders_116 : decode cX7_wanders 116 = .ok (.iadd, 1) := by decide +kernel
theorem dX7_wanders_117 : decode cX7_wanders 117 = .ok (.iastore, 1) := by decide +kernel
theorem dX7_wanders_118 : decode cX7_wanders 118 = .ok (.return_, 1) := by decide +kernel
theorem dX7_isCaught_0 : decode cX7_isCaught 0 = .ok (.iconst 0, 1) := by decide +kernel
theorem dX7_isCaught_1 : decode cX7_isCaught 1 = .ok (.istore_n 1, 1) := by decide +kernel
theorem dX7_isCaught_2 : decode cX7_isCaught 2 = .ok (.iconst 0, 1) := by decide +kernel
theorem dX7_isCaught_3 : decode cX7_isCaught 3 = .ok (.istore_n 2, 1) := by decide +kernel
theorem dX7_isCaught_4 : decode cX7_isCaught 4 = .ok (.iload_n 2, 1) := by decide +kernel
theorem dX7_isCaught_5 : decode cX7_isCaught 5 = .ok (.aload_n 0, 1) := by decide +kernel
theorem dX7_isCaught_6 : decode cX7_isCaught 6 = .ok (.getfield 7, 3) := by decide +kernel
theorem dX7_isCaught_9 : decode cX7_isCaught 9 = .ok (.iconst 0, 1) := by decide +kernel
theorem dX7_isCaught_10 : decode cX7_isCaught 10 = .ok (.iaload, 1) := by decide +kernel
theorem dX7_isCaught_11 : decode cX7_isCaught 11 = .ok (.if_icmp .ge 40, 3) := by decide +kernel
theorem dX7_isCaught_14 : decode cX7_isCaught 14 = .ok (.iload_n 1, 1) := by decide +kernel
theorem dX7_isCaught_15 : decode cX7_isCaught 15 = .ok (.aload_n 0, 1) := by decide +kernel
theorem dX7_isCaught_16 : decode cX7_isCaught 16 = .ok (.iload_n 2, 1) := by decide +kernel
theorem dX7_isCaught_17 : decode cX7_isCaught 17 = .ok (.invokevirtual 136, 3) := by decide +kernel
theorem dX7_isCaught_20 : decode cX7_isCaught 20 = .ok (.ifCond .eq 22, 3) := by decide +kernel
theorem dX7_isCaught_23 : decode cX7_isCaught 23 = .ok (.aload_n 0, 1) := by decide +kernel
theorem dX7_isCaught_24 : decode cX7_isCaught 24 = .ok (.iload_n 2, 1) := by decide +kernel
theorem dX7_isCaught_25 : decode cX7_isCaught 25 = .ok (.aload_n 0, 1) := by decide +kernel
theorem dX7_isCaught_26 : decode cX7_isCaught 26 = .ok (.getfield 7, 3) := by decide +kernel
theorem dX7_isCaught_29 : decode cX7_isCaught 29 = .ok (.bipush 7, 2) := by decide +kernel
theorem dX7_isCaught_31 : decode cX7_isCaught 31 = .ok (.iaload, 1) := by decide +kernel
theorem dX7_isCaught_32 : decode cX7_isCaught 32 = .ok (.invokevirtual 208, 3) := by decide +kernel
theorem dX7_isCaught_35 : decode cX7_isCaught 35 = .ok (.ifCond .eq 7, 3) := by decide +kernel
theorem dX7_isCaught_38 : decode cX7_isCaught 38 = .ok (.iconst 1, 1) := by decide +kernel
theorem dX7_isCaught_39 : decode cX7_isCaught 39 = .ok (.goto 4, 3) := by decide +kernel
theorem dX7_isCaught_42 : decode cX7_isCaught 42 = .ok (.iconst 0, 1) := by decide +kernel
theorem dX7_isCaught_43 : decode cX7_isCaught 43 = .ok (.ior, 1) := by decide +kernel
theorem dX7_isCaught_44 : decode cX7_isCaught 44 = .ok (.istore_n 1, 1) := by decide +kernel
theorem dX7_isCaught_45 : decode cX7_isCaught 45 = .ok (.iinc 2 1, 3) := by decide +kernel
theorem dX7_isCaught_48 : decode cX7_isCaught 48 = .ok (.goto (-44), 3) := by decide +kernel
theorem dX7_isCaught_51 : decode cX7_isCaught 51 = .ok (.iload_n 1, 1) := by decide +kernel
theorem dX7_isCaught_52 : decode cX7_isCaught 52 = .ok (.ireturn, 1) := by decide +kernel
theorem dX7_goesOn_0 : decode cX7_goesOn 0 = .ok (.aload_n 0, 1) := by decide +kernel
theorem dX7_goesOn_1 : decode cX7_goesOn 1 = .ok (.invokevirtual 230, 3) := by decide +kernel
theorem dX7_goesOn_4 : decode cX7_goesOn 4 = .ok (.aload_n 0, 1) := by decide +kernel
theorem dX7_goesOn_5 : decode cX7_goesOn 5 = .ok (.invokevirtual 202, 3) := by decide +kernel
theorem dX7_goesOn_8 : decode cX7_goesOn 8 = .ok (.bipush 100, 2) := by decide +kernel
theorem dX7_goesOn_10 : decode cX7_goesOn 10 = .ok (.irem, 1) := by decide +kernel
theorem dX7_goesOn_11 : decode cX7_goesOn 11 = .ok (.aload_n 0, 1) := by decide +kernel
theorem dX7_goesOn_12 : decode cX7_goesOn 12 = .ok (.getfield 7, 3) := by decide +kernel
theorem dX7_goesOn_15 : decode cX7_goesOn 15 = .ok (.iconst 3, 1) := by decide +kernel
theorem dX7_goesOn_16 : decode cX7_goesOn 16 = .ok (.iaload, 1) := by decide +kernel
theorem dX7_goesOn_17 : decode cX7_goesOn 17 = .ok (.if_icmp .lt 10, 3) := by decide +kernel
theorem dX7_goesOn_20 : decode cX7_goesOn 20 = .ok (.aload_n 0, 1) := by decide +kernel
theorem dX7_goesOn_21 : decode cX7_goesOn 21 = .ok (.invokevirtual 233, 3) := by decide +kernel
theorem dX7_goesOn_24 : decode cX7_goesOn 24 = .ok (.ifCond .ne 17, 3) := by decide +kernel
theorem dX7_goesOn_27 : decode cX7_goesOn 27 = .ok (.aload_n 0, 1) := by decide +kernel
theorem dX7_goesOn_28 : decode cX7_goesOn 28 = .ok (.getfield 7, 3) := by decide +kernel
theorem dX7_goesOn_31 : decode cX7_goesOn 31 = .ok (.bipush 6, 2) := by decide +kernel
theorem dX7_goesOn_33 : decode cX7_goesOn 33 = .ok (.dup2, 1) := by decide +kernel
theorem dX7_goesOn_34 : decode cX7_goesOn 34 = .ok (.iaload, 1) := by decide +kernel
theorem dX7_goesOn_35 : decode cX7_goesOn 35 = .ok (.iconst 1, 1) := by decide +kernel
theorem dX7_goesOn_36 : decode cX7_goesOn 36 = .ok (.iadd, 1) := by decide +kernel
theorem dX7_goesOn_37 : decode cX7_goesOn 37 = .ok (.iastore, 1) := by decide +kernel
theorem dX7_goesOn_38 : decode cX7_goesOn 38 = .ok (.goto 13, 3) := by decide +kernel
theorem dX7_goesOn_41 : decode cX7_goesOn 41 = .ok (.aload_n 0, 1) := by decide +kernel
theorem dX7_goesOn_42 : decode cX7_goesOn 42 = .ok (.getfield 7, 3) := by decide +kernel
theorem dX7_goesOn_45 : decode cX7_goesOn 45 = .ok (.iconst 5, 1) := by decide +kernel
theorem dX7_goesOn_46 : decode cX7_goesOn 46 = .ok (.dup2, 1) := by decide +kernel
theorem dX7_goesOn_47 : decode cX7_goesOn 47 = .ok (.iaload, 1) := by decide +kernel
theorem dX7_goesOn_48 : decode cX7_goesOn 48 = .ok (.iconst 1, 1) := by decide +kernel
theorem dX7_goesOn_49 : decode cX7_goesOn 49 = .ok (.iadd, 1) := by decide +kernel
theorem dX7_goesOn_50 : decode cX7_goesOn 50 = .ok (.iastore, 1) := by decide +kernel
theorem dX7_goesOn_51 : decode cX7_goesOn 51 = .ok (.iconst 0, 1) := by decide +kernel
theorem dX7_goesOn_52 : decode cX7_goesOn 52 = .ok (.istore_n 1, 1) := by decide +kernel
theorem dX7_goesOn_53 : decode cX7_goesOn 53 = .ok (.iload_n 1, 1) := by decide +kernel
theorem dX7_goesOn_54 : decode cX7_goesOn 54 = .ok (.aload_n 0, 1) := by decide +kernel
theorem dX7_goesOn_55 : decode cX7_goesOn 55 = .ok (.getfield 7, 3) := by decide +kernel
theorem dX7_goesOn_58 : decode cX7_goesOn 58 = .ok (.iconst 0, 1) := by decide +kernel
theorem dX7_goesOn_59 : decode cX7_goesOn 59 = .ok (.iaload, 1) := by decide +kernel
theorem dX7_goesOn_60 : decode cX7_goesOn 60 = .ok (.if_icmp .ge 41, 3) := by decide +kernel
theorem dX7_goesOn_63 : decode cX7_goesOn 63 = .ok (.aload_n 0, 1) := by decide +kernel
theorem dX7_goesOn_64 : decode cX7_goesOn 64 = .ok (.iload_n 1, 1) := by decide +kernel
theorem dX7_goesOn_65 : decode cX7_goesOn 65 = .ok (.iconst 3, 1) := by decide +kernel
theorem dX7_goesOn_66 : decode cX7_goesOn 66 = .ok (.aload_n 0, 1) := by decide +kernel
theorem dX7_goesOn_67 : decode cX7_goesOn 67 = .ok (.iload_n 1, 1) := by decide +kernel
theorem dX7_goesOn_68 : decode cX7_goesOn 68 = .ok (.iconst 3, 1) := by decide +kernel
theorem dX7_goesOn_69 : decode cX7_goesOn 69 = .ok (.invokevirtual 76, 3) := by decide +kernel
theorem dX7_goesOn_72 : decode cX7_goesOn 72 = .ok (.aload_n 0, 1) := by decide +kernel
theorem dX7_goesOn_73 : decode cX7_goesOn 73 = .ok (.iload_n 1, 1) := by decide +kernel
theorem dX7_goesOn_74 : decode cX7_goesOn 74 = .ok (.invokevirtual 136, 3) := by decide +kernel
theorem dX7_goesOn_77 : decode cX7_goesOn 77 = .ok (.ifCond .eq 7, 3) := by decide +kernel
theorem dX7_goesOn_80 : decode cX7_goesOn 80 = .ok (.iconst 5, 1) := by decide +kernel
theorem dX7_goesOn_81 : decode cX7_goesOn 81 = .ok (.goto 5, 3) := by decide +kernel
theorem dX7_goesOn_84 : decode cX7_goesOn 84 = .ok (.bipush (-20), 2) := by decide +kernel
theorem dX7_goesOn_86 : decode cX7_goesOn 86 = .ok (.iadd, 1) := by decide +kernel
theorem dX7_goesOn_87 : decode cX7_goesOn 87 = .ok (.bipush 99, 2) := by decide +kernel
theorem dX7_goesOn_89 : decode cX7_goesOn 89 = .ok (.invokestatic 94, 3) := by decide +kernel
theorem dX7_goesOn_92 : decode cX7_goesOn 92 = .ok (.invokevirtual 150, 3) := by decide +kernel
theorem dX7_goesOn_95 : decode cX7_goesOn 95 = .ok (.iinc 1 1, 3) := by decide +kernel
theorem dX7_goesOn_98 : decode cX7_goesOn 98 = .ok (.goto (-45), 3) := by decide +kernel
theorem dX7_goesOn_101 : decode cX7_goesOn 101 = .ok (.aload_n 0, 1) := by decide +kernel
theorem dX7_goesOn_102 : decode cX7_goesOn 102 = .ok (.invokevirtual 202, 3) := by decide +kernel
theorem dX7_goesOn_105 : decode cX7_goesOn 105 = .ok (.bipush 100, 2) := by decide +kernel
theorem dX7_goesOn_107 : decode cX7_goesOn 107 = .ok (.irem, 1) := by decide +kernel
theorem dX7_goesOn_108 : decode cX7_goesOn 108 = .ok (.aload_n 0, 1) := by decide +kernel
theorem dX7_goesOn_109 : decode cX7_goesOn 109 = .ok (.getfield 7, 3) := by decide +kernel
theorem dX7_goesOn_112 : decode cX7_goesOn 112 = .ok (.iconst 4, 1) := by decide +kernel
theorem dX7_goesOn_113 : decode cX7_goesOn 113 = .ok (.iaload, 1) := by decide +kernel
theorem dX7_goesOn_114 : decode cX7_goesOn 114 = .ok (.if_icmp .ge 40, 3) := by decide +kernel
theorem dX7_goesOn_117 : decode cX7_goesOn 117 = .ok (.aload_n 0, 1) := by decide +kernel
theorem dX7_goesOn_118 : decode cX7_goesOn 118 = .ok (.getfield 7, 3) := by decide +kernel
theorem dX7_goesOn_121 : decode cX7_goesOn 121 = .ok (.iconst 0, 1) := by decide +kernel
theorem dX7_goesOn_122 : decode cX7_goesOn 122 = .ok (.iaload, 1) := by decide +kernel
theorem dX7_goesOn_123 : decode cX7_goesOn 123 = .ok (.ifCond .le 31, 3) := by decide +kernel
theorem dX7_goesOn_126 : decode cX7_goesOn 126 = .ok (.aload_n 0, 1) := by decide +kernel
theorem dX7_goesOn_127 : decode cX7_goesOn 127 = .ok (.invokevirtual 202, 3) := by decide +kernel
theorem dX7_goesOn_130 : decode cX7_goesOn 130 = .ok (.aload_n 0, 1) := by decide +kernel
theorem dX7_goesOn_131 : decode cX7_goesOn 131 = .ok (.getfield 7, 3) := by decide +kernel
theorem dX7_goesOn_134 : decode cX7_goesOn 134 = .ok (.iconst 0, 1) := by decide +kernel
theorem dX7_goesOn_135 : decode cX7_goesOn 135 = .ok (.iaload, 1) := by decide +kernel
theorem dX7_goesOn_136 : decode cX7_goesOn 136 = .ok (.irem, 1) := by decide +kernel
theorem dX7_goesOn_137 : decode cX7_goesOn 137 = .ok (.istore_n 1, 1) := by decide +kernel
theorem dX7_goesOn_138 : decode cX7_goesOn 138 = .ok (.aload_n 0, 1) := by decide +kernel
theorem dX7_goesOn_139 : decode cX7_goesOn 139 = .ok (.iload_n 1, 1) := by decide +kernel
theorem dX7_goesOn_140 : decode cX7_goesOn 140 = .ok (.iconst 2, 1) := by decide +kernel
theorem dX7_goesOn_141 : decode cX7_goesOn 141 = .ok (.aload_n 0, 1) := by decide +kernel
theorem dX7_goesOn_142 : decode cX7_goesOn 142 = .ok (.iload_n 1, 1) := by decide +kernel
theorem dX7_goesOn_143 : decode cX7_goesOn 143 = .ok (.iconst 2, 1) := by decide +kernel
theorem dX7_goesOn_144 : decode cX7_goesOn 144 = .ok (.invokevirtual 76, 3) := by decide +kernel
theorem dX7_goesOn_147 : decode cX7_goesOn 147 = .ok (.iconst 1, 1) := by decide +kernel
theorem dX7_goesOn_148 : decode cX7_goesOn 148 = .ok (.iadd, 1) := by decide +kernel
theorem dX7_goesOn_149 : decode cX7_goesOn 149 = .ok (.iconst 4, 1) := by decide +kernel
theorem dX7_goesOn_150 : decode cX7_goesOn 150 = .ok (.irem, 1) := by decide +kernel
theorem dX7_goesOn_151 : decode cX7_goesOn 151 = .ok (.invokevirtual 150, 3) := by decide +kernel
theorem dX7_goesOn_154 : decode cX7_goesOn 154 = .ok (.aload_n 0, 1) := by decide +kernel
theorem dX7_goesOn_155 : decode cX7_goesOn 155 = .ok (.getfield 7, 3) := by decide +kernel
theorem dX7_goesOn_158 : decode cX7_goesOn 158 = .ok (.iconst 2, 1) := by decide +kernel
theorem dX7_goesOn_159 : decode cX7_goesOn 159 = .ok (.dup2, 1) := by decide +kernel
theorem dX7_goesOn_160 : decode cX7_goesOn 160 = .ok (.iaload, 1) := by decide +kernel
theorem dX7_goesOn_161 : decode cX7_goesOn 161 = .ok (.iconst 1, 1) := by decide +kernel
theorem dX7_goesOn_162 : decode cX7_goesOn 162 = .ok (.iadd, 1) := by decide +kernel
theorem dX7_goesOn_163 : decode cX7_goesOn 163 = .ok (.iastore, 1) := by decide +kernel
theorem dX7_goesOn_164 : decode cX7_goesOn 164 = .ok (.return_, 1) := by decide +kernel
theorem dX7_goesOnMany_0 : decode cX7_goesOnMany 0 = .ok (.iconst 0, 1) := by decide +kernel
theorem dX7_goesOnMany_1 : decode cX7_goesOnMany 1 = .ok (.istore_n 2, 1) := by decide +kernel
theorem dX7_goesOnMany_2 : decode cX7_goesOnMany 2 = .ok (.iload_n 2, 1) := by decide +kernel
theorem dX7_goesOnMany_3 : decode cX7_goesOnMany 3 = .ok (.iload_n 1, 1) := by decide +kernel
theorem dX7_goesOnMany_4 : decode cX7_goesOnMany 4 = .ok (.if_icmp .ge 13, 3) := by decide +kernel
theorem dX7_goesOnMany_7 : decode cX7_goesOnMany 7 = .ok (.aload_n 0, 1) := by decide +kernel
theorem dX7_goesOnMany_8 : decode cX7_goesOnMany 8 = .ok (.invokevirtual 237, 3) := by decide +kernel
theorem dX7_goesOnMany_11 : decode cX7_goesOnMany 11 = .ok (.iinc 2 1, 3) := by decide +kernel
theorem dX7_goesOnMany_14 : decode cX7_goesOnMany 14 = .ok (.goto (-12), 3) := by decide +kernel
theorem dX7_goesOnMany_17 : decode cX7_goesOnMany 17 = .ok (.return_, 1) := by decide +kernel
theorem dX7_hours_0 : decode cX7_hours 0 = .ok (.iload_n 1, 1) := by decide +kernel
theorem dX7_hours_1 : decode cX7_hours 1 = .ok (.i2l, 1) := by decide +kernel
theorem dX7_hours_2 : decode cX7_hours 2 = .ok (.lconst 1, 1) := by decide +kernel
theorem dX7_hours_3 : decode cX7_hours 3 = .ok (.ldc2_w 198, 3) := by decide +kernel
theorem dX7_hours_6 : decode cX7_hours 6 = .ok (.invokestatic 69, 3) := by decide +kernel
theorem dX7_hours_9 : decode cX7_hours 9 = .ok (.ifCond .ne 6, 3) := by decide +kernel
theorem dX7_hours_12 : decode cX7_hours 12 = .ok (.ldc 161, 2) := by decide +kernel
theorem dX7_hours_14 : decode cX7_hours 14 = .ok (.ireturn, 1) := by decide +kernel
theorem dX7_hours_15 : decode cX7_hours 15 = .ok (.aload_n 0, 1) := by decide +kernel
theorem dX7_hours_16 : decode cX7_hours 16 = .ok (.getfield 7, 3) := by decide +kernel
theorem dX7_hours_19 : decode cX7_hours 19 = .ok (.iconst 5, 1) := by decide +kernel
theorem dX7_hours_20 : decode cX7_hours 20 = .ok (.iaload, 1) := by decide +kernel
theorem dX7_hours_21 : decode cX7_hours 21 = .ok (.istore_n 2, 1) := by decide +kernel
theorem dX7_hours_22 : decode cX7_hours 22 = .ok (.sipush 9999, 3) := by decide +kernel
theorem dX7_hours_25 : decode cX7_hours 25 = .ok (.aload_n 0, 1) := by decide +kernel
theorem dX7_hours_26 : decode cX7_hours 26 = .ok (.getfield 7, 3) := by decide +kernel
theorem dX7_hours_29 : decode cX7_hours 29 = .ok (.iconst 2, 1) := by decide +kernel
theorem dX7_hours_30 : decode cX7_hours 30 = .ok (.iaload, 1) := by decide +kernel
theorem dX7_hours_31 : decode cX7_hours 31 = .ok (.isub, 1) := by decide +kernel
theorem dX7_hours_32 : decode cX7_hours 32 = .ok (.istore_n 3, 1) := by decide +kernel
theorem dX7_hours_33 : decode cX7_hours 33 = .ok (.aload_n 0, 1) := by decide +kernel
theorem dX7_hours_34 : decode cX7_hours 34 = .ok (.iload_n 1, 1) := by decide +kernel
theorem dX7_hours_35 : decode cX7_hours 35 = .ok (.iload_n 3, 1) := by decide +kernel
theorem dX7_hours_36 : decode cX7_hours 36 = .ok (.if_icmp .ge 7, 3) := by decide +kernel
theorem dX7_hours_39 : decode cX7_hours 39 = .ok (.iload_n 1, 1) := by decide +kernel
theorem dX7_hours_40 : decode cX7_hours 40 = .ok (.goto 4, 3) := by decide +kernel
theorem dX7_hours_43 : decode cX7_hours 43 = .ok (.iload_n 3, 1) := by decide +kernel
theorem dX7_hours_44 : decode cX7_hours 44 = .ok (.invokevirtual 240, 3) := by decide +kernel
theorem dX7_hours_47 : decode cX7_hours 47 = .ok (.aload_n 0, 1) := by decide +kernel
theorem dX7_hours_48 : decode cX7_hours 48 = .ok (.getfield 7, 3) := by decide +kernel
theorem dX7_hours_51 : decode cX7_hours 51 = .ok (.iconst 5, 1) := by decide +kernel
theorem dX7_hours_52 : decode cX7_hours 52 = .ok (.iaload, 1) := by decide +kernel
theorem dX7_hours_53 : decode cX7_hours 53 = .ok (.iload_n 2, 1) := by decide +kernel
theorem dX7_hours_54 : decode cX7_hours 54 = .ok (.isub, 1) := by decide +kernel
theorem dX7_hours_55 : decode cX7_hours 55 = .ok (.ireturn, 1) := by decide +kernel
theorem dX7_tiredOfAll_0 : decode cX7_tiredOfAll 0 = .ok (.iconst 0, 1) := by decide +kernel
theorem dX7_tiredOfAll_1 : decode cX7_tiredOfAll 1 = .ok (.istore_n 1, 1) := by decide +kernel
theorem dX7_tiredOfAll_2 : decode cX7_tiredOfAll 2 = .ok (.iconst 0, 1) := by decide +kernel
theorem dX7_tiredOfAll_3 : decode cX7_tiredOfAll 3 = .ok (.istore_n 2, 1) := by decide +kernel
theorem dX7_tiredOfAll_4 : decode cX7_tiredOfAll 4 = .ok (.iload_n 2, 1) := by decide +kernel
theorem dX7_tiredOfAll_5 : decode cX7_tiredOfAll 5 = .ok (.aload_n 0, 1) := by decide +kernel
theorem dX7_tiredOfAll_6 : decode cX7_tiredOfAll 6 = .ok (.getfield 7, 3) := by decide +kernel
theorem dX7_tiredOfAll_9 : decode cX7_tiredOfAll 9 = .ok (.iconst 0, 1) := by decide +kernel
theorem dX7_tiredOfAll_10 : decode cX7_tiredOfAll 10 = .ok (.iaload, 1) := by decide +kernel
theorem dX7_tiredOfAll_11 : decode cX7_tiredOfAll 11 = .ok (.if_icmp .ge 18, 3) := by decide +kernel
theorem dX7_tiredOfAll_14 : decode cX7_tiredOfAll 14 = .ok (.iload_n 1, 1) := by decide +kernel
theorem dX7_tiredOfAll_15 : decode cX7_tiredOfAll 15 = .ok (.aload_n 0, 1) := by decide +kernel
theorem dX7_tiredOfAll_16 : decode cX7_tiredOfAll 16 = .ok (.iload_n 2, 1) := by decide +kernel
theorem dX7_tiredOfAll_17 : decode cX7_tiredOfAll 17 = .ok (.iconst 3, 1) := by decide +kernel
theorem dX7_tiredOfAll_18 : decode cX7_tiredOfAll 18 = .ok (.invokevirtual 76, 3) := by decide +kernel
theorem dX7_tiredOfAll_21 : decode cX7_tiredOfAll 21 = .ok (.iadd, 1) := by decide +kernel
theorem dX7_tiredOfAll_22 : decode cX7_tiredOfAll 22 = .ok (.istore_n 1, 1) := by decide +kernel
theorem dX7_tiredOfAll_23 : decode cX7_tiredOfAll 23 = .ok (.iinc 2 1, 3) := by decide +kernel
theorem dX7_tiredOfAll_26 : decode cX7_tiredOfAll 26 = .ok (.goto (-22), 3) := by decide +kernel
theorem dX7_tiredOfAll_29 : decode cX7_tiredOfAll 29 = .ok (.iload_n 1, 1) := by decide +kernel
theorem dX7_tiredOfAll_30 : decode cX7_tiredOfAll 30 = .ok (.ireturn, 1) := by decide +kernel
theorem dX7_walls_0 : decode cX7_walls 0 = .ok (.iconst 0, 1) := by decide +kernel
theorem dX7_walls_1 : decode cX7_walls 1 = .ok (.istore_n 1, 1) := by decide +kernel
theorem dX7_walls_2 : decode cX7_walls 2 = .ok (.iconst 0, 1) := by decide +kernel
theorem dX7_walls_3 : decode cX7_walls 3 = .ok (.istore_n 2, 1) := by decide +kernel
theorem dX7_walls_4 : decode cX7_walls 4 = .ok (.iload_n 2, 1) := by decide +kernel
theorem dX7_walls_5 : decode cX7_walls 5 = .ok (.bipush 48, 2) := by decide +kernel
theorem dX7_walls_7 : decode cX7_walls 7 = .ok (.if_icmp .ge 21, 3) := by decide +kernel
theorem dX7_walls_10 : decode cX7_walls 10 = .ok (.iload_n 1, 1) := by decide +kernel
theorem dX7_walls_11 : decode cX7_walls 11 = .ok (.aload_n 0, 1) := by decide +kernel
theorem dX7_walls_12 : decode cX7_walls 12 = .ok (.getfield 7, 3) := by decide +kernel
theorem dX7_walls_15 : decode cX7_walls 15 = .ok (.bipush 42, 2) := by decide +kernel
theorem dX7_walls_17 : decode cX7_walls 17 = .ok (.iload_n 2, 1) := by decide +kernel
theorem dX7_walls_18 : decode cX7_walls 18 = .ok (.iadd, 1) := by decide +kernel
theorem dX7_walls_19 : decode cX7_walls 19 = .ok (.iaload, 1) := by decide +kernel
theorem dX7_walls_20 : decode cX7_walls 20 = .ok (.iadd, 1) := by decide +kernel
theorem dX7_walls_21 : decode cX7_walls 21 = .ok (.istore_n 1, 1) := by decide +kernel
theorem dX7_walls_22 : decode cX7_walls 22 = .ok (.iinc 2 1, 3) := by decide +kernel
theorem dX7_walls_25 : decode cX7_walls 25 = .ok (.goto (-21), 3) := by decide +kernel
theorem dX7_walls_28 : decode cX7_walls 28 = .ok (.iload_n 1, 1) := by decide +kernel
theorem dX7_walls_29 : decode cX7_walls 29 = .ok (.ireturn, 1) := by decide +kernel
theorem dX7_roomOf_0 : decode cX7_roomOf 0 = .ok (.iload_n 1, 1) := by decide +kernel
theorem dX7_roomOf_1 : decode cX7_roomOf 1 = .ok (.iconst 3, 1) := by decide +kernel
theorem dX7_roomOf_2 : decode cX7_roomOf 2 = .ok (.if_icmp .ge 14, 3) := by decide +kernel
theorem dX7_roomOf_5 : decode cX7_roomOf 5 = .ok (.aload_n 0, 1) := by decide +kernel
theorem dX7_roomOf_6 : decode cX7_roomOf 6 = .ok (.getfield 7, 3) := by decide +kernel
theorem dX7_roomOf_9 : decode cX7_roomOf 9 = .ok (.iconst 5, 1) := by decide +kernel
theorem dX7_roomOf_10 : decode cX7_roomOf 10 = .ok (.iload_n 1, 1) := by decide +kernel
theorem dX7_roomOf_11 : decode cX7_roomOf 11 = .ok (.iadd, 1) := by decide +kernel
theorem dX7_roomOf_12 : decode cX7_roomOf 12 = .ok (.iaload, 1) := by decide +kernel
theorem dX7_roomOf_13 : decode cX7_roomOf 13 = .ok (.goto 31, 3) := by decide +kernel
theorem dX7_roomOf_16 : decode cX7_roomOf 16 = .ok (.iload_n 1, 1) := by decide +kernel
theorem dX7_roomOf_17 : decode cX7_roomOf 17 = .ok (.iconst 3, 1) := by decide +kernel
theorem dX7_roomOf_18 : decode cX7_roomOf 18 = .ok (.if_icmp .ne 10, 3) := by decide +kernel
theorem dX7_roomOf_21 : decode cX7_roomOf 21 = .ok (.aload_n 0, 1) := by decide +kernel
theorem dX7_roomOf_22 : decode cX7_roomOf 22 = .ok (.invokevirtual 220, 3) := by decide +kernel
theorem dX7_roomOf_25 : decode cX7_roomOf 25 = .ok (.goto 19, 3) := by decide +kernel
theorem dX7_roomOf_28 : decode cX7_roomOf 28 = .ok (.iload_n 1, 1) := by decide +kernel
theorem dX7_roomOf_29 : decode cX7_roomOf 29 = .ok (.iconst 4, 1) := by decide +kernel
theorem dX7_roomOf_30 : decode cX7_roomOf 30 = .ok (.if_icmp .ne 10, 3) := by decide +kernel
theorem dX7_roomOf_33 : decode cX7_roomOf 33 = .ok (.aload_n 0, 1) := by decide +kernel
theorem dX7_roomOf_34 : decode cX7_roomOf 34 = .ok (.invokevirtual 244, 3) := by decide +kernel
theorem dX7_roomOf_37 : decode cX7_roomOf 37 = .ok (.goto 7, 3) := by decide +kernel
theorem dX7_roomOf_40 : decode cX7_roomOf 40 = .ok (.aload_n 0, 1) := by decide +kernel
theorem dX7_roomOf_41 : decode cX7_roomOf 41 = .ok (.invokevirtual 247, 3) := by decide +kernel
theorem dX7_roomOf_44 : decode cX7_roomOf 44 = .ok (.ireturn, 1) := by decide +kernel
theorem dX7_room_0 : decode cX7_room 0 = .ok (.iload_n 1, 1) := by decide +kernel
theorem dX7_room_1 : decode cX7_room 1 = .ok (.i2l, 1) := by decide +kernel
theorem dX7_room_2 : decode cX7_room 2 = .ok (.lconst 0, 1) := by decide +kernel
theorem dX7_room_3 : decode cX7_room 3 = .ok (.ldc2_w 154, 3) := by decide +kernel
theorem dX7_room_6 : decode cX7_room 6 = .ok (.invokestatic 69, 3) := by decide +kernel
theorem dX7_room_9 : decode cX7_room 9 = .ok (.ifCond .eq 11, 3) := by decide +kernel
theorem dX7_room_12 : decode cX7_room 12 = .ok (.aload_n 0, 1) := by decide +kernel
theorem dX7_room_13 : decode cX7_room 13 = .ok (.iload_n 1, 1) := by decide +kernel
theorem dX7_room_14 : decode cX7_room 14 = .ok (.invokevirtual 250, 3) := by decide +kernel
theorem dX7_room_17 : decode cX7_room 17 = .ok (.goto 5, 3) := by decide +kernel
theorem dX7_room_20 : decode cX7_room 20 = .ok (.ldc 161, 2) := by decide +kernel
theorem dX7_room_22 : decode cX7_room 22 = .ok (.ireturn, 1) := by decide +kernel
theorem dX7_laysBy_0 : decode cX7_laysBy 0 = .ok (.iconst 0, 1) := by decide +kernel
theorem dX7_laysBy_1 : decode cX7_laysBy 1 = .ok (.istore_n 1, 1) := by decide +kernel
theorem dX7_laysBy_2 : decode cX7_laysBy 2 = .ok (.iload_n 1, 1) := by decide +kernel
theorem dX7_laysBy_3 : decode cX7_laysBy 3 = .ok (.bipush 90, 2) := by decide +kernel
theorem dX7_laysBy_5 : decode cX7_laysBy 5 = .ok (.if_icmp .ge 21, 3) := by decide +kernel
theorem dX7_laysBy_8 : decode cX7_laysBy 8 = .ok (.aload_n 0, 1) := by decide +kernel
theorem dX7_laysBy_9 : decode cX7_laysBy 9 = .ok (.getfield 47, 3) := by decide +kernel
theorem dX7_laysBy_12 : decode cX7_laysBy 12 = .ok (.iload_n 1, 1) := by decide +kernel
theorem dX7_laysBy_13 : decode cX7_laysBy 13 = .ok (.aload_n 0, 1) := by decide +kernel
theorem dX7_laysBy_14 : decode cX7_laysBy 14 = .ok (.getfield 7, 3) := by decide +kernel
theorem dX7_laysBy_17 : decode cX7_laysBy 17 = .ok (.iload_n 1, 1) := by decide +kernel
theorem dX7_laysBy_18 : decode cX7_laysBy 18 = .ok (.iaload, 1) := by decide +kernel
theorem dX7_laysBy_19 : decode cX7_laysBy 19 = .ok (.iastore, 1) := by decide +kernel
theorem dX7_laysBy_20 : decode cX7_laysBy 20 = .ok (.iinc 1 1, 3) := by decide +kernel
theorem dX7_laysBy_23 : decode cX7_laysBy 23 = .ok (.goto (-21), 3) := by decide +kernel
theorem dX7_laysBy_26 : decode cX7_laysBy 26 = .ok (.return_, 1) := by decide +kernel
theorem dX7_laysBack_0 : decode cX7_laysBack 0 = .ok (.iconst 0, 1) := by decide +kernel
theorem dX7_laysBack_1 : decode cX7_laysBack 1 = .ok (.istore_n 1, 1) := by decide +kernel
theorem dX7_laysBack_2 : decode cX7_laysBack 2 = .ok (.iload_n 1, 1) := by decide +kernel
theorem dX7_laysBack_3 : decode cX7_laysBack 3 = .ok (.bipush 90, 2) := by decide +kernel
theorem dX7_laysBack_5 : decode cX7_laysBack 5 = .ok (.if_icmp .ge 21, 3) := by decide +kernel
theorem dX7_laysBack_8 : decode cX7_laysBack 8 = .ok (.aload_n 0, 1) := by decide +kernel
theorem dX7_laysBack_9 : decode cX7_laysBack 9 = .ok (.getfield 7, 3) := by decide +kernel
theorem dX7_laysBack_12 : decode cX7_laysBack 12 = .ok (.iload_n 1, 1) := by decide +kernel
theorem dX7_laysBack_13 : decode cX7_laysBack 13 = .ok (.aload_n 0, 1) := by decide +kernel
theorem dX7_laysBack_14 : decode cX7_laysBack 14 = .ok (.getfield 47, 3) := by decide +kernel
theorem dX7_laysBack_17 : decode cX7_laysBack 17 = .ok (.iload_n 1, 1) := by decide +kernel
theorem dX7_laysBack_18 : decode cX7_laysBack 18 = .ok (.iaload, 1) := by decide +kernel
theorem dX7_laysBack_19 : decode cX7_laysBack 19 = .ok (.iastore, 1) := by decide +kernel
theorem dX7_laysBack_20 : decode cX7_laysBack 20 = .ok (.iinc 1 1, 3) := by decide +kernel
theorem dX7_laysBack_23 : decode cX7_laysBack 23 = .ok (.goto (-21), 3) := by decide +kernel
theorem dX7_laysBack_26 : decode cX7_laysBack 26 = .ok (.return_, 1) := by decide +kernel
theorem dX7_behind_0 : decode cX7_behind 0 = .ok (.iload_n 1, 1) := by decide +kernel
theorem dX7_behind_1 : decode cX7_behind 1 = .ok (.i2l, 1) := by decide +kernel
theorem dX7_behind_2 : decode cX7_behind 2 = .ok (.lconst 0, 1) := by decide +kernel
theorem dX7_behind_3 : decode cX7_behind 3 = .ok (.ldc2_w 198, 3) := by decide +kernel
theorem dX7_behind_6 : decode cX7_behind 6 = .ok (.invokestatic 69, 3) := by decide +kernel
theorem dX7_behind_9 : decode cX7_behind 9 = .ok (.ifCond .eq 22, 3) := by decide +kernel
theorem dX7_behind_12 : decode cX7_behind 12 = .ok (.iload_n 2, 1) := by decide +kernel
theorem dX7_behind_13 : decode cX7_behind 13 = .ok (.ifCond .lt 18, 3) := by decide +kernel
theorem dX7_behind_16 : decode cX7_behind 16 = .ok (.iload_n 2, 1) := by decide +kernel
theorem dX7_behind_17 : decode cX7_behind 17 = .ok (.iconst 4, 1) := by decide +kernel
theorem dX7_behind_18 : decode cX7_behind 18 = .ok (.if_icmp .le 16, 3) := by decide +kernel
theorem dX7_behind_21 : decode cX7_behind 21 = .ok (.aload_n 0, 1) := by decide +kernel
theorem dX7_behind_22 : decode cX7_behind 22 = .ok (.iload_n 2, 1) := by decide +kernel
theorem dX7_behind_23 : decode cX7_behind 23 = .ok (.iconst 5, 1) := by decide +kernel
theorem dX7_behind_24 : decode cX7_behind 24 = .ok (.isub, 1) := by decide +kernel
theorem dX7_behind_25 : decode cX7_behind 25 = .ok (.invokevirtual 171, 3) := by decide +kernel
theorem dX7_behind_28 : decode cX7_behind 28 = .ok (.ifCond .ne 6, 3) := by decide +kernel
theorem dX7_behind_31 : decode cX7_behind 31 = .ok (.ldc 161, 2) := by decide +kernel
theorem dX7_behind_33 : decode cX7_behind 33 = .ok (.ireturn, 1) := by decide +kernel
theorem dX7_behind_34 : decode cX7_behind 34 = .ok (.aload_n 0, 1) := by decide +kernel
theorem dX7_behind_35 : decode cX7_behind 35 = .ok (.invokevirtual 253, 3) := by decide +kernel
theorem dX7_behind_38 : decode cX7_behind 38 = .ok (.aload_n 0, 1) := by decide +kernel
theorem dX7_behind_39 : decode cX7_behind 39 = .ok (.iload_n 1, 1) := by decide +kernel
theorem dX7_behind_40 : decode cX7_behind 40 = .ok (.invokevirtual 240, 3) := by decide +kernel
theorem dX7_behind_43 : decode cX7_behind 43 = .ok (.iload_n 2, 1) := by decide +kernel
theorem dX7_behind_44 : decode cX7_behind 44 = .ok (.iconst 5, 1) := by decide +kernel
theorem dX7_behind_45 : decode cX7_behind 45 = .ok (.if_icmp .ge 11, 3) := by decide +kernel
theorem dX7_behind_48 : decode cX7_behind 48 = .ok (.aload_n 0, 1) := by decide +kernel
theorem dX7_behind_49 : decode cX7_behind 49 = .ok (.iload_n 2, 1) := by decide +kernel
theorem dX7_behind_50 : decode cX7_behind 50 = .ok (.invokevirtual 250, 3) := by decide +kernel
theorem dX7_behind_53 : decode cX7_behind 53 = .ok (.goto 11, 3) := by decide +kernel
theorem dX7_behind_56 : decode cX7_behind 56 = .ok (.aload_n 0, 1) := by decide +kernel
theorem dX7_behind_57 : decode cX7_behind 57 = .ok (.iload_n 2, 1) := by decide +kernel
theorem dX7_behind_58 : decode cX7_behind 58 = .ok (.iconst 5, 1) := by decide +kernel
theorem dX7_behind_59 : decode cX7_behind 59 = .ok (.isub, 1) := by decide +kernel
theorem dX7_behind_60 : decode cX7_behind 60 = .ok (.iconst 3, 1) := by decide +kernel
theorem dX7_behind_61 : decode cX7_behind 61 = .ok (.invokevirtual 76, 3) := by decide +kernel
theorem dX7_behind_64 : decode cX7_behind 64 = .ok (.istore_n 3, 1) := by decide +kernel
theorem dX7_behind_65 : decode cX7_behind 65 = .ok (.aload_n 0, 1) := by decide +kernel
theorem dX7_behind_66 : decode cX7_behind 66 = .ok (.invokevirtual 256, 3) := by decide +kernel
theorem dX7_behind_69 : decode cX7_behind 69 = .ok (.iload_n 3, 1) := by decide +kernel
theorem dX7_behind_70 : decode cX7_behind 70 = .ok (.ireturn, 1) := by decide +kernel
theorem dX7_catches_0 : decode cX7_catches 0 = .ok (.aload_n 0, 1) := by decide +kernel
theorem dX7_catches_1 : decode cX7_catches 1 = .ok (.invokevirtual 253, 3) := by decide +kernel
theorem dX7_catches_4 : decode cX7_catches 4 = .ok (.aload_n 0, 1) := by decide +kernel
theorem dX7_catches_5 : decode cX7_catches 5 = .ok (.getfield 7, 3) := by decide +kernel
theorem dX7_catches_8 : decode cX7_catches 8 = .ok (.iconst 5, 1) := by decide +kernel
theorem dX7_catches_9 : decode cX7_catches 9 = .ok (.iaload, 1) := by decide +kernel
theorem dX7_catches_10 : decode cX7_catches 10 = .ok (.istore_n 1, 1) := by decide +kernel
theorem dX7_catches_11 : decode cX7_catches 11 = .ok (.iconst 0, 1) := by decide +kernel
theorem dX7_catches_12 : decode cX7_catches 12 = .ok (.istore_n 2, 1) := by decide +kernel
theorem dX7_catches_13 : decode cX7_catches 13 = .ok (.iload_n 2, 1) := by decide +kernel
theorem dX7_catches_14 : decode cX7_catches 14 = .ok (.sipush 200, 3) := by decide +kernel
theorem dX7_catches_17 : decode cX7_catches 17 = .ok (.if_icmp .ge 23, 3) := by decide +kernel
theorem dX7_catches_20 : decode cX7_catches 20 = .ok (.aload_n 0, 1) := by decide +kernel
theorem dX7_catches_21 : decode cX7_catches 21 = .ok (.getfield 7, 3) := by decide +kernel
theorem dX7_catches_24 : decode cX7_catches 24 = .ok (.iconst 5, 1) := by decide +kernel
theorem dX7_catches_25 : decode cX7_catches 25 = .ok (.iaload, 1) := by decide +kernel
theorem dX7_catches_26 : decode cX7_catches 26 = .ok (.iload_n 1, 1) := by decide +kernel
theorem dX7_catches_27 : decode cX7_catches 27 = .ok (.if_icmp .ne 13, 3) := by decide +kernel
theorem dX7_catches_30 : decode cX7_catches 30 = .ok (.aload_n 0, 1) := by decide +kernel
theorem dX7_catches_31 : decode cX7_catches 31 = .ok (.invokevirtual 237, 3) := by decide +kernel
theorem dX7_catches_34 : decode cX7_catches 34 = .ok (.iinc 2 1, 3) := by decide +kernel
theorem dX7_catches_37 : decode cX7_catches 37 = .ok (.goto (-24), 3) := by decide +kernel
theorem dX7_catches_40 : decode cX7_catches 40 = .ok (.aload_n 0, 1) := by decide +kernel
theorem dX7_catches_41 : decode cX7_catches 41 = .ok (.getfield 7, 3) := by decide +kernel
theorem dX7_catches_44 : decode cX7_catches 44 = .ok (.iconst 5, 1) := by decide +kernel
theorem dX7_catches_45 : decode cX7_catches 45 = .ok (.iaload, 1) := by decide +kernel
theorem dX7_catches_46 : decode cX7_catches 46 = .ok (.iload_n 1, 1) := by decide +kernel
theorem dX7_catches_47 : decode cX7_catches 47 = .ok (.if_icmp .le 7, 3) := by decide +kernel
theorem dX7_catches_50 : decode cX7_catches 50 = .ok (.iconst 1, 1) := by decide +kernel
theorem dX7_catches_51 : decode cX7_catches 51 = .ok (.goto 4, 3) := by decide +kernel
theorem dX7_catches_54 : decode cX7_catches 54 = .ok (.iconst 0, 1) := by decide +kernel
theorem dX7_catches_55 : decode cX7_catches 55 = .ok (.istore_n 3, 1) := by decide +kernel
theorem dX7_catches_56 : decode cX7_catches 56 = .ok (.aload_n 0, 1) := by decide +kernel
theorem dX7_catches_57 : decode cX7_catches 57 = .ok (.invokevirtual 256, 3) := by decide +kernel
theorem dX7_catches_60 : decode cX7_catches 60 = .ok (.iload_n 3, 1) := by decide +kernel
theorem dX7_catches_61 : decode cX7_catches 61 = .ok (.ifCond .eq 7, 3) := by decide +kernel
theorem dX7_catches_64 : decode cX7_catches 64 = .ok (.iload_n 2, 1) := by decide +kernel
theorem dX7_catches_65 : decode cX7_catches 65 = .ok (.goto 5, 3) := by decide +kernel
theorem dX7_catches_68 : decode cX7_catches 68 = .ok (.ldc 68, 2) := by decide +kernel
theorem dX7_catches_70 : decode cX7_catches 70 = .ok (.ireturn, 1) := by decide +kernel
theorem dX7_isAsked_0 : decode cX7_isAsked 0 = .ok (.iload_n 0, 1) := by decide +kernel
theorem dX7_isAsked_1 : decode cX7_isAsked 1 = .ok (.i2l, 1) := by decide +kernel
theorem dX7_isAsked_2 : decode cX7_isAsked 2 = .ok (.lconst 1, 1) := by decide +kernel
theorem dX7_isAsked_3 : decode cX7_isAsked 3 = .ok (.ldc2_w 259, 3) := by decide +kernel
theorem dX7_isAsked_6 : decode cX7_isAsked 6 = .ok (.invokestatic 69, 3) := by decide +kernel
theorem dX7_isAsked_9 : decode cX7_isAsked 9 = .ok (.ifCond .eq 17, 3) := by decide +kernel
theorem dX7_isAsked_12 : decode cX7_isAsked 12 = .ok (.iload_n 1, 1) := by decide +kernel
theorem dX7_isAsked_13 : decode cX7_isAsked 13 = .ok (.i2l, 1) := by decide +kernel
theorem dX7_isAsked_14 : decode cX7_isAsked 14 = .ok (.lconst 0, 1) := by decide +kernel
theorem dX7_isAsked_15 : decode cX7_isAsked 15 = .ok (.lconst 1, 1) := by decide +kernel
theorem dX7_isAsked_16 : decode cX7_isAsked 16 = .ok (.invokestatic 69, 3) := by decide +kernel
theorem dX7_isAsked_19 : decode cX7_isAsked 19 = .ok (.ifCond .eq 7, 3) := by decide +kernel
theorem dX7_isAsked_22 : decode cX7_isAsked 22 = .ok (.iconst 1, 1) := by decide +kernel
theorem dX7_isAsked_23 : decode cX7_isAsked 23 = .ok (.goto 4, 3) := by decide +kernel
theorem dX7_isAsked_26 : decode cX7_isAsked 26 = .ok (.iconst 0, 1) := by decide +kernel
theorem dX7_isAsked_27 : decode cX7_isAsked 27 = .ok (.ireturn, 1) := by decide +kernel
theorem dX7_bestOf_0 : decode cX7_bestOf 0 = .ok (.aload_n 0, 1) := by decide +kernel
theorem dX7_bestOf_1 : decode cX7_bestOf 1 = .ok (.invokevirtual 253, 3) := by decide +kernel
theorem dX7_bestOf_4 : decode cX7_bestOf 4 = .ok (.iconst 0, 1) := by decide +kernel
theorem dX7_bestOf_5 : decode cX7_bestOf 5 = .ok (.istore 5, 2) := by decide +kernel
theorem dX7_bestOf_7 : decode cX7_bestOf 7 = .ok (.iconst (-1), 1) := by decide +kernel
theorem dX7_bestOf_8 : decode cX7_bestOf 8 = .ok (.istore 6, 2) := by decide +kernel
theorem dX7_bestOf_10 : decode cX7_bestOf 10 = .ok (.iconst 0, 1) := by decide +kernel
theorem dX7_bestOf_11 : decode cX7_bestOf 11 = .ok (.istore 7, 2) := by decide +kernel
theorem dX7_bestOf_13 : decode cX7_bestOf 13 = .ok (.iload 7, 2) := by decide +kernel
theorem dX7_bestOf_15 : decode cX7_bestOf 15 = .ok (.iload_n 2, 1) := by decide +kernel
theorem dX7_bestOf_16 : decode cX7_bestOf 16 = .ok (.if_icmp .gt 66, 3) := by decide +kernel
theorem dX7_bestOf_19 : decode cX7_bestOf 19 = .ok (.aload_n 0, 1) := by decide +kernel
theorem dX7_bestOf_20 : decode cX7_bestOf 20 = .ok (.getfield 7, 3) := by decide +kernel
theorem dX7_bestOf_23 : decode cX7_bestOf 23 = .ok (.iload_n 1, 1) := by decide +kernel
theorem dX7_bestOf_24 : decode cX7_bestOf 24 = .ok (.iload 7, 2) := by decide +kernel
theorem dX7_bestOf_26 : decode cX7_bestOf 26 = .ok (.iastore, 1) := by decide +kernel
theorem dX7_bestOf_27 : decode cX7_bestOf 27 = .ok (.aload_n 0, 1) := by decide +kernel
theorem dX7_bestOf_28 : decode cX7_bestOf 28 = .ok (.iload_n 3, 1) := by decide +kernel
theorem dX7_bestOf_29 : decode cX7_bestOf 29 = .ok (.invokevirtual 240, 3) := by decide +kernel
theorem dX7_bestOf_32 : decode cX7_bestOf 32 = .ok (.aload_n 0, 1) := by decide +kernel
theorem dX7_bestOf_33 : decode cX7_bestOf 33 = .ok (.getfield 7, 3) := by decide +kernel
theorem dX7_bestOf_36 : decode cX7_bestOf 36 = .ok (.iconst 5, 1) := by decide +kernel
theorem dX7_bestOf_37 : decode cX7_bestOf 37 = .ok (.iaload, 1) := by decide +kernel
theorem dX7_bestOf_38 : decode cX7_bestOf 38 = .ok (.istore 8, 2) := by decide +kernel
theorem dX7_bestOf_40 : decode cX7_bestOf 40 = .ok (.aload_n 0, 1) := by decide +kernel
theorem dX7_bestOf_41 : decode cX7_bestOf 41 = .ok (.invokevirtual 256, 3) := by decide +kernel
theorem dX7_bestOf_44 : decode cX7_bestOf 44 = .ok (.iload 8, 2) := by decide +kernel
theorem dX7_bestOf_46 : decode cX7_bestOf 46 = .ok (.iload 6, 2) := by decide +kernel
theorem dX7_bestOf_48 : decode cX7_bestOf 48 = .ok (.if_icmp .le 8, 3) := by decide +kernel
theorem dX7_bestOf_51 : decode cX7_bestOf 51 = .ok (.iload 7, 2) := by decide +kernel
theorem dX7_bestOf_53 : decode cX7_bestOf 53 = .ok (.goto 5, 3) := by decide +kernel
theorem dX7_bestOf_56 : decode cX7_bestOf 56 = .ok (.iload 5, 2) := by decide +kernel
theorem dX7_bestOf_58 : decode cX7_bestOf 58 = .ok (.istore 5, 2) := by decide +kernel
theorem dX7_bestOf_60 : decode cX7_bestOf 60 = .ok (.iload 8, 2) := by decide +kernel
theorem dX7_bestOf_62 : decode cX7_bestOf 62 = .ok (.iload 6, 2) := by decide +kernel
theorem dX7_bestOf_64 : decode cX7_bestOf 64 = .ok (.if_icmp .le 8, 3) := by decide +kernel
theorem dX7_bestOf_67 : decode cX7_bestOf 67 = .ok (.iload 8, 2) := by decide +kernel
theorem dX7_bestOf_69 : decode cX7_bestOf 69 = .ok (.goto 5, 3) := by decide +kernel
theorem dX7_bestOf_72 : decode cX7_bestOf 72 = .ok (.iload 6, 2) := by decide +kernel
theorem dX7_bestOf_74 : decode cX7_bestOf 74 = .ok (.istore 6, 2) := by decide +kernel
theorem dX7_bestOf_76 : decode cX7_bestOf 76 = .ok (.iinc 7 1, 3) := by decide +kernel
theorem dX7_bestOf_79 : decode cX7_bestOf 79 = .ok (.goto (-66), 3) := by decide +kernel
theorem dX7_bestOf_82 : decode cX7_bestOf 82 = .ok (.iload 4, 2) := by decide +kernel
theorem dX7_bestOf_84 : decode cX7_bestOf 84 = .ok (.ifCond .ne 8, 3) := by decide +kernel
theorem dX7_bestOf_87 : decode cX7_bestOf 87 = .ok (.iload 5, 2) := by decide +kernel
theorem dX7_bestOf_89 : decode cX7_bestOf 89 = .ok (.goto 5, 3) := by decide +kernel
theorem dX7_bestOf_92 : decode cX7_bestOf 92 = .ok (.iload 6, 2) := by decide +kernel
theorem dX7_bestOf_94 : decode cX7_bestOf 94 = .ok (.ireturn, 1) := by decide +kernel
theorem dX7_faces_0 : decode cX7_faces 0 = .ok (.aload_n 0, 1) := by decide +kernel
theorem dX7_faces_1 : decode cX7_faces 1 = .ok (.iload_n 1, 1) := by decide +kernel
theorem dX7_faces_2 : decode cX7_faces 2 = .ok (.invokevirtual 171, 3) := by decide +kernel
theorem dX7_faces_5 : decode cX7_faces 5 = .ok (.ifCond .eq 29, 3) := by decide +kernel
theorem dX7_faces_8 : decode cX7_faces 8 = .ok (.iload_n 2, 1) := by decide +kernel
theorem dX7_faces_9 : decode cX7_faces 9 = .ok (.iload_n 3, 1) := by decide +kernel
theorem dX7_faces_10 : decode cX7_faces 10 = .ok (.invokestatic 261, 3) := by decide +kernel
theorem dX7_faces_13 : decode cX7_faces 13 = .ok (.ifCond .eq 21, 3) := by decide +kernel
theorem dX7_faces_16 : decode cX7_faces 16 = .ok (.aload_n 0, 1) := by decide +kernel
theorem dX7_faces_17 : decode cX7_faces 17 = .ok (.bipush 10, 2) := by decide +kernel
theorem dX7_faces_19 : decode cX7_faces 19 = .ok (.iconst 4, 1) := by decide +kernel
theorem dX7_faces_20 : decode cX7_faces 20 = .ok (.iload_n 1, 1) := by decide +kernel
theorem dX7_faces_21 : decode cX7_faces 21 = .ok (.imul, 1) := by decide +kernel
theorem dX7_faces_22 : decode cX7_faces 22 = .ok (.iadd, 1) := by decide +kernel
theorem dX7_faces_23 : decode cX7_faces 23 = .ok (.iconst 2, 1) := by decide +kernel
theorem dX7_faces_24 : decode cX7_faces 24 = .ok (.iadd, 1) := by decide +kernel
theorem dX7_faces_25 : decode cX7_faces 25 = .ok (.iconst 3, 1) := by decide +kernel
theorem dX7_faces_26 : decode cX7_faces 26 = .ok (.iload_n 2, 1) := by decide +kernel
theorem dX7_faces_27 : decode cX7_faces 27 = .ok (.iload_n 3, 1) := by decide +kernel
theorem dX7_faces_28 : decode cX7_faces 28 = .ok (.invokevirtual 264, 3) := by decide +kernel
theorem dX7_faces_31 : decode cX7_faces 31 = .ok (.goto 5, 3) := by decide +kernel
theorem dX7_faces_34 : decode cX7_faces 34 = .ok (.ldc 161, 2) := by decide +kernel
theorem dX7_faces_36 : decode cX7_faces 36 = .ok (.ireturn, 1) := by decide +kernel
theorem dX7_becomes_0 : decode cX7_becomes 0 = .ok (.aload_n 0, 1) := by decide +kernel
theorem dX7_becomes_1 : decode cX7_becomes 1 = .ok (.iload_n 1, 1) := by decide +kernel
theorem dX7_becomes_2 : decode cX7_becomes 2 = .ok (.invokevirtual 171, 3) := by decide +kernel
theorem dX7_becomes_5 : decode cX7_becomes 5 = .ok (.ifCond .eq 27, 3) := by decide +kernel
theorem dX7_becomes_8 : decode cX7_becomes 8 = .ok (.iload_n 2, 1) := by decide +kernel
theorem dX7_becomes_9 : decode cX7_becomes 9 = .ok (.iload_n 3, 1) := by decide +kernel
theorem dX7_becomes_10 : decode cX7_becomes 10 = .ok (.invokestatic 261, 3) := by decide +kernel
theorem dX7_becomes_13 : decode cX7_becomes 13 = .ok (.ifCond .eq 19, 3) := by decide +kernel
theorem dX7_becomes_16 : decode cX7_becomes 16 = .ok (.aload_n 0, 1) := by decide +kernel
theorem dX7_becomes_17 : decode cX7_becomes 17 = .ok (.bipush 10, 2) := by decide +kernel
theorem dX7_becomes_19 : decode cX7_becomes 19 = .ok (.iconst 4, 1) := by decide +kernel
theorem dX7_becomes_20 : decode cX7_becomes 20 = .ok (.iload_n 1, 1) := by decide +kernel
theorem dX7_becomes_21 : decode cX7_becomes 21 = .ok (.imul, 1) := by decide +kernel
theorem dX7_becomes_22 : decode cX7_becomes 22 = .ok (.iadd, 1) := by decide +kernel
theorem dX7_becomes_23 : decode cX7_becomes 23 = .ok (.iconst 5, 1) := by decide +kernel
theorem dX7_becomes_24 : decode cX7_becomes 24 = .ok (.iload_n 2, 1) := by decide +kernel
theorem dX7_becomes_25 : decode cX7_becomes 25 = .ok (.iload_n 3, 1) := by decide +kernel
theorem dX7_becomes_26 : decode cX7_becomes 26 = .ok (.invokevirtual 264, 3) := by decide +kernel
theorem dX7_becomes_29 : decode cX7_becomes 29 = .ok (.goto 5, 3) := by decide +kernel
theorem dX7_becomes_32 : decode cX7_becomes 32 = .ok (.ldc 161, 2) := by decide +kernel
theorem dX7_becomes_34 : decode cX7_becomes 34 = .ok (.ireturn, 1) := by decide +kernel
theorem dX7_fee_0 : decode cX7_fee 0 = .ok (.aload_n 0, 1) := by decide +kernel
theorem dX7_fee_1 : decode cX7_fee 1 = .ok (.iconst 1, 1) := by decide +kernel
theorem dX7_fee_2 : decode cX7_fee 2 = .ok (.invokevirtual 88, 3) := by decide +kernel
theorem dX7_fee_5 : decode cX7_fee 5 = .ok (.istore_n 1, 1) := by decide +kernel
theorem dX7_fee_6 : decode cX7_fee 6 = .ok (.iload_n 1, 1) := by decide +kernel
theorem dX7_fee_7 : decode cX7_fee 7 = .ok (.ifCond .ge 10, 3) := by decide +kernel
theorem dX7_fee_10 : decode cX7_fee 10 = .ok (.aload_n 0, 1) := by decide +kernel
theorem dX7_fee_11 : decode cX7_fee 11 = .ok (.getfield 7, 3) := by decide +kernel
theorem dX7_fee_14 : decode cX7_fee 14 = .ok (.iconst 5, 1) := by decide +kernel
theorem dX7_fee_15 : decode cX7_fee 15 = .ok (.iaload, 1) := by decide +kernel
theorem dX7_fee_16 : decode cX7_fee 16 = .ok (.ireturn, 1) := by decide +kernel
theorem dX7_fee_17 : decode cX7_fee 17 = .ok (.aload_n 0, 1) := by decide +kernel
theorem dX7_fee_18 : decode cX7_fee 18 = .ok (.getfield 53, 3) := by decide +kernel
theorem dX7_fee_21 : decode cX7_fee 21 = .ok (.bipush 99, 2) := by decide +kernel
theorem dX7_fee_23 : decode cX7_fee 23 = .ok (.aload_n 0, 1) := by decide +kernel
theorem dX7_fee_24 : decode cX7_fee 24 = .ok (.getfield 7, 3) := by decide +kernel
theorem dX7_fee_27 : decode cX7_fee 27 = .ok (.iconst 5, 1) := by decide +kernel
theorem dX7_fee_28 : decode cX7_fee 28 = .ok (.iaload, 1) := by decide +kernel
theorem dX7_fee_29 : decode cX7_fee 29 = .ok (.iastore, 1) := by decide +kernel
theorem dX7_fee_30 : decode cX7_fee 30 = .ok (.aload_n 0, 1) := by decide +kernel
theorem dX7_fee_31 : decode cX7_fee 31 = .ok (.getfield 53, 3) := by decide +kernel
theorem dX7_fee_34 : decode cX7_fee 34 = .ok (.bipush 117, 2) := by decide +kernel
theorem dX7_fee_36 : decode cX7_fee 36 = .ok (.aload_n 0, 1) := by decide +kernel
theorem dX7_fee_37 : decode cX7_fee 37 = .ok (.getfield 7, 3) := by decide +kernel
theorem dX7_fee_40 : decode cX7_fee 40 = .ok (.bipush 6, 2) := by decide +kernel
theorem dX7_fee_42 : decode cX7_fee 42 = .ok (.iaload, 1) := by decide +kernel
theorem dX7_fee_43 : decode cX7_fee 43 = .ok (.iastore, 1) := by decide +kernel
theorem dX7_fee_44 : decode cX7_fee 44 = .ok (.aload_n 0, 1) := by decide +kernel
theorem dX7_fee_45 : decode cX7_fee 45 = .ok (.iload_n 1, 1) := by decide +kernel
theorem dX7_fee_46 : decode cX7_fee 46 = .ok (.invokevirtual 91, 3) := by decide +kernel
theorem dX7_fee_49 : decode cX7_fee 49 = .ok (.ireturn, 1) := by decide +kernel
theorem dX7_fine_0 : decode cX7_fine 0 = .ok (.aload_n 0, 1) := by decide +kernel
theorem dX7_fine_1 : decode cX7_fine 1 = .ok (.iload_n 1, 1) := by decide +kernel
theorem dX7_fine_2 : decode cX7_fine 2 = .ok (.invokevirtual 171, 3) := by decide +kernel
theorem dX7_fine_5 : decode cX7_fine 5 = .ok (.ifCond .ne 6, 3) := by decide +kernel
theorem dX7_fine_8 : decode cX7_fine 8 = .ok (.ldc 161, 2) := by decide +kernel
theorem dX7_fine_10 : decode cX7_fine 10 = .ok (.ireturn, 1) := by decide +kernel
theorem dX7_fine_11 : decode cX7_fine 11 = .ok (.aload_n 0, 1) := by decide +kernel
theorem dX7_fine_12 : decode cX7_fine 12 = .ok (.iconst 2, 1) := by decide +kernel
theorem dX7_fine_13 : decode cX7_fine 13 = .ok (.invokevirtual 88, 3) := by decide +kernel
theorem dX7_fine_16 : decode cX7_fine 16 = .ok (.istore_n 2, 1) := by decide +kernel
theorem dX7_fine_17 : decode cX7_fine 17 = .ok (.iload_n 2, 1) := by decide +kernel
theorem dX7_fine_18 : decode cX7_fine 18 = .ok (.ifCond .ge 10, 3) := by decide +kernel
theorem dX7_fine_21 : decode cX7_fine 21 = .ok (.aload_n 0, 1) := by decide +kernel
theorem dX7_fine_22 : decode cX7_fine 22 = .ok (.iload_n 1, 1) := by decide +kernel
theorem dX7_fine_23 : decode cX7_fine 23 = .ok (.iconst 2, 1) := by decide +kernel
theorem dX7_fine_24 : decode cX7_fine 24 = .ok (.invokevirtual 76, 3) := by decide +kernel
theorem dX7_fine_27 : decode cX7_fine 27 = .ok (.ireturn, 1) := by decide +kernel
theorem dX7_fine_28 : decode cX7_fine 28 = .ok (.aload_n 0, 1) := by decide +kernel
theorem dX7_fine_29 : decode cX7_fine 29 = .ok (.getfield 53, 3) := by decide +kernel
theorem dX7_fine_32 : decode cX7_fine 32 = .ok (.bipush 116, 2) := by decide +kernel
theorem dX7_fine_34 : decode cX7_fine 34 = .ok (.aload_n 0, 1) := by decide +kernel
theorem dX7_fine_35 : decode cX7_fine 35 = .ok (.iload_n 1, 1) := by decide +kernel
theorem dX7_fine_36 : decode cX7_fine 36 = .ok (.iconst 3, 1) := by decide +kernel
theorem dX7_fine_37 : decode cX7_fine 37 = .ok (.invokevirtual 76, 3) := by decide +kernel
theorem dX7_fine_40 : decode cX7_fine 40 = .ok (.iastore, 1) := by decide +kernel
theorem dX7_fine_41 : decode cX7_fine 41 = .ok (.aload_n 0, 1) := by decide +kernel
theorem dX7_fine_42 : decode cX7_fine 42 = .ok (.getfield 53, 3) := by decide +kernel
theorem dX7_fine_45 : decode cX7_fine 45 = .ok (.bipush 99, 2) := by decide +kernel
theorem dX7_fine_47 : decode cX7_fine 47 = .ok (.aload_n 0, 1) := by decide +kernel
theorem dX7_fine_48 : decode cX7_fine 48 = .ok (.iload_n 1, 1) := by decide +kernel
theorem dX7_fine_49 : decode cX7_fine 49 = .ok (.iconst 1, 1) := by decide +kernel
theorem dX7_fine_50 : decode cX7_fine 50 = .ok (.invokevirtual 76, 3) := by decide +kernel
theorem dX7_fine_53 : decode cX7_fine 53 = .ok (.iastore, 1) := by decide +kernel
theorem dX7_fine_54 : decode cX7_fine 54 = .ok (.aload_n 0, 1) := by decide +kernel
theorem dX7_fine_55 : decode cX7_fine 55 = .ok (.iload_n 2, 1) := by decide +kernel
theorem dX7_fine_56 : decode cX7_fine 56 = .ok (.invokevirtual 91, 3) := by decide +kernel
theorem dX7_fine_59 : decode cX7_fine 59 = .ok (.ireturn, 1) := by decide +kernel
theorem dX7_feed_0 : decode cX7_feed 0 = .ok (.aload_n 0, 1) := by decide +kernel
theorem dX7_feed_1 : decode cX7_feed 1 = .ok (.getfield 268, 3) := by decide +kernel
theorem dX7_feed_4 : decode cX7_feed 4 = .ok (.bipush 12, 2) := by decide +kernel
theorem dX7_feed_6 : decode cX7_feed 6 = .ok (.iadd, 1) := by decide +kernel
theorem dX7_feed_7 : decode cX7_feed 7 = .ok (.bipush 96, 2) := by decide +kernel
theorem dX7_feed_9 : decode cX7_feed 9 = .ok (.if_icmp .le 6, 3) := by decide +kernel
theorem dX7_feed_12 : decode cX7_feed 12 = .ok (.ldc 166, 2) := by decide +kernel
theorem dX7_feed_14 : decode cX7_feed 14 = .ok (.ireturn, 1) := by decide +kernel
theorem dX7_feed_15 : decode cX7_feed 15 = .ok (.iconst 0, 1) := by decide +kernel
theorem dX7_feed_16 : decode cX7_feed 16 = .ok (.istore 4, 2) := by decide +kernel
theorem dX7_feed_18 : decode cX7_feed 18 = .ok (.iload 4, 2) := by decide +kernel
theorem dX7_feed_20 : decode cX7_feed 20 = .ok (.bipush 12, 2) := by decide +kernel
theorem dX7_feed_22 : decode cX7_feed 22 = .ok (.if_icmp .ge 69, 3) := by decide +kernel
theorem dX7_feed_25 : decode cX7_feed 25 = .ok (.iload 4, 2) := by decide +kernel
theorem dX7_feed_27 : decode cX7_feed 27 = .ok (.iconst 4, 1) := by decide +kernel
theorem dX7_feed_28 : decode cX7_feed 28 = .ok (.if_icmp .ge 7, 3) := by decide +kernel
theorem dX7_feed_31 : decode cX7_feed 31 = .ok (.iload_n 1, 1) := by decide +kernel
theorem dX7_feed_32 : decode cX7_feed 32 = .ok (.goto 15, 3) := by decide +kernel
theorem dX7_feed_35 : decode cX7_feed 35 = .ok (.iload 4, 2) := by decide +kernel
theorem dX7_feed_37 : decode cX7_feed 37 = .ok (.bipush 8, 2) := by decide +kernel
theorem dX7_feed_39 : decode cX7_feed 39 = .ok (.if_icmp .ge 7, 3) := by decide +kernel
theorem dX7_feed_42 : decode cX7_feed 42 = .ok (.iload_n 2, 1) := by decide +kernel
theorem dX7_feed_43 : decode cX7_feed 43 = .ok (.goto 4, 3) := by decide +kernel
theorem dX7_feed_46 : decode cX7_feed 46 = .ok (.iload_n 3, 1) := by decide +kernel
theorem dX7_feed_47 : decode cX7_feed 47 = .ok (.istore 5, 2) := by decide +kernel
theorem dX7_feed_49 : decode cX7_feed 49 = .ok (.aload_n 0, 1) := by decide +kernel
theorem dX7_feed_50 : decode cX7_feed 50 = .ok (.getfield 50, 3) := by decide +kernel
theorem dX7_feed_53 : decode cX7_feed 53 = .ok (.aload_n 0, 1) := by decide +kernel
theorem dX7_feed_54 : decode cX7_feed 54 = .ok (.getfield 268, 3) := by decide +kernel
theorem dX7_feed_57 : decode cX7_feed 57 = .ok (.iload 5, 2) := by decide +kernel
theorem dX7_feed_59 : decode cX7_feed 59 = .ok (.bipush 24, 2) := by decide +kernel
theorem dX7_feed_61 : decode cX7_feed 61 = .ok (.bipush 8, 2) := by decide +kernel
theorem dX7_feed_63 : decode cX7_feed 63 = .ok (.iload 4, 2) := by decide +kernel
theorem dX7_feed_65 : decode cX7_feed 65 = .ok (.iconst 4, 1) := by decide +kernel
theorem dX7_feed_66 : decode cX7_feed 66 = .ok (.irem, 1) := by decide +kernel
theorem dX7_feed_67 : decode cX7_feed 67 = .ok (.imul, 1) := by decide +kernel
theorem dX7_feed_68 : decode cX7_feed 68 = .ok (.isub, 1) := by decide +kernel
theorem dX7_feed_69 : decode cX7_feed 69 = .ok (.ishr, 1) := by decide +kernel
theorem dX7_feed_70 : decode cX7_feed 70 = .ok (.sipush 255, 3) := by decide +kernel
theorem dX7_feed_73 : decode cX7_feed 73 = .ok (.iand, 1) := by decide +kernel
theorem dX7_feed_74 : decode cX7_feed 74 = .ok (.iastore, 1) := by decide +kernel
theorem dX7_feed_75 : decode cX7_feed 75 = .ok (.aload_n 0, 1) := by decide +kernel
theorem dX7_feed_76 : decode cX7_feed 76 = .ok (.dup, 1) := by decide +kernel
theorem dX7_feed_77 : decode cX7_feed 77 = .ok (.getfield 268, 3) := by decide +kernel
theorem dX7_feed_80 : decode cX7_feed 80 = .ok (.iconst 1, 1) := by decide +kernel
theorem dX7_feed_81 : decode cX7_feed 81 = .ok (.iadd, 1) := by decide +kernel
theorem dX7_feed_82 : decode cX7_feed 82 = .ok (.putfield 268, 3) := by decide +kernel
theorem dX7_feed_85 : decode cX7_feed 85 = .ok (.iinc 4 1, 3) := by decide +kernel
theorem dX7_feed_88 : decode cX7_feed 88 = .ok (.goto (-70), 3) := by decide +kernel
theorem dX7_feed_91 : decode cX7_feed 91 = .ok (.aload_n 0, 1) := by decide +kernel
theorem dX7_feed_92 : decode cX7_feed 92 = .ok (.getfield 268, 3) := by decide +kernel
theorem dX7_feed_95 : decode cX7_feed 95 = .ok (.ireturn, 1) := by decide +kernel
theorem dX7_trim_0 : decode cX7_trim 0 = .ok (.iload_n 1, 1) := by decide +kernel
theorem dX7_trim_1 : decode cX7_trim 1 = .ok (.i2l, 1) := by decide +kernel
theorem dX7_trim_2 : decode cX7_trim 2 = .ok (.lconst 0, 1) := by decide +kernel
theorem dX7_trim_3 : decode cX7_trim 3 = .ok (.aload_n 0, 1) := by decide +kernel
theorem dX7_trim_4 : decode cX7_trim 4 = .ok (.getfield 268, 3) := by decide +kernel
theorem dX7_trim_7 : decode cX7_trim 7 = .ok (.i2l, 1) := by decide +kernel
theorem dX7_trim_8 : decode cX7_trim 8 = .ok (.invokestatic 69, 3) := by decide +kernel
theorem dX7_trim_11 : decode cX7_trim 11 = .ok (.ifCond .ne 6, 3) := by decide +kernel
theorem dX7_trim_14 : decode cX7_trim 14 = .ok (.ldc 161, 2) := by decide +kernel
theorem dX7_trim_16 : decode cX7_trim 16 = .ok (.ireturn, 1) := by decide +kernel
theorem dX7_trim_17 : decode cX7_trim 17 = .ok (.aload_n 0, 1) := by decide +kernel
theorem dX7_trim_18 : decode cX7_trim 18 = .ok (.iload_n 1, 1) := by decide +kernel
theorem dX7_trim_19 : decode cX7_trim 19 = .ok (.putfield 268, 3) := by decide +kernel
theorem dX7_trim_22 : decode cX7_trim 22 = .ok (.iload_n 1, 1) := by decide +kernel
theorem dX7_trim_23 : decode cX7_trim 23 = .ok (.ireturn, 1) := by decide +kernel
theorem dX7_isLetter_0 : decode cX7_isLetter 0 = .ok (.iload_n 1, 1) := by decide +kernel
theorem dX7_isLetter_1 : decode cX7_isLetter 1 = .ok (.aload_n 0, 1) := by decide +kernel
theorem dX7_isLetter_2 : decode cX7_isLetter 2 = .ok (.getfield 268, 3) := by decide +kernel
theorem dX7_isLetter_5 : decode cX7_isLetter 5 = .ok (.if_icmp .ge 26, 3) := by decide +kernel
theorem dX7_isLetter_8 : decode cX7_isLetter 8 = .ok (.aload_n 0, 1) := by decide +kernel
theorem dX7_isLetter_9 : decode cX7_isLetter 9 = .ok (.getfield 50, 3) := by decide +kernel
theorem dX7_isLetter_12 : decode cX7_isLetter 12 = .ok (.iload_n 1, 1) := by decide +kernel
theorem dX7_isLetter_13 : decode cX7_isLetter 13 = .ok (.iaload, 1) := by decide +kernel
theorem dX7_isLetter_14 : decode cX7_isLetter 14 = .ok (.i2l, 1) := by decide +kernel
theorem dX7_isLetter_15 : decode cX7_isLetter 15 = .ok (.ldc2_w 272, 3) := by decide +kernel
theorem dX7_isLetter_18 : decode cX7_isLetter 18 = .ok (.ldc2_w 274, 3) := by decide +kernel
theorem dX7_isLetter_21 : decode cX7_isLetter 21 = .ok (.invokestatic 69, 3) := by decide +kernel
theorem dX7_isLetter_24 : decode cX7_isLetter 24 = .ok (.ifCond .eq 7, 3) := by decide +kernel
theorem dX7_isLetter_27 : decode cX7_isLetter 27 = .ok (.iconst 1, 1) := by decide +kernel
theorem dX7_isLetter_28 : decode cX7_isLetter 28 = .ok (.goto 4, 3) := by decide +kernel
theorem dX7_isLetter_31 : decode cX7_isLetter 31 = .ok (.iconst 0, 1) := by decide +kernel
theorem dX7_isLetter_32 : decode cX7_isLetter 32 = .ok (.ireturn, 1) := by decide +kernel
theorem dX7_isDigit_0 : decode cX7_isDigit 0 = .ok (.iload_n 1, 1) := by decide +kernel
theorem dX7_isDigit_1 : decode cX7_isDigit 1 = .ok (.aload_n 0, 1) := by decide +kernel
theorem dX7_isDigit_2 : decode cX7_isDigit 2 = .ok (.getfield 268, 3) := by decide +kernel
theorem dX7_isDigit_5 : decode cX7_isDigit 5 = .ok (.if_icmp .ge 26, 3) := by decide +kernel
theorem dX7_isDigit_8 : decode cX7_isDigit 8 = .ok (.aload_n 0, 1) := by decide +kernel
theorem dX7_isDigit_9 : decode cX7_isDigit 9 = .ok (.getfield 50, 3) := by decide +kernel
theorem dX7_isDigit_12 : decode cX7_isDigit 12 = .ok (.iload_n 1, 1) := by decide +kernel
theorem dX7_isDigit_13 : decode cX7_isDigit 13 = .ok (.iaload, 1) := by decide +kernel
theorem dX7_isDigit_14 : decode cX7_isDigit 14 = .ok (.i2l, 1) := by decide +kernel
theorem dX7_isDigit_15 : decode cX7_isDigit 15 = .ok (.ldc2_w 276, 3) := by decide +kernel
theorem dX7_isDigit_18 : decode cX7_isDigit 18 = .ok (.ldc2_w 278, 3) := by decide +kernel
theorem dX7_isDigit_21 : decode cX7_isDigit 21 = .ok (.invokestatic 69, 3) := by decide +kernel
theorem dX7_isDigit_24 : decode cX7_isDigit 24 = .ok (.ifCond .eq 7, 3) := by decide +kernel
theorem dX7_isDigit_27 : decode cX7_isDigit 27 = .ok (.iconst 1, 1) := by decide +kernel
theorem dX7_isDigit_28 : decode cX7_isDigit 28 = .ok (.goto 4, 3) := by decide +kernel
theorem dX7_isDigit_31 : decode cX7_isDigit 31 = .ok (.iconst 0, 1) := by decide +kernel
theorem dX7_isDigit_32 : decode cX7_isDigit 32 = .ok (.ireturn, 1) := by decide +kernel
theorem dX7_nextToken_0 : decode cX7_nextToken 0 = .ok (.aload_n 0, 1) := by decide +kernel
theorem dX7_nextToken_1 : decode cX7_nextToken 1 = .ok (.getfield 280, 3) := by decide +kernel
theorem dX7_nextToken_4 : decode cX7_nextToken 4 = .ok (.ifCond .le 23, 3) := by decide +kernel
theorem dX7_nextToken_7 : decode cX7_nextToken 7 = .ok (.aload_n 0, 1) := by decide +kernel
theorem dX7_nextToken_8 : decode cX7_nextToken 8 = .ok (.getfield 283, 3) := by decide +kernel
theorem dX7_nextToken_11 : decode cX7_nextToken 11 = .ok (.iconst 1, 1) := by decide +kernel
theorem dX7_nextToken_12 : decode cX7_nextToken 12 = .ok (.if_icmp .eq 11, 3) := by decide +kernel
theorem dX7_nextToken_15 : decode cX7_nextToken 15 = .ok (.aload_n 0, 1) := by decide +kernel
theorem dX7_nextToken_16 : decode cX7_nextToken 16 = .ok (.getfield 283, 3) := by decide +kernel
theorem dX7_nextToken_19 : decode cX7_nextToken 19 = .ok (.iconst 2, 1) := by decide +kernel
theorem dX7_nextToken_20 : decode cX7_nextToken 20 = .ok (.if_icmp .ne 7, 3) := by decide +kernel
theorem dX7_nextToken_23 : decode cX7_nextToken 23 = .ok (.iconst 1, 1) := by decide +kernel
theorem dX7_nextToken_24 : decode cX7_nextToken 24 = .ok (.goto 4, 3) := by decide +kernel
theorem dX7_nextToken_27 : decode cX7_nextToken 27 = .ok (.iconst 0, 1) := by decide +kernel
theorem dX7_nextToken_28 : decode cX7_nextToken 28 = .ok (.istore_n 1, 1) := by decide +kernel
theorem dX7_nextToken_29 : decode cX7_nextToken 29 = .ok (.aload_n 0, 1) := by decide +kernel
theorem dX7_nextToken_30 : decode cX7_nextToken 30 = .ok (.getfield 280, 3) := by decide +kernel
theorem dX7_nextToken_33 : decode cX7_nextToken 33 = .ok (.istore_n 2, 1) := by decide +kernel
theorem dX7_nextToken_34 : decode cX7_nextToken 34 = .ok (.aload_n 0, 1) := by decide +kernel
theorem dX7_nextToken_35 : decode cX7_nextToken 35 = .ok (.getfield 280, 3) := by decide +kernel
theorem dX7_nextToken_38 : decode cX7_nextToken 38 = .ok (.aload_n 0, 1) := by decide +kernel
theorem dX7_nextToken_39 : decode cX7_nextToken 39 = .ok (.getfield 268, 3) := by decide +kernel
theorem dX7_nextToken_42 : decode cX7_nextToken 42 = .ok (.if_icmp .ge 30, 3) := by decide +kernel
theorem dX7_nextToken_45 : decode cX7_nextToken 45 = .ok (.aload_n 0, 1) := by decide +kernel
theorem dX7_nextToken_46 : decode cX7_nextToken 46 = .ok (.getfield 50, 3) := by decide +kernel
theorem dX7_nextToken_49 : decode cX7_nextToken 49 = .ok (.aload_n 0, 1) := by decide +kernel
theorem dX7_nextToken_50 : decode cX7_nextToken 50 = .ok (.getfield 280, 3) := by decide +kernel
theorem dX7_nextToken_53 : decode cX7_nextToken 53 = .ok (.iaload, 1) := by decide +kernel
theorem dX7_nextToken_54 : decode cX7_nextToken 54 = .ok (.bipush 32, 2) := by decide +kernel
theorem dX7_nextToken_56 : decode cX7_nextToken 56 = .ok (.if_icmp .ne 16, 3) := by decide +kernel
theorem dX7_nextToken_59 : decode cX7_nextToken 59 = .ok (.aload_n 0, 1) := by decide +kernel
theorem dX7_nextToken_60 : decode cX7_nextToken 60 = .ok (.dup, 1) := by decide +kernel
theorem dX7_nextToken_61 : decode cX7_nextToken 61 = .ok (.getfield 280, 3) := by decide +kernel
theorem dX7_nextToken_64 : decode cX7_nextToken 64 = .ok (.iconst 1, 1) := by decide +kernel
theorem dX7_nextToken_65 : decode cX7_nextToken 65 = .ok (.iadd, 1) := by decide +kernel
theorem dX7_nextToken_66 : decode cX7_nextToken 66 = .ok (.putfield 280, 3) := by decide +kernel
theorem dX7_nextToken_69 : decode cX7_nextToken 69 = .ok (.goto (-35), 3) := by decide +kernel
theorem dX7_nextToken_72 : decode cX7_nextToken 72 = .ok (.iload_n 1, 1) := by decide +kernel
theorem dX7_nextToken_73 : decode cX7_nextToken 73 = .ok (.ifCond .eq 15, 3) := by decide +kernel
theorem dX7_nextToken_76 : decode cX7_nextToken 76 = .ok (.iload_n 2, 1) := by decide +kernel
theorem dX7_nextToken_77 : decode cX7_nextToken 77 = .ok (.aload_n 0, 1) := by decide +kernel
theorem dX7_nextToken_78 : decode cX7_nextToken 78 = .ok (.getfield 280, 3) := by decide +kernel
theorem dX7_nextToken_81 : decode cX7_nextToken 81 = .ok (.if_icmp .ne 7, 3) := by decide +kernel
theorem dX7_nextToken_84 : decode cX7_nextToken 84 = .ok (.iconst 1, 1) := by decide +kernel
theorem dX7_nextToken_85 : decode cX7_nextToken 85 = .ok (.goto 4, 3) := by decide +kernel
theorem dX7_nextToken_88 : decode cX7_nextToken 88 = .ok (.iconst 0, 1) := by decide +kernel
theorem dX7_nextToken_89 : decode cX7_nextToken 89 = .ok (.istore_n 1, 1) := by decide +kernel
theorem dX7_nextToken_90 : decode cX7_nextToken 90 = .ok (.aload_n 0, 1) := by decide +kernel
theorem dX7_nextToken_91 : decode cX7_nextToken 91 = .ok (.aload_n 0, 1) := by decide +kernel
theorem dX7_nextToken_92 : decode cX7_nextToken 92 = .ok (.getfield 280, 3) := by decide +kernel
theorem dX7_nextToken_95 : decode cX7_nextToken 95 = .ok (.putfield 286, 3) := by decide +kernel
theorem dX7_nextToken_98 : decode cX7_nextToken 98 = .ok (.aload_n 0, 1) := by decide +kernel
theorem dX7_nextToken_99 : decode cX7_nextToken 99 = .ok (.getfield 286, 3) := by decide +kernel
theorem dX7_nextToken_102 : decode cX7_nextToken 102 = .ok (.aload_n 0, 1) := by decide +kernel
theorem dX7_nextToken_103 : decode cX7_nextToken 103 = .ok (.getfield 268, 3) := by decide +kernel
theorem dX7_nextToken_106 : decode cX7_nextToken 106 = .ok (.if_icmp .ne 11, 3) := by decide +kernel
theorem dX7_nextToken_109 : decode cX7_nextToken 109 = .ok (.aload_n 0, 1) := by decide +kernel
theorem dX7_nextToken_110 : decode cX7_nextToken 110 = .ok (.iconst 0, 1) := by decide +kernel
theorem dX7_nextToken_111 : decode cX7_nextToken 111 = .ok (.putfield 283, 3) := by decide +kernel
theorem dX7_nextToken_114 : decode cX7_nextToken 114 = .ok (.goto 225, 3) := by decide +kernel
theorem dX7_nextToken_117 : decode cX7_nextToken 117 = .ok (.aload_n 0, 1) := by decide +kernel
theorem dX7_nextToken_118 : decode cX7_nextToken 118 = .ok (.aload_n 0, 1) := by decide +kernel
theorem dX7_nextToken_119 : decode cX7_nextToken 119 = .ok (.getfield 286, 3) := by decide +kernel
theorem dX7_nextToken_122 : decode cX7_nextToken 122 = .ok (.invokevirtual 289, 3) := by decide +kernel
theorem dX7_nextToken_125 : decode cX7_nextToken 125 = .ok (.ifCond .eq 73, 3) := by decide +kernel
theorem dX7_nextToken_128 : decode cX7_nextToken 128 = .ok (.aload_n 0, 1) := by decide +kernel
theorem dX7_nextToken_129 : decode cX7_nextToken 129 = .ok (.aload_n 0, 1) := by decide +kernel
theorem dX7_nextToken_130 : decode cX7_nextToken 130 = .ok (.getfield 280, 3) := by decide +kernel
theorem dX7_nextToken_133 : decode cX7_nextToken 133 = .ok (.invokevirtual 289, 3) := by decide +kernel
theorem dX7_nextToken_136 : decode cX7_nextToken 136 = .ok (.ifCond .eq 16, 3) := by decide +kernel
theorem dX7_nextToken_139 : decode cX7_nextToken 139 = .ok (.aload_n 0, 1) := by decide +kernel
theorem dX7_nextToken_140 : decode cX7_nextToken 140 = .ok (.dup, 1) := by decide +kernel
theorem dX7_nextToken_141 : decode cX7_nextToken 141 = .ok (.getfield 280, 3) := by decide +kernel
theorem dX7_nextToken_144 : decode cX7_nextToken 144 = .ok (.iconst 1, 1) := by decide +kernel
theorem dX7_nextToken_145 : decode cX7_nextToken 145 = .ok (.iadd, 1) := by decide +kernel
theorem dX7_nextToken_146 : decode cX7_nextToken 146 = .ok (.putfield 280, 3) := by decide +kernel
theorem dX7_nextToken_149 : decode cX7_nextToken 149 = .ok (.goto (-21), 3) := by decide +kernel
theorem dX7_nextToken_152 : decode cX7_nextToken 152 = .ok (.aload_n 0, 1) := by decide +kernel
theorem dX7_nextToken_153 : decode cX7_nextToken 153 = .ok (.iload_n 1, 1) := by decide +kernel
theorem dX7_nextToken_154 : decode cX7_nextToken 154 = .ok (.ifCond .eq 7, 3) := by decide +kernel
theorem dX7_nextToken_157 : decode cX7_nextToken 157 = .ok (.iconst 4, 1) := by decide +kernel
theorem dX7_nextToken_158 : decode cX7_nextToken 158 = .ok (.goto 4, 3) := by decide +kernel
theorem dX7_nextToken_161 : decode cX7_nextToken 161 = .ok (.iconst 1, 1) := by decide +kernel
theorem dX7_nextToken_162 : decode cX7_nextToken 162 = .ok (.putfield 283, 3) := by decide +kernel
theorem dX7_nextToken_165 : decode cX7_nextToken 165 = .ok (.aload_n 0, 1) := by decide +kernel
theorem dX7_nextToken_166 : decode cX7_nextToken 166 = .ok (.aload_n 0, 1) := by decide +kernel
theorem dX7_nextToken_167 : decode cX7_nextToken 167 = .ok (.getfield 280, 3) := by decide +kernel
theorem dX7_nextToken_170 : decode cX7_nextToken 170 = .ok (.aload_n 0, 1) := by decide +kernel
theorem dX7_nextToken_171 : decode cX7_nextToken 171 = .ok (.getfield 286, 3) := by decide +kernel
theorem dX7_nextToken_174 : decode cX7_nextToken 174 = .ok (.isub, 1) := by decide +kernel
theorem dX7_nextToken_175 : decode cX7_nextToken 175 = .ok (.iconst 1, 1) := by decide +kernel
theorem dX7_nextToken_176 : decode cX7_nextToken 176 = .ok (.if_icmp .ne 15, 3) := by decide +kernel
theorem dX7_nextToken_179 : decode cX7_nextToken 179 = .ok (.aload_n 0, 1) := by decide +kernel
theorem dX7_nextToken_180 : decode cX7_nextToken 180 = .ok (.getfield 50, 3) := by decide +kernel
theorem dX7_nextToken_183 : decode cX7_nextToken 183 = .ok (.aload_n 0, 1) := by decide +kernel
theorem dX7_nextToken_184 : decode cX7_nextToken 184 = .ok (.getfield 286, 3) := by decide +kernel
theorem dX7_nextToken_187 : decode cX7_nextToken 187 = .ok (.iaload, 1) := by decide +kernel
theorem dX7_nextToken_188 : decode cX7_nextToken 188 = .ok (.goto 4, 3) := by decide +kernel
theorem dX7_nextToken_191 : decode cX7_nextToken 191 = .ok (.iconst 0, 1) := by decide +kernel
theorem dX7_nextToken_192 : decode cX7_nextToken 192 = .ok (.putfield 292, 3) := by decide +kernel
theorem dX7_nextToken_195 : decode cX7_nextToken 195 = .ok (.goto 144, 3) := by decide +kernel
theorem dX7_nextToken_198 : decode cX7_nextToken 198 = .ok (.aload_n 0, 1) := by decide +kernel
theorem dX7_nextToken_199 : decode cX7_nextToken 199 = .ok (.aload_n 0, 1) := by decide +kernel
theorem dX7_nextToken_200 : decode cX7_nextToken 200 = .ok (.getfield 286, 3) := by decide +kernel
theorem dX7_nextToken_203 : decode cX7_nextToken 203 = .ok (.invokevirtual 295, 3) := by decide +kernel
theorem dX7_nextToken_206 : decode cX7_nextToken 206 = .ok (.ifCond .eq 105, 3) := by decide +kernel
theorem dX7_nextToken_209 : decode cX7_nextToken 209 = .ok (.aload_n 0, 1) := by decide +kernel
theorem dX7_nextToken_210 : decode cX7_nextToken 210 = .ok (.iconst 0, 1) := by decide +kernel
theorem dX7_nextToken_211 : decode cX7_nextToken 211 = .ok (.putfield 298, 3) := by decide +kernel
theorem dX7_nextToken_214 : decode cX7_nextToken 214 = .ok (.aload_n 0, 1) := by decide +kernel
theorem dX7_nextToken_215 : decode cX7_nextToken 215 = .ok (.aload_n 0, 1) := by decide +kernel
theorem dX7_nextToken_216 : decode cX7_nextToken 216 = .ok (.getfield 280, 3) := by decide +kernel
theorem dX7_nextToken_219 : decode cX7_nextToken 219 = .ok (.invokevirtual 295, 3) := by decide +kernel
theorem dX7_nextToken_222 : decode cX7_nextToken 222 = .ok (.ifCond .eq 60, 3) := by decide +kernel
theorem dX7_nextToken_225 : decode cX7_nextToken 225 = .ok (.aload_n 0, 1) := by decide +kernel
theorem dX7_nextToken_226 : decode cX7_nextToken 226 = .ok (.aload_n 0, 1) := by decide +kernel
theorem dX7_nextToken_227 : decode cX7_nextToken 227 = .ok (.getfield 280, 3) := by decide +kernel
theorem dX7_nextToken_230 : decode cX7_nextToken 230 = .ok (.aload_n 0, 1) := by decide +kernel
theorem dX7_nextToken_231 : decode cX7_nextToken 231 = .ok (.getfield 286, 3) := by decide +kernel
theorem dX7_nextToken_234 : decode cX7_nextToken 234 = .ok (.isub, 1) := by decide +kernel
theorem dX7_nextToken_235 : decode cX7_nextToken 235 = .ok (.iconst 4, 1) := by decide +kernel
theorem dX7_nextToken_236 : decode cX7_nextToken 236 = .ok (.if_icmp .ge 26, 3) := by decide +kernel
theorem dX7_nextToken_239 : decode cX7_nextToken 239 = .ok (.bipush 10, 2) := by decide +kernel
theorem dX7_nextToken_241 : decode cX7_nextToken 241 = .ok (.aload_n 0, 1) := by decide +kernel
theorem dX7_nextToken_242 : decode cX7_nextToken 242 = .ok (.getfield 298, 3) := by decide +kernel
theorem dX7_nextToken_245 : decode cX7_nextToken 245 = .ok (.imul, 1) := by decide +kernel
theorem dX7_nextToken_246 : decode cX7_nextToken 246 = .ok (.aload_n 0, 1) := by decide +kernel
theorem dX7_nextToken_247 : decode cX7_nextToken 247 = .ok (.getfield 50, 3) := by decide +kernel
theorem dX7_nextToken_250 : decode cX7_nextToken 250 = .ok (.aload_n 0, 1) := by decide +kernel
theorem dX7_nextToken_251 : decode cX7_nextToken 251 = .ok (.getfield 280, 3) := by decide +kernel
theorem dX7_nextToken_254 : decode cX7_nextToken 254 = .ok (.iaload, 1) := by decide +kernel
theorem dX7_nextToken_255 : decode cX7_nextToken 255 = .ok (.iadd, 1) := by decide +kernel
theorem dX7_nextToken_256 : decode cX7_nextToken 256 = .ok (.bipush 48, 2) := by decide +kernel
theorem dX7_nextToken_258 : decode cX7_nextToken 258 = .ok (.isub, 1) := by decide +kernel
theorem dX7_nextToken_259 : decode cX7_nextToken 259 = .ok (.goto 7, 3) := by decide +kernel
theorem dX7_nextToken_262 : decode cX7_nextToken 262 = .ok (.aload_n 0, 1) := by decide +kernel
theorem dX7_nextToken_263 : decode cX7_nextToken 263 = .ok (.getfield 298, 3) := by decide +kernel
theorem dX7_nextToken_266 : decode cX7_nextToken 266 = .ok (.putfield 298, 3) := by decide +kernel
theorem dX7_nextToken_269 : decode cX7_nextToken 269 = .ok (.aload_n 0, 1) := by decide +kernel
theorem dX7_nextToken_270 : decode cX7_nextToken 270 = .ok (.dup, 1) := by decide +kernel
theorem dX7_nextToken_271 : decode cX7_nextToken 271 = .ok (.getfield 280, 3) := by decide +kernel
theorem dX7_nextToken_274 : decode cX7_nextToken 274 = .ok (.iconst 1, 1) := by decide +kernel
theorem dX7_nextToken_275 : decode cX7_nextToken 275 = .ok (.iadd, 1) := by decide +kernel
theorem dX7_nextToken_276 : decode cX7_nextToken 276 = .ok (.putfield 280, 3) := by decide +kernel
theorem dX7_nextToken_279 : decode cX7_nextToken 279 = .ok (.goto (-65), 3) := by decide +kernel
theorem dX7_nextToken_282 : decode cX7_nextToken 282 = .ok (.aload_n 0, 1) := by decide +kernel
theorem dX7_nextToken_283 : decode cX7_nextToken 283 = .ok (.iload_n 1, 1) := by decide +kernel
theorem dX7_nextToken_284 : decode cX7_nextToken 284 = .ok (.ifCond .ne 16, 3) := by decide +kernel
theorem dX7_nextToken_287 : decode cX7_nextToken 287 = .ok (.aload_n 0, 1) := by decide +kernel
theorem dX7_nextToken_288 : decode cX7_nextToken 288 = .ok (.getfield 280, 3) := by decide +kernel
theorem dX7_nextToken_291 : decode cX7_nextToken 291 = .ok (.aload_n 0, 1) := by decide +kernel
theorem dX7_nextToken_292 : decode cX7_nextToken 292 = .ok (.getfield 286, 3) := by decide +kernel
theorem dX7_nextToken_295 : decode cX7_nextToken 295 = .ok (.isub, 1) := by decide +kernel
theorem dX7_nextToken_296 : decode cX7_nextToken 296 = .ok (.iconst 4, 1) := by decide +kernel
theorem dX7_nextToken_297 : decode cX7_nextToken 297 = .ok (.if_icmp .le 7, 3) := by decide +kernel
theorem dX7_nextToken_300 : decode cX7_nextToken 300 = .ok (.iconst 4, 1) := by decide +kernel
theorem dX7_nextToken_301 : decode cX7_nextToken 301 = .ok (.goto 4, 3) := by decide +kernel
theorem dX7_nextToken_304 : decode cX7_nextToken 304 = .ok (.iconst 2, 1) := by decide +kernel
theorem dX7_nextToken_305 : decode cX7_nextToken 305 = .ok (.putfield 283, 3) := by decide +kernel
theorem dX7_nextToken_308 : decode cX7_nextToken 308 = .ok (.goto 31, 3) := by decide +kernel
theorem dX7_nextToken_311 : decode cX7_nextToken 311 = .ok (.aload_n 0, 1) := by decide +kernel
theorem dX7_nextToken_312 : decode cX7_nextToken 312 = .ok (.iconst 3, 1) := by decide +kernel
theorem dX7_nextToken_313 : decode cX7_nextToken 313 = .ok (.putfield 283, 3) := by decide +kernel
theorem dX7_nextToken_316 : decode cX7_nextToken 316 = .ok (.aload_n 0, 1) := by decide +kernel
theorem dX7_nextToken_317 : decode cX7_nextToken 317 = .ok (.aload_n 0, 1) := by decide +kernel
theorem dX7_nextToken_318 : decode cX7_nextToken 318 = .ok (.getfield 50, 3) := by decide +kernel
theorem dX7_nextToken_321 : decode cX7_nextToken 321 = .ok (.aload_n 0, 1) := by decide +kernel
theorem dX7_nextToken_322 : decode cX7_nextToken 322 = .ok (.getfield 286, 3) := by decide +kernel
theorem dX7_nextToken_325 : decode cX7_nextToken 325 = .ok (.iaload, 1) := by decide +kernel
theorem dX7_nextToken_326 : decode cX7_nextToken 326 = .ok (.putfield 292, 3) := by decide +kernel
theorem dX7_nextToken_329 : decode cX7_nextToken 329 = .ok (.aload_n 0, 1) := by decide +kernel
theorem dX7_nextToken_330 : decode cX7_nextToken 330 = .ok (.dup, 1) := by decide +kernel
theorem dX7_nextToken_331 : decode cX7_nextToken 331 = .ok (.getfield 280, 3) := by decide +kernel
theorem dX7_nextToken_334 : decode cX7_nextToken 334 = .ok (.iconst 1, 1) := by decide +kernel
theorem dX7_nextToken_335 : decode cX7_nextToken 335 = .ok (.iadd, 1) := by decide +kernel
theorem dX7_nextToken_336 : decode cX7_nextToken 336 = .ok (.putfield 280, 3) := by decide +kernel
theorem dX7_nextToken_339 : decode cX7_nextToken 339 = .ok (.return_, 1) := by decide +kernel
theorem dX7_isSign_0 : decode cX7_isSign 0 = .ok (.aload_n 0, 1) := by decide +kernel
theorem dX7_isSign_1 : decode cX7_isSign 1 = .ok (.getfield 283, 3) := by decide +kernel
theorem dX7_isSign_4 : decode cX7_isSign 4 = .ok (.iconst 3, 1) := by decide +kernel
theorem dX7_isSign_5 : decode cX7_isSign 5 = .ok (.if_icmp .ne 15, 3) := by decide +kernel
theorem dX7_isSign_8 : decode cX7_isSign 8 = .ok (.aload_n 0, 1) := by decide +kernel
theorem dX7_isSign_9 : decode cX7_isSign 9 = .ok (.getfield 292, 3) := by decide +kernel
theorem dX7_isSign_12 : decode cX7_isSign 12 = .ok (.iload_n 1, 1) := by decide +kernel
theorem dX7_isSign_13 : decode cX7_isSign 13 = .ok (.if_icmp .ne 7, 3) := by decide +kernel
theorem dX7_isSign_16 : decode cX7_isSign 16 = .ok (.iconst 1, 1) := by decide +kernel
theorem dX7_isSign_17 : decode cX7_isSign 17 = .ok (.goto 4, 3) := by decide +kernel
theorem dX7_isSign_20 : decode cX7_isSign 20 = .ok (.iconst 0, 1) := by decide +kernel
theorem dX7_isSign_21 : decode cX7_isSign 21 = .ok (.ireturn, 1) := by decide +kernel
theorem dX7_isWordAt_0 : decode cX7_isWordAt 0 = .ok (.iload 4, 2) := by decide +kernel
theorem dX7_isWordAt_2 : decode cX7_isWordAt 2 = .ok (.ifCond .ne 7, 3) := by decide +kernel
theorem dX7_isWordAt_5 : decode cX7_isWordAt 5 = .ok (.iconst 3, 1) := by decide +kernel
theorem dX7_isWordAt_6 : decode cX7_isWordAt 6 = .ok (.goto 4, 3) := by decide +kernel
theorem dX7_isWordAt_9 : decode cX7_isWordAt 9 = .ok (.iconst 4, 1) := by decide +kernel
theorem dX7_isWordAt_10 : decode cX7_isWordAt 10 = .ok (.istore 5, 2) := by decide +kernel
theorem dX7_isWordAt_12 : decode cX7_isWordAt 12 = .ok (.aload_n 0, 1) := by decide +kernel
theorem dX7_isWordAt_13 : decode cX7_isWordAt 13 = .ok (.getfield 283, 3) := by decide +kernel
theorem dX7_isWordAt_16 : decode cX7_isWordAt 16 = .ok (.iconst 1, 1) := by decide +kernel
theorem dX7_isWordAt_17 : decode cX7_isWordAt 17 = .ok (.if_icmp .ne 85, 3) := by decide +kernel
theorem dX7_isWordAt_20 : decode cX7_isWordAt 20 = .ok (.aload_n 0, 1) := by decide +kernel
theorem dX7_isWordAt_21 : decode cX7_isWordAt 21 = .ok (.getfield 280, 3) := by decide +kernel
theorem dX7_isWordAt_24 : decode cX7_isWordAt 24 = .ok (.aload_n 0, 1) := by decide +kernel
theorem dX7_isWordAt_25 : decode cX7_isWordAt 25 = .ok (.getfield 286, 3) := by decide +kernel
theorem dX7_isWordAt_28 : decode cX7_isWordAt 28 = .ok (.isub, 1) := by decide +kernel
theorem dX7_isWordAt_29 : decode cX7_isWordAt 29 = .ok (.iload 5, 2) := by decide +kernel
theorem dX7_isWordAt_31 : decode cX7_isWordAt 31 = .ok (.if_icmp .ne 71, 3) := by decide +kernel
theorem dX7_isWordAt_34 : decode cX7_isWordAt 34 = .ok (.aload_n 0, 1) := by decide +kernel
theorem dX7_isWordAt_35 : decode cX7_isWordAt 35 = .ok (.getfield 50, 3) := by decide +kernel
theorem dX7_isWordAt_38 : decode cX7_isWordAt 38 = .ok (.aload_n 0, 1) := by decide +kernel
theorem dX7_isWordAt_39 : decode cX7_isWordAt 39 = .ok (.getfield 286, 3) := by decide +kernel
theorem dX7_isWordAt_42 : decode cX7_isWordAt 42 = .ok (.iaload, 1) := by decide +kernel
theorem dX7_isWordAt_43 : decode cX7_isWordAt 43 = .ok (.iload_n 1, 1) := by decide +kernel
theorem dX7_isWordAt_44 : decode cX7_isWordAt 44 = .ok (.if_icmp .ne 58, 3) := by decide +kernel
theorem dX7_isWordAt_47 : decode cX7_isWordAt 47 = .ok (.aload_n 0, 1) := by decide +kernel
theorem dX7_isWordAt_48 : decode cX7_isWordAt 48 = .ok (.getfield 50, 3) := by decide +kernel
theorem dX7_isWordAt_51 : decode cX7_isWordAt 51 = .ok (.aload_n 0, 1) := by decide +kernel
theorem dX7_isWordAt_52 : decode cX7_isWordAt 52 = .ok (.getfield 286, 3) := by decide +kernel
theorem dX7_isWordAt_55 : decode cX7_isWordAt 55 = .ok (.iconst 1, 1) := by decide +kernel
theorem dX7_isWordAt_56 : decode cX7_isWordAt 56 = .ok (.iadd, 1) := by decide +kernel
theorem dX7_isWordAt_57 : decode cX7_isWordAt 57 = .ok (.iaload, 1) := by decide +kernel
theorem dX7_isWordAt_58 : decode cX7_isWordAt 58 = .ok (.iload_n 2, 1) := by decide +kernel
theorem dX7_isWordAt_59 : decode cX7_isWordAt 59 = .ok (.if_icmp .ne 43, 3) := by decide +kernel
theorem dX7_isWordAt_62 : decode cX7_isWordAt 62 = .ok (.aload_n 0, 1) := by decide +kernel
theorem dX7_isWordAt_63 : decode cX7_isWordAt 63 = .ok (.getfield 50, 3) := by decide +kernel
theorem dX7_isWordAt_66 : decode cX7_isWordAt 66 = .ok (.aload_n 0, 1) := by decide +kernel
theorem dX7_isWordAt_67 : decode cX7_isWordAt 67 = .ok (.getfield 286, 3) := by decide +kernel
theorem dX7_isWordAt_70 : decode cX7_isWordAt 70 = .ok (.iconst 2, 1) := by decide +kernel
theorem dX7_isWordAt_71 : decode cX7_isWordAt 71 = .ok (.iadd, 1) := by decide +kernel
theorem dX7_isWordAt_72 : decode cX7_isWordAt 72 = .ok (.iaload, 1) := by decide +kernel
theorem dX7_isWordAt_73 : decode cX7_isWordAt 73 = .ok (.iload_n 3, 1) := by decide +kernel
theorem dX7_isWordAt_74 : decode cX7_isWordAt 74 = .ok (.if_icmp .ne 28, 3) := by decide +kernel
theorem dX7_isWordAt_77 : decode cX7_isWordAt 77 = .ok (.iload 4, 2) := by decide +kernel
theorem dX7_isWordAt_79 : decode cX7_isWordAt 79 = .ok (.ifCond .eq 19, 3) := by decide +kernel
theorem dX7_isWordAt_82 : decode cX7_isWordAt 82 = .ok (.aload_n 0, 1) := by decide +kernel
theorem dX7_isWordAt_83 : decode cX7_isWordAt 83 = .ok (.getfield 50, 3) := by decide +kernel
theorem dX7_isWordAt_86 : decode cX7_isWordAt 86 = .ok (.aload_n 0, 1) := by decide +kernel
theorem dX7_isWordAt_87 : decode cX7_isWordAt 87 = .ok (.getfield 286, 3) := by decide +kernel
theorem dX7_isWordAt_90 : decode cX7_isWordAt 90 = .ok (.iconst 3, 1) := by decide +kernel
theorem dX7_isWordAt_91 : decode cX7_isWordAt 91 = .ok (.iadd, 1) := by decide +kernel
theorem dX7_isWordAt_92 : decode cX7_isWordAt 92 = .ok (.iaload, 1) := by decide +kernel
theorem dX7_isWordAt_93 : decode cX7_isWordAt 93 = .ok (.iload 4, 2) := by decide +kernel
theorem dX7_isWordAt_95 : decode cX7_isWordAt 95 = .ok (.if_icmp .ne 7, 3) := by decide +kernel
theorem dX7_isWordAt_98 : decode cX7_isWordAt 98 = .ok (.iconst 1, 1) := by decide +kernel
theorem dX7_isWordAt_99 : decode cX7_isWordAt 99 = .ok (.goto 4, 3) := by decide +kernel
theorem dX7_isWordAt_102 : decode cX7_isWordAt 102 = .ok (.iconst 0, 1) := by decide +kernel
theorem dX7_isWordAt_103 : decode cX7_isWordAt 103 = .ok (.ireturn, 1) := by decide +kernel
theorem dX7_isLong_0 : decode cX7_isLong 0 = .ok (.iload 6, 2) := by decide +kernel
theorem dX7_isLong_2 : decode cX7_isLong 2 = .ok (.ifCond .ne 7, 3) := by decide +kernel
theorem dX7_isLong_5 : decode cX7_isLong 5 = .ok (.iconst 5, 1) := by decide +kernel
theorem dX7_isLong_6 : decode cX7_isLong 6 = .ok (.goto 5, 3) := by decide +kernel
theorem dX7_isLong_9 : decode cX7_isLong 9 = .ok (.bipush 6, 2) := by decide +kernel
theorem dX7_isLong_11 : decode cX7_isLong 11 = .ok (.istore 7, 2) := by decide +kernel
theorem dX7_isLong_13 : decode cX7_isLong 13 = .ok (.aload_n 0, 1) := by decide +kernel
theorem dX7_isLong_14 : decode cX7_isLong 14 = .ok (.getfield 283, 3) := by decide +kernel
theorem dX7_isLong_17 : decode cX7_isLong 17 = .ok (.iconst 1, 1) := by decide +kernel
theorem dX7_isLong_18 : decode cX7_isLong 18 = .ok (.if_icmp .ne 117, 3) := by decide +kernel
theorem dX7_isLong_21 : decode cX7_isLong 21 = .ok (.aload_n 0, 1) := by decide +kernel
theorem dX7_isLong_22 : decode cX7_isLong 22 = .ok (.getfield 280, 3) := by decide +kernel
theorem dX7_isLong_25 : decode cX7_isLong 25 = .ok (.aload_n 0, 1) := by decide +kernel
theorem dX7_isLong_26 : decode cX7_isLong 26 = .ok (.getfield 286, 3) := by decide +kernel
theorem dX7_isLong_29 : decode cX7_isLong 29 = .ok (.isub, 1) := by decide +kernel
theorem dX7_isLong_30 : decode cX7_isLong 30 = .ok (.iload 7, 2) := by decide +kernel
theorem dX7_isLong_32 : decode cX7_isLong 32 = .ok (.if_icmp .ne 103, 3) := by decide +kernel
theorem dX7_isLong_35 : decode cX7_isLong 35 = .ok (.aload_n 0, 1) := by decide +kernel
theorem dX7_isLong_36 : decode cX7_isLong 36 = .ok (.getfield 50, 3) := by decide +kernel
theorem dX7_isLong_39 : decode cX7_isLong 39 = .ok (.aload_n 0, 1) := by decide +kernel
theorem dX7_isLong_40 : decode cX7_isLong 40 = .ok (.getfield 286, 3) := by decide +kernel
theorem dX7_isLong_43 : decode cX7_isLong 43 = .ok (.iaload, 1) := by decide +kernel
theorem dX7_isLong_44 : decode cX7_isLong 44 = .ok (.iload_n 1, 1) := by decide +kernel
theorem dX7_isLong_45 : decode cX7_isLong 45 = .ok (.if_icmp .ne 90, 3) := by decide +kernel
theorem dX7_isLong_48 : decode cX7_isLong 48 = .ok (.aload_n 0, 1) := by decide +kernel
theorem dX7_isLong_49 : decode cX7_isLong 49 = .ok (.getfield 50, 3) := by decide +kernel
theorem dX7_isLong_52 : decode cX7_isLong 52 = .ok (.aload_n 0, 1) := by decide +kernel
theorem dX7_isLong_53 : decode cX7_isLong 53 = .ok (.getfield 286, 3) := by decide +kernel
theorem dX7_isLong_56 : decode cX7_isLong 56 = .ok (.iconst 1, 1) := by decide +kernel
theorem dX7_isLong_57 : decode cX7_isLong 57 = .ok (.iadd, 1) := by decide +kernel
theorem dX7_isLong_58 : decode cX7_isLong 58 = .ok (.iaload, 1) := by decide +kernel
theorem dX7_isLong_59 : decode cX7_isLong 59 = .ok (.iload_n 2, 1) := by decide +kernel
theorem dX7_isLong_60 : decode cX7_isLong 60 = .ok (.if_icmp .ne 75, 3) := by decide +kernel
theorem dX7_isLong_63 : decode cX7_isLong 63 = .ok (.aload_n 0, 1) := by decide +kernel
theorem dX7_isLong_64 : decode cX7_isLong 64 = .ok (.getfield 50, 3) := by decide +kernel
theorem dX7_isLong_67 : decode cX7_isLong 67 = .ok (.aload_n 0, 1) := by decide +kernel
theorem dX7_isLong_68 : decode cX7_isLong 68 = .ok (.getfield 286, 3) := by decide +kernel
theorem dX7_isLong_71 : decode cX7_isLong 71 = .ok (.iconst 2, 1) := by decide +kernel
theorem dX7_isLong_72 : decode cX7_isLong 72 = .ok (.iadd, 1) := by decide +kernel
theorem dX7_isLong_73 : decode cX7_isLong 73 = .ok (.iaload, 1) := by decide +kernel
theorem dX7_isLong_74 : decode cX7_isLong 74 = .ok (.iload_n 3, 1) := by decide +kernel
theorem dX7_isLong_75 : decode cX7_isLong 75 = .ok (.if_icmp .ne 60, 3) := by decide +kernel
theorem dX7_isLong_78 : decode cX7_isLong 78 = .ok (.aload_n 0, 1) := by decide +kernel
theorem dX7_isLong_79 : decode cX7_isLong 79 = .ok (.getfield 50, 3) := by decide +kernel
theorem dX7_isLong_82 : decode cX7_isLong 82 = .ok (.aload_n 0, 1) := by decide +kernel
theorem dX7_isLong_83 : decode cX7_isLong 83 = .ok (.getfield 286, 3) := by decide +kernel
theorem dX7_isLong_86 : decode cX7_isLong 86 = .ok (.iconst 3, 1) := by decide +kernel
theorem dX7_isLong_87 : decode cX7_isLong 87 = .ok (.iadd, 1) := by decide +kernel
theorem dX7_isLong_88 : decode cX7_isLong 88 = .ok (.iaload, 1) := by decide +kernel
theorem dX7_isLong_89 : decode cX7_isLong 89 = .ok (.iload 4, 2) := by decide +kernel
theorem dX7_isLong_91 : decode cX7_isLong 91 = .ok (.if_icmp .ne 44, 3) := by decide +kernel
theorem dX7_isLong_94 : decode cX7_isLong 94 = .ok (.aload_n 0, 1) := by decide +kernel
theorem dX7_isLong_95 : decode cX7_isLong 95 = .ok (.getfield 50, 3) := by decide +kernel
theorem dX7_isLong_98 : decode cX7_isLong 98 = .ok (.aload_n 0, 1) := by decide +kernel
theorem dX7_isLong_99 : decode cX7_isLong 99 = .ok (.getfield 286, 3) := by decide +kernel
theorem dX7_isLong_102 : decode cX7_isLong 102 = .ok (.iconst 4, 1) := by decide +kernel
theorem dX7_isLong_103 : decode cX7_isLong 103 = .ok (.iadd, 1) := by decide +kernel
theorem dX7_isLong_104 : decode cX7_isLong 104 = .ok (.iaload, 1) := by decide +kernel
theorem dX7_isLong_105 : decode cX7_isLong 105 = .ok (.iload 5, 2) := by decide +kernel
theorem dX7_isLong_107 : decode cX7_isLong 107 = .ok (.if_icmp .ne 28, 3) := by decide +kernel
theorem dX7_isLong_110 : decode cX7_isLong 110 = .ok (.iload 6, 2) := by decide +kernel
theorem dX7_isLong_112 : decode cX7_isLong 112 = .ok (.ifCond .eq 19, 3) := by decide +kernel
theorem dX7_isLong_115 : decode cX7_isLong 115 = .ok (.aload_n 0, 1) := by decide +kernel
theorem dX7_isLong_116 : decode cX7_isLong 116 = .ok (.getfield 50, 3) := by decide +kernel
theorem dX7_isLong_119 : decode cX7_isLong 119 = .ok (.aload_n 0, 1) := by decide +kernel
theorem dX7_isLong_120 : decode cX7_isLong 120 = .ok (.getfield 286, 3) := by decide +kernel
theorem dX7_isLong_123 : decode cX7_isLong 123 = .ok (.iconst 5, 1) := by decide +kernel
theorem dX7_isLong_124 : decode cX7_isLong 124 = .ok (.iadd, 1) := by decide +kernel
theorem dX7_isLong_125 : decode cX7_isLong 125 = .ok (.iaload, 1) := by decide +kernel
theorem dX7_isLong_126 : decode cX7_isLong 126 = .ok (.iload 6, 2) := by decide +kernel
theorem dX7_isLong_128 : decode cX7_isLong 128 = .ok (.if_icmp .ne 7, 3) := by decide +kernel
theorem dX7_isLong_131 : decode cX7_isLong 131 = .ok (.iconst 1, 1) := by decide +kernel
theorem dX7_isLong_132 : decode cX7_isLong 132 = .ok (.goto 4, 3) := by decide +kernel
theorem dX7_isLong_135 : decode cX7_isLong 135 = .ok (.iconst 0, 1) := by decide +kernel
theorem dX7_isLong_136 : decode cX7_isLong 136 = .ok (.ireturn, 1) := by decide +kernel
theorem dX7_key_0 : decode cX7_key 0 = .ok (.aload_n 0, 1) := by decide +kernel
theorem dX7_key_1 : decode cX7_key 1 = .ok (.bipush 114, 2) := by decide +kernel
theorem dX7_key_3 : decode cX7_key 3 = .ok (.bipush 101, 2) := by decide +kernel
theorem dX7_key_5 : decode cX7_key 5 = .ok (.bipush 97, 2) := by decide +kernel
theorem dX7_key_7 : decode cX7_key 7 = .ok (.bipush 99, 2) := by decide +kernel
theorem dX7_key_9 : decode cX7_key 9 = .ok (.bipush 104, 2) := by decide +kernel
theorem dX7_key_11 : decode cX7_key 11 = .ok (.iconst 0, 1) := by decide +kernel
theorem dX7_key_12 : decode cX7_key 12 = .ok (.invokevirtual 301, 3) := by decide +kernel
theorem dX7_key_15 : decode cX7_key 15 = .ok (.ifCond .eq 5, 3) := by decide +kernel
theorem dX7_key_18 : decode cX7_key 18 = .ok (.iconst 0, 1) := by decide +kernel
theorem dX7_key_19 : decode cX7_key 19 = .ok (.ireturn, 1) := by decide +kernel
theorem dX7_key_20 : decode cX7_key 20 = .ok (.aload_n 0, 1) := by decide +kernel
theorem dX7_key_21 : decode cX7_key 21 = .ok (.bipush 102, 2) := by decide +kernel
theorem dX7_key_23 : decode cX7_key 23 = .ok (.bipush 101, 2) := by decide +kernel
theorem dX7_key_25 : decode cX7_key 25 = .ok (.bipush 101, 2) := by decide +kernel
theorem dX7_key_27 : decode cX7_key 27 = .ok (.iconst 0, 1) := by decide +kernel
theorem dX7_key_28 : decode cX7_key 28 = .ok (.invokevirtual 305, 3) := by decide +kernel
theorem dX7_key_31 : decode cX7_key 31 = .ok (.ifCond .eq 5, 3) := by decide +kernel
theorem dX7_key_34 : decode cX7_key 34 = .ok (.iconst 1, 1) := by decide +kernel
theorem dX7_key_35 : decode cX7_key 35 = .ok (.ireturn, 1) := by decide +kernel
theorem dX7_key_36 : decode cX7_key 36 = .ok (.aload_n 0, 1) := by decide +kernel
theorem dX7_key_37 : decode cX7_key 37 = .ok (.bipush 102, 2) := by decide +kernel
theorem dX7_key_39 : decode cX7_key 39 = .ok (.bipush 105, 2) := by decide +kernel
theorem dX7_key_41 : decode cX7_key 41 = .ok (.bipush 110, 2) := by decide +kernel
theorem dX7_key_43 : decode cX7_key 43 = .ok (.bipush 101, 2) := by decide +kernel
theorem dX7_key_45 : decode cX7_key 45 = .ok (.invokevirtual 305, 3) := by decide +kernel
theorem dX7_key_48 : decode cX7_key 48 = .ok (.ifCond .eq 7, 3) := by decide +kernel
theorem dX7_key_51 : decode cX7_key 51 = .ok (.iconst 2, 1) := by decide +kernel
theorem dX7_key_52 : decode cX7_key 52 = .ok (.goto 4, 3) := by decide +kernel
theorem dX7_key_55 : decode cX7_key 55 = .ok (.iconst (-1), 1) := by decide +kernel
theorem dX7_key_56 : decode cX7_key 56 = .ok (.ireturn, 1) := by decide +kernel
theorem dX7_isName_0 : decode cX7_isName 0 = .ok (.iload_n 0, 1) := by decide +kernel
theorem dX7_isName_1 : decode cX7_isName 1 = .ok (.lookupswitch 69 #[(0, 27), (1, 51)], 27) := by decide +kernel
theorem dX7_isName_28 : decode cX7_isName 28 = .ok (.iload_n 1, 1) := by decide +kernel
theorem dX7_isName_29 : decode cX7_isName 29 = .ok (.bipush 116, 2) := by decide +kernel
theorem dX7_isName_31 : decode cX7_isName 31 = .ok (.if_icmp .eq 15, 3) := by decide +kernel
theorem dX7_isName_34 : decode cX7_isName 34 = .ok (.iload_n 1, 1) := by decide +kernel
theorem dX7_isName_35 : decode cX7_isName 35 = .ok (.bipush 115, 2) := by decide +kernel
theorem dX7_isName_37 : decode cX7_isName 37 = .ok (.if_icmp .eq 9, 3) := by decide +kernel
theorem dX7_isName_40 : decode cX7_isName 40 = .ok (.iload_n 1, 1) := by decide +kernel
theorem dX7_isName_41 : decode cX7_isName 41 = .ok (.bipush 104, 2) := by decide +kernel
theorem dX7_isName_43 : decode cX7_isName 43 = .ok (.if_icmp .ne 7, 3) := by decide +kernel
theorem dX7_isName_46 : decode cX7_isName 46 = .ok (.iconst 1, 1) := by decide +kernel
theorem dX7_isName_47 : decode cX7_isName 47 = .ok (.goto 4, 3) := by decide +kernel
theorem dX7_isName_50 : decode cX7_isName 50 = .ok (.iconst 0, 1) := by decide +kernel
theorem dX7_isName_51 : decode cX7_isName 51 = .ok (.ireturn, 1) := by decide +kernel
theorem dX7_isName_52 : decode cX7_isName 52 = .ok (.iload_n 1, 1) := by decide +kernel
theorem dX7_isName_53 : decode cX7_isName 53 = .ok (.bipush 99, 2) := by decide +kernel
theorem dX7_isName_55 : decode cX7_isName 55 = .ok (.if_icmp .eq 9, 3) := by decide +kernel
theorem dX7_isName_58 : decode cX7_isName 58 = .ok (.iload_n 1, 1) := by decide +kernel
theorem dX7_isName_59 : decode cX7_isName 59 = .ok (.bipush 117, 2) := by decide +kernel
theorem dX7_isName_61 : decode cX7_isName 61 = .ok (.if_icmp .ne 7, 3) := by decide +kernel
theorem dX7_isName_64 : decode cX7_isName 64 = .ok (.iconst 1, 1) := by decide +kernel
theorem dX7_isName_65 : decode cX7_isName 65 = .ok (.goto 4, 3) := by decide +kernel
theorem dX7_isName_68 : decode cX7_isName 68 = .ok (.iconst 0, 1) := by decide +kernel
theorem dX7_isName_69 : decode cX7_isName 69 = .ok (.ireturn, 1) := by decide +kernel
theorem dX7_isName_70 : decode cX7_isName 70 = .ok (.iload_n 1, 1) := by decide +kernel
theorem dX7_isName_71 : decode cX7_isName 71 = .ok (.bipush 116, 2) := by decide +kernel
theorem dX7_isName_73 : decode cX7_isName 73 = .ok (.if_icmp .eq 9, 3) := by decide +kernel
theorem dX7_isName_76 : decode cX7_isName 76 = .ok (.iload_n 1, 1) := by decide +kernel
theorem dX7_isName_77 : decode cX7_isName 77 = .ok (.bipush 99, 2) := by decide +kernel
theorem dX7_isName_79 : decode cX7_isName 79 = .ok (.if_icmp .ne 7, 3) := by decide +kernel
theorem dX7_isName_82 : decode cX7_isName 82 = .ok (.iconst 1, 1) := by decide +kernel
theorem dX7_isName_83 : decode cX7_isName 83 = .ok (.goto 4, 3) := by decide +kernel
theorem dX7_isName_86 : decode cX7_isName 86 = .ok (.iconst 0, 1) := by decide +kernel
theorem dX7_isName_87 : decode cX7_isName 87 = .ok (.ireturn, 1) := by decide +kernel
theorem dX7_step_0 : decode cX7_step 0 = .ok (.aload_n 0, 1) := by decide +kernel
theorem dX7_step_1 : decode cX7_step 1 = .ok (.getfield 7, 3) := by decide +kernel
theorem dX7_step_4 : decode cX7_step 4 = .ok (.aload_n 0, 1) := by decide +kernel
theorem dX7_step_5 : decode cX7_step 5 = .ok (.getfield 308, 3) := by decide +kernel
theorem dX7_step_8 : decode cX7_step 8 = .ok (.iconst 2, 1) := by decide +kernel
theorem dX7_step_9 : decode cX7_step 9 = .ok (.aload_n 0, 1) := by decide +kernel
theorem dX7_step_10 : decode cX7_step 10 = .ok (.getfield 311, 3) := by decide +kernel
theorem dX7_step_13 : decode cX7_step 13 = .ok (.imul, 1) := by decide +kernel
theorem dX7_step_14 : decode cX7_step 14 = .ok (.iadd, 1) := by decide +kernel
theorem dX7_step_15 : decode cX7_step 15 = .ok (.iload_n 1, 1) := by decide +kernel
theorem dX7_step_16 : decode cX7_step 16 = .ok (.iastore, 1) := by decide +kernel
theorem dX7_step_17 : decode cX7_step 17 = .ok (.aload_n 0, 1) := by decide +kernel
theorem dX7_step_18 : decode cX7_step 18 = .ok (.getfield 7, 3) := by decide +kernel
theorem dX7_step_21 : decode cX7_step 21 = .ok (.aload_n 0, 1) := by decide +kernel
theorem dX7_step_22 : decode cX7_step 22 = .ok (.getfield 308, 3) := by decide +kernel
theorem dX7_step_25 : decode cX7_step 25 = .ok (.iconst 2, 1) := by decide +kernel
theorem dX7_step_26 : decode cX7_step 26 = .ok (.aload_n 0, 1) := by decide +kernel
theorem dX7_step_27 : decode cX7_step 27 = .ok (.getfield 311, 3) := by decide +kernel
theorem dX7_step_30 : decode cX7_step 30 = .ok (.imul, 1) := by decide +kernel
theorem dX7_step_31 : decode cX7_step 31 = .ok (.iadd, 1) := by decide +kernel
theorem dX7_step_32 : decode cX7_step 32 = .ok (.iconst 1, 1) := by decide +kernel
theorem dX7_step_33 : decode cX7_step 33 = .ok (.iadd, 1) := by decide +kernel
theorem dX7_step_34 : decode cX7_step 34 = .ok (.iload_n 2, 1) := by decide +kernel
theorem dX7_step_35 : decode cX7_step 35 = .ok (.iastore, 1) := by decide +kernel
theorem dX7_step_36 : decode cX7_step 36 = .ok (.aload_n 0, 1) := by decide +kernel
theorem dX7_step_37 : decode cX7_step 37 = .ok (.dup, 1) := by decide +kernel
theorem dX7_step_38 : decode cX7_step 38 = .ok (.getfield 311, 3) := by decide +kernel
theorem dX7_step_41 : decode cX7_step 41 = .ok (.iconst 1, 1) := by decide +kernel
theorem dX7_step_42 : decode cX7_step 42 = .ok (.iadd, 1) := by decide +kernel
theorem dX7_step_43 : decode cX7_step 43 = .ok (.putfield 311, 3) := by decide +kernel
theorem dX7_step_46 : decode cX7_step 46 = .ok (.return_, 1) := by decide +kernel
theorem dX7_either_0 : decode cX7_either 0 = .ok (.aload_n 0, 1) := by decide +kernel
theorem dX7_either_1 : decode cX7_either 1 = .ok (.iload_n 1, 1) := by decide +kernel
theorem dX7_either_2 : decode cX7_either 2 = .ok (.invokevirtual 314, 3) := by decide +kernel
theorem dX7_either_5 : decode cX7_either 5 = .ok (.ifCond .ne 5, 3) := by decide +kernel
theorem dX7_either_8 : decode cX7_either 8 = .ok (.iconst 0, 1) := by decide +kernel
theorem dX7_either_9 : decode cX7_either 9 = .ok (.ireturn, 1) := by decide +kernel
theorem dX7_either_10 : decode cX7_either 10 = .ok (.aload_n 0, 1) := by decide +kernel
theorem dX7_either_11 : decode cX7_either 11 = .ok (.bipush 124, 2) := by decide +kernel
theorem dX7_either_13 : decode cX7_either 13 = .ok (.invokevirtual 317, 3) := by decide +kernel
theorem dX7_either_16 : decode cX7_either 16 = .ok (.ifCond .eq 27, 3) := by decide +kernel
theorem dX7_either_19 : decode cX7_either 19 = .ok (.aload_n 0, 1) := by decide +kernel
theorem dX7_either_20 : decode cX7_either 20 = .ok (.invokevirtual 320, 3) := by decide +kernel
theorem dX7_either_23 : decode cX7_either 23 = .ok (.aload_n 0, 1) := by decide +kernel
theorem dX7_either_24 : decode cX7_either 24 = .ok (.iload_n 1, 1) := by decide +kernel
theorem dX7_either_25 : decode cX7_either 25 = .ok (.invokevirtual 314, 3) := by decide +kernel
theorem dX7_either_28 : decode cX7_either 28 = .ok (.ifCond .ne 5, 3) := by decide +kernel
theorem dX7_either_31 : decode cX7_either 31 = .ok (.iconst 0, 1) := by decide +kernel
theorem dX7_either_32 : decode cX7_either 32 = .ok (.ireturn, 1) := by decide +kernel
theorem dX7_either_33 : decode cX7_either 33 = .ok (.aload_n 0, 1) := by decide +kernel
theorem dX7_either_34 : decode cX7_either 34 = .ok (.iconst 2, 1) := by decide +kernel
theorem dX7_either_35 : decode cX7_either 35 = .ok (.bipush 124, 2) := by decide +kernel
theorem dX7_either_37 : decode cX7_either 37 = .ok (.invokevirtual 323, 3) := by decide +kernel
theorem dX7_either_40 : decode cX7_either 40 = .ok (.goto (-30), 3) := by decide +kernel
theorem dX7_either_43 : decode cX7_either 43 = .ok (.iconst 1, 1) := by decide +kernel
theorem dX7_either_44 : decode cX7_either 44 = .ok (.ireturn, 1) := by decide +kernel
theorem dX7_both_0 : decode cX7_both 0 = .ok (.aload_n 0, 1) := by decide +kernel
theorem dX7_both_1 : decode cX7_both 1 = .ok (.iload_n 1, 1) := by decide +kernel
theorem dX7_both_2 : decode cX7_both 2 = .ok (.invokevirtual 327, 3) := by decide +kernel
theorem dX7_both_5 : decode cX7_both 5 = .ok (.ifCond .ne 5, 3) := by decide +kernel
theorem dX7_both_8 : decode cX7_both 8 = .ok (.iconst 0, 1) := by decide +kernel
theorem dX7_both_9 : decode cX7_both 9 = .ok (.ireturn, 1) := by decide +kernel
theorem dX7_both_10 : decode cX7_both 10 = .ok (.aload_n 0, 1) := by decide +kernel
theorem dX7_both_11 : decode cX7_both 11 = .ok (.bipush 38, 2) := by decide +kernel
theorem dX7_both_13 : decode cX7_both 13 = .ok (.invokevirtual 317, 3) := by decide +kernel
theorem dX7_both_16 : decode cX7_both 16 = .ok (.ifCond .eq 27, 3) := by decide +kernel
theorem dX7_both_19 : decode cX7_both 19 = .ok (.aload_n 0, 1) := by decide +kernel
theorem dX7_both_20 : decode cX7_both 20 = .ok (.invokevirtual 320, 3) := by decide +kernel
theorem dX7_both_23 : decode cX7_both 23 = .ok (.aload_n 0, 1) := by decide +kernel
theorem dX7_both_24 : decode cX7_both 24 = .ok (.iload_n 1, 1) := by decide +kernel
theorem dX7_both_25 : decode cX7_both 25 = .ok (.invokevirtual 327, 3) := by decide +kernel
theorem dX7_both_28 : decode cX7_both 28 = .ok (.ifCond .ne 5, 3) := by decide +kernel
theorem dX7_both_31 : decode cX7_both 31 = .ok (.iconst 0, 1) := by decide +kernel
theorem dX7_both_32 : decode cX7_both 32 = .ok (.ireturn, 1) := by decide +kernel
theorem dX7_both_33 : decode cX7_both 33 = .ok (.aload_n 0, 1) := by decide +kernel
theorem dX7_both_34 : decode cX7_both 34 = .ok (.iconst 2, 1) := by decide +kernel
theorem dX7_both_35 : decode cX7_both 35 = .ok (.bipush 38, 2) := by decide +kernel
theorem dX7_both_37 : decode cX7_both 37 = .ok (.invokevirtual 323, 3) := by decide +kernel
theorem dX7_both_40 : decode cX7_both 40 = .ok (.goto (-30), 3) := by decide +kernel
theorem dX7_both_43 : decode cX7_both 43 = .ok (.iconst 1, 1) := by decide +kernel
theorem dX7_both_44 : decode cX7_both 44 = .ok (.ireturn, 1) := by decide +kernel
theorem dX7_test_0 : decode cX7_test 0 = .ok (.aload_n 0, 1) := by decide +kernel
theorem dX7_test_1 : decode cX7_test 1 = .ok (.iload_n 1, 1) := by decide +kernel
theorem dX7_test_2 : decode cX7_test 2 = .ok (.invokevirtual 330, 3) := by decide +kernel
theorem dX7_test_5 : decode cX7_test 5 = .ok (.ifCond .ne 5, 3) := by decide +kernel
theorem dX7_test_8 : decode cX7_test 8 = .ok (.iconst 0, 1) := by decide +kernel
theorem dX7_test_9 : decode cX7_test 9 = .ok (.ireturn, 1) := by decide +kernel
theorem dX7_test_10 : decode cX7_test 10 = .ok (.aload_n 0, 1) := by decide +kernel
theorem dX7_test_11 : decode cX7_test 11 = .ok (.bipush 60, 2) := by decide +kernel
theorem dX7_test_13 : decode cX7_test 13 = .ok (.invokevirtual 317, 3) := by decide +kernel
theorem dX7_test_16 : decode cX7_test 16 = .ok (.ifCond .ne 21, 3) := by decide +kernel
theorem dX7_test_19 : decode cX7_test 19 = .ok (.aload_n 0, 1) := by decide +kernel
theorem dX7_test_20 : decode cX7_test 20 = .ok (.bipush 61, 2) := by decide +kernel
theorem dX7_test_22 : decode cX7_test 22 = .ok (.invokevirtual 317, 3) := by decide +kernel
theorem dX7_test_25 : decode cX7_test 25 = .ok (.ifCond .ne 12, 3) := by decide +kernel
theorem dX7_test_28 : decode cX7_test 28 = .ok (.aload_n 0, 1) := by decide +kernel
theorem dX7_test_29 : decode cX7_test 29 = .ok (.bipush 62, 2) := by decide +kernel
theorem dX7_test_31 : decode cX7_test 31 = .ok (.invokevirtual 317, 3) := by decide +kernel
theorem dX7_test_34 : decode cX7_test 34 = .ok (.ifCond .eq 28, 3) := by decide +kernel
theorem dX7_test_37 : decode cX7_test 37 = .ok (.aload_n 0, 1) := by decide +kernel
theorem dX7_test_38 : decode cX7_test 38 = .ok (.getfield 292, 3) := by decide +kernel
theorem dX7_test_41 : decode cX7_test 41 = .ok (.istore_n 2, 1) := by decide +kernel
theorem dX7_test_42 : decode cX7_test 42 = .ok (.aload_n 0, 1) := by decide +kernel
theorem dX7_test_43 : decode cX7_test 43 = .ok (.invokevirtual 320, 3) := by decide +kernel
theorem dX7_test_46 : decode cX7_test 46 = .ok (.aload_n 0, 1) := by decide +kernel
theorem dX7_test_47 : decode cX7_test 47 = .ok (.iload_n 1, 1) := by decide +kernel
theorem dX7_test_48 : decode cX7_test 48 = .ok (.invokevirtual 330, 3) := by decide +kernel
theorem dX7_test_51 : decode cX7_test 51 = .ok (.ifCond .ne 5, 3) := by decide +kernel
theorem dX7_test_54 : decode cX7_test 54 = .ok (.iconst 0, 1) := by decide +kernel
theorem dX7_test_55 : decode cX7_test 55 = .ok (.ireturn, 1) := by decide +kernel
theorem dX7_test_56 : decode cX7_test 56 = .ok (.aload_n 0, 1) := by decide +kernel
theorem dX7_test_57 : decode cX7_test 57 = .ok (.iconst 2, 1) := by decide +kernel
theorem dX7_test_58 : decode cX7_test 58 = .ok (.iload_n 2, 1) := by decide +kernel
theorem dX7_test_59 : decode cX7_test 59 = .ok (.invokevirtual 323, 3) := by decide +kernel
theorem dX7_test_62 : decode cX7_test 62 = .ok (.iconst 1, 1) := by decide +kernel
theorem dX7_test_63 : decode cX7_test 63 = .ok (.ireturn, 1) := by decide +kernel
theorem dX7_sum_0 : decode cX7_sum 0 = .ok (.aload_n 0, 1) := by decide +kernel
theorem dX7_sum_1 : decode cX7_sum 1 = .ok (.iload_n 1, 1) := by decide +kernel
theorem dX7_sum_2 : decode cX7_sum 2 = .ok (.invokevirtual 333, 3) := by decide +kernel
theorem dX7_sum_5 : decode cX7_sum 5 = .ok (.ifCond .ne 5, 3) := by decide +kernel
theorem dX7_sum_8 : decode cX7_sum 8 = .ok (.iconst 0, 1) := by decide +kernel
theorem dX7_sum_9 : decode cX7_sum 9 = .ok (.ireturn, 1) := by decide +kernel
theorem dX7_sum_10 : decode cX7_sum 10 = .ok (.aload_n 0, 1) := by decide +kernel
theorem dX7_sum_11 : decode cX7_sum 11 = .ok (.bipush 43, 2) := by decide +kernel
theorem dX7_sum_13 : decode cX7_sum 13 = .ok (.invokevirtual 317, 3) := by decide +kernel
theorem dX7_sum_16 : decode cX7_sum 16 = .ok (.ifCond .ne 12, 3) := by decide +kernel
theorem dX7_sum_19 : decode cX7_sum 19 = .ok (.aload_n 0, 1) := by decide +kernel
theorem dX7_sum_20 : decode cX7_sum 20 = .ok (.bipush 45, 2) := by decide +kernel
theorem dX7_sum_22 : decode cX7_sum 22 = .ok (.invokevirtual 317, 3) := by decide +kernel
theorem dX7_sum_25 : decode cX7_sum 25 = .ok (.ifCond .eq 31, 3) := by decide +kernel
theorem dX7_sum_28 : decode cX7_sum 28 = .ok (.aload_n 0, 1) := by decide +kernel
theorem dX7_sum_29 : decode cX7_sum 29 = .ok (.getfield 292, 3) := by decide +kernel
theorem dX7_sum_32 : decode cX7_sum 32 = .ok (.istore_n 2, 1) := by decide +kernel
theorem dX7_sum_33 : decode cX7_sum 33 = .ok (.aload_n 0, 1) := by decide +kernel
theorem dX7_sum_34 : decode cX7_sum 34 = .ok (.invokevirtual 320, 3) := by decide +kernel
theorem dX7_sum_37 : decode cX7_sum 37 = .ok (.aload_n 0, 1) := by decide +kernel
theorem dX7_sum_38 : decode cX7_sum 38 = .ok (.iload_n 1, 1) := by decide +kernel
theorem dX7_sum_39 : decode cX7_sum 39 = .ok (.invokevirtual 333, 3) := by decide +kernel
theorem dX7_sum_42 : decode cX7_sum 42 = .ok (.ifCond .ne 5, 3) := by decide +kernel
theorem dX7_sum_45 : decode cX7_sum 45 = .ok (.iconst 0, 1) := by decide +kernel
theorem dX7_sum_46 : decode cX7_sum 46 = .ok (.ireturn, 1) := by decide +kernel
theorem dX7_sum_47 : decode cX7_sum 47 = .ok (.aload_n 0, 1) := by decide +kernel
theorem dX7_sum_48 : decode cX7_sum 48 = .ok (.iconst 2, 1) := by decide +kernel
theorem dX7_sum_49 : decode cX7_sum 49 = .ok (.iload_n 2, 1) := by decide +kernel
theorem dX7_sum_50 : decode cX7_sum 50 = .ok (.invokevirtual 323, 3) := by decide +kernel
theorem dX7_sum_53 : decode cX7_sum 53 = .ok (.goto (-43), 3) := by decide +kernel
theorem dX7_sum_56 : decode cX7_sum 56 = .ok (.iconst 1, 1) := by decide +kernel
theorem dX7_sum_57 : decode cX7_sum 57 = .ok (.ireturn, 1) := by decide +kernel
theorem dX7_term_0 : decode cX7_term 0 = .ok (.aload_n 0, 1) := by decide +kernel
theorem dX7_term_1 : decode cX7_term 1 = .ok (.iload_n 1, 1) := by decide +kernel
theorem dX7_term_2 : decode cX7_term 2 = .ok (.invokevirtual 336, 3) := by decide +kernel
theorem dX7_term_5 : decode cX7_term 5 = .ok (.ifCond .ne 5, 3) := by decide +kernel
theorem dX7_term_8 : decode cX7_term 8 = .ok (.iconst 0, 1) := by decide +kernel
theorem dX7_term_9 : decode cX7_term 9 = .ok (.ireturn, 1) := by decide +kernel
theorem dX7_term_10 : decode cX7_term 10 = .ok (.aload_n 0, 1) := by decide +kernel
theorem dX7_term_11 : decode cX7_term 11 = .ok (.bipush 42, 2) := by decide +kernel
theorem dX7_term_13 : decode cX7_term 13 = .ok (.invokevirtual 317, 3) := by decide +kernel
theorem dX7_term_16 : decode cX7_term 16 = .ok (.ifCond .ne 12, 3) := by decide +kernel
theorem dX7_term_19 : decode cX7_term 19 = .ok (.aload_n 0, 1) := by decide +kernel
theorem dX7_term_20 : decode cX7_term 20 = .ok (.bipush 47, 2) := by decide +kernel
theorem dX7_term_22 : decode cX7_term 22 = .ok (.invokevirtual 317, 3) := by decide +kernel
theorem dX7_term_25 : decode cX7_term 25 = .ok (.ifCond .eq 31, 3) := by decide +kernel
theorem dX7_term_28 : decode cX7_term 28 = .ok (.aload_n 0, 1) := by decide +kernel
theorem dX7_term_29 : decode cX7_term 29 = .ok (.getfield 292, 3) := by decide +kernel
theorem dX7_term_32 : decode cX7_term 32 = .ok (.istore_n 2, 1) := by decide +kernel
theorem dX7_term_33 : decode cX7_term 33 = .ok (.aload_n 0, 1) := by decide +kernel
theorem dX7_term_34 : decode cX7_term 34 = .ok (.invokevirtual 320, 3) := by decide +kernel
theorem dX7_term_37 : decode cX7_term 37 = .ok (.aload_n 0, 1) := by decide +kernel
theorem dX7_term_38 : decode cX7_term 38 = .ok (.iload_n 1, 1) := by decide +kernel
theorem dX7_term_39 : decode cX7_term 39 = .ok (.invokevirtual 336, 3) := by decide +kernel
theorem dX7_term_42 : decode cX7_term 42 = .ok (.ifCond .ne 5, 3) := by decide +kernel
theorem dX7_term_45 : decode cX7_term 45 = .ok (.iconst 0, 1) := by decide +kernel
theorem dX7_term_46 : decode cX7_term 46 = .ok (.ireturn, 1) := by decide +kernel
theorem dX7_term_47 : decode cX7_term 47 = .ok (.aload_n 0, 1) := by decide +kernel
theorem dX7_term_48 : decode cX7_term 48 = .ok (.iconst 2, 1) := by decide +kernel
theorem dX7_term_49 : decode cX7_term 49 = .ok (.iload_n 2, 1) := by decide +kernel
theorem dX7_term_50 : decode cX7_term 50 = .ok (.invokevirtual 323, 3) := by decide +kernel
theorem dX7_term_53 : decode cX7_term 53 = .ok (.goto (-43), 3) := by decide +kernel
theorem dX7_term_56 : decode cX7_term 56 = .ok (.iconst 1, 1) := by decide +kernel
theorem dX7_term_57 : decode cX7_term 57 = .ok (.ireturn, 1) := by decide +kernel
theorem dX7_part0_0 : decode cX7_part0 0 = .ok (.aload_n 0, 1) := by decide +kernel
theorem dX7_part0_1 : decode cX7_part0 1 = .ok (.getfield 283, 3) := by decide +kernel
theorem dX7_part0_4 : decode cX7_part0 4 = .ok (.iconst 2, 1) := by decide +kernel
theorem dX7_part0_5 : decode cX7_part0 5 = .ok (.if_icmp .ne 28, 3) := by decide +kernel
theorem dX7_part0_8 : decode cX7_part0 8 = .ok (.aload_n 0, 1) := by decide +kernel
theorem dX7_part0_9 : decode cX7_part0 9 = .ok (.iconst 0, 1) := by decide +kernel
theorem dX7_part0_10 : decode cX7_part0 10 = .ok (.aload_n 0, 1) := by decide +kernel
theorem dX7_part0_11 : decode cX7_part0 11 = .ok (.getfield 298, 3) := by decide +kernel
theorem dX7_part0_14 : decode cX7_part0 14 = .ok (.invokevirtual 323, 3) := by decide +kernel
theorem dX7_part0_17 : decode cX7_part0 17 = .ok (.aload_n 0, 1) := by decide +kernel
theorem dX7_part0_18 : decode cX7_part0 18 = .ok (.dup, 1) := by decide +kernel
theorem dX7_part0_19 : decode cX7_part0 19 = .ok (.getfield 339, 3) := by decide +kernel
theorem dX7_part0_22 : decode cX7_part0 22 = .ok (.iconst 1, 1) := by decide +kernel
theorem dX7_part0_23 : decode cX7_part0 23 = .ok (.iadd, 1) := by decide +kernel
theorem dX7_part0_24 : decode cX7_part0 24 = .ok (.putfield 339, 3) := by decide +kernel
theorem dX7_part0_27 : decode cX7_part0 27 = .ok (.aload_n 0, 1) := by decide +kernel
theorem dX7_part0_28 : decode cX7_part0 28 = .ok (.invokevirtual 320, 3) := by decide +kernel
theorem dX7_part0_31 : decode cX7_part0 31 = .ok (.iconst 1, 1) := by decide +kernel
theorem dX7_part0_32 : decode cX7_part0 32 = .ok (.ireturn, 1) := by decide +kernel
theorem dX7_part0_33 : decode cX7_part0 33 = .ok (.aload_n 0, 1) := by decide +kernel
theorem dX7_part0_34 : decode cX7_part0 34 = .ok (.getfield 283, 3) := by decide +kernel
theorem dX7_part0_37 : decode cX7_part0 37 = .ok (.iconst 1, 1) := by decide +kernel
theorem dX7_part0_38 : decode cX7_part0 38 = .ok (.if_icmp .ne 46, 3) := by decide +kernel
theorem dX7_part0_41 : decode cX7_part0 41 = .ok (.aload_n 0, 1) := by decide +kernel
theorem dX7_part0_42 : decode cX7_part0 42 = .ok (.getfield 292, 3) := by decide +kernel
theorem dX7_part0_45 : decode cX7_part0 45 = .ok (.ifCond .eq 39, 3) := by decide +kernel
theorem dX7_part0_48 : decode cX7_part0 48 = .ok (.iload_n 1, 1) := by decide +kernel
theorem dX7_part0_49 : decode cX7_part0 49 = .ok (.aload_n 0, 1) := by decide +kernel
theorem dX7_part0_50 : decode cX7_part0 50 = .ok (.getfield 292, 3) := by decide +kernel
theorem dX7_part0_53 : decode cX7_part0 53 = .ok (.invokestatic 342, 3) := by decide +kernel
theorem dX7_part0_56 : decode cX7_part0 56 = .ok (.ifCond .eq 28, 3) := by decide +kernel
theorem dX7_part0_59 : decode cX7_part0 59 = .ok (.aload_n 0, 1) := by decide +kernel
theorem dX7_part0_60 : decode cX7_part0 60 = .ok (.iconst 1, 1) := by decide +kernel
theorem dX7_part0_61 : decode cX7_part0 61 = .ok (.aload_n 0, 1) := by decide +kernel
theorem dX7_part0_62 : decode cX7_part0 62 = .ok (.getfield 292, 3) := by decide +kernel
theorem dX7_part0_65 : decode cX7_part0 65 = .ok (.invokevirtual 323, 3) := by decide +kernel
theorem dX7_part0_68 : decode cX7_part0 68 = .ok (.aload_n 0, 1) := by decide +kernel
theorem dX7_part0_69 : decode cX7_part0 69 = .ok (.dup, 1) := by decide +kernel
theorem dX7_part0_70 : decode cX7_part0 70 = .ok (.getfield 339, 3) := by decide +kernel
theorem dX7_part0_73 : decode cX7_part0 73 = .ok (.iconst 1, 1) := by decide +kernel
theorem dX7_part0_74 : decode cX7_part0 74 = .ok (.iadd, 1) := by decide +kernel
theorem dX7_part0_75 : decode cX7_part0 75 = .ok (.putfield 339, 3) := by decide +kernel
theorem dX7_part0_78 : decode cX7_part0 78 = .ok (.aload_n 0, 1) := by decide +kernel
theorem dX7_part0_79 : decode cX7_part0 79 = .ok (.invokevirtual 320, 3) := by decide +kernel
theorem dX7_part0_82 : decode cX7_part0 82 = .ok (.iconst 1, 1) := by decide +kernel
theorem dX7_part0_83 : decode cX7_part0 83 = .ok (.ireturn, 1) := by decide +kernel
theorem dX7_part0_84 : decode cX7_part0 84 = .ok (.aload_n 0, 1) := by decide +kernel
theorem dX7_part0_85 : decode cX7_part0 85 = .ok (.bipush 33, 2) := by decide +kernel
theorem dX7_part0_87 : decode cX7_part0 87 = .ok (.invokevirtual 317, 3) := by decide +kernel
theorem dX7_part0_90 : decode cX7_part0 90 = .ok (.ifCond .eq 55, 3) := by decide +kernel
theorem dX7_part0_93 : decode cX7_part0 93 = .ok (.aload_n 0, 1) := by decide +kernel
theorem dX7_part0_94 : decode cX7_part0 94 = .ok (.getfield 345, 3) := by decide +kernel
theorem dX7_part0_97 : decode cX7_part0 97 = .ok (.bipush 8, 2) := by decide +kernel
theorem dX7_part0_99 : decode cX7_part0 99 = .ok (.if_icmp .ge 46, 3) := by decide +kernel
theorem dX7_part0_102 : decode cX7_part0 102 = .ok (.aload_n 0, 1) := by decide +kernel
theorem dX7_part0_103 : decode cX7_part0 103 = .ok (.dup, 1) := by decide +kernel
theorem dX7_part0_104 : decode cX7_part0 104 = .ok (.getfield 345, 3) := by decide +kernel
theorem dX7_part0_107 : decode cX7_part0 107 = .ok (.iconst 1, 1) := by decide +kernel
theorem dX7_part0_108 : decode cX7_part0 108 = .ok (.iadd, 1) := by decide +kernel
theorem dX7_part0_109 : decode cX7_part0 109 = .ok (.putfield 345, 3) := by decide +kernel
theorem dX7_part0_112 : decode cX7_part0 112 = .ok (.aload_n 0, 1) := by decide +kernel
theorem dX7_part0_113 : decode cX7_part0 113 = .ok (.invokevirtual 320, 3) := by decide +kernel
theorem dX7_part0_116 : decode cX7_part0 116 = .ok (.aload_n 0, 1) := by decide +kernel
theorem dX7_part0_117 : decode cX7_part0 117 = .ok (.iload_n 1, 1) := by decide +kernel
theorem dX7_part0_118 : decode cX7_part0 118 = .ok (.invokevirtual 336, 3) := by decide +kernel
theorem dX7_part0_121 : decode cX7_part0 121 = .ok (.ifCond .ne 5, 3) := by decide +kernel
theorem dX7_part0_124 : decode cX7_part0 124 = .ok (.iconst 0, 1) := by decide +kernel
theorem dX7_part0_125 : decode cX7_part0 125 = .ok (.ireturn, 1) := by decide +kernel
theorem dX7_part0_126 : decode cX7_part0 126 = .ok (.aload_n 0, 1) := by decide +kernel
theorem dX7_part0_127 : decode cX7_part0 127 = .ok (.dup, 1) := by decide +kernel
theorem dX7_part0_128 : decode cX7_part0 128 = .ok (.getfield 345, 3) := by decide +kernel
theorem dX7_part0_131 : decode cX7_part0 131 = .ok (.iconst 1, 1) := by decide +kernel
theorem dX7_part0_132 : decode cX7_part0 132 = .ok (.isub, 1) := by decide +kernel
theorem dX7_part0_133 : decode cX7_part0 133 = .ok (.putfield 345, 3) := by decide +kernel
theorem dX7_part0_136 : decode cX7_part0 136 = .ok (.aload_n 0, 1) := by decide +kernel
theorem dX7_part0_137 : decode cX7_part0 137 = .ok (.iconst 2, 1) := by decide +kernel
theorem dX7_part0_138 : decode cX7_part0 138 = .ok (.bipush 33, 2) := by decide +kernel
theorem dX7_part0_140 : decode cX7_part0 140 = .ok (.invokevirtual 323, 3) := by decide +kernel
theorem dX7_part0_143 : decode cX7_part0 143 = .ok (.iconst 1, 1) := by decide +kernel
theorem dX7_part0_144 : decode cX7_part0 144 = .ok (.ireturn, 1) := by decide +kernel
theorem dX7_part0_145 : decode cX7_part0 145 = .ok (.aload_n 0, 1) := by decide +kernel
theorem dX7_part0_146 : decode cX7_part0 146 = .ok (.bipush 40, 2) := by decide +kernel
theorem dX7_part0_148 : decode cX7_part0 148 = .ok (.invokevirtual 317, 3) := by decide +kernel
theorem dX7_part0_151 : decode cX7_part0 151 = .ok (.ifCond .eq 12, 3) := by decide +kernel
theorem dX7_part0_154 : decode cX7_part0 154 = .ok (.aload_n 0, 1) := by decide +kernel
theorem dX7_part0_155 : decode cX7_part0 155 = .ok (.getfield 348, 3) := by decide +kernel
theorem dX7_part0_158 : decode cX7_part0 158 = .ok (.bipush 8, 2) := by decide +kernel
theorem dX7_part0_160 : decode cX7_part0 160 = .ok (.if_icmp .ne 5, 3) := by decide +kernel
theorem dX7_part0_163 : decode cX7_part0 163 = .ok (.iconst 0, 1) := by decide +kernel
theorem dX7_part0_164 : decode cX7_part0 164 = .ok (.ireturn, 1) := by decide +kernel
theorem dX7_part0_165 : decode cX7_part0 165 = .ok (.aload_n 0, 1) := by decide +kernel
theorem dX7_part0_166 : decode cX7_part0 166 = .ok (.dup, 1) := by decide +kernel
theorem dX7_part0_167 : decode cX7_part0 167 = .ok (.getfield 348, 3) := by decide +kernel
theorem dX7_part0_170 : decode cX7_part0 170 = .ok (.iconst 1, 1) := by decide +kernel
theorem dX7_part0_171 : decode cX7_part0 171 = .ok (.iadd, 1) := by decide +kernel
theorem dX7_part0_172 : decode cX7_part0 172 = .ok (.putfield 348, 3) := by decide +kernel
theorem dX7_part0_175 : decode cX7_part0 175 = .ok (.aload_n 0, 1) := by decide +kernel
theorem dX7_part0_176 : decode cX7_part0 176 = .ok (.invokevirtual 320, 3) := by decide +kernel
theorem dX7_part0_179 : decode cX7_part0 179 = .ok (.aload_n 0, 1) := by decide +kernel
theorem dX7_part0_180 : decode cX7_part0 180 = .ok (.iload_n 1, 1) := by decide +kernel
theorem dX7_part0_181 : decode cX7_part0 181 = .ok (.invokevirtual 351, 3) := by decide +kernel
theorem dX7_part0_184 : decode cX7_part0 184 = .ok (.ifCond .eq 12, 3) := by decide +kernel
theorem dX7_part0_187 : decode cX7_part0 187 = .ok (.aload_n 0, 1) := by decide +kernel
theorem dX7_part0_188 : decode cX7_part0 188 = .ok (.bipush 41, 2) := by decide +kernel
theorem dX7_part0_190 : decode cX7_part0 190 = .ok (.invokevirtual 317, 3) := by decide +kernel
theorem dX7_part0_193 : decode cX7_part0 193 = .ok (.ifCond .ne 5, 3) := by decide +kernel
theorem dX7_part0_196 : decode cX7_part0 196 = .ok (.iconst 0, 1) := by decide +kernel
theorem dX7_part0_197 : decode cX7_part0 197 = .ok (.ireturn, 1) := by decide +kernel
theorem dX7_part0_198 : decode cX7_part0 198 = .ok (.aload_n 0, 1) := by decide +kernel
theorem dX7_part0_199 : decode cX7_part0 199 = .ok (.dup, 1) := by decide +kernel
theorem dX7_part0_200 : decode cX7_part0 200 = .ok (.getfield 348, 3) := by decide +kernel
theorem dX7_part0_203 : decode cX7_part0 203 = .ok (.iconst 1, 1) := by decide +kernel
theorem dX7_part0_204 : decode cX7_part0 204 = .ok (.isub, 1) := by decide +kernel
theorem dX7_part0_205 : decode cX7_part0 205 = .ok (.putfield 348, 3) := by decide +kernel
theorem dX7_part0_208 : decode cX7_part0 208 = .ok (.aload_n 0, 1) := by decide +kernel
theorem dX7_part0_209 : decode cX7_part0 209 = .ok (.invokevirtual 320, 3) := by decide +kernel
theorem dX7_part0_212 : decode cX7_part0 212 = .ok (.iconst 1, 1) := by decide +kernel
theorem dX7_part0_213 : decode cX7_part0 213 = .ok (.ireturn, 1) := by decide +kernel
theorem dX7_parse_0 : decode cX7_parse 0 = .ok (.aload_n 0, 1) := by decide +kernel
theorem dX7_parse_1 : decode cX7_parse 1 = .ok (.iconst 0, 1) := by decide +kernel
theorem dX7_parse_2 : decode cX7_parse 2 = .ok (.putfield 280, 3) := by decide +kernel
theorem dX7_parse_5 : decode cX7_parse 5 = .ok (.aload_n 0, 1) := by decide +kernel
theorem dX7_parse_6 : decode cX7_parse 6 = .ok (.iconst 3, 1) := by decide +kernel
theorem dX7_parse_7 : decode cX7_parse 7 = .ok (.putfield 283, 3) := by decide +kernel
theorem dX7_parse_10 : decode cX7_parse 10 = .ok (.aload_n 0, 1) := by decide +kernel
theorem dX7_parse_11 : decode cX7_parse 11 = .ok (.iconst 0, 1) := by decide +kernel
theorem dX7_parse_12 : decode cX7_parse 12 = .ok (.putfield 348, 3) := by decide +kernel
theorem dX7_parse_15 : decode cX7_parse 15 = .ok (.aload_n 0, 1) := by decide +kernel
theorem dX7_parse_16 : decode cX7_parse 16 = .ok (.iconst 0, 1) := by decide +kernel
theorem dX7_parse_17 : decode cX7_parse 17 = .ok (.putfield 345, 3) := by decide +kernel
theorem dX7_parse_20 : decode cX7_parse 20 = .ok (.aload_n 0, 1) := by decide +kernel
theorem dX7_parse_21 : decode cX7_parse 21 = .ok (.iconst 0, 1) := by decide +kernel
theorem dX7_parse_22 : decode cX7_parse 22 = .ok (.putfield 311, 3) := by decide +kernel
theorem dX7_parse_25 : decode cX7_parse 25 = .ok (.aload_n 0, 1) := by decide +kernel
theorem dX7_parse_26 : decode cX7_parse 26 = .ok (.iconst 0, 1) := by decide +kernel
theorem dX7_parse_27 : decode cX7_parse 27 = .ok (.putfield 339, 3) := by decide +kernel
theorem dX7_parse_30 : decode cX7_parse 30 = .ok (.aload_n 0, 1) := by decide +kernel
theorem dX7_parse_31 : decode cX7_parse 31 = .ok (.aload_n 0, 1) := by decide +kernel
theorem dX7_parse_32 : decode cX7_parse 32 = .ok (.getfield 7, 3) := by decide +kernel
theorem dX7_parse_35 : decode cX7_parse 35 = .ok (.iconst 1, 1) := by decide +kernel
theorem dX7_parse_36 : decode cX7_parse 36 = .ok (.iaload, 1) := by decide +kernel
theorem dX7_parse_37 : decode cX7_parse 37 = .ok (.bipush 14, 2) := by decide +kernel
theorem dX7_parse_39 : decode cX7_parse 39 = .ok (.if_icmp .ge 18, 3) := by decide +kernel
theorem dX7_parse_42 : decode cX7_parse 42 = .ok (.aload_n 0, 1) := by decide +kernel
theorem dX7_parse_43 : decode cX7_parse 43 = .ok (.aload_n 0, 1) := by decide +kernel
theorem dX7_parse_44 : decode cX7_parse 44 = .ok (.getfield 7, 3) := by decide +kernel
theorem dX7_parse_47 : decode cX7_parse 47 = .ok (.iconst 1, 1) := by decide +kernel
theorem dX7_parse_48 : decode cX7_parse 48 = .ok (.iaload, 1) := by decide +kernel
theorem dX7_parse_49 : decode cX7_parse 49 = .ok (.invokevirtual 354, 3) := by decide +kernel
theorem dX7_parse_52 : decode cX7_parse 52 = .ok (.iconst 4, 1) := by decide +kernel
theorem dX7_parse_53 : decode cX7_parse 53 = .ok (.iadd, 1) := by decide +kernel
theorem dX7_parse_54 : decode cX7_parse 54 = .ok (.goto 6, 3) := by decide +kernel
theorem dX7_parse_57 : decode cX7_parse 57 = .ok (.sipush 2890, 3) := by decide +kernel
theorem dX7_parse_60 : decode cX7_parse 60 = .ok (.putfield 308, 3) := by decide +kernel
theorem dX7_parse_63 : decode cX7_parse 63 = .ok (.aload_n 0, 1) := by decide +kernel
theorem dX7_parse_64 : decode cX7_parse 64 = .ok (.invokevirtual 320, 3) := by decide +kernel
theorem dX7_parse_67 : decode cX7_parse 67 = .ok (.aload_n 0, 1) := by decide +kernel
theorem dX7_parse_68 : decode cX7_parse 68 = .ok (.invokevirtual 357, 3) := by decide +kernel
theorem dX7_parse_71 : decode cX7_parse 71 = .ok (.istore_n 1, 1) := by decide +kernel
theorem dX7_parse_72 : decode cX7_parse 72 = .ok (.iload_n 1, 1) := by decide +kernel
theorem dX7_parse_73 : decode cX7_parse 73 = .ok (.ifCond .lt 7, 3) := by decide +kernel
theorem dX7_parse_76 : decode cX7_parse 76 = .ok (.iconst 1, 1) := by decide +kernel
theorem dX7_parse_77 : decode cX7_parse 77 = .ok (.goto 4, 3) := by decide +kernel
theorem dX7_parse_80 : decode cX7_parse 80 = .ok (.iconst 0, 1) := by decide +kernel
theorem dX7_parse_81 : decode cX7_parse 81 = .ok (.istore_n 2, 1) := by decide +kernel
theorem dX7_parse_82 : decode cX7_parse 82 = .ok (.iload_n 2, 1) := by decide +kernel
theorem dX7_parse_83 : decode cX7_parse 83 = .ok (.ifCond .eq 28, 3) := by decide +kernel
theorem dX7_parse_86 : decode cX7_parse 86 = .ok (.aload_n 0, 1) := by decide +kernel
theorem dX7_parse_87 : decode cX7_parse 87 = .ok (.invokevirtual 320, 3) := by decide +kernel
theorem dX7_parse_90 : decode cX7_parse 90 = .ok (.aload_n 0, 1) := by decide +kernel
theorem dX7_parse_91 : decode cX7_parse 91 = .ok (.iload_n 1, 1) := by decide +kernel
theorem dX7_parse_92 : decode cX7_parse 92 = .ok (.invokevirtual 351, 3) := by decide +kernel
theorem dX7_parse_95 : decode cX7_parse 95 = .ok (.ifCond .eq 14, 3) := by decide +kernel
theorem dX7_parse_98 : decode cX7_parse 98 = .ok (.aload_n 0, 1) := by decide +kernel
theorem dX7_parse_99 : decode cX7_parse 99 = .ok (.getfield 283, 3) := by decide +kernel
theorem dX7_parse_102 : decode cX7_parse 102 = .ok (.ifCond .ne 7, 3) := by decide +kernel
theorem dX7_parse_105 : decode cX7_parse 105 = .ok (.iconst 1, 1) := by decide +kernel
theorem dX7_parse_106 : decode cX7_parse 106 = .ok (.goto 4, 3) := by decide +kernel
theorem dX7_parse_109 : decode cX7_parse 109 = .ok (.iconst 0, 1) := by decide +kernel
theorem dX7_parse_110 : decode cX7_parse 110 = .ok (.istore_n 2, 1) := by decide +kernel
theorem dX7_parse_111 : decode cX7_parse 111 = .ok (.aload_n 0, 1) := by decide +kernel
theorem dX7_parse_112 : decode cX7_parse 112 = .ok (.iconst 0, 1) := by decide +kernel
theorem dX7_parse_113 : decode cX7_parse 113 = .ok (.putfield 268, 3) := by decide +kernel
theorem dX7_parse_116 : decode cX7_parse 116 = .ok (.iload_n 2, 1) := by decide +kernel
theorem dX7_parse_117 : decode cX7_parse 117 = .ok (.ifCond .eq 7, 3) := by decide +kernel
theorem dX7_parse_120 : decode cX7_parse 120 = .ok (.iload_n 1, 1) := by decide +kernel
theorem dX7_parse_121 : decode cX7_parse 121 = .ok (.goto 4, 3) := by decide +kernel
theorem dX7_parse_124 : decode cX7_parse 124 = .ok (.iconst (-1), 1) := by decide +kernel
theorem dX7_parse_125 : decode cX7_parse 125 = .ok (.ireturn, 1) := by decide +kernel
theorem dX7_text_0 : decode cX7_text 0 = .ok (.aload_n 0, 1) := by decide +kernel
theorem dX7_text_1 : decode cX7_text 1 = .ok (.invokevirtual 360, 3) := by decide +kernel
theorem dX7_text_4 : decode cX7_text 4 = .ok (.istore_n 1, 1) := by decide +kernel
theorem dX7_text_5 : decode cX7_text 5 = .ok (.iload_n 1, 1) := by decide +kernel
theorem dX7_text_6 : decode cX7_text 6 = .ok (.ifCond .ge 11, 3) := by decide +kernel
theorem dX7_text_9 : decode cX7_text 9 = .ok (.bipush (-100), 2) := by decide +kernel
theorem dX7_text_11 : decode cX7_text 11 = .ok (.aload_n 0, 1) := by decide +kernel
theorem dX7_text_12 : decode cX7_text 12 = .ok (.getfield 286, 3) := by decide +kernel
theorem dX7_text_15 : decode cX7_text 15 = .ok (.isub, 1) := by decide +kernel
theorem dX7_text_16 : decode cX7_text 16 = .ok (.ireturn, 1) := by decide +kernel
theorem dX7_text_17 : decode cX7_text 17 = .ok (.aload_n 0, 1) := by decide +kernel
theorem dX7_text_18 : decode cX7_text 18 = .ok (.getfield 7, 3) := by decide +kernel
theorem dX7_text_21 : decode cX7_text 21 = .ok (.iconst 1, 1) := by decide +kernel
theorem dX7_text_22 : decode cX7_text 22 = .ok (.iaload, 1) := by decide +kernel
theorem dX7_text_23 : decode cX7_text 23 = .ok (.bipush 14, 2) := by decide +kernel
theorem dX7_text_25 : decode cX7_text 25 = .ok (.if_icmp .ne 6, 3) := by decide +kernel
theorem dX7_text_28 : decode cX7_text 28 = .ok (.ldc 166, 2) := by decide +kernel
theorem dX7_text_30 : decode cX7_text 30 = .ok (.ireturn, 1) := by decide +kernel
theorem dX7_text_31 : decode cX7_text 31 = .ok (.aload_n 0, 1) := by decide +kernel
theorem dX7_text_32 : decode cX7_text 32 = .ok (.aload_n 0, 1) := by decide +kernel
theorem dX7_text_33 : decode cX7_text 33 = .ok (.getfield 7, 3) := by decide +kernel
theorem dX7_text_36 : decode cX7_text 36 = .ok (.iconst 1, 1) := by decide +kernel
theorem dX7_text_37 : decode cX7_text 37 = .ok (.iaload, 1) := by decide +kernel
theorem dX7_text_38 : decode cX7_text 38 = .ok (.invokevirtual 354, 3) := by decide +kernel
theorem dX7_text_41 : decode cX7_text 41 = .ok (.istore_n 2, 1) := by decide +kernel
theorem dX7_text_42 : decode cX7_text 42 = .ok (.aload_n 0, 1) := by decide +kernel
theorem dX7_text_43 : decode cX7_text 43 = .ok (.getfield 7, 3) := by decide +kernel
theorem dX7_text_46 : decode cX7_text 46 = .ok (.iload_n 2, 1) := by decide +kernel
theorem dX7_text_47 : decode cX7_text 47 = .ok (.iconst 0, 1) := by decide +kernel
theorem dX7_text_48 : decode cX7_text 48 = .ok (.iadd, 1) := by decide +kernel
theorem dX7_text_49 : decode cX7_text 49 = .ok (.iload_n 1, 1) := by decide +kernel
theorem dX7_text_50 : decode cX7_text 50 = .ok (.iastore, 1) := by decide +kernel
theorem dX7_text_51 : decode cX7_text 51 = .ok (.aload_n 0, 1) := by decide +kernel
theorem dX7_text_52 : decode cX7_text 52 = .ok (.getfield 7, 3) := by decide +kernel
theorem dX7_text_55 : decode cX7_text 55 = .ok (.iload_n 2, 1) := by decide +kernel
theorem dX7_text_56 : decode cX7_text 56 = .ok (.iconst 1, 1) := by decide +kernel
theorem dX7_text_57 : decode cX7_text 57 = .ok (.iadd, 1) := by decide +kernel
theorem dX7_text_58 : decode cX7_text 58 = .ok (.aload_n 0, 1) := by decide +kernel
theorem dX7_text_59 : decode cX7_text 59 = .ok (.getfield 339, 3) := by decide +kernel
theorem dX7_text_62 : decode cX7_text 62 = .ok (.iastore, 1) := by decide +kernel
theorem dX7_text_63 : decode cX7_text 63 = .ok (.aload_n 0, 1) := by decide +kernel
theorem dX7_text_64 : decode cX7_text 64 = .ok (.getfield 7, 3) := by decide +kernel
theorem dX7_text_67 : decode cX7_text 67 = .ok (.iload_n 2, 1) := by decide +kernel
theorem dX7_text_68 : decode cX7_text 68 = .ok (.iconst 2, 1) := by decide +kernel
theorem dX7_text_69 : decode cX7_text 69 = .ok (.iadd, 1) := by decide +kernel
theorem dX7_text_70 : decode cX7_text 70 = .ok (.aload_n 0, 1) := by decide +kernel
theorem dX7_text_71 : decode cX7_text 71 = .ok (.getfield 311, 3) := by decide +kernel
theorem dX7_text_74 : decode cX7_text 74 = .ok (.iastore, 1) := by decide +kernel
theorem dX7_text_75 : decode cX7_text 75 = .ok (.aload_n 0, 1) := by decide +kernel
theorem dX7_text_76 : decode cX7_text 76 = .ok (.getfield 7, 3) := by decide +kernel
theorem dX7_text_79 : decode cX7_text 79 = .ok (.iconst 1, 1) := by decide +kernel
theorem dX7_text_80 : decode cX7_text 80 = .ok (.dup2, 1) := by decide +kernel
theorem dX7_text_81 : decode cX7_text 81 = .ok (.iaload, 1) := by decide +kernel
theorem dX7_text_82 : decode cX7_text 82 = .ok (.iconst 1, 1) := by decide +kernel
theorem dX7_text_83 : decode cX7_text 83 = .ok (.iadd, 1) := by decide +kernel
theorem dX7_text_84 : decode cX7_text 84 = .ok (.iastore, 1) := by decide +kernel
theorem dX7_text_85 : decode cX7_text 85 = .ok (.aload_n 0, 1) := by decide +kernel
theorem dX7_text_86 : decode cX7_text 86 = .ok (.getfield 7, 3) := by decide +kernel
theorem dX7_text_89 : decode cX7_text 89 = .ok (.iconst 1, 1) := by decide +kernel
theorem dX7_text_90 : decode cX7_text 90 = .ok (.iaload, 1) := by decide +kernel
theorem dX7_text_91 : decode cX7_text 91 = .ok (.iconst 1, 1) := by decide +kernel
theorem dX7_text_92 : decode cX7_text 92 = .ok (.isub, 1) := by decide +kernel
theorem dX7_text_93 : decode cX7_text 93 = .ok (.ireturn, 1) := by decide +kernel
theorem dX7_textTold_0 : decode cX7_textTold 0 = .ok (.aload_n 0, 1) := by decide +kernel
theorem dX7_textTold_1 : decode cX7_textTold 1 = .ok (.iload_n 1, 1) := by decide +kernel
theorem dX7_textTold_2 : decode cX7_textTold 2 = .ok (.invokevirtual 363, 3) := by decide +kernel
theorem dX7_textTold_5 : decode cX7_textTold 5 = .ok (.ifCond .eq 13, 3) := by decide +kernel
theorem dX7_textTold_8 : decode cX7_textTold 8 = .ok (.iload_n 2, 1) := by decide +kernel
theorem dX7_textTold_9 : decode cX7_textTold 9 = .ok (.i2l, 1) := by decide +kernel
theorem dX7_textTold_10 : decode cX7_textTold 10 = .ok (.lconst 0, 1) := by decide +kernel
theorem dX7_textTold_11 : decode cX7_textTold 11 = .ok (.lconst 1, 1) := by decide +kernel
theorem dX7_textTold_12 : decode cX7_textTold 12 = .ok (.invokestatic 69, 3) := by decide +kernel
theorem dX7_textTold_15 : decode cX7_textTold 15 = .ok (.ifCond .ne 6, 3) := by decide +kernel
theorem dX7_textTold_18 : decode cX7_textTold 18 = .ok (.ldc 161, 2) := by decide +kernel
theorem dX7_textTold_20 : decode cX7_textTold 20 = .ok (.ireturn, 1) := by decide +kernel
theorem dX7_textTold_21 : decode cX7_textTold 21 = .ok (.aload_n 0, 1) := by decide +kernel
theorem dX7_textTold_22 : decode cX7_textTold 22 = .ok (.getfield 7, 3) := by decide +kernel
theorem dX7_textTold_25 : decode cX7_textTold 25 = .ok (.aload_n 0, 1) := by decide +kernel
theorem dX7_textTold_26 : decode cX7_textTold 26 = .ok (.iload_n 1, 1) := by decide +kernel
theorem dX7_textTold_27 : decode cX7_textTold 27 = .ok (.invokevirtual 354, 3) := by decide +kernel
theorem dX7_textTold_30 : decode cX7_textTold 30 = .ok (.iload_n 2, 1) := by decide +kernel
theorem dX7_textTold_31 : decode cX7_textTold 31 = .ok (.iadd, 1) := by decide +kernel
theorem dX7_textTold_32 : decode cX7_textTold 32 = .ok (.iaload, 1) := by decide +kernel
theorem dX7_textTold_33 : decode cX7_textTold 33 = .ok (.ireturn, 1) := by decide +kernel
theorem dX7_counts_0 : decode cX7_counts 0 = .ok (.iconst (-1), 1) := by decide +kernel
theorem dX7_counts_1 : decode cX7_counts 1 = .ok (.istore_n 2, 1) := by decide +kernel
theorem dX7_counts_2 : decode cX7_counts 2 = .ok (.iconst 0, 1) := by decide +kernel
theorem dX7_counts_3 : decode cX7_counts 3 = .ok (.istore_n 3, 1) := by decide +kernel
theorem dX7_counts_4 : decode cX7_counts 4 = .ok (.iload_n 3, 1) := by decide +kernel
theorem dX7_counts_5 : decode cX7_counts 5 = .ok (.aload_n 0, 1) := by decide +kernel
theorem dX7_counts_6 : decode cX7_counts 6 = .ok (.getfield 7, 3) := by decide +kernel
theorem dX7_counts_9 : decode cX7_counts 9 = .ok (.iconst 1, 1) := by decide +kernel
theorem dX7_counts_10 : decode cX7_counts 10 = .ok (.iaload, 1) := by decide +kernel
theorem dX7_counts_11 : decode cX7_counts 11 = .ok (.if_icmp .ge 29, 3) := by decide +kernel
theorem dX7_counts_14 : decode cX7_counts 14 = .ok (.aload_n 0, 1) := by decide +kernel
theorem dX7_counts_15 : decode cX7_counts 15 = .ok (.getfield 7, 3) := by decide +kernel
theorem dX7_counts_18 : decode cX7_counts 18 = .ok (.aload_n 0, 1) := by decide +kernel
theorem dX7_counts_19 : decode cX7_counts 19 = .ok (.iload_n 3, 1) := by decide +kernel
theorem dX7_counts_20 : decode cX7_counts 20 = .ok (.invokevirtual 354, 3) := by decide +kernel
theorem dX7_counts_23 : decode cX7_counts 23 = .ok (.iaload, 1) := by decide +kernel
theorem dX7_counts_24 : decode cX7_counts 24 = .ok (.iload_n 1, 1) := by decide +kernel
theorem dX7_counts_25 : decode cX7_counts 25 = .ok (.if_icmp .ne 7, 3) := by decide +kernel
theorem dX7_counts_28 : decode cX7_counts 28 = .ok (.iload_n 3, 1) := by decide +kernel
theorem dX7_counts_29 : decode cX7_counts 29 = .ok (.goto 4, 3) := by decide +kernel
theorem dX7_counts_32 : decode cX7_counts 32 = .ok (.iload_n 2, 1) := by decide +kernel
theorem dX7_counts_33 : decode cX7_counts 33 = .ok (.istore_n 2, 1) := by decide +kernel
theorem dX7_counts_34 : decode cX7_counts 34 = .ok (.iinc 3 1, 3) := by decide +kernel
theorem dX7_counts_37 : decode cX7_counts 37 = .ok (.goto (-33), 3) := by decide +kernel
theorem dX7_counts_40 : decode cX7_counts 40 = .ok (.iload_n 2, 1) := by decide +kernel
theorem dX7_counts_41 : decode cX7_counts 41 = .ok (.ireturn, 1) := by decide +kernel
theorem dX7_why_0 : decode cX7_why 0 = .ok (.iload_n 1, 1) := by decide +kernel
theorem dX7_why_1 : decode cX7_why 1 = .ok (.i2l, 1) := by decide +kernel
theorem dX7_why_2 : decode cX7_why 2 = .ok (.lconst 0, 1) := by decide +kernel
theorem dX7_why_3 : decode cX7_why 3 = .ok (.ldc2_w 191, 3) := by decide +kernel
theorem dX7_why_6 : decode cX7_why 6 = .ok (.invokestatic 69, 3) := by decide +kernel
theorem dX7_why_9 : decode cX7_why 9 = .ok (.ifCond .eq 14, 3) := by decide +kernel
theorem dX7_why_12 : decode cX7_why 12 = .ok (.aload_n 0, 1) := by decide +kernel
theorem dX7_why_13 : decode cX7_why 13 = .ok (.iload_n 1, 1) := by decide +kernel
theorem dX7_why_14 : decode cX7_why 14 = .ok (.invokevirtual 88, 3) := by decide +kernel
theorem dX7_why_17 : decode cX7_why 17 = .ok (.invokestatic 195, 3) := by decide +kernel
theorem dX7_why_20 : decode cX7_why 20 = .ok (.goto 5, 3) := by decide +kernel
theorem dX7_why_23 : decode cX7_why 23 = .ok (.ldc 161, 2) := by decide +kernel
theorem dX7_why_25 : decode cX7_why 25 = .ok (.ireturn, 1) := by decide +kernel
theorem dX7_joined_0 : decode cX7_joined 0 = .ok (.iload_n 0, 1) := by decide +kernel
theorem dX7_joined_1 : decode cX7_joined 1 = .ok (.tableswitch 196 38 62 #[182, 196, 196, 196, 123, 115, 196, 119, 196, 127, 196, 196, 196, 196, 196, 196, 196, 196, 196, 196, 196, 196, 149, 171, 160], 115) := by decide +kernel
theorem dX7_joined_116 : decode cX7_joined 116 = .ok (.iload_n 1, 1) := by decide +kernel
theorem dX7_joined_117 : decode cX7_joined 117 = .ok (.iload_n 2, 1) := by decide +kernel
theorem dX7_joined_118 : decode cX7_joined 118 = .ok (.iadd, 1) := by decide +kernel
theorem dX7_joined_119 : decode cX7_joined 119 = .ok (.ireturn, 1) := by decide +kernel
theorem dX7_joined_120 : decode cX7_joined 120 = .ok (.iload_n 1, 1) := by decide +kernel
theorem dX7_joined_121 : decode cX7_joined 121 = .ok (.iload_n 2, 1) := by decide +kernel
theorem dX7_joined_122 : decode cX7_joined 122 = .ok (.isub, 1) := by decide +kernel
theorem dX7_joined_123 : decode cX7_joined 123 = .ok (.ireturn, 1) := by decide +kernel
theorem dX7_joined_124 : decode cX7_joined 124 = .ok (.iload_n 1, 1) := by decide +kernel
theorem dX7_joined_125 : decode cX7_joined 125 = .ok (.iload_n 2, 1) := by decide +kernel
theorem dX7_joined_126 : decode cX7_joined 126 = .ok (.imul, 1) := by decide +kernel
theorem dX7_joined_127 : decode cX7_joined 127 = .ok (.ireturn, 1) := by decide +kernel
theorem dX7_joined_128 : decode cX7_joined 128 = .ok (.iload_n 2, 1) := by decide +kernel
theorem dX7_joined_129 : decode cX7_joined 129 = .ok (.ifCond .ne 7, 3) := by decide +kernel
theorem dX7_joined_132 : decode cX7_joined 132 = .ok (.iconst 0, 1) := by decide +kernel
theorem dX7_joined_133 : decode cX7_joined 133 = .ok (.goto 16, 3) := by decide +kernel
theorem dX7_joined_136 : decode cX7_joined 136 = .ok (.iload_n 2, 1) := by decide +kernel
theorem dX7_joined_137 : decode cX7_joined 137 = .ok (.iconst (-1), 1) := by decide +kernel
theorem dX7_joined_138 : decode cX7_joined 138 = .ok (.if_icmp .ne 8, 3) := by decide +kernel
theorem dX7_joined_141 : decode cX7_joined 141 = .ok (.iload_n 1, 1) := by decide +kernel
theorem dX7_joined_142 : decode cX7_joined 142 = .ok (.ineg, 1) := by decide +kernel
theorem dX7_joined_143 : decode cX7_joined 143 = .ok (.goto 6, 3) := by decide +kernel
theorem dX7_joined_146 : decode cX7_joined 146 = .ok (.iload_n 1, 1) := by decide +kernel
theorem dX7_joined_147 : decode cX7_joined 147 = .ok (.iload_n 2, 1) := by decide +kernel
theorem dX7_joined_148 : decode cX7_joined 148 = .ok (.idiv, 1) := by decide +kernel
theorem dX7_joined_149 : decode cX7_joined 149 = .ok (.ireturn, 1) := by decide +kernel
theorem dX7_joined_150 : decode cX7_joined 150 = .ok (.iload_n 1, 1) := by decide +kernel
theorem dX7_joined_151 : decode cX7_joined 151 = .ok (.iload_n 2, 1) := by decide +kernel
theorem dX7_joined_152 : decode cX7_joined 152 = .ok (.if_icmp .ge 7, 3) := by decide +kernel
theorem dX7_joined_155 : decode cX7_joined 155 = .ok (.iconst 1, 1) := by decide +kernel
theorem dX7_joined_156 : decode cX7_joined 156 = .ok (.goto 4, 3) := by decide +kernel
theorem dX7_joined_159 : decode cX7_joined 159 = .ok (.iconst 0, 1) := by decide +kernel
theorem dX7_joined_160 : decode cX7_joined 160 = .ok (.ireturn, 1) := by decide +kernel
theorem dX7_joined_161 : decode cX7_joined 161 = .ok (.iload_n 1, 1) := by decide +kernel
theorem dX7_joined_162 : decode cX7_joined 162 = .ok (.iload_n 2, 1) := by decide +kernel
theorem dX7_joined_163 : decode cX7_joined 163 = .ok (.if_icmp .le 7, 3) := by decide +kernel
theorem dX7_joined_166 : decode cX7_joined 166 = .ok (.iconst 1, 1) := by decide +kernel
theorem dX7_joined_167 : decode cX7_joined 167 = .ok (.goto 4, 3) := by decide +kernel
theorem dX7_joined_170 : decode cX7_joined 170 = .ok (.iconst 0, 1) := by decide +kernel
theorem dX7_joined_171 : decode cX7_joined 171 = .ok (.ireturn, 1) := by decide +kernel
theorem dX7_joined_172 : decode cX7_joined 172 = .ok (.iload_n 1, 1) := by decide +kernel
theorem dX7_joined_173 : decode cX7_joined 173 = .ok (.iload_n 2, 1) := by decide +kernel
theorem dX7_joined_174 : decode cX7_joined 174 = .ok (.if_icmp .ne 7, 3) := by decide +kernel
theorem dX7_joined_177 : decode cX7_joined 177 = .ok (.iconst 1, 1) := by decide +kernel
theorem dX7_joined_178 : decode cX7_joined 178 = .ok (.goto 4, 3) := by decide +kernel
theorem dX7_joined_181 : decode cX7_joined 181 = .ok (.iconst 0, 1) := by decide +kernel
theorem dX7_joined_182 : decode cX7_joined 182 = .ok (.ireturn, 1) := by decide +kernel
theorem dX7_joined_183 : decode cX7_joined 183 = .ok (.iload_n 1, 1) := by decide +kernel
theorem dX7_joined_184 : decode cX7_joined 184 = .ok (.ifCond .eq 11, 3) := by decide +kernel
theorem dX7_joined_187 : decode cX7_joined 187 = .ok (.iload_n 2, 1) := by decide +kernel
theorem dX7_joined_188 : decode cX7_joined 188 = .ok (.ifCond .eq 7, 3) := by decide +kernel
theorem dX7_joined_191 : decode cX7_joined 191 = .ok (.iconst 1, 1) := by decide +kernel
theorem dX7_joined_192 : decode cX7_joined 192 = .ok (.goto 4, 3) := by decide +kernel
theorem dX7_joined_195 : decode cX7_joined 195 = .ok (.iconst 0, 1) := by decide +kernel
theorem dX7_joined_196 : decode cX7_joined 196 = .ok (.ireturn, 1) := by decide +kernel
theorem dX7_joined_197 : decode cX7_joined 197 = .ok (.iload_n 1, 1) := by decide +kernel
theorem dX7_joined_198 : decode cX7_joined 198 = .ok (.ifCond .ne 7, 3) := by decide +kernel
theorem dX7_joined_201 : decode cX7_joined 201 = .ok (.iload_n 2, 1) := by decide +kernel
theorem dX7_joined_202 : decode cX7_joined 202 = .ok (.ifCond .eq 7, 3) := by decide +kernel
theorem dX7_joined_205 : decode cX7_joined 205 = .ok (.iconst 1, 1) := by decide +kernel
theorem dX7_joined_206 : decode cX7_joined 206 = .ok (.goto 4, 3) := by decide +kernel
theorem dX7_joined_209 : decode cX7_joined 209 = .ok (.iconst 0, 1) := by decide +kernel
theorem dX7_joined_210 : decode cX7_joined 210 = .ok (.ireturn, 1) := by decide +kernel
theorem dX7_worked_0 : decode cX7_worked 0 = .ok (.iconst 0, 1) := by decide +kernel
theorem dX7_worked_1 : decode cX7_worked 1 = .ok (.istore_n 2, 1) := by decide +kernel
theorem dX7_worked_2 : decode cX7_worked 2 = .ok (.iconst 0, 1) := by decide +kernel
theorem dX7_worked_3 : decode cX7_worked 3 = .ok (.istore_n 3, 1) := by decide +kernel
theorem dX7_worked_4 : decode cX7_worked 4 = .ok (.iload_n 3, 1) := by decide +kernel
theorem dX7_worked_5 : decode cX7_worked 5 = .ok (.aload_n 0, 1) := by decide +kernel
theorem dX7_worked_6 : decode cX7_worked 6 = .ok (.getfield 7, 3) := by decide +kernel
theorem dX7_worked_9 : decode cX7_worked 9 = .ok (.aload_n 0, 1) := by decide +kernel
theorem dX7_worked_10 : decode cX7_worked 10 = .ok (.iload_n 1, 1) := by decide +kernel
theorem dX7_worked_11 : decode cX7_worked 11 = .ok (.invokevirtual 354, 3) := by decide +kernel
theorem dX7_worked_14 : decode cX7_worked 14 = .ok (.iconst 2, 1) := by decide +kernel
theorem dX7_worked_15 : decode cX7_worked 15 = .ok (.iadd, 1) := by decide +kernel
theorem dX7_worked_16 : decode cX7_worked 16 = .ok (.iaload, 1) := by decide +kernel
theorem dX7_worked_17 : decode cX7_worked 17 = .ok (.if_icmp .ge 146, 3) := by decide +kernel
theorem dX7_worked_20 : decode cX7_worked 20 = .ok (.aload_n 0, 1) := by decide +kernel
theorem dX7_worked_21 : decode cX7_worked 21 = .ok (.getfield 7, 3) := by decide +kernel
theorem dX7_worked_24 : decode cX7_worked 24 = .ok (.aload_n 0, 1) := by decide +kernel
theorem dX7_worked_25 : decode cX7_worked 25 = .ok (.iload_n 1, 1) := by decide +kernel
theorem dX7_worked_26 : decode cX7_worked 26 = .ok (.invokevirtual 354, 3) := by decide +kernel
theorem dX7_worked_29 : decode cX7_worked 29 = .ok (.iconst 4, 1) := by decide +kernel
theorem dX7_worked_30 : decode cX7_worked 30 = .ok (.iadd, 1) := by decide +kernel
theorem dX7_worked_31 : decode cX7_worked 31 = .ok (.iconst 2, 1) := by decide +kernel
theorem dX7_worked_32 : decode cX7_worked 32 = .ok (.iload_n 3, 1) := by decide +kernel
theorem dX7_worked_33 : decode cX7_worked 33 = .ok (.imul, 1) := by decide +kernel
theorem dX7_worked_34 : decode cX7_worked 34 = .ok (.iadd, 1) := by decide +kernel
theorem dX7_worked_35 : decode cX7_worked 35 = .ok (.iaload, 1) := by decide +kernel
theorem dX7_worked_36 : decode cX7_worked 36 = .ok (.istore 4, 2) := by decide +kernel
theorem dX7_worked_38 : decode cX7_worked 38 = .ok (.aload_n 0, 1) := by decide +kernel
theorem dX7_worked_39 : decode cX7_worked 39 = .ok (.getfield 7, 3) := by decide +kernel
theorem dX7_worked_42 : decode cX7_worked 42 = .ok (.aload_n 0, 1) := by decide +kernel
theorem dX7_worked_43 : decode cX7_worked 43 = .ok (.iload_n 1, 1) := by decide +kernel
theorem dX7_worked_44 : decode cX7_worked 44 = .ok (.invokevirtual 354, 3) := by decide +kernel
theorem dX7_worked_47 : decode cX7_worked 47 = .ok (.iconst 4, 1) := by decide +kernel
theorem dX7_worked_48 : decode cX7_worked 48 = .ok (.iadd, 1) := by decide +kernel
theorem dX7_worked_49 : decode cX7_worked 49 = .ok (.iconst 2, 1) := by decide +kernel
theorem dX7_worked_50 : decode cX7_worked 50 = .ok (.iload_n 3, 1) := by decide +kernel
theorem dX7_worked_51 : decode cX7_worked 51 = .ok (.imul, 1) := by decide +kernel
theorem dX7_worked_52 : decode cX7_worked 52 = .ok (.iadd, 1) := by decide +kernel
theorem dX7_worked_53 : decode cX7_worked 53 = .ok (.iconst 1, 1) := by decide +kernel
theorem dX7_worked_54 : decode cX7_worked 54 = .ok (.iadd, 1) := by decide +kernel
theorem dX7_worked_55 : decode cX7_worked 55 = .ok (.iaload, 1) := by decide +kernel
theorem dX7_worked_56 : decode cX7_worked 56 = .ok (.istore 5, 2) := by decide +kernel
theorem dX7_worked_58 : decode cX7_worked 58 = .ok (.iload 4, 2) := by decide +kernel
theorem dX7_worked_60 : decode cX7_worked 60 = .ok (.iconst 2, 1) := by decide +kernel
theorem dX7_worked_61 : decode cX7_worked 61 = .ok (.if_icmp .eq 32, 3) := by decide +kernel
theorem dX7_worked_64 : decode cX7_worked 64 = .ok (.aload_n 0, 1) := by decide +kernel
theorem dX7_worked_65 : decode cX7_worked 65 = .ok (.getfield 56, 3) := by decide +kernel
theorem dX7_worked_68 : decode cX7_worked 68 = .ok (.iload_n 2, 1) := by decide +kernel
theorem dX7_worked_69 : decode cX7_worked 69 = .ok (.iload 4, 2) := by decide +kernel
theorem dX7_worked_71 : decode cX7_worked 71 = .ok (.ifCond .ne 8, 3) := by decide +kernel
theorem dX7_worked_74 : decode cX7_worked 74 = .ok (.iload 5, 2) := by decide +kernel
theorem dX7_worked_76 : decode cX7_worked 76 = .ok (.goto 10, 3) := by decide +kernel
theorem dX7_worked_79 : decode cX7_worked 79 = .ok (.aload_n 0, 1) := by decide +kernel
theorem dX7_worked_80 : decode cX7_worked 80 = .ok (.getfield 53, 3) := by decide +kernel
theorem dX7_worked_83 : decode cX7_worked 83 = .ok (.iload 5, 2) := by decide +kernel
theorem dX7_worked_85 : decode cX7_worked 85 = .ok (.iaload, 1) := by decide +kernel
theorem dX7_worked_86 : decode cX7_worked 86 = .ok (.iastore, 1) := by decide +kernel
theorem dX7_worked_87 : decode cX7_worked 87 = .ok (.iinc 2 1, 3) := by decide +kernel
theorem dX7_worked_90 : decode cX7_worked 90 = .ok (.goto 67, 3) := by decide +kernel
theorem dX7_worked_93 : decode cX7_worked 93 = .ok (.iload 5, 2) := by decide +kernel
theorem dX7_worked_95 : decode cX7_worked 95 = .ok (.bipush 33, 2) := by decide +kernel
theorem dX7_worked_97 : decode cX7_worked 97 = .ok (.if_icmp .ne 30, 3) := by decide +kernel
theorem dX7_worked_100 : decode cX7_worked 100 = .ok (.aload_n 0, 1) := by decide +kernel
theorem dX7_worked_101 : decode cX7_worked 101 = .ok (.getfield 56, 3) := by decide +kernel
theorem dX7_worked_104 : decode cX7_worked 104 = .ok (.iload_n 2, 1) := by decide +kernel
theorem dX7_worked_105 : decode cX7_worked 105 = .ok (.iconst 1, 1) := by decide +kernel
theorem dX7_worked_106 : decode cX7_worked 106 = .ok (.isub, 1) := by decide +kernel
theorem dX7_worked_107 : decode cX7_worked 107 = .ok (.aload_n 0, 1) := by decide +kernel
theorem dX7_worked_108 : decode cX7_worked 108 = .ok (.getfield 56, 3) := by decide +kernel
theorem dX7_worked_111 : decode cX7_worked 111 = .ok (.iload_n 2, 1) := by decide +kernel
theorem dX7_worked_112 : decode cX7_worked 112 = .ok (.iconst 1, 1) := by decide +kernel
theorem dX7_worked_113 : decode cX7_worked 113 = .ok (.isub, 1) := by decide +kernel
theorem dX7_worked_114 : decode cX7_worked 114 = .ok (.iaload, 1) := by decide +kernel
theorem dX7_worked_115 : decode cX7_worked 115 = .ok (.ifCond .ne 7, 3) := by decide +kernel
theorem dX7_worked_118 : decode cX7_worked 118 = .ok (.iconst 1, 1) := by decide +kernel
theorem dX7_worked_119 : decode cX7_worked 119 = .ok (.goto 4, 3) := by decide +kernel
theorem dX7_worked_122 : decode cX7_worked 122 = .ok (.iconst 0, 1) := by decide +kernel
theorem dX7_worked_123 : decode cX7_worked 123 = .ok (.iastore, 1) := by decide +kernel
theorem dX7_worked_124 : decode cX7_worked 124 = .ok (.goto 33, 3) := by decide +kernel
theorem dX7_worked_127 : decode cX7_worked 127 = .ok (.iinc 2 (-1), 3) := by decide +kernel
theorem dX7_worked_130 : decode cX7_worked 130 = .ok (.aload_n 0, 1) := by decide +kernel
theorem dX7_worked_131 : decode cX7_worked 131 = .ok (.getfield 56, 3) := by decide +kernel
theorem dX7_worked_134 : decode cX7_worked 134 = .ok (.iload_n 2, 1) := by decide +kernel
theorem dX7_worked_135 : decode cX7_worked 135 = .ok (.iconst 1, 1) := by decide +kernel
theorem dX7_worked_136 : decode cX7_worked 136 = .ok (.isub, 1) := by decide +kernel
theorem dX7_worked_137 : decode cX7_worked 137 = .ok (.iload 5, 2) := by decide +kernel
theorem dX7_worked_139 : decode cX7_worked 139 = .ok (.aload_n 0, 1) := by decide +kernel
theorem dX7_worked_140 : decode cX7_worked 140 = .ok (.getfield 56, 3) := by decide +kernel
theorem dX7_worked_143 : decode cX7_worked 143 = .ok (.iload_n 2, 1) := by decide +kernel
theorem dX7_worked_144 : decode cX7_worked 144 = .ok (.iconst 1, 1) := by decide +kernel
theorem dX7_worked_145 : decode cX7_worked 145 = .ok (.isub, 1) := by decide +kernel
theorem dX7_worked_146 : decode cX7_worked 146 = .ok (.iaload, 1) := by decide +kernel
theorem dX7_worked_147 : decode cX7_worked 147 = .ok (.aload_n 0, 1) := by decide +kernel
theorem dX7_worked_148 : decode cX7_worked 148 = .ok (.getfield 56, 3) := by decide +kernel
theorem dX7_worked_151 : decode cX7_worked 151 = .ok (.iload_n 2, 1) := by decide +kernel
theorem dX7_worked_152 : decode cX7_worked 152 = .ok (.iaload, 1) := by decide +kernel
theorem dX7_worked_153 : decode cX7_worked 153 = .ok (.invokestatic 366, 3) := by decide +kernel
theorem dX7_worked_156 : decode cX7_worked 156 = .ok (.iastore, 1) := by decide +kernel
theorem dX7_worked_157 : decode cX7_worked 157 = .ok (.iinc 3 1, 3) := by decide +kernel
theorem dX7_worked_160 : decode cX7_worked 160 = .ok (.goto (-156), 3) := by decide +kernel
theorem dX7_worked_163 : decode cX7_worked 163 = .ok (.aload_n 0, 1) := by decide +kernel
theorem dX7_worked_164 : decode cX7_worked 164 = .ok (.getfield 56, 3) := by decide +kernel
theorem dX7_worked_167 : decode cX7_worked 167 = .ok (.iconst 0, 1) := by decide +kernel
theorem dX7_worked_168 : decode cX7_worked 168 = .ok (.iaload, 1) := by decide +kernel
theorem dX7_worked_169 : decode cX7_worked 169 = .ok (.ireturn, 1) := by decide +kernel
theorem dX7_isSheet_0 : decode cX7_isSheet 0 = .ok (.iload_n 0, 1) := by decide +kernel
theorem dX7_isSheet_1 : decode cX7_isSheet 1 = .ok (.i2l, 1) := by decide +kernel
theorem dX7_isSheet_2 : decode cX7_isSheet 2 = .ok (.lconst 0, 1) := by decide +kernel
theorem dX7_isSheet_3 : decode cX7_isSheet 3 = .ok (.ldc2_w 159, 3) := by decide +kernel
theorem dX7_isSheet_6 : decode cX7_isSheet 6 = .ok (.invokestatic 69, 3) := by decide +kernel
theorem dX7_isSheet_9 : decode cX7_isSheet 9 = .ok (.ireturn, 1) := by decide +kernel
theorem dX7_sheet_0 : decode cX7_sheet 0 = .ok (.iload_n 1, 1) := by decide +kernel
theorem dX7_sheet_1 : decode cX7_sheet 1 = .ok (.invokestatic 369, 3) := by decide +kernel
theorem dX7_sheet_4 : decode cX7_sheet 4 = .ok (.ifCond .eq 25, 3) := by decide +kernel
theorem dX7_sheet_7 : decode cX7_sheet 7 = .ok (.iload_n 2, 1) := by decide +kernel
theorem dX7_sheet_8 : decode cX7_sheet 8 = .ok (.i2l, 1) := by decide +kernel
theorem dX7_sheet_9 : decode cX7_sheet 9 = .ok (.ldc2_w 146, 3) := by decide +kernel
theorem dX7_sheet_12 : decode cX7_sheet 12 = .ok (.lconst 1, 1) := by decide +kernel
theorem dX7_sheet_13 : decode cX7_sheet 13 = .ok (.invokestatic 69, 3) := by decide +kernel
theorem dX7_sheet_16 : decode cX7_sheet 16 = .ok (.ifCond .eq 13, 3) := by decide +kernel
theorem dX7_sheet_19 : decode cX7_sheet 19 = .ok (.iload_n 2, 1) := by decide +kernel
theorem dX7_sheet_20 : decode cX7_sheet 20 = .ok (.ifCond .lt 12, 3) := by decide +kernel
theorem dX7_sheet_23 : decode cX7_sheet 23 = .ok (.iload_n 3, 1) := by decide +kernel
theorem dX7_sheet_24 : decode cX7_sheet 24 = .ok (.bipush 24, 2) := by decide +kernel
theorem dX7_sheet_26 : decode cX7_sheet 26 = .ok (.if_icmp .le 6, 3) := by decide +kernel
theorem dX7_sheet_29 : decode cX7_sheet 29 = .ok (.ldc 161, 2) := by decide +kernel
theorem dX7_sheet_31 : decode cX7_sheet 31 = .ok (.ireturn, 1) := by decide +kernel
theorem dX7_sheet_32 : decode cX7_sheet 32 = .ok (.iload_n 2, 1) := by decide +kernel
theorem dX7_sheet_33 : decode cX7_sheet 33 = .ok (.ifCond .lt 11, 3) := by decide +kernel
theorem dX7_sheet_36 : decode cX7_sheet 36 = .ok (.iload_n 3, 1) := by decide +kernel
theorem dX7_sheet_37 : decode cX7_sheet 37 = .ok (.ifCond .ge 7, 3) := by decide +kernel
theorem dX7_sheet_40 : decode cX7_sheet 40 = .ok (.ldc_w 372, 3) := by decide +kernel
theorem dX7_sheet_43 : decode cX7_sheet 43 = .ok (.ireturn, 1) := by decide +kernel
theorem dX7_sheet_44 : decode cX7_sheet 44 = .ok (.aload_n 0, 1) := by decide +kernel
theorem dX7_sheet_45 : decode cX7_sheet 45 = .ok (.getfield 19, 3) := by decide +kernel
theorem dX7_sheet_48 : decode cX7_sheet 48 = .ok (.iload_n 1, 1) := by decide +kernel
theorem dX7_sheet_49 : decode cX7_sheet 49 = .ok (.iload_n 2, 1) := by decide +kernel
theorem dX7_sheet_50 : decode cX7_sheet 50 = .ok (.iastore, 1) := by decide +kernel
theorem dX7_sheet_51 : decode cX7_sheet 51 = .ok (.aload_n 0, 1) := by decide +kernel
theorem dX7_sheet_52 : decode cX7_sheet 52 = .ok (.getfield 22, 3) := by decide +kernel
theorem dX7_sheet_55 : decode cX7_sheet 55 = .ok (.iload_n 1, 1) := by decide +kernel
theorem dX7_sheet_56 : decode cX7_sheet 56 = .ok (.iload_n 2, 1) := by decide +kernel
theorem dX7_sheet_57 : decode cX7_sheet 57 = .ok (.ifCond .ge 7, 3) := by decide +kernel
theorem dX7_sheet_60 : decode cX7_sheet 60 = .ok (.iconst 0, 1) := by decide +kernel
theorem dX7_sheet_61 : decode cX7_sheet 61 = .ok (.goto 4, 3) := by decide +kernel
theorem dX7_sheet_64 : decode cX7_sheet 64 = .ok (.iload_n 3, 1) := by decide +kernel
theorem dX7_sheet_65 : decode cX7_sheet 65 = .ok (.iastore, 1) := by decide +kernel
theorem dX7_sheet_66 : decode cX7_sheet 66 = .ok (.iconst 0, 1) := by decide +kernel
theorem dX7_sheet_67 : decode cX7_sheet 67 = .ok (.istore 4, 2) := by decide +kernel
theorem dX7_sheet_69 : decode cX7_sheet 69 = .ok (.iload 4, 2) := by decide +kernel
theorem dX7_sheet_71 : decode cX7_sheet 71 = .ok (.bipush 24, 2) := by decide +kernel
theorem dX7_sheet_73 : decode cX7_sheet 73 = .ok (.if_icmp .ge 22, 3) := by decide +kernel
theorem dX7_sheet_76 : decode cX7_sheet 76 = .ok (.aload_n 0, 1) := by decide +kernel
theorem dX7_sheet_77 : decode cX7_sheet 77 = .ok (.getfield 25, 3) := by decide +kernel
theorem dX7_sheet_80 : decode cX7_sheet 80 = .ok (.bipush 24, 2) := by decide +kernel
theorem dX7_sheet_82 : decode cX7_sheet 82 = .ok (.iload_n 1, 1) := by decide +kernel
theorem dX7_sheet_83 : decode cX7_sheet 83 = .ok (.imul, 1) := by decide +kernel
theorem dX7_sheet_84 : decode cX7_sheet 84 = .ok (.iload 4, 2) := by decide +kernel
theorem dX7_sheet_86 : decode cX7_sheet 86 = .ok (.iadd, 1) := by decide +kernel
theorem dX7_sheet_87 : decode cX7_sheet 87 = .ok (.iconst 0, 1) := by decide +kernel
theorem dX7_sheet_88 : decode cX7_sheet 88 = .ok (.iastore, 1) := by decide +kernel
theorem dX7_sheet_89 : decode cX7_sheet 89 = .ok (.iinc 4 1, 3) := by decide +kernel
theorem dX7_sheet_92 : decode cX7_sheet 92 = .ok (.goto (-23), 3) := by decide +kernel
theorem dX7_sheet_95 : decode cX7_sheet 95 = .ok (.aload_n 0, 1) := by decide +kernel
theorem dX7_sheet_96 : decode cX7_sheet 96 = .ok (.getfield 22, 3) := by decide +kernel
theorem dX7_sheet_99 : decode cX7_sheet 99 = .ok (.iload_n 1, 1) := by decide +kernel
theorem dX7_sheet_100 : decode cX7_sheet 100 = .ok (.iaload, 1) := by decide +kernel
theorem dX7_sheet_101 : decode cX7_sheet 101 = .ok (.ireturn, 1) := by decide +kernel
theorem dX7_mark_0 : decode cX7_mark 0 = .ok (.iload_n 1, 1) := by decide +kernel
theorem dX7_mark_1 : decode cX7_mark 1 = .ok (.invokestatic 369, 3) := by decide +kernel
theorem dX7_mark_4 : decode cX7_mark 4 = .ok (.ifCond .ne 6, 3) := by decide +kernel
theorem dX7_mark_7 : decode cX7_mark 7 = .ok (.ldc 161, 2) := by decide +kernel
theorem dX7_mark_9 : decode cX7_mark 9 = .ok (.ireturn, 1) := by decide +kernel
theorem dX7_mark_10 : decode cX7_mark 10 = .ok (.aload_n 0, 1) := by decide +kernel
theorem dX7_mark_11 : decode cX7_mark 11 = .ok (.getfield 19, 3) := by decide +kernel
theorem dX7_mark_14 : decode cX7_mark 14 = .ok (.iload_n 1, 1) := by decide +kernel
theorem dX7_mark_15 : decode cX7_mark 15 = .ok (.iaload, 1) := by decide +kernel
theorem dX7_mark_16 : decode cX7_mark 16 = .ok (.ifCond .ge 7, 3) := by decide +kernel
theorem dX7_mark_19 : decode cX7_mark 19 = .ok (.ldc_w 373, 3) := by decide +kernel
theorem dX7_mark_22 : decode cX7_mark 22 = .ok (.ireturn, 1) := by decide +kernel
theorem dX7_mark_23 : decode cX7_mark 23 = .ok (.iload_n 2, 1) := by decide +kernel
theorem dX7_mark_24 : decode cX7_mark 24 = .ok (.i2l, 1) := by decide +kernel
theorem dX7_mark_25 : decode cX7_mark 25 = .ok (.lconst 0, 1) := by decide +kernel
theorem dX7_mark_26 : decode cX7_mark 26 = .ok (.aload_n 0, 1) := by decide +kernel
theorem dX7_mark_27 : decode cX7_mark 27 = .ok (.getfield 22, 3) := by decide +kernel
theorem dX7_mark_30 : decode cX7_mark 30 = .ok (.iload_n 1, 1) := by decide +kernel
theorem dX7_mark_31 : decode cX7_mark 31 = .ok (.iaload, 1) := by decide +kernel
theorem dX7_mark_32 : decode cX7_mark 32 = .ok (.iconst 1, 1) := by decide +kernel
theorem dX7_mark_33 : decode cX7_mark 33 = .ok (.isub, 1) := by decide +kernel
theorem dX7_mark_34 : decode cX7_mark 34 = .ok (.i2l, 1) := by decide +kernel
theorem dX7_mark_35 : decode cX7_mark 35 = .ok (.invokestatic 69, 3) := by decide +kernel
theorem dX7_mark_38 : decode cX7_mark 38 = .ok (.ifCond .ne 7, 3) := by decide +kernel
theorem dX7_mark_41 : decode cX7_mark 41 = .ok (.ldc_w 374, 3) := by decide +kernel
theorem dX7_mark_44 : decode cX7_mark 44 = .ok (.ireturn, 1) := by decide +kernel
theorem dX7_mark_45 : decode cX7_mark 45 = .ok (.aload_n 0, 1) := by decide +kernel
theorem dX7_mark_46 : decode cX7_mark 46 = .ok (.getfield 19, 3) := by decide +kernel
theorem dX7_mark_49 : decode cX7_mark 49 = .ok (.iload_n 1, 1) := by decide +kernel
theorem dX7_mark_50 : decode cX7_mark 50 = .ok (.iaload, 1) := by decide +kernel
theorem dX7_mark_51 : decode cX7_mark 51 = .ok (.ifCond .ne 12, 3) := by decide +kernel
theorem dX7_mark_54 : decode cX7_mark 54 = .ok (.iload_n 3, 1) := by decide +kernel
theorem dX7_mark_55 : decode cX7_mark 55 = .ok (.ldc 68, 2) := by decide +kernel
theorem dX7_mark_57 : decode cX7_mark 57 = .ok (.if_icmp .ne 6, 3) := by decide +kernel
theorem dX7_mark_60 : decode cX7_mark 60 = .ok (.ldc 187, 2) := by decide +kernel
theorem dX7_mark_62 : decode cX7_mark 62 = .ok (.ireturn, 1) := by decide +kernel
theorem dX7_mark_63 : decode cX7_mark 63 = .ok (.aload_n 0, 1) := by decide +kernel
theorem dX7_mark_64 : decode cX7_mark 64 = .ok (.getfield 19, 3) := by decide +kernel
theorem dX7_mark_67 : decode cX7_mark 67 = .ok (.iload_n 1, 1) := by decide +kernel
theorem dX7_mark_68 : decode cX7_mark 68 = .ok (.iaload, 1) := by decide +kernel
theorem dX7_mark_69 : decode cX7_mark 69 = .ok (.iconst 1, 1) := by decide +kernel
theorem dX7_mark_70 : decode cX7_mark 70 = .ok (.if_icmp .ne 26, 3) := by decide +kernel
theorem dX7_mark_73 : decode cX7_mark 73 = .ok (.iload_n 3, 1) := by decide +kernel
theorem dX7_mark_74 : decode cX7_mark 74 = .ok (.ldc 68, 2) := by decide +kernel
theorem dX7_mark_76 : decode cX7_mark 76 = .ok (.if_icmp .eq 20, 3) := by decide +kernel
theorem dX7_mark_79 : decode cX7_mark 79 = .ok (.iload_n 3, 1) := by decide +kernel
theorem dX7_mark_80 : decode cX7_mark 80 = .ok (.i2l, 1) := by decide +kernel
theorem dX7_mark_81 : decode cX7_mark 81 = .ok (.ldc2_w 375, 3) := by decide +kernel
theorem dX7_mark_84 : decode cX7_mark 84 = .ok (.ldc2_w 377, 3) := by decide +kernel
theorem dX7_mark_87 : decode cX7_mark 87 = .ok (.invokestatic 69, 3) := by decide +kernel
theorem dX7_mark_90 : decode cX7_mark 90 = .ok (.ifCond .ne 6, 3) := by decide +kernel
theorem dX7_mark_93 : decode cX7_mark 93 = .ok (.ldc 161, 2) := by decide +kernel
theorem dX7_mark_95 : decode cX7_mark 95 = .ok (.ireturn, 1) := by decide +kernel
theorem dX7_mark_96 : decode cX7_mark 96 = .ok (.aload_n 0, 1) := by decide +kernel
theorem dX7_mark_97 : decode cX7_mark 97 = .ok (.getfield 25, 3) := by decide +kernel
theorem dX7_mark_100 : decode cX7_mark 100 = .ok (.bipush 24, 2) := by decide +kernel
theorem dX7_mark_102 : decode cX7_mark 102 = .ok (.iload_n 1, 1) := by decide +kernel
theorem dX7_mark_103 : decode cX7_mark 103 = .ok (.imul, 1) := by decide +kernel
theorem dX7_mark_104 : decode cX7_mark 104 = .ok (.iload_n 2, 1) := by decide +kernel
theorem dX7_mark_105 : decode cX7_mark 105 = .ok (.iadd, 1) := by decide +kernel
theorem dX7_mark_106 : decode cX7_mark 106 = .ok (.aload_n 0, 1) := by decide +kernel
theorem dX7_mark_107 : decode cX7_mark 107 = .ok (.getfield 19, 3) := by decide +kernel
theorem dX7_mark_110 : decode cX7_mark 110 = .ok (.iload_n 1, 1) := by decide +kernel
theorem dX7_mark_111 : decode cX7_mark 111 = .ok (.iaload, 1) := by decide +kernel
theorem dX7_mark_112 : decode cX7_mark 112 = .ok (.ifCond .ne 13, 3) := by decide +kernel
theorem dX7_mark_115 : decode cX7_mark 115 = .ok (.iload_n 3, 1) := by decide +kernel
theorem dX7_mark_116 : decode cX7_mark 116 = .ok (.bipush 16, 2) := by decide +kernel
theorem dX7_mark_118 : decode cX7_mark 118 = .ok (.ishl, 1) := by decide +kernel
theorem dX7_mark_119 : decode cX7_mark 119 = .ok (.bipush 16, 2) := by decide +kernel
theorem dX7_mark_121 : decode cX7_mark 121 = .ok (.ishr, 1) := by decide +kernel
theorem dX7_mark_122 : decode cX7_mark 122 = .ok (.goto 4, 3) := by decide +kernel
theorem dX7_mark_125 : decode cX7_mark 125 = .ok (.iload_n 3, 1) := by decide +kernel
theorem dX7_mark_126 : decode cX7_mark 126 = .ok (.iastore, 1) := by decide +kernel
theorem dX7_mark_127 : decode cX7_mark 127 = .ok (.iconst 1, 1) := by decide +kernel
theorem dX7_mark_128 : decode cX7_mark 128 = .ok (.ireturn, 1) := by decide +kernel
theorem dX7_pour_0 : decode cX7_pour 0 = .ok (.iload_n 1, 1) := by decide +kernel
theorem dX7_pour_1 : decode cX7_pour 1 = .ok (.invokestatic 369, 3) := by decide +kernel
theorem dX7_pour_4 : decode cX7_pour 4 = .ok (.ifCond .ne 6, 3) := by decide +kernel
theorem dX7_pour_7 : decode cX7_pour 7 = .ok (.ldc 161, 2) := by decide +kernel
theorem dX7_pour_9 : decode cX7_pour 9 = .ok (.ireturn, 1) := by decide +kernel
theorem dX7_pour_10 : decode cX7_pour 10 = .ok (.aload_n 0, 1) := by decide +kernel
theorem dX7_pour_11 : decode cX7_pour 11 = .ok (.getfield 19, 3) := by decide +kernel
theorem dX7_pour_14 : decode cX7_pour 14 = .ok (.iload_n 1, 1) := by decide +kernel
theorem dX7_pour_15 : decode cX7_pour 15 = .ok (.iaload, 1) := by decide +kernel
theorem dX7_pour_16 : decode cX7_pour 16 = .ok (.ifCond .ge 7, 3) := by decide +kernel
theorem dX7_pour_19 : decode cX7_pour 19 = .ok (.ldc_w 373, 3) := by decide +kernel
theorem dX7_pour_22 : decode cX7_pour 22 = .ok (.ireturn, 1) := by decide +kernel
theorem dX7_pour_23 : decode cX7_pour 23 = .ok (.iconst 0, 1) := by decide +kernel
theorem dX7_pour_24 : decode cX7_pour 24 = .ok (.istore_n 2, 1) := by decide +kernel
theorem dX7_pour_25 : decode cX7_pour 25 = .ok (.iconst 0, 1) := by decide +kernel
theorem dX7_pour_26 : decode cX7_pour 26 = .ok (.istore_n 3, 1) := by decide +kernel
theorem dX7_pour_27 : decode cX7_pour 27 = .ok (.iload_n 3, 1) := by decide +kernel
theorem dX7_pour_28 : decode cX7_pour 28 = .ok (.aload_n 0, 1) := by decide +kernel
theorem dX7_pour_29 : decode cX7_pour 29 = .ok (.getfield 22, 3) := by decide +kernel
theorem dX7_pour_32 : decode cX7_pour 32 = .ok (.iload_n 1, 1) := by decide +kernel
theorem dX7_pour_33 : decode cX7_pour 33 = .ok (.iaload, 1) := by decide +kernel
theorem dX7_pour_34 : decode cX7_pour 34 = .ok (.if_icmp .ge 91, 3) := by decide +kernel
theorem dX7_pour_37 : decode cX7_pour 37 = .ok (.iload_n 3, 1) := by decide +kernel
theorem dX7_pour_38 : decode cX7_pour 38 = .ok (.aload_n 0, 1) := by decide +kernel
theorem dX7_pour_39 : decode cX7_pour 39 = .ok (.getfield 7, 3) := by decide +kernel
theorem dX7_pour_42 : decode cX7_pour 42 = .ok (.iconst 0, 1) := by decide +kernel
theorem dX7_pour_43 : decode cX7_pour 43 = .ok (.iaload, 1) := by decide +kernel
theorem dX7_pour_44 : decode cX7_pour 44 = .ok (.if_icmp .ge 81, 3) := by decide +kernel
theorem dX7_pour_47 : decode cX7_pour 47 = .ok (.aload_n 0, 1) := by decide +kernel
theorem dX7_pour_48 : decode cX7_pour 48 = .ok (.getfield 25, 3) := by decide +kernel
theorem dX7_pour_51 : decode cX7_pour 51 = .ok (.bipush 24, 2) := by decide +kernel
theorem dX7_pour_53 : decode cX7_pour 53 = .ok (.iload_n 1, 1) := by decide +kernel
theorem dX7_pour_54 : decode cX7_pour 54 = .ok (.imul, 1) := by decide +kernel
theorem dX7_pour_55 : decode cX7_pour 55 = .ok (.iload_n 3, 1) := by decide +kernel
theorem dX7_pour_56 : decode cX7_pour 56 = .ok (.iadd, 1) := by decide +kernel
theorem dX7_pour_57 : decode cX7_pour 57 = .ok (.iaload, 1) := by decide +kernel
theorem dX7_pour_58 : decode cX7_pour 58 = .ok (.istore 4, 2) := by decide +kernel
theorem dX7_pour_60 : decode cX7_pour 60 = .ok (.iload 4, 2) := by decide +kernel
theorem dX7_pour_62 : decode cX7_pour 62 = .ok (.ldc 68, 2) := by decide +kernel
theorem dX7_pour_64 : decode cX7_pour 64 = .ok (.if_icmp .ne 19, 3) := by decide +kernel
theorem dX7_pour_67 : decode cX7_pour 67 = .ok (.aload_n 0, 1) := by decide +kernel
theorem dX7_pour_68 : decode cX7_pour 68 = .ok (.getfield 7, 3) := by decide +kernel
theorem dX7_pour_71 : decode cX7_pour 71 = .ok (.bipush 10, 2) := by decide +kernel
theorem dX7_pour_73 : decode cX7_pour 73 = .ok (.iconst 4, 1) := by decide +kernel
theorem dX7_pour_74 : decode cX7_pour 74 = .ok (.iload_n 3, 1) := by decide +kernel
theorem dX7_pour_75 : decode cX7_pour 75 = .ok (.imul, 1) := by decide +kernel
theorem dX7_pour_76 : decode cX7_pour 76 = .ok (.iadd, 1) := by decide +kernel
theorem dX7_pour_77 : decode cX7_pour 77 = .ok (.iconst 3, 1) := by decide +kernel
theorem dX7_pour_78 : decode cX7_pour 78 = .ok (.iadd, 1) := by decide +kernel
theorem dX7_pour_79 : decode cX7_pour 79 = .ok (.iaload, 1) := by decide +kernel
theorem dX7_pour_80 : decode cX7_pour 80 = .ok (.goto 10, 3) := by decide +kernel
theorem dX7_pour_83 : decode cX7_pour 83 = .ok (.iload 4, 2) := by decide +kernel
theorem dX7_pour_85 : decode cX7_pour 85 = .ok (.bipush 99, 2) := by decide +kernel
theorem dX7_pour_87 : decode cX7_pour 87 = .ok (.invokestatic 94, 3) := by decide +kernel
theorem dX7_pour_90 : decode cX7_pour 90 = .ok (.istore 5, 2) := by decide +kernel
theorem dX7_pour_92 : decode cX7_pour 92 = .ok (.iload_n 2, 1) := by decide +kernel
theorem dX7_pour_93 : decode cX7_pour 93 = .ok (.iload 5, 2) := by decide +kernel
theorem dX7_pour_95 : decode cX7_pour 95 = .ok (.aload_n 0, 1) := by decide +kernel
theorem dX7_pour_96 : decode cX7_pour 96 = .ok (.bipush 10, 2) := by decide +kernel
theorem dX7_pour_98 : decode cX7_pour 98 = .ok (.iconst 4, 1) := by decide +kernel
theorem dX7_pour_99 : decode cX7_pour 99 = .ok (.iload_n 3, 1) := by decide +kernel
theorem dX7_pour_100 : decode cX7_pour 100 = .ok (.imul, 1) := by decide +kernel
theorem dX7_pour_101 : decode cX7_pour 101 = .ok (.iadd, 1) := by decide +kernel
theorem dX7_pour_102 : decode cX7_pour 102 = .ok (.iconst 3, 1) := by decide +kernel
theorem dX7_pour_103 : decode cX7_pour 103 = .ok (.iadd, 1) := by decide +kernel
theorem dX7_pour_104 : decode cX7_pour 104 = .ok (.iload 5, 2) := by decide +kernel
theorem dX7_pour_106 : decode cX7_pour 106 = .ok (.invokevirtual 188, 3) := by decide +kernel
theorem dX7_pour_109 : decode cX7_pour 109 = .ok (.if_icmp .ne 7, 3) := by decide +kernel
theorem dX7_pour_112 : decode cX7_pour 112 = .ok (.iconst 0, 1) := by decide +kernel
theorem dX7_pour_113 : decode cX7_pour 113 = .ok (.goto 4, 3) := by decide +kernel
theorem dX7_pour_116 : decode cX7_pour 116 = .ok (.iconst 1, 1) := by decide +kernel
theorem dX7_pour_117 : decode cX7_pour 117 = .ok (.iadd, 1) := by decide +kernel
theorem dX7_pour_118 : decode cX7_pour 118 = .ok (.istore_n 2, 1) := by decide +kernel
theorem dX7_pour_119 : decode cX7_pour 119 = .ok (.iinc 3 1, 3) := by decide +kernel
theorem dX7_pour_122 : decode cX7_pour 122 = .ok (.goto (-95), 3) := by decide +kernel
theorem dX7_pour_125 : decode cX7_pour 125 = .ok (.iload_n 2, 1) := by decide +kernel
theorem dX7_pour_126 : decode cX7_pour 126 = .ok (.ireturn, 1) := by decide +kernel
theorem dX7_reads_0 : decode cX7_reads 0 = .ok (.iload_n 1, 1) := by decide +kernel
theorem dX7_reads_1 : decode cX7_reads 1 = .ok (.invokestatic 369, 3) := by decide +kernel
theorem dX7_reads_4 : decode cX7_reads 4 = .ok (.ifCond .ne 6, 3) := by decide +kernel
theorem dX7_reads_7 : decode cX7_reads 7 = .ok (.ldc 161, 2) := by decide +kernel
theorem dX7_reads_9 : decode cX7_reads 9 = .ok (.ireturn, 1) := by decide +kernel
theorem dX7_reads_10 : decode cX7_reads 10 = .ok (.aload_n 0, 1) := by decide +kernel
theorem dX7_reads_11 : decode cX7_reads 11 = .ok (.getfield 19, 3) := by decide +kernel
theorem dX7_reads_14 : decode cX7_reads 14 = .ok (.iload_n 1, 1) := by decide +kernel
theorem dX7_reads_15 : decode cX7_reads 15 = .ok (.iaload, 1) := by decide +kernel
theorem dX7_reads_16 : decode cX7_reads 16 = .ok (.ifCond .ge 7, 3) := by decide +kernel
theorem dX7_reads_19 : decode cX7_reads 19 = .ok (.ldc_w 373, 3) := by decide +kernel
theorem dX7_reads_22 : decode cX7_reads 22 = .ok (.ireturn, 1) := by decide +kernel
theorem dX7_reads_23 : decode cX7_reads 23 = .ok (.iconst 0, 1) := by decide +kernel
theorem dX7_reads_24 : decode cX7_reads 24 = .ok (.istore_n 2, 1) := by decide +kernel
theorem dX7_reads_25 : decode cX7_reads 25 = .ok (.iload_n 2, 1) := by decide +kernel
theorem dX7_reads_26 : decode cX7_reads 26 = .ok (.aload_n 0, 1) := by decide +kernel
theorem dX7_reads_27 : decode cX7_reads 27 = .ok (.getfield 22, 3) := by decide +kernel
theorem dX7_reads_30 : decode cX7_reads 30 = .ok (.iload_n 1, 1) := by decide +kernel
theorem dX7_reads_31 : decode cX7_reads 31 = .ok (.iaload, 1) := by decide +kernel
theorem dX7_reads_32 : decode cX7_reads 32 = .ok (.if_icmp .ge 49, 3) := by decide +kernel
theorem dX7_reads_35 : decode cX7_reads 35 = .ok (.aload_n 0, 1) := by decide +kernel
theorem dX7_reads_36 : decode cX7_reads 36 = .ok (.getfield 25, 3) := by decide +kernel
theorem dX7_reads_39 : decode cX7_reads 39 = .ok (.bipush 24, 2) := by decide +kernel
theorem dX7_reads_41 : decode cX7_reads 41 = .ok (.iload_n 1, 1) := by decide +kernel
theorem dX7_reads_42 : decode cX7_reads 42 = .ok (.imul, 1) := by decide +kernel
theorem dX7_reads_43 : decode cX7_reads 43 = .ok (.iload_n 2, 1) := by decide +kernel
theorem dX7_reads_44 : decode cX7_reads 44 = .ok (.iadd, 1) := by decide +kernel
theorem dX7_reads_45 : decode cX7_reads 45 = .ok (.iaload, 1) := by decide +kernel
theorem dX7_reads_46 : decode cX7_reads 46 = .ok (.istore_n 3, 1) := by decide +kernel
theorem dX7_reads_47 : decode cX7_reads 47 = .ok (.iload_n 3, 1) := by decide +kernel
theorem dX7_reads_48 : decode cX7_reads 48 = .ok (.ldc 68, 2) := by decide +kernel
theorem dX7_reads_50 : decode cX7_reads 50 = .ok (.if_icmp .eq 25, 3) := by decide +kernel
theorem dX7_reads_53 : decode cX7_reads 53 = .ok (.iload_n 2, 1) := by decide +kernel
theorem dX7_reads_54 : decode cX7_reads 54 = .ok (.aload_n 0, 1) := by decide +kernel
theorem dX7_reads_55 : decode cX7_reads 55 = .ok (.getfield 7, 3) := by decide +kernel
theorem dX7_reads_58 : decode cX7_reads 58 = .ok (.iconst 0, 1) := by decide +kernel
theorem dX7_reads_59 : decode cX7_reads 59 = .ok (.iaload, 1) := by decide +kernel
theorem dX7_reads_60 : decode cX7_reads 60 = .ok (.if_icmp .ge 13, 3) := by decide +kernel
theorem dX7_reads_63 : decode cX7_reads 63 = .ok (.iload_n 3, 1) := by decide +kernel
theorem dX7_reads_64 : decode cX7_reads 64 = .ok (.aload_n 0, 1) := by decide +kernel
theorem dX7_reads_65 : decode cX7_reads 65 = .ok (.iload_n 2, 1) := by decide +kernel
theorem dX7_reads_66 : decode cX7_reads 66 = .ok (.iconst 1, 1) := by decide +kernel
theorem dX7_reads_67 : decode cX7_reads 67 = .ok (.invokevirtual 76, 3) := by decide +kernel
theorem dX7_reads_70 : decode cX7_reads 70 = .ok (.if_icmp .eq 5, 3) := by decide +kernel
theorem dX7_reads_73 : decode cX7_reads 73 = .ok (.iload_n 2, 1) := by decide +kernel
theorem dX7_reads_74 : decode cX7_reads 74 = .ok (.ireturn, 1) := by decide +kernel
theorem dX7_reads_75 : decode cX7_reads 75 = .ok (.iinc 2 1, 3) := by decide +kernel
theorem dX7_reads_78 : decode cX7_reads 78 = .ok (.goto (-53), 3) := by decide +kernel
theorem dX7_reads_81 : decode cX7_reads 81 = .ok (.ldc 68, 2) := by decide +kernel
theorem dX7_reads_83 : decode cX7_reads 83 = .ok (.ireturn, 1) := by decide +kernel
theorem dX7_offBy_0 : decode cX7_offBy 0 = .ok (.aload_n 0, 1) := by decide +kernel
theorem dX7_offBy_1 : decode cX7_offBy 1 = .ok (.invokevirtual 253, 3) := by decide +kernel
theorem dX7_offBy_4 : decode cX7_offBy 4 = .ok (.iconst 0, 1) := by decide +kernel
theorem dX7_offBy_5 : decode cX7_offBy 5 = .ok (.istore_n 3, 1) := by decide +kernel
theorem dX7_offBy_6 : decode cX7_offBy 6 = .ok (.iconst 0, 1) := by decide +kernel
theorem dX7_offBy_7 : decode cX7_offBy 7 = .ok (.istore 4, 2) := by decide +kernel
theorem dX7_offBy_9 : decode cX7_offBy 9 = .ok (.iload 4, 2) := by decide +kernel
theorem dX7_offBy_11 : decode cX7_offBy 11 = .ok (.aload_n 0, 1) := by decide +kernel
theorem dX7_offBy_12 : decode cX7_offBy 12 = .ok (.getfield 22, 3) := by decide +kernel
theorem dX7_offBy_15 : decode cX7_offBy 15 = .ok (.iload_n 1, 1) := by decide +kernel
theorem dX7_offBy_16 : decode cX7_offBy 16 = .ok (.iaload, 1) := by decide +kernel
theorem dX7_offBy_17 : decode cX7_offBy 17 = .ok (.if_icmp .ge 52, 3) := by decide +kernel
theorem dX7_offBy_20 : decode cX7_offBy 20 = .ok (.aload_n 0, 1) := by decide +kernel
theorem dX7_offBy_21 : decode cX7_offBy 21 = .ok (.getfield 25, 3) := by decide +kernel
theorem dX7_offBy_24 : decode cX7_offBy 24 = .ok (.bipush 24, 2) := by decide +kernel
theorem dX7_offBy_26 : decode cX7_offBy 26 = .ok (.iload_n 1, 1) := by decide +kernel
theorem dX7_offBy_27 : decode cX7_offBy 27 = .ok (.imul, 1) := by decide +kernel
theorem dX7_offBy_28 : decode cX7_offBy 28 = .ok (.iload 4, 2) := by decide +kernel
theorem dX7_offBy_30 : decode cX7_offBy 30 = .ok (.iadd, 1) := by decide +kernel
theorem dX7_offBy_31 : decode cX7_offBy 31 = .ok (.iaload, 1) := by decide +kernel
theorem dX7_offBy_32 : decode cX7_offBy 32 = .ok (.istore 5, 2) := by decide +kernel
theorem dX7_offBy_34 : decode cX7_offBy 34 = .ok (.iload_n 3, 1) := by decide +kernel
theorem dX7_offBy_35 : decode cX7_offBy 35 = .ok (.iload 5, 2) := by decide +kernel
theorem dX7_offBy_37 : decode cX7_offBy 37 = .ok (.ldc 68, 2) := by decide +kernel
theorem dX7_offBy_39 : decode cX7_offBy 39 = .ok (.if_icmp .ne 7, 3) := by decide +kernel
theorem dX7_offBy_42 : decode cX7_offBy 42 = .ok (.iconst 0, 1) := by decide +kernel
theorem dX7_offBy_43 : decode cX7_offBy 43 = .ok (.goto 14, 3) := by decide +kernel
theorem dX7_offBy_46 : decode cX7_offBy 46 = .ok (.iload 5, 2) := by decide +kernel
theorem dX7_offBy_48 : decode cX7_offBy 48 = .ok (.aload_n 0, 1) := by decide +kernel
theorem dX7_offBy_49 : decode cX7_offBy 49 = .ok (.iload_n 2, 1) := by decide +kernel
theorem dX7_offBy_50 : decode cX7_offBy 50 = .ok (.iconst 3, 1) := by decide +kernel
theorem dX7_offBy_51 : decode cX7_offBy 51 = .ok (.invokevirtual 76, 3) := by decide +kernel
theorem dX7_offBy_54 : decode cX7_offBy 54 = .ok (.invokestatic 104, 3) := by decide +kernel
theorem dX7_offBy_57 : decode cX7_offBy 57 = .ok (.iadd, 1) := by decide +kernel
theorem dX7_offBy_58 : decode cX7_offBy 58 = .ok (.istore_n 3, 1) := by decide +kernel
theorem dX7_offBy_59 : decode cX7_offBy 59 = .ok (.aload_n 0, 1) := by decide +kernel
theorem dX7_offBy_60 : decode cX7_offBy 60 = .ok (.invokevirtual 237, 3) := by decide +kernel
theorem dX7_offBy_63 : decode cX7_offBy 63 = .ok (.iinc 4 1, 3) := by decide +kernel
theorem dX7_offBy_66 : decode cX7_offBy 66 = .ok (.goto (-57), 3) := by decide +kernel
theorem dX7_offBy_69 : decode cX7_offBy 69 = .ok (.aload_n 0, 1) := by decide +kernel
theorem dX7_offBy_70 : decode cX7_offBy 70 = .ok (.invokevirtual 256, 3) := by decide +kernel
theorem dX7_offBy_73 : decode cX7_offBy 73 = .ok (.iload_n 3, 1) := by decide +kernel
theorem dX7_offBy_74 : decode cX7_offBy 74 = .ok (.ireturn, 1) := by decide +kernel
theorem dX7_like_0 : decode cX7_like 0 = .ok (.iload_n 1, 1) := by decide +kernel
theorem dX7_like_1 : decode cX7_like 1 = .ok (.invokestatic 369, 3) := by decide +kernel
theorem dX7_like_4 : decode cX7_like 4 = .ok (.ifCond .eq 13, 3) := by decide +kernel
theorem dX7_like_7 : decode cX7_like 7 = .ok (.iload_n 2, 1) := by decide +kernel
theorem dX7_like_8 : decode cX7_like 8 = .ok (.i2l, 1) := by decide +kernel
theorem dX7_like_9 : decode cX7_like 9 = .ok (.lconst 0, 1) := by decide +kernel
theorem dX7_like_10 : decode cX7_like 10 = .ok (.lconst 1, 1) := by decide +kernel
theorem dX7_like_11 : decode cX7_like 11 = .ok (.invokestatic 69, 3) := by decide +kernel
theorem dX7_like_14 : decode cX7_like 14 = .ok (.ifCond .ne 6, 3) := by decide +kernel
theorem dX7_like_17 : decode cX7_like 17 = .ok (.ldc 161, 2) := by decide +kernel
theorem dX7_like_19 : decode cX7_like 19 = .ok (.ireturn, 1) := by decide +kernel
theorem dX7_like_20 : decode cX7_like 20 = .ok (.aload_n 0, 1) := by decide +kernel
theorem dX7_like_21 : decode cX7_like 21 = .ok (.getfield 19, 3) := by decide +kernel
theorem dX7_like_24 : decode cX7_like 24 = .ok (.iload_n 1, 1) := by decide +kernel
theorem dX7_like_25 : decode cX7_like 25 = .ok (.iaload, 1) := by decide +kernel
theorem dX7_like_26 : decode cX7_like 26 = .ok (.ifCond .ge 7, 3) := by decide +kernel
theorem dX7_like_29 : decode cX7_like 29 = .ok (.ldc_w 373, 3) := by decide +kernel
theorem dX7_like_32 : decode cX7_like 32 = .ok (.ireturn, 1) := by decide +kernel
theorem dX7_like_33 : decode cX7_like 33 = .ok (.iconst (-1), 1) := by decide +kernel
theorem dX7_like_34 : decode cX7_like 34 = .ok (.istore_n 3, 1) := by decide +kernel
theorem dX7_like_35 : decode cX7_like 35 = .ok (.iconst 0, 1) := by decide +kernel
theorem dX7_like_36 : decode cX7_like 36 = .ok (.istore 4, 2) := by decide +kernel
theorem dX7_like_38 : decode cX7_like 38 = .ok (.iconst 0, 1) := by decide +kernel
theorem dX7_like_39 : decode cX7_like 39 = .ok (.istore 5, 2) := by decide +kernel
theorem dX7_like_41 : decode cX7_like 41 = .ok (.iload 5, 2) := by decide +kernel
theorem dX7_like_43 : decode cX7_like 43 = .ok (.aload_n 0, 1) := by decide +kernel
theorem dX7_like_44 : decode cX7_like 44 = .ok (.getfield 7, 3) := by decide +kernel
theorem dX7_like_47 : decode cX7_like 47 = .ok (.iconst 0, 1) := by decide +kernel
theorem dX7_like_48 : decode cX7_like 48 = .ok (.iaload, 1) := by decide +kernel
theorem dX7_like_49 : decode cX7_like 49 = .ok (.if_icmp .ge 36, 3) := by decide +kernel
theorem dX7_like_52 : decode cX7_like 52 = .ok (.aload_n 0, 1) := by decide +kernel
theorem dX7_like_53 : decode cX7_like 53 = .ok (.iload_n 1, 1) := by decide +kernel
theorem dX7_like_54 : decode cX7_like 54 = .ok (.iload 5, 2) := by decide +kernel
theorem dX7_like_56 : decode cX7_like 56 = .ok (.invokevirtual 379, 3) := by decide +kernel
theorem dX7_like_59 : decode cX7_like 59 = .ok (.istore 6, 2) := by decide +kernel
theorem dX7_like_61 : decode cX7_like 61 = .ok (.iload_n 3, 1) := by decide +kernel
theorem dX7_like_62 : decode cX7_like 62 = .ok (.ifCond .lt 10, 3) := by decide +kernel
theorem dX7_like_65 : decode cX7_like 65 = .ok (.iload 6, 2) := by decide +kernel
theorem dX7_like_67 : decode cX7_like 67 = .ok (.iload 4, 2) := by decide +kernel
theorem dX7_like_69 : decode cX7_like 69 = .ok (.if_icmp .ge 10, 3) := by decide +kernel
theorem dX7_like_72 : decode cX7_like 72 = .ok (.iload 5, 2) := by decide +kernel
theorem dX7_like_74 : decode cX7_like 74 = .ok (.istore_n 3, 1) := by decide +kernel
theorem dX7_like_75 : decode cX7_like 75 = .ok (.iload 6, 2) := by decide +kernel
theorem dX7_like_77 : decode cX7_like 77 = .ok (.istore 4, 2) := by decide +kernel
theorem dX7_like_79 : decode cX7_like 79 = .ok (.iinc 5 1, 3) := by decide +kernel
theorem dX7_like_82 : decode cX7_like 82 = .ok (.goto (-41), 3) := by decide +kernel
theorem dX7_like_85 : decode cX7_like 85 = .ok (.iload_n 3, 1) := by decide +kernel
theorem dX7_like_86 : decode cX7_like 86 = .ok (.ifCond .ge 8, 3) := by decide +kernel
theorem dX7_like_89 : decode cX7_like 89 = .ok (.ldc 68, 2) := by decide +kernel
theorem dX7_like_91 : decode cX7_like 91 = .ok (.goto 13, 3) := by decide +kernel
theorem dX7_like_94 : decode cX7_like 94 = .ok (.iload_n 2, 1) := by decide +kernel
theorem dX7_like_95 : decode cX7_like 95 = .ok (.ifCond .ne 7, 3) := by decide +kernel
theorem dX7_like_98 : decode cX7_like 98 = .ok (.iload_n 3, 1) := by decide +kernel
theorem dX7_like_99 : decode cX7_like 99 = .ok (.goto 5, 3) := by decide +kernel
theorem dX7_like_102 : decode cX7_like 102 = .ok (.iload 4, 2) := by decide +kernel
theorem dX7_like_104 : decode cX7_like 104 = .ok (.ireturn, 1) := by decide +kernel
theorem dX7_copy_0 : decode cX7_copy 0 = .ok (.iload_n 1, 1) := by decide +kernel
theorem dX7_copy_1 : decode cX7_copy 1 = .ok (.invokestatic 369, 3) := by decide +kernel
theorem dX7_copy_4 : decode cX7_copy 4 = .ok (.ifCond .eq 10, 3) := by decide +kernel
theorem dX7_copy_7 : decode cX7_copy 7 = .ok (.iload_n 3, 1) := by decide +kernel
theorem dX7_copy_8 : decode cX7_copy 8 = .ok (.invokestatic 369, 3) := by decide +kernel
theorem dX7_copy_11 : decode cX7_copy 11 = .ok (.ifCond .ne 6, 3) := by decide +kernel
theorem dX7_copy_14 : decode cX7_copy 14 = .ok (.ldc 161, 2) := by decide +kernel
theorem dX7_copy_16 : decode cX7_copy 16 = .ok (.ireturn, 1) := by decide +kernel
theorem dX7_copy_17 : decode cX7_copy 17 = .ok (.aload_n 0, 1) := by decide +kernel
theorem dX7_copy_18 : decode cX7_copy 18 = .ok (.getfield 19, 3) := by decide +kernel
theorem dX7_copy_21 : decode cX7_copy 21 = .ok (.iload_n 1, 1) := by decide +kernel
theorem dX7_copy_22 : decode cX7_copy 22 = .ok (.iaload, 1) := by decide +kernel
theorem dX7_copy_23 : decode cX7_copy 23 = .ok (.ifCond .lt 12, 3) := by decide +kernel
theorem dX7_copy_26 : decode cX7_copy 26 = .ok (.aload_n 0, 1) := by decide +kernel
theorem dX7_copy_27 : decode cX7_copy 27 = .ok (.getfield 19, 3) := by decide +kernel
theorem dX7_copy_30 : decode cX7_copy 30 = .ok (.iload_n 3, 1) := by decide +kernel
theorem dX7_copy_31 : decode cX7_copy 31 = .ok (.iaload, 1) := by decide +kernel
theorem dX7_copy_32 : decode cX7_copy 32 = .ok (.ifCond .ge 7, 3) := by decide +kernel
theorem dX7_copy_35 : decode cX7_copy 35 = .ok (.ldc_w 373, 3) := by decide +kernel
theorem dX7_copy_38 : decode cX7_copy 38 = .ok (.ireturn, 1) := by decide +kernel
theorem dX7_copy_39 : decode cX7_copy 39 = .ok (.aload_n 0, 1) := by decide +kernel
theorem dX7_copy_40 : decode cX7_copy 40 = .ok (.getfield 19, 3) := by decide +kernel
theorem dX7_copy_43 : decode cX7_copy 43 = .ok (.iload_n 1, 1) := by decide +kernel
theorem dX7_copy_44 : decode cX7_copy 44 = .ok (.iaload, 1) := by decide +kernel
theorem dX7_copy_45 : decode cX7_copy 45 = .ok (.aload_n 0, 1) := by decide +kernel
theorem dX7_copy_46 : decode cX7_copy 46 = .ok (.getfield 19, 3) := by decide +kernel
theorem dX7_copy_49 : decode cX7_copy 49 = .ok (.iload_n 3, 1) := by decide +kernel
theorem dX7_copy_50 : decode cX7_copy 50 = .ok (.iaload, 1) := by decide +kernel
theorem dX7_copy_51 : decode cX7_copy 51 = .ok (.if_icmp .eq 6, 3) := by decide +kernel
theorem dX7_copy_54 : decode cX7_copy 54 = .ok (.ldc 187, 2) := by decide +kernel
theorem dX7_copy_56 : decode cX7_copy 56 = .ok (.ireturn, 1) := by decide +kernel
theorem dX7_copy_57 : decode cX7_copy 57 = .ok (.iload_n 2, 1) := by decide +kernel
theorem dX7_copy_58 : decode cX7_copy 58 = .ok (.ifCond .lt 48, 3) := by decide +kernel
theorem dX7_copy_61 : decode cX7_copy 61 = .ok (.iload 4, 2) := by decide +kernel
theorem dX7_copy_63 : decode cX7_copy 63 = .ok (.ifCond .lt 43, 3) := by decide +kernel
theorem dX7_copy_66 : decode cX7_copy 66 = .ok (.iload 5, 2) := by decide +kernel
theorem dX7_copy_68 : decode cX7_copy 68 = .ok (.ifCond .lt 38, 3) := by decide +kernel
theorem dX7_copy_71 : decode cX7_copy 71 = .ok (.iload_n 2, 1) := by decide +kernel
theorem dX7_copy_72 : decode cX7_copy 72 = .ok (.i2l, 1) := by decide +kernel
theorem dX7_copy_73 : decode cX7_copy 73 = .ok (.iload 5, 2) := by decide +kernel
theorem dX7_copy_75 : decode cX7_copy 75 = .ok (.i2l, 1) := by decide +kernel
theorem dX7_copy_76 : decode cX7_copy 76 = .ok (.ladd, 1) := by decide +kernel
theorem dX7_copy_77 : decode cX7_copy 77 = .ok (.aload_n 0, 1) := by decide +kernel
theorem dX7_copy_78 : decode cX7_copy 78 = .ok (.getfield 22, 3) := by decide +kernel
theorem dX7_copy_81 : decode cX7_copy 81 = .ok (.iload_n 1, 1) := by decide +kernel
theorem dX7_copy_82 : decode cX7_copy 82 = .ok (.iaload, 1) := by decide +kernel
theorem dX7_copy_83 : decode cX7_copy 83 = .ok (.i2l, 1) := by decide +kernel
theorem dX7_copy_84 : decode cX7_copy 84 = .ok (.lcmp, 1) := by decide +kernel
theorem dX7_copy_85 : decode cX7_copy 85 = .ok (.ifCond .gt 21, 3) := by decide +kernel
theorem dX7_copy_88 : decode cX7_copy 88 = .ok (.iload 4, 2) := by decide +kernel
theorem dX7_copy_90 : decode cX7_copy 90 = .ok (.i2l, 1) := by decide +kernel
theorem dX7_copy_91 : decode cX7_copy 91 = .ok (.iload 5, 2) := by decide +kernel
theorem dX7_copy_93 : decode cX7_copy 93 = .ok (.i2l, 1) := by decide +kernel
theorem dX7_copy_94 : decode cX7_copy 94 = .ok (.ladd, 1) := by decide +kernel
theorem dX7_copy_95 : decode cX7_copy 95 = .ok (.aload_n 0, 1) := by decide +kernel
theorem dX7_copy_96 : decode cX7_copy 96 = .ok (.getfield 22, 3) := by decide +kernel
theorem dX7_copy_99 : decode cX7_copy 99 = .ok (.iload_n 3, 1) := by decide +kernel
theorem dX7_copy_100 : decode cX7_copy 100 = .ok (.iaload, 1) := by decide +kernel
theorem dX7_copy_101 : decode cX7_copy 101 = .ok (.i2l, 1) := by decide +kernel
theorem dX7_copy_102 : decode cX7_copy 102 = .ok (.lcmp, 1) := by decide +kernel
theorem dX7_copy_103 : decode cX7_copy 103 = .ok (.ifCond .le 7, 3) := by decide +kernel
theorem dX7_copy_106 : decode cX7_copy 106 = .ok (.ldc_w 374, 3) := by decide +kernel
theorem dX7_copy_109 : decode cX7_copy 109 = .ok (.ireturn, 1) := by decide +kernel
theorem dX7_copy_110 : decode cX7_copy 110 = .ok (.iconst 0, 1) := by decide +kernel
theorem dX7_copy_111 : decode cX7_copy 111 = .ok (.istore 6, 2) := by decide +kernel
theorem dX7_copy_113 : decode cX7_copy 113 = .ok (.iload 6, 2) := by decide +kernel
theorem dX7_copy_115 : decode cX7_copy 115 = .ok (.iload 5, 2) := by decide +kernel
theorem dX7_copy_117 : decode cX7_copy 117 = .ok (.if_icmp .ge 30, 3) := by decide +kernel
theorem dX7_copy_120 : decode cX7_copy 120 = .ok (.aload_n 0, 1) := by decide +kernel
theorem dX7_copy_121 : decode cX7_copy 121 = .ok (.getfield 59, 3) := by decide +kernel
theorem dX7_copy_124 : decode cX7_copy 124 = .ok (.iload 6, 2) := by decide +kernel
theorem dX7_copy_126 : decode cX7_copy 126 = .ok (.aload_n 0, 1) := by decide +kernel
theorem dX7_copy_127 : decode cX7_copy 127 = .ok (.getfield 25, 3) := by decide +kernel
theorem dX7_copy_130 : decode cX7_copy 130 = .ok (.bipush 24, 2) := by decide +kernel
theorem dX7_copy_132 : decode cX7_copy 132 = .ok (.iload_n 1, 1) := by decide +kernel
theorem dX7_copy_133 : decode cX7_copy 133 = .ok (.imul, 1) := by decide +kernel
theorem dX7_copy_134 : decode cX7_copy 134 = .ok (.iload_n 2, 1) := by decide +kernel
theorem dX7_copy_135 : decode cX7_copy 135 = .ok (.iadd, 1) := by decide +kernel
theorem dX7_copy_136 : decode cX7_copy 136 = .ok (.iload 6, 2) := by decide +kernel
theorem dX7_copy_138 : decode cX7_copy 138 = .ok (.iadd, 1) := by decide +kernel
theorem dX7_copy_139 : decode cX7_copy 139 = .ok (.iaload, 1) := by decide +kernel
theorem dX7_copy_140 : decode cX7_copy 140 = .ok (.iastore, 1) := by decide +kernel
theorem dX7_copy_141 : decode cX7_copy 141 = .ok (.iinc 6 1, 3) := by decide +kernel
theorem dX7_copy_144 : decode cX7_copy 144 = .ok (.goto (-31), 3) := by decide +kernel
theorem dX7_copy_147 : decode cX7_copy 147 = .ok (.iconst 0, 1) := by decide +kernel
theorem dX7_copy_148 : decode cX7_copy 148 = .ok (.istore 6, 2) := by decide +kernel
theorem dX7_copy_150 : decode cX7_copy 150 = .ok (.iload 6, 2) := by decide +kernel
theorem dX7_copy_152 : decode cX7_copy 152 = .ok (.iload 5, 2) := by decide +kernel
theorem dX7_copy_154 : decode cX7_copy 154 = .ok (.if_icmp .ge 31, 3) := by decide +kernel
theorem dX7_copy_157 : decode cX7_copy 157 = .ok (.aload_n 0, 1) := by decide +kernel
theorem dX7_copy_158 : decode cX7_copy 158 = .ok (.getfield 25, 3) := by decide +kernel
theorem dX7_copy_161 : decode cX7_copy 161 = .ok (.bipush 24, 2) := by decide +kernel
theorem dX7_copy_163 : decode cX7_copy 163 = .ok (.iload_n 3, 1) := by decide +kernel
theorem dX7_copy_164 : decode cX7_copy 164 = .ok (.imul, 1) := by decide +kernel
theorem dX7_copy_165 : decode cX7_copy 165 = .ok (.iload 4, 2) := by decide +kernel
theorem dX7_copy_167 : decode cX7_copy 167 = .ok (.iadd, 1) := by decide +kernel
theorem dX7_copy_168 : decode cX7_copy 168 = .ok (.iload 6, 2) := by decide +kernel
theorem dX7_copy_170 : decode cX7_copy 170 = .ok (.iadd, 1) := by decide +kernel
theorem dX7_copy_171 : decode cX7_copy 171 = .ok (.aload_n 0, 1) := by decide +kernel
theorem dX7_copy_172 : decode cX7_copy 172 = .ok (.getfield 59, 3) := by decide +kernel
theorem dX7_copy_175 : decode cX7_copy 175 = .ok (.iload 6, 2) := by decide +kernel
theorem dX7_copy_177 : decode cX7_copy 177 = .ok (.iaload, 1) := by decide +kernel
theorem dX7_copy_178 : decode cX7_copy 178 = .ok (.iastore, 1) := by decide +kernel
theorem dX7_copy_179 : decode cX7_copy 179 = .ok (.iinc 6 1, 3) := by decide +kernel
theorem dX7_copy_182 : decode cX7_copy 182 = .ok (.goto (-32), 3) := by decide +kernel
theorem dX7_copy_185 : decode cX7_copy 185 = .ok (.iload 5, 2) := by decide +kernel
theorem dX7_copy_187 : decode cX7_copy 187 = .ok (.ireturn, 1) := by decide +kernel
theorem dX7_isSlot_0 : decode cX7_isSlot 0 = .ok (.iload_n 0, 1) := by decide +kernel
theorem dX7_isSlot_1 : decode cX7_isSlot 1 = .ok (.i2l, 1) := by decide +kernel
theorem dX7_isSlot_2 : decode cX7_isSlot 2 = .ok (.lconst 0, 1) := by decide +kernel
theorem dX7_isSlot_3 : decode cX7_isSlot 3 = .ok (.ldc2_w 382, 3) := by decide +kernel
theorem dX7_isSlot_6 : decode cX7_isSlot 6 = .ok (.invokestatic 69, 3) := by decide +kernel
theorem dX7_isSlot_9 : decode cX7_isSlot 9 = .ok (.ireturn, 1) := by decide +kernel
theorem dX7_lay_0 : decode cX7_lay 0 = .ok (.iload_n 2, 1) := by decide +kernel
theorem dX7_lay_1 : decode cX7_lay 1 = .ok (.ifCond .eq 33, 3) := by decide +kernel
theorem dX7_lay_4 : decode cX7_lay 4 = .ok (.iload_n 2, 1) := by decide +kernel
theorem dX7_lay_5 : decode cX7_lay 5 = .ok (.iconst 3, 1) := by decide +kernel
theorem dX7_lay_6 : decode cX7_lay 6 = .ok (.if_icmp .eq 28, 3) := by decide +kernel
theorem dX7_lay_9 : decode cX7_lay 9 = .ok (.iload_n 2, 1) := by decide +kernel
theorem dX7_lay_10 : decode cX7_lay 10 = .ok (.iconst 1, 1) := by decide +kernel
theorem dX7_lay_11 : decode cX7_lay 11 = .ok (.if_icmp .ne 11, 3) := by decide +kernel
theorem dX7_lay_14 : decode cX7_lay 14 = .ok (.aload_n 0, 1) := by decide +kernel
theorem dX7_lay_15 : decode cX7_lay 15 = .ok (.iload_n 3, 1) := by decide +kernel
theorem dX7_lay_16 : decode cX7_lay 16 = .ok (.invokevirtual 171, 3) := by decide +kernel
theorem dX7_lay_19 : decode cX7_lay 19 = .ok (.ifCond .ne 15, 3) := by decide +kernel
theorem dX7_lay_22 : decode cX7_lay 22 = .ok (.iload_n 2, 1) := by decide +kernel
theorem dX7_lay_23 : decode cX7_lay 23 = .ok (.iconst 2, 1) := by decide +kernel
theorem dX7_lay_24 : decode cX7_lay 24 = .ok (.if_icmp .ne 14, 3) := by decide +kernel
theorem dX7_lay_27 : decode cX7_lay 27 = .ok (.iload_n 3, 1) := by decide +kernel
theorem dX7_lay_28 : decode cX7_lay 28 = .ok (.invokestatic 369, 3) := by decide +kernel
theorem dX7_lay_31 : decode cX7_lay 31 = .ok (.ifCond .eq 7, 3) := by decide +kernel
theorem dX7_lay_34 : decode cX7_lay 34 = .ok (.iconst 1, 1) := by decide +kernel
theorem dX7_lay_35 : decode cX7_lay 35 = .ok (.goto 4, 3) := by decide +kernel
theorem dX7_lay_38 : decode cX7_lay 38 = .ok (.iconst 0, 1) := by decide +kernel
theorem dX7_lay_39 : decode cX7_lay 39 = .ok (.istore 4, 2) := by decide +kernel
theorem dX7_lay_41 : decode cX7_lay 41 = .ok (.iload_n 1, 1) := by decide +kernel
theorem dX7_lay_42 : decode cX7_lay 42 = .ok (.invokestatic 384, 3) := by decide +kernel
theorem dX7_lay_45 : decode cX7_lay 45 = .ok (.ifCond .eq 8, 3) := by decide +kernel
theorem dX7_lay_48 : decode cX7_lay 48 = .ok (.iload 4, 2) := by decide +kernel
theorem dX7_lay_50 : decode cX7_lay 50 = .ok (.ifCond .ne 6, 3) := by decide +kernel
theorem dX7_lay_53 : decode cX7_lay 53 = .ok (.ldc 161, 2) := by decide +kernel
theorem dX7_lay_55 : decode cX7_lay 55 = .ok (.ireturn, 1) := by decide +kernel
theorem dX7_lay_56 : decode cX7_lay 56 = .ok (.iload_n 2, 1) := by decide +kernel
theorem dX7_lay_57 : decode cX7_lay 57 = .ok (.iconst 2, 1) := by decide +kernel
theorem dX7_lay_58 : decode cX7_lay 58 = .ok (.if_icmp .ne 16, 3) := by decide +kernel
theorem dX7_lay_61 : decode cX7_lay 61 = .ok (.aload_n 0, 1) := by decide +kernel
theorem dX7_lay_62 : decode cX7_lay 62 = .ok (.getfield 19, 3) := by decide +kernel
theorem dX7_lay_65 : decode cX7_lay 65 = .ok (.iload_n 3, 1) := by decide +kernel
theorem dX7_lay_66 : decode cX7_lay 66 = .ok (.iaload, 1) := by decide +kernel
theorem dX7_lay_67 : decode cX7_lay 67 = .ok (.ifCond .ge 7, 3) := by decide +kernel
theorem dX7_lay_70 : decode cX7_lay 70 = .ok (.ldc_w 373, 3) := by decide +kernel
theorem dX7_lay_73 : decode cX7_lay 73 = .ok (.ireturn, 1) := by decide +kernel
theorem dX7_lay_74 : decode cX7_lay 74 = .ok (.aload_n 0, 1) := by decide +kernel
theorem dX7_lay_75 : decode cX7_lay 75 = .ok (.getfield 28, 3) := by decide +kernel
theorem dX7_lay_78 : decode cX7_lay 78 = .ok (.iload_n 1, 1) := by decide +kernel
theorem dX7_lay_79 : decode cX7_lay 79 = .ok (.iaload, 1) := by decide +kernel
theorem dX7_lay_80 : decode cX7_lay 80 = .ok (.istore 5, 2) := by decide +kernel
theorem dX7_lay_82 : decode cX7_lay 82 = .ok (.aload_n 0, 1) := by decide +kernel
theorem dX7_lay_83 : decode cX7_lay 83 = .ok (.getfield 28, 3) := by decide +kernel
theorem dX7_lay_86 : decode cX7_lay 86 = .ok (.iload_n 1, 1) := by decide +kernel
theorem dX7_lay_87 : decode cX7_lay 87 = .ok (.iload_n 2, 1) := by decide +kernel
theorem dX7_lay_88 : decode cX7_lay 88 = .ok (.iastore, 1) := by decide +kernel
theorem dX7_lay_89 : decode cX7_lay 89 = .ok (.aload_n 0, 1) := by decide +kernel
theorem dX7_lay_90 : decode cX7_lay 90 = .ok (.getfield 31, 3) := by decide +kernel
theorem dX7_lay_93 : decode cX7_lay 93 = .ok (.iload_n 1, 1) := by decide +kernel
theorem dX7_lay_94 : decode cX7_lay 94 = .ok (.iload_n 2, 1) := by decide +kernel
theorem dX7_lay_95 : decode cX7_lay 95 = .ok (.iconst 1, 1) := by decide +kernel
theorem dX7_lay_96 : decode cX7_lay 96 = .ok (.if_icmp .ne 12, 3) := by decide +kernel
theorem dX7_lay_99 : decode cX7_lay 99 = .ok (.aload_n 0, 1) := by decide +kernel
theorem dX7_lay_100 : decode cX7_lay 100 = .ok (.iload_n 3, 1) := by decide +kernel
theorem dX7_lay_101 : decode cX7_lay 101 = .ok (.iconst 0, 1) := by decide +kernel
theorem dX7_lay_102 : decode cX7_lay 102 = .ok (.invokevirtual 76, 3) := by decide +kernel
theorem dX7_lay_105 : decode cX7_lay 105 = .ok (.goto 4, 3) := by decide +kernel
theorem dX7_lay_108 : decode cX7_lay 108 = .ok (.iload_n 3, 1) := by decide +kernel
theorem dX7_lay_109 : decode cX7_lay 109 = .ok (.iastore, 1) := by decide +kernel
theorem dX7_lay_110 : decode cX7_lay 110 = .ok (.aload_n 0, 1) := by decide +kernel
theorem dX7_lay_111 : decode cX7_lay 111 = .ok (.getfield 34, 3) := by decide +kernel
theorem dX7_lay_114 : decode cX7_lay 114 = .ok (.iload_n 1, 1) := by decide +kernel
theorem dX7_lay_115 : decode cX7_lay 115 = .ok (.iload_n 2, 1) := by decide +kernel
theorem dX7_lay_116 : decode cX7_lay 116 = .ok (.iconst 1, 1) := by decide +kernel
theorem dX7_lay_117 : decode cX7_lay 117 = .ok (.if_icmp .ne 11, 3) := by decide +kernel
theorem dX7_lay_120 : decode cX7_lay 120 = .ok (.aload_n 0, 1) := by decide +kernel
theorem dX7_lay_121 : decode cX7_lay 121 = .ok (.iload_n 3, 1) := by decide +kernel
theorem dX7_lay_122 : decode cX7_lay 122 = .ok (.invokevirtual 180, 3) := by decide +kernel
theorem dX7_lay_125 : decode cX7_lay 125 = .ok (.goto 4, 3) := by decide +kernel
theorem dX7_lay_128 : decode cX7_lay 128 = .ok (.iconst 0, 1) := by decide +kernel
theorem dX7_lay_129 : decode cX7_lay 129 = .ok (.iastore, 1) := by decide +kernel
theorem dX7_lay_130 : decode cX7_lay 130 = .ok (.iload_n 2, 1) := by decide +kernel
theorem dX7_lay_131 : decode cX7_lay 131 = .ok (.iconst 2, 1) := by decide +kernel
theorem dX7_lay_132 : decode cX7_lay 132 = .ok (.if_icmp .ne 55, 3) := by decide +kernel
theorem dX7_lay_135 : decode cX7_lay 135 = .ok (.aload_n 0, 1) := by decide +kernel
theorem dX7_lay_136 : decode cX7_lay 136 = .ok (.getfield 37, 3) := by decide +kernel
theorem dX7_lay_139 : decode cX7_lay 139 = .ok (.iload_n 1, 1) := by decide +kernel
theorem dX7_lay_140 : decode cX7_lay 140 = .ok (.aload_n 0, 1) := by decide +kernel
theorem dX7_lay_141 : decode cX7_lay 141 = .ok (.getfield 22, 3) := by decide +kernel
theorem dX7_lay_144 : decode cX7_lay 144 = .ok (.iload_n 3, 1) := by decide +kernel
theorem dX7_lay_145 : decode cX7_lay 145 = .ok (.iaload, 1) := by decide +kernel
theorem dX7_lay_146 : decode cX7_lay 146 = .ok (.iastore, 1) := by decide +kernel
theorem dX7_lay_147 : decode cX7_lay 147 = .ok (.iconst 0, 1) := by decide +kernel
theorem dX7_lay_148 : decode cX7_lay 148 = .ok (.istore 6, 2) := by decide +kernel
theorem dX7_lay_150 : decode cX7_lay 150 = .ok (.iload 6, 2) := by decide +kernel
theorem dX7_lay_152 : decode cX7_lay 152 = .ok (.bipush 24, 2) := by decide +kernel
theorem dX7_lay_154 : decode cX7_lay 154 = .ok (.if_icmp .ge 33, 3) := by decide +kernel
theorem dX7_lay_157 : decode cX7_lay 157 = .ok (.aload_n 0, 1) := by decide +kernel
theorem dX7_lay_158 : decode cX7_lay 158 = .ok (.getfield 40, 3) := by decide +kernel
theorem dX7_lay_161 : decode cX7_lay 161 = .ok (.bipush 24, 2) := by decide +kernel
theorem dX7_lay_163 : decode cX7_lay 163 = .ok (.iload_n 1, 1) := by decide +kernel
theorem dX7_lay_164 : decode cX7_lay 164 = .ok (.imul, 1) := by decide +kernel
theorem dX7_lay_165 : decode cX7_lay 165 = .ok (.iload 6, 2) := by decide +kernel
theorem dX7_lay_167 : decode cX7_lay 167 = .ok (.iadd, 1) := by decide +kernel
theorem dX7_lay_168 : decode cX7_lay 168 = .ok (.aload_n 0, 1) := by decide +kernel
theorem dX7_lay_169 : decode cX7_lay 169 = .ok (.getfield 25, 3) := by decide +kernel
theorem dX7_lay_172 : decode cX7_lay 172 = .ok (.bipush 24, 2) := by decide +kernel
theorem dX7_lay_174 : decode cX7_lay 174 = .ok (.iload_n 3, 1) := by decide +kernel
theorem dX7_lay_175 : decode cX7_lay 175 = .ok (.imul, 1) := by decide +kernel
theorem dX7_lay_176 : decode cX7_lay 176 = .ok (.iload 6, 2) := by decide +kernel
theorem dX7_lay_178 : decode cX7_lay 178 = .ok (.iadd, 1) := by decide +kernel
theorem dX7_lay_179 : decode cX7_lay 179 = .ok (.iaload, 1) := by decide +kernel
theorem dX7_lay_180 : decode cX7_lay 180 = .ok (.iastore, 1) := by decide +kernel
theorem dX7_lay_181 : decode cX7_lay 181 = .ok (.iinc 6 1, 3) := by decide +kernel
theorem dX7_lay_184 : decode cX7_lay 184 = .ok (.goto (-34), 3) := by decide +kernel
theorem dX7_lay_187 : decode cX7_lay 187 = .ok (.iload 5, 2) := by decide +kernel
theorem dX7_lay_189 : decode cX7_lay 189 = .ok (.ireturn, 1) := by decide +kernel
theorem dX7_ask_0 : decode cX7_ask 0 = .ok (.iload_n 1, 1) := by decide +kernel
theorem dX7_ask_1 : decode cX7_ask 1 = .ok (.invokestatic 384, 3) := by decide +kernel
theorem dX7_ask_4 : decode cX7_ask 4 = .ok (.ifCond .eq 15, 3) := by decide +kernel
theorem dX7_ask_7 : decode cX7_ask 7 = .ok (.iload_n 2, 1) := by decide +kernel
theorem dX7_ask_8 : decode cX7_ask 8 = .ok (.i2l, 1) := by decide +kernel
theorem dX7_ask_9 : decode cX7_ask 9 = .ok (.lconst 0, 1) := by decide +kernel
theorem dX7_ask_10 : decode cX7_ask 10 = .ok (.ldc2_w 154, 3) := by decide +kernel
theorem dX7_ask_13 : decode cX7_ask 13 = .ok (.invokestatic 69, 3) := by decide +kernel
theorem dX7_ask_16 : decode cX7_ask 16 = .ok (.ifCond .ne 6, 3) := by decide +kernel
theorem dX7_ask_19 : decode cX7_ask 19 = .ok (.ldc 161, 2) := by decide +kernel
theorem dX7_ask_21 : decode cX7_ask 21 = .ok (.ireturn, 1) := by decide +kernel
theorem dX7_ask_22 : decode cX7_ask 22 = .ok (.aload_n 0, 1) := by decide +kernel
theorem dX7_ask_23 : decode cX7_ask 23 = .ok (.getfield 28, 3) := by decide +kernel
theorem dX7_ask_26 : decode cX7_ask 26 = .ok (.iload_n 1, 1) := by decide +kernel
theorem dX7_ask_27 : decode cX7_ask 27 = .ok (.iaload, 1) := by decide +kernel
theorem dX7_ask_28 : decode cX7_ask 28 = .ok (.ifCond .ne 7, 3) := by decide +kernel
theorem dX7_ask_31 : decode cX7_ask 31 = .ok (.ldc_w 373, 3) := by decide +kernel
theorem dX7_ask_34 : decode cX7_ask 34 = .ok (.ireturn, 1) := by decide +kernel
theorem dX7_ask_35 : decode cX7_ask 35 = .ok (.aload_n 0, 1) := by decide +kernel
theorem dX7_ask_36 : decode cX7_ask 36 = .ok (.getfield 28, 3) := by decide +kernel
theorem dX7_ask_39 : decode cX7_ask 39 = .ok (.iload_n 1, 1) := by decide +kernel
theorem dX7_ask_40 : decode cX7_ask 40 = .ok (.iaload, 1) := by decide +kernel
theorem dX7_ask_41 : decode cX7_ask 41 = .ok (.iconst 1, 1) := by decide +kernel
theorem dX7_ask_42 : decode cX7_ask 42 = .ok (.if_icmp .ne 25, 3) := by decide +kernel
theorem dX7_ask_45 : decode cX7_ask 45 = .ok (.aload_n 0, 1) := by decide +kernel
theorem dX7_ask_46 : decode cX7_ask 46 = .ok (.getfield 31, 3) := by decide +kernel
theorem dX7_ask_49 : decode cX7_ask 49 = .ok (.iload_n 1, 1) := by decide +kernel
theorem dX7_ask_50 : decode cX7_ask 50 = .ok (.iaload, 1) := by decide +kernel
theorem dX7_ask_51 : decode cX7_ask 51 = .ok (.iload_n 2, 1) := by decide +kernel
theorem dX7_ask_52 : decode cX7_ask 52 = .ok (.invokestatic 183, 3) := by decide +kernel
theorem dX7_ask_55 : decode cX7_ask 55 = .ok (.ifCond .eq 12, 3) := by decide +kernel
theorem dX7_ask_58 : decode cX7_ask 58 = .ok (.aload_n 0, 1) := by decide +kernel
theorem dX7_ask_59 : decode cX7_ask 59 = .ok (.getfield 34, 3) := by decide +kernel
theorem dX7_ask_62 : decode cX7_ask 62 = .ok (.iload_n 1, 1) := by decide +kernel
theorem dX7_ask_63 : decode cX7_ask 63 = .ok (.iaload, 1) := by decide +kernel
theorem dX7_ask_64 : decode cX7_ask 64 = .ok (.goto 5, 3) := by decide +kernel
theorem dX7_ask_67 : decode cX7_ask 67 = .ok (.ldc 187, 2) := by decide +kernel
theorem dX7_ask_69 : decode cX7_ask 69 = .ok (.ireturn, 1) := by decide +kernel
theorem dX7_item_0 : decode cX7_item 0 = .ok (.iload_n 1, 1) := by decide +kernel
theorem dX7_item_1 : decode cX7_item 1 = .ok (.invokestatic 384, 3) := by decide +kernel
theorem dX7_item_4 : decode cX7_item 4 = .ok (.ifCond .ne 6, 3) := by decide +kernel
theorem dX7_item_7 : decode cX7_item 7 = .ok (.ldc 161, 2) := by decide +kernel
theorem dX7_item_9 : decode cX7_item 9 = .ok (.ireturn, 1) := by decide +kernel
theorem dX7_item_10 : decode cX7_item 10 = .ok (.aload_n 0, 1) := by decide +kernel
theorem dX7_item_11 : decode cX7_item 11 = .ok (.getfield 28, 3) := by decide +kernel
theorem dX7_item_14 : decode cX7_item 14 = .ok (.iload_n 1, 1) := by decide +kernel
theorem dX7_item_15 : decode cX7_item 15 = .ok (.iaload, 1) := by decide +kernel
theorem dX7_item_16 : decode cX7_item 16 = .ok (.iconst 2, 1) := by decide +kernel
theorem dX7_item_17 : decode cX7_item 17 = .ok (.if_icmp .eq 21, 3) := by decide +kernel
theorem dX7_item_20 : decode cX7_item 20 = .ok (.aload_n 0, 1) := by decide +kernel
theorem dX7_item_21 : decode cX7_item 21 = .ok (.getfield 28, 3) := by decide +kernel
theorem dX7_item_24 : decode cX7_item 24 = .ok (.iload_n 1, 1) := by decide +kernel
theorem dX7_item_25 : decode cX7_item 25 = .ok (.iaload, 1) := by decide +kernel
theorem dX7_item_26 : decode cX7_item 26 = .ok (.ifCond .ne 9, 3) := by decide +kernel
theorem dX7_item_29 : decode cX7_item 29 = .ok (.ldc_w 373, 3) := by decide +kernel
theorem dX7_item_32 : decode cX7_item 32 = .ok (.goto 5, 3) := by decide +kernel
theorem dX7_item_35 : decode cX7_item 35 = .ok (.ldc 187, 2) := by decide +kernel
theorem dX7_item_37 : decode cX7_item 37 = .ok (.ireturn, 1) := by decide +kernel
theorem dX7_item_38 : decode cX7_item 38 = .ok (.iload_n 2, 1) := by decide +kernel
theorem dX7_item_39 : decode cX7_item 39 = .ok (.i2l, 1) := by decide +kernel
theorem dX7_item_40 : decode cX7_item 40 = .ok (.lconst 0, 1) := by decide +kernel
theorem dX7_item_41 : decode cX7_item 41 = .ok (.aload_n 0, 1) := by decide +kernel
theorem dX7_item_42 : decode cX7_item 42 = .ok (.getfield 37, 3) := by decide +kernel
theorem dX7_item_45 : decode cX7_item 45 = .ok (.iload_n 1, 1) := by decide +kernel
theorem dX7_item_46 : decode cX7_item 46 = .ok (.iaload, 1) := by decide +kernel
theorem dX7_item_47 : decode cX7_item 47 = .ok (.iconst 1, 1) := by decide +kernel
theorem dX7_item_48 : decode cX7_item 48 = .ok (.isub, 1) := by decide +kernel
theorem dX7_item_49 : decode cX7_item 49 = .ok (.i2l, 1) := by decide +kernel
theorem dX7_item_50 : decode cX7_item 50 = .ok (.invokestatic 69, 3) := by decide +kernel
theorem dX7_item_53 : decode cX7_item 53 = .ok (.ifCond .ne 7, 3) := by decide +kernel
theorem dX7_item_56 : decode cX7_item 56 = .ok (.ldc_w 374, 3) := by decide +kernel
theorem dX7_item_59 : decode cX7_item 59 = .ok (.ireturn, 1) := by decide +kernel
theorem dX7_item_60 : decode cX7_item 60 = .ok (.aload_n 0, 1) := by decide +kernel
theorem dX7_item_61 : decode cX7_item 61 = .ok (.getfield 40, 3) := by decide +kernel
theorem dX7_item_64 : decode cX7_item 64 = .ok (.bipush 24, 2) := by decide +kernel
theorem dX7_item_66 : decode cX7_item 66 = .ok (.iload_n 1, 1) := by decide +kernel
theorem dX7_item_67 : decode cX7_item 67 = .ok (.imul, 1) := by decide +kernel
theorem dX7_item_68 : decode cX7_item 68 = .ok (.iload_n 2, 1) := by decide +kernel
theorem dX7_item_69 : decode cX7_item 69 = .ok (.iadd, 1) := by decide +kernel
theorem dX7_item_70 : decode cX7_item 70 = .ok (.iaload, 1) := by decide +kernel
theorem dX7_item_71 : decode cX7_item 71 = .ok (.istore_n 3, 1) := by decide +kernel
theorem dX7_item_72 : decode cX7_item 72 = .ok (.iload_n 3, 1) := by decide +kernel
theorem dX7_item_73 : decode cX7_item 73 = .ok (.ldc 68, 2) := by decide +kernel
theorem dX7_item_75 : decode cX7_item 75 = .ok (.if_icmp .ne 8, 3) := by decide +kernel
theorem dX7_item_78 : decode cX7_item 78 = .ok (.ldc 187, 2) := by decide +kernel
theorem dX7_item_80 : decode cX7_item 80 = .ok (.goto 4, 3) := by decide +kernel
theorem dX7_item_83 : decode cX7_item 83 = .ok (.iload_n 3, 1) := by decide +kernel
theorem dX7_item_84 : decode cX7_item 84 = .ok (.ireturn, 1) := by decide +kernel
theorem dX7_rest_0 : decode cX7_rest 0 = .ok (.iload_n 1, 1) := by decide +kernel
theorem dX7_rest_1 : decode cX7_rest 1 = .ok (.invokestatic 384, 3) := by decide +kernel
theorem dX7_rest_4 : decode cX7_rest 4 = .ok (.ifCond .ne 6, 3) := by decide +kernel
theorem dX7_rest_7 : decode cX7_rest 7 = .ok (.ldc 161, 2) := by decide +kernel
theorem dX7_rest_9 : decode cX7_rest 9 = .ok (.ireturn, 1) := by decide +kernel
theorem dX7_rest_10 : decode cX7_rest 10 = .ok (.aload_n 0, 1) := by decide +kernel
theorem dX7_rest_11 : decode cX7_rest 11 = .ok (.getfield 28, 3) := by decide +kernel
theorem dX7_rest_14 : decode cX7_rest 14 = .ok (.iload_n 1, 1) := by decide +kernel
theorem dX7_rest_15 : decode cX7_rest 15 = .ok (.iaload, 1) := by decide +kernel
theorem dX7_rest_16 : decode cX7_rest 16 = .ok (.iconst 3, 1) := by decide +kernel
theorem dX7_rest_17 : decode cX7_rest 17 = .ok (.if_icmp .eq 21, 3) := by decide +kernel
theorem dX7_rest_20 : decode cX7_rest 20 = .ok (.aload_n 0, 1) := by decide +kernel
theorem dX7_rest_21 : decode cX7_rest 21 = .ok (.getfield 28, 3) := by decide +kernel
theorem dX7_rest_24 : decode cX7_rest 24 = .ok (.iload_n 1, 1) := by decide +kernel
theorem dX7_rest_25 : decode cX7_rest 25 = .ok (.iaload, 1) := by decide +kernel
theorem dX7_rest_26 : decode cX7_rest 26 = .ok (.ifCond .ne 9, 3) := by decide +kernel
theorem dX7_rest_29 : decode cX7_rest 29 = .ok (.ldc_w 373, 3) := by decide +kernel
theorem dX7_rest_32 : decode cX7_rest 32 = .ok (.goto 5, 3) := by decide +kernel
theorem dX7_rest_35 : decode cX7_rest 35 = .ok (.ldc 187, 2) := by decide +kernel
theorem dX7_rest_37 : decode cX7_rest 37 = .ok (.ireturn, 1) := by decide +kernel
theorem dX7_rest_38 : decode cX7_rest 38 = .ok (.iload_n 2, 1) := by decide +kernel
theorem dX7_rest_39 : decode cX7_rest 39 = .ok (.ifCond .ne 8, 3) := by decide +kernel
theorem dX7_rest_42 : decode cX7_rest 42 = .ok (.ldc 165, 2) := by decide +kernel
theorem dX7_rest_44 : decode cX7_rest 44 = .ok (.goto 11, 3) := by decide +kernel
theorem dX7_rest_47 : decode cX7_rest 47 = .ok (.aload_n 0, 1) := by decide +kernel
theorem dX7_rest_48 : decode cX7_rest 48 = .ok (.getfield 31, 3) := by decide +kernel
theorem dX7_rest_51 : decode cX7_rest 51 = .ok (.iload_n 1, 1) := by decide +kernel
theorem dX7_rest_52 : decode cX7_rest 52 = .ok (.iaload, 1) := by decide +kernel
theorem dX7_rest_53 : decode cX7_rest 53 = .ok (.iload_n 2, 1) := by decide +kernel
theorem dX7_rest_54 : decode cX7_rest 54 = .ok (.irem, 1) := by decide +kernel
theorem dX7_rest_55 : decode cX7_rest 55 = .ok (.ireturn, 1) := by decide +kernel
theorem dX7_tell_0 : decode cX7_tell 0 = .ok (.aload_n 0, 1) := by decide +kernel
theorem dX7_tell_1 : decode cX7_tell 1 = .ok (.getfield 387, 3) := by decide +kernel
theorem dX7_tell_4 : decode cX7_tell 4 = .ok (.bipush 60, 2) := by decide +kernel
theorem dX7_tell_6 : decode cX7_tell 6 = .ok (.if_icmp .ne 6, 3) := by decide +kernel
theorem dX7_tell_9 : decode cX7_tell 9 = .ok (.ldc 166, 2) := by decide +kernel
theorem dX7_tell_11 : decode cX7_tell 11 = .ok (.ireturn, 1) := by decide +kernel
theorem dX7_tell_12 : decode cX7_tell 12 = .ok (.aload_n 0, 1) := by decide +kernel
theorem dX7_tell_13 : decode cX7_tell 13 = .ok (.getfield 62, 3) := by decide +kernel
theorem dX7_tell_16 : decode cX7_tell 16 = .ok (.aload_n 0, 1) := by decide +kernel
theorem dX7_tell_17 : decode cX7_tell 17 = .ok (.getfield 387, 3) := by decide +kernel
theorem dX7_tell_20 : decode cX7_tell 20 = .ok (.iload_n 1, 1) := by decide +kernel
theorem dX7_tell_21 : decode cX7_tell 21 = .ok (.iastore, 1) := by decide +kernel
theorem dX7_tell_22 : decode cX7_tell 22 = .ok (.aload_n 0, 1) := by decide +kernel
theorem dX7_tell_23 : decode cX7_tell 23 = .ok (.dup, 1) := by decide +kernel
theorem dX7_tell_24 : decode cX7_tell 24 = .ok (.getfield 387, 3) := by decide +kernel
theorem dX7_tell_27 : decode cX7_tell 27 = .ok (.iconst 1, 1) := by decide +kernel
theorem dX7_tell_28 : decode cX7_tell 28 = .ok (.iadd, 1) := by decide +kernel
theorem dX7_tell_29 : decode cX7_tell 29 = .ok (.putfield 387, 3) := by decide +kernel
theorem dX7_tell_32 : decode cX7_tell 32 = .ok (.aload_n 0, 1) := by decide +kernel
theorem dX7_tell_33 : decode cX7_tell 33 = .ok (.getfield 387, 3) := by decide +kernel
theorem dX7_tell_36 : decode cX7_tell 36 = .ok (.ireturn, 1) := by decide +kernel
theorem dX7_setAside_0 : decode cX7_setAside 0 = .ok (.iconst 0, 1) := by decide +kernel
theorem dX7_setAside_1 : decode cX7_setAside 1 = .ok (.istore_n 3, 1) := by decide +kernel
theorem dX7_setAside_2 : decode cX7_setAside 2 = .ok (.iload_n 3, 1) := by decide +kernel
theorem dX7_setAside_3 : decode cX7_setAside 3 = .ok (.sipush 2890, 3) := by decide +kernel
theorem dX7_setAside_6 : decode cX7_setAside 6 = .ok (.if_icmp .ge 15, 3) := by decide +kernel
theorem dX7_setAside_9 : decode cX7_setAside 9 = .ok (.aload_n 2, 1) := by decide +kernel
theorem dX7_setAside_10 : decode cX7_setAside 10 = .ok (.iload_n 3, 1) := by decide +kernel
theorem dX7_setAside_11 : decode cX7_setAside 11 = .ok (.aload_n 1, 1) := by decide +kernel
theorem dX7_setAside_12 : decode cX7_setAside 12 = .ok (.iload_n 3, 1) := by decide +kernel
theorem dX7_setAside_13 : decode cX7_setAside 13 = .ok (.iaload, 1) := by decide +kernel
theorem dX7_setAside_14 : decode cX7_setAside 14 = .ok (.iastore, 1) := by decide +kernel
theorem dX7_setAside_15 : decode cX7_setAside 15 = .ok (.iinc 3 1, 3) := by decide +kernel
theorem dX7_setAside_18 : decode cX7_setAside 18 = .ok (.goto (-16), 3) := by decide +kernel
theorem dX7_setAside_21 : decode cX7_setAside 21 = .ok (.return_, 1) := by decide +kernel
theorem dX7_check_0 : decode cX7_check 0 = .ok (.aload_n 0, 1) := by decide +kernel
theorem dX7_check_1 : decode cX7_check 1 = .ok (.getfield 387, 3) := by decide +kernel
theorem dX7_check_4 : decode cX7_check 4 = .ok (.istore_n 2, 1) := by decide +kernel
theorem dX7_check_5 : decode cX7_check 5 = .ok (.aload_n 0, 1) := by decide +kernel
theorem dX7_check_6 : decode cX7_check 6 = .ok (.iconst 0, 1) := by decide +kernel
theorem dX7_check_7 : decode cX7_check 7 = .ok (.putfield 387, 3) := by decide +kernel
theorem dX7_check_10 : decode cX7_check 10 = .ok (.iload_n 1, 1) := by decide +kernel
theorem dX7_check_11 : decode cX7_check 11 = .ok (.i2l, 1) := by decide +kernel
theorem dX7_check_12 : decode cX7_check 12 = .ok (.lconst 1, 1) := by decide +kernel
theorem dX7_check_13 : decode cX7_check 13 = .ok (.ldc2_w 390, 3) := by decide +kernel
theorem dX7_check_16 : decode cX7_check 16 = .ok (.invokestatic 69, 3) := by decide +kernel
theorem dX7_check_19 : decode cX7_check 19 = .ok (.ifCond .ne 6, 3) := by decide +kernel
theorem dX7_check_22 : decode cX7_check 22 = .ok (.ldc 161, 2) := by decide +kernel
theorem dX7_check_24 : decode cX7_check 24 = .ok (.ireturn, 1) := by decide +kernel
theorem dX7_check_25 : decode cX7_check 25 = .ok (.aload_n 0, 1) := by decide +kernel
theorem dX7_check_26 : decode cX7_check 26 = .ok (.getfield 392, 3) := by decide +kernel
theorem dX7_check_29 : decode cX7_check 29 = .ok (.ifCond .ne 6, 3) := by decide +kernel
theorem dX7_check_32 : decode cX7_check 32 = .ok (.ldc 165, 2) := by decide +kernel
theorem dX7_check_34 : decode cX7_check 34 = .ok (.ireturn, 1) := by decide +kernel
theorem dX7_check_35 : decode cX7_check 35 = .ok (.aload_n 0, 1) := by decide +kernel
theorem dX7_check_36 : decode cX7_check 36 = .ok (.aload_n 0, 1) := by decide +kernel
theorem dX7_check_37 : decode cX7_check 37 = .ok (.getfield 7, 3) := by decide +kernel
theorem dX7_check_40 : decode cX7_check 40 = .ok (.aload_n 0, 1) := by decide +kernel
theorem dX7_check_41 : decode cX7_check 41 = .ok (.getfield 16, 3) := by decide +kernel
theorem dX7_check_44 : decode cX7_check 44 = .ok (.invokevirtual 396, 3) := by decide +kernel
theorem dX7_check_47 : decode cX7_check 47 = .ok (.aload_n 0, 1) := by decide +kernel
theorem dX7_check_48 : decode cX7_check 48 = .ok (.aload_n 0, 1) := by decide +kernel
theorem dX7_check_49 : decode cX7_check 49 = .ok (.getfield 13, 3) := by decide +kernel
theorem dX7_check_52 : decode cX7_check 52 = .ok (.aload_n 0, 1) := by decide +kernel
theorem dX7_check_53 : decode cX7_check 53 = .ok (.getfield 7, 3) := by decide +kernel
theorem dX7_check_56 : decode cX7_check 56 = .ok (.invokevirtual 396, 3) := by decide +kernel
theorem dX7_check_59 : decode cX7_check 59 = .ok (.iconst 0, 1) := by decide +kernel
theorem dX7_check_60 : decode cX7_check 60 = .ok (.istore_n 3, 1) := by decide +kernel
theorem dX7_check_61 : decode cX7_check 61 = .ok (.iconst 0, 1) := by decide +kernel
theorem dX7_check_62 : decode cX7_check 62 = .ok (.istore 4, 2) := by decide +kernel
theorem dX7_check_64 : decode cX7_check 64 = .ok (.iload 4, 2) := by decide +kernel
theorem dX7_check_66 : decode cX7_check 66 = .ok (.iload_n 1, 1) := by decide +kernel
theorem dX7_check_67 : decode cX7_check 67 = .ok (.if_icmp .ge 52, 3) := by decide +kernel
theorem dX7_check_70 : decode cX7_check 70 = .ok (.aload_n 0, 1) := by decide +kernel
theorem dX7_check_71 : decode cX7_check 71 = .ok (.getfield 7, 3) := by decide +kernel
theorem dX7_check_74 : decode cX7_check 74 = .ok (.iconst 2, 1) := by decide +kernel
theorem dX7_check_75 : decode cX7_check 75 = .ok (.iaload, 1) := by decide +kernel
theorem dX7_check_76 : decode cX7_check 76 = .ok (.sipush 9999, 3) := by decide +kernel
theorem dX7_check_79 : decode cX7_check 79 = .ok (.if_icmp .ge 40, 3) := by decide +kernel
theorem dX7_check_82 : decode cX7_check 82 = .ok (.aload_n 0, 1) := by decide +kernel
theorem dX7_check_83 : decode cX7_check 83 = .ok (.invokevirtual 237, 3) := by decide +kernel
theorem dX7_check_86 : decode cX7_check 86 = .ok (.aload_n 0, 1) := by decide +kernel
theorem dX7_check_87 : decode cX7_check 87 = .ok (.getfield 65, 3) := by decide +kernel
theorem dX7_check_90 : decode cX7_check 90 = .ok (.iload_n 3, 1) := by decide +kernel
theorem dX7_check_91 : decode cX7_check 91 = .ok (.aload_n 0, 1) := by decide +kernel
theorem dX7_check_92 : decode cX7_check 92 = .ok (.getfield 7, 3) := by decide +kernel
theorem dX7_check_95 : decode cX7_check 95 = .ok (.iconst 5, 1) := by decide +kernel
theorem dX7_check_96 : decode cX7_check 96 = .ok (.iaload, 1) := by decide +kernel
theorem dX7_check_97 : decode cX7_check 97 = .ok (.iastore, 1) := by decide +kernel
theorem dX7_check_98 : decode cX7_check 98 = .ok (.aload_n 0, 1) := by decide +kernel
theorem dX7_check_99 : decode cX7_check 99 = .ok (.getfield 65, 3) := by decide +kernel
theorem dX7_check_102 : decode cX7_check 102 = .ok (.iload_n 3, 1) := by decide +kernel
theorem dX7_check_103 : decode cX7_check 103 = .ok (.iconst 1, 1) := by decide +kernel
theorem dX7_check_104 : decode cX7_check 104 = .ok (.iadd, 1) := by decide +kernel
theorem dX7_check_105 : decode cX7_check 105 = .ok (.aload_n 0, 1) := by decide +kernel
theorem dX7_check_106 : decode cX7_check 106 = .ok (.invokevirtual 244, 3) := by decide +kernel
theorem dX7_check_109 : decode cX7_check 109 = .ok (.iastore, 1) := by decide +kernel
theorem dX7_check_110 : decode cX7_check 110 = .ok (.iinc 3 2, 3) := by decide +kernel
theorem dX7_check_113 : decode cX7_check 113 = .ok (.iinc 4 1, 3) := by decide +kernel
theorem dX7_check_116 : decode cX7_check 116 = .ok (.goto (-52), 3) := by decide +kernel
theorem dX7_check_119 : decode cX7_check 119 = .ok (.aload_n 0, 1) := by decide +kernel
theorem dX7_check_120 : decode cX7_check 120 = .ok (.aload_n 0, 1) := by decide +kernel
theorem dX7_check_121 : decode cX7_check 121 = .ok (.getfield 16, 3) := by decide +kernel
theorem dX7_check_124 : decode cX7_check 124 = .ok (.aload_n 0, 1) := by decide +kernel
theorem dX7_check_125 : decode cX7_check 125 = .ok (.getfield 7, 3) := by decide +kernel
theorem dX7_check_128 : decode cX7_check 128 = .ok (.invokevirtual 396, 3) := by decide +kernel
theorem dX7_check_131 : decode cX7_check 131 = .ok (.iconst 0, 1) := by decide +kernel
theorem dX7_check_132 : decode cX7_check 132 = .ok (.istore 4, 2) := by decide +kernel
theorem dX7_check_134 : decode cX7_check 134 = .ok (.iload 4, 2) := by decide +kernel
theorem dX7_check_136 : decode cX7_check 136 = .ok (.iload_n 2, 1) := by decide +kernel
theorem dX7_check_137 : decode cX7_check 137 = .ok (.if_icmp .ge 32, 3) := by decide +kernel
theorem dX7_check_140 : decode cX7_check 140 = .ok (.iload 4, 2) := by decide +kernel
theorem dX7_check_142 : decode cX7_check 142 = .ok (.iload_n 3, 1) := by decide +kernel
theorem dX7_check_143 : decode cX7_check 143 = .ok (.if_icmp .ge 26, 3) := by decide +kernel
theorem dX7_check_146 : decode cX7_check 146 = .ok (.aload_n 0, 1) := by decide +kernel
theorem dX7_check_147 : decode cX7_check 147 = .ok (.getfield 62, 3) := by decide +kernel
theorem dX7_check_150 : decode cX7_check 150 = .ok (.iload 4, 2) := by decide +kernel
theorem dX7_check_152 : decode cX7_check 152 = .ok (.iaload, 1) := by decide +kernel
theorem dX7_check_153 : decode cX7_check 153 = .ok (.aload_n 0, 1) := by decide +kernel
theorem dX7_check_154 : decode cX7_check 154 = .ok (.getfield 65, 3) := by decide +kernel
theorem dX7_check_157 : decode cX7_check 157 = .ok (.iload 4, 2) := by decide +kernel
theorem dX7_check_159 : decode cX7_check 159 = .ok (.iaload, 1) := by decide +kernel
theorem dX7_check_160 : decode cX7_check 160 = .ok (.if_icmp .ne 9, 3) := by decide +kernel
theorem dX7_check_163 : decode cX7_check 163 = .ok (.iinc 4 1, 3) := by decide +kernel
theorem dX7_check_166 : decode cX7_check 166 = .ok (.goto (-32), 3) := by decide +kernel
theorem dX7_check_169 : decode cX7_check 169 = .ok (.iload 4, 2) := by decide +kernel
theorem dX7_check_171 : decode cX7_check 171 = .ok (.iload_n 2, 1) := by decide +kernel
theorem dX7_check_172 : decode cX7_check 172 = .ok (.if_icmp .ne 13, 3) := by decide +kernel
theorem dX7_check_175 : decode cX7_check 175 = .ok (.iload 4, 2) := by decide +kernel
theorem dX7_check_177 : decode cX7_check 177 = .ok (.iload_n 3, 1) := by decide +kernel
theorem dX7_check_178 : decode cX7_check 178 = .ok (.if_icmp .ne 7, 3) := by decide +kernel
theorem dX7_check_181 : decode cX7_check 181 = .ok (.iconst 0, 1) := by decide +kernel
theorem dX7_check_182 : decode cX7_check 182 = .ok (.goto 7, 3) := by decide +kernel
theorem dX7_check_185 : decode cX7_check 185 = .ok (.iconst 1, 1) := by decide +kernel
theorem dX7_check_186 : decode cX7_check 186 = .ok (.iload 4, 2) := by decide +kernel
theorem dX7_check_188 : decode cX7_check 188 = .ok (.iadd, 1) := by decide +kernel
theorem dX7_check_189 : decode cX7_check 189 = .ok (.ireturn, 1) := by decide +kernel
theorem dX7_keep_0 : decode cX7_keep 0 = .ok (.aload_n 0, 1) := by decide +kernel
theorem dX7_keep_1 : decode cX7_keep 1 = .ok (.iconst 1, 1) := by decide +kernel
theorem dX7_keep_2 : decode cX7_keep 2 = .ok (.putfield 392, 3) := by decide +kernel
theorem dX7_keep_5 : decode cX7_keep 5 = .ok (.aload_n 0, 1) := by decide +kernel
theorem dX7_keep_6 : decode cX7_keep 6 = .ok (.aload_n 0, 1) := by decide +kernel
theorem dX7_keep_7 : decode cX7_keep 7 = .ok (.getfield 7, 3) := by decide +kernel
theorem dX7_keep_10 : decode cX7_keep 10 = .ok (.aload_n 0, 1) := by decide +kernel
theorem dX7_keep_11 : decode cX7_keep 11 = .ok (.getfield 13, 3) := by decide +kernel
theorem dX7_keep_14 : decode cX7_keep 14 = .ok (.invokevirtual 396, 3) := by decide +kernel
theorem dX7_keep_17 : decode cX7_keep 17 = .ok (.aload_n 0, 1) := by decide +kernel
theorem dX7_keep_18 : decode cX7_keep 18 = .ok (.getfield 7, 3) := by decide +kernel
theorem dX7_keep_21 : decode cX7_keep 21 = .ok (.iconst 0, 1) := by decide +kernel
theorem dX7_keep_22 : decode cX7_keep 22 = .ok (.iaload, 1) := by decide +kernel
theorem dX7_keep_23 : decode cX7_keep 23 = .ok (.ireturn, 1) := by decide +kernel
theorem dX7_back_0 : decode cX7_back 0 = .ok (.aload_n 0, 1) := by decide +kernel
theorem dX7_back_1 : decode cX7_back 1 = .ok (.getfield 392, 3) := by decide +kernel
theorem dX7_back_4 : decode cX7_back 4 = .ok (.ifCond .ne 6, 3) := by decide +kernel
theorem dX7_back_7 : decode cX7_back 7 = .ok (.ldc 165, 2) := by decide +kernel
theorem dX7_back_9 : decode cX7_back 9 = .ok (.ireturn, 1) := by decide +kernel
theorem dX7_back_10 : decode cX7_back 10 = .ok (.aload_n 0, 1) := by decide +kernel
theorem dX7_back_11 : decode cX7_back 11 = .ok (.aload_n 0, 1) := by decide +kernel
theorem dX7_back_12 : decode cX7_back 12 = .ok (.getfield 13, 3) := by decide +kernel
theorem dX7_back_15 : decode cX7_back 15 = .ok (.aload_n 0, 1) := by decide +kernel
theorem dX7_back_16 : decode cX7_back 16 = .ok (.getfield 7, 3) := by decide +kernel
theorem dX7_back_19 : decode cX7_back 19 = .ok (.invokevirtual 396, 3) := by decide +kernel
theorem dX7_back_22 : decode cX7_back 22 = .ok (.aload_n 0, 1) := by decide +kernel
theorem dX7_back_23 : decode cX7_back 23 = .ok (.getfield 7, 3) := by decide +kernel
theorem dX7_back_26 : decode cX7_back 26 = .ok (.iconst 0, 1) := by decide +kernel
theorem dX7_back_27 : decode cX7_back 27 = .ok (.iaload, 1) := by decide +kernel
theorem dX7_back_28 : decode cX7_back 28 = .ok (.ireturn, 1) := by decide +kernel
theorem dX7_count_0 : decode cX7_count 0 = .ok (.iload_n 1, 1) := by decide +kernel
theorem dX7_count_1 : decode cX7_count 1 = .ok (.tableswitch 100 0 7 #[47, 54, 61, 68, 75, 82, 87, 92], 47) := by decide +kernel
theorem dX7_count_48 : decode cX7_count 48 = .ok (.aload_n 0, 1) := by decide +kernel
theorem dX7_count_49 : decode cX7_count 49 = .ok (.getfield 7, 3) := by decide +kernel
theorem dX7_count_52 : decode cX7_count 52 = .ok (.iconst 0, 1) := by decide +kernel
theorem dX7_count_53 : decode cX7_count 53 = .ok (.iaload, 1) := by decide +kernel
theorem dX7_count_54 : decode cX7_count 54 = .ok (.ireturn, 1) := by decide +kernel
theorem dX7_count_55 : decode cX7_count 55 = .ok (.aload_n 0, 1) := by decide +kernel
theorem dX7_count_56 : decode cX7_count 56 = .ok (.getfield 7, 3) := by decide +kernel
theorem dX7_count_59 : decode cX7_count 59 = .ok (.iconst 2, 1) := by decide +kernel
theorem dX7_count_60 : decode cX7_count 60 = .ok (.iaload, 1) := by decide +kernel
theorem dX7_count_61 : decode cX7_count 61 = .ok (.ireturn, 1) := by decide +kernel
theorem dX7_count_62 : decode cX7_count 62 = .ok (.aload_n 0, 1) := by decide +kernel
theorem dX7_count_63 : decode cX7_count 63 = .ok (.getfield 7, 3) := by decide +kernel
theorem dX7_count_66 : decode cX7_count 66 = .ok (.iconst 3, 1) := by decide +kernel
theorem dX7_count_67 : decode cX7_count 67 = .ok (.iaload, 1) := by decide +kernel
theorem dX7_count_68 : decode cX7_count 68 = .ok (.ireturn, 1) := by decide +kernel
theorem dX7_count_69 : decode cX7_count 69 = .ok (.aload_n 0, 1) := by decide +kernel
theorem dX7_count_70 : decode cX7_count 70 = .ok (.getfield 7, 3) := by decide +kernel
theorem dX7_count_73 : decode cX7_count 73 = .ok (.iconst 4, 1) := by decide +kernel
theorem dX7_count_74 : decode cX7_count 74 = .ok (.iaload, 1) := by decide +kernel
theorem dX7_count_75 : decode cX7_count 75 = .ok (.ireturn, 1) := by decide +kernel
theorem dX7_count_76 : decode cX7_count 76 = .ok (.aload_n 0, 1) := by decide +kernel
theorem dX7_count_77 : decode cX7_count 77 = .ok (.getfield 7, 3) := by decide +kernel
theorem dX7_count_80 : decode cX7_count 80 = .ok (.iconst 1, 1) := by decide +kernel
theorem dX7_count_81 : decode cX7_count 81 = .ok (.iaload, 1) := by decide +kernel
theorem dX7_count_82 : decode cX7_count 82 = .ok (.ireturn, 1) := by decide +kernel
theorem dX7_count_83 : decode cX7_count 83 = .ok (.aload_n 0, 1) := by decide +kernel
theorem dX7_count_84 : decode cX7_count 84 = .ok (.getfield 387, 3) := by decide +kernel
theorem dX7_count_87 : decode cX7_count 87 = .ok (.ireturn, 1) := by decide +kernel
theorem dX7_count_88 : decode cX7_count 88 = .ok (.aload_n 0, 1) := by decide +kernel
theorem dX7_count_89 : decode cX7_count 89 = .ok (.getfield 268, 3) := by decide +kernel
theorem dX7_count_92 : decode cX7_count 92 = .ok (.ireturn, 1) := by decide +kernel
theorem dX7_count_93 : decode cX7_count 93 = .ok (.aload_n 0, 1) := by decide +kernel
theorem dX7_count_94 : decode cX7_count 94 = .ok (.getfield 7, 3) := by decide +kernel
theorem dX7_count_97 : decode cX7_count 97 = .ok (.bipush 9, 2) := by decide +kernel
theorem dX7_count_99 : decode cX7_count 99 = .ok (.iaload, 1) := by decide +kernel
theorem dX7_count_100 : decode cX7_count 100 = .ok (.ireturn, 1) := by decide +kernel
theorem dX7_count_101 : decode cX7_count 101 = .ok (.ldc 161, 2) := by decide +kernel
theorem dX7_count_103 : decode cX7_count 103 = .ok (.ireturn, 1) := by decide +kernel
