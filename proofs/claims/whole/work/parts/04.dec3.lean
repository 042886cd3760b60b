theorem dX10_init_8 : decode cX10_init 8 = .ok (.newarray .int, 2) := by decide +kernel
theorem dX10_init_10 : decode cX10_init 10 = .ok (.putfield 7, 3) := by decide +kernel
theorem dX10_init_13 : decode cX10_init 13 = .ok (.aload_n 0, 1) := by decide +kernel
theorem dX10_init_14 : decode cX10_init 14 = .ok (.sipush 756, 3) := by decide +kernel
theorem dX10_init_17 : decode cX10_init 17 = .ok (.newarray .int, 2) := by decide +kernel
theorem dX10_init_19 : decode cX10_init 19 = .ok (.putfield 13, 3) := by decide +kernel
theorem dX10_init_22 : decode cX10_init 22 = .ok (.aload_n 0, 1) := by decide +kernel
theorem dX10_init_23 : decode cX10_init 23 = .ok (.sipush 189, 3) := by decide +kernel
theorem dX10_init_26 : decode cX10_init 26 = .ok (.newarray .int, 2) := by decide +kernel
theorem dX10_init_28 : decode cX10_init 28 = .ok (.putfield 16, 3) := by decide +kernel
theorem dX10_init_31 : decode cX10_init 31 = .ok (.aload_n 0, 1) := by decide +kernel
theorem dX10_init_32 : decode cX10_init 32 = .ok (.bipush 60, 2) := by decide +kernel
theorem dX10_init_34 : decode cX10_init 34 = .ok (.newarray .int, 2) := by decide +kernel
theorem dX10_init_36 : decode cX10_init 36 = .ok (.putfield 19, 3) := by decide +kernel
theorem dX10_init_39 : decode cX10_init 39 = .ok (.aload_n 0, 1) := by decide +kernel
theorem dX10_init_40 : decode cX10_init 40 = .ok (.sipush 160, 3) := by decide +kernel
theorem dX10_init_43 : decode cX10_init 43 = .ok (.newarray .int, 2) := by decide +kernel
theorem dX10_init_45 : decode cX10_init 45 = .ok (.putfield 22, 3) := by decide +kernel
theorem dX10_init_48 : decode cX10_init 48 = .ok (.aload_n 0, 1) := by decide +kernel
theorem dX10_init_49 : decode cX10_init 49 = .ok (.sipush 160, 3) := by decide +kernel
theorem dX10_init_52 : decode cX10_init 52 = .ok (.newarray .int, 2) := by decide +kernel
theorem dX10_init_54 : decode cX10_init 54 = .ok (.putfield 25, 3) := by decide +kernel
theorem dX10_init_57 : decode cX10_init 57 = .ok (.aload_n 0, 1) := by decide +kernel
theorem dX10_init_58 : decode cX10_init 58 = .ok (.sipush 160, 3) := by decide +kernel
theorem dX10_init_61 : decode cX10_init 61 = .ok (.newarray .int, 2) := by decide +kernel
theorem dX10_init_63 : decode cX10_init 63 = .ok (.putfield 28, 3) := by decide +kernel
theorem dX10_init_66 : decode cX10_init 66 = .ok (.aload_n 0, 1) := by decide +kernel
theorem dX10_init_67 : decode cX10_init 67 = .ok (.sipush 160, 3) := by decide +kernel
theorem dX10_init_70 : decode cX10_init 70 = .ok (.newarray .int, 2) := by decide +kernel
theorem dX10_init_72 : decode cX10_init 72 = .ok (.putfield 31, 3) := by decide +kernel
theorem dX10_init_75 : decode cX10_init 75 = .ok (.aload_n 0, 1) := by decide +kernel
theorem dX10_init_76 : decode cX10_init 76 = .ok (.sipush 160, 3) := by decide +kernel
theorem dX10_init_79 : decode cX10_init 79 = .ok (.newarray .int, 2) := by decide +kernel
theorem dX10_init_81 : decode cX10_init 81 = .ok (.putfield 34, 3) := by decide +kernel
theorem dX10_init_84 : decode cX10_init 84 = .ok (.aload_n 0, 1) := by decide +kernel
theorem dX10_init_85 : decode cX10_init 85 = .ok (.sipush 160, 3) := by decide +kernel
theorem dX10_init_88 : decode cX10_init 88 = .ok (.newarray .int, 2) := by decide +kernel
theorem dX10_init_90 : decode cX10_init 90 = .ok (.putfield 37, 3) := by decide +kernel
theorem dX10_init_93 : decode cX10_init 93 = .ok (.aload_n 0, 1) := by decide +kernel
theorem dX10_init_94 : decode cX10_init 94 = .ok (.sipush 160, 3) := by decide +kernel
theorem dX10_init_97 : decode cX10_init 97 = .ok (.newarray .int, 2) := by decide +kernel
theorem dX10_init_99 : decode cX10_init 99 = .ok (.putfield 40, 3) := by decide +kernel
theorem dX10_init_102 : decode cX10_init 102 = .ok (.aload_n 0, 1) := by decide +kernel
theorem dX10_init_103 : decode cX10_init 103 = .ok (.sipush 160, 3) := by decide +kernel
theorem dX10_init_106 : decode cX10_init 106 = .ok (.newarray .int, 2) := by decide +kernel
theorem dX10_init_108 : decode cX10_init 108 = .ok (.putfield 43, 3) := by decide +kernel
theorem dX10_init_111 : decode cX10_init 111 = .ok (.aload_n 0, 1) := by decide +kernel
theorem dX10_init_112 : decode cX10_init 112 = .ok (.sipush 161, 3) := by decide +kernel
theorem dX10_init_115 : decode cX10_init 115 = .ok (.newarray .int, 2) := by decide +kernel
theorem dX10_init_117 : decode cX10_init 117 = .ok (.putfield 46, 3) := by decide +kernel
theorem dX10_init_120 : decode cX10_init 120 = .ok (.aload_n 0, 1) := by decide +kernel
theorem dX10_init_121 : decode cX10_init 121 = .ok (.sipush 160, 3) := by decide +kernel
theorem dX10_init_124 : decode cX10_init 124 = .ok (.newarray .int, 2) := by decide +kernel
theorem dX10_init_126 : decode cX10_init 126 = .ok (.putfield 49, 3) := by decide +kernel
theorem dX10_init_129 : decode cX10_init 129 = .ok (.aload_n 0, 1) := by decide +kernel
theorem dX10_init_130 : decode cX10_init 130 = .ok (.sipush 160, 3) := by decide +kernel
theorem dX10_init_133 : decode cX10_init 133 = .ok (.newarray .int, 2) := by decide +kernel
theorem dX10_init_135 : decode cX10_init 135 = .ok (.putfield 52, 3) := by decide +kernel
theorem dX10_init_138 : decode cX10_init 138 = .ok (.aload_n 0, 1) := by decide +kernel
theorem dX10_init_139 : decode cX10_init 139 = .ok (.sipush 160, 3) := by decide +kernel
theorem dX10_init_142 : decode cX10_init 142 = .ok (.newarray .int, 2) := by decide +kernel
theorem dX10_init_144 : decode cX10_init 144 = .ok (.putfield 55, 3) := by decide +kernel
theorem dX10_init_147 : decode cX10_init 147 = .ok (.aload_n 0, 1) := by decide +kernel
theorem dX10_init_148 : decode cX10_init 148 = .ok (.iconst 4, 1) := by decide +kernel
theorem dX10_init_149 : decode cX10_init 149 = .ok (.newarray .int, 2) := by decide +kernel
theorem dX10_init_151 : decode cX10_init 151 = .ok (.putfield 58, 3) := by decide +kernel
theorem dX10_init_154 : decode cX10_init 154 = .ok (.aload_n 0, 1) := by decide +kernel
theorem dX10_init_155 : decode cX10_init 155 = .ok (.getfield 7, 3) := by decide +kernel
theorem dX10_init_158 : decode cX10_init 158 = .ok (.iconst 0, 1) := by decide +kernel
theorem dX10_init_159 : decode cX10_init 159 = .ok (.bipush 8, 2) := by decide +kernel
theorem dX10_init_161 : decode cX10_init 161 = .ok (.iastore, 1) := by decide +kernel
theorem dX10_init_162 : decode cX10_init 162 = .ok (.aload_n 0, 1) := by decide +kernel
theorem dX10_init_163 : decode cX10_init 163 = .ok (.getfield 7, 3) := by decide +kernel
theorem dX10_init_166 : decode cX10_init 166 = .ok (.iconst 1, 1) := by decide +kernel
theorem dX10_init_167 : decode cX10_init 167 = .ok (.iconst 1, 1) := by decide +kernel
theorem dX10_init_168 : decode cX10_init 168 = .ok (.iastore, 1) := by decide +kernel
theorem dX10_init_169 : decode cX10_init 169 = .ok (.iconst 0, 1) := by decide +kernel
theorem dX10_init_170 : decode cX10_init 170 = .ok (.istore_n 1, 1) := by decide +kernel
theorem dX10_init_171 : decode cX10_init 171 = .ok (.iload_n 1, 1) := by decide +kernel
theorem dX10_init_172 : decode cX10_init 172 = .ok (.bipush 25, 2) := by decide +kernel
theorem dX10_init_174 : decode cX10_init 174 = .ok (.if_icmp .ge 18, 3) := by decide +kernel
theorem dX10_init_177 : decode cX10_init 177 = .ok (.aload_n 0, 1) := by decide +kernel
theorem dX10_init_178 : decode cX10_init 178 = .ok (.getfield 7, 3) := by decide +kernel
theorem dX10_init_181 : decode cX10_init 181 = .ok (.iconst 4, 1) := by decide +kernel
theorem dX10_init_182 : decode cX10_init 182 = .ok (.iload_n 1, 1) := by decide +kernel
theorem dX10_init_183 : decode cX10_init 183 = .ok (.iadd, 1) := by decide +kernel
theorem dX10_init_184 : decode cX10_init 184 = .ok (.iload_n 1, 1) := by decide +kernel
theorem dX10_init_185 : decode cX10_init 185 = .ok (.iastore, 1) := by decide +kernel
theorem dX10_init_186 : decode cX10_init 186 = .ok (.iinc 1 1, 3) := by decide +kernel
theorem dX10_init_189 : decode cX10_init 189 = .ok (.goto (-18), 3) := by decide +kernel
theorem dX10_init_192 : decode cX10_init 192 = .ok (.return_, 1) := by decide +kernel
theorem dX10_in_0 : decode cX10_in 0 = .ok (.iload_n 0, 1) := by decide +kernel
theorem dX10_in_1 : decode cX10_in 1 = .ok (.iload_n 1, 1) := by decide +kernel
theorem dX10_in_2 : decode cX10_in 2 = .ok (.if_icmp .lt 12, 3) := by decide +kernel
theorem dX10_in_5 : decode cX10_in 5 = .ok (.iload_n 0, 1) := by decide +kernel
theorem dX10_in_6 : decode cX10_in 6 = .ok (.iload_n 2, 1) := by decide +kernel
theorem dX10_in_7 : decode cX10_in 7 = .ok (.if_icmp .gt 7, 3) := by decide +kernel
theorem dX10_in_10 : decode cX10_in 10 = .ok (.iconst 1, 1) := by decide +kernel
theorem dX10_in_11 : decode cX10_in 11 = .ok (.goto 4, 3) := by decide +kernel
theorem dX10_in_14 : decode cX10_in 14 = .ok (.iconst 0, 1) := by decide +kernel
theorem dX10_in_15 : decode cX10_in 15 = .ok (.ireturn, 1) := by decide +kernel
theorem dX10_changes_0 : decode cX10_changes 0 = .ok (.aload_n 0, 1) := by decide +kernel
theorem dX10_changes_1 : decode cX10_changes 1 = .ok (.getfield 61, 3) := by decide +kernel
theorem dX10_changes_4 : decode cX10_changes 4 = .ok (.iconst 4, 1) := by decide +kernel
theorem dX10_changes_5 : decode cX10_changes 5 = .ok (.if_icmp .ne 44, 3) := by decide +kernel
theorem dX10_changes_8 : decode cX10_changes 8 = .ok (.iconst 0, 1) := by decide +kernel
theorem dX10_changes_9 : decode cX10_changes 9 = .ok (.istore_n 1, 1) := by decide +kernel
theorem dX10_changes_10 : decode cX10_changes 10 = .ok (.iload_n 1, 1) := by decide +kernel
theorem dX10_changes_11 : decode cX10_changes 11 = .ok (.sipush 567, 3) := by decide +kernel
theorem dX10_changes_14 : decode cX10_changes 14 = .ok (.if_icmp .ge 25, 3) := by decide +kernel
theorem dX10_changes_17 : decode cX10_changes 17 = .ok (.aload_n 0, 1) := by decide +kernel
theorem dX10_changes_18 : decode cX10_changes 18 = .ok (.getfield 13, 3) := by decide +kernel
theorem dX10_changes_21 : decode cX10_changes 21 = .ok (.iload_n 1, 1) := by decide +kernel
theorem dX10_changes_22 : decode cX10_changes 22 = .ok (.aload_n 0, 1) := by decide +kernel
theorem dX10_changes_23 : decode cX10_changes 23 = .ok (.getfield 13, 3) := by decide +kernel
theorem dX10_changes_26 : decode cX10_changes 26 = .ok (.iload_n 1, 1) := by decide +kernel
theorem dX10_changes_27 : decode cX10_changes 27 = .ok (.sipush 189, 3) := by decide +kernel
theorem dX10_changes_30 : decode cX10_changes 30 = .ok (.iadd, 1) := by decide +kernel
theorem dX10_changes_31 : decode cX10_changes 31 = .ok (.iaload, 1) := by decide +kernel
theorem dX10_changes_32 : decode cX10_changes 32 = .ok (.iastore, 1) := by decide +kernel
theorem dX10_changes_33 : decode cX10_changes 33 = .ok (.iinc 1 1, 3) := by decide +kernel
theorem dX10_changes_36 : decode cX10_changes 36 = .ok (.goto (-26), 3) := by decide +kernel
theorem dX10_changes_39 : decode cX10_changes 39 = .ok (.aload_n 0, 1) := by decide +kernel
theorem dX10_changes_40 : decode cX10_changes 40 = .ok (.dup, 1) := by decide +kernel
theorem dX10_changes_41 : decode cX10_changes 41 = .ok (.getfield 61, 3) := by decide +kernel
theorem dX10_changes_44 : decode cX10_changes 44 = .ok (.iconst 1, 1) := by decide +kernel
theorem dX10_changes_45 : decode cX10_changes 45 = .ok (.isub, 1) := by decide +kernel
theorem dX10_changes_46 : decode cX10_changes 46 = .ok (.putfield 61, 3) := by decide +kernel
theorem dX10_changes_49 : decode cX10_changes 49 = .ok (.iconst 0, 1) := by decide +kernel
theorem dX10_changes_50 : decode cX10_changes 50 = .ok (.istore_n 1, 1) := by decide +kernel
theorem dX10_changes_51 : decode cX10_changes 51 = .ok (.iload_n 1, 1) := by decide +kernel
theorem dX10_changes_52 : decode cX10_changes 52 = .ok (.sipush 189, 3) := by decide +kernel
theorem dX10_changes_55 : decode cX10_changes 55 = .ok (.if_icmp .ge 30, 3) := by decide +kernel
theorem dX10_changes_58 : decode cX10_changes 58 = .ok (.aload_n 0, 1) := by decide +kernel
theorem dX10_changes_59 : decode cX10_changes 59 = .ok (.getfield 13, 3) := by decide +kernel
theorem dX10_changes_62 : decode cX10_changes 62 = .ok (.sipush 189, 3) := by decide +kernel
theorem dX10_changes_65 : decode cX10_changes 65 = .ok (.aload_n 0, 1) := by decide +kernel
theorem dX10_changes_66 : decode cX10_changes 66 = .ok (.getfield 61, 3) := by decide +kernel
theorem dX10_changes_69 : decode cX10_changes 69 = .ok (.imul, 1) := by decide +kernel
theorem dX10_changes_70 : decode cX10_changes 70 = .ok (.iload_n 1, 1) := by decide +kernel
theorem dX10_changes_71 : decode cX10_changes 71 = .ok (.iadd, 1) := by decide +kernel
theorem dX10_changes_72 : decode cX10_changes 72 = .ok (.aload_n 0, 1) := by decide +kernel
theorem dX10_changes_73 : decode cX10_changes 73 = .ok (.getfield 7, 3) := by decide +kernel
theorem dX10_changes_76 : decode cX10_changes 76 = .ok (.iload_n 1, 1) := by decide +kernel
theorem dX10_changes_77 : decode cX10_changes 77 = .ok (.iaload, 1) := by decide +kernel
theorem dX10_changes_78 : decode cX10_changes 78 = .ok (.iastore, 1) := by decide +kernel
theorem dX10_changes_79 : decode cX10_changes 79 = .ok (.iinc 1 1, 3) := by decide +kernel
theorem dX10_changes_82 : decode cX10_changes 82 = .ok (.goto (-31), 3) := by decide +kernel
theorem dX10_changes_85 : decode cX10_changes 85 = .ok (.aload_n 0, 1) := by decide +kernel
theorem dX10_changes_86 : decode cX10_changes 86 = .ok (.dup, 1) := by decide +kernel
theorem dX10_changes_87 : decode cX10_changes 87 = .ok (.getfield 61, 3) := by decide +kernel
theorem dX10_changes_90 : decode cX10_changes 90 = .ok (.iconst 1, 1) := by decide +kernel
theorem dX10_changes_91 : decode cX10_changes 91 = .ok (.iadd, 1) := by decide +kernel
theorem dX10_changes_92 : decode cX10_changes 92 = .ok (.putfield 61, 3) := by decide +kernel
theorem dX10_changes_95 : decode cX10_changes 95 = .ok (.return_, 1) := by decide +kernel
theorem dX10_holds_0 : decode cX10_holds 0 = .ok (.iconst 0, 1) := by decide +kernel
theorem dX10_holds_1 : decode cX10_holds 1 = .ok (.istore_n 1, 1) := by decide +kernel
theorem dX10_holds_2 : decode cX10_holds 2 = .ok (.iload_n 1, 1) := by decide +kernel
theorem dX10_holds_3 : decode cX10_holds 3 = .ok (.sipush 189, 3) := by decide +kernel
theorem dX10_holds_6 : decode cX10_holds 6 = .ok (.if_icmp .ge 21, 3) := by decide +kernel
theorem dX10_holds_9 : decode cX10_holds 9 = .ok (.aload_n 0, 1) := by decide +kernel
theorem dX10_holds_10 : decode cX10_holds 10 = .ok (.getfield 16, 3) := by decide +kernel
theorem dX10_holds_13 : decode cX10_holds 13 = .ok (.iload_n 1, 1) := by decide +kernel
theorem dX10_holds_14 : decode cX10_holds 14 = .ok (.aload_n 0, 1) := by decide +kernel
theorem dX10_holds_15 : decode cX10_holds 15 = .ok (.getfield 7, 3) := by decide +kernel
theorem dX10_holds_18 : decode cX10_holds 18 = .ok (.iload_n 1, 1) := by decide +kernel
theorem dX10_holds_19 : decode cX10_holds 19 = .ok (.iaload, 1) := by decide +kernel
theorem dX10_holds_20 : decode cX10_holds 20 = .ok (.iastore, 1) := by decide +kernel
theorem dX10_holds_21 : decode cX10_holds 21 = .ok (.iinc 1 1, 3) := by decide +kernel
theorem dX10_holds_24 : decode cX10_holds 24 = .ok (.goto (-22), 3) := by decide +kernel
theorem dX10_holds_27 : decode cX10_holds 27 = .ok (.return_, 1) := by decide +kernel
theorem dX10_lets_0 : decode cX10_lets 0 = .ok (.iconst 0, 1) := by decide +kernel
theorem dX10_lets_1 : decode cX10_lets 1 = .ok (.istore_n 1, 1) := by decide +kernel
theorem dX10_lets_2 : decode cX10_lets 2 = .ok (.iload_n 1, 1) := by decide +kernel
theorem dX10_lets_3 : decode cX10_lets 3 = .ok (.sipush 189, 3) := by decide +kernel
theorem dX10_lets_6 : decode cX10_lets 6 = .ok (.if_icmp .ge 21, 3) := by decide +kernel
theorem dX10_lets_9 : decode cX10_lets 9 = .ok (.aload_n 0, 1) := by decide +kernel
theorem dX10_lets_10 : decode cX10_lets 10 = .ok (.getfield 7, 3) := by decide +kernel
theorem dX10_lets_13 : decode cX10_lets 13 = .ok (.iload_n 1, 1) := by decide +kernel
theorem dX10_lets_14 : decode cX10_lets 14 = .ok (.aload_n 0, 1) := by decide +kernel
theorem dX10_lets_15 : decode cX10_lets 15 = .ok (.getfield 16, 3) := by decide +kernel
theorem dX10_lets_18 : decode cX10_lets 18 = .ok (.iload_n 1, 1) := by decide +kernel
theorem dX10_lets_19 : decode cX10_lets 19 = .ok (.iaload, 1) := by decide +kernel
theorem dX10_lets_20 : decode cX10_lets 20 = .ok (.iastore, 1) := by decide +kernel
theorem dX10_lets_21 : decode cX10_lets 21 = .ok (.iinc 1 1, 3) := by decide +kernel
theorem dX10_lets_24 : decode cX10_lets 24 = .ok (.goto (-22), 3) := by decide +kernel
theorem dX10_lets_27 : decode cX10_lets 27 = .ok (.return_, 1) := by decide +kernel
theorem dX10_isLetter_0 : decode cX10_isLetter 0 = .ok (.iload_n 0, 1) := by decide +kernel
theorem dX10_isLetter_1 : decode cX10_isLetter 1 = .ok (.iconst 0, 1) := by decide +kernel
theorem dX10_isLetter_2 : decode cX10_isLetter 2 = .ok (.bipush 24, 2) := by decide +kernel
theorem dX10_isLetter_4 : decode cX10_isLetter 4 = .ok (.invokestatic 65, 3) := by decide +kernel
theorem dX10_isLetter_7 : decode cX10_isLetter 7 = .ok (.ireturn, 1) := by decide +kernel
theorem dX10_isStroke_0 : decode cX10_isStroke 0 = .ok (.iload_n 1, 1) := by decide +kernel
theorem dX10_isStroke_1 : decode cX10_isStroke 1 = .ok (.ifCond .lt 17, 3) := by decide +kernel
theorem dX10_isStroke_4 : decode cX10_isStroke 4 = .ok (.iload_n 1, 1) := by decide +kernel
theorem dX10_isStroke_5 : decode cX10_isStroke 5 = .ok (.aload_n 0, 1) := by decide +kernel
theorem dX10_isStroke_6 : decode cX10_isStroke 6 = .ok (.getfield 7, 3) := by decide +kernel
theorem dX10_isStroke_9 : decode cX10_isStroke 9 = .ok (.iconst 3, 1) := by decide +kernel
theorem dX10_isStroke_10 : decode cX10_isStroke 10 = .ok (.iaload, 1) := by decide +kernel
theorem dX10_isStroke_11 : decode cX10_isStroke 11 = .ok (.if_icmp .ge 7, 3) := by decide +kernel
theorem dX10_isStroke_14 : decode cX10_isStroke 14 = .ok (.iconst 1, 1) := by decide +kernel
theorem dX10_isStroke_15 : decode cX10_isStroke 15 = .ok (.goto 4, 3) := by decide +kernel
theorem dX10_isStroke_18 : decode cX10_isStroke 18 = .ok (.iconst 0, 1) := by decide +kernel
theorem dX10_isStroke_19 : decode cX10_isStroke 19 = .ok (.ireturn, 1) := by decide +kernel
theorem dX10_rowOf_0 : decode cX10_rowOf 0 = .ok (.iload_n 0, 1) := by decide +kernel
theorem dX10_rowOf_1 : decode cX10_rowOf 1 = .ok (.iconst 5, 1) := by decide +kernel
theorem dX10_rowOf_2 : decode cX10_rowOf 2 = .ok (.idiv, 1) := by decide +kernel
theorem dX10_rowOf_3 : decode cX10_rowOf 3 = .ok (.iconst 1, 1) := by decide +kernel
theorem dX10_rowOf_4 : decode cX10_rowOf 4 = .ok (.iadd, 1) := by decide +kernel
theorem dX10_rowOf_5 : decode cX10_rowOf 5 = .ok (.ireturn, 1) := by decide +kernel
theorem dX10_columnOf_0 : decode cX10_columnOf 0 = .ok (.iload_n 0, 1) := by decide +kernel
theorem dX10_columnOf_1 : decode cX10_columnOf 1 = .ok (.iconst 5, 1) := by decide +kernel
theorem dX10_columnOf_2 : decode cX10_columnOf 2 = .ok (.irem, 1) := by decide +kernel
theorem dX10_columnOf_3 : decode cX10_columnOf 3 = .ok (.iconst 1, 1) := by decide +kernel
theorem dX10_columnOf_4 : decode cX10_columnOf 4 = .ok (.iadd, 1) := by decide +kernel
theorem dX10_columnOf_5 : decode cX10_columnOf 5 = .ok (.ireturn, 1) := by decide +kernel
theorem dX10_toldPlace_0 : decode cX10_toldPlace 0 = .ok (.bipush 10, 2) := by decide +kernel
theorem dX10_toldPlace_2 : decode cX10_toldPlace 2 = .ok (.aload_n 0, 1) := by decide +kernel
theorem dX10_toldPlace_3 : decode cX10_toldPlace 3 = .ok (.getfield 7, 3) := by decide +kernel
theorem dX10_toldPlace_6 : decode cX10_toldPlace 6 = .ok (.iconst 4, 1) := by decide +kernel
theorem dX10_toldPlace_7 : decode cX10_toldPlace 7 = .ok (.iload_n 1, 1) := by decide +kernel
theorem dX10_toldPlace_8 : decode cX10_toldPlace 8 = .ok (.iadd, 1) := by decide +kernel
theorem dX10_toldPlace_9 : decode cX10_toldPlace 9 = .ok (.iaload, 1) := by decide +kernel
theorem dX10_toldPlace_10 : decode cX10_toldPlace 10 = .ok (.invokestatic 69, 3) := by decide +kernel
theorem dX10_toldPlace_13 : decode cX10_toldPlace 13 = .ok (.imul, 1) := by decide +kernel
theorem dX10_toldPlace_14 : decode cX10_toldPlace 14 = .ok (.aload_n 0, 1) := by decide +kernel
theorem dX10_toldPlace_15 : decode cX10_toldPlace 15 = .ok (.getfield 7, 3) := by decide +kernel
theorem dX10_toldPlace_18 : decode cX10_toldPlace 18 = .ok (.iconst 4, 1) := by decide +kernel
theorem dX10_toldPlace_19 : decode cX10_toldPlace 19 = .ok (.iload_n 1, 1) := by decide +kernel
theorem dX10_toldPlace_20 : decode cX10_toldPlace 20 = .ok (.iadd, 1) := by decide +kernel
theorem dX10_toldPlace_21 : decode cX10_toldPlace 21 = .ok (.iaload, 1) := by decide +kernel
theorem dX10_toldPlace_22 : decode cX10_toldPlace 22 = .ok (.invokestatic 73, 3) := by decide +kernel
theorem dX10_toldPlace_25 : decode cX10_toldPlace 25 = .ok (.iadd, 1) := by decide +kernel
theorem dX10_toldPlace_26 : decode cX10_toldPlace 26 = .ok (.ireturn, 1) := by decide +kernel
theorem dX10_letterAt_0 : decode cX10_letterAt 0 = .ok (.iconst 0, 1) := by decide +kernel
theorem dX10_letterAt_1 : decode cX10_letterAt 1 = .ok (.istore_n 3, 1) := by decide +kernel
theorem dX10_letterAt_2 : decode cX10_letterAt 2 = .ok (.iconst 0, 1) := by decide +kernel
theorem dX10_letterAt_3 : decode cX10_letterAt 3 = .ok (.istore 4, 2) := by decide +kernel
theorem dX10_letterAt_5 : decode cX10_letterAt 5 = .ok (.iload 4, 2) := by decide +kernel
theorem dX10_letterAt_7 : decode cX10_letterAt 7 = .ok (.bipush 25, 2) := by decide +kernel
theorem dX10_letterAt_9 : decode cX10_letterAt 9 = .ok (.if_icmp .ge 36, 3) := by decide +kernel
theorem dX10_letterAt_12 : decode cX10_letterAt 12 = .ok (.aload_n 0, 1) := by decide +kernel
theorem dX10_letterAt_13 : decode cX10_letterAt 13 = .ok (.getfield 7, 3) := by decide +kernel
theorem dX10_letterAt_16 : decode cX10_letterAt 16 = .ok (.iconst 4, 1) := by decide +kernel
theorem dX10_letterAt_17 : decode cX10_letterAt 17 = .ok (.iload 4, 2) := by decide +kernel
theorem dX10_letterAt_19 : decode cX10_letterAt 19 = .ok (.iadd, 1) := by decide +kernel
theorem dX10_letterAt_20 : decode cX10_letterAt 20 = .ok (.iaload, 1) := by decide +kernel
theorem dX10_letterAt_21 : decode cX10_letterAt 21 = .ok (.iconst 5, 1) := by decide +kernel
theorem dX10_letterAt_22 : decode cX10_letterAt 22 = .ok (.iload_n 1, 1) := by decide +kernel
theorem dX10_letterAt_23 : decode cX10_letterAt 23 = .ok (.imul, 1) := by decide +kernel
theorem dX10_letterAt_24 : decode cX10_letterAt 24 = .ok (.iload_n 2, 1) := by decide +kernel
theorem dX10_letterAt_25 : decode cX10_letterAt 25 = .ok (.iadd, 1) := by decide +kernel
theorem dX10_letterAt_26 : decode cX10_letterAt 26 = .ok (.bipush 6, 2) := by decide +kernel
theorem dX10_letterAt_28 : decode cX10_letterAt 28 = .ok (.isub, 1) := by decide +kernel
theorem dX10_letterAt_29 : decode cX10_letterAt 29 = .ok (.if_icmp .ne 8, 3) := by decide +kernel
theorem dX10_letterAt_32 : decode cX10_letterAt 32 = .ok (.iload 4, 2) := by decide +kernel
theorem dX10_letterAt_34 : decode cX10_letterAt 34 = .ok (.goto 4, 3) := by decide +kernel
theorem dX10_letterAt_37 : decode cX10_letterAt 37 = .ok (.iload_n 3, 1) := by decide +kernel
theorem dX10_letterAt_38 : decode cX10_letterAt 38 = .ok (.istore_n 3, 1) := by decide +kernel
theorem dX10_letterAt_39 : decode cX10_letterAt 39 = .ok (.iinc 4 1, 3) := by decide +kernel
theorem dX10_letterAt_42 : decode cX10_letterAt 42 = .ok (.goto (-37), 3) := by decide +kernel
theorem dX10_letterAt_45 : decode cX10_letterAt 45 = .ok (.iload_n 3, 1) := by decide +kernel
theorem dX10_letterAt_46 : decode cX10_letterAt 46 = .ok (.ireturn, 1) := by decide +kernel
theorem dX10_set_0 : decode cX10_set 0 = .ok (.iload_n 1, 1) := by decide +kernel
theorem dX10_set_1 : decode cX10_set 1 = .ok (.ifCond .ne 16, 3) := by decide +kernel
theorem dX10_set_4 : decode cX10_set 4 = .ok (.iload_n 2, 1) := by decide +kernel
theorem dX10_set_5 : decode cX10_set 5 = .ok (.iconst 4, 1) := by decide +kernel
theorem dX10_set_6 : decode cX10_set 6 = .ok (.bipush 20, 2) := by decide +kernel
theorem dX10_set_8 : decode cX10_set 8 = .ok (.invokestatic 65, 3) := by decide +kernel
theorem dX10_set_11 : decode cX10_set 11 = .ok (.ifCond .eq 20, 3) := by decide +kernel
theorem dX10_set_14 : decode cX10_set 14 = .ok (.goto 20, 3) := by decide +kernel
theorem dX10_set_17 : decode cX10_set 17 = .ok (.iload_n 1, 1) := by decide +kernel
theorem dX10_set_18 : decode cX10_set 18 = .ok (.iconst 1, 1) := by decide +kernel
theorem dX10_set_19 : decode cX10_set 19 = .ok (.if_icmp .ne 12, 3) := by decide +kernel
theorem dX10_set_22 : decode cX10_set 22 = .ok (.iload_n 2, 1) := by decide +kernel
theorem dX10_set_23 : decode cX10_set 23 = .ok (.iconst 0, 1) := by decide +kernel
theorem dX10_set_24 : decode cX10_set 24 = .ok (.iconst 3, 1) := by decide +kernel
theorem dX10_set_25 : decode cX10_set 25 = .ok (.invokestatic 65, 3) := by decide +kernel
theorem dX10_set_28 : decode cX10_set 28 = .ok (.ifCond .ne 6, 3) := by decide +kernel
theorem dX10_set_31 : decode cX10_set 31 = .ok (.ldc 76, 2) := by decide +kernel
theorem dX10_set_33 : decode cX10_set 33 = .ok (.ireturn, 1) := by decide +kernel
theorem dX10_set_34 : decode cX10_set 34 = .ok (.aload_n 0, 1) := by decide +kernel
theorem dX10_set_35 : decode cX10_set 35 = .ok (.invokevirtual 77, 3) := by decide +kernel
theorem dX10_set_38 : decode cX10_set 38 = .ok (.aload_n 0, 1) := by decide +kernel
theorem dX10_set_39 : decode cX10_set 39 = .ok (.getfield 7, 3) := by decide +kernel
theorem dX10_set_42 : decode cX10_set 42 = .ok (.iload_n 1, 1) := by decide +kernel
theorem dX10_set_43 : decode cX10_set 43 = .ok (.iaload, 1) := by decide +kernel
theorem dX10_set_44 : decode cX10_set 44 = .ok (.istore_n 3, 1) := by decide +kernel
theorem dX10_set_45 : decode cX10_set 45 = .ok (.aload_n 0, 1) := by decide +kernel
theorem dX10_set_46 : decode cX10_set 46 = .ok (.getfield 7, 3) := by decide +kernel
theorem dX10_set_49 : decode cX10_set 49 = .ok (.iload_n 1, 1) := by decide +kernel
theorem dX10_set_50 : decode cX10_set 50 = .ok (.iload_n 2, 1) := by decide +kernel
theorem dX10_set_51 : decode cX10_set 51 = .ok (.iastore, 1) := by decide +kernel
theorem dX10_set_52 : decode cX10_set 52 = .ok (.iload_n 3, 1) := by decide +kernel
theorem dX10_set_53 : decode cX10_set 53 = .ok (.ireturn, 1) := by decide +kernel
theorem dX10_swap_0 : decode cX10_swap 0 = .ok (.iload_n 1, 1) := by decide +kernel
theorem dX10_swap_1 : decode cX10_swap 1 = .ok (.invokestatic 80, 3) := by decide +kernel
theorem dX10_swap_4 : decode cX10_swap 4 = .ok (.ifCond .eq 15, 3) := by decide +kernel
theorem dX10_swap_7 : decode cX10_swap 7 = .ok (.iload_n 2, 1) := by decide +kernel
theorem dX10_swap_8 : decode cX10_swap 8 = .ok (.invokestatic 80, 3) := by decide +kernel
theorem dX10_swap_11 : decode cX10_swap 11 = .ok (.ifCond .eq 8, 3) := by decide +kernel
theorem dX10_swap_14 : decode cX10_swap 14 = .ok (.iload_n 1, 1) := by decide +kernel
theorem dX10_swap_15 : decode cX10_swap 15 = .ok (.iload_n 2, 1) := by decide +kernel
theorem dX10_swap_16 : decode cX10_swap 16 = .ok (.if_icmp .ne 6, 3) := by decide +kernel
theorem dX10_swap_19 : decode cX10_swap 19 = .ok (.ldc 76, 2) := by decide +kernel
theorem dX10_swap_21 : decode cX10_swap 21 = .ok (.ireturn, 1) := by decide +kernel
theorem dX10_swap_22 : decode cX10_swap 22 = .ok (.aload_n 0, 1) := by decide +kernel
theorem dX10_swap_23 : decode cX10_swap 23 = .ok (.invokevirtual 77, 3) := by decide +kernel
theorem dX10_swap_26 : decode cX10_swap 26 = .ok (.aload_n 0, 1) := by decide +kernel
theorem dX10_swap_27 : decode cX10_swap 27 = .ok (.getfield 7, 3) := by decide +kernel
theorem dX10_swap_30 : decode cX10_swap 30 = .ok (.iconst 4, 1) := by decide +kernel
theorem dX10_swap_31 : decode cX10_swap 31 = .ok (.iload_n 1, 1) := by decide +kernel
theorem dX10_swap_32 : decode cX10_swap 32 = .ok (.iadd, 1) := by decide +kernel
theorem dX10_swap_33 : decode cX10_swap 33 = .ok (.iaload, 1) := by decide +kernel
theorem dX10_swap_34 : decode cX10_swap 34 = .ok (.istore_n 3, 1) := by decide +kernel
theorem dX10_swap_35 : decode cX10_swap 35 = .ok (.aload_n 0, 1) := by decide +kernel
theorem dX10_swap_36 : decode cX10_swap 36 = .ok (.getfield 7, 3) := by decide +kernel
theorem dX10_swap_39 : decode cX10_swap 39 = .ok (.iconst 4, 1) := by decide +kernel
theorem dX10_swap_40 : decode cX10_swap 40 = .ok (.iload_n 1, 1) := by decide +kernel
theorem dX10_swap_41 : decode cX10_swap 41 = .ok (.iadd, 1) := by decide +kernel
theorem dX10_swap_42 : decode cX10_swap 42 = .ok (.aload_n 0, 1) := by decide +kernel
theorem dX10_swap_43 : decode cX10_swap 43 = .ok (.getfield 7, 3) := by decide +kernel
theorem dX10_swap_46 : decode cX10_swap 46 = .ok (.iconst 4, 1) := by decide +kernel
theorem dX10_swap_47 : decode cX10_swap 47 = .ok (.iload_n 2, 1) := by decide +kernel
theorem dX10_swap_48 : decode cX10_swap 48 = .ok (.iadd, 1) := by decide +kernel
theorem dX10_swap_49 : decode cX10_swap 49 = .ok (.iaload, 1) := by decide +kernel
theorem dX10_swap_50 : decode cX10_swap 50 = .ok (.iastore, 1) := by decide +kernel
theorem dX10_swap_51 : decode cX10_swap 51 = .ok (.aload_n 0, 1) := by decide +kernel
theorem dX10_swap_52 : decode cX10_swap 52 = .ok (.getfield 7, 3) := by decide +kernel
theorem dX10_swap_55 : decode cX10_swap 55 = .ok (.iconst 4, 1) := by decide +kernel
theorem dX10_swap_56 : decode cX10_swap 56 = .ok (.iload_n 2, 1) := by decide +kernel
theorem dX10_swap_57 : decode cX10_swap 57 = .ok (.iadd, 1) := by decide +kernel
theorem dX10_swap_58 : decode cX10_swap 58 = .ok (.iload_n 3, 1) := by decide +kernel
theorem dX10_swap_59 : decode cX10_swap 59 = .ok (.iastore, 1) := by decide +kernel
theorem dX10_swap_60 : decode cX10_swap 60 = .ok (.aload_n 0, 1) := by decide +kernel
theorem dX10_swap_61 : decode cX10_swap 61 = .ok (.iload_n 1, 1) := by decide +kernel
theorem dX10_swap_62 : decode cX10_swap 62 = .ok (.invokevirtual 84, 3) := by decide +kernel
theorem dX10_swap_65 : decode cX10_swap 65 = .ok (.ireturn, 1) := by decide +kernel
theorem dX10_placeOf_0 : decode cX10_placeOf 0 = .ok (.iconst 0, 1) := by decide +kernel
theorem dX10_placeOf_1 : decode cX10_placeOf 1 = .ok (.istore_n 2, 1) := by decide +kernel
theorem dX10_placeOf_2 : decode cX10_placeOf 2 = .ok (.iload_n 2, 1) := by decide +kernel
theorem dX10_placeOf_3 : decode cX10_placeOf 3 = .ok (.aload_n 0, 1) := by decide +kernel
theorem dX10_placeOf_4 : decode cX10_placeOf 4 = .ok (.getfield 7, 3) := by decide +kernel
theorem dX10_placeOf_7 : decode cX10_placeOf 7 = .ok (.iconst 3, 1) := by decide +kernel
theorem dX10_placeOf_8 : decode cX10_placeOf 8 = .ok (.iaload, 1) := by decide +kernel
theorem dX10_placeOf_9 : decode cX10_placeOf 9 = .ok (.if_icmp .ge 22, 3) := by decide +kernel
theorem dX10_placeOf_12 : decode cX10_placeOf 12 = .ok (.aload_n 0, 1) := by decide +kernel
theorem dX10_placeOf_13 : decode cX10_placeOf 13 = .ok (.getfield 7, 3) := by decide +kernel
theorem dX10_placeOf_16 : decode cX10_placeOf 16 = .ok (.bipush 29, 2) := by decide +kernel
theorem dX10_placeOf_18 : decode cX10_placeOf 18 = .ok (.iload_n 2, 1) := by decide +kernel
theorem dX10_placeOf_19 : decode cX10_placeOf 19 = .ok (.iadd, 1) := by decide +kernel
theorem dX10_placeOf_20 : decode cX10_placeOf 20 = .ok (.iaload, 1) := by decide +kernel
theorem dX10_placeOf_21 : decode cX10_placeOf 21 = .ok (.iload_n 1, 1) := by decide +kernel
theorem dX10_placeOf_22 : decode cX10_placeOf 22 = .ok (.if_icmp .ge 9, 3) := by decide +kernel
theorem dX10_placeOf_25 : decode cX10_placeOf 25 = .ok (.iinc 2 1, 3) := by decide +kernel
theorem dX10_placeOf_28 : decode cX10_placeOf 28 = .ok (.goto (-26), 3) := by decide +kernel
theorem dX10_placeOf_31 : decode cX10_placeOf 31 = .ok (.iload_n 2, 1) := by decide +kernel
theorem dX10_placeOf_32 : decode cX10_placeOf 32 = .ok (.ireturn, 1) := by decide +kernel
theorem dX10_isThere_0 : decode cX10_isThere 0 = .ok (.aload_n 0, 1) := by decide +kernel
theorem dX10_isThere_1 : decode cX10_isThere 1 = .ok (.iload_n 1, 1) := by decide +kernel
theorem dX10_isThere_2 : decode cX10_isThere 2 = .ok (.invokevirtual 87, 3) := by decide +kernel
theorem dX10_isThere_5 : decode cX10_isThere 5 = .ok (.istore_n 2, 1) := by decide +kernel
theorem dX10_isThere_6 : decode cX10_isThere 6 = .ok (.iload_n 2, 1) := by decide +kernel
theorem dX10_isThere_7 : decode cX10_isThere 7 = .ok (.aload_n 0, 1) := by decide +kernel
theorem dX10_isThere_8 : decode cX10_isThere 8 = .ok (.getfield 7, 3) := by decide +kernel
theorem dX10_isThere_11 : decode cX10_isThere 11 = .ok (.iconst 3, 1) := by decide +kernel
theorem dX10_isThere_12 : decode cX10_isThere 12 = .ok (.iaload, 1) := by decide +kernel
theorem dX10_isThere_13 : decode cX10_isThere 13 = .ok (.if_icmp .ge 20, 3) := by decide +kernel
theorem dX10_isThere_16 : decode cX10_isThere 16 = .ok (.aload_n 0, 1) := by decide +kernel
theorem dX10_isThere_17 : decode cX10_isThere 17 = .ok (.getfield 7, 3) := by decide +kernel
theorem dX10_isThere_20 : decode cX10_isThere 20 = .ok (.bipush 29, 2) := by decide +kernel
theorem dX10_isThere_22 : decode cX10_isThere 22 = .ok (.iload_n 2, 1) := by decide +kernel
theorem dX10_isThere_23 : decode cX10_isThere 23 = .ok (.iadd, 1) := by decide +kernel
theorem dX10_isThere_24 : decode cX10_isThere 24 = .ok (.iaload, 1) := by decide +kernel
theorem dX10_isThere_25 : decode cX10_isThere 25 = .ok (.iload_n 1, 1) := by decide +kernel
theorem dX10_isThere_26 : decode cX10_isThere 26 = .ok (.if_icmp .ne 7, 3) := by decide +kernel
theorem dX10_isThere_29 : decode cX10_isThere 29 = .ok (.iconst 1, 1) := by decide +kernel
theorem dX10_isThere_30 : decode cX10_isThere 30 = .ok (.goto 4, 3) := by decide +kernel
theorem dX10_isThere_33 : decode cX10_isThere 33 = .ok (.iconst 0, 1) := by decide +kernel
theorem dX10_isThere_34 : decode cX10_isThere 34 = .ok (.ireturn, 1) := by decide +kernel
theorem dX10_puts_0 : decode cX10_puts 0 = .ok (.aload_n 0, 1) := by decide +kernel
theorem dX10_puts_1 : decode cX10_puts 1 = .ok (.iload_n 1, 1) := by decide +kernel
theorem dX10_puts_2 : decode cX10_puts 2 = .ok (.invokevirtual 87, 3) := by decide +kernel
theorem dX10_puts_5 : decode cX10_puts 5 = .ok (.istore_n 2, 1) := by decide +kernel
theorem dX10_puts_6 : decode cX10_puts 6 = .ok (.aload_n 0, 1) := by decide +kernel
theorem dX10_puts_7 : decode cX10_puts 7 = .ok (.getfield 7, 3) := by decide +kernel
theorem dX10_puts_10 : decode cX10_puts 10 = .ok (.iconst 3, 1) := by decide +kernel
theorem dX10_puts_11 : decode cX10_puts 11 = .ok (.iaload, 1) := by decide +kernel
theorem dX10_puts_12 : decode cX10_puts 12 = .ok (.istore_n 3, 1) := by decide +kernel
theorem dX10_puts_13 : decode cX10_puts 13 = .ok (.iload_n 3, 1) := by decide +kernel
theorem dX10_puts_14 : decode cX10_puts 14 = .ok (.iload_n 2, 1) := by decide +kernel
theorem dX10_puts_15 : decode cX10_puts 15 = .ok (.if_icmp .le 29, 3) := by decide +kernel
theorem dX10_puts_18 : decode cX10_puts 18 = .ok (.aload_n 0, 1) := by decide +kernel
theorem dX10_puts_19 : decode cX10_puts 19 = .ok (.getfield 7, 3) := by decide +kernel
theorem dX10_puts_22 : decode cX10_puts 22 = .ok (.bipush 29, 2) := by decide +kernel
theorem dX10_puts_24 : decode cX10_puts 24 = .ok (.iload_n 3, 1) := by decide +kernel
theorem dX10_puts_25 : decode cX10_puts 25 = .ok (.iadd, 1) := by decide +kernel
theorem dX10_puts_26 : decode cX10_puts 26 = .ok (.aload_n 0, 1) := by decide +kernel
theorem dX10_puts_27 : decode cX10_puts 27 = .ok (.getfield 7, 3) := by decide +kernel
theorem dX10_puts_30 : decode cX10_puts 30 = .ok (.bipush 29, 2) := by decide +kernel
theorem dX10_puts_32 : decode cX10_puts 32 = .ok (.iload_n 3, 1) := by decide +kernel
theorem dX10_puts_33 : decode cX10_puts 33 = .ok (.iadd, 1) := by decide +kernel
theorem dX10_puts_34 : decode cX10_puts 34 = .ok (.iconst 1, 1) := by decide +kernel
theorem dX10_puts_35 : decode cX10_puts 35 = .ok (.isub, 1) := by decide +kernel
theorem dX10_puts_36 : decode cX10_puts 36 = .ok (.iaload, 1) := by decide +kernel
theorem dX10_puts_37 : decode cX10_puts 37 = .ok (.iastore, 1) := by decide +kernel
theorem dX10_puts_38 : decode cX10_puts 38 = .ok (.iinc 3 (-1), 3) := by decide +kernel
theorem dX10_puts_41 : decode cX10_puts 41 = .ok (.goto (-28), 3) := by decide +kernel
theorem dX10_puts_44 : decode cX10_puts 44 = .ok (.aload_n 0, 1) := by decide +kernel
theorem dX10_puts_45 : decode cX10_puts 45 = .ok (.getfield 7, 3) := by decide +kernel
theorem dX10_puts_48 : decode cX10_puts 48 = .ok (.bipush 29, 2) := by decide +kernel
theorem dX10_puts_50 : decode cX10_puts 50 = .ok (.iload_n 2, 1) := by decide +kernel
theorem dX10_puts_51 : decode cX10_puts 51 = .ok (.iadd, 1) := by decide +kernel
theorem dX10_puts_52 : decode cX10_puts 52 = .ok (.iload_n 1, 1) := by decide +kernel
theorem dX10_puts_53 : decode cX10_puts 53 = .ok (.iastore, 1) := by decide +kernel
theorem dX10_puts_54 : decode cX10_puts 54 = .ok (.aload_n 0, 1) := by decide +kernel
theorem dX10_puts_55 : decode cX10_puts 55 = .ok (.getfield 7, 3) := by decide +kernel
theorem dX10_puts_58 : decode cX10_puts 58 = .ok (.iconst 3, 1) := by decide +kernel
theorem dX10_puts_59 : decode cX10_puts 59 = .ok (.dup2, 1) := by decide +kernel
theorem dX10_puts_60 : decode cX10_puts 60 = .ok (.iaload, 1) := by decide +kernel
theorem dX10_puts_61 : decode cX10_puts 61 = .ok (.iconst 1, 1) := by decide +kernel
theorem dX10_puts_62 : decode cX10_puts 62 = .ok (.iadd, 1) := by decide +kernel
theorem dX10_puts_63 : decode cX10_puts 63 = .ok (.iastore, 1) := by decide +kernel
theorem dX10_puts_64 : decode cX10_puts 64 = .ok (.iload_n 2, 1) := by decide +kernel
theorem dX10_puts_65 : decode cX10_puts 65 = .ok (.ireturn, 1) := by decide +kernel
theorem dX10_takes_0 : decode cX10_takes 0 = .ok (.aload_n 0, 1) := by decide +kernel
theorem dX10_takes_1 : decode cX10_takes 1 = .ok (.getfield 7, 3) := by decide +kernel
theorem dX10_takes_4 : decode cX10_takes 4 = .ok (.bipush 29, 2) := by decide +kernel
theorem dX10_takes_6 : decode cX10_takes 6 = .ok (.iload_n 1, 1) := by decide +kernel
theorem dX10_takes_7 : decode cX10_takes 7 = .ok (.iadd, 1) := by decide +kernel
theorem dX10_takes_8 : decode cX10_takes 8 = .ok (.iaload, 1) := by decide +kernel
theorem dX10_takes_9 : decode cX10_takes 9 = .ok (.istore_n 2, 1) := by decide +kernel
theorem dX10_takes_10 : decode cX10_takes 10 = .ok (.aload_n 0, 1) := by decide +kernel
theorem dX10_takes_11 : decode cX10_takes 11 = .ok (.getfield 7, 3) := by decide +kernel
theorem dX10_takes_14 : decode cX10_takes 14 = .ok (.iconst 3, 1) := by decide +kernel
theorem dX10_takes_15 : decode cX10_takes 15 = .ok (.dup2, 1) := by decide +kernel
theorem dX10_takes_16 : decode cX10_takes 16 = .ok (.iaload, 1) := by decide +kernel
theorem dX10_takes_17 : decode cX10_takes 17 = .ok (.iconst 1, 1) := by decide +kernel
theorem dX10_takes_18 : decode cX10_takes 18 = .ok (.isub, 1) := by decide +kernel
theorem dX10_takes_19 : decode cX10_takes 19 = .ok (.iastore, 1) := by decide +kernel
theorem dX10_takes_20 : decode cX10_takes 20 = .ok (.iload_n 1, 1) := by decide +kernel
theorem dX10_takes_21 : decode cX10_takes 21 = .ok (.istore_n 3, 1) := by decide +kernel
theorem dX10_takes_22 : decode cX10_takes 22 = .ok (.iload_n 3, 1) := by decide +kernel
theorem dX10_takes_23 : decode cX10_takes 23 = .ok (.aload_n 0, 1) := by decide +kernel
theorem dX10_takes_24 : decode cX10_takes 24 = .ok (.getfield 7, 3) := by decide +kernel
theorem dX10_takes_27 : decode cX10_takes 27 = .ok (.iconst 3, 1) := by decide +kernel
theorem dX10_takes_28 : decode cX10_takes 28 = .ok (.iaload, 1) := by decide +kernel
theorem dX10_takes_29 : decode cX10_takes 29 = .ok (.if_icmp .ge 29, 3) := by decide +kernel
theorem dX10_takes_32 : decode cX10_takes 32 = .ok (.aload_n 0, 1) := by decide +kernel
theorem dX10_takes_33 : decode cX10_takes 33 = .ok (.getfield 7, 3) := by decide +kernel
theorem dX10_takes_36 : decode cX10_takes 36 = .ok (.bipush 29, 2) := by decide +kernel
theorem dX10_takes_38 : decode cX10_takes 38 = .ok (.iload_n 3, 1) := by decide +kernel
theorem dX10_takes_39 : decode cX10_takes 39 = .ok (.iadd, 1) := by decide +kernel
theorem dX10_takes_40 : decode cX10_takes 40 = .ok (.aload_n 0, 1) := by decide +kernel
theorem dX10_takes_41 : decode cX10_takes 41 = .ok (.getfield 7, 3) := by decide +kernel
theorem dX10_takes_44 : decode cX10_takes 44 = .ok (.bipush 29, 2) := by decide +kernel
theorem dX10_takes_46 : decode cX10_takes 46 = .ok (.iload_n 3, 1) := by decide +kernel
theorem dX10_takes_47 : decode cX10_takes 47 = .ok (.iadd, 1) := by decide +kernel
theorem dX10_takes_48 : decode cX10_takes 48 = .ok (.iconst 1, 1) := by decide +kernel
theorem dX10_takes_49 : decode cX10_takes 49 = .ok (.iadd, 1) := by decide +kernel
theorem dX10_takes_50 : decode cX10_takes 50 = .ok (.iaload, 1) := by decide +kernel
theorem dX10_takes_51 : decode cX10_takes 51 = .ok (.iastore, 1) := by decide +kernel
theorem dX10_takes_52 : decode cX10_takes 52 = .ok (.iinc 3 1, 3) := by decide +kernel
theorem dX10_takes_55 : decode cX10_takes 55 = .ok (.goto (-33), 3) := by decide +kernel
theorem dX10_takes_58 : decode cX10_takes 58 = .ok (.iload_n 2, 1) := by decide +kernel
theorem dX10_takes_59 : decode cX10_takes 59 = .ok (.ireturn, 1) := by decide +kernel
theorem dX10_begin_0 : decode cX10_begin 0 = .ok (.aload_n 0, 1) := by decide +kernel
theorem dX10_begin_1 : decode cX10_begin 1 = .ok (.getfield 7, 3) := by decide +kernel
theorem dX10_begin_4 : decode cX10_begin 4 = .ok (.iconst 3, 1) := by decide +kernel
theorem dX10_begin_5 : decode cX10_begin 5 = .ok (.iaload, 1) := by decide +kernel
theorem dX10_begin_6 : decode cX10_begin 6 = .ok (.ifCond .ne 7, 3) := by decide +kernel
theorem dX10_begin_9 : decode cX10_begin 9 = .ok (.iconst 0, 1) := by decide +kernel
theorem dX10_begin_10 : decode cX10_begin 10 = .ok (.goto 44, 3) := by decide +kernel
theorem dX10_begin_13 : decode cX10_begin 13 = .ok (.aload_n 0, 1) := by decide +kernel
theorem dX10_begin_14 : decode cX10_begin 14 = .ok (.getfield 7, 3) := by decide +kernel
theorem dX10_begin_17 : decode cX10_begin 17 = .ok (.bipush 29, 2) := by decide +kernel
theorem dX10_begin_19 : decode cX10_begin 19 = .ok (.aload_n 0, 1) := by decide +kernel
theorem dX10_begin_20 : decode cX10_begin 20 = .ok (.getfield 7, 3) := by decide +kernel
theorem dX10_begin_23 : decode cX10_begin 23 = .ok (.iconst 3, 1) := by decide +kernel
theorem dX10_begin_24 : decode cX10_begin 24 = .ok (.iaload, 1) := by decide +kernel
theorem dX10_begin_25 : decode cX10_begin 25 = .ok (.iadd, 1) := by decide +kernel
theorem dX10_begin_26 : decode cX10_begin 26 = .ok (.iconst 1, 1) := by decide +kernel
theorem dX10_begin_27 : decode cX10_begin 27 = .ok (.isub, 1) := by decide +kernel
theorem dX10_begin_28 : decode cX10_begin 28 = .ok (.iaload, 1) := by decide +kernel
theorem dX10_begin_29 : decode cX10_begin 29 = .ok (.aload_n 0, 1) := by decide +kernel
theorem dX10_begin_30 : decode cX10_begin 30 = .ok (.getfield 7, 3) := by decide +kernel
theorem dX10_begin_33 : decode cX10_begin 33 = .ok (.iconst 2, 1) := by decide +kernel
theorem dX10_begin_34 : decode cX10_begin 34 = .ok (.iaload, 1) := by decide +kernel
theorem dX10_begin_35 : decode cX10_begin 35 = .ok (.iconst 1, 1) := by decide +kernel
theorem dX10_begin_36 : decode cX10_begin 36 = .ok (.if_icmp .ne 8, 3) := by decide +kernel
theorem dX10_begin_39 : decode cX10_begin 39 = .ok (.bipush 12, 2) := by decide +kernel
theorem dX10_begin_41 : decode cX10_begin 41 = .ok (.goto 5, 3) := by decide +kernel
theorem dX10_begin_44 : decode cX10_begin 44 = .ok (.bipush 6, 2) := by decide +kernel
theorem dX10_begin_46 : decode cX10_begin 46 = .ok (.aload_n 0, 1) := by decide +kernel
theorem dX10_begin_47 : decode cX10_begin 47 = .ok (.getfield 7, 3) := by decide +kernel
theorem dX10_begin_50 : decode cX10_begin 50 = .ok (.iconst 0, 1) := by decide +kernel
theorem dX10_begin_51 : decode cX10_begin 51 = .ok (.iaload, 1) := by decide +kernel
theorem dX10_begin_52 : decode cX10_begin 52 = .ok (.imul, 1) := by decide +kernel
theorem dX10_begin_53 : decode cX10_begin 53 = .ok (.iadd, 1) := by decide +kernel
theorem dX10_begin_54 : decode cX10_begin 54 = .ok (.ireturn, 1) := by decide +kernel
theorem dX10_isRoom_0 : decode cX10_isRoom 0 = .ok (.aload_n 0, 1) := by decide +kernel
theorem dX10_isRoom_1 : decode cX10_isRoom 1 = .ok (.getfield 7, 3) := by decide +kernel
theorem dX10_isRoom_4 : decode cX10_isRoom 4 = .ok (.iconst 4, 1) := by decide +kernel
theorem dX10_isRoom_5 : decode cX10_isRoom 5 = .ok (.iload_n 1, 1) := by decide +kernel
theorem dX10_isRoom_6 : decode cX10_isRoom 6 = .ok (.iadd, 1) := by decide +kernel
theorem dX10_isRoom_7 : decode cX10_isRoom 7 = .ok (.iaload, 1) := by decide +kernel
theorem dX10_isRoom_8 : decode cX10_isRoom 8 = .ok (.invokestatic 69, 3) := by decide +kernel
theorem dX10_isRoom_11 : decode cX10_isRoom 11 = .ok (.istore_n 2, 1) := by decide +kernel
theorem dX10_isRoom_12 : decode cX10_isRoom 12 = .ok (.aload_n 0, 1) := by decide +kernel
theorem dX10_isRoom_13 : decode cX10_isRoom 13 = .ok (.getfield 7, 3) := by decide +kernel
theorem dX10_isRoom_16 : decode cX10_isRoom 16 = .ok (.iconst 4, 1) := by decide +kernel
theorem dX10_isRoom_17 : decode cX10_isRoom 17 = .ok (.iload_n 1, 1) := by decide +kernel
theorem dX10_isRoom_18 : decode cX10_isRoom 18 = .ok (.iadd, 1) := by decide +kernel
theorem dX10_isRoom_19 : decode cX10_isRoom 19 = .ok (.iaload, 1) := by decide +kernel
theorem dX10_isRoom_20 : decode cX10_isRoom 20 = .ok (.invokestatic 73, 3) := by decide +kernel
theorem dX10_isRoom_23 : decode cX10_isRoom 23 = .ok (.istore_n 3, 1) := by decide +kernel
theorem dX10_isRoom_24 : decode cX10_isRoom 24 = .ok (.aload_n 0, 1) := by decide +kernel
theorem dX10_isRoom_25 : decode cX10_isRoom 25 = .ok (.getfield 7, 3) := by decide +kernel
theorem dX10_isRoom_28 : decode cX10_isRoom 28 = .ok (.iconst 3, 1) := by decide +kernel
theorem dX10_isRoom_29 : decode cX10_isRoom 29 = .ok (.iaload, 1) := by decide +kernel
theorem dX10_isRoom_30 : decode cX10_isRoom 30 = .ok (.iload_n 2, 1) := by decide +kernel
theorem dX10_isRoom_31 : decode cX10_isRoom 31 = .ok (.iadd, 1) := by decide +kernel
theorem dX10_isRoom_32 : decode cX10_isRoom 32 = .ok (.iload_n 3, 1) := by decide +kernel
theorem dX10_isRoom_33 : decode cX10_isRoom 33 = .ok (.iadd, 1) := by decide +kernel
theorem dX10_isRoom_34 : decode cX10_isRoom 34 = .ok (.sipush 160, 3) := by decide +kernel
theorem dX10_isRoom_37 : decode cX10_isRoom 37 = .ok (.if_icmp .gt 30, 3) := by decide +kernel
theorem dX10_isRoom_40 : decode cX10_isRoom 40 = .ok (.aload_n 0, 1) := by decide +kernel
theorem dX10_isRoom_41 : decode cX10_isRoom 41 = .ok (.invokevirtual 90, 3) := by decide +kernel
theorem dX10_isRoom_44 : decode cX10_isRoom 44 = .ok (.iload_n 2, 1) := by decide +kernel
theorem dX10_isRoom_45 : decode cX10_isRoom 45 = .ok (.iload_n 3, 1) := by decide +kernel
theorem dX10_isRoom_46 : decode cX10_isRoom 46 = .ok (.iadd, 1) := by decide +kernel
theorem dX10_isRoom_47 : decode cX10_isRoom 47 = .ok (.iconst 1, 1) := by decide +kernel
theorem dX10_isRoom_48 : decode cX10_isRoom 48 = .ok (.iadd, 1) := by decide +kernel
theorem dX10_isRoom_49 : decode cX10_isRoom 49 = .ok (.aload_n 0, 1) := by decide +kernel
theorem dX10_isRoom_50 : decode cX10_isRoom 50 = .ok (.getfield 7, 3) := by decide +kernel
theorem dX10_isRoom_53 : decode cX10_isRoom 53 = .ok (.iconst 0, 1) := by decide +kernel
theorem dX10_isRoom_54 : decode cX10_isRoom 54 = .ok (.iaload, 1) := by decide +kernel
theorem dX10_isRoom_55 : decode cX10_isRoom 55 = .ok (.imul, 1) := by decide +kernel
theorem dX10_isRoom_56 : decode cX10_isRoom 56 = .ok (.iadd, 1) := by decide +kernel
theorem dX10_isRoom_57 : decode cX10_isRoom 57 = .ok (.sipush 9999, 3) := by decide +kernel
theorem dX10_isRoom_60 : decode cX10_isRoom 60 = .ok (.if_icmp .gt 7, 3) := by decide +kernel
theorem dX10_isRoom_63 : decode cX10_isRoom 63 = .ok (.iconst 1, 1) := by decide +kernel
theorem dX10_isRoom_64 : decode cX10_isRoom 64 = .ok (.goto 4, 3) := by decide +kernel
theorem dX10_isRoom_67 : decode cX10_isRoom 67 = .ok (.iconst 0, 1) := by decide +kernel
theorem dX10_isRoom_68 : decode cX10_isRoom 68 = .ok (.ireturn, 1) := by decide +kernel
theorem dX10_rings_0 : decode cX10_rings 0 = .ok (.aload_n 0, 1) := by decide +kernel
theorem dX10_rings_1 : decode cX10_rings 1 = .ok (.getfield 7, 3) := by decide +kernel
theorem dX10_rings_4 : decode cX10_rings 4 = .ok (.iconst 4, 1) := by decide +kernel
theorem dX10_rings_5 : decode cX10_rings 5 = .ok (.iload_n 1, 1) := by decide +kernel
theorem dX10_rings_6 : decode cX10_rings 6 = .ok (.iadd, 1) := by decide +kernel
theorem dX10_rings_7 : decode cX10_rings 7 = .ok (.iaload, 1) := by decide +kernel
theorem dX10_rings_8 : decode cX10_rings 8 = .ok (.invokestatic 69, 3) := by decide +kernel
theorem dX10_rings_11 : decode cX10_rings 11 = .ok (.istore_n 2, 1) := by decide +kernel
theorem dX10_rings_12 : decode cX10_rings 12 = .ok (.aload_n 0, 1) := by decide +kernel
theorem dX10_rings_13 : decode cX10_rings 13 = .ok (.getfield 7, 3) := by decide +kernel
theorem dX10_rings_16 : decode cX10_rings 16 = .ok (.iconst 4, 1) := by decide +kernel
theorem dX10_rings_17 : decode cX10_rings 17 = .ok (.iload_n 1, 1) := by decide +kernel
theorem dX10_rings_18 : decode cX10_rings 18 = .ok (.iadd, 1) := by decide +kernel
theorem dX10_rings_19 : decode cX10_rings 19 = .ok (.iaload, 1) := by decide +kernel
theorem dX10_rings_20 : decode cX10_rings 20 = .ok (.invokestatic 73, 3) := by decide +kernel
theorem dX10_rings_23 : decode cX10_rings 23 = .ok (.istore_n 3, 1) := by decide +kernel
theorem dX10_rings_24 : decode cX10_rings 24 = .ok (.aload_n 0, 1) := by decide +kernel
theorem dX10_rings_25 : decode cX10_rings 25 = .ok (.invokevirtual 90, 3) := by decide +kernel
theorem dX10_rings_28 : decode cX10_rings 28 = .ok (.istore 4, 2) := by decide +kernel
theorem dX10_rings_30 : decode cX10_rings 30 = .ok (.iconst 0, 1) := by decide +kernel
theorem dX10_rings_31 : decode cX10_rings 31 = .ok (.istore 5, 2) := by decide +kernel
theorem dX10_rings_33 : decode cX10_rings 33 = .ok (.iload 5, 2) := by decide +kernel
theorem dX10_rings_35 : decode cX10_rings 35 = .ok (.iload_n 2, 1) := by decide +kernel
theorem dX10_rings_36 : decode cX10_rings 36 = .ok (.iload_n 3, 1) := by decide +kernel
theorem dX10_rings_37 : decode cX10_rings 37 = .ok (.iadd, 1) := by decide +kernel
theorem dX10_rings_38 : decode cX10_rings 38 = .ok (.if_icmp .ge 58, 3) := by decide +kernel
theorem dX10_rings_41 : decode cX10_rings 41 = .ok (.aload_n 0, 1) := by decide +kernel
theorem dX10_rings_42 : decode cX10_rings 42 = .ok (.getfield 7, 3) := by decide +kernel
theorem dX10_rings_45 : decode cX10_rings 45 = .ok (.bipush 29, 2) := by decide +kernel
theorem dX10_rings_47 : decode cX10_rings 47 = .ok (.aload_n 0, 1) := by decide +kernel
theorem dX10_rings_48 : decode cX10_rings 48 = .ok (.getfield 7, 3) := by decide +kernel
theorem dX10_rings_51 : decode cX10_rings 51 = .ok (.iconst 3, 1) := by decide +kernel
theorem dX10_rings_52 : decode cX10_rings 52 = .ok (.iaload, 1) := by decide +kernel
theorem dX10_rings_53 : decode cX10_rings 53 = .ok (.iadd, 1) := by decide +kernel
theorem dX10_rings_54 : decode cX10_rings 54 = .ok (.iload 4, 2) := by decide +kernel
theorem dX10_rings_56 : decode cX10_rings 56 = .ok (.iload 5, 2) := by decide +kernel
theorem dX10_rings_58 : decode cX10_rings 58 = .ok (.iload_n 2, 1) := by decide +kernel
theorem dX10_rings_59 : decode cX10_rings 59 = .ok (.if_icmp .ge 8, 3) := by decide +kernel
theorem dX10_rings_62 : decode cX10_rings 62 = .ok (.iload 5, 2) := by decide +kernel
theorem dX10_rings_64 : decode cX10_rings 64 = .ok (.goto 7, 3) := by decide +kernel
theorem dX10_rings_67 : decode cX10_rings 67 = .ok (.iload 5, 2) := by decide +kernel
theorem dX10_rings_69 : decode cX10_rings 69 = .ok (.iconst 2, 1) := by decide +kernel
theorem dX10_rings_70 : decode cX10_rings 70 = .ok (.iadd, 1) := by decide +kernel
theorem dX10_rings_71 : decode cX10_rings 71 = .ok (.aload_n 0, 1) := by decide +kernel
theorem dX10_rings_72 : decode cX10_rings 72 = .ok (.getfield 7, 3) := by decide +kernel
theorem dX10_rings_75 : decode cX10_rings 75 = .ok (.iconst 0, 1) := by decide +kernel
theorem dX10_rings_76 : decode cX10_rings 76 = .ok (.iaload, 1) := by decide +kernel
theorem dX10_rings_77 : decode cX10_rings 77 = .ok (.imul, 1) := by decide +kernel
theorem dX10_rings_78 : decode cX10_rings 78 = .ok (.iadd, 1) := by decide +kernel
theorem dX10_rings_79 : decode cX10_rings 79 = .ok (.iastore, 1) := by decide +kernel
theorem dX10_rings_80 : decode cX10_rings 80 = .ok (.aload_n 0, 1) := by decide +kernel
theorem dX10_rings_81 : decode cX10_rings 81 = .ok (.getfield 7, 3) := by decide +kernel
theorem dX10_rings_84 : decode cX10_rings 84 = .ok (.iconst 3, 1) := by decide +kernel
theorem dX10_rings_85 : decode cX10_rings 85 = .ok (.dup2, 1) := by decide +kernel
theorem dX10_rings_86 : decode cX10_rings 86 = .ok (.iaload, 1) := by decide +kernel
theorem dX10_rings_87 : decode cX10_rings 87 = .ok (.iconst 1, 1) := by decide +kernel
theorem dX10_rings_88 : decode cX10_rings 88 = .ok (.iadd, 1) := by decide +kernel
theorem dX10_rings_89 : decode cX10_rings 89 = .ok (.iastore, 1) := by decide +kernel
theorem dX10_rings_90 : decode cX10_rings 90 = .ok (.iinc 5 1, 3) := by decide +kernel
theorem dX10_rings_93 : decode cX10_rings 93 = .ok (.goto (-60), 3) := by decide +kernel
theorem dX10_rings_96 : decode cX10_rings 96 = .ok (.aload_n 0, 1) := by decide +kernel
theorem dX10_rings_97 : decode cX10_rings 97 = .ok (.getfield 7, 3) := by decide +kernel
theorem dX10_rings_100 : decode cX10_rings 100 = .ok (.iconst 2, 1) := by decide +kernel
theorem dX10_rings_101 : decode cX10_rings 101 = .ok (.iconst 0, 1) := by decide +kernel
theorem dX10_rings_102 : decode cX10_rings 102 = .ok (.iastore, 1) := by decide +kernel
theorem dX10_rings_103 : decode cX10_rings 103 = .ok (.return_, 1) := by decide +kernel
theorem dX10_ring_0 : decode cX10_ring 0 = .ok (.iload_n 1, 1) := by decide +kernel
theorem dX10_ring_1 : decode cX10_ring 1 = .ok (.invokestatic 80, 3) := by decide +kernel
theorem dX10_ring_4 : decode cX10_ring 4 = .ok (.ifCond .ne 6, 3) := by decide +kernel
theorem dX10_ring_7 : decode cX10_ring 7 = .ok (.ldc 76, 2) := by decide +kernel
theorem dX10_ring_9 : decode cX10_ring 9 = .ok (.ireturn, 1) := by decide +kernel
theorem dX10_ring_10 : decode cX10_ring 10 = .ok (.aload_n 0, 1) := by decide +kernel
theorem dX10_ring_11 : decode cX10_ring 11 = .ok (.iload_n 1, 1) := by decide +kernel
theorem dX10_ring_12 : decode cX10_ring 12 = .ok (.invokevirtual 94, 3) := by decide +kernel
theorem dX10_ring_15 : decode cX10_ring 15 = .ok (.ifCond .ne 6, 3) := by decide +kernel
theorem dX10_ring_18 : decode cX10_ring 18 = .ok (.ldc 97, 2) := by decide +kernel
theorem dX10_ring_20 : decode cX10_ring 20 = .ok (.ireturn, 1) := by decide +kernel
theorem dX10_ring_21 : decode cX10_ring 21 = .ok (.aload_n 0, 1) := by decide +kernel
theorem dX10_ring_22 : decode cX10_ring 22 = .ok (.invokevirtual 77, 3) := by decide +kernel
theorem dX10_ring_25 : decode cX10_ring 25 = .ok (.aload_n 0, 1) := by decide +kernel
theorem dX10_ring_26 : decode cX10_ring 26 = .ok (.getfield 7, 3) := by decide +kernel
theorem dX10_ring_29 : decode cX10_ring 29 = .ok (.iconst 3, 1) := by decide +kernel
theorem dX10_ring_30 : decode cX10_ring 30 = .ok (.iaload, 1) := by decide +kernel
theorem dX10_ring_31 : decode cX10_ring 31 = .ok (.istore_n 2, 1) := by decide +kernel
theorem dX10_ring_32 : decode cX10_ring 32 = .ok (.aload_n 0, 1) := by decide +kernel
theorem dX10_ring_33 : decode cX10_ring 33 = .ok (.iload_n 1, 1) := by decide +kernel
theorem dX10_ring_34 : decode cX10_ring 34 = .ok (.invokevirtual 98, 3) := by decide +kernel
theorem dX10_ring_37 : decode cX10_ring 37 = .ok (.iload_n 2, 1) := by decide +kernel
theorem dX10_ring_38 : decode cX10_ring 38 = .ok (.ireturn, 1) := by decide +kernel
theorem dX10_pause_0 : decode cX10_pause 0 = .ok (.aload_n 0, 1) := by decide +kernel
theorem dX10_pause_1 : decode cX10_pause 1 = .ok (.getfield 7, 3) := by decide +kernel
theorem dX10_pause_4 : decode cX10_pause 4 = .ok (.iconst 2, 1) := by decide +kernel
theorem dX10_pause_5 : decode cX10_pause 5 = .ok (.iaload, 1) := by decide +kernel
theorem dX10_pause_6 : decode cX10_pause 6 = .ok (.iconst 1, 1) := by decide +kernel
theorem dX10_pause_7 : decode cX10_pause 7 = .ok (.if_icmp .eq 12, 3) := by decide +kernel
theorem dX10_pause_10 : decode cX10_pause 10 = .ok (.aload_n 0, 1) := by decide +kernel
theorem dX10_pause_11 : decode cX10_pause 11 = .ok (.getfield 7, 3) := by decide +kernel
theorem dX10_pause_14 : decode cX10_pause 14 = .ok (.iconst 3, 1) := by decide +kernel
theorem dX10_pause_15 : decode cX10_pause 15 = .ok (.iaload, 1) := by decide +kernel
theorem dX10_pause_16 : decode cX10_pause 16 = .ok (.ifCond .ne 6, 3) := by decide +kernel
theorem dX10_pause_19 : decode cX10_pause 19 = .ok (.ldc 102, 2) := by decide +kernel
theorem dX10_pause_21 : decode cX10_pause 21 = .ok (.ireturn, 1) := by decide +kernel
theorem dX10_pause_22 : decode cX10_pause 22 = .ok (.aload_n 0, 1) := by decide +kernel
theorem dX10_pause_23 : decode cX10_pause 23 = .ok (.invokevirtual 77, 3) := by decide +kernel
theorem dX10_pause_26 : decode cX10_pause 26 = .ok (.aload_n 0, 1) := by decide +kernel
theorem dX10_pause_27 : decode cX10_pause 27 = .ok (.getfield 7, 3) := by decide +kernel
theorem dX10_pause_30 : decode cX10_pause 30 = .ok (.iconst 2, 1) := by decide +kernel
theorem dX10_pause_31 : decode cX10_pause 31 = .ok (.iconst 1, 1) := by decide +kernel
theorem dX10_pause_32 : decode cX10_pause 32 = .ok (.iastore, 1) := by decide +kernel
theorem dX10_pause_33 : decode cX10_pause 33 = .ok (.aload_n 0, 1) := by decide +kernel
theorem dX10_pause_34 : decode cX10_pause 34 = .ok (.getfield 7, 3) := by decide +kernel
theorem dX10_pause_37 : decode cX10_pause 37 = .ok (.iconst 3, 1) := by decide +kernel
theorem dX10_pause_38 : decode cX10_pause 38 = .ok (.iaload, 1) := by decide +kernel
theorem dX10_pause_39 : decode cX10_pause 39 = .ok (.ireturn, 1) := by decide +kernel
theorem dX10_strike_0 : decode cX10_strike 0 = .ok (.iload_n 1, 1) := by decide +kernel
theorem dX10_strike_1 : decode cX10_strike 1 = .ok (.iconst 0, 1) := by decide +kernel
theorem dX10_strike_2 : decode cX10_strike 2 = .ok (.sipush 9999, 3) := by decide +kernel
theorem dX10_strike_5 : decode cX10_strike 5 = .ok (.invokestatic 65, 3) := by decide +kernel
theorem dX10_strike_8 : decode cX10_strike 8 = .ok (.ifCond .ne 6, 3) := by decide +kernel
theorem dX10_strike_11 : decode cX10_strike 11 = .ok (.ldc 76, 2) := by decide +kernel
theorem dX10_strike_13 : decode cX10_strike 13 = .ok (.ireturn, 1) := by decide +kernel
theorem dX10_strike_14 : decode cX10_strike 14 = .ok (.aload_n 0, 1) := by decide +kernel
theorem dX10_strike_15 : decode cX10_strike 15 = .ok (.iload_n 1, 1) := by decide +kernel
theorem dX10_strike_16 : decode cX10_strike 16 = .ok (.invokevirtual 103, 3) := by decide +kernel
theorem dX10_strike_19 : decode cX10_strike 19 = .ok (.ifCond .eq 6, 3) := by decide +kernel
theorem dX10_strike_22 : decode cX10_strike 22 = .ok (.ldc 102, 2) := by decide +kernel
theorem dX10_strike_24 : decode cX10_strike 24 = .ok (.ireturn, 1) := by decide +kernel
theorem dX10_strike_25 : decode cX10_strike 25 = .ok (.aload_n 0, 1) := by decide +kernel
theorem dX10_strike_26 : decode cX10_strike 26 = .ok (.getfield 7, 3) := by decide +kernel
theorem dX10_strike_29 : decode cX10_strike 29 = .ok (.iconst 3, 1) := by decide +kernel
theorem dX10_strike_30 : decode cX10_strike 30 = .ok (.iaload, 1) := by decide +kernel
theorem dX10_strike_31 : decode cX10_strike 31 = .ok (.sipush 160, 3) := by decide +kernel
theorem dX10_strike_34 : decode cX10_strike 34 = .ok (.if_icmp .ne 6, 3) := by decide +kernel
theorem dX10_strike_37 : decode cX10_strike 37 = .ok (.ldc 97, 2) := by decide +kernel
theorem dX10_strike_39 : decode cX10_strike 39 = .ok (.ireturn, 1) := by decide +kernel
theorem dX10_strike_40 : decode cX10_strike 40 = .ok (.aload_n 0, 1) := by decide +kernel
theorem dX10_strike_41 : decode cX10_strike 41 = .ok (.invokevirtual 77, 3) := by decide +kernel
theorem dX10_strike_44 : decode cX10_strike 44 = .ok (.aload_n 0, 1) := by decide +kernel
theorem dX10_strike_45 : decode cX10_strike 45 = .ok (.iload_n 1, 1) := by decide +kernel
theorem dX10_strike_46 : decode cX10_strike 46 = .ok (.invokevirtual 106, 3) := by decide +kernel
theorem dX10_strike_49 : decode cX10_strike 49 = .ok (.ireturn, 1) := by decide +kernel
theorem dX10_mute_0 : decode cX10_mute 0 = .ok (.aload_n 0, 1) := by decide +kernel
theorem dX10_mute_1 : decode cX10_mute 1 = .ok (.iload_n 1, 1) := by decide +kernel
theorem dX10_mute_2 : decode cX10_mute 2 = .ok (.invokevirtual 109, 3) := by decide +kernel
theorem dX10_mute_5 : decode cX10_mute 5 = .ok (.ifCond .ne 6, 3) := by decide +kernel
theorem dX10_mute_8 : decode cX10_mute 8 = .ok (.ldc 76, 2) := by decide +kernel
theorem dX10_mute_10 : decode cX10_mute 10 = .ok (.ireturn, 1) := by decide +kernel
theorem dX10_mute_11 : decode cX10_mute 11 = .ok (.aload_n 0, 1) := by decide +kernel
theorem dX10_mute_12 : decode cX10_mute 12 = .ok (.invokevirtual 77, 3) := by decide +kernel
theorem dX10_mute_15 : decode cX10_mute 15 = .ok (.aload_n 0, 1) := by decide +kernel
theorem dX10_mute_16 : decode cX10_mute 16 = .ok (.iload_n 1, 1) := by decide +kernel
theorem dX10_mute_17 : decode cX10_mute 17 = .ok (.invokevirtual 112, 3) := by decide +kernel
theorem dX10_mute_20 : decode cX10_mute 20 = .ok (.ireturn, 1) := by decide +kernel
theorem dX10_shift_0 : decode cX10_shift 0 = .ok (.aload_n 0, 1) := by decide +kernel
theorem dX10_shift_1 : decode cX10_shift 1 = .ok (.iload_n 1, 1) := by decide +kernel
theorem dX10_shift_2 : decode cX10_shift 2 = .ok (.invokevirtual 109, 3) := by decide +kernel
theorem dX10_shift_5 : decode cX10_shift 5 = .ok (.ifCond .eq 18, 3) := by decide +kernel
theorem dX10_shift_8 : decode cX10_shift 8 = .ok (.iload_n 2, 1) := by decide +kernel
theorem dX10_shift_9 : decode cX10_shift 9 = .ok (.bipush (-99), 2) := by decide +kernel
theorem dX10_shift_11 : decode cX10_shift 11 = .ok (.bipush 99, 2) := by decide +kernel
theorem dX10_shift_13 : decode cX10_shift 13 = .ok (.invokestatic 65, 3) := by decide +kernel
theorem dX10_shift_16 : decode cX10_shift 16 = .ok (.ifCond .eq 7, 3) := by decide +kernel
theorem dX10_shift_19 : decode cX10_shift 19 = .ok (.iload_n 2, 1) := by decide +kernel
theorem dX10_shift_20 : decode cX10_shift 20 = .ok (.ifCond .ne 6, 3) := by decide +kernel
theorem dX10_shift_23 : decode cX10_shift 23 = .ok (.ldc 76, 2) := by decide +kernel
theorem dX10_shift_25 : decode cX10_shift 25 = .ok (.ireturn, 1) := by decide +kernel
theorem dX10_shift_26 : decode cX10_shift 26 = .ok (.aload_n 0, 1) := by decide +kernel
theorem dX10_shift_27 : decode cX10_shift 27 = .ok (.getfield 7, 3) := by decide +kernel
theorem dX10_shift_30 : decode cX10_shift 30 = .ok (.bipush 29, 2) := by decide +kernel
theorem dX10_shift_32 : decode cX10_shift 32 = .ok (.iload_n 1, 1) := by decide +kernel
theorem dX10_shift_33 : decode cX10_shift 33 = .ok (.iadd, 1) := by decide +kernel
theorem dX10_shift_34 : decode cX10_shift 34 = .ok (.iaload, 1) := by decide +kernel
theorem dX10_shift_35 : decode cX10_shift 35 = .ok (.iload_n 2, 1) := by decide +kernel
theorem dX10_shift_36 : decode cX10_shift 36 = .ok (.iadd, 1) := by decide +kernel
theorem dX10_shift_37 : decode cX10_shift 37 = .ok (.istore_n 3, 1) := by decide +kernel
theorem dX10_shift_38 : decode cX10_shift 38 = .ok (.iload_n 3, 1) := by decide +kernel
theorem dX10_shift_39 : decode cX10_shift 39 = .ok (.iconst 0, 1) := by decide +kernel
theorem dX10_shift_40 : decode cX10_shift 40 = .ok (.sipush 9999, 3) := by decide +kernel
theorem dX10_shift_43 : decode cX10_shift 43 = .ok (.invokestatic 65, 3) := by decide +kernel
theorem dX10_shift_46 : decode cX10_shift 46 = .ok (.ifCond .eq 11, 3) := by decide +kernel
theorem dX10_shift_49 : decode cX10_shift 49 = .ok (.aload_n 0, 1) := by decide +kernel
theorem dX10_shift_50 : decode cX10_shift 50 = .ok (.iload_n 3, 1) := by decide +kernel
theorem dX10_shift_51 : decode cX10_shift 51 = .ok (.invokevirtual 103, 3) := by decide +kernel
theorem dX10_shift_54 : decode cX10_shift 54 = .ok (.ifCond .eq 6, 3) := by decide +kernel
theorem dX10_shift_57 : decode cX10_shift 57 = .ok (.ldc 102, 2) := by decide +kernel
theorem dX10_shift_59 : decode cX10_shift 59 = .ok (.ireturn, 1) := by decide +kernel
theorem dX10_shift_60 : decode cX10_shift 60 = .ok (.aload_n 0, 1) := by decide +kernel
theorem dX10_shift_61 : decode cX10_shift 61 = .ok (.invokevirtual 77, 3) := by decide +kernel
theorem dX10_shift_64 : decode cX10_shift 64 = .ok (.aload_n 0, 1) := by decide +kernel
theorem dX10_shift_65 : decode cX10_shift 65 = .ok (.iload_n 1, 1) := by decide +kernel
theorem dX10_shift_66 : decode cX10_shift 66 = .ok (.invokevirtual 112, 3) := by decide +kernel
theorem dX10_shift_69 : decode cX10_shift 69 = .ok (.pop, 1) := by decide +kernel
theorem dX10_shift_70 : decode cX10_shift 70 = .ok (.aload_n 0, 1) := by decide +kernel
theorem dX10_shift_71 : decode cX10_shift 71 = .ok (.iload_n 3, 1) := by decide +kernel
theorem dX10_shift_72 : decode cX10_shift 72 = .ok (.invokevirtual 106, 3) := by decide +kernel
theorem dX10_shift_75 : decode cX10_shift 75 = .ok (.ireturn, 1) := by decide +kernel
theorem dX10_caseOf_0 : decode cX10_caseOf 0 = .ok (.iconst 4, 1) := by decide +kernel
theorem dX10_caseOf_1 : decode cX10_caseOf 1 = .ok (.iload_n 1, 1) := by decide +kernel
theorem dX10_caseOf_2 : decode cX10_caseOf 2 = .ok (.imul, 1) := by decide +kernel
theorem dX10_caseOf_3 : decode cX10_caseOf 3 = .ok (.istore_n 2, 1) := by decide +kernel
theorem dX10_caseOf_4 : decode cX10_caseOf 4 = .ok (.aload_n 0, 1) := by decide +kernel
theorem dX10_caseOf_5 : decode cX10_caseOf 5 = .ok (.getfield 7, 3) := by decide +kernel
theorem dX10_caseOf_8 : decode cX10_caseOf 8 = .ok (.iconst 0, 1) := by decide +kernel
theorem dX10_caseOf_9 : decode cX10_caseOf 9 = .ok (.iaload, 1) := by decide +kernel
theorem dX10_caseOf_10 : decode cX10_caseOf 10 = .ok (.istore_n 3, 1) := by decide +kernel
theorem dX10_caseOf_11 : decode cX10_caseOf 11 = .ok (.iload_n 2, 1) := by decide +kernel
theorem dX10_caseOf_12 : decode cX10_caseOf 12 = .ok (.iconst 3, 1) := by decide +kernel
theorem dX10_caseOf_13 : decode cX10_caseOf 13 = .ok (.iload_n 3, 1) := by decide +kernel
theorem dX10_caseOf_14 : decode cX10_caseOf 14 = .ok (.imul, 1) := by decide +kernel
theorem dX10_caseOf_15 : decode cX10_caseOf 15 = .ok (.if_icmp .ge 7, 3) := by decide +kernel
theorem dX10_caseOf_18 : decode cX10_caseOf 18 = .ok (.iconst 0, 1) := by decide +kernel
theorem dX10_caseOf_19 : decode cX10_caseOf 19 = .ok (.goto 52, 3) := by decide +kernel
theorem dX10_caseOf_22 : decode cX10_caseOf 22 = .ok (.iload_n 2, 1) := by decide +kernel
theorem dX10_caseOf_23 : decode cX10_caseOf 23 = .ok (.bipush 6, 2) := by decide +kernel
theorem dX10_caseOf_25 : decode cX10_caseOf 25 = .ok (.iload_n 3, 1) := by decide +kernel
theorem dX10_caseOf_26 : decode cX10_caseOf 26 = .ok (.imul, 1) := by decide +kernel
theorem dX10_caseOf_27 : decode cX10_caseOf 27 = .ok (.if_icmp .ge 7, 3) := by decide +kernel
theorem dX10_caseOf_30 : decode cX10_caseOf 30 = .ok (.iconst 1, 1) := by decide +kernel
theorem dX10_caseOf_31 : decode cX10_caseOf 31 = .ok (.goto 40, 3) := by decide +kernel
theorem dX10_caseOf_34 : decode cX10_caseOf 34 = .ok (.iload_n 2, 1) := by decide +kernel
theorem dX10_caseOf_35 : decode cX10_caseOf 35 = .ok (.bipush 10, 2) := by decide +kernel
theorem dX10_caseOf_37 : decode cX10_caseOf 37 = .ok (.iload_n 3, 1) := by decide +kernel
theorem dX10_caseOf_38 : decode cX10_caseOf 38 = .ok (.imul, 1) := by decide +kernel
theorem dX10_caseOf_39 : decode cX10_caseOf 39 = .ok (.if_icmp .ge 7, 3) := by decide +kernel
theorem dX10_caseOf_42 : decode cX10_caseOf 42 = .ok (.iconst 2, 1) := by decide +kernel
theorem dX10_caseOf_43 : decode cX10_caseOf 43 = .ok (.goto 28, 3) := by decide +kernel
theorem dX10_caseOf_46 : decode cX10_caseOf 46 = .ok (.iload_n 2, 1) := by decide +kernel
theorem dX10_caseOf_47 : decode cX10_caseOf 47 = .ok (.bipush 18, 2) := by decide +kernel
theorem dX10_caseOf_49 : decode cX10_caseOf 49 = .ok (.iload_n 3, 1) := by decide +kernel
theorem dX10_caseOf_50 : decode cX10_caseOf 50 = .ok (.imul, 1) := by decide +kernel
theorem dX10_caseOf_51 : decode cX10_caseOf 51 = .ok (.if_icmp .ge 7, 3) := by decide +kernel
theorem dX10_caseOf_54 : decode cX10_caseOf 54 = .ok (.iconst 3, 1) := by decide +kernel
theorem dX10_caseOf_55 : decode cX10_caseOf 55 = .ok (.goto 16, 3) := by decide +kernel
theorem dX10_caseOf_58 : decode cX10_caseOf 58 = .ok (.iload_n 2, 1) := by decide +kernel
theorem dX10_caseOf_59 : decode cX10_caseOf 59 = .ok (.bipush 32, 2) := by decide +kernel
theorem dX10_caseOf_61 : decode cX10_caseOf 61 = .ok (.iload_n 3, 1) := by decide +kernel
theorem dX10_caseOf_62 : decode cX10_caseOf 62 = .ok (.imul, 1) := by decide +kernel
theorem dX10_caseOf_63 : decode cX10_caseOf 63 = .ok (.if_icmp .ge 7, 3) := by decide +kernel
theorem dX10_caseOf_66 : decode cX10_caseOf 66 = .ok (.iconst 4, 1) := by decide +kernel
theorem dX10_caseOf_67 : decode cX10_caseOf 67 = .ok (.goto 4, 3) := by decide +kernel
theorem dX10_caseOf_70 : decode cX10_caseOf 70 = .ok (.iconst 5, 1) := by decide +kernel
theorem dX10_caseOf_71 : decode cX10_caseOf 71 = .ok (.ireturn, 1) := by decide +kernel
theorem dX10_isDoubtful_0 : decode cX10_isDoubtful 0 = .ok (.aload_n 0, 1) := by decide +kernel
theorem dX10_isDoubtful_1 : decode cX10_isDoubtful 1 = .ok (.getfield 25, 3) := by decide +kernel
theorem dX10_isDoubtful_4 : decode cX10_isDoubtful 4 = .ok (.iload_n 1, 1) := by decide +kernel
theorem dX10_isDoubtful_5 : decode cX10_isDoubtful 5 = .ok (.iaload, 1) := by decide +kernel
theorem dX10_isDoubtful_6 : decode cX10_isDoubtful 6 = .ok (.istore_n 2, 1) := by decide +kernel
theorem dX10_isDoubtful_7 : decode cX10_isDoubtful 7 = .ok (.iload_n 1, 1) := by decide +kernel
theorem dX10_isDoubtful_8 : decode cX10_isDoubtful 8 = .ok (.ifCond .le 49, 3) := by decide +kernel
theorem dX10_isDoubtful_11 : decode cX10_isDoubtful 11 = .ok (.aload_n 0, 1) := by decide +kernel
theorem dX10_isDoubtful_12 : decode cX10_isDoubtful 12 = .ok (.aload_n 0, 1) := by decide +kernel
theorem dX10_isDoubtful_13 : decode cX10_isDoubtful 13 = .ok (.getfield 22, 3) := by decide +kernel
theorem dX10_isDoubtful_16 : decode cX10_isDoubtful 16 = .ok (.iload_n 1, 1) := by decide +kernel
theorem dX10_isDoubtful_17 : decode cX10_isDoubtful 17 = .ok (.iaload, 1) := by decide +kernel
theorem dX10_isDoubtful_18 : decode cX10_isDoubtful 18 = .ok (.aload_n 0, 1) := by decide +kernel
theorem dX10_isDoubtful_19 : decode cX10_isDoubtful 19 = .ok (.getfield 7, 3) := by decide +kernel
theorem dX10_isDoubtful_22 : decode cX10_isDoubtful 22 = .ok (.iconst 1, 1) := by decide +kernel
theorem dX10_isDoubtful_23 : decode cX10_isDoubtful 23 = .ok (.iaload, 1) := by decide +kernel
theorem dX10_isDoubtful_24 : decode cX10_isDoubtful 24 = .ok (.isub, 1) := by decide +kernel
theorem dX10_isDoubtful_25 : decode cX10_isDoubtful 25 = .ok (.invokevirtual 115, 3) := by decide +kernel
theorem dX10_isDoubtful_28 : decode cX10_isDoubtful 28 = .ok (.iload_n 2, 1) := by decide +kernel
theorem dX10_isDoubtful_29 : decode cX10_isDoubtful 29 = .ok (.if_icmp .ne 24, 3) := by decide +kernel
theorem dX10_isDoubtful_32 : decode cX10_isDoubtful 32 = .ok (.aload_n 0, 1) := by decide +kernel
theorem dX10_isDoubtful_33 : decode cX10_isDoubtful 33 = .ok (.aload_n 0, 1) := by decide +kernel
theorem dX10_isDoubtful_34 : decode cX10_isDoubtful 34 = .ok (.getfield 22, 3) := by decide +kernel
theorem dX10_isDoubtful_37 : decode cX10_isDoubtful 37 = .ok (.iload_n 1, 1) := by decide +kernel
theorem dX10_isDoubtful_38 : decode cX10_isDoubtful 38 = .ok (.iaload, 1) := by decide +kernel
theorem dX10_isDoubtful_39 : decode cX10_isDoubtful 39 = .ok (.aload_n 0, 1) := by decide +kernel
theorem dX10_isDoubtful_40 : decode cX10_isDoubtful 40 = .ok (.getfield 7, 3) := by decide +kernel
theorem dX10_isDoubtful_43 : decode cX10_isDoubtful 43 = .ok (.iconst 1, 1) := by decide +kernel
theorem dX10_isDoubtful_44 : decode cX10_isDoubtful 44 = .ok (.iaload, 1) := by decide +kernel
theorem dX10_isDoubtful_45 : decode cX10_isDoubtful 45 = .ok (.iadd, 1) := by decide +kernel
theorem dX10_isDoubtful_46 : decode cX10_isDoubtful 46 = .ok (.invokevirtual 115, 3) := by decide +kernel
theorem dX10_isDoubtful_49 : decode cX10_isDoubtful 49 = .ok (.iload_n 2, 1) := by decide +kernel
theorem dX10_isDoubtful_50 : decode cX10_isDoubtful 50 = .ok (.if_icmp .eq 7, 3) := by decide +kernel
theorem dX10_isDoubtful_53 : decode cX10_isDoubtful 53 = .ok (.iconst 1, 1) := by decide +kernel
theorem dX10_isDoubtful_54 : decode cX10_isDoubtful 54 = .ok (.goto 4, 3) := by decide +kernel
theorem dX10_isDoubtful_57 : decode cX10_isDoubtful 57 = .ok (.iconst 0, 1) := by decide +kernel
theorem dX10_isDoubtful_58 : decode cX10_isDoubtful 58 = .ok (.ireturn, 1) := by decide +kernel
theorem dX10_counts_0 : decode cX10_counts 0 = .ok (.aload_n 0, 1) := by decide +kernel
theorem dX10_counts_1 : decode cX10_counts 1 = .ok (.getfield 118, 3) := by decide +kernel
theorem dX10_counts_4 : decode cX10_counts 4 = .ok (.iconst 1, 1) := by decide +kernel
theorem dX10_counts_5 : decode cX10_counts 5 = .ok (.isub, 1) := by decide +kernel
theorem dX10_counts_6 : decode cX10_counts 6 = .ok (.istore_n 2, 1) := by decide +kernel
theorem dX10_counts_7 : decode cX10_counts 7 = .ok (.aload_n 0, 1) := by decide +kernel
theorem dX10_counts_8 : decode cX10_counts 8 = .ok (.getfield 40, 3) := by decide +kernel
theorem dX10_counts_11 : decode cX10_counts 11 = .ok (.iload_n 2, 1) := by decide +kernel
theorem dX10_counts_12 : decode cX10_counts 12 = .ok (.dup2, 1) := by decide +kernel
theorem dX10_counts_13 : decode cX10_counts 13 = .ok (.iaload, 1) := by decide +kernel
theorem dX10_counts_14 : decode cX10_counts 14 = .ok (.aload_n 0, 1) := by decide +kernel
theorem dX10_counts_15 : decode cX10_counts 15 = .ok (.getfield 37, 3) := by decide +kernel
theorem dX10_counts_18 : decode cX10_counts 18 = .ok (.iload_n 2, 1) := by decide +kernel
theorem dX10_counts_19 : decode cX10_counts 19 = .ok (.iaload, 1) := by decide +kernel
theorem dX10_counts_20 : decode cX10_counts 20 = .ok (.iconst 1, 1) := by decide +kernel
theorem dX10_counts_21 : decode cX10_counts 21 = .ok (.if_icmp .ne 7, 3) := by decide +kernel
theorem dX10_counts_24 : decode cX10_counts 24 = .ok (.iload_n 1, 1) := by decide +kernel
theorem dX10_counts_25 : decode cX10_counts 25 = .ok (.goto 4, 3) := by decide +kernel
theorem dX10_counts_28 : decode cX10_counts 28 = .ok (.iconst 0, 1) := by decide +kernel
theorem dX10_counts_29 : decode cX10_counts 29 = .ok (.iadd, 1) := by decide +kernel
theorem dX10_counts_30 : decode cX10_counts 30 = .ok (.iastore, 1) := by decide +kernel
theorem dX10_counts_31 : decode cX10_counts 31 = .ok (.aload_n 0, 1) := by decide +kernel
theorem dX10_counts_32 : decode cX10_counts 32 = .ok (.getfield 43, 3) := by decide +kernel
theorem dX10_counts_35 : decode cX10_counts 35 = .ok (.iload_n 2, 1) := by decide +kernel
theorem dX10_counts_36 : decode cX10_counts 36 = .ok (.dup2, 1) := by decide +kernel
theorem dX10_counts_37 : decode cX10_counts 37 = .ok (.iaload, 1) := by decide +kernel
theorem dX10_counts_38 : decode cX10_counts 38 = .ok (.aload_n 0, 1) := by decide +kernel
theorem dX10_counts_39 : decode cX10_counts 39 = .ok (.getfield 37, 3) := by decide +kernel
theorem dX10_counts_42 : decode cX10_counts 42 = .ok (.iload_n 2, 1) := by decide +kernel
theorem dX10_counts_43 : decode cX10_counts 43 = .ok (.iaload, 1) := by decide +kernel
theorem dX10_counts_44 : decode cX10_counts 44 = .ok (.iconst 2, 1) := by decide +kernel
theorem dX10_counts_45 : decode cX10_counts 45 = .ok (.if_icmp .ne 7, 3) := by decide +kernel
theorem dX10_counts_48 : decode cX10_counts 48 = .ok (.iload_n 1, 1) := by decide +kernel
theorem dX10_counts_49 : decode cX10_counts 49 = .ok (.goto 4, 3) := by decide +kernel
theorem dX10_counts_52 : decode cX10_counts 52 = .ok (.iconst 0, 1) := by decide +kernel
theorem dX10_counts_53 : decode cX10_counts 53 = .ok (.iadd, 1) := by decide +kernel
theorem dX10_counts_54 : decode cX10_counts 54 = .ok (.iastore, 1) := by decide +kernel
theorem dX10_counts_55 : decode cX10_counts 55 = .ok (.return_, 1) := by decide +kernel
theorem dX10_goesOn_0 : decode cX10_goesOn 0 = .ok (.iload_n 2, 1) := by decide +kernel
theorem dX10_goesOn_1 : decode cX10_goesOn 1 = .ok (.iconst 5, 1) := by decide +kernel
theorem dX10_goesOn_2 : decode cX10_goesOn 2 = .ok (.if_icmp .ne 56, 3) := by decide +kernel
theorem dX10_goesOn_5 : decode cX10_goesOn 5 = .ok (.aload_n 0, 1) := by decide +kernel
theorem dX10_goesOn_6 : decode cX10_goesOn 6 = .ok (.getfield 46, 3) := by decide +kernel
theorem dX10_goesOn_9 : decode cX10_goesOn 9 = .ok (.aload_n 0, 1) := by decide +kernel
theorem dX10_goesOn_10 : decode cX10_goesOn 10 = .ok (.getfield 121, 3) := by decide +kernel
theorem dX10_goesOn_13 : decode cX10_goesOn 13 = .ok (.aload_n 0, 1) := by decide +kernel
theorem dX10_goesOn_14 : decode cX10_goesOn 14 = .ok (.getfield 118, 3) := by decide +kernel
theorem dX10_goesOn_17 : decode cX10_goesOn 17 = .ok (.iastore, 1) := by decide +kernel
theorem dX10_goesOn_18 : decode cX10_goesOn 18 = .ok (.aload_n 0, 1) := by decide +kernel
theorem dX10_goesOn_19 : decode cX10_goesOn 19 = .ok (.getfield 49, 3) := by decide +kernel
theorem dX10_goesOn_22 : decode cX10_goesOn 22 = .ok (.aload_n 0, 1) := by decide +kernel
theorem dX10_goesOn_23 : decode cX10_goesOn 23 = .ok (.getfield 121, 3) := by decide +kernel
theorem dX10_goesOn_26 : decode cX10_goesOn 26 = .ok (.iload_n 1, 1) := by decide +kernel
theorem dX10_goesOn_27 : decode cX10_goesOn 27 = .ok (.iastore, 1) := by decide +kernel
theorem dX10_goesOn_28 : decode cX10_goesOn 28 = .ok (.aload_n 0, 1) := by decide +kernel
theorem dX10_goesOn_29 : decode cX10_goesOn 29 = .ok (.getfield 52, 3) := by decide +kernel
theorem dX10_goesOn_32 : decode cX10_goesOn 32 = .ok (.aload_n 0, 1) := by decide +kernel
theorem dX10_goesOn_33 : decode cX10_goesOn 33 = .ok (.getfield 121, 3) := by decide +kernel
theorem dX10_goesOn_36 : decode cX10_goesOn 36 = .ok (.iconst 0, 1) := by decide +kernel
theorem dX10_goesOn_37 : decode cX10_goesOn 37 = .ok (.iastore, 1) := by decide +kernel
theorem dX10_goesOn_38 : decode cX10_goesOn 38 = .ok (.aload_n 0, 1) := by decide +kernel
theorem dX10_goesOn_39 : decode cX10_goesOn 39 = .ok (.getfield 55, 3) := by decide +kernel
theorem dX10_goesOn_42 : decode cX10_goesOn 42 = .ok (.aload_n 0, 1) := by decide +kernel
theorem dX10_goesOn_43 : decode cX10_goesOn 43 = .ok (.getfield 121, 3) := by decide +kernel
theorem dX10_goesOn_46 : decode cX10_goesOn 46 = .ok (.iconst 0, 1) := by decide +kernel
theorem dX10_goesOn_47 : decode cX10_goesOn 47 = .ok (.iastore, 1) := by decide +kernel
theorem dX10_goesOn_48 : decode cX10_goesOn 48 = .ok (.aload_n 0, 1) := by decide +kernel
theorem dX10_goesOn_49 : decode cX10_goesOn 49 = .ok (.dup, 1) := by decide +kernel
theorem dX10_goesOn_50 : decode cX10_goesOn 50 = .ok (.getfield 121, 3) := by decide +kernel
theorem dX10_goesOn_53 : decode cX10_goesOn 53 = .ok (.iconst 1, 1) := by decide +kernel
theorem dX10_goesOn_54 : decode cX10_goesOn 54 = .ok (.iadd, 1) := by decide +kernel
theorem dX10_goesOn_55 : decode cX10_goesOn 55 = .ok (.putfield 121, 3) := by decide +kernel
theorem dX10_goesOn_58 : decode cX10_goesOn 58 = .ok (.iload_n 2, 1) := by decide +kernel
theorem dX10_goesOn_59 : decode cX10_goesOn 59 = .ok (.iconst 3, 1) := by decide +kernel
theorem dX10_goesOn_60 : decode cX10_goesOn 60 = .ok (.if_icmp .le 43, 3) := by decide +kernel
theorem dX10_goesOn_63 : decode cX10_goesOn 63 = .ok (.aload_n 0, 1) := by decide +kernel
theorem dX10_goesOn_64 : decode cX10_goesOn 64 = .ok (.getfield 37, 3) := by decide +kernel
theorem dX10_goesOn_67 : decode cX10_goesOn 67 = .ok (.aload_n 0, 1) := by decide +kernel
theorem dX10_goesOn_68 : decode cX10_goesOn 68 = .ok (.getfield 118, 3) := by decide +kernel
theorem dX10_goesOn_71 : decode cX10_goesOn 71 = .ok (.iconst 0, 1) := by decide +kernel
theorem dX10_goesOn_72 : decode cX10_goesOn 72 = .ok (.iastore, 1) := by decide +kernel
theorem dX10_goesOn_73 : decode cX10_goesOn 73 = .ok (.aload_n 0, 1) := by decide +kernel
theorem dX10_goesOn_74 : decode cX10_goesOn 74 = .ok (.getfield 40, 3) := by decide +kernel
theorem dX10_goesOn_77 : decode cX10_goesOn 77 = .ok (.aload_n 0, 1) := by decide +kernel
theorem dX10_goesOn_78 : decode cX10_goesOn 78 = .ok (.getfield 118, 3) := by decide +kernel
theorem dX10_goesOn_81 : decode cX10_goesOn 81 = .ok (.iconst 0, 1) := by decide +kernel
theorem dX10_goesOn_82 : decode cX10_goesOn 82 = .ok (.iastore, 1) := by decide +kernel
theorem dX10_goesOn_83 : decode cX10_goesOn 83 = .ok (.aload_n 0, 1) := by decide +kernel
theorem dX10_goesOn_84 : decode cX10_goesOn 84 = .ok (.getfield 43, 3) := by decide +kernel
theorem dX10_goesOn_87 : decode cX10_goesOn 87 = .ok (.aload_n 0, 1) := by decide +kernel
theorem dX10_goesOn_88 : decode cX10_goesOn 88 = .ok (.getfield 118, 3) := by decide +kernel
theorem dX10_goesOn_91 : decode cX10_goesOn 91 = .ok (.iconst 0, 1) := by decide +kernel
theorem dX10_goesOn_92 : decode cX10_goesOn 92 = .ok (.iastore, 1) := by decide +kernel
theorem dX10_goesOn_93 : decode cX10_goesOn 93 = .ok (.aload_n 0, 1) := by decide +kernel
theorem dX10_goesOn_94 : decode cX10_goesOn 94 = .ok (.dup, 1) := by decide +kernel
theorem dX10_goesOn_95 : decode cX10_goesOn 95 = .ok (.getfield 118, 3) := by decide +kernel
theorem dX10_goesOn_98 : decode cX10_goesOn 98 = .ok (.iconst 1, 1) := by decide +kernel
theorem dX10_goesOn_99 : decode cX10_goesOn 99 = .ok (.iadd, 1) := by decide +kernel
theorem dX10_goesOn_100 : decode cX10_goesOn 100 = .ok (.putfield 118, 3) := by decide +kernel
theorem dX10_goesOn_103 : decode cX10_goesOn 103 = .ok (.iload_n 2, 1) := by decide +kernel
theorem dX10_goesOn_104 : decode cX10_goesOn 104 = .ok (.iconst 2, 1) := by decide +kernel
theorem dX10_goesOn_105 : decode cX10_goesOn 105 = .ok (.if_icmp .le 18, 3) := by decide +kernel
theorem dX10_goesOn_108 : decode cX10_goesOn 108 = .ok (.aload_n 0, 1) := by decide +kernel
theorem dX10_goesOn_109 : decode cX10_goesOn 109 = .ok (.getfield 37, 3) := by decide +kernel
theorem dX10_goesOn_112 : decode cX10_goesOn 112 = .ok (.aload_n 0, 1) := by decide +kernel
theorem dX10_goesOn_113 : decode cX10_goesOn 113 = .ok (.getfield 118, 3) := by decide +kernel
theorem dX10_goesOn_116 : decode cX10_goesOn 116 = .ok (.iconst 1, 1) := by decide +kernel
theorem dX10_goesOn_117 : decode cX10_goesOn 117 = .ok (.isub, 1) := by decide +kernel
theorem dX10_goesOn_118 : decode cX10_goesOn 118 = .ok (.dup2, 1) := by decide +kernel
theorem dX10_goesOn_119 : decode cX10_goesOn 119 = .ok (.iaload, 1) := by decide +kernel
theorem dX10_goesOn_120 : decode cX10_goesOn 120 = .ok (.iconst 1, 1) := by decide +kernel
theorem dX10_goesOn_121 : decode cX10_goesOn 121 = .ok (.iadd, 1) := by decide +kernel
theorem dX10_goesOn_122 : decode cX10_goesOn 122 = .ok (.iastore, 1) := by decide +kernel
theorem dX10_goesOn_123 : decode cX10_goesOn 123 = .ok (.aload_n 0, 1) := by decide +kernel
theorem dX10_goesOn_124 : decode cX10_goesOn 124 = .ok (.iload_n 2, 1) := by decide +kernel
theorem dX10_goesOn_125 : decode cX10_goesOn 125 = .ok (.iconst 2, 1) := by decide +kernel
theorem dX10_goesOn_126 : decode cX10_goesOn 126 = .ok (.if_icmp .ne 7, 3) := by decide +kernel
theorem dX10_goesOn_129 : decode cX10_goesOn 129 = .ok (.iconst 2, 1) := by decide +kernel
theorem dX10_goesOn_130 : decode cX10_goesOn 130 = .ok (.goto 4, 3) := by decide +kernel
theorem dX10_goesOn_133 : decode cX10_goesOn 133 = .ok (.iconst 1, 1) := by decide +kernel
theorem dX10_goesOn_134 : decode cX10_goesOn 134 = .ok (.invokevirtual 124, 3) := by decide +kernel
theorem dX10_goesOn_137 : decode cX10_goesOn 137 = .ok (.aload_n 0, 1) := by decide +kernel
theorem dX10_goesOn_138 : decode cX10_goesOn 138 = .ok (.getfield 52, 3) := by decide +kernel
theorem dX10_goesOn_141 : decode cX10_goesOn 141 = .ok (.aload_n 0, 1) := by decide +kernel
theorem dX10_goesOn_142 : decode cX10_goesOn 142 = .ok (.getfield 121, 3) := by decide +kernel
theorem dX10_goesOn_145 : decode cX10_goesOn 145 = .ok (.iconst 1, 1) := by decide +kernel
theorem dX10_goesOn_146 : decode cX10_goesOn 146 = .ok (.isub, 1) := by decide +kernel
theorem dX10_goesOn_147 : decode cX10_goesOn 147 = .ok (.dup2, 1) := by decide +kernel
theorem dX10_goesOn_148 : decode cX10_goesOn 148 = .ok (.iaload, 1) := by decide +kernel
theorem dX10_goesOn_149 : decode cX10_goesOn 149 = .ok (.iload_n 2, 1) := by decide +kernel
theorem dX10_goesOn_150 : decode cX10_goesOn 150 = .ok (.iconst 2, 1) := by decide +kernel
theorem dX10_goesOn_151 : decode cX10_goesOn 151 = .ok (.if_icmp .ne 7, 3) := by decide +kernel
theorem dX10_goesOn_154 : decode cX10_goesOn 154 = .ok (.iconst 1, 1) := by decide +kernel
theorem dX10_goesOn_155 : decode cX10_goesOn 155 = .ok (.goto 4, 3) := by decide +kernel
theorem dX10_goesOn_158 : decode cX10_goesOn 158 = .ok (.iconst 0, 1) := by decide +kernel
theorem dX10_goesOn_159 : decode cX10_goesOn 159 = .ok (.iadd, 1) := by decide +kernel
theorem dX10_goesOn_160 : decode cX10_goesOn 160 = .ok (.iastore, 1) := by decide +kernel
theorem dX10_goesOn_161 : decode cX10_goesOn 161 = .ok (.aload_n 0, 1) := by decide +kernel
theorem dX10_goesOn_162 : decode cX10_goesOn 162 = .ok (.getfield 28, 3) := by decide +kernel
theorem dX10_goesOn_165 : decode cX10_goesOn 165 = .ok (.iload_n 1, 1) := by decide +kernel
theorem dX10_goesOn_166 : decode cX10_goesOn 166 = .ok (.aload_n 0, 1) := by decide +kernel
theorem dX10_goesOn_167 : decode cX10_goesOn 167 = .ok (.getfield 121, 3) := by decide +kernel
theorem dX10_goesOn_170 : decode cX10_goesOn 170 = .ok (.iconst 1, 1) := by decide +kernel
theorem dX10_goesOn_171 : decode cX10_goesOn 171 = .ok (.isub, 1) := by decide +kernel
theorem dX10_goesOn_172 : decode cX10_goesOn 172 = .ok (.iastore, 1) := by decide +kernel
theorem dX10_goesOn_173 : decode cX10_goesOn 173 = .ok (.aload_n 0, 1) := by decide +kernel
theorem dX10_goesOn_174 : decode cX10_goesOn 174 = .ok (.getfield 31, 3) := by decide +kernel
theorem dX10_goesOn_177 : decode cX10_goesOn 177 = .ok (.iload_n 1, 1) := by decide +kernel
theorem dX10_goesOn_178 : decode cX10_goesOn 178 = .ok (.aload_n 0, 1) := by decide +kernel
theorem dX10_goesOn_179 : decode cX10_goesOn 179 = .ok (.getfield 118, 3) := by decide +kernel
theorem dX10_goesOn_182 : decode cX10_goesOn 182 = .ok (.iconst 1, 1) := by decide +kernel
theorem dX10_goesOn_183 : decode cX10_goesOn 183 = .ok (.isub, 1) := by decide +kernel
theorem dX10_goesOn_184 : decode cX10_goesOn 184 = .ok (.aload_n 0, 1) := by decide +kernel
theorem dX10_goesOn_185 : decode cX10_goesOn 185 = .ok (.getfield 46, 3) := by decide +kernel
theorem dX10_goesOn_188 : decode cX10_goesOn 188 = .ok (.aload_n 0, 1) := by decide +kernel
theorem dX10_goesOn_189 : decode cX10_goesOn 189 = .ok (.getfield 121, 3) := by decide +kernel
theorem dX10_goesOn_192 : decode cX10_goesOn 192 = .ok (.iconst 1, 1) := by decide +kernel
theorem dX10_goesOn_193 : decode cX10_goesOn 193 = .ok (.isub, 1) := by decide +kernel
theorem dX10_goesOn_194 : decode cX10_goesOn 194 = .ok (.iaload, 1) := by decide +kernel
theorem dX10_goesOn_195 : decode cX10_goesOn 195 = .ok (.isub, 1) := by decide +kernel
theorem dX10_goesOn_196 : decode cX10_goesOn 196 = .ok (.iastore, 1) := by decide +kernel
theorem dX10_goesOn_197 : decode cX10_goesOn 197 = .ok (.aload_n 0, 1) := by decide +kernel
theorem dX10_goesOn_198 : decode cX10_goesOn 198 = .ok (.getfield 34, 3) := by decide +kernel
theorem dX10_goesOn_201 : decode cX10_goesOn 201 = .ok (.iload_n 1, 1) := by decide +kernel
theorem dX10_goesOn_202 : decode cX10_goesOn 202 = .ok (.aload_n 0, 1) := by decide +kernel
theorem dX10_goesOn_203 : decode cX10_goesOn 203 = .ok (.getfield 37, 3) := by decide +kernel
theorem dX10_goesOn_206 : decode cX10_goesOn 206 = .ok (.aload_n 0, 1) := by decide +kernel
theorem dX10_goesOn_207 : decode cX10_goesOn 207 = .ok (.getfield 118, 3) := by decide +kernel
theorem dX10_goesOn_210 : decode cX10_goesOn 210 = .ok (.iconst 1, 1) := by decide +kernel
theorem dX10_goesOn_211 : decode cX10_goesOn 211 = .ok (.isub, 1) := by decide +kernel
theorem dX10_goesOn_212 : decode cX10_goesOn 212 = .ok (.iaload, 1) := by decide +kernel
theorem dX10_goesOn_213 : decode cX10_goesOn 213 = .ok (.iconst 1, 1) := by decide +kernel
theorem dX10_goesOn_214 : decode cX10_goesOn 214 = .ok (.isub, 1) := by decide +kernel
theorem dX10_goesOn_215 : decode cX10_goesOn 215 = .ok (.iastore, 1) := by decide +kernel
theorem dX10_goesOn_216 : decode cX10_goesOn 216 = .ok (.return_, 1) := by decide +kernel
theorem dX10_lays_0 : decode cX10_lays 0 = .ok (.aload_n 0, 1) := by decide +kernel
theorem dX10_lays_1 : decode cX10_lays 1 = .ok (.iconst 0, 1) := by decide +kernel
theorem dX10_lays_2 : decode cX10_lays 2 = .ok (.putfield 121, 3) := by decide +kernel
theorem dX10_lays_5 : decode cX10_lays 5 = .ok (.aload_n 0, 1) := by decide +kernel
theorem dX10_lays_6 : decode cX10_lays 6 = .ok (.iconst 0, 1) := by decide +kernel
theorem dX10_lays_7 : decode cX10_lays 7 = .ok (.putfield 118, 3) := by decide +kernel
theorem dX10_lays_10 : decode cX10_lays 10 = .ok (.iconst 0, 1) := by decide +kernel
theorem dX10_lays_11 : decode cX10_lays 11 = .ok (.istore_n 1, 1) := by decide +kernel
theorem dX10_lays_12 : decode cX10_lays 12 = .ok (.iconst 0, 1) := by decide +kernel
theorem dX10_lays_13 : decode cX10_lays 13 = .ok (.istore_n 2, 1) := by decide +kernel
theorem dX10_lays_14 : decode cX10_lays 14 = .ok (.iload_n 2, 1) := by decide +kernel
theorem dX10_lays_15 : decode cX10_lays 15 = .ok (.aload_n 0, 1) := by decide +kernel
theorem dX10_lays_16 : decode cX10_lays 16 = .ok (.getfield 7, 3) := by decide +kernel
theorem dX10_lays_19 : decode cX10_lays 19 = .ok (.iconst 3, 1) := by decide +kernel
theorem dX10_lays_20 : decode cX10_lays 20 = .ok (.iaload, 1) := by decide +kernel
theorem dX10_lays_21 : decode cX10_lays 21 = .ok (.if_icmp .ge 115, 3) := by decide +kernel
theorem dX10_lays_24 : decode cX10_lays 24 = .ok (.aload_n 0, 1) := by decide +kernel
theorem dX10_lays_25 : decode cX10_lays 25 = .ok (.getfield 22, 3) := by decide +kernel
theorem dX10_lays_28 : decode cX10_lays 28 = .ok (.iload_n 2, 1) := by decide +kernel
theorem dX10_lays_29 : decode cX10_lays 29 = .ok (.iload_n 2, 1) := by decide +kernel
theorem dX10_lays_30 : decode cX10_lays 30 = .ok (.ifCond .ne 7, 3) := by decide +kernel
theorem dX10_lays_33 : decode cX10_lays 33 = .ok (.iconst 0, 1) := by decide +kernel
theorem dX10_lays_34 : decode cX10_lays 34 = .ok (.goto 14, 3) := by decide +kernel
theorem dX10_lays_37 : decode cX10_lays 37 = .ok (.aload_n 0, 1) := by decide +kernel
theorem dX10_lays_38 : decode cX10_lays 38 = .ok (.getfield 7, 3) := by decide +kernel
theorem dX10_lays_41 : decode cX10_lays 41 = .ok (.bipush 29, 2) := by decide +kernel
theorem dX10_lays_43 : decode cX10_lays 43 = .ok (.iload_n 2, 1) := by decide +kernel
theorem dX10_lays_44 : decode cX10_lays 44 = .ok (.iadd, 1) := by decide +kernel
theorem dX10_lays_45 : decode cX10_lays 45 = .ok (.iaload, 1) := by decide +kernel
theorem dX10_lays_46 : decode cX10_lays 46 = .ok (.iload_n 1, 1) := by decide +kernel
theorem dX10_lays_47 : decode cX10_lays 47 = .ok (.isub, 1) := by decide +kernel
theorem dX10_lays_48 : decode cX10_lays 48 = .ok (.iastore, 1) := by decide +kernel
theorem dX10_lays_49 : decode cX10_lays 49 = .ok (.aload_n 0, 1) := by decide +kernel
theorem dX10_lays_50 : decode cX10_lays 50 = .ok (.getfield 25, 3) := by decide +kernel
theorem dX10_lays_53 : decode cX10_lays 53 = .ok (.iload_n 2, 1) := by decide +kernel
theorem dX10_lays_54 : decode cX10_lays 54 = .ok (.iload_n 2, 1) := by decide +kernel
theorem dX10_lays_55 : decode cX10_lays 55 = .ok (.ifCond .ne 7, 3) := by decide +kernel
theorem dX10_lays_58 : decode cX10_lays 58 = .ok (.iconst 5, 1) := by decide +kernel
theorem dX10_lays_59 : decode cX10_lays 59 = .ok (.goto 13, 3) := by decide +kernel
theorem dX10_lays_62 : decode cX10_lays 62 = .ok (.aload_n 0, 1) := by decide +kernel
theorem dX10_lays_63 : decode cX10_lays 63 = .ok (.aload_n 0, 1) := by decide +kernel
theorem dX10_lays_64 : decode cX10_lays 64 = .ok (.getfield 22, 3) := by decide +kernel
theorem dX10_lays_67 : decode cX10_lays 67 = .ok (.iload_n 2, 1) := by decide +kernel
theorem dX10_lays_68 : decode cX10_lays 68 = .ok (.iaload, 1) := by decide +kernel
theorem dX10_lays_69 : decode cX10_lays 69 = .ok (.invokevirtual 115, 3) := by decide +kernel
theorem dX10_lays_72 : decode cX10_lays 72 = .ok (.iastore, 1) := by decide +kernel
theorem dX10_lays_73 : decode cX10_lays 73 = .ok (.aload_n 0, 1) := by decide +kernel
theorem dX10_lays_74 : decode cX10_lays 74 = .ok (.getfield 25, 3) := by decide +kernel
theorem dX10_lays_77 : decode cX10_lays 77 = .ok (.iload_n 2, 1) := by decide +kernel
theorem dX10_lays_78 : decode cX10_lays 78 = .ok (.iaload, 1) := by decide +kernel
theorem dX10_lays_79 : decode cX10_lays 79 = .ok (.ifCond .le 24, 3) := by decide +kernel
theorem dX10_lays_82 : decode cX10_lays 82 = .ok (.aload_n 0, 1) := by decide +kernel
theorem dX10_lays_83 : decode cX10_lays 83 = .ok (.iload_n 2, 1) := by decide +kernel
theorem dX10_lays_84 : decode cX10_lays 84 = .ok (.aload_n 0, 1) := by decide +kernel
theorem dX10_lays_85 : decode cX10_lays 85 = .ok (.getfield 25, 3) := by decide +kernel
theorem dX10_lays_88 : decode cX10_lays 88 = .ok (.iload_n 2, 1) := by decide +kernel
theorem dX10_lays_89 : decode cX10_lays 89 = .ok (.iaload, 1) := by decide +kernel
theorem dX10_lays_90 : decode cX10_lays 90 = .ok (.invokevirtual 127, 3) := by decide +kernel
theorem dX10_lays_93 : decode cX10_lays 93 = .ok (.aload_n 0, 1) := by decide +kernel
theorem dX10_lays_94 : decode cX10_lays 94 = .ok (.getfield 7, 3) := by decide +kernel
theorem dX10_lays_97 : decode cX10_lays 97 = .ok (.bipush 29, 2) := by decide +kernel
theorem dX10_lays_99 : decode cX10_lays 99 = .ok (.iload_n 2, 1) := by decide +kernel
theorem dX10_lays_100 : decode cX10_lays 100 = .ok (.iadd, 1) := by decide +kernel
theorem dX10_lays_101 : decode cX10_lays 101 = .ok (.iaload, 1) := by decide +kernel
theorem dX10_lays_102 : decode cX10_lays 102 = .ok (.istore_n 1, 1) := by decide +kernel
theorem dX10_lays_103 : decode cX10_lays 103 = .ok (.aload_n 0, 1) := by decide +kernel
theorem dX10_lays_104 : decode cX10_lays 104 = .ok (.getfield 55, 3) := by decide +kernel
theorem dX10_lays_107 : decode cX10_lays 107 = .ok (.aload_n 0, 1) := by decide +kernel
theorem dX10_lays_108 : decode cX10_lays 108 = .ok (.getfield 121, 3) := by decide +kernel
theorem dX10_lays_111 : decode cX10_lays 111 = .ok (.iconst 1, 1) := by decide +kernel
theorem dX10_lays_112 : decode cX10_lays 112 = .ok (.isub, 1) := by decide +kernel
theorem dX10_lays_113 : decode cX10_lays 113 = .ok (.dup2, 1) := by decide +kernel
theorem dX10_lays_114 : decode cX10_lays 114 = .ok (.iaload, 1) := by decide +kernel
theorem dX10_lays_115 : decode cX10_lays 115 = .ok (.aload_n 0, 1) := by decide +kernel
theorem dX10_lays_116 : decode cX10_lays 116 = .ok (.iload_n 2, 1) := by decide +kernel
theorem dX10_lays_117 : decode cX10_lays 117 = .ok (.invokevirtual 131, 3) := by decide +kernel
theorem dX10_lays_120 : decode cX10_lays 120 = .ok (.ifCond .eq 7, 3) := by decide +kernel
theorem dX10_lays_123 : decode cX10_lays 123 = .ok (.iconst 1, 1) := by decide +kernel
theorem dX10_lays_124 : decode cX10_lays 124 = .ok (.goto 4, 3) := by decide +kernel
theorem dX10_lays_127 : decode cX10_lays 127 = .ok (.iconst 0, 1) := by decide +kernel
theorem dX10_lays_128 : decode cX10_lays 128 = .ok (.iadd, 1) := by decide +kernel
theorem dX10_lays_129 : decode cX10_lays 129 = .ok (.iastore, 1) := by decide +kernel
theorem dX10_lays_130 : decode cX10_lays 130 = .ok (.iinc 2 1, 3) := by decide +kernel
theorem dX10_lays_133 : decode cX10_lays 133 = .ok (.goto (-119), 3) := by decide +kernel
theorem dX10_lays_136 : decode cX10_lays 136 = .ok (.aload_n 0, 1) := by decide +kernel
theorem dX10_lays_137 : decode cX10_lays 137 = .ok (.getfield 46, 3) := by decide +kernel
theorem dX10_lays_140 : decode cX10_lays 140 = .ok (.aload_n 0, 1) := by decide +kernel
theorem dX10_lays_141 : decode cX10_lays 141 = .ok (.getfield 121, 3) := by decide +kernel
theorem dX10_lays_144 : decode cX10_lays 144 = .ok (.aload_n 0, 1) := by decide +kernel
theorem dX10_lays_145 : decode cX10_lays 145 = .ok (.getfield 118, 3) := by decide +kernel
theorem dX10_lays_148 : decode cX10_lays 148 = .ok (.iastore, 1) := by decide +kernel
theorem dX10_lays_149 : decode cX10_lays 149 = .ok (.return_, 1) := by decide +kernel
theorem dX10_areGood_0 : decode cX10_areGood 0 = .ok (.iload_n 0, 1) := by decide +kernel
theorem dX10_areGood_1 : decode cX10_areGood 1 = .ok (.iconst 1, 1) := by decide +kernel
theorem dX10_areGood_2 : decode cX10_areGood 2 = .ok (.iconst 5, 1) := by decide +kernel
theorem dX10_areGood_3 : decode cX10_areGood 3 = .ok (.invokestatic 65, 3) := by decide +kernel
theorem dX10_areGood_6 : decode cX10_areGood 6 = .ok (.ifCond .eq 16, 3) := by decide +kernel
theorem dX10_areGood_9 : decode cX10_areGood 9 = .ok (.iload_n 1, 1) := by decide +kernel
theorem dX10_areGood_10 : decode cX10_areGood 10 = .ok (.iconst 1, 1) := by decide +kernel
theorem dX10_areGood_11 : decode cX10_areGood 11 = .ok (.iconst 5, 1) := by decide +kernel
theorem dX10_areGood_12 : decode cX10_areGood 12 = .ok (.invokestatic 65, 3) := by decide +kernel
theorem dX10_areGood_15 : decode cX10_areGood 15 = .ok (.ifCond .eq 7, 3) := by decide +kernel
theorem dX10_areGood_18 : decode cX10_areGood 18 = .ok (.iconst 1, 1) := by decide +kernel
theorem dX10_areGood_19 : decode cX10_areGood 19 = .ok (.goto 4, 3) := by decide +kernel
theorem dX10_areGood_22 : decode cX10_areGood 22 = .ok (.iconst 0, 1) := by decide +kernel
theorem dX10_areGood_23 : decode cX10_areGood 23 = .ok (.ireturn, 1) := by decide +kernel
theorem dX10_isReadable_0 : decode cX10_isReadable 0 = .ok (.aload_n 0, 1) := by decide +kernel
theorem dX10_isReadable_1 : decode cX10_isReadable 1 = .ok (.getfield 37, 3) := by decide +kernel
theorem dX10_isReadable_4 : decode cX10_isReadable 4 = .ok (.iload_n 1, 1) := by decide +kernel
theorem dX10_isReadable_5 : decode cX10_isReadable 5 = .ok (.iaload, 1) := by decide +kernel
theorem dX10_isReadable_6 : decode cX10_isReadable 6 = .ok (.iconst 2, 1) := by decide +kernel
theorem dX10_isReadable_7 : decode cX10_isReadable 7 = .ok (.if_icmp .ne 25, 3) := by decide +kernel
theorem dX10_isReadable_10 : decode cX10_isReadable 10 = .ok (.aload_n 0, 1) := by decide +kernel
theorem dX10_isReadable_11 : decode cX10_isReadable 11 = .ok (.getfield 40, 3) := by decide +kernel
theorem dX10_isReadable_14 : decode cX10_isReadable 14 = .ok (.iload_n 1, 1) := by decide +kernel
theorem dX10_isReadable_15 : decode cX10_isReadable 15 = .ok (.iaload, 1) := by decide +kernel
theorem dX10_isReadable_16 : decode cX10_isReadable 16 = .ok (.aload_n 0, 1) := by decide +kernel
theorem dX10_isReadable_17 : decode cX10_isReadable 17 = .ok (.getfield 43, 3) := by decide +kernel
theorem dX10_isReadable_20 : decode cX10_isReadable 20 = .ok (.iload_n 1, 1) := by decide +kernel
theorem dX10_isReadable_21 : decode cX10_isReadable 21 = .ok (.iaload, 1) := by decide +kernel
theorem dX10_isReadable_22 : decode cX10_isReadable 22 = .ok (.invokestatic 134, 3) := by decide +kernel
theorem dX10_isReadable_25 : decode cX10_isReadable 25 = .ok (.ifCond .eq 7, 3) := by decide +kernel
theorem dX10_isReadable_28 : decode cX10_isReadable 28 = .ok (.iconst 1, 1) := by decide +kernel
theorem dX10_isReadable_29 : decode cX10_isReadable 29 = .ok (.goto 4, 3) := by decide +kernel
theorem dX10_isReadable_32 : decode cX10_isReadable 32 = .ok (.iconst 0, 1) := by decide +kernel
theorem dX10_isReadable_33 : decode cX10_isReadable 33 = .ok (.ireturn, 1) := by decide +kernel
theorem dX10_read0_0 : decode cX10_read0 0 = .ok (.aload_n 0, 1) := by decide +kernel
theorem dX10_read0_1 : decode cX10_read0 1 = .ok (.aload_n 0, 1) := by decide +kernel
theorem dX10_read0_2 : decode cX10_read0 2 = .ok (.getfield 40, 3) := by decide +kernel
theorem dX10_read0_5 : decode cX10_read0 5 = .ok (.iload_n 1, 1) := by decide +kernel
theorem dX10_read0_6 : decode cX10_read0 6 = .ok (.iaload, 1) := by decide +kernel
theorem dX10_read0_7 : decode cX10_read0 7 = .ok (.aload_n 0, 1) := by decide +kernel
theorem dX10_read0_8 : decode cX10_read0 8 = .ok (.getfield 43, 3) := by decide +kernel
theorem dX10_read0_11 : decode cX10_read0 11 = .ok (.iload_n 1, 1) := by decide +kernel
theorem dX10_read0_12 : decode cX10_read0 12 = .ok (.iaload, 1) := by decide +kernel
theorem dX10_read0_13 : decode cX10_read0 13 = .ok (.invokevirtual 138, 3) := by decide +kernel
theorem dX10_read0_16 : decode cX10_read0 16 = .ok (.ireturn, 1) := by decide +kernel
theorem dX10_longOf_0 : decode cX10_longOf 0 = .ok (.aload_n 0, 1) := by decide +kernel
theorem dX10_longOf_1 : decode cX10_longOf 1 = .ok (.getfield 46, 3) := by decide +kernel
theorem dX10_longOf_4 : decode cX10_longOf 4 = .ok (.iload_n 1, 1) := by decide +kernel
theorem dX10_longOf_5 : decode cX10_longOf 5 = .ok (.iconst 1, 1) := by decide +kernel
theorem dX10_longOf_6 : decode cX10_longOf 6 = .ok (.iadd, 1) := by decide +kernel
theorem dX10_longOf_7 : decode cX10_longOf 7 = .ok (.iaload, 1) := by decide +kernel
theorem dX10_longOf_8 : decode cX10_longOf 8 = .ok (.aload_n 0, 1) := by decide +kernel
theorem dX10_longOf_9 : decode cX10_longOf 9 = .ok (.getfield 46, 3) := by decide +kernel
theorem dX10_longOf_12 : decode cX10_longOf 12 = .ok (.iload_n 1, 1) := by decide +kernel
theorem dX10_longOf_13 : decode cX10_longOf 13 = .ok (.iaload, 1) := by decide +kernel
theorem dX10_longOf_14 : decode cX10_longOf 14 = .ok (.isub, 1) := by decide +kernel
theorem dX10_longOf_15 : decode cX10_longOf 15 = .ok (.ireturn, 1) := by decide +kernel
theorem dX10_isRight_0 : decode cX10_isRight 0 = .ok (.iconst 0, 1) := by decide +kernel
theorem dX10_isRight_1 : decode cX10_isRight 1 = .ok (.istore 4, 2) := by decide +kernel
theorem dX10_isRight_3 : decode cX10_isRight 3 = .ok (.iconst 0, 1) := by decide +kernel
theorem dX10_isRight_4 : decode cX10_isRight 4 = .ok (.istore 5, 2) := by decide +kernel
theorem dX10_isRight_6 : decode cX10_isRight 6 = .ok (.aload_n 0, 1) := by decide +kernel
theorem dX10_isRight_7 : decode cX10_isRight 7 = .ok (.iload_n 1, 1) := by decide +kernel
theorem dX10_isRight_8 : decode cX10_isRight 8 = .ok (.invokevirtual 142, 3) := by decide +kernel
theorem dX10_isRight_11 : decode cX10_isRight 11 = .ok (.iconst 1, 1) := by decide +kernel
theorem dX10_isRight_12 : decode cX10_isRight 12 = .ok (.if_icmp .le 7, 3) := by decide +kernel
theorem dX10_isRight_15 : decode cX10_isRight 15 = .ok (.iconst 1, 1) := by decide +kernel
theorem dX10_isRight_16 : decode cX10_isRight 16 = .ok (.goto 4, 3) := by decide +kernel
theorem dX10_isRight_19 : decode cX10_isRight 19 = .ok (.iconst 0, 1) := by decide +kernel
theorem dX10_isRight_20 : decode cX10_isRight 20 = .ok (.istore 6, 2) := by decide +kernel
theorem dX10_isRight_22 : decode cX10_isRight 22 = .ok (.aload_n 0, 1) := by decide +kernel
theorem dX10_isRight_23 : decode cX10_isRight 23 = .ok (.getfield 46, 3) := by decide +kernel
theorem dX10_isRight_26 : decode cX10_isRight 26 = .ok (.iload_n 1, 1) := by decide +kernel
theorem dX10_isRight_27 : decode cX10_isRight 27 = .ok (.iaload, 1) := by decide +kernel
theorem dX10_isRight_28 : decode cX10_isRight 28 = .ok (.istore 7, 2) := by decide +kernel
theorem dX10_isRight_30 : decode cX10_isRight 30 = .ok (.iload 7, 2) := by decide +kernel
theorem dX10_isRight_32 : decode cX10_isRight 32 = .ok (.aload_n 0, 1) := by decide +kernel
theorem dX10_isRight_33 : decode cX10_isRight 33 = .ok (.getfield 46, 3) := by decide +kernel
theorem dX10_isRight_36 : decode cX10_isRight 36 = .ok (.iload_n 1, 1) := by decide +kernel
theorem dX10_isRight_37 : decode cX10_isRight 37 = .ok (.iconst 1, 1) := by decide +kernel
theorem dX10_isRight_38 : decode cX10_isRight 38 = .ok (.iadd, 1) := by decide +kernel
theorem dX10_isRight_39 : decode cX10_isRight 39 = .ok (.iaload, 1) := by decide +kernel
theorem dX10_isRight_40 : decode cX10_isRight 40 = .ok (.if_icmp .ge 81, 3) := by decide +kernel
theorem dX10_isRight_43 : decode cX10_isRight 43 = .ok (.iload 6, 2) := by decide +kernel
theorem dX10_isRight_45 : decode cX10_isRight 45 = .ok (.ifCond .eq 76, 3) := by decide +kernel
theorem dX10_isRight_48 : decode cX10_isRight 48 = .ok (.iload 7, 2) := by decide +kernel
theorem dX10_isRight_50 : decode cX10_isRight 50 = .ok (.iload_n 2, 1) := by decide +kernel
theorem dX10_isRight_51 : decode cX10_isRight 51 = .ok (.if_icmp .ne 7, 3) := by decide +kernel
theorem dX10_isRight_54 : decode cX10_isRight 54 = .ok (.iconst 1, 1) := by decide +kernel
theorem dX10_isRight_55 : decode cX10_isRight 55 = .ok (.goto 4, 3) := by decide +kernel
theorem dX10_isRight_58 : decode cX10_isRight 58 = .ok (.iconst 0, 1) := by decide +kernel
theorem dX10_isRight_59 : decode cX10_isRight 59 = .ok (.istore 8, 2) := by decide +kernel
theorem dX10_isRight_61 : decode cX10_isRight 61 = .ok (.iload 8, 2) := by decide +kernel
theorem dX10_isRight_63 : decode cX10_isRight 63 = .ok (.ifCond .ne 12, 3) := by decide +kernel
theorem dX10_isRight_66 : decode cX10_isRight 66 = .ok (.aload_n 0, 1) := by decide +kernel
theorem dX10_isRight_67 : decode cX10_isRight 67 = .ok (.iload 7, 2) := by decide +kernel
theorem dX10_isRight_69 : decode cX10_isRight 69 = .ok (.invokevirtual 145, 3) := by decide +kernel
theorem dX10_isRight_72 : decode cX10_isRight 72 = .ok (.ifCond .eq 7, 3) := by decide +kernel
theorem dX10_isRight_75 : decode cX10_isRight 75 = .ok (.iconst 1, 1) := by decide +kernel
theorem dX10_isRight_76 : decode cX10_isRight 76 = .ok (.goto 4, 3) := by decide +kernel
theorem dX10_isRight_79 : decode cX10_isRight 79 = .ok (.iconst 0, 1) := by decide +kernel
theorem dX10_isRight_80 : decode cX10_isRight 80 = .ok (.istore 6, 2) := by decide +kernel
theorem dX10_isRight_82 : decode cX10_isRight 82 = .ok (.iload 8, 2) := by decide +kernel
theorem dX10_isRight_84 : decode cX10_isRight 84 = .ok (.ifCond .eq 7, 3) := by decide +kernel
theorem dX10_isRight_87 : decode cX10_isRight 87 = .ok (.iload_n 3, 1) := by decide +kernel
theorem dX10_isRight_88 : decode cX10_isRight 88 = .ok (.goto 18, 3) := by decide +kernel
theorem dX10_isRight_91 : decode cX10_isRight 91 = .ok (.iload 6, 2) := by decide +kernel
theorem dX10_isRight_93 : decode cX10_isRight 93 = .ok (.ifCond .eq 12, 3) := by decide +kernel
theorem dX10_isRight_96 : decode cX10_isRight 96 = .ok (.aload_n 0, 1) := by decide +kernel
theorem dX10_isRight_97 : decode cX10_isRight 97 = .ok (.iload 7, 2) := by decide +kernel
theorem dX10_isRight_99 : decode cX10_isRight 99 = .ok (.invokevirtual 148, 3) := by decide +kernel
theorem dX10_isRight_102 : decode cX10_isRight 102 = .ok (.goto 4, 3) := by decide +kernel
theorem dX10_isRight_105 : decode cX10_isRight 105 = .ok (.iconst 0, 1) := by decide +kernel
theorem dX10_isRight_106 : decode cX10_isRight 106 = .ok (.istore 5, 2) := by decide +kernel
theorem dX10_isRight_108 : decode cX10_isRight 108 = .ok (.iload 4, 2) := by decide +kernel
theorem dX10_isRight_110 : decode cX10_isRight 110 = .ok (.iload 5, 2) := by decide +kernel
theorem dX10_isRight_112 : decode cX10_isRight 112 = .ok (.iadd, 1) := by decide +kernel
theorem dX10_isRight_113 : decode cX10_isRight 113 = .ok (.istore 4, 2) := by decide +kernel
theorem dX10_isRight_115 : decode cX10_isRight 115 = .ok (.iinc 7 1, 3) := by decide +kernel
theorem dX10_isRight_118 : decode cX10_isRight 118 = .ok (.goto (-88), 3) := by decide +kernel
theorem dX10_isRight_121 : decode cX10_isRight 121 = .ok (.iload 6, 2) := by decide +kernel
theorem dX10_isRight_123 : decode cX10_isRight 123 = .ok (.ifCond .eq 20, 3) := by decide +kernel
theorem dX10_isRight_126 : decode cX10_isRight 126 = .ok (.iload 4, 2) := by decide +kernel
theorem dX10_isRight_128 : decode cX10_isRight 128 = .ok (.iload 5, 2) := by decide +kernel
theorem dX10_isRight_130 : decode cX10_isRight 130 = .ok (.isub, 1) := by decide +kernel
theorem dX10_isRight_131 : decode cX10_isRight 131 = .ok (.bipush 25, 2) := by decide +kernel
theorem dX10_isRight_133 : decode cX10_isRight 133 = .ok (.irem, 1) := by decide +kernel
theorem dX10_isRight_134 : decode cX10_isRight 134 = .ok (.iload 5, 2) := by decide +kernel
theorem dX10_isRight_136 : decode cX10_isRight 136 = .ok (.if_icmp .ne 7, 3) := by decide +kernel
theorem dX10_isRight_139 : decode cX10_isRight 139 = .ok (.iconst 1, 1) := by decide +kernel
theorem dX10_isRight_140 : decode cX10_isRight 140 = .ok (.goto 4, 3) := by decide +kernel
theorem dX10_isRight_143 : decode cX10_isRight 143 = .ok (.iconst 0, 1) := by decide +kernel
theorem dX10_isRight_144 : decode cX10_isRight 144 = .ok (.ireturn, 1) := by decide +kernel
theorem dX10_strokeOf_0 : decode cX10_strokeOf 0 = .ok (.aload_n 0, 1) := by decide +kernel
theorem dX10_strokeOf_1 : decode cX10_strokeOf 1 = .ok (.iload_n 1, 1) := by decide +kernel
theorem dX10_strokeOf_2 : decode cX10_strokeOf 2 = .ok (.invokevirtual 109, 3) := by decide +kernel
theorem dX10_strokeOf_5 : decode cX10_strokeOf 5 = .ok (.ifCond .eq 13, 3) := by decide +kernel
theorem dX10_strokeOf_8 : decode cX10_strokeOf 8 = .ok (.iload_n 2, 1) := by decide +kernel
theorem dX10_strokeOf_9 : decode cX10_strokeOf 9 = .ok (.iconst 0, 1) := by decide +kernel
theorem dX10_strokeOf_10 : decode cX10_strokeOf 10 = .ok (.bipush 6, 2) := by decide +kernel
theorem dX10_strokeOf_12 : decode cX10_strokeOf 12 = .ok (.invokestatic 65, 3) := by decide +kernel
theorem dX10_strokeOf_15 : decode cX10_strokeOf 15 = .ok (.ifCond .ne 6, 3) := by decide +kernel
theorem dX10_strokeOf_18 : decode cX10_strokeOf 18 = .ok (.ldc 76, 2) := by decide +kernel
theorem dX10_strokeOf_20 : decode cX10_strokeOf 20 = .ok (.ireturn, 1) := by decide +kernel
theorem dX10_strokeOf_21 : decode cX10_strokeOf 21 = .ok (.aload_n 0, 1) := by decide +kernel
theorem dX10_strokeOf_22 : decode cX10_strokeOf 22 = .ok (.invokevirtual 151, 3) := by decide +kernel
theorem dX10_strokeOf_25 : decode cX10_strokeOf 25 = .ok (.iload_n 2, 1) := by decide +kernel
theorem dX10_strokeOf_26 : decode cX10_strokeOf 26 = .ok (.ifCond .ne 13, 3) := by decide +kernel
theorem dX10_strokeOf_29 : decode cX10_strokeOf 29 = .ok (.aload_n 0, 1) := by decide +kernel
theorem dX10_strokeOf_30 : decode cX10_strokeOf 30 = .ok (.getfield 7, 3) := by decide +kernel
theorem dX10_strokeOf_33 : decode cX10_strokeOf 33 = .ok (.bipush 29, 2) := by decide +kernel
theorem dX10_strokeOf_35 : decode cX10_strokeOf 35 = .ok (.iload_n 1, 1) := by decide +kernel
theorem dX10_strokeOf_36 : decode cX10_strokeOf 36 = .ok (.iadd, 1) := by decide +kernel
theorem dX10_strokeOf_37 : decode cX10_strokeOf 37 = .ok (.iaload, 1) := by decide +kernel
theorem dX10_strokeOf_38 : decode cX10_strokeOf 38 = .ok (.ireturn, 1) := by decide +kernel
theorem dX10_strokeOf_39 : decode cX10_strokeOf 39 = .ok (.iload_n 2, 1) := by decide +kernel
theorem dX10_strokeOf_40 : decode cX10_strokeOf 40 = .ok (.iconst 4, 1) := by decide +kernel
theorem dX10_strokeOf_41 : decode cX10_strokeOf 41 = .ok (.if_icmp .ge 54, 3) := by decide +kernel
theorem dX10_strokeOf_44 : decode cX10_strokeOf 44 = .ok (.iload_n 1, 1) := by decide +kernel
theorem dX10_strokeOf_45 : decode cX10_strokeOf 45 = .ok (.ifCond .ne 8, 3) := by decide +kernel
theorem dX10_strokeOf_48 : decode cX10_strokeOf 48 = .ok (.ldc 154, 2) := by decide +kernel
theorem dX10_strokeOf_50 : decode cX10_strokeOf 50 = .ok (.goto 44, 3) := by decide +kernel
theorem dX10_strokeOf_53 : decode cX10_strokeOf 53 = .ok (.iload_n 2, 1) := by decide +kernel
theorem dX10_strokeOf_54 : decode cX10_strokeOf 54 = .ok (.iconst 1, 1) := by decide +kernel
theorem dX10_strokeOf_55 : decode cX10_strokeOf 55 = .ok (.if_icmp .ne 12, 3) := by decide +kernel
theorem dX10_strokeOf_58 : decode cX10_strokeOf 58 = .ok (.aload_n 0, 1) := by decide +kernel
theorem dX10_strokeOf_59 : decode cX10_strokeOf 59 = .ok (.getfield 22, 3) := by decide +kernel
theorem dX10_strokeOf_62 : decode cX10_strokeOf 62 = .ok (.iload_n 1, 1) := by decide +kernel
theorem dX10_strokeOf_63 : decode cX10_strokeOf 63 = .ok (.iaload, 1) := by decide +kernel
theorem dX10_strokeOf_64 : decode cX10_strokeOf 64 = .ok (.goto 30, 3) := by decide +kernel
theorem dX10_strokeOf_67 : decode cX10_strokeOf 67 = .ok (.iload_n 2, 1) := by decide +kernel
theorem dX10_strokeOf_68 : decode cX10_strokeOf 68 = .ok (.iconst 2, 1) := by decide +kernel
theorem dX10_strokeOf_69 : decode cX10_strokeOf 69 = .ok (.if_icmp .ne 12, 3) := by decide +kernel
theorem dX10_strokeOf_72 : decode cX10_strokeOf 72 = .ok (.aload_n 0, 1) := by decide +kernel
theorem dX10_strokeOf_73 : decode cX10_strokeOf 73 = .ok (.getfield 25, 3) := by decide +kernel
theorem dX10_strokeOf_76 : decode cX10_strokeOf 76 = .ok (.iload_n 1, 1) := by decide +kernel
theorem dX10_strokeOf_77 : decode cX10_strokeOf 77 = .ok (.iaload, 1) := by decide +kernel
theorem dX10_strokeOf_78 : decode cX10_strokeOf 78 = .ok (.goto 16, 3) := by decide +kernel
theorem dX10_strokeOf_81 : decode cX10_strokeOf 81 = .ok (.aload_n 0, 1) := by decide +kernel
theorem dX10_strokeOf_82 : decode cX10_strokeOf 82 = .ok (.iload_n 1, 1) := by decide +kernel
theorem dX10_strokeOf_83 : decode cX10_strokeOf 83 = .ok (.invokevirtual 131, 3) := by decide +kernel
theorem dX10_strokeOf_86 : decode cX10_strokeOf 86 = .ok (.ifCond .eq 7, 3) := by decide +kernel
theorem dX10_strokeOf_89 : decode cX10_strokeOf 89 = .ok (.iconst 1, 1) := by decide +kernel
theorem dX10_strokeOf_90 : decode cX10_strokeOf 90 = .ok (.goto 4, 3) := by decide +kernel
theorem dX10_strokeOf_93 : decode cX10_strokeOf 93 = .ok (.iconst 0, 1) := by decide +kernel
theorem dX10_strokeOf_94 : decode cX10_strokeOf 94 = .ok (.ireturn, 1) := by decide +kernel
theorem dX10_strokeOf_95 : decode cX10_strokeOf 95 = .ok (.aload_n 0, 1) := by decide +kernel
theorem dX10_strokeOf_96 : decode cX10_strokeOf 96 = .ok (.getfield 25, 3) := by decide +kernel
theorem dX10_strokeOf_99 : decode cX10_strokeOf 99 = .ok (.iload_n 1, 1) := by decide +kernel
theorem dX10_strokeOf_100 : decode cX10_strokeOf 100 = .ok (.iaload, 1) := by decide +kernel
theorem dX10_strokeOf_101 : decode cX10_strokeOf 101 = .ok (.ifCond .ne 8, 3) := by decide +kernel
theorem dX10_strokeOf_104 : decode cX10_strokeOf 104 = .ok (.ldc 154, 2) := by decide +kernel
theorem dX10_strokeOf_106 : decode cX10_strokeOf 106 = .ok (.goto 37, 3) := by decide +kernel
theorem dX10_strokeOf_109 : decode cX10_strokeOf 109 = .ok (.iload_n 2, 1) := by decide +kernel
theorem dX10_strokeOf_110 : decode cX10_strokeOf 110 = .ok (.iconst 4, 1) := by decide +kernel
theorem dX10_strokeOf_111 : decode cX10_strokeOf 111 = .ok (.if_icmp .ne 12, 3) := by decide +kernel
theorem dX10_strokeOf_114 : decode cX10_strokeOf 114 = .ok (.aload_n 0, 1) := by decide +kernel
theorem dX10_strokeOf_115 : decode cX10_strokeOf 115 = .ok (.getfield 28, 3) := by decide +kernel
theorem dX10_strokeOf_118 : decode cX10_strokeOf 118 = .ok (.iload_n 1, 1) := by decide +kernel
theorem dX10_strokeOf_119 : decode cX10_strokeOf 119 = .ok (.iaload, 1) := by decide +kernel
theorem dX10_strokeOf_120 : decode cX10_strokeOf 120 = .ok (.goto 23, 3) := by decide +kernel
theorem dX10_strokeOf_123 : decode cX10_strokeOf 123 = .ok (.iload_n 2, 1) := by decide +kernel
theorem dX10_strokeOf_124 : decode cX10_strokeOf 124 = .ok (.iconst 5, 1) := by decide +kernel
theorem dX10_strokeOf_125 : decode cX10_strokeOf 125 = .ok (.if_icmp .ne 12, 3) := by decide +kernel
theorem dX10_strokeOf_128 : decode cX10_strokeOf 128 = .ok (.aload_n 0, 1) := by decide +kernel
theorem dX10_strokeOf_129 : decode cX10_strokeOf 129 = .ok (.getfield 31, 3) := by decide +kernel
theorem dX10_strokeOf_132 : decode cX10_strokeOf 132 = .ok (.iload_n 1, 1) := by decide +kernel
theorem dX10_strokeOf_133 : decode cX10_strokeOf 133 = .ok (.iaload, 1) := by decide +kernel
theorem dX10_strokeOf_134 : decode cX10_strokeOf 134 = .ok (.goto 9, 3) := by decide +kernel
theorem dX10_strokeOf_137 : decode cX10_strokeOf 137 = .ok (.aload_n 0, 1) := by decide +kernel
theorem dX10_strokeOf_138 : decode cX10_strokeOf 138 = .ok (.getfield 34, 3) := by decide +kernel
theorem dX10_strokeOf_141 : decode cX10_strokeOf 141 = .ok (.iload_n 1, 1) := by decide +kernel
theorem dX10_strokeOf_142 : decode cX10_strokeOf 142 = .ok (.iaload, 1) := by decide +kernel
theorem dX10_strokeOf_143 : decode cX10_strokeOf 143 = .ok (.ireturn, 1) := by decide +kernel
theorem dX10_unreadable_0 : decode cX10_unreadable 0 = .ok (.iconst 0, 1) := by decide +kernel
theorem dX10_unreadable_1 : decode cX10_unreadable 1 = .ok (.istore_n 2, 1) := by decide +kernel
theorem dX10_unreadable_2 : decode cX10_unreadable 2 = .ok (.aload_n 0, 1) := by decide +kernel
theorem dX10_unreadable_3 : decode cX10_unreadable 3 = .ok (.getfield 46, 3) := by decide +kernel
theorem dX10_unreadable_6 : decode cX10_unreadable 6 = .ok (.iload_n 1, 1) := by decide +kernel
theorem dX10_unreadable_7 : decode cX10_unreadable 7 = .ok (.iaload, 1) := by decide +kernel
theorem dX10_unreadable_8 : decode cX10_unreadable 8 = .ok (.istore_n 3, 1) := by decide +kernel
theorem dX10_unreadable_9 : decode cX10_unreadable 9 = .ok (.iload_n 3, 1) := by decide +kernel
theorem dX10_unreadable_10 : decode cX10_unreadable 10 = .ok (.aload_n 0, 1) := by decide +kernel
theorem dX10_unreadable_11 : decode cX10_unreadable 11 = .ok (.getfield 46, 3) := by decide +kernel
theorem dX10_unreadable_14 : decode cX10_unreadable 14 = .ok (.iload_n 1, 1) := by decide +kernel
theorem dX10_unreadable_15 : decode cX10_unreadable 15 = .ok (.iconst 1, 1) := by decide +kernel
theorem dX10_unreadable_16 : decode cX10_unreadable 16 = .ok (.iadd, 1) := by decide +kernel
theorem dX10_unreadable_17 : decode cX10_unreadable 17 = .ok (.iaload, 1) := by decide +kernel
theorem dX10_unreadable_18 : decode cX10_unreadable 18 = .ok (.if_icmp .ge 25, 3) := by decide +kernel
theorem dX10_unreadable_21 : decode cX10_unreadable 21 = .ok (.iload_n 2, 1) := by decide +kernel
theorem dX10_unreadable_22 : decode cX10_unreadable 22 = .ok (.aload_n 0, 1) := by decide +kernel
theorem dX10_unreadable_23 : decode cX10_unreadable 23 = .ok (.iload_n 3, 1) := by decide +kernel
theorem dX10_unreadable_24 : decode cX10_unreadable 24 = .ok (.invokevirtual 145, 3) := by decide +kernel
theorem dX10_unreadable_27 : decode cX10_unreadable 27 = .ok (.ifCond .eq 7, 3) := by decide +kernel
theorem dX10_unreadable_30 : decode cX10_unreadable 30 = .ok (.iconst 0, 1) := by decide +kernel
theorem dX10_unreadable_31 : decode cX10_unreadable 31 = .ok (.goto 4, 3) := by decide +kernel
theorem dX10_unreadable_34 : decode cX10_unreadable 34 = .ok (.iconst 1, 1) := by decide +kernel
theorem dX10_unreadable_35 : decode cX10_unreadable 35 = .ok (.iadd, 1) := by decide +kernel
theorem dX10_unreadable_36 : decode cX10_unreadable 36 = .ok (.istore_n 2, 1) := by decide +kernel
theorem dX10_unreadable_37 : decode cX10_unreadable 37 = .ok (.iinc 3 1, 3) := by decide +kernel
theorem dX10_unreadable_40 : decode cX10_unreadable 40 = .ok (.goto (-31), 3) := by decide +kernel
theorem dX10_unreadable_43 : decode cX10_unreadable 43 = .ok (.iload_n 2, 1) := by decide +kernel
theorem dX10_unreadable_44 : decode cX10_unreadable 44 = .ok (.ireturn, 1) := by decide +kernel
theorem dX10_corrections_0 : decode cX10_corrections 0 = .ok (.iconst 0, 1) := by decide +kernel
theorem dX10_corrections_1 : decode cX10_corrections 1 = .ok (.istore_n 3, 1) := by decide +kernel
theorem dX10_corrections_2 : decode cX10_corrections 2 = .ok (.aload_n 0, 1) := by decide +kernel
theorem dX10_corrections_3 : decode cX10_corrections 3 = .ok (.getfield 46, 3) := by decide +kernel
theorem dX10_corrections_6 : decode cX10_corrections 6 = .ok (.iload_n 1, 1) := by decide +kernel
theorem dX10_corrections_7 : decode cX10_corrections 7 = .ok (.iaload, 1) := by decide +kernel
theorem dX10_corrections_8 : decode cX10_corrections 8 = .ok (.istore 4, 2) := by decide +kernel
theorem dX10_corrections_10 : decode cX10_corrections 10 = .ok (.iload 4, 2) := by decide +kernel
theorem dX10_corrections_12 : decode cX10_corrections 12 = .ok (.aload_n 0, 1) := by decide +kernel
theorem dX10_corrections_13 : decode cX10_corrections 13 = .ok (.getfield 46, 3) := by decide +kernel
theorem dX10_corrections_16 : decode cX10_corrections 16 = .ok (.iload_n 1, 1) := by decide +kernel
theorem dX10_corrections_17 : decode cX10_corrections 17 = .ok (.iconst 1, 1) := by decide +kernel
theorem dX10_corrections_18 : decode cX10_corrections 18 = .ok (.iadd, 1) := by decide +kernel
theorem dX10_corrections_19 : decode cX10_corrections 19 = .ok (.iaload, 1) := by decide +kernel
theorem dX10_corrections_20 : decode cX10_corrections 20 = .ok (.if_icmp .ge 180, 3) := by decide +kernel
theorem dX10_corrections_23 : decode cX10_corrections 23 = .ok (.iconst 0, 1) := by decide +kernel
theorem dX10_corrections_24 : decode cX10_corrections 24 = .ok (.istore 5, 2) := by decide +kernel
theorem dX10_corrections_26 : decode cX10_corrections 26 = .ok (.iload 5, 2) := by decide +kernel
theorem dX10_corrections_28 : decode cX10_corrections 28 = .ok (.iconst 4, 1) := by decide +kernel
theorem dX10_corrections_29 : decode cX10_corrections 29 = .ok (.if_icmp .ge 165, 3) := by decide +kernel
theorem dX10_corrections_32 : decode cX10_corrections 32 = .ok (.iload 5, 2) := by decide +kernel
theorem dX10_corrections_34 : decode cX10_corrections 34 = .ok (.iconst 2, 1) := by decide +kernel
theorem dX10_corrections_35 : decode cX10_corrections 35 = .ok (.irem, 1) := by decide +kernel
theorem dX10_corrections_36 : decode cX10_corrections 36 = .ok (.ifCond .ne 7, 3) := by decide +kernel
theorem dX10_corrections_39 : decode cX10_corrections 39 = .ok (.iconst 1, 1) := by decide +kernel
theorem dX10_corrections_40 : decode cX10_corrections 40 = .ok (.goto 4, 3) := by decide +kernel
theorem dX10_corrections_43 : decode cX10_corrections 43 = .ok (.iconst (-1), 1) := by decide +kernel
theorem dX10_corrections_44 : decode cX10_corrections 44 = .ok (.istore 6, 2) := by decide +kernel
theorem dX10_corrections_46 : decode cX10_corrections 46 = .ok (.aload_n 0, 1) := by decide +kernel
theorem dX10_corrections_47 : decode cX10_corrections 47 = .ok (.getfield 40, 3) := by decide +kernel
theorem dX10_corrections_50 : decode cX10_corrections 50 = .ok (.iload 4, 2) := by decide +kernel
theorem dX10_corrections_52 : decode cX10_corrections 52 = .ok (.iaload, 1) := by decide +kernel
theorem dX10_corrections_53 : decode cX10_corrections 53 = .ok (.iload 5, 2) := by decide +kernel
theorem dX10_corrections_55 : decode cX10_corrections 55 = .ok (.iconst 2, 1) := by decide +kernel
theorem dX10_corrections_56 : decode cX10_corrections 56 = .ok (.if_icmp .ge 8, 3) := by decide +kernel
theorem dX10_corrections_59 : decode cX10_corrections 59 = .ok (.iload 6, 2) := by decide +kernel
theorem dX10_corrections_61 : decode cX10_corrections 61 = .ok (.goto 4, 3) := by decide +kernel
theorem dX10_corrections_64 : decode cX10_corrections 64 = .ok (.iconst 0, 1) := by decide +kernel
theorem dX10_corrections_65 : decode cX10_corrections 65 = .ok (.iadd, 1) := by decide +kernel
theorem dX10_corrections_66 : decode cX10_corrections 66 = .ok (.istore 7, 2) := by decide +kernel
theorem dX10_corrections_68 : decode cX10_corrections 68 = .ok (.aload_n 0, 1) := by decide +kernel
theorem dX10_corrections_69 : decode cX10_corrections 69 = .ok (.getfield 43, 3) := by decide +kernel
theorem dX10_corrections_72 : decode cX10_corrections 72 = .ok (.iload 4, 2) := by decide +kernel
theorem dX10_corrections_74 : decode cX10_corrections 74 = .ok (.iaload, 1) := by decide +kernel
theorem dX10_corrections_75 : decode cX10_corrections 75 = .ok (.iload 5, 2) := by decide +kernel
theorem dX10_corrections_77 : decode cX10_corrections 77 = .ok (.iconst 2, 1) := by decide +kernel
theorem dX10_corrections_78 : decode cX10_corrections 78 = .ok (.if_icmp .ge 7, 3) := by decide +kernel
theorem dX10_corrections_81 : decode cX10_corrections 81 = .ok (.iconst 0, 1) := by decide +kernel
theorem dX10_corrections_82 : decode cX10_corrections 82 = .ok (.goto 5, 3) := by decide +kernel
theorem dX10_corrections_85 : decode cX10_corrections 85 = .ok (.iload 6, 2) := by decide +kernel
theorem dX10_corrections_87 : decode cX10_corrections 87 = .ok (.iadd, 1) := by decide +kernel
theorem dX10_corrections_88 : decode cX10_corrections 88 = .ok (.istore 8, 2) := by decide +kernel
theorem dX10_corrections_90 : decode cX10_corrections 90 = .ok (.aload_n 0, 1) := by decide +kernel
theorem dX10_corrections_91 : decode cX10_corrections 91 = .ok (.getfield 37, 3) := by decide +kernel
theorem dX10_corrections_94 : decode cX10_corrections 94 = .ok (.iload 4, 2) := by decide +kernel
theorem dX10_corrections_96 : decode cX10_corrections 96 = .ok (.iaload, 1) := by decide +kernel
theorem dX10_corrections_97 : decode cX10_corrections 97 = .ok (.iconst 2, 1) := by decide +kernel
theorem dX10_corrections_98 : decode cX10_corrections 98 = .ok (.if_icmp .ne 90, 3) := by decide +kernel
theorem dX10_corrections_101 : decode cX10_corrections 101 = .ok (.iload 7, 2) := by decide +kernel
theorem dX10_corrections_103 : decode cX10_corrections 103 = .ok (.iload 8, 2) := by decide +kernel
theorem dX10_corrections_105 : decode cX10_corrections 105 = .ok (.invokestatic 134, 3) := by decide +kernel
theorem dX10_corrections_108 : decode cX10_corrections 108 = .ok (.ifCond .eq 80, 3) := by decide +kernel
theorem dX10_corrections_111 : decode cX10_corrections 111 = .ok (.aload_n 0, 1) := by decide +kernel
theorem dX10_corrections_112 : decode cX10_corrections 112 = .ok (.iload_n 1, 1) := by decide +kernel
theorem dX10_corrections_113 : decode cX10_corrections 113 = .ok (.iload 4, 2) := by decide +kernel
theorem dX10_corrections_115 : decode cX10_corrections 115 = .ok (.aload_n 0, 1) := by decide +kernel
theorem dX10_corrections_116 : decode cX10_corrections 116 = .ok (.iload 7, 2) := by decide +kernel
theorem dX10_corrections_118 : decode cX10_corrections 118 = .ok (.iload 8, 2) := by decide +kernel
theorem dX10_corrections_120 : decode cX10_corrections 120 = .ok (.invokevirtual 138, 3) := by decide +kernel
theorem dX10_corrections_123 : decode cX10_corrections 123 = .ok (.invokevirtual 155, 3) := by decide +kernel
theorem dX10_corrections_126 : decode cX10_corrections 126 = .ok (.ifCond .eq 62, 3) := by decide +kernel
theorem dX10_corrections_129 : decode cX10_corrections 129 = .ok (.iload_n 3, 1) := by decide +kernel
theorem dX10_corrections_130 : decode cX10_corrections 130 = .ok (.iload_n 2, 1) := by decide +kernel
theorem dX10_corrections_131 : decode cX10_corrections 131 = .ok (.if_icmp .ne 54, 3) := by decide +kernel
theorem dX10_corrections_134 : decode cX10_corrections 134 = .ok (.aload_n 0, 1) := by decide +kernel
theorem dX10_corrections_135 : decode cX10_corrections 135 = .ok (.getfield 58, 3) := by decide +kernel
theorem dX10_corrections_138 : decode cX10_corrections 138 = .ok (.iconst 0, 1) := by decide +kernel
theorem dX10_corrections_139 : decode cX10_corrections 139 = .ok (.iload 4, 2) := by decide +kernel
theorem dX10_corrections_141 : decode cX10_corrections 141 = .ok (.aload_n 0, 1) := by decide +kernel
theorem dX10_corrections_142 : decode cX10_corrections 142 = .ok (.getfield 46, 3) := by decide +kernel
theorem dX10_corrections_145 : decode cX10_corrections 145 = .ok (.iload_n 1, 1) := by decide +kernel
theorem dX10_corrections_146 : decode cX10_corrections 146 = .ok (.iaload, 1) := by decide +kernel
theorem dX10_corrections_147 : decode cX10_corrections 147 = .ok (.isub, 1) := by decide +kernel
theorem dX10_corrections_148 : decode cX10_corrections 148 = .ok (.iastore, 1) := by decide +kernel
theorem dX10_corrections_149 : decode cX10_corrections 149 = .ok (.aload_n 0, 1) := by decide +kernel
theorem dX10_corrections_150 : decode cX10_corrections 150 = .ok (.getfield 58, 3) := by decide +kernel
theorem dX10_corrections_153 : decode cX10_corrections 153 = .ok (.iconst 1, 1) := by decide +kernel
theorem dX10_corrections_154 : decode cX10_corrections 154 = .ok (.iload 5, 2) := by decide +kernel
theorem dX10_corrections_156 : decode cX10_corrections 156 = .ok (.iconst 2, 1) := by decide +kernel
theorem dX10_corrections_157 : decode cX10_corrections 157 = .ok (.idiv, 1) := by decide +kernel
theorem dX10_corrections_158 : decode cX10_corrections 158 = .ok (.iastore, 1) := by decide +kernel
theorem dX10_corrections_159 : decode cX10_corrections 159 = .ok (.aload_n 0, 1) := by decide +kernel
theorem dX10_corrections_160 : decode cX10_corrections 160 = .ok (.getfield 58, 3) := by decide +kernel
theorem dX10_corrections_163 : decode cX10_corrections 163 = .ok (.iconst 2, 1) := by decide +kernel
theorem dX10_corrections_164 : decode cX10_corrections 164 = .ok (.iconst 1, 1) := by decide +kernel
theorem dX10_corrections_165 : decode cX10_corrections 165 = .ok (.iload 5, 2) := by decide +kernel
theorem dX10_corrections_167 : decode cX10_corrections 167 = .ok (.iconst 2, 1) := by decide +kernel
theorem dX10_corrections_168 : decode cX10_corrections 168 = .ok (.irem, 1) := by decide +kernel
theorem dX10_corrections_169 : decode cX10_corrections 169 = .ok (.isub, 1) := by decide +kernel
theorem dX10_corrections_170 : decode cX10_corrections 170 = .ok (.iastore, 1) := by decide +kernel
theorem dX10_corrections_171 : decode cX10_corrections 171 = .ok (.aload_n 0, 1) := by decide +kernel
theorem dX10_corrections_172 : decode cX10_corrections 172 = .ok (.getfield 58, 3) := by decide +kernel
theorem dX10_corrections_175 : decode cX10_corrections 175 = .ok (.iconst 3, 1) := by decide +kernel
theorem dX10_corrections_176 : decode cX10_corrections 176 = .ok (.aload_n 0, 1) := by decide +kernel
theorem dX10_corrections_177 : decode cX10_corrections 177 = .ok (.iload 7, 2) := by decide +kernel
theorem dX10_corrections_179 : decode cX10_corrections 179 = .ok (.iload 8, 2) := by decide +kernel
theorem dX10_corrections_181 : decode cX10_corrections 181 = .ok (.invokevirtual 138, 3) := by decide +kernel
theorem dX10_corrections_184 : decode cX10_corrections 184 = .ok (.iastore, 1) := by decide +kernel
