theorem dX9_messageOf_140 : decode cX9_messageOf 140 = .ok (.aload_n 0, 1) := by decide +kernel
theorem dX9_messageOf_141 : decode cX9_messageOf 141 = .ok (.getfield 29, 3) := by decide +kernel
theorem dX9_messageOf_144 : decode cX9_messageOf 144 = .ok (.getfield 139, 3) := by decide +kernel
theorem dX9_messageOf_147 : decode cX9_messageOf 147 = .ok (.getfield 161, 3) := by decide +kernel
theorem dX9_messageOf_150 : decode cX9_messageOf 150 = .ok (.iload_n 1, 1) := by decide +kernel
theorem dX9_messageOf_151 : decode cX9_messageOf 151 = .ok (.invokevirtual 114, 3) := by decide +kernel
theorem dX9_messageOf_154 : decode cX9_messageOf 154 = .ok (.ireturn, 1) := by decide +kernel
theorem dX9_messageOf_155 : decode cX9_messageOf 155 = .ok (.ldc 68, 2) := by decide +kernel
theorem dX9_messageOf_157 : decode cX9_messageOf 157 = .ok (.ireturn, 1) := by decide +kernel
theorem dX9_letterOf_0 : decode cX9_letterOf 0 = .ok (.aload_n 0, 1) := by decide +kernel
theorem dX9_letterOf_1 : decode cX9_letterOf 1 = .ok (.getfield 29, 3) := by decide +kernel
theorem dX9_letterOf_4 : decode cX9_letterOf 4 = .ok (.iload_n 1, 1) := by decide +kernel
theorem dX9_letterOf_5 : decode cX9_letterOf 5 = .ok (.invokevirtual 133, 3) := by decide +kernel
theorem dX9_letterOf_8 : decode cX9_letterOf 8 = .ok (.ifCond .eq 19, 3) := by decide +kernel
theorem dX9_letterOf_11 : decode cX9_letterOf 11 = .ok (.iload_n 2, 1) := by decide +kernel
theorem dX9_letterOf_12 : decode cX9_letterOf 12 = .ok (.ifCond .lt 15, 3) := by decide +kernel
theorem dX9_letterOf_15 : decode cX9_letterOf 15 = .ok (.iload_n 2, 1) := by decide +kernel
theorem dX9_letterOf_16 : decode cX9_letterOf 16 = .ok (.aload_n 0, 1) := by decide +kernel
theorem dX9_letterOf_17 : decode cX9_letterOf 17 = .ok (.getfield 29, 3) := by decide +kernel
theorem dX9_letterOf_20 : decode cX9_letterOf 20 = .ok (.iload_n 1, 1) := by decide +kernel
theorem dX9_letterOf_21 : decode cX9_letterOf 21 = .ok (.invokevirtual 136, 3) := by decide +kernel
theorem dX9_letterOf_24 : decode cX9_letterOf 24 = .ok (.if_icmp .lt 6, 3) := by decide +kernel
theorem dX9_letterOf_27 : decode cX9_letterOf 27 = .ok (.ldc 68, 2) := by decide +kernel
theorem dX9_letterOf_29 : decode cX9_letterOf 29 = .ok (.ireturn, 1) := by decide +kernel
theorem dX9_letterOf_30 : decode cX9_letterOf 30 = .ok (.aload_n 0, 1) := by decide +kernel
theorem dX9_letterOf_31 : decode cX9_letterOf 31 = .ok (.getfield 29, 3) := by decide +kernel
theorem dX9_letterOf_34 : decode cX9_letterOf 34 = .ok (.getfield 164, 3) := by decide +kernel
theorem dX9_letterOf_37 : decode cX9_letterOf 37 = .ok (.astore 4, 2) := by decide +kernel
theorem dX9_letterOf_39 : decode cX9_letterOf 39 = .ok (.aload_n 0, 1) := by decide +kernel
theorem dX9_letterOf_40 : decode cX9_letterOf 40 = .ok (.getfield 29, 3) := by decide +kernel
theorem dX9_letterOf_43 : decode cX9_letterOf 43 = .ok (.iload_n 1, 1) := by decide +kernel
theorem dX9_letterOf_44 : decode cX9_letterOf 44 = .ok (.iload_n 2, 1) := by decide +kernel
theorem dX9_letterOf_45 : decode cX9_letterOf 45 = .ok (.invokevirtual 168, 3) := by decide +kernel
theorem dX9_letterOf_48 : decode cX9_letterOf 48 = .ok (.istore 5, 2) := by decide +kernel
theorem dX9_letterOf_50 : decode cX9_letterOf 50 = .ok (.aload 4, 2) := by decide +kernel
theorem dX9_letterOf_52 : decode cX9_letterOf 52 = .ok (.getfield 171, 3) := by decide +kernel
theorem dX9_letterOf_55 : decode cX9_letterOf 55 = .ok (.iload 5, 2) := by decide +kernel
theorem dX9_letterOf_57 : decode cX9_letterOf 57 = .ok (.invokevirtual 114, 3) := by decide +kernel
theorem dX9_letterOf_60 : decode cX9_letterOf 60 = .ok (.istore 6, 2) := by decide +kernel
theorem dX9_letterOf_62 : decode cX9_letterOf 62 = .ok (.iload_n 3, 1) := by decide +kernel
theorem dX9_letterOf_63 : decode cX9_letterOf 63 = .ok (.tableswitch 102 0 4 #[33, 47, 50, 61, 83], 33) := by decide +kernel
theorem dX9_letterOf_96 : decode cX9_letterOf 96 = .ok (.aload 4, 2) := by decide +kernel
theorem dX9_letterOf_98 : decode cX9_letterOf 98 = .ok (.getfield 176, 3) := by decide +kernel
theorem dX9_letterOf_101 : decode cX9_letterOf 101 = .ok (.iload 5, 2) := by decide +kernel
theorem dX9_letterOf_103 : decode cX9_letterOf 103 = .ok (.invokevirtual 114, 3) := by decide +kernel
theorem dX9_letterOf_106 : decode cX9_letterOf 106 = .ok (.invokestatic 179, 3) := by decide +kernel
theorem dX9_letterOf_109 : decode cX9_letterOf 109 = .ok (.ireturn, 1) := by decide +kernel
theorem dX9_letterOf_110 : decode cX9_letterOf 110 = .ok (.iload 6, 2) := by decide +kernel
theorem dX9_letterOf_112 : decode cX9_letterOf 112 = .ok (.ireturn, 1) := by decide +kernel
theorem dX9_letterOf_113 : decode cX9_letterOf 113 = .ok (.aload 4, 2) := by decide +kernel
theorem dX9_letterOf_115 : decode cX9_letterOf 115 = .ok (.getfield 182, 3) := by decide +kernel
theorem dX9_letterOf_118 : decode cX9_letterOf 118 = .ok (.iload 5, 2) := by decide +kernel
theorem dX9_letterOf_120 : decode cX9_letterOf 120 = .ok (.invokevirtual 114, 3) := by decide +kernel
theorem dX9_letterOf_123 : decode cX9_letterOf 123 = .ok (.ireturn, 1) := by decide +kernel
theorem dX9_letterOf_124 : decode cX9_letterOf 124 = .ok (.iload 6, 2) := by decide +kernel
theorem dX9_letterOf_126 : decode cX9_letterOf 126 = .ok (.iconst 2, 1) := by decide +kernel
theorem dX9_letterOf_127 : decode cX9_letterOf 127 = .ok (.if_icmp .ge 8, 3) := by decide +kernel
theorem dX9_letterOf_130 : decode cX9_letterOf 130 = .ok (.ldc 122, 2) := by decide +kernel
theorem dX9_letterOf_132 : decode cX9_letterOf 132 = .ok (.goto 13, 3) := by decide +kernel
theorem dX9_letterOf_135 : decode cX9_letterOf 135 = .ok (.aload 4, 2) := by decide +kernel
theorem dX9_letterOf_137 : decode cX9_letterOf 137 = .ok (.getfield 185, 3) := by decide +kernel
theorem dX9_letterOf_140 : decode cX9_letterOf 140 = .ok (.iload 5, 2) := by decide +kernel
theorem dX9_letterOf_142 : decode cX9_letterOf 142 = .ok (.invokevirtual 114, 3) := by decide +kernel
theorem dX9_letterOf_145 : decode cX9_letterOf 145 = .ok (.ireturn, 1) := by decide +kernel
theorem dX9_letterOf_146 : decode cX9_letterOf 146 = .ok (.iload 6, 2) := by decide +kernel
theorem dX9_letterOf_148 : decode cX9_letterOf 148 = .ok (.iconst 2, 1) := by decide +kernel
theorem dX9_letterOf_149 : decode cX9_letterOf 149 = .ok (.if_icmp .eq 8, 3) := by decide +kernel
theorem dX9_letterOf_152 : decode cX9_letterOf 152 = .ok (.ldc 122, 2) := by decide +kernel
theorem dX9_letterOf_154 : decode cX9_letterOf 154 = .ok (.goto 10, 3) := by decide +kernel
theorem dX9_letterOf_157 : decode cX9_letterOf 157 = .ok (.aload 4, 2) := by decide +kernel
theorem dX9_letterOf_159 : decode cX9_letterOf 159 = .ok (.iload 5, 2) := by decide +kernel
theorem dX9_letterOf_161 : decode cX9_letterOf 161 = .ok (.invokevirtual 188, 3) := by decide +kernel
theorem dX9_letterOf_164 : decode cX9_letterOf 164 = .ok (.ireturn, 1) := by decide +kernel
theorem dX9_letterOf_165 : decode cX9_letterOf 165 = .ok (.ldc 68, 2) := by decide +kernel
theorem dX9_letterOf_167 : decode cX9_letterOf 167 = .ok (.ireturn, 1) := by decide +kernel
theorem dX9_tableOf_0 : decode cX9_tableOf 0 = .ok (.iload_n 1, 1) := by decide +kernel
theorem dX9_tableOf_1 : decode cX9_tableOf 1 = .ok (.invokestatic 69, 3) := by decide +kernel
theorem dX9_tableOf_4 : decode cX9_tableOf 4 = .ok (.ifCond .eq 14, 3) := by decide +kernel
theorem dX9_tableOf_7 : decode cX9_tableOf 7 = .ok (.aload_n 0, 1) := by decide +kernel
theorem dX9_tableOf_8 : decode cX9_tableOf 8 = .ok (.getfield 10, 3) := by decide +kernel
theorem dX9_tableOf_11 : decode cX9_tableOf 11 = .ok (.iload_n 1, 1) := by decide +kernel
theorem dX9_tableOf_12 : decode cX9_tableOf 12 = .ok (.invokevirtual 77, 3) := by decide +kernel
theorem dX9_tableOf_15 : decode cX9_tableOf 15 = .ok (.goto 5, 3) := by decide +kernel
theorem dX9_tableOf_18 : decode cX9_tableOf 18 = .ok (.ldc 68, 2) := by decide +kernel
theorem dX9_tableOf_20 : decode cX9_tableOf 20 = .ok (.ireturn, 1) := by decide +kernel
theorem dX9_count_0 : decode cX9_count 0 = .ok (.iload_n 1, 1) := by decide +kernel
theorem dX9_count_1 : decode cX9_count 1 = .ok (.tableswitch 156 0 7 #[47, 55, 66, 77, 98, 106, 127, 148], 47) := by decide +kernel
theorem dX9_count_48 : decode cX9_count 48 = .ok (.aload_n 0, 1) := by decide +kernel
theorem dX9_count_49 : decode cX9_count 49 = .ok (.getfield 10, 3) := by decide +kernel
theorem dX9_count_52 : decode cX9_count 52 = .ok (.getfield 85, 3) := by decide +kernel
theorem dX9_count_55 : decode cX9_count 55 = .ok (.ireturn, 1) := by decide +kernel
theorem dX9_count_56 : decode cX9_count 56 = .ok (.aload_n 0, 1) := by decide +kernel
theorem dX9_count_57 : decode cX9_count 57 = .ok (.getfield 29, 3) := by decide +kernel
theorem dX9_count_60 : decode cX9_count 60 = .ok (.getfield 139, 3) := by decide +kernel
theorem dX9_count_63 : decode cX9_count 63 = .ok (.getfield 236, 3) := by decide +kernel
theorem dX9_count_66 : decode cX9_count 66 = .ok (.ireturn, 1) := by decide +kernel
theorem dX9_count_67 : decode cX9_count 67 = .ok (.aload_n 0, 1) := by decide +kernel
theorem dX9_count_68 : decode cX9_count 68 = .ok (.getfield 29, 3) := by decide +kernel
theorem dX9_count_71 : decode cX9_count 71 = .ok (.getfield 164, 3) := by decide +kernel
theorem dX9_count_74 : decode cX9_count 74 = .ok (.getfield 239, 3) := by decide +kernel
theorem dX9_count_77 : decode cX9_count 77 = .ok (.ireturn, 1) := by decide +kernel
theorem dX9_count_78 : decode cX9_count 78 = .ok (.aload_n 0, 1) := by decide +kernel
theorem dX9_count_79 : decode cX9_count 79 = .ok (.getfield 29, 3) := by decide +kernel
theorem dX9_count_82 : decode cX9_count 82 = .ok (.getfield 139, 3) := by decide +kernel
theorem dX9_count_85 : decode cX9_count 85 = .ok (.aload_n 0, 1) := by decide +kernel
theorem dX9_count_86 : decode cX9_count 86 = .ok (.getfield 29, 3) := by decide +kernel
theorem dX9_count_89 : decode cX9_count 89 = .ok (.getfield 139, 3) := by decide +kernel
theorem dX9_count_92 : decode cX9_count 92 = .ok (.getfield 143, 3) := by decide +kernel
theorem dX9_count_95 : decode cX9_count 95 = .ok (.invokevirtual 240, 3) := by decide +kernel
theorem dX9_count_98 : decode cX9_count 98 = .ok (.ireturn, 1) := by decide +kernel
theorem dX9_count_99 : decode cX9_count 99 = .ok (.aload_n 0, 1) := by decide +kernel
theorem dX9_count_100 : decode cX9_count 100 = .ok (.getfield 29, 3) := by decide +kernel
theorem dX9_count_103 : decode cX9_count 103 = .ok (.getfield 244, 3) := by decide +kernel
theorem dX9_count_106 : decode cX9_count 106 = .ok (.ireturn, 1) := by decide +kernel
theorem dX9_count_107 : decode cX9_count 107 = .ok (.aload_n 0, 1) := by decide +kernel
theorem dX9_count_108 : decode cX9_count 108 = .ok (.getfield 29, 3) := by decide +kernel
theorem dX9_count_111 : decode cX9_count 111 = .ok (.getfield 139, 3) := by decide +kernel
theorem dX9_count_114 : decode cX9_count 114 = .ok (.aload_n 0, 1) := by decide +kernel
theorem dX9_count_115 : decode cX9_count 115 = .ok (.getfield 29, 3) := by decide +kernel
theorem dX9_count_118 : decode cX9_count 118 = .ok (.getfield 139, 3) := by decide +kernel
theorem dX9_count_121 : decode cX9_count 121 = .ok (.getfield 151, 3) := by decide +kernel
theorem dX9_count_124 : decode cX9_count 124 = .ok (.invokevirtual 240, 3) := by decide +kernel
theorem dX9_count_127 : decode cX9_count 127 = .ok (.ireturn, 1) := by decide +kernel
theorem dX9_count_128 : decode cX9_count 128 = .ok (.aload_n 0, 1) := by decide +kernel
theorem dX9_count_129 : decode cX9_count 129 = .ok (.getfield 29, 3) := by decide +kernel
theorem dX9_count_132 : decode cX9_count 132 = .ok (.getfield 139, 3) := by decide +kernel
theorem dX9_count_135 : decode cX9_count 135 = .ok (.aload_n 0, 1) := by decide +kernel
theorem dX9_count_136 : decode cX9_count 136 = .ok (.getfield 29, 3) := by decide +kernel
theorem dX9_count_139 : decode cX9_count 139 = .ok (.getfield 139, 3) := by decide +kernel
theorem dX9_count_142 : decode cX9_count 142 = .ok (.getfield 161, 3) := by decide +kernel
theorem dX9_count_145 : decode cX9_count 145 = .ok (.invokevirtual 240, 3) := by decide +kernel
theorem dX9_count_148 : decode cX9_count 148 = .ok (.ireturn, 1) := by decide +kernel
theorem dX9_count_149 : decode cX9_count 149 = .ok (.aload_n 0, 1) := by decide +kernel
theorem dX9_count_150 : decode cX9_count 150 = .ok (.getfield 29, 3) := by decide +kernel
theorem dX9_count_153 : decode cX9_count 153 = .ok (.invokevirtual 247, 3) := by decide +kernel
theorem dX9_count_156 : decode cX9_count 156 = .ok (.ireturn, 1) := by decide +kernel
theorem dX9_count_157 : decode cX9_count 157 = .ok (.aload_n 0, 1) := by decide +kernel
theorem dX9_count_158 : decode cX9_count 158 = .ok (.iload_n 1, 1) := by decide +kernel
theorem dX9_count_159 : decode cX9_count 159 = .ok (.invokevirtual 250, 3) := by decide +kernel
theorem dX9_count_162 : decode cX9_count 162 = .ok (.ireturn, 1) := by decide +kernel
theorem dX9_isLetter_0 : decode cX9_isLetter 0 = .ok (.iload_n 0, 1) := by decide +kernel
theorem dX9_isLetter_1 : decode cX9_isLetter 1 = .ok (.ifCond .lt 13, 3) := by decide +kernel
theorem dX9_isLetter_4 : decode cX9_isLetter 4 = .ok (.iload_n 0, 1) := by decide +kernel
theorem dX9_isLetter_5 : decode cX9_isLetter 5 = .ok (.bipush 25, 2) := by decide +kernel
theorem dX9_isLetter_7 : decode cX9_isLetter 7 = .ok (.if_icmp .ge 7, 3) := by decide +kernel
theorem dX9_isLetter_10 : decode cX9_isLetter 10 = .ok (.iconst 1, 1) := by decide +kernel
theorem dX9_isLetter_11 : decode cX9_isLetter 11 = .ok (.goto 4, 3) := by decide +kernel
theorem dX9_isLetter_14 : decode cX9_isLetter 14 = .ok (.iconst 0, 1) := by decide +kernel
theorem dX9_isLetter_15 : decode cX9_isLetter 15 = .ok (.ireturn, 1) := by decide +kernel
theorem dX9_orNotFound_0 : decode cX9_orNotFound 0 = .ok (.iload_n 0, 1) := by decide +kernel
theorem dX9_orNotFound_1 : decode cX9_orNotFound 1 = .ok (.iconst (-1), 1) := by decide +kernel
theorem dX9_orNotFound_2 : decode cX9_orNotFound 2 = .ok (.if_icmp .ne 8, 3) := by decide +kernel
theorem dX9_orNotFound_5 : decode cX9_orNotFound 5 = .ok (.ldc 122, 2) := by decide +kernel
theorem dX9_orNotFound_7 : decode cX9_orNotFound 7 = .ok (.goto 4, 3) := by decide +kernel
theorem dX9_orNotFound_10 : decode cX9_orNotFound 10 = .ok (.iload_n 0, 1) := by decide +kernel
theorem dX9_orNotFound_11 : decode cX9_orNotFound 11 = .ok (.ireturn, 1) := by decide +kernel
theorem dX9_countOfState_0 : decode cX9_countOfState 0 = .ok (.iload_n 1, 1) := by decide +kernel
theorem dX9_countOfState_1 : decode cX9_countOfState 1 = .ok (.tableswitch 142 8 21 #[71, 87, 110, 118, 142, 142, 142, 142, 142, 142, 142, 142, 126, 134], 71) := by decide +kernel
theorem dX9_countOfState_72 : decode cX9_countOfState 72 = .ok (.aload_n 0, 1) := by decide +kernel
theorem dX9_countOfState_73 : decode cX9_countOfState 73 = .ok (.getfield 10, 3) := by decide +kernel
theorem dX9_countOfState_76 : decode cX9_countOfState 76 = .ok (.getfield 92, 3) := by decide +kernel
theorem dX9_countOfState_79 : decode cX9_countOfState 79 = .ok (.ifCond .eq 7, 3) := by decide +kernel
theorem dX9_countOfState_82 : decode cX9_countOfState 82 = .ok (.iconst 1, 1) := by decide +kernel
theorem dX9_countOfState_83 : decode cX9_countOfState 83 = .ok (.goto 4, 3) := by decide +kernel
theorem dX9_countOfState_86 : decode cX9_countOfState 86 = .ok (.iconst 0, 1) := by decide +kernel
theorem dX9_countOfState_87 : decode cX9_countOfState 87 = .ok (.ireturn, 1) := by decide +kernel
theorem dX9_countOfState_88 : decode cX9_countOfState 88 = .ok (.aload_n 0, 1) := by decide +kernel
theorem dX9_countOfState_89 : decode cX9_countOfState 89 = .ok (.getfield 10, 3) := by decide +kernel
theorem dX9_countOfState_92 : decode cX9_countOfState 92 = .ok (.getfield 85, 3) := by decide +kernel
theorem dX9_countOfState_95 : decode cX9_countOfState 95 = .ok (.ifCond .ne 8, 3) := by decide +kernel
theorem dX9_countOfState_98 : decode cX9_countOfState 98 = .ok (.ldc 122, 2) := by decide +kernel
theorem dX9_countOfState_100 : decode cX9_countOfState 100 = .ok (.goto 10, 3) := by decide +kernel
theorem dX9_countOfState_103 : decode cX9_countOfState 103 = .ok (.aload_n 0, 1) := by decide +kernel
theorem dX9_countOfState_104 : decode cX9_countOfState 104 = .ok (.getfield 10, 3) := by decide +kernel
theorem dX9_countOfState_107 : decode cX9_countOfState 107 = .ok (.invokevirtual 278, 3) := by decide +kernel
theorem dX9_countOfState_110 : decode cX9_countOfState 110 = .ok (.ireturn, 1) := by decide +kernel
theorem dX9_countOfState_111 : decode cX9_countOfState 111 = .ok (.aload_n 0, 1) := by decide +kernel
theorem dX9_countOfState_112 : decode cX9_countOfState 112 = .ok (.getfield 22, 3) := by decide +kernel
theorem dX9_countOfState_115 : decode cX9_countOfState 115 = .ok (.getfield 253, 3) := by decide +kernel
theorem dX9_countOfState_118 : decode cX9_countOfState 118 = .ok (.ireturn, 1) := by decide +kernel
theorem dX9_countOfState_119 : decode cX9_countOfState 119 = .ok (.aload_n 0, 1) := by decide +kernel
theorem dX9_countOfState_120 : decode cX9_countOfState 120 = .ok (.getfield 50, 3) := by decide +kernel
theorem dX9_countOfState_123 : decode cX9_countOfState 123 = .ok (.getfield 259, 3) := by decide +kernel
theorem dX9_countOfState_126 : decode cX9_countOfState 126 = .ok (.ireturn, 1) := by decide +kernel
theorem dX9_countOfState_127 : decode cX9_countOfState 127 = .ok (.aload_n 0, 1) := by decide +kernel
theorem dX9_countOfState_128 : decode cX9_countOfState 128 = .ok (.getfield 10, 3) := by decide +kernel
theorem dX9_countOfState_131 : decode cX9_countOfState 131 = .ok (.getfield 54, 3) := by decide +kernel
theorem dX9_countOfState_134 : decode cX9_countOfState 134 = .ok (.ireturn, 1) := by decide +kernel
theorem dX9_countOfState_135 : decode cX9_countOfState 135 = .ok (.aload_n 0, 1) := by decide +kernel
theorem dX9_countOfState_136 : decode cX9_countOfState 136 = .ok (.getfield 10, 3) := by decide +kernel
theorem dX9_countOfState_139 : decode cX9_countOfState 139 = .ok (.getfield 65, 3) := by decide +kernel
theorem dX9_countOfState_142 : decode cX9_countOfState 142 = .ok (.ireturn, 1) := by decide +kernel
theorem dX9_countOfState_143 : decode cX9_countOfState 143 = .ok (.ldc 68, 2) := by decide +kernel
theorem dX9_countOfState_145 : decode cX9_countOfState 145 = .ok (.ireturn, 1) := by decide +kernel
theorem dJ9_floorMod_7cf53_0 : decode cJ9_floorMod_7cf53 0 = .ok (.iload_n 0, 1) := by decide +kernel
theorem dJ9_floorMod_7cf53_1 : decode cJ9_floorMod_7cf53 1 = .ok (.iload_n 1, 1) := by decide +kernel
theorem dJ9_floorMod_7cf53_2 : decode cJ9_floorMod_7cf53 2 = .ok (.irem, 1) := by decide +kernel
theorem dJ9_floorMod_7cf53_3 : decode cJ9_floorMod_7cf53 3 = .ok (.istore_n 2, 1) := by decide +kernel
theorem dJ9_floorMod_7cf53_4 : decode cJ9_floorMod_7cf53 4 = .ok (.iload_n 0, 1) := by decide +kernel
theorem dJ9_floorMod_7cf53_5 : decode cJ9_floorMod_7cf53 5 = .ok (.iload_n 1, 1) := by decide +kernel
theorem dJ9_floorMod_7cf53_6 : decode cJ9_floorMod_7cf53 6 = .ok (.ixor, 1) := by decide +kernel
theorem dJ9_floorMod_7cf53_7 : decode cJ9_floorMod_7cf53 7 = .ok (.ifCond .ge 11, 3) := by decide +kernel
theorem dJ9_floorMod_7cf53_10 : decode cJ9_floorMod_7cf53 10 = .ok (.iload_n 2, 1) := by decide +kernel
theorem dJ9_floorMod_7cf53_11 : decode cJ9_floorMod_7cf53 11 = .ok (.ifCond .eq 7, 3) := by decide +kernel
theorem dJ9_floorMod_7cf53_14 : decode cJ9_floorMod_7cf53 14 = .ok (.iload_n 2, 1) := by decide +kernel
theorem dJ9_floorMod_7cf53_15 : decode cJ9_floorMod_7cf53 15 = .ok (.iload_n 1, 1) := by decide +kernel
theorem dJ9_floorMod_7cf53_16 : decode cJ9_floorMod_7cf53 16 = .ok (.iadd, 1) := by decide +kernel
theorem dJ9_floorMod_7cf53_17 : decode cJ9_floorMod_7cf53 17 = .ok (.ireturn, 1) := by decide +kernel
theorem dJ9_floorMod_7cf53_18 : decode cJ9_floorMod_7cf53 18 = .ok (.iload_n 2, 1) := by decide +kernel
theorem dJ9_floorMod_7cf53_19 : decode cJ9_floorMod_7cf53 19 = .ok (.ireturn, 1) := by decide +kernel
theorem dL_cell_0 : decode cL_cell 0 = .ok (.iload_n 1, 1) := by decide +kernel
theorem dL_cell_1 : decode cL_cell 1 = .ok (.aload_n 0, 1) := by decide +kernel
theorem dL_cell_2 : decode cL_cell 2 = .ok (.arraylength, 1) := by decide +kernel
theorem dL_cell_3 : decode cL_cell 3 = .ok (.if_icmp .ge 9, 3) := by decide +kernel
theorem dL_cell_6 : decode cL_cell 6 = .ok (.aload_n 0, 1) := by decide +kernel
theorem dL_cell_7 : decode cL_cell 7 = .ok (.iload_n 1, 1) := by decide +kernel
theorem dL_cell_8 : decode cL_cell 8 = .ok (.iaload, 1) := by decide +kernel
theorem dL_cell_9 : decode cL_cell 9 = .ok (.goto 9, 3) := by decide +kernel
theorem dL_cell_12 : decode cL_cell 12 = .ok (.ldc 7, 2) := by decide +kernel
theorem dL_cell_14 : decode cL_cell 14 = .ok (.iload_n 1, 1) := by decide +kernel
theorem dL_cell_15 : decode cL_cell 15 = .ok (.iconst 3, 1) := by decide +kernel
theorem dL_cell_16 : decode cL_cell 16 = .ok (.iadd, 1) := by decide +kernel
theorem dL_cell_17 : decode cL_cell 17 = .ok (.imul, 1) := by decide +kernel
theorem dL_cell_18 : decode cL_cell 18 = .ok (.ireturn, 1) := by decide +kernel
theorem dL_low_0 : decode cL_low 0 = .ok (.iload_n 0, 1) := by decide +kernel
theorem dL_low_1 : decode cL_low 1 = .ok (.ldc 8, 2) := by decide +kernel
theorem dL_low_3 : decode cL_low 3 = .ok (.iand, 1) := by decide +kernel
theorem dL_low_4 : decode cL_low 4 = .ok (.iload_n 1, 1) := by decide +kernel
theorem dL_low_5 : decode cL_low 5 = .ok (.irem, 1) := by decide +kernel
theorem dL_low_6 : decode cL_low 6 = .ok (.ireturn, 1) := by decide +kernel
theorem dL_at_0 : decode cL_at 0 = .ok (.iconst 0, 1) := by decide +kernel
theorem dL_at_1 : decode cL_at 1 = .ok (.istore_n 3, 1) := by decide +kernel
theorem dL_at_2 : decode cL_at 2 = .ok (.iload_n 3, 1) := by decide +kernel
theorem dL_at_3 : decode cL_at 3 = .ok (.bipush 25, 2) := by decide +kernel
theorem dL_at_5 : decode cL_at 5 = .ok (.if_icmp .ge 25, 3) := by decide +kernel
theorem dL_at_8 : decode cL_at 8 = .ok (.aload_n 0, 1) := by decide +kernel
theorem dL_at_9 : decode cL_at 9 = .ok (.iload_n 3, 1) := by decide +kernel
theorem dL_at_10 : decode cL_at 10 = .ok (.iaload, 1) := by decide +kernel
theorem dL_at_11 : decode cL_at 11 = .ok (.iconst 5, 1) := by decide +kernel
theorem dL_at_12 : decode cL_at 12 = .ok (.iload_n 1, 1) := by decide +kernel
theorem dL_at_13 : decode cL_at 13 = .ok (.imul, 1) := by decide +kernel
theorem dL_at_14 : decode cL_at 14 = .ok (.iload_n 2, 1) := by decide +kernel
theorem dL_at_15 : decode cL_at 15 = .ok (.iadd, 1) := by decide +kernel
theorem dL_at_16 : decode cL_at 16 = .ok (.bipush 6, 2) := by decide +kernel
theorem dL_at_18 : decode cL_at 18 = .ok (.isub, 1) := by decide +kernel
theorem dL_at_19 : decode cL_at 19 = .ok (.if_icmp .ne 5, 3) := by decide +kernel
theorem dL_at_22 : decode cL_at 22 = .ok (.iload_n 3, 1) := by decide +kernel
theorem dL_at_23 : decode cL_at 23 = .ok (.ireturn, 1) := by decide +kernel
theorem dL_at_24 : decode cL_at 24 = .ok (.iinc 3 1, 3) := by decide +kernel
theorem dL_at_27 : decode cL_at 27 = .ok (.goto (-25), 3) := by decide +kernel
theorem dL_at_30 : decode cL_at 30 = .ok (.iconst (-1), 1) := by decide +kernel
theorem dL_at_31 : decode cL_at 31 = .ok (.ireturn, 1) := by decide +kernel
theorem dL_kind_0 : decode cL_kind 0 = .ok (.iconst 4, 1) := by decide +kernel
theorem dL_kind_1 : decode cL_kind 1 = .ok (.iload_n 1, 1) := by decide +kernel
theorem dL_kind_2 : decode cL_kind 2 = .ok (.imul, 1) := by decide +kernel
theorem dL_kind_3 : decode cL_kind 3 = .ok (.istore_n 2, 1) := by decide +kernel
theorem dL_kind_4 : decode cL_kind 4 = .ok (.iload_n 2, 1) := by decide +kernel
theorem dL_kind_5 : decode cL_kind 5 = .ok (.iconst 3, 1) := by decide +kernel
theorem dL_kind_6 : decode cL_kind 6 = .ok (.aload_n 0, 1) := by decide +kernel
theorem dL_kind_7 : decode cL_kind 7 = .ok (.iconst 0, 1) := by decide +kernel
theorem dL_kind_8 : decode cL_kind 8 = .ok (.iaload, 1) := by decide +kernel
theorem dL_kind_9 : decode cL_kind 9 = .ok (.imul, 1) := by decide +kernel
theorem dL_kind_10 : decode cL_kind 10 = .ok (.if_icmp .ge 7, 3) := by decide +kernel
theorem dL_kind_13 : decode cL_kind 13 = .ok (.iconst 0, 1) := by decide +kernel
theorem dL_kind_14 : decode cL_kind 14 = .ok (.goto 60, 3) := by decide +kernel
theorem dL_kind_17 : decode cL_kind 17 = .ok (.iload_n 2, 1) := by decide +kernel
theorem dL_kind_18 : decode cL_kind 18 = .ok (.bipush 6, 2) := by decide +kernel
theorem dL_kind_20 : decode cL_kind 20 = .ok (.aload_n 0, 1) := by decide +kernel
theorem dL_kind_21 : decode cL_kind 21 = .ok (.iconst 0, 1) := by decide +kernel
theorem dL_kind_22 : decode cL_kind 22 = .ok (.iaload, 1) := by decide +kernel
theorem dL_kind_23 : decode cL_kind 23 = .ok (.imul, 1) := by decide +kernel
theorem dL_kind_24 : decode cL_kind 24 = .ok (.if_icmp .ge 7, 3) := by decide +kernel
theorem dL_kind_27 : decode cL_kind 27 = .ok (.iconst 1, 1) := by decide +kernel
theorem dL_kind_28 : decode cL_kind 28 = .ok (.goto 46, 3) := by decide +kernel
theorem dL_kind_31 : decode cL_kind 31 = .ok (.iload_n 2, 1) := by decide +kernel
theorem dL_kind_32 : decode cL_kind 32 = .ok (.bipush 10, 2) := by decide +kernel
theorem dL_kind_34 : decode cL_kind 34 = .ok (.aload_n 0, 1) := by decide +kernel
theorem dL_kind_35 : decode cL_kind 35 = .ok (.iconst 0, 1) := by decide +kernel
theorem dL_kind_36 : decode cL_kind 36 = .ok (.iaload, 1) := by decide +kernel
theorem dL_kind_37 : decode cL_kind 37 = .ok (.imul, 1) := by decide +kernel
theorem dL_kind_38 : decode cL_kind 38 = .ok (.if_icmp .ge 7, 3) := by decide +kernel
theorem dL_kind_41 : decode cL_kind 41 = .ok (.iconst 2, 1) := by decide +kernel
theorem dL_kind_42 : decode cL_kind 42 = .ok (.goto 32, 3) := by decide +kernel
theorem dL_kind_45 : decode cL_kind 45 = .ok (.iload_n 2, 1) := by decide +kernel
theorem dL_kind_46 : decode cL_kind 46 = .ok (.bipush 18, 2) := by decide +kernel
theorem dL_kind_48 : decode cL_kind 48 = .ok (.aload_n 0, 1) := by decide +kernel
theorem dL_kind_49 : decode cL_kind 49 = .ok (.iconst 0, 1) := by decide +kernel
theorem dL_kind_50 : decode cL_kind 50 = .ok (.iaload, 1) := by decide +kernel
theorem dL_kind_51 : decode cL_kind 51 = .ok (.imul, 1) := by decide +kernel
theorem dL_kind_52 : decode cL_kind 52 = .ok (.if_icmp .ge 7, 3) := by decide +kernel
theorem dL_kind_55 : decode cL_kind 55 = .ok (.iconst 3, 1) := by decide +kernel
theorem dL_kind_56 : decode cL_kind 56 = .ok (.goto 18, 3) := by decide +kernel
theorem dL_kind_59 : decode cL_kind 59 = .ok (.iload_n 2, 1) := by decide +kernel
theorem dL_kind_60 : decode cL_kind 60 = .ok (.bipush 32, 2) := by decide +kernel
theorem dL_kind_62 : decode cL_kind 62 = .ok (.aload_n 0, 1) := by decide +kernel
theorem dL_kind_63 : decode cL_kind 63 = .ok (.iconst 0, 1) := by decide +kernel
theorem dL_kind_64 : decode cL_kind 64 = .ok (.iaload, 1) := by decide +kernel
theorem dL_kind_65 : decode cL_kind 65 = .ok (.imul, 1) := by decide +kernel
theorem dL_kind_66 : decode cL_kind 66 = .ok (.if_icmp .ge 7, 3) := by decide +kernel
theorem dL_kind_69 : decode cL_kind 69 = .ok (.iconst 4, 1) := by decide +kernel
theorem dL_kind_70 : decode cL_kind 70 = .ok (.goto 4, 3) := by decide +kernel
theorem dL_kind_73 : decode cL_kind 73 = .ok (.iconst 5, 1) := by decide +kernel
theorem dL_kind_74 : decode cL_kind 74 = .ok (.ireturn, 1) := by decide +kernel
theorem dL_doubt_0 : decode cL_doubt 0 = .ok (.aload_n 0, 1) := by decide +kernel
theorem dL_doubt_1 : decode cL_doubt 1 = .ok (.iload_n 1, 1) := by decide +kernel
theorem dL_doubt_2 : decode cL_doubt 2 = .ok (.invokestatic 9, 3) := by decide +kernel
theorem dL_doubt_5 : decode cL_doubt 5 = .ok (.aload_n 0, 1) := by decide +kernel
theorem dL_doubt_6 : decode cL_doubt 6 = .ok (.iload_n 1, 1) := by decide +kernel
theorem dL_doubt_7 : decode cL_doubt 7 = .ok (.aload_n 0, 1) := by decide +kernel
theorem dL_doubt_8 : decode cL_doubt 8 = .ok (.iconst 1, 1) := by decide +kernel
theorem dL_doubt_9 : decode cL_doubt 9 = .ok (.iaload, 1) := by decide +kernel
theorem dL_doubt_10 : decode cL_doubt 10 = .ok (.isub, 1) := by decide +kernel
theorem dL_doubt_11 : decode cL_doubt 11 = .ok (.invokestatic 9, 3) := by decide +kernel
theorem dL_doubt_14 : decode cL_doubt 14 = .ok (.if_icmp .ne 20, 3) := by decide +kernel
theorem dL_doubt_17 : decode cL_doubt 17 = .ok (.aload_n 0, 1) := by decide +kernel
theorem dL_doubt_18 : decode cL_doubt 18 = .ok (.iload_n 1, 1) := by decide +kernel
theorem dL_doubt_19 : decode cL_doubt 19 = .ok (.invokestatic 9, 3) := by decide +kernel
theorem dL_doubt_22 : decode cL_doubt 22 = .ok (.aload_n 0, 1) := by decide +kernel
theorem dL_doubt_23 : decode cL_doubt 23 = .ok (.iload_n 1, 1) := by decide +kernel
theorem dL_doubt_24 : decode cL_doubt 24 = .ok (.aload_n 0, 1) := by decide +kernel
theorem dL_doubt_25 : decode cL_doubt 25 = .ok (.iconst 1, 1) := by decide +kernel
theorem dL_doubt_26 : decode cL_doubt 26 = .ok (.iaload, 1) := by decide +kernel
theorem dL_doubt_27 : decode cL_doubt 27 = .ok (.iadd, 1) := by decide +kernel
theorem dL_doubt_28 : decode cL_doubt 28 = .ok (.invokestatic 9, 3) := by decide +kernel
theorem dL_doubt_31 : decode cL_doubt 31 = .ok (.if_icmp .eq 7, 3) := by decide +kernel
theorem dL_doubt_34 : decode cL_doubt 34 = .ok (.iconst 1, 1) := by decide +kernel
theorem dL_doubt_35 : decode cL_doubt 35 = .ok (.goto 4, 3) := by decide +kernel
theorem dL_doubt_38 : decode cL_doubt 38 = .ok (.iconst 0, 1) := by decide +kernel
theorem dL_doubt_39 : decode cL_doubt 39 = .ok (.ireturn, 1) := by decide +kernel
theorem dL_read_0 : decode cL_read 0 = .ok (.iconst 0, 1) := by decide +kernel
theorem dL_read_1 : decode cL_read 1 = .ok (.istore 9, 2) := by decide +kernel
theorem dL_read_3 : decode cL_read 3 = .ok (.iconst (-1), 1) := by decide +kernel
theorem dL_read_4 : decode cL_read 4 = .ok (.istore 10, 2) := by decide +kernel
theorem dL_read_6 : decode cL_read 6 = .ok (.iconst 0, 1) := by decide +kernel
theorem dL_read_7 : decode cL_read 7 = .ok (.istore 11, 2) := by decide +kernel
theorem dL_read_9 : decode cL_read 9 = .ok (.iconst 0, 1) := by decide +kernel
theorem dL_read_10 : decode cL_read 10 = .ok (.istore 12, 2) := by decide +kernel
theorem dL_read_12 : decode cL_read 12 = .ok (.iload 12, 2) := by decide +kernel
theorem dL_read_14 : decode cL_read 14 = .ok (.aload_n 0, 1) := by decide +kernel
theorem dL_read_15 : decode cL_read 15 = .ok (.iconst 3, 1) := by decide +kernel
theorem dL_read_16 : decode cL_read 16 = .ok (.iaload, 1) := by decide +kernel
theorem dL_read_17 : decode cL_read 17 = .ok (.if_icmp .ge 202, 3) := by decide +kernel
theorem dL_read_20 : decode cL_read 20 = .ok (.aload_n 3, 1) := by decide +kernel
theorem dL_read_21 : decode cL_read 21 = .ok (.iload 12, 2) := by decide +kernel
theorem dL_read_23 : decode cL_read 23 = .ok (.aload_n 1, 1) := by decide +kernel
theorem dL_read_24 : decode cL_read 24 = .ok (.iload 12, 2) := by decide +kernel
theorem dL_read_26 : decode cL_read 26 = .ok (.iaload, 1) := by decide +kernel
theorem dL_read_27 : decode cL_read 27 = .ok (.iload 11, 2) := by decide +kernel
theorem dL_read_29 : decode cL_read 29 = .ok (.isub, 1) := by decide +kernel
theorem dL_read_30 : decode cL_read 30 = .ok (.iastore, 1) := by decide +kernel
theorem dL_read_31 : decode cL_read 31 = .ok (.aload_n 2, 1) := by decide +kernel
theorem dL_read_32 : decode cL_read 32 = .ok (.iload 12, 2) := by decide +kernel
theorem dL_read_34 : decode cL_read 34 = .ok (.iload 12, 2) := by decide +kernel
theorem dL_read_36 : decode cL_read 36 = .ok (.ifCond .ne 7, 3) := by decide +kernel
theorem dL_read_39 : decode cL_read 39 = .ok (.iconst 5, 1) := by decide +kernel
theorem dL_read_40 : decode cL_read 40 = .ok (.goto 11, 3) := by decide +kernel
theorem dL_read_43 : decode cL_read 43 = .ok (.aload_n 0, 1) := by decide +kernel
theorem dL_read_44 : decode cL_read 44 = .ok (.aload_n 3, 1) := by decide +kernel
theorem dL_read_45 : decode cL_read 45 = .ok (.iload 12, 2) := by decide +kernel
theorem dL_read_47 : decode cL_read 47 = .ok (.iaload, 1) := by decide +kernel
theorem dL_read_48 : decode cL_read 48 = .ok (.invokestatic 9, 3) := by decide +kernel
theorem dL_read_51 : decode cL_read 51 = .ok (.iastore, 1) := by decide +kernel
theorem dL_read_52 : decode cL_read 52 = .ok (.aload 4, 2) := by decide +kernel
theorem dL_read_54 : decode cL_read 54 = .ok (.iload 12, 2) := by decide +kernel
theorem dL_read_56 : decode cL_read 56 = .ok (.iload 10, 2) := by decide +kernel
theorem dL_read_58 : decode cL_read 58 = .ok (.iastore, 1) := by decide +kernel
theorem dL_read_59 : decode cL_read 59 = .ok (.aload_n 2, 1) := by decide +kernel
theorem dL_read_60 : decode cL_read 60 = .ok (.iload 12, 2) := by decide +kernel
theorem dL_read_62 : decode cL_read 62 = .ok (.iaload, 1) := by decide +kernel
theorem dL_read_63 : decode cL_read 63 = .ok (.ifCond .le 150, 3) := by decide +kernel
theorem dL_read_66 : decode cL_read 66 = .ok (.iload 10, 2) := by decide +kernel
theorem dL_read_68 : decode cL_read 68 = .ok (.aload_n 2, 1) := by decide +kernel
theorem dL_read_69 : decode cL_read 69 = .ok (.iload 12, 2) := by decide +kernel
theorem dL_read_71 : decode cL_read 71 = .ok (.iaload, 1) := by decide +kernel
theorem dL_read_72 : decode cL_read 72 = .ok (.iconst 5, 1) := by decide +kernel
theorem dL_read_73 : decode cL_read 73 = .ok (.if_icmp .ne 7, 3) := by decide +kernel
theorem dL_read_76 : decode cL_read 76 = .ok (.iconst 1, 1) := by decide +kernel
theorem dL_read_77 : decode cL_read 77 = .ok (.goto 4, 3) := by decide +kernel
theorem dL_read_80 : decode cL_read 80 = .ok (.iconst 0, 1) := by decide +kernel
theorem dL_read_81 : decode cL_read 81 = .ok (.iadd, 1) := by decide +kernel
theorem dL_read_82 : decode cL_read 82 = .ok (.istore 10, 2) := by decide +kernel
theorem dL_read_84 : decode cL_read 84 = .ok (.aload_n 2, 1) := by decide +kernel
theorem dL_read_85 : decode cL_read 85 = .ok (.iload 12, 2) := by decide +kernel
theorem dL_read_87 : decode cL_read 87 = .ok (.iaload, 1) := by decide +kernel
theorem dL_read_88 : decode cL_read 88 = .ok (.iconst 3, 1) := by decide +kernel
theorem dL_read_89 : decode cL_read 89 = .ok (.if_icmp .le 19, 3) := by decide +kernel
theorem dL_read_92 : decode cL_read 92 = .ok (.aload 7, 2) := by decide +kernel
theorem dL_read_94 : decode cL_read 94 = .ok (.iload 9, 2) := by decide +kernel
theorem dL_read_96 : decode cL_read 96 = .ok (.iload 10, 2) := by decide +kernel
theorem dL_read_98 : decode cL_read 98 = .ok (.iastore, 1) := by decide +kernel
theorem dL_read_99 : decode cL_read 99 = .ok (.aload 8, 2) := by decide +kernel
theorem dL_read_101 : decode cL_read 101 = .ok (.iload 9, 2) := by decide +kernel
theorem dL_read_103 : decode cL_read 103 = .ok (.iconst 0, 1) := by decide +kernel
theorem dL_read_104 : decode cL_read 104 = .ok (.iastore, 1) := by decide +kernel
theorem dL_read_105 : decode cL_read 105 = .ok (.iinc 9 1, 3) := by decide +kernel
theorem dL_read_108 : decode cL_read 108 = .ok (.aload 8, 2) := by decide +kernel
theorem dL_read_110 : decode cL_read 110 = .ok (.iload 9, 2) := by decide +kernel
theorem dL_read_112 : decode cL_read 112 = .ok (.iconst 1, 1) := by decide +kernel
theorem dL_read_113 : decode cL_read 113 = .ok (.isub, 1) := by decide +kernel
theorem dL_read_114 : decode cL_read 114 = .ok (.iaload, 1) := by decide +kernel
theorem dL_read_115 : decode cL_read 115 = .ok (.aload_n 2, 1) := by decide +kernel
theorem dL_read_116 : decode cL_read 116 = .ok (.iload 12, 2) := by decide +kernel
theorem dL_read_118 : decode cL_read 118 = .ok (.iaload, 1) := by decide +kernel
theorem dL_read_119 : decode cL_read 119 = .ok (.iconst 2, 1) := by decide +kernel
theorem dL_read_120 : decode cL_read 120 = .ok (.if_icmp .le 7, 3) := by decide +kernel
theorem dL_read_123 : decode cL_read 123 = .ok (.iconst 1, 1) := by decide +kernel
theorem dL_read_124 : decode cL_read 124 = .ok (.goto 4, 3) := by decide +kernel
theorem dL_read_127 : decode cL_read 127 = .ok (.iconst 0, 1) := by decide +kernel
theorem dL_read_128 : decode cL_read 128 = .ok (.iadd, 1) := by decide +kernel
theorem dL_read_129 : decode cL_read 129 = .ok (.istore 13, 2) := by decide +kernel
theorem dL_read_131 : decode cL_read 131 = .ok (.iload 13, 2) := by decide +kernel
theorem dL_read_133 : decode cL_read 133 = .ok (.sipush 255, 3) := by decide +kernel
theorem dL_read_136 : decode cL_read 136 = .ok (.iand, 1) := by decide +kernel
theorem dL_read_137 : decode cL_read 137 = .ok (.istore 14, 2) := by decide +kernel
theorem dL_read_139 : decode cL_read 139 = .ok (.iload 13, 2) := by decide +kernel
theorem dL_read_141 : decode cL_read 141 = .ok (.iload 14, 2) := by decide +kernel
theorem dL_read_143 : decode cL_read 143 = .ok (.iconst 2, 1) := by decide +kernel
theorem dL_read_144 : decode cL_read 144 = .ok (.if_icmp .le 7, 3) := by decide +kernel
theorem dL_read_147 : decode cL_read 147 = .ok (.iconst 0, 1) := by decide +kernel
theorem dL_read_148 : decode cL_read 148 = .ok (.goto 22, 3) := by decide +kernel
theorem dL_read_151 : decode cL_read 151 = .ok (.aload_n 2, 1) := by decide +kernel
theorem dL_read_152 : decode cL_read 152 = .ok (.iload 12, 2) := by decide +kernel
theorem dL_read_154 : decode cL_read 154 = .ok (.iaload, 1) := by decide +kernel
theorem dL_read_155 : decode cL_read 155 = .ok (.iconst 2, 1) := by decide +kernel
theorem dL_read_156 : decode cL_read 156 = .ok (.if_icmp .ne 7, 3) := by decide +kernel
theorem dL_read_159 : decode cL_read 159 = .ok (.iconst 2, 1) := by decide +kernel
theorem dL_read_160 : decode cL_read 160 = .ok (.goto 4, 3) := by decide +kernel
theorem dL_read_163 : decode cL_read 163 = .ok (.iconst 1, 1) := by decide +kernel
theorem dL_read_164 : decode cL_read 164 = .ok (.bipush 8, 2) := by decide +kernel
theorem dL_read_166 : decode cL_read 166 = .ok (.iload 14, 2) := by decide +kernel
theorem dL_read_168 : decode cL_read 168 = .ok (.imul, 1) := by decide +kernel
theorem dL_read_169 : decode cL_read 169 = .ok (.ishl, 1) := by decide +kernel
theorem dL_read_170 : decode cL_read 170 = .ok (.iadd, 1) := by decide +kernel
theorem dL_read_171 : decode cL_read 171 = .ok (.istore 13, 2) := by decide +kernel
theorem dL_read_173 : decode cL_read 173 = .ok (.aload 8, 2) := by decide +kernel
theorem dL_read_175 : decode cL_read 175 = .ok (.iload 9, 2) := by decide +kernel
theorem dL_read_177 : decode cL_read 177 = .ok (.iconst 1, 1) := by decide +kernel
theorem dL_read_178 : decode cL_read 178 = .ok (.isub, 1) := by decide +kernel
theorem dL_read_179 : decode cL_read 179 = .ok (.iload 13, 2) := by decide +kernel
theorem dL_read_181 : decode cL_read 181 = .ok (.iastore, 1) := by decide +kernel
theorem dL_read_182 : decode cL_read 182 = .ok (.aload 4, 2) := by decide +kernel
theorem dL_read_184 : decode cL_read 184 = .ok (.iload 12, 2) := by decide +kernel
theorem dL_read_186 : decode cL_read 186 = .ok (.iload 10, 2) := by decide +kernel
theorem dL_read_188 : decode cL_read 188 = .ok (.iastore, 1) := by decide +kernel
theorem dL_read_189 : decode cL_read 189 = .ok (.aload 5, 2) := by decide +kernel
theorem dL_read_191 : decode cL_read 191 = .ok (.iload 12, 2) := by decide +kernel
theorem dL_read_193 : decode cL_read 193 = .ok (.iload 9, 2) := by decide +kernel
theorem dL_read_195 : decode cL_read 195 = .ok (.iconst 1, 1) := by decide +kernel
theorem dL_read_196 : decode cL_read 196 = .ok (.isub, 1) := by decide +kernel
theorem dL_read_197 : decode cL_read 197 = .ok (.iastore, 1) := by decide +kernel
theorem dL_read_198 : decode cL_read 198 = .ok (.aload 6, 2) := by decide +kernel
theorem dL_read_200 : decode cL_read 200 = .ok (.iload 12, 2) := by decide +kernel
theorem dL_read_202 : decode cL_read 202 = .ok (.iload 14, 2) := by decide +kernel
theorem dL_read_204 : decode cL_read 204 = .ok (.iconst 1, 1) := by decide +kernel
theorem dL_read_205 : decode cL_read 205 = .ok (.isub, 1) := by decide +kernel
theorem dL_read_206 : decode cL_read 206 = .ok (.iastore, 1) := by decide +kernel
theorem dL_read_207 : decode cL_read 207 = .ok (.aload_n 1, 1) := by decide +kernel
theorem dL_read_208 : decode cL_read 208 = .ok (.iload 12, 2) := by decide +kernel
theorem dL_read_210 : decode cL_read 210 = .ok (.iaload, 1) := by decide +kernel
theorem dL_read_211 : decode cL_read 211 = .ok (.istore 11, 2) := by decide +kernel
theorem dL_read_213 : decode cL_read 213 = .ok (.iinc 12 1, 3) := by decide +kernel
theorem dL_read_216 : decode cL_read 216 = .ok (.goto (-204), 3) := by decide +kernel
theorem dL_read_219 : decode cL_read 219 = .ok (.iload 9, 2) := by decide +kernel
theorem dL_read_221 : decode cL_read 221 = .ok (.ireturn, 1) := by decide +kernel
theorem dL_one_0 : decode cL_one 0 = .ok (.iload_n 0, 1) := by decide +kernel
theorem dL_one_1 : decode cL_one 1 = .ok (.bipush 8, 2) := by decide +kernel
theorem dL_one_3 : decode cL_one 3 = .ok (.ishr, 1) := by decide +kernel
theorem dL_one_4 : decode cL_one 4 = .ok (.sipush 255, 3) := by decide +kernel
theorem dL_one_7 : decode cL_one 7 = .ok (.iand, 1) := by decide +kernel
theorem dL_one_8 : decode cL_one 8 = .ok (.ireturn, 1) := by decide +kernel
theorem dL_two_0 : decode cL_two 0 = .ok (.iload_n 0, 1) := by decide +kernel
theorem dL_two_1 : decode cL_two 1 = .ok (.bipush 16, 2) := by decide +kernel
theorem dL_two_3 : decode cL_two 3 = .ok (.ishr, 1) := by decide +kernel
theorem dL_two_4 : decode cL_two 4 = .ok (.sipush 255, 3) := by decide +kernel
theorem dL_two_7 : decode cL_two 7 = .ok (.iand, 1) := by decide +kernel
theorem dL_two_8 : decode cL_two 8 = .ok (.ireturn, 1) := by decide +kernel
theorem dL_good_0 : decode cL_good 0 = .ok (.iload_n 0, 1) := by decide +kernel
theorem dL_good_1 : decode cL_good 1 = .ok (.sipush 255, 3) := by decide +kernel
theorem dL_good_4 : decode cL_good 4 = .ok (.iand, 1) := by decide +kernel
theorem dL_good_5 : decode cL_good 5 = .ok (.iconst 2, 1) := by decide +kernel
theorem dL_good_6 : decode cL_good 6 = .ok (.if_icmp .ne 39, 3) := by decide +kernel
theorem dL_good_9 : decode cL_good 9 = .ok (.iload_n 0, 1) := by decide +kernel
theorem dL_good_10 : decode cL_good 10 = .ok (.invokestatic 15, 3) := by decide +kernel
theorem dL_good_13 : decode cL_good 13 = .ok (.bipush 6, 2) := by decide +kernel
theorem dL_good_15 : decode cL_good 15 = .ok (.if_icmp .ge 30, 3) := by decide +kernel
theorem dL_good_18 : decode cL_good 18 = .ok (.iload_n 0, 1) := by decide +kernel
theorem dL_good_19 : decode cL_good 19 = .ok (.invokestatic 19, 3) := by decide +kernel
theorem dL_good_22 : decode cL_good 22 = .ok (.bipush 6, 2) := by decide +kernel
theorem dL_good_24 : decode cL_good 24 = .ok (.if_icmp .ge 21, 3) := by decide +kernel
theorem dL_good_27 : decode cL_good 27 = .ok (.iload_n 0, 1) := by decide +kernel
theorem dL_good_28 : decode cL_good 28 = .ok (.invokestatic 15, 3) := by decide +kernel
theorem dL_good_31 : decode cL_good 31 = .ok (.ifCond .le 14, 3) := by decide +kernel
theorem dL_good_34 : decode cL_good 34 = .ok (.iload_n 0, 1) := by decide +kernel
theorem dL_good_35 : decode cL_good 35 = .ok (.invokestatic 19, 3) := by decide +kernel
theorem dL_good_38 : decode cL_good 38 = .ok (.ifCond .le 7, 3) := by decide +kernel
theorem dL_good_41 : decode cL_good 41 = .ok (.iconst 1, 1) := by decide +kernel
theorem dL_good_42 : decode cL_good 42 = .ok (.goto 4, 3) := by decide +kernel
theorem dL_good_45 : decode cL_good 45 = .ok (.iconst 0, 1) := by decide +kernel
theorem dL_good_46 : decode cL_good 46 = .ok (.ireturn, 1) := by decide +kernel
theorem dL_letter_0 : decode cL_letter 0 = .ok (.iload_n 1, 1) := by decide +kernel
theorem dL_letter_1 : decode cL_letter 1 = .ok (.invokestatic 22, 3) := by decide +kernel
theorem dL_letter_4 : decode cL_letter 4 = .ok (.ifCond .eq 18, 3) := by decide +kernel
theorem dL_letter_7 : decode cL_letter 7 = .ok (.aload_n 0, 1) := by decide +kernel
theorem dL_letter_8 : decode cL_letter 8 = .ok (.iload_n 1, 1) := by decide +kernel
theorem dL_letter_9 : decode cL_letter 9 = .ok (.invokestatic 15, 3) := by decide +kernel
theorem dL_letter_12 : decode cL_letter 12 = .ok (.iload_n 1, 1) := by decide +kernel
theorem dL_letter_13 : decode cL_letter 13 = .ok (.invokestatic 19, 3) := by decide +kernel
theorem dL_letter_16 : decode cL_letter 16 = .ok (.invokestatic 26, 3) := by decide +kernel
theorem dL_letter_19 : decode cL_letter 19 = .ok (.goto 5, 3) := by decide +kernel
theorem dL_letter_22 : decode cL_letter 22 = .ok (.ldc 30, 2) := by decide +kernel
theorem dL_letter_24 : decode cL_letter 24 = .ok (.ireturn, 1) := by decide +kernel
theorem dL_first_0 : decode cL_first 0 = .ok (.iconst 0, 1) := by decide +kernel
theorem dL_first_1 : decode cL_first 1 = .ok (.istore_n 3, 1) := by decide +kernel
theorem dL_first_2 : decode cL_first 2 = .ok (.iload_n 3, 1) := by decide +kernel
theorem dL_first_3 : decode cL_first 3 = .ok (.iload_n 1, 1) := by decide +kernel
theorem dL_first_4 : decode cL_first 4 = .ok (.if_icmp .ge 16, 3) := by decide +kernel
theorem dL_first_7 : decode cL_first 7 = .ok (.aload_n 0, 1) := by decide +kernel
theorem dL_first_8 : decode cL_first 8 = .ok (.iload_n 3, 1) := by decide +kernel
theorem dL_first_9 : decode cL_first 9 = .ok (.iaload, 1) := by decide +kernel
theorem dL_first_10 : decode cL_first 10 = .ok (.iload_n 2, 1) := by decide +kernel
theorem dL_first_11 : decode cL_first 11 = .ok (.if_icmp .ge 9, 3) := by decide +kernel
theorem dL_first_14 : decode cL_first 14 = .ok (.iinc 3 1, 3) := by decide +kernel
theorem dL_first_17 : decode cL_first 17 = .ok (.goto (-15), 3) := by decide +kernel
theorem dL_first_20 : decode cL_first 20 = .ok (.iload_n 3, 1) := by decide +kernel
theorem dL_first_21 : decode cL_first 21 = .ok (.ireturn, 1) := by decide +kernel
theorem dL_right_0 : decode cL_right 0 = .ok (.iconst 0, 1) := by decide +kernel
theorem dL_right_1 : decode cL_right 1 = .ok (.istore 4, 2) := by decide +kernel
theorem dL_right_3 : decode cL_right 3 = .ok (.iload_n 3, 1) := by decide +kernel
theorem dL_right_4 : decode cL_right 4 = .ok (.iload_n 2, 1) := by decide +kernel
theorem dL_right_5 : decode cL_right 5 = .ok (.isub, 1) := by decide +kernel
theorem dL_right_6 : decode cL_right 6 = .ok (.iconst 1, 1) := by decide +kernel
theorem dL_right_7 : decode cL_right 7 = .ok (.if_icmp .le 7, 3) := by decide +kernel
theorem dL_right_10 : decode cL_right 10 = .ok (.iconst 1, 1) := by decide +kernel
theorem dL_right_11 : decode cL_right 11 = .ok (.goto 4, 3) := by decide +kernel
theorem dL_right_14 : decode cL_right 14 = .ok (.iconst 0, 1) := by decide +kernel
theorem dL_right_15 : decode cL_right 15 = .ok (.istore 5, 2) := by decide +kernel
theorem dL_right_17 : decode cL_right 17 = .ok (.iload_n 2, 1) := by decide +kernel
theorem dL_right_18 : decode cL_right 18 = .ok (.istore 6, 2) := by decide +kernel
theorem dL_right_20 : decode cL_right 20 = .ok (.iload 6, 2) := by decide +kernel
theorem dL_right_22 : decode cL_right 22 = .ok (.iload_n 3, 1) := by decide +kernel
theorem dL_right_23 : decode cL_right 23 = .ok (.if_icmp .ge 67, 3) := by decide +kernel
theorem dL_right_26 : decode cL_right 26 = .ok (.iload 5, 2) := by decide +kernel
theorem dL_right_28 : decode cL_right 28 = .ok (.ifCond .eq 62, 3) := by decide +kernel
theorem dL_right_31 : decode cL_right 31 = .ok (.aload_n 1, 1) := by decide +kernel
theorem dL_right_32 : decode cL_right 32 = .ok (.iload 6, 2) := by decide +kernel
theorem dL_right_34 : decode cL_right 34 = .ok (.iaload, 1) := by decide +kernel
theorem dL_right_35 : decode cL_right 35 = .ok (.invokestatic 22, 3) := by decide +kernel
theorem dL_right_38 : decode cL_right 38 = .ok (.istore 5, 2) := by decide +kernel
theorem dL_right_40 : decode cL_right 40 = .ok (.iload 4, 2) := by decide +kernel
theorem dL_right_42 : decode cL_right 42 = .ok (.iload 5, 2) := by decide +kernel
theorem dL_right_44 : decode cL_right 44 = .ok (.ifCond .eq 36, 3) := by decide +kernel
theorem dL_right_47 : decode cL_right 47 = .ok (.iload 6, 2) := by decide +kernel
theorem dL_right_49 : decode cL_right 49 = .ok (.iload_n 3, 1) := by decide +kernel
theorem dL_right_50 : decode cL_right 50 = .ok (.iconst 1, 1) := by decide +kernel
theorem dL_right_51 : decode cL_right 51 = .ok (.isub, 1) := by decide +kernel
theorem dL_right_52 : decode cL_right 52 = .ok (.if_icmp .ne 17, 3) := by decide +kernel
theorem dL_right_55 : decode cL_right 55 = .ok (.bipush 25, 2) := by decide +kernel
theorem dL_right_57 : decode cL_right 57 = .ok (.aload_n 0, 1) := by decide +kernel
theorem dL_right_58 : decode cL_right 58 = .ok (.aload_n 1, 1) := by decide +kernel
theorem dL_right_59 : decode cL_right 59 = .ok (.iload 6, 2) := by decide +kernel
theorem dL_right_61 : decode cL_right 61 = .ok (.iaload, 1) := by decide +kernel
theorem dL_right_62 : decode cL_right 62 = .ok (.invokestatic 31, 3) := by decide +kernel
theorem dL_right_65 : decode cL_right 65 = .ok (.isub, 1) := by decide +kernel
theorem dL_right_66 : decode cL_right 66 = .ok (.goto 15, 3) := by decide +kernel
theorem dL_right_69 : decode cL_right 69 = .ok (.aload_n 0, 1) := by decide +kernel
theorem dL_right_70 : decode cL_right 70 = .ok (.aload_n 1, 1) := by decide +kernel
theorem dL_right_71 : decode cL_right 71 = .ok (.iload 6, 2) := by decide +kernel
theorem dL_right_73 : decode cL_right 73 = .ok (.iaload, 1) := by decide +kernel
theorem dL_right_74 : decode cL_right 74 = .ok (.invokestatic 31, 3) := by decide +kernel
theorem dL_right_77 : decode cL_right 77 = .ok (.goto 4, 3) := by decide +kernel
theorem dL_right_80 : decode cL_right 80 = .ok (.iconst 0, 1) := by decide +kernel
theorem dL_right_81 : decode cL_right 81 = .ok (.iadd, 1) := by decide +kernel
theorem dL_right_82 : decode cL_right 82 = .ok (.istore 4, 2) := by decide +kernel
theorem dL_right_84 : decode cL_right 84 = .ok (.iinc 6 1, 3) := by decide +kernel
theorem dL_right_87 : decode cL_right 87 = .ok (.goto (-67), 3) := by decide +kernel
theorem dL_right_90 : decode cL_right 90 = .ok (.iload 5, 2) := by decide +kernel
theorem dL_right_92 : decode cL_right 92 = .ok (.ifCond .eq 15, 3) := by decide +kernel
theorem dL_right_95 : decode cL_right 95 = .ok (.iload 4, 2) := by decide +kernel
theorem dL_right_97 : decode cL_right 97 = .ok (.bipush 25, 2) := by decide +kernel
theorem dL_right_99 : decode cL_right 99 = .ok (.irem, 1) := by decide +kernel
theorem dL_right_100 : decode cL_right 100 = .ok (.ifCond .ne 7, 3) := by decide +kernel
theorem dL_right_103 : decode cL_right 103 = .ok (.iconst 1, 1) := by decide +kernel
theorem dL_right_104 : decode cL_right 104 = .ok (.goto 4, 3) := by decide +kernel
theorem dL_right_107 : decode cL_right 107 = .ok (.iconst 0, 1) := by decide +kernel
theorem dL_right_108 : decode cL_right 108 = .ok (.ireturn, 1) := by decide +kernel
theorem dL_put_0 : decode cL_put 0 = .ok (.aload_n 0, 1) := by decide +kernel
theorem dL_put_1 : decode cL_put 1 = .ok (.iconst 3, 1) := by decide +kernel
theorem dL_put_2 : decode cL_put 2 = .ok (.iaload, 1) := by decide +kernel
theorem dL_put_3 : decode cL_put 3 = .ok (.istore_n 3, 1) := by decide +kernel
theorem dL_put_4 : decode cL_put 4 = .ok (.iload_n 3, 1) := by decide +kernel
theorem dL_put_5 : decode cL_put 5 = .ok (.ifCond .le 26, 3) := by decide +kernel
theorem dL_put_8 : decode cL_put 8 = .ok (.aload_n 1, 1) := by decide +kernel
theorem dL_put_9 : decode cL_put 9 = .ok (.iload_n 3, 1) := by decide +kernel
theorem dL_put_10 : decode cL_put 10 = .ok (.iconst 1, 1) := by decide +kernel
theorem dL_put_11 : decode cL_put 11 = .ok (.isub, 1) := by decide +kernel
theorem dL_put_12 : decode cL_put 12 = .ok (.iaload, 1) := by decide +kernel
theorem dL_put_13 : decode cL_put 13 = .ok (.iload_n 2, 1) := by decide +kernel
theorem dL_put_14 : decode cL_put 14 = .ok (.if_icmp .le 17, 3) := by decide +kernel
theorem dL_put_17 : decode cL_put 17 = .ok (.aload_n 1, 1) := by decide +kernel
theorem dL_put_18 : decode cL_put 18 = .ok (.iload_n 3, 1) := by decide +kernel
theorem dL_put_19 : decode cL_put 19 = .ok (.aload_n 1, 1) := by decide +kernel
theorem dL_put_20 : decode cL_put 20 = .ok (.iload_n 3, 1) := by decide +kernel
theorem dL_put_21 : decode cL_put 21 = .ok (.iconst 1, 1) := by decide +kernel
theorem dL_put_22 : decode cL_put 22 = .ok (.isub, 1) := by decide +kernel
theorem dL_put_23 : decode cL_put 23 = .ok (.iaload, 1) := by decide +kernel
theorem dL_put_24 : decode cL_put 24 = .ok (.iastore, 1) := by decide +kernel
theorem dL_put_25 : decode cL_put 25 = .ok (.iinc 3 (-1), 3) := by decide +kernel
theorem dL_put_28 : decode cL_put 28 = .ok (.goto (-24), 3) := by decide +kernel
theorem dL_put_31 : decode cL_put 31 = .ok (.aload_n 1, 1) := by decide +kernel
theorem dL_put_32 : decode cL_put 32 = .ok (.iload_n 3, 1) := by decide +kernel
theorem dL_put_33 : decode cL_put 33 = .ok (.iload_n 2, 1) := by decide +kernel
theorem dL_put_34 : decode cL_put 34 = .ok (.iastore, 1) := by decide +kernel
theorem dL_put_35 : decode cL_put 35 = .ok (.aload_n 0, 1) := by decide +kernel
theorem dL_put_36 : decode cL_put 36 = .ok (.iconst 3, 1) := by decide +kernel
theorem dL_put_37 : decode cL_put 37 = .ok (.dup2, 1) := by decide +kernel
theorem dL_put_38 : decode cL_put 38 = .ok (.iaload, 1) := by decide +kernel
theorem dL_put_39 : decode cL_put 39 = .ok (.iconst 1, 1) := by decide +kernel
theorem dL_put_40 : decode cL_put 40 = .ok (.iadd, 1) := by decide +kernel
theorem dL_put_41 : decode cL_put 41 = .ok (.iastore, 1) := by decide +kernel
theorem dL_put_42 : decode cL_put 42 = .ok (.return_, 1) := by decide +kernel
theorem dL_place_0 : decode cL_place 0 = .ok (.iconst 0, 1) := by decide +kernel
theorem dL_place_1 : decode cL_place 1 = .ok (.istore_n 3, 1) := by decide +kernel
theorem dL_place_2 : decode cL_place 2 = .ok (.iload_n 3, 1) := by decide +kernel
theorem dL_place_3 : decode cL_place 3 = .ok (.aload_n 0, 1) := by decide +kernel
theorem dL_place_4 : decode cL_place 4 = .ok (.iconst 3, 1) := by decide +kernel
theorem dL_place_5 : decode cL_place 5 = .ok (.iaload, 1) := by decide +kernel
theorem dL_place_6 : decode cL_place 6 = .ok (.if_icmp .ge 18, 3) := by decide +kernel
theorem dL_place_9 : decode cL_place 9 = .ok (.aload_n 1, 1) := by decide +kernel
theorem dL_place_10 : decode cL_place 10 = .ok (.iload_n 3, 1) := by decide +kernel
theorem dL_place_11 : decode cL_place 11 = .ok (.iaload, 1) := by decide +kernel
theorem dL_place_12 : decode cL_place 12 = .ok (.iload_n 2, 1) := by decide +kernel
theorem dL_place_13 : decode cL_place 13 = .ok (.if_icmp .ne 5, 3) := by decide +kernel
theorem dL_place_16 : decode cL_place 16 = .ok (.iload_n 3, 1) := by decide +kernel
theorem dL_place_17 : decode cL_place 17 = .ok (.ireturn, 1) := by decide +kernel
theorem dL_place_18 : decode cL_place 18 = .ok (.iinc 3 1, 3) := by decide +kernel
theorem dL_place_21 : decode cL_place 21 = .ok (.goto (-19), 3) := by decide +kernel
theorem dL_place_24 : decode cL_place 24 = .ok (.iconst (-1), 1) := by decide +kernel
theorem dL_place_25 : decode cL_place 25 = .ok (.ireturn, 1) := by decide +kernel
theorem dL_mute_0 : decode cL_mute 0 = .ok (.aload_n 1, 1) := by decide +kernel
theorem dL_mute_1 : decode cL_mute 1 = .ok (.iload_n 2, 1) := by decide +kernel
theorem dL_mute_2 : decode cL_mute 2 = .ok (.iaload, 1) := by decide +kernel
theorem dL_mute_3 : decode cL_mute 3 = .ok (.istore_n 3, 1) := by decide +kernel
theorem dL_mute_4 : decode cL_mute 4 = .ok (.aload_n 0, 1) := by decide +kernel
theorem dL_mute_5 : decode cL_mute 5 = .ok (.iconst 3, 1) := by decide +kernel
theorem dL_mute_6 : decode cL_mute 6 = .ok (.dup2, 1) := by decide +kernel
theorem dL_mute_7 : decode cL_mute 7 = .ok (.iaload, 1) := by decide +kernel
theorem dL_mute_8 : decode cL_mute 8 = .ok (.iconst 1, 1) := by decide +kernel
theorem dL_mute_9 : decode cL_mute 9 = .ok (.isub, 1) := by decide +kernel
theorem dL_mute_10 : decode cL_mute 10 = .ok (.iastore, 1) := by decide +kernel
theorem dL_mute_11 : decode cL_mute 11 = .ok (.iload_n 2, 1) := by decide +kernel
theorem dL_mute_12 : decode cL_mute 12 = .ok (.istore 4, 2) := by decide +kernel
theorem dL_mute_14 : decode cL_mute 14 = .ok (.iload 4, 2) := by decide +kernel
theorem dL_mute_16 : decode cL_mute 16 = .ok (.aload_n 0, 1) := by decide +kernel
theorem dL_mute_17 : decode cL_mute 17 = .ok (.iconst 3, 1) := by decide +kernel
theorem dL_mute_18 : decode cL_mute 18 = .ok (.iaload, 1) := by decide +kernel
theorem dL_mute_19 : decode cL_mute 19 = .ok (.if_icmp .ge 19, 3) := by decide +kernel
theorem dL_mute_22 : decode cL_mute 22 = .ok (.aload_n 1, 1) := by decide +kernel
theorem dL_mute_23 : decode cL_mute 23 = .ok (.iload 4, 2) := by decide +kernel
theorem dL_mute_25 : decode cL_mute 25 = .ok (.aload_n 1, 1) := by decide +kernel
theorem dL_mute_26 : decode cL_mute 26 = .ok (.iload 4, 2) := by decide +kernel
theorem dL_mute_28 : decode cL_mute 28 = .ok (.iconst 1, 1) := by decide +kernel
theorem dL_mute_29 : decode cL_mute 29 = .ok (.iadd, 1) := by decide +kernel
theorem dL_mute_30 : decode cL_mute 30 = .ok (.iaload, 1) := by decide +kernel
theorem dL_mute_31 : decode cL_mute 31 = .ok (.iastore, 1) := by decide +kernel
theorem dL_mute_32 : decode cL_mute 32 = .ok (.iinc 4 1, 3) := by decide +kernel
theorem dL_mute_35 : decode cL_mute 35 = .ok (.goto (-21), 3) := by decide +kernel
theorem dL_mute_38 : decode cL_mute 38 = .ok (.iload_n 3, 1) := by decide +kernel
theorem dL_mute_39 : decode cL_mute 39 = .ok (.ireturn, 1) := by decide +kernel
theorem dL_ring_0 : decode cL_ring 0 = .ok (.aload_n 0, 1) := by decide +kernel
theorem dL_ring_1 : decode cL_ring 1 = .ok (.iconst 3, 1) := by decide +kernel
theorem dL_ring_2 : decode cL_ring 2 = .ok (.iaload, 1) := by decide +kernel
theorem dL_ring_3 : decode cL_ring 3 = .ok (.ifCond .ne 7, 3) := by decide +kernel
theorem dL_ring_6 : decode cL_ring 6 = .ok (.iconst 0, 1) := by decide +kernel
theorem dL_ring_7 : decode cL_ring 7 = .ok (.goto 28, 3) := by decide +kernel
theorem dL_ring_10 : decode cL_ring 10 = .ok (.aload_n 1, 1) := by decide +kernel
theorem dL_ring_11 : decode cL_ring 11 = .ok (.aload_n 0, 1) := by decide +kernel
theorem dL_ring_12 : decode cL_ring 12 = .ok (.iconst 3, 1) := by decide +kernel
theorem dL_ring_13 : decode cL_ring 13 = .ok (.iaload, 1) := by decide +kernel
theorem dL_ring_14 : decode cL_ring 14 = .ok (.iconst 1, 1) := by decide +kernel
theorem dL_ring_15 : decode cL_ring 15 = .ok (.isub, 1) := by decide +kernel
theorem dL_ring_16 : decode cL_ring 16 = .ok (.iaload, 1) := by decide +kernel
theorem dL_ring_17 : decode cL_ring 17 = .ok (.bipush 6, 2) := by decide +kernel
theorem dL_ring_19 : decode cL_ring 19 = .ok (.aload_n 0, 1) := by decide +kernel
theorem dL_ring_20 : decode cL_ring 20 = .ok (.iconst 0, 1) := by decide +kernel
theorem dL_ring_21 : decode cL_ring 21 = .ok (.iaload, 1) := by decide +kernel
theorem dL_ring_22 : decode cL_ring 22 = .ok (.imul, 1) := by decide +kernel
theorem dL_ring_23 : decode cL_ring 23 = .ok (.iadd, 1) := by decide +kernel
theorem dL_ring_24 : decode cL_ring 24 = .ok (.bipush 6, 2) := by decide +kernel
theorem dL_ring_26 : decode cL_ring 26 = .ok (.aload_n 0, 1) := by decide +kernel
theorem dL_ring_27 : decode cL_ring 27 = .ok (.iconst 0, 1) := by decide +kernel
theorem dL_ring_28 : decode cL_ring 28 = .ok (.iaload, 1) := by decide +kernel
theorem dL_ring_29 : decode cL_ring 29 = .ok (.imul, 1) := by decide +kernel
theorem dL_ring_30 : decode cL_ring 30 = .ok (.aload_n 0, 1) := by decide +kernel
theorem dL_ring_31 : decode cL_ring 31 = .ok (.iconst 2, 1) := by decide +kernel
theorem dL_ring_32 : decode cL_ring 32 = .ok (.iaload, 1) := by decide +kernel
theorem dL_ring_33 : decode cL_ring 33 = .ok (.imul, 1) := by decide +kernel
theorem dL_ring_34 : decode cL_ring 34 = .ok (.iadd, 1) := by decide +kernel
theorem dL_ring_35 : decode cL_ring 35 = .ok (.istore 4, 2) := by decide +kernel
theorem dL_ring_37 : decode cL_ring 37 = .ok (.aload_n 2, 1) := by decide +kernel
theorem dL_ring_38 : decode cL_ring 38 = .ok (.iload_n 3, 1) := by decide +kernel
theorem dL_ring_39 : decode cL_ring 39 = .ok (.iaload, 1) := by decide +kernel
theorem dL_ring_40 : decode cL_ring 40 = .ok (.iconst 5, 1) := by decide +kernel
theorem dL_ring_41 : decode cL_ring 41 = .ok (.idiv, 1) := by decide +kernel
theorem dL_ring_42 : decode cL_ring 42 = .ok (.istore 5, 2) := by decide +kernel
theorem dL_ring_44 : decode cL_ring 44 = .ok (.iload 5, 2) := by decide +kernel
theorem dL_ring_46 : decode cL_ring 46 = .ok (.ifCond .lt 37, 3) := by decide +kernel
theorem dL_ring_49 : decode cL_ring 49 = .ok (.aload_n 0, 1) := by decide +kernel
theorem dL_ring_50 : decode cL_ring 50 = .ok (.aload_n 1, 1) := by decide +kernel
theorem dL_ring_51 : decode cL_ring 51 = .ok (.iload 4, 2) := by decide +kernel
theorem dL_ring_53 : decode cL_ring 53 = .ok (.invokestatic 34, 3) := by decide +kernel
theorem dL_ring_56 : decode cL_ring 56 = .ok (.iload 4, 2) := by decide +kernel
theorem dL_ring_58 : decode cL_ring 58 = .ok (.iload 5, 2) := by decide +kernel
theorem dL_ring_60 : decode cL_ring 60 = .ok (.ifCond .ne 11, 3) := by decide +kernel
theorem dL_ring_63 : decode cL_ring 63 = .ok (.iconst 3, 1) := by decide +kernel
theorem dL_ring_64 : decode cL_ring 64 = .ok (.aload_n 0, 1) := by decide +kernel
theorem dL_ring_65 : decode cL_ring 65 = .ok (.iconst 0, 1) := by decide +kernel
theorem dL_ring_66 : decode cL_ring 66 = .ok (.iaload, 1) := by decide +kernel
theorem dL_ring_67 : decode cL_ring 67 = .ok (.imul, 1) := by decide +kernel
theorem dL_ring_68 : decode cL_ring 68 = .ok (.goto 6, 3) := by decide +kernel
theorem dL_ring_71 : decode cL_ring 71 = .ok (.aload_n 0, 1) := by decide +kernel
theorem dL_ring_72 : decode cL_ring 72 = .ok (.iconst 0, 1) := by decide +kernel
theorem dL_ring_73 : decode cL_ring 73 = .ok (.iaload, 1) := by decide +kernel
theorem dL_ring_74 : decode cL_ring 74 = .ok (.iadd, 1) := by decide +kernel
theorem dL_ring_75 : decode cL_ring 75 = .ok (.istore 4, 2) := by decide +kernel
theorem dL_ring_77 : decode cL_ring 77 = .ok (.iinc 5 (-1), 3) := by decide +kernel
theorem dL_ring_80 : decode cL_ring 80 = .ok (.goto (-36), 3) := by decide +kernel
theorem dL_ring_83 : decode cL_ring 83 = .ok (.aload_n 2, 1) := by decide +kernel
theorem dL_ring_84 : decode cL_ring 84 = .ok (.iload_n 3, 1) := by decide +kernel
theorem dL_ring_85 : decode cL_ring 85 = .ok (.iaload, 1) := by decide +kernel
theorem dL_ring_86 : decode cL_ring 86 = .ok (.iconst 5, 1) := by decide +kernel
theorem dL_ring_87 : decode cL_ring 87 = .ok (.irem, 1) := by decide +kernel
theorem dL_ring_88 : decode cL_ring 88 = .ok (.istore 5, 2) := by decide +kernel
theorem dL_ring_90 : decode cL_ring 90 = .ok (.iload 5, 2) := by decide +kernel
theorem dL_ring_92 : decode cL_ring 92 = .ok (.ifCond .lt 24, 3) := by decide +kernel
theorem dL_ring_95 : decode cL_ring 95 = .ok (.aload_n 0, 1) := by decide +kernel
theorem dL_ring_96 : decode cL_ring 96 = .ok (.aload_n 1, 1) := by decide +kernel
theorem dL_ring_97 : decode cL_ring 97 = .ok (.iload 4, 2) := by decide +kernel
theorem dL_ring_99 : decode cL_ring 99 = .ok (.invokestatic 34, 3) := by decide +kernel
theorem dL_ring_102 : decode cL_ring 102 = .ok (.iload 4, 2) := by decide +kernel
theorem dL_ring_104 : decode cL_ring 104 = .ok (.aload_n 0, 1) := by decide +kernel
theorem dL_ring_105 : decode cL_ring 105 = .ok (.iconst 0, 1) := by decide +kernel
theorem dL_ring_106 : decode cL_ring 106 = .ok (.iaload, 1) := by decide +kernel
theorem dL_ring_107 : decode cL_ring 107 = .ok (.iadd, 1) := by decide +kernel
theorem dL_ring_108 : decode cL_ring 108 = .ok (.istore 4, 2) := by decide +kernel
theorem dL_ring_110 : decode cL_ring 110 = .ok (.iinc 5 (-1), 3) := by decide +kernel
theorem dL_ring_113 : decode cL_ring 113 = .ok (.goto (-23), 3) := by decide +kernel
theorem dL_ring_116 : decode cL_ring 116 = .ok (.aload_n 0, 1) := by decide +kernel
theorem dL_ring_117 : decode cL_ring 117 = .ok (.iconst 2, 1) := by decide +kernel
theorem dL_ring_118 : decode cL_ring 118 = .ok (.iconst 0, 1) := by decide +kernel
theorem dL_ring_119 : decode cL_ring 119 = .ok (.iastore, 1) := by decide +kernel
theorem dL_ring_120 : decode cL_ring 120 = .ok (.return_, 1) := by decide +kernel
theorem dL_acts_0 : decode cL_acts 0 = .ok (.iload 4, 2) := by decide +kernel
theorem dL_acts_2 : decode cL_acts 2 = .ok (.iconst 5, 1) := by decide +kernel
theorem dL_acts_3 : decode cL_acts 3 = .ok (.ishr, 1) := by decide +kernel
theorem dL_acts_4 : decode cL_acts 4 = .ok (.ldc 38, 2) := by decide +kernel
theorem dL_acts_6 : decode cL_acts 6 = .ok (.invokestatic 39, 3) := by decide +kernel
theorem dL_acts_9 : decode cL_acts 9 = .ok (.istore 5, 2) := by decide +kernel
theorem dL_acts_11 : decode cL_acts 11 = .ok (.iload 4, 2) := by decide +kernel
theorem dL_acts_13 : decode cL_acts 13 = .ok (.bipush 24, 2) := by decide +kernel
theorem dL_acts_15 : decode cL_acts 15 = .ok (.invokestatic 39, 3) := by decide +kernel
theorem dL_acts_18 : decode cL_acts 18 = .ok (.istore 6, 2) := by decide +kernel
theorem dL_acts_20 : decode cL_acts 20 = .ok (.iload 6, 2) := by decide +kernel
theorem dL_acts_22 : decode cL_acts 22 = .ok (.ifCond .ne 63, 3) := by decide +kernel
theorem dL_acts_25 : decode cL_acts 25 = .ok (.iload 5, 2) := by decide +kernel
theorem dL_acts_27 : decode cL_acts 27 = .ok (.iconst 2, 1) := by decide +kernel
theorem dL_acts_28 : decode cL_acts 28 = .ok (.irem, 1) := by decide +kernel
theorem dL_acts_29 : decode cL_acts 29 = .ok (.istore 7, 2) := by decide +kernel
theorem dL_acts_31 : decode cL_acts 31 = .ok (.aload_n 1, 1) := by decide +kernel
theorem dL_acts_32 : decode cL_acts 32 = .ok (.iload 7, 2) := by decide +kernel
theorem dL_acts_34 : decode cL_acts 34 = .ok (.iaload, 1) := by decide +kernel
theorem dL_acts_35 : decode cL_acts 35 = .ok (.istore 8, 2) := by decide +kernel
theorem dL_acts_37 : decode cL_acts 37 = .ok (.aload_n 1, 1) := by decide +kernel
theorem dL_acts_38 : decode cL_acts 38 = .ok (.iload 7, 2) := by decide +kernel
theorem dL_acts_40 : decode cL_acts 40 = .ok (.iload 7, 2) := by decide +kernel
theorem dL_acts_42 : decode cL_acts 42 = .ok (.ifCond .ne 15, 3) := by decide +kernel
theorem dL_acts_45 : decode cL_acts 45 = .ok (.iconst 4, 1) := by decide +kernel
theorem dL_acts_46 : decode cL_acts 46 = .ok (.iload 5, 2) := by decide +kernel
theorem dL_acts_48 : decode cL_acts 48 = .ok (.iconst 2, 1) := by decide +kernel
theorem dL_acts_49 : decode cL_acts 49 = .ok (.idiv, 1) := by decide +kernel
theorem dL_acts_50 : decode cL_acts 50 = .ok (.bipush 17, 2) := by decide +kernel
theorem dL_acts_52 : decode cL_acts 52 = .ok (.irem, 1) := by decide +kernel
theorem dL_acts_53 : decode cL_acts 53 = .ok (.iadd, 1) := by decide +kernel
theorem dL_acts_54 : decode cL_acts 54 = .ok (.goto 9, 3) := by decide +kernel
theorem dL_acts_57 : decode cL_acts 57 = .ok (.iload 5, 2) := by decide +kernel
theorem dL_acts_59 : decode cL_acts 59 = .ok (.iconst 2, 1) := by decide +kernel
theorem dL_acts_60 : decode cL_acts 60 = .ok (.idiv, 1) := by decide +kernel
theorem dL_acts_61 : decode cL_acts 61 = .ok (.iconst 4, 1) := by decide +kernel
theorem dL_acts_62 : decode cL_acts 62 = .ok (.irem, 1) := by decide +kernel
theorem dL_acts_63 : decode cL_acts 63 = .ok (.iastore, 1) := by decide +kernel
theorem dL_acts_64 : decode cL_acts 64 = .ok (.aload_n 0, 1) := by decide +kernel
theorem dL_acts_65 : decode cL_acts 65 = .ok (.iload 7, 2) := by decide +kernel
theorem dL_acts_67 : decode cL_acts 67 = .ok (.aload_n 1, 1) := by decide +kernel
theorem dL_acts_68 : decode cL_acts 68 = .ok (.iload 7, 2) := by decide +kernel
theorem dL_acts_70 : decode cL_acts 70 = .ok (.iaload, 1) := by decide +kernel
theorem dL_acts_71 : decode cL_acts 71 = .ok (.invokevirtual 43, 3) := by decide +kernel
theorem dL_acts_74 : decode cL_acts 74 = .ok (.iload 8, 2) := by decide +kernel
theorem dL_acts_76 : decode cL_acts 76 = .ok (.if_icmp .ne 7, 3) := by decide +kernel
theorem dL_acts_79 : decode cL_acts 79 = .ok (.iconst 1, 1) := by decide +kernel
theorem dL_acts_80 : decode cL_acts 80 = .ok (.goto 4, 3) := by decide +kernel
theorem dL_acts_83 : decode cL_acts 83 = .ok (.iconst 0, 1) := by decide +kernel
theorem dL_acts_84 : decode cL_acts 84 = .ok (.ireturn, 1) := by decide +kernel
theorem dL_acts_85 : decode cL_acts 85 = .ok (.iload 6, 2) := by decide +kernel
theorem dL_acts_87 : decode cL_acts 87 = .ok (.iconst 1, 1) := by decide +kernel
theorem dL_acts_88 : decode cL_acts 88 = .ok (.if_icmp .ne 102, 3) := by decide +kernel
theorem dL_acts_91 : decode cL_acts 91 = .ok (.iload 5, 2) := by decide +kernel
theorem dL_acts_93 : decode cL_acts 93 = .ok (.bipush 25, 2) := by decide +kernel
theorem dL_acts_95 : decode cL_acts 95 = .ok (.irem, 1) := by decide +kernel
theorem dL_acts_96 : decode cL_acts 96 = .ok (.istore 7, 2) := by decide +kernel
theorem dL_acts_98 : decode cL_acts 98 = .ok (.iload 5, 2) := by decide +kernel
theorem dL_acts_100 : decode cL_acts 100 = .ok (.bipush 25, 2) := by decide +kernel
theorem dL_acts_102 : decode cL_acts 102 = .ok (.idiv, 1) := by decide +kernel
theorem dL_acts_103 : decode cL_acts 103 = .ok (.bipush 25, 2) := by decide +kernel
theorem dL_acts_105 : decode cL_acts 105 = .ok (.irem, 1) := by decide +kernel
theorem dL_acts_106 : decode cL_acts 106 = .ok (.istore 8, 2) := by decide +kernel
theorem dL_acts_108 : decode cL_acts 108 = .ok (.iload 7, 2) := by decide +kernel
theorem dL_acts_110 : decode cL_acts 110 = .ok (.iload 8, 2) := by decide +kernel
theorem dL_acts_112 : decode cL_acts 112 = .ok (.if_icmp .ne 22, 3) := by decide +kernel
theorem dL_acts_115 : decode cL_acts 115 = .ok (.aload_n 0, 1) := by decide +kernel
theorem dL_acts_116 : decode cL_acts 116 = .ok (.iload 7, 2) := by decide +kernel
theorem dL_acts_118 : decode cL_acts 118 = .ok (.iload 8, 2) := by decide +kernel
theorem dL_acts_120 : decode cL_acts 120 = .ok (.invokevirtual 48, 3) := by decide +kernel
theorem dL_acts_123 : decode cL_acts 123 = .ok (.ldc 51, 2) := by decide +kernel
theorem dL_acts_125 : decode cL_acts 125 = .ok (.if_icmp .ne 7, 3) := by decide +kernel
theorem dL_acts_128 : decode cL_acts 128 = .ok (.iconst 1, 1) := by decide +kernel
theorem dL_acts_129 : decode cL_acts 129 = .ok (.goto 4, 3) := by decide +kernel
theorem dL_acts_132 : decode cL_acts 132 = .ok (.iconst 0, 1) := by decide +kernel
theorem dL_acts_133 : decode cL_acts 133 = .ok (.ireturn, 1) := by decide +kernel
theorem dL_acts_134 : decode cL_acts 134 = .ok (.aload_n 3, 1) := by decide +kernel
theorem dL_acts_135 : decode cL_acts 135 = .ok (.iload 7, 2) := by decide +kernel
theorem dL_acts_137 : decode cL_acts 137 = .ok (.iaload, 1) := by decide +kernel
theorem dL_acts_138 : decode cL_acts 138 = .ok (.istore 9, 2) := by decide +kernel
theorem dL_acts_140 : decode cL_acts 140 = .ok (.aload_n 3, 1) := by decide +kernel
theorem dL_acts_141 : decode cL_acts 141 = .ok (.iload 7, 2) := by decide +kernel
theorem dL_acts_143 : decode cL_acts 143 = .ok (.aload_n 3, 1) := by decide +kernel
theorem dL_acts_144 : decode cL_acts 144 = .ok (.iload 8, 2) := by decide +kernel
theorem dL_acts_146 : decode cL_acts 146 = .ok (.iaload, 1) := by decide +kernel
theorem dL_acts_147 : decode cL_acts 147 = .ok (.iastore, 1) := by decide +kernel
theorem dL_acts_148 : decode cL_acts 148 = .ok (.aload_n 3, 1) := by decide +kernel
theorem dL_acts_149 : decode cL_acts 149 = .ok (.iload 8, 2) := by decide +kernel
theorem dL_acts_151 : decode cL_acts 151 = .ok (.iload 9, 2) := by decide +kernel
theorem dL_acts_153 : decode cL_acts 153 = .ok (.iastore, 1) := by decide +kernel
theorem dL_acts_154 : decode cL_acts 154 = .ok (.aload_n 0, 1) := by decide +kernel
theorem dL_acts_155 : decode cL_acts 155 = .ok (.iload 7, 2) := by decide +kernel
theorem dL_acts_157 : decode cL_acts 157 = .ok (.iload 8, 2) := by decide +kernel
theorem dL_acts_159 : decode cL_acts 159 = .ok (.invokevirtual 48, 3) := by decide +kernel
theorem dL_acts_162 : decode cL_acts 162 = .ok (.bipush 11, 2) := by decide +kernel
theorem dL_acts_164 : decode cL_acts 164 = .ok (.bipush 10, 2) := by decide +kernel
theorem dL_acts_166 : decode cL_acts 166 = .ok (.aload_n 3, 1) := by decide +kernel
theorem dL_acts_167 : decode cL_acts 167 = .ok (.iload 7, 2) := by decide +kernel
theorem dL_acts_169 : decode cL_acts 169 = .ok (.iaload, 1) := by decide +kernel
theorem dL_acts_170 : decode cL_acts 170 = .ok (.iconst 5, 1) := by decide +kernel
theorem dL_acts_171 : decode cL_acts 171 = .ok (.idiv, 1) := by decide +kernel
theorem dL_acts_172 : decode cL_acts 172 = .ok (.imul, 1) := by decide +kernel
theorem dL_acts_173 : decode cL_acts 173 = .ok (.iadd, 1) := by decide +kernel
theorem dL_acts_174 : decode cL_acts 174 = .ok (.aload_n 3, 1) := by decide +kernel
theorem dL_acts_175 : decode cL_acts 175 = .ok (.iload 7, 2) := by decide +kernel
theorem dL_acts_177 : decode cL_acts 177 = .ok (.iaload, 1) := by decide +kernel
theorem dL_acts_178 : decode cL_acts 178 = .ok (.iconst 5, 1) := by decide +kernel
theorem dL_acts_179 : decode cL_acts 179 = .ok (.irem, 1) := by decide +kernel
theorem dL_acts_180 : decode cL_acts 180 = .ok (.iadd, 1) := by decide +kernel
theorem dL_acts_181 : decode cL_acts 181 = .ok (.if_icmp .ne 7, 3) := by decide +kernel
theorem dL_acts_184 : decode cL_acts 184 = .ok (.iconst 1, 1) := by decide +kernel
theorem dL_acts_185 : decode cL_acts 185 = .ok (.goto 4, 3) := by decide +kernel
theorem dL_acts_188 : decode cL_acts 188 = .ok (.iconst 0, 1) := by decide +kernel
theorem dL_acts_189 : decode cL_acts 189 = .ok (.ireturn, 1) := by decide +kernel
theorem dL_acts_190 : decode cL_acts 190 = .ok (.aload_n 1, 1) := by decide +kernel
theorem dL_acts_191 : decode cL_acts 191 = .ok (.iconst 3, 1) := by decide +kernel
theorem dL_acts_192 : decode cL_acts 192 = .ok (.iaload, 1) := by decide +kernel
theorem dL_acts_193 : decode cL_acts 193 = .ok (.bipush 50, 2) := by decide +kernel
theorem dL_acts_195 : decode cL_acts 195 = .ok (.if_icmp .gt 16, 3) := by decide +kernel
theorem dL_acts_198 : decode cL_acts 198 = .ok (.iload 6, 2) := by decide +kernel
theorem dL_acts_200 : decode cL_acts 200 = .ok (.bipush 20, 2) := by decide +kernel
theorem dL_acts_202 : decode cL_acts 202 = .ok (.if_icmp .le 78, 3) := by decide +kernel
theorem dL_acts_205 : decode cL_acts 205 = .ok (.aload_n 1, 1) := by decide +kernel
theorem dL_acts_206 : decode cL_acts 206 = .ok (.iconst 3, 1) := by decide +kernel
theorem dL_acts_207 : decode cL_acts 207 = .ok (.iaload, 1) := by decide +kernel
theorem dL_acts_208 : decode cL_acts 208 = .ok (.ifCond .le 72, 3) := by decide +kernel
theorem dL_acts_211 : decode cL_acts 211 = .ok (.iload 5, 2) := by decide +kernel
theorem dL_acts_213 : decode cL_acts 213 = .ok (.aload_n 1, 1) := by decide +kernel
theorem dL_acts_214 : decode cL_acts 214 = .ok (.iconst 3, 1) := by decide +kernel
theorem dL_acts_215 : decode cL_acts 215 = .ok (.iaload, 1) := by decide +kernel
theorem dL_acts_216 : decode cL_acts 216 = .ok (.iconst 1, 1) := by decide +kernel
theorem dL_acts_217 : decode cL_acts 217 = .ok (.iadd, 1) := by decide +kernel
theorem dL_acts_218 : decode cL_acts 218 = .ok (.irem, 1) := by decide +kernel
theorem dL_acts_219 : decode cL_acts 219 = .ok (.istore 7, 2) := by decide +kernel
theorem dL_acts_221 : decode cL_acts 221 = .ok (.iload 7, 2) := by decide +kernel
theorem dL_acts_223 : decode cL_acts 223 = .ok (.aload_n 1, 1) := by decide +kernel
theorem dL_acts_224 : decode cL_acts 224 = .ok (.iconst 3, 1) := by decide +kernel
theorem dL_acts_225 : decode cL_acts 225 = .ok (.iaload, 1) := by decide +kernel
theorem dL_acts_226 : decode cL_acts 226 = .ok (.if_icmp .ne 32, 3) := by decide +kernel
theorem dL_acts_229 : decode cL_acts 229 = .ok (.aload_n 0, 1) := by decide +kernel
theorem dL_acts_230 : decode cL_acts 230 = .ok (.iload 7, 2) := by decide +kernel
theorem dL_acts_232 : decode cL_acts 232 = .ok (.invokevirtual 52, 3) := by decide +kernel
theorem dL_acts_235 : decode cL_acts 235 = .ok (.ldc 51, 2) := by decide +kernel
theorem dL_acts_237 : decode cL_acts 237 = .ok (.if_icmp .ne 19, 3) := by decide +kernel
theorem dL_acts_240 : decode cL_acts 240 = .ok (.aload_n 0, 1) := by decide +kernel
theorem dL_acts_241 : decode cL_acts 241 = .ok (.iload 7, 2) := by decide +kernel
theorem dL_acts_243 : decode cL_acts 243 = .ok (.iconst 1, 1) := by decide +kernel
theorem dL_acts_244 : decode cL_acts 244 = .ok (.invokevirtual 55, 3) := by decide +kernel
theorem dL_acts_247 : decode cL_acts 247 = .ok (.ldc 51, 2) := by decide +kernel
theorem dL_acts_249 : decode cL_acts 249 = .ok (.if_icmp .ne 7, 3) := by decide +kernel
theorem dL_acts_252 : decode cL_acts 252 = .ok (.iconst 1, 1) := by decide +kernel
theorem dL_acts_253 : decode cL_acts 253 = .ok (.goto 4, 3) := by decide +kernel
theorem dL_acts_256 : decode cL_acts 256 = .ok (.iconst 0, 1) := by decide +kernel
theorem dL_acts_257 : decode cL_acts 257 = .ok (.ireturn, 1) := by decide +kernel
theorem dL_acts_258 : decode cL_acts 258 = .ok (.aload_n 0, 1) := by decide +kernel
theorem dL_acts_259 : decode cL_acts 259 = .ok (.iload 7, 2) := by decide +kernel
theorem dL_acts_261 : decode cL_acts 261 = .ok (.invokevirtual 52, 3) := by decide +kernel
theorem dL_acts_264 : decode cL_acts 264 = .ok (.aload_n 1, 1) := by decide +kernel
theorem dL_acts_265 : decode cL_acts 265 = .ok (.aload_n 2, 1) := by decide +kernel
theorem dL_acts_266 : decode cL_acts 266 = .ok (.iload 7, 2) := by decide +kernel
theorem dL_acts_268 : decode cL_acts 268 = .ok (.invokestatic 58, 3) := by decide +kernel
theorem dL_acts_271 : decode cL_acts 271 = .ok (.if_icmp .ne 7, 3) := by decide +kernel
theorem dL_acts_274 : decode cL_acts 274 = .ok (.iconst 1, 1) := by decide +kernel
theorem dL_acts_275 : decode cL_acts 275 = .ok (.goto 4, 3) := by decide +kernel
theorem dL_acts_278 : decode cL_acts 278 = .ok (.iconst 0, 1) := by decide +kernel
theorem dL_acts_279 : decode cL_acts 279 = .ok (.ireturn, 1) := by decide +kernel
theorem dL_acts_280 : decode cL_acts 280 = .ok (.iload 6, 2) := by decide +kernel
theorem dL_acts_282 : decode cL_acts 282 = .ok (.bipush 10, 2) := by decide +kernel
theorem dL_acts_284 : decode cL_acts 284 = .ok (.if_icmp .ge 84, 3) := by decide +kernel
theorem dL_acts_287 : decode cL_acts 287 = .ok (.aload_n 1, 1) := by decide +kernel
theorem dL_acts_288 : decode cL_acts 288 = .ok (.iconst 3, 1) := by decide +kernel
theorem dL_acts_289 : decode cL_acts 289 = .ok (.iaload, 1) := by decide +kernel
theorem dL_acts_290 : decode cL_acts 290 = .ok (.istore 7, 2) := by decide +kernel
theorem dL_acts_292 : decode cL_acts 292 = .ok (.iload 5, 2) := by decide +kernel
theorem dL_acts_294 : decode cL_acts 294 = .ok (.bipush 25, 2) := by decide +kernel
theorem dL_acts_296 : decode cL_acts 296 = .ok (.irem, 1) := by decide +kernel
theorem dL_acts_297 : decode cL_acts 297 = .ok (.istore 8, 2) := by decide +kernel
theorem dL_acts_299 : decode cL_acts 299 = .ok (.iload 7, 2) := by decide +kernel
theorem dL_acts_301 : decode cL_acts 301 = .ok (.ifCond .le 42, 3) := by decide +kernel
theorem dL_acts_304 : decode cL_acts 304 = .ok (.aload_n 2, 1) := by decide +kernel
theorem dL_acts_305 : decode cL_acts 305 = .ok (.iload 7, 2) := by decide +kernel
theorem dL_acts_307 : decode cL_acts 307 = .ok (.iconst 1, 1) := by decide +kernel
theorem dL_acts_308 : decode cL_acts 308 = .ok (.isub, 1) := by decide +kernel
theorem dL_acts_309 : decode cL_acts 309 = .ok (.iaload, 1) := by decide +kernel
theorem dL_acts_310 : decode cL_acts 310 = .ok (.sipush 8000, 3) := by decide +kernel
theorem dL_acts_313 : decode cL_acts 313 = .ok (.if_icmp .le 30, 3) := by decide +kernel
theorem dL_acts_316 : decode cL_acts 316 = .ok (.aload_n 0, 1) := by decide +kernel
theorem dL_acts_317 : decode cL_acts 317 = .ok (.bipush 25, 2) := by decide +kernel
theorem dL_acts_319 : decode cL_acts 319 = .ok (.invokevirtual 61, 3) := by decide +kernel
theorem dL_acts_322 : decode cL_acts 322 = .ok (.ldc 51, 2) := by decide +kernel
theorem dL_acts_324 : decode cL_acts 324 = .ok (.if_icmp .ne 17, 3) := by decide +kernel
theorem dL_acts_327 : decode cL_acts 327 = .ok (.aload_n 0, 1) := by decide +kernel
theorem dL_acts_328 : decode cL_acts 328 = .ok (.iconst (-1), 1) := by decide +kernel
theorem dL_acts_329 : decode cL_acts 329 = .ok (.invokevirtual 61, 3) := by decide +kernel
theorem dL_acts_332 : decode cL_acts 332 = .ok (.ldc 51, 2) := by decide +kernel
theorem dL_acts_334 : decode cL_acts 334 = .ok (.if_icmp .ne 7, 3) := by decide +kernel
theorem dL_acts_337 : decode cL_acts 337 = .ok (.iconst 1, 1) := by decide +kernel
theorem dL_acts_338 : decode cL_acts 338 = .ok (.goto 4, 3) := by decide +kernel
theorem dL_acts_341 : decode cL_acts 341 = .ok (.iconst 0, 1) := by decide +kernel
theorem dL_acts_342 : decode cL_acts 342 = .ok (.ireturn, 1) := by decide +kernel
theorem dL_acts_343 : decode cL_acts 343 = .ok (.aload_n 1, 1) := by decide +kernel
theorem dL_acts_344 : decode cL_acts 344 = .ok (.aload_n 2, 1) := by decide +kernel
