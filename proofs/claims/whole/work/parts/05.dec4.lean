theorem dX10_corrections_185 : decode cX10_corrections 185 = .ok (.iinc 3 1, 3) := by decide +kernel
theorem dX10_corrections_188 : decode cX10_corrections 188 = .ok (.iinc 5 1, 3) := by decide +kernel
theorem dX10_corrections_191 : decode cX10_corrections 191 = .ok (.goto (-165), 3) := by decide +kernel
theorem dX10_corrections_194 : decode cX10_corrections 194 = .ok (.iinc 4 1, 3) := by decide +kernel
theorem dX10_corrections_197 : decode cX10_corrections 197 = .ok (.goto (-187), 3) := by decide +kernel
theorem dX10_corrections_200 : decode cX10_corrections 200 = .ok (.iload_n 3, 1) := by decide +kernel
theorem dX10_corrections_201 : decode cX10_corrections 201 = .ok (.ireturn, 1) := by decide +kernel
theorem dX10_isMessage_0 : decode cX10_isMessage 0 = .ok (.iload_n 1, 1) := by decide +kernel
theorem dX10_isMessage_1 : decode cX10_isMessage 1 = .ok (.ifCond .lt 15, 3) := by decide +kernel
theorem dX10_isMessage_4 : decode cX10_isMessage 4 = .ok (.iload_n 1, 1) := by decide +kernel
theorem dX10_isMessage_5 : decode cX10_isMessage 5 = .ok (.aload_n 0, 1) := by decide +kernel
theorem dX10_isMessage_6 : decode cX10_isMessage 6 = .ok (.getfield 121, 3) := by decide +kernel
theorem dX10_isMessage_9 : decode cX10_isMessage 9 = .ok (.if_icmp .ge 7, 3) := by decide +kernel
theorem dX10_isMessage_12 : decode cX10_isMessage 12 = .ok (.iconst 1, 1) := by decide +kernel
theorem dX10_isMessage_13 : decode cX10_isMessage 13 = .ok (.goto 4, 3) := by decide +kernel
theorem dX10_isMessage_16 : decode cX10_isMessage 16 = .ok (.iconst 0, 1) := by decide +kernel
theorem dX10_isMessage_17 : decode cX10_isMessage 17 = .ok (.ireturn, 1) := by decide +kernel
theorem dX10_messageOf_0 : decode cX10_messageOf 0 = .ok (.aload_n 0, 1) := by decide +kernel
theorem dX10_messageOf_1 : decode cX10_messageOf 1 = .ok (.invokevirtual 151, 3) := by decide +kernel
theorem dX10_messageOf_4 : decode cX10_messageOf 4 = .ok (.aload_n 0, 1) := by decide +kernel
theorem dX10_messageOf_5 : decode cX10_messageOf 5 = .ok (.iload_n 1, 1) := by decide +kernel
theorem dX10_messageOf_6 : decode cX10_messageOf 6 = .ok (.invokevirtual 158, 3) := by decide +kernel
theorem dX10_messageOf_9 : decode cX10_messageOf 9 = .ok (.ifCond .ne 6, 3) := by decide +kernel
theorem dX10_messageOf_12 : decode cX10_messageOf 12 = .ok (.ldc 76, 2) := by decide +kernel
theorem dX10_messageOf_14 : decode cX10_messageOf 14 = .ok (.ireturn, 1) := by decide +kernel
theorem dX10_messageOf_15 : decode cX10_messageOf 15 = .ok (.iload_n 2, 1) := by decide +kernel
theorem dX10_messageOf_16 : decode cX10_messageOf 16 = .ok (.tableswitch 102 0 6 #[44, 50, 56, 73, 80, 88, 95], 44) := by decide +kernel
theorem dX10_messageOf_60 : decode cX10_messageOf 60 = .ok (.aload_n 0, 1) := by decide +kernel
theorem dX10_messageOf_61 : decode cX10_messageOf 61 = .ok (.iload_n 1, 1) := by decide +kernel
theorem dX10_messageOf_62 : decode cX10_messageOf 62 = .ok (.invokevirtual 142, 3) := by decide +kernel
theorem dX10_messageOf_65 : decode cX10_messageOf 65 = .ok (.ireturn, 1) := by decide +kernel
theorem dX10_messageOf_66 : decode cX10_messageOf 66 = .ok (.aload_n 0, 1) := by decide +kernel
theorem dX10_messageOf_67 : decode cX10_messageOf 67 = .ok (.iload_n 1, 1) := by decide +kernel
theorem dX10_messageOf_68 : decode cX10_messageOf 68 = .ok (.invokevirtual 161, 3) := by decide +kernel
theorem dX10_messageOf_71 : decode cX10_messageOf 71 = .ok (.ireturn, 1) := by decide +kernel
theorem dX10_messageOf_72 : decode cX10_messageOf 72 = .ok (.aload_n 0, 1) := by decide +kernel
theorem dX10_messageOf_73 : decode cX10_messageOf 73 = .ok (.iload_n 1, 1) := by decide +kernel
theorem dX10_messageOf_74 : decode cX10_messageOf 74 = .ok (.ldc 154, 2) := by decide +kernel
theorem dX10_messageOf_76 : decode cX10_messageOf 76 = .ok (.iconst 0, 1) := by decide +kernel
theorem dX10_messageOf_77 : decode cX10_messageOf 77 = .ok (.invokevirtual 155, 3) := by decide +kernel
theorem dX10_messageOf_80 : decode cX10_messageOf 80 = .ok (.ifCond .eq 7, 3) := by decide +kernel
theorem dX10_messageOf_83 : decode cX10_messageOf 83 = .ok (.iconst 1, 1) := by decide +kernel
theorem dX10_messageOf_84 : decode cX10_messageOf 84 = .ok (.goto 4, 3) := by decide +kernel
theorem dX10_messageOf_87 : decode cX10_messageOf 87 = .ok (.iconst 0, 1) := by decide +kernel
theorem dX10_messageOf_88 : decode cX10_messageOf 88 = .ok (.ireturn, 1) := by decide +kernel
theorem dX10_messageOf_89 : decode cX10_messageOf 89 = .ok (.aload_n 0, 1) := by decide +kernel
theorem dX10_messageOf_90 : decode cX10_messageOf 90 = .ok (.getfield 52, 3) := by decide +kernel
theorem dX10_messageOf_93 : decode cX10_messageOf 93 = .ok (.iload_n 1, 1) := by decide +kernel
theorem dX10_messageOf_94 : decode cX10_messageOf 94 = .ok (.iaload, 1) := by decide +kernel
theorem dX10_messageOf_95 : decode cX10_messageOf 95 = .ok (.ireturn, 1) := by decide +kernel
theorem dX10_messageOf_96 : decode cX10_messageOf 96 = .ok (.aload_n 0, 1) := by decide +kernel
theorem dX10_messageOf_97 : decode cX10_messageOf 97 = .ok (.iload_n 1, 1) := by decide +kernel
theorem dX10_messageOf_98 : decode cX10_messageOf 98 = .ok (.ldc 154, 2) := by decide +kernel
theorem dX10_messageOf_100 : decode cX10_messageOf 100 = .ok (.invokevirtual 164, 3) := by decide +kernel
theorem dX10_messageOf_103 : decode cX10_messageOf 103 = .ok (.ireturn, 1) := by decide +kernel
theorem dX10_messageOf_104 : decode cX10_messageOf 104 = .ok (.aload_n 0, 1) := by decide +kernel
theorem dX10_messageOf_105 : decode cX10_messageOf 105 = .ok (.getfield 49, 3) := by decide +kernel
theorem dX10_messageOf_108 : decode cX10_messageOf 108 = .ok (.iload_n 1, 1) := by decide +kernel
theorem dX10_messageOf_109 : decode cX10_messageOf 109 = .ok (.iaload, 1) := by decide +kernel
theorem dX10_messageOf_110 : decode cX10_messageOf 110 = .ok (.ireturn, 1) := by decide +kernel
theorem dX10_messageOf_111 : decode cX10_messageOf 111 = .ok (.aload_n 0, 1) := by decide +kernel
theorem dX10_messageOf_112 : decode cX10_messageOf 112 = .ok (.getfield 55, 3) := by decide +kernel
theorem dX10_messageOf_115 : decode cX10_messageOf 115 = .ok (.iload_n 1, 1) := by decide +kernel
theorem dX10_messageOf_116 : decode cX10_messageOf 116 = .ok (.iaload, 1) := by decide +kernel
theorem dX10_messageOf_117 : decode cX10_messageOf 117 = .ok (.ireturn, 1) := by decide +kernel
theorem dX10_messageOf_118 : decode cX10_messageOf 118 = .ok (.ldc 76, 2) := by decide +kernel
theorem dX10_messageOf_120 : decode cX10_messageOf 120 = .ok (.ireturn, 1) := by decide +kernel
theorem dX10_moreOf_0 : decode cX10_moreOf 0 = .ok (.iconst 0, 1) := by decide +kernel
theorem dX10_moreOf_1 : decode cX10_moreOf 1 = .ok (.istore_n 2, 1) := by decide +kernel
theorem dX10_moreOf_2 : decode cX10_moreOf 2 = .ok (.iload_n 2, 1) := by decide +kernel
theorem dX10_moreOf_3 : decode cX10_moreOf 3 = .ok (.aload_n 0, 1) := by decide +kernel
theorem dX10_moreOf_4 : decode cX10_moreOf 4 = .ok (.getfield 40, 3) := by decide +kernel
theorem dX10_moreOf_7 : decode cX10_moreOf 7 = .ok (.iload_n 1, 1) := by decide +kernel
theorem dX10_moreOf_8 : decode cX10_moreOf 8 = .ok (.iaload, 1) := by decide +kernel
theorem dX10_moreOf_9 : decode cX10_moreOf 9 = .ok (.iconst 1, 1) := by decide +kernel
theorem dX10_moreOf_10 : decode cX10_moreOf 10 = .ok (.iadd, 1) := by decide +kernel
theorem dX10_moreOf_11 : decode cX10_moreOf 11 = .ok (.aload_n 0, 1) := by decide +kernel
theorem dX10_moreOf_12 : decode cX10_moreOf 12 = .ok (.getfield 43, 3) := by decide +kernel
theorem dX10_moreOf_15 : decode cX10_moreOf 15 = .ok (.iload_n 1, 1) := by decide +kernel
theorem dX10_moreOf_16 : decode cX10_moreOf 16 = .ok (.iaload, 1) := by decide +kernel
theorem dX10_moreOf_17 : decode cX10_moreOf 17 = .ok (.invokestatic 134, 3) := by decide +kernel
theorem dX10_moreOf_20 : decode cX10_moreOf 20 = .ok (.ifCond .eq 26, 3) := by decide +kernel
theorem dX10_moreOf_23 : decode cX10_moreOf 23 = .ok (.iconst 1, 1) := by decide +kernel
theorem dX10_moreOf_24 : decode cX10_moreOf 24 = .ok (.aload_n 0, 1) := by decide +kernel
theorem dX10_moreOf_25 : decode cX10_moreOf 25 = .ok (.aload_n 0, 1) := by decide +kernel
theorem dX10_moreOf_26 : decode cX10_moreOf 26 = .ok (.getfield 40, 3) := by decide +kernel
theorem dX10_moreOf_29 : decode cX10_moreOf 29 = .ok (.iload_n 1, 1) := by decide +kernel
theorem dX10_moreOf_30 : decode cX10_moreOf 30 = .ok (.iaload, 1) := by decide +kernel
theorem dX10_moreOf_31 : decode cX10_moreOf 31 = .ok (.iconst 1, 1) := by decide +kernel
theorem dX10_moreOf_32 : decode cX10_moreOf 32 = .ok (.iadd, 1) := by decide +kernel
theorem dX10_moreOf_33 : decode cX10_moreOf 33 = .ok (.aload_n 0, 1) := by decide +kernel
theorem dX10_moreOf_34 : decode cX10_moreOf 34 = .ok (.getfield 43, 3) := by decide +kernel
theorem dX10_moreOf_37 : decode cX10_moreOf 37 = .ok (.iload_n 1, 1) := by decide +kernel
theorem dX10_moreOf_38 : decode cX10_moreOf 38 = .ok (.iaload, 1) := by decide +kernel
theorem dX10_moreOf_39 : decode cX10_moreOf 39 = .ok (.invokevirtual 138, 3) := by decide +kernel
theorem dX10_moreOf_42 : decode cX10_moreOf 42 = .ok (.ishl, 1) := by decide +kernel
theorem dX10_moreOf_43 : decode cX10_moreOf 43 = .ok (.goto 4, 3) := by decide +kernel
theorem dX10_moreOf_46 : decode cX10_moreOf 46 = .ok (.iconst 0, 1) := by decide +kernel
theorem dX10_moreOf_47 : decode cX10_moreOf 47 = .ok (.ior, 1) := by decide +kernel
theorem dX10_moreOf_48 : decode cX10_moreOf 48 = .ok (.istore_n 2, 1) := by decide +kernel
theorem dX10_moreOf_49 : decode cX10_moreOf 49 = .ok (.aload_n 0, 1) := by decide +kernel
theorem dX10_moreOf_50 : decode cX10_moreOf 50 = .ok (.getfield 40, 3) := by decide +kernel
theorem dX10_moreOf_53 : decode cX10_moreOf 53 = .ok (.iload_n 1, 1) := by decide +kernel
theorem dX10_moreOf_54 : decode cX10_moreOf 54 = .ok (.iaload, 1) := by decide +kernel
theorem dX10_moreOf_55 : decode cX10_moreOf 55 = .ok (.aload_n 0, 1) := by decide +kernel
theorem dX10_moreOf_56 : decode cX10_moreOf 56 = .ok (.getfield 43, 3) := by decide +kernel
theorem dX10_moreOf_59 : decode cX10_moreOf 59 = .ok (.iload_n 1, 1) := by decide +kernel
theorem dX10_moreOf_60 : decode cX10_moreOf 60 = .ok (.iaload, 1) := by decide +kernel
theorem dX10_moreOf_61 : decode cX10_moreOf 61 = .ok (.iconst 1, 1) := by decide +kernel
theorem dX10_moreOf_62 : decode cX10_moreOf 62 = .ok (.iadd, 1) := by decide +kernel
theorem dX10_moreOf_63 : decode cX10_moreOf 63 = .ok (.invokestatic 134, 3) := by decide +kernel
theorem dX10_moreOf_66 : decode cX10_moreOf 66 = .ok (.ifCond .eq 28, 3) := by decide +kernel
theorem dX10_moreOf_69 : decode cX10_moreOf 69 = .ok (.iload_n 2, 1) := by decide +kernel
theorem dX10_moreOf_70 : decode cX10_moreOf 70 = .ok (.iconst 1, 1) := by decide +kernel
theorem dX10_moreOf_71 : decode cX10_moreOf 71 = .ok (.aload_n 0, 1) := by decide +kernel
theorem dX10_moreOf_72 : decode cX10_moreOf 72 = .ok (.aload_n 0, 1) := by decide +kernel
theorem dX10_moreOf_73 : decode cX10_moreOf 73 = .ok (.getfield 40, 3) := by decide +kernel
theorem dX10_moreOf_76 : decode cX10_moreOf 76 = .ok (.iload_n 1, 1) := by decide +kernel
theorem dX10_moreOf_77 : decode cX10_moreOf 77 = .ok (.iaload, 1) := by decide +kernel
theorem dX10_moreOf_78 : decode cX10_moreOf 78 = .ok (.aload_n 0, 1) := by decide +kernel
theorem dX10_moreOf_79 : decode cX10_moreOf 79 = .ok (.getfield 43, 3) := by decide +kernel
theorem dX10_moreOf_82 : decode cX10_moreOf 82 = .ok (.iload_n 1, 1) := by decide +kernel
theorem dX10_moreOf_83 : decode cX10_moreOf 83 = .ok (.iaload, 1) := by decide +kernel
theorem dX10_moreOf_84 : decode cX10_moreOf 84 = .ok (.iconst 1, 1) := by decide +kernel
theorem dX10_moreOf_85 : decode cX10_moreOf 85 = .ok (.iadd, 1) := by decide +kernel
theorem dX10_moreOf_86 : decode cX10_moreOf 86 = .ok (.invokevirtual 138, 3) := by decide +kernel
theorem dX10_moreOf_89 : decode cX10_moreOf 89 = .ok (.ishl, 1) := by decide +kernel
theorem dX10_moreOf_90 : decode cX10_moreOf 90 = .ok (.ior, 1) := by decide +kernel
theorem dX10_moreOf_91 : decode cX10_moreOf 91 = .ok (.goto 4, 3) := by decide +kernel
theorem dX10_moreOf_94 : decode cX10_moreOf 94 = .ok (.iload_n 2, 1) := by decide +kernel
theorem dX10_moreOf_95 : decode cX10_moreOf 95 = .ok (.ireturn, 1) := by decide +kernel
theorem dX10_letterOf_0 : decode cX10_letterOf 0 = .ok (.aload_n 0, 1) := by decide +kernel
theorem dX10_letterOf_1 : decode cX10_letterOf 1 = .ok (.invokevirtual 151, 3) := by decide +kernel
theorem dX10_letterOf_4 : decode cX10_letterOf 4 = .ok (.aload_n 0, 1) := by decide +kernel
theorem dX10_letterOf_5 : decode cX10_letterOf 5 = .ok (.iload_n 1, 1) := by decide +kernel
theorem dX10_letterOf_6 : decode cX10_letterOf 6 = .ok (.invokevirtual 158, 3) := by decide +kernel
theorem dX10_letterOf_9 : decode cX10_letterOf 9 = .ok (.ifCond .eq 16, 3) := by decide +kernel
theorem dX10_letterOf_12 : decode cX10_letterOf 12 = .ok (.iload_n 2, 1) := by decide +kernel
theorem dX10_letterOf_13 : decode cX10_letterOf 13 = .ok (.ifCond .lt 12, 3) := by decide +kernel
theorem dX10_letterOf_16 : decode cX10_letterOf 16 = .ok (.iload_n 2, 1) := by decide +kernel
theorem dX10_letterOf_17 : decode cX10_letterOf 17 = .ok (.aload_n 0, 1) := by decide +kernel
theorem dX10_letterOf_18 : decode cX10_letterOf 18 = .ok (.iload_n 1, 1) := by decide +kernel
theorem dX10_letterOf_19 : decode cX10_letterOf 19 = .ok (.invokevirtual 142, 3) := by decide +kernel
theorem dX10_letterOf_22 : decode cX10_letterOf 22 = .ok (.if_icmp .lt 6, 3) := by decide +kernel
theorem dX10_letterOf_25 : decode cX10_letterOf 25 = .ok (.ldc 76, 2) := by decide +kernel
theorem dX10_letterOf_27 : decode cX10_letterOf 27 = .ok (.ireturn, 1) := by decide +kernel
theorem dX10_letterOf_28 : decode cX10_letterOf 28 = .ok (.aload_n 0, 1) := by decide +kernel
theorem dX10_letterOf_29 : decode cX10_letterOf 29 = .ok (.getfield 46, 3) := by decide +kernel
theorem dX10_letterOf_32 : decode cX10_letterOf 32 = .ok (.iload_n 1, 1) := by decide +kernel
theorem dX10_letterOf_33 : decode cX10_letterOf 33 = .ok (.iaload, 1) := by decide +kernel
theorem dX10_letterOf_34 : decode cX10_letterOf 34 = .ok (.iload_n 2, 1) := by decide +kernel
theorem dX10_letterOf_35 : decode cX10_letterOf 35 = .ok (.iadd, 1) := by decide +kernel
theorem dX10_letterOf_36 : decode cX10_letterOf 36 = .ok (.istore 4, 2) := by decide +kernel
theorem dX10_letterOf_38 : decode cX10_letterOf 38 = .ok (.iload_n 3, 1) := by decide +kernel
theorem dX10_letterOf_39 : decode cX10_letterOf 39 = .ok (.tableswitch 117 0 4 #[33, 54, 62, 70, 94], 33) := by decide +kernel
theorem dX10_letterOf_72 : decode cX10_letterOf 72 = .ok (.aload_n 0, 1) := by decide +kernel
theorem dX10_letterOf_73 : decode cX10_letterOf 73 = .ok (.iload 4, 2) := by decide +kernel
theorem dX10_letterOf_75 : decode cX10_letterOf 75 = .ok (.invokevirtual 145, 3) := by decide +kernel
theorem dX10_letterOf_78 : decode cX10_letterOf 78 = .ok (.ifCond .eq 12, 3) := by decide +kernel
theorem dX10_letterOf_81 : decode cX10_letterOf 81 = .ok (.aload_n 0, 1) := by decide +kernel
theorem dX10_letterOf_82 : decode cX10_letterOf 82 = .ok (.iload 4, 2) := by decide +kernel
theorem dX10_letterOf_84 : decode cX10_letterOf 84 = .ok (.invokevirtual 148, 3) := by decide +kernel
theorem dX10_letterOf_87 : decode cX10_letterOf 87 = .ok (.goto 5, 3) := by decide +kernel
theorem dX10_letterOf_90 : decode cX10_letterOf 90 = .ok (.ldc 154, 2) := by decide +kernel
theorem dX10_letterOf_92 : decode cX10_letterOf 92 = .ok (.ireturn, 1) := by decide +kernel
theorem dX10_letterOf_93 : decode cX10_letterOf 93 = .ok (.aload_n 0, 1) := by decide +kernel
theorem dX10_letterOf_94 : decode cX10_letterOf 94 = .ok (.getfield 37, 3) := by decide +kernel
theorem dX10_letterOf_97 : decode cX10_letterOf 97 = .ok (.iload 4, 2) := by decide +kernel
theorem dX10_letterOf_99 : decode cX10_letterOf 99 = .ok (.iaload, 1) := by decide +kernel
theorem dX10_letterOf_100 : decode cX10_letterOf 100 = .ok (.ireturn, 1) := by decide +kernel
theorem dX10_letterOf_101 : decode cX10_letterOf 101 = .ok (.aload_n 0, 1) := by decide +kernel
theorem dX10_letterOf_102 : decode cX10_letterOf 102 = .ok (.getfield 40, 3) := by decide +kernel
theorem dX10_letterOf_105 : decode cX10_letterOf 105 = .ok (.iload 4, 2) := by decide +kernel
theorem dX10_letterOf_107 : decode cX10_letterOf 107 = .ok (.iaload, 1) := by decide +kernel
theorem dX10_letterOf_108 : decode cX10_letterOf 108 = .ok (.ireturn, 1) := by decide +kernel
theorem dX10_letterOf_109 : decode cX10_letterOf 109 = .ok (.aload_n 0, 1) := by decide +kernel
theorem dX10_letterOf_110 : decode cX10_letterOf 110 = .ok (.getfield 37, 3) := by decide +kernel
theorem dX10_letterOf_113 : decode cX10_letterOf 113 = .ok (.iload 4, 2) := by decide +kernel
theorem dX10_letterOf_115 : decode cX10_letterOf 115 = .ok (.iaload, 1) := by decide +kernel
theorem dX10_letterOf_116 : decode cX10_letterOf 116 = .ok (.iconst 1, 1) := by decide +kernel
theorem dX10_letterOf_117 : decode cX10_letterOf 117 = .ok (.if_icmp .le 13, 3) := by decide +kernel
theorem dX10_letterOf_120 : decode cX10_letterOf 120 = .ok (.aload_n 0, 1) := by decide +kernel
theorem dX10_letterOf_121 : decode cX10_letterOf 121 = .ok (.getfield 43, 3) := by decide +kernel
theorem dX10_letterOf_124 : decode cX10_letterOf 124 = .ok (.iload 4, 2) := by decide +kernel
theorem dX10_letterOf_126 : decode cX10_letterOf 126 = .ok (.iaload, 1) := by decide +kernel
theorem dX10_letterOf_127 : decode cX10_letterOf 127 = .ok (.goto 5, 3) := by decide +kernel
theorem dX10_letterOf_130 : decode cX10_letterOf 130 = .ok (.ldc 154, 2) := by decide +kernel
theorem dX10_letterOf_132 : decode cX10_letterOf 132 = .ok (.ireturn, 1) := by decide +kernel
theorem dX10_letterOf_133 : decode cX10_letterOf 133 = .ok (.aload_n 0, 1) := by decide +kernel
theorem dX10_letterOf_134 : decode cX10_letterOf 134 = .ok (.getfield 37, 3) := by decide +kernel
theorem dX10_letterOf_137 : decode cX10_letterOf 137 = .ok (.iload 4, 2) := by decide +kernel
theorem dX10_letterOf_139 : decode cX10_letterOf 139 = .ok (.iaload, 1) := by decide +kernel
theorem dX10_letterOf_140 : decode cX10_letterOf 140 = .ok (.iconst 2, 1) := by decide +kernel
theorem dX10_letterOf_141 : decode cX10_letterOf 141 = .ok (.if_icmp .ne 12, 3) := by decide +kernel
theorem dX10_letterOf_144 : decode cX10_letterOf 144 = .ok (.aload_n 0, 1) := by decide +kernel
theorem dX10_letterOf_145 : decode cX10_letterOf 145 = .ok (.iload 4, 2) := by decide +kernel
theorem dX10_letterOf_147 : decode cX10_letterOf 147 = .ok (.invokevirtual 167, 3) := by decide +kernel
theorem dX10_letterOf_150 : decode cX10_letterOf 150 = .ok (.goto 5, 3) := by decide +kernel
theorem dX10_letterOf_153 : decode cX10_letterOf 153 = .ok (.ldc 154, 2) := by decide +kernel
theorem dX10_letterOf_155 : decode cX10_letterOf 155 = .ok (.ireturn, 1) := by decide +kernel
theorem dX10_letterOf_156 : decode cX10_letterOf 156 = .ok (.ldc 76, 2) := by decide +kernel
theorem dX10_letterOf_158 : decode cX10_letterOf 158 = .ok (.ireturn, 1) := by decide +kernel
theorem dX10_correction_0 : decode cX10_correction 0 = .ok (.aload_n 0, 1) := by decide +kernel
theorem dX10_correction_1 : decode cX10_correction 1 = .ok (.invokevirtual 151, 3) := by decide +kernel
theorem dX10_correction_4 : decode cX10_correction 4 = .ok (.aload_n 0, 1) := by decide +kernel
theorem dX10_correction_5 : decode cX10_correction 5 = .ok (.iload_n 1, 1) := by decide +kernel
theorem dX10_correction_6 : decode cX10_correction 6 = .ok (.invokevirtual 158, 3) := by decide +kernel
theorem dX10_correction_9 : decode cX10_correction 9 = .ok (.ifCond .eq 16, 3) := by decide +kernel
theorem dX10_correction_12 : decode cX10_correction 12 = .ok (.iload_n 2, 1) := by decide +kernel
theorem dX10_correction_13 : decode cX10_correction 13 = .ok (.ifCond .lt 12, 3) := by decide +kernel
theorem dX10_correction_16 : decode cX10_correction 16 = .ok (.iload_n 3, 1) := by decide +kernel
theorem dX10_correction_17 : decode cX10_correction 17 = .ok (.iconst 0, 1) := by decide +kernel
theorem dX10_correction_18 : decode cX10_correction 18 = .ok (.iconst 3, 1) := by decide +kernel
theorem dX10_correction_19 : decode cX10_correction 19 = .ok (.invokestatic 65, 3) := by decide +kernel
theorem dX10_correction_22 : decode cX10_correction 22 = .ok (.ifCond .ne 6, 3) := by decide +kernel
theorem dX10_correction_25 : decode cX10_correction 25 = .ok (.ldc 76, 2) := by decide +kernel
theorem dX10_correction_27 : decode cX10_correction 27 = .ok (.ireturn, 1) := by decide +kernel
theorem dX10_correction_28 : decode cX10_correction 28 = .ok (.aload_n 0, 1) := by decide +kernel
theorem dX10_correction_29 : decode cX10_correction 29 = .ok (.iload_n 1, 1) := by decide +kernel
theorem dX10_correction_30 : decode cX10_correction 30 = .ok (.iload_n 2, 1) := by decide +kernel
theorem dX10_correction_31 : decode cX10_correction 31 = .ok (.invokevirtual 164, 3) := by decide +kernel
theorem dX10_correction_34 : decode cX10_correction 34 = .ok (.iload_n 2, 1) := by decide +kernel
theorem dX10_correction_35 : decode cX10_correction 35 = .ok (.if_icmp .le 12, 3) := by decide +kernel
theorem dX10_correction_38 : decode cX10_correction 38 = .ok (.aload_n 0, 1) := by decide +kernel
theorem dX10_correction_39 : decode cX10_correction 39 = .ok (.getfield 58, 3) := by decide +kernel
theorem dX10_correction_42 : decode cX10_correction 42 = .ok (.iload_n 3, 1) := by decide +kernel
theorem dX10_correction_43 : decode cX10_correction 43 = .ok (.iaload, 1) := by decide +kernel
theorem dX10_correction_44 : decode cX10_correction 44 = .ok (.goto 5, 3) := by decide +kernel
theorem dX10_correction_47 : decode cX10_correction 47 = .ok (.ldc 154, 2) := by decide +kernel
theorem dX10_correction_49 : decode cX10_correction 49 = .ok (.ireturn, 1) := by decide +kernel
theorem dX10_voted_0 : decode cX10_voted 0 = .ok (.ldc 154, 2) := by decide +kernel
theorem dX10_voted_2 : decode cX10_voted 2 = .ok (.istore_n 2, 1) := by decide +kernel
theorem dX10_voted_3 : decode cX10_voted 3 = .ok (.aload_n 0, 1) := by decide +kernel
theorem dX10_voted_4 : decode cX10_voted 4 = .ok (.iconst 0, 1) := by decide +kernel
theorem dX10_voted_5 : decode cX10_voted 5 = .ok (.putfield 170, 3) := by decide +kernel
theorem dX10_voted_8 : decode cX10_voted 8 = .ok (.aload_n 0, 1) := by decide +kernel
theorem dX10_voted_9 : decode cX10_voted 9 = .ok (.iconst 0, 1) := by decide +kernel
theorem dX10_voted_10 : decode cX10_voted 10 = .ok (.putfield 173, 3) := by decide +kernel
theorem dX10_voted_13 : decode cX10_voted 13 = .ok (.iconst 0, 1) := by decide +kernel
theorem dX10_voted_14 : decode cX10_voted 14 = .ok (.istore_n 3, 1) := by decide +kernel
theorem dX10_voted_15 : decode cX10_voted 15 = .ok (.iload_n 3, 1) := by decide +kernel
theorem dX10_voted_16 : decode cX10_voted 16 = .ok (.bipush 25, 2) := by decide +kernel
theorem dX10_voted_18 : decode cX10_voted 18 = .ok (.if_icmp .ge 160, 3) := by decide +kernel
theorem dX10_voted_21 : decode cX10_voted 21 = .ok (.iconst 0, 1) := by decide +kernel
theorem dX10_voted_22 : decode cX10_voted 22 = .ok (.istore 4, 2) := by decide +kernel
theorem dX10_voted_24 : decode cX10_voted 24 = .ok (.iconst 0, 1) := by decide +kernel
theorem dX10_voted_25 : decode cX10_voted 25 = .ok (.istore 5, 2) := by decide +kernel
theorem dX10_voted_27 : decode cX10_voted 27 = .ok (.iload 5, 2) := by decide +kernel
theorem dX10_voted_29 : decode cX10_voted 29 = .ok (.aload_n 0, 1) := by decide +kernel
theorem dX10_voted_30 : decode cX10_voted 30 = .ok (.getfield 121, 3) := by decide +kernel
theorem dX10_voted_33 : decode cX10_voted 33 = .ok (.if_icmp .ge 59, 3) := by decide +kernel
theorem dX10_voted_36 : decode cX10_voted 36 = .ok (.aload_n 0, 1) := by decide +kernel
theorem dX10_voted_37 : decode cX10_voted 37 = .ok (.getfield 46, 3) := by decide +kernel
theorem dX10_voted_40 : decode cX10_voted 40 = .ok (.iload 5, 2) := by decide +kernel
theorem dX10_voted_42 : decode cX10_voted 42 = .ok (.iaload, 1) := by decide +kernel
theorem dX10_voted_43 : decode cX10_voted 43 = .ok (.iload_n 1, 1) := by decide +kernel
theorem dX10_voted_44 : decode cX10_voted 44 = .ok (.iadd, 1) := by decide +kernel
theorem dX10_voted_45 : decode cX10_voted 45 = .ok (.istore 6, 2) := by decide +kernel
theorem dX10_voted_47 : decode cX10_voted 47 = .ok (.iload 4, 2) := by decide +kernel
theorem dX10_voted_49 : decode cX10_voted 49 = .ok (.iload_n 1, 1) := by decide +kernel
theorem dX10_voted_50 : decode cX10_voted 50 = .ok (.aload_n 0, 1) := by decide +kernel
theorem dX10_voted_51 : decode cX10_voted 51 = .ok (.iload 5, 2) := by decide +kernel
theorem dX10_voted_53 : decode cX10_voted 53 = .ok (.invokevirtual 142, 3) := by decide +kernel
theorem dX10_voted_56 : decode cX10_voted 56 = .ok (.if_icmp .ge 26, 3) := by decide +kernel
theorem dX10_voted_59 : decode cX10_voted 59 = .ok (.aload_n 0, 1) := by decide +kernel
theorem dX10_voted_60 : decode cX10_voted 60 = .ok (.iload 6, 2) := by decide +kernel
theorem dX10_voted_62 : decode cX10_voted 62 = .ok (.invokevirtual 145, 3) := by decide +kernel
theorem dX10_voted_65 : decode cX10_voted 65 = .ok (.ifCond .eq 17, 3) := by decide +kernel
theorem dX10_voted_68 : decode cX10_voted 68 = .ok (.aload_n 0, 1) := by decide +kernel
theorem dX10_voted_69 : decode cX10_voted 69 = .ok (.iload 6, 2) := by decide +kernel
theorem dX10_voted_71 : decode cX10_voted 71 = .ok (.invokevirtual 148, 3) := by decide +kernel
theorem dX10_voted_74 : decode cX10_voted 74 = .ok (.iload_n 3, 1) := by decide +kernel
theorem dX10_voted_75 : decode cX10_voted 75 = .ok (.if_icmp .ne 7, 3) := by decide +kernel
theorem dX10_voted_78 : decode cX10_voted 78 = .ok (.iconst 1, 1) := by decide +kernel
theorem dX10_voted_79 : decode cX10_voted 79 = .ok (.goto 4, 3) := by decide +kernel
theorem dX10_voted_82 : decode cX10_voted 82 = .ok (.iconst 0, 1) := by decide +kernel
theorem dX10_voted_83 : decode cX10_voted 83 = .ok (.iadd, 1) := by decide +kernel
theorem dX10_voted_84 : decode cX10_voted 84 = .ok (.istore 4, 2) := by decide +kernel
theorem dX10_voted_86 : decode cX10_voted 86 = .ok (.iinc 5 1, 3) := by decide +kernel
theorem dX10_voted_89 : decode cX10_voted 89 = .ok (.goto (-62), 3) := by decide +kernel
theorem dX10_voted_92 : decode cX10_voted 92 = .ok (.aload_n 0, 1) := by decide +kernel
theorem dX10_voted_93 : decode cX10_voted 93 = .ok (.iload 4, 2) := by decide +kernel
theorem dX10_voted_95 : decode cX10_voted 95 = .ok (.aload_n 0, 1) := by decide +kernel
theorem dX10_voted_96 : decode cX10_voted 96 = .ok (.getfield 170, 3) := by decide +kernel
theorem dX10_voted_99 : decode cX10_voted 99 = .ok (.if_icmp .le 7, 3) := by decide +kernel
theorem dX10_voted_102 : decode cX10_voted 102 = .ok (.iconst 0, 1) := by decide +kernel
theorem dX10_voted_103 : decode cX10_voted 103 = .ok (.goto 29, 3) := by decide +kernel
theorem dX10_voted_106 : decode cX10_voted 106 = .ok (.aload_n 0, 1) := by decide +kernel
theorem dX10_voted_107 : decode cX10_voted 107 = .ok (.getfield 173, 3) := by decide +kernel
theorem dX10_voted_110 : decode cX10_voted 110 = .ok (.ifCond .ne 17, 3) := by decide +kernel
theorem dX10_voted_113 : decode cX10_voted 113 = .ok (.iload 4, 2) := by decide +kernel
theorem dX10_voted_115 : decode cX10_voted 115 = .ok (.ifCond .le 16, 3) := by decide +kernel
theorem dX10_voted_118 : decode cX10_voted 118 = .ok (.iload 4, 2) := by decide +kernel
theorem dX10_voted_120 : decode cX10_voted 120 = .ok (.aload_n 0, 1) := by decide +kernel
theorem dX10_voted_121 : decode cX10_voted 121 = .ok (.getfield 170, 3) := by decide +kernel
theorem dX10_voted_124 : decode cX10_voted 124 = .ok (.if_icmp .ne 7, 3) := by decide +kernel
theorem dX10_voted_127 : decode cX10_voted 127 = .ok (.iconst 1, 1) := by decide +kernel
theorem dX10_voted_128 : decode cX10_voted 128 = .ok (.goto 4, 3) := by decide +kernel
theorem dX10_voted_131 : decode cX10_voted 131 = .ok (.iconst 0, 1) := by decide +kernel
theorem dX10_voted_132 : decode cX10_voted 132 = .ok (.putfield 173, 3) := by decide +kernel
theorem dX10_voted_135 : decode cX10_voted 135 = .ok (.iload 4, 2) := by decide +kernel
theorem dX10_voted_137 : decode cX10_voted 137 = .ok (.aload_n 0, 1) := by decide +kernel
theorem dX10_voted_138 : decode cX10_voted 138 = .ok (.getfield 170, 3) := by decide +kernel
theorem dX10_voted_141 : decode cX10_voted 141 = .ok (.if_icmp .le 7, 3) := by decide +kernel
theorem dX10_voted_144 : decode cX10_voted 144 = .ok (.iload_n 3, 1) := by decide +kernel
theorem dX10_voted_145 : decode cX10_voted 145 = .ok (.goto 4, 3) := by decide +kernel
theorem dX10_voted_148 : decode cX10_voted 148 = .ok (.iload_n 2, 1) := by decide +kernel
theorem dX10_voted_149 : decode cX10_voted 149 = .ok (.istore_n 2, 1) := by decide +kernel
theorem dX10_voted_150 : decode cX10_voted 150 = .ok (.aload_n 0, 1) := by decide +kernel
theorem dX10_voted_151 : decode cX10_voted 151 = .ok (.iload 4, 2) := by decide +kernel
theorem dX10_voted_153 : decode cX10_voted 153 = .ok (.aload_n 0, 1) := by decide +kernel
theorem dX10_voted_154 : decode cX10_voted 154 = .ok (.getfield 170, 3) := by decide +kernel
theorem dX10_voted_157 : decode cX10_voted 157 = .ok (.if_icmp .le 8, 3) := by decide +kernel
theorem dX10_voted_160 : decode cX10_voted 160 = .ok (.iload 4, 2) := by decide +kernel
theorem dX10_voted_162 : decode cX10_voted 162 = .ok (.goto 7, 3) := by decide +kernel
theorem dX10_voted_165 : decode cX10_voted 165 = .ok (.aload_n 0, 1) := by decide +kernel
theorem dX10_voted_166 : decode cX10_voted 166 = .ok (.getfield 170, 3) := by decide +kernel
theorem dX10_voted_169 : decode cX10_voted 169 = .ok (.putfield 170, 3) := by decide +kernel
theorem dX10_voted_172 : decode cX10_voted 172 = .ok (.iinc 3 1, 3) := by decide +kernel
theorem dX10_voted_175 : decode cX10_voted 175 = .ok (.goto (-160), 3) := by decide +kernel
theorem dX10_voted_178 : decode cX10_voted 178 = .ok (.iload_n 2, 1) := by decide +kernel
theorem dX10_voted_179 : decode cX10_voted 179 = .ok (.ireturn, 1) := by decide +kernel
theorem dX10_vote_0 : decode cX10_vote 0 = .ok (.iload_n 1, 1) := by decide +kernel
theorem dX10_vote_1 : decode cX10_vote 1 = .ok (.ifCond .lt 12, 3) := by decide +kernel
theorem dX10_vote_4 : decode cX10_vote 4 = .ok (.iload_n 2, 1) := by decide +kernel
theorem dX10_vote_5 : decode cX10_vote 5 = .ok (.iconst 0, 1) := by decide +kernel
theorem dX10_vote_6 : decode cX10_vote 6 = .ok (.iconst 2, 1) := by decide +kernel
theorem dX10_vote_7 : decode cX10_vote 7 = .ok (.invokestatic 65, 3) := by decide +kernel
theorem dX10_vote_10 : decode cX10_vote 10 = .ok (.ifCond .ne 6, 3) := by decide +kernel
theorem dX10_vote_13 : decode cX10_vote 13 = .ok (.ldc 76, 2) := by decide +kernel
theorem dX10_vote_15 : decode cX10_vote 15 = .ok (.ireturn, 1) := by decide +kernel
theorem dX10_vote_16 : decode cX10_vote 16 = .ok (.aload_n 0, 1) := by decide +kernel
theorem dX10_vote_17 : decode cX10_vote 17 = .ok (.invokevirtual 151, 3) := by decide +kernel
theorem dX10_vote_20 : decode cX10_vote 20 = .ok (.aload_n 0, 1) := by decide +kernel
theorem dX10_vote_21 : decode cX10_vote 21 = .ok (.iload_n 1, 1) := by decide +kernel
theorem dX10_vote_22 : decode cX10_vote 22 = .ok (.invokevirtual 177, 3) := by decide +kernel
theorem dX10_vote_25 : decode cX10_vote 25 = .ok (.istore_n 3, 1) := by decide +kernel
theorem dX10_vote_26 : decode cX10_vote 26 = .ok (.iload_n 3, 1) := by decide +kernel
theorem dX10_vote_27 : decode cX10_vote 27 = .ok (.ifCond .lt 7, 3) := by decide +kernel
theorem dX10_vote_30 : decode cX10_vote 30 = .ok (.iload_n 2, 1) := by decide +kernel
theorem dX10_vote_31 : decode cX10_vote 31 = .ok (.ifCond .ne 7, 3) := by decide +kernel
theorem dX10_vote_34 : decode cX10_vote 34 = .ok (.iload_n 3, 1) := by decide +kernel
theorem dX10_vote_35 : decode cX10_vote 35 = .ok (.goto 27, 3) := by decide +kernel
theorem dX10_vote_38 : decode cX10_vote 38 = .ok (.iload_n 2, 1) := by decide +kernel
theorem dX10_vote_39 : decode cX10_vote 39 = .ok (.iconst 1, 1) := by decide +kernel
theorem dX10_vote_40 : decode cX10_vote 40 = .ok (.if_icmp .ne 10, 3) := by decide +kernel
theorem dX10_vote_43 : decode cX10_vote 43 = .ok (.aload_n 0, 1) := by decide +kernel
theorem dX10_vote_44 : decode cX10_vote 44 = .ok (.getfield 170, 3) := by decide +kernel
theorem dX10_vote_47 : decode cX10_vote 47 = .ok (.goto 15, 3) := by decide +kernel
theorem dX10_vote_50 : decode cX10_vote 50 = .ok (.aload_n 0, 1) := by decide +kernel
theorem dX10_vote_51 : decode cX10_vote 51 = .ok (.getfield 173, 3) := by decide +kernel
theorem dX10_vote_54 : decode cX10_vote 54 = .ok (.ifCond .eq 7, 3) := by decide +kernel
theorem dX10_vote_57 : decode cX10_vote 57 = .ok (.iconst 1, 1) := by decide +kernel
theorem dX10_vote_58 : decode cX10_vote 58 = .ok (.goto 4, 3) := by decide +kernel
theorem dX10_vote_61 : decode cX10_vote 61 = .ok (.iconst 0, 1) := by decide +kernel
theorem dX10_vote_62 : decode cX10_vote 62 = .ok (.ireturn, 1) := by decide +kernel
theorem dX10_readBy_0 : decode cX10_readBy 0 = .ok (.iload_n 2, 1) := by decide +kernel
theorem dX10_readBy_1 : decode cX10_readBy 1 = .ok (.aload_n 0, 1) := by decide +kernel
theorem dX10_readBy_2 : decode cX10_readBy 2 = .ok (.iload_n 1, 1) := by decide +kernel
theorem dX10_readBy_3 : decode cX10_readBy 3 = .ok (.invokevirtual 142, 3) := by decide +kernel
theorem dX10_readBy_6 : decode cX10_readBy 6 = .ok (.if_icmp .lt 6, 3) := by decide +kernel
theorem dX10_readBy_9 : decode cX10_readBy 9 = .ok (.ldc 154, 2) := by decide +kernel
theorem dX10_readBy_11 : decode cX10_readBy 11 = .ok (.ireturn, 1) := by decide +kernel
theorem dX10_readBy_12 : decode cX10_readBy 12 = .ok (.iload_n 3, 1) := by decide +kernel
theorem dX10_readBy_13 : decode cX10_readBy 13 = .ok (.ifCond .eq 22, 3) := by decide +kernel
theorem dX10_readBy_16 : decode cX10_readBy 16 = .ok (.aload_n 0, 1) := by decide +kernel
theorem dX10_readBy_17 : decode cX10_readBy 17 = .ok (.getfield 58, 3) := by decide +kernel
theorem dX10_readBy_20 : decode cX10_readBy 20 = .ok (.iconst 0, 1) := by decide +kernel
theorem dX10_readBy_21 : decode cX10_readBy 21 = .ok (.iaload, 1) := by decide +kernel
theorem dX10_readBy_22 : decode cX10_readBy 22 = .ok (.iload_n 2, 1) := by decide +kernel
theorem dX10_readBy_23 : decode cX10_readBy 23 = .ok (.if_icmp .ne 12, 3) := by decide +kernel
theorem dX10_readBy_26 : decode cX10_readBy 26 = .ok (.aload_n 0, 1) := by decide +kernel
theorem dX10_readBy_27 : decode cX10_readBy 27 = .ok (.getfield 58, 3) := by decide +kernel
theorem dX10_readBy_30 : decode cX10_readBy 30 = .ok (.iconst 3, 1) := by decide +kernel
theorem dX10_readBy_31 : decode cX10_readBy 31 = .ok (.iaload, 1) := by decide +kernel
theorem dX10_readBy_32 : decode cX10_readBy 32 = .ok (.goto 15, 3) := by decide +kernel
theorem dX10_readBy_35 : decode cX10_readBy 35 = .ok (.aload_n 0, 1) := by decide +kernel
theorem dX10_readBy_36 : decode cX10_readBy 36 = .ok (.aload_n 0, 1) := by decide +kernel
theorem dX10_readBy_37 : decode cX10_readBy 37 = .ok (.getfield 46, 3) := by decide +kernel
theorem dX10_readBy_40 : decode cX10_readBy 40 = .ok (.iload_n 1, 1) := by decide +kernel
theorem dX10_readBy_41 : decode cX10_readBy 41 = .ok (.iaload, 1) := by decide +kernel
theorem dX10_readBy_42 : decode cX10_readBy 42 = .ok (.iload_n 2, 1) := by decide +kernel
theorem dX10_readBy_43 : decode cX10_readBy 43 = .ok (.iadd, 1) := by decide +kernel
theorem dX10_readBy_44 : decode cX10_readBy 44 = .ok (.invokevirtual 148, 3) := by decide +kernel
theorem dX10_readBy_47 : decode cX10_readBy 47 = .ok (.ireturn, 1) := by decide +kernel
theorem dX10_read_0 : decode cX10_read 0 = .ok (.iload_n 1, 1) := by decide +kernel
theorem dX10_read_1 : decode cX10_read 1 = .ok (.iconst (-1), 1) := by decide +kernel
theorem dX10_read_2 : decode cX10_read 2 = .ok (.if_icmp .ge 6, 3) := by decide +kernel
theorem dX10_read_5 : decode cX10_read 5 = .ok (.ldc 76, 2) := by decide +kernel
theorem dX10_read_7 : decode cX10_read 7 = .ok (.ireturn, 1) := by decide +kernel
theorem dX10_read_8 : decode cX10_read 8 = .ok (.aload_n 0, 1) := by decide +kernel
theorem dX10_read_9 : decode cX10_read 9 = .ok (.getfield 7, 3) := by decide +kernel
theorem dX10_read_12 : decode cX10_read 12 = .ok (.iconst 3, 1) := by decide +kernel
theorem dX10_read_13 : decode cX10_read 13 = .ok (.iaload, 1) := by decide +kernel
theorem dX10_read_14 : decode cX10_read 14 = .ok (.ifCond .ne 6, 3) := by decide +kernel
theorem dX10_read_17 : decode cX10_read 17 = .ok (.ldc 154, 2) := by decide +kernel
theorem dX10_read_19 : decode cX10_read 19 = .ok (.ireturn, 1) := by decide +kernel
theorem dX10_read_20 : decode cX10_read 20 = .ok (.aload_n 0, 1) := by decide +kernel
theorem dX10_read_21 : decode cX10_read 21 = .ok (.invokevirtual 151, 3) := by decide +kernel
theorem dX10_read_24 : decode cX10_read 24 = .ok (.iconst 0, 1) := by decide +kernel
theorem dX10_read_25 : decode cX10_read 25 = .ok (.istore_n 2, 1) := by decide +kernel
theorem dX10_read_26 : decode cX10_read 26 = .ok (.iload_n 2, 1) := by decide +kernel
theorem dX10_read_27 : decode cX10_read 27 = .ok (.aload_n 0, 1) := by decide +kernel
theorem dX10_read_28 : decode cX10_read 28 = .ok (.getfield 121, 3) := by decide +kernel
theorem dX10_read_31 : decode cX10_read 31 = .ok (.if_icmp .ge 36, 3) := by decide +kernel
theorem dX10_read_34 : decode cX10_read 34 = .ok (.aload_n 0, 1) := by decide +kernel
theorem dX10_read_35 : decode cX10_read 35 = .ok (.iload_n 2, 1) := by decide +kernel
theorem dX10_read_36 : decode cX10_read 36 = .ok (.ldc 154, 2) := by decide +kernel
theorem dX10_read_38 : decode cX10_read 38 = .ok (.iconst 0, 1) := by decide +kernel
theorem dX10_read_39 : decode cX10_read 39 = .ok (.invokevirtual 155, 3) := by decide +kernel
theorem dX10_read_42 : decode cX10_read 42 = .ok (.ifCond .eq 19, 3) := by decide +kernel
theorem dX10_read_45 : decode cX10_read 45 = .ok (.iload_n 1, 1) := by decide +kernel
theorem dX10_read_46 : decode cX10_read 46 = .ok (.ifCond .ge 7, 3) := by decide +kernel
theorem dX10_read_49 : decode cX10_read 49 = .ok (.iconst 0, 1) := by decide +kernel
theorem dX10_read_50 : decode cX10_read 50 = .ok (.goto 10, 3) := by decide +kernel
theorem dX10_read_53 : decode cX10_read 53 = .ok (.aload_n 0, 1) := by decide +kernel
theorem dX10_read_54 : decode cX10_read 54 = .ok (.iload_n 2, 1) := by decide +kernel
theorem dX10_read_55 : decode cX10_read 55 = .ok (.iload_n 1, 1) := by decide +kernel
theorem dX10_read_56 : decode cX10_read 56 = .ok (.iconst 0, 1) := by decide +kernel
theorem dX10_read_57 : decode cX10_read 57 = .ok (.invokevirtual 180, 3) := by decide +kernel
theorem dX10_read_60 : decode cX10_read 60 = .ok (.ireturn, 1) := by decide +kernel
theorem dX10_read_61 : decode cX10_read 61 = .ok (.iinc 2 1, 3) := by decide +kernel
theorem dX10_read_64 : decode cX10_read 64 = .ok (.goto (-38), 3) := by decide +kernel
theorem dX10_read_67 : decode cX10_read 67 = .ok (.iconst 0, 1) := by decide +kernel
theorem dX10_read_68 : decode cX10_read 68 = .ok (.istore_n 2, 1) := by decide +kernel
theorem dX10_read_69 : decode cX10_read 69 = .ok (.iload_n 2, 1) := by decide +kernel
theorem dX10_read_70 : decode cX10_read 70 = .ok (.aload_n 0, 1) := by decide +kernel
theorem dX10_read_71 : decode cX10_read 71 = .ok (.getfield 121, 3) := by decide +kernel
theorem dX10_read_74 : decode cX10_read 74 = .ok (.if_icmp .ge 35, 3) := by decide +kernel
theorem dX10_read_77 : decode cX10_read 77 = .ok (.aload_n 0, 1) := by decide +kernel
theorem dX10_read_78 : decode cX10_read 78 = .ok (.iload_n 2, 1) := by decide +kernel
theorem dX10_read_79 : decode cX10_read 79 = .ok (.iconst 0, 1) := by decide +kernel
theorem dX10_read_80 : decode cX10_read 80 = .ok (.invokevirtual 164, 3) := by decide +kernel
theorem dX10_read_83 : decode cX10_read 83 = .ok (.iconst 1, 1) := by decide +kernel
theorem dX10_read_84 : decode cX10_read 84 = .ok (.if_icmp .ne 19, 3) := by decide +kernel
theorem dX10_read_87 : decode cX10_read 87 = .ok (.iload_n 1, 1) := by decide +kernel
theorem dX10_read_88 : decode cX10_read 88 = .ok (.ifCond .ge 7, 3) := by decide +kernel
theorem dX10_read_91 : decode cX10_read 91 = .ok (.iconst 1, 1) := by decide +kernel
theorem dX10_read_92 : decode cX10_read 92 = .ok (.goto 10, 3) := by decide +kernel
theorem dX10_read_95 : decode cX10_read 95 = .ok (.aload_n 0, 1) := by decide +kernel
theorem dX10_read_96 : decode cX10_read 96 = .ok (.iload_n 2, 1) := by decide +kernel
theorem dX10_read_97 : decode cX10_read 97 = .ok (.iload_n 1, 1) := by decide +kernel
theorem dX10_read_98 : decode cX10_read 98 = .ok (.iconst 1, 1) := by decide +kernel
theorem dX10_read_99 : decode cX10_read 99 = .ok (.invokevirtual 180, 3) := by decide +kernel
theorem dX10_read_102 : decode cX10_read 102 = .ok (.ireturn, 1) := by decide +kernel
theorem dX10_read_103 : decode cX10_read 103 = .ok (.iinc 2 1, 3) := by decide +kernel
theorem dX10_read_106 : decode cX10_read 106 = .ok (.goto (-37), 3) := by decide +kernel
theorem dX10_read_109 : decode cX10_read 109 = .ok (.iconst 2, 1) := by decide +kernel
theorem dX10_read_110 : decode cX10_read 110 = .ok (.istore_n 2, 1) := by decide +kernel
theorem dX10_read_111 : decode cX10_read 111 = .ok (.iconst 0, 1) := by decide +kernel
theorem dX10_read_112 : decode cX10_read 112 = .ok (.istore_n 3, 1) := by decide +kernel
theorem dX10_read_113 : decode cX10_read 113 = .ok (.iload_n 3, 1) := by decide +kernel
theorem dX10_read_114 : decode cX10_read 114 = .ok (.iload_n 1, 1) := by decide +kernel
theorem dX10_read_115 : decode cX10_read 115 = .ok (.if_icmp .gt 19, 3) := by decide +kernel
theorem dX10_read_118 : decode cX10_read 118 = .ok (.iload_n 2, 1) := by decide +kernel
theorem dX10_read_119 : decode cX10_read 119 = .ok (.ifCond .lt 15, 3) := by decide +kernel
theorem dX10_read_122 : decode cX10_read 122 = .ok (.aload_n 0, 1) := by decide +kernel
theorem dX10_read_123 : decode cX10_read 123 = .ok (.iload_n 3, 1) := by decide +kernel
theorem dX10_read_124 : decode cX10_read 124 = .ok (.invokevirtual 177, 3) := by decide +kernel
theorem dX10_read_127 : decode cX10_read 127 = .ok (.istore_n 2, 1) := by decide +kernel
theorem dX10_read_128 : decode cX10_read 128 = .ok (.iinc 3 1, 3) := by decide +kernel
theorem dX10_read_131 : decode cX10_read 131 = .ok (.goto (-18), 3) := by decide +kernel
theorem dX10_read_134 : decode cX10_read 134 = .ok (.iload_n 2, 1) := by decide +kernel
theorem dX10_read_135 : decode cX10_read 135 = .ok (.ireturn, 1) := by decide +kernel
theorem dX10_tableOf_0 : decode cX10_tableOf 0 = .ok (.iload_n 1, 1) := by decide +kernel
theorem dX10_tableOf_1 : decode cX10_tableOf 1 = .ok (.invokestatic 80, 3) := by decide +kernel
theorem dX10_tableOf_4 : decode cX10_tableOf 4 = .ok (.ifCond .eq 11, 3) := by decide +kernel
theorem dX10_tableOf_7 : decode cX10_tableOf 7 = .ok (.aload_n 0, 1) := by decide +kernel
theorem dX10_tableOf_8 : decode cX10_tableOf 8 = .ok (.iload_n 1, 1) := by decide +kernel
theorem dX10_tableOf_9 : decode cX10_tableOf 9 = .ok (.invokevirtual 84, 3) := by decide +kernel
theorem dX10_tableOf_12 : decode cX10_tableOf 12 = .ok (.goto 5, 3) := by decide +kernel
theorem dX10_tableOf_15 : decode cX10_tableOf 15 = .ok (.ldc 76, 2) := by decide +kernel
theorem dX10_tableOf_17 : decode cX10_tableOf 17 = .ok (.ireturn, 1) := by decide +kernel
theorem dX10_sums_0 : decode cX10_sums 0 = .ok (.iconst 0, 1) := by decide +kernel
theorem dX10_sums_1 : decode cX10_sums 1 = .ok (.istore_n 2, 1) := by decide +kernel
theorem dX10_sums_2 : decode cX10_sums 2 = .ok (.iconst 0, 1) := by decide +kernel
theorem dX10_sums_3 : decode cX10_sums 3 = .ok (.istore_n 3, 1) := by decide +kernel
theorem dX10_sums_4 : decode cX10_sums 4 = .ok (.iload_n 3, 1) := by decide +kernel
theorem dX10_sums_5 : decode cX10_sums 5 = .ok (.aload_n 0, 1) := by decide +kernel
theorem dX10_sums_6 : decode cX10_sums 6 = .ok (.getfield 121, 3) := by decide +kernel
theorem dX10_sums_9 : decode cX10_sums 9 = .ok (.if_icmp .ge 76, 3) := by decide +kernel
theorem dX10_sums_12 : decode cX10_sums 12 = .ok (.iload_n 2, 1) := by decide +kernel
theorem dX10_sums_13 : decode cX10_sums 13 = .ok (.iload_n 1, 1) := by decide +kernel
theorem dX10_sums_14 : decode cX10_sums 14 = .ok (.iconst 3, 1) := by decide +kernel
theorem dX10_sums_15 : decode cX10_sums 15 = .ok (.if_icmp .ne 11, 3) := by decide +kernel
theorem dX10_sums_18 : decode cX10_sums 18 = .ok (.aload_n 0, 1) := by decide +kernel
theorem dX10_sums_19 : decode cX10_sums 19 = .ok (.iload_n 3, 1) := by decide +kernel
theorem dX10_sums_20 : decode cX10_sums 20 = .ok (.invokevirtual 161, 3) := by decide +kernel
theorem dX10_sums_23 : decode cX10_sums 23 = .ok (.goto 54, 3) := by decide +kernel
theorem dX10_sums_26 : decode cX10_sums 26 = .ok (.iload_n 1, 1) := by decide +kernel
theorem dX10_sums_27 : decode cX10_sums 27 = .ok (.iconst 5, 1) := by decide +kernel
theorem dX10_sums_28 : decode cX10_sums 28 = .ok (.if_icmp .ne 12, 3) := by decide +kernel
theorem dX10_sums_31 : decode cX10_sums 31 = .ok (.aload_n 0, 1) := by decide +kernel
theorem dX10_sums_32 : decode cX10_sums 32 = .ok (.getfield 52, 3) := by decide +kernel
theorem dX10_sums_35 : decode cX10_sums 35 = .ok (.iload_n 3, 1) := by decide +kernel
theorem dX10_sums_36 : decode cX10_sums 36 = .ok (.iaload, 1) := by decide +kernel
theorem dX10_sums_37 : decode cX10_sums 37 = .ok (.goto 40, 3) := by decide +kernel
theorem dX10_sums_40 : decode cX10_sums 40 = .ok (.iload_n 1, 1) := by decide +kernel
theorem dX10_sums_41 : decode cX10_sums 41 = .ok (.bipush 6, 2) := by decide +kernel
theorem dX10_sums_43 : decode cX10_sums 43 = .ok (.if_icmp .ne 12, 3) := by decide +kernel
theorem dX10_sums_46 : decode cX10_sums 46 = .ok (.aload_n 0, 1) := by decide +kernel
theorem dX10_sums_47 : decode cX10_sums 47 = .ok (.getfield 55, 3) := by decide +kernel
theorem dX10_sums_50 : decode cX10_sums 50 = .ok (.iload_n 3, 1) := by decide +kernel
theorem dX10_sums_51 : decode cX10_sums 51 = .ok (.iaload, 1) := by decide +kernel
theorem dX10_sums_52 : decode cX10_sums 52 = .ok (.goto 25, 3) := by decide +kernel
theorem dX10_sums_55 : decode cX10_sums 55 = .ok (.iload_n 1, 1) := by decide +kernel
theorem dX10_sums_56 : decode cX10_sums 56 = .ok (.bipush 7, 2) := by decide +kernel
theorem dX10_sums_58 : decode cX10_sums 58 = .ok (.if_icmp .ne 18, 3) := by decide +kernel
theorem dX10_sums_61 : decode cX10_sums 61 = .ok (.aload_n 0, 1) := by decide +kernel
theorem dX10_sums_62 : decode cX10_sums 62 = .ok (.iload_n 3, 1) := by decide +kernel
theorem dX10_sums_63 : decode cX10_sums 63 = .ok (.ldc 154, 2) := by decide +kernel
theorem dX10_sums_65 : decode cX10_sums 65 = .ok (.iconst 0, 1) := by decide +kernel
theorem dX10_sums_66 : decode cX10_sums 66 = .ok (.invokevirtual 155, 3) := by decide +kernel
theorem dX10_sums_69 : decode cX10_sums 69 = .ok (.ifCond .eq 7, 3) := by decide +kernel
theorem dX10_sums_72 : decode cX10_sums 72 = .ok (.iconst 1, 1) := by decide +kernel
theorem dX10_sums_73 : decode cX10_sums 73 = .ok (.goto 4, 3) := by decide +kernel
theorem dX10_sums_76 : decode cX10_sums 76 = .ok (.iconst 0, 1) := by decide +kernel
theorem dX10_sums_77 : decode cX10_sums 77 = .ok (.iadd, 1) := by decide +kernel
theorem dX10_sums_78 : decode cX10_sums 78 = .ok (.istore_n 2, 1) := by decide +kernel
theorem dX10_sums_79 : decode cX10_sums 79 = .ok (.iinc 3 1, 3) := by decide +kernel
theorem dX10_sums_82 : decode cX10_sums 82 = .ok (.goto (-78), 3) := by decide +kernel
theorem dX10_sums_85 : decode cX10_sums 85 = .ok (.iconst 0, 1) := by decide +kernel
theorem dX10_sums_86 : decode cX10_sums 86 = .ok (.istore_n 3, 1) := by decide +kernel
theorem dX10_sums_87 : decode cX10_sums 87 = .ok (.iload_n 3, 1) := by decide +kernel
theorem dX10_sums_88 : decode cX10_sums 88 = .ok (.aload_n 0, 1) := by decide +kernel
theorem dX10_sums_89 : decode cX10_sums 89 = .ok (.getfield 7, 3) := by decide +kernel
theorem dX10_sums_92 : decode cX10_sums 92 = .ok (.iconst 3, 1) := by decide +kernel
theorem dX10_sums_93 : decode cX10_sums 93 = .ok (.iaload, 1) := by decide +kernel
theorem dX10_sums_94 : decode cX10_sums 94 = .ok (.if_icmp .ge 31, 3) := by decide +kernel
theorem dX10_sums_97 : decode cX10_sums 97 = .ok (.iload_n 1, 1) := by decide +kernel
theorem dX10_sums_98 : decode cX10_sums 98 = .ok (.iconst 4, 1) := by decide +kernel
theorem dX10_sums_99 : decode cX10_sums 99 = .ok (.if_icmp .ne 26, 3) := by decide +kernel
theorem dX10_sums_102 : decode cX10_sums 102 = .ok (.iload_n 2, 1) := by decide +kernel
theorem dX10_sums_103 : decode cX10_sums 103 = .ok (.aload_n 0, 1) := by decide +kernel
theorem dX10_sums_104 : decode cX10_sums 104 = .ok (.getfield 25, 3) := by decide +kernel
theorem dX10_sums_107 : decode cX10_sums 107 = .ok (.iload_n 3, 1) := by decide +kernel
theorem dX10_sums_108 : decode cX10_sums 108 = .ok (.iaload, 1) := by decide +kernel
theorem dX10_sums_109 : decode cX10_sums 109 = .ok (.ifCond .ne 7, 3) := by decide +kernel
theorem dX10_sums_112 : decode cX10_sums 112 = .ok (.iconst 1, 1) := by decide +kernel
theorem dX10_sums_113 : decode cX10_sums 113 = .ok (.goto 4, 3) := by decide +kernel
theorem dX10_sums_116 : decode cX10_sums 116 = .ok (.iconst 0, 1) := by decide +kernel
theorem dX10_sums_117 : decode cX10_sums 117 = .ok (.iadd, 1) := by decide +kernel
theorem dX10_sums_118 : decode cX10_sums 118 = .ok (.istore_n 2, 1) := by decide +kernel
theorem dX10_sums_119 : decode cX10_sums 119 = .ok (.iinc 3 1, 3) := by decide +kernel
theorem dX10_sums_122 : decode cX10_sums 122 = .ok (.goto (-35), 3) := by decide +kernel
theorem dX10_sums_125 : decode cX10_sums 125 = .ok (.iload_n 2, 1) := by decide +kernel
theorem dX10_sums_126 : decode cX10_sums 126 = .ok (.ireturn, 1) := by decide +kernel
theorem dX10_count_0 : decode cX10_count 0 = .ok (.aload_n 0, 1) := by decide +kernel
theorem dX10_count_1 : decode cX10_count 1 = .ok (.invokevirtual 151, 3) := by decide +kernel
theorem dX10_count_4 : decode cX10_count 4 = .ok (.iload_n 1, 1) := by decide +kernel
theorem dX10_count_5 : decode cX10_count 5 = .ok (.tableswitch 184 0 21 #[103, 110, 115, 120, 120, 120, 120, 120, 126, 133, 164, 169, 184, 184, 184, 184, 184, 184, 184, 184, 174, 174], 103) := by decide +kernel
theorem dX10_count_108 : decode cX10_count 108 = .ok (.aload_n 0, 1) := by decide +kernel
theorem dX10_count_109 : decode cX10_count 109 = .ok (.getfield 7, 3) := by decide +kernel
theorem dX10_count_112 : decode cX10_count 112 = .ok (.iconst 3, 1) := by decide +kernel
theorem dX10_count_113 : decode cX10_count 113 = .ok (.iaload, 1) := by decide +kernel
theorem dX10_count_114 : decode cX10_count 114 = .ok (.ireturn, 1) := by decide +kernel
theorem dX10_count_115 : decode cX10_count 115 = .ok (.aload_n 0, 1) := by decide +kernel
theorem dX10_count_116 : decode cX10_count 116 = .ok (.getfield 121, 3) := by decide +kernel
theorem dX10_count_119 : decode cX10_count 119 = .ok (.ireturn, 1) := by decide +kernel
theorem dX10_count_120 : decode cX10_count 120 = .ok (.aload_n 0, 1) := by decide +kernel
theorem dX10_count_121 : decode cX10_count 121 = .ok (.getfield 118, 3) := by decide +kernel
theorem dX10_count_124 : decode cX10_count 124 = .ok (.ireturn, 1) := by decide +kernel
theorem dX10_count_125 : decode cX10_count 125 = .ok (.aload_n 0, 1) := by decide +kernel
theorem dX10_count_126 : decode cX10_count 126 = .ok (.iload_n 1, 1) := by decide +kernel
theorem dX10_count_127 : decode cX10_count 127 = .ok (.invokevirtual 184, 3) := by decide +kernel
theorem dX10_count_130 : decode cX10_count 130 = .ok (.ireturn, 1) := by decide +kernel
theorem dX10_count_131 : decode cX10_count 131 = .ok (.aload_n 0, 1) := by decide +kernel
theorem dX10_count_132 : decode cX10_count 132 = .ok (.getfield 7, 3) := by decide +kernel
theorem dX10_count_135 : decode cX10_count 135 = .ok (.iconst 2, 1) := by decide +kernel
theorem dX10_count_136 : decode cX10_count 136 = .ok (.iaload, 1) := by decide +kernel
theorem dX10_count_137 : decode cX10_count 137 = .ok (.ireturn, 1) := by decide +kernel
theorem dX10_count_138 : decode cX10_count 138 = .ok (.aload_n 0, 1) := by decide +kernel
theorem dX10_count_139 : decode cX10_count 139 = .ok (.getfield 7, 3) := by decide +kernel
theorem dX10_count_142 : decode cX10_count 142 = .ok (.iconst 3, 1) := by decide +kernel
theorem dX10_count_143 : decode cX10_count 143 = .ok (.iaload, 1) := by decide +kernel
theorem dX10_count_144 : decode cX10_count 144 = .ok (.ifCond .ne 8, 3) := by decide +kernel
theorem dX10_count_147 : decode cX10_count 147 = .ok (.ldc 154, 2) := by decide +kernel
theorem dX10_count_149 : decode cX10_count 149 = .ok (.goto 19, 3) := by decide +kernel
theorem dX10_count_152 : decode cX10_count 152 = .ok (.aload_n 0, 1) := by decide +kernel
theorem dX10_count_153 : decode cX10_count 153 = .ok (.getfield 7, 3) := by decide +kernel
theorem dX10_count_156 : decode cX10_count 156 = .ok (.bipush 29, 2) := by decide +kernel
theorem dX10_count_158 : decode cX10_count 158 = .ok (.aload_n 0, 1) := by decide +kernel
theorem dX10_count_159 : decode cX10_count 159 = .ok (.getfield 7, 3) := by decide +kernel
theorem dX10_count_162 : decode cX10_count 162 = .ok (.iconst 3, 1) := by decide +kernel
theorem dX10_count_163 : decode cX10_count 163 = .ok (.iaload, 1) := by decide +kernel
theorem dX10_count_164 : decode cX10_count 164 = .ok (.iadd, 1) := by decide +kernel
theorem dX10_count_165 : decode cX10_count 165 = .ok (.iconst 1, 1) := by decide +kernel
theorem dX10_count_166 : decode cX10_count 166 = .ok (.isub, 1) := by decide +kernel
theorem dX10_count_167 : decode cX10_count 167 = .ok (.iaload, 1) := by decide +kernel
theorem dX10_count_168 : decode cX10_count 168 = .ok (.ireturn, 1) := by decide +kernel
theorem dX10_count_169 : decode cX10_count 169 = .ok (.aload_n 0, 1) := by decide +kernel
theorem dX10_count_170 : decode cX10_count 170 = .ok (.getfield 61, 3) := by decide +kernel
theorem dX10_count_173 : decode cX10_count 173 = .ok (.ireturn, 1) := by decide +kernel
theorem dX10_count_174 : decode cX10_count 174 = .ok (.aload_n 0, 1) := by decide +kernel
theorem dX10_count_175 : decode cX10_count 175 = .ok (.getfield 187, 3) := by decide +kernel
theorem dX10_count_178 : decode cX10_count 178 = .ok (.ireturn, 1) := by decide +kernel
theorem dX10_count_179 : decode cX10_count 179 = .ok (.aload_n 0, 1) := by decide +kernel
theorem dX10_count_180 : decode cX10_count 180 = .ok (.getfield 7, 3) := by decide +kernel
theorem dX10_count_183 : decode cX10_count 183 = .ok (.iload_n 1, 1) := by decide +kernel
theorem dX10_count_184 : decode cX10_count 184 = .ok (.bipush 20, 2) := by decide +kernel
theorem dX10_count_186 : decode cX10_count 186 = .ok (.isub, 1) := by decide +kernel
theorem dX10_count_187 : decode cX10_count 187 = .ok (.iaload, 1) := by decide +kernel
theorem dX10_count_188 : decode cX10_count 188 = .ok (.ireturn, 1) := by decide +kernel
theorem dX10_count_189 : decode cX10_count 189 = .ok (.ldc 76, 2) := by decide +kernel
theorem dX10_count_191 : decode cX10_count 191 = .ok (.ireturn, 1) := by decide +kernel
theorem dX10_undo_0 : decode cX10_undo 0 = .ok (.aload_n 0, 1) := by decide +kernel
theorem dX10_undo_1 : decode cX10_undo 1 = .ok (.getfield 61, 3) := by decide +kernel
theorem dX10_undo_4 : decode cX10_undo 4 = .ok (.ifCond .ne 6, 3) := by decide +kernel
theorem dX10_undo_7 : decode cX10_undo 7 = .ok (.ldc 102, 2) := by decide +kernel
theorem dX10_undo_9 : decode cX10_undo 9 = .ok (.ireturn, 1) := by decide +kernel
theorem dX10_undo_10 : decode cX10_undo 10 = .ok (.aload_n 0, 1) := by decide +kernel
theorem dX10_undo_11 : decode cX10_undo 11 = .ok (.dup, 1) := by decide +kernel
theorem dX10_undo_12 : decode cX10_undo 12 = .ok (.getfield 61, 3) := by decide +kernel
theorem dX10_undo_15 : decode cX10_undo 15 = .ok (.iconst 1, 1) := by decide +kernel
theorem dX10_undo_16 : decode cX10_undo 16 = .ok (.isub, 1) := by decide +kernel
theorem dX10_undo_17 : decode cX10_undo 17 = .ok (.putfield 61, 3) := by decide +kernel
theorem dX10_undo_20 : decode cX10_undo 20 = .ok (.iconst 0, 1) := by decide +kernel
theorem dX10_undo_21 : decode cX10_undo 21 = .ok (.istore_n 1, 1) := by decide +kernel
theorem dX10_undo_22 : decode cX10_undo 22 = .ok (.iload_n 1, 1) := by decide +kernel
theorem dX10_undo_23 : decode cX10_undo 23 = .ok (.sipush 189, 3) := by decide +kernel
theorem dX10_undo_26 : decode cX10_undo 26 = .ok (.if_icmp .ge 30, 3) := by decide +kernel
theorem dX10_undo_29 : decode cX10_undo 29 = .ok (.aload_n 0, 1) := by decide +kernel
theorem dX10_undo_30 : decode cX10_undo 30 = .ok (.getfield 7, 3) := by decide +kernel
theorem dX10_undo_33 : decode cX10_undo 33 = .ok (.iload_n 1, 1) := by decide +kernel
theorem dX10_undo_34 : decode cX10_undo 34 = .ok (.aload_n 0, 1) := by decide +kernel
theorem dX10_undo_35 : decode cX10_undo 35 = .ok (.getfield 13, 3) := by decide +kernel
theorem dX10_undo_38 : decode cX10_undo 38 = .ok (.sipush 189, 3) := by decide +kernel
theorem dX10_undo_41 : decode cX10_undo 41 = .ok (.aload_n 0, 1) := by decide +kernel
theorem dX10_undo_42 : decode cX10_undo 42 = .ok (.getfield 61, 3) := by decide +kernel
theorem dX10_undo_45 : decode cX10_undo 45 = .ok (.imul, 1) := by decide +kernel
theorem dX10_undo_46 : decode cX10_undo 46 = .ok (.iload_n 1, 1) := by decide +kernel
theorem dX10_undo_47 : decode cX10_undo 47 = .ok (.iadd, 1) := by decide +kernel
theorem dX10_undo_48 : decode cX10_undo 48 = .ok (.iaload, 1) := by decide +kernel
theorem dX10_undo_49 : decode cX10_undo 49 = .ok (.iastore, 1) := by decide +kernel
theorem dX10_undo_50 : decode cX10_undo 50 = .ok (.iinc 1 1, 3) := by decide +kernel
theorem dX10_undo_53 : decode cX10_undo 53 = .ok (.goto (-31), 3) := by decide +kernel
theorem dX10_undo_56 : decode cX10_undo 56 = .ok (.aload_n 0, 1) := by decide +kernel
theorem dX10_undo_57 : decode cX10_undo 57 = .ok (.getfield 61, 3) := by decide +kernel
theorem dX10_undo_60 : decode cX10_undo 60 = .ok (.ireturn, 1) := by decide +kernel
theorem dX10_type_0 : decode cX10_type 0 = .ok (.iload_n 1, 1) := by decide +kernel
theorem dX10_type_1 : decode cX10_type 1 = .ok (.bipush 32, 2) := by decide +kernel
theorem dX10_type_3 : decode cX10_type 3 = .ok (.bipush 126, 2) := by decide +kernel
theorem dX10_type_5 : decode cX10_type 5 = .ok (.invokestatic 65, 3) := by decide +kernel
theorem dX10_type_8 : decode cX10_type 8 = .ok (.ifCond .ne 6, 3) := by decide +kernel
theorem dX10_type_11 : decode cX10_type 11 = .ok (.ldc 76, 2) := by decide +kernel
theorem dX10_type_13 : decode cX10_type 13 = .ok (.ireturn, 1) := by decide +kernel
theorem dX10_type_14 : decode cX10_type 14 = .ok (.aload_n 0, 1) := by decide +kernel
theorem dX10_type_15 : decode cX10_type 15 = .ok (.getfield 187, 3) := by decide +kernel
theorem dX10_type_18 : decode cX10_type 18 = .ok (.bipush 60, 2) := by decide +kernel
theorem dX10_type_20 : decode cX10_type 20 = .ok (.if_icmp .ne 6, 3) := by decide +kernel
theorem dX10_type_23 : decode cX10_type 23 = .ok (.ldc 97, 2) := by decide +kernel
theorem dX10_type_25 : decode cX10_type 25 = .ok (.ireturn, 1) := by decide +kernel
theorem dX10_type_26 : decode cX10_type 26 = .ok (.aload_n 0, 1) := by decide +kernel
theorem dX10_type_27 : decode cX10_type 27 = .ok (.getfield 19, 3) := by decide +kernel
theorem dX10_type_30 : decode cX10_type 30 = .ok (.aload_n 0, 1) := by decide +kernel
theorem dX10_type_31 : decode cX10_type 31 = .ok (.getfield 187, 3) := by decide +kernel
theorem dX10_type_34 : decode cX10_type 34 = .ok (.iload_n 1, 1) := by decide +kernel
theorem dX10_type_35 : decode cX10_type 35 = .ok (.iastore, 1) := by decide +kernel
theorem dX10_type_36 : decode cX10_type 36 = .ok (.aload_n 0, 1) := by decide +kernel
theorem dX10_type_37 : decode cX10_type 37 = .ok (.dup, 1) := by decide +kernel
theorem dX10_type_38 : decode cX10_type 38 = .ok (.getfield 187, 3) := by decide +kernel
theorem dX10_type_41 : decode cX10_type 41 = .ok (.iconst 1, 1) := by decide +kernel
theorem dX10_type_42 : decode cX10_type 42 = .ok (.iadd, 1) := by decide +kernel
theorem dX10_type_43 : decode cX10_type 43 = .ok (.putfield 187, 3) := by decide +kernel
theorem dX10_type_46 : decode cX10_type 46 = .ok (.aload_n 0, 1) := by decide +kernel
theorem dX10_type_47 : decode cX10_type 47 = .ok (.getfield 187, 3) := by decide +kernel
theorem dX10_type_50 : decode cX10_type 50 = .ok (.ireturn, 1) := by decide +kernel
theorem dX10_clearText_0 : decode cX10_clearText 0 = .ok (.aload_n 0, 1) := by decide +kernel
theorem dX10_clearText_1 : decode cX10_clearText 1 = .ok (.getfield 187, 3) := by decide +kernel
theorem dX10_clearText_4 : decode cX10_clearText 4 = .ok (.istore_n 1, 1) := by decide +kernel
theorem dX10_clearText_5 : decode cX10_clearText 5 = .ok (.aload_n 0, 1) := by decide +kernel
theorem dX10_clearText_6 : decode cX10_clearText 6 = .ok (.iconst 0, 1) := by decide +kernel
theorem dX10_clearText_7 : decode cX10_clearText 7 = .ok (.putfield 187, 3) := by decide +kernel
theorem dX10_clearText_10 : decode cX10_clearText 10 = .ok (.iload_n 1, 1) := by decide +kernel
theorem dX10_clearText_11 : decode cX10_clearText 11 = .ok (.ireturn, 1) := by decide +kernel
theorem dX10_isAt_0 : decode cX10_isAt 0 = .ok (.aload_n 0, 1) := by decide +kernel
theorem dX10_isAt_1 : decode cX10_isAt 1 = .ok (.getfield 190, 3) := by decide +kernel
theorem dX10_isAt_4 : decode cX10_isAt 4 = .ok (.aload_n 0, 1) := by decide +kernel
theorem dX10_isAt_5 : decode cX10_isAt 5 = .ok (.getfield 187, 3) := by decide +kernel
theorem dX10_isAt_8 : decode cX10_isAt 8 = .ok (.if_icmp .ge 24, 3) := by decide +kernel
theorem dX10_isAt_11 : decode cX10_isAt 11 = .ok (.aload_n 0, 1) := by decide +kernel
theorem dX10_isAt_12 : decode cX10_isAt 12 = .ok (.getfield 19, 3) := by decide +kernel
theorem dX10_isAt_15 : decode cX10_isAt 15 = .ok (.aload_n 0, 1) := by decide +kernel
theorem dX10_isAt_16 : decode cX10_isAt 16 = .ok (.getfield 190, 3) := by decide +kernel
theorem dX10_isAt_19 : decode cX10_isAt 19 = .ok (.iaload, 1) := by decide +kernel
theorem dX10_isAt_20 : decode cX10_isAt 20 = .ok (.iload_n 1, 1) := by decide +kernel
theorem dX10_isAt_21 : decode cX10_isAt 21 = .ok (.iload_n 2, 1) := by decide +kernel
theorem dX10_isAt_22 : decode cX10_isAt 22 = .ok (.invokestatic 65, 3) := by decide +kernel
theorem dX10_isAt_25 : decode cX10_isAt 25 = .ok (.ifCond .eq 7, 3) := by decide +kernel
theorem dX10_isAt_28 : decode cX10_isAt 28 = .ok (.iconst 1, 1) := by decide +kernel
theorem dX10_isAt_29 : decode cX10_isAt 29 = .ok (.goto 4, 3) := by decide +kernel
theorem dX10_isAt_32 : decode cX10_isAt 32 = .ok (.iconst 0, 1) := by decide +kernel
theorem dX10_isAt_33 : decode cX10_isAt 33 = .ok (.ireturn, 1) := by decide +kernel
theorem dX10_ringsOne_0 : decode cX10_ringsOne 0 = .ok (.aload_n 0, 1) := by decide +kernel
theorem dX10_ringsOne_1 : decode cX10_ringsOne 1 = .ok (.iload_n 1, 1) := by decide +kernel
theorem dX10_ringsOne_2 : decode cX10_ringsOne 2 = .ok (.invokevirtual 94, 3) := by decide +kernel
theorem dX10_ringsOne_5 : decode cX10_ringsOne 5 = .ok (.ifCond .ne 5, 3) := by decide +kernel
theorem dX10_ringsOne_8 : decode cX10_ringsOne 8 = .ok (.iconst 3, 1) := by decide +kernel
theorem dX10_ringsOne_9 : decode cX10_ringsOne 9 = .ok (.ireturn, 1) := by decide +kernel
theorem dX10_ringsOne_10 : decode cX10_ringsOne 10 = .ok (.aload_n 0, 1) := by decide +kernel
theorem dX10_ringsOne_11 : decode cX10_ringsOne 11 = .ok (.iload_n 1, 1) := by decide +kernel
theorem dX10_ringsOne_12 : decode cX10_ringsOne 12 = .ok (.invokevirtual 98, 3) := by decide +kernel
theorem dX10_ringsOne_15 : decode cX10_ringsOne 15 = .ok (.iconst 0, 1) := by decide +kernel
theorem dX10_ringsOne_16 : decode cX10_ringsOne 16 = .ok (.ireturn, 1) := by decide +kernel
theorem dX10_ringsAll_0 : decode cX10_ringsAll 0 = .ok (.iconst 0, 1) := by decide +kernel
theorem dX10_ringsAll_1 : decode cX10_ringsAll 1 = .ok (.istore 4, 2) := by decide +kernel
theorem dX10_ringsAll_3 : decode cX10_ringsAll 3 = .ok (.iload_n 1, 1) := by decide +kernel
theorem dX10_ringsAll_4 : decode cX10_ringsAll 4 = .ok (.istore 5, 2) := by decide +kernel
theorem dX10_ringsAll_6 : decode cX10_ringsAll 6 = .ok (.iload 5, 2) := by decide +kernel
theorem dX10_ringsAll_8 : decode cX10_ringsAll 8 = .ok (.iload_n 2, 1) := by decide +kernel
theorem dX10_ringsAll_9 : decode cX10_ringsAll 9 = .ok (.if_icmp .ge 43, 3) := by decide +kernel
theorem dX10_ringsAll_12 : decode cX10_ringsAll 12 = .ok (.iload 4, 2) := by decide +kernel
theorem dX10_ringsAll_14 : decode cX10_ringsAll 14 = .ok (.aload_n 0, 1) := by decide +kernel
theorem dX10_ringsAll_15 : decode cX10_ringsAll 15 = .ok (.getfield 19, 3) := by decide +kernel
theorem dX10_ringsAll_18 : decode cX10_ringsAll 18 = .ok (.iload 5, 2) := by decide +kernel
theorem dX10_ringsAll_20 : decode cX10_ringsAll 20 = .ok (.iaload, 1) := by decide +kernel
theorem dX10_ringsAll_21 : decode cX10_ringsAll 21 = .ok (.bipush 97, 2) := by decide +kernel
theorem dX10_ringsAll_23 : decode cX10_ringsAll 23 = .ok (.isub, 1) := by decide +kernel
theorem dX10_ringsAll_24 : decode cX10_ringsAll 24 = .ok (.iadd, 1) := by decide +kernel
theorem dX10_ringsAll_25 : decode cX10_ringsAll 25 = .ok (.istore 4, 2) := by decide +kernel
theorem dX10_ringsAll_27 : decode cX10_ringsAll 27 = .ok (.aload_n 0, 1) := by decide +kernel
theorem dX10_ringsAll_28 : decode cX10_ringsAll 28 = .ok (.aload_n 0, 1) := by decide +kernel
theorem dX10_ringsAll_29 : decode cX10_ringsAll 29 = .ok (.getfield 19, 3) := by decide +kernel
theorem dX10_ringsAll_32 : decode cX10_ringsAll 32 = .ok (.iload 5, 2) := by decide +kernel
theorem dX10_ringsAll_34 : decode cX10_ringsAll 34 = .ok (.iaload, 1) := by decide +kernel
theorem dX10_ringsAll_35 : decode cX10_ringsAll 35 = .ok (.bipush 97, 2) := by decide +kernel
theorem dX10_ringsAll_37 : decode cX10_ringsAll 37 = .ok (.isub, 1) := by decide +kernel
theorem dX10_ringsAll_38 : decode cX10_ringsAll 38 = .ok (.invokevirtual 193, 3) := by decide +kernel
theorem dX10_ringsAll_41 : decode cX10_ringsAll 41 = .ok (.ifCond .le 5, 3) := by decide +kernel
theorem dX10_ringsAll_44 : decode cX10_ringsAll 44 = .ok (.iconst 3, 1) := by decide +kernel
theorem dX10_ringsAll_45 : decode cX10_ringsAll 45 = .ok (.ireturn, 1) := by decide +kernel
theorem dX10_ringsAll_46 : decode cX10_ringsAll 46 = .ok (.iinc 5 1, 3) := by decide +kernel
theorem dX10_ringsAll_49 : decode cX10_ringsAll 49 = .ok (.goto (-43), 3) := by decide +kernel
theorem dX10_ringsAll_52 : decode cX10_ringsAll 52 = .ok (.iload_n 3, 1) := by decide +kernel
theorem dX10_ringsAll_53 : decode cX10_ringsAll 53 = .ok (.ifCond .eq 15, 3) := by decide +kernel
theorem dX10_ringsAll_56 : decode cX10_ringsAll 56 = .ok (.aload_n 0, 1) := by decide +kernel
theorem dX10_ringsAll_57 : decode cX10_ringsAll 57 = .ok (.iload 4, 2) := by decide +kernel
theorem dX10_ringsAll_59 : decode cX10_ringsAll 59 = .ok (.bipush 25, 2) := by decide +kernel
theorem dX10_ringsAll_61 : decode cX10_ringsAll 61 = .ok (.irem, 1) := by decide +kernel
theorem dX10_ringsAll_62 : decode cX10_ringsAll 62 = .ok (.invokevirtual 193, 3) := by decide +kernel
theorem dX10_ringsAll_65 : decode cX10_ringsAll 65 = .ok (.goto 4, 3) := by decide +kernel
theorem dX10_ringsAll_68 : decode cX10_ringsAll 68 = .ok (.iconst 0, 1) := by decide +kernel
theorem dX10_ringsAll_69 : decode cX10_ringsAll 69 = .ok (.ireturn, 1) := by decide +kernel
theorem dX10_does_0 : decode cX10_does 0 = .ok (.aload_n 0, 1) := by decide +kernel
theorem dX10_does_1 : decode cX10_does 1 = .ok (.getfield 19, 3) := by decide +kernel
theorem dX10_does_4 : decode cX10_does 4 = .ok (.aload_n 0, 1) := by decide +kernel
theorem dX10_does_5 : decode cX10_does 5 = .ok (.getfield 190, 3) := by decide +kernel
theorem dX10_does_8 : decode cX10_does 8 = .ok (.iaload, 1) := by decide +kernel
theorem dX10_does_9 : decode cX10_does 9 = .ok (.istore_n 1, 1) := by decide +kernel
theorem dX10_does_10 : decode cX10_does 10 = .ok (.aload_n 0, 1) := by decide +kernel
theorem dX10_does_11 : decode cX10_does 11 = .ok (.dup, 1) := by decide +kernel
theorem dX10_does_12 : decode cX10_does 12 = .ok (.getfield 190, 3) := by decide +kernel
theorem dX10_does_15 : decode cX10_does 15 = .ok (.iconst 1, 1) := by decide +kernel
theorem dX10_does_16 : decode cX10_does 16 = .ok (.iadd, 1) := by decide +kernel
theorem dX10_does_17 : decode cX10_does 17 = .ok (.putfield 190, 3) := by decide +kernel
theorem dX10_does_20 : decode cX10_does 20 = .ok (.aload_n 0, 1) := by decide +kernel
theorem dX10_does_21 : decode cX10_does 21 = .ok (.getfield 190, 3) := by decide +kernel
theorem dX10_does_24 : decode cX10_does 24 = .ok (.istore_n 2, 1) := by decide +kernel
theorem dX10_does_25 : decode cX10_does 25 = .ok (.iload_n 1, 1) := by decide +kernel
theorem dX10_does_26 : decode cX10_does 26 = .ok (.bipush 45, 2) := by decide +kernel
theorem dX10_does_28 : decode cX10_does 28 = .ok (.if_icmp .eq 9, 3) := by decide +kernel
theorem dX10_does_31 : decode cX10_does 31 = .ok (.iload_n 1, 1) := by decide +kernel
theorem dX10_does_32 : decode cX10_does 32 = .ok (.bipush 43, 2) := by decide +kernel
theorem dX10_does_34 : decode cX10_does 34 = .ok (.if_icmp .ne 7, 3) := by decide +kernel
theorem dX10_does_37 : decode cX10_does 37 = .ok (.iconst 1, 1) := by decide +kernel
theorem dX10_does_38 : decode cX10_does 38 = .ok (.goto 4, 3) := by decide +kernel
theorem dX10_does_41 : decode cX10_does 41 = .ok (.iconst 0, 1) := by decide +kernel
theorem dX10_does_42 : decode cX10_does 42 = .ok (.istore_n 3, 1) := by decide +kernel
theorem dX10_does_43 : decode cX10_does 43 = .ok (.iload_n 1, 1) := by decide +kernel
theorem dX10_does_44 : decode cX10_does 44 = .ok (.bipush 61, 2) := by decide +kernel
theorem dX10_does_46 : decode cX10_does 46 = .ok (.if_icmp .eq 9, 3) := by decide +kernel
theorem dX10_does_49 : decode cX10_does 49 = .ok (.iload_n 1, 1) := by decide +kernel
theorem dX10_does_50 : decode cX10_does 50 = .ok (.bipush 33, 2) := by decide +kernel
theorem dX10_does_52 : decode cX10_does 52 = .ok (.if_icmp .ne 7, 3) := by decide +kernel
theorem dX10_does_55 : decode cX10_does 55 = .ok (.iconst 1, 1) := by decide +kernel
theorem dX10_does_56 : decode cX10_does 56 = .ok (.goto 4, 3) := by decide +kernel
theorem dX10_does_59 : decode cX10_does 59 = .ok (.iconst 0, 1) := by decide +kernel
theorem dX10_does_60 : decode cX10_does 60 = .ok (.istore 4, 2) := by decide +kernel
theorem dX10_does_62 : decode cX10_does 62 = .ok (.iconst 0, 1) := by decide +kernel
theorem dX10_does_63 : decode cX10_does 63 = .ok (.istore 5, 2) := by decide +kernel
theorem dX10_does_65 : decode cX10_does 65 = .ok (.iload_n 3, 1) := by decide +kernel
theorem dX10_does_66 : decode cX10_does 66 = .ok (.ifCond .eq 24, 3) := by decide +kernel
theorem dX10_does_69 : decode cX10_does 69 = .ok (.aload_n 0, 1) := by decide +kernel
theorem dX10_does_70 : decode cX10_does 70 = .ok (.bipush 48, 2) := by decide +kernel
theorem dX10_does_72 : decode cX10_does 72 = .ok (.bipush 57, 2) := by decide +kernel
theorem dX10_does_74 : decode cX10_does 74 = .ok (.invokevirtual 196, 3) := by decide +kernel
theorem dX10_does_77 : decode cX10_does 77 = .ok (.ifCond .eq 13, 3) := by decide +kernel
theorem dX10_does_80 : decode cX10_does 80 = .ok (.aload_n 0, 1) := by decide +kernel
theorem dX10_does_81 : decode cX10_does 81 = .ok (.getfield 190, 3) := by decide +kernel
theorem dX10_does_84 : decode cX10_does 84 = .ok (.iload_n 2, 1) := by decide +kernel
theorem dX10_does_85 : decode cX10_does 85 = .ok (.isub, 1) := by decide +kernel
theorem dX10_does_86 : decode cX10_does 86 = .ok (.iconst 4, 1) := by decide +kernel
theorem dX10_does_87 : decode cX10_does 87 = .ok (.if_icmp .lt 19, 3) := by decide +kernel
theorem dX10_does_90 : decode cX10_does 90 = .ok (.iload 4, 2) := by decide +kernel
theorem dX10_does_92 : decode cX10_does 92 = .ok (.ifCond .eq 55, 3) := by decide +kernel
theorem dX10_does_95 : decode cX10_does 95 = .ok (.aload_n 0, 1) := by decide +kernel
theorem dX10_does_96 : decode cX10_does 96 = .ok (.bipush 97, 2) := by decide +kernel
theorem dX10_does_98 : decode cX10_does 98 = .ok (.bipush 121, 2) := by decide +kernel
theorem dX10_does_100 : decode cX10_does 100 = .ok (.invokevirtual 196, 3) := by decide +kernel
theorem dX10_does_103 : decode cX10_does 103 = .ok (.ifCond .eq 44, 3) := by decide +kernel
theorem dX10_does_106 : decode cX10_does 106 = .ok (.iload_n 3, 1) := by decide +kernel
theorem dX10_does_107 : decode cX10_does 107 = .ok (.ifCond .eq 24, 3) := by decide +kernel
theorem dX10_does_110 : decode cX10_does 110 = .ok (.bipush 10, 2) := by decide +kernel
theorem dX10_does_112 : decode cX10_does 112 = .ok (.iload 5, 2) := by decide +kernel
theorem dX10_does_114 : decode cX10_does 114 = .ok (.imul, 1) := by decide +kernel
theorem dX10_does_115 : decode cX10_does 115 = .ok (.aload_n 0, 1) := by decide +kernel
theorem dX10_does_116 : decode cX10_does 116 = .ok (.getfield 19, 3) := by decide +kernel
theorem dX10_does_119 : decode cX10_does 119 = .ok (.aload_n 0, 1) := by decide +kernel
theorem dX10_does_120 : decode cX10_does 120 = .ok (.getfield 190, 3) := by decide +kernel
theorem dX10_does_123 : decode cX10_does 123 = .ok (.iaload, 1) := by decide +kernel
theorem dX10_does_124 : decode cX10_does 124 = .ok (.iadd, 1) := by decide +kernel
theorem dX10_does_125 : decode cX10_does 125 = .ok (.bipush 48, 2) := by decide +kernel
theorem dX10_does_127 : decode cX10_does 127 = .ok (.isub, 1) := by decide +kernel
theorem dX10_does_128 : decode cX10_does 128 = .ok (.goto 4, 3) := by decide +kernel
theorem dX10_does_131 : decode cX10_does 131 = .ok (.iconst 0, 1) := by decide +kernel
theorem dX10_does_132 : decode cX10_does 132 = .ok (.istore 5, 2) := by decide +kernel
theorem dX10_does_134 : decode cX10_does 134 = .ok (.aload_n 0, 1) := by decide +kernel
theorem dX10_does_135 : decode cX10_does 135 = .ok (.dup, 1) := by decide +kernel
theorem dX10_does_136 : decode cX10_does 136 = .ok (.getfield 190, 3) := by decide +kernel
theorem dX10_does_139 : decode cX10_does 139 = .ok (.iconst 1, 1) := by decide +kernel
theorem dX10_does_140 : decode cX10_does 140 = .ok (.iadd, 1) := by decide +kernel
theorem dX10_does_141 : decode cX10_does 141 = .ok (.putfield 190, 3) := by decide +kernel
theorem dX10_does_144 : decode cX10_does 144 = .ok (.goto (-79), 3) := by decide +kernel
theorem dX10_does_147 : decode cX10_does 147 = .ok (.iload_n 3, 1) := by decide +kernel
theorem dX10_does_148 : decode cX10_does 148 = .ok (.ifCond .ne 8, 3) := by decide +kernel
theorem dX10_does_151 : decode cX10_does 151 = .ok (.iload 4, 2) := by decide +kernel
theorem dX10_does_153 : decode cX10_does 153 = .ok (.ifCond .eq 11, 3) := by decide +kernel
theorem dX10_does_156 : decode cX10_does 156 = .ok (.aload_n 0, 1) := by decide +kernel
theorem dX10_does_157 : decode cX10_does 157 = .ok (.getfield 190, 3) := by decide +kernel
theorem dX10_does_160 : decode cX10_does 160 = .ok (.iload_n 2, 1) := by decide +kernel
theorem dX10_does_161 : decode cX10_does 161 = .ok (.if_icmp .gt 9, 3) := by decide +kernel
theorem dX10_does_164 : decode cX10_does 164 = .ok (.iload_n 1, 1) := by decide +kernel
theorem dX10_does_165 : decode cX10_does 165 = .ok (.bipush 47, 2) := by decide +kernel
theorem dX10_does_167 : decode cX10_does 167 = .ok (.if_icmp .ne 7, 3) := by decide +kernel
theorem dX10_does_170 : decode cX10_does 170 = .ok (.iconst 1, 1) := by decide +kernel
theorem dX10_does_171 : decode cX10_does 171 = .ok (.goto 4, 3) := by decide +kernel
theorem dX10_does_174 : decode cX10_does 174 = .ok (.iconst 0, 1) := by decide +kernel
theorem dX10_does_175 : decode cX10_does 175 = .ok (.istore 6, 2) := by decide +kernel
theorem dX10_does_177 : decode cX10_does 177 = .ok (.iload 6, 2) := by decide +kernel
theorem dX10_does_179 : decode cX10_does 179 = .ok (.ifCond .eq 14, 3) := by decide +kernel
theorem dX10_does_182 : decode cX10_does 182 = .ok (.aload_n 0, 1) := by decide +kernel
theorem dX10_does_183 : decode cX10_does 183 = .ok (.bipush 59, 2) := by decide +kernel
theorem dX10_does_185 : decode cX10_does 185 = .ok (.bipush 59, 2) := by decide +kernel
theorem dX10_does_187 : decode cX10_does 187 = .ok (.invokevirtual 196, 3) := by decide +kernel
theorem dX10_does_190 : decode cX10_does 190 = .ok (.ifCond .ne 5, 3) := by decide +kernel
theorem dX10_does_193 : decode cX10_does 193 = .ok (.iconst 1, 1) := by decide +kernel
theorem dX10_does_194 : decode cX10_does 194 = .ok (.ireturn, 1) := by decide +kernel
theorem dX10_does_195 : decode cX10_does 195 = .ok (.aload_n 0, 1) := by decide +kernel
theorem dX10_does_196 : decode cX10_does 196 = .ok (.getfield 190, 3) := by decide +kernel
theorem dX10_does_199 : decode cX10_does 199 = .ok (.istore 7, 2) := by decide +kernel
theorem dX10_does_201 : decode cX10_does 201 = .ok (.aload_n 0, 1) := by decide +kernel
theorem dX10_does_202 : decode cX10_does 202 = .ok (.dup, 1) := by decide +kernel
theorem dX10_does_203 : decode cX10_does 203 = .ok (.getfield 190, 3) := by decide +kernel
theorem dX10_does_206 : decode cX10_does 206 = .ok (.iconst 1, 1) := by decide +kernel
theorem dX10_does_207 : decode cX10_does 207 = .ok (.iadd, 1) := by decide +kernel
theorem dX10_does_208 : decode cX10_does 208 = .ok (.putfield 190, 3) := by decide +kernel
theorem dX10_does_211 : decode cX10_does 211 = .ok (.iload 4, 2) := by decide +kernel
theorem dX10_does_213 : decode cX10_does 213 = .ok (.ifCond .eq 22, 3) := by decide +kernel
theorem dX10_does_216 : decode cX10_does 216 = .ok (.aload_n 0, 1) := by decide +kernel
theorem dX10_does_217 : decode cX10_does 217 = .ok (.iload_n 2, 1) := by decide +kernel
theorem dX10_does_218 : decode cX10_does 218 = .ok (.iload 7, 2) := by decide +kernel
theorem dX10_does_220 : decode cX10_does 220 = .ok (.iload_n 1, 1) := by decide +kernel
theorem dX10_does_221 : decode cX10_does 221 = .ok (.bipush 33, 2) := by decide +kernel
theorem dX10_does_223 : decode cX10_does 223 = .ok (.if_icmp .ne 7, 3) := by decide +kernel
theorem dX10_does_226 : decode cX10_does 226 = .ok (.iconst 1, 1) := by decide +kernel
theorem dX10_does_227 : decode cX10_does 227 = .ok (.goto 4, 3) := by decide +kernel
theorem dX10_does_230 : decode cX10_does 230 = .ok (.iconst 0, 1) := by decide +kernel
theorem dX10_does_231 : decode cX10_does 231 = .ok (.invokevirtual 199, 3) := by decide +kernel
theorem dX10_does_234 : decode cX10_does 234 = .ok (.ireturn, 1) := by decide +kernel
theorem dX10_does_235 : decode cX10_does 235 = .ok (.iload_n 1, 1) := by decide +kernel
theorem dX10_does_236 : decode cX10_does 236 = .ok (.bipush 47, 2) := by decide +kernel
theorem dX10_does_238 : decode cX10_does 238 = .ok (.if_icmp .ne 12, 3) := by decide +kernel
theorem dX10_does_241 : decode cX10_does 241 = .ok (.aload_n 0, 1) := by decide +kernel
theorem dX10_does_242 : decode cX10_does 242 = .ok (.getfield 7, 3) := by decide +kernel
theorem dX10_does_245 : decode cX10_does 245 = .ok (.iconst 2, 1) := by decide +kernel
theorem dX10_does_246 : decode cX10_does 246 = .ok (.iconst 1, 1) := by decide +kernel
theorem dX10_does_247 : decode cX10_does 247 = .ok (.iastore, 1) := by decide +kernel
theorem dX10_does_248 : decode cX10_does 248 = .ok (.iconst 0, 1) := by decide +kernel
theorem dX10_does_249 : decode cX10_does 249 = .ok (.ireturn, 1) := by decide +kernel
theorem dX10_does_250 : decode cX10_does 250 = .ok (.iload_n 1, 1) := by decide +kernel
theorem dX10_does_251 : decode cX10_does 251 = .ok (.bipush 45, 2) := by decide +kernel
theorem dX10_does_253 : decode cX10_does 253 = .ok (.if_icmp .ne 31, 3) := by decide +kernel
theorem dX10_does_256 : decode cX10_does 256 = .ok (.aload_n 0, 1) := by decide +kernel
theorem dX10_does_257 : decode cX10_does 257 = .ok (.iload 5, 2) := by decide +kernel
theorem dX10_does_259 : decode cX10_does 259 = .ok (.invokevirtual 109, 3) := by decide +kernel
theorem dX10_does_262 : decode cX10_does 262 = .ok (.ifCond .ne 7, 3) := by decide +kernel
theorem dX10_does_265 : decode cX10_does 265 = .ok (.iconst 2, 1) := by decide +kernel
theorem dX10_does_266 : decode cX10_does 266 = .ok (.goto 17, 3) := by decide +kernel
theorem dX10_does_269 : decode cX10_does 269 = .ok (.aload_n 0, 1) := by decide +kernel
theorem dX10_does_270 : decode cX10_does 270 = .ok (.iload 5, 2) := by decide +kernel
theorem dX10_does_272 : decode cX10_does 272 = .ok (.invokevirtual 112, 3) := by decide +kernel
theorem dX10_does_275 : decode cX10_does 275 = .ok (.ifCond .ge 7, 3) := by decide +kernel
theorem dX10_does_278 : decode cX10_does 278 = .ok (.iconst 2, 1) := by decide +kernel
theorem dX10_does_279 : decode cX10_does 279 = .ok (.goto 4, 3) := by decide +kernel
theorem dX10_does_282 : decode cX10_does 282 = .ok (.iconst 0, 1) := by decide +kernel
theorem dX10_does_283 : decode cX10_does 283 = .ok (.ireturn, 1) := by decide +kernel
theorem dX10_does_284 : decode cX10_does 284 = .ok (.aload_n 0, 1) := by decide +kernel
theorem dX10_does_285 : decode cX10_does 285 = .ok (.iload 5, 2) := by decide +kernel
theorem dX10_does_287 : decode cX10_does 287 = .ok (.invokevirtual 103, 3) := by decide +kernel
theorem dX10_does_290 : decode cX10_does 290 = .ok (.ifCond .eq 7, 3) := by decide +kernel
theorem dX10_does_293 : decode cX10_does 293 = .ok (.iconst 2, 1) := by decide +kernel
theorem dX10_does_294 : decode cX10_does 294 = .ok (.goto 33, 3) := by decide +kernel
theorem dX10_does_297 : decode cX10_does 297 = .ok (.aload_n 0, 1) := by decide +kernel
theorem dX10_does_298 : decode cX10_does 298 = .ok (.getfield 7, 3) := by decide +kernel
theorem dX10_does_301 : decode cX10_does 301 = .ok (.iconst 3, 1) := by decide +kernel
theorem dX10_does_302 : decode cX10_does 302 = .ok (.iaload, 1) := by decide +kernel
theorem dX10_does_303 : decode cX10_does 303 = .ok (.sipush 160, 3) := by decide +kernel
theorem dX10_does_306 : decode cX10_does 306 = .ok (.if_icmp .ne 7, 3) := by decide +kernel
theorem dX10_does_309 : decode cX10_does 309 = .ok (.iconst 3, 1) := by decide +kernel
theorem dX10_does_310 : decode cX10_does 310 = .ok (.goto 17, 3) := by decide +kernel
theorem dX10_does_313 : decode cX10_does 313 = .ok (.aload_n 0, 1) := by decide +kernel
theorem dX10_does_314 : decode cX10_does 314 = .ok (.iload 5, 2) := by decide +kernel
theorem dX10_does_316 : decode cX10_does 316 = .ok (.invokevirtual 106, 3) := by decide +kernel
theorem dX10_does_319 : decode cX10_does 319 = .ok (.ifCond .ge 7, 3) := by decide +kernel
theorem dX10_does_322 : decode cX10_does 322 = .ok (.iconst 3, 1) := by decide +kernel
theorem dX10_does_323 : decode cX10_does 323 = .ok (.goto 4, 3) := by decide +kernel
theorem dX10_does_326 : decode cX10_does 326 = .ok (.iconst 0, 1) := by decide +kernel
theorem dX10_does_327 : decode cX10_does 327 = .ok (.ireturn, 1) := by decide +kernel
theorem dX10_goes_0 : decode cX10_goes 0 = .ok (.aload_n 0, 1) := by decide +kernel
theorem dX10_goes_1 : decode cX10_goes 1 = .ok (.iconst 0, 1) := by decide +kernel
theorem dX10_goes_2 : decode cX10_goes 2 = .ok (.putfield 190, 3) := by decide +kernel
theorem dX10_goes_5 : decode cX10_goes 5 = .ok (.aload_n 0, 1) := by decide +kernel
theorem dX10_goes_6 : decode cX10_goes 6 = .ok (.iconst 0, 1) := by decide +kernel
theorem dX10_goes_7 : decode cX10_goes 7 = .ok (.putfield 202, 3) := by decide +kernel
theorem dX10_goes_10 : decode cX10_goes 10 = .ok (.iconst 0, 1) := by decide +kernel
theorem dX10_goes_11 : decode cX10_goes 11 = .ok (.istore_n 1, 1) := by decide +kernel
theorem dX10_goes_12 : decode cX10_goes 12 = .ok (.aload_n 0, 1) := by decide +kernel
theorem dX10_goes_13 : decode cX10_goes 13 = .ok (.getfield 190, 3) := by decide +kernel
theorem dX10_goes_16 : decode cX10_goes 16 = .ok (.aload_n 0, 1) := by decide +kernel
theorem dX10_goes_17 : decode cX10_goes 17 = .ok (.getfield 187, 3) := by decide +kernel
theorem dX10_goes_20 : decode cX10_goes 20 = .ok (.if_icmp .ge 26, 3) := by decide +kernel
theorem dX10_goes_23 : decode cX10_goes 23 = .ok (.aload_n 0, 1) := by decide +kernel
theorem dX10_goes_24 : decode cX10_goes 24 = .ok (.getfield 202, 3) := by decide +kernel
theorem dX10_goes_27 : decode cX10_goes 27 = .ok (.ifCond .ne 19, 3) := by decide +kernel
theorem dX10_goes_30 : decode cX10_goes 30 = .ok (.aload_n 0, 1) := by decide +kernel
theorem dX10_goes_31 : decode cX10_goes 31 = .ok (.getfield 190, 3) := by decide +kernel
theorem dX10_goes_34 : decode cX10_goes 34 = .ok (.istore_n 1, 1) := by decide +kernel
theorem dX10_goes_35 : decode cX10_goes 35 = .ok (.aload_n 0, 1) := by decide +kernel
theorem dX10_goes_36 : decode cX10_goes 36 = .ok (.aload_n 0, 1) := by decide +kernel
theorem dX10_goes_37 : decode cX10_goes 37 = .ok (.invokevirtual 205, 3) := by decide +kernel
theorem dX10_goes_40 : decode cX10_goes 40 = .ok (.putfield 202, 3) := by decide +kernel
theorem dX10_goes_43 : decode cX10_goes 43 = .ok (.goto (-31), 3) := by decide +kernel
theorem dX10_goes_46 : decode cX10_goes 46 = .ok (.aload_n 0, 1) := by decide +kernel
theorem dX10_goes_47 : decode cX10_goes 47 = .ok (.getfield 202, 3) := by decide +kernel
theorem dX10_goes_50 : decode cX10_goes 50 = .ok (.ifCond .ne 8, 3) := by decide +kernel
theorem dX10_goes_53 : decode cX10_goes 53 = .ok (.ldc 154, 2) := by decide +kernel
theorem dX10_goes_55 : decode cX10_goes 55 = .ok (.goto 4, 3) := by decide +kernel
theorem dX10_goes_58 : decode cX10_goes 58 = .ok (.iload_n 1, 1) := by decide +kernel
theorem dX10_goes_59 : decode cX10_goes 59 = .ok (.ireturn, 1) := by decide +kernel
theorem dX10_fault_0 : decode cX10_fault 0 = .ok (.iload_n 1, 1) := by decide +kernel
theorem dX10_fault_1 : decode cX10_fault 1 = .ok (.iconst 0, 1) := by decide +kernel
theorem dX10_fault_2 : decode cX10_fault 2 = .ok (.iconst 1, 1) := by decide +kernel
theorem dX10_fault_3 : decode cX10_fault 3 = .ok (.invokestatic 65, 3) := by decide +kernel
theorem dX10_fault_6 : decode cX10_fault 6 = .ok (.ifCond .ne 6, 3) := by decide +kernel
theorem dX10_fault_9 : decode cX10_fault 9 = .ok (.ldc 76, 2) := by decide +kernel
theorem dX10_fault_11 : decode cX10_fault 11 = .ok (.ireturn, 1) := by decide +kernel
theorem dX10_fault_12 : decode cX10_fault 12 = .ok (.aload_n 0, 1) := by decide +kernel
theorem dX10_fault_13 : decode cX10_fault 13 = .ok (.invokevirtual 208, 3) := by decide +kernel
theorem dX10_fault_16 : decode cX10_fault 16 = .ok (.aload_n 0, 1) := by decide +kernel
theorem dX10_fault_17 : decode cX10_fault 17 = .ok (.invokevirtual 211, 3) := by decide +kernel
theorem dX10_fault_20 : decode cX10_fault 20 = .ok (.istore_n 2, 1) := by decide +kernel
theorem dX10_fault_21 : decode cX10_fault 21 = .ok (.aload_n 0, 1) := by decide +kernel
theorem dX10_fault_22 : decode cX10_fault 22 = .ok (.invokevirtual 214, 3) := by decide +kernel
theorem dX10_fault_25 : decode cX10_fault 25 = .ok (.iload_n 2, 1) := by decide +kernel
theorem dX10_fault_26 : decode cX10_fault 26 = .ok (.ldc 154, 2) := by decide +kernel
theorem dX10_fault_28 : decode cX10_fault 28 = .ok (.if_icmp .eq 7, 3) := by decide +kernel
theorem dX10_fault_31 : decode cX10_fault 31 = .ok (.iload_n 1, 1) := by decide +kernel
theorem dX10_fault_32 : decode cX10_fault 32 = .ok (.ifCond .ne 7, 3) := by decide +kernel
theorem dX10_fault_35 : decode cX10_fault 35 = .ok (.iload_n 2, 1) := by decide +kernel
theorem dX10_fault_36 : decode cX10_fault 36 = .ok (.goto 7, 3) := by decide +kernel
theorem dX10_fault_39 : decode cX10_fault 39 = .ok (.aload_n 0, 1) := by decide +kernel
theorem dX10_fault_40 : decode cX10_fault 40 = .ok (.getfield 202, 3) := by decide +kernel
theorem dX10_fault_43 : decode cX10_fault 43 = .ok (.ireturn, 1) := by decide +kernel
theorem dX10_play_0 : decode cX10_play 0 = .ok (.aload_n 0, 1) := by decide +kernel
theorem dX10_play_1 : decode cX10_play 1 = .ok (.invokevirtual 208, 3) := by decide +kernel
theorem dX10_play_4 : decode cX10_play 4 = .ok (.aload_n 0, 1) := by decide +kernel
theorem dX10_play_5 : decode cX10_play 5 = .ok (.invokevirtual 211, 3) := by decide +kernel
theorem dX10_play_8 : decode cX10_play 8 = .ok (.istore_n 1, 1) := by decide +kernel
theorem dX10_play_9 : decode cX10_play 9 = .ok (.aload_n 0, 1) := by decide +kernel
theorem dX10_play_10 : decode cX10_play 10 = .ok (.invokevirtual 214, 3) := by decide +kernel
theorem dX10_play_13 : decode cX10_play 13 = .ok (.iload_n 1, 1) := by decide +kernel
theorem dX10_play_14 : decode cX10_play 14 = .ok (.ldc 154, 2) := by decide +kernel
theorem dX10_play_16 : decode cX10_play 16 = .ok (.if_icmp .eq 6, 3) := by decide +kernel
theorem dX10_play_19 : decode cX10_play 19 = .ok (.ldc 102, 2) := by decide +kernel
theorem dX10_play_21 : decode cX10_play 21 = .ok (.ireturn, 1) := by decide +kernel
theorem dX10_play_22 : decode cX10_play 22 = .ok (.aload_n 0, 1) := by decide +kernel
theorem dX10_play_23 : decode cX10_play 23 = .ok (.invokevirtual 77, 3) := by decide +kernel
theorem dX10_play_26 : decode cX10_play 26 = .ok (.aload_n 0, 1) := by decide +kernel
theorem dX10_play_27 : decode cX10_play 27 = .ok (.invokevirtual 211, 3) := by decide +kernel
theorem dX10_play_30 : decode cX10_play 30 = .ok (.ldc 154, 2) := by decide +kernel
theorem dX10_play_32 : decode cX10_play 32 = .ok (.if_icmp .ne 12, 3) := by decide +kernel
theorem dX10_play_35 : decode cX10_play 35 = .ok (.aload_n 0, 1) := by decide +kernel
theorem dX10_play_36 : decode cX10_play 36 = .ok (.getfield 7, 3) := by decide +kernel
theorem dX10_play_39 : decode cX10_play 39 = .ok (.iconst 3, 1) := by decide +kernel
theorem dX10_play_40 : decode cX10_play 40 = .ok (.iaload, 1) := by decide +kernel
theorem dX10_play_41 : decode cX10_play 41 = .ok (.goto 5, 3) := by decide +kernel
theorem dX10_play_44 : decode cX10_play 44 = .ok (.ldc 154, 2) := by decide +kernel
theorem dX10_play_46 : decode cX10_play 46 = .ok (.ireturn, 1) := by decide +kernel
theorem dJ9_floorMod_7cf53_0 : decode cJ9_floorMod_7cf53 0 = .ok (.iload_n 0, 1) := by decide +kernel
theorem dJ9_floorMod_7cf53_1 : decode cJ9_floorMod_7cf53 1 = .ok (.iload_n 1, 1) := by decide +kernel
theorem dJ9_floorMod_7cf53_2 : decode cJ9_floorMod_7cf53 2 = .ok (.irem, 1) := by decide +kernel
theorem dJ9_floorMod_7cf53_3 : decode cJ9_floorMod_7cf53 3 = .ok (.istore_n 2, 1) := by decide +kernel
theorem dJ9_floorMod_7cf53_4 : decode cJ9_floorMod_7cf53 4 = .ok (.iload_n 0, 1) := by decide +kernel
theorem dJ9_floorMod_7cf53_5 : decode cJ9_floorMod_7cf53 5 = .ok (.iload_n 1, 1) := by decide +kernel
theorem dJ9_floorMod_7cf53_6 : decode cJ9_floorMod_7cf53 6 = .ok (.ixor, 1) := by decide +kernel
theorem dJ9_floorMod_7cf53_7 : decode cJ9_floorMod_7cf53 7 = .ok (.ifCond .ge 11, 3) := by decide +kernel
theorem dJ9_floorMod_7cf53_10 : decode cJ9_floorMod_7cf53 10 = .ok (.iload_n 2, 1) := by decide +kernel
theorem dJ9_floorMod_7cf53_11 : decode cJ9_floorMod_7cf53 11 = .ok (.ifCond .eq 7, 3) := by decide +kernel
theorem dJ9_floorMod_7cf53_14 : decode cJ9_floorMod_7cf53 14 = .ok (.iload_n 2, 1) := by decide +kernel
theorem dJ9_floorMod_7cf53_15 : decode cJ9_floorMod_7cf53 15 = .ok (.iload_n 1, 1) := by decide +kernel
theorem dJ9_floorMod_7cf53_16 : decode cJ9_floorMod_7cf53 16 = .ok (.iadd, 1) := by decide +kernel
theorem dJ9_floorMod_7cf53_17 : decode cJ9_floorMod_7cf53 17 = .ok (.ireturn, 1) := by decide +kernel
theorem dJ9_floorMod_7cf53_18 : decode cJ9_floorMod_7cf53 18 = .ok (.iload_n 2, 1) := by decide +kernel
theorem dJ9_floorMod_7cf53_19 : decode cJ9_floorMod_7cf53 19 = .ok (.ireturn, 1) := by decide +kernel
theorem dL_law_0 : decode cL_law 0 = .ok (.new 7, 3) := by decide +kernel
theorem dL_law_3 : decode cL_law 3 = .ok (.dup, 1) := by decide +kernel
theorem dL_law_4 : decode cL_law 4 = .ok (.invokespecial 9, 3) := by decide +kernel
theorem dL_law_7 : decode cL_law 7 = .ok (.astore_n 1, 1) := by decide +kernel
theorem dL_law_8 : decode cL_law 8 = .ok (.new 10, 3) := by decide +kernel
theorem dL_law_11 : decode cL_law 11 = .ok (.dup, 1) := by decide +kernel
theorem dL_law_12 : decode cL_law 12 = .ok (.invokespecial 12, 3) := by decide +kernel
theorem dL_law_15 : decode cL_law 15 = .ok (.astore_n 2, 1) := by decide +kernel
theorem dL_law_16 : decode cL_law 16 = .ok (.iconst 0, 1) := by decide +kernel
theorem dL_law_17 : decode cL_law 17 = .ok (.istore_n 3, 1) := by decide +kernel
theorem dL_law_18 : decode cL_law 18 = .ok (.iload_n 3, 1) := by decide +kernel
theorem dL_law_19 : decode cL_law 19 = .ok (.aload_n 0, 1) := by decide +kernel
theorem dL_law_20 : decode cL_law 20 = .ok (.arraylength, 1) := by decide +kernel
theorem dL_law_21 : decode cL_law 21 = .ok (.iconst 4, 1) := by decide +kernel
theorem dL_law_22 : decode cL_law 22 = .ok (.isub, 1) := by decide +kernel
theorem dL_law_23 : decode cL_law 23 = .ok (.if_icmp .gt 631, 3) := by decide +kernel
theorem dL_law_26 : decode cL_law 26 = .ok (.aload_n 0, 1) := by decide +kernel
theorem dL_law_27 : decode cL_law 27 = .ok (.iload_n 3, 1) := by decide +kernel
theorem dL_law_28 : decode cL_law 28 = .ok (.iaload, 1) := by decide +kernel
theorem dL_law_29 : decode cL_law 29 = .ok (.bipush 31, 2) := by decide +kernel
theorem dL_law_31 : decode cL_law 31 = .ok (.iand, 1) := by decide +kernel
theorem dL_law_32 : decode cL_law 32 = .ok (.tableswitch 616 0 19 #[96, 129, 162, 185, 198, 221, 244, 277, 310, 343, 386, 429, 462, 485, 508, 531, 544, 567, 580, 603], 96) := by decide +kernel
theorem dL_law_128 : decode cL_law 128 = .ok (.aload_n 1, 1) := by decide +kernel
theorem dL_law_129 : decode cL_law 129 = .ok (.aload_n 0, 1) := by decide +kernel
theorem dL_law_130 : decode cL_law 130 = .ok (.iload_n 3, 1) := by decide +kernel
theorem dL_law_131 : decode cL_law 131 = .ok (.iconst 1, 1) := by decide +kernel
theorem dL_law_132 : decode cL_law 132 = .ok (.iadd, 1) := by decide +kernel
theorem dL_law_133 : decode cL_law 133 = .ok (.iaload, 1) := by decide +kernel
theorem dL_law_134 : decode cL_law 134 = .ok (.aload_n 0, 1) := by decide +kernel
theorem dL_law_135 : decode cL_law 135 = .ok (.iload_n 3, 1) := by decide +kernel
theorem dL_law_136 : decode cL_law 136 = .ok (.iconst 2, 1) := by decide +kernel
theorem dL_law_137 : decode cL_law 137 = .ok (.iadd, 1) := by decide +kernel
theorem dL_law_138 : decode cL_law 138 = .ok (.iaload, 1) := by decide +kernel
theorem dL_law_139 : decode cL_law 139 = .ok (.invokevirtual 13, 3) := by decide +kernel
theorem dL_law_142 : decode cL_law 142 = .ok (.aload_n 2, 1) := by decide +kernel
theorem dL_law_143 : decode cL_law 143 = .ok (.aload_n 0, 1) := by decide +kernel
theorem dL_law_144 : decode cL_law 144 = .ok (.iload_n 3, 1) := by decide +kernel
theorem dL_law_145 : decode cL_law 145 = .ok (.iconst 1, 1) := by decide +kernel
theorem dL_law_146 : decode cL_law 146 = .ok (.iadd, 1) := by decide +kernel
theorem dL_law_147 : decode cL_law 147 = .ok (.iaload, 1) := by decide +kernel
theorem dL_law_148 : decode cL_law 148 = .ok (.aload_n 0, 1) := by decide +kernel
theorem dL_law_149 : decode cL_law 149 = .ok (.iload_n 3, 1) := by decide +kernel
theorem dL_law_150 : decode cL_law 150 = .ok (.iconst 2, 1) := by decide +kernel
theorem dL_law_151 : decode cL_law 151 = .ok (.iadd, 1) := by decide +kernel
theorem dL_law_152 : decode cL_law 152 = .ok (.iaload, 1) := by decide +kernel
theorem dL_law_153 : decode cL_law 153 = .ok (.invokevirtual 17, 3) := by decide +kernel
theorem dL_law_156 : decode cL_law 156 = .ok (.if_icmp .eq 492, 3) := by decide +kernel
theorem dL_law_159 : decode cL_law 159 = .ok (.iconst 0, 1) := by decide +kernel
theorem dL_law_160 : decode cL_law 160 = .ok (.ireturn, 1) := by decide +kernel
theorem dL_law_161 : decode cL_law 161 = .ok (.aload_n 1, 1) := by decide +kernel
theorem dL_law_162 : decode cL_law 162 = .ok (.aload_n 0, 1) := by decide +kernel
theorem dL_law_163 : decode cL_law 163 = .ok (.iload_n 3, 1) := by decide +kernel
theorem dL_law_164 : decode cL_law 164 = .ok (.iconst 1, 1) := by decide +kernel
theorem dL_law_165 : decode cL_law 165 = .ok (.iadd, 1) := by decide +kernel
theorem dL_law_166 : decode cL_law 166 = .ok (.iaload, 1) := by decide +kernel
theorem dL_law_167 : decode cL_law 167 = .ok (.aload_n 0, 1) := by decide +kernel
theorem dL_law_168 : decode cL_law 168 = .ok (.iload_n 3, 1) := by decide +kernel
theorem dL_law_169 : decode cL_law 169 = .ok (.iconst 2, 1) := by decide +kernel
theorem dL_law_170 : decode cL_law 170 = .ok (.iadd, 1) := by decide +kernel
theorem dL_law_171 : decode cL_law 171 = .ok (.iaload, 1) := by decide +kernel
theorem dL_law_172 : decode cL_law 172 = .ok (.invokevirtual 18, 3) := by decide +kernel
theorem dL_law_175 : decode cL_law 175 = .ok (.aload_n 2, 1) := by decide +kernel
theorem dL_law_176 : decode cL_law 176 = .ok (.aload_n 0, 1) := by decide +kernel
theorem dL_law_177 : decode cL_law 177 = .ok (.iload_n 3, 1) := by decide +kernel
theorem dL_law_178 : decode cL_law 178 = .ok (.iconst 1, 1) := by decide +kernel
theorem dL_law_179 : decode cL_law 179 = .ok (.iadd, 1) := by decide +kernel
theorem dL_law_180 : decode cL_law 180 = .ok (.iaload, 1) := by decide +kernel
theorem dL_law_181 : decode cL_law 181 = .ok (.aload_n 0, 1) := by decide +kernel
theorem dL_law_182 : decode cL_law 182 = .ok (.iload_n 3, 1) := by decide +kernel
theorem dL_law_183 : decode cL_law 183 = .ok (.iconst 2, 1) := by decide +kernel
theorem dL_law_184 : decode cL_law 184 = .ok (.iadd, 1) := by decide +kernel
theorem dL_law_185 : decode cL_law 185 = .ok (.iaload, 1) := by decide +kernel
theorem dL_law_186 : decode cL_law 186 = .ok (.invokevirtual 21, 3) := by decide +kernel
theorem dL_law_189 : decode cL_law 189 = .ok (.if_icmp .eq 459, 3) := by decide +kernel
theorem dL_law_192 : decode cL_law 192 = .ok (.iconst 0, 1) := by decide +kernel
theorem dL_law_193 : decode cL_law 193 = .ok (.ireturn, 1) := by decide +kernel
theorem dL_law_194 : decode cL_law 194 = .ok (.aload_n 1, 1) := by decide +kernel
theorem dL_law_195 : decode cL_law 195 = .ok (.aload_n 0, 1) := by decide +kernel
theorem dL_law_196 : decode cL_law 196 = .ok (.iload_n 3, 1) := by decide +kernel
theorem dL_law_197 : decode cL_law 197 = .ok (.iconst 1, 1) := by decide +kernel
theorem dL_law_198 : decode cL_law 198 = .ok (.iadd, 1) := by decide +kernel
theorem dL_law_199 : decode cL_law 199 = .ok (.iaload, 1) := by decide +kernel
theorem dL_law_200 : decode cL_law 200 = .ok (.invokevirtual 22, 3) := by decide +kernel
theorem dL_law_203 : decode cL_law 203 = .ok (.aload_n 2, 1) := by decide +kernel
theorem dL_law_204 : decode cL_law 204 = .ok (.aload_n 0, 1) := by decide +kernel
theorem dL_law_205 : decode cL_law 205 = .ok (.iload_n 3, 1) := by decide +kernel
theorem dL_law_206 : decode cL_law 206 = .ok (.iconst 1, 1) := by decide +kernel
theorem dL_law_207 : decode cL_law 207 = .ok (.iadd, 1) := by decide +kernel
theorem dL_law_208 : decode cL_law 208 = .ok (.iaload, 1) := by decide +kernel
theorem dL_law_209 : decode cL_law 209 = .ok (.invokevirtual 26, 3) := by decide +kernel
theorem dL_law_212 : decode cL_law 212 = .ok (.if_icmp .eq 436, 3) := by decide +kernel
theorem dL_law_215 : decode cL_law 215 = .ok (.iconst 0, 1) := by decide +kernel
theorem dL_law_216 : decode cL_law 216 = .ok (.ireturn, 1) := by decide +kernel
theorem dL_law_217 : decode cL_law 217 = .ok (.aload_n 1, 1) := by decide +kernel
theorem dL_law_218 : decode cL_law 218 = .ok (.invokevirtual 27, 3) := by decide +kernel
theorem dL_law_221 : decode cL_law 221 = .ok (.aload_n 2, 1) := by decide +kernel
theorem dL_law_222 : decode cL_law 222 = .ok (.invokevirtual 31, 3) := by decide +kernel
theorem dL_law_225 : decode cL_law 225 = .ok (.if_icmp .eq 423, 3) := by decide +kernel
theorem dL_law_228 : decode cL_law 228 = .ok (.iconst 0, 1) := by decide +kernel
theorem dL_law_229 : decode cL_law 229 = .ok (.ireturn, 1) := by decide +kernel
theorem dL_law_230 : decode cL_law 230 = .ok (.aload_n 1, 1) := by decide +kernel
theorem dL_law_231 : decode cL_law 231 = .ok (.aload_n 0, 1) := by decide +kernel
theorem dL_law_232 : decode cL_law 232 = .ok (.iload_n 3, 1) := by decide +kernel
theorem dL_law_233 : decode cL_law 233 = .ok (.iconst 1, 1) := by decide +kernel
theorem dL_law_234 : decode cL_law 234 = .ok (.iadd, 1) := by decide +kernel
theorem dL_law_235 : decode cL_law 235 = .ok (.iaload, 1) := by decide +kernel
theorem dL_law_236 : decode cL_law 236 = .ok (.invokevirtual 32, 3) := by decide +kernel
theorem dL_law_239 : decode cL_law 239 = .ok (.aload_n 2, 1) := by decide +kernel
theorem dL_law_240 : decode cL_law 240 = .ok (.aload_n 0, 1) := by decide +kernel
theorem dL_law_241 : decode cL_law 241 = .ok (.iload_n 3, 1) := by decide +kernel
theorem dL_law_242 : decode cL_law 242 = .ok (.iconst 1, 1) := by decide +kernel
theorem dL_law_243 : decode cL_law 243 = .ok (.iadd, 1) := by decide +kernel
theorem dL_law_244 : decode cL_law 244 = .ok (.iaload, 1) := by decide +kernel
theorem dL_law_245 : decode cL_law 245 = .ok (.invokevirtual 35, 3) := by decide +kernel
theorem dL_law_248 : decode cL_law 248 = .ok (.if_icmp .eq 400, 3) := by decide +kernel
theorem dL_law_251 : decode cL_law 251 = .ok (.iconst 0, 1) := by decide +kernel
theorem dL_law_252 : decode cL_law 252 = .ok (.ireturn, 1) := by decide +kernel
theorem dL_law_253 : decode cL_law 253 = .ok (.aload_n 1, 1) := by decide +kernel
theorem dL_law_254 : decode cL_law 254 = .ok (.aload_n 0, 1) := by decide +kernel
theorem dL_law_255 : decode cL_law 255 = .ok (.iload_n 3, 1) := by decide +kernel
theorem dL_law_256 : decode cL_law 256 = .ok (.iconst 1, 1) := by decide +kernel
theorem dL_law_257 : decode cL_law 257 = .ok (.iadd, 1) := by decide +kernel
theorem dL_law_258 : decode cL_law 258 = .ok (.iaload, 1) := by decide +kernel
theorem dL_law_259 : decode cL_law 259 = .ok (.invokevirtual 36, 3) := by decide +kernel
theorem dL_law_262 : decode cL_law 262 = .ok (.aload_n 2, 1) := by decide +kernel
theorem dL_law_263 : decode cL_law 263 = .ok (.aload_n 0, 1) := by decide +kernel
theorem dL_law_264 : decode cL_law 264 = .ok (.iload_n 3, 1) := by decide +kernel
theorem dL_law_265 : decode cL_law 265 = .ok (.iconst 1, 1) := by decide +kernel
theorem dL_law_266 : decode cL_law 266 = .ok (.iadd, 1) := by decide +kernel
theorem dL_law_267 : decode cL_law 267 = .ok (.iaload, 1) := by decide +kernel
theorem dL_law_268 : decode cL_law 268 = .ok (.invokevirtual 39, 3) := by decide +kernel
theorem dL_law_271 : decode cL_law 271 = .ok (.if_icmp .eq 377, 3) := by decide +kernel
theorem dL_law_274 : decode cL_law 274 = .ok (.iconst 0, 1) := by decide +kernel
theorem dL_law_275 : decode cL_law 275 = .ok (.ireturn, 1) := by decide +kernel
theorem dL_law_276 : decode cL_law 276 = .ok (.aload_n 1, 1) := by decide +kernel
theorem dL_law_277 : decode cL_law 277 = .ok (.aload_n 0, 1) := by decide +kernel
theorem dL_law_278 : decode cL_law 278 = .ok (.iload_n 3, 1) := by decide +kernel
theorem dL_law_279 : decode cL_law 279 = .ok (.iconst 1, 1) := by decide +kernel
theorem dL_law_280 : decode cL_law 280 = .ok (.iadd, 1) := by decide +kernel
theorem dL_law_281 : decode cL_law 281 = .ok (.iaload, 1) := by decide +kernel
theorem dL_law_282 : decode cL_law 282 = .ok (.aload_n 0, 1) := by decide +kernel
theorem dL_law_283 : decode cL_law 283 = .ok (.iload_n 3, 1) := by decide +kernel
theorem dL_law_284 : decode cL_law 284 = .ok (.iconst 2, 1) := by decide +kernel
theorem dL_law_285 : decode cL_law 285 = .ok (.iadd, 1) := by decide +kernel
theorem dL_law_286 : decode cL_law 286 = .ok (.iaload, 1) := by decide +kernel
theorem dL_law_287 : decode cL_law 287 = .ok (.invokevirtual 40, 3) := by decide +kernel
theorem dL_law_290 : decode cL_law 290 = .ok (.aload_n 2, 1) := by decide +kernel
theorem dL_law_291 : decode cL_law 291 = .ok (.aload_n 0, 1) := by decide +kernel
theorem dL_law_292 : decode cL_law 292 = .ok (.iload_n 3, 1) := by decide +kernel
theorem dL_law_293 : decode cL_law 293 = .ok (.iconst 1, 1) := by decide +kernel
theorem dL_law_294 : decode cL_law 294 = .ok (.iadd, 1) := by decide +kernel
theorem dL_law_295 : decode cL_law 295 = .ok (.iaload, 1) := by decide +kernel
theorem dL_law_296 : decode cL_law 296 = .ok (.aload_n 0, 1) := by decide +kernel
theorem dL_law_297 : decode cL_law 297 = .ok (.iload_n 3, 1) := by decide +kernel
theorem dL_law_298 : decode cL_law 298 = .ok (.iconst 2, 1) := by decide +kernel
theorem dL_law_299 : decode cL_law 299 = .ok (.iadd, 1) := by decide +kernel
theorem dL_law_300 : decode cL_law 300 = .ok (.iaload, 1) := by decide +kernel
theorem dL_law_301 : decode cL_law 301 = .ok (.invokevirtual 43, 3) := by decide +kernel
theorem dL_law_304 : decode cL_law 304 = .ok (.if_icmp .eq 344, 3) := by decide +kernel
theorem dL_law_307 : decode cL_law 307 = .ok (.iconst 0, 1) := by decide +kernel
theorem dL_law_308 : decode cL_law 308 = .ok (.ireturn, 1) := by decide +kernel
theorem dL_law_309 : decode cL_law 309 = .ok (.aload_n 1, 1) := by decide +kernel
theorem dL_law_310 : decode cL_law 310 = .ok (.aload_n 0, 1) := by decide +kernel
theorem dL_law_311 : decode cL_law 311 = .ok (.iload_n 3, 1) := by decide +kernel
theorem dL_law_312 : decode cL_law 312 = .ok (.iconst 1, 1) := by decide +kernel
theorem dL_law_313 : decode cL_law 313 = .ok (.iadd, 1) := by decide +kernel
theorem dL_law_314 : decode cL_law 314 = .ok (.iaload, 1) := by decide +kernel
theorem dL_law_315 : decode cL_law 315 = .ok (.aload_n 0, 1) := by decide +kernel
theorem dL_law_316 : decode cL_law 316 = .ok (.iload_n 3, 1) := by decide +kernel
theorem dL_law_317 : decode cL_law 317 = .ok (.iconst 2, 1) := by decide +kernel
theorem dL_law_318 : decode cL_law 318 = .ok (.iadd, 1) := by decide +kernel
theorem dL_law_319 : decode cL_law 319 = .ok (.iaload, 1) := by decide +kernel
theorem dL_law_320 : decode cL_law 320 = .ok (.invokevirtual 44, 3) := by decide +kernel
theorem dL_law_323 : decode cL_law 323 = .ok (.aload_n 2, 1) := by decide +kernel
theorem dL_law_324 : decode cL_law 324 = .ok (.aload_n 0, 1) := by decide +kernel
theorem dL_law_325 : decode cL_law 325 = .ok (.iload_n 3, 1) := by decide +kernel
theorem dL_law_326 : decode cL_law 326 = .ok (.iconst 1, 1) := by decide +kernel
theorem dL_law_327 : decode cL_law 327 = .ok (.iadd, 1) := by decide +kernel
theorem dL_law_328 : decode cL_law 328 = .ok (.iaload, 1) := by decide +kernel
theorem dL_law_329 : decode cL_law 329 = .ok (.aload_n 0, 1) := by decide +kernel
theorem dL_law_330 : decode cL_law 330 = .ok (.iload_n 3, 1) := by decide +kernel
theorem dL_law_331 : decode cL_law 331 = .ok (.iconst 2, 1) := by decide +kernel
theorem dL_law_332 : decode cL_law 332 = .ok (.iadd, 1) := by decide +kernel
theorem dL_law_333 : decode cL_law 333 = .ok (.iaload, 1) := by decide +kernel
theorem dL_law_334 : decode cL_law 334 = .ok (.invokevirtual 47, 3) := by decide +kernel
theorem dL_law_337 : decode cL_law 337 = .ok (.if_icmp .eq 311, 3) := by decide +kernel
theorem dL_law_340 : decode cL_law 340 = .ok (.iconst 0, 1) := by decide +kernel
theorem dL_law_341 : decode cL_law 341 = .ok (.ireturn, 1) := by decide +kernel
theorem dL_law_342 : decode cL_law 342 = .ok (.aload_n 1, 1) := by decide +kernel
theorem dL_law_343 : decode cL_law 343 = .ok (.aload_n 0, 1) := by decide +kernel
theorem dL_law_344 : decode cL_law 344 = .ok (.iload_n 3, 1) := by decide +kernel
theorem dL_law_345 : decode cL_law 345 = .ok (.iconst 1, 1) := by decide +kernel
theorem dL_law_346 : decode cL_law 346 = .ok (.iadd, 1) := by decide +kernel
theorem dL_law_347 : decode cL_law 347 = .ok (.iaload, 1) := by decide +kernel
theorem dL_law_348 : decode cL_law 348 = .ok (.aload_n 0, 1) := by decide +kernel
theorem dL_law_349 : decode cL_law 349 = .ok (.iload_n 3, 1) := by decide +kernel
theorem dL_law_350 : decode cL_law 350 = .ok (.iconst 2, 1) := by decide +kernel
theorem dL_law_351 : decode cL_law 351 = .ok (.iadd, 1) := by decide +kernel
theorem dL_law_352 : decode cL_law 352 = .ok (.iaload, 1) := by decide +kernel
theorem dL_law_353 : decode cL_law 353 = .ok (.invokevirtual 48, 3) := by decide +kernel
theorem dL_law_356 : decode cL_law 356 = .ok (.aload_n 2, 1) := by decide +kernel
theorem dL_law_357 : decode cL_law 357 = .ok (.aload_n 0, 1) := by decide +kernel
theorem dL_law_358 : decode cL_law 358 = .ok (.iload_n 3, 1) := by decide +kernel
theorem dL_law_359 : decode cL_law 359 = .ok (.iconst 1, 1) := by decide +kernel
theorem dL_law_360 : decode cL_law 360 = .ok (.iadd, 1) := by decide +kernel
theorem dL_law_361 : decode cL_law 361 = .ok (.iaload, 1) := by decide +kernel
theorem dL_law_362 : decode cL_law 362 = .ok (.aload_n 0, 1) := by decide +kernel
theorem dL_law_363 : decode cL_law 363 = .ok (.iload_n 3, 1) := by decide +kernel
theorem dL_law_364 : decode cL_law 364 = .ok (.iconst 2, 1) := by decide +kernel
theorem dL_law_365 : decode cL_law 365 = .ok (.iadd, 1) := by decide +kernel
theorem dL_law_366 : decode cL_law 366 = .ok (.iaload, 1) := by decide +kernel
theorem dL_law_367 : decode cL_law 367 = .ok (.invokevirtual 51, 3) := by decide +kernel
theorem dL_law_370 : decode cL_law 370 = .ok (.if_icmp .eq 278, 3) := by decide +kernel
theorem dL_law_373 : decode cL_law 373 = .ok (.iconst 0, 1) := by decide +kernel
theorem dL_law_374 : decode cL_law 374 = .ok (.ireturn, 1) := by decide +kernel
theorem dL_law_375 : decode cL_law 375 = .ok (.aload_n 1, 1) := by decide +kernel
theorem dL_law_376 : decode cL_law 376 = .ok (.aload_n 0, 1) := by decide +kernel
theorem dL_law_377 : decode cL_law 377 = .ok (.iload_n 3, 1) := by decide +kernel
theorem dL_law_378 : decode cL_law 378 = .ok (.iconst 1, 1) := by decide +kernel
theorem dL_law_379 : decode cL_law 379 = .ok (.iadd, 1) := by decide +kernel
theorem dL_law_380 : decode cL_law 380 = .ok (.iaload, 1) := by decide +kernel
theorem dL_law_381 : decode cL_law 381 = .ok (.aload_n 0, 1) := by decide +kernel
theorem dL_law_382 : decode cL_law 382 = .ok (.iload_n 3, 1) := by decide +kernel
theorem dL_law_383 : decode cL_law 383 = .ok (.iconst 2, 1) := by decide +kernel
theorem dL_law_384 : decode cL_law 384 = .ok (.iadd, 1) := by decide +kernel
theorem dL_law_385 : decode cL_law 385 = .ok (.iaload, 1) := by decide +kernel
theorem dL_law_386 : decode cL_law 386 = .ok (.aload_n 0, 1) := by decide +kernel
theorem dL_law_387 : decode cL_law 387 = .ok (.iload_n 3, 1) := by decide +kernel
theorem dL_law_388 : decode cL_law 388 = .ok (.iconst 3, 1) := by decide +kernel
theorem dL_law_389 : decode cL_law 389 = .ok (.iadd, 1) := by decide +kernel
theorem dL_law_390 : decode cL_law 390 = .ok (.iaload, 1) := by decide +kernel
theorem dL_law_391 : decode cL_law 391 = .ok (.invokevirtual 52, 3) := by decide +kernel
theorem dL_law_394 : decode cL_law 394 = .ok (.aload_n 2, 1) := by decide +kernel
theorem dL_law_395 : decode cL_law 395 = .ok (.aload_n 0, 1) := by decide +kernel
theorem dL_law_396 : decode cL_law 396 = .ok (.iload_n 3, 1) := by decide +kernel
theorem dL_law_397 : decode cL_law 397 = .ok (.iconst 1, 1) := by decide +kernel
theorem dL_law_398 : decode cL_law 398 = .ok (.iadd, 1) := by decide +kernel
theorem dL_law_399 : decode cL_law 399 = .ok (.iaload, 1) := by decide +kernel
theorem dL_law_400 : decode cL_law 400 = .ok (.aload_n 0, 1) := by decide +kernel
theorem dL_law_401 : decode cL_law 401 = .ok (.iload_n 3, 1) := by decide +kernel
theorem dL_law_402 : decode cL_law 402 = .ok (.iconst 2, 1) := by decide +kernel
theorem dL_law_403 : decode cL_law 403 = .ok (.iadd, 1) := by decide +kernel
theorem dL_law_404 : decode cL_law 404 = .ok (.iaload, 1) := by decide +kernel
theorem dL_law_405 : decode cL_law 405 = .ok (.aload_n 0, 1) := by decide +kernel
theorem dL_law_406 : decode cL_law 406 = .ok (.iload_n 3, 1) := by decide +kernel
theorem dL_law_407 : decode cL_law 407 = .ok (.iconst 3, 1) := by decide +kernel
theorem dL_law_408 : decode cL_law 408 = .ok (.iadd, 1) := by decide +kernel
theorem dL_law_409 : decode cL_law 409 = .ok (.iaload, 1) := by decide +kernel
theorem dL_law_410 : decode cL_law 410 = .ok (.invokevirtual 56, 3) := by decide +kernel
theorem dL_law_413 : decode cL_law 413 = .ok (.if_icmp .eq 235, 3) := by decide +kernel
theorem dL_law_416 : decode cL_law 416 = .ok (.iconst 0, 1) := by decide +kernel
theorem dL_law_417 : decode cL_law 417 = .ok (.ireturn, 1) := by decide +kernel
theorem dL_law_418 : decode cL_law 418 = .ok (.aload_n 1, 1) := by decide +kernel
theorem dL_law_419 : decode cL_law 419 = .ok (.aload_n 0, 1) := by decide +kernel
theorem dL_law_420 : decode cL_law 420 = .ok (.iload_n 3, 1) := by decide +kernel
theorem dL_law_421 : decode cL_law 421 = .ok (.iconst 1, 1) := by decide +kernel
theorem dL_law_422 : decode cL_law 422 = .ok (.iadd, 1) := by decide +kernel
theorem dL_law_423 : decode cL_law 423 = .ok (.iaload, 1) := by decide +kernel
theorem dL_law_424 : decode cL_law 424 = .ok (.aload_n 0, 1) := by decide +kernel
theorem dL_law_425 : decode cL_law 425 = .ok (.iload_n 3, 1) := by decide +kernel
theorem dL_law_426 : decode cL_law 426 = .ok (.iconst 2, 1) := by decide +kernel
theorem dL_law_427 : decode cL_law 427 = .ok (.iadd, 1) := by decide +kernel
theorem dL_law_428 : decode cL_law 428 = .ok (.iaload, 1) := by decide +kernel
theorem dL_law_429 : decode cL_law 429 = .ok (.aload_n 0, 1) := by decide +kernel
theorem dL_law_430 : decode cL_law 430 = .ok (.iload_n 3, 1) := by decide +kernel
theorem dL_law_431 : decode cL_law 431 = .ok (.iconst 3, 1) := by decide +kernel
theorem dL_law_432 : decode cL_law 432 = .ok (.iadd, 1) := by decide +kernel
theorem dL_law_433 : decode cL_law 433 = .ok (.iaload, 1) := by decide +kernel
theorem dL_law_434 : decode cL_law 434 = .ok (.invokevirtual 57, 3) := by decide +kernel
theorem dL_law_437 : decode cL_law 437 = .ok (.aload_n 2, 1) := by decide +kernel
theorem dL_law_438 : decode cL_law 438 = .ok (.aload_n 0, 1) := by decide +kernel
theorem dL_law_439 : decode cL_law 439 = .ok (.iload_n 3, 1) := by decide +kernel
theorem dL_law_440 : decode cL_law 440 = .ok (.iconst 1, 1) := by decide +kernel
theorem dL_law_441 : decode cL_law 441 = .ok (.iadd, 1) := by decide +kernel
theorem dL_law_442 : decode cL_law 442 = .ok (.iaload, 1) := by decide +kernel
theorem dL_law_443 : decode cL_law 443 = .ok (.aload_n 0, 1) := by decide +kernel
theorem dL_law_444 : decode cL_law 444 = .ok (.iload_n 3, 1) := by decide +kernel
theorem dL_law_445 : decode cL_law 445 = .ok (.iconst 2, 1) := by decide +kernel
theorem dL_law_446 : decode cL_law 446 = .ok (.iadd, 1) := by decide +kernel
theorem dL_law_447 : decode cL_law 447 = .ok (.iaload, 1) := by decide +kernel
theorem dL_law_448 : decode cL_law 448 = .ok (.aload_n 0, 1) := by decide +kernel
theorem dL_law_449 : decode cL_law 449 = .ok (.iload_n 3, 1) := by decide +kernel
theorem dL_law_450 : decode cL_law 450 = .ok (.iconst 3, 1) := by decide +kernel
theorem dL_law_451 : decode cL_law 451 = .ok (.iadd, 1) := by decide +kernel
theorem dL_law_452 : decode cL_law 452 = .ok (.iaload, 1) := by decide +kernel
theorem dL_law_453 : decode cL_law 453 = .ok (.invokevirtual 60, 3) := by decide +kernel
theorem dL_law_456 : decode cL_law 456 = .ok (.if_icmp .eq 192, 3) := by decide +kernel
theorem dL_law_459 : decode cL_law 459 = .ok (.iconst 0, 1) := by decide +kernel
theorem dL_law_460 : decode cL_law 460 = .ok (.ireturn, 1) := by decide +kernel
theorem dL_law_461 : decode cL_law 461 = .ok (.aload_n 1, 1) := by decide +kernel
theorem dL_law_462 : decode cL_law 462 = .ok (.aload_n 0, 1) := by decide +kernel
theorem dL_law_463 : decode cL_law 463 = .ok (.iload_n 3, 1) := by decide +kernel
theorem dL_law_464 : decode cL_law 464 = .ok (.iconst 1, 1) := by decide +kernel
theorem dL_law_465 : decode cL_law 465 = .ok (.iadd, 1) := by decide +kernel
theorem dL_law_466 : decode cL_law 466 = .ok (.iaload, 1) := by decide +kernel
theorem dL_law_467 : decode cL_law 467 = .ok (.aload_n 0, 1) := by decide +kernel
theorem dL_law_468 : decode cL_law 468 = .ok (.iload_n 3, 1) := by decide +kernel
theorem dL_law_469 : decode cL_law 469 = .ok (.iconst 2, 1) := by decide +kernel
theorem dL_law_470 : decode cL_law 470 = .ok (.iadd, 1) := by decide +kernel
theorem dL_law_471 : decode cL_law 471 = .ok (.iaload, 1) := by decide +kernel
theorem dL_law_472 : decode cL_law 472 = .ok (.invokevirtual 61, 3) := by decide +kernel
theorem dL_law_475 : decode cL_law 475 = .ok (.aload_n 2, 1) := by decide +kernel
theorem dL_law_476 : decode cL_law 476 = .ok (.aload_n 0, 1) := by decide +kernel
theorem dL_law_477 : decode cL_law 477 = .ok (.iload_n 3, 1) := by decide +kernel
theorem dL_law_478 : decode cL_law 478 = .ok (.iconst 1, 1) := by decide +kernel
theorem dL_law_479 : decode cL_law 479 = .ok (.iadd, 1) := by decide +kernel
theorem dL_law_480 : decode cL_law 480 = .ok (.iaload, 1) := by decide +kernel
theorem dL_law_481 : decode cL_law 481 = .ok (.aload_n 0, 1) := by decide +kernel
theorem dL_law_482 : decode cL_law 482 = .ok (.iload_n 3, 1) := by decide +kernel
theorem dL_law_483 : decode cL_law 483 = .ok (.iconst 2, 1) := by decide +kernel
theorem dL_law_484 : decode cL_law 484 = .ok (.iadd, 1) := by decide +kernel
theorem dL_law_485 : decode cL_law 485 = .ok (.iaload, 1) := by decide +kernel
theorem dL_law_486 : decode cL_law 486 = .ok (.invokevirtual 64, 3) := by decide +kernel
theorem dL_law_489 : decode cL_law 489 = .ok (.if_icmp .eq 159, 3) := by decide +kernel
theorem dL_law_492 : decode cL_law 492 = .ok (.iconst 0, 1) := by decide +kernel
theorem dL_law_493 : decode cL_law 493 = .ok (.ireturn, 1) := by decide +kernel
theorem dL_law_494 : decode cL_law 494 = .ok (.aload_n 1, 1) := by decide +kernel
theorem dL_law_495 : decode cL_law 495 = .ok (.aload_n 0, 1) := by decide +kernel
theorem dL_law_496 : decode cL_law 496 = .ok (.iload_n 3, 1) := by decide +kernel
theorem dL_law_497 : decode cL_law 497 = .ok (.iconst 1, 1) := by decide +kernel
theorem dL_law_498 : decode cL_law 498 = .ok (.iadd, 1) := by decide +kernel
theorem dL_law_499 : decode cL_law 499 = .ok (.iaload, 1) := by decide +kernel
theorem dL_law_500 : decode cL_law 500 = .ok (.invokevirtual 65, 3) := by decide +kernel
theorem dL_law_503 : decode cL_law 503 = .ok (.aload_n 2, 1) := by decide +kernel
theorem dL_law_504 : decode cL_law 504 = .ok (.aload_n 0, 1) := by decide +kernel
theorem dL_law_505 : decode cL_law 505 = .ok (.iload_n 3, 1) := by decide +kernel
theorem dL_law_506 : decode cL_law 506 = .ok (.iconst 1, 1) := by decide +kernel
theorem dL_law_507 : decode cL_law 507 = .ok (.iadd, 1) := by decide +kernel
theorem dL_law_508 : decode cL_law 508 = .ok (.iaload, 1) := by decide +kernel
theorem dL_law_509 : decode cL_law 509 = .ok (.invokevirtual 68, 3) := by decide +kernel
theorem dL_law_512 : decode cL_law 512 = .ok (.if_icmp .eq 136, 3) := by decide +kernel
theorem dL_law_515 : decode cL_law 515 = .ok (.iconst 0, 1) := by decide +kernel
theorem dL_law_516 : decode cL_law 516 = .ok (.ireturn, 1) := by decide +kernel
theorem dL_law_517 : decode cL_law 517 = .ok (.aload_n 1, 1) := by decide +kernel
theorem dL_law_518 : decode cL_law 518 = .ok (.aload_n 0, 1) := by decide +kernel
theorem dL_law_519 : decode cL_law 519 = .ok (.iload_n 3, 1) := by decide +kernel
theorem dL_law_520 : decode cL_law 520 = .ok (.iconst 1, 1) := by decide +kernel
theorem dL_law_521 : decode cL_law 521 = .ok (.iadd, 1) := by decide +kernel
theorem dL_law_522 : decode cL_law 522 = .ok (.iaload, 1) := by decide +kernel
theorem dL_law_523 : decode cL_law 523 = .ok (.invokevirtual 69, 3) := by decide +kernel
theorem dL_law_526 : decode cL_law 526 = .ok (.aload_n 2, 1) := by decide +kernel
theorem dL_law_527 : decode cL_law 527 = .ok (.aload_n 0, 1) := by decide +kernel
theorem dL_law_528 : decode cL_law 528 = .ok (.iload_n 3, 1) := by decide +kernel
theorem dL_law_529 : decode cL_law 529 = .ok (.iconst 1, 1) := by decide +kernel
theorem dL_law_530 : decode cL_law 530 = .ok (.iadd, 1) := by decide +kernel
theorem dL_law_531 : decode cL_law 531 = .ok (.iaload, 1) := by decide +kernel
theorem dL_law_532 : decode cL_law 532 = .ok (.invokevirtual 72, 3) := by decide +kernel
theorem dL_law_535 : decode cL_law 535 = .ok (.if_icmp .eq 113, 3) := by decide +kernel
theorem dL_law_538 : decode cL_law 538 = .ok (.iconst 0, 1) := by decide +kernel
theorem dL_law_539 : decode cL_law 539 = .ok (.ireturn, 1) := by decide +kernel
theorem dL_law_540 : decode cL_law 540 = .ok (.aload_n 1, 1) := by decide +kernel
theorem dL_law_541 : decode cL_law 541 = .ok (.aload_n 0, 1) := by decide +kernel
theorem dL_law_542 : decode cL_law 542 = .ok (.iload_n 3, 1) := by decide +kernel
theorem dL_law_543 : decode cL_law 543 = .ok (.iconst 1, 1) := by decide +kernel
theorem dL_law_544 : decode cL_law 544 = .ok (.iadd, 1) := by decide +kernel
theorem dL_law_545 : decode cL_law 545 = .ok (.iaload, 1) := by decide +kernel
theorem dL_law_546 : decode cL_law 546 = .ok (.invokevirtual 73, 3) := by decide +kernel
theorem dL_law_549 : decode cL_law 549 = .ok (.aload_n 2, 1) := by decide +kernel
theorem dL_law_550 : decode cL_law 550 = .ok (.aload_n 0, 1) := by decide +kernel
theorem dL_law_551 : decode cL_law 551 = .ok (.iload_n 3, 1) := by decide +kernel
theorem dL_law_552 : decode cL_law 552 = .ok (.iconst 1, 1) := by decide +kernel
theorem dL_law_553 : decode cL_law 553 = .ok (.iadd, 1) := by decide +kernel
theorem dL_law_554 : decode cL_law 554 = .ok (.iaload, 1) := by decide +kernel
theorem dL_law_555 : decode cL_law 555 = .ok (.invokevirtual 76, 3) := by decide +kernel
theorem dL_law_558 : decode cL_law 558 = .ok (.if_icmp .eq 90, 3) := by decide +kernel
theorem dL_law_561 : decode cL_law 561 = .ok (.iconst 0, 1) := by decide +kernel
theorem dL_law_562 : decode cL_law 562 = .ok (.ireturn, 1) := by decide +kernel
theorem dL_law_563 : decode cL_law 563 = .ok (.aload_n 1, 1) := by decide +kernel
theorem dL_law_564 : decode cL_law 564 = .ok (.invokevirtual 77, 3) := by decide +kernel
theorem dL_law_567 : decode cL_law 567 = .ok (.aload_n 2, 1) := by decide +kernel
theorem dL_law_568 : decode cL_law 568 = .ok (.invokevirtual 80, 3) := by decide +kernel
theorem dL_law_571 : decode cL_law 571 = .ok (.if_icmp .eq 77, 3) := by decide +kernel
theorem dL_law_574 : decode cL_law 574 = .ok (.iconst 0, 1) := by decide +kernel
theorem dL_law_575 : decode cL_law 575 = .ok (.ireturn, 1) := by decide +kernel
theorem dL_law_576 : decode cL_law 576 = .ok (.aload_n 1, 1) := by decide +kernel
theorem dL_law_577 : decode cL_law 577 = .ok (.aload_n 0, 1) := by decide +kernel
theorem dL_law_578 : decode cL_law 578 = .ok (.iload_n 3, 1) := by decide +kernel
theorem dL_law_579 : decode cL_law 579 = .ok (.iconst 1, 1) := by decide +kernel
theorem dL_law_580 : decode cL_law 580 = .ok (.iadd, 1) := by decide +kernel
theorem dL_law_581 : decode cL_law 581 = .ok (.iaload, 1) := by decide +kernel
theorem dL_law_582 : decode cL_law 582 = .ok (.invokevirtual 81, 3) := by decide +kernel
theorem dL_law_585 : decode cL_law 585 = .ok (.aload_n 2, 1) := by decide +kernel
theorem dL_law_586 : decode cL_law 586 = .ok (.aload_n 0, 1) := by decide +kernel
theorem dL_law_587 : decode cL_law 587 = .ok (.iload_n 3, 1) := by decide +kernel
theorem dL_law_588 : decode cL_law 588 = .ok (.iconst 1, 1) := by decide +kernel
theorem dL_law_589 : decode cL_law 589 = .ok (.iadd, 1) := by decide +kernel
theorem dL_law_590 : decode cL_law 590 = .ok (.iaload, 1) := by decide +kernel
theorem dL_law_591 : decode cL_law 591 = .ok (.invokevirtual 84, 3) := by decide +kernel
theorem dL_law_594 : decode cL_law 594 = .ok (.if_icmp .eq 54, 3) := by decide +kernel
theorem dL_law_597 : decode cL_law 597 = .ok (.iconst 0, 1) := by decide +kernel
theorem dL_law_598 : decode cL_law 598 = .ok (.ireturn, 1) := by decide +kernel
theorem dL_law_599 : decode cL_law 599 = .ok (.aload_n 1, 1) := by decide +kernel
theorem dL_law_600 : decode cL_law 600 = .ok (.invokevirtual 85, 3) := by decide +kernel
theorem dL_law_603 : decode cL_law 603 = .ok (.aload_n 2, 1) := by decide +kernel
theorem dL_law_604 : decode cL_law 604 = .ok (.invokevirtual 88, 3) := by decide +kernel
theorem dL_law_607 : decode cL_law 607 = .ok (.if_icmp .eq 41, 3) := by decide +kernel
theorem dL_law_610 : decode cL_law 610 = .ok (.iconst 0, 1) := by decide +kernel
theorem dL_law_611 : decode cL_law 611 = .ok (.ireturn, 1) := by decide +kernel
theorem dL_law_612 : decode cL_law 612 = .ok (.aload_n 1, 1) := by decide +kernel
theorem dL_law_613 : decode cL_law 613 = .ok (.aload_n 0, 1) := by decide +kernel
theorem dL_law_614 : decode cL_law 614 = .ok (.iload_n 3, 1) := by decide +kernel
theorem dL_law_615 : decode cL_law 615 = .ok (.iconst 1, 1) := by decide +kernel
theorem dL_law_616 : decode cL_law 616 = .ok (.iadd, 1) := by decide +kernel
theorem dL_law_617 : decode cL_law 617 = .ok (.iaload, 1) := by decide +kernel
theorem dL_law_618 : decode cL_law 618 = .ok (.invokevirtual 89, 3) := by decide +kernel
theorem dL_law_621 : decode cL_law 621 = .ok (.aload_n 2, 1) := by decide +kernel
theorem dL_law_622 : decode cL_law 622 = .ok (.aload_n 0, 1) := by decide +kernel
theorem dL_law_623 : decode cL_law 623 = .ok (.iload_n 3, 1) := by decide +kernel
theorem dL_law_624 : decode cL_law 624 = .ok (.iconst 1, 1) := by decide +kernel
theorem dL_law_625 : decode cL_law 625 = .ok (.iadd, 1) := by decide +kernel
theorem dL_law_626 : decode cL_law 626 = .ok (.iaload, 1) := by decide +kernel
theorem dL_law_627 : decode cL_law 627 = .ok (.invokevirtual 92, 3) := by decide +kernel
theorem dL_law_630 : decode cL_law 630 = .ok (.if_icmp .eq 18, 3) := by decide +kernel
theorem dL_law_633 : decode cL_law 633 = .ok (.iconst 0, 1) := by decide +kernel
theorem dL_law_634 : decode cL_law 634 = .ok (.ireturn, 1) := by decide +kernel
theorem dL_law_635 : decode cL_law 635 = .ok (.aload_n 1, 1) := by decide +kernel
theorem dL_law_636 : decode cL_law 636 = .ok (.invokevirtual 93, 3) := by decide +kernel
theorem dL_law_639 : decode cL_law 639 = .ok (.aload_n 2, 1) := by decide +kernel
theorem dL_law_640 : decode cL_law 640 = .ok (.invokevirtual 96, 3) := by decide +kernel
theorem dL_law_643 : decode cL_law 643 = .ok (.if_icmp .eq 5, 3) := by decide +kernel
theorem dL_law_646 : decode cL_law 646 = .ok (.iconst 0, 1) := by decide +kernel
theorem dL_law_647 : decode cL_law 647 = .ok (.ireturn, 1) := by decide +kernel
theorem dL_law_648 : decode cL_law 648 = .ok (.iinc 3 4, 3) := by decide +kernel
theorem dL_law_651 : decode cL_law 651 = .ok (.goto (-633), 3) := by decide +kernel
theorem dL_law_654 : decode cL_law 654 = .ok (.iconst 1, 1) := by decide +kernel
theorem dL_law_655 : decode cL_law 655 = .ok (.ireturn, 1) := by decide +kernel
