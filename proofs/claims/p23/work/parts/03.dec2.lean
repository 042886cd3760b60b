theorem dX6_placeDetail_38 : decode cX6_placeDetail 38 = .ok (.getfield 43, 3) := by decide +kernel
theorem dX6_placeDetail_41 : decode cX6_placeDetail 41 = .ok (.iload_n 1, 1) := by decide +kernel
theorem dX6_placeDetail_42 : decode cX6_placeDetail 42 = .ok (.invokevirtual 68, 3) := by decide +kernel
theorem dX6_placeDetail_45 : decode cX6_placeDetail 45 = .ok (.ireturn, 1) := by decide +kernel
theorem dX6_placeDetail_46 : decode cX6_placeDetail 46 = .ok (.aload_n 0, 1) := by decide +kernel
theorem dX6_placeDetail_47 : decode cX6_placeDetail 47 = .ok (.getfield 46, 3) := by decide +kernel
theorem dX6_placeDetail_50 : decode cX6_placeDetail 50 = .ok (.iload_n 1, 1) := by decide +kernel
theorem dX6_placeDetail_51 : decode cX6_placeDetail 51 = .ok (.invokevirtual 68, 3) := by decide +kernel
theorem dX6_placeDetail_54 : decode cX6_placeDetail 54 = .ok (.ireturn, 1) := by decide +kernel
theorem dX6_hasMessage_0 : decode cX6_hasMessage 0 = .ok (.iload_n 1, 1) := by decide +kernel
theorem dX6_hasMessage_1 : decode cX6_hasMessage 1 = .ok (.ifCond .lt 18, 3) := by decide +kernel
theorem dX6_hasMessage_4 : decode cX6_hasMessage 4 = .ok (.iload_n 1, 1) := by decide +kernel
theorem dX6_hasMessage_5 : decode cX6_hasMessage 5 = .ok (.aload_n 0, 1) := by decide +kernel
theorem dX6_hasMessage_6 : decode cX6_hasMessage 6 = .ok (.getfield 21, 3) := by decide +kernel
theorem dX6_hasMessage_9 : decode cX6_hasMessage 9 = .ok (.getfield 57, 3) := by decide +kernel
theorem dX6_hasMessage_12 : decode cX6_hasMessage 12 = .ok (.if_icmp .ge 7, 3) := by decide +kernel
theorem dX6_hasMessage_15 : decode cX6_hasMessage 15 = .ok (.iconst 1, 1) := by decide +kernel
theorem dX6_hasMessage_16 : decode cX6_hasMessage 16 = .ok (.goto 4, 3) := by decide +kernel
theorem dX6_hasMessage_19 : decode cX6_hasMessage 19 = .ok (.iconst 0, 1) := by decide +kernel
theorem dX6_hasMessage_20 : decode cX6_hasMessage 20 = .ok (.ireturn, 1) := by decide +kernel
theorem dX6_lengthOf_0 : decode cX6_lengthOf 0 = .ok (.aload_n 0, 1) := by decide +kernel
theorem dX6_lengthOf_1 : decode cX6_lengthOf 1 = .ok (.getfield 21, 3) := by decide +kernel
theorem dX6_lengthOf_4 : decode cX6_lengthOf 4 = .ok (.getfield 128, 3) := by decide +kernel
theorem dX6_lengthOf_7 : decode cX6_lengthOf 7 = .ok (.iload_n 1, 1) := by decide +kernel
theorem dX6_lengthOf_8 : decode cX6_lengthOf 8 = .ok (.invokevirtual 68, 3) := by decide +kernel
theorem dX6_lengthOf_11 : decode cX6_lengthOf 11 = .ok (.ireturn, 1) := by decide +kernel
theorem dX6_indexOf_0 : decode cX6_indexOf 0 = .ok (.aload_n 0, 1) := by decide +kernel
theorem dX6_indexOf_1 : decode cX6_indexOf 1 = .ok (.getfield 21, 3) := by decide +kernel
theorem dX6_indexOf_4 : decode cX6_indexOf 4 = .ok (.getfield 152, 3) := by decide +kernel
theorem dX6_indexOf_7 : decode cX6_indexOf 7 = .ok (.iload_n 1, 1) := by decide +kernel
theorem dX6_indexOf_8 : decode cX6_indexOf 8 = .ok (.invokevirtual 68, 3) := by decide +kernel
theorem dX6_indexOf_11 : decode cX6_indexOf 11 = .ok (.iload_n 2, 1) := by decide +kernel
theorem dX6_indexOf_12 : decode cX6_indexOf 12 = .ok (.iadd, 1) := by decide +kernel
theorem dX6_indexOf_13 : decode cX6_indexOf 13 = .ok (.ireturn, 1) := by decide +kernel
theorem dX6_letterIn_0 : decode cX6_letterIn 0 = .ok (.aload_n 0, 1) := by decide +kernel
theorem dX6_letterIn_1 : decode cX6_letterIn 1 = .ok (.getfield 12, 3) := by decide +kernel
theorem dX6_letterIn_4 : decode cX6_letterIn 4 = .ok (.getfield 155, 3) := by decide +kernel
theorem dX6_letterIn_7 : decode cX6_letterIn 7 = .ok (.aload_n 0, 1) := by decide +kernel
theorem dX6_letterIn_8 : decode cX6_letterIn 8 = .ok (.iload_n 1, 1) := by decide +kernel
theorem dX6_letterIn_9 : decode cX6_letterIn 9 = .ok (.iload_n 2, 1) := by decide +kernel
theorem dX6_letterIn_10 : decode cX6_letterIn 10 = .ok (.invokevirtual 158, 3) := by decide +kernel
theorem dX6_letterIn_13 : decode cX6_letterIn 13 = .ok (.invokevirtual 68, 3) := by decide +kernel
theorem dX6_letterIn_16 : decode cX6_letterIn 16 = .ok (.ireturn, 1) := by decide +kernel
theorem dX6_isRight_0 : decode cX6_isRight 0 = .ok (.aload_n 0, 1) := by decide +kernel
theorem dX6_isRight_1 : decode cX6_isRight 1 = .ok (.iload_n 1, 1) := by decide +kernel
theorem dX6_isRight_2 : decode cX6_isRight 2 = .ok (.iconst 0, 1) := by decide +kernel
theorem dX6_isRight_3 : decode cX6_isRight 3 = .ok (.invokevirtual 140, 3) := by decide +kernel
theorem dX6_isRight_6 : decode cX6_isRight 6 = .ok (.istore_n 2, 1) := by decide +kernel
theorem dX6_isRight_7 : decode cX6_isRight 7 = .ok (.iload_n 2, 1) := by decide +kernel
theorem dX6_isRight_8 : decode cX6_isRight 8 = .ok (.iconst (-1), 1) := by decide +kernel
theorem dX6_isRight_9 : decode cX6_isRight 9 = .ok (.if_icmp .eq 17, 3) := by decide +kernel
theorem dX6_isRight_12 : decode cX6_isRight 12 = .ok (.aload_n 0, 1) := by decide +kernel
theorem dX6_isRight_13 : decode cX6_isRight 13 = .ok (.iload_n 1, 1) := by decide +kernel
theorem dX6_isRight_14 : decode cX6_isRight 14 = .ok (.iconst 0, 1) := by decide +kernel
theorem dX6_isRight_15 : decode cX6_isRight 15 = .ok (.iload_n 2, 1) := by decide +kernel
theorem dX6_isRight_16 : decode cX6_isRight 16 = .ok (.invokevirtual 161, 3) := by decide +kernel
theorem dX6_isRight_19 : decode cX6_isRight 19 = .ok (.ifCond .eq 7, 3) := by decide +kernel
theorem dX6_isRight_22 : decode cX6_isRight 22 = .ok (.iconst 1, 1) := by decide +kernel
theorem dX6_isRight_23 : decode cX6_isRight 23 = .ok (.goto 4, 3) := by decide +kernel
theorem dX6_isRight_26 : decode cX6_isRight 26 = .ok (.iconst 0, 1) := by decide +kernel
theorem dX6_isRight_27 : decode cX6_isRight 27 = .ok (.ireturn, 1) := by decide +kernel
theorem dX6_isRightWith_0 : decode cX6_isRightWith 0 = .ok (.aload_n 0, 1) := by decide +kernel
theorem dX6_isRightWith_1 : decode cX6_isRightWith 1 = .ok (.iload_n 1, 1) := by decide +kernel
theorem dX6_isRightWith_2 : decode cX6_isRightWith 2 = .ok (.iload_n 2, 1) := by decide +kernel
theorem dX6_isRightWith_3 : decode cX6_isRightWith 3 = .ok (.invokevirtual 140, 3) := by decide +kernel
theorem dX6_isRightWith_6 : decode cX6_isRightWith 6 = .ok (.istore 4, 2) := by decide +kernel
theorem dX6_isRightWith_8 : decode cX6_isRightWith 8 = .ok (.aload_n 0, 1) := by decide +kernel
theorem dX6_isRightWith_9 : decode cX6_isRightWith 9 = .ok (.getfield 21, 3) := by decide +kernel
theorem dX6_isRightWith_12 : decode cX6_isRightWith 12 = .ok (.getfield 143, 3) := by decide +kernel
theorem dX6_isRightWith_15 : decode cX6_isRightWith 15 = .ok (.iload_n 1, 1) := by decide +kernel
theorem dX6_isRightWith_16 : decode cX6_isRightWith 16 = .ok (.invokevirtual 68, 3) := by decide +kernel
theorem dX6_isRightWith_19 : decode cX6_isRightWith 19 = .ok (.iload 4, 2) := by decide +kernel
theorem dX6_isRightWith_21 : decode cX6_isRightWith 21 = .ok (.iconst (-1), 1) := by decide +kernel
theorem dX6_isRightWith_22 : decode cX6_isRightWith 22 = .ok (.if_icmp .ne 7, 3) := by decide +kernel
theorem dX6_isRightWith_25 : decode cX6_isRightWith 25 = .ok (.iconst 1, 1) := by decide +kernel
theorem dX6_isRightWith_26 : decode cX6_isRightWith 26 = .ok (.goto 4, 3) := by decide +kernel
theorem dX6_isRightWith_29 : decode cX6_isRightWith 29 = .ok (.iconst 0, 1) := by decide +kernel
theorem dX6_isRightWith_30 : decode cX6_isRightWith 30 = .ok (.isub, 1) := by decide +kernel
theorem dX6_isRightWith_31 : decode cX6_isRightWith 31 = .ok (.istore 5, 2) := by decide +kernel
theorem dX6_isRightWith_33 : decode cX6_isRightWith 33 = .ok (.aload_n 0, 1) := by decide +kernel
theorem dX6_isRightWith_34 : decode cX6_isRightWith 34 = .ok (.iload_n 1, 1) := by decide +kernel
theorem dX6_isRightWith_35 : decode cX6_isRightWith 35 = .ok (.invokevirtual 131, 3) := by decide +kernel
theorem dX6_isRightWith_38 : decode cX6_isRightWith 38 = .ok (.iconst 1, 1) := by decide +kernel
theorem dX6_isRightWith_39 : decode cX6_isRightWith 39 = .ok (.isub, 1) := by decide +kernel
theorem dX6_isRightWith_40 : decode cX6_isRightWith 40 = .ok (.istore 6, 2) := by decide +kernel
theorem dX6_isRightWith_42 : decode cX6_isRightWith 42 = .ok (.iload 5, 2) := by decide +kernel
theorem dX6_isRightWith_44 : decode cX6_isRightWith 44 = .ok (.ifCond .gt 9, 3) := by decide +kernel
theorem dX6_isRightWith_47 : decode cX6_isRightWith 47 = .ok (.iload 6, 2) := by decide +kernel
theorem dX6_isRightWith_49 : decode cX6_isRightWith 49 = .ok (.iconst 1, 1) := by decide +kernel
theorem dX6_isRightWith_50 : decode cX6_isRightWith 50 = .ok (.if_icmp .ge 5, 3) := by decide +kernel
theorem dX6_isRightWith_53 : decode cX6_isRightWith 53 = .ok (.iconst 0, 1) := by decide +kernel
theorem dX6_isRightWith_54 : decode cX6_isRightWith 54 = .ok (.ireturn, 1) := by decide +kernel
theorem dX6_isRightWith_55 : decode cX6_isRightWith 55 = .ok (.iload_n 2, 1) := by decide +kernel
theorem dX6_isRightWith_56 : decode cX6_isRightWith 56 = .ok (.iload 6, 2) := by decide +kernel
theorem dX6_isRightWith_58 : decode cX6_isRightWith 58 = .ok (.if_icmp .ne 7, 3) := by decide +kernel
theorem dX6_isRightWith_61 : decode cX6_isRightWith 61 = .ok (.iload_n 3, 1) := by decide +kernel
theorem dX6_isRightWith_62 : decode cX6_isRightWith 62 = .ok (.goto 10, 3) := by decide +kernel
theorem dX6_isRightWith_65 : decode cX6_isRightWith 65 = .ok (.aload_n 0, 1) := by decide +kernel
theorem dX6_isRightWith_66 : decode cX6_isRightWith 66 = .ok (.iload_n 1, 1) := by decide +kernel
theorem dX6_isRightWith_67 : decode cX6_isRightWith 67 = .ok (.iload 6, 2) := by decide +kernel
theorem dX6_isRightWith_69 : decode cX6_isRightWith 69 = .ok (.invokevirtual 140, 3) := by decide +kernel
theorem dX6_isRightWith_72 : decode cX6_isRightWith 72 = .ok (.istore 7, 2) := by decide +kernel
theorem dX6_isRightWith_74 : decode cX6_isRightWith 74 = .ok (.aload_n 0, 1) := by decide +kernel
theorem dX6_isRightWith_75 : decode cX6_isRightWith 75 = .ok (.getfield 21, 3) := by decide +kernel
theorem dX6_isRightWith_78 : decode cX6_isRightWith 78 = .ok (.getfield 149, 3) := by decide +kernel
theorem dX6_isRightWith_81 : decode cX6_isRightWith 81 = .ok (.iload_n 1, 1) := by decide +kernel
theorem dX6_isRightWith_82 : decode cX6_isRightWith 82 = .ok (.invokevirtual 68, 3) := by decide +kernel
theorem dX6_isRightWith_85 : decode cX6_isRightWith 85 = .ok (.iload 4, 2) := by decide +kernel
theorem dX6_isRightWith_87 : decode cX6_isRightWith 87 = .ok (.iconst (-1), 1) := by decide +kernel
theorem dX6_isRightWith_88 : decode cX6_isRightWith 88 = .ok (.if_icmp .ne 7, 3) := by decide +kernel
theorem dX6_isRightWith_91 : decode cX6_isRightWith 91 = .ok (.iconst 0, 1) := by decide +kernel
theorem dX6_isRightWith_92 : decode cX6_isRightWith 92 = .ok (.goto 5, 3) := by decide +kernel
theorem dX6_isRightWith_95 : decode cX6_isRightWith 95 = .ok (.iload 4, 2) := by decide +kernel
theorem dX6_isRightWith_97 : decode cX6_isRightWith 97 = .ok (.isub, 1) := by decide +kernel
theorem dX6_isRightWith_98 : decode cX6_isRightWith 98 = .ok (.iload_n 3, 1) := by decide +kernel
theorem dX6_isRightWith_99 : decode cX6_isRightWith 99 = .ok (.iadd, 1) := by decide +kernel
theorem dX6_isRightWith_100 : decode cX6_isRightWith 100 = .ok (.istore 8, 2) := by decide +kernel
theorem dX6_isRightWith_102 : decode cX6_isRightWith 102 = .ok (.iload 8, 2) := by decide +kernel
theorem dX6_isRightWith_104 : decode cX6_isRightWith 104 = .ok (.iload 7, 2) := by decide +kernel
theorem dX6_isRightWith_106 : decode cX6_isRightWith 106 = .ok (.isub, 1) := by decide +kernel
theorem dX6_isRightWith_107 : decode cX6_isRightWith 107 = .ok (.bipush 25, 2) := by decide +kernel
theorem dX6_isRightWith_109 : decode cX6_isRightWith 109 = .ok (.irem, 1) := by decide +kernel
theorem dX6_isRightWith_110 : decode cX6_isRightWith 110 = .ok (.iload 7, 2) := by decide +kernel
theorem dX6_isRightWith_112 : decode cX6_isRightWith 112 = .ok (.if_icmp .ne 7, 3) := by decide +kernel
theorem dX6_isRightWith_115 : decode cX6_isRightWith 115 = .ok (.iconst 1, 1) := by decide +kernel
theorem dX6_isRightWith_116 : decode cX6_isRightWith 116 = .ok (.goto 4, 3) := by decide +kernel
theorem dX6_isRightWith_119 : decode cX6_isRightWith 119 = .ok (.iconst 0, 1) := by decide +kernel
theorem dX6_isRightWith_120 : decode cX6_isRightWith 120 = .ok (.ireturn, 1) := by decide +kernel
theorem dX6_rightOnes_0 : decode cX6_rightOnes 0 = .ok (.iconst 0, 1) := by decide +kernel
theorem dX6_rightOnes_1 : decode cX6_rightOnes 1 = .ok (.istore_n 1, 1) := by decide +kernel
theorem dX6_rightOnes_2 : decode cX6_rightOnes 2 = .ok (.iconst 0, 1) := by decide +kernel
theorem dX6_rightOnes_3 : decode cX6_rightOnes 3 = .ok (.istore_n 2, 1) := by decide +kernel
theorem dX6_rightOnes_4 : decode cX6_rightOnes 4 = .ok (.iload_n 2, 1) := by decide +kernel
theorem dX6_rightOnes_5 : decode cX6_rightOnes 5 = .ok (.aload_n 0, 1) := by decide +kernel
theorem dX6_rightOnes_6 : decode cX6_rightOnes 6 = .ok (.getfield 21, 3) := by decide +kernel
theorem dX6_rightOnes_9 : decode cX6_rightOnes 9 = .ok (.getfield 57, 3) := by decide +kernel
theorem dX6_rightOnes_12 : decode cX6_rightOnes 12 = .ok (.if_icmp .ge 20, 3) := by decide +kernel
theorem dX6_rightOnes_15 : decode cX6_rightOnes 15 = .ok (.aload_n 0, 1) := by decide +kernel
theorem dX6_rightOnes_16 : decode cX6_rightOnes 16 = .ok (.iload_n 2, 1) := by decide +kernel
theorem dX6_rightOnes_17 : decode cX6_rightOnes 17 = .ok (.invokevirtual 165, 3) := by decide +kernel
theorem dX6_rightOnes_20 : decode cX6_rightOnes 20 = .ok (.ifCond .eq 6, 3) := by decide +kernel
theorem dX6_rightOnes_23 : decode cX6_rightOnes 23 = .ok (.iinc 1 1, 3) := by decide +kernel
theorem dX6_rightOnes_26 : decode cX6_rightOnes 26 = .ok (.iinc 2 1, 3) := by decide +kernel
theorem dX6_rightOnes_29 : decode cX6_rightOnes 29 = .ok (.goto (-25), 3) := by decide +kernel
theorem dX6_rightOnes_32 : decode cX6_rightOnes 32 = .ok (.iload_n 1, 1) := by decide +kernel
theorem dX6_rightOnes_33 : decode cX6_rightOnes 33 = .ok (.ireturn, 1) := by decide +kernel
theorem dX7_init_0 : decode cX7_init 0 = .ok (.aload_n 0, 1) := by decide +kernel
theorem dX7_init_1 : decode cX7_init 1 = .ok (.invokespecial 1, 3) := by decide +kernel
theorem dX7_init_4 : decode cX7_init 4 = .ok (.aload_n 0, 1) := by decide +kernel
theorem dX7_init_5 : decode cX7_init 5 = .ok (.iload_n 1, 1) := by decide +kernel
theorem dX7_init_6 : decode cX7_init 6 = .ok (.ifCond .le 7, 3) := by decide +kernel
theorem dX7_init_9 : decode cX7_init 9 = .ok (.iload_n 1, 1) := by decide +kernel
theorem dX7_init_10 : decode cX7_init 10 = .ok (.goto 4, 3) := by decide +kernel
theorem dX7_init_13 : decode cX7_init 13 = .ok (.iconst 0, 1) := by decide +kernel
theorem dX7_init_14 : decode cX7_init 14 = .ok (.newarray .int, 2) := by decide +kernel
theorem dX7_init_16 : decode cX7_init 16 = .ok (.putfield 7, 3) := by decide +kernel
theorem dX7_init_19 : decode cX7_init 19 = .ok (.return_, 1) := by decide +kernel
theorem dX7_at_0 : decode cX7_at 0 = .ok (.iload_n 1, 1) := by decide +kernel
theorem dX7_at_1 : decode cX7_at 1 = .ok (.ifCond .lt 21, 3) := by decide +kernel
theorem dX7_at_4 : decode cX7_at 4 = .ok (.iload_n 1, 1) := by decide +kernel
theorem dX7_at_5 : decode cX7_at 5 = .ok (.aload_n 0, 1) := by decide +kernel
theorem dX7_at_6 : decode cX7_at 6 = .ok (.getfield 7, 3) := by decide +kernel
theorem dX7_at_9 : decode cX7_at 9 = .ok (.arraylength, 1) := by decide +kernel
theorem dX7_at_10 : decode cX7_at 10 = .ok (.if_icmp .ge 12, 3) := by decide +kernel
theorem dX7_at_13 : decode cX7_at 13 = .ok (.aload_n 0, 1) := by decide +kernel
theorem dX7_at_14 : decode cX7_at 14 = .ok (.getfield 7, 3) := by decide +kernel
theorem dX7_at_17 : decode cX7_at 17 = .ok (.iload_n 1, 1) := by decide +kernel
theorem dX7_at_18 : decode cX7_at 18 = .ok (.iaload, 1) := by decide +kernel
theorem dX7_at_19 : decode cX7_at 19 = .ok (.goto 4, 3) := by decide +kernel
theorem dX7_at_22 : decode cX7_at 22 = .ok (.iconst 0, 1) := by decide +kernel
theorem dX7_at_23 : decode cX7_at 23 = .ok (.ireturn, 1) := by decide +kernel
theorem dX7_put_0 : decode cX7_put 0 = .ok (.iload_n 1, 1) := by decide +kernel
theorem dX7_put_1 : decode cX7_put 1 = .ok (.ifCond .lt 19, 3) := by decide +kernel
theorem dX7_put_4 : decode cX7_put 4 = .ok (.iload_n 1, 1) := by decide +kernel
theorem dX7_put_5 : decode cX7_put 5 = .ok (.aload_n 0, 1) := by decide +kernel
theorem dX7_put_6 : decode cX7_put 6 = .ok (.getfield 7, 3) := by decide +kernel
theorem dX7_put_9 : decode cX7_put 9 = .ok (.arraylength, 1) := by decide +kernel
theorem dX7_put_10 : decode cX7_put 10 = .ok (.if_icmp .ge 10, 3) := by decide +kernel
theorem dX7_put_13 : decode cX7_put 13 = .ok (.aload_n 0, 1) := by decide +kernel
theorem dX7_put_14 : decode cX7_put 14 = .ok (.getfield 7, 3) := by decide +kernel
theorem dX7_put_17 : decode cX7_put 17 = .ok (.iload_n 1, 1) := by decide +kernel
theorem dX7_put_18 : decode cX7_put 18 = .ok (.iload_n 2, 1) := by decide +kernel
theorem dX7_put_19 : decode cX7_put 19 = .ok (.iastore, 1) := by decide +kernel
theorem dX7_put_20 : decode cX7_put 20 = .ok (.return_, 1) := by decide +kernel
theorem dX7_add_0 : decode cX7_add 0 = .ok (.aload_n 0, 1) := by decide +kernel
theorem dX7_add_1 : decode cX7_add 1 = .ok (.iload_n 1, 1) := by decide +kernel
theorem dX7_add_2 : decode cX7_add 2 = .ok (.aload_n 0, 1) := by decide +kernel
theorem dX7_add_3 : decode cX7_add 3 = .ok (.iload_n 1, 1) := by decide +kernel
theorem dX7_add_4 : decode cX7_add 4 = .ok (.invokevirtual 13, 3) := by decide +kernel
theorem dX7_add_7 : decode cX7_add 7 = .ok (.iload_n 2, 1) := by decide +kernel
theorem dX7_add_8 : decode cX7_add 8 = .ok (.iadd, 1) := by decide +kernel
theorem dX7_add_9 : decode cX7_add 9 = .ok (.invokevirtual 17, 3) := by decide +kernel
theorem dX7_add_12 : decode cX7_add 12 = .ok (.return_, 1) := by decide +kernel
theorem dX7_copy_0 : decode cX7_copy 0 = .ok (.iconst 0, 1) := by decide +kernel
theorem dX7_copy_1 : decode cX7_copy 1 = .ok (.istore_n 3, 1) := by decide +kernel
theorem dX7_copy_2 : decode cX7_copy 2 = .ok (.iload_n 3, 1) := by decide +kernel
theorem dX7_copy_3 : decode cX7_copy 3 = .ok (.iload_n 2, 1) := by decide +kernel
theorem dX7_copy_4 : decode cX7_copy 4 = .ok (.if_icmp .ge 19, 3) := by decide +kernel
theorem dX7_copy_7 : decode cX7_copy 7 = .ok (.aload_n 0, 1) := by decide +kernel
theorem dX7_copy_8 : decode cX7_copy 8 = .ok (.iload_n 3, 1) := by decide +kernel
theorem dX7_copy_9 : decode cX7_copy 9 = .ok (.aload_n 1, 1) := by decide +kernel
theorem dX7_copy_10 : decode cX7_copy 10 = .ok (.iload_n 3, 1) := by decide +kernel
theorem dX7_copy_11 : decode cX7_copy 11 = .ok (.invokevirtual 13, 3) := by decide +kernel
theorem dX7_copy_14 : decode cX7_copy 14 = .ok (.invokevirtual 17, 3) := by decide +kernel
theorem dX7_copy_17 : decode cX7_copy 17 = .ok (.iinc 3 1, 3) := by decide +kernel
theorem dX7_copy_20 : decode cX7_copy 20 = .ok (.goto (-18), 3) := by decide +kernel
theorem dX7_copy_23 : decode cX7_copy 23 = .ok (.return_, 1) := by decide +kernel
theorem dX8_init_0 : decode cX8_init 0 = .ok (.aload_n 0, 1) := by decide +kernel
theorem dX8_init_1 : decode cX8_init 1 = .ok (.invokespecial 3, 3) := by decide +kernel
theorem dX8_init_4 : decode cX8_init 4 = .ok (.aload_n 0, 1) := by decide +kernel
theorem dX8_init_5 : decode cX8_init 5 = .ok (.new 9, 3) := by decide +kernel
theorem dX8_init_8 : decode cX8_init 8 = .ok (.dup, 1) := by decide +kernel
theorem dX8_init_9 : decode cX8_init 9 = .ok (.sipush 160, 3) := by decide +kernel
theorem dX8_init_12 : decode cX8_init 12 = .ok (.invokespecial 11, 3) := by decide +kernel
theorem dX8_init_15 : decode cX8_init 15 = .ok (.putfield 14, 3) := by decide +kernel
theorem dX8_init_18 : decode cX8_init 18 = .ok (.aload_n 0, 1) := by decide +kernel
theorem dX8_init_19 : decode cX8_init 19 = .ok (.new 9, 3) := by decide +kernel
theorem dX8_init_22 : decode cX8_init 22 = .ok (.dup, 1) := by decide +kernel
theorem dX8_init_23 : decode cX8_init 23 = .ok (.bipush 25, 2) := by decide +kernel
theorem dX8_init_25 : decode cX8_init 25 = .ok (.invokespecial 11, 3) := by decide +kernel
theorem dX8_init_28 : decode cX8_init 28 = .ok (.putfield 20, 3) := by decide +kernel
theorem dX8_init_31 : decode cX8_init 31 = .ok (.aload_n 0, 1) := by decide +kernel
theorem dX8_init_32 : decode cX8_init 32 = .ok (.iconst 0, 1) := by decide +kernel
theorem dX8_init_33 : decode cX8_init 33 = .ok (.putfield 23, 3) := by decide +kernel
theorem dX8_init_36 : decode cX8_init 36 = .ok (.aload_n 0, 1) := by decide +kernel
theorem dX8_init_37 : decode cX8_init 37 = .ok (.bipush 8, 2) := by decide +kernel
theorem dX8_init_39 : decode cX8_init 39 = .ok (.putfield 27, 3) := by decide +kernel
theorem dX8_init_42 : decode cX8_init 42 = .ok (.aload_n 0, 1) := by decide +kernel
theorem dX8_init_43 : decode cX8_init 43 = .ok (.iconst 1, 1) := by decide +kernel
theorem dX8_init_44 : decode cX8_init 44 = .ok (.putfield 30, 3) := by decide +kernel
theorem dX8_init_47 : decode cX8_init 47 = .ok (.aload_n 0, 1) := by decide +kernel
theorem dX8_init_48 : decode cX8_init 48 = .ok (.iconst 0, 1) := by decide +kernel
theorem dX8_init_49 : decode cX8_init 49 = .ok (.putfield 33, 3) := by decide +kernel
theorem dX8_init_52 : decode cX8_init 52 = .ok (.iconst 0, 1) := by decide +kernel
theorem dX8_init_53 : decode cX8_init 53 = .ok (.istore_n 1, 1) := by decide +kernel
theorem dX8_init_54 : decode cX8_init 54 = .ok (.iload_n 1, 1) := by decide +kernel
theorem dX8_init_55 : decode cX8_init 55 = .ok (.bipush 25, 2) := by decide +kernel
theorem dX8_init_57 : decode cX8_init 57 = .ok (.if_icmp .ge 18, 3) := by decide +kernel
theorem dX8_init_60 : decode cX8_init 60 = .ok (.aload_n 0, 1) := by decide +kernel
theorem dX8_init_61 : decode cX8_init 61 = .ok (.getfield 20, 3) := by decide +kernel
theorem dX8_init_64 : decode cX8_init 64 = .ok (.iload_n 1, 1) := by decide +kernel
theorem dX8_init_65 : decode cX8_init 65 = .ok (.iload_n 1, 1) := by decide +kernel
theorem dX8_init_66 : decode cX8_init 66 = .ok (.invokevirtual 37, 3) := by decide +kernel
theorem dX8_init_69 : decode cX8_init 69 = .ok (.iinc 1 1, 3) := by decide +kernel
theorem dX8_init_72 : decode cX8_init 72 = .ok (.goto (-18), 3) := by decide +kernel
theorem dX8_init_75 : decode cX8_init 75 = .ok (.return_, 1) := by decide +kernel
theorem dX8_become_0 : decode cX8_become 0 = .ok (.aload_n 0, 1) := by decide +kernel
theorem dX8_become_1 : decode cX8_become 1 = .ok (.getfield 14, 3) := by decide +kernel
theorem dX8_become_4 : decode cX8_become 4 = .ok (.aload_n 1, 1) := by decide +kernel
theorem dX8_become_5 : decode cX8_become 5 = .ok (.getfield 14, 3) := by decide +kernel
theorem dX8_become_8 : decode cX8_become 8 = .ok (.aload_n 1, 1) := by decide +kernel
theorem dX8_become_9 : decode cX8_become 9 = .ok (.getfield 23, 3) := by decide +kernel
theorem dX8_become_12 : decode cX8_become 12 = .ok (.invokevirtual 41, 3) := by decide +kernel
theorem dX8_become_15 : decode cX8_become 15 = .ok (.aload_n 0, 1) := by decide +kernel
theorem dX8_become_16 : decode cX8_become 16 = .ok (.getfield 20, 3) := by decide +kernel
theorem dX8_become_19 : decode cX8_become 19 = .ok (.aload_n 1, 1) := by decide +kernel
theorem dX8_become_20 : decode cX8_become 20 = .ok (.getfield 20, 3) := by decide +kernel
theorem dX8_become_23 : decode cX8_become 23 = .ok (.bipush 25, 2) := by decide +kernel
theorem dX8_become_25 : decode cX8_become 25 = .ok (.invokevirtual 41, 3) := by decide +kernel
theorem dX8_become_28 : decode cX8_become 28 = .ok (.aload_n 0, 1) := by decide +kernel
theorem dX8_become_29 : decode cX8_become 29 = .ok (.aload_n 1, 1) := by decide +kernel
theorem dX8_become_30 : decode cX8_become 30 = .ok (.getfield 23, 3) := by decide +kernel
theorem dX8_become_33 : decode cX8_become 33 = .ok (.putfield 23, 3) := by decide +kernel
theorem dX8_become_36 : decode cX8_become 36 = .ok (.aload_n 0, 1) := by decide +kernel
theorem dX8_become_37 : decode cX8_become 37 = .ok (.aload_n 1, 1) := by decide +kernel
theorem dX8_become_38 : decode cX8_become 38 = .ok (.getfield 27, 3) := by decide +kernel
theorem dX8_become_41 : decode cX8_become 41 = .ok (.putfield 27, 3) := by decide +kernel
theorem dX8_become_44 : decode cX8_become 44 = .ok (.aload_n 0, 1) := by decide +kernel
theorem dX8_become_45 : decode cX8_become 45 = .ok (.aload_n 1, 1) := by decide +kernel
theorem dX8_become_46 : decode cX8_become 46 = .ok (.getfield 30, 3) := by decide +kernel
theorem dX8_become_49 : decode cX8_become 49 = .ok (.putfield 30, 3) := by decide +kernel
theorem dX8_become_52 : decode cX8_become 52 = .ok (.aload_n 0, 1) := by decide +kernel
theorem dX8_become_53 : decode cX8_become 53 = .ok (.aload_n 1, 1) := by decide +kernel
theorem dX8_become_54 : decode cX8_become 54 = .ok (.getfield 33, 3) := by decide +kernel
theorem dX8_become_57 : decode cX8_become 57 = .ok (.putfield 33, 3) := by decide +kernel
theorem dX8_become_60 : decode cX8_become 60 = .ok (.return_, 1) := by decide +kernel
theorem dX8_exchange_0 : decode cX8_exchange 0 = .ok (.aload_n 0, 1) := by decide +kernel
theorem dX8_exchange_1 : decode cX8_exchange 1 = .ok (.getfield 20, 3) := by decide +kernel
theorem dX8_exchange_4 : decode cX8_exchange 4 = .ok (.iload_n 1, 1) := by decide +kernel
theorem dX8_exchange_5 : decode cX8_exchange 5 = .ok (.invokevirtual 45, 3) := by decide +kernel
theorem dX8_exchange_8 : decode cX8_exchange 8 = .ok (.istore_n 3, 1) := by decide +kernel
theorem dX8_exchange_9 : decode cX8_exchange 9 = .ok (.aload_n 0, 1) := by decide +kernel
theorem dX8_exchange_10 : decode cX8_exchange 10 = .ok (.getfield 20, 3) := by decide +kernel
theorem dX8_exchange_13 : decode cX8_exchange 13 = .ok (.iload_n 1, 1) := by decide +kernel
theorem dX8_exchange_14 : decode cX8_exchange 14 = .ok (.aload_n 0, 1) := by decide +kernel
theorem dX8_exchange_15 : decode cX8_exchange 15 = .ok (.getfield 20, 3) := by decide +kernel
theorem dX8_exchange_18 : decode cX8_exchange 18 = .ok (.iload_n 2, 1) := by decide +kernel
theorem dX8_exchange_19 : decode cX8_exchange 19 = .ok (.invokevirtual 45, 3) := by decide +kernel
theorem dX8_exchange_22 : decode cX8_exchange 22 = .ok (.invokevirtual 37, 3) := by decide +kernel
theorem dX8_exchange_25 : decode cX8_exchange 25 = .ok (.aload_n 0, 1) := by decide +kernel
theorem dX8_exchange_26 : decode cX8_exchange 26 = .ok (.getfield 20, 3) := by decide +kernel
theorem dX8_exchange_29 : decode cX8_exchange 29 = .ok (.iload_n 2, 1) := by decide +kernel
theorem dX8_exchange_30 : decode cX8_exchange 30 = .ok (.iload_n 3, 1) := by decide +kernel
theorem dX8_exchange_31 : decode cX8_exchange 31 = .ok (.invokevirtual 37, 3) := by decide +kernel
theorem dX8_exchange_34 : decode cX8_exchange 34 = .ok (.return_, 1) := by decide +kernel
theorem dX8_rowOf_0 : decode cX8_rowOf 0 = .ok (.aload_n 0, 1) := by decide +kernel
theorem dX8_rowOf_1 : decode cX8_rowOf 1 = .ok (.getfield 20, 3) := by decide +kernel
theorem dX8_rowOf_4 : decode cX8_rowOf 4 = .ok (.iload_n 1, 1) := by decide +kernel
theorem dX8_rowOf_5 : decode cX8_rowOf 5 = .ok (.invokevirtual 45, 3) := by decide +kernel
theorem dX8_rowOf_8 : decode cX8_rowOf 8 = .ok (.iconst 5, 1) := by decide +kernel
theorem dX8_rowOf_9 : decode cX8_rowOf 9 = .ok (.idiv, 1) := by decide +kernel
theorem dX8_rowOf_10 : decode cX8_rowOf 10 = .ok (.iconst 1, 1) := by decide +kernel
theorem dX8_rowOf_11 : decode cX8_rowOf 11 = .ok (.iadd, 1) := by decide +kernel
theorem dX8_rowOf_12 : decode cX8_rowOf 12 = .ok (.ireturn, 1) := by decide +kernel
theorem dX8_columnOf_0 : decode cX8_columnOf 0 = .ok (.aload_n 0, 1) := by decide +kernel
theorem dX8_columnOf_1 : decode cX8_columnOf 1 = .ok (.getfield 20, 3) := by decide +kernel
theorem dX8_columnOf_4 : decode cX8_columnOf 4 = .ok (.iload_n 1, 1) := by decide +kernel
theorem dX8_columnOf_5 : decode cX8_columnOf 5 = .ok (.invokevirtual 45, 3) := by decide +kernel
theorem dX8_columnOf_8 : decode cX8_columnOf 8 = .ok (.iconst 5, 1) := by decide +kernel
theorem dX8_columnOf_9 : decode cX8_columnOf 9 = .ok (.irem, 1) := by decide +kernel
theorem dX8_columnOf_10 : decode cX8_columnOf 10 = .ok (.iconst 1, 1) := by decide +kernel
theorem dX8_columnOf_11 : decode cX8_columnOf 11 = .ok (.iadd, 1) := by decide +kernel
theorem dX8_columnOf_12 : decode cX8_columnOf 12 = .ok (.ireturn, 1) := by decide +kernel
theorem dX8_tablePlace_0 : decode cX8_tablePlace 0 = .ok (.bipush 10, 2) := by decide +kernel
theorem dX8_tablePlace_2 : decode cX8_tablePlace 2 = .ok (.aload_n 0, 1) := by decide +kernel
theorem dX8_tablePlace_3 : decode cX8_tablePlace 3 = .ok (.iload_n 1, 1) := by decide +kernel
theorem dX8_tablePlace_4 : decode cX8_tablePlace 4 = .ok (.invokevirtual 49, 3) := by decide +kernel
theorem dX8_tablePlace_7 : decode cX8_tablePlace 7 = .ok (.imul, 1) := by decide +kernel
theorem dX8_tablePlace_8 : decode cX8_tablePlace 8 = .ok (.aload_n 0, 1) := by decide +kernel
theorem dX8_tablePlace_9 : decode cX8_tablePlace 9 = .ok (.iload_n 1, 1) := by decide +kernel
theorem dX8_tablePlace_10 : decode cX8_tablePlace 10 = .ok (.invokevirtual 52, 3) := by decide +kernel
theorem dX8_tablePlace_13 : decode cX8_tablePlace 13 = .ok (.iadd, 1) := by decide +kernel
theorem dX8_tablePlace_14 : decode cX8_tablePlace 14 = .ok (.ireturn, 1) := by decide +kernel
theorem dX8_hasStroke_0 : decode cX8_hasStroke 0 = .ok (.iload_n 1, 1) := by decide +kernel
theorem dX8_hasStroke_1 : decode cX8_hasStroke 1 = .ok (.ifCond .lt 15, 3) := by decide +kernel
theorem dX8_hasStroke_4 : decode cX8_hasStroke 4 = .ok (.iload_n 1, 1) := by decide +kernel
theorem dX8_hasStroke_5 : decode cX8_hasStroke 5 = .ok (.aload_n 0, 1) := by decide +kernel
theorem dX8_hasStroke_6 : decode cX8_hasStroke 6 = .ok (.getfield 23, 3) := by decide +kernel
theorem dX8_hasStroke_9 : decode cX8_hasStroke 9 = .ok (.if_icmp .ge 7, 3) := by decide +kernel
theorem dX8_hasStroke_12 : decode cX8_hasStroke 12 = .ok (.iconst 1, 1) := by decide +kernel
theorem dX8_hasStroke_13 : decode cX8_hasStroke 13 = .ok (.goto 4, 3) := by decide +kernel
theorem dX8_hasStroke_16 : decode cX8_hasStroke 16 = .ok (.iconst 0, 1) := by decide +kernel
theorem dX8_hasStroke_17 : decode cX8_hasStroke 17 = .ok (.ireturn, 1) := by decide +kernel
theorem dX8_isFull_0 : decode cX8_isFull 0 = .ok (.aload_n 0, 1) := by decide +kernel
theorem dX8_isFull_1 : decode cX8_isFull 1 = .ok (.getfield 23, 3) := by decide +kernel
theorem dX8_isFull_4 : decode cX8_isFull 4 = .ok (.sipush 160, 3) := by decide +kernel
theorem dX8_isFull_7 : decode cX8_isFull 7 = .ok (.if_icmp .lt 7, 3) := by decide +kernel
theorem dX8_isFull_10 : decode cX8_isFull 10 = .ok (.iconst 1, 1) := by decide +kernel
theorem dX8_isFull_11 : decode cX8_isFull 11 = .ok (.goto 4, 3) := by decide +kernel
theorem dX8_isFull_14 : decode cX8_isFull 14 = .ok (.iconst 0, 1) := by decide +kernel
theorem dX8_isFull_15 : decode cX8_isFull 15 = .ok (.ireturn, 1) := by decide +kernel
theorem dX8_lastTime_0 : decode cX8_lastTime 0 = .ok (.aload_n 0, 1) := by decide +kernel
theorem dX8_lastTime_1 : decode cX8_lastTime 1 = .ok (.getfield 14, 3) := by decide +kernel
theorem dX8_lastTime_4 : decode cX8_lastTime 4 = .ok (.aload_n 0, 1) := by decide +kernel
theorem dX8_lastTime_5 : decode cX8_lastTime 5 = .ok (.getfield 23, 3) := by decide +kernel
theorem dX8_lastTime_8 : decode cX8_lastTime 8 = .ok (.iconst 1, 1) := by decide +kernel
theorem dX8_lastTime_9 : decode cX8_lastTime 9 = .ok (.isub, 1) := by decide +kernel
theorem dX8_lastTime_10 : decode cX8_lastTime 10 = .ok (.invokevirtual 45, 3) := by decide +kernel
theorem dX8_lastTime_13 : decode cX8_lastTime 13 = .ok (.ireturn, 1) := by decide +kernel
theorem dX8_strokesAhead_0 : decode cX8_strokesAhead 0 = .ok (.iconst 0, 1) := by decide +kernel
theorem dX8_strokesAhead_1 : decode cX8_strokesAhead 1 = .ok (.istore_n 2, 1) := by decide +kernel
theorem dX8_strokesAhead_2 : decode cX8_strokesAhead 2 = .ok (.iload_n 2, 1) := by decide +kernel
theorem dX8_strokesAhead_3 : decode cX8_strokesAhead 3 = .ok (.aload_n 0, 1) := by decide +kernel
theorem dX8_strokesAhead_4 : decode cX8_strokesAhead 4 = .ok (.getfield 23, 3) := by decide +kernel
theorem dX8_strokesAhead_7 : decode cX8_strokesAhead 7 = .ok (.if_icmp .ge 21, 3) := by decide +kernel
theorem dX8_strokesAhead_10 : decode cX8_strokesAhead 10 = .ok (.aload_n 0, 1) := by decide +kernel
theorem dX8_strokesAhead_11 : decode cX8_strokesAhead 11 = .ok (.getfield 14, 3) := by decide +kernel
theorem dX8_strokesAhead_14 : decode cX8_strokesAhead 14 = .ok (.iload_n 2, 1) := by decide +kernel
theorem dX8_strokesAhead_15 : decode cX8_strokesAhead 15 = .ok (.invokevirtual 45, 3) := by decide +kernel
theorem dX8_strokesAhead_18 : decode cX8_strokesAhead 18 = .ok (.iload_n 1, 1) := by decide +kernel
theorem dX8_strokesAhead_19 : decode cX8_strokesAhead 19 = .ok (.if_icmp .ge 9, 3) := by decide +kernel
theorem dX8_strokesAhead_22 : decode cX8_strokesAhead 22 = .ok (.iinc 2 1, 3) := by decide +kernel
theorem dX8_strokesAhead_25 : decode cX8_strokesAhead 25 = .ok (.goto (-23), 3) := by decide +kernel
theorem dX8_strokesAhead_28 : decode cX8_strokesAhead 28 = .ok (.iload_n 2, 1) := by decide +kernel
theorem dX8_strokesAhead_29 : decode cX8_strokesAhead 29 = .ok (.ireturn, 1) := by decide +kernel
theorem dX8_hasStrokeAt_0 : decode cX8_hasStrokeAt 0 = .ok (.aload_n 0, 1) := by decide +kernel
theorem dX8_hasStrokeAt_1 : decode cX8_hasStrokeAt 1 = .ok (.iload_n 1, 1) := by decide +kernel
theorem dX8_hasStrokeAt_2 : decode cX8_hasStrokeAt 2 = .ok (.invokevirtual 55, 3) := by decide +kernel
theorem dX8_hasStrokeAt_5 : decode cX8_hasStrokeAt 5 = .ok (.istore_n 2, 1) := by decide +kernel
theorem dX8_hasStrokeAt_6 : decode cX8_hasStrokeAt 6 = .ok (.iload_n 2, 1) := by decide +kernel
theorem dX8_hasStrokeAt_7 : decode cX8_hasStrokeAt 7 = .ok (.aload_n 0, 1) := by decide +kernel
theorem dX8_hasStrokeAt_8 : decode cX8_hasStrokeAt 8 = .ok (.getfield 23, 3) := by decide +kernel
theorem dX8_hasStrokeAt_11 : decode cX8_hasStrokeAt 11 = .ok (.if_icmp .ge 19, 3) := by decide +kernel
theorem dX8_hasStrokeAt_14 : decode cX8_hasStrokeAt 14 = .ok (.aload_n 0, 1) := by decide +kernel
theorem dX8_hasStrokeAt_15 : decode cX8_hasStrokeAt 15 = .ok (.getfield 14, 3) := by decide +kernel
theorem dX8_hasStrokeAt_18 : decode cX8_hasStrokeAt 18 = .ok (.iload_n 2, 1) := by decide +kernel
theorem dX8_hasStrokeAt_19 : decode cX8_hasStrokeAt 19 = .ok (.invokevirtual 45, 3) := by decide +kernel
theorem dX8_hasStrokeAt_22 : decode cX8_hasStrokeAt 22 = .ok (.iload_n 1, 1) := by decide +kernel
theorem dX8_hasStrokeAt_23 : decode cX8_hasStrokeAt 23 = .ok (.if_icmp .ne 7, 3) := by decide +kernel
theorem dX8_hasStrokeAt_26 : decode cX8_hasStrokeAt 26 = .ok (.iconst 1, 1) := by decide +kernel
theorem dX8_hasStrokeAt_27 : decode cX8_hasStrokeAt 27 = .ok (.goto 4, 3) := by decide +kernel
theorem dX8_hasStrokeAt_30 : decode cX8_hasStrokeAt 30 = .ok (.iconst 0, 1) := by decide +kernel
theorem dX8_hasStrokeAt_31 : decode cX8_hasStrokeAt 31 = .ok (.ireturn, 1) := by decide +kernel
theorem dX8_addStroke_0 : decode cX8_addStroke 0 = .ok (.aload_n 0, 1) := by decide +kernel
theorem dX8_addStroke_1 : decode cX8_addStroke 1 = .ok (.iload_n 1, 1) := by decide +kernel
theorem dX8_addStroke_2 : decode cX8_addStroke 2 = .ok (.invokevirtual 55, 3) := by decide +kernel
theorem dX8_addStroke_5 : decode cX8_addStroke 5 = .ok (.istore_n 2, 1) := by decide +kernel
theorem dX8_addStroke_6 : decode cX8_addStroke 6 = .ok (.aload_n 0, 1) := by decide +kernel
theorem dX8_addStroke_7 : decode cX8_addStroke 7 = .ok (.getfield 23, 3) := by decide +kernel
theorem dX8_addStroke_10 : decode cX8_addStroke 10 = .ok (.istore_n 3, 1) := by decide +kernel
theorem dX8_addStroke_11 : decode cX8_addStroke 11 = .ok (.iload_n 3, 1) := by decide +kernel
theorem dX8_addStroke_12 : decode cX8_addStroke 12 = .ok (.iload_n 2, 1) := by decide +kernel
theorem dX8_addStroke_13 : decode cX8_addStroke 13 = .ok (.if_icmp .le 27, 3) := by decide +kernel
theorem dX8_addStroke_16 : decode cX8_addStroke 16 = .ok (.aload_n 0, 1) := by decide +kernel
theorem dX8_addStroke_17 : decode cX8_addStroke 17 = .ok (.getfield 14, 3) := by decide +kernel
theorem dX8_addStroke_20 : decode cX8_addStroke 20 = .ok (.iload_n 3, 1) := by decide +kernel
theorem dX8_addStroke_21 : decode cX8_addStroke 21 = .ok (.aload_n 0, 1) := by decide +kernel
theorem dX8_addStroke_22 : decode cX8_addStroke 22 = .ok (.getfield 14, 3) := by decide +kernel
theorem dX8_addStroke_25 : decode cX8_addStroke 25 = .ok (.iload_n 3, 1) := by decide +kernel
theorem dX8_addStroke_26 : decode cX8_addStroke 26 = .ok (.iconst 1, 1) := by decide +kernel
theorem dX8_addStroke_27 : decode cX8_addStroke 27 = .ok (.isub, 1) := by decide +kernel
theorem dX8_addStroke_28 : decode cX8_addStroke 28 = .ok (.invokevirtual 45, 3) := by decide +kernel
theorem dX8_addStroke_31 : decode cX8_addStroke 31 = .ok (.invokevirtual 37, 3) := by decide +kernel
theorem dX8_addStroke_34 : decode cX8_addStroke 34 = .ok (.iinc 3 (-1), 3) := by decide +kernel
theorem dX8_addStroke_37 : decode cX8_addStroke 37 = .ok (.goto (-26), 3) := by decide +kernel
theorem dX8_addStroke_40 : decode cX8_addStroke 40 = .ok (.aload_n 0, 1) := by decide +kernel
theorem dX8_addStroke_41 : decode cX8_addStroke 41 = .ok (.getfield 14, 3) := by decide +kernel
theorem dX8_addStroke_44 : decode cX8_addStroke 44 = .ok (.iload_n 2, 1) := by decide +kernel
theorem dX8_addStroke_45 : decode cX8_addStroke 45 = .ok (.iload_n 1, 1) := by decide +kernel
theorem dX8_addStroke_46 : decode cX8_addStroke 46 = .ok (.invokevirtual 37, 3) := by decide +kernel
theorem dX8_addStroke_49 : decode cX8_addStroke 49 = .ok (.aload_n 0, 1) := by decide +kernel
theorem dX8_addStroke_50 : decode cX8_addStroke 50 = .ok (.dup, 1) := by decide +kernel
theorem dX8_addStroke_51 : decode cX8_addStroke 51 = .ok (.getfield 23, 3) := by decide +kernel
theorem dX8_addStroke_54 : decode cX8_addStroke 54 = .ok (.iconst 1, 1) := by decide +kernel
theorem dX8_addStroke_55 : decode cX8_addStroke 55 = .ok (.iadd, 1) := by decide +kernel
theorem dX8_addStroke_56 : decode cX8_addStroke 56 = .ok (.putfield 23, 3) := by decide +kernel
theorem dX8_addStroke_59 : decode cX8_addStroke 59 = .ok (.iload_n 2, 1) := by decide +kernel
theorem dX8_addStroke_60 : decode cX8_addStroke 60 = .ok (.ireturn, 1) := by decide +kernel
theorem dX8_removeStroke_0 : decode cX8_removeStroke 0 = .ok (.iload_n 1, 1) := by decide +kernel
theorem dX8_removeStroke_1 : decode cX8_removeStroke 1 = .ok (.istore_n 2, 1) := by decide +kernel
theorem dX8_removeStroke_2 : decode cX8_removeStroke 2 = .ok (.iload_n 2, 1) := by decide +kernel
theorem dX8_removeStroke_3 : decode cX8_removeStroke 3 = .ok (.aload_n 0, 1) := by decide +kernel
theorem dX8_removeStroke_4 : decode cX8_removeStroke 4 = .ok (.getfield 23, 3) := by decide +kernel
theorem dX8_removeStroke_7 : decode cX8_removeStroke 7 = .ok (.iconst 1, 1) := by decide +kernel
theorem dX8_removeStroke_8 : decode cX8_removeStroke 8 = .ok (.isub, 1) := by decide +kernel
theorem dX8_removeStroke_9 : decode cX8_removeStroke 9 = .ok (.if_icmp .ge 27, 3) := by decide +kernel
theorem dX8_removeStroke_12 : decode cX8_removeStroke 12 = .ok (.aload_n 0, 1) := by decide +kernel
theorem dX8_removeStroke_13 : decode cX8_removeStroke 13 = .ok (.getfield 14, 3) := by decide +kernel
theorem dX8_removeStroke_16 : decode cX8_removeStroke 16 = .ok (.iload_n 2, 1) := by decide +kernel
theorem dX8_removeStroke_17 : decode cX8_removeStroke 17 = .ok (.aload_n 0, 1) := by decide +kernel
theorem dX8_removeStroke_18 : decode cX8_removeStroke 18 = .ok (.getfield 14, 3) := by decide +kernel
theorem dX8_removeStroke_21 : decode cX8_removeStroke 21 = .ok (.iload_n 2, 1) := by decide +kernel
theorem dX8_removeStroke_22 : decode cX8_removeStroke 22 = .ok (.iconst 1, 1) := by decide +kernel
theorem dX8_removeStroke_23 : decode cX8_removeStroke 23 = .ok (.iadd, 1) := by decide +kernel
theorem dX8_removeStroke_24 : decode cX8_removeStroke 24 = .ok (.invokevirtual 45, 3) := by decide +kernel
theorem dX8_removeStroke_27 : decode cX8_removeStroke 27 = .ok (.invokevirtual 37, 3) := by decide +kernel
theorem dX8_removeStroke_30 : decode cX8_removeStroke 30 = .ok (.iinc 2 1, 3) := by decide +kernel
theorem dX8_removeStroke_33 : decode cX8_removeStroke 33 = .ok (.goto (-31), 3) := by decide +kernel
theorem dX8_removeStroke_36 : decode cX8_removeStroke 36 = .ok (.aload_n 0, 1) := by decide +kernel
theorem dX8_removeStroke_37 : decode cX8_removeStroke 37 = .ok (.dup, 1) := by decide +kernel
theorem dX8_removeStroke_38 : decode cX8_removeStroke 38 = .ok (.getfield 23, 3) := by decide +kernel
theorem dX8_removeStroke_41 : decode cX8_removeStroke 41 = .ok (.iconst 1, 1) := by decide +kernel
theorem dX8_removeStroke_42 : decode cX8_removeStroke 42 = .ok (.isub, 1) := by decide +kernel
theorem dX8_removeStroke_43 : decode cX8_removeStroke 43 = .ok (.putfield 23, 3) := by decide +kernel
theorem dX8_removeStroke_46 : decode cX8_removeStroke 46 = .ok (.return_, 1) := by decide +kernel
theorem dX8_nextTime_0 : decode cX8_nextTime 0 = .ok (.aload_n 0, 1) := by decide +kernel
theorem dX8_nextTime_1 : decode cX8_nextTime 1 = .ok (.getfield 23, 3) := by decide +kernel
theorem dX8_nextTime_4 : decode cX8_nextTime 4 = .ok (.ifCond .ne 7, 3) := by decide +kernel
theorem dX8_nextTime_7 : decode cX8_nextTime 7 = .ok (.iconst 0, 1) := by decide +kernel
theorem dX8_nextTime_8 : decode cX8_nextTime 8 = .ok (.goto 36, 3) := by decide +kernel
theorem dX8_nextTime_11 : decode cX8_nextTime 11 = .ok (.aload_n 0, 1) := by decide +kernel
theorem dX8_nextTime_12 : decode cX8_nextTime 12 = .ok (.getfield 14, 3) := by decide +kernel
theorem dX8_nextTime_15 : decode cX8_nextTime 15 = .ok (.aload_n 0, 1) := by decide +kernel
theorem dX8_nextTime_16 : decode cX8_nextTime 16 = .ok (.getfield 23, 3) := by decide +kernel
theorem dX8_nextTime_19 : decode cX8_nextTime 19 = .ok (.iconst 1, 1) := by decide +kernel
theorem dX8_nextTime_20 : decode cX8_nextTime 20 = .ok (.isub, 1) := by decide +kernel
theorem dX8_nextTime_21 : decode cX8_nextTime 21 = .ok (.invokevirtual 45, 3) := by decide +kernel
theorem dX8_nextTime_24 : decode cX8_nextTime 24 = .ok (.aload_n 0, 1) := by decide +kernel
theorem dX8_nextTime_25 : decode cX8_nextTime 25 = .ok (.getfield 33, 3) := by decide +kernel
theorem dX8_nextTime_28 : decode cX8_nextTime 28 = .ok (.ifCond .eq 8, 3) := by decide +kernel
theorem dX8_nextTime_31 : decode cX8_nextTime 31 = .ok (.bipush 12, 2) := by decide +kernel
theorem dX8_nextTime_33 : decode cX8_nextTime 33 = .ok (.goto 5, 3) := by decide +kernel
theorem dX8_nextTime_36 : decode cX8_nextTime 36 = .ok (.bipush 6, 2) := by decide +kernel
theorem dX8_nextTime_38 : decode cX8_nextTime 38 = .ok (.aload_n 0, 1) := by decide +kernel
theorem dX8_nextTime_39 : decode cX8_nextTime 39 = .ok (.getfield 27, 3) := by decide +kernel
theorem dX8_nextTime_42 : decode cX8_nextTime 42 = .ok (.imul, 1) := by decide +kernel
theorem dX8_nextTime_43 : decode cX8_nextTime 43 = .ok (.iadd, 1) := by decide +kernel
theorem dX8_nextTime_44 : decode cX8_nextTime 44 = .ok (.ireturn, 1) := by decide +kernel
theorem dX8_hasRoomFor_0 : decode cX8_hasRoomFor 0 = .ok (.aload_n 0, 1) := by decide +kernel
theorem dX8_hasRoomFor_1 : decode cX8_hasRoomFor 1 = .ok (.iload_n 1, 1) := by decide +kernel
theorem dX8_hasRoomFor_2 : decode cX8_hasRoomFor 2 = .ok (.invokevirtual 49, 3) := by decide +kernel
theorem dX8_hasRoomFor_5 : decode cX8_hasRoomFor 5 = .ok (.aload_n 0, 1) := by decide +kernel
theorem dX8_hasRoomFor_6 : decode cX8_hasRoomFor 6 = .ok (.iload_n 1, 1) := by decide +kernel
theorem dX8_hasRoomFor_7 : decode cX8_hasRoomFor 7 = .ok (.invokevirtual 52, 3) := by decide +kernel
theorem dX8_hasRoomFor_10 : decode cX8_hasRoomFor 10 = .ok (.iadd, 1) := by decide +kernel
theorem dX8_hasRoomFor_11 : decode cX8_hasRoomFor 11 = .ok (.istore_n 2, 1) := by decide +kernel
theorem dX8_hasRoomFor_12 : decode cX8_hasRoomFor 12 = .ok (.aload_n 0, 1) := by decide +kernel
theorem dX8_hasRoomFor_13 : decode cX8_hasRoomFor 13 = .ok (.invokevirtual 58, 3) := by decide +kernel
theorem dX8_hasRoomFor_16 : decode cX8_hasRoomFor 16 = .ok (.iload_n 2, 1) := by decide +kernel
theorem dX8_hasRoomFor_17 : decode cX8_hasRoomFor 17 = .ok (.iconst 1, 1) := by decide +kernel
theorem dX8_hasRoomFor_18 : decode cX8_hasRoomFor 18 = .ok (.iadd, 1) := by decide +kernel
theorem dX8_hasRoomFor_19 : decode cX8_hasRoomFor 19 = .ok (.aload_n 0, 1) := by decide +kernel
theorem dX8_hasRoomFor_20 : decode cX8_hasRoomFor 20 = .ok (.getfield 27, 3) := by decide +kernel
theorem dX8_hasRoomFor_23 : decode cX8_hasRoomFor 23 = .ok (.imul, 1) := by decide +kernel
theorem dX8_hasRoomFor_24 : decode cX8_hasRoomFor 24 = .ok (.iadd, 1) := by decide +kernel
theorem dX8_hasRoomFor_25 : decode cX8_hasRoomFor 25 = .ok (.istore_n 3, 1) := by decide +kernel
theorem dX8_hasRoomFor_26 : decode cX8_hasRoomFor 26 = .ok (.aload_n 0, 1) := by decide +kernel
theorem dX8_hasRoomFor_27 : decode cX8_hasRoomFor 27 = .ok (.getfield 23, 3) := by decide +kernel
theorem dX8_hasRoomFor_30 : decode cX8_hasRoomFor 30 = .ok (.iload_n 2, 1) := by decide +kernel
theorem dX8_hasRoomFor_31 : decode cX8_hasRoomFor 31 = .ok (.iadd, 1) := by decide +kernel
theorem dX8_hasRoomFor_32 : decode cX8_hasRoomFor 32 = .ok (.sipush 160, 3) := by decide +kernel
theorem dX8_hasRoomFor_35 : decode cX8_hasRoomFor 35 = .ok (.if_icmp .gt 14, 3) := by decide +kernel
theorem dX8_hasRoomFor_38 : decode cX8_hasRoomFor 38 = .ok (.iload_n 3, 1) := by decide +kernel
theorem dX8_hasRoomFor_39 : decode cX8_hasRoomFor 39 = .ok (.sipush 9999, 3) := by decide +kernel
theorem dX8_hasRoomFor_42 : decode cX8_hasRoomFor 42 = .ok (.if_icmp .gt 7, 3) := by decide +kernel
theorem dX8_hasRoomFor_45 : decode cX8_hasRoomFor 45 = .ok (.iconst 1, 1) := by decide +kernel
theorem dX8_hasRoomFor_46 : decode cX8_hasRoomFor 46 = .ok (.goto 4, 3) := by decide +kernel
theorem dX8_hasRoomFor_49 : decode cX8_hasRoomFor 49 = .ok (.iconst 0, 1) := by decide +kernel
theorem dX8_hasRoomFor_50 : decode cX8_hasRoomFor 50 = .ok (.ireturn, 1) := by decide +kernel
theorem dX8_ringLetter_0 : decode cX8_ringLetter 0 = .ok (.aload_n 0, 1) := by decide +kernel
theorem dX8_ringLetter_1 : decode cX8_ringLetter 1 = .ok (.invokevirtual 58, 3) := by decide +kernel
theorem dX8_ringLetter_4 : decode cX8_ringLetter 4 = .ok (.istore_n 2, 1) := by decide +kernel
theorem dX8_ringLetter_5 : decode cX8_ringLetter 5 = .ok (.aload_n 0, 1) := by decide +kernel
theorem dX8_ringLetter_6 : decode cX8_ringLetter 6 = .ok (.iload_n 1, 1) := by decide +kernel
theorem dX8_ringLetter_7 : decode cX8_ringLetter 7 = .ok (.invokevirtual 49, 3) := by decide +kernel
theorem dX8_ringLetter_10 : decode cX8_ringLetter 10 = .ok (.istore_n 3, 1) := by decide +kernel
theorem dX8_ringLetter_11 : decode cX8_ringLetter 11 = .ok (.aload_n 0, 1) := by decide +kernel
theorem dX8_ringLetter_12 : decode cX8_ringLetter 12 = .ok (.iload_n 2, 1) := by decide +kernel
theorem dX8_ringLetter_13 : decode cX8_ringLetter 13 = .ok (.iload_n 3, 1) := by decide +kernel
theorem dX8_ringLetter_14 : decode cX8_ringLetter 14 = .ok (.invokevirtual 62, 3) := by decide +kernel
theorem dX8_ringLetter_17 : decode cX8_ringLetter 17 = .ok (.aload_n 0, 1) := by decide +kernel
theorem dX8_ringLetter_18 : decode cX8_ringLetter 18 = .ok (.iload_n 2, 1) := by decide +kernel
theorem dX8_ringLetter_19 : decode cX8_ringLetter 19 = .ok (.iload_n 3, 1) := by decide +kernel
theorem dX8_ringLetter_20 : decode cX8_ringLetter 20 = .ok (.iconst 2, 1) := by decide +kernel
theorem dX8_ringLetter_21 : decode cX8_ringLetter 21 = .ok (.iadd, 1) := by decide +kernel
theorem dX8_ringLetter_22 : decode cX8_ringLetter 22 = .ok (.aload_n 0, 1) := by decide +kernel
theorem dX8_ringLetter_23 : decode cX8_ringLetter 23 = .ok (.getfield 27, 3) := by decide +kernel
theorem dX8_ringLetter_26 : decode cX8_ringLetter 26 = .ok (.imul, 1) := by decide +kernel
theorem dX8_ringLetter_27 : decode cX8_ringLetter 27 = .ok (.iadd, 1) := by decide +kernel
theorem dX8_ringLetter_28 : decode cX8_ringLetter 28 = .ok (.aload_n 0, 1) := by decide +kernel
theorem dX8_ringLetter_29 : decode cX8_ringLetter 29 = .ok (.iload_n 1, 1) := by decide +kernel
theorem dX8_ringLetter_30 : decode cX8_ringLetter 30 = .ok (.invokevirtual 52, 3) := by decide +kernel
theorem dX8_ringLetter_33 : decode cX8_ringLetter 33 = .ok (.invokevirtual 62, 3) := by decide +kernel
theorem dX8_ringLetter_36 : decode cX8_ringLetter 36 = .ok (.aload_n 0, 1) := by decide +kernel
theorem dX8_ringLetter_37 : decode cX8_ringLetter 37 = .ok (.iconst 0, 1) := by decide +kernel
theorem dX8_ringLetter_38 : decode cX8_ringLetter 38 = .ok (.putfield 33, 3) := by decide +kernel
theorem dX8_ringLetter_41 : decode cX8_ringLetter 41 = .ok (.return_, 1) := by decide +kernel
theorem dX8_ringGroup_0 : decode cX8_ringGroup 0 = .ok (.iconst 0, 1) := by decide +kernel
theorem dX8_ringGroup_1 : decode cX8_ringGroup 1 = .ok (.istore_n 3, 1) := by decide +kernel
theorem dX8_ringGroup_2 : decode cX8_ringGroup 2 = .ok (.iload_n 3, 1) := by decide +kernel
theorem dX8_ringGroup_3 : decode cX8_ringGroup 3 = .ok (.iload_n 2, 1) := by decide +kernel
theorem dX8_ringGroup_4 : decode cX8_ringGroup 4 = .ok (.if_icmp .ge 38, 3) := by decide +kernel
theorem dX8_ringGroup_7 : decode cX8_ringGroup 7 = .ok (.aload_n 0, 1) := by decide +kernel
theorem dX8_ringGroup_8 : decode cX8_ringGroup 8 = .ok (.getfield 14, 3) := by decide +kernel
theorem dX8_ringGroup_11 : decode cX8_ringGroup 11 = .ok (.aload_n 0, 1) := by decide +kernel
theorem dX8_ringGroup_12 : decode cX8_ringGroup 12 = .ok (.getfield 23, 3) := by decide +kernel
theorem dX8_ringGroup_15 : decode cX8_ringGroup 15 = .ok (.iload_n 1, 1) := by decide +kernel
theorem dX8_ringGroup_16 : decode cX8_ringGroup 16 = .ok (.iload_n 3, 1) := by decide +kernel
theorem dX8_ringGroup_17 : decode cX8_ringGroup 17 = .ok (.aload_n 0, 1) := by decide +kernel
theorem dX8_ringGroup_18 : decode cX8_ringGroup 18 = .ok (.getfield 27, 3) := by decide +kernel
theorem dX8_ringGroup_21 : decode cX8_ringGroup 21 = .ok (.imul, 1) := by decide +kernel
theorem dX8_ringGroup_22 : decode cX8_ringGroup 22 = .ok (.iadd, 1) := by decide +kernel
theorem dX8_ringGroup_23 : decode cX8_ringGroup 23 = .ok (.invokevirtual 37, 3) := by decide +kernel
theorem dX8_ringGroup_26 : decode cX8_ringGroup 26 = .ok (.aload_n 0, 1) := by decide +kernel
theorem dX8_ringGroup_27 : decode cX8_ringGroup 27 = .ok (.dup, 1) := by decide +kernel
theorem dX8_ringGroup_28 : decode cX8_ringGroup 28 = .ok (.getfield 23, 3) := by decide +kernel
theorem dX8_ringGroup_31 : decode cX8_ringGroup 31 = .ok (.iconst 1, 1) := by decide +kernel
theorem dX8_ringGroup_32 : decode cX8_ringGroup 32 = .ok (.iadd, 1) := by decide +kernel
theorem dX8_ringGroup_33 : decode cX8_ringGroup 33 = .ok (.putfield 23, 3) := by decide +kernel
theorem dX8_ringGroup_36 : decode cX8_ringGroup 36 = .ok (.iinc 3 1, 3) := by decide +kernel
theorem dX8_ringGroup_39 : decode cX8_ringGroup 39 = .ok (.goto (-37), 3) := by decide +kernel
theorem dX8_ringGroup_42 : decode cX8_ringGroup 42 = .ok (.return_, 1) := by decide +kernel
theorem dX9_init_0 : decode cX9_init 0 = .ok (.aload_n 0, 1) := by decide +kernel
theorem dX9_init_1 : decode cX9_init 1 = .ok (.invokespecial 1, 3) := by decide +kernel
theorem dX9_init_4 : decode cX9_init 4 = .ok (.aload_n 0, 1) := by decide +kernel
theorem dX9_init_5 : decode cX9_init 5 = .ok (.new 7, 3) := by decide +kernel
theorem dX9_init_8 : decode cX9_init 8 = .ok (.dup, 1) := by decide +kernel
theorem dX9_init_9 : decode cX9_init 9 = .ok (.invokespecial 9, 3) := by decide +kernel
theorem dX9_init_12 : decode cX9_init 12 = .ok (.putfield 10, 3) := by decide +kernel
theorem dX9_init_15 : decode cX9_init 15 = .ok (.aload_n 0, 1) := by decide +kernel
theorem dX9_init_16 : decode cX9_init 16 = .ok (.new 7, 3) := by decide +kernel
theorem dX9_init_19 : decode cX9_init 19 = .ok (.dup, 1) := by decide +kernel
theorem dX9_init_20 : decode cX9_init 20 = .ok (.invokespecial 9, 3) := by decide +kernel
theorem dX9_init_23 : decode cX9_init 23 = .ok (.putfield 16, 3) := by decide +kernel
theorem dX9_init_26 : decode cX9_init 26 = .ok (.aload_n 0, 1) := by decide +kernel
theorem dX9_init_27 : decode cX9_init 27 = .ok (.new 19, 3) := by decide +kernel
theorem dX9_init_30 : decode cX9_init 30 = .ok (.dup, 1) := by decide +kernel
theorem dX9_init_31 : decode cX9_init 31 = .ok (.invokespecial 21, 3) := by decide +kernel
theorem dX9_init_34 : decode cX9_init 34 = .ok (.putfield 22, 3) := by decide +kernel
theorem dX9_init_37 : decode cX9_init 37 = .ok (.aload_n 0, 1) := by decide +kernel
theorem dX9_init_38 : decode cX9_init 38 = .ok (.new 26, 3) := by decide +kernel
theorem dX9_init_41 : decode cX9_init 41 = .ok (.dup, 1) := by decide +kernel
theorem dX9_init_42 : decode cX9_init 42 = .ok (.invokespecial 28, 3) := by decide +kernel
theorem dX9_init_45 : decode cX9_init 45 = .ok (.putfield 29, 3) := by decide +kernel
theorem dX9_init_48 : decode cX9_init 48 = .ok (.aload_n 0, 1) := by decide +kernel
theorem dX9_init_49 : decode cX9_init 49 = .ok (.new 33, 3) := by decide +kernel
theorem dX9_init_52 : decode cX9_init 52 = .ok (.dup, 1) := by decide +kernel
theorem dX9_init_53 : decode cX9_init 53 = .ok (.invokespecial 35, 3) := by decide +kernel
theorem dX9_init_56 : decode cX9_init 56 = .ok (.putfield 36, 3) := by decide +kernel
theorem dX9_init_59 : decode cX9_init 59 = .ok (.aload_n 0, 1) := by decide +kernel
theorem dX9_init_60 : decode cX9_init 60 = .ok (.new 40, 3) := by decide +kernel
theorem dX9_init_63 : decode cX9_init 63 = .ok (.dup, 1) := by decide +kernel
theorem dX9_init_64 : decode cX9_init 64 = .ok (.invokespecial 42, 3) := by decide +kernel
theorem dX9_init_67 : decode cX9_init 67 = .ok (.putfield 43, 3) := by decide +kernel
theorem dX9_init_70 : decode cX9_init 70 = .ok (.aload_n 0, 1) := by decide +kernel
theorem dX9_init_71 : decode cX9_init 71 = .ok (.new 47, 3) := by decide +kernel
theorem dX9_init_74 : decode cX9_init 74 = .ok (.dup, 1) := by decide +kernel
theorem dX9_init_75 : decode cX9_init 75 = .ok (.invokespecial 49, 3) := by decide +kernel
theorem dX9_init_78 : decode cX9_init 78 = .ok (.putfield 50, 3) := by decide +kernel
theorem dX9_init_81 : decode cX9_init 81 = .ok (.return_, 1) := by decide +kernel
theorem dX9_set_0 : decode cX9_set 0 = .ok (.iload_n 1, 1) := by decide +kernel
theorem dX9_set_1 : decode cX9_set 1 = .ok (.ifCond .ne 54, 3) := by decide +kernel
theorem dX9_set_4 : decode cX9_set 4 = .ok (.iload_n 2, 1) := by decide +kernel
theorem dX9_set_5 : decode cX9_set 5 = .ok (.iconst 4, 1) := by decide +kernel
theorem dX9_set_6 : decode cX9_set 6 = .ok (.if_icmp .lt 49, 3) := by decide +kernel
theorem dX9_set_9 : decode cX9_set 9 = .ok (.iload_n 2, 1) := by decide +kernel
theorem dX9_set_10 : decode cX9_set 10 = .ok (.bipush 20, 2) := by decide +kernel
theorem dX9_set_12 : decode cX9_set 12 = .ok (.if_icmp .gt 43, 3) := by decide +kernel
theorem dX9_set_15 : decode cX9_set 15 = .ok (.aload_n 0, 1) := by decide +kernel
theorem dX9_set_16 : decode cX9_set 16 = .ok (.getfield 10, 3) := by decide +kernel
theorem dX9_set_19 : decode cX9_set 19 = .ok (.getfield 54, 3) := by decide +kernel
theorem dX9_set_22 : decode cX9_set 22 = .ok (.istore_n 3, 1) := by decide +kernel
theorem dX9_set_23 : decode cX9_set 23 = .ok (.aload_n 0, 1) := by decide +kernel
theorem dX9_set_24 : decode cX9_set 24 = .ok (.getfield 22, 3) := by decide +kernel
theorem dX9_set_27 : decode cX9_set 27 = .ok (.aload_n 0, 1) := by decide +kernel
theorem dX9_set_28 : decode cX9_set 28 = .ok (.getfield 10, 3) := by decide +kernel
theorem dX9_set_31 : decode cX9_set 31 = .ok (.invokevirtual 58, 3) := by decide +kernel
theorem dX9_set_34 : decode cX9_set 34 = .ok (.aload_n 0, 1) := by decide +kernel
theorem dX9_set_35 : decode cX9_set 35 = .ok (.getfield 10, 3) := by decide +kernel
theorem dX9_set_38 : decode cX9_set 38 = .ok (.iload_n 2, 1) := by decide +kernel
theorem dX9_set_39 : decode cX9_set 39 = .ok (.putfield 54, 3) := by decide +kernel
theorem dX9_set_42 : decode cX9_set 42 = .ok (.aload_n 0, 1) := by decide +kernel
theorem dX9_set_43 : decode cX9_set 43 = .ok (.getfield 29, 3) := by decide +kernel
theorem dX9_set_46 : decode cX9_set 46 = .ok (.aload_n 0, 1) := by decide +kernel
theorem dX9_set_47 : decode cX9_set 47 = .ok (.getfield 10, 3) := by decide +kernel
theorem dX9_set_50 : decode cX9_set 50 = .ok (.invokevirtual 62, 3) := by decide +kernel
theorem dX9_set_53 : decode cX9_set 53 = .ok (.iload_n 3, 1) := by decide +kernel
theorem dX9_set_54 : decode cX9_set 54 = .ok (.ireturn, 1) := by decide +kernel
theorem dX9_set_55 : decode cX9_set 55 = .ok (.iload_n 1, 1) := by decide +kernel
theorem dX9_set_56 : decode cX9_set 56 = .ok (.iconst 1, 1) := by decide +kernel
theorem dX9_set_57 : decode cX9_set 57 = .ok (.if_icmp .ne 52, 3) := by decide +kernel
theorem dX9_set_60 : decode cX9_set 60 = .ok (.iload_n 2, 1) := by decide +kernel
theorem dX9_set_61 : decode cX9_set 61 = .ok (.ifCond .lt 48, 3) := by decide +kernel
theorem dX9_set_64 : decode cX9_set 64 = .ok (.iload_n 2, 1) := by decide +kernel
theorem dX9_set_65 : decode cX9_set 65 = .ok (.iconst 3, 1) := by decide +kernel
theorem dX9_set_66 : decode cX9_set 66 = .ok (.if_icmp .gt 43, 3) := by decide +kernel
theorem dX9_set_69 : decode cX9_set 69 = .ok (.aload_n 0, 1) := by decide +kernel
theorem dX9_set_70 : decode cX9_set 70 = .ok (.getfield 10, 3) := by decide +kernel
theorem dX9_set_73 : decode cX9_set 73 = .ok (.getfield 65, 3) := by decide +kernel
theorem dX9_set_76 : decode cX9_set 76 = .ok (.istore_n 3, 1) := by decide +kernel
theorem dX9_set_77 : decode cX9_set 77 = .ok (.aload_n 0, 1) := by decide +kernel
theorem dX9_set_78 : decode cX9_set 78 = .ok (.getfield 22, 3) := by decide +kernel
theorem dX9_set_81 : decode cX9_set 81 = .ok (.aload_n 0, 1) := by decide +kernel
theorem dX9_set_82 : decode cX9_set 82 = .ok (.getfield 10, 3) := by decide +kernel
theorem dX9_set_85 : decode cX9_set 85 = .ok (.invokevirtual 58, 3) := by decide +kernel
theorem dX9_set_88 : decode cX9_set 88 = .ok (.aload_n 0, 1) := by decide +kernel
theorem dX9_set_89 : decode cX9_set 89 = .ok (.getfield 10, 3) := by decide +kernel
theorem dX9_set_92 : decode cX9_set 92 = .ok (.iload_n 2, 1) := by decide +kernel
theorem dX9_set_93 : decode cX9_set 93 = .ok (.putfield 65, 3) := by decide +kernel
theorem dX9_set_96 : decode cX9_set 96 = .ok (.aload_n 0, 1) := by decide +kernel
theorem dX9_set_97 : decode cX9_set 97 = .ok (.getfield 29, 3) := by decide +kernel
theorem dX9_set_100 : decode cX9_set 100 = .ok (.aload_n 0, 1) := by decide +kernel
theorem dX9_set_101 : decode cX9_set 101 = .ok (.getfield 10, 3) := by decide +kernel
theorem dX9_set_104 : decode cX9_set 104 = .ok (.invokevirtual 62, 3) := by decide +kernel
theorem dX9_set_107 : decode cX9_set 107 = .ok (.iload_n 3, 1) := by decide +kernel
theorem dX9_set_108 : decode cX9_set 108 = .ok (.ireturn, 1) := by decide +kernel
theorem dX9_set_109 : decode cX9_set 109 = .ok (.ldc 68, 2) := by decide +kernel
theorem dX9_set_111 : decode cX9_set 111 = .ok (.ireturn, 1) := by decide +kernel
theorem dX9_swap_0 : decode cX9_swap 0 = .ok (.iload_n 1, 1) := by decide +kernel
theorem dX9_swap_1 : decode cX9_swap 1 = .ok (.invokestatic 69, 3) := by decide +kernel
theorem dX9_swap_4 : decode cX9_swap 4 = .ok (.ifCond .eq 15, 3) := by decide +kernel
theorem dX9_swap_7 : decode cX9_swap 7 = .ok (.iload_n 2, 1) := by decide +kernel
theorem dX9_swap_8 : decode cX9_swap 8 = .ok (.invokestatic 69, 3) := by decide +kernel
theorem dX9_swap_11 : decode cX9_swap 11 = .ok (.ifCond .eq 8, 3) := by decide +kernel
theorem dX9_swap_14 : decode cX9_swap 14 = .ok (.iload_n 1, 1) := by decide +kernel
theorem dX9_swap_15 : decode cX9_swap 15 = .ok (.iload_n 2, 1) := by decide +kernel
theorem dX9_swap_16 : decode cX9_swap 16 = .ok (.if_icmp .ne 6, 3) := by decide +kernel
theorem dX9_swap_19 : decode cX9_swap 19 = .ok (.ldc 68, 2) := by decide +kernel
theorem dX9_swap_21 : decode cX9_swap 21 = .ok (.ireturn, 1) := by decide +kernel
theorem dX9_swap_22 : decode cX9_swap 22 = .ok (.aload_n 0, 1) := by decide +kernel
theorem dX9_swap_23 : decode cX9_swap 23 = .ok (.getfield 22, 3) := by decide +kernel
theorem dX9_swap_26 : decode cX9_swap 26 = .ok (.aload_n 0, 1) := by decide +kernel
theorem dX9_swap_27 : decode cX9_swap 27 = .ok (.getfield 10, 3) := by decide +kernel
theorem dX9_swap_30 : decode cX9_swap 30 = .ok (.invokevirtual 58, 3) := by decide +kernel
theorem dX9_swap_33 : decode cX9_swap 33 = .ok (.aload_n 0, 1) := by decide +kernel
theorem dX9_swap_34 : decode cX9_swap 34 = .ok (.getfield 10, 3) := by decide +kernel
theorem dX9_swap_37 : decode cX9_swap 37 = .ok (.iload_n 1, 1) := by decide +kernel
theorem dX9_swap_38 : decode cX9_swap 38 = .ok (.iload_n 2, 1) := by decide +kernel
theorem dX9_swap_39 : decode cX9_swap 39 = .ok (.invokevirtual 73, 3) := by decide +kernel
theorem dX9_swap_42 : decode cX9_swap 42 = .ok (.aload_n 0, 1) := by decide +kernel
theorem dX9_swap_43 : decode cX9_swap 43 = .ok (.getfield 29, 3) := by decide +kernel
theorem dX9_swap_46 : decode cX9_swap 46 = .ok (.aload_n 0, 1) := by decide +kernel
theorem dX9_swap_47 : decode cX9_swap 47 = .ok (.getfield 10, 3) := by decide +kernel
theorem dX9_swap_50 : decode cX9_swap 50 = .ok (.invokevirtual 62, 3) := by decide +kernel
theorem dX9_swap_53 : decode cX9_swap 53 = .ok (.aload_n 0, 1) := by decide +kernel
theorem dX9_swap_54 : decode cX9_swap 54 = .ok (.getfield 10, 3) := by decide +kernel
theorem dX9_swap_57 : decode cX9_swap 57 = .ok (.iload_n 1, 1) := by decide +kernel
theorem dX9_swap_58 : decode cX9_swap 58 = .ok (.invokevirtual 77, 3) := by decide +kernel
theorem dX9_swap_61 : decode cX9_swap 61 = .ok (.ireturn, 1) := by decide +kernel
theorem dX9_ring_0 : decode cX9_ring 0 = .ok (.iload_n 1, 1) := by decide +kernel
theorem dX9_ring_1 : decode cX9_ring 1 = .ok (.invokestatic 69, 3) := by decide +kernel
theorem dX9_ring_4 : decode cX9_ring 4 = .ok (.ifCond .ne 6, 3) := by decide +kernel
theorem dX9_ring_7 : decode cX9_ring 7 = .ok (.ldc 68, 2) := by decide +kernel
theorem dX9_ring_9 : decode cX9_ring 9 = .ok (.ireturn, 1) := by decide +kernel
theorem dX9_ring_10 : decode cX9_ring 10 = .ok (.aload_n 0, 1) := by decide +kernel
theorem dX9_ring_11 : decode cX9_ring 11 = .ok (.getfield 10, 3) := by decide +kernel
theorem dX9_ring_14 : decode cX9_ring 14 = .ok (.iload_n 1, 1) := by decide +kernel
theorem dX9_ring_15 : decode cX9_ring 15 = .ok (.invokevirtual 81, 3) := by decide +kernel
theorem dX9_ring_18 : decode cX9_ring 18 = .ok (.ifCond .ne 6, 3) := by decide +kernel
theorem dX9_ring_21 : decode cX9_ring 21 = .ok (.ldc 84, 2) := by decide +kernel
theorem dX9_ring_23 : decode cX9_ring 23 = .ok (.ireturn, 1) := by decide +kernel
theorem dX9_ring_24 : decode cX9_ring 24 = .ok (.aload_n 0, 1) := by decide +kernel
theorem dX9_ring_25 : decode cX9_ring 25 = .ok (.getfield 10, 3) := by decide +kernel
theorem dX9_ring_28 : decode cX9_ring 28 = .ok (.getfield 85, 3) := by decide +kernel
theorem dX9_ring_31 : decode cX9_ring 31 = .ok (.istore_n 2, 1) := by decide +kernel
theorem dX9_ring_32 : decode cX9_ring 32 = .ok (.aload_n 0, 1) := by decide +kernel
theorem dX9_ring_33 : decode cX9_ring 33 = .ok (.getfield 22, 3) := by decide +kernel
theorem dX9_ring_36 : decode cX9_ring 36 = .ok (.aload_n 0, 1) := by decide +kernel
theorem dX9_ring_37 : decode cX9_ring 37 = .ok (.getfield 10, 3) := by decide +kernel
theorem dX9_ring_40 : decode cX9_ring 40 = .ok (.invokevirtual 58, 3) := by decide +kernel
theorem dX9_ring_43 : decode cX9_ring 43 = .ok (.aload_n 0, 1) := by decide +kernel
theorem dX9_ring_44 : decode cX9_ring 44 = .ok (.getfield 10, 3) := by decide +kernel
theorem dX9_ring_47 : decode cX9_ring 47 = .ok (.iload_n 1, 1) := by decide +kernel
theorem dX9_ring_48 : decode cX9_ring 48 = .ok (.invokevirtual 88, 3) := by decide +kernel
theorem dX9_ring_51 : decode cX9_ring 51 = .ok (.aload_n 0, 1) := by decide +kernel
theorem dX9_ring_52 : decode cX9_ring 52 = .ok (.getfield 29, 3) := by decide +kernel
theorem dX9_ring_55 : decode cX9_ring 55 = .ok (.aload_n 0, 1) := by decide +kernel
theorem dX9_ring_56 : decode cX9_ring 56 = .ok (.getfield 10, 3) := by decide +kernel
theorem dX9_ring_59 : decode cX9_ring 59 = .ok (.invokevirtual 62, 3) := by decide +kernel
theorem dX9_ring_62 : decode cX9_ring 62 = .ok (.iload_n 2, 1) := by decide +kernel
theorem dX9_ring_63 : decode cX9_ring 63 = .ok (.ireturn, 1) := by decide +kernel
theorem dX9_pause_0 : decode cX9_pause 0 = .ok (.aload_n 0, 1) := by decide +kernel
theorem dX9_pause_1 : decode cX9_pause 1 = .ok (.getfield 10, 3) := by decide +kernel
theorem dX9_pause_4 : decode cX9_pause 4 = .ok (.getfield 92, 3) := by decide +kernel
theorem dX9_pause_7 : decode cX9_pause 7 = .ok (.ifCond .ne 13, 3) := by decide +kernel
theorem dX9_pause_10 : decode cX9_pause 10 = .ok (.aload_n 0, 1) := by decide +kernel
theorem dX9_pause_11 : decode cX9_pause 11 = .ok (.getfield 10, 3) := by decide +kernel
theorem dX9_pause_14 : decode cX9_pause 14 = .ok (.getfield 85, 3) := by decide +kernel
theorem dX9_pause_17 : decode cX9_pause 17 = .ok (.ifCond .ne 6, 3) := by decide +kernel
theorem dX9_pause_20 : decode cX9_pause 20 = .ok (.ldc 96, 2) := by decide +kernel
theorem dX9_pause_22 : decode cX9_pause 22 = .ok (.ireturn, 1) := by decide +kernel
theorem dX9_pause_23 : decode cX9_pause 23 = .ok (.aload_n 0, 1) := by decide +kernel
theorem dX9_pause_24 : decode cX9_pause 24 = .ok (.getfield 22, 3) := by decide +kernel
theorem dX9_pause_27 : decode cX9_pause 27 = .ok (.aload_n 0, 1) := by decide +kernel
theorem dX9_pause_28 : decode cX9_pause 28 = .ok (.getfield 10, 3) := by decide +kernel
theorem dX9_pause_31 : decode cX9_pause 31 = .ok (.invokevirtual 58, 3) := by decide +kernel
theorem dX9_pause_34 : decode cX9_pause 34 = .ok (.aload_n 0, 1) := by decide +kernel
theorem dX9_pause_35 : decode cX9_pause 35 = .ok (.getfield 10, 3) := by decide +kernel
theorem dX9_pause_38 : decode cX9_pause 38 = .ok (.iconst 1, 1) := by decide +kernel
theorem dX9_pause_39 : decode cX9_pause 39 = .ok (.putfield 92, 3) := by decide +kernel
theorem dX9_pause_42 : decode cX9_pause 42 = .ok (.aload_n 0, 1) := by decide +kernel
theorem dX9_pause_43 : decode cX9_pause 43 = .ok (.getfield 10, 3) := by decide +kernel
theorem dX9_pause_46 : decode cX9_pause 46 = .ok (.getfield 85, 3) := by decide +kernel
theorem dX9_pause_49 : decode cX9_pause 49 = .ok (.ireturn, 1) := by decide +kernel
theorem dX9_strike_0 : decode cX9_strike 0 = .ok (.iload_n 1, 1) := by decide +kernel
theorem dX9_strike_1 : decode cX9_strike 1 = .ok (.ifCond .lt 10, 3) := by decide +kernel
theorem dX9_strike_4 : decode cX9_strike 4 = .ok (.iload_n 1, 1) := by decide +kernel
theorem dX9_strike_5 : decode cX9_strike 5 = .ok (.sipush 9999, 3) := by decide +kernel
theorem dX9_strike_8 : decode cX9_strike 8 = .ok (.if_icmp .le 6, 3) := by decide +kernel
theorem dX9_strike_11 : decode cX9_strike 11 = .ok (.ldc 68, 2) := by decide +kernel
theorem dX9_strike_13 : decode cX9_strike 13 = .ok (.ireturn, 1) := by decide +kernel
theorem dX9_strike_14 : decode cX9_strike 14 = .ok (.aload_n 0, 1) := by decide +kernel
theorem dX9_strike_15 : decode cX9_strike 15 = .ok (.getfield 10, 3) := by decide +kernel
theorem dX9_strike_18 : decode cX9_strike 18 = .ok (.iload_n 1, 1) := by decide +kernel
theorem dX9_strike_19 : decode cX9_strike 19 = .ok (.invokevirtual 97, 3) := by decide +kernel
theorem dX9_strike_22 : decode cX9_strike 22 = .ok (.ifCond .eq 6, 3) := by decide +kernel
theorem dX9_strike_25 : decode cX9_strike 25 = .ok (.ldc 96, 2) := by decide +kernel
theorem dX9_strike_27 : decode cX9_strike 27 = .ok (.ireturn, 1) := by decide +kernel
theorem dX9_strike_28 : decode cX9_strike 28 = .ok (.aload_n 0, 1) := by decide +kernel
theorem dX9_strike_29 : decode cX9_strike 29 = .ok (.getfield 10, 3) := by decide +kernel
theorem dX9_strike_32 : decode cX9_strike 32 = .ok (.invokevirtual 100, 3) := by decide +kernel
theorem dX9_strike_35 : decode cX9_strike 35 = .ok (.ifCond .eq 6, 3) := by decide +kernel
theorem dX9_strike_38 : decode cX9_strike 38 = .ok (.ldc 84, 2) := by decide +kernel
theorem dX9_strike_40 : decode cX9_strike 40 = .ok (.ireturn, 1) := by decide +kernel
theorem dX9_strike_41 : decode cX9_strike 41 = .ok (.aload_n 0, 1) := by decide +kernel
theorem dX9_strike_42 : decode cX9_strike 42 = .ok (.getfield 22, 3) := by decide +kernel
theorem dX9_strike_45 : decode cX9_strike 45 = .ok (.aload_n 0, 1) := by decide +kernel
theorem dX9_strike_46 : decode cX9_strike 46 = .ok (.getfield 10, 3) := by decide +kernel
theorem dX9_strike_49 : decode cX9_strike 49 = .ok (.invokevirtual 58, 3) := by decide +kernel
theorem dX9_strike_52 : decode cX9_strike 52 = .ok (.aload_n 0, 1) := by decide +kernel
theorem dX9_strike_53 : decode cX9_strike 53 = .ok (.getfield 10, 3) := by decide +kernel
theorem dX9_strike_56 : decode cX9_strike 56 = .ok (.iload_n 1, 1) := by decide +kernel
theorem dX9_strike_57 : decode cX9_strike 57 = .ok (.invokevirtual 104, 3) := by decide +kernel
theorem dX9_strike_60 : decode cX9_strike 60 = .ok (.istore_n 2, 1) := by decide +kernel
theorem dX9_strike_61 : decode cX9_strike 61 = .ok (.aload_n 0, 1) := by decide +kernel
theorem dX9_strike_62 : decode cX9_strike 62 = .ok (.getfield 29, 3) := by decide +kernel
theorem dX9_strike_65 : decode cX9_strike 65 = .ok (.aload_n 0, 1) := by decide +kernel
theorem dX9_strike_66 : decode cX9_strike 66 = .ok (.getfield 10, 3) := by decide +kernel
theorem dX9_strike_69 : decode cX9_strike 69 = .ok (.invokevirtual 62, 3) := by decide +kernel
theorem dX9_strike_72 : decode cX9_strike 72 = .ok (.iload_n 2, 1) := by decide +kernel
theorem dX9_strike_73 : decode cX9_strike 73 = .ok (.ireturn, 1) := by decide +kernel
theorem dX9_mute_0 : decode cX9_mute 0 = .ok (.aload_n 0, 1) := by decide +kernel
theorem dX9_mute_1 : decode cX9_mute 1 = .ok (.getfield 10, 3) := by decide +kernel
theorem dX9_mute_4 : decode cX9_mute 4 = .ok (.iload_n 1, 1) := by decide +kernel
theorem dX9_mute_5 : decode cX9_mute 5 = .ok (.invokevirtual 107, 3) := by decide +kernel
theorem dX9_mute_8 : decode cX9_mute 8 = .ok (.ifCond .ne 6, 3) := by decide +kernel
theorem dX9_mute_11 : decode cX9_mute 11 = .ok (.ldc 68, 2) := by decide +kernel
theorem dX9_mute_13 : decode cX9_mute 13 = .ok (.ireturn, 1) := by decide +kernel
theorem dX9_mute_14 : decode cX9_mute 14 = .ok (.aload_n 0, 1) := by decide +kernel
theorem dX9_mute_15 : decode cX9_mute 15 = .ok (.getfield 10, 3) := by decide +kernel
theorem dX9_mute_18 : decode cX9_mute 18 = .ok (.getfield 110, 3) := by decide +kernel
theorem dX9_mute_21 : decode cX9_mute 21 = .ok (.iload_n 1, 1) := by decide +kernel
theorem dX9_mute_22 : decode cX9_mute 22 = .ok (.invokevirtual 114, 3) := by decide +kernel
theorem dX9_mute_25 : decode cX9_mute 25 = .ok (.istore_n 2, 1) := by decide +kernel
theorem dX9_mute_26 : decode cX9_mute 26 = .ok (.aload_n 0, 1) := by decide +kernel
theorem dX9_mute_27 : decode cX9_mute 27 = .ok (.getfield 22, 3) := by decide +kernel
theorem dX9_mute_30 : decode cX9_mute 30 = .ok (.aload_n 0, 1) := by decide +kernel
theorem dX9_mute_31 : decode cX9_mute 31 = .ok (.getfield 10, 3) := by decide +kernel
theorem dX9_mute_34 : decode cX9_mute 34 = .ok (.invokevirtual 58, 3) := by decide +kernel
theorem dX9_mute_37 : decode cX9_mute 37 = .ok (.aload_n 0, 1) := by decide +kernel
theorem dX9_mute_38 : decode cX9_mute 38 = .ok (.getfield 10, 3) := by decide +kernel
theorem dX9_mute_41 : decode cX9_mute 41 = .ok (.iload_n 1, 1) := by decide +kernel
theorem dX9_mute_42 : decode cX9_mute 42 = .ok (.invokevirtual 119, 3) := by decide +kernel
theorem dX9_mute_45 : decode cX9_mute 45 = .ok (.aload_n 0, 1) := by decide +kernel
theorem dX9_mute_46 : decode cX9_mute 46 = .ok (.getfield 29, 3) := by decide +kernel
theorem dX9_mute_49 : decode cX9_mute 49 = .ok (.aload_n 0, 1) := by decide +kernel
theorem dX9_mute_50 : decode cX9_mute 50 = .ok (.getfield 10, 3) := by decide +kernel
theorem dX9_mute_53 : decode cX9_mute 53 = .ok (.invokevirtual 62, 3) := by decide +kernel
theorem dX9_mute_56 : decode cX9_mute 56 = .ok (.iload_n 2, 1) := by decide +kernel
theorem dX9_mute_57 : decode cX9_mute 57 = .ok (.ireturn, 1) := by decide +kernel
theorem dX9_shift_0 : decode cX9_shift 0 = .ok (.aload_n 0, 1) := by decide +kernel
theorem dX9_shift_1 : decode cX9_shift 1 = .ok (.getfield 10, 3) := by decide +kernel
theorem dX9_shift_4 : decode cX9_shift 4 = .ok (.iload_n 1, 1) := by decide +kernel
theorem dX9_shift_5 : decode cX9_shift 5 = .ok (.invokevirtual 107, 3) := by decide +kernel
theorem dX9_shift_8 : decode cX9_shift 8 = .ok (.ifCond .eq 19, 3) := by decide +kernel
theorem dX9_shift_11 : decode cX9_shift 11 = .ok (.iload_n 2, 1) := by decide +kernel
theorem dX9_shift_12 : decode cX9_shift 12 = .ok (.ifCond .eq 15, 3) := by decide +kernel
theorem dX9_shift_15 : decode cX9_shift 15 = .ok (.iload_n 2, 1) := by decide +kernel
theorem dX9_shift_16 : decode cX9_shift 16 = .ok (.bipush (-99), 2) := by decide +kernel
theorem dX9_shift_18 : decode cX9_shift 18 = .ok (.if_icmp .lt 9, 3) := by decide +kernel
theorem dX9_shift_21 : decode cX9_shift 21 = .ok (.iload_n 2, 1) := by decide +kernel
theorem dX9_shift_22 : decode cX9_shift 22 = .ok (.bipush 99, 2) := by decide +kernel
theorem dX9_shift_24 : decode cX9_shift 24 = .ok (.if_icmp .le 6, 3) := by decide +kernel
theorem dX9_shift_27 : decode cX9_shift 27 = .ok (.ldc 68, 2) := by decide +kernel
theorem dX9_shift_29 : decode cX9_shift 29 = .ok (.ireturn, 1) := by decide +kernel
theorem dX9_shift_30 : decode cX9_shift 30 = .ok (.aload_n 0, 1) := by decide +kernel
theorem dX9_shift_31 : decode cX9_shift 31 = .ok (.getfield 10, 3) := by decide +kernel
theorem dX9_shift_34 : decode cX9_shift 34 = .ok (.getfield 110, 3) := by decide +kernel
theorem dX9_shift_37 : decode cX9_shift 37 = .ok (.iload_n 1, 1) := by decide +kernel
theorem dX9_shift_38 : decode cX9_shift 38 = .ok (.invokevirtual 114, 3) := by decide +kernel
theorem dX9_shift_41 : decode cX9_shift 41 = .ok (.iload_n 2, 1) := by decide +kernel
theorem dX9_shift_42 : decode cX9_shift 42 = .ok (.iadd, 1) := by decide +kernel
theorem dX9_shift_43 : decode cX9_shift 43 = .ok (.istore_n 3, 1) := by decide +kernel
theorem dX9_shift_44 : decode cX9_shift 44 = .ok (.iload_n 3, 1) := by decide +kernel
theorem dX9_shift_45 : decode cX9_shift 45 = .ok (.ifCond .lt 21, 3) := by decide +kernel
theorem dX9_shift_48 : decode cX9_shift 48 = .ok (.iload_n 3, 1) := by decide +kernel
theorem dX9_shift_49 : decode cX9_shift 49 = .ok (.sipush 9999, 3) := by decide +kernel
theorem dX9_shift_52 : decode cX9_shift 52 = .ok (.if_icmp .gt 14, 3) := by decide +kernel
theorem dX9_shift_55 : decode cX9_shift 55 = .ok (.aload_n 0, 1) := by decide +kernel
theorem dX9_shift_56 : decode cX9_shift 56 = .ok (.getfield 10, 3) := by decide +kernel
theorem dX9_shift_59 : decode cX9_shift 59 = .ok (.iload_n 3, 1) := by decide +kernel
theorem dX9_shift_60 : decode cX9_shift 60 = .ok (.invokevirtual 97, 3) := by decide +kernel
theorem dX9_shift_63 : decode cX9_shift 63 = .ok (.ifCond .eq 6, 3) := by decide +kernel
theorem dX9_shift_66 : decode cX9_shift 66 = .ok (.ldc 96, 2) := by decide +kernel
theorem dX9_shift_68 : decode cX9_shift 68 = .ok (.ireturn, 1) := by decide +kernel
theorem dX9_shift_69 : decode cX9_shift 69 = .ok (.aload_n 0, 1) := by decide +kernel
theorem dX9_shift_70 : decode cX9_shift 70 = .ok (.getfield 22, 3) := by decide +kernel
theorem dX9_shift_73 : decode cX9_shift 73 = .ok (.aload_n 0, 1) := by decide +kernel
theorem dX9_shift_74 : decode cX9_shift 74 = .ok (.getfield 10, 3) := by decide +kernel
theorem dX9_shift_77 : decode cX9_shift 77 = .ok (.invokevirtual 58, 3) := by decide +kernel
theorem dX9_shift_80 : decode cX9_shift 80 = .ok (.aload_n 0, 1) := by decide +kernel
theorem dX9_shift_81 : decode cX9_shift 81 = .ok (.getfield 10, 3) := by decide +kernel
theorem dX9_shift_84 : decode cX9_shift 84 = .ok (.iload_n 1, 1) := by decide +kernel
theorem dX9_shift_85 : decode cX9_shift 85 = .ok (.invokevirtual 119, 3) := by decide +kernel
theorem dX9_shift_88 : decode cX9_shift 88 = .ok (.aload_n 0, 1) := by decide +kernel
theorem dX9_shift_89 : decode cX9_shift 89 = .ok (.getfield 10, 3) := by decide +kernel
theorem dX9_shift_92 : decode cX9_shift 92 = .ok (.iload_n 3, 1) := by decide +kernel
theorem dX9_shift_93 : decode cX9_shift 93 = .ok (.invokevirtual 104, 3) := by decide +kernel
theorem dX9_shift_96 : decode cX9_shift 96 = .ok (.istore 4, 2) := by decide +kernel
theorem dX9_shift_98 : decode cX9_shift 98 = .ok (.aload_n 0, 1) := by decide +kernel
theorem dX9_shift_99 : decode cX9_shift 99 = .ok (.getfield 29, 3) := by decide +kernel
theorem dX9_shift_102 : decode cX9_shift 102 = .ok (.aload_n 0, 1) := by decide +kernel
theorem dX9_shift_103 : decode cX9_shift 103 = .ok (.getfield 10, 3) := by decide +kernel
theorem dX9_shift_106 : decode cX9_shift 106 = .ok (.invokevirtual 62, 3) := by decide +kernel
theorem dX9_shift_109 : decode cX9_shift 109 = .ok (.iload 4, 2) := by decide +kernel
theorem dX9_shift_111 : decode cX9_shift 111 = .ok (.ireturn, 1) := by decide +kernel
theorem dX9_strokeOf_0 : decode cX9_strokeOf 0 = .ok (.aload_n 0, 1) := by decide +kernel
theorem dX9_strokeOf_1 : decode cX9_strokeOf 1 = .ok (.getfield 10, 3) := by decide +kernel
theorem dX9_strokeOf_4 : decode cX9_strokeOf 4 = .ok (.iload_n 1, 1) := by decide +kernel
theorem dX9_strokeOf_5 : decode cX9_strokeOf 5 = .ok (.invokevirtual 107, 3) := by decide +kernel
theorem dX9_strokeOf_8 : decode cX9_strokeOf 8 = .ok (.ifCond .eq 13, 3) := by decide +kernel
theorem dX9_strokeOf_11 : decode cX9_strokeOf 11 = .ok (.iload_n 2, 1) := by decide +kernel
theorem dX9_strokeOf_12 : decode cX9_strokeOf 12 = .ok (.ifCond .lt 9, 3) := by decide +kernel
theorem dX9_strokeOf_15 : decode cX9_strokeOf 15 = .ok (.iload_n 2, 1) := by decide +kernel
theorem dX9_strokeOf_16 : decode cX9_strokeOf 16 = .ok (.bipush 6, 2) := by decide +kernel
theorem dX9_strokeOf_18 : decode cX9_strokeOf 18 = .ok (.if_icmp .le 6, 3) := by decide +kernel
theorem dX9_strokeOf_21 : decode cX9_strokeOf 21 = .ok (.ldc 68, 2) := by decide +kernel
theorem dX9_strokeOf_23 : decode cX9_strokeOf 23 = .ok (.ireturn, 1) := by decide +kernel
theorem dX9_strokeOf_24 : decode cX9_strokeOf 24 = .ok (.iload_n 2, 1) := by decide +kernel
theorem dX9_strokeOf_25 : decode cX9_strokeOf 25 = .ok (.ifCond .ne 15, 3) := by decide +kernel
theorem dX9_strokeOf_28 : decode cX9_strokeOf 28 = .ok (.aload_n 0, 1) := by decide +kernel
theorem dX9_strokeOf_29 : decode cX9_strokeOf 29 = .ok (.getfield 10, 3) := by decide +kernel
theorem dX9_strokeOf_32 : decode cX9_strokeOf 32 = .ok (.getfield 110, 3) := by decide +kernel
theorem dX9_strokeOf_35 : decode cX9_strokeOf 35 = .ok (.iload_n 1, 1) := by decide +kernel
theorem dX9_strokeOf_36 : decode cX9_strokeOf 36 = .ok (.invokevirtual 114, 3) := by decide +kernel
theorem dX9_strokeOf_39 : decode cX9_strokeOf 39 = .ok (.ireturn, 1) := by decide +kernel
theorem dX9_strokeOf_40 : decode cX9_strokeOf 40 = .ok (.iload_n 2, 1) := by decide +kernel
theorem dX9_strokeOf_41 : decode cX9_strokeOf 41 = .ok (.iconst 3, 1) := by decide +kernel
theorem dX9_strokeOf_42 : decode cX9_strokeOf 42 = .ok (.if_icmp .gt 22, 3) := by decide +kernel
theorem dX9_strokeOf_45 : decode cX9_strokeOf 45 = .ok (.iload_n 1, 1) := by decide +kernel
theorem dX9_strokeOf_46 : decode cX9_strokeOf 46 = .ok (.ifCond .ne 8, 3) := by decide +kernel
theorem dX9_strokeOf_49 : decode cX9_strokeOf 49 = .ok (.ldc 122, 2) := by decide +kernel
theorem dX9_strokeOf_51 : decode cX9_strokeOf 51 = .ok (.goto 12, 3) := by decide +kernel
theorem dX9_strokeOf_54 : decode cX9_strokeOf 54 = .ok (.aload_n 0, 1) := by decide +kernel
theorem dX9_strokeOf_55 : decode cX9_strokeOf 55 = .ok (.getfield 29, 3) := by decide +kernel
theorem dX9_strokeOf_58 : decode cX9_strokeOf 58 = .ok (.iload_n 1, 1) := by decide +kernel
theorem dX9_strokeOf_59 : decode cX9_strokeOf 59 = .ok (.iload_n 2, 1) := by decide +kernel
theorem dX9_strokeOf_60 : decode cX9_strokeOf 60 = .ok (.invokevirtual 123, 3) := by decide +kernel
theorem dX9_strokeOf_63 : decode cX9_strokeOf 63 = .ok (.ireturn, 1) := by decide +kernel
theorem dX9_strokeOf_64 : decode cX9_strokeOf 64 = .ok (.aload_n 0, 1) := by decide +kernel
theorem dX9_strokeOf_65 : decode cX9_strokeOf 65 = .ok (.getfield 29, 3) := by decide +kernel
theorem dX9_strokeOf_68 : decode cX9_strokeOf 68 = .ok (.iload_n 1, 1) := by decide +kernel
theorem dX9_strokeOf_69 : decode cX9_strokeOf 69 = .ok (.invokevirtual 127, 3) := by decide +kernel
theorem dX9_strokeOf_72 : decode cX9_strokeOf 72 = .ok (.ifCond .eq 8, 3) := by decide +kernel
theorem dX9_strokeOf_75 : decode cX9_strokeOf 75 = .ok (.ldc 122, 2) := by decide +kernel
theorem dX9_strokeOf_77 : decode cX9_strokeOf 77 = .ok (.goto 12, 3) := by decide +kernel
theorem dX9_strokeOf_80 : decode cX9_strokeOf 80 = .ok (.aload_n 0, 1) := by decide +kernel
theorem dX9_strokeOf_81 : decode cX9_strokeOf 81 = .ok (.getfield 29, 3) := by decide +kernel
theorem dX9_strokeOf_84 : decode cX9_strokeOf 84 = .ok (.iload_n 1, 1) := by decide +kernel
theorem dX9_strokeOf_85 : decode cX9_strokeOf 85 = .ok (.iload_n 2, 1) := by decide +kernel
theorem dX9_strokeOf_86 : decode cX9_strokeOf 86 = .ok (.invokevirtual 130, 3) := by decide +kernel
theorem dX9_strokeOf_89 : decode cX9_strokeOf 89 = .ok (.ireturn, 1) := by decide +kernel
theorem dX9_messageOf_0 : decode cX9_messageOf 0 = .ok (.aload_n 0, 1) := by decide +kernel
theorem dX9_messageOf_1 : decode cX9_messageOf 1 = .ok (.getfield 29, 3) := by decide +kernel
theorem dX9_messageOf_4 : decode cX9_messageOf 4 = .ok (.iload_n 1, 1) := by decide +kernel
theorem dX9_messageOf_5 : decode cX9_messageOf 5 = .ok (.invokevirtual 133, 3) := by decide +kernel
theorem dX9_messageOf_8 : decode cX9_messageOf 8 = .ok (.ifCond .ne 6, 3) := by decide +kernel
theorem dX9_messageOf_11 : decode cX9_messageOf 11 = .ok (.ldc 68, 2) := by decide +kernel
theorem dX9_messageOf_13 : decode cX9_messageOf 13 = .ok (.ireturn, 1) := by decide +kernel
theorem dX9_messageOf_14 : decode cX9_messageOf 14 = .ok (.iload_n 2, 1) := by decide +kernel
theorem dX9_messageOf_15 : decode cX9_messageOf 15 = .ok (.tableswitch 140 0 6 #[41, 50, 65, 82, 97, 110, 125], 41) := by decide +kernel
theorem dX9_messageOf_56 : decode cX9_messageOf 56 = .ok (.aload_n 0, 1) := by decide +kernel
theorem dX9_messageOf_57 : decode cX9_messageOf 57 = .ok (.getfield 29, 3) := by decide +kernel
theorem dX9_messageOf_60 : decode cX9_messageOf 60 = .ok (.iload_n 1, 1) := by decide +kernel
theorem dX9_messageOf_61 : decode cX9_messageOf 61 = .ok (.invokevirtual 136, 3) := by decide +kernel
theorem dX9_messageOf_64 : decode cX9_messageOf 64 = .ok (.ireturn, 1) := by decide +kernel
theorem dX9_messageOf_65 : decode cX9_messageOf 65 = .ok (.aload_n 0, 1) := by decide +kernel
theorem dX9_messageOf_66 : decode cX9_messageOf 66 = .ok (.getfield 29, 3) := by decide +kernel
theorem dX9_messageOf_69 : decode cX9_messageOf 69 = .ok (.getfield 139, 3) := by decide +kernel
theorem dX9_messageOf_72 : decode cX9_messageOf 72 = .ok (.getfield 143, 3) := by decide +kernel
theorem dX9_messageOf_75 : decode cX9_messageOf 75 = .ok (.iload_n 1, 1) := by decide +kernel
theorem dX9_messageOf_76 : decode cX9_messageOf 76 = .ok (.invokevirtual 114, 3) := by decide +kernel
theorem dX9_messageOf_79 : decode cX9_messageOf 79 = .ok (.ireturn, 1) := by decide +kernel
theorem dX9_messageOf_80 : decode cX9_messageOf 80 = .ok (.aload_n 0, 1) := by decide +kernel
theorem dX9_messageOf_81 : decode cX9_messageOf 81 = .ok (.getfield 29, 3) := by decide +kernel
theorem dX9_messageOf_84 : decode cX9_messageOf 84 = .ok (.iload_n 1, 1) := by decide +kernel
theorem dX9_messageOf_85 : decode cX9_messageOf 85 = .ok (.invokevirtual 148, 3) := by decide +kernel
theorem dX9_messageOf_88 : decode cX9_messageOf 88 = .ok (.ifCond .eq 7, 3) := by decide +kernel
theorem dX9_messageOf_91 : decode cX9_messageOf 91 = .ok (.iconst 1, 1) := by decide +kernel
theorem dX9_messageOf_92 : decode cX9_messageOf 92 = .ok (.goto 4, 3) := by decide +kernel
theorem dX9_messageOf_95 : decode cX9_messageOf 95 = .ok (.iconst 0, 1) := by decide +kernel
theorem dX9_messageOf_96 : decode cX9_messageOf 96 = .ok (.ireturn, 1) := by decide +kernel
theorem dX9_messageOf_97 : decode cX9_messageOf 97 = .ok (.aload_n 0, 1) := by decide +kernel
theorem dX9_messageOf_98 : decode cX9_messageOf 98 = .ok (.getfield 29, 3) := by decide +kernel
theorem dX9_messageOf_101 : decode cX9_messageOf 101 = .ok (.getfield 139, 3) := by decide +kernel
theorem dX9_messageOf_104 : decode cX9_messageOf 104 = .ok (.getfield 151, 3) := by decide +kernel
theorem dX9_messageOf_107 : decode cX9_messageOf 107 = .ok (.iload_n 1, 1) := by decide +kernel
theorem dX9_messageOf_108 : decode cX9_messageOf 108 = .ok (.invokevirtual 114, 3) := by decide +kernel
theorem dX9_messageOf_111 : decode cX9_messageOf 111 = .ok (.ireturn, 1) := by decide +kernel
theorem dX9_messageOf_112 : decode cX9_messageOf 112 = .ok (.aload_n 0, 1) := by decide +kernel
theorem dX9_messageOf_113 : decode cX9_messageOf 113 = .ok (.getfield 36, 3) := by decide +kernel
theorem dX9_messageOf_116 : decode cX9_messageOf 116 = .ok (.aload_n 0, 1) := by decide +kernel
theorem dX9_messageOf_117 : decode cX9_messageOf 117 = .ok (.getfield 29, 3) := by decide +kernel
theorem dX9_messageOf_120 : decode cX9_messageOf 120 = .ok (.iload_n 1, 1) := by decide +kernel
theorem dX9_messageOf_121 : decode cX9_messageOf 121 = .ok (.invokevirtual 154, 3) := by decide +kernel
theorem dX9_messageOf_124 : decode cX9_messageOf 124 = .ok (.ireturn, 1) := by decide +kernel
theorem dX9_messageOf_125 : decode cX9_messageOf 125 = .ok (.aload_n 0, 1) := by decide +kernel
theorem dX9_messageOf_126 : decode cX9_messageOf 126 = .ok (.getfield 29, 3) := by decide +kernel
theorem dX9_messageOf_129 : decode cX9_messageOf 129 = .ok (.getfield 139, 3) := by decide +kernel
theorem dX9_messageOf_132 : decode cX9_messageOf 132 = .ok (.getfield 158, 3) := by decide +kernel
theorem dX9_messageOf_135 : decode cX9_messageOf 135 = .ok (.iload_n 1, 1) := by decide +kernel
theorem dX9_messageOf_136 : decode cX9_messageOf 136 = .ok (.invokevirtual 114, 3) := by decide +kernel
theorem dX9_messageOf_139 : decode cX9_messageOf 139 = .ok (.ireturn, 1) := by decide +kernel
