theorem dX0_init_0 : decode cX0_init 0 = .ok (.aload_n 0, 1) := by decide +kernel
theorem dX0_init_1 : decode cX0_init 1 = .ok (.invokespecial 3, 3) := by decide +kernel
theorem dX0_init_4 : decode cX0_init 4 = .ok (.aload_n 0, 1) := by decide +kernel
theorem dX0_init_5 : decode cX0_init 5 = .ok (.new 9, 3) := by decide +kernel
theorem dX0_init_8 : decode cX0_init 8 = .ok (.dup, 1) := by decide +kernel
theorem dX0_init_9 : decode cX0_init 9 = .ok (.bipush 25, 2) := by decide +kernel
theorem dX0_init_11 : decode cX0_init 11 = .ok (.invokespecial 11, 3) := by decide +kernel
theorem dX0_init_14 : decode cX0_init 14 = .ok (.putfield 14, 3) := by decide +kernel
theorem dX0_init_17 : decode cX0_init 17 = .ok (.aload_n 0, 1) := by decide +kernel
theorem dX0_init_18 : decode cX0_init 18 = .ok (.iconst (-1), 1) := by decide +kernel
theorem dX0_init_19 : decode cX0_init 19 = .ok (.putfield 20, 3) := by decide +kernel
theorem dX0_init_22 : decode cX0_init 22 = .ok (.aload_n 0, 1) := by decide +kernel
theorem dX0_init_23 : decode cX0_init 23 = .ok (.iconst 0, 1) := by decide +kernel
theorem dX0_init_24 : decode cX0_init 24 = .ok (.putfield 24, 3) := by decide +kernel
theorem dX0_init_27 : decode cX0_init 27 = .ok (.aload_n 0, 1) := by decide +kernel
theorem dX0_init_28 : decode cX0_init 28 = .ok (.iconst 0, 1) := by decide +kernel
theorem dX0_init_29 : decode cX0_init 29 = .ok (.putfield 27, 3) := by decide +kernel
theorem dX0_init_32 : decode cX0_init 32 = .ok (.return_, 1) := by decide +kernel
theorem dX1_init_0 : decode cX1_init 0 = .ok (.aload_n 0, 1) := by decide +kernel
theorem dX1_init_1 : decode cX1_init 1 = .ok (.invokespecial 3, 3) := by decide +kernel
theorem dX1_init_4 : decode cX1_init 4 = .ok (.aload_n 0, 1) := by decide +kernel
theorem dX1_init_5 : decode cX1_init 5 = .ok (.iconst (-1), 1) := by decide +kernel
theorem dX1_init_6 : decode cX1_init 6 = .ok (.putfield 9, 3) := by decide +kernel
theorem dX1_init_9 : decode cX1_init 9 = .ok (.aload_n 0, 1) := by decide +kernel
theorem dX1_init_10 : decode cX1_init 10 = .ok (.iconst (-1), 1) := by decide +kernel
theorem dX1_init_11 : decode cX1_init 11 = .ok (.putfield 15, 3) := by decide +kernel
theorem dX1_init_14 : decode cX1_init 14 = .ok (.aload_n 0, 1) := by decide +kernel
theorem dX1_init_15 : decode cX1_init 15 = .ok (.iconst 0, 1) := by decide +kernel
theorem dX1_init_16 : decode cX1_init 16 = .ok (.putfield 18, 3) := by decide +kernel
theorem dX1_init_19 : decode cX1_init 19 = .ok (.aload_n 0, 1) := by decide +kernel
theorem dX1_init_20 : decode cX1_init 20 = .ok (.iconst (-1), 1) := by decide +kernel
theorem dX1_init_21 : decode cX1_init 21 = .ok (.putfield 21, 3) := by decide +kernel
theorem dX1_init_24 : decode cX1_init 24 = .ok (.aload_n 0, 1) := by decide +kernel
theorem dX1_init_25 : decode cX1_init 25 = .ok (.iconst 0, 1) := by decide +kernel
theorem dX1_init_26 : decode cX1_init 26 = .ok (.putfield 24, 3) := by decide +kernel
theorem dX1_init_29 : decode cX1_init 29 = .ok (.return_, 1) := by decide +kernel
theorem dX1_fitting_0 : decode cX1_fitting 0 = .ok (.aload_n 0, 1) := by decide +kernel
theorem dX1_fitting_1 : decode cX1_fitting 1 = .ok (.aload_n 1, 1) := by decide +kernel
theorem dX1_fitting_2 : decode cX1_fitting 2 = .ok (.iload_n 2, 1) := by decide +kernel
theorem dX1_fitting_3 : decode cX1_fitting 3 = .ok (.iconst (-1), 1) := by decide +kernel
theorem dX1_fitting_4 : decode cX1_fitting 4 = .ok (.invokevirtual 27, 3) := by decide +kernel
theorem dX1_fitting_7 : decode cX1_fitting 7 = .ok (.aload_n 0, 1) := by decide +kernel
theorem dX1_fitting_8 : decode cX1_fitting 8 = .ok (.getfield 24, 3) := by decide +kernel
theorem dX1_fitting_11 : decode cX1_fitting 11 = .ok (.ireturn, 1) := by decide +kernel
theorem dX1_search_0 : decode cX1_search 0 = .ok (.aload_n 0, 1) := by decide +kernel
theorem dX1_search_1 : decode cX1_search 1 = .ok (.iconst 0, 1) := by decide +kernel
theorem dX1_search_2 : decode cX1_search 2 = .ok (.putfield 24, 3) := by decide +kernel
theorem dX1_search_5 : decode cX1_search 5 = .ok (.iconst 0, 1) := by decide +kernel
theorem dX1_search_6 : decode cX1_search 6 = .ok (.istore 4, 2) := by decide +kernel
theorem dX1_search_8 : decode cX1_search 8 = .ok (.iload 4, 2) := by decide +kernel
theorem dX1_search_10 : decode cX1_search 10 = .ok (.aload_n 1, 1) := by decide +kernel
theorem dX1_search_11 : decode cX1_search 11 = .ok (.iload_n 2, 1) := by decide +kernel
theorem dX1_search_12 : decode cX1_search 12 = .ok (.invokevirtual 42, 3) := by decide +kernel
theorem dX1_search_15 : decode cX1_search 15 = .ok (.if_icmp .ge 48, 3) := by decide +kernel
theorem dX1_search_18 : decode cX1_search 18 = .ok (.iconst 0, 1) := by decide +kernel
theorem dX1_search_19 : decode cX1_search 19 = .ok (.istore 5, 2) := by decide +kernel
theorem dX1_search_21 : decode cX1_search 21 = .ok (.iload 5, 2) := by decide +kernel
theorem dX1_search_23 : decode cX1_search 23 = .ok (.iconst 2, 1) := by decide +kernel
theorem dX1_search_24 : decode cX1_search 24 = .ok (.if_icmp .ge 33, 3) := by decide +kernel
theorem dX1_search_27 : decode cX1_search 27 = .ok (.aload_n 0, 1) := by decide +kernel
theorem dX1_search_28 : decode cX1_search 28 = .ok (.aload_n 1, 1) := by decide +kernel
theorem dX1_search_29 : decode cX1_search 29 = .ok (.iload_n 2, 1) := by decide +kernel
theorem dX1_search_30 : decode cX1_search 30 = .ok (.iload 4, 2) := by decide +kernel
theorem dX1_search_32 : decode cX1_search 32 = .ok (.iload 5, 2) := by decide +kernel
theorem dX1_search_34 : decode cX1_search 34 = .ok (.iconst 1, 1) := by decide +kernel
theorem dX1_search_35 : decode cX1_search 35 = .ok (.iload_n 3, 1) := by decide +kernel
theorem dX1_search_36 : decode cX1_search 36 = .ok (.invokevirtual 46, 3) := by decide +kernel
theorem dX1_search_39 : decode cX1_search 39 = .ok (.aload_n 0, 1) := by decide +kernel
theorem dX1_search_40 : decode cX1_search 40 = .ok (.aload_n 1, 1) := by decide +kernel
theorem dX1_search_41 : decode cX1_search 41 = .ok (.iload_n 2, 1) := by decide +kernel
theorem dX1_search_42 : decode cX1_search 42 = .ok (.iload 4, 2) := by decide +kernel
theorem dX1_search_44 : decode cX1_search 44 = .ok (.iload 5, 2) := by decide +kernel
theorem dX1_search_46 : decode cX1_search 46 = .ok (.iconst (-1), 1) := by decide +kernel
theorem dX1_search_47 : decode cX1_search 47 = .ok (.iload_n 3, 1) := by decide +kernel
theorem dX1_search_48 : decode cX1_search 48 = .ok (.invokevirtual 46, 3) := by decide +kernel
theorem dX1_search_51 : decode cX1_search 51 = .ok (.iinc 5 1, 3) := by decide +kernel
theorem dX1_search_54 : decode cX1_search 54 = .ok (.goto (-33), 3) := by decide +kernel
theorem dX1_search_57 : decode cX1_search 57 = .ok (.iinc 4 1, 3) := by decide +kernel
theorem dX1_search_60 : decode cX1_search 60 = .ok (.goto (-52), 3) := by decide +kernel
theorem dX1_search_63 : decode cX1_search 63 = .ok (.return_, 1) := by decide +kernel
theorem dX1_consider_0 : decode cX1_consider 0 = .ok (.aload_n 1, 1) := by decide +kernel
theorem dX1_consider_1 : decode cX1_consider 1 = .ok (.getfield 50, 3) := by decide +kernel
theorem dX1_consider_4 : decode cX1_consider 4 = .ok (.aload_n 1, 1) := by decide +kernel
theorem dX1_consider_5 : decode cX1_consider 5 = .ok (.iload_n 2, 1) := by decide +kernel
theorem dX1_consider_6 : decode cX1_consider 6 = .ok (.iload_n 3, 1) := by decide +kernel
theorem dX1_consider_7 : decode cX1_consider 7 = .ok (.invokevirtual 54, 3) := by decide +kernel
theorem dX1_consider_10 : decode cX1_consider 10 = .ok (.iload 4, 2) := by decide +kernel
theorem dX1_consider_12 : decode cX1_consider 12 = .ok (.iload 5, 2) := by decide +kernel
theorem dX1_consider_14 : decode cX1_consider 14 = .ok (.invokevirtual 58, 3) := by decide +kernel
theorem dX1_consider_17 : decode cX1_consider 17 = .ok (.istore 7, 2) := by decide +kernel
theorem dX1_consider_19 : decode cX1_consider 19 = .ok (.iload 7, 2) := by decide +kernel
theorem dX1_consider_21 : decode cX1_consider 21 = .ok (.iconst (-1), 1) := by decide +kernel
theorem dX1_consider_22 : decode cX1_consider 22 = .ok (.if_icmp .eq 14, 3) := by decide +kernel
theorem dX1_consider_25 : decode cX1_consider 25 = .ok (.aload_n 1, 1) := by decide +kernel
theorem dX1_consider_26 : decode cX1_consider 26 = .ok (.iload_n 2, 1) := by decide +kernel
theorem dX1_consider_27 : decode cX1_consider 27 = .ok (.iload_n 3, 1) := by decide +kernel
theorem dX1_consider_28 : decode cX1_consider 28 = .ok (.iload 7, 2) := by decide +kernel
theorem dX1_consider_30 : decode cX1_consider 30 = .ok (.invokevirtual 64, 3) := by decide +kernel
theorem dX1_consider_33 : decode cX1_consider 33 = .ok (.ifCond .ne 4, 3) := by decide +kernel
theorem dX1_consider_36 : decode cX1_consider 36 = .ok (.return_, 1) := by decide +kernel
theorem dX1_consider_37 : decode cX1_consider 37 = .ok (.aload_n 0, 1) := by decide +kernel
theorem dX1_consider_38 : decode cX1_consider 38 = .ok (.getfield 24, 3) := by decide +kernel
theorem dX1_consider_41 : decode cX1_consider 41 = .ok (.iload 6, 2) := by decide +kernel
theorem dX1_consider_43 : decode cX1_consider 43 = .ok (.if_icmp .ne 26, 3) := by decide +kernel
theorem dX1_consider_46 : decode cX1_consider 46 = .ok (.aload_n 0, 1) := by decide +kernel
theorem dX1_consider_47 : decode cX1_consider 47 = .ok (.iload_n 3, 1) := by decide +kernel
theorem dX1_consider_48 : decode cX1_consider 48 = .ok (.putfield 9, 3) := by decide +kernel
theorem dX1_consider_51 : decode cX1_consider 51 = .ok (.aload_n 0, 1) := by decide +kernel
theorem dX1_consider_52 : decode cX1_consider 52 = .ok (.iload 4, 2) := by decide +kernel
theorem dX1_consider_54 : decode cX1_consider 54 = .ok (.putfield 15, 3) := by decide +kernel
theorem dX1_consider_57 : decode cX1_consider 57 = .ok (.aload_n 0, 1) := by decide +kernel
theorem dX1_consider_58 : decode cX1_consider 58 = .ok (.iload 5, 2) := by decide +kernel
theorem dX1_consider_60 : decode cX1_consider 60 = .ok (.putfield 18, 3) := by decide +kernel
theorem dX1_consider_63 : decode cX1_consider 63 = .ok (.aload_n 0, 1) := by decide +kernel
theorem dX1_consider_64 : decode cX1_consider 64 = .ok (.iload 7, 2) := by decide +kernel
theorem dX1_consider_66 : decode cX1_consider 66 = .ok (.putfield 21, 3) := by decide +kernel
theorem dX1_consider_69 : decode cX1_consider 69 = .ok (.aload_n 0, 1) := by decide +kernel
theorem dX1_consider_70 : decode cX1_consider 70 = .ok (.dup, 1) := by decide +kernel
theorem dX1_consider_71 : decode cX1_consider 71 = .ok (.getfield 24, 3) := by decide +kernel
theorem dX1_consider_74 : decode cX1_consider 74 = .ok (.iconst 1, 1) := by decide +kernel
theorem dX1_consider_75 : decode cX1_consider 75 = .ok (.iadd, 1) := by decide +kernel
theorem dX1_consider_76 : decode cX1_consider 76 = .ok (.putfield 24, 3) := by decide +kernel
theorem dX1_consider_79 : decode cX1_consider 79 = .ok (.return_, 1) := by decide +kernel
theorem dX2_init_0 : decode cX2_init 0 = .ok (.aload_n 0, 1) := by decide +kernel
theorem dX2_init_1 : decode cX2_init 1 = .ok (.invokespecial 3, 3) := by decide +kernel
theorem dX2_init_4 : decode cX2_init 4 = .ok (.aload_n 0, 1) := by decide +kernel
theorem dX2_init_5 : decode cX2_init 5 = .ok (.iconst 4, 1) := by decide +kernel
theorem dX2_init_6 : decode cX2_init 6 = .ok (.anewarray 9, 3) := by decide +kernel
theorem dX2_init_9 : decode cX2_init 9 = .ok (.putfield 11, 3) := by decide +kernel
theorem dX2_init_12 : decode cX2_init 12 = .ok (.aload_n 0, 1) := by decide +kernel
theorem dX2_init_13 : decode cX2_init 13 = .ok (.iconst 0, 1) := by decide +kernel
theorem dX2_init_14 : decode cX2_init 14 = .ok (.putfield 17, 3) := by decide +kernel
theorem dX2_init_17 : decode cX2_init 17 = .ok (.aload_n 0, 1) := by decide +kernel
theorem dX2_init_18 : decode cX2_init 18 = .ok (.iconst 0, 1) := by decide +kernel
theorem dX2_init_19 : decode cX2_init 19 = .ok (.putfield 21, 3) := by decide +kernel
theorem dX2_init_22 : decode cX2_init 22 = .ok (.iconst 0, 1) := by decide +kernel
theorem dX2_init_23 : decode cX2_init 23 = .ok (.istore_n 1, 1) := by decide +kernel
theorem dX2_init_24 : decode cX2_init 24 = .ok (.iload_n 1, 1) := by decide +kernel
theorem dX2_init_25 : decode cX2_init 25 = .ok (.aload_n 0, 1) := by decide +kernel
theorem dX2_init_26 : decode cX2_init 26 = .ok (.getfield 11, 3) := by decide +kernel
theorem dX2_init_29 : decode cX2_init 29 = .ok (.arraylength, 1) := by decide +kernel
theorem dX2_init_30 : decode cX2_init 30 = .ok (.if_icmp .ge 22, 3) := by decide +kernel
theorem dX2_init_33 : decode cX2_init 33 = .ok (.aload_n 0, 1) := by decide +kernel
theorem dX2_init_34 : decode cX2_init 34 = .ok (.getfield 11, 3) := by decide +kernel
theorem dX2_init_37 : decode cX2_init 37 = .ok (.iload_n 1, 1) := by decide +kernel
theorem dX2_init_38 : decode cX2_init 38 = .ok (.new 9, 3) := by decide +kernel
theorem dX2_init_41 : decode cX2_init 41 = .ok (.dup, 1) := by decide +kernel
theorem dX2_init_42 : decode cX2_init 42 = .ok (.invokespecial 24, 3) := by decide +kernel
theorem dX2_init_45 : decode cX2_init 45 = .ok (.aastore, 1) := by decide +kernel
theorem dX2_init_46 : decode cX2_init 46 = .ok (.iinc 1 1, 3) := by decide +kernel
theorem dX2_init_49 : decode cX2_init 49 = .ok (.goto (-25), 3) := by decide +kernel
theorem dX2_init_52 : decode cX2_init 52 = .ok (.return_, 1) := by decide +kernel
theorem dX2_record_0 : decode cX2_record 0 = .ok (.aload_n 0, 1) := by decide +kernel
theorem dX2_record_1 : decode cX2_record 1 = .ok (.getfield 21, 3) := by decide +kernel
theorem dX2_record_4 : decode cX2_record 4 = .ok (.iconst 4, 1) := by decide +kernel
theorem dX2_record_5 : decode cX2_record 5 = .ok (.if_icmp .ne 25, 3) := by decide +kernel
theorem dX2_record_8 : decode cX2_record 8 = .ok (.aload_n 0, 1) := by decide +kernel
theorem dX2_record_9 : decode cX2_record 9 = .ok (.aload_n 0, 1) := by decide +kernel
theorem dX2_record_10 : decode cX2_record 10 = .ok (.getfield 17, 3) := by decide +kernel
theorem dX2_record_13 : decode cX2_record 13 = .ok (.iconst 1, 1) := by decide +kernel
theorem dX2_record_14 : decode cX2_record 14 = .ok (.iadd, 1) := by decide +kernel
theorem dX2_record_15 : decode cX2_record 15 = .ok (.iconst 4, 1) := by decide +kernel
theorem dX2_record_16 : decode cX2_record 16 = .ok (.irem, 1) := by decide +kernel
theorem dX2_record_17 : decode cX2_record 17 = .ok (.putfield 17, 3) := by decide +kernel
theorem dX2_record_20 : decode cX2_record 20 = .ok (.aload_n 0, 1) := by decide +kernel
theorem dX2_record_21 : decode cX2_record 21 = .ok (.dup, 1) := by decide +kernel
theorem dX2_record_22 : decode cX2_record 22 = .ok (.getfield 21, 3) := by decide +kernel
theorem dX2_record_25 : decode cX2_record 25 = .ok (.iconst 1, 1) := by decide +kernel
theorem dX2_record_26 : decode cX2_record 26 = .ok (.isub, 1) := by decide +kernel
theorem dX2_record_27 : decode cX2_record 27 = .ok (.putfield 21, 3) := by decide +kernel
theorem dX2_record_30 : decode cX2_record 30 = .ok (.aload_n 0, 1) := by decide +kernel
theorem dX2_record_31 : decode cX2_record 31 = .ok (.aload_n 0, 1) := by decide +kernel
theorem dX2_record_32 : decode cX2_record 32 = .ok (.getfield 21, 3) := by decide +kernel
theorem dX2_record_35 : decode cX2_record 35 = .ok (.invokevirtual 25, 3) := by decide +kernel
theorem dX2_record_38 : decode cX2_record 38 = .ok (.astore_n 2, 1) := by decide +kernel
theorem dX2_record_39 : decode cX2_record 39 = .ok (.aload_n 2, 1) := by decide +kernel
theorem dX2_record_40 : decode cX2_record 40 = .ok (.ifnull 18, 3) := by decide +kernel
theorem dX2_record_43 : decode cX2_record 43 = .ok (.aload_n 2, 1) := by decide +kernel
theorem dX2_record_44 : decode cX2_record 44 = .ok (.aload_n 1, 1) := by decide +kernel
theorem dX2_record_45 : decode cX2_record 45 = .ok (.invokevirtual 29, 3) := by decide +kernel
theorem dX2_record_48 : decode cX2_record 48 = .ok (.aload_n 0, 1) := by decide +kernel
theorem dX2_record_49 : decode cX2_record 49 = .ok (.dup, 1) := by decide +kernel
theorem dX2_record_50 : decode cX2_record 50 = .ok (.getfield 21, 3) := by decide +kernel
theorem dX2_record_53 : decode cX2_record 53 = .ok (.iconst 1, 1) := by decide +kernel
theorem dX2_record_54 : decode cX2_record 54 = .ok (.iadd, 1) := by decide +kernel
theorem dX2_record_55 : decode cX2_record 55 = .ok (.putfield 21, 3) := by decide +kernel
theorem dX2_record_58 : decode cX2_record 58 = .ok (.return_, 1) := by decide +kernel
theorem dX2_stateAt_0 : decode cX2_stateAt 0 = .ok (.aload_n 0, 1) := by decide +kernel
theorem dX2_stateAt_1 : decode cX2_stateAt 1 = .ok (.getfield 17, 3) := by decide +kernel
theorem dX2_stateAt_4 : decode cX2_stateAt 4 = .ok (.iload_n 1, 1) := by decide +kernel
theorem dX2_stateAt_5 : decode cX2_stateAt 5 = .ok (.iadd, 1) := by decide +kernel
theorem dX2_stateAt_6 : decode cX2_stateAt 6 = .ok (.iconst 4, 1) := by decide +kernel
theorem dX2_stateAt_7 : decode cX2_stateAt 7 = .ok (.invokestatic 33, 3) := by decide +kernel
theorem dX2_stateAt_10 : decode cX2_stateAt 10 = .ok (.istore_n 2, 1) := by decide +kernel
theorem dX2_stateAt_11 : decode cX2_stateAt 11 = .ok (.iload_n 2, 1) := by decide +kernel
theorem dX2_stateAt_12 : decode cX2_stateAt 12 = .ok (.aload_n 0, 1) := by decide +kernel
theorem dX2_stateAt_13 : decode cX2_stateAt 13 = .ok (.getfield 11, 3) := by decide +kernel
theorem dX2_stateAt_16 : decode cX2_stateAt 16 = .ok (.arraylength, 1) := by decide +kernel
theorem dX2_stateAt_17 : decode cX2_stateAt 17 = .ok (.if_icmp .ge 12, 3) := by decide +kernel
theorem dX2_stateAt_20 : decode cX2_stateAt 20 = .ok (.aload_n 0, 1) := by decide +kernel
theorem dX2_stateAt_21 : decode cX2_stateAt 21 = .ok (.getfield 11, 3) := by decide +kernel
theorem dX2_stateAt_24 : decode cX2_stateAt 24 = .ok (.iload_n 2, 1) := by decide +kernel
theorem dX2_stateAt_25 : decode cX2_stateAt 25 = .ok (.aaload, 1) := by decide +kernel
theorem dX2_stateAt_26 : decode cX2_stateAt 26 = .ok (.goto 4, 3) := by decide +kernel
theorem dX2_stateAt_29 : decode cX2_stateAt 29 = .ok (.aconst_null, 1) := by decide +kernel
theorem dX2_stateAt_30 : decode cX2_stateAt 30 = .ok (.areturn, 1) := by decide +kernel
theorem dX3_init_0 : decode cX3_init 0 = .ok (.aload_n 0, 1) := by decide +kernel
theorem dX3_init_1 : decode cX3_init 1 = .ok (.invokespecial 3, 3) := by decide +kernel
theorem dX3_init_4 : decode cX3_init 4 = .ok (.aload_n 0, 1) := by decide +kernel
theorem dX3_init_5 : decode cX3_init 5 = .ok (.new 9, 3) := by decide +kernel
theorem dX3_init_8 : decode cX3_init 8 = .ok (.dup, 1) := by decide +kernel
theorem dX3_init_9 : decode cX3_init 9 = .ok (.sipush 160, 3) := by decide +kernel
theorem dX3_init_12 : decode cX3_init 12 = .ok (.invokespecial 11, 3) := by decide +kernel
theorem dX3_init_15 : decode cX3_init 15 = .ok (.putfield 14, 3) := by decide +kernel
theorem dX3_init_18 : decode cX3_init 18 = .ok (.aload_n 0, 1) := by decide +kernel
theorem dX3_init_19 : decode cX3_init 19 = .ok (.new 9, 3) := by decide +kernel
theorem dX3_init_22 : decode cX3_init 22 = .ok (.dup, 1) := by decide +kernel
theorem dX3_init_23 : decode cX3_init 23 = .ok (.sipush 160, 3) := by decide +kernel
theorem dX3_init_26 : decode cX3_init 26 = .ok (.invokespecial 11, 3) := by decide +kernel
theorem dX3_init_29 : decode cX3_init 29 = .ok (.putfield 20, 3) := by decide +kernel
theorem dX3_init_32 : decode cX3_init 32 = .ok (.aload_n 0, 1) := by decide +kernel
theorem dX3_init_33 : decode cX3_init 33 = .ok (.new 9, 3) := by decide +kernel
theorem dX3_init_36 : decode cX3_init 36 = .ok (.dup, 1) := by decide +kernel
theorem dX3_init_37 : decode cX3_init 37 = .ok (.sipush 160, 3) := by decide +kernel
theorem dX3_init_40 : decode cX3_init 40 = .ok (.invokespecial 11, 3) := by decide +kernel
theorem dX3_init_43 : decode cX3_init 43 = .ok (.putfield 23, 3) := by decide +kernel
theorem dX3_init_46 : decode cX3_init 46 = .ok (.aload_n 0, 1) := by decide +kernel
theorem dX3_init_47 : decode cX3_init 47 = .ok (.new 9, 3) := by decide +kernel
theorem dX3_init_50 : decode cX3_init 50 = .ok (.dup, 1) := by decide +kernel
theorem dX3_init_51 : decode cX3_init 51 = .ok (.sipush 160, 3) := by decide +kernel
theorem dX3_init_54 : decode cX3_init 54 = .ok (.invokespecial 11, 3) := by decide +kernel
theorem dX3_init_57 : decode cX3_init 57 = .ok (.putfield 26, 3) := by decide +kernel
theorem dX3_init_60 : decode cX3_init 60 = .ok (.aload_n 0, 1) := by decide +kernel
theorem dX3_init_61 : decode cX3_init 61 = .ok (.new 9, 3) := by decide +kernel
theorem dX3_init_64 : decode cX3_init 64 = .ok (.dup, 1) := by decide +kernel
theorem dX3_init_65 : decode cX3_init 65 = .ok (.bipush 25, 2) := by decide +kernel
theorem dX3_init_67 : decode cX3_init 67 = .ok (.invokespecial 11, 3) := by decide +kernel
theorem dX3_init_70 : decode cX3_init 70 = .ok (.putfield 29, 3) := by decide +kernel
theorem dX3_init_73 : decode cX3_init 73 = .ok (.aload_n 0, 1) := by decide +kernel
theorem dX3_init_74 : decode cX3_init 74 = .ok (.iconst 0, 1) := by decide +kernel
theorem dX3_init_75 : decode cX3_init 75 = .ok (.putfield 32, 3) := by decide +kernel
theorem dX3_init_78 : decode cX3_init 78 = .ok (.return_, 1) := by decide +kernel
theorem dX3_restart_0 : decode cX3_restart 0 = .ok (.aload_n 0, 1) := by decide +kernel
theorem dX3_restart_1 : decode cX3_restart 1 = .ok (.iconst 0, 1) := by decide +kernel
theorem dX3_restart_2 : decode cX3_restart 2 = .ok (.putfield 32, 3) := by decide +kernel
theorem dX3_restart_5 : decode cX3_restart 5 = .ok (.iconst 0, 1) := by decide +kernel
theorem dX3_restart_6 : decode cX3_restart 6 = .ok (.istore_n 2, 1) := by decide +kernel
theorem dX3_restart_7 : decode cX3_restart 7 = .ok (.iload_n 2, 1) := by decide +kernel
theorem dX3_restart_8 : decode cX3_restart 8 = .ok (.bipush 25, 2) := by decide +kernel
theorem dX3_restart_10 : decode cX3_restart 10 = .ok (.if_icmp .ge 25, 3) := by decide +kernel
theorem dX3_restart_13 : decode cX3_restart 13 = .ok (.aload_n 0, 1) := by decide +kernel
theorem dX3_restart_14 : decode cX3_restart 14 = .ok (.getfield 29, 3) := by decide +kernel
theorem dX3_restart_17 : decode cX3_restart 17 = .ok (.aload_n 1, 1) := by decide +kernel
theorem dX3_restart_18 : decode cX3_restart 18 = .ok (.getfield 36, 3) := by decide +kernel
theorem dX3_restart_21 : decode cX3_restart 21 = .ok (.iload_n 2, 1) := by decide +kernel
theorem dX3_restart_22 : decode cX3_restart 22 = .ok (.invokevirtual 41, 3) := by decide +kernel
theorem dX3_restart_25 : decode cX3_restart 25 = .ok (.iload_n 2, 1) := by decide +kernel
theorem dX3_restart_26 : decode cX3_restart 26 = .ok (.invokevirtual 45, 3) := by decide +kernel
theorem dX3_restart_29 : decode cX3_restart 29 = .ok (.iinc 2 1, 3) := by decide +kernel
theorem dX3_restart_32 : decode cX3_restart 32 = .ok (.goto (-25), 3) := by decide +kernel
theorem dX3_restart_35 : decode cX3_restart 35 = .ok (.return_, 1) := by decide +kernel
theorem dX3_begin_0 : decode cX3_begin 0 = .ok (.aload_n 0, 1) := by decide +kernel
theorem dX3_begin_1 : decode cX3_begin 1 = .ok (.getfield 14, 3) := by decide +kernel
theorem dX3_begin_4 : decode cX3_begin 4 = .ok (.aload_n 0, 1) := by decide +kernel
theorem dX3_begin_5 : decode cX3_begin 5 = .ok (.getfield 32, 3) := by decide +kernel
theorem dX3_begin_8 : decode cX3_begin 8 = .ok (.iconst 1, 1) := by decide +kernel
theorem dX3_begin_9 : decode cX3_begin 9 = .ok (.invokevirtual 45, 3) := by decide +kernel
theorem dX3_begin_12 : decode cX3_begin 12 = .ok (.aload_n 0, 1) := by decide +kernel
theorem dX3_begin_13 : decode cX3_begin 13 = .ok (.getfield 20, 3) := by decide +kernel
theorem dX3_begin_16 : decode cX3_begin 16 = .ok (.aload_n 0, 1) := by decide +kernel
theorem dX3_begin_17 : decode cX3_begin 17 = .ok (.getfield 32, 3) := by decide +kernel
theorem dX3_begin_20 : decode cX3_begin 20 = .ok (.iconst 1, 1) := by decide +kernel
theorem dX3_begin_21 : decode cX3_begin 21 = .ok (.invokevirtual 45, 3) := by decide +kernel
theorem dX3_begin_24 : decode cX3_begin 24 = .ok (.aload_n 0, 1) := by decide +kernel
theorem dX3_begin_25 : decode cX3_begin 25 = .ok (.getfield 23, 3) := by decide +kernel
theorem dX3_begin_28 : decode cX3_begin 28 = .ok (.aload_n 0, 1) := by decide +kernel
theorem dX3_begin_29 : decode cX3_begin 29 = .ok (.getfield 32, 3) := by decide +kernel
theorem dX3_begin_32 : decode cX3_begin 32 = .ok (.iconst 0, 1) := by decide +kernel
theorem dX3_begin_33 : decode cX3_begin 33 = .ok (.invokevirtual 45, 3) := by decide +kernel
theorem dX3_begin_36 : decode cX3_begin 36 = .ok (.aload_n 0, 1) := by decide +kernel
theorem dX3_begin_37 : decode cX3_begin 37 = .ok (.dup, 1) := by decide +kernel
theorem dX3_begin_38 : decode cX3_begin 38 = .ok (.getfield 32, 3) := by decide +kernel
theorem dX3_begin_41 : decode cX3_begin 41 = .ok (.iconst 1, 1) := by decide +kernel
theorem dX3_begin_42 : decode cX3_begin 42 = .ok (.iadd, 1) := by decide +kernel
theorem dX3_begin_43 : decode cX3_begin 43 = .ok (.putfield 32, 3) := by decide +kernel
theorem dX3_begin_46 : decode cX3_begin 46 = .ok (.return_, 1) := by decide +kernel
theorem dX3_beginGroup_0 : decode cX3_beginGroup 0 = .ok (.aload_n 0, 1) := by decide +kernel
theorem dX3_beginGroup_1 : decode cX3_beginGroup 1 = .ok (.getfield 14, 3) := by decide +kernel
theorem dX3_beginGroup_4 : decode cX3_beginGroup 4 = .ok (.aload_n 0, 1) := by decide +kernel
theorem dX3_beginGroup_5 : decode cX3_beginGroup 5 = .ok (.getfield 32, 3) := by decide +kernel
theorem dX3_beginGroup_8 : decode cX3_beginGroup 8 = .ok (.iconst 1, 1) := by decide +kernel
theorem dX3_beginGroup_9 : decode cX3_beginGroup 9 = .ok (.isub, 1) := by decide +kernel
theorem dX3_beginGroup_10 : decode cX3_beginGroup 10 = .ok (.iconst 1, 1) := by decide +kernel
theorem dX3_beginGroup_11 : decode cX3_beginGroup 11 = .ok (.invokevirtual 49, 3) := by decide +kernel
theorem dX3_beginGroup_14 : decode cX3_beginGroup 14 = .ok (.aload_n 0, 1) := by decide +kernel
theorem dX3_beginGroup_15 : decode cX3_beginGroup 15 = .ok (.iconst 1, 1) := by decide +kernel
theorem dX3_beginGroup_16 : decode cX3_beginGroup 16 = .ok (.invokevirtual 52, 3) := by decide +kernel
theorem dX3_beginGroup_19 : decode cX3_beginGroup 19 = .ok (.return_, 1) := by decide +kernel
theorem dX3_lengthen_0 : decode cX3_lengthen 0 = .ok (.aload_n 0, 1) := by decide +kernel
theorem dX3_lengthen_1 : decode cX3_lengthen 1 = .ok (.getfield 32, 3) := by decide +kernel
theorem dX3_lengthen_4 : decode cX3_lengthen 4 = .ok (.iconst 1, 1) := by decide +kernel
theorem dX3_lengthen_5 : decode cX3_lengthen 5 = .ok (.isub, 1) := by decide +kernel
theorem dX3_lengthen_6 : decode cX3_lengthen 6 = .ok (.istore_n 2, 1) := by decide +kernel
theorem dX3_lengthen_7 : decode cX3_lengthen 7 = .ok (.aload_n 0, 1) := by decide +kernel
theorem dX3_lengthen_8 : decode cX3_lengthen 8 = .ok (.getfield 14, 3) := by decide +kernel
theorem dX3_lengthen_11 : decode cX3_lengthen 11 = .ok (.iload_n 2, 1) := by decide +kernel
theorem dX3_lengthen_12 : decode cX3_lengthen 12 = .ok (.invokevirtual 41, 3) := by decide +kernel
theorem dX3_lengthen_15 : decode cX3_lengthen 15 = .ok (.iconst 1, 1) := by decide +kernel
theorem dX3_lengthen_16 : decode cX3_lengthen 16 = .ok (.if_icmp .ne 15, 3) := by decide +kernel
theorem dX3_lengthen_19 : decode cX3_lengthen 19 = .ok (.aload_n 0, 1) := by decide +kernel
theorem dX3_lengthen_20 : decode cX3_lengthen 20 = .ok (.getfield 20, 3) := by decide +kernel
theorem dX3_lengthen_23 : decode cX3_lengthen 23 = .ok (.iload_n 2, 1) := by decide +kernel
theorem dX3_lengthen_24 : decode cX3_lengthen 24 = .ok (.iload_n 1, 1) := by decide +kernel
theorem dX3_lengthen_25 : decode cX3_lengthen 25 = .ok (.invokevirtual 49, 3) := by decide +kernel
theorem dX3_lengthen_28 : decode cX3_lengthen 28 = .ok (.goto 24, 3) := by decide +kernel
theorem dX3_lengthen_31 : decode cX3_lengthen 31 = .ok (.aload_n 0, 1) := by decide +kernel
theorem dX3_lengthen_32 : decode cX3_lengthen 32 = .ok (.getfield 14, 3) := by decide +kernel
theorem dX3_lengthen_35 : decode cX3_lengthen 35 = .ok (.iload_n 2, 1) := by decide +kernel
theorem dX3_lengthen_36 : decode cX3_lengthen 36 = .ok (.invokevirtual 41, 3) := by decide +kernel
theorem dX3_lengthen_39 : decode cX3_lengthen 39 = .ok (.iconst 2, 1) := by decide +kernel
theorem dX3_lengthen_40 : decode cX3_lengthen 40 = .ok (.if_icmp .ne 12, 3) := by decide +kernel
theorem dX3_lengthen_43 : decode cX3_lengthen 43 = .ok (.aload_n 0, 1) := by decide +kernel
theorem dX3_lengthen_44 : decode cX3_lengthen 44 = .ok (.getfield 23, 3) := by decide +kernel
theorem dX3_lengthen_47 : decode cX3_lengthen 47 = .ok (.iload_n 2, 1) := by decide +kernel
theorem dX3_lengthen_48 : decode cX3_lengthen 48 = .ok (.iload_n 1, 1) := by decide +kernel
theorem dX3_lengthen_49 : decode cX3_lengthen 49 = .ok (.invokevirtual 49, 3) := by decide +kernel
theorem dX3_lengthen_52 : decode cX3_lengthen 52 = .ok (.return_, 1) := by decide +kernel
theorem dX3_settle_0 : decode cX3_settle 0 = .ok (.iconst 0, 1) := by decide +kernel
theorem dX3_settle_1 : decode cX3_settle 1 = .ok (.istore_n 1, 1) := by decide +kernel
theorem dX3_settle_2 : decode cX3_settle 2 = .ok (.iload_n 1, 1) := by decide +kernel
theorem dX3_settle_3 : decode cX3_settle 3 = .ok (.aload_n 0, 1) := by decide +kernel
theorem dX3_settle_4 : decode cX3_settle 4 = .ok (.getfield 32, 3) := by decide +kernel
theorem dX3_settle_7 : decode cX3_settle 7 = .ok (.if_icmp .ge 24, 3) := by decide +kernel
theorem dX3_settle_10 : decode cX3_settle 10 = .ok (.aload_n 0, 1) := by decide +kernel
theorem dX3_settle_11 : decode cX3_settle 11 = .ok (.getfield 26, 3) := by decide +kernel
theorem dX3_settle_14 : decode cX3_settle 14 = .ok (.iload_n 1, 1) := by decide +kernel
theorem dX3_settle_15 : decode cX3_settle 15 = .ok (.aload_n 0, 1) := by decide +kernel
theorem dX3_settle_16 : decode cX3_settle 16 = .ok (.iload_n 1, 1) := by decide +kernel
theorem dX3_settle_17 : decode cX3_settle 17 = .ok (.iconst 0, 1) := by decide +kernel
theorem dX3_settle_18 : decode cX3_settle 18 = .ok (.iconst 0, 1) := by decide +kernel
theorem dX3_settle_19 : decode cX3_settle 19 = .ok (.invokevirtual 55, 3) := by decide +kernel
theorem dX3_settle_22 : decode cX3_settle 22 = .ok (.invokevirtual 45, 3) := by decide +kernel
theorem dX3_settle_25 : decode cX3_settle 25 = .ok (.iinc 1 1, 3) := by decide +kernel
theorem dX3_settle_28 : decode cX3_settle 28 = .ok (.goto (-26), 3) := by decide +kernel
theorem dX3_settle_31 : decode cX3_settle 31 = .ok (.return_, 1) := by decide +kernel
theorem dX3_letterWith_0 : decode cX3_letterWith 0 = .ok (.aload_n 0, 1) := by decide +kernel
theorem dX3_letterWith_1 : decode cX3_letterWith 1 = .ok (.getfield 14, 3) := by decide +kernel
theorem dX3_letterWith_4 : decode cX3_letterWith 4 = .ok (.iload_n 1, 1) := by decide +kernel
theorem dX3_letterWith_5 : decode cX3_letterWith 5 = .ok (.invokevirtual 41, 3) := by decide +kernel
theorem dX3_letterWith_8 : decode cX3_letterWith 8 = .ok (.iconst 2, 1) := by decide +kernel
theorem dX3_letterWith_9 : decode cX3_letterWith 9 = .ok (.if_icmp .eq 5, 3) := by decide +kernel
theorem dX3_letterWith_12 : decode cX3_letterWith 12 = .ok (.iconst (-1), 1) := by decide +kernel
theorem dX3_letterWith_13 : decode cX3_letterWith 13 = .ok (.ireturn, 1) := by decide +kernel
theorem dX3_letterWith_14 : decode cX3_letterWith 14 = .ok (.aload_n 0, 1) := by decide +kernel
theorem dX3_letterWith_15 : decode cX3_letterWith 15 = .ok (.getfield 20, 3) := by decide +kernel
theorem dX3_letterWith_18 : decode cX3_letterWith 18 = .ok (.iload_n 1, 1) := by decide +kernel
theorem dX3_letterWith_19 : decode cX3_letterWith 19 = .ok (.invokevirtual 41, 3) := by decide +kernel
theorem dX3_letterWith_22 : decode cX3_letterWith 22 = .ok (.iload_n 2, 1) := by decide +kernel
theorem dX3_letterWith_23 : decode cX3_letterWith 23 = .ok (.ifCond .ne 7, 3) := by decide +kernel
theorem dX3_letterWith_26 : decode cX3_letterWith 26 = .ok (.iload_n 3, 1) := by decide +kernel
theorem dX3_letterWith_27 : decode cX3_letterWith 27 = .ok (.goto 4, 3) := by decide +kernel
theorem dX3_letterWith_30 : decode cX3_letterWith 30 = .ok (.iconst 0, 1) := by decide +kernel
theorem dX3_letterWith_31 : decode cX3_letterWith 31 = .ok (.iadd, 1) := by decide +kernel
theorem dX3_letterWith_32 : decode cX3_letterWith 32 = .ok (.istore 4, 2) := by decide +kernel
theorem dX3_letterWith_34 : decode cX3_letterWith 34 = .ok (.aload_n 0, 1) := by decide +kernel
theorem dX3_letterWith_35 : decode cX3_letterWith 35 = .ok (.getfield 23, 3) := by decide +kernel
theorem dX3_letterWith_38 : decode cX3_letterWith 38 = .ok (.iload_n 1, 1) := by decide +kernel
theorem dX3_letterWith_39 : decode cX3_letterWith 39 = .ok (.invokevirtual 41, 3) := by decide +kernel
theorem dX3_letterWith_42 : decode cX3_letterWith 42 = .ok (.iload_n 2, 1) := by decide +kernel
theorem dX3_letterWith_43 : decode cX3_letterWith 43 = .ok (.iconst 1, 1) := by decide +kernel
theorem dX3_letterWith_44 : decode cX3_letterWith 44 = .ok (.if_icmp .ne 7, 3) := by decide +kernel
theorem dX3_letterWith_47 : decode cX3_letterWith 47 = .ok (.iload_n 3, 1) := by decide +kernel
theorem dX3_letterWith_48 : decode cX3_letterWith 48 = .ok (.goto 4, 3) := by decide +kernel
theorem dX3_letterWith_51 : decode cX3_letterWith 51 = .ok (.iconst 0, 1) := by decide +kernel
theorem dX3_letterWith_52 : decode cX3_letterWith 52 = .ok (.iadd, 1) := by decide +kernel
theorem dX3_letterWith_53 : decode cX3_letterWith 53 = .ok (.istore 5, 2) := by decide +kernel
theorem dX3_letterWith_55 : decode cX3_letterWith 55 = .ok (.aload_n 0, 1) := by decide +kernel
theorem dX3_letterWith_56 : decode cX3_letterWith 56 = .ok (.iload 4, 2) := by decide +kernel
theorem dX3_letterWith_58 : decode cX3_letterWith 58 = .ok (.iload 5, 2) := by decide +kernel
theorem dX3_letterWith_60 : decode cX3_letterWith 60 = .ok (.invokevirtual 59, 3) := by decide +kernel
theorem dX3_letterWith_63 : decode cX3_letterWith 63 = .ok (.ireturn, 1) := by decide +kernel
theorem dX3_withOneMore_0 : decode cX3_withOneMore 0 = .ok (.aload_n 0, 1) := by decide +kernel
theorem dX3_withOneMore_1 : decode cX3_withOneMore 1 = .ok (.aload_n 0, 1) := by decide +kernel
theorem dX3_withOneMore_2 : decode cX3_withOneMore 2 = .ok (.iload_n 1, 1) := by decide +kernel
theorem dX3_withOneMore_3 : decode cX3_withOneMore 3 = .ok (.iconst 0, 1) := by decide +kernel
theorem dX3_withOneMore_4 : decode cX3_withOneMore 4 = .ok (.iconst 1, 1) := by decide +kernel
theorem dX3_withOneMore_5 : decode cX3_withOneMore 5 = .ok (.invokevirtual 55, 3) := by decide +kernel
theorem dX3_withOneMore_8 : decode cX3_withOneMore 8 = .ok (.invokevirtual 63, 3) := by decide +kernel
theorem dX3_withOneMore_11 : decode cX3_withOneMore 11 = .ok (.aload_n 0, 1) := by decide +kernel
theorem dX3_withOneMore_12 : decode cX3_withOneMore 12 = .ok (.aload_n 0, 1) := by decide +kernel
theorem dX3_withOneMore_13 : decode cX3_withOneMore 13 = .ok (.iload_n 1, 1) := by decide +kernel
theorem dX3_withOneMore_14 : decode cX3_withOneMore 14 = .ok (.iconst 1, 1) := by decide +kernel
theorem dX3_withOneMore_15 : decode cX3_withOneMore 15 = .ok (.iconst 1, 1) := by decide +kernel
theorem dX3_withOneMore_16 : decode cX3_withOneMore 16 = .ok (.invokevirtual 55, 3) := by decide +kernel
theorem dX3_withOneMore_19 : decode cX3_withOneMore 19 = .ok (.invokevirtual 63, 3) := by decide +kernel
theorem dX3_withOneMore_22 : decode cX3_withOneMore 22 = .ok (.ior, 1) := by decide +kernel
theorem dX3_withOneMore_23 : decode cX3_withOneMore 23 = .ok (.ireturn, 1) := by decide +kernel
theorem dX3_bitOf_0 : decode cX3_bitOf 0 = .ok (.iload_n 1, 1) := by decide +kernel
theorem dX3_bitOf_1 : decode cX3_bitOf 1 = .ok (.iconst (-1), 1) := by decide +kernel
theorem dX3_bitOf_2 : decode cX3_bitOf 2 = .ok (.if_icmp .ne 7, 3) := by decide +kernel
theorem dX3_bitOf_5 : decode cX3_bitOf 5 = .ok (.iconst 0, 1) := by decide +kernel
theorem dX3_bitOf_6 : decode cX3_bitOf 6 = .ok (.goto 6, 3) := by decide +kernel
theorem dX3_bitOf_9 : decode cX3_bitOf 9 = .ok (.iconst 1, 1) := by decide +kernel
theorem dX3_bitOf_10 : decode cX3_bitOf 10 = .ok (.iload_n 1, 1) := by decide +kernel
theorem dX3_bitOf_11 : decode cX3_bitOf 11 = .ok (.ishl, 1) := by decide +kernel
theorem dX3_bitOf_12 : decode cX3_bitOf 12 = .ok (.ireturn, 1) := by decide +kernel
theorem dX3_letterBy_0 : decode cX3_letterBy 0 = .ok (.iload_n 1, 1) := by decide +kernel
theorem dX3_letterBy_1 : decode cX3_letterBy 1 = .ok (.iconst 1, 1) := by decide +kernel
theorem dX3_letterBy_2 : decode cX3_letterBy 2 = .ok (.if_icmp .lt 18, 3) := by decide +kernel
theorem dX3_letterBy_5 : decode cX3_letterBy 5 = .ok (.iload_n 1, 1) := by decide +kernel
theorem dX3_letterBy_6 : decode cX3_letterBy 6 = .ok (.iconst 5, 1) := by decide +kernel
theorem dX3_letterBy_7 : decode cX3_letterBy 7 = .ok (.if_icmp .gt 13, 3) := by decide +kernel
theorem dX3_letterBy_10 : decode cX3_letterBy 10 = .ok (.iload_n 2, 1) := by decide +kernel
theorem dX3_letterBy_11 : decode cX3_letterBy 11 = .ok (.iconst 1, 1) := by decide +kernel
theorem dX3_letterBy_12 : decode cX3_letterBy 12 = .ok (.if_icmp .lt 8, 3) := by decide +kernel
theorem dX3_letterBy_15 : decode cX3_letterBy 15 = .ok (.iload_n 2, 1) := by decide +kernel
theorem dX3_letterBy_16 : decode cX3_letterBy 16 = .ok (.iconst 5, 1) := by decide +kernel
theorem dX3_letterBy_17 : decode cX3_letterBy 17 = .ok (.if_icmp .le 5, 3) := by decide +kernel
theorem dX3_letterBy_20 : decode cX3_letterBy 20 = .ok (.iconst (-1), 1) := by decide +kernel
theorem dX3_letterBy_21 : decode cX3_letterBy 21 = .ok (.ireturn, 1) := by decide +kernel
theorem dX3_letterBy_22 : decode cX3_letterBy 22 = .ok (.aload_n 0, 1) := by decide +kernel
theorem dX3_letterBy_23 : decode cX3_letterBy 23 = .ok (.getfield 29, 3) := by decide +kernel
theorem dX3_letterBy_26 : decode cX3_letterBy 26 = .ok (.iconst 5, 1) := by decide +kernel
theorem dX3_letterBy_27 : decode cX3_letterBy 27 = .ok (.iload_n 1, 1) := by decide +kernel
theorem dX3_letterBy_28 : decode cX3_letterBy 28 = .ok (.iconst 1, 1) := by decide +kernel
theorem dX3_letterBy_29 : decode cX3_letterBy 29 = .ok (.isub, 1) := by decide +kernel
theorem dX3_letterBy_30 : decode cX3_letterBy 30 = .ok (.imul, 1) := by decide +kernel
theorem dX3_letterBy_31 : decode cX3_letterBy 31 = .ok (.iload_n 2, 1) := by decide +kernel
theorem dX3_letterBy_32 : decode cX3_letterBy 32 = .ok (.iadd, 1) := by decide +kernel
theorem dX3_letterBy_33 : decode cX3_letterBy 33 = .ok (.iconst 1, 1) := by decide +kernel
theorem dX3_letterBy_34 : decode cX3_letterBy 34 = .ok (.isub, 1) := by decide +kernel
theorem dX3_letterBy_35 : decode cX3_letterBy 35 = .ok (.invokevirtual 41, 3) := by decide +kernel
theorem dX3_letterBy_38 : decode cX3_letterBy 38 = .ok (.ireturn, 1) := by decide +kernel
theorem dX4_init_0 : decode cX4_init 0 = .ok (.aload_n 0, 1) := by decide +kernel
theorem dX4_init_1 : decode cX4_init 1 = .ok (.invokespecial 3, 3) := by decide +kernel
theorem dX4_init_4 : decode cX4_init 4 = .ok (.aload_n 0, 1) := by decide +kernel
theorem dX4_init_5 : decode cX4_init 5 = .ok (.new 9, 3) := by decide +kernel
theorem dX4_init_8 : decode cX4_init 8 = .ok (.dup, 1) := by decide +kernel
theorem dX4_init_9 : decode cX4_init 9 = .ok (.sipush 160, 3) := by decide +kernel
theorem dX4_init_12 : decode cX4_init 12 = .ok (.invokespecial 11, 3) := by decide +kernel
theorem dX4_init_15 : decode cX4_init 15 = .ok (.putfield 14, 3) := by decide +kernel
theorem dX4_init_18 : decode cX4_init 18 = .ok (.aload_n 0, 1) := by decide +kernel
theorem dX4_init_19 : decode cX4_init 19 = .ok (.new 9, 3) := by decide +kernel
theorem dX4_init_22 : decode cX4_init 22 = .ok (.dup, 1) := by decide +kernel
theorem dX4_init_23 : decode cX4_init 23 = .ok (.sipush 160, 3) := by decide +kernel
theorem dX4_init_26 : decode cX4_init 26 = .ok (.invokespecial 11, 3) := by decide +kernel
theorem dX4_init_29 : decode cX4_init 29 = .ok (.putfield 20, 3) := by decide +kernel
theorem dX4_init_32 : decode cX4_init 32 = .ok (.aload_n 0, 1) := by decide +kernel
theorem dX4_init_33 : decode cX4_init 33 = .ok (.new 9, 3) := by decide +kernel
theorem dX4_init_36 : decode cX4_init 36 = .ok (.dup, 1) := by decide +kernel
theorem dX4_init_37 : decode cX4_init 37 = .ok (.sipush 160, 3) := by decide +kernel
theorem dX4_init_40 : decode cX4_init 40 = .ok (.invokespecial 11, 3) := by decide +kernel
theorem dX4_init_43 : decode cX4_init 43 = .ok (.putfield 23, 3) := by decide +kernel
theorem dX4_init_46 : decode cX4_init 46 = .ok (.aload_n 0, 1) := by decide +kernel
theorem dX4_init_47 : decode cX4_init 47 = .ok (.new 9, 3) := by decide +kernel
theorem dX4_init_50 : decode cX4_init 50 = .ok (.dup, 1) := by decide +kernel
theorem dX4_init_51 : decode cX4_init 51 = .ok (.sipush 160, 3) := by decide +kernel
theorem dX4_init_54 : decode cX4_init 54 = .ok (.invokespecial 11, 3) := by decide +kernel
theorem dX4_init_57 : decode cX4_init 57 = .ok (.putfield 26, 3) := by decide +kernel
theorem dX4_init_60 : decode cX4_init 60 = .ok (.aload_n 0, 1) := by decide +kernel
theorem dX4_init_61 : decode cX4_init 61 = .ok (.new 9, 3) := by decide +kernel
theorem dX4_init_64 : decode cX4_init 64 = .ok (.dup, 1) := by decide +kernel
theorem dX4_init_65 : decode cX4_init 65 = .ok (.sipush 160, 3) := by decide +kernel
theorem dX4_init_68 : decode cX4_init 68 = .ok (.invokespecial 11, 3) := by decide +kernel
theorem dX4_init_71 : decode cX4_init 71 = .ok (.putfield 29, 3) := by decide +kernel
theorem dX4_init_74 : decode cX4_init 74 = .ok (.aload_n 0, 1) := by decide +kernel
theorem dX4_init_75 : decode cX4_init 75 = .ok (.new 9, 3) := by decide +kernel
theorem dX4_init_78 : decode cX4_init 78 = .ok (.dup, 1) := by decide +kernel
theorem dX4_init_79 : decode cX4_init 79 = .ok (.sipush 160, 3) := by decide +kernel
theorem dX4_init_82 : decode cX4_init 82 = .ok (.invokespecial 11, 3) := by decide +kernel
theorem dX4_init_85 : decode cX4_init 85 = .ok (.putfield 32, 3) := by decide +kernel
theorem dX4_init_88 : decode cX4_init 88 = .ok (.aload_n 0, 1) := by decide +kernel
theorem dX4_init_89 : decode cX4_init 89 = .ok (.new 9, 3) := by decide +kernel
theorem dX4_init_92 : decode cX4_init 92 = .ok (.dup, 1) := by decide +kernel
theorem dX4_init_93 : decode cX4_init 93 = .ok (.sipush 160, 3) := by decide +kernel
theorem dX4_init_96 : decode cX4_init 96 = .ok (.invokespecial 11, 3) := by decide +kernel
theorem dX4_init_99 : decode cX4_init 99 = .ok (.putfield 35, 3) := by decide +kernel
theorem dX4_init_102 : decode cX4_init 102 = .ok (.aload_n 0, 1) := by decide +kernel
theorem dX4_init_103 : decode cX4_init 103 = .ok (.iconst 0, 1) := by decide +kernel
theorem dX4_init_104 : decode cX4_init 104 = .ok (.putfield 38, 3) := by decide +kernel
theorem dX4_init_107 : decode cX4_init 107 = .ok (.return_, 1) := by decide +kernel
theorem dX4_begin_0 : decode cX4_begin 0 = .ok (.aload_n 0, 1) := by decide +kernel
theorem dX4_begin_1 : decode cX4_begin 1 = .ok (.getfield 14, 3) := by decide +kernel
theorem dX4_begin_4 : decode cX4_begin 4 = .ok (.aload_n 0, 1) := by decide +kernel
theorem dX4_begin_5 : decode cX4_begin 5 = .ok (.getfield 38, 3) := by decide +kernel
theorem dX4_begin_8 : decode cX4_begin 8 = .ok (.iload_n 1, 1) := by decide +kernel
theorem dX4_begin_9 : decode cX4_begin 9 = .ok (.invokevirtual 42, 3) := by decide +kernel
theorem dX4_begin_12 : decode cX4_begin 12 = .ok (.aload_n 0, 1) := by decide +kernel
theorem dX4_begin_13 : decode cX4_begin 13 = .ok (.getfield 20, 3) := by decide +kernel
theorem dX4_begin_16 : decode cX4_begin 16 = .ok (.aload_n 0, 1) := by decide +kernel
theorem dX4_begin_17 : decode cX4_begin 17 = .ok (.getfield 38, 3) := by decide +kernel
theorem dX4_begin_20 : decode cX4_begin 20 = .ok (.iload_n 2, 1) := by decide +kernel
theorem dX4_begin_21 : decode cX4_begin 21 = .ok (.invokevirtual 42, 3) := by decide +kernel
theorem dX4_begin_24 : decode cX4_begin 24 = .ok (.aload_n 0, 1) := by decide +kernel
theorem dX4_begin_25 : decode cX4_begin 25 = .ok (.getfield 23, 3) := by decide +kernel
theorem dX4_begin_28 : decode cX4_begin 28 = .ok (.aload_n 0, 1) := by decide +kernel
theorem dX4_begin_29 : decode cX4_begin 29 = .ok (.getfield 38, 3) := by decide +kernel
theorem dX4_begin_32 : decode cX4_begin 32 = .ok (.iconst 0, 1) := by decide +kernel
theorem dX4_begin_33 : decode cX4_begin 33 = .ok (.invokevirtual 42, 3) := by decide +kernel
theorem dX4_begin_36 : decode cX4_begin 36 = .ok (.aload_n 0, 1) := by decide +kernel
theorem dX4_begin_37 : decode cX4_begin 37 = .ok (.getfield 26, 3) := by decide +kernel
theorem dX4_begin_40 : decode cX4_begin 40 = .ok (.aload_n 0, 1) := by decide +kernel
theorem dX4_begin_41 : decode cX4_begin 41 = .ok (.getfield 38, 3) := by decide +kernel
theorem dX4_begin_44 : decode cX4_begin 44 = .ok (.iconst 0, 1) := by decide +kernel
theorem dX4_begin_45 : decode cX4_begin 45 = .ok (.invokevirtual 42, 3) := by decide +kernel
theorem dX4_begin_48 : decode cX4_begin 48 = .ok (.aload_n 0, 1) := by decide +kernel
theorem dX4_begin_49 : decode cX4_begin 49 = .ok (.getfield 29, 3) := by decide +kernel
theorem dX4_begin_52 : decode cX4_begin 52 = .ok (.aload_n 0, 1) := by decide +kernel
theorem dX4_begin_53 : decode cX4_begin 53 = .ok (.getfield 38, 3) := by decide +kernel
theorem dX4_begin_56 : decode cX4_begin 56 = .ok (.iconst 0, 1) := by decide +kernel
theorem dX4_begin_57 : decode cX4_begin 57 = .ok (.invokevirtual 42, 3) := by decide +kernel
theorem dX4_begin_60 : decode cX4_begin 60 = .ok (.aload_n 0, 1) := by decide +kernel
theorem dX4_begin_61 : decode cX4_begin 61 = .ok (.getfield 32, 3) := by decide +kernel
theorem dX4_begin_64 : decode cX4_begin 64 = .ok (.aload_n 0, 1) := by decide +kernel
theorem dX4_begin_65 : decode cX4_begin 65 = .ok (.getfield 38, 3) := by decide +kernel
theorem dX4_begin_68 : decode cX4_begin 68 = .ok (.iconst 0, 1) := by decide +kernel
theorem dX4_begin_69 : decode cX4_begin 69 = .ok (.invokevirtual 42, 3) := by decide +kernel
theorem dX4_begin_72 : decode cX4_begin 72 = .ok (.aload_n 0, 1) := by decide +kernel
theorem dX4_begin_73 : decode cX4_begin 73 = .ok (.getfield 35, 3) := by decide +kernel
theorem dX4_begin_76 : decode cX4_begin 76 = .ok (.aload_n 0, 1) := by decide +kernel
theorem dX4_begin_77 : decode cX4_begin 77 = .ok (.getfield 38, 3) := by decide +kernel
theorem dX4_begin_80 : decode cX4_begin 80 = .ok (.iconst 0, 1) := by decide +kernel
theorem dX4_begin_81 : decode cX4_begin 81 = .ok (.invokevirtual 42, 3) := by decide +kernel
theorem dX4_begin_84 : decode cX4_begin 84 = .ok (.aload_n 0, 1) := by decide +kernel
theorem dX4_begin_85 : decode cX4_begin 85 = .ok (.dup, 1) := by decide +kernel
theorem dX4_begin_86 : decode cX4_begin 86 = .ok (.getfield 38, 3) := by decide +kernel
theorem dX4_begin_89 : decode cX4_begin 89 = .ok (.iconst 1, 1) := by decide +kernel
theorem dX4_begin_90 : decode cX4_begin 90 = .ok (.iadd, 1) := by decide +kernel
theorem dX4_begin_91 : decode cX4_begin 91 = .ok (.putfield 38, 3) := by decide +kernel
theorem dX4_begin_94 : decode cX4_begin 94 = .ok (.return_, 1) := by decide +kernel
theorem dX4_addTo_0 : decode cX4_addTo 0 = .ok (.aload_n 1, 1) := by decide +kernel
theorem dX4_addTo_1 : decode cX4_addTo 1 = .ok (.aload_n 0, 1) := by decide +kernel
theorem dX4_addTo_2 : decode cX4_addTo 2 = .ok (.getfield 38, 3) := by decide +kernel
theorem dX4_addTo_5 : decode cX4_addTo 5 = .ok (.iconst 1, 1) := by decide +kernel
theorem dX4_addTo_6 : decode cX4_addTo 6 = .ok (.isub, 1) := by decide +kernel
theorem dX4_addTo_7 : decode cX4_addTo 7 = .ok (.iconst 1, 1) := by decide +kernel
theorem dX4_addTo_8 : decode cX4_addTo 8 = .ok (.invokevirtual 46, 3) := by decide +kernel
theorem dX4_addTo_11 : decode cX4_addTo 11 = .ok (.return_, 1) := by decide +kernel
theorem dX4_totalOf_0 : decode cX4_totalOf 0 = .ok (.iconst 0, 1) := by decide +kernel
theorem dX4_totalOf_1 : decode cX4_totalOf 1 = .ok (.istore_n 2, 1) := by decide +kernel
theorem dX4_totalOf_2 : decode cX4_totalOf 2 = .ok (.iconst 0, 1) := by decide +kernel
theorem dX4_totalOf_3 : decode cX4_totalOf 3 = .ok (.istore_n 3, 1) := by decide +kernel
theorem dX4_totalOf_4 : decode cX4_totalOf 4 = .ok (.iload_n 3, 1) := by decide +kernel
theorem dX4_totalOf_5 : decode cX4_totalOf 5 = .ok (.aload_n 0, 1) := by decide +kernel
theorem dX4_totalOf_6 : decode cX4_totalOf 6 = .ok (.getfield 38, 3) := by decide +kernel
theorem dX4_totalOf_9 : decode cX4_totalOf 9 = .ok (.if_icmp .ge 17, 3) := by decide +kernel
theorem dX4_totalOf_12 : decode cX4_totalOf 12 = .ok (.iload_n 2, 1) := by decide +kernel
theorem dX4_totalOf_13 : decode cX4_totalOf 13 = .ok (.aload_n 1, 1) := by decide +kernel
theorem dX4_totalOf_14 : decode cX4_totalOf 14 = .ok (.iload_n 3, 1) := by decide +kernel
theorem dX4_totalOf_15 : decode cX4_totalOf 15 = .ok (.invokevirtual 49, 3) := by decide +kernel
theorem dX4_totalOf_18 : decode cX4_totalOf 18 = .ok (.iadd, 1) := by decide +kernel
theorem dX4_totalOf_19 : decode cX4_totalOf 19 = .ok (.istore_n 2, 1) := by decide +kernel
theorem dX4_totalOf_20 : decode cX4_totalOf 20 = .ok (.iinc 3 1, 3) := by decide +kernel
theorem dX4_totalOf_23 : decode cX4_totalOf 23 = .ok (.goto (-19), 3) := by decide +kernel
theorem dX4_totalOf_26 : decode cX4_totalOf 26 = .ok (.iload_n 2, 1) := by decide +kernel
theorem dX4_totalOf_27 : decode cX4_totalOf 27 = .ok (.ireturn, 1) := by decide +kernel
theorem dX5_init_0 : decode cX5_init 0 = .ok (.aload_n 0, 1) := by decide +kernel
theorem dX5_init_1 : decode cX5_init 1 = .ok (.invokespecial 3, 3) := by decide +kernel
theorem dX5_init_4 : decode cX5_init 4 = .ok (.aload_n 0, 1) := by decide +kernel
theorem dX5_init_5 : decode cX5_init 5 = .ok (.new 9, 3) := by decide +kernel
theorem dX5_init_8 : decode cX5_init 8 = .ok (.dup, 1) := by decide +kernel
theorem dX5_init_9 : decode cX5_init 9 = .ok (.bipush 60, 2) := by decide +kernel
theorem dX5_init_11 : decode cX5_init 11 = .ok (.invokespecial 11, 3) := by decide +kernel
theorem dX5_init_14 : decode cX5_init 14 = .ok (.putfield 14, 3) := by decide +kernel
theorem dX5_init_17 : decode cX5_init 17 = .ok (.aload_n 0, 1) := by decide +kernel
theorem dX5_init_18 : decode cX5_init 18 = .ok (.iconst 0, 1) := by decide +kernel
theorem dX5_init_19 : decode cX5_init 19 = .ok (.putfield 20, 3) := by decide +kernel
theorem dX5_init_22 : decode cX5_init 22 = .ok (.aload_n 0, 1) := by decide +kernel
theorem dX5_init_23 : decode cX5_init 23 = .ok (.iconst 0, 1) := by decide +kernel
theorem dX5_init_24 : decode cX5_init 24 = .ok (.putfield 24, 3) := by decide +kernel
theorem dX5_init_27 : decode cX5_init 27 = .ok (.aload_n 0, 1) := by decide +kernel
theorem dX5_init_28 : decode cX5_init 28 = .ok (.iconst 0, 1) := by decide +kernel
theorem dX5_init_29 : decode cX5_init 29 = .ok (.putfield 27, 3) := by decide +kernel
theorem dX5_init_32 : decode cX5_init 32 = .ok (.return_, 1) := by decide +kernel
theorem dX6_init_0 : decode cX6_init 0 = .ok (.aload_n 0, 1) := by decide +kernel
theorem dX6_init_1 : decode cX6_init 1 = .ok (.invokespecial 3, 3) := by decide +kernel
theorem dX6_init_4 : decode cX6_init 4 = .ok (.aload_n 0, 1) := by decide +kernel
theorem dX6_init_5 : decode cX6_init 5 = .ok (.new 9, 3) := by decide +kernel
theorem dX6_init_8 : decode cX6_init 8 = .ok (.dup, 1) := by decide +kernel
theorem dX6_init_9 : decode cX6_init 9 = .ok (.invokespecial 11, 3) := by decide +kernel
theorem dX6_init_12 : decode cX6_init 12 = .ok (.putfield 12, 3) := by decide +kernel
theorem dX6_init_15 : decode cX6_init 15 = .ok (.aload_n 0, 1) := by decide +kernel
theorem dX6_init_16 : decode cX6_init 16 = .ok (.new 18, 3) := by decide +kernel
theorem dX6_init_19 : decode cX6_init 19 = .ok (.dup, 1) := by decide +kernel
theorem dX6_init_20 : decode cX6_init 20 = .ok (.invokespecial 20, 3) := by decide +kernel
theorem dX6_init_23 : decode cX6_init 23 = .ok (.putfield 21, 3) := by decide +kernel
theorem dX6_init_26 : decode cX6_init 26 = .ok (.aload_n 0, 1) := by decide +kernel
theorem dX6_init_27 : decode cX6_init 27 = .ok (.new 25, 3) := by decide +kernel
theorem dX6_init_30 : decode cX6_init 30 = .ok (.dup, 1) := by decide +kernel
theorem dX6_init_31 : decode cX6_init 31 = .ok (.sipush 160, 3) := by decide +kernel
theorem dX6_init_34 : decode cX6_init 34 = .ok (.invokespecial 27, 3) := by decide +kernel
theorem dX6_init_37 : decode cX6_init 37 = .ok (.putfield 30, 3) := by decide +kernel
theorem dX6_init_40 : decode cX6_init 40 = .ok (.aload_n 0, 1) := by decide +kernel
theorem dX6_init_41 : decode cX6_init 41 = .ok (.new 25, 3) := by decide +kernel
theorem dX6_init_44 : decode cX6_init 44 = .ok (.dup, 1) := by decide +kernel
theorem dX6_init_45 : decode cX6_init 45 = .ok (.sipush 160, 3) := by decide +kernel
theorem dX6_init_48 : decode cX6_init 48 = .ok (.invokespecial 27, 3) := by decide +kernel
theorem dX6_init_51 : decode cX6_init 51 = .ok (.putfield 34, 3) := by decide +kernel
theorem dX6_init_54 : decode cX6_init 54 = .ok (.aload_n 0, 1) := by decide +kernel
theorem dX6_init_55 : decode cX6_init 55 = .ok (.new 25, 3) := by decide +kernel
theorem dX6_init_58 : decode cX6_init 58 = .ok (.dup, 1) := by decide +kernel
theorem dX6_init_59 : decode cX6_init 59 = .ok (.sipush 160, 3) := by decide +kernel
theorem dX6_init_62 : decode cX6_init 62 = .ok (.invokespecial 27, 3) := by decide +kernel
theorem dX6_init_65 : decode cX6_init 65 = .ok (.putfield 37, 3) := by decide +kernel
theorem dX6_init_68 : decode cX6_init 68 = .ok (.aload_n 0, 1) := by decide +kernel
theorem dX6_init_69 : decode cX6_init 69 = .ok (.new 25, 3) := by decide +kernel
theorem dX6_init_72 : decode cX6_init 72 = .ok (.dup, 1) := by decide +kernel
theorem dX6_init_73 : decode cX6_init 73 = .ok (.sipush 160, 3) := by decide +kernel
theorem dX6_init_76 : decode cX6_init 76 = .ok (.invokespecial 27, 3) := by decide +kernel
theorem dX6_init_79 : decode cX6_init 79 = .ok (.putfield 40, 3) := by decide +kernel
theorem dX6_init_82 : decode cX6_init 82 = .ok (.aload_n 0, 1) := by decide +kernel
theorem dX6_init_83 : decode cX6_init 83 = .ok (.new 25, 3) := by decide +kernel
theorem dX6_init_86 : decode cX6_init 86 = .ok (.dup, 1) := by decide +kernel
theorem dX6_init_87 : decode cX6_init 87 = .ok (.sipush 160, 3) := by decide +kernel
theorem dX6_init_90 : decode cX6_init 90 = .ok (.invokespecial 27, 3) := by decide +kernel
theorem dX6_init_93 : decode cX6_init 93 = .ok (.putfield 43, 3) := by decide +kernel
theorem dX6_init_96 : decode cX6_init 96 = .ok (.aload_n 0, 1) := by decide +kernel
theorem dX6_init_97 : decode cX6_init 97 = .ok (.new 25, 3) := by decide +kernel
theorem dX6_init_100 : decode cX6_init 100 = .ok (.dup, 1) := by decide +kernel
theorem dX6_init_101 : decode cX6_init 101 = .ok (.sipush 160, 3) := by decide +kernel
theorem dX6_init_104 : decode cX6_init 104 = .ok (.invokespecial 27, 3) := by decide +kernel
theorem dX6_init_107 : decode cX6_init 107 = .ok (.putfield 46, 3) := by decide +kernel
theorem dX6_init_110 : decode cX6_init 110 = .ok (.aload_n 0, 1) := by decide +kernel
theorem dX6_init_111 : decode cX6_init 111 = .ok (.iconst 0, 1) := by decide +kernel
theorem dX6_init_112 : decode cX6_init 112 = .ok (.putfield 49, 3) := by decide +kernel
theorem dX6_init_115 : decode cX6_init 115 = .ok (.return_, 1) := by decide +kernel
theorem dX6_refresh_0 : decode cX6_refresh 0 = .ok (.aload_n 0, 1) := by decide +kernel
theorem dX6_refresh_1 : decode cX6_refresh 1 = .ok (.getfield 12, 3) := by decide +kernel
theorem dX6_refresh_4 : decode cX6_refresh 4 = .ok (.aload_n 1, 1) := by decide +kernel
theorem dX6_refresh_5 : decode cX6_refresh 5 = .ok (.invokevirtual 53, 3) := by decide +kernel
theorem dX6_refresh_8 : decode cX6_refresh 8 = .ok (.aload_n 0, 1) := by decide +kernel
theorem dX6_refresh_9 : decode cX6_refresh 9 = .ok (.getfield 21, 3) := by decide +kernel
theorem dX6_refresh_12 : decode cX6_refresh 12 = .ok (.iconst 0, 1) := by decide +kernel
theorem dX6_refresh_13 : decode cX6_refresh 13 = .ok (.putfield 57, 3) := by decide +kernel
theorem dX6_refresh_16 : decode cX6_refresh 16 = .ok (.aload_n 0, 1) := by decide +kernel
theorem dX6_refresh_17 : decode cX6_refresh 17 = .ok (.iconst 0, 1) := by decide +kernel
theorem dX6_refresh_18 : decode cX6_refresh 18 = .ok (.putfield 49, 3) := by decide +kernel
theorem dX6_refresh_21 : decode cX6_refresh 21 = .ok (.iconst 0, 1) := by decide +kernel
theorem dX6_refresh_22 : decode cX6_refresh 22 = .ok (.istore_n 2, 1) := by decide +kernel
theorem dX6_refresh_23 : decode cX6_refresh 23 = .ok (.iconst 0, 1) := by decide +kernel
theorem dX6_refresh_24 : decode cX6_refresh 24 = .ok (.istore_n 3, 1) := by decide +kernel
theorem dX6_refresh_25 : decode cX6_refresh 25 = .ok (.iload_n 3, 1) := by decide +kernel
theorem dX6_refresh_26 : decode cX6_refresh 26 = .ok (.aload_n 1, 1) := by decide +kernel
theorem dX6_refresh_27 : decode cX6_refresh 27 = .ok (.getfield 60, 3) := by decide +kernel
theorem dX6_refresh_30 : decode cX6_refresh 30 = .ok (.if_icmp .ge 66, 3) := by decide +kernel
theorem dX6_refresh_33 : decode cX6_refresh 33 = .ok (.aload_n 1, 1) := by decide +kernel
theorem dX6_refresh_34 : decode cX6_refresh 34 = .ok (.getfield 65, 3) := by decide +kernel
theorem dX6_refresh_37 : decode cX6_refresh 37 = .ok (.iload_n 3, 1) := by decide +kernel
theorem dX6_refresh_38 : decode cX6_refresh 38 = .ok (.invokevirtual 68, 3) := by decide +kernel
theorem dX6_refresh_41 : decode cX6_refresh 41 = .ok (.istore 4, 2) := by decide +kernel
theorem dX6_refresh_43 : decode cX6_refresh 43 = .ok (.iload_n 3, 1) := by decide +kernel
theorem dX6_refresh_44 : decode cX6_refresh 44 = .ok (.ifCond .ne 15, 3) := by decide +kernel
theorem dX6_refresh_47 : decode cX6_refresh 47 = .ok (.aload_n 0, 1) := by decide +kernel
theorem dX6_refresh_48 : decode cX6_refresh 48 = .ok (.getfield 34, 3) := by decide +kernel
theorem dX6_refresh_51 : decode cX6_refresh 51 = .ok (.iload_n 3, 1) := by decide +kernel
theorem dX6_refresh_52 : decode cX6_refresh 52 = .ok (.iconst 5, 1) := by decide +kernel
theorem dX6_refresh_53 : decode cX6_refresh 53 = .ok (.invokevirtual 72, 3) := by decide +kernel
theorem dX6_refresh_56 : decode cX6_refresh 56 = .ok (.goto 13, 3) := by decide +kernel
theorem dX6_refresh_59 : decode cX6_refresh 59 = .ok (.aload_n 0, 1) := by decide +kernel
theorem dX6_refresh_60 : decode cX6_refresh 60 = .ok (.iload_n 3, 1) := by decide +kernel
theorem dX6_refresh_61 : decode cX6_refresh 61 = .ok (.iload 4, 2) := by decide +kernel
theorem dX6_refresh_63 : decode cX6_refresh 63 = .ok (.iload_n 2, 1) := by decide +kernel
theorem dX6_refresh_64 : decode cX6_refresh 64 = .ok (.isub, 1) := by decide +kernel
theorem dX6_refresh_65 : decode cX6_refresh 65 = .ok (.aload_n 1, 1) := by decide +kernel
theorem dX6_refresh_66 : decode cX6_refresh 66 = .ok (.invokevirtual 76, 3) := by decide +kernel
theorem dX6_refresh_69 : decode cX6_refresh 69 = .ok (.aload_n 0, 1) := by decide +kernel
theorem dX6_refresh_70 : decode cX6_refresh 70 = .ok (.iload_n 3, 1) := by decide +kernel
theorem dX6_refresh_71 : decode cX6_refresh 71 = .ok (.invokevirtual 80, 3) := by decide +kernel
theorem dX6_refresh_74 : decode cX6_refresh 74 = .ok (.aload_n 0, 1) := by decide +kernel
theorem dX6_refresh_75 : decode cX6_refresh 75 = .ok (.iload_n 3, 1) := by decide +kernel
theorem dX6_refresh_76 : decode cX6_refresh 76 = .ok (.invokevirtual 83, 3) := by decide +kernel
theorem dX6_refresh_79 : decode cX6_refresh 79 = .ok (.aload_n 0, 1) := by decide +kernel
theorem dX6_refresh_80 : decode cX6_refresh 80 = .ok (.iload_n 3, 1) := by decide +kernel
theorem dX6_refresh_81 : decode cX6_refresh 81 = .ok (.invokevirtual 86, 3) := by decide +kernel
theorem dX6_refresh_84 : decode cX6_refresh 84 = .ok (.ifCond .ne 6, 3) := by decide +kernel
theorem dX6_refresh_87 : decode cX6_refresh 87 = .ok (.iload 4, 2) := by decide +kernel
theorem dX6_refresh_89 : decode cX6_refresh 89 = .ok (.istore_n 2, 1) := by decide +kernel
theorem dX6_refresh_90 : decode cX6_refresh 90 = .ok (.iinc 3 1, 3) := by decide +kernel
theorem dX6_refresh_93 : decode cX6_refresh 93 = .ok (.goto (-68), 3) := by decide +kernel
theorem dX6_refresh_96 : decode cX6_refresh 96 = .ok (.aload_n 0, 1) := by decide +kernel
theorem dX6_refresh_97 : decode cX6_refresh 97 = .ok (.getfield 12, 3) := by decide +kernel
theorem dX6_refresh_100 : decode cX6_refresh 100 = .ok (.invokevirtual 90, 3) := by decide +kernel
theorem dX6_refresh_103 : decode cX6_refresh 103 = .ok (.aload_n 0, 1) := by decide +kernel
theorem dX6_refresh_104 : decode cX6_refresh 104 = .ok (.invokevirtual 93, 3) := by decide +kernel
theorem dX6_refresh_107 : decode cX6_refresh 107 = .ok (.return_, 1) := by decide +kernel
theorem dX6_noteGap_0 : decode cX6_noteGap 0 = .ok (.aload_n 0, 1) := by decide +kernel
theorem dX6_noteGap_1 : decode cX6_noteGap 1 = .ok (.iload_n 2, 1) := by decide +kernel
theorem dX6_noteGap_2 : decode cX6_noteGap 2 = .ok (.aload_n 3, 1) := by decide +kernel
theorem dX6_noteGap_3 : decode cX6_noteGap 3 = .ok (.getfield 96, 3) := by decide +kernel
theorem dX6_noteGap_6 : decode cX6_noteGap 6 = .ok (.invokevirtual 99, 3) := by decide +kernel
theorem dX6_noteGap_9 : decode cX6_noteGap 9 = .ok (.istore 4, 2) := by decide +kernel
theorem dX6_noteGap_11 : decode cX6_noteGap 11 = .ok (.iload 4, 2) := by decide +kernel
theorem dX6_noteGap_13 : decode cX6_noteGap 13 = .ok (.aload_n 0, 1) := by decide +kernel
theorem dX6_noteGap_14 : decode cX6_noteGap 14 = .ok (.iload_n 2, 1) := by decide +kernel
theorem dX6_noteGap_15 : decode cX6_noteGap 15 = .ok (.aload_n 3, 1) := by decide +kernel
theorem dX6_noteGap_16 : decode cX6_noteGap 16 = .ok (.getfield 103, 3) := by decide +kernel
theorem dX6_noteGap_19 : decode cX6_noteGap 19 = .ok (.isub, 1) := by decide +kernel
theorem dX6_noteGap_20 : decode cX6_noteGap 20 = .ok (.aload_n 3, 1) := by decide +kernel
theorem dX6_noteGap_21 : decode cX6_noteGap 21 = .ok (.getfield 96, 3) := by decide +kernel
theorem dX6_noteGap_24 : decode cX6_noteGap 24 = .ok (.invokevirtual 99, 3) := by decide +kernel
theorem dX6_noteGap_27 : decode cX6_noteGap 27 = .ok (.if_icmp .ne 22, 3) := by decide +kernel
theorem dX6_noteGap_30 : decode cX6_noteGap 30 = .ok (.iload 4, 2) := by decide +kernel
theorem dX6_noteGap_32 : decode cX6_noteGap 32 = .ok (.aload_n 0, 1) := by decide +kernel
theorem dX6_noteGap_33 : decode cX6_noteGap 33 = .ok (.iload_n 2, 1) := by decide +kernel
theorem dX6_noteGap_34 : decode cX6_noteGap 34 = .ok (.aload_n 3, 1) := by decide +kernel
theorem dX6_noteGap_35 : decode cX6_noteGap 35 = .ok (.getfield 103, 3) := by decide +kernel
theorem dX6_noteGap_38 : decode cX6_noteGap 38 = .ok (.iadd, 1) := by decide +kernel
theorem dX6_noteGap_39 : decode cX6_noteGap 39 = .ok (.aload_n 3, 1) := by decide +kernel
theorem dX6_noteGap_40 : decode cX6_noteGap 40 = .ok (.getfield 96, 3) := by decide +kernel
theorem dX6_noteGap_43 : decode cX6_noteGap 43 = .ok (.invokevirtual 99, 3) := by decide +kernel
theorem dX6_noteGap_46 : decode cX6_noteGap 46 = .ok (.if_icmp .eq 7, 3) := by decide +kernel
theorem dX6_noteGap_49 : decode cX6_noteGap 49 = .ok (.iconst 1, 1) := by decide +kernel
theorem dX6_noteGap_50 : decode cX6_noteGap 50 = .ok (.goto 4, 3) := by decide +kernel
theorem dX6_noteGap_53 : decode cX6_noteGap 53 = .ok (.iconst 0, 1) := by decide +kernel
theorem dX6_noteGap_54 : decode cX6_noteGap 54 = .ok (.istore 5, 2) := by decide +kernel
theorem dX6_noteGap_56 : decode cX6_noteGap 56 = .ok (.aload_n 0, 1) := by decide +kernel
theorem dX6_noteGap_57 : decode cX6_noteGap 57 = .ok (.getfield 30, 3) := by decide +kernel
theorem dX6_noteGap_60 : decode cX6_noteGap 60 = .ok (.iload_n 1, 1) := by decide +kernel
theorem dX6_noteGap_61 : decode cX6_noteGap 61 = .ok (.iload_n 2, 1) := by decide +kernel
theorem dX6_noteGap_62 : decode cX6_noteGap 62 = .ok (.invokevirtual 72, 3) := by decide +kernel
theorem dX6_noteGap_65 : decode cX6_noteGap 65 = .ok (.aload_n 0, 1) := by decide +kernel
theorem dX6_noteGap_66 : decode cX6_noteGap 66 = .ok (.getfield 34, 3) := by decide +kernel
theorem dX6_noteGap_69 : decode cX6_noteGap 69 = .ok (.iload_n 1, 1) := by decide +kernel
theorem dX6_noteGap_70 : decode cX6_noteGap 70 = .ok (.iload 4, 2) := by decide +kernel
theorem dX6_noteGap_72 : decode cX6_noteGap 72 = .ok (.invokevirtual 72, 3) := by decide +kernel
theorem dX6_noteGap_75 : decode cX6_noteGap 75 = .ok (.aload_n 0, 1) := by decide +kernel
theorem dX6_noteGap_76 : decode cX6_noteGap 76 = .ok (.getfield 37, 3) := by decide +kernel
theorem dX6_noteGap_79 : decode cX6_noteGap 79 = .ok (.iload_n 1, 1) := by decide +kernel
theorem dX6_noteGap_80 : decode cX6_noteGap 80 = .ok (.iload 5, 2) := by decide +kernel
theorem dX6_noteGap_82 : decode cX6_noteGap 82 = .ok (.ifCond .eq 7, 3) := by decide +kernel
theorem dX6_noteGap_85 : decode cX6_noteGap 85 = .ok (.iconst 1, 1) := by decide +kernel
theorem dX6_noteGap_86 : decode cX6_noteGap 86 = .ok (.goto 4, 3) := by decide +kernel
theorem dX6_noteGap_89 : decode cX6_noteGap 89 = .ok (.iconst 0, 1) := by decide +kernel
theorem dX6_noteGap_90 : decode cX6_noteGap 90 = .ok (.invokevirtual 72, 3) := by decide +kernel
theorem dX6_noteGap_93 : decode cX6_noteGap 93 = .ok (.return_, 1) := by decide +kernel
theorem dX6_caseOf_0 : decode cX6_caseOf 0 = .ok (.iconst 4, 1) := by decide +kernel
theorem dX6_caseOf_1 : decode cX6_caseOf 1 = .ok (.iload_n 1, 1) := by decide +kernel
theorem dX6_caseOf_2 : decode cX6_caseOf 2 = .ok (.imul, 1) := by decide +kernel
theorem dX6_caseOf_3 : decode cX6_caseOf 3 = .ok (.istore_n 3, 1) := by decide +kernel
theorem dX6_caseOf_4 : decode cX6_caseOf 4 = .ok (.iload_n 3, 1) := by decide +kernel
theorem dX6_caseOf_5 : decode cX6_caseOf 5 = .ok (.iconst 3, 1) := by decide +kernel
theorem dX6_caseOf_6 : decode cX6_caseOf 6 = .ok (.iload_n 2, 1) := by decide +kernel
theorem dX6_caseOf_7 : decode cX6_caseOf 7 = .ok (.imul, 1) := by decide +kernel
theorem dX6_caseOf_8 : decode cX6_caseOf 8 = .ok (.if_icmp .ge 5, 3) := by decide +kernel
theorem dX6_caseOf_11 : decode cX6_caseOf 11 = .ok (.iconst 0, 1) := by decide +kernel
theorem dX6_caseOf_12 : decode cX6_caseOf 12 = .ok (.ireturn, 1) := by decide +kernel
theorem dX6_caseOf_13 : decode cX6_caseOf 13 = .ok (.iload_n 3, 1) := by decide +kernel
theorem dX6_caseOf_14 : decode cX6_caseOf 14 = .ok (.bipush 6, 2) := by decide +kernel
theorem dX6_caseOf_16 : decode cX6_caseOf 16 = .ok (.iload_n 2, 1) := by decide +kernel
theorem dX6_caseOf_17 : decode cX6_caseOf 17 = .ok (.imul, 1) := by decide +kernel
theorem dX6_caseOf_18 : decode cX6_caseOf 18 = .ok (.if_icmp .ge 5, 3) := by decide +kernel
theorem dX6_caseOf_21 : decode cX6_caseOf 21 = .ok (.iconst 1, 1) := by decide +kernel
theorem dX6_caseOf_22 : decode cX6_caseOf 22 = .ok (.ireturn, 1) := by decide +kernel
theorem dX6_caseOf_23 : decode cX6_caseOf 23 = .ok (.iload_n 3, 1) := by decide +kernel
theorem dX6_caseOf_24 : decode cX6_caseOf 24 = .ok (.bipush 10, 2) := by decide +kernel
theorem dX6_caseOf_26 : decode cX6_caseOf 26 = .ok (.iload_n 2, 1) := by decide +kernel
theorem dX6_caseOf_27 : decode cX6_caseOf 27 = .ok (.imul, 1) := by decide +kernel
theorem dX6_caseOf_28 : decode cX6_caseOf 28 = .ok (.if_icmp .ge 5, 3) := by decide +kernel
theorem dX6_caseOf_31 : decode cX6_caseOf 31 = .ok (.iconst 2, 1) := by decide +kernel
theorem dX6_caseOf_32 : decode cX6_caseOf 32 = .ok (.ireturn, 1) := by decide +kernel
theorem dX6_caseOf_33 : decode cX6_caseOf 33 = .ok (.iload_n 3, 1) := by decide +kernel
theorem dX6_caseOf_34 : decode cX6_caseOf 34 = .ok (.bipush 18, 2) := by decide +kernel
theorem dX6_caseOf_36 : decode cX6_caseOf 36 = .ok (.iload_n 2, 1) := by decide +kernel
theorem dX6_caseOf_37 : decode cX6_caseOf 37 = .ok (.imul, 1) := by decide +kernel
theorem dX6_caseOf_38 : decode cX6_caseOf 38 = .ok (.if_icmp .ge 5, 3) := by decide +kernel
theorem dX6_caseOf_41 : decode cX6_caseOf 41 = .ok (.iconst 3, 1) := by decide +kernel
theorem dX6_caseOf_42 : decode cX6_caseOf 42 = .ok (.ireturn, 1) := by decide +kernel
theorem dX6_caseOf_43 : decode cX6_caseOf 43 = .ok (.iload_n 3, 1) := by decide +kernel
theorem dX6_caseOf_44 : decode cX6_caseOf 44 = .ok (.bipush 32, 2) := by decide +kernel
theorem dX6_caseOf_46 : decode cX6_caseOf 46 = .ok (.iload_n 2, 1) := by decide +kernel
theorem dX6_caseOf_47 : decode cX6_caseOf 47 = .ok (.imul, 1) := by decide +kernel
theorem dX6_caseOf_48 : decode cX6_caseOf 48 = .ok (.if_icmp .ge 7, 3) := by decide +kernel
theorem dX6_caseOf_51 : decode cX6_caseOf 51 = .ok (.iconst 4, 1) := by decide +kernel
theorem dX6_caseOf_52 : decode cX6_caseOf 52 = .ok (.goto 4, 3) := by decide +kernel
theorem dX6_caseOf_55 : decode cX6_caseOf 55 = .ok (.iconst 5, 1) := by decide +kernel
theorem dX6_caseOf_56 : decode cX6_caseOf 56 = .ok (.ireturn, 1) := by decide +kernel
theorem dX6_goOn_0 : decode cX6_goOn 0 = .ok (.aload_n 0, 1) := by decide +kernel
theorem dX6_goOn_1 : decode cX6_goOn 1 = .ok (.getfield 34, 3) := by decide +kernel
theorem dX6_goOn_4 : decode cX6_goOn 4 = .ok (.iload_n 1, 1) := by decide +kernel
theorem dX6_goOn_5 : decode cX6_goOn 5 = .ok (.invokevirtual 68, 3) := by decide +kernel
theorem dX6_goOn_8 : decode cX6_goOn 8 = .ok (.tableswitch 102 0 4 #[36, 49, 60, 85, 95], 36) := by decide +kernel
theorem dX6_goOn_44 : decode cX6_goOn 44 = .ok (.aload_n 0, 1) := by decide +kernel
theorem dX6_goOn_45 : decode cX6_goOn 45 = .ok (.dup, 1) := by decide +kernel
theorem dX6_goOn_46 : decode cX6_goOn 46 = .ok (.getfield 49, 3) := by decide +kernel
theorem dX6_goOn_49 : decode cX6_goOn 49 = .ok (.iconst 1, 1) := by decide +kernel
theorem dX6_goOn_50 : decode cX6_goOn 50 = .ok (.iadd, 1) := by decide +kernel
theorem dX6_goOn_51 : decode cX6_goOn 51 = .ok (.putfield 49, 3) := by decide +kernel
theorem dX6_goOn_54 : decode cX6_goOn 54 = .ok (.goto 75, 3) := by decide +kernel
theorem dX6_goOn_57 : decode cX6_goOn 57 = .ok (.aload_n 0, 1) := by decide +kernel
theorem dX6_goOn_58 : decode cX6_goOn 58 = .ok (.getfield 12, 3) := by decide +kernel
theorem dX6_goOn_61 : decode cX6_goOn 61 = .ok (.iconst 1, 1) := by decide +kernel
theorem dX6_goOn_62 : decode cX6_goOn 62 = .ok (.invokevirtual 106, 3) := by decide +kernel
theorem dX6_goOn_65 : decode cX6_goOn 65 = .ok (.goto 64, 3) := by decide +kernel
theorem dX6_goOn_68 : decode cX6_goOn 68 = .ok (.aload_n 0, 1) := by decide +kernel
theorem dX6_goOn_69 : decode cX6_goOn 69 = .ok (.getfield 12, 3) := by decide +kernel
theorem dX6_goOn_72 : decode cX6_goOn 72 = .ok (.iconst 2, 1) := by decide +kernel
theorem dX6_goOn_73 : decode cX6_goOn 73 = .ok (.invokevirtual 106, 3) := by decide +kernel
theorem dX6_goOn_76 : decode cX6_goOn 76 = .ok (.aload_n 0, 1) := by decide +kernel
theorem dX6_goOn_77 : decode cX6_goOn 77 = .ok (.getfield 21, 3) := by decide +kernel
theorem dX6_goOn_80 : decode cX6_goOn 80 = .ok (.aload_n 0, 1) := by decide +kernel
theorem dX6_goOn_81 : decode cX6_goOn 81 = .ok (.getfield 21, 3) := by decide +kernel
theorem dX6_goOn_84 : decode cX6_goOn 84 = .ok (.getfield 109, 3) := by decide +kernel
theorem dX6_goOn_87 : decode cX6_goOn 87 = .ok (.invokevirtual 112, 3) := by decide +kernel
theorem dX6_goOn_90 : decode cX6_goOn 90 = .ok (.goto 39, 3) := by decide +kernel
theorem dX6_goOn_93 : decode cX6_goOn 93 = .ok (.aload_n 0, 1) := by decide +kernel
theorem dX6_goOn_94 : decode cX6_goOn 94 = .ok (.getfield 12, 3) := by decide +kernel
theorem dX6_goOn_97 : decode cX6_goOn 97 = .ok (.invokevirtual 116, 3) := by decide +kernel
theorem dX6_goOn_100 : decode cX6_goOn 100 = .ok (.goto 29, 3) := by decide +kernel
theorem dX6_goOn_103 : decode cX6_goOn 103 = .ok (.aload_n 0, 1) := by decide +kernel
theorem dX6_goOn_104 : decode cX6_goOn 104 = .ok (.invokevirtual 119, 3) := by decide +kernel
theorem dX6_goOn_107 : decode cX6_goOn 107 = .ok (.goto 22, 3) := by decide +kernel
theorem dX6_goOn_110 : decode cX6_goOn 110 = .ok (.aload_n 0, 1) := by decide +kernel
theorem dX6_goOn_111 : decode cX6_goOn 111 = .ok (.getfield 21, 3) := by decide +kernel
theorem dX6_goOn_114 : decode cX6_goOn 114 = .ok (.iload_n 1, 1) := by decide +kernel
theorem dX6_goOn_115 : decode cX6_goOn 115 = .ok (.aload_n 0, 1) := by decide +kernel
theorem dX6_goOn_116 : decode cX6_goOn 116 = .ok (.getfield 12, 3) := by decide +kernel
theorem dX6_goOn_119 : decode cX6_goOn 119 = .ok (.getfield 122, 3) := by decide +kernel
theorem dX6_goOn_122 : decode cX6_goOn 122 = .ok (.invokevirtual 123, 3) := by decide +kernel
theorem dX6_goOn_125 : decode cX6_goOn 125 = .ok (.aload_n 0, 1) := by decide +kernel
theorem dX6_goOn_126 : decode cX6_goOn 126 = .ok (.invokevirtual 119, 3) := by decide +kernel
theorem dX6_goOn_129 : decode cX6_goOn 129 = .ok (.return_, 1) := by decide +kernel
theorem dX6_beginLetter_0 : decode cX6_beginLetter 0 = .ok (.aload_n 0, 1) := by decide +kernel
theorem dX6_beginLetter_1 : decode cX6_beginLetter 1 = .ok (.getfield 12, 3) := by decide +kernel
theorem dX6_beginLetter_4 : decode cX6_beginLetter 4 = .ok (.invokevirtual 126, 3) := by decide +kernel
theorem dX6_beginLetter_7 : decode cX6_beginLetter 7 = .ok (.aload_n 0, 1) := by decide +kernel
theorem dX6_beginLetter_8 : decode cX6_beginLetter 8 = .ok (.getfield 21, 3) := by decide +kernel
theorem dX6_beginLetter_11 : decode cX6_beginLetter 11 = .ok (.aload_n 0, 1) := by decide +kernel
theorem dX6_beginLetter_12 : decode cX6_beginLetter 12 = .ok (.getfield 21, 3) := by decide +kernel
theorem dX6_beginLetter_15 : decode cX6_beginLetter 15 = .ok (.getfield 128, 3) := by decide +kernel
theorem dX6_beginLetter_18 : decode cX6_beginLetter 18 = .ok (.invokevirtual 112, 3) := by decide +kernel
theorem dX6_beginLetter_21 : decode cX6_beginLetter 21 = .ok (.return_, 1) := by decide +kernel
theorem dX6_notePlace_0 : decode cX6_notePlace 0 = .ok (.aload_n 0, 1) := by decide +kernel
theorem dX6_notePlace_1 : decode cX6_notePlace 1 = .ok (.getfield 21, 3) := by decide +kernel
theorem dX6_notePlace_4 : decode cX6_notePlace 4 = .ok (.getfield 57, 3) := by decide +kernel
theorem dX6_notePlace_7 : decode cX6_notePlace 7 = .ok (.iconst 1, 1) := by decide +kernel
theorem dX6_notePlace_8 : decode cX6_notePlace 8 = .ok (.isub, 1) := by decide +kernel
theorem dX6_notePlace_9 : decode cX6_notePlace 9 = .ok (.istore_n 2, 1) := by decide +kernel
theorem dX6_notePlace_10 : decode cX6_notePlace 10 = .ok (.aload_n 0, 1) := by decide +kernel
theorem dX6_notePlace_11 : decode cX6_notePlace 11 = .ok (.getfield 40, 3) := by decide +kernel
theorem dX6_notePlace_14 : decode cX6_notePlace 14 = .ok (.iload_n 1, 1) := by decide +kernel
theorem dX6_notePlace_15 : decode cX6_notePlace 15 = .ok (.iload_n 2, 1) := by decide +kernel
theorem dX6_notePlace_16 : decode cX6_notePlace 16 = .ok (.invokevirtual 72, 3) := by decide +kernel
theorem dX6_notePlace_19 : decode cX6_notePlace 19 = .ok (.aload_n 0, 1) := by decide +kernel
theorem dX6_notePlace_20 : decode cX6_notePlace 20 = .ok (.getfield 43, 3) := by decide +kernel
theorem dX6_notePlace_23 : decode cX6_notePlace 23 = .ok (.iload_n 1, 1) := by decide +kernel
theorem dX6_notePlace_24 : decode cX6_notePlace 24 = .ok (.aload_n 0, 1) := by decide +kernel
theorem dX6_notePlace_25 : decode cX6_notePlace 25 = .ok (.iload_n 2, 1) := by decide +kernel
theorem dX6_notePlace_26 : decode cX6_notePlace 26 = .ok (.invokevirtual 131, 3) := by decide +kernel
theorem dX6_notePlace_29 : decode cX6_notePlace 29 = .ok (.iconst 1, 1) := by decide +kernel
theorem dX6_notePlace_30 : decode cX6_notePlace 30 = .ok (.isub, 1) := by decide +kernel
theorem dX6_notePlace_31 : decode cX6_notePlace 31 = .ok (.invokevirtual 72, 3) := by decide +kernel
theorem dX6_notePlace_34 : decode cX6_notePlace 34 = .ok (.aload_n 0, 1) := by decide +kernel
theorem dX6_notePlace_35 : decode cX6_notePlace 35 = .ok (.getfield 46, 3) := by decide +kernel
theorem dX6_notePlace_38 : decode cX6_notePlace 38 = .ok (.iload_n 1, 1) := by decide +kernel
theorem dX6_notePlace_39 : decode cX6_notePlace 39 = .ok (.aload_n 0, 1) := by decide +kernel
theorem dX6_notePlace_40 : decode cX6_notePlace 40 = .ok (.getfield 12, 3) := by decide +kernel
theorem dX6_notePlace_43 : decode cX6_notePlace 43 = .ok (.getfield 134, 3) := by decide +kernel
theorem dX6_notePlace_46 : decode cX6_notePlace 46 = .ok (.aload_n 0, 1) := by decide +kernel
theorem dX6_notePlace_47 : decode cX6_notePlace 47 = .ok (.getfield 12, 3) := by decide +kernel
theorem dX6_notePlace_50 : decode cX6_notePlace 50 = .ok (.getfield 122, 3) := by decide +kernel
theorem dX6_notePlace_53 : decode cX6_notePlace 53 = .ok (.iconst 1, 1) := by decide +kernel
theorem dX6_notePlace_54 : decode cX6_notePlace 54 = .ok (.isub, 1) := by decide +kernel
theorem dX6_notePlace_55 : decode cX6_notePlace 55 = .ok (.invokevirtual 68, 3) := by decide +kernel
theorem dX6_notePlace_58 : decode cX6_notePlace 58 = .ok (.iconst 1, 1) := by decide +kernel
theorem dX6_notePlace_59 : decode cX6_notePlace 59 = .ok (.isub, 1) := by decide +kernel
theorem dX6_notePlace_60 : decode cX6_notePlace 60 = .ok (.invokevirtual 72, 3) := by decide +kernel
theorem dX6_notePlace_63 : decode cX6_notePlace 63 = .ok (.aload_n 0, 1) := by decide +kernel
theorem dX6_notePlace_64 : decode cX6_notePlace 64 = .ok (.getfield 37, 3) := by decide +kernel
theorem dX6_notePlace_67 : decode cX6_notePlace 67 = .ok (.iload_n 1, 1) := by decide +kernel
theorem dX6_notePlace_68 : decode cX6_notePlace 68 = .ok (.invokevirtual 68, 3) := by decide +kernel
theorem dX6_notePlace_71 : decode cX6_notePlace 71 = .ok (.iconst 1, 1) := by decide +kernel
theorem dX6_notePlace_72 : decode cX6_notePlace 72 = .ok (.if_icmp .ne 17, 3) := by decide +kernel
theorem dX6_notePlace_75 : decode cX6_notePlace 75 = .ok (.aload_n 0, 1) := by decide +kernel
theorem dX6_notePlace_76 : decode cX6_notePlace 76 = .ok (.getfield 21, 3) := by decide +kernel
theorem dX6_notePlace_79 : decode cX6_notePlace 79 = .ok (.aload_n 0, 1) := by decide +kernel
theorem dX6_notePlace_80 : decode cX6_notePlace 80 = .ok (.getfield 21, 3) := by decide +kernel
theorem dX6_notePlace_83 : decode cX6_notePlace 83 = .ok (.getfield 137, 3) := by decide +kernel
theorem dX6_notePlace_86 : decode cX6_notePlace 86 = .ok (.invokevirtual 112, 3) := by decide +kernel
theorem dX6_notePlace_89 : decode cX6_notePlace 89 = .ok (.return_, 1) := by decide +kernel
theorem dX6_sumUp_0 : decode cX6_sumUp 0 = .ok (.iconst 0, 1) := by decide +kernel
theorem dX6_sumUp_1 : decode cX6_sumUp 1 = .ok (.istore_n 1, 1) := by decide +kernel
theorem dX6_sumUp_2 : decode cX6_sumUp 2 = .ok (.iload_n 1, 1) := by decide +kernel
theorem dX6_sumUp_3 : decode cX6_sumUp 3 = .ok (.aload_n 0, 1) := by decide +kernel
theorem dX6_sumUp_4 : decode cX6_sumUp 4 = .ok (.getfield 21, 3) := by decide +kernel
theorem dX6_sumUp_7 : decode cX6_sumUp 7 = .ok (.getfield 57, 3) := by decide +kernel
theorem dX6_sumUp_10 : decode cX6_sumUp 10 = .ok (.if_icmp .ge 65, 3) := by decide +kernel
theorem dX6_sumUp_13 : decode cX6_sumUp 13 = .ok (.iconst 0, 1) := by decide +kernel
theorem dX6_sumUp_14 : decode cX6_sumUp 14 = .ok (.istore_n 2, 1) := by decide +kernel
theorem dX6_sumUp_15 : decode cX6_sumUp 15 = .ok (.iload_n 2, 1) := by decide +kernel
theorem dX6_sumUp_16 : decode cX6_sumUp 16 = .ok (.aload_n 0, 1) := by decide +kernel
theorem dX6_sumUp_17 : decode cX6_sumUp 17 = .ok (.iload_n 1, 1) := by decide +kernel
theorem dX6_sumUp_18 : decode cX6_sumUp 18 = .ok (.invokevirtual 131, 3) := by decide +kernel
theorem dX6_sumUp_21 : decode cX6_sumUp 21 = .ok (.if_icmp .ge 48, 3) := by decide +kernel
theorem dX6_sumUp_24 : decode cX6_sumUp 24 = .ok (.aload_n 0, 1) := by decide +kernel
theorem dX6_sumUp_25 : decode cX6_sumUp 25 = .ok (.iload_n 1, 1) := by decide +kernel
theorem dX6_sumUp_26 : decode cX6_sumUp 26 = .ok (.iload_n 2, 1) := by decide +kernel
theorem dX6_sumUp_27 : decode cX6_sumUp 27 = .ok (.invokevirtual 140, 3) := by decide +kernel
theorem dX6_sumUp_30 : decode cX6_sumUp 30 = .ok (.istore_n 3, 1) := by decide +kernel
theorem dX6_sumUp_31 : decode cX6_sumUp 31 = .ok (.iload_n 3, 1) := by decide +kernel
theorem dX6_sumUp_32 : decode cX6_sumUp 32 = .ok (.iconst (-1), 1) := by decide +kernel
theorem dX6_sumUp_33 : decode cX6_sumUp 33 = .ok (.if_icmp .ne 18, 3) := by decide +kernel
theorem dX6_sumUp_36 : decode cX6_sumUp 36 = .ok (.aload_n 0, 1) := by decide +kernel
theorem dX6_sumUp_37 : decode cX6_sumUp 37 = .ok (.getfield 21, 3) := by decide +kernel
theorem dX6_sumUp_40 : decode cX6_sumUp 40 = .ok (.getfield 143, 3) := by decide +kernel
theorem dX6_sumUp_43 : decode cX6_sumUp 43 = .ok (.iload_n 1, 1) := by decide +kernel
theorem dX6_sumUp_44 : decode cX6_sumUp 44 = .ok (.iconst 1, 1) := by decide +kernel
theorem dX6_sumUp_45 : decode cX6_sumUp 45 = .ok (.invokevirtual 146, 3) := by decide +kernel
theorem dX6_sumUp_48 : decode cX6_sumUp 48 = .ok (.goto 15, 3) := by decide +kernel
theorem dX6_sumUp_51 : decode cX6_sumUp 51 = .ok (.aload_n 0, 1) := by decide +kernel
theorem dX6_sumUp_52 : decode cX6_sumUp 52 = .ok (.getfield 21, 3) := by decide +kernel
theorem dX6_sumUp_55 : decode cX6_sumUp 55 = .ok (.getfield 149, 3) := by decide +kernel
theorem dX6_sumUp_58 : decode cX6_sumUp 58 = .ok (.iload_n 1, 1) := by decide +kernel
theorem dX6_sumUp_59 : decode cX6_sumUp 59 = .ok (.iload_n 3, 1) := by decide +kernel
theorem dX6_sumUp_60 : decode cX6_sumUp 60 = .ok (.invokevirtual 146, 3) := by decide +kernel
theorem dX6_sumUp_63 : decode cX6_sumUp 63 = .ok (.iinc 2 1, 3) := by decide +kernel
theorem dX6_sumUp_66 : decode cX6_sumUp 66 = .ok (.goto (-51), 3) := by decide +kernel
theorem dX6_sumUp_69 : decode cX6_sumUp 69 = .ok (.iinc 1 1, 3) := by decide +kernel
theorem dX6_sumUp_72 : decode cX6_sumUp 72 = .ok (.goto (-70), 3) := by decide +kernel
theorem dX6_sumUp_75 : decode cX6_sumUp 75 = .ok (.return_, 1) := by decide +kernel
theorem dX6_isLeftOut_0 : decode cX6_isLeftOut 0 = .ok (.aload_n 0, 1) := by decide +kernel
theorem dX6_isLeftOut_1 : decode cX6_isLeftOut 1 = .ok (.getfield 34, 3) := by decide +kernel
theorem dX6_isLeftOut_4 : decode cX6_isLeftOut 4 = .ok (.iload_n 1, 1) := by decide +kernel
theorem dX6_isLeftOut_5 : decode cX6_isLeftOut 5 = .ok (.invokevirtual 68, 3) := by decide +kernel
theorem dX6_isLeftOut_8 : decode cX6_isLeftOut 8 = .ok (.ifCond .ne 7, 3) := by decide +kernel
theorem dX6_isLeftOut_11 : decode cX6_isLeftOut 11 = .ok (.iconst 1, 1) := by decide +kernel
theorem dX6_isLeftOut_12 : decode cX6_isLeftOut 12 = .ok (.goto 4, 3) := by decide +kernel
theorem dX6_isLeftOut_15 : decode cX6_isLeftOut 15 = .ok (.iconst 0, 1) := by decide +kernel
theorem dX6_isLeftOut_16 : decode cX6_isLeftOut 16 = .ok (.ireturn, 1) := by decide +kernel
theorem dX6_gapDetail_0 : decode cX6_gapDetail 0 = .ok (.iload_n 2, 1) := by decide +kernel
theorem dX6_gapDetail_1 : decode cX6_gapDetail 1 = .ok (.lookupswitch 45 #[(1, 27), (2, 36)], 27) := by decide +kernel
theorem dX6_gapDetail_28 : decode cX6_gapDetail 28 = .ok (.aload_n 0, 1) := by decide +kernel
theorem dX6_gapDetail_29 : decode cX6_gapDetail 29 = .ok (.getfield 30, 3) := by decide +kernel
theorem dX6_gapDetail_32 : decode cX6_gapDetail 32 = .ok (.iload_n 1, 1) := by decide +kernel
theorem dX6_gapDetail_33 : decode cX6_gapDetail 33 = .ok (.invokevirtual 68, 3) := by decide +kernel
theorem dX6_gapDetail_36 : decode cX6_gapDetail 36 = .ok (.ireturn, 1) := by decide +kernel
theorem dX6_gapDetail_37 : decode cX6_gapDetail 37 = .ok (.aload_n 0, 1) := by decide +kernel
theorem dX6_gapDetail_38 : decode cX6_gapDetail 38 = .ok (.getfield 34, 3) := by decide +kernel
theorem dX6_gapDetail_41 : decode cX6_gapDetail 41 = .ok (.iload_n 1, 1) := by decide +kernel
theorem dX6_gapDetail_42 : decode cX6_gapDetail 42 = .ok (.invokevirtual 68, 3) := by decide +kernel
theorem dX6_gapDetail_45 : decode cX6_gapDetail 45 = .ok (.ireturn, 1) := by decide +kernel
theorem dX6_gapDetail_46 : decode cX6_gapDetail 46 = .ok (.aload_n 0, 1) := by decide +kernel
theorem dX6_gapDetail_47 : decode cX6_gapDetail 47 = .ok (.getfield 37, 3) := by decide +kernel
theorem dX6_gapDetail_50 : decode cX6_gapDetail 50 = .ok (.iload_n 1, 1) := by decide +kernel
theorem dX6_gapDetail_51 : decode cX6_gapDetail 51 = .ok (.invokevirtual 68, 3) := by decide +kernel
theorem dX6_gapDetail_54 : decode cX6_gapDetail 54 = .ok (.ireturn, 1) := by decide +kernel
theorem dX6_placeDetail_0 : decode cX6_placeDetail 0 = .ok (.iload_n 2, 1) := by decide +kernel
theorem dX6_placeDetail_1 : decode cX6_placeDetail 1 = .ok (.lookupswitch 45 #[(4, 27), (5, 36)], 27) := by decide +kernel
theorem dX6_placeDetail_28 : decode cX6_placeDetail 28 = .ok (.aload_n 0, 1) := by decide +kernel
theorem dX6_placeDetail_29 : decode cX6_placeDetail 29 = .ok (.getfield 40, 3) := by decide +kernel
theorem dX6_placeDetail_32 : decode cX6_placeDetail 32 = .ok (.iload_n 1, 1) := by decide +kernel
theorem dX6_placeDetail_33 : decode cX6_placeDetail 33 = .ok (.invokevirtual 68, 3) := by decide +kernel
theorem dX6_placeDetail_36 : decode cX6_placeDetail 36 = .ok (.ireturn, 1) := by decide +kernel
theorem dX6_placeDetail_37 : decode cX6_placeDetail 37 = .ok (.aload_n 0, 1) := by decide +kernel
