theorem d_SetList_goesBefore_5 : decode b_SetList_goesBefore 5 = .ok (.iload_n 2, 1) := by decide +kernel
theorem d_SetList_goesBefore_6 : decode b_SetList_goesBefore 6 = .ok (.iand, 1) := by decide +kernel
theorem d_SetList_goesBefore_7 : decode b_SetList_goesBefore 7 = .ok (.iload_n 2, 1) := by decide +kernel
theorem d_SetList_goesBefore_8 : decode b_SetList_goesBefore 8 = .ok (.ineg, 1) := by decide +kernel
theorem d_SetList_goesBefore_9 : decode b_SetList_goesBefore 9 = .ok (.iand, 1) := by decide +kernel
theorem d_SetList_goesBefore_10 : decode b_SetList_goesBefore 10 = .ok (.ifCond .eq 7, 3) := by decide +kernel
theorem d_SetList_goesBefore_13 : decode b_SetList_goesBefore 13 = .ok (.iconst 1, 1) := by decide +kernel
theorem d_SetList_goesBefore_14 : decode b_SetList_goesBefore 14 = .ok (.goto 4, 3) := by decide +kernel
theorem d_SetList_goesBefore_17 : decode b_SetList_goesBefore 17 = .ok (.iconst 0, 1) := by decide +kernel
theorem d_SetList_goesBefore_18 : decode b_SetList_goesBefore 18 = .ok (.ireturn, 1) := by decide +kernel
theorem d_SetList_greatestSumWith_0 : decode b_SetList_greatestSumWith 0 = .ok (.ldc 69, 2) := by decide +kernel
theorem d_SetList_greatestSumWith_2 : decode b_SetList_greatestSumWith 2 = .ok (.istore_n 3, 1) := by decide +kernel
theorem d_SetList_greatestSumWith_3 : decode b_SetList_greatestSumWith 3 = .ok (.iconst 0, 1) := by decide +kernel
theorem d_SetList_greatestSumWith_4 : decode b_SetList_greatestSumWith 4 = .ok (.istore 4, 2) := by decide +kernel
theorem d_SetList_greatestSumWith_6 : decode b_SetList_greatestSumWith 6 = .ok (.iload 4, 2) := by decide +kernel
theorem d_SetList_greatestSumWith_8 : decode b_SetList_greatestSumWith 8 = .ok (.aload_n 0, 1) := by decide +kernel
theorem d_SetList_greatestSumWith_9 : decode b_SetList_greatestSumWith 9 = .ok (.getfield 25, 3) := by decide +kernel
theorem d_SetList_greatestSumWith_12 : decode b_SetList_greatestSumWith 12 = .ok (.if_icmp .ge 51, 3) := by decide +kernel
theorem d_SetList_greatestSumWith_15 : decode b_SetList_greatestSumWith 15 = .ok (.aload_n 0, 1) := by decide +kernel
theorem d_SetList_greatestSumWith_16 : decode b_SetList_greatestSumWith 16 = .ok (.getfield 18, 3) := by decide +kernel
theorem d_SetList_greatestSumWith_19 : decode b_SetList_greatestSumWith 19 = .ok (.iload 4, 2) := by decide +kernel
theorem d_SetList_greatestSumWith_21 : decode b_SetList_greatestSumWith 21 = .ok (.iaload, 1) := by decide +kernel
theorem d_SetList_greatestSumWith_22 : decode b_SetList_greatestSumWith 22 = .ok (.iload_n 1, 1) := by decide +kernel
theorem d_SetList_greatestSumWith_23 : decode b_SetList_greatestSumWith 23 = .ok (.invokestatic 73, 3) := by decide +kernel
theorem d_SetList_greatestSumWith_26 : decode b_SetList_greatestSumWith 26 = .ok (.ifCond .eq 15, 3) := by decide +kernel
theorem d_SetList_greatestSumWith_29 : decode b_SetList_greatestSumWith 29 = .ok (.aload_n 0, 1) := by decide +kernel
theorem d_SetList_greatestSumWith_30 : decode b_SetList_greatestSumWith 30 = .ok (.getfield 22, 3) := by decide +kernel
theorem d_SetList_greatestSumWith_33 : decode b_SetList_greatestSumWith 33 = .ok (.iload 4, 2) := by decide +kernel
theorem d_SetList_greatestSumWith_35 : decode b_SetList_greatestSumWith 35 = .ok (.iaload, 1) := by decide +kernel
theorem d_SetList_greatestSumWith_36 : decode b_SetList_greatestSumWith 36 = .ok (.iload_n 2, 1) := by decide +kernel
theorem d_SetList_greatestSumWith_37 : decode b_SetList_greatestSumWith 37 = .ok (.iadd, 1) := by decide +kernel
theorem d_SetList_greatestSumWith_38 : decode b_SetList_greatestSumWith 38 = .ok (.goto 10, 3) := by decide +kernel
theorem d_SetList_greatestSumWith_41 : decode b_SetList_greatestSumWith 41 = .ok (.aload_n 0, 1) := by decide +kernel
theorem d_SetList_greatestSumWith_42 : decode b_SetList_greatestSumWith 42 = .ok (.getfield 22, 3) := by decide +kernel
theorem d_SetList_greatestSumWith_45 : decode b_SetList_greatestSumWith 45 = .ok (.iload 4, 2) := by decide +kernel
theorem d_SetList_greatestSumWith_47 : decode b_SetList_greatestSumWith 47 = .ok (.iaload, 1) := by decide +kernel
theorem d_SetList_greatestSumWith_48 : decode b_SetList_greatestSumWith 48 = .ok (.istore 5, 2) := by decide +kernel
theorem d_SetList_greatestSumWith_50 : decode b_SetList_greatestSumWith 50 = .ok (.iload_n 3, 1) := by decide +kernel
theorem d_SetList_greatestSumWith_51 : decode b_SetList_greatestSumWith 51 = .ok (.iload 5, 2) := by decide +kernel
theorem d_SetList_greatestSumWith_53 : decode b_SetList_greatestSumWith 53 = .ok (.invokestatic 76, 3) := by decide +kernel
theorem d_SetList_greatestSumWith_56 : decode b_SetList_greatestSumWith 56 = .ok (.istore_n 3, 1) := by decide +kernel
theorem d_SetList_greatestSumWith_57 : decode b_SetList_greatestSumWith 57 = .ok (.iinc 4 1, 3) := by decide +kernel
theorem d_SetList_greatestSumWith_60 : decode b_SetList_greatestSumWith 60 = .ok (.goto (-54), 3) := by decide +kernel
theorem d_SetList_greatestSumWith_63 : decode b_SetList_greatestSumWith 63 = .ok (.iload_n 3, 1) := by decide +kernel
theorem d_SetList_greatestSumWith_64 : decode b_SetList_greatestSumWith 64 = .ok (.ireturn, 1) := by decide +kernel
theorem d_SetList_greatestSumAmong_0 : decode b_SetList_greatestSumAmong 0 = .ok (.ldc 69, 2) := by decide +kernel
theorem d_SetList_greatestSumAmong_2 : decode b_SetList_greatestSumAmong 2 = .ok (.istore_n 2, 1) := by decide +kernel
theorem d_SetList_greatestSumAmong_3 : decode b_SetList_greatestSumAmong 3 = .ok (.iconst 0, 1) := by decide +kernel
theorem d_SetList_greatestSumAmong_4 : decode b_SetList_greatestSumAmong 4 = .ok (.istore_n 3, 1) := by decide +kernel
theorem d_SetList_greatestSumAmong_5 : decode b_SetList_greatestSumAmong 5 = .ok (.iload_n 3, 1) := by decide +kernel
theorem d_SetList_greatestSumAmong_6 : decode b_SetList_greatestSumAmong 6 = .ok (.aload_n 0, 1) := by decide +kernel
theorem d_SetList_greatestSumAmong_7 : decode b_SetList_greatestSumAmong 7 = .ok (.getfield 25, 3) := by decide +kernel
theorem d_SetList_greatestSumAmong_10 : decode b_SetList_greatestSumAmong 10 = .ok (.if_icmp .ge 33, 3) := by decide +kernel
theorem d_SetList_greatestSumAmong_13 : decode b_SetList_greatestSumAmong 13 = .ok (.aload_n 0, 1) := by decide +kernel
theorem d_SetList_greatestSumAmong_14 : decode b_SetList_greatestSumAmong 14 = .ok (.getfield 18, 3) := by decide +kernel
theorem d_SetList_greatestSumAmong_17 : decode b_SetList_greatestSumAmong 17 = .ok (.iload_n 3, 1) := by decide +kernel
theorem d_SetList_greatestSumAmong_18 : decode b_SetList_greatestSumAmong 18 = .ok (.iaload, 1) := by decide +kernel
theorem d_SetList_greatestSumAmong_19 : decode b_SetList_greatestSumAmong 19 = .ok (.iload_n 1, 1) := by decide +kernel
theorem d_SetList_greatestSumAmong_20 : decode b_SetList_greatestSumAmong 20 = .ok (.iconst (-1), 1) := by decide +kernel
theorem d_SetList_greatestSumAmong_21 : decode b_SetList_greatestSumAmong 21 = .ok (.ixor, 1) := by decide +kernel
theorem d_SetList_greatestSumAmong_22 : decode b_SetList_greatestSumAmong 22 = .ok (.iand, 1) := by decide +kernel
theorem d_SetList_greatestSumAmong_23 : decode b_SetList_greatestSumAmong 23 = .ok (.ifCond .ne 14, 3) := by decide +kernel
theorem d_SetList_greatestSumAmong_26 : decode b_SetList_greatestSumAmong 26 = .ok (.iload_n 2, 1) := by decide +kernel
theorem d_SetList_greatestSumAmong_27 : decode b_SetList_greatestSumAmong 27 = .ok (.aload_n 0, 1) := by decide +kernel
theorem d_SetList_greatestSumAmong_28 : decode b_SetList_greatestSumAmong 28 = .ok (.getfield 22, 3) := by decide +kernel
theorem d_SetList_greatestSumAmong_31 : decode b_SetList_greatestSumAmong 31 = .ok (.iload_n 3, 1) := by decide +kernel
theorem d_SetList_greatestSumAmong_32 : decode b_SetList_greatestSumAmong 32 = .ok (.iaload, 1) := by decide +kernel
theorem d_SetList_greatestSumAmong_33 : decode b_SetList_greatestSumAmong 33 = .ok (.invokestatic 76, 3) := by decide +kernel
theorem d_SetList_greatestSumAmong_36 : decode b_SetList_greatestSumAmong 36 = .ok (.istore_n 2, 1) := by decide +kernel
theorem d_SetList_greatestSumAmong_37 : decode b_SetList_greatestSumAmong 37 = .ok (.iinc 3 1, 3) := by decide +kernel
theorem d_SetList_greatestSumAmong_40 : decode b_SetList_greatestSumAmong 40 = .ok (.goto (-35), 3) := by decide +kernel
theorem d_SetList_greatestSumAmong_43 : decode b_SetList_greatestSumAmong 43 = .ok (.iload_n 2, 1) := by decide +kernel
theorem d_SetList_greatestSumAmong_44 : decode b_SetList_greatestSumAmong 44 = .ok (.ireturn, 1) := by decide +kernel
theorem d_PairChoice_init_0 : decode b_PairChoice_init 0 = .ok (.aload_n 0, 1) := by decide +kernel
theorem d_PairChoice_init_1 : decode b_PairChoice_init 1 = .ok (.invokespecial 1, 3) := by decide +kernel
theorem d_PairChoice_init_4 : decode b_PairChoice_init 4 = .ok (.aload_n 0, 1) := by decide +kernel
theorem d_PairChoice_init_5 : decode b_PairChoice_init 5 = .ok (.new 7, 3) := by decide +kernel
theorem d_PairChoice_init_8 : decode b_PairChoice_init 8 = .ok (.dup, 1) := by decide +kernel
theorem d_PairChoice_init_9 : decode b_PairChoice_init 9 = .ok (.invokespecial 9, 3) := by decide +kernel
theorem d_PairChoice_init_12 : decode b_PairChoice_init 12 = .ok (.putfield 10, 3) := by decide +kernel
theorem d_PairChoice_init_15 : decode b_PairChoice_init 15 = .ok (.aload_n 0, 1) := by decide +kernel
theorem d_PairChoice_init_16 : decode b_PairChoice_init 16 = .ok (.new 16, 3) := by decide +kernel
theorem d_PairChoice_init_19 : decode b_PairChoice_init 19 = .ok (.dup, 1) := by decide +kernel
theorem d_PairChoice_init_20 : decode b_PairChoice_init 20 = .ok (.aload_n 0, 1) := by decide +kernel
theorem d_PairChoice_init_21 : decode b_PairChoice_init 21 = .ok (.getfield 10, 3) := by decide +kernel
theorem d_PairChoice_init_24 : decode b_PairChoice_init 24 = .ok (.invokespecial 18, 3) := by decide +kernel
theorem d_PairChoice_init_27 : decode b_PairChoice_init 27 = .ok (.putfield 21, 3) := by decide +kernel
theorem d_PairChoice_init_30 : decode b_PairChoice_init 30 = .ok (.aload_n 0, 1) := by decide +kernel
theorem d_PairChoice_init_31 : decode b_PairChoice_init 31 = .ok (.new 25, 3) := by decide +kernel
theorem d_PairChoice_init_34 : decode b_PairChoice_init 34 = .ok (.dup, 1) := by decide +kernel
theorem d_PairChoice_init_35 : decode b_PairChoice_init 35 = .ok (.aload_n 0, 1) := by decide +kernel
theorem d_PairChoice_init_36 : decode b_PairChoice_init 36 = .ok (.getfield 10, 3) := by decide +kernel
theorem d_PairChoice_init_39 : decode b_PairChoice_init 39 = .ok (.invokespecial 27, 3) := by decide +kernel
theorem d_PairChoice_init_42 : decode b_PairChoice_init 42 = .ok (.putfield 28, 3) := by decide +kernel
theorem d_PairChoice_init_45 : decode b_PairChoice_init 45 = .ok (.aload_n 0, 1) := by decide +kernel
theorem d_PairChoice_init_46 : decode b_PairChoice_init 46 = .ok (.new 32, 3) := by decide +kernel
theorem d_PairChoice_init_49 : decode b_PairChoice_init 49 = .ok (.dup, 1) := by decide +kernel
theorem d_PairChoice_init_50 : decode b_PairChoice_init 50 = .ok (.invokespecial 34, 3) := by decide +kernel
theorem d_PairChoice_init_53 : decode b_PairChoice_init 53 = .ok (.putfield 35, 3) := by decide +kernel
theorem d_PairChoice_init_56 : decode b_PairChoice_init 56 = .ok (.return_, 1) := by decide +kernel
theorem d_PairChoice_animal_0 : decode b_PairChoice_animal 0 = .ok (.iload_n 1, 1) := by decide +kernel
theorem d_PairChoice_animal_1 : decode b_PairChoice_animal 1 = .ok (.iconst 0, 1) := by decide +kernel
theorem d_PairChoice_animal_2 : decode b_PairChoice_animal 2 = .ok (.iconst 1, 1) := by decide +kernel
theorem d_PairChoice_animal_3 : decode b_PairChoice_animal 3 = .ok (.invokestatic 39, 3) := by decide +kernel
theorem d_PairChoice_animal_6 : decode b_PairChoice_animal 6 = .ok (.ifCond .eq 20, 3) := by decide +kernel
theorem d_PairChoice_animal_9 : decode b_PairChoice_animal 9 = .ok (.iload_n 2, 1) := by decide +kernel
theorem d_PairChoice_animal_10 : decode b_PairChoice_animal 10 = .ok (.invokestatic 43, 3) := by decide +kernel
theorem d_PairChoice_animal_13 : decode b_PairChoice_animal 13 = .ok (.ifCond .eq 13, 3) := by decide +kernel
theorem d_PairChoice_animal_16 : decode b_PairChoice_animal 16 = .ok (.iload_n 3, 1) := by decide +kernel
theorem d_PairChoice_animal_17 : decode b_PairChoice_animal 17 = .ok (.iconst 0, 1) := by decide +kernel
theorem d_PairChoice_animal_18 : decode b_PairChoice_animal 18 = .ok (.bipush 7, 2) := by decide +kernel
theorem d_PairChoice_animal_20 : decode b_PairChoice_animal 20 = .ok (.invokestatic 39, 3) := by decide +kernel
theorem d_PairChoice_animal_23 : decode b_PairChoice_animal 23 = .ok (.ifCond .ne 6, 3) := by decide +kernel
theorem d_PairChoice_animal_26 : decode b_PairChoice_animal 26 = .ok (.bipush (-2), 2) := by decide +kernel
theorem d_PairChoice_animal_28 : decode b_PairChoice_animal 28 = .ok (.ireturn, 1) := by decide +kernel
theorem d_PairChoice_animal_29 : decode b_PairChoice_animal 29 = .ok (.aload_n 0, 1) := by decide +kernel
theorem d_PairChoice_animal_30 : decode b_PairChoice_animal 30 = .ok (.getfield 10, 3) := by decide +kernel
theorem d_PairChoice_animal_33 : decode b_PairChoice_animal 33 = .ok (.getfield 47, 3) := by decide +kernel
theorem d_PairChoice_animal_36 : decode b_PairChoice_animal 36 = .ok (.bipush 12, 2) := by decide +kernel
theorem d_PairChoice_animal_38 : decode b_PairChoice_animal 38 = .ok (.if_icmp .lt 6, 3) := by decide +kernel
theorem d_PairChoice_animal_41 : decode b_PairChoice_animal 41 = .ok (.bipush (-4), 2) := by decide +kernel
theorem d_PairChoice_animal_43 : decode b_PairChoice_animal 43 = .ok (.ireturn, 1) := by decide +kernel
theorem d_PairChoice_animal_44 : decode b_PairChoice_animal 44 = .ok (.aload_n 0, 1) := by decide +kernel
theorem d_PairChoice_animal_45 : decode b_PairChoice_animal 45 = .ok (.invokevirtual 51, 3) := by decide +kernel
theorem d_PairChoice_animal_48 : decode b_PairChoice_animal 48 = .ok (.aload_n 0, 1) := by decide +kernel
theorem d_PairChoice_animal_49 : decode b_PairChoice_animal 49 = .ok (.getfield 10, 3) := by decide +kernel
theorem d_PairChoice_animal_52 : decode b_PairChoice_animal 52 = .ok (.iload_n 1, 1) := by decide +kernel
theorem d_PairChoice_animal_53 : decode b_PairChoice_animal 53 = .ok (.iload_n 2, 1) := by decide +kernel
theorem d_PairChoice_animal_54 : decode b_PairChoice_animal 54 = .ok (.iload_n 3, 1) := by decide +kernel
theorem d_PairChoice_animal_55 : decode b_PairChoice_animal 55 = .ok (.invokevirtual 54, 3) := by decide +kernel
theorem d_PairChoice_animal_58 : decode b_PairChoice_animal 58 = .ok (.ireturn, 1) := by decide +kernel
theorem d_PairChoice_worth_0 : decode b_PairChoice_worth 0 = .ok (.aload_n 0, 1) := by decide +kernel
theorem d_PairChoice_worth_1 : decode b_PairChoice_worth 1 = .ok (.getfield 10, 3) := by decide +kernel
theorem d_PairChoice_worth_4 : decode b_PairChoice_worth 4 = .ok (.iload_n 1, 1) := by decide +kernel
theorem d_PairChoice_worth_5 : decode b_PairChoice_worth 5 = .ok (.invokevirtual 58, 3) := by decide +kernel
theorem d_PairChoice_worth_8 : decode b_PairChoice_worth 8 = .ok (.ifCond .ne 7, 3) := by decide +kernel
theorem d_PairChoice_worth_11 : decode b_PairChoice_worth 11 = .ok (.sipush (-20000), 3) := by decide +kernel
theorem d_PairChoice_worth_14 : decode b_PairChoice_worth 14 = .ok (.ireturn, 1) := by decide +kernel
theorem d_PairChoice_worth_15 : decode b_PairChoice_worth 15 = .ok (.iload_n 2, 1) := by decide +kernel
theorem d_PairChoice_worth_16 : decode b_PairChoice_worth 16 = .ok (.invokestatic 43, 3) := by decide +kernel
theorem d_PairChoice_worth_19 : decode b_PairChoice_worth 19 = .ok (.ifCond .ne 7, 3) := by decide +kernel
theorem d_PairChoice_worth_22 : decode b_PairChoice_worth 22 = .ok (.sipush (-20001), 3) := by decide +kernel
theorem d_PairChoice_worth_25 : decode b_PairChoice_worth 25 = .ok (.ireturn, 1) := by decide +kernel
theorem d_PairChoice_worth_26 : decode b_PairChoice_worth 26 = .ok (.aload_n 0, 1) := by decide +kernel
theorem d_PairChoice_worth_27 : decode b_PairChoice_worth 27 = .ok (.getfield 10, 3) := by decide +kernel
theorem d_PairChoice_worth_30 : decode b_PairChoice_worth 30 = .ok (.getfield 61, 3) := by decide +kernel
theorem d_PairChoice_worth_33 : decode b_PairChoice_worth 33 = .ok (.iload_n 1, 1) := by decide +kernel
theorem d_PairChoice_worth_34 : decode b_PairChoice_worth 34 = .ok (.iaload, 1) := by decide +kernel
theorem d_PairChoice_worth_35 : decode b_PairChoice_worth 35 = .ok (.istore_n 3, 1) := by decide +kernel
theorem d_PairChoice_worth_36 : decode b_PairChoice_worth 36 = .ok (.iload_n 2, 1) := by decide +kernel
theorem d_PairChoice_worth_37 : decode b_PairChoice_worth 37 = .ok (.iload_n 3, 1) := by decide +kernel
theorem d_PairChoice_worth_38 : decode b_PairChoice_worth 38 = .ok (.if_icmp .eq 17, 3) := by decide +kernel
theorem d_PairChoice_worth_41 : decode b_PairChoice_worth 41 = .ok (.aload_n 0, 1) := by decide +kernel
theorem d_PairChoice_worth_42 : decode b_PairChoice_worth 42 = .ok (.getfield 10, 3) := by decide +kernel
theorem d_PairChoice_worth_45 : decode b_PairChoice_worth 45 = .ok (.getfield 61, 3) := by decide +kernel
theorem d_PairChoice_worth_48 : decode b_PairChoice_worth 48 = .ok (.iload_n 1, 1) := by decide +kernel
theorem d_PairChoice_worth_49 : decode b_PairChoice_worth 49 = .ok (.iload_n 2, 1) := by decide +kernel
theorem d_PairChoice_worth_50 : decode b_PairChoice_worth 50 = .ok (.iastore, 1) := by decide +kernel
theorem d_PairChoice_worth_51 : decode b_PairChoice_worth 51 = .ok (.aload_n 0, 1) := by decide +kernel
theorem d_PairChoice_worth_52 : decode b_PairChoice_worth 52 = .ok (.invokevirtual 51, 3) := by decide +kernel
theorem d_PairChoice_worth_55 : decode b_PairChoice_worth 55 = .ok (.iload_n 3, 1) := by decide +kernel
theorem d_PairChoice_worth_56 : decode b_PairChoice_worth 56 = .ok (.ireturn, 1) := by decide +kernel
theorem d_PairChoice_kin_0 : decode b_PairChoice_kin 0 = .ok (.aload_n 0, 1) := by decide +kernel
theorem d_PairChoice_kin_1 : decode b_PairChoice_kin 1 = .ok (.getfield 10, 3) := by decide +kernel
theorem d_PairChoice_kin_4 : decode b_PairChoice_kin 4 = .ok (.iload_n 1, 1) := by decide +kernel
theorem d_PairChoice_kin_5 : decode b_PairChoice_kin 5 = .ok (.invokevirtual 58, 3) := by decide +kernel
theorem d_PairChoice_kin_8 : decode b_PairChoice_kin 8 = .ok (.ifCond .eq 14, 3) := by decide +kernel
theorem d_PairChoice_kin_11 : decode b_PairChoice_kin 11 = .ok (.aload_n 0, 1) := by decide +kernel
theorem d_PairChoice_kin_12 : decode b_PairChoice_kin 12 = .ok (.getfield 10, 3) := by decide +kernel
theorem d_PairChoice_kin_15 : decode b_PairChoice_kin 15 = .ok (.iload_n 2, 1) := by decide +kernel
theorem d_PairChoice_kin_16 : decode b_PairChoice_kin 16 = .ok (.invokevirtual 58, 3) := by decide +kernel
theorem d_PairChoice_kin_19 : decode b_PairChoice_kin 19 = .ok (.ifCond .ne 5, 3) := by decide +kernel
theorem d_PairChoice_kin_22 : decode b_PairChoice_kin 22 = .ok (.iconst (-1), 1) := by decide +kernel
theorem d_PairChoice_kin_23 : decode b_PairChoice_kin 23 = .ok (.ireturn, 1) := by decide +kernel
theorem d_PairChoice_kin_24 : decode b_PairChoice_kin 24 = .ok (.iload_n 3, 1) := by decide +kernel
theorem d_PairChoice_kin_25 : decode b_PairChoice_kin 25 = .ok (.iconst 0, 1) := by decide +kernel
theorem d_PairChoice_kin_26 : decode b_PairChoice_kin 26 = .ok (.sipush 1000, 3) := by decide +kernel
theorem d_PairChoice_kin_29 : decode b_PairChoice_kin 29 = .ok (.invokestatic 39, 3) := by decide +kernel
theorem d_PairChoice_kin_32 : decode b_PairChoice_kin 32 = .ok (.ifCond .ne 6, 3) := by decide +kernel
theorem d_PairChoice_kin_35 : decode b_PairChoice_kin 35 = .ok (.bipush (-2), 2) := by decide +kernel
theorem d_PairChoice_kin_37 : decode b_PairChoice_kin 37 = .ok (.ireturn, 1) := by decide +kernel
theorem d_PairChoice_kin_38 : decode b_PairChoice_kin 38 = .ok (.aload_n 0, 1) := by decide +kernel
theorem d_PairChoice_kin_39 : decode b_PairChoice_kin 39 = .ok (.getfield 10, 3) := by decide +kernel
theorem d_PairChoice_kin_42 : decode b_PairChoice_kin 42 = .ok (.getfield 65, 3) := by decide +kernel
theorem d_PairChoice_kin_45 : decode b_PairChoice_kin 45 = .ok (.iload_n 1, 1) := by decide +kernel
theorem d_PairChoice_kin_46 : decode b_PairChoice_kin 46 = .ok (.aaload, 1) := by decide +kernel
theorem d_PairChoice_kin_47 : decode b_PairChoice_kin 47 = .ok (.iload_n 2, 1) := by decide +kernel
theorem d_PairChoice_kin_48 : decode b_PairChoice_kin 48 = .ok (.iaload, 1) := by decide +kernel
theorem d_PairChoice_kin_49 : decode b_PairChoice_kin 49 = .ok (.istore 4, 2) := by decide +kernel
theorem d_PairChoice_kin_51 : decode b_PairChoice_kin 51 = .ok (.iload_n 3, 1) := by decide +kernel
theorem d_PairChoice_kin_52 : decode b_PairChoice_kin 52 = .ok (.iload 4, 2) := by decide +kernel
theorem d_PairChoice_kin_54 : decode b_PairChoice_kin 54 = .ok (.if_icmp .eq 31, 3) := by decide +kernel
theorem d_PairChoice_kin_57 : decode b_PairChoice_kin 57 = .ok (.aload_n 0, 1) := by decide +kernel
theorem d_PairChoice_kin_58 : decode b_PairChoice_kin 58 = .ok (.getfield 10, 3) := by decide +kernel
theorem d_PairChoice_kin_61 : decode b_PairChoice_kin 61 = .ok (.getfield 65, 3) := by decide +kernel
theorem d_PairChoice_kin_64 : decode b_PairChoice_kin 64 = .ok (.iload_n 1, 1) := by decide +kernel
theorem d_PairChoice_kin_65 : decode b_PairChoice_kin 65 = .ok (.aaload, 1) := by decide +kernel
theorem d_PairChoice_kin_66 : decode b_PairChoice_kin 66 = .ok (.iload_n 2, 1) := by decide +kernel
theorem d_PairChoice_kin_67 : decode b_PairChoice_kin 67 = .ok (.iload_n 3, 1) := by decide +kernel
theorem d_PairChoice_kin_68 : decode b_PairChoice_kin 68 = .ok (.iastore, 1) := by decide +kernel
theorem d_PairChoice_kin_69 : decode b_PairChoice_kin 69 = .ok (.aload_n 0, 1) := by decide +kernel
theorem d_PairChoice_kin_70 : decode b_PairChoice_kin 70 = .ok (.getfield 10, 3) := by decide +kernel
theorem d_PairChoice_kin_73 : decode b_PairChoice_kin 73 = .ok (.getfield 65, 3) := by decide +kernel
theorem d_PairChoice_kin_76 : decode b_PairChoice_kin 76 = .ok (.iload_n 2, 1) := by decide +kernel
theorem d_PairChoice_kin_77 : decode b_PairChoice_kin 77 = .ok (.aaload, 1) := by decide +kernel
theorem d_PairChoice_kin_78 : decode b_PairChoice_kin 78 = .ok (.iload_n 1, 1) := by decide +kernel
theorem d_PairChoice_kin_79 : decode b_PairChoice_kin 79 = .ok (.iload_n 3, 1) := by decide +kernel
theorem d_PairChoice_kin_80 : decode b_PairChoice_kin 80 = .ok (.iastore, 1) := by decide +kernel
theorem d_PairChoice_kin_81 : decode b_PairChoice_kin 81 = .ok (.aload_n 0, 1) := by decide +kernel
theorem d_PairChoice_kin_82 : decode b_PairChoice_kin 82 = .ok (.invokevirtual 51, 3) := by decide +kernel
theorem d_PairChoice_kin_85 : decode b_PairChoice_kin 85 = .ok (.iload 4, 2) := by decide +kernel
theorem d_PairChoice_kin_87 : decode b_PairChoice_kin 87 = .ok (.ireturn, 1) := by decide +kernel
theorem d_PairChoice_bar_0 : decode b_PairChoice_bar 0 = .ok (.aload_n 0, 1) := by decide +kernel
theorem d_PairChoice_bar_1 : decode b_PairChoice_bar 1 = .ok (.getfield 10, 3) := by decide +kernel
theorem d_PairChoice_bar_4 : decode b_PairChoice_bar 4 = .ok (.iload_n 1, 1) := by decide +kernel
theorem d_PairChoice_bar_5 : decode b_PairChoice_bar 5 = .ok (.invokevirtual 58, 3) := by decide +kernel
theorem d_PairChoice_bar_8 : decode b_PairChoice_bar 8 = .ok (.ifCond .eq 14, 3) := by decide +kernel
theorem d_PairChoice_bar_11 : decode b_PairChoice_bar 11 = .ok (.aload_n 0, 1) := by decide +kernel
theorem d_PairChoice_bar_12 : decode b_PairChoice_bar 12 = .ok (.getfield 10, 3) := by decide +kernel
theorem d_PairChoice_bar_15 : decode b_PairChoice_bar 15 = .ok (.iload_n 2, 1) := by decide +kernel
theorem d_PairChoice_bar_16 : decode b_PairChoice_bar 16 = .ok (.invokevirtual 58, 3) := by decide +kernel
theorem d_PairChoice_bar_19 : decode b_PairChoice_bar 19 = .ok (.ifCond .ne 5, 3) := by decide +kernel
theorem d_PairChoice_bar_22 : decode b_PairChoice_bar 22 = .ok (.iconst 0, 1) := by decide +kernel
theorem d_PairChoice_bar_23 : decode b_PairChoice_bar 23 = .ok (.ireturn, 1) := by decide +kernel
theorem d_PairChoice_bar_24 : decode b_PairChoice_bar 24 = .ok (.aload_n 0, 1) := by decide +kernel
theorem d_PairChoice_bar_25 : decode b_PairChoice_bar 25 = .ok (.getfield 10, 3) := by decide +kernel
theorem d_PairChoice_bar_28 : decode b_PairChoice_bar 28 = .ok (.getfield 69, 3) := by decide +kernel
theorem d_PairChoice_bar_31 : decode b_PairChoice_bar 31 = .ok (.iload_n 1, 1) := by decide +kernel
theorem d_PairChoice_bar_32 : decode b_PairChoice_bar 32 = .ok (.invokestatic 72, 3) := by decide +kernel
theorem d_PairChoice_bar_35 : decode b_PairChoice_bar 35 = .ok (.aload_n 0, 1) := by decide +kernel
theorem d_PairChoice_bar_36 : decode b_PairChoice_bar 36 = .ok (.getfield 10, 3) := by decide +kernel
theorem d_PairChoice_bar_39 : decode b_PairChoice_bar 39 = .ok (.getfield 69, 3) := by decide +kernel
theorem d_PairChoice_bar_42 : decode b_PairChoice_bar 42 = .ok (.iload_n 2, 1) := by decide +kernel
theorem d_PairChoice_bar_43 : decode b_PairChoice_bar 43 = .ok (.invokestatic 72, 3) := by decide +kernel
theorem d_PairChoice_bar_46 : decode b_PairChoice_bar 46 = .ok (.if_icmp .eq 20, 3) := by decide +kernel
theorem d_PairChoice_bar_49 : decode b_PairChoice_bar 49 = .ok (.aload_n 0, 1) := by decide +kernel
theorem d_PairChoice_bar_50 : decode b_PairChoice_bar 50 = .ok (.getfield 10, 3) := by decide +kernel
theorem d_PairChoice_bar_53 : decode b_PairChoice_bar 53 = .ok (.getfield 76, 3) := by decide +kernel
theorem d_PairChoice_bar_56 : decode b_PairChoice_bar 56 = .ok (.iload_n 1, 1) := by decide +kernel
theorem d_PairChoice_bar_57 : decode b_PairChoice_bar 57 = .ok (.iaload, 1) := by decide +kernel
theorem d_PairChoice_bar_58 : decode b_PairChoice_bar 58 = .ok (.iload_n 2, 1) := by decide +kernel
theorem d_PairChoice_bar_59 : decode b_PairChoice_bar 59 = .ok (.invokestatic 72, 3) := by decide +kernel
theorem d_PairChoice_bar_62 : decode b_PairChoice_bar 62 = .ok (.iload_n 3, 1) := by decide +kernel
theorem d_PairChoice_bar_63 : decode b_PairChoice_bar 63 = .ok (.if_icmp .ne 5, 3) := by decide +kernel
theorem d_PairChoice_bar_66 : decode b_PairChoice_bar 66 = .ok (.iconst 0, 1) := by decide +kernel
theorem d_PairChoice_bar_67 : decode b_PairChoice_bar 67 = .ok (.ireturn, 1) := by decide +kernel
theorem d_PairChoice_bar_68 : decode b_PairChoice_bar 68 = .ok (.aload_n 0, 1) := by decide +kernel
theorem d_PairChoice_bar_69 : decode b_PairChoice_bar 69 = .ok (.getfield 10, 3) := by decide +kernel
theorem d_PairChoice_bar_72 : decode b_PairChoice_bar 72 = .ok (.getfield 76, 3) := by decide +kernel
theorem d_PairChoice_bar_75 : decode b_PairChoice_bar 75 = .ok (.iload_n 1, 1) := by decide +kernel
theorem d_PairChoice_bar_76 : decode b_PairChoice_bar 76 = .ok (.dup2, 1) := by decide +kernel
theorem d_PairChoice_bar_77 : decode b_PairChoice_bar 77 = .ok (.iaload, 1) := by decide +kernel
theorem d_PairChoice_bar_78 : decode b_PairChoice_bar 78 = .ok (.iload_n 2, 1) := by decide +kernel
theorem d_PairChoice_bar_79 : decode b_PairChoice_bar 79 = .ok (.invokestatic 79, 3) := by decide +kernel
theorem d_PairChoice_bar_82 : decode b_PairChoice_bar 82 = .ok (.ixor, 1) := by decide +kernel
theorem d_PairChoice_bar_83 : decode b_PairChoice_bar 83 = .ok (.iastore, 1) := by decide +kernel
theorem d_PairChoice_bar_84 : decode b_PairChoice_bar 84 = .ok (.aload_n 0, 1) := by decide +kernel
theorem d_PairChoice_bar_85 : decode b_PairChoice_bar 85 = .ok (.getfield 10, 3) := by decide +kernel
theorem d_PairChoice_bar_88 : decode b_PairChoice_bar 88 = .ok (.getfield 76, 3) := by decide +kernel
theorem d_PairChoice_bar_91 : decode b_PairChoice_bar 91 = .ok (.iload_n 2, 1) := by decide +kernel
theorem d_PairChoice_bar_92 : decode b_PairChoice_bar 92 = .ok (.dup2, 1) := by decide +kernel
theorem d_PairChoice_bar_93 : decode b_PairChoice_bar 93 = .ok (.iaload, 1) := by decide +kernel
theorem d_PairChoice_bar_94 : decode b_PairChoice_bar 94 = .ok (.iload_n 1, 1) := by decide +kernel
theorem d_PairChoice_bar_95 : decode b_PairChoice_bar 95 = .ok (.invokestatic 79, 3) := by decide +kernel
theorem d_PairChoice_bar_98 : decode b_PairChoice_bar 98 = .ok (.ixor, 1) := by decide +kernel
theorem d_PairChoice_bar_99 : decode b_PairChoice_bar 99 = .ok (.iastore, 1) := by decide +kernel
theorem d_PairChoice_bar_100 : decode b_PairChoice_bar 100 = .ok (.aload_n 0, 1) := by decide +kernel
theorem d_PairChoice_bar_101 : decode b_PairChoice_bar 101 = .ok (.invokevirtual 51, 3) := by decide +kernel
theorem d_PairChoice_bar_104 : decode b_PairChoice_bar 104 = .ok (.iconst 1, 1) := by decide +kernel
theorem d_PairChoice_bar_105 : decode b_PairChoice_bar 105 = .ok (.ireturn, 1) := by decide +kernel
theorem d_PairChoice_limit_0 : decode b_PairChoice_limit 0 = .ok (.iload_n 1, 1) := by decide +kernel
theorem d_PairChoice_limit_1 : decode b_PairChoice_limit 1 = .ok (.iconst 0, 1) := by decide +kernel
theorem d_PairChoice_limit_2 : decode b_PairChoice_limit 2 = .ok (.sipush 1000, 3) := by decide +kernel
theorem d_PairChoice_limit_5 : decode b_PairChoice_limit 5 = .ok (.invokestatic 39, 3) := by decide +kernel
theorem d_PairChoice_limit_8 : decode b_PairChoice_limit 8 = .ok (.ifCond .ne 6, 3) := by decide +kernel
theorem d_PairChoice_limit_11 : decode b_PairChoice_limit 11 = .ok (.bipush (-2), 2) := by decide +kernel
theorem d_PairChoice_limit_13 : decode b_PairChoice_limit 13 = .ok (.ireturn, 1) := by decide +kernel
theorem d_PairChoice_limit_14 : decode b_PairChoice_limit 14 = .ok (.aload_n 0, 1) := by decide +kernel
theorem d_PairChoice_limit_15 : decode b_PairChoice_limit 15 = .ok (.getfield 10, 3) := by decide +kernel
theorem d_PairChoice_limit_18 : decode b_PairChoice_limit 18 = .ok (.getfield 83, 3) := by decide +kernel
theorem d_PairChoice_limit_21 : decode b_PairChoice_limit 21 = .ok (.istore_n 2, 1) := by decide +kernel
theorem d_PairChoice_limit_22 : decode b_PairChoice_limit 22 = .ok (.iload_n 1, 1) := by decide +kernel
theorem d_PairChoice_limit_23 : decode b_PairChoice_limit 23 = .ok (.iload_n 2, 1) := by decide +kernel
theorem d_PairChoice_limit_24 : decode b_PairChoice_limit 24 = .ok (.if_icmp .eq 15, 3) := by decide +kernel
theorem d_PairChoice_limit_27 : decode b_PairChoice_limit 27 = .ok (.aload_n 0, 1) := by decide +kernel
theorem d_PairChoice_limit_28 : decode b_PairChoice_limit 28 = .ok (.getfield 10, 3) := by decide +kernel
theorem d_PairChoice_limit_31 : decode b_PairChoice_limit 31 = .ok (.iload_n 1, 1) := by decide +kernel
theorem d_PairChoice_limit_32 : decode b_PairChoice_limit 32 = .ok (.putfield 83, 3) := by decide +kernel
theorem d_PairChoice_limit_35 : decode b_PairChoice_limit 35 = .ok (.aload_n 0, 1) := by decide +kernel
theorem d_PairChoice_limit_36 : decode b_PairChoice_limit 36 = .ok (.invokevirtual 51, 3) := by decide +kernel
theorem d_PairChoice_limit_39 : decode b_PairChoice_limit 39 = .ok (.iload_n 2, 1) := by decide +kernel
theorem d_PairChoice_limit_40 : decode b_PairChoice_limit 40 = .ok (.ireturn, 1) := by decide +kernel
theorem d_PairChoice_even_0 : decode b_PairChoice_even 0 = .ok (.iload_n 1, 1) := by decide +kernel
theorem d_PairChoice_even_1 : decode b_PairChoice_even 1 = .ok (.iconst 0, 1) := by decide +kernel
theorem d_PairChoice_even_2 : decode b_PairChoice_even 2 = .ok (.bipush 12, 2) := by decide +kernel
theorem d_PairChoice_even_4 : decode b_PairChoice_even 4 = .ok (.invokestatic 39, 3) := by decide +kernel
theorem d_PairChoice_even_7 : decode b_PairChoice_even 7 = .ok (.ifCond .ne 6, 3) := by decide +kernel
theorem d_PairChoice_even_10 : decode b_PairChoice_even 10 = .ok (.bipush (-2), 2) := by decide +kernel
theorem d_PairChoice_even_12 : decode b_PairChoice_even 12 = .ok (.ireturn, 1) := by decide +kernel
theorem d_PairChoice_even_13 : decode b_PairChoice_even 13 = .ok (.aload_n 0, 1) := by decide +kernel
theorem d_PairChoice_even_14 : decode b_PairChoice_even 14 = .ok (.getfield 10, 3) := by decide +kernel
theorem d_PairChoice_even_17 : decode b_PairChoice_even 17 = .ok (.getfield 86, 3) := by decide +kernel
theorem d_PairChoice_even_20 : decode b_PairChoice_even 20 = .ok (.istore_n 2, 1) := by decide +kernel
theorem d_PairChoice_even_21 : decode b_PairChoice_even 21 = .ok (.iload_n 1, 1) := by decide +kernel
theorem d_PairChoice_even_22 : decode b_PairChoice_even 22 = .ok (.iload_n 2, 1) := by decide +kernel
theorem d_PairChoice_even_23 : decode b_PairChoice_even 23 = .ok (.if_icmp .eq 15, 3) := by decide +kernel
theorem d_PairChoice_even_26 : decode b_PairChoice_even 26 = .ok (.aload_n 0, 1) := by decide +kernel
theorem d_PairChoice_even_27 : decode b_PairChoice_even 27 = .ok (.getfield 10, 3) := by decide +kernel
theorem d_PairChoice_even_30 : decode b_PairChoice_even 30 = .ok (.iload_n 1, 1) := by decide +kernel
theorem d_PairChoice_even_31 : decode b_PairChoice_even 31 = .ok (.putfield 86, 3) := by decide +kernel
theorem d_PairChoice_even_34 : decode b_PairChoice_even 34 = .ok (.aload_n 0, 1) := by decide +kernel
theorem d_PairChoice_even_35 : decode b_PairChoice_even 35 = .ok (.invokevirtual 51, 3) := by decide +kernel
theorem d_PairChoice_even_38 : decode b_PairChoice_even 38 = .ok (.iload_n 2, 1) := by decide +kernel
theorem d_PairChoice_even_39 : decode b_PairChoice_even 39 = .ok (.ireturn, 1) := by decide +kernel
theorem d_PairChoice_line_0 : decode b_PairChoice_line 0 = .ok (.iload_n 1, 1) := by decide +kernel
theorem d_PairChoice_line_1 : decode b_PairChoice_line 1 = .ok (.iconst 0, 1) := by decide +kernel
theorem d_PairChoice_line_2 : decode b_PairChoice_line 2 = .ok (.bipush 7, 2) := by decide +kernel
theorem d_PairChoice_line_4 : decode b_PairChoice_line 4 = .ok (.invokestatic 39, 3) := by decide +kernel
theorem d_PairChoice_line_7 : decode b_PairChoice_line 7 = .ok (.ifCond .ne 5, 3) := by decide +kernel
theorem d_PairChoice_line_10 : decode b_PairChoice_line 10 = .ok (.iconst (-1), 1) := by decide +kernel
theorem d_PairChoice_line_11 : decode b_PairChoice_line 11 = .ok (.ireturn, 1) := by decide +kernel
theorem d_PairChoice_line_12 : decode b_PairChoice_line 12 = .ok (.iload_n 2, 1) := by decide +kernel
theorem d_PairChoice_line_13 : decode b_PairChoice_line 13 = .ok (.iconst 0, 1) := by decide +kernel
theorem d_PairChoice_line_14 : decode b_PairChoice_line 14 = .ok (.bipush 12, 2) := by decide +kernel
theorem d_PairChoice_line_16 : decode b_PairChoice_line 16 = .ok (.invokestatic 39, 3) := by decide +kernel
theorem d_PairChoice_line_19 : decode b_PairChoice_line 19 = .ok (.ifCond .ne 6, 3) := by decide +kernel
theorem d_PairChoice_line_22 : decode b_PairChoice_line 22 = .ok (.bipush (-2), 2) := by decide +kernel
theorem d_PairChoice_line_24 : decode b_PairChoice_line 24 = .ok (.ireturn, 1) := by decide +kernel
theorem d_PairChoice_line_25 : decode b_PairChoice_line 25 = .ok (.aload_n 0, 1) := by decide +kernel
theorem d_PairChoice_line_26 : decode b_PairChoice_line 26 = .ok (.getfield 10, 3) := by decide +kernel
theorem d_PairChoice_line_29 : decode b_PairChoice_line 29 = .ok (.getfield 89, 3) := by decide +kernel
theorem d_PairChoice_line_32 : decode b_PairChoice_line 32 = .ok (.iload_n 1, 1) := by decide +kernel
theorem d_PairChoice_line_33 : decode b_PairChoice_line 33 = .ok (.iaload, 1) := by decide +kernel
theorem d_PairChoice_line_34 : decode b_PairChoice_line 34 = .ok (.istore_n 3, 1) := by decide +kernel
theorem d_PairChoice_line_35 : decode b_PairChoice_line 35 = .ok (.iload_n 2, 1) := by decide +kernel
theorem d_PairChoice_line_36 : decode b_PairChoice_line 36 = .ok (.iload_n 3, 1) := by decide +kernel
theorem d_PairChoice_line_37 : decode b_PairChoice_line 37 = .ok (.if_icmp .eq 17, 3) := by decide +kernel
theorem d_PairChoice_line_40 : decode b_PairChoice_line 40 = .ok (.aload_n 0, 1) := by decide +kernel
theorem d_PairChoice_line_41 : decode b_PairChoice_line 41 = .ok (.getfield 10, 3) := by decide +kernel
theorem d_PairChoice_line_44 : decode b_PairChoice_line 44 = .ok (.getfield 89, 3) := by decide +kernel
theorem d_PairChoice_line_47 : decode b_PairChoice_line 47 = .ok (.iload_n 1, 1) := by decide +kernel
theorem d_PairChoice_line_48 : decode b_PairChoice_line 48 = .ok (.iload_n 2, 1) := by decide +kernel
theorem d_PairChoice_line_49 : decode b_PairChoice_line 49 = .ok (.iastore, 1) := by decide +kernel
theorem d_PairChoice_line_50 : decode b_PairChoice_line 50 = .ok (.aload_n 0, 1) := by decide +kernel
theorem d_PairChoice_line_51 : decode b_PairChoice_line 51 = .ok (.invokevirtual 51, 3) := by decide +kernel
theorem d_PairChoice_line_54 : decode b_PairChoice_line 54 = .ok (.iload_n 3, 1) := by decide +kernel
theorem d_PairChoice_line_55 : decode b_PairChoice_line 55 = .ok (.ireturn, 1) := by decide +kernel
theorem d_PairChoice_run_0 : decode b_PairChoice_run 0 = .ok (.iload_n 1, 1) := by decide +kernel
theorem d_PairChoice_run_1 : decode b_PairChoice_run 1 = .ok (.invokestatic 92, 3) := by decide +kernel
theorem d_PairChoice_run_4 : decode b_PairChoice_run 4 = .ok (.ifCond .ne 6, 3) := by decide +kernel
theorem d_PairChoice_run_7 : decode b_PairChoice_run 7 = .ok (.bipush (-2), 2) := by decide +kernel
theorem d_PairChoice_run_9 : decode b_PairChoice_run 9 = .ok (.ireturn, 1) := by decide +kernel
theorem d_PairChoice_run_10 : decode b_PairChoice_run 10 = .ok (.aload_n 0, 1) := by decide +kernel
theorem d_PairChoice_run_11 : decode b_PairChoice_run 11 = .ok (.getfield 21, 3) := by decide +kernel
theorem d_PairChoice_run_14 : decode b_PairChoice_run 14 = .ok (.iload_n 1, 1) := by decide +kernel
theorem d_PairChoice_run_15 : decode b_PairChoice_run 15 = .ok (.invokevirtual 95, 3) := by decide +kernel
theorem d_PairChoice_run_18 : decode b_PairChoice_run 18 = .ok (.aload_n 0, 1) := by decide +kernel
theorem d_PairChoice_run_19 : decode b_PairChoice_run 19 = .ok (.getfield 21, 3) := by decide +kernel
theorem d_PairChoice_run_22 : decode b_PairChoice_run 22 = .ok (.getfield 99, 3) := by decide +kernel
theorem d_PairChoice_run_25 : decode b_PairChoice_run 25 = .ok (.ifCond .ne 12, 3) := by decide +kernel
theorem d_PairChoice_run_28 : decode b_PairChoice_run 28 = .ok (.aload_n 0, 1) := by decide +kernel
theorem d_PairChoice_run_29 : decode b_PairChoice_run 29 = .ok (.getfield 28, 3) := by decide +kernel
theorem d_PairChoice_run_32 : decode b_PairChoice_run 32 = .ok (.invokevirtual 102, 3) := by decide +kernel
theorem d_PairChoice_run_35 : decode b_PairChoice_run 35 = .ok (.iconst 0, 1) := by decide +kernel
theorem d_PairChoice_run_36 : decode b_PairChoice_run 36 = .ok (.ireturn, 1) := by decide +kernel
theorem d_PairChoice_run_37 : decode b_PairChoice_run 37 = .ok (.aload_n 0, 1) := by decide +kernel
theorem d_PairChoice_run_38 : decode b_PairChoice_run 38 = .ok (.getfield 28, 3) := by decide +kernel
theorem d_PairChoice_run_41 : decode b_PairChoice_run 41 = .ok (.aload_n 0, 1) := by decide +kernel
theorem d_PairChoice_run_42 : decode b_PairChoice_run 42 = .ok (.getfield 21, 3) := by decide +kernel
theorem d_PairChoice_run_45 : decode b_PairChoice_run 45 = .ok (.invokevirtual 105, 3) := by decide +kernel
theorem d_PairChoice_run_48 : decode b_PairChoice_run 48 = .ok (.iload_n 1, 1) := by decide +kernel
theorem d_PairChoice_run_49 : decode b_PairChoice_run 49 = .ok (.aload_n 0, 1) := by decide +kernel
theorem d_PairChoice_run_50 : decode b_PairChoice_run 50 = .ok (.getfield 21, 3) := by decide +kernel
theorem d_PairChoice_run_53 : decode b_PairChoice_run 53 = .ok (.getfield 99, 3) := by decide +kernel
theorem d_PairChoice_run_56 : decode b_PairChoice_run 56 = .ok (.invokevirtual 109, 3) := by decide +kernel
theorem d_PairChoice_run_59 : decode b_PairChoice_run 59 = .ok (.iload_n 1, 1) := by decide +kernel
theorem d_PairChoice_run_60 : decode b_PairChoice_run 60 = .ok (.ireturn, 1) := by decide +kernel
theorem d_PairChoice_pairOf_0 : decode b_PairChoice_pairOf 0 = .ok (.aload_n 0, 1) := by decide +kernel
theorem d_PairChoice_pairOf_1 : decode b_PairChoice_pairOf 1 = .ok (.getfield 28, 3) := by decide +kernel
theorem d_PairChoice_pairOf_4 : decode b_PairChoice_pairOf 4 = .ok (.iload_n 1, 1) := by decide +kernel
theorem d_PairChoice_pairOf_5 : decode b_PairChoice_pairOf 5 = .ok (.invokevirtual 113, 3) := by decide +kernel
theorem d_PairChoice_pairOf_8 : decode b_PairChoice_pairOf 8 = .ok (.ifCond .ne 5, 3) := by decide +kernel
theorem d_PairChoice_pairOf_11 : decode b_PairChoice_pairOf 11 = .ok (.iconst (-1), 1) := by decide +kernel
theorem d_PairChoice_pairOf_12 : decode b_PairChoice_pairOf 12 = .ok (.ireturn, 1) := by decide +kernel
theorem d_PairChoice_pairOf_13 : decode b_PairChoice_pairOf 13 = .ok (.iload_n 2, 1) := by decide +kernel
theorem d_PairChoice_pairOf_14 : decode b_PairChoice_pairOf 14 = .ok (.iconst 0, 1) := by decide +kernel
theorem d_PairChoice_pairOf_15 : decode b_PairChoice_pairOf 15 = .ok (.iconst 1, 1) := by decide +kernel
theorem d_PairChoice_pairOf_16 : decode b_PairChoice_pairOf 16 = .ok (.invokestatic 39, 3) := by decide +kernel
theorem d_PairChoice_pairOf_19 : decode b_PairChoice_pairOf 19 = .ok (.ifCond .ne 6, 3) := by decide +kernel
theorem d_PairChoice_pairOf_22 : decode b_PairChoice_pairOf 22 = .ok (.bipush (-2), 2) := by decide +kernel
theorem d_PairChoice_pairOf_24 : decode b_PairChoice_pairOf 24 = .ok (.ireturn, 1) := by decide +kernel
theorem d_PairChoice_pairOf_25 : decode b_PairChoice_pairOf 25 = .ok (.iload_n 2, 1) := by decide +kernel
theorem d_PairChoice_pairOf_26 : decode b_PairChoice_pairOf 26 = .ok (.ifCond .ne 18, 3) := by decide +kernel
theorem d_PairChoice_pairOf_29 : decode b_PairChoice_pairOf 29 = .ok (.aload_n 0, 1) := by decide +kernel
theorem d_PairChoice_pairOf_30 : decode b_PairChoice_pairOf 30 = .ok (.getfield 28, 3) := by decide +kernel
theorem d_PairChoice_pairOf_33 : decode b_PairChoice_pairOf 33 = .ok (.getfield 116, 3) := by decide +kernel
theorem d_PairChoice_pairOf_36 : decode b_PairChoice_pairOf 36 = .ok (.getfield 120, 3) := by decide +kernel
theorem d_PairChoice_pairOf_39 : decode b_PairChoice_pairOf 39 = .ok (.iload_n 1, 1) := by decide +kernel
theorem d_PairChoice_pairOf_40 : decode b_PairChoice_pairOf 40 = .ok (.iaload, 1) := by decide +kernel
theorem d_PairChoice_pairOf_41 : decode b_PairChoice_pairOf 41 = .ok (.goto 15, 3) := by decide +kernel
