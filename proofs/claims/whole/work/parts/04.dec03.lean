theorem d_PairChoice_pairOf_44 : decode b_PairChoice_pairOf 44 = .ok (.aload_n 0, 1) := by decide +kernel
theorem d_PairChoice_pairOf_45 : decode b_PairChoice_pairOf 45 = .ok (.getfield 28, 3) := by decide +kernel
theorem d_PairChoice_pairOf_48 : decode b_PairChoice_pairOf 48 = .ok (.getfield 116, 3) := by decide +kernel
theorem d_PairChoice_pairOf_51 : decode b_PairChoice_pairOf 51 = .ok (.getfield 124, 3) := by decide +kernel
theorem d_PairChoice_pairOf_54 : decode b_PairChoice_pairOf 54 = .ok (.iload_n 1, 1) := by decide +kernel
theorem d_PairChoice_pairOf_55 : decode b_PairChoice_pairOf 55 = .ok (.iaload, 1) := by decide +kernel
theorem d_PairChoice_pairOf_56 : decode b_PairChoice_pairOf 56 = .ok (.ireturn, 1) := by decide +kernel
theorem d_PairChoice_told_0 : decode b_PairChoice_told 0 = .ok (.iload_n 1, 1) := by decide +kernel
theorem d_PairChoice_told_1 : decode b_PairChoice_told 1 = .ok (.iconst 0, 1) := by decide +kernel
theorem d_PairChoice_told_2 : decode b_PairChoice_told 2 = .ok (.iconst 3, 1) := by decide +kernel
theorem d_PairChoice_told_3 : decode b_PairChoice_told 3 = .ok (.invokestatic 39, 3) := by decide +kernel
theorem d_PairChoice_told_6 : decode b_PairChoice_told 6 = .ok (.ifCond .ne 6, 3) := by decide +kernel
theorem d_PairChoice_told_9 : decode b_PairChoice_told 9 = .ok (.bipush (-2), 2) := by decide +kernel
theorem d_PairChoice_told_11 : decode b_PairChoice_told 11 = .ok (.ireturn, 1) := by decide +kernel
theorem d_PairChoice_told_12 : decode b_PairChoice_told 12 = .ok (.aload_n 0, 1) := by decide +kernel
theorem d_PairChoice_told_13 : decode b_PairChoice_told 13 = .ok (.getfield 28, 3) := by decide +kernel
theorem d_PairChoice_told_16 : decode b_PairChoice_told 16 = .ok (.getfield 127, 3) := by decide +kernel
theorem d_PairChoice_told_19 : decode b_PairChoice_told 19 = .ok (.ifCond .ne 6, 3) := by decide +kernel
theorem d_PairChoice_told_22 : decode b_PairChoice_told 22 = .ok (.bipush (-3), 2) := by decide +kernel
theorem d_PairChoice_told_24 : decode b_PairChoice_told 24 = .ok (.ireturn, 1) := by decide +kernel
theorem d_PairChoice_told_25 : decode b_PairChoice_told 25 = .ok (.iload_n 1, 1) := by decide +kernel
theorem d_PairChoice_told_26 : decode b_PairChoice_told 26 = .ok (.tableswitch 64 0 2 #[26, 41, 56], 26) := by decide +kernel
theorem d_PairChoice_told_52 : decode b_PairChoice_told 52 = .ok (.aload_n 0, 1) := by decide +kernel
theorem d_PairChoice_told_53 : decode b_PairChoice_told 53 = .ok (.getfield 10, 3) := by decide +kernel
theorem d_PairChoice_told_56 : decode b_PairChoice_told 56 = .ok (.aload_n 0, 1) := by decide +kernel
theorem d_PairChoice_told_57 : decode b_PairChoice_told 57 = .ok (.getfield 28, 3) := by decide +kernel
theorem d_PairChoice_told_60 : decode b_PairChoice_told 60 = .ok (.getfield 130, 3) := by decide +kernel
theorem d_PairChoice_told_63 : decode b_PairChoice_told 63 = .ok (.invokevirtual 133, 3) := by decide +kernel
theorem d_PairChoice_told_66 : decode b_PairChoice_told 66 = .ok (.ireturn, 1) := by decide +kernel
theorem d_PairChoice_told_67 : decode b_PairChoice_told 67 = .ok (.aload_n 0, 1) := by decide +kernel
theorem d_PairChoice_told_68 : decode b_PairChoice_told 68 = .ok (.getfield 10, 3) := by decide +kernel
theorem d_PairChoice_told_71 : decode b_PairChoice_told 71 = .ok (.aload_n 0, 1) := by decide +kernel
theorem d_PairChoice_told_72 : decode b_PairChoice_told 72 = .ok (.getfield 28, 3) := by decide +kernel
theorem d_PairChoice_told_75 : decode b_PairChoice_told 75 = .ok (.getfield 130, 3) := by decide +kernel
theorem d_PairChoice_told_78 : decode b_PairChoice_told 78 = .ok (.invokevirtual 136, 3) := by decide +kernel
theorem d_PairChoice_told_81 : decode b_PairChoice_told 81 = .ok (.ireturn, 1) := by decide +kernel
theorem d_PairChoice_told_82 : decode b_PairChoice_told 82 = .ok (.aload_n 0, 1) := by decide +kernel
theorem d_PairChoice_told_83 : decode b_PairChoice_told 83 = .ok (.getfield 28, 3) := by decide +kernel
theorem d_PairChoice_told_86 : decode b_PairChoice_told 86 = .ok (.getfield 127, 3) := by decide +kernel
theorem d_PairChoice_told_89 : decode b_PairChoice_told 89 = .ok (.ireturn, 1) := by decide +kernel
theorem d_PairChoice_told_90 : decode b_PairChoice_told 90 = .ok (.aload_n 0, 1) := by decide +kernel
theorem d_PairChoice_told_91 : decode b_PairChoice_told 91 = .ok (.getfield 28, 3) := by decide +kernel
theorem d_PairChoice_told_94 : decode b_PairChoice_told 94 = .ok (.getfield 139, 3) := by decide +kernel
theorem d_PairChoice_told_97 : decode b_PairChoice_told 97 = .ok (.ireturn, 1) := by decide +kernel
theorem d_PairChoice_eggs_0 : decode b_PairChoice_eggs 0 = .ok (.iload_n 1, 1) := by decide +kernel
theorem d_PairChoice_eggs_1 : decode b_PairChoice_eggs 1 = .ok (.iconst 0, 1) := by decide +kernel
theorem d_PairChoice_eggs_2 : decode b_PairChoice_eggs 2 = .ok (.ldc 142, 2) := by decide +kernel
theorem d_PairChoice_eggs_4 : decode b_PairChoice_eggs 4 = .ok (.invokestatic 39, 3) := by decide +kernel
theorem d_PairChoice_eggs_7 : decode b_PairChoice_eggs 7 = .ok (.ifCond .ne 6, 3) := by decide +kernel
theorem d_PairChoice_eggs_10 : decode b_PairChoice_eggs 10 = .ok (.bipush (-2), 2) := by decide +kernel
theorem d_PairChoice_eggs_12 : decode b_PairChoice_eggs 12 = .ok (.ireturn, 1) := by decide +kernel
theorem d_PairChoice_eggs_13 : decode b_PairChoice_eggs 13 = .ok (.aload_n 0, 1) := by decide +kernel
theorem d_PairChoice_eggs_14 : decode b_PairChoice_eggs 14 = .ok (.getfield 28, 3) := by decide +kernel
theorem d_PairChoice_eggs_17 : decode b_PairChoice_eggs 17 = .ok (.getfield 127, 3) := by decide +kernel
theorem d_PairChoice_eggs_20 : decode b_PairChoice_eggs 20 = .ok (.ifCond .ne 6, 3) := by decide +kernel
theorem d_PairChoice_eggs_23 : decode b_PairChoice_eggs 23 = .ok (.bipush (-3), 2) := by decide +kernel
theorem d_PairChoice_eggs_25 : decode b_PairChoice_eggs 25 = .ok (.ireturn, 1) := by decide +kernel
theorem d_PairChoice_eggs_26 : decode b_PairChoice_eggs 26 = .ok (.aload_n 0, 1) := by decide +kernel
theorem d_PairChoice_eggs_27 : decode b_PairChoice_eggs 27 = .ok (.getfield 28, 3) := by decide +kernel
theorem d_PairChoice_eggs_30 : decode b_PairChoice_eggs 30 = .ok (.iload_n 1, 1) := by decide +kernel
theorem d_PairChoice_eggs_31 : decode b_PairChoice_eggs 31 = .ok (.invokevirtual 143, 3) := by decide +kernel
theorem d_PairChoice_eggs_34 : decode b_PairChoice_eggs 34 = .ok (.aload_n 0, 1) := by decide +kernel
theorem d_PairChoice_eggs_35 : decode b_PairChoice_eggs 35 = .ok (.getfield 28, 3) := by decide +kernel
theorem d_PairChoice_eggs_38 : decode b_PairChoice_eggs 38 = .ok (.getfield 146, 3) := by decide +kernel
theorem d_PairChoice_eggs_41 : decode b_PairChoice_eggs 41 = .ok (.iconst 0, 1) := by decide +kernel
theorem d_PairChoice_eggs_42 : decode b_PairChoice_eggs 42 = .ok (.iaload, 1) := by decide +kernel
theorem d_PairChoice_eggs_43 : decode b_PairChoice_eggs 43 = .ok (.ireturn, 1) := by decide +kernel
theorem d_PairChoice_eggsOf_0 : decode b_PairChoice_eggsOf 0 = .ok (.aload_n 0, 1) := by decide +kernel
theorem d_PairChoice_eggsOf_1 : decode b_PairChoice_eggsOf 1 = .ok (.getfield 28, 3) := by decide +kernel
theorem d_PairChoice_eggsOf_4 : decode b_PairChoice_eggsOf 4 = .ok (.iload_n 1, 1) := by decide +kernel
theorem d_PairChoice_eggsOf_5 : decode b_PairChoice_eggsOf 5 = .ok (.invokevirtual 113, 3) := by decide +kernel
theorem d_PairChoice_eggsOf_8 : decode b_PairChoice_eggsOf 8 = .ok (.ifCond .eq 15, 3) := by decide +kernel
theorem d_PairChoice_eggsOf_11 : decode b_PairChoice_eggsOf 11 = .ok (.aload_n 0, 1) := by decide +kernel
theorem d_PairChoice_eggsOf_12 : decode b_PairChoice_eggsOf 12 = .ok (.getfield 28, 3) := by decide +kernel
theorem d_PairChoice_eggsOf_15 : decode b_PairChoice_eggsOf 15 = .ok (.getfield 146, 3) := by decide +kernel
theorem d_PairChoice_eggsOf_18 : decode b_PairChoice_eggsOf 18 = .ok (.iload_n 1, 1) := by decide +kernel
theorem d_PairChoice_eggsOf_19 : decode b_PairChoice_eggsOf 19 = .ok (.iaload, 1) := by decide +kernel
theorem d_PairChoice_eggsOf_20 : decode b_PairChoice_eggsOf 20 = .ok (.goto 4, 3) := by decide +kernel
theorem d_PairChoice_eggsOf_23 : decode b_PairChoice_eggsOf 23 = .ok (.iconst (-1), 1) := by decide +kernel
theorem d_PairChoice_eggsOf_24 : decode b_PairChoice_eggsOf 24 = .ok (.ireturn, 1) := by decide +kernel
theorem d_PairChoice_backUp_0 : decode b_PairChoice_backUp 0 = .ok (.aload_n 0, 1) := by decide +kernel
theorem d_PairChoice_backUp_1 : decode b_PairChoice_backUp 1 = .ok (.getfield 28, 3) := by decide +kernel
theorem d_PairChoice_backUp_4 : decode b_PairChoice_backUp 4 = .ok (.iload_n 1, 1) := by decide +kernel
theorem d_PairChoice_backUp_5 : decode b_PairChoice_backUp 5 = .ok (.invokevirtual 113, 3) := by decide +kernel
theorem d_PairChoice_backUp_8 : decode b_PairChoice_backUp 8 = .ok (.ifCond .ne 5, 3) := by decide +kernel
theorem d_PairChoice_backUp_11 : decode b_PairChoice_backUp 11 = .ok (.iconst (-1), 1) := by decide +kernel
theorem d_PairChoice_backUp_12 : decode b_PairChoice_backUp 12 = .ok (.ireturn, 1) := by decide +kernel
theorem d_PairChoice_backUp_13 : decode b_PairChoice_backUp 13 = .ok (.bipush (-3), 2) := by decide +kernel
theorem d_PairChoice_backUp_15 : decode b_PairChoice_backUp 15 = .ok (.istore_n 2, 1) := by decide +kernel
theorem d_PairChoice_backUp_16 : decode b_PairChoice_backUp 16 = .ok (.iconst 0, 1) := by decide +kernel
theorem d_PairChoice_backUp_17 : decode b_PairChoice_backUp 17 = .ok (.istore_n 3, 1) := by decide +kernel
theorem d_PairChoice_backUp_18 : decode b_PairChoice_backUp 18 = .ok (.iload_n 3, 1) := by decide +kernel
theorem d_PairChoice_backUp_19 : decode b_PairChoice_backUp 19 = .ok (.aload_n 0, 1) := by decide +kernel
theorem d_PairChoice_backUp_20 : decode b_PairChoice_backUp 20 = .ok (.getfield 10, 3) := by decide +kernel
theorem d_PairChoice_backUp_23 : decode b_PairChoice_backUp 23 = .ok (.getfield 47, 3) := by decide +kernel
theorem d_PairChoice_backUp_26 : decode b_PairChoice_backUp 26 = .ok (.if_icmp .ge 48, 3) := by decide +kernel
theorem d_PairChoice_backUp_29 : decode b_PairChoice_backUp 29 = .ok (.aload_n 0, 1) := by decide +kernel
theorem d_PairChoice_backUp_30 : decode b_PairChoice_backUp 30 = .ok (.getfield 28, 3) := by decide +kernel
theorem d_PairChoice_backUp_33 : decode b_PairChoice_backUp 33 = .ok (.iload_n 3, 1) := by decide +kernel
theorem d_PairChoice_backUp_34 : decode b_PairChoice_backUp 34 = .ok (.iload_n 1, 1) := by decide +kernel
theorem d_PairChoice_backUp_35 : decode b_PairChoice_backUp 35 = .ok (.invokevirtual 149, 3) := by decide +kernel
theorem d_PairChoice_backUp_38 : decode b_PairChoice_backUp 38 = .ok (.ifCond .eq 30, 3) := by decide +kernel
theorem d_PairChoice_backUp_41 : decode b_PairChoice_backUp 41 = .ok (.iload_n 2, 1) := by decide +kernel
theorem d_PairChoice_backUp_42 : decode b_PairChoice_backUp 42 = .ok (.ifCond .lt 24, 3) := by decide +kernel
theorem d_PairChoice_backUp_45 : decode b_PairChoice_backUp 45 = .ok (.aload_n 0, 1) := by decide +kernel
theorem d_PairChoice_backUp_46 : decode b_PairChoice_backUp 46 = .ok (.getfield 10, 3) := by decide +kernel
theorem d_PairChoice_backUp_49 : decode b_PairChoice_backUp 49 = .ok (.getfield 61, 3) := by decide +kernel
theorem d_PairChoice_backUp_52 : decode b_PairChoice_backUp 52 = .ok (.iload_n 3, 1) := by decide +kernel
theorem d_PairChoice_backUp_53 : decode b_PairChoice_backUp 53 = .ok (.iaload, 1) := by decide +kernel
theorem d_PairChoice_backUp_54 : decode b_PairChoice_backUp 54 = .ok (.aload_n 0, 1) := by decide +kernel
theorem d_PairChoice_backUp_55 : decode b_PairChoice_backUp 55 = .ok (.getfield 10, 3) := by decide +kernel
theorem d_PairChoice_backUp_58 : decode b_PairChoice_backUp 58 = .ok (.getfield 61, 3) := by decide +kernel
theorem d_PairChoice_backUp_61 : decode b_PairChoice_backUp 61 = .ok (.iload_n 2, 1) := by decide +kernel
theorem d_PairChoice_backUp_62 : decode b_PairChoice_backUp 62 = .ok (.iaload, 1) := by decide +kernel
theorem d_PairChoice_backUp_63 : decode b_PairChoice_backUp 63 = .ok (.if_icmp .le 5, 3) := by decide +kernel
theorem d_PairChoice_backUp_66 : decode b_PairChoice_backUp 66 = .ok (.iload_n 3, 1) := by decide +kernel
theorem d_PairChoice_backUp_67 : decode b_PairChoice_backUp 67 = .ok (.istore_n 2, 1) := by decide +kernel
theorem d_PairChoice_backUp_68 : decode b_PairChoice_backUp 68 = .ok (.iinc 3 1, 3) := by decide +kernel
theorem d_PairChoice_backUp_71 : decode b_PairChoice_backUp 71 = .ok (.goto (-53), 3) := by decide +kernel
theorem d_PairChoice_backUp_74 : decode b_PairChoice_backUp 74 = .ok (.iload_n 2, 1) := by decide +kernel
theorem d_PairChoice_backUp_75 : decode b_PairChoice_backUp 75 = .ok (.ireturn, 1) := by decide +kernel
theorem d_PairChoice_test_0 : decode b_PairChoice_test 0 = .ok (.iload_n 1, 1) := by decide +kernel
theorem d_PairChoice_test_1 : decode b_PairChoice_test 1 = .ok (.invokestatic 92, 3) := by decide +kernel
theorem d_PairChoice_test_4 : decode b_PairChoice_test 4 = .ok (.ifCond .eq 14, 3) := by decide +kernel
theorem d_PairChoice_test_7 : decode b_PairChoice_test 7 = .ok (.iload_n 2, 1) := by decide +kernel
theorem d_PairChoice_test_8 : decode b_PairChoice_test 8 = .ok (.iconst 1, 1) := by decide +kernel
theorem d_PairChoice_test_9 : decode b_PairChoice_test 9 = .ok (.sipush 10000, 3) := by decide +kernel
theorem d_PairChoice_test_12 : decode b_PairChoice_test 12 = .ok (.invokestatic 39, 3) := by decide +kernel
theorem d_PairChoice_test_15 : decode b_PairChoice_test 15 = .ok (.ifCond .ne 6, 3) := by decide +kernel
theorem d_PairChoice_test_18 : decode b_PairChoice_test 18 = .ok (.bipush (-2), 2) := by decide +kernel
theorem d_PairChoice_test_20 : decode b_PairChoice_test 20 = .ok (.ireturn, 1) := by decide +kernel
theorem d_PairChoice_test_21 : decode b_PairChoice_test 21 = .ok (.aload_n 0, 1) := by decide +kernel
theorem d_PairChoice_test_22 : decode b_PairChoice_test 22 = .ok (.getfield 21, 3) := by decide +kernel
theorem d_PairChoice_test_25 : decode b_PairChoice_test 25 = .ok (.iload_n 1, 1) := by decide +kernel
theorem d_PairChoice_test_26 : decode b_PairChoice_test 26 = .ok (.invokevirtual 95, 3) := by decide +kernel
theorem d_PairChoice_test_29 : decode b_PairChoice_test 29 = .ok (.aload_n 0, 1) := by decide +kernel
theorem d_PairChoice_test_30 : decode b_PairChoice_test 30 = .ok (.getfield 21, 3) := by decide +kernel
theorem d_PairChoice_test_33 : decode b_PairChoice_test 33 = .ok (.getfield 99, 3) := by decide +kernel
theorem d_PairChoice_test_36 : decode b_PairChoice_test 36 = .ok (.ifCond .ne 6, 3) := by decide +kernel
theorem d_PairChoice_test_39 : decode b_PairChoice_test 39 = .ok (.bipush (-3), 2) := by decide +kernel
theorem d_PairChoice_test_41 : decode b_PairChoice_test 41 = .ok (.ireturn, 1) := by decide +kernel
theorem d_PairChoice_test_42 : decode b_PairChoice_test 42 = .ok (.iconst 0, 1) := by decide +kernel
theorem d_PairChoice_test_43 : decode b_PairChoice_test 43 = .ok (.istore_n 3, 1) := by decide +kernel
theorem d_PairChoice_test_44 : decode b_PairChoice_test 44 = .ok (.ldc 152, 2) := by decide +kernel
theorem d_PairChoice_test_46 : decode b_PairChoice_test 46 = .ok (.istore 4, 2) := by decide +kernel
theorem d_PairChoice_test_48 : decode b_PairChoice_test 48 = .ok (.iconst 0, 1) := by decide +kernel
theorem d_PairChoice_test_49 : decode b_PairChoice_test 49 = .ok (.istore 5, 2) := by decide +kernel
theorem d_PairChoice_test_51 : decode b_PairChoice_test 51 = .ok (.iload 5, 2) := by decide +kernel
theorem d_PairChoice_test_53 : decode b_PairChoice_test 53 = .ok (.aload_n 0, 1) := by decide +kernel
theorem d_PairChoice_test_54 : decode b_PairChoice_test 54 = .ok (.getfield 10, 3) := by decide +kernel
theorem d_PairChoice_test_57 : decode b_PairChoice_test 57 = .ok (.getfield 47, 3) := by decide +kernel
theorem d_PairChoice_test_60 : decode b_PairChoice_test 60 = .ok (.if_icmp .ge 47, 3) := by decide +kernel
theorem d_PairChoice_test_63 : decode b_PairChoice_test 63 = .ok (.aload_n 0, 1) := by decide +kernel
theorem d_PairChoice_test_64 : decode b_PairChoice_test 64 = .ok (.getfield 21, 3) := by decide +kernel
theorem d_PairChoice_test_67 : decode b_PairChoice_test 67 = .ok (.iload 5, 2) := by decide +kernel
theorem d_PairChoice_test_69 : decode b_PairChoice_test 69 = .ok (.iload_n 2, 1) := by decide +kernel
theorem d_PairChoice_test_70 : decode b_PairChoice_test 70 = .ok (.invokevirtual 153, 3) := by decide +kernel
theorem d_PairChoice_test_73 : decode b_PairChoice_test 73 = .ok (.aload_n 0, 1) := by decide +kernel
theorem d_PairChoice_test_74 : decode b_PairChoice_test 74 = .ok (.getfield 21, 3) := by decide +kernel
theorem d_PairChoice_test_77 : decode b_PairChoice_test 77 = .ok (.iload 5, 2) := by decide +kernel
theorem d_PairChoice_test_79 : decode b_PairChoice_test 79 = .ok (.iload_n 2, 1) := by decide +kernel
theorem d_PairChoice_test_80 : decode b_PairChoice_test 80 = .ok (.ineg, 1) := by decide +kernel
theorem d_PairChoice_test_81 : decode b_PairChoice_test 81 = .ok (.invokevirtual 153, 3) := by decide +kernel
theorem d_PairChoice_test_84 : decode b_PairChoice_test 84 = .ok (.iadd, 1) := by decide +kernel
theorem d_PairChoice_test_85 : decode b_PairChoice_test 85 = .ok (.istore 6, 2) := by decide +kernel
theorem d_PairChoice_test_87 : decode b_PairChoice_test 87 = .ok (.iload 6, 2) := by decide +kernel
theorem d_PairChoice_test_89 : decode b_PairChoice_test 89 = .ok (.iload 4, 2) := by decide +kernel
theorem d_PairChoice_test_91 : decode b_PairChoice_test 91 = .ok (.if_icmp .le 10, 3) := by decide +kernel
theorem d_PairChoice_test_94 : decode b_PairChoice_test 94 = .ok (.iload 5, 2) := by decide +kernel
theorem d_PairChoice_test_96 : decode b_PairChoice_test 96 = .ok (.istore_n 3, 1) := by decide +kernel
theorem d_PairChoice_test_97 : decode b_PairChoice_test 97 = .ok (.iload 6, 2) := by decide +kernel
theorem d_PairChoice_test_99 : decode b_PairChoice_test 99 = .ok (.istore 4, 2) := by decide +kernel
theorem d_PairChoice_test_101 : decode b_PairChoice_test 101 = .ok (.iinc 5 1, 3) := by decide +kernel
theorem d_PairChoice_test_104 : decode b_PairChoice_test 104 = .ok (.goto (-53), 3) := by decide +kernel
theorem d_PairChoice_test_107 : decode b_PairChoice_test 107 = .ok (.iload_n 3, 1) := by decide +kernel
theorem d_PairChoice_test_108 : decode b_PairChoice_test 108 = .ok (.ireturn, 1) := by decide +kernel
theorem d_PairChoice_ahead_0 : decode b_PairChoice_ahead 0 = .ok (.iload_n 1, 1) := by decide +kernel
theorem d_PairChoice_ahead_1 : decode b_PairChoice_ahead 1 = .ok (.iconst 1, 1) := by decide +kernel
theorem d_PairChoice_ahead_2 : decode b_PairChoice_ahead 2 = .ok (.bipush 20, 2) := by decide +kernel
theorem d_PairChoice_ahead_4 : decode b_PairChoice_ahead 4 = .ok (.invokestatic 39, 3) := by decide +kernel
theorem d_PairChoice_ahead_7 : decode b_PairChoice_ahead 7 = .ok (.ifCond .eq 22, 3) := by decide +kernel
theorem d_PairChoice_ahead_10 : decode b_PairChoice_ahead 10 = .ok (.iload_n 2, 1) := by decide +kernel
theorem d_PairChoice_ahead_11 : decode b_PairChoice_ahead 11 = .ok (.iconst 0, 1) := by decide +kernel
theorem d_PairChoice_ahead_12 : decode b_PairChoice_ahead 12 = .ok (.sipush 1000, 3) := by decide +kernel
theorem d_PairChoice_ahead_15 : decode b_PairChoice_ahead 15 = .ok (.invokestatic 39, 3) := by decide +kernel
theorem d_PairChoice_ahead_18 : decode b_PairChoice_ahead 18 = .ok (.ifCond .eq 11, 3) := by decide +kernel
theorem d_PairChoice_ahead_21 : decode b_PairChoice_ahead 21 = .ok (.iload 5, 2) := by decide +kernel
theorem d_PairChoice_ahead_23 : decode b_PairChoice_ahead 23 = .ok (.invokestatic 92, 3) := by decide +kernel
theorem d_PairChoice_ahead_26 : decode b_PairChoice_ahead 26 = .ok (.ifCond .ne 6, 3) := by decide +kernel
theorem d_PairChoice_ahead_29 : decode b_PairChoice_ahead 29 = .ok (.bipush (-2), 2) := by decide +kernel
theorem d_PairChoice_ahead_31 : decode b_PairChoice_ahead 31 = .ok (.ireturn, 1) := by decide +kernel
theorem d_PairChoice_ahead_32 : decode b_PairChoice_ahead 32 = .ok (.aload_n 0, 1) := by decide +kernel
theorem d_PairChoice_ahead_33 : decode b_PairChoice_ahead 33 = .ok (.getfield 21, 3) := by decide +kernel
theorem d_PairChoice_ahead_36 : decode b_PairChoice_ahead 36 = .ok (.iload 5, 2) := by decide +kernel
theorem d_PairChoice_ahead_38 : decode b_PairChoice_ahead 38 = .ok (.invokevirtual 95, 3) := by decide +kernel
theorem d_PairChoice_ahead_41 : decode b_PairChoice_ahead 41 = .ok (.aload_n 0, 1) := by decide +kernel
theorem d_PairChoice_ahead_42 : decode b_PairChoice_ahead 42 = .ok (.getfield 35, 3) := by decide +kernel
theorem d_PairChoice_ahead_45 : decode b_PairChoice_ahead 45 = .ok (.iload_n 1, 1) := by decide +kernel
theorem d_PairChoice_ahead_46 : decode b_PairChoice_ahead 46 = .ok (.putfield 157, 3) := by decide +kernel
theorem d_PairChoice_ahead_49 : decode b_PairChoice_ahead 49 = .ok (.aload_n 0, 1) := by decide +kernel
theorem d_PairChoice_ahead_50 : decode b_PairChoice_ahead 50 = .ok (.getfield 10, 3) := by decide +kernel
theorem d_PairChoice_ahead_53 : decode b_PairChoice_ahead 53 = .ok (.invokevirtual 160, 3) := by decide +kernel
theorem d_PairChoice_ahead_56 : decode b_PairChoice_ahead 56 = .ok (.istore 6, 2) := by decide +kernel
theorem d_PairChoice_ahead_58 : decode b_PairChoice_ahead 58 = .ok (.iconst 0, 1) := by decide +kernel
theorem d_PairChoice_ahead_59 : decode b_PairChoice_ahead 59 = .ok (.istore 7, 2) := by decide +kernel
theorem d_PairChoice_ahead_61 : decode b_PairChoice_ahead 61 = .ok (.iload 7, 2) := by decide +kernel
theorem d_PairChoice_ahead_63 : decode b_PairChoice_ahead 63 = .ok (.iload_n 1, 1) := by decide +kernel
theorem d_PairChoice_ahead_64 : decode b_PairChoice_ahead 64 = .ok (.if_icmp .ge 49, 3) := by decide +kernel
theorem d_PairChoice_ahead_67 : decode b_PairChoice_ahead 67 = .ok (.iload 6, 2) := by decide +kernel
theorem d_PairChoice_ahead_69 : decode b_PairChoice_ahead 69 = .ok (.lload_n 3, 1) := by decide +kernel
theorem d_PairChoice_ahead_70 : decode b_PairChoice_ahead 70 = .ok (.ldc2_w 163, 3) := by decide +kernel
theorem d_PairChoice_ahead_73 : decode b_PairChoice_ahead 73 = .ok (.iload 7, 2) := by decide +kernel
theorem d_PairChoice_ahead_75 : decode b_PairChoice_ahead 75 = .ok (.i2l, 1) := by decide +kernel
theorem d_PairChoice_ahead_76 : decode b_PairChoice_ahead 76 = .ok (.lmul, 1) := by decide +kernel
theorem d_PairChoice_ahead_77 : decode b_PairChoice_ahead 77 = .ok (.ladd, 1) := by decide +kernel
theorem d_PairChoice_ahead_78 : decode b_PairChoice_ahead 78 = .ok (.iload_n 2, 1) := by decide +kernel
theorem d_PairChoice_ahead_79 : decode b_PairChoice_ahead 79 = .ok (.invokestatic 165, 3) := by decide +kernel
theorem d_PairChoice_ahead_82 : decode b_PairChoice_ahead 82 = .ok (.istore 6, 2) := by decide +kernel
theorem d_PairChoice_ahead_84 : decode b_PairChoice_ahead 84 = .ok (.aload_n 0, 1) := by decide +kernel
theorem d_PairChoice_ahead_85 : decode b_PairChoice_ahead 85 = .ok (.getfield 35, 3) := by decide +kernel
theorem d_PairChoice_ahead_88 : decode b_PairChoice_ahead 88 = .ok (.iload 7, 2) := by decide +kernel
theorem d_PairChoice_ahead_90 : decode b_PairChoice_ahead 90 = .ok (.iload 6, 2) := by decide +kernel
theorem d_PairChoice_ahead_92 : decode b_PairChoice_ahead 92 = .ok (.invokestatic 169, 3) := by decide +kernel
theorem d_PairChoice_ahead_95 : decode b_PairChoice_ahead 95 = .ok (.aload_n 0, 1) := by decide +kernel
theorem d_PairChoice_ahead_96 : decode b_PairChoice_ahead 96 = .ok (.getfield 21, 3) := by decide +kernel
theorem d_PairChoice_ahead_99 : decode b_PairChoice_ahead 99 = .ok (.iload 6, 2) := by decide +kernel
theorem d_PairChoice_ahead_101 : decode b_PairChoice_ahead 101 = .ok (.invokevirtual 174, 3) := by decide +kernel
theorem d_PairChoice_ahead_104 : decode b_PairChoice_ahead 104 = .ok (.invokevirtual 177, 3) := by decide +kernel
theorem d_PairChoice_ahead_107 : decode b_PairChoice_ahead 107 = .ok (.iinc 7 1, 3) := by decide +kernel
theorem d_PairChoice_ahead_110 : decode b_PairChoice_ahead 110 = .ok (.goto (-49), 3) := by decide +kernel
theorem d_PairChoice_ahead_113 : decode b_PairChoice_ahead 113 = .ok (.iload 6, 2) := by decide +kernel
theorem d_PairChoice_ahead_115 : decode b_PairChoice_ahead 115 = .ok (.invokestatic 169, 3) := by decide +kernel
theorem d_PairChoice_ahead_118 : decode b_PairChoice_ahead 118 = .ok (.ireturn, 1) := by decide +kernel
theorem d_PairChoice_after_0 : decode b_PairChoice_after 0 = .ok (.iload_n 1, 1) := by decide +kernel
theorem d_PairChoice_after_1 : decode b_PairChoice_after 1 = .ok (.iconst 0, 1) := by decide +kernel
theorem d_PairChoice_after_2 : decode b_PairChoice_after 2 = .ok (.aload_n 0, 1) := by decide +kernel
theorem d_PairChoice_after_3 : decode b_PairChoice_after 3 = .ok (.getfield 35, 3) := by decide +kernel
theorem d_PairChoice_after_6 : decode b_PairChoice_after 6 = .ok (.getfield 157, 3) := by decide +kernel
theorem d_PairChoice_after_9 : decode b_PairChoice_after 9 = .ok (.iconst 1, 1) := by decide +kernel
theorem d_PairChoice_after_10 : decode b_PairChoice_after 10 = .ok (.isub, 1) := by decide +kernel
theorem d_PairChoice_after_11 : decode b_PairChoice_after 11 = .ok (.invokestatic 39, 3) := by decide +kernel
theorem d_PairChoice_after_14 : decode b_PairChoice_after 14 = .ok (.ifCond .ne 5, 3) := by decide +kernel
theorem d_PairChoice_after_17 : decode b_PairChoice_after 17 = .ok (.iconst (-1), 1) := by decide +kernel
theorem d_PairChoice_after_18 : decode b_PairChoice_after 18 = .ok (.ireturn, 1) := by decide +kernel
theorem d_PairChoice_after_19 : decode b_PairChoice_after 19 = .ok (.iload_n 2, 1) := by decide +kernel
theorem d_PairChoice_after_20 : decode b_PairChoice_after 20 = .ok (.tableswitch 86 0 2 #[28, 38, 58], 28) := by decide +kernel
theorem d_PairChoice_after_48 : decode b_PairChoice_after 48 = .ok (.aload_n 0, 1) := by decide +kernel
theorem d_PairChoice_after_49 : decode b_PairChoice_after 49 = .ok (.getfield 35, 3) := by decide +kernel
theorem d_PairChoice_after_52 : decode b_PairChoice_after 52 = .ok (.getfield 180, 3) := by decide +kernel
theorem d_PairChoice_after_55 : decode b_PairChoice_after 55 = .ok (.iload_n 1, 1) := by decide +kernel
theorem d_PairChoice_after_56 : decode b_PairChoice_after 56 = .ok (.iaload, 1) := by decide +kernel
theorem d_PairChoice_after_57 : decode b_PairChoice_after 57 = .ok (.ireturn, 1) := by decide +kernel
theorem d_PairChoice_after_58 : decode b_PairChoice_after 58 = .ok (.aload_n 0, 1) := by decide +kernel
theorem d_PairChoice_after_59 : decode b_PairChoice_after 59 = .ok (.getfield 35, 3) := by decide +kernel
theorem d_PairChoice_after_62 : decode b_PairChoice_after 62 = .ok (.getfield 183, 3) := by decide +kernel
theorem d_PairChoice_after_65 : decode b_PairChoice_after 65 = .ok (.iload_n 1, 1) := by decide +kernel
theorem d_PairChoice_after_66 : decode b_PairChoice_after 66 = .ok (.iaload, 1) := by decide +kernel
theorem d_PairChoice_after_67 : decode b_PairChoice_after 67 = .ok (.ldc 152, 2) := by decide +kernel
theorem d_PairChoice_after_69 : decode b_PairChoice_after 69 = .ok (.if_icmp .ne 7, 3) := by decide +kernel
theorem d_PairChoice_after_72 : decode b_PairChoice_after 72 = .ok (.iconst 0, 1) := by decide +kernel
theorem d_PairChoice_after_73 : decode b_PairChoice_after 73 = .ok (.goto 4, 3) := by decide +kernel
theorem d_PairChoice_after_76 : decode b_PairChoice_after 76 = .ok (.iconst 1, 1) := by decide +kernel
theorem d_PairChoice_after_77 : decode b_PairChoice_after 77 = .ok (.ireturn, 1) := by decide +kernel
theorem d_PairChoice_after_78 : decode b_PairChoice_after 78 = .ok (.aload_n 0, 1) := by decide +kernel
theorem d_PairChoice_after_79 : decode b_PairChoice_after 79 = .ok (.getfield 35, 3) := by decide +kernel
theorem d_PairChoice_after_82 : decode b_PairChoice_after 82 = .ok (.getfield 183, 3) := by decide +kernel
theorem d_PairChoice_after_85 : decode b_PairChoice_after 85 = .ok (.iload_n 1, 1) := by decide +kernel
theorem d_PairChoice_after_86 : decode b_PairChoice_after 86 = .ok (.iaload, 1) := by decide +kernel
theorem d_PairChoice_after_87 : decode b_PairChoice_after 87 = .ok (.ldc 152, 2) := by decide +kernel
theorem d_PairChoice_after_89 : decode b_PairChoice_after 89 = .ok (.if_icmp .ne 7, 3) := by decide +kernel
theorem d_PairChoice_after_92 : decode b_PairChoice_after 92 = .ok (.iconst 0, 1) := by decide +kernel
theorem d_PairChoice_after_93 : decode b_PairChoice_after 93 = .ok (.goto 12, 3) := by decide +kernel
theorem d_PairChoice_after_96 : decode b_PairChoice_after 96 = .ok (.aload_n 0, 1) := by decide +kernel
theorem d_PairChoice_after_97 : decode b_PairChoice_after 97 = .ok (.getfield 35, 3) := by decide +kernel
theorem d_PairChoice_after_100 : decode b_PairChoice_after 100 = .ok (.getfield 183, 3) := by decide +kernel
theorem d_PairChoice_after_103 : decode b_PairChoice_after 103 = .ok (.iload_n 1, 1) := by decide +kernel
theorem d_PairChoice_after_104 : decode b_PairChoice_after 104 = .ok (.iaload, 1) := by decide +kernel
theorem d_PairChoice_after_105 : decode b_PairChoice_after 105 = .ok (.ireturn, 1) := by decide +kernel
theorem d_PairChoice_after_106 : decode b_PairChoice_after 106 = .ok (.bipush (-2), 2) := by decide +kernel
theorem d_PairChoice_after_108 : decode b_PairChoice_after 108 = .ok (.ireturn, 1) := by decide +kernel
theorem d_PairChoice_forgetFindings_0 : decode b_PairChoice_forgetFindings 0 = .ok (.aload_n 0, 1) := by decide +kernel
theorem d_PairChoice_forgetFindings_1 : decode b_PairChoice_forgetFindings 1 = .ok (.getfield 28, 3) := by decide +kernel
theorem d_PairChoice_forgetFindings_4 : decode b_PairChoice_forgetFindings 4 = .ok (.invokevirtual 102, 3) := by decide +kernel
theorem d_PairChoice_forgetFindings_7 : decode b_PairChoice_forgetFindings 7 = .ok (.aload_n 0, 1) := by decide +kernel
theorem d_PairChoice_forgetFindings_8 : decode b_PairChoice_forgetFindings 8 = .ok (.getfield 21, 3) := by decide +kernel
theorem d_PairChoice_forgetFindings_11 : decode b_PairChoice_forgetFindings 11 = .ok (.invokevirtual 186, 3) := by decide +kernel
theorem d_PairChoice_forgetFindings_14 : decode b_PairChoice_forgetFindings 14 = .ok (.return_, 1) := by decide +kernel
theorem d_PairChoice_survivors_0 : decode b_PairChoice_survivors 0 = .ok (.iload_n 0, 1) := by decide +kernel
theorem d_PairChoice_survivors_1 : decode b_PairChoice_survivors 1 = .ok (.istore 4, 2) := by decide +kernel
theorem d_PairChoice_survivors_3 : decode b_PairChoice_survivors 3 = .ok (.iconst 0, 1) := by decide +kernel
theorem d_PairChoice_survivors_4 : decode b_PairChoice_survivors 4 = .ok (.istore 5, 2) := by decide +kernel
theorem d_PairChoice_survivors_6 : decode b_PairChoice_survivors 6 = .ok (.iload 5, 2) := by decide +kernel
theorem d_PairChoice_survivors_8 : decode b_PairChoice_survivors 8 = .ok (.bipush 12, 2) := by decide +kernel
theorem d_PairChoice_survivors_10 : decode b_PairChoice_survivors 10 = .ok (.if_icmp .ge 37, 3) := by decide +kernel
theorem d_PairChoice_survivors_13 : decode b_PairChoice_survivors 13 = .ok (.lload_n 1, 1) := by decide +kernel
theorem d_PairChoice_survivors_14 : decode b_PairChoice_survivors 14 = .ok (.iload 5, 2) := by decide +kernel
theorem d_PairChoice_survivors_16 : decode b_PairChoice_survivors 16 = .ok (.i2l, 1) := by decide +kernel
theorem d_PairChoice_survivors_17 : decode b_PairChoice_survivors 17 = .ok (.ladd, 1) := by decide +kernel
theorem d_PairChoice_survivors_18 : decode b_PairChoice_survivors 18 = .ok (.lconst 1, 1) := by decide +kernel
theorem d_PairChoice_survivors_19 : decode b_PairChoice_survivors 19 = .ok (.ladd, 1) := by decide +kernel
theorem d_PairChoice_survivors_20 : decode b_PairChoice_survivors 20 = .ok (.invokestatic 189, 3) := by decide +kernel
theorem d_PairChoice_survivors_23 : decode b_PairChoice_survivors 23 = .ok (.iload_n 3, 1) := by decide +kernel
theorem d_PairChoice_survivors_24 : decode b_PairChoice_survivors 24 = .ok (.i2l, 1) := by decide +kernel
theorem d_PairChoice_survivors_25 : decode b_PairChoice_survivors 25 = .ok (.lcmp, 1) := by decide +kernel
theorem d_PairChoice_survivors_26 : decode b_PairChoice_survivors 26 = .ok (.ifCond .ge 15, 3) := by decide +kernel
theorem d_PairChoice_survivors_29 : decode b_PairChoice_survivors 29 = .ok (.iload 4, 2) := by decide +kernel
theorem d_PairChoice_survivors_31 : decode b_PairChoice_survivors 31 = .ok (.iload 5, 2) := by decide +kernel
theorem d_PairChoice_survivors_33 : decode b_PairChoice_survivors 33 = .ok (.invokestatic 79, 3) := by decide +kernel
theorem d_PairChoice_survivors_36 : decode b_PairChoice_survivors 36 = .ok (.iconst (-1), 1) := by decide +kernel
theorem d_PairChoice_survivors_37 : decode b_PairChoice_survivors 37 = .ok (.ixor, 1) := by decide +kernel
theorem d_PairChoice_survivors_38 : decode b_PairChoice_survivors 38 = .ok (.iand, 1) := by decide +kernel
theorem d_PairChoice_survivors_39 : decode b_PairChoice_survivors 39 = .ok (.istore 4, 2) := by decide +kernel
theorem d_PairChoice_survivors_41 : decode b_PairChoice_survivors 41 = .ok (.iinc 5 1, 3) := by decide +kernel
theorem d_PairChoice_survivors_44 : decode b_PairChoice_survivors 44 = .ok (.goto (-38), 3) := by decide +kernel
theorem d_PairChoice_survivors_47 : decode b_PairChoice_survivors 47 = .ok (.iload 4, 2) := by decide +kernel
theorem d_PairChoice_survivors_49 : decode b_PairChoice_survivors 49 = .ok (.ireturn, 1) := by decide +kernel
theorem d_PairChoice_fate_0 : decode b_PairChoice_fate 0 = .ok (.lload_n 0, 1) := by decide +kernel
theorem d_PairChoice_fate_1 : decode b_PairChoice_fate 1 = .ok (.ldc2_w 193, 3) := by decide +kernel
theorem d_PairChoice_fate_4 : decode b_PairChoice_fate 4 = .ok (.lmul, 1) := by decide +kernel
theorem d_PairChoice_fate_5 : decode b_PairChoice_fate 5 = .ok (.lstore_n 2, 1) := by decide +kernel
theorem d_PairChoice_fate_6 : decode b_PairChoice_fate 6 = .ok (.lload_n 2, 1) := by decide +kernel
theorem d_PairChoice_fate_7 : decode b_PairChoice_fate 7 = .ok (.lload_n 2, 1) := by decide +kernel
theorem d_PairChoice_fate_8 : decode b_PairChoice_fate 8 = .ok (.bipush 29, 2) := by decide +kernel
theorem d_PairChoice_fate_10 : decode b_PairChoice_fate 10 = .ok (.lushr, 1) := by decide +kernel
theorem d_PairChoice_fate_11 : decode b_PairChoice_fate 11 = .ok (.lxor, 1) := by decide +kernel
theorem d_PairChoice_fate_12 : decode b_PairChoice_fate 12 = .ok (.ldc2_w 195, 3) := by decide +kernel
theorem d_PairChoice_fate_15 : decode b_PairChoice_fate 15 = .ok (.lmul, 1) := by decide +kernel
theorem d_PairChoice_fate_16 : decode b_PairChoice_fate 16 = .ok (.lstore_n 2, 1) := by decide +kernel
theorem d_PairChoice_fate_17 : decode b_PairChoice_fate 17 = .ok (.lload_n 2, 1) := by decide +kernel
theorem d_PairChoice_fate_18 : decode b_PairChoice_fate 18 = .ok (.bipush 33, 2) := by decide +kernel
theorem d_PairChoice_fate_20 : decode b_PairChoice_fate 20 = .ok (.lushr, 1) := by decide +kernel
theorem d_PairChoice_fate_21 : decode b_PairChoice_fate 21 = .ok (.ldc2_w 197, 3) := by decide +kernel
theorem d_PairChoice_fate_24 : decode b_PairChoice_fate 24 = .ok (.lrem, 1) := by decide +kernel
theorem d_PairChoice_fate_25 : decode b_PairChoice_fate 25 = .ok (.lreturn, 1) := by decide +kernel
theorem d_PairChoice_isWithin_0 : decode b_PairChoice_isWithin 0 = .ok (.iload_n 0, 1) := by decide +kernel
theorem d_PairChoice_isWithin_1 : decode b_PairChoice_isWithin 1 = .ok (.iload_n 1, 1) := by decide +kernel
theorem d_PairChoice_isWithin_2 : decode b_PairChoice_isWithin 2 = .ok (.if_icmp .lt 12, 3) := by decide +kernel
theorem d_PairChoice_isWithin_5 : decode b_PairChoice_isWithin 5 = .ok (.iload_n 0, 1) := by decide +kernel
theorem d_PairChoice_isWithin_6 : decode b_PairChoice_isWithin 6 = .ok (.iload_n 2, 1) := by decide +kernel
theorem d_PairChoice_isWithin_7 : decode b_PairChoice_isWithin 7 = .ok (.if_icmp .gt 7, 3) := by decide +kernel
theorem d_PairChoice_isWithin_10 : decode b_PairChoice_isWithin 10 = .ok (.iconst 1, 1) := by decide +kernel
theorem d_PairChoice_isWithin_11 : decode b_PairChoice_isWithin 11 = .ok (.goto 4, 3) := by decide +kernel
theorem d_PairChoice_isWithin_14 : decode b_PairChoice_isWithin 14 = .ok (.iconst 0, 1) := by decide +kernel
theorem d_PairChoice_isWithin_15 : decode b_PairChoice_isWithin 15 = .ok (.ireturn, 1) := by decide +kernel
theorem d_PairChoice_isWorth_0 : decode b_PairChoice_isWorth 0 = .ok (.iload_n 0, 1) := by decide +kernel
theorem d_PairChoice_isWorth_1 : decode b_PairChoice_isWorth 1 = .ok (.sipush (-10000), 3) := by decide +kernel
theorem d_PairChoice_isWorth_4 : decode b_PairChoice_isWorth 4 = .ok (.sipush 10000, 3) := by decide +kernel
theorem d_PairChoice_isWorth_7 : decode b_PairChoice_isWorth 7 = .ok (.invokestatic 39, 3) := by decide +kernel
theorem d_PairChoice_isWorth_10 : decode b_PairChoice_isWorth 10 = .ok (.ireturn, 1) := by decide +kernel
theorem d_PairChoice_isNumberOfPairs_0 : decode b_PairChoice_isNumberOfPairs 0 = .ok (.iload_n 0, 1) := by decide +kernel
theorem d_PairChoice_isNumberOfPairs_1 : decode b_PairChoice_isNumberOfPairs 1 = .ok (.iconst 1, 1) := by decide +kernel
theorem d_PairChoice_isNumberOfPairs_2 : decode b_PairChoice_isNumberOfPairs 2 = .ok (.bipush 6, 2) := by decide +kernel
theorem d_PairChoice_isNumberOfPairs_4 : decode b_PairChoice_isNumberOfPairs 4 = .ok (.invokestatic 39, 3) := by decide +kernel
theorem d_PairChoice_isNumberOfPairs_7 : decode b_PairChoice_isNumberOfPairs 7 = .ok (.ireturn, 1) := by decide +kernel
theorem d_PairChoice_bit_0 : decode b_PairChoice_bit 0 = .ok (.iconst 1, 1) := by decide +kernel
theorem d_PairChoice_bit_1 : decode b_PairChoice_bit 1 = .ok (.iload_n 0, 1) := by decide +kernel
theorem d_PairChoice_bit_2 : decode b_PairChoice_bit 2 = .ok (.ishl, 1) := by decide +kernel
theorem d_PairChoice_bit_3 : decode b_PairChoice_bit 3 = .ok (.ireturn, 1) := by decide +kernel
theorem d_PairChoice_has_0 : decode b_PairChoice_has 0 = .ok (.iload_n 0, 1) := by decide +kernel
theorem d_PairChoice_has_1 : decode b_PairChoice_has 1 = .ok (.iload_n 1, 1) := by decide +kernel
theorem d_PairChoice_has_2 : decode b_PairChoice_has 2 = .ok (.ishr, 1) := by decide +kernel
theorem d_PairChoice_has_3 : decode b_PairChoice_has 3 = .ok (.iconst 1, 1) := by decide +kernel
theorem d_PairChoice_has_4 : decode b_PairChoice_has 4 = .ok (.iand, 1) := by decide +kernel
theorem d_PairChoice_has_5 : decode b_PairChoice_has 5 = .ok (.ifCond .eq 7, 3) := by decide +kernel
theorem d_PairChoice_has_8 : decode b_PairChoice_has 8 = .ok (.iconst 1, 1) := by decide +kernel
theorem d_PairChoice_has_9 : decode b_PairChoice_has 9 = .ok (.goto 4, 3) := by decide +kernel
theorem d_PairChoice_has_12 : decode b_PairChoice_has 12 = .ok (.iconst 0, 1) := by decide +kernel
theorem d_PairChoice_has_13 : decode b_PairChoice_has 13 = .ok (.ireturn, 1) := by decide +kernel
theorem d_PairChoice_leastOf_0 : decode b_PairChoice_leastOf 0 = .ok (.iload_n 0, 1) := by decide +kernel
theorem d_PairChoice_leastOf_1 : decode b_PairChoice_leastOf 1 = .ok (.iload_n 0, 1) := by decide +kernel
theorem d_PairChoice_leastOf_2 : decode b_PairChoice_leastOf 2 = .ok (.ineg, 1) := by decide +kernel
theorem d_PairChoice_leastOf_3 : decode b_PairChoice_leastOf 3 = .ok (.iand, 1) := by decide +kernel
theorem d_PairChoice_leastOf_4 : decode b_PairChoice_leastOf 4 = .ok (.iconst 1, 1) := by decide +kernel
theorem d_PairChoice_leastOf_5 : decode b_PairChoice_leastOf 5 = .ok (.isub, 1) := by decide +kernel
theorem d_PairChoice_leastOf_6 : decode b_PairChoice_leastOf 6 = .ok (.invokestatic 169, 3) := by decide +kernel
theorem d_PairChoice_leastOf_9 : decode b_PairChoice_leastOf 9 = .ok (.ireturn, 1) := by decide +kernel
theorem d_M_init_0 : decode b_M_init 0 = .ok (.aload_n 0, 1) := by decide +kernel
theorem d_M_init_1 : decode b_M_init 1 = .ok (.invokespecial 1, 3) := by decide +kernel
theorem d_M_init_4 : decode b_M_init 4 = .ok (.aload_n 0, 1) := by decide +kernel
theorem d_M_init_5 : decode b_M_init 5 = .ok (.bipush 12, 2) := by decide +kernel
theorem d_M_init_7 : decode b_M_init 7 = .ok (.newarray .int, 2) := by decide +kernel
theorem d_M_init_9 : decode b_M_init 9 = .ok (.putfield 7, 3) := by decide +kernel
theorem d_M_init_12 : decode b_M_init 12 = .ok (.aload_n 0, 1) := by decide +kernel
theorem d_M_init_13 : decode b_M_init 13 = .ok (.bipush 12, 2) := by decide +kernel
theorem d_M_init_15 : decode b_M_init 15 = .ok (.newarray .int, 2) := by decide +kernel
theorem d_M_init_17 : decode b_M_init 17 = .ok (.putfield 13, 3) := by decide +kernel
theorem d_M_init_20 : decode b_M_init 20 = .ok (.aload_n 0, 1) := by decide +kernel
theorem d_M_init_21 : decode b_M_init 21 = .ok (.bipush 12, 2) := by decide +kernel
theorem d_M_init_23 : decode b_M_init 23 = .ok (.newarray .int, 2) := by decide +kernel
theorem d_M_init_25 : decode b_M_init 25 = .ok (.putfield 16, 3) := by decide +kernel
theorem d_M_init_28 : decode b_M_init 28 = .ok (.aload_n 0, 1) := by decide +kernel
theorem d_M_init_29 : decode b_M_init 29 = .ok (.sipush 144, 3) := by decide +kernel
theorem d_M_init_32 : decode b_M_init 32 = .ok (.newarray .int, 2) := by decide +kernel
theorem d_M_init_34 : decode b_M_init 34 = .ok (.putfield 19, 3) := by decide +kernel
theorem d_M_init_37 : decode b_M_init 37 = .ok (.aload_n 0, 1) := by decide +kernel
theorem d_M_init_38 : decode b_M_init 38 = .ok (.sipush 144, 3) := by decide +kernel
theorem d_M_init_41 : decode b_M_init 41 = .ok (.newarray .boolean, 2) := by decide +kernel
theorem d_M_init_43 : decode b_M_init 43 = .ok (.putfield 22, 3) := by decide +kernel
theorem d_M_init_46 : decode b_M_init 46 = .ok (.aload_n 0, 1) := by decide +kernel
theorem d_M_init_47 : decode b_M_init 47 = .ok (.sipush 1000, 3) := by decide +kernel
