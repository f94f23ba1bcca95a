theorem d_Choice_init_0 : decode b_Choice_init 0 = .ok (.aload_n 0, 1) := by decide +kernel
theorem d_Choice_init_1 : decode b_Choice_init 1 = .ok (.invokespecial 3, 3) := by decide +kernel
theorem d_Choice_init_4 : decode b_Choice_init 4 = .ok (.aload_n 0, 1) := by decide +kernel
theorem d_Choice_init_5 : decode b_Choice_init 5 = .ok (.new 9, 3) := by decide +kernel
theorem d_Choice_init_8 : decode b_Choice_init 8 = .ok (.dup, 1) := by decide +kernel
theorem d_Choice_init_9 : decode b_Choice_init 9 = .ok (.invokespecial 11, 3) := by decide +kernel
theorem d_Choice_init_12 : decode b_Choice_init 12 = .ok (.putfield 12, 3) := by decide +kernel
theorem d_Choice_init_15 : decode b_Choice_init 15 = .ok (.aload_n 0, 1) := by decide +kernel
theorem d_Choice_init_16 : decode b_Choice_init 16 = .ok (.iconst 0, 1) := by decide +kernel
theorem d_Choice_init_17 : decode b_Choice_init 17 = .ok (.putfield 18, 3) := by decide +kernel
theorem d_Choice_init_20 : decode b_Choice_init 20 = .ok (.aload_n 0, 1) := by decide +kernel
theorem d_Choice_init_21 : decode b_Choice_init 21 = .ok (.iconst 0, 1) := by decide +kernel
theorem d_Choice_init_22 : decode b_Choice_init 22 = .ok (.putfield 22, 3) := by decide +kernel
theorem d_Choice_init_25 : decode b_Choice_init 25 = .ok (.aload_n 0, 1) := by decide +kernel
theorem d_Choice_init_26 : decode b_Choice_init 26 = .ok (.iconst 0, 1) := by decide +kernel
theorem d_Choice_init_27 : decode b_Choice_init 27 = .ok (.putfield 25, 3) := by decide +kernel
theorem d_Choice_init_30 : decode b_Choice_init 30 = .ok (.aload_n 0, 1) := by decide +kernel
theorem d_Choice_init_31 : decode b_Choice_init 31 = .ok (.bipush 6, 2) := by decide +kernel
theorem d_Choice_init_33 : decode b_Choice_init 33 = .ok (.newarray .int, 2) := by decide +kernel
theorem d_Choice_init_35 : decode b_Choice_init 35 = .ok (.putfield 28, 3) := by decide +kernel
theorem d_Choice_init_38 : decode b_Choice_init 38 = .ok (.aload_n 0, 1) := by decide +kernel
theorem d_Choice_init_39 : decode b_Choice_init 39 = .ok (.bipush 6, 2) := by decide +kernel
theorem d_Choice_init_41 : decode b_Choice_init 41 = .ok (.newarray .long, 2) := by decide +kernel
theorem d_Choice_init_43 : decode b_Choice_init 43 = .ok (.putfield 32, 3) := by decide +kernel
theorem d_Choice_init_46 : decode b_Choice_init 46 = .ok (.aload_n 0, 1) := by decide +kernel
theorem d_Choice_init_47 : decode b_Choice_init 47 = .ok (.aload_n 1, 1) := by decide +kernel
theorem d_Choice_init_48 : decode b_Choice_init 48 = .ok (.putfield 36, 3) := by decide +kernel
theorem d_Choice_init_51 : decode b_Choice_init 51 = .ok (.return_, 1) := by decide +kernel
theorem d_Choice_drop_0 : decode b_Choice_drop 0 = .ok (.aload_n 0, 1) := by decide +kernel
theorem d_Choice_drop_1 : decode b_Choice_drop 1 = .ok (.iconst 0, 1) := by decide +kernel
theorem d_Choice_drop_2 : decode b_Choice_drop 2 = .ok (.putfield 18, 3) := by decide +kernel
theorem d_Choice_drop_5 : decode b_Choice_drop 5 = .ok (.return_, 1) := by decide +kernel
theorem d_Choice_take_0 : decode b_Choice_take 0 = .ok (.aload_n 0, 1) := by decide +kernel
theorem d_Choice_take_1 : decode b_Choice_take 1 = .ok (.iload_n 1, 1) := by decide +kernel
theorem d_Choice_take_2 : decode b_Choice_take 2 = .ok (.putfield 22, 3) := by decide +kernel
theorem d_Choice_take_5 : decode b_Choice_take 5 = .ok (.aload_n 0, 1) := by decide +kernel
theorem d_Choice_take_6 : decode b_Choice_take 6 = .ok (.iload_n 2, 1) := by decide +kernel
theorem d_Choice_take_7 : decode b_Choice_take 7 = .ok (.putfield 18, 3) := by decide +kernel
theorem d_Choice_take_10 : decode b_Choice_take 10 = .ok (.aload_n 0, 1) := by decide +kernel
theorem d_Choice_take_11 : decode b_Choice_take 11 = .ok (.iload_n 3, 1) := by decide +kernel
theorem d_Choice_take_12 : decode b_Choice_take 12 = .ok (.putfield 25, 3) := by decide +kernel
theorem d_Choice_take_15 : decode b_Choice_take 15 = .ok (.aload_n 0, 1) := by decide +kernel
theorem d_Choice_take_16 : decode b_Choice_take 16 = .ok (.getfield 12, 3) := by decide +kernel
theorem d_Choice_take_19 : decode b_Choice_take 19 = .ok (.aload_n 0, 1) := by decide +kernel
theorem d_Choice_take_20 : decode b_Choice_take 20 = .ok (.getfield 36, 3) := by decide +kernel
theorem d_Choice_take_23 : decode b_Choice_take 23 = .ok (.iload_n 1, 1) := by decide +kernel
theorem d_Choice_take_24 : decode b_Choice_take 24 = .ok (.invokevirtual 40, 3) := by decide +kernel
theorem d_Choice_take_27 : decode b_Choice_take 27 = .ok (.pop, 1) := by decide +kernel
theorem d_Choice_take_28 : decode b_Choice_take 28 = .ok (.iconst 0, 1) := by decide +kernel
theorem d_Choice_take_29 : decode b_Choice_take 29 = .ok (.istore 4, 2) := by decide +kernel
theorem d_Choice_take_31 : decode b_Choice_take 31 = .ok (.iload 4, 2) := by decide +kernel
theorem d_Choice_take_33 : decode b_Choice_take 33 = .ok (.bipush 6, 2) := by decide +kernel
theorem d_Choice_take_35 : decode b_Choice_take 35 = .ok (.if_icmp .ge 17, 3) := by decide +kernel
theorem d_Choice_take_38 : decode b_Choice_take 38 = .ok (.aload_n 0, 1) := by decide +kernel
theorem d_Choice_take_39 : decode b_Choice_take 39 = .ok (.getfield 28, 3) := by decide +kernel
theorem d_Choice_take_42 : decode b_Choice_take 42 = .ok (.iload 4, 2) := by decide +kernel
theorem d_Choice_take_44 : decode b_Choice_take 44 = .ok (.iconst 0, 1) := by decide +kernel
theorem d_Choice_take_45 : decode b_Choice_take 45 = .ok (.iastore, 1) := by decide +kernel
theorem d_Choice_take_46 : decode b_Choice_take 46 = .ok (.iinc 4 1, 3) := by decide +kernel
theorem d_Choice_take_49 : decode b_Choice_take 49 = .ok (.goto (-18), 3) := by decide +kernel
theorem d_Choice_take_52 : decode b_Choice_take 52 = .ok (.return_, 1) := by decide +kernel
theorem d_Choice_hasPair_0 : decode b_Choice_hasPair 0 = .ok (.iload_n 1, 1) := by decide +kernel
theorem d_Choice_hasPair_1 : decode b_Choice_hasPair 1 = .ok (.ifCond .lt 15, 3) := by decide +kernel
theorem d_Choice_hasPair_4 : decode b_Choice_hasPair 4 = .ok (.iload_n 1, 1) := by decide +kernel
theorem d_Choice_hasPair_5 : decode b_Choice_hasPair 5 = .ok (.aload_n 0, 1) := by decide +kernel
theorem d_Choice_hasPair_6 : decode b_Choice_hasPair 6 = .ok (.getfield 18, 3) := by decide +kernel
theorem d_Choice_hasPair_9 : decode b_Choice_hasPair 9 = .ok (.if_icmp .ge 7, 3) := by decide +kernel
theorem d_Choice_hasPair_12 : decode b_Choice_hasPair 12 = .ok (.iconst 1, 1) := by decide +kernel
theorem d_Choice_hasPair_13 : decode b_Choice_hasPair 13 = .ok (.goto 4, 3) := by decide +kernel
theorem d_Choice_hasPair_16 : decode b_Choice_hasPair 16 = .ok (.iconst 0, 1) := by decide +kernel
theorem d_Choice_hasPair_17 : decode b_Choice_hasPair 17 = .ok (.ireturn, 1) := by decide +kernel
theorem d_Choice_pairWorth_0 : decode b_Choice_pairWorth 0 = .ok (.aload_n 0, 1) := by decide +kernel
theorem d_Choice_pairWorth_1 : decode b_Choice_pairWorth 1 = .ok (.getfield 36, 3) := by decide +kernel
theorem d_Choice_pairWorth_4 : decode b_Choice_pairWorth 4 = .ok (.getfield 44, 3) := by decide +kernel
theorem d_Choice_pairWorth_7 : decode b_Choice_pairWorth 7 = .ok (.aload_n 0, 1) := by decide +kernel
theorem d_Choice_pairWorth_8 : decode b_Choice_pairWorth 8 = .ok (.getfield 12, 3) := by decide +kernel
theorem d_Choice_pairWorth_11 : decode b_Choice_pairWorth 11 = .ok (.getfield 49, 3) := by decide +kernel
theorem d_Choice_pairWorth_14 : decode b_Choice_pairWorth 14 = .ok (.iload_n 1, 1) := by decide +kernel
theorem d_Choice_pairWorth_15 : decode b_Choice_pairWorth 15 = .ok (.iaload, 1) := by decide +kernel
theorem d_Choice_pairWorth_16 : decode b_Choice_pairWorth 16 = .ok (.iaload, 1) := by decide +kernel
theorem d_Choice_pairWorth_17 : decode b_Choice_pairWorth 17 = .ok (.aload_n 0, 1) := by decide +kernel
theorem d_Choice_pairWorth_18 : decode b_Choice_pairWorth 18 = .ok (.getfield 36, 3) := by decide +kernel
theorem d_Choice_pairWorth_21 : decode b_Choice_pairWorth 21 = .ok (.getfield 44, 3) := by decide +kernel
theorem d_Choice_pairWorth_24 : decode b_Choice_pairWorth 24 = .ok (.aload_n 0, 1) := by decide +kernel
theorem d_Choice_pairWorth_25 : decode b_Choice_pairWorth 25 = .ok (.getfield 12, 3) := by decide +kernel
theorem d_Choice_pairWorth_28 : decode b_Choice_pairWorth 28 = .ok (.getfield 52, 3) := by decide +kernel
theorem d_Choice_pairWorth_31 : decode b_Choice_pairWorth 31 = .ok (.iload_n 1, 1) := by decide +kernel
theorem d_Choice_pairWorth_32 : decode b_Choice_pairWorth 32 = .ok (.iaload, 1) := by decide +kernel
theorem d_Choice_pairWorth_33 : decode b_Choice_pairWorth 33 = .ok (.iaload, 1) := by decide +kernel
theorem d_Choice_pairWorth_34 : decode b_Choice_pairWorth 34 = .ok (.iadd, 1) := by decide +kernel
theorem d_Choice_pairWorth_35 : decode b_Choice_pairWorth 35 = .ok (.ireturn, 1) := by decide +kernel
theorem d_Choice_leastPairWorth_0 : decode b_Choice_leastPairWorth 0 = .ok (.aload_n 0, 1) := by decide +kernel
theorem d_Choice_leastPairWorth_1 : decode b_Choice_leastPairWorth 1 = .ok (.iconst 0, 1) := by decide +kernel
theorem d_Choice_leastPairWorth_2 : decode b_Choice_leastPairWorth 2 = .ok (.invokevirtual 55, 3) := by decide +kernel
theorem d_Choice_leastPairWorth_5 : decode b_Choice_leastPairWorth 5 = .ok (.istore_n 1, 1) := by decide +kernel
theorem d_Choice_leastPairWorth_6 : decode b_Choice_leastPairWorth 6 = .ok (.iconst 1, 1) := by decide +kernel
theorem d_Choice_leastPairWorth_7 : decode b_Choice_leastPairWorth 7 = .ok (.istore_n 2, 1) := by decide +kernel
theorem d_Choice_leastPairWorth_8 : decode b_Choice_leastPairWorth 8 = .ok (.iload_n 2, 1) := by decide +kernel
theorem d_Choice_leastPairWorth_9 : decode b_Choice_leastPairWorth 9 = .ok (.aload_n 0, 1) := by decide +kernel
theorem d_Choice_leastPairWorth_10 : decode b_Choice_leastPairWorth 10 = .ok (.getfield 18, 3) := by decide +kernel
theorem d_Choice_leastPairWorth_13 : decode b_Choice_leastPairWorth 13 = .ok (.if_icmp .ge 19, 3) := by decide +kernel
theorem d_Choice_leastPairWorth_16 : decode b_Choice_leastPairWorth 16 = .ok (.iload_n 1, 1) := by decide +kernel
theorem d_Choice_leastPairWorth_17 : decode b_Choice_leastPairWorth 17 = .ok (.aload_n 0, 1) := by decide +kernel
theorem d_Choice_leastPairWorth_18 : decode b_Choice_leastPairWorth 18 = .ok (.iload_n 2, 1) := by decide +kernel
theorem d_Choice_leastPairWorth_19 : decode b_Choice_leastPairWorth 19 = .ok (.invokevirtual 55, 3) := by decide +kernel
theorem d_Choice_leastPairWorth_22 : decode b_Choice_leastPairWorth 22 = .ok (.invokestatic 59, 3) := by decide +kernel
theorem d_Choice_leastPairWorth_25 : decode b_Choice_leastPairWorth 25 = .ok (.istore_n 1, 1) := by decide +kernel
theorem d_Choice_leastPairWorth_26 : decode b_Choice_leastPairWorth 26 = .ok (.iinc 2 1, 3) := by decide +kernel
theorem d_Choice_leastPairWorth_29 : decode b_Choice_leastPairWorth 29 = .ok (.goto (-21), 3) := by decide +kernel
theorem d_Choice_leastPairWorth_32 : decode b_Choice_leastPairWorth 32 = .ok (.iload_n 1, 1) := by decide +kernel
theorem d_Choice_leastPairWorth_33 : decode b_Choice_leastPairWorth 33 = .ok (.ireturn, 1) := by decide +kernel
theorem d_Choice_shareOut_0 : decode b_Choice_shareOut 0 = .ok (.aload_n 0, 1) := by decide +kernel
theorem d_Choice_shareOut_1 : decode b_Choice_shareOut 1 = .ok (.invokevirtual 65, 3) := by decide +kernel
theorem d_Choice_shareOut_4 : decode b_Choice_shareOut 4 = .ok (.iconst 1, 1) := by decide +kernel
theorem d_Choice_shareOut_5 : decode b_Choice_shareOut 5 = .ok (.isub, 1) := by decide +kernel
theorem d_Choice_shareOut_6 : decode b_Choice_shareOut 6 = .ok (.istore_n 2, 1) := by decide +kernel
theorem d_Choice_shareOut_7 : decode b_Choice_shareOut 7 = .ok (.lconst 0, 1) := by decide +kernel
theorem d_Choice_shareOut_8 : decode b_Choice_shareOut 8 = .ok (.lstore_n 3, 1) := by decide +kernel
theorem d_Choice_shareOut_9 : decode b_Choice_shareOut 9 = .ok (.iconst 0, 1) := by decide +kernel
theorem d_Choice_shareOut_10 : decode b_Choice_shareOut 10 = .ok (.istore 5, 2) := by decide +kernel
theorem d_Choice_shareOut_12 : decode b_Choice_shareOut 12 = .ok (.iload 5, 2) := by decide +kernel
theorem d_Choice_shareOut_14 : decode b_Choice_shareOut 14 = .ok (.aload_n 0, 1) := by decide +kernel
theorem d_Choice_shareOut_15 : decode b_Choice_shareOut 15 = .ok (.getfield 18, 3) := by decide +kernel
theorem d_Choice_shareOut_18 : decode b_Choice_shareOut 18 = .ok (.if_icmp .ge 21, 3) := by decide +kernel
theorem d_Choice_shareOut_21 : decode b_Choice_shareOut 21 = .ok (.lload_n 3, 1) := by decide +kernel
theorem d_Choice_shareOut_22 : decode b_Choice_shareOut 22 = .ok (.aload_n 0, 1) := by decide +kernel
theorem d_Choice_shareOut_23 : decode b_Choice_shareOut 23 = .ok (.iload 5, 2) := by decide +kernel
theorem d_Choice_shareOut_25 : decode b_Choice_shareOut 25 = .ok (.invokevirtual 55, 3) := by decide +kernel
theorem d_Choice_shareOut_28 : decode b_Choice_shareOut 28 = .ok (.iload_n 2, 1) := by decide +kernel
theorem d_Choice_shareOut_29 : decode b_Choice_shareOut 29 = .ok (.isub, 1) := by decide +kernel
theorem d_Choice_shareOut_30 : decode b_Choice_shareOut 30 = .ok (.i2l, 1) := by decide +kernel
theorem d_Choice_shareOut_31 : decode b_Choice_shareOut 31 = .ok (.ladd, 1) := by decide +kernel
theorem d_Choice_shareOut_32 : decode b_Choice_shareOut 32 = .ok (.lstore_n 3, 1) := by decide +kernel
theorem d_Choice_shareOut_33 : decode b_Choice_shareOut 33 = .ok (.iinc 5 1, 3) := by decide +kernel
theorem d_Choice_shareOut_36 : decode b_Choice_shareOut 36 = .ok (.goto (-24), 3) := by decide +kernel
theorem d_Choice_shareOut_39 : decode b_Choice_shareOut 39 = .ok (.lload_n 3, 1) := by decide +kernel
theorem d_Choice_shareOut_40 : decode b_Choice_shareOut 40 = .ok (.lconst 1, 1) := by decide +kernel
theorem d_Choice_shareOut_41 : decode b_Choice_shareOut 41 = .ok (.lcmp, 1) := by decide +kernel
theorem d_Choice_shareOut_42 : decode b_Choice_shareOut 42 = .ok (.ifCond .ge 4, 3) := by decide +kernel
theorem d_Choice_shareOut_45 : decode b_Choice_shareOut 45 = .ok (.return_, 1) := by decide +kernel
theorem d_Choice_shareOut_46 : decode b_Choice_shareOut 46 = .ok (.iload_n 1, 1) := by decide +kernel
theorem d_Choice_shareOut_47 : decode b_Choice_shareOut 47 = .ok (.istore 5, 2) := by decide +kernel
theorem d_Choice_shareOut_49 : decode b_Choice_shareOut 49 = .ok (.iconst 0, 1) := by decide +kernel
theorem d_Choice_shareOut_50 : decode b_Choice_shareOut 50 = .ok (.istore 6, 2) := by decide +kernel
theorem d_Choice_shareOut_52 : decode b_Choice_shareOut 52 = .ok (.iload 6, 2) := by decide +kernel
theorem d_Choice_shareOut_54 : decode b_Choice_shareOut 54 = .ok (.aload_n 0, 1) := by decide +kernel
theorem d_Choice_shareOut_55 : decode b_Choice_shareOut 55 = .ok (.getfield 18, 3) := by decide +kernel
theorem d_Choice_shareOut_58 : decode b_Choice_shareOut 58 = .ok (.if_icmp .ge 58, 3) := by decide +kernel
theorem d_Choice_shareOut_61 : decode b_Choice_shareOut 61 = .ok (.iload_n 1, 1) := by decide +kernel
theorem d_Choice_shareOut_62 : decode b_Choice_shareOut 62 = .ok (.i2l, 1) := by decide +kernel
theorem d_Choice_shareOut_63 : decode b_Choice_shareOut 63 = .ok (.aload_n 0, 1) := by decide +kernel
theorem d_Choice_shareOut_64 : decode b_Choice_shareOut 64 = .ok (.iload 6, 2) := by decide +kernel
theorem d_Choice_shareOut_66 : decode b_Choice_shareOut 66 = .ok (.invokevirtual 55, 3) := by decide +kernel
theorem d_Choice_shareOut_69 : decode b_Choice_shareOut 69 = .ok (.iload_n 2, 1) := by decide +kernel
theorem d_Choice_shareOut_70 : decode b_Choice_shareOut 70 = .ok (.isub, 1) := by decide +kernel
theorem d_Choice_shareOut_71 : decode b_Choice_shareOut 71 = .ok (.i2l, 1) := by decide +kernel
theorem d_Choice_shareOut_72 : decode b_Choice_shareOut 72 = .ok (.lmul, 1) := by decide +kernel
theorem d_Choice_shareOut_73 : decode b_Choice_shareOut 73 = .ok (.lstore 7, 2) := by decide +kernel
theorem d_Choice_shareOut_75 : decode b_Choice_shareOut 75 = .ok (.aload_n 0, 1) := by decide +kernel
theorem d_Choice_shareOut_76 : decode b_Choice_shareOut 76 = .ok (.getfield 28, 3) := by decide +kernel
theorem d_Choice_shareOut_79 : decode b_Choice_shareOut 79 = .ok (.iload 6, 2) := by decide +kernel
theorem d_Choice_shareOut_81 : decode b_Choice_shareOut 81 = .ok (.lload 7, 2) := by decide +kernel
theorem d_Choice_shareOut_83 : decode b_Choice_shareOut 83 = .ok (.lload_n 3, 1) := by decide +kernel
theorem d_Choice_shareOut_84 : decode b_Choice_shareOut 84 = .ok (.ldiv, 1) := by decide +kernel
theorem d_Choice_shareOut_85 : decode b_Choice_shareOut 85 = .ok (.l2i, 1) := by decide +kernel
theorem d_Choice_shareOut_86 : decode b_Choice_shareOut 86 = .ok (.iastore, 1) := by decide +kernel
theorem d_Choice_shareOut_87 : decode b_Choice_shareOut 87 = .ok (.aload_n 0, 1) := by decide +kernel
theorem d_Choice_shareOut_88 : decode b_Choice_shareOut 88 = .ok (.getfield 32, 3) := by decide +kernel
theorem d_Choice_shareOut_91 : decode b_Choice_shareOut 91 = .ok (.iload 6, 2) := by decide +kernel
theorem d_Choice_shareOut_93 : decode b_Choice_shareOut 93 = .ok (.lload 7, 2) := by decide +kernel
theorem d_Choice_shareOut_95 : decode b_Choice_shareOut 95 = .ok (.lload_n 3, 1) := by decide +kernel
theorem d_Choice_shareOut_96 : decode b_Choice_shareOut 96 = .ok (.lrem, 1) := by decide +kernel
theorem d_Choice_shareOut_97 : decode b_Choice_shareOut 97 = .ok (.lastore, 1) := by decide +kernel
theorem d_Choice_shareOut_98 : decode b_Choice_shareOut 98 = .ok (.iload 5, 2) := by decide +kernel
theorem d_Choice_shareOut_100 : decode b_Choice_shareOut 100 = .ok (.aload_n 0, 1) := by decide +kernel
theorem d_Choice_shareOut_101 : decode b_Choice_shareOut 101 = .ok (.getfield 28, 3) := by decide +kernel
theorem d_Choice_shareOut_104 : decode b_Choice_shareOut 104 = .ok (.iload 6, 2) := by decide +kernel
theorem d_Choice_shareOut_106 : decode b_Choice_shareOut 106 = .ok (.iaload, 1) := by decide +kernel
theorem d_Choice_shareOut_107 : decode b_Choice_shareOut 107 = .ok (.isub, 1) := by decide +kernel
theorem d_Choice_shareOut_108 : decode b_Choice_shareOut 108 = .ok (.istore 5, 2) := by decide +kernel
theorem d_Choice_shareOut_110 : decode b_Choice_shareOut 110 = .ok (.iinc 6 1, 3) := by decide +kernel
theorem d_Choice_shareOut_113 : decode b_Choice_shareOut 113 = .ok (.goto (-61), 3) := by decide +kernel
theorem d_Choice_shareOut_116 : decode b_Choice_shareOut 116 = .ok (.aload_n 0, 1) := by decide +kernel
theorem d_Choice_shareOut_117 : decode b_Choice_shareOut 117 = .ok (.iload 5, 2) := by decide +kernel
theorem d_Choice_shareOut_119 : decode b_Choice_shareOut 119 = .ok (.invokevirtual 69, 3) := by decide +kernel
theorem d_Choice_shareOut_122 : decode b_Choice_shareOut 122 = .ok (.return_, 1) := by decide +kernel
theorem d_Choice_giveLeftOnes_0 : decode b_Choice_giveLeftOnes 0 = .ok (.iconst 0, 1) := by decide +kernel
theorem d_Choice_giveLeftOnes_1 : decode b_Choice_giveLeftOnes 1 = .ok (.istore_n 2, 1) := by decide +kernel
theorem d_Choice_giveLeftOnes_2 : decode b_Choice_giveLeftOnes 2 = .ok (.iload_n 2, 1) := by decide +kernel
theorem d_Choice_giveLeftOnes_3 : decode b_Choice_giveLeftOnes 3 = .ok (.iload_n 1, 1) := by decide +kernel
theorem d_Choice_giveLeftOnes_4 : decode b_Choice_giveLeftOnes 4 = .ok (.if_icmp .ge 41, 3) := by decide +kernel
theorem d_Choice_giveLeftOnes_7 : decode b_Choice_giveLeftOnes 7 = .ok (.iload_n 2, 1) := by decide +kernel
theorem d_Choice_giveLeftOnes_8 : decode b_Choice_giveLeftOnes 8 = .ok (.aload_n 0, 1) := by decide +kernel
theorem d_Choice_giveLeftOnes_9 : decode b_Choice_giveLeftOnes 9 = .ok (.getfield 18, 3) := by decide +kernel
theorem d_Choice_giveLeftOnes_12 : decode b_Choice_giveLeftOnes 12 = .ok (.if_icmp .ge 33, 3) := by decide +kernel
theorem d_Choice_giveLeftOnes_15 : decode b_Choice_giveLeftOnes 15 = .ok (.aload_n 0, 1) := by decide +kernel
theorem d_Choice_giveLeftOnes_16 : decode b_Choice_giveLeftOnes 16 = .ok (.invokevirtual 73, 3) := by decide +kernel
theorem d_Choice_giveLeftOnes_19 : decode b_Choice_giveLeftOnes 19 = .ok (.istore_n 3, 1) := by decide +kernel
theorem d_Choice_giveLeftOnes_20 : decode b_Choice_giveLeftOnes 20 = .ok (.aload_n 0, 1) := by decide +kernel
theorem d_Choice_giveLeftOnes_21 : decode b_Choice_giveLeftOnes 21 = .ok (.getfield 28, 3) := by decide +kernel
theorem d_Choice_giveLeftOnes_24 : decode b_Choice_giveLeftOnes 24 = .ok (.iload_n 3, 1) := by decide +kernel
theorem d_Choice_giveLeftOnes_25 : decode b_Choice_giveLeftOnes 25 = .ok (.dup2, 1) := by decide +kernel
theorem d_Choice_giveLeftOnes_26 : decode b_Choice_giveLeftOnes 26 = .ok (.iaload, 1) := by decide +kernel
theorem d_Choice_giveLeftOnes_27 : decode b_Choice_giveLeftOnes 27 = .ok (.iconst 1, 1) := by decide +kernel
theorem d_Choice_giveLeftOnes_28 : decode b_Choice_giveLeftOnes 28 = .ok (.iadd, 1) := by decide +kernel
theorem d_Choice_giveLeftOnes_29 : decode b_Choice_giveLeftOnes 29 = .ok (.iastore, 1) := by decide +kernel
theorem d_Choice_giveLeftOnes_30 : decode b_Choice_giveLeftOnes 30 = .ok (.aload_n 0, 1) := by decide +kernel
theorem d_Choice_giveLeftOnes_31 : decode b_Choice_giveLeftOnes 31 = .ok (.getfield 32, 3) := by decide +kernel
theorem d_Choice_giveLeftOnes_34 : decode b_Choice_giveLeftOnes 34 = .ok (.iload_n 3, 1) := by decide +kernel
theorem d_Choice_giveLeftOnes_35 : decode b_Choice_giveLeftOnes 35 = .ok (.ldc2_w 76, 3) := by decide +kernel
theorem d_Choice_giveLeftOnes_38 : decode b_Choice_giveLeftOnes 38 = .ok (.lastore, 1) := by decide +kernel
theorem d_Choice_giveLeftOnes_39 : decode b_Choice_giveLeftOnes 39 = .ok (.iinc 2 1, 3) := by decide +kernel
theorem d_Choice_giveLeftOnes_42 : decode b_Choice_giveLeftOnes 42 = .ok (.goto (-40), 3) := by decide +kernel
theorem d_Choice_giveLeftOnes_45 : decode b_Choice_giveLeftOnes 45 = .ok (.return_, 1) := by decide +kernel
theorem d_Choice_greatestRest_0 : decode b_Choice_greatestRest 0 = .ok (.iconst 0, 1) := by decide +kernel
theorem d_Choice_greatestRest_1 : decode b_Choice_greatestRest 1 = .ok (.istore_n 1, 1) := by decide +kernel
theorem d_Choice_greatestRest_2 : decode b_Choice_greatestRest 2 = .ok (.iconst 1, 1) := by decide +kernel
theorem d_Choice_greatestRest_3 : decode b_Choice_greatestRest 3 = .ok (.istore_n 2, 1) := by decide +kernel
theorem d_Choice_greatestRest_4 : decode b_Choice_greatestRest 4 = .ok (.iload_n 2, 1) := by decide +kernel
theorem d_Choice_greatestRest_5 : decode b_Choice_greatestRest 5 = .ok (.aload_n 0, 1) := by decide +kernel
theorem d_Choice_greatestRest_6 : decode b_Choice_greatestRest 6 = .ok (.getfield 18, 3) := by decide +kernel
theorem d_Choice_greatestRest_9 : decode b_Choice_greatestRest 9 = .ok (.if_icmp .ge 27, 3) := by decide +kernel
theorem d_Choice_greatestRest_12 : decode b_Choice_greatestRest 12 = .ok (.aload_n 0, 1) := by decide +kernel
theorem d_Choice_greatestRest_13 : decode b_Choice_greatestRest 13 = .ok (.getfield 32, 3) := by decide +kernel
theorem d_Choice_greatestRest_16 : decode b_Choice_greatestRest 16 = .ok (.iload_n 2, 1) := by decide +kernel
theorem d_Choice_greatestRest_17 : decode b_Choice_greatestRest 17 = .ok (.laload, 1) := by decide +kernel
theorem d_Choice_greatestRest_18 : decode b_Choice_greatestRest 18 = .ok (.aload_n 0, 1) := by decide +kernel
theorem d_Choice_greatestRest_19 : decode b_Choice_greatestRest 19 = .ok (.getfield 32, 3) := by decide +kernel
theorem d_Choice_greatestRest_22 : decode b_Choice_greatestRest 22 = .ok (.iload_n 1, 1) := by decide +kernel
theorem d_Choice_greatestRest_23 : decode b_Choice_greatestRest 23 = .ok (.laload, 1) := by decide +kernel
theorem d_Choice_greatestRest_24 : decode b_Choice_greatestRest 24 = .ok (.lcmp, 1) := by decide +kernel
theorem d_Choice_greatestRest_25 : decode b_Choice_greatestRest 25 = .ok (.ifCond .le 5, 3) := by decide +kernel
theorem d_Choice_greatestRest_28 : decode b_Choice_greatestRest 28 = .ok (.iload_n 2, 1) := by decide +kernel
theorem d_Choice_greatestRest_29 : decode b_Choice_greatestRest 29 = .ok (.istore_n 1, 1) := by decide +kernel
theorem d_Choice_greatestRest_30 : decode b_Choice_greatestRest 30 = .ok (.iinc 2 1, 3) := by decide +kernel
theorem d_Choice_greatestRest_33 : decode b_Choice_greatestRest 33 = .ok (.goto (-29), 3) := by decide +kernel
theorem d_Choice_greatestRest_36 : decode b_Choice_greatestRest 36 = .ok (.iload_n 1, 1) := by decide +kernel
theorem d_Choice_greatestRest_37 : decode b_Choice_greatestRest 37 = .ok (.ireturn, 1) := by decide +kernel
theorem d_Choice_couldStandIn_0 : decode b_Choice_couldStandIn 0 = .ok (.aload_n 0, 1) := by decide +kernel
theorem d_Choice_couldStandIn_1 : decode b_Choice_couldStandIn 1 = .ok (.getfield 36, 3) := by decide +kernel
theorem d_Choice_couldStandIn_4 : decode b_Choice_couldStandIn 4 = .ok (.getfield 78, 3) := by decide +kernel
theorem d_Choice_couldStandIn_7 : decode b_Choice_couldStandIn 7 = .ok (.aload_n 0, 1) := by decide +kernel
theorem d_Choice_couldStandIn_8 : decode b_Choice_couldStandIn 8 = .ok (.getfield 22, 3) := by decide +kernel
theorem d_Choice_couldStandIn_11 : decode b_Choice_couldStandIn 11 = .ok (.iconst (-1), 1) := by decide +kernel
theorem d_Choice_couldStandIn_12 : decode b_Choice_couldStandIn 12 = .ok (.ixor, 1) := by decide +kernel
theorem d_Choice_couldStandIn_13 : decode b_Choice_couldStandIn 13 = .ok (.iand, 1) := by decide +kernel
theorem d_Choice_couldStandIn_14 : decode b_Choice_couldStandIn 14 = .ok (.iload_n 1, 1) := by decide +kernel
theorem d_Choice_couldStandIn_15 : decode b_Choice_couldStandIn 15 = .ok (.invokestatic 80, 3) := by decide +kernel
theorem d_Choice_couldStandIn_18 : decode b_Choice_couldStandIn 18 = .ok (.ifCond .eq 27, 3) := by decide +kernel
theorem d_Choice_couldStandIn_21 : decode b_Choice_couldStandIn 21 = .ok (.aload_n 0, 1) := by decide +kernel
theorem d_Choice_couldStandIn_22 : decode b_Choice_couldStandIn 22 = .ok (.getfield 36, 3) := by decide +kernel
theorem d_Choice_couldStandIn_25 : decode b_Choice_couldStandIn 25 = .ok (.getfield 84, 3) := by decide +kernel
theorem d_Choice_couldStandIn_28 : decode b_Choice_couldStandIn 28 = .ok (.iload_n 1, 1) := by decide +kernel
theorem d_Choice_couldStandIn_29 : decode b_Choice_couldStandIn 29 = .ok (.iaload, 1) := by decide +kernel
theorem d_Choice_couldStandIn_30 : decode b_Choice_couldStandIn 30 = .ok (.aload_n 0, 1) := by decide +kernel
theorem d_Choice_couldStandIn_31 : decode b_Choice_couldStandIn 31 = .ok (.getfield 12, 3) := by decide +kernel
theorem d_Choice_couldStandIn_34 : decode b_Choice_couldStandIn 34 = .ok (.getfield 52, 3) := by decide +kernel
theorem d_Choice_couldStandIn_37 : decode b_Choice_couldStandIn 37 = .ok (.iload_n 2, 1) := by decide +kernel
theorem d_Choice_couldStandIn_38 : decode b_Choice_couldStandIn 38 = .ok (.iaload, 1) := by decide +kernel
theorem d_Choice_couldStandIn_39 : decode b_Choice_couldStandIn 39 = .ok (.invokestatic 80, 3) := by decide +kernel
theorem d_Choice_couldStandIn_42 : decode b_Choice_couldStandIn 42 = .ok (.ifCond .eq 5, 3) := by decide +kernel
theorem d_Choice_couldStandIn_45 : decode b_Choice_couldStandIn 45 = .ok (.iconst 0, 1) := by decide +kernel
theorem d_Choice_couldStandIn_46 : decode b_Choice_couldStandIn 46 = .ok (.ireturn, 1) := by decide +kernel
theorem d_Choice_couldStandIn_47 : decode b_Choice_couldStandIn 47 = .ok (.aload_n 0, 1) := by decide +kernel
theorem d_Choice_couldStandIn_48 : decode b_Choice_couldStandIn 48 = .ok (.getfield 22, 3) := by decide +kernel
theorem d_Choice_couldStandIn_51 : decode b_Choice_couldStandIn 51 = .ok (.aload_n 0, 1) := by decide +kernel
theorem d_Choice_couldStandIn_52 : decode b_Choice_couldStandIn 52 = .ok (.getfield 12, 3) := by decide +kernel
theorem d_Choice_couldStandIn_55 : decode b_Choice_couldStandIn 55 = .ok (.getfield 49, 3) := by decide +kernel
theorem d_Choice_couldStandIn_58 : decode b_Choice_couldStandIn 58 = .ok (.iload_n 2, 1) := by decide +kernel
theorem d_Choice_couldStandIn_59 : decode b_Choice_couldStandIn 59 = .ok (.iaload, 1) := by decide +kernel
theorem d_Choice_couldStandIn_60 : decode b_Choice_couldStandIn 60 = .ok (.invokestatic 87, 3) := by decide +kernel
theorem d_Choice_couldStandIn_63 : decode b_Choice_couldStandIn 63 = .ok (.iconst (-1), 1) := by decide +kernel
theorem d_Choice_couldStandIn_64 : decode b_Choice_couldStandIn 64 = .ok (.ixor, 1) := by decide +kernel
theorem d_Choice_couldStandIn_65 : decode b_Choice_couldStandIn 65 = .ok (.iand, 1) := by decide +kernel
theorem d_Choice_couldStandIn_66 : decode b_Choice_couldStandIn 66 = .ok (.iload_n 1, 1) := by decide +kernel
theorem d_Choice_couldStandIn_67 : decode b_Choice_couldStandIn 67 = .ok (.invokestatic 87, 3) := by decide +kernel
theorem d_Choice_couldStandIn_70 : decode b_Choice_couldStandIn 70 = .ok (.ior, 1) := by decide +kernel
theorem d_Choice_couldStandIn_71 : decode b_Choice_couldStandIn 71 = .ok (.istore_n 3, 1) := by decide +kernel
theorem d_Choice_couldStandIn_72 : decode b_Choice_couldStandIn 72 = .ok (.aload_n 0, 1) := by decide +kernel
theorem d_Choice_couldStandIn_73 : decode b_Choice_couldStandIn 73 = .ok (.getfield 36, 3) := by decide +kernel
theorem d_Choice_couldStandIn_76 : decode b_Choice_couldStandIn 76 = .ok (.iload_n 3, 1) := by decide +kernel
theorem d_Choice_couldStandIn_77 : decode b_Choice_couldStandIn 77 = .ok (.aload_n 0, 1) := by decide +kernel
theorem d_Choice_couldStandIn_78 : decode b_Choice_couldStandIn 78 = .ok (.getfield 18, 3) := by decide +kernel
theorem d_Choice_couldStandIn_81 : decode b_Choice_couldStandIn 81 = .ok (.invokevirtual 90, 3) := by decide +kernel
theorem d_Choice_couldStandIn_84 : decode b_Choice_couldStandIn 84 = .ok (.ireturn, 1) := by decide +kernel
theorem d_Herd_init_0 : decode b_Herd_init 0 = .ok (.aload_n 0, 1) := by decide +kernel
theorem d_Herd_init_1 : decode b_Herd_init 1 = .ok (.invokespecial 3, 3) := by decide +kernel
theorem d_Herd_init_4 : decode b_Herd_init 4 = .ok (.aload_n 0, 1) := by decide +kernel
theorem d_Herd_init_5 : decode b_Herd_init 5 = .ok (.iconst 0, 1) := by decide +kernel
theorem d_Herd_init_6 : decode b_Herd_init 6 = .ok (.putfield 9, 3) := by decide +kernel
theorem d_Herd_init_9 : decode b_Herd_init 9 = .ok (.aload_n 0, 1) := by decide +kernel
theorem d_Herd_init_10 : decode b_Herd_init 10 = .ok (.iconst 0, 1) := by decide +kernel
theorem d_Herd_init_11 : decode b_Herd_init 11 = .ok (.putfield 15, 3) := by decide +kernel
theorem d_Herd_init_14 : decode b_Herd_init 14 = .ok (.aload_n 0, 1) := by decide +kernel
theorem d_Herd_init_15 : decode b_Herd_init 15 = .ok (.bipush 12, 2) := by decide +kernel
theorem d_Herd_init_17 : decode b_Herd_init 17 = .ok (.newarray .int, 2) := by decide +kernel
theorem d_Herd_init_19 : decode b_Herd_init 19 = .ok (.putfield 18, 3) := by decide +kernel
theorem d_Herd_init_22 : decode b_Herd_init 22 = .ok (.aload_n 0, 1) := by decide +kernel
theorem d_Herd_init_23 : decode b_Herd_init 23 = .ok (.bipush 8, 2) := by decide +kernel
theorem d_Herd_init_25 : decode b_Herd_init 25 = .ok (.newarray .int, 2) := by decide +kernel
theorem d_Herd_init_27 : decode b_Herd_init 27 = .ok (.putfield 22, 3) := by decide +kernel
theorem d_Herd_init_30 : decode b_Herd_init 30 = .ok (.aload_n 0, 1) := by decide +kernel
theorem d_Herd_init_31 : decode b_Herd_init 31 = .ok (.bipush 12, 2) := by decide +kernel
theorem d_Herd_init_33 : decode b_Herd_init 33 = .ok (.bipush 12, 2) := by decide +kernel
theorem d_Herd_init_35 : decode b_Herd_init 35 = .ok (.multianewarray 25 2, 4) := by decide +kernel
theorem d_Herd_init_39 : decode b_Herd_init 39 = .ok (.putfield 27, 3) := by decide +kernel
theorem d_Herd_init_42 : decode b_Herd_init 42 = .ok (.aload_n 0, 1) := by decide +kernel
theorem d_Herd_init_43 : decode b_Herd_init 43 = .ok (.bipush 12, 2) := by decide +kernel
theorem d_Herd_init_45 : decode b_Herd_init 45 = .ok (.newarray .int, 2) := by decide +kernel
theorem d_Herd_init_47 : decode b_Herd_init 47 = .ok (.putfield 30, 3) := by decide +kernel
theorem d_Herd_init_50 : decode b_Herd_init 50 = .ok (.aload_n 0, 1) := by decide +kernel
theorem d_Herd_init_51 : decode b_Herd_init 51 = .ok (.sipush 1000, 3) := by decide +kernel
theorem d_Herd_init_54 : decode b_Herd_init 54 = .ok (.putfield 33, 3) := by decide +kernel
theorem d_Herd_init_57 : decode b_Herd_init 57 = .ok (.aload_n 0, 1) := by decide +kernel
theorem d_Herd_init_58 : decode b_Herd_init 58 = .ok (.iconst 0, 1) := by decide +kernel
theorem d_Herd_init_59 : decode b_Herd_init 59 = .ok (.putfield 36, 3) := by decide +kernel
theorem d_Herd_init_62 : decode b_Herd_init 62 = .ok (.aload_n 0, 1) := by decide +kernel
theorem d_Herd_init_63 : decode b_Herd_init 63 = .ok (.bipush 8, 2) := by decide +kernel
theorem d_Herd_init_65 : decode b_Herd_init 65 = .ok (.newarray .int, 2) := by decide +kernel
theorem d_Herd_init_67 : decode b_Herd_init 67 = .ok (.putfield 39, 3) := by decide +kernel
theorem d_Herd_init_70 : decode b_Herd_init 70 = .ok (.return_, 1) := by decide +kernel
theorem d_Herd_knows_0 : decode b_Herd_knows 0 = .ok (.iload_n 1, 1) := by decide +kernel
theorem d_Herd_knows_1 : decode b_Herd_knows 1 = .ok (.ifCond .lt 15, 3) := by decide +kernel
theorem d_Herd_knows_4 : decode b_Herd_knows 4 = .ok (.iload_n 1, 1) := by decide +kernel
theorem d_Herd_knows_5 : decode b_Herd_knows 5 = .ok (.aload_n 0, 1) := by decide +kernel
theorem d_Herd_knows_6 : decode b_Herd_knows 6 = .ok (.getfield 9, 3) := by decide +kernel
theorem d_Herd_knows_9 : decode b_Herd_knows 9 = .ok (.if_icmp .ge 7, 3) := by decide +kernel
theorem d_Herd_knows_12 : decode b_Herd_knows 12 = .ok (.iconst 1, 1) := by decide +kernel
theorem d_Herd_knows_13 : decode b_Herd_knows 13 = .ok (.goto 4, 3) := by decide +kernel
theorem d_Herd_knows_16 : decode b_Herd_knows 16 = .ok (.iconst 0, 1) := by decide +kernel
theorem d_Herd_knows_17 : decode b_Herd_knows 17 = .ok (.ireturn, 1) := by decide +kernel
theorem d_Herd_all_0 : decode b_Herd_all 0 = .ok (.aload_n 0, 1) := by decide +kernel
theorem d_Herd_all_1 : decode b_Herd_all 1 = .ok (.getfield 9, 3) := by decide +kernel
theorem d_Herd_all_4 : decode b_Herd_all 4 = .ok (.invokestatic 42, 3) := by decide +kernel
theorem d_Herd_all_7 : decode b_Herd_all 7 = .ok (.iconst 1, 1) := by decide +kernel
theorem d_Herd_all_8 : decode b_Herd_all 8 = .ok (.isub, 1) := by decide +kernel
theorem d_Herd_all_9 : decode b_Herd_all 9 = .ok (.ireturn, 1) := by decide +kernel
theorem d_Herd_add_0 : decode b_Herd_add 0 = .ok (.aload_n 0, 1) := by decide +kernel
theorem d_Herd_add_1 : decode b_Herd_add 1 = .ok (.getfield 9, 3) := by decide +kernel
theorem d_Herd_add_4 : decode b_Herd_add 4 = .ok (.istore 4, 2) := by decide +kernel
theorem d_Herd_add_6 : decode b_Herd_add 6 = .ok (.aload_n 0, 1) := by decide +kernel
theorem d_Herd_add_7 : decode b_Herd_add 7 = .ok (.dup, 1) := by decide +kernel
theorem d_Herd_add_8 : decode b_Herd_add 8 = .ok (.getfield 9, 3) := by decide +kernel
theorem d_Herd_add_11 : decode b_Herd_add 11 = .ok (.iconst 1, 1) := by decide +kernel
theorem d_Herd_add_12 : decode b_Herd_add 12 = .ok (.iadd, 1) := by decide +kernel
theorem d_Herd_add_13 : decode b_Herd_add 13 = .ok (.putfield 9, 3) := by decide +kernel
theorem d_Herd_add_16 : decode b_Herd_add 16 = .ok (.aload_n 0, 1) := by decide +kernel
theorem d_Herd_add_17 : decode b_Herd_add 17 = .ok (.getfield 18, 3) := by decide +kernel
theorem d_Herd_add_20 : decode b_Herd_add 20 = .ok (.iload 4, 2) := by decide +kernel
theorem d_Herd_add_22 : decode b_Herd_add 22 = .ok (.iload_n 2, 1) := by decide +kernel
theorem d_Herd_add_23 : decode b_Herd_add 23 = .ok (.iastore, 1) := by decide +kernel
theorem d_Herd_add_24 : decode b_Herd_add 24 = .ok (.aload_n 0, 1) := by decide +kernel
theorem d_Herd_add_25 : decode b_Herd_add 25 = .ok (.getfield 22, 3) := by decide +kernel
theorem d_Herd_add_28 : decode b_Herd_add 28 = .ok (.iload_n 3, 1) := by decide +kernel
theorem d_Herd_add_29 : decode b_Herd_add 29 = .ok (.dup2, 1) := by decide +kernel
theorem d_Herd_add_30 : decode b_Herd_add 30 = .ok (.iaload, 1) := by decide +kernel
theorem d_Herd_add_31 : decode b_Herd_add 31 = .ok (.iload 4, 2) := by decide +kernel
theorem d_Herd_add_33 : decode b_Herd_add 33 = .ok (.invokestatic 42, 3) := by decide +kernel
theorem d_Herd_add_36 : decode b_Herd_add 36 = .ok (.ior, 1) := by decide +kernel
theorem d_Herd_add_37 : decode b_Herd_add 37 = .ok (.iastore, 1) := by decide +kernel
theorem d_Herd_add_38 : decode b_Herd_add 38 = .ok (.iload_n 1, 1) := by decide +kernel
theorem d_Herd_add_39 : decode b_Herd_add 39 = .ok (.ifCond .ne 17, 3) := by decide +kernel
theorem d_Herd_add_42 : decode b_Herd_add 42 = .ok (.aload_n 0, 1) := by decide +kernel
theorem d_Herd_add_43 : decode b_Herd_add 43 = .ok (.dup, 1) := by decide +kernel
theorem d_Herd_add_44 : decode b_Herd_add 44 = .ok (.getfield 15, 3) := by decide +kernel
theorem d_Herd_add_47 : decode b_Herd_add 47 = .ok (.iload 4, 2) := by decide +kernel
theorem d_Herd_add_49 : decode b_Herd_add 49 = .ok (.invokestatic 42, 3) := by decide +kernel
theorem d_Herd_add_52 : decode b_Herd_add 52 = .ok (.ior, 1) := by decide +kernel
theorem d_Herd_add_53 : decode b_Herd_add 53 = .ok (.putfield 15, 3) := by decide +kernel
theorem d_Herd_add_56 : decode b_Herd_add 56 = .ok (.iload 4, 2) := by decide +kernel
theorem d_Herd_add_58 : decode b_Herd_add 58 = .ok (.ireturn, 1) := by decide +kernel
theorem d_Herd_worthSum_0 : decode b_Herd_worthSum 0 = .ok (.iconst 0, 1) := by decide +kernel
theorem d_Herd_worthSum_1 : decode b_Herd_worthSum 1 = .ok (.istore_n 2, 1) := by decide +kernel
theorem d_Herd_worthSum_2 : decode b_Herd_worthSum 2 = .ok (.iconst 0, 1) := by decide +kernel
theorem d_Herd_worthSum_3 : decode b_Herd_worthSum 3 = .ok (.istore_n 3, 1) := by decide +kernel
theorem d_Herd_worthSum_4 : decode b_Herd_worthSum 4 = .ok (.iload_n 3, 1) := by decide +kernel
theorem d_Herd_worthSum_5 : decode b_Herd_worthSum 5 = .ok (.aload_n 0, 1) := by decide +kernel
theorem d_Herd_worthSum_6 : decode b_Herd_worthSum 6 = .ok (.getfield 9, 3) := by decide +kernel
theorem d_Herd_worthSum_9 : decode b_Herd_worthSum 9 = .ok (.if_icmp .ge 26, 3) := by decide +kernel
theorem d_Herd_worthSum_12 : decode b_Herd_worthSum 12 = .ok (.iload_n 1, 1) := by decide +kernel
theorem d_Herd_worthSum_13 : decode b_Herd_worthSum 13 = .ok (.iload_n 3, 1) := by decide +kernel
theorem d_Herd_worthSum_14 : decode b_Herd_worthSum 14 = .ok (.invokestatic 46, 3) := by decide +kernel
theorem d_Herd_worthSum_17 : decode b_Herd_worthSum 17 = .ok (.ifCond .eq 12, 3) := by decide +kernel
theorem d_Herd_worthSum_20 : decode b_Herd_worthSum 20 = .ok (.iload_n 2, 1) := by decide +kernel
theorem d_Herd_worthSum_21 : decode b_Herd_worthSum 21 = .ok (.aload_n 0, 1) := by decide +kernel
theorem d_Herd_worthSum_22 : decode b_Herd_worthSum 22 = .ok (.getfield 18, 3) := by decide +kernel
theorem d_Herd_worthSum_25 : decode b_Herd_worthSum 25 = .ok (.iload_n 3, 1) := by decide +kernel
theorem d_Herd_worthSum_26 : decode b_Herd_worthSum 26 = .ok (.iaload, 1) := by decide +kernel
theorem d_Herd_worthSum_27 : decode b_Herd_worthSum 27 = .ok (.iadd, 1) := by decide +kernel
theorem d_Herd_worthSum_28 : decode b_Herd_worthSum 28 = .ok (.istore_n 2, 1) := by decide +kernel
theorem d_Herd_worthSum_29 : decode b_Herd_worthSum 29 = .ok (.iinc 3 1, 3) := by decide +kernel
theorem d_Herd_worthSum_32 : decode b_Herd_worthSum 32 = .ok (.goto (-28), 3) := by decide +kernel
theorem d_Herd_worthSum_35 : decode b_Herd_worthSum 35 = .ok (.iload_n 2, 1) := by decide +kernel
theorem d_Herd_worthSum_36 : decode b_Herd_worthSum 36 = .ok (.ireturn, 1) := by decide +kernel
theorem d_Herd_kinSum_0 : decode b_Herd_kinSum 0 = .ok (.iconst 0, 1) := by decide +kernel
theorem d_Herd_kinSum_1 : decode b_Herd_kinSum 1 = .ok (.istore_n 2, 1) := by decide +kernel
theorem d_Herd_kinSum_2 : decode b_Herd_kinSum 2 = .ok (.iconst 0, 1) := by decide +kernel
theorem d_Herd_kinSum_3 : decode b_Herd_kinSum 3 = .ok (.istore_n 3, 1) := by decide +kernel
theorem d_Herd_kinSum_4 : decode b_Herd_kinSum 4 = .ok (.iload_n 3, 1) := by decide +kernel
theorem d_Herd_kinSum_5 : decode b_Herd_kinSum 5 = .ok (.aload_n 0, 1) := by decide +kernel
