theorem d_M_run_59 : decode b_M_run 59 = .ok (.putfield 79, 3) := by decide +kernel
theorem d_M_run_62 : decode b_M_run 62 = .ok (.iconst 0, 1) := by decide +kernel
theorem d_M_run_63 : decode b_M_run 63 = .ok (.istore_n 2, 1) := by decide +kernel
theorem d_M_run_64 : decode b_M_run 64 = .ok (.iconst 0, 1) := by decide +kernel
theorem d_M_run_65 : decode b_M_run 65 = .ok (.istore_n 3, 1) := by decide +kernel
theorem d_M_run_66 : decode b_M_run 66 = .ok (.iload_n 3, 1) := by decide +kernel
theorem d_M_run_67 : decode b_M_run 67 = .ok (.iload_n 1, 1) := by decide +kernel
theorem d_M_run_68 : decode b_M_run 68 = .ok (.if_icmp .ge 108, 3) := by decide +kernel
theorem d_M_run_71 : decode b_M_run 71 = .ok (.iconst 0, 1) := by decide +kernel
theorem d_M_run_72 : decode b_M_run 72 = .ok (.istore 4, 2) := by decide +kernel
theorem d_M_run_74 : decode b_M_run 74 = .ok (.iload_n 2, 1) := by decide +kernel
theorem d_M_run_75 : decode b_M_run 75 = .ok (.iload 4, 2) := by decide +kernel
theorem d_M_run_77 : decode b_M_run 77 = .ok (.ishr, 1) := by decide +kernel
theorem d_M_run_78 : decode b_M_run 78 = .ok (.iconst 1, 1) := by decide +kernel
theorem d_M_run_79 : decode b_M_run 79 = .ok (.iand, 1) := by decide +kernel
theorem d_M_run_80 : decode b_M_run 80 = .ok (.iconst 1, 1) := by decide +kernel
theorem d_M_run_81 : decode b_M_run 81 = .ok (.if_icmp .eq 44, 3) := by decide +kernel
theorem d_M_run_84 : decode b_M_run 84 = .ok (.aload_n 0, 1) := by decide +kernel
theorem d_M_run_85 : decode b_M_run 85 = .ok (.getfield 22, 3) := by decide +kernel
theorem d_M_run_88 : decode b_M_run 88 = .ok (.bipush 12, 2) := by decide +kernel
theorem d_M_run_90 : decode b_M_run 90 = .ok (.aload_n 0, 1) := by decide +kernel
theorem d_M_run_91 : decode b_M_run 91 = .ok (.getfield 36, 3) := by decide +kernel
theorem d_M_run_94 : decode b_M_run 94 = .ok (.iload_n 3, 1) := by decide +kernel
theorem d_M_run_95 : decode b_M_run 95 = .ok (.iaload, 1) := by decide +kernel
theorem d_M_run_96 : decode b_M_run 96 = .ok (.imul, 1) := by decide +kernel
theorem d_M_run_97 : decode b_M_run 97 = .ok (.aload_n 0, 1) := by decide +kernel
theorem d_M_run_98 : decode b_M_run 98 = .ok (.getfield 39, 3) := by decide +kernel
theorem d_M_run_101 : decode b_M_run 101 = .ok (.iload 4, 2) := by decide +kernel
theorem d_M_run_103 : decode b_M_run 103 = .ok (.iaload, 1) := by decide +kernel
theorem d_M_run_104 : decode b_M_run 104 = .ok (.iadd, 1) := by decide +kernel
theorem d_M_run_105 : decode b_M_run 105 = .ok (.baload, 1) := by decide +kernel
theorem d_M_run_106 : decode b_M_run 106 = .ok (.ifCond .ne 19, 3) := by decide +kernel
theorem d_M_run_109 : decode b_M_run 109 = .ok (.aload_n 0, 1) := by decide +kernel
theorem d_M_run_110 : decode b_M_run 110 = .ok (.iload_n 3, 1) := by decide +kernel
theorem d_M_run_111 : decode b_M_run 111 = .ok (.iconst 1, 1) := by decide +kernel
theorem d_M_run_112 : decode b_M_run 112 = .ok (.iadd, 1) := by decide +kernel
theorem d_M_run_113 : decode b_M_run 113 = .ok (.iload_n 2, 1) := by decide +kernel
theorem d_M_run_114 : decode b_M_run 114 = .ok (.iconst 1, 1) := by decide +kernel
theorem d_M_run_115 : decode b_M_run 115 = .ok (.iload 4, 2) := by decide +kernel
theorem d_M_run_117 : decode b_M_run 117 = .ok (.ishl, 1) := by decide +kernel
theorem d_M_run_118 : decode b_M_run 118 = .ok (.ior, 1) := by decide +kernel
theorem d_M_run_119 : decode b_M_run 119 = .ok (.invokevirtual 121, 3) := by decide +kernel
theorem d_M_run_122 : decode b_M_run 122 = .ok (.ifCond .ne 9, 3) := by decide +kernel
theorem d_M_run_125 : decode b_M_run 125 = .ok (.iinc 4 1, 3) := by decide +kernel
theorem d_M_run_128 : decode b_M_run 128 = .ok (.goto (-54), 3) := by decide +kernel
theorem d_M_run_131 : decode b_M_run 131 = .ok (.iload_n 2, 1) := by decide +kernel
theorem d_M_run_132 : decode b_M_run 132 = .ok (.iconst 1, 1) := by decide +kernel
theorem d_M_run_133 : decode b_M_run 133 = .ok (.iload 4, 2) := by decide +kernel
theorem d_M_run_135 : decode b_M_run 135 = .ok (.ishl, 1) := by decide +kernel
theorem d_M_run_136 : decode b_M_run 136 = .ok (.ior, 1) := by decide +kernel
theorem d_M_run_137 : decode b_M_run 137 = .ok (.istore_n 2, 1) := by decide +kernel
theorem d_M_run_138 : decode b_M_run 138 = .ok (.aload_n 0, 1) := by decide +kernel
theorem d_M_run_139 : decode b_M_run 139 = .ok (.getfield 48, 3) := by decide +kernel
theorem d_M_run_142 : decode b_M_run 142 = .ok (.iload_n 3, 1) := by decide +kernel
theorem d_M_run_143 : decode b_M_run 143 = .ok (.aload_n 0, 1) := by decide +kernel
theorem d_M_run_144 : decode b_M_run 144 = .ok (.getfield 36, 3) := by decide +kernel
theorem d_M_run_147 : decode b_M_run 147 = .ok (.iload_n 3, 1) := by decide +kernel
theorem d_M_run_148 : decode b_M_run 148 = .ok (.iaload, 1) := by decide +kernel
theorem d_M_run_149 : decode b_M_run 149 = .ok (.iastore, 1) := by decide +kernel
theorem d_M_run_150 : decode b_M_run 150 = .ok (.aload_n 0, 1) := by decide +kernel
theorem d_M_run_151 : decode b_M_run 151 = .ok (.getfield 51, 3) := by decide +kernel
theorem d_M_run_154 : decode b_M_run 154 = .ok (.iload_n 3, 1) := by decide +kernel
theorem d_M_run_155 : decode b_M_run 155 = .ok (.aload_n 0, 1) := by decide +kernel
theorem d_M_run_156 : decode b_M_run 156 = .ok (.getfield 39, 3) := by decide +kernel
theorem d_M_run_159 : decode b_M_run 159 = .ok (.iload 4, 2) := by decide +kernel
theorem d_M_run_161 : decode b_M_run 161 = .ok (.iaload, 1) := by decide +kernel
theorem d_M_run_162 : decode b_M_run 162 = .ok (.iastore, 1) := by decide +kernel
theorem d_M_run_163 : decode b_M_run 163 = .ok (.aload_n 0, 1) := by decide +kernel
theorem d_M_run_164 : decode b_M_run 164 = .ok (.getfield 54, 3) := by decide +kernel
theorem d_M_run_167 : decode b_M_run 167 = .ok (.iload_n 3, 1) := by decide +kernel
theorem d_M_run_168 : decode b_M_run 168 = .ok (.iconst 0, 1) := by decide +kernel
theorem d_M_run_169 : decode b_M_run 169 = .ok (.iastore, 1) := by decide +kernel
theorem d_M_run_170 : decode b_M_run 170 = .ok (.iinc 3 1, 3) := by decide +kernel
theorem d_M_run_173 : decode b_M_run 173 = .ok (.goto (-107), 3) := by decide +kernel
theorem d_M_run_176 : decode b_M_run 176 = .ok (.iload_n 1, 1) := by decide +kernel
theorem d_M_run_177 : decode b_M_run 177 = .ok (.ireturn, 1) := by decide +kernel
theorem d_M_pairOf_0 : decode b_M_pairOf 0 = .ok (.iload_n 1, 1) := by decide +kernel
theorem d_M_pairOf_1 : decode b_M_pairOf 1 = .ok (.iconst 0, 1) := by decide +kernel
theorem d_M_pairOf_2 : decode b_M_pairOf 2 = .ok (.aload_n 0, 1) := by decide +kernel
theorem d_M_pairOf_3 : decode b_M_pairOf 3 = .ok (.getfield 79, 3) := by decide +kernel
theorem d_M_pairOf_6 : decode b_M_pairOf 6 = .ok (.iconst 1, 1) := by decide +kernel
theorem d_M_pairOf_7 : decode b_M_pairOf 7 = .ok (.isub, 1) := by decide +kernel
theorem d_M_pairOf_8 : decode b_M_pairOf 8 = .ok (.invokestatic 75, 3) := by decide +kernel
theorem d_M_pairOf_11 : decode b_M_pairOf 11 = .ok (.ifCond .ne 7, 3) := by decide +kernel
theorem d_M_pairOf_14 : decode b_M_pairOf 14 = .ok (.iconst (-1), 1) := by decide +kernel
theorem d_M_pairOf_15 : decode b_M_pairOf 15 = .ok (.goto 36, 3) := by decide +kernel
theorem d_M_pairOf_18 : decode b_M_pairOf 18 = .ok (.iload_n 2, 1) := by decide +kernel
theorem d_M_pairOf_19 : decode b_M_pairOf 19 = .ok (.iconst 0, 1) := by decide +kernel
theorem d_M_pairOf_20 : decode b_M_pairOf 20 = .ok (.iconst 1, 1) := by decide +kernel
theorem d_M_pairOf_21 : decode b_M_pairOf 21 = .ok (.invokestatic 75, 3) := by decide +kernel
theorem d_M_pairOf_24 : decode b_M_pairOf 24 = .ok (.ifCond .ne 8, 3) := by decide +kernel
theorem d_M_pairOf_27 : decode b_M_pairOf 27 = .ok (.bipush (-2), 2) := by decide +kernel
theorem d_M_pairOf_29 : decode b_M_pairOf 29 = .ok (.goto 22, 3) := by decide +kernel
theorem d_M_pairOf_32 : decode b_M_pairOf 32 = .ok (.iload_n 2, 1) := by decide +kernel
theorem d_M_pairOf_33 : decode b_M_pairOf 33 = .ok (.ifCond .ne 12, 3) := by decide +kernel
theorem d_M_pairOf_36 : decode b_M_pairOf 36 = .ok (.aload_n 0, 1) := by decide +kernel
theorem d_M_pairOf_37 : decode b_M_pairOf 37 = .ok (.getfield 48, 3) := by decide +kernel
theorem d_M_pairOf_40 : decode b_M_pairOf 40 = .ok (.iload_n 1, 1) := by decide +kernel
theorem d_M_pairOf_41 : decode b_M_pairOf 41 = .ok (.iaload, 1) := by decide +kernel
theorem d_M_pairOf_42 : decode b_M_pairOf 42 = .ok (.goto 9, 3) := by decide +kernel
theorem d_M_pairOf_45 : decode b_M_pairOf 45 = .ok (.aload_n 0, 1) := by decide +kernel
theorem d_M_pairOf_46 : decode b_M_pairOf 46 = .ok (.getfield 51, 3) := by decide +kernel
theorem d_M_pairOf_49 : decode b_M_pairOf 49 = .ok (.iload_n 1, 1) := by decide +kernel
theorem d_M_pairOf_50 : decode b_M_pairOf 50 = .ok (.iaload, 1) := by decide +kernel
theorem d_M_pairOf_51 : decode b_M_pairOf 51 = .ok (.ireturn, 1) := by decide +kernel
theorem d_M_told_0 : decode b_M_told 0 = .ok (.iload_n 1, 1) := by decide +kernel
theorem d_M_told_1 : decode b_M_told 1 = .ok (.iconst 0, 1) := by decide +kernel
theorem d_M_told_2 : decode b_M_told 2 = .ok (.iconst 3, 1) := by decide +kernel
theorem d_M_told_3 : decode b_M_told 3 = .ok (.invokestatic 75, 3) := by decide +kernel
theorem d_M_told_6 : decode b_M_told 6 = .ok (.ifCond .ne 6, 3) := by decide +kernel
theorem d_M_told_9 : decode b_M_told 9 = .ok (.bipush (-2), 2) := by decide +kernel
theorem d_M_told_11 : decode b_M_told 11 = .ok (.ireturn, 1) := by decide +kernel
theorem d_M_told_12 : decode b_M_told 12 = .ok (.aload_n 0, 1) := by decide +kernel
theorem d_M_told_13 : decode b_M_told 13 = .ok (.getfield 79, 3) := by decide +kernel
theorem d_M_told_16 : decode b_M_told 16 = .ok (.ifCond .ne 6, 3) := by decide +kernel
theorem d_M_told_19 : decode b_M_told 19 = .ok (.bipush (-3), 2) := by decide +kernel
theorem d_M_told_21 : decode b_M_told 21 = .ok (.ireturn, 1) := by decide +kernel
theorem d_M_told_22 : decode b_M_told 22 = .ok (.iload_n 1, 1) := by decide +kernel
theorem d_M_told_23 : decode b_M_told 23 = .ok (.ifCond .ne 14, 3) := by decide +kernel
theorem d_M_told_26 : decode b_M_told 26 = .ok (.aload_n 0, 1) := by decide +kernel
theorem d_M_told_27 : decode b_M_told 27 = .ok (.aload_n 0, 1) := by decide +kernel
theorem d_M_told_28 : decode b_M_told 28 = .ok (.getfield 134, 3) := by decide +kernel
theorem d_M_told_31 : decode b_M_told 31 = .ok (.invokevirtual 124, 3) := by decide +kernel
theorem d_M_told_34 : decode b_M_told 34 = .ok (.goto 35, 3) := by decide +kernel
theorem d_M_told_37 : decode b_M_told 37 = .ok (.iload_n 1, 1) := by decide +kernel
theorem d_M_told_38 : decode b_M_told 38 = .ok (.iconst 1, 1) := by decide +kernel
theorem d_M_told_39 : decode b_M_told 39 = .ok (.if_icmp .ne 14, 3) := by decide +kernel
theorem d_M_told_42 : decode b_M_told 42 = .ok (.aload_n 0, 1) := by decide +kernel
theorem d_M_told_43 : decode b_M_told 43 = .ok (.aload_n 0, 1) := by decide +kernel
theorem d_M_told_44 : decode b_M_told 44 = .ok (.getfield 134, 3) := by decide +kernel
theorem d_M_told_47 : decode b_M_told 47 = .ok (.invokevirtual 95, 3) := by decide +kernel
theorem d_M_told_50 : decode b_M_told 50 = .ok (.goto 19, 3) := by decide +kernel
theorem d_M_told_53 : decode b_M_told 53 = .ok (.iload_n 1, 1) := by decide +kernel
theorem d_M_told_54 : decode b_M_told 54 = .ok (.iconst 2, 1) := by decide +kernel
theorem d_M_told_55 : decode b_M_told 55 = .ok (.if_icmp .ne 10, 3) := by decide +kernel
theorem d_M_told_58 : decode b_M_told 58 = .ok (.aload_n 0, 1) := by decide +kernel
theorem d_M_told_59 : decode b_M_told 59 = .ok (.getfield 79, 3) := by decide +kernel
theorem d_M_told_62 : decode b_M_told 62 = .ok (.goto 7, 3) := by decide +kernel
theorem d_M_told_65 : decode b_M_told 65 = .ok (.aload_n 0, 1) := by decide +kernel
theorem d_M_told_66 : decode b_M_told 66 = .ok (.getfield 137, 3) := by decide +kernel
theorem d_M_told_69 : decode b_M_told 69 = .ok (.ireturn, 1) := by decide +kernel
theorem d_M_pairWorth_0 : decode b_M_pairWorth 0 = .ok (.aload_n 0, 1) := by decide +kernel
theorem d_M_pairWorth_1 : decode b_M_pairWorth 1 = .ok (.getfield 13, 3) := by decide +kernel
theorem d_M_pairWorth_4 : decode b_M_pairWorth 4 = .ok (.aload_n 0, 1) := by decide +kernel
theorem d_M_pairWorth_5 : decode b_M_pairWorth 5 = .ok (.getfield 48, 3) := by decide +kernel
theorem d_M_pairWorth_8 : decode b_M_pairWorth 8 = .ok (.iload_n 1, 1) := by decide +kernel
theorem d_M_pairWorth_9 : decode b_M_pairWorth 9 = .ok (.iaload, 1) := by decide +kernel
theorem d_M_pairWorth_10 : decode b_M_pairWorth 10 = .ok (.iaload, 1) := by decide +kernel
theorem d_M_pairWorth_11 : decode b_M_pairWorth 11 = .ok (.aload_n 0, 1) := by decide +kernel
theorem d_M_pairWorth_12 : decode b_M_pairWorth 12 = .ok (.getfield 13, 3) := by decide +kernel
theorem d_M_pairWorth_15 : decode b_M_pairWorth 15 = .ok (.aload_n 0, 1) := by decide +kernel
theorem d_M_pairWorth_16 : decode b_M_pairWorth 16 = .ok (.getfield 51, 3) := by decide +kernel
theorem d_M_pairWorth_19 : decode b_M_pairWorth 19 = .ok (.iload_n 1, 1) := by decide +kernel
theorem d_M_pairWorth_20 : decode b_M_pairWorth 20 = .ok (.iaload, 1) := by decide +kernel
theorem d_M_pairWorth_21 : decode b_M_pairWorth 21 = .ok (.iaload, 1) := by decide +kernel
theorem d_M_pairWorth_22 : decode b_M_pairWorth 22 = .ok (.iadd, 1) := by decide +kernel
theorem d_M_pairWorth_23 : decode b_M_pairWorth 23 = .ok (.ireturn, 1) := by decide +kernel
theorem d_M_eggs_0 : decode b_M_eggs 0 = .ok (.iload_n 1, 1) := by decide +kernel
theorem d_M_eggs_1 : decode b_M_eggs 1 = .ok (.iconst 0, 1) := by decide +kernel
theorem d_M_eggs_2 : decode b_M_eggs 2 = .ok (.ldc 140, 2) := by decide +kernel
theorem d_M_eggs_4 : decode b_M_eggs 4 = .ok (.invokestatic 75, 3) := by decide +kernel
theorem d_M_eggs_7 : decode b_M_eggs 7 = .ok (.ifCond .ne 6, 3) := by decide +kernel
theorem d_M_eggs_10 : decode b_M_eggs 10 = .ok (.bipush (-2), 2) := by decide +kernel
theorem d_M_eggs_12 : decode b_M_eggs 12 = .ok (.ireturn, 1) := by decide +kernel
theorem d_M_eggs_13 : decode b_M_eggs 13 = .ok (.aload_n 0, 1) := by decide +kernel
theorem d_M_eggs_14 : decode b_M_eggs 14 = .ok (.getfield 79, 3) := by decide +kernel
theorem d_M_eggs_17 : decode b_M_eggs 17 = .ok (.ifCond .ne 6, 3) := by decide +kernel
theorem d_M_eggs_20 : decode b_M_eggs 20 = .ok (.bipush (-3), 2) := by decide +kernel
theorem d_M_eggs_22 : decode b_M_eggs 22 = .ok (.ireturn, 1) := by decide +kernel
theorem d_M_eggs_23 : decode b_M_eggs 23 = .ok (.aload_n 0, 1) := by decide +kernel
theorem d_M_eggs_24 : decode b_M_eggs 24 = .ok (.iconst 0, 1) := by decide +kernel
theorem d_M_eggs_25 : decode b_M_eggs 25 = .ok (.invokevirtual 141, 3) := by decide +kernel
theorem d_M_eggs_28 : decode b_M_eggs 28 = .ok (.istore_n 2, 1) := by decide +kernel
theorem d_M_eggs_29 : decode b_M_eggs 29 = .ok (.iconst 1, 1) := by decide +kernel
theorem d_M_eggs_30 : decode b_M_eggs 30 = .ok (.istore_n 3, 1) := by decide +kernel
theorem d_M_eggs_31 : decode b_M_eggs 31 = .ok (.iload_n 3, 1) := by decide +kernel
theorem d_M_eggs_32 : decode b_M_eggs 32 = .ok (.aload_n 0, 1) := by decide +kernel
theorem d_M_eggs_33 : decode b_M_eggs 33 = .ok (.getfield 79, 3) := by decide +kernel
theorem d_M_eggs_36 : decode b_M_eggs 36 = .ok (.if_icmp .ge 28, 3) := by decide +kernel
theorem d_M_eggs_39 : decode b_M_eggs 39 = .ok (.aload_n 0, 1) := by decide +kernel
theorem d_M_eggs_40 : decode b_M_eggs 40 = .ok (.iload_n 3, 1) := by decide +kernel
theorem d_M_eggs_41 : decode b_M_eggs 41 = .ok (.invokevirtual 141, 3) := by decide +kernel
theorem d_M_eggs_44 : decode b_M_eggs 44 = .ok (.iload_n 2, 1) := by decide +kernel
theorem d_M_eggs_45 : decode b_M_eggs 45 = .ok (.if_icmp .ge 11, 3) := by decide +kernel
theorem d_M_eggs_48 : decode b_M_eggs 48 = .ok (.aload_n 0, 1) := by decide +kernel
theorem d_M_eggs_49 : decode b_M_eggs 49 = .ok (.iload_n 3, 1) := by decide +kernel
theorem d_M_eggs_50 : decode b_M_eggs 50 = .ok (.invokevirtual 141, 3) := by decide +kernel
theorem d_M_eggs_53 : decode b_M_eggs 53 = .ok (.goto 4, 3) := by decide +kernel
theorem d_M_eggs_56 : decode b_M_eggs 56 = .ok (.iload_n 2, 1) := by decide +kernel
theorem d_M_eggs_57 : decode b_M_eggs 57 = .ok (.istore_n 2, 1) := by decide +kernel
theorem d_M_eggs_58 : decode b_M_eggs 58 = .ok (.iinc 3 1, 3) := by decide +kernel
theorem d_M_eggs_61 : decode b_M_eggs 61 = .ok (.goto (-30), 3) := by decide +kernel
theorem d_M_eggs_64 : decode b_M_eggs 64 = .ok (.lconst 0, 1) := by decide +kernel
theorem d_M_eggs_65 : decode b_M_eggs 65 = .ok (.lstore_n 3, 1) := by decide +kernel
theorem d_M_eggs_66 : decode b_M_eggs 66 = .ok (.iconst 0, 1) := by decide +kernel
theorem d_M_eggs_67 : decode b_M_eggs 67 = .ok (.istore 5, 2) := by decide +kernel
theorem d_M_eggs_69 : decode b_M_eggs 69 = .ok (.iload 5, 2) := by decide +kernel
theorem d_M_eggs_71 : decode b_M_eggs 71 = .ok (.aload_n 0, 1) := by decide +kernel
theorem d_M_eggs_72 : decode b_M_eggs 72 = .ok (.getfield 79, 3) := by decide +kernel
theorem d_M_eggs_75 : decode b_M_eggs 75 = .ok (.if_icmp .ge 37, 3) := by decide +kernel
theorem d_M_eggs_78 : decode b_M_eggs 78 = .ok (.aload_n 0, 1) := by decide +kernel
theorem d_M_eggs_79 : decode b_M_eggs 79 = .ok (.getfield 57, 3) := by decide +kernel
theorem d_M_eggs_82 : decode b_M_eggs 82 = .ok (.iload 5, 2) := by decide +kernel
theorem d_M_eggs_84 : decode b_M_eggs 84 = .ok (.aload_n 0, 1) := by decide +kernel
theorem d_M_eggs_85 : decode b_M_eggs 85 = .ok (.iload 5, 2) := by decide +kernel
theorem d_M_eggs_87 : decode b_M_eggs 87 = .ok (.invokevirtual 141, 3) := by decide +kernel
theorem d_M_eggs_90 : decode b_M_eggs 90 = .ok (.iload_n 2, 1) := by decide +kernel
theorem d_M_eggs_91 : decode b_M_eggs 91 = .ok (.isub, 1) := by decide +kernel
theorem d_M_eggs_92 : decode b_M_eggs 92 = .ok (.iconst 1, 1) := by decide +kernel
theorem d_M_eggs_93 : decode b_M_eggs 93 = .ok (.iadd, 1) := by decide +kernel
theorem d_M_eggs_94 : decode b_M_eggs 94 = .ok (.iastore, 1) := by decide +kernel
theorem d_M_eggs_95 : decode b_M_eggs 95 = .ok (.lload_n 3, 1) := by decide +kernel
theorem d_M_eggs_96 : decode b_M_eggs 96 = .ok (.aload_n 0, 1) := by decide +kernel
theorem d_M_eggs_97 : decode b_M_eggs 97 = .ok (.getfield 57, 3) := by decide +kernel
theorem d_M_eggs_100 : decode b_M_eggs 100 = .ok (.iload 5, 2) := by decide +kernel
theorem d_M_eggs_102 : decode b_M_eggs 102 = .ok (.iaload, 1) := by decide +kernel
theorem d_M_eggs_103 : decode b_M_eggs 103 = .ok (.i2l, 1) := by decide +kernel
theorem d_M_eggs_104 : decode b_M_eggs 104 = .ok (.ladd, 1) := by decide +kernel
theorem d_M_eggs_105 : decode b_M_eggs 105 = .ok (.lstore_n 3, 1) := by decide +kernel
theorem d_M_eggs_106 : decode b_M_eggs 106 = .ok (.iinc 5 1, 3) := by decide +kernel
theorem d_M_eggs_109 : decode b_M_eggs 109 = .ok (.goto (-40), 3) := by decide +kernel
theorem d_M_eggs_112 : decode b_M_eggs 112 = .ok (.iload_n 1, 1) := by decide +kernel
theorem d_M_eggs_113 : decode b_M_eggs 113 = .ok (.istore 5, 2) := by decide +kernel
theorem d_M_eggs_115 : decode b_M_eggs 115 = .ok (.iconst 0, 1) := by decide +kernel
theorem d_M_eggs_116 : decode b_M_eggs 116 = .ok (.istore 6, 2) := by decide +kernel
theorem d_M_eggs_118 : decode b_M_eggs 118 = .ok (.iload 6, 2) := by decide +kernel
theorem d_M_eggs_120 : decode b_M_eggs 120 = .ok (.aload_n 0, 1) := by decide +kernel
theorem d_M_eggs_121 : decode b_M_eggs 121 = .ok (.getfield 79, 3) := by decide +kernel
theorem d_M_eggs_124 : decode b_M_eggs 124 = .ok (.if_icmp .ge 63, 3) := by decide +kernel
theorem d_M_eggs_127 : decode b_M_eggs 127 = .ok (.aload_n 0, 1) := by decide +kernel
theorem d_M_eggs_128 : decode b_M_eggs 128 = .ok (.getfield 54, 3) := by decide +kernel
theorem d_M_eggs_131 : decode b_M_eggs 131 = .ok (.iload 6, 2) := by decide +kernel
theorem d_M_eggs_133 : decode b_M_eggs 133 = .ok (.iload_n 1, 1) := by decide +kernel
theorem d_M_eggs_134 : decode b_M_eggs 134 = .ok (.i2l, 1) := by decide +kernel
theorem d_M_eggs_135 : decode b_M_eggs 135 = .ok (.aload_n 0, 1) := by decide +kernel
theorem d_M_eggs_136 : decode b_M_eggs 136 = .ok (.getfield 57, 3) := by decide +kernel
theorem d_M_eggs_139 : decode b_M_eggs 139 = .ok (.iload 6, 2) := by decide +kernel
theorem d_M_eggs_141 : decode b_M_eggs 141 = .ok (.iaload, 1) := by decide +kernel
theorem d_M_eggs_142 : decode b_M_eggs 142 = .ok (.i2l, 1) := by decide +kernel
theorem d_M_eggs_143 : decode b_M_eggs 143 = .ok (.lmul, 1) := by decide +kernel
theorem d_M_eggs_144 : decode b_M_eggs 144 = .ok (.lload_n 3, 1) := by decide +kernel
theorem d_M_eggs_145 : decode b_M_eggs 145 = .ok (.ldiv, 1) := by decide +kernel
theorem d_M_eggs_146 : decode b_M_eggs 146 = .ok (.l2i, 1) := by decide +kernel
theorem d_M_eggs_147 : decode b_M_eggs 147 = .ok (.iastore, 1) := by decide +kernel
theorem d_M_eggs_148 : decode b_M_eggs 148 = .ok (.aload_n 0, 1) := by decide +kernel
theorem d_M_eggs_149 : decode b_M_eggs 149 = .ok (.getfield 60, 3) := by decide +kernel
theorem d_M_eggs_152 : decode b_M_eggs 152 = .ok (.iload 6, 2) := by decide +kernel
theorem d_M_eggs_154 : decode b_M_eggs 154 = .ok (.iload_n 1, 1) := by decide +kernel
theorem d_M_eggs_155 : decode b_M_eggs 155 = .ok (.i2l, 1) := by decide +kernel
theorem d_M_eggs_156 : decode b_M_eggs 156 = .ok (.aload_n 0, 1) := by decide +kernel
theorem d_M_eggs_157 : decode b_M_eggs 157 = .ok (.getfield 57, 3) := by decide +kernel
theorem d_M_eggs_160 : decode b_M_eggs 160 = .ok (.iload 6, 2) := by decide +kernel
theorem d_M_eggs_162 : decode b_M_eggs 162 = .ok (.iaload, 1) := by decide +kernel
theorem d_M_eggs_163 : decode b_M_eggs 163 = .ok (.i2l, 1) := by decide +kernel
theorem d_M_eggs_164 : decode b_M_eggs 164 = .ok (.lmul, 1) := by decide +kernel
theorem d_M_eggs_165 : decode b_M_eggs 165 = .ok (.lload_n 3, 1) := by decide +kernel
theorem d_M_eggs_166 : decode b_M_eggs 166 = .ok (.lrem, 1) := by decide +kernel
theorem d_M_eggs_167 : decode b_M_eggs 167 = .ok (.l2i, 1) := by decide +kernel
theorem d_M_eggs_168 : decode b_M_eggs 168 = .ok (.iastore, 1) := by decide +kernel
theorem d_M_eggs_169 : decode b_M_eggs 169 = .ok (.iload 5, 2) := by decide +kernel
theorem d_M_eggs_171 : decode b_M_eggs 171 = .ok (.aload_n 0, 1) := by decide +kernel
theorem d_M_eggs_172 : decode b_M_eggs 172 = .ok (.getfield 54, 3) := by decide +kernel
theorem d_M_eggs_175 : decode b_M_eggs 175 = .ok (.iload 6, 2) := by decide +kernel
theorem d_M_eggs_177 : decode b_M_eggs 177 = .ok (.iaload, 1) := by decide +kernel
theorem d_M_eggs_178 : decode b_M_eggs 178 = .ok (.isub, 1) := by decide +kernel
theorem d_M_eggs_179 : decode b_M_eggs 179 = .ok (.istore 5, 2) := by decide +kernel
theorem d_M_eggs_181 : decode b_M_eggs 181 = .ok (.iinc 6 1, 3) := by decide +kernel
theorem d_M_eggs_184 : decode b_M_eggs 184 = .ok (.goto (-66), 3) := by decide +kernel
theorem d_M_eggs_187 : decode b_M_eggs 187 = .ok (.iload 5, 2) := by decide +kernel
theorem d_M_eggs_189 : decode b_M_eggs 189 = .ok (.ifCond .le 75, 3) := by decide +kernel
theorem d_M_eggs_192 : decode b_M_eggs 192 = .ok (.iconst 0, 1) := by decide +kernel
theorem d_M_eggs_193 : decode b_M_eggs 193 = .ok (.istore 6, 2) := by decide +kernel
theorem d_M_eggs_195 : decode b_M_eggs 195 = .ok (.iconst 1, 1) := by decide +kernel
theorem d_M_eggs_196 : decode b_M_eggs 196 = .ok (.istore 7, 2) := by decide +kernel
theorem d_M_eggs_198 : decode b_M_eggs 198 = .ok (.iload 7, 2) := by decide +kernel
theorem d_M_eggs_200 : decode b_M_eggs 200 = .ok (.aload_n 0, 1) := by decide +kernel
theorem d_M_eggs_201 : decode b_M_eggs 201 = .ok (.getfield 79, 3) := by decide +kernel
theorem d_M_eggs_204 : decode b_M_eggs 204 = .ok (.if_icmp .ge 35, 3) := by decide +kernel
theorem d_M_eggs_207 : decode b_M_eggs 207 = .ok (.aload_n 0, 1) := by decide +kernel
theorem d_M_eggs_208 : decode b_M_eggs 208 = .ok (.getfield 60, 3) := by decide +kernel
theorem d_M_eggs_211 : decode b_M_eggs 211 = .ok (.iload 7, 2) := by decide +kernel
theorem d_M_eggs_213 : decode b_M_eggs 213 = .ok (.iaload, 1) := by decide +kernel
theorem d_M_eggs_214 : decode b_M_eggs 214 = .ok (.aload_n 0, 1) := by decide +kernel
theorem d_M_eggs_215 : decode b_M_eggs 215 = .ok (.getfield 60, 3) := by decide +kernel
theorem d_M_eggs_218 : decode b_M_eggs 218 = .ok (.iload 6, 2) := by decide +kernel
theorem d_M_eggs_220 : decode b_M_eggs 220 = .ok (.iaload, 1) := by decide +kernel
theorem d_M_eggs_221 : decode b_M_eggs 221 = .ok (.if_icmp .le 8, 3) := by decide +kernel
theorem d_M_eggs_224 : decode b_M_eggs 224 = .ok (.iload 7, 2) := by decide +kernel
theorem d_M_eggs_226 : decode b_M_eggs 226 = .ok (.goto 5, 3) := by decide +kernel
theorem d_M_eggs_229 : decode b_M_eggs 229 = .ok (.iload 6, 2) := by decide +kernel
theorem d_M_eggs_231 : decode b_M_eggs 231 = .ok (.istore 6, 2) := by decide +kernel
theorem d_M_eggs_233 : decode b_M_eggs 233 = .ok (.iinc 7 1, 3) := by decide +kernel
theorem d_M_eggs_236 : decode b_M_eggs 236 = .ok (.goto (-38), 3) := by decide +kernel
theorem d_M_eggs_239 : decode b_M_eggs 239 = .ok (.aload_n 0, 1) := by decide +kernel
theorem d_M_eggs_240 : decode b_M_eggs 240 = .ok (.getfield 54, 3) := by decide +kernel
theorem d_M_eggs_243 : decode b_M_eggs 243 = .ok (.iload 6, 2) := by decide +kernel
theorem d_M_eggs_245 : decode b_M_eggs 245 = .ok (.dup2, 1) := by decide +kernel
theorem d_M_eggs_246 : decode b_M_eggs 246 = .ok (.iaload, 1) := by decide +kernel
theorem d_M_eggs_247 : decode b_M_eggs 247 = .ok (.iconst 1, 1) := by decide +kernel
theorem d_M_eggs_248 : decode b_M_eggs 248 = .ok (.iadd, 1) := by decide +kernel
theorem d_M_eggs_249 : decode b_M_eggs 249 = .ok (.iastore, 1) := by decide +kernel
theorem d_M_eggs_250 : decode b_M_eggs 250 = .ok (.aload_n 0, 1) := by decide +kernel
theorem d_M_eggs_251 : decode b_M_eggs 251 = .ok (.getfield 60, 3) := by decide +kernel
theorem d_M_eggs_254 : decode b_M_eggs 254 = .ok (.iload 6, 2) := by decide +kernel
theorem d_M_eggs_256 : decode b_M_eggs 256 = .ok (.iconst (-1), 1) := by decide +kernel
theorem d_M_eggs_257 : decode b_M_eggs 257 = .ok (.iastore, 1) := by decide +kernel
theorem d_M_eggs_258 : decode b_M_eggs 258 = .ok (.iinc 5 (-1), 3) := by decide +kernel
theorem d_M_eggs_261 : decode b_M_eggs 261 = .ok (.goto (-74), 3) := by decide +kernel
theorem d_M_eggs_264 : decode b_M_eggs 264 = .ok (.aload_n 0, 1) := by decide +kernel
theorem d_M_eggs_265 : decode b_M_eggs 265 = .ok (.getfield 54, 3) := by decide +kernel
theorem d_M_eggs_268 : decode b_M_eggs 268 = .ok (.iconst 0, 1) := by decide +kernel
theorem d_M_eggs_269 : decode b_M_eggs 269 = .ok (.iaload, 1) := by decide +kernel
theorem d_M_eggs_270 : decode b_M_eggs 270 = .ok (.ireturn, 1) := by decide +kernel
theorem d_M_eggsOf_0 : decode b_M_eggsOf 0 = .ok (.iload_n 1, 1) := by decide +kernel
theorem d_M_eggsOf_1 : decode b_M_eggsOf 1 = .ok (.iconst 0, 1) := by decide +kernel
theorem d_M_eggsOf_2 : decode b_M_eggsOf 2 = .ok (.aload_n 0, 1) := by decide +kernel
theorem d_M_eggsOf_3 : decode b_M_eggsOf 3 = .ok (.getfield 79, 3) := by decide +kernel
theorem d_M_eggsOf_6 : decode b_M_eggsOf 6 = .ok (.iconst 1, 1) := by decide +kernel
theorem d_M_eggsOf_7 : decode b_M_eggsOf 7 = .ok (.isub, 1) := by decide +kernel
theorem d_M_eggsOf_8 : decode b_M_eggsOf 8 = .ok (.invokestatic 75, 3) := by decide +kernel
theorem d_M_eggsOf_11 : decode b_M_eggsOf 11 = .ok (.ifCond .eq 12, 3) := by decide +kernel
theorem d_M_eggsOf_14 : decode b_M_eggsOf 14 = .ok (.aload_n 0, 1) := by decide +kernel
theorem d_M_eggsOf_15 : decode b_M_eggsOf 15 = .ok (.getfield 54, 3) := by decide +kernel
theorem d_M_eggsOf_18 : decode b_M_eggsOf 18 = .ok (.iload_n 1, 1) := by decide +kernel
theorem d_M_eggsOf_19 : decode b_M_eggsOf 19 = .ok (.iaload, 1) := by decide +kernel
theorem d_M_eggsOf_20 : decode b_M_eggsOf 20 = .ok (.goto 4, 3) := by decide +kernel
theorem d_M_eggsOf_23 : decode b_M_eggsOf 23 = .ok (.iconst (-1), 1) := by decide +kernel
theorem d_M_eggsOf_24 : decode b_M_eggsOf 24 = .ok (.ireturn, 1) := by decide +kernel
theorem d_M_backUp_0 : decode b_M_backUp 0 = .ok (.iload_n 1, 1) := by decide +kernel
theorem d_M_backUp_1 : decode b_M_backUp 1 = .ok (.iconst 0, 1) := by decide +kernel
theorem d_M_backUp_2 : decode b_M_backUp 2 = .ok (.aload_n 0, 1) := by decide +kernel
theorem d_M_backUp_3 : decode b_M_backUp 3 = .ok (.getfield 79, 3) := by decide +kernel
theorem d_M_backUp_6 : decode b_M_backUp 6 = .ok (.iconst 1, 1) := by decide +kernel
theorem d_M_backUp_7 : decode b_M_backUp 7 = .ok (.isub, 1) := by decide +kernel
theorem d_M_backUp_8 : decode b_M_backUp 8 = .ok (.invokestatic 75, 3) := by decide +kernel
theorem d_M_backUp_11 : decode b_M_backUp 11 = .ok (.ifCond .ne 5, 3) := by decide +kernel
theorem d_M_backUp_14 : decode b_M_backUp 14 = .ok (.iconst (-1), 1) := by decide +kernel
theorem d_M_backUp_15 : decode b_M_backUp 15 = .ok (.ireturn, 1) := by decide +kernel
theorem d_M_backUp_16 : decode b_M_backUp 16 = .ok (.bipush (-3), 2) := by decide +kernel
theorem d_M_backUp_18 : decode b_M_backUp 18 = .ok (.istore_n 2, 1) := by decide +kernel
theorem d_M_backUp_19 : decode b_M_backUp 19 = .ok (.iconst 0, 1) := by decide +kernel
theorem d_M_backUp_20 : decode b_M_backUp 20 = .ok (.istore_n 3, 1) := by decide +kernel
theorem d_M_backUp_21 : decode b_M_backUp 21 = .ok (.iload_n 3, 1) := by decide +kernel
theorem d_M_backUp_22 : decode b_M_backUp 22 = .ok (.aload_n 0, 1) := by decide +kernel
theorem d_M_backUp_23 : decode b_M_backUp 23 = .ok (.getfield 72, 3) := by decide +kernel
theorem d_M_backUp_26 : decode b_M_backUp 26 = .ok (.if_icmp .ge 119, 3) := by decide +kernel
theorem d_M_backUp_29 : decode b_M_backUp 29 = .ok (.aload_n 0, 1) := by decide +kernel
theorem d_M_backUp_30 : decode b_M_backUp 30 = .ok (.getfield 134, 3) := by decide +kernel
theorem d_M_backUp_33 : decode b_M_backUp 33 = .ok (.iconst 1, 1) := by decide +kernel
theorem d_M_backUp_34 : decode b_M_backUp 34 = .ok (.aload_n 0, 1) := by decide +kernel
theorem d_M_backUp_35 : decode b_M_backUp 35 = .ok (.getfield 48, 3) := by decide +kernel
theorem d_M_backUp_38 : decode b_M_backUp 38 = .ok (.iload_n 1, 1) := by decide +kernel
theorem d_M_backUp_39 : decode b_M_backUp 39 = .ok (.iaload, 1) := by decide +kernel
theorem d_M_backUp_40 : decode b_M_backUp 40 = .ok (.ishl, 1) := by decide +kernel
theorem d_M_backUp_41 : decode b_M_backUp 41 = .ok (.iconst (-1), 1) := by decide +kernel
theorem d_M_backUp_42 : decode b_M_backUp 42 = .ok (.ixor, 1) := by decide +kernel
theorem d_M_backUp_43 : decode b_M_backUp 43 = .ok (.iand, 1) := by decide +kernel
theorem d_M_backUp_44 : decode b_M_backUp 44 = .ok (.iconst 1, 1) := by decide +kernel
theorem d_M_backUp_45 : decode b_M_backUp 45 = .ok (.iload_n 3, 1) := by decide +kernel
theorem d_M_backUp_46 : decode b_M_backUp 46 = .ok (.ishl, 1) := by decide +kernel
theorem d_M_backUp_47 : decode b_M_backUp 47 = .ok (.ior, 1) := by decide +kernel
theorem d_M_backUp_48 : decode b_M_backUp 48 = .ok (.istore 4, 2) := by decide +kernel
theorem d_M_backUp_50 : decode b_M_backUp 50 = .ok (.aload_n 0, 1) := by decide +kernel
theorem d_M_backUp_51 : decode b_M_backUp 51 = .ok (.getfield 7, 3) := by decide +kernel
theorem d_M_backUp_54 : decode b_M_backUp 54 = .ok (.iload_n 3, 1) := by decide +kernel
theorem d_M_backUp_55 : decode b_M_backUp 55 = .ok (.iaload, 1) := by decide +kernel
theorem d_M_backUp_56 : decode b_M_backUp 56 = .ok (.ifCond .ne 50, 3) := by decide +kernel
theorem d_M_backUp_59 : decode b_M_backUp 59 = .ok (.aload_n 0, 1) := by decide +kernel
theorem d_M_backUp_60 : decode b_M_backUp 60 = .ok (.getfield 134, 3) := by decide +kernel
theorem d_M_backUp_63 : decode b_M_backUp 63 = .ok (.iload_n 3, 1) := by decide +kernel
theorem d_M_backUp_64 : decode b_M_backUp 64 = .ok (.ishr, 1) := by decide +kernel
theorem d_M_backUp_65 : decode b_M_backUp 65 = .ok (.iconst 1, 1) := by decide +kernel
theorem d_M_backUp_66 : decode b_M_backUp 66 = .ok (.iand, 1) := by decide +kernel
theorem d_M_backUp_67 : decode b_M_backUp 67 = .ok (.ifCond .ne 39, 3) := by decide +kernel
theorem d_M_backUp_70 : decode b_M_backUp 70 = .ok (.aload_n 0, 1) := by decide +kernel
theorem d_M_backUp_71 : decode b_M_backUp 71 = .ok (.getfield 22, 3) := by decide +kernel
theorem d_M_backUp_74 : decode b_M_backUp 74 = .ok (.bipush 12, 2) := by decide +kernel
theorem d_M_backUp_76 : decode b_M_backUp 76 = .ok (.iload_n 3, 1) := by decide +kernel
theorem d_M_backUp_77 : decode b_M_backUp 77 = .ok (.imul, 1) := by decide +kernel
theorem d_M_backUp_78 : decode b_M_backUp 78 = .ok (.aload_n 0, 1) := by decide +kernel
theorem d_M_backUp_79 : decode b_M_backUp 79 = .ok (.getfield 51, 3) := by decide +kernel
theorem d_M_backUp_82 : decode b_M_backUp 82 = .ok (.iload_n 1, 1) := by decide +kernel
theorem d_M_backUp_83 : decode b_M_backUp 83 = .ok (.iaload, 1) := by decide +kernel
theorem d_M_backUp_84 : decode b_M_backUp 84 = .ok (.iadd, 1) := by decide +kernel
theorem d_M_backUp_85 : decode b_M_backUp 85 = .ok (.baload, 1) := by decide +kernel
theorem d_M_backUp_86 : decode b_M_backUp 86 = .ok (.ifCond .ne 20, 3) := by decide +kernel
theorem d_M_backUp_89 : decode b_M_backUp 89 = .ok (.aload_n 0, 1) := by decide +kernel
theorem d_M_backUp_90 : decode b_M_backUp 90 = .ok (.iload 4, 2) := by decide +kernel
theorem d_M_backUp_92 : decode b_M_backUp 92 = .ok (.aload_n 0, 1) := by decide +kernel
theorem d_M_backUp_93 : decode b_M_backUp 93 = .ok (.getfield 79, 3) := by decide +kernel
theorem d_M_backUp_96 : decode b_M_backUp 96 = .ok (.invokevirtual 118, 3) := by decide +kernel
theorem d_M_backUp_99 : decode b_M_backUp 99 = .ok (.ifCond .eq 7, 3) := by decide +kernel
theorem d_M_backUp_102 : decode b_M_backUp 102 = .ok (.iconst 1, 1) := by decide +kernel
theorem d_M_backUp_103 : decode b_M_backUp 103 = .ok (.goto 4, 3) := by decide +kernel
theorem d_M_backUp_106 : decode b_M_backUp 106 = .ok (.iconst 0, 1) := by decide +kernel
theorem d_M_backUp_107 : decode b_M_backUp 107 = .ok (.istore 5, 2) := by decide +kernel
theorem d_M_backUp_109 : decode b_M_backUp 109 = .ok (.iload 5, 2) := by decide +kernel
theorem d_M_backUp_111 : decode b_M_backUp 111 = .ok (.ifCond .eq 26, 3) := by decide +kernel
theorem d_M_backUp_114 : decode b_M_backUp 114 = .ok (.iload_n 2, 1) := by decide +kernel
theorem d_M_backUp_115 : decode b_M_backUp 115 = .ok (.ifCond .lt 18, 3) := by decide +kernel
