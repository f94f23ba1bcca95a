theorem d_M_fitsFamilies_29 : decode b_M_fitsFamilies 29 = .ok (.iload_n 1, 1) := by decide +kernel
theorem d_M_fitsFamilies_30 : decode b_M_fitsFamilies 30 = .ok (.iload 5, 2) := by decide +kernel
theorem d_M_fitsFamilies_32 : decode b_M_fitsFamilies 32 = .ok (.ishr, 1) := by decide +kernel
theorem d_M_fitsFamilies_33 : decode b_M_fitsFamilies 33 = .ok (.iconst 1, 1) := by decide +kernel
theorem d_M_fitsFamilies_34 : decode b_M_fitsFamilies 34 = .ok (.iand, 1) := by decide +kernel
theorem d_M_fitsFamilies_35 : decode b_M_fitsFamilies 35 = .ok (.iconst 1, 1) := by decide +kernel
theorem d_M_fitsFamilies_36 : decode b_M_fitsFamilies 36 = .ok (.if_icmp .ne 21, 3) := by decide +kernel
theorem d_M_fitsFamilies_39 : decode b_M_fitsFamilies 39 = .ok (.aload_n 0, 1) := by decide +kernel
theorem d_M_fitsFamilies_40 : decode b_M_fitsFamilies 40 = .ok (.getfield 16, 3) := by decide +kernel
theorem d_M_fitsFamilies_43 : decode b_M_fitsFamilies 43 = .ok (.iload 5, 2) := by decide +kernel
theorem d_M_fitsFamilies_45 : decode b_M_fitsFamilies 45 = .ok (.iaload, 1) := by decide +kernel
theorem d_M_fitsFamilies_46 : decode b_M_fitsFamilies 46 = .ok (.iload_n 3, 1) := by decide +kernel
theorem d_M_fitsFamilies_47 : decode b_M_fitsFamilies 47 = .ok (.if_icmp .ne 10, 3) := by decide +kernel
theorem d_M_fitsFamilies_50 : decode b_M_fitsFamilies 50 = .ok (.iload 4, 2) := by decide +kernel
theorem d_M_fitsFamilies_52 : decode b_M_fitsFamilies 52 = .ok (.iconst 1, 1) := by decide +kernel
theorem d_M_fitsFamilies_53 : decode b_M_fitsFamilies 53 = .ok (.iadd, 1) := by decide +kernel
theorem d_M_fitsFamilies_54 : decode b_M_fitsFamilies 54 = .ok (.goto 5, 3) := by decide +kernel
theorem d_M_fitsFamilies_57 : decode b_M_fitsFamilies 57 = .ok (.iload 4, 2) := by decide +kernel
theorem d_M_fitsFamilies_59 : decode b_M_fitsFamilies 59 = .ok (.istore 4, 2) := by decide +kernel
theorem d_M_fitsFamilies_61 : decode b_M_fitsFamilies 61 = .ok (.iinc 5 1, 3) := by decide +kernel
theorem d_M_fitsFamilies_64 : decode b_M_fitsFamilies 64 = .ok (.goto (-44), 3) := by decide +kernel
theorem d_M_fitsFamilies_67 : decode b_M_fitsFamilies 67 = .ok (.aload_n 0, 1) := by decide +kernel
theorem d_M_fitsFamilies_68 : decode b_M_fitsFamilies 68 = .ok (.getfield 89, 3) := by decide +kernel
theorem d_M_fitsFamilies_71 : decode b_M_fitsFamilies 71 = .ok (.ifCond .eq 12, 3) := by decide +kernel
theorem d_M_fitsFamilies_74 : decode b_M_fitsFamilies 74 = .ok (.iload 4, 2) := by decide +kernel
theorem d_M_fitsFamilies_76 : decode b_M_fitsFamilies 76 = .ok (.aload_n 0, 1) := by decide +kernel
theorem d_M_fitsFamilies_77 : decode b_M_fitsFamilies 77 = .ok (.getfield 89, 3) := by decide +kernel
theorem d_M_fitsFamilies_80 : decode b_M_fitsFamilies 80 = .ok (.if_icmp .gt 18, 3) := by decide +kernel
theorem d_M_fitsFamilies_83 : decode b_M_fitsFamilies 83 = .ok (.iload 4, 2) := by decide +kernel
theorem d_M_fitsFamilies_85 : decode b_M_fitsFamilies 85 = .ok (.aload_n 0, 1) := by decide +kernel
theorem d_M_fitsFamilies_86 : decode b_M_fitsFamilies 86 = .ok (.getfield 30, 3) := by decide +kernel
theorem d_M_fitsFamilies_89 : decode b_M_fitsFamilies 89 = .ok (.iload_n 3, 1) := by decide +kernel
theorem d_M_fitsFamilies_90 : decode b_M_fitsFamilies 90 = .ok (.iaload, 1) := by decide +kernel
theorem d_M_fitsFamilies_91 : decode b_M_fitsFamilies 91 = .ok (.if_icmp .lt 7, 3) := by decide +kernel
theorem d_M_fitsFamilies_94 : decode b_M_fitsFamilies 94 = .ok (.iconst 1, 1) := by decide +kernel
theorem d_M_fitsFamilies_95 : decode b_M_fitsFamilies 95 = .ok (.goto 4, 3) := by decide +kernel
theorem d_M_fitsFamilies_98 : decode b_M_fitsFamilies 98 = .ok (.iconst 0, 1) := by decide +kernel
theorem d_M_fitsFamilies_99 : decode b_M_fitsFamilies 99 = .ok (.istore_n 2, 1) := by decide +kernel
theorem d_M_fitsFamilies_100 : decode b_M_fitsFamilies 100 = .ok (.iinc 3 1, 3) := by decide +kernel
theorem d_M_fitsFamilies_103 : decode b_M_fitsFamilies 103 = .ok (.goto (-99), 3) := by decide +kernel
theorem d_M_fitsFamilies_106 : decode b_M_fitsFamilies 106 = .ok (.iload_n 2, 1) := by decide +kernel
theorem d_M_fitsFamilies_107 : decode b_M_fitsFamilies 107 = .ok (.ireturn, 1) := by decide +kernel
theorem d_M_part_0 : decode b_M_part 0 = .ok (.iconst 0, 1) := by decide +kernel
theorem d_M_part_1 : decode b_M_part 1 = .ok (.istore_n 3, 1) := by decide +kernel
theorem d_M_part_2 : decode b_M_part 2 = .ok (.iconst 0, 1) := by decide +kernel
theorem d_M_part_3 : decode b_M_part 3 = .ok (.istore 4, 2) := by decide +kernel
theorem d_M_part_5 : decode b_M_part 5 = .ok (.iconst 0, 1) := by decide +kernel
theorem d_M_part_6 : decode b_M_part 6 = .ok (.istore 5, 2) := by decide +kernel
theorem d_M_part_8 : decode b_M_part 8 = .ok (.iload 5, 2) := by decide +kernel
theorem d_M_part_10 : decode b_M_part 10 = .ok (.aload_n 0, 1) := by decide +kernel
theorem d_M_part_11 : decode b_M_part 11 = .ok (.getfield 72, 3) := by decide +kernel
theorem d_M_part_14 : decode b_M_part 14 = .ok (.if_icmp .ge 65, 3) := by decide +kernel
theorem d_M_part_17 : decode b_M_part 17 = .ok (.iload_n 1, 1) := by decide +kernel
theorem d_M_part_18 : decode b_M_part 18 = .ok (.iload 5, 2) := by decide +kernel
theorem d_M_part_20 : decode b_M_part 20 = .ok (.ishr, 1) := by decide +kernel
theorem d_M_part_21 : decode b_M_part 21 = .ok (.iconst 1, 1) := by decide +kernel
theorem d_M_part_22 : decode b_M_part 22 = .ok (.iand, 1) := by decide +kernel
theorem d_M_part_23 : decode b_M_part 23 = .ok (.iconst 1, 1) := by decide +kernel
theorem d_M_part_24 : decode b_M_part 24 = .ok (.if_icmp .ne 27, 3) := by decide +kernel
theorem d_M_part_27 : decode b_M_part 27 = .ok (.aload_n 0, 1) := by decide +kernel
theorem d_M_part_28 : decode b_M_part 28 = .ok (.getfield 7, 3) := by decide +kernel
theorem d_M_part_31 : decode b_M_part 31 = .ok (.iload 5, 2) := by decide +kernel
theorem d_M_part_33 : decode b_M_part 33 = .ok (.iaload, 1) := by decide +kernel
theorem d_M_part_34 : decode b_M_part 34 = .ok (.ifCond .ne 17, 3) := by decide +kernel
theorem d_M_part_37 : decode b_M_part 37 = .ok (.aload_n 0, 1) := by decide +kernel
theorem d_M_part_38 : decode b_M_part 38 = .ok (.getfield 36, 3) := by decide +kernel
theorem d_M_part_41 : decode b_M_part 41 = .ok (.iload_n 3, 1) := by decide +kernel
theorem d_M_part_42 : decode b_M_part 42 = .ok (.iload 5, 2) := by decide +kernel
theorem d_M_part_44 : decode b_M_part 44 = .ok (.iastore, 1) := by decide +kernel
theorem d_M_part_45 : decode b_M_part 45 = .ok (.iinc 3 1, 3) := by decide +kernel
theorem d_M_part_48 : decode b_M_part 48 = .ok (.goto 25, 3) := by decide +kernel
theorem d_M_part_51 : decode b_M_part 51 = .ok (.iload_n 1, 1) := by decide +kernel
theorem d_M_part_52 : decode b_M_part 52 = .ok (.iload 5, 2) := by decide +kernel
theorem d_M_part_54 : decode b_M_part 54 = .ok (.ishr, 1) := by decide +kernel
theorem d_M_part_55 : decode b_M_part 55 = .ok (.iconst 1, 1) := by decide +kernel
theorem d_M_part_56 : decode b_M_part 56 = .ok (.iand, 1) := by decide +kernel
theorem d_M_part_57 : decode b_M_part 57 = .ok (.iconst 1, 1) := by decide +kernel
theorem d_M_part_58 : decode b_M_part 58 = .ok (.if_icmp .ne 15, 3) := by decide +kernel
theorem d_M_part_61 : decode b_M_part 61 = .ok (.aload_n 0, 1) := by decide +kernel
theorem d_M_part_62 : decode b_M_part 62 = .ok (.getfield 39, 3) := by decide +kernel
theorem d_M_part_65 : decode b_M_part 65 = .ok (.iload 4, 2) := by decide +kernel
theorem d_M_part_67 : decode b_M_part 67 = .ok (.iload 5, 2) := by decide +kernel
theorem d_M_part_69 : decode b_M_part 69 = .ok (.iastore, 1) := by decide +kernel
theorem d_M_part_70 : decode b_M_part 70 = .ok (.iinc 4 1, 3) := by decide +kernel
theorem d_M_part_73 : decode b_M_part 73 = .ok (.iinc 5 1, 3) := by decide +kernel
theorem d_M_part_76 : decode b_M_part 76 = .ok (.goto (-68), 3) := by decide +kernel
theorem d_M_part_79 : decode b_M_part 79 = .ok (.aload_n 0, 1) := by decide +kernel
theorem d_M_part_80 : decode b_M_part 80 = .ok (.iload_n 3, 1) := by decide +kernel
theorem d_M_part_81 : decode b_M_part 81 = .ok (.putfield 92, 3) := by decide +kernel
theorem d_M_part_84 : decode b_M_part 84 = .ok (.iload_n 3, 1) := by decide +kernel
theorem d_M_part_85 : decode b_M_part 85 = .ok (.iload_n 2, 1) := by decide +kernel
theorem d_M_part_86 : decode b_M_part 86 = .ok (.if_icmp .ne 13, 3) := by decide +kernel
theorem d_M_part_89 : decode b_M_part 89 = .ok (.iload 4, 2) := by decide +kernel
theorem d_M_part_91 : decode b_M_part 91 = .ok (.iload_n 2, 1) := by decide +kernel
theorem d_M_part_92 : decode b_M_part 92 = .ok (.if_icmp .ne 7, 3) := by decide +kernel
theorem d_M_part_95 : decode b_M_part 95 = .ok (.iconst 1, 1) := by decide +kernel
theorem d_M_part_96 : decode b_M_part 96 = .ok (.goto 4, 3) := by decide +kernel
theorem d_M_part_99 : decode b_M_part 99 = .ok (.iconst 0, 1) := by decide +kernel
theorem d_M_part_100 : decode b_M_part 100 = .ok (.ireturn, 1) := by decide +kernel
theorem d_M_canPair_0 : decode b_M_canPair 0 = .ok (.iconst 0, 1) := by decide +kernel
theorem d_M_canPair_1 : decode b_M_canPair 1 = .ok (.istore_n 3, 1) := by decide +kernel
theorem d_M_canPair_2 : decode b_M_canPair 2 = .ok (.iload_n 3, 1) := by decide +kernel
theorem d_M_canPair_3 : decode b_M_canPair 3 = .ok (.bipush 64, 2) := by decide +kernel
theorem d_M_canPair_5 : decode b_M_canPair 5 = .ok (.if_icmp .ge 25, 3) := by decide +kernel
theorem d_M_canPair_8 : decode b_M_canPair 8 = .ok (.aload_n 0, 1) := by decide +kernel
theorem d_M_canPair_9 : decode b_M_canPair 9 = .ok (.getfield 42, 3) := by decide +kernel
theorem d_M_canPair_12 : decode b_M_canPair 12 = .ok (.iload_n 3, 1) := by decide +kernel
theorem d_M_canPair_13 : decode b_M_canPair 13 = .ok (.iload_n 3, 1) := by decide +kernel
theorem d_M_canPair_14 : decode b_M_canPair 14 = .ok (.iload_n 2, 1) := by decide +kernel
theorem d_M_canPair_15 : decode b_M_canPair 15 = .ok (.if_icmp .ne 7, 3) := by decide +kernel
theorem d_M_canPair_18 : decode b_M_canPair 18 = .ok (.iconst 1, 1) := by decide +kernel
theorem d_M_canPair_19 : decode b_M_canPair 19 = .ok (.goto 4, 3) := by decide +kernel
theorem d_M_canPair_22 : decode b_M_canPair 22 = .ok (.iconst 0, 1) := by decide +kernel
theorem d_M_canPair_23 : decode b_M_canPair 23 = .ok (.bastore, 1) := by decide +kernel
theorem d_M_canPair_24 : decode b_M_canPair 24 = .ok (.iinc 3 1, 3) := by decide +kernel
theorem d_M_canPair_27 : decode b_M_canPair 27 = .ok (.goto (-25), 3) := by decide +kernel
theorem d_M_canPair_30 : decode b_M_canPair 30 = .ok (.iload_n 1, 1) := by decide +kernel
theorem d_M_canPair_31 : decode b_M_canPair 31 = .ok (.istore_n 3, 1) := by decide +kernel
theorem d_M_canPair_32 : decode b_M_canPair 32 = .ok (.iload_n 3, 1) := by decide +kernel
theorem d_M_canPair_33 : decode b_M_canPair 33 = .ok (.aload_n 0, 1) := by decide +kernel
theorem d_M_canPair_34 : decode b_M_canPair 34 = .ok (.getfield 92, 3) := by decide +kernel
theorem d_M_canPair_37 : decode b_M_canPair 37 = .ok (.if_icmp .ge 155, 3) := by decide +kernel
theorem d_M_canPair_40 : decode b_M_canPair 40 = .ok (.iconst 0, 1) := by decide +kernel
theorem d_M_canPair_41 : decode b_M_canPair 41 = .ok (.istore 4, 2) := by decide +kernel
theorem d_M_canPair_43 : decode b_M_canPair 43 = .ok (.iload 4, 2) := by decide +kernel
theorem d_M_canPair_45 : decode b_M_canPair 45 = .ok (.bipush 64, 2) := by decide +kernel
theorem d_M_canPair_47 : decode b_M_canPair 47 = .ok (.if_icmp .ge 17, 3) := by decide +kernel
theorem d_M_canPair_50 : decode b_M_canPair 50 = .ok (.aload_n 0, 1) := by decide +kernel
theorem d_M_canPair_51 : decode b_M_canPair 51 = .ok (.getfield 45, 3) := by decide +kernel
theorem d_M_canPair_54 : decode b_M_canPair 54 = .ok (.iload 4, 2) := by decide +kernel
theorem d_M_canPair_56 : decode b_M_canPair 56 = .ok (.iconst 0, 1) := by decide +kernel
theorem d_M_canPair_57 : decode b_M_canPair 57 = .ok (.bastore, 1) := by decide +kernel
theorem d_M_canPair_58 : decode b_M_canPair 58 = .ok (.iinc 4 1, 3) := by decide +kernel
theorem d_M_canPair_61 : decode b_M_canPair 61 = .ok (.goto (-18), 3) := by decide +kernel
theorem d_M_canPair_64 : decode b_M_canPair 64 = .ok (.iconst 0, 1) := by decide +kernel
theorem d_M_canPair_65 : decode b_M_canPair 65 = .ok (.istore 4, 2) := by decide +kernel
theorem d_M_canPair_67 : decode b_M_canPair 67 = .ok (.iload 4, 2) := by decide +kernel
theorem d_M_canPair_69 : decode b_M_canPair 69 = .ok (.bipush 64, 2) := by decide +kernel
theorem d_M_canPair_71 : decode b_M_canPair 71 = .ok (.if_icmp .ge 85, 3) := by decide +kernel
theorem d_M_canPair_74 : decode b_M_canPair 74 = .ok (.iconst 0, 1) := by decide +kernel
theorem d_M_canPair_75 : decode b_M_canPair 75 = .ok (.istore 5, 2) := by decide +kernel
theorem d_M_canPair_77 : decode b_M_canPair 77 = .ok (.iload 5, 2) := by decide +kernel
theorem d_M_canPair_79 : decode b_M_canPair 79 = .ok (.aload_n 0, 1) := by decide +kernel
theorem d_M_canPair_80 : decode b_M_canPair 80 = .ok (.getfield 92, 3) := by decide +kernel
theorem d_M_canPair_83 : decode b_M_canPair 83 = .ok (.if_icmp .ge 67, 3) := by decide +kernel
theorem d_M_canPair_86 : decode b_M_canPair 86 = .ok (.aload_n 0, 1) := by decide +kernel
theorem d_M_canPair_87 : decode b_M_canPair 87 = .ok (.getfield 42, 3) := by decide +kernel
theorem d_M_canPair_90 : decode b_M_canPair 90 = .ok (.iload 4, 2) := by decide +kernel
theorem d_M_canPair_92 : decode b_M_canPair 92 = .ok (.baload, 1) := by decide +kernel
theorem d_M_canPair_93 : decode b_M_canPair 93 = .ok (.ifCond .eq 57, 3) := by decide +kernel
theorem d_M_canPair_96 : decode b_M_canPair 96 = .ok (.iload 4, 2) := by decide +kernel
theorem d_M_canPair_98 : decode b_M_canPair 98 = .ok (.iload 5, 2) := by decide +kernel
theorem d_M_canPair_100 : decode b_M_canPair 100 = .ok (.ishr, 1) := by decide +kernel
theorem d_M_canPair_101 : decode b_M_canPair 101 = .ok (.iconst 1, 1) := by decide +kernel
theorem d_M_canPair_102 : decode b_M_canPair 102 = .ok (.iand, 1) := by decide +kernel
theorem d_M_canPair_103 : decode b_M_canPair 103 = .ok (.ifCond .ne 41, 3) := by decide +kernel
theorem d_M_canPair_106 : decode b_M_canPair 106 = .ok (.aload_n 0, 1) := by decide +kernel
theorem d_M_canPair_107 : decode b_M_canPair 107 = .ok (.getfield 22, 3) := by decide +kernel
theorem d_M_canPair_110 : decode b_M_canPair 110 = .ok (.bipush 12, 2) := by decide +kernel
theorem d_M_canPair_112 : decode b_M_canPair 112 = .ok (.aload_n 0, 1) := by decide +kernel
theorem d_M_canPair_113 : decode b_M_canPair 113 = .ok (.getfield 36, 3) := by decide +kernel
theorem d_M_canPair_116 : decode b_M_canPair 116 = .ok (.iload_n 3, 1) := by decide +kernel
theorem d_M_canPair_117 : decode b_M_canPair 117 = .ok (.iaload, 1) := by decide +kernel
theorem d_M_canPair_118 : decode b_M_canPair 118 = .ok (.imul, 1) := by decide +kernel
theorem d_M_canPair_119 : decode b_M_canPair 119 = .ok (.aload_n 0, 1) := by decide +kernel
theorem d_M_canPair_120 : decode b_M_canPair 120 = .ok (.getfield 39, 3) := by decide +kernel
theorem d_M_canPair_123 : decode b_M_canPair 123 = .ok (.iload 5, 2) := by decide +kernel
theorem d_M_canPair_125 : decode b_M_canPair 125 = .ok (.iaload, 1) := by decide +kernel
theorem d_M_canPair_126 : decode b_M_canPair 126 = .ok (.iadd, 1) := by decide +kernel
theorem d_M_canPair_127 : decode b_M_canPair 127 = .ok (.baload, 1) := by decide +kernel
theorem d_M_canPair_128 : decode b_M_canPair 128 = .ok (.ifCond .ne 16, 3) := by decide +kernel
theorem d_M_canPair_131 : decode b_M_canPair 131 = .ok (.aload_n 0, 1) := by decide +kernel
theorem d_M_canPair_132 : decode b_M_canPair 132 = .ok (.getfield 45, 3) := by decide +kernel
theorem d_M_canPair_135 : decode b_M_canPair 135 = .ok (.iload 4, 2) := by decide +kernel
theorem d_M_canPair_137 : decode b_M_canPair 137 = .ok (.iconst 1, 1) := by decide +kernel
theorem d_M_canPair_138 : decode b_M_canPair 138 = .ok (.iload 5, 2) := by decide +kernel
theorem d_M_canPair_140 : decode b_M_canPair 140 = .ok (.ishl, 1) := by decide +kernel
theorem d_M_canPair_141 : decode b_M_canPair 141 = .ok (.ior, 1) := by decide +kernel
theorem d_M_canPair_142 : decode b_M_canPair 142 = .ok (.iconst 1, 1) := by decide +kernel
theorem d_M_canPair_143 : decode b_M_canPair 143 = .ok (.bastore, 1) := by decide +kernel
theorem d_M_canPair_144 : decode b_M_canPair 144 = .ok (.iinc 5 1, 3) := by decide +kernel
theorem d_M_canPair_147 : decode b_M_canPair 147 = .ok (.goto (-70), 3) := by decide +kernel
theorem d_M_canPair_150 : decode b_M_canPair 150 = .ok (.iinc 4 1, 3) := by decide +kernel
theorem d_M_canPair_153 : decode b_M_canPair 153 = .ok (.goto (-86), 3) := by decide +kernel
theorem d_M_canPair_156 : decode b_M_canPair 156 = .ok (.iconst 0, 1) := by decide +kernel
theorem d_M_canPair_157 : decode b_M_canPair 157 = .ok (.istore 4, 2) := by decide +kernel
theorem d_M_canPair_159 : decode b_M_canPair 159 = .ok (.iload 4, 2) := by decide +kernel
theorem d_M_canPair_161 : decode b_M_canPair 161 = .ok (.bipush 64, 2) := by decide +kernel
theorem d_M_canPair_163 : decode b_M_canPair 163 = .ok (.if_icmp .ge 23, 3) := by decide +kernel
theorem d_M_canPair_166 : decode b_M_canPair 166 = .ok (.aload_n 0, 1) := by decide +kernel
theorem d_M_canPair_167 : decode b_M_canPair 167 = .ok (.getfield 42, 3) := by decide +kernel
theorem d_M_canPair_170 : decode b_M_canPair 170 = .ok (.iload 4, 2) := by decide +kernel
theorem d_M_canPair_172 : decode b_M_canPair 172 = .ok (.aload_n 0, 1) := by decide +kernel
theorem d_M_canPair_173 : decode b_M_canPair 173 = .ok (.getfield 45, 3) := by decide +kernel
theorem d_M_canPair_176 : decode b_M_canPair 176 = .ok (.iload 4, 2) := by decide +kernel
theorem d_M_canPair_178 : decode b_M_canPair 178 = .ok (.baload, 1) := by decide +kernel
theorem d_M_canPair_179 : decode b_M_canPair 179 = .ok (.bastore, 1) := by decide +kernel
theorem d_M_canPair_180 : decode b_M_canPair 180 = .ok (.iinc 4 1, 3) := by decide +kernel
theorem d_M_canPair_183 : decode b_M_canPair 183 = .ok (.goto (-24), 3) := by decide +kernel
theorem d_M_canPair_186 : decode b_M_canPair 186 = .ok (.iinc 3 1, 3) := by decide +kernel
theorem d_M_canPair_189 : decode b_M_canPair 189 = .ok (.goto (-157), 3) := by decide +kernel
theorem d_M_canPair_192 : decode b_M_canPair 192 = .ok (.aload_n 0, 1) := by decide +kernel
theorem d_M_canPair_193 : decode b_M_canPair 193 = .ok (.getfield 42, 3) := by decide +kernel
theorem d_M_canPair_196 : decode b_M_canPair 196 = .ok (.iconst 1, 1) := by decide +kernel
theorem d_M_canPair_197 : decode b_M_canPair 197 = .ok (.aload_n 0, 1) := by decide +kernel
theorem d_M_canPair_198 : decode b_M_canPair 198 = .ok (.getfield 92, 3) := by decide +kernel
theorem d_M_canPair_201 : decode b_M_canPair 201 = .ok (.ishl, 1) := by decide +kernel
theorem d_M_canPair_202 : decode b_M_canPair 202 = .ok (.iconst 1, 1) := by decide +kernel
theorem d_M_canPair_203 : decode b_M_canPair 203 = .ok (.isub, 1) := by decide +kernel
theorem d_M_canPair_204 : decode b_M_canPair 204 = .ok (.baload, 1) := by decide +kernel
theorem d_M_canPair_205 : decode b_M_canPair 205 = .ok (.ireturn, 1) := by decide +kernel
theorem d_M_fits_0 : decode b_M_fits 0 = .ok (.aload_n 0, 1) := by decide +kernel
theorem d_M_fits_1 : decode b_M_fits 1 = .ok (.iload_n 1, 1) := by decide +kernel
theorem d_M_fits_2 : decode b_M_fits 2 = .ok (.invokevirtual 95, 3) := by decide +kernel
theorem d_M_fits_5 : decode b_M_fits 5 = .ok (.iconst 4, 1) := by decide +kernel
theorem d_M_fits_6 : decode b_M_fits 6 = .ok (.iload_n 2, 1) := by decide +kernel
theorem d_M_fits_7 : decode b_M_fits 7 = .ok (.imul, 1) := by decide +kernel
theorem d_M_fits_8 : decode b_M_fits 8 = .ok (.iload_n 2, 1) := by decide +kernel
theorem d_M_fits_9 : decode b_M_fits 9 = .ok (.imul, 1) := by decide +kernel
theorem d_M_fits_10 : decode b_M_fits 10 = .ok (.aload_n 0, 1) := by decide +kernel
theorem d_M_fits_11 : decode b_M_fits 11 = .ok (.getfield 26, 3) := by decide +kernel
theorem d_M_fits_14 : decode b_M_fits 14 = .ok (.imul, 1) := by decide +kernel
theorem d_M_fits_15 : decode b_M_fits 15 = .ok (.if_icmp .gt 15, 3) := by decide +kernel
theorem d_M_fits_18 : decode b_M_fits 18 = .ok (.aload_n 0, 1) := by decide +kernel
theorem d_M_fits_19 : decode b_M_fits 19 = .ok (.iload_n 1, 1) := by decide +kernel
theorem d_M_fits_20 : decode b_M_fits 20 = .ok (.invokevirtual 99, 3) := by decide +kernel
theorem d_M_fits_23 : decode b_M_fits 23 = .ok (.ifCond .eq 7, 3) := by decide +kernel
theorem d_M_fits_26 : decode b_M_fits 26 = .ok (.iconst 1, 1) := by decide +kernel
theorem d_M_fits_27 : decode b_M_fits 27 = .ok (.goto 4, 3) := by decide +kernel
theorem d_M_fits_30 : decode b_M_fits 30 = .ok (.iconst 0, 1) := by decide +kernel
theorem d_M_fits_31 : decode b_M_fits 31 = .ok (.ireturn, 1) := by decide +kernel
theorem d_M_worthOf_0 : decode b_M_worthOf 0 = .ok (.iconst 0, 1) := by decide +kernel
theorem d_M_worthOf_1 : decode b_M_worthOf 1 = .ok (.istore_n 2, 1) := by decide +kernel
theorem d_M_worthOf_2 : decode b_M_worthOf 2 = .ok (.iconst 0, 1) := by decide +kernel
theorem d_M_worthOf_3 : decode b_M_worthOf 3 = .ok (.istore_n 3, 1) := by decide +kernel
theorem d_M_worthOf_4 : decode b_M_worthOf 4 = .ok (.iload_n 3, 1) := by decide +kernel
theorem d_M_worthOf_5 : decode b_M_worthOf 5 = .ok (.aload_n 0, 1) := by decide +kernel
theorem d_M_worthOf_6 : decode b_M_worthOf 6 = .ok (.getfield 72, 3) := by decide +kernel
theorem d_M_worthOf_9 : decode b_M_worthOf 9 = .ok (.if_icmp .ge 48, 3) := by decide +kernel
theorem d_M_worthOf_12 : decode b_M_worthOf 12 = .ok (.iload_n 1, 1) := by decide +kernel
theorem d_M_worthOf_13 : decode b_M_worthOf 13 = .ok (.iload_n 3, 1) := by decide +kernel
theorem d_M_worthOf_14 : decode b_M_worthOf 14 = .ok (.ishr, 1) := by decide +kernel
theorem d_M_worthOf_15 : decode b_M_worthOf 15 = .ok (.iconst 1, 1) := by decide +kernel
theorem d_M_worthOf_16 : decode b_M_worthOf 16 = .ok (.iand, 1) := by decide +kernel
theorem d_M_worthOf_17 : decode b_M_worthOf 17 = .ok (.iconst 1, 1) := by decide +kernel
theorem d_M_worthOf_18 : decode b_M_worthOf 18 = .ok (.if_icmp .ne 31, 3) := by decide +kernel
theorem d_M_worthOf_21 : decode b_M_worthOf 21 = .ok (.iload_n 2, 1) := by decide +kernel
theorem d_M_worthOf_22 : decode b_M_worthOf 22 = .ok (.aload_n 0, 1) := by decide +kernel
theorem d_M_worthOf_23 : decode b_M_worthOf 23 = .ok (.getfield 13, 3) := by decide +kernel
theorem d_M_worthOf_26 : decode b_M_worthOf 26 = .ok (.iload_n 3, 1) := by decide +kernel
theorem d_M_worthOf_27 : decode b_M_worthOf 27 = .ok (.iaload, 1) := by decide +kernel
theorem d_M_worthOf_28 : decode b_M_worthOf 28 = .ok (.iadd, 1) := by decide +kernel
theorem d_M_worthOf_29 : decode b_M_worthOf 29 = .ok (.iload_n 3, 1) := by decide +kernel
theorem d_M_worthOf_30 : decode b_M_worthOf 30 = .ok (.aload_n 0, 1) := by decide +kernel
theorem d_M_worthOf_31 : decode b_M_worthOf 31 = .ok (.getfield 33, 3) := by decide +kernel
theorem d_M_worthOf_34 : decode b_M_worthOf 34 = .ok (.if_icmp .ne 10, 3) := by decide +kernel
theorem d_M_worthOf_37 : decode b_M_worthOf 37 = .ok (.aload_n 0, 1) := by decide +kernel
theorem d_M_worthOf_38 : decode b_M_worthOf 38 = .ok (.getfield 102, 3) := by decide +kernel
theorem d_M_worthOf_41 : decode b_M_worthOf 41 = .ok (.goto 4, 3) := by decide +kernel
theorem d_M_worthOf_44 : decode b_M_worthOf 44 = .ok (.iconst 0, 1) := by decide +kernel
theorem d_M_worthOf_45 : decode b_M_worthOf 45 = .ok (.iadd, 1) := by decide +kernel
theorem d_M_worthOf_46 : decode b_M_worthOf 46 = .ok (.goto 4, 3) := by decide +kernel
theorem d_M_worthOf_49 : decode b_M_worthOf 49 = .ok (.iload_n 2, 1) := by decide +kernel
theorem d_M_worthOf_50 : decode b_M_worthOf 50 = .ok (.istore_n 2, 1) := by decide +kernel
theorem d_M_worthOf_51 : decode b_M_worthOf 51 = .ok (.iinc 3 1, 3) := by decide +kernel
theorem d_M_worthOf_54 : decode b_M_worthOf 54 = .ok (.goto (-50), 3) := by decide +kernel
theorem d_M_worthOf_57 : decode b_M_worthOf 57 = .ok (.iload_n 2, 1) := by decide +kernel
theorem d_M_worthOf_58 : decode b_M_worthOf 58 = .ok (.ireturn, 1) := by decide +kernel
theorem d_M_find_0 : decode b_M_find 0 = .ok (.aload_n 0, 1) := by decide +kernel
theorem d_M_find_1 : decode b_M_find 1 = .ok (.iconst 0, 1) := by decide +kernel
theorem d_M_find_2 : decode b_M_find 2 = .ok (.putfield 105, 3) := by decide +kernel
theorem d_M_find_5 : decode b_M_find 5 = .ok (.aload_n 0, 1) := by decide +kernel
theorem d_M_find_6 : decode b_M_find 6 = .ok (.iconst 0, 1) := by decide +kernel
theorem d_M_find_7 : decode b_M_find 7 = .ok (.putfield 108, 3) := by decide +kernel
theorem d_M_find_10 : decode b_M_find 10 = .ok (.aload_n 0, 1) := by decide +kernel
theorem d_M_find_11 : decode b_M_find 11 = .ok (.iconst 0, 1) := by decide +kernel
theorem d_M_find_12 : decode b_M_find 12 = .ok (.putfield 111, 3) := by decide +kernel
theorem d_M_find_15 : decode b_M_find 15 = .ok (.iconst 1, 1) := by decide +kernel
theorem d_M_find_16 : decode b_M_find 16 = .ok (.istore_n 3, 1) := by decide +kernel
theorem d_M_find_17 : decode b_M_find 17 = .ok (.iload_n 3, 1) := by decide +kernel
theorem d_M_find_18 : decode b_M_find 18 = .ok (.iconst 1, 1) := by decide +kernel
theorem d_M_find_19 : decode b_M_find 19 = .ok (.aload_n 0, 1) := by decide +kernel
theorem d_M_find_20 : decode b_M_find 20 = .ok (.getfield 72, 3) := by decide +kernel
theorem d_M_find_23 : decode b_M_find 23 = .ok (.ishl, 1) := by decide +kernel
theorem d_M_find_24 : decode b_M_find 24 = .ok (.if_icmp .ge 128, 3) := by decide +kernel
theorem d_M_find_27 : decode b_M_find 27 = .ok (.iload_n 3, 1) := by decide +kernel
theorem d_M_find_28 : decode b_M_find 28 = .ok (.iload_n 2, 1) := by decide +kernel
theorem d_M_find_29 : decode b_M_find 29 = .ok (.iconst (-1), 1) := by decide +kernel
theorem d_M_find_30 : decode b_M_find 30 = .ok (.ixor, 1) := by decide +kernel
theorem d_M_find_31 : decode b_M_find 31 = .ok (.iand, 1) := by decide +kernel
theorem d_M_find_32 : decode b_M_find 32 = .ok (.ifCond .ne 114, 3) := by decide +kernel
theorem d_M_find_35 : decode b_M_find 35 = .ok (.aload_n 0, 1) := by decide +kernel
theorem d_M_find_36 : decode b_M_find 36 = .ok (.iload_n 3, 1) := by decide +kernel
theorem d_M_find_37 : decode b_M_find 37 = .ok (.iload_n 1, 1) := by decide +kernel
theorem d_M_find_38 : decode b_M_find 38 = .ok (.invokevirtual 114, 3) := by decide +kernel
theorem d_M_find_41 : decode b_M_find 41 = .ok (.ifCond .eq 105, 3) := by decide +kernel
theorem d_M_find_44 : decode b_M_find 44 = .ok (.aload_n 0, 1) := by decide +kernel
theorem d_M_find_45 : decode b_M_find 45 = .ok (.iload_n 3, 1) := by decide +kernel
theorem d_M_find_46 : decode b_M_find 46 = .ok (.iload_n 1, 1) := by decide +kernel
theorem d_M_find_47 : decode b_M_find 47 = .ok (.invokevirtual 118, 3) := by decide +kernel
theorem d_M_find_50 : decode b_M_find 50 = .ok (.ifCond .eq 96, 3) := by decide +kernel
theorem d_M_find_53 : decode b_M_find 53 = .ok (.aload_n 0, 1) := by decide +kernel
theorem d_M_find_54 : decode b_M_find 54 = .ok (.iconst 0, 1) := by decide +kernel
theorem d_M_find_55 : decode b_M_find 55 = .ok (.iconst 0, 1) := by decide +kernel
theorem d_M_find_56 : decode b_M_find 56 = .ok (.invokevirtual 121, 3) := by decide +kernel
theorem d_M_find_59 : decode b_M_find 59 = .ok (.ifCond .eq 87, 3) := by decide +kernel
theorem d_M_find_62 : decode b_M_find 62 = .ok (.aload_n 0, 1) := by decide +kernel
theorem d_M_find_63 : decode b_M_find 63 = .ok (.iload_n 3, 1) := by decide +kernel
theorem d_M_find_64 : decode b_M_find 64 = .ok (.invokevirtual 124, 3) := by decide +kernel
theorem d_M_find_67 : decode b_M_find 67 = .ok (.istore 4, 2) := by decide +kernel
theorem d_M_find_69 : decode b_M_find 69 = .ok (.iload_n 3, 1) := by decide +kernel
theorem d_M_find_70 : decode b_M_find 70 = .ok (.aload_n 0, 1) := by decide +kernel
theorem d_M_find_71 : decode b_M_find 71 = .ok (.getfield 108, 3) := by decide +kernel
theorem d_M_find_74 : decode b_M_find 74 = .ok (.ixor, 1) := by decide +kernel
theorem d_M_find_75 : decode b_M_find 75 = .ok (.istore 5, 2) := by decide +kernel
theorem d_M_find_77 : decode b_M_find 77 = .ok (.iload_n 3, 1) := by decide +kernel
theorem d_M_find_78 : decode b_M_find 78 = .ok (.iload 5, 2) := by decide +kernel
theorem d_M_find_80 : decode b_M_find 80 = .ok (.iand, 1) := by decide +kernel
theorem d_M_find_81 : decode b_M_find 81 = .ok (.iload 5, 2) := by decide +kernel
theorem d_M_find_83 : decode b_M_find 83 = .ok (.ineg, 1) := by decide +kernel
theorem d_M_find_84 : decode b_M_find 84 = .ok (.iand, 1) := by decide +kernel
theorem d_M_find_85 : decode b_M_find 85 = .ok (.ifCond .eq 7, 3) := by decide +kernel
theorem d_M_find_88 : decode b_M_find 88 = .ok (.iconst 1, 1) := by decide +kernel
theorem d_M_find_89 : decode b_M_find 89 = .ok (.goto 4, 3) := by decide +kernel
theorem d_M_find_92 : decode b_M_find 92 = .ok (.iconst 0, 1) := by decide +kernel
theorem d_M_find_93 : decode b_M_find 93 = .ok (.istore 6, 2) := by decide +kernel
theorem d_M_find_95 : decode b_M_find 95 = .ok (.aload_n 0, 1) := by decide +kernel
theorem d_M_find_96 : decode b_M_find 96 = .ok (.getfield 105, 3) := by decide +kernel
theorem d_M_find_99 : decode b_M_find 99 = .ok (.ifCond .eq 26, 3) := by decide +kernel
theorem d_M_find_102 : decode b_M_find 102 = .ok (.iload 4, 2) := by decide +kernel
theorem d_M_find_104 : decode b_M_find 104 = .ok (.aload_n 0, 1) := by decide +kernel
theorem d_M_find_105 : decode b_M_find 105 = .ok (.getfield 111, 3) := by decide +kernel
theorem d_M_find_108 : decode b_M_find 108 = .ok (.if_icmp .gt 17, 3) := by decide +kernel
theorem d_M_find_111 : decode b_M_find 111 = .ok (.iload 4, 2) := by decide +kernel
theorem d_M_find_113 : decode b_M_find 113 = .ok (.aload_n 0, 1) := by decide +kernel
theorem d_M_find_114 : decode b_M_find 114 = .ok (.getfield 111, 3) := by decide +kernel
theorem d_M_find_117 : decode b_M_find 117 = .ok (.if_icmp .ne 19, 3) := by decide +kernel
theorem d_M_find_120 : decode b_M_find 120 = .ok (.iload 6, 2) := by decide +kernel
theorem d_M_find_122 : decode b_M_find 122 = .ok (.ifCond .eq 14, 3) := by decide +kernel
theorem d_M_find_125 : decode b_M_find 125 = .ok (.aload_n 0, 1) := by decide +kernel
theorem d_M_find_126 : decode b_M_find 126 = .ok (.iload_n 3, 1) := by decide +kernel
theorem d_M_find_127 : decode b_M_find 127 = .ok (.putfield 108, 3) := by decide +kernel
theorem d_M_find_130 : decode b_M_find 130 = .ok (.aload_n 0, 1) := by decide +kernel
theorem d_M_find_131 : decode b_M_find 131 = .ok (.iload 4, 2) := by decide +kernel
theorem d_M_find_133 : decode b_M_find 133 = .ok (.putfield 111, 3) := by decide +kernel
theorem d_M_find_136 : decode b_M_find 136 = .ok (.aload_n 0, 1) := by decide +kernel
theorem d_M_find_137 : decode b_M_find 137 = .ok (.dup, 1) := by decide +kernel
theorem d_M_find_138 : decode b_M_find 138 = .ok (.getfield 105, 3) := by decide +kernel
theorem d_M_find_141 : decode b_M_find 141 = .ok (.iconst 1, 1) := by decide +kernel
theorem d_M_find_142 : decode b_M_find 142 = .ok (.iadd, 1) := by decide +kernel
theorem d_M_find_143 : decode b_M_find 143 = .ok (.putfield 105, 3) := by decide +kernel
theorem d_M_find_146 : decode b_M_find 146 = .ok (.iinc 3 1, 3) := by decide +kernel
theorem d_M_find_149 : decode b_M_find 149 = .ok (.goto (-132), 3) := by decide +kernel
theorem d_M_find_152 : decode b_M_find 152 = .ok (.aload_n 0, 1) := by decide +kernel
theorem d_M_find_153 : decode b_M_find 153 = .ok (.getfield 105, 3) := by decide +kernel
theorem d_M_find_156 : decode b_M_find 156 = .ok (.ifCond .le 7, 3) := by decide +kernel
theorem d_M_find_159 : decode b_M_find 159 = .ok (.iconst 1, 1) := by decide +kernel
theorem d_M_find_160 : decode b_M_find 160 = .ok (.goto 4, 3) := by decide +kernel
theorem d_M_find_163 : decode b_M_find 163 = .ok (.iconst 0, 1) := by decide +kernel
theorem d_M_find_164 : decode b_M_find 164 = .ok (.ireturn, 1) := by decide +kernel
theorem d_M_all_0 : decode b_M_all 0 = .ok (.iconst 1, 1) := by decide +kernel
theorem d_M_all_1 : decode b_M_all 1 = .ok (.aload_n 0, 1) := by decide +kernel
theorem d_M_all_2 : decode b_M_all 2 = .ok (.getfield 72, 3) := by decide +kernel
theorem d_M_all_5 : decode b_M_all 5 = .ok (.ishl, 1) := by decide +kernel
theorem d_M_all_6 : decode b_M_all 6 = .ok (.iconst 1, 1) := by decide +kernel
theorem d_M_all_7 : decode b_M_all 7 = .ok (.isub, 1) := by decide +kernel
theorem d_M_all_8 : decode b_M_all 8 = .ok (.ireturn, 1) := by decide +kernel
theorem d_M_run_0 : decode b_M_run 0 = .ok (.iload_n 1, 1) := by decide +kernel
theorem d_M_run_1 : decode b_M_run 1 = .ok (.iconst 1, 1) := by decide +kernel
theorem d_M_run_2 : decode b_M_run 2 = .ok (.bipush 6, 2) := by decide +kernel
theorem d_M_run_4 : decode b_M_run 4 = .ok (.invokestatic 75, 3) := by decide +kernel
theorem d_M_run_7 : decode b_M_run 7 = .ok (.ifCond .ne 6, 3) := by decide +kernel
theorem d_M_run_10 : decode b_M_run 10 = .ok (.bipush (-2), 2) := by decide +kernel
theorem d_M_run_12 : decode b_M_run 12 = .ok (.ireturn, 1) := by decide +kernel
theorem d_M_run_13 : decode b_M_run 13 = .ok (.aload_n 0, 1) := by decide +kernel
theorem d_M_run_14 : decode b_M_run 14 = .ok (.invokevirtual 82, 3) := by decide +kernel
theorem d_M_run_17 : decode b_M_run 17 = .ok (.aload_n 0, 1) := by decide +kernel
theorem d_M_run_18 : decode b_M_run 18 = .ok (.iload_n 1, 1) := by decide +kernel
theorem d_M_run_19 : decode b_M_run 19 = .ok (.aload_n 0, 1) := by decide +kernel
theorem d_M_run_20 : decode b_M_run 20 = .ok (.invokevirtual 127, 3) := by decide +kernel
theorem d_M_run_23 : decode b_M_run 23 = .ok (.invokevirtual 131, 3) := by decide +kernel
theorem d_M_run_26 : decode b_M_run 26 = .ok (.ifCond .ne 5, 3) := by decide +kernel
theorem d_M_run_29 : decode b_M_run 29 = .ok (.iconst 0, 1) := by decide +kernel
theorem d_M_run_30 : decode b_M_run 30 = .ok (.ireturn, 1) := by decide +kernel
theorem d_M_run_31 : decode b_M_run 31 = .ok (.aload_n 0, 1) := by decide +kernel
theorem d_M_run_32 : decode b_M_run 32 = .ok (.aload_n 0, 1) := by decide +kernel
theorem d_M_run_33 : decode b_M_run 33 = .ok (.getfield 108, 3) := by decide +kernel
theorem d_M_run_36 : decode b_M_run 36 = .ok (.putfield 134, 3) := by decide +kernel
theorem d_M_run_39 : decode b_M_run 39 = .ok (.aload_n 0, 1) := by decide +kernel
theorem d_M_run_40 : decode b_M_run 40 = .ok (.aload_n 0, 1) := by decide +kernel
theorem d_M_run_41 : decode b_M_run 41 = .ok (.getfield 105, 3) := by decide +kernel
theorem d_M_run_44 : decode b_M_run 44 = .ok (.putfield 137, 3) := by decide +kernel
theorem d_M_run_47 : decode b_M_run 47 = .ok (.aload_n 0, 1) := by decide +kernel
theorem d_M_run_48 : decode b_M_run 48 = .ok (.aload_n 0, 1) := by decide +kernel
theorem d_M_run_49 : decode b_M_run 49 = .ok (.getfield 134, 3) := by decide +kernel
theorem d_M_run_52 : decode b_M_run 52 = .ok (.iload_n 1, 1) := by decide +kernel
theorem d_M_run_53 : decode b_M_run 53 = .ok (.invokevirtual 114, 3) := by decide +kernel
theorem d_M_run_56 : decode b_M_run 56 = .ok (.pop, 1) := by decide +kernel
theorem d_M_run_57 : decode b_M_run 57 = .ok (.aload_n 0, 1) := by decide +kernel
theorem d_M_run_58 : decode b_M_run 58 = .ok (.iload_n 1, 1) := by decide +kernel
