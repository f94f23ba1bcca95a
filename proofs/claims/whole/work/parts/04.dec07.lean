theorem d_M_backUp_118 : decode b_M_backUp 118 = .ok (.aload_n 0, 1) := by decide +kernel
theorem d_M_backUp_119 : decode b_M_backUp 119 = .ok (.getfield 13, 3) := by decide +kernel
theorem d_M_backUp_122 : decode b_M_backUp 122 = .ok (.iload_n 3, 1) := by decide +kernel
theorem d_M_backUp_123 : decode b_M_backUp 123 = .ok (.iaload, 1) := by decide +kernel
theorem d_M_backUp_124 : decode b_M_backUp 124 = .ok (.aload_n 0, 1) := by decide +kernel
theorem d_M_backUp_125 : decode b_M_backUp 125 = .ok (.getfield 13, 3) := by decide +kernel
theorem d_M_backUp_128 : decode b_M_backUp 128 = .ok (.iload_n 2, 1) := by decide +kernel
theorem d_M_backUp_129 : decode b_M_backUp 129 = .ok (.iaload, 1) := by decide +kernel
theorem d_M_backUp_130 : decode b_M_backUp 130 = .ok (.if_icmp .le 7, 3) := by decide +kernel
theorem d_M_backUp_133 : decode b_M_backUp 133 = .ok (.iload_n 3, 1) := by decide +kernel
theorem d_M_backUp_134 : decode b_M_backUp 134 = .ok (.goto 4, 3) := by decide +kernel
theorem d_M_backUp_137 : decode b_M_backUp 137 = .ok (.iload_n 2, 1) := by decide +kernel
theorem d_M_backUp_138 : decode b_M_backUp 138 = .ok (.istore_n 2, 1) := by decide +kernel
theorem d_M_backUp_139 : decode b_M_backUp 139 = .ok (.iinc 3 1, 3) := by decide +kernel
theorem d_M_backUp_142 : decode b_M_backUp 142 = .ok (.goto (-121), 3) := by decide +kernel
theorem d_M_backUp_145 : decode b_M_backUp 145 = .ok (.iload_n 2, 1) := by decide +kernel
theorem d_M_backUp_146 : decode b_M_backUp 146 = .ok (.ireturn, 1) := by decide +kernel
theorem d_M_test_0 : decode b_M_test 0 = .ok (.iload_n 1, 1) := by decide +kernel
theorem d_M_test_1 : decode b_M_test 1 = .ok (.iconst 1, 1) := by decide +kernel
theorem d_M_test_2 : decode b_M_test 2 = .ok (.bipush 6, 2) := by decide +kernel
theorem d_M_test_4 : decode b_M_test 4 = .ok (.invokestatic 75, 3) := by decide +kernel
theorem d_M_test_7 : decode b_M_test 7 = .ok (.ifCond .eq 14, 3) := by decide +kernel
theorem d_M_test_10 : decode b_M_test 10 = .ok (.iload_n 2, 1) := by decide +kernel
theorem d_M_test_11 : decode b_M_test 11 = .ok (.iconst 1, 1) := by decide +kernel
theorem d_M_test_12 : decode b_M_test 12 = .ok (.sipush 10000, 3) := by decide +kernel
theorem d_M_test_15 : decode b_M_test 15 = .ok (.invokestatic 75, 3) := by decide +kernel
theorem d_M_test_18 : decode b_M_test 18 = .ok (.ifCond .ne 6, 3) := by decide +kernel
theorem d_M_test_21 : decode b_M_test 21 = .ok (.bipush (-2), 2) := by decide +kernel
theorem d_M_test_23 : decode b_M_test 23 = .ok (.ireturn, 1) := by decide +kernel
theorem d_M_test_24 : decode b_M_test 24 = .ok (.aload_n 0, 1) := by decide +kernel
theorem d_M_test_25 : decode b_M_test 25 = .ok (.iload_n 1, 1) := by decide +kernel
theorem d_M_test_26 : decode b_M_test 26 = .ok (.aload_n 0, 1) := by decide +kernel
theorem d_M_test_27 : decode b_M_test 27 = .ok (.invokevirtual 127, 3) := by decide +kernel
theorem d_M_test_30 : decode b_M_test 30 = .ok (.invokevirtual 131, 3) := by decide +kernel
theorem d_M_test_33 : decode b_M_test 33 = .ok (.ifCond .ne 6, 3) := by decide +kernel
theorem d_M_test_36 : decode b_M_test 36 = .ok (.bipush (-3), 2) := by decide +kernel
theorem d_M_test_38 : decode b_M_test 38 = .ok (.ireturn, 1) := by decide +kernel
theorem d_M_test_39 : decode b_M_test 39 = .ok (.iconst 0, 1) := by decide +kernel
theorem d_M_test_40 : decode b_M_test 40 = .ok (.istore_n 3, 1) := by decide +kernel
theorem d_M_test_41 : decode b_M_test 41 = .ok (.iconst 0, 1) := by decide +kernel
theorem d_M_test_42 : decode b_M_test 42 = .ok (.istore 4, 2) := by decide +kernel
theorem d_M_test_44 : decode b_M_test 44 = .ok (.iconst 0, 1) := by decide +kernel
theorem d_M_test_45 : decode b_M_test 45 = .ok (.istore 5, 2) := by decide +kernel
theorem d_M_test_47 : decode b_M_test 47 = .ok (.iload 5, 2) := by decide +kernel
theorem d_M_test_49 : decode b_M_test 49 = .ok (.aload_n 0, 1) := by decide +kernel
theorem d_M_test_50 : decode b_M_test 50 = .ok (.getfield 72, 3) := by decide +kernel
theorem d_M_test_53 : decode b_M_test 53 = .ok (.if_icmp .ge 80, 3) := by decide +kernel
theorem d_M_test_56 : decode b_M_test 56 = .ok (.aload_n 0, 1) := by decide +kernel
theorem d_M_test_57 : decode b_M_test 57 = .ok (.iload 5, 2) := by decide +kernel
theorem d_M_test_59 : decode b_M_test 59 = .ok (.putfield 33, 3) := by decide +kernel
theorem d_M_test_62 : decode b_M_test 62 = .ok (.aload_n 0, 1) := by decide +kernel
theorem d_M_test_63 : decode b_M_test 63 = .ok (.iload_n 2, 1) := by decide +kernel
theorem d_M_test_64 : decode b_M_test 64 = .ok (.putfield 102, 3) := by decide +kernel
theorem d_M_test_67 : decode b_M_test 67 = .ok (.aload_n 0, 1) := by decide +kernel
theorem d_M_test_68 : decode b_M_test 68 = .ok (.iload_n 1, 1) := by decide +kernel
theorem d_M_test_69 : decode b_M_test 69 = .ok (.aload_n 0, 1) := by decide +kernel
theorem d_M_test_70 : decode b_M_test 70 = .ok (.invokevirtual 127, 3) := by decide +kernel
theorem d_M_test_73 : decode b_M_test 73 = .ok (.invokevirtual 131, 3) := by decide +kernel
theorem d_M_test_76 : decode b_M_test 76 = .ok (.pop, 1) := by decide +kernel
theorem d_M_test_77 : decode b_M_test 77 = .ok (.aload_n 0, 1) := by decide +kernel
theorem d_M_test_78 : decode b_M_test 78 = .ok (.getfield 111, 3) := by decide +kernel
theorem d_M_test_81 : decode b_M_test 81 = .ok (.istore 6, 2) := by decide +kernel
theorem d_M_test_83 : decode b_M_test 83 = .ok (.aload_n 0, 1) := by decide +kernel
theorem d_M_test_84 : decode b_M_test 84 = .ok (.iload_n 2, 1) := by decide +kernel
theorem d_M_test_85 : decode b_M_test 85 = .ok (.ineg, 1) := by decide +kernel
theorem d_M_test_86 : decode b_M_test 86 = .ok (.putfield 102, 3) := by decide +kernel
theorem d_M_test_89 : decode b_M_test 89 = .ok (.aload_n 0, 1) := by decide +kernel
theorem d_M_test_90 : decode b_M_test 90 = .ok (.iload_n 1, 1) := by decide +kernel
theorem d_M_test_91 : decode b_M_test 91 = .ok (.aload_n 0, 1) := by decide +kernel
theorem d_M_test_92 : decode b_M_test 92 = .ok (.invokevirtual 127, 3) := by decide +kernel
theorem d_M_test_95 : decode b_M_test 95 = .ok (.invokevirtual 131, 3) := by decide +kernel
theorem d_M_test_98 : decode b_M_test 98 = .ok (.pop, 1) := by decide +kernel
theorem d_M_test_99 : decode b_M_test 99 = .ok (.iload 6, 2) := by decide +kernel
theorem d_M_test_101 : decode b_M_test 101 = .ok (.aload_n 0, 1) := by decide +kernel
theorem d_M_test_102 : decode b_M_test 102 = .ok (.getfield 111, 3) := by decide +kernel
theorem d_M_test_105 : decode b_M_test 105 = .ok (.iadd, 1) := by decide +kernel
theorem d_M_test_106 : decode b_M_test 106 = .ok (.istore 6, 2) := by decide +kernel
theorem d_M_test_108 : decode b_M_test 108 = .ok (.iload 5, 2) := by decide +kernel
theorem d_M_test_110 : decode b_M_test 110 = .ok (.ifCond .eq 10, 3) := by decide +kernel
theorem d_M_test_113 : decode b_M_test 113 = .ok (.iload 6, 2) := by decide +kernel
theorem d_M_test_115 : decode b_M_test 115 = .ok (.iload 4, 2) := by decide +kernel
theorem d_M_test_117 : decode b_M_test 117 = .ok (.if_icmp .le 10, 3) := by decide +kernel
theorem d_M_test_120 : decode b_M_test 120 = .ok (.iload 5, 2) := by decide +kernel
theorem d_M_test_122 : decode b_M_test 122 = .ok (.istore_n 3, 1) := by decide +kernel
theorem d_M_test_123 : decode b_M_test 123 = .ok (.iload 6, 2) := by decide +kernel
theorem d_M_test_125 : decode b_M_test 125 = .ok (.istore 4, 2) := by decide +kernel
theorem d_M_test_127 : decode b_M_test 127 = .ok (.iinc 5 1, 3) := by decide +kernel
theorem d_M_test_130 : decode b_M_test 130 = .ok (.goto (-83), 3) := by decide +kernel
theorem d_M_test_133 : decode b_M_test 133 = .ok (.aload_n 0, 1) := by decide +kernel
theorem d_M_test_134 : decode b_M_test 134 = .ok (.iconst (-1), 1) := by decide +kernel
theorem d_M_test_135 : decode b_M_test 135 = .ok (.putfield 33, 3) := by decide +kernel
theorem d_M_test_138 : decode b_M_test 138 = .ok (.iload_n 3, 1) := by decide +kernel
theorem d_M_test_139 : decode b_M_test 139 = .ok (.ireturn, 1) := by decide +kernel
theorem d_M_dies_0 : decode b_M_dies 0 = .ok (.lload_n 3, 1) := by decide +kernel
theorem d_M_dies_1 : decode b_M_dies 1 = .ok (.ldc2_w 144, 3) := by decide +kernel
theorem d_M_dies_4 : decode b_M_dies 4 = .ok (.iload_n 0, 1) := by decide +kernel
theorem d_M_dies_5 : decode b_M_dies 5 = .ok (.i2l, 1) := by decide +kernel
theorem d_M_dies_6 : decode b_M_dies 6 = .ok (.lmul, 1) := by decide +kernel
theorem d_M_dies_7 : decode b_M_dies 7 = .ok (.ladd, 1) := by decide +kernel
theorem d_M_dies_8 : decode b_M_dies 8 = .ok (.iload_n 1, 1) := by decide +kernel
theorem d_M_dies_9 : decode b_M_dies 9 = .ok (.i2l, 1) := by decide +kernel
theorem d_M_dies_10 : decode b_M_dies 10 = .ok (.ladd, 1) := by decide +kernel
theorem d_M_dies_11 : decode b_M_dies 11 = .ok (.lconst 1, 1) := by decide +kernel
theorem d_M_dies_12 : decode b_M_dies 12 = .ok (.ladd, 1) := by decide +kernel
theorem d_M_dies_13 : decode b_M_dies 13 = .ok (.ldc2_w 146, 3) := by decide +kernel
theorem d_M_dies_16 : decode b_M_dies 16 = .ok (.lmul, 1) := by decide +kernel
theorem d_M_dies_17 : decode b_M_dies 17 = .ok (.lstore 5, 2) := by decide +kernel
theorem d_M_dies_19 : decode b_M_dies 19 = .ok (.lload 5, 2) := by decide +kernel
theorem d_M_dies_21 : decode b_M_dies 21 = .ok (.lload 5, 2) := by decide +kernel
theorem d_M_dies_23 : decode b_M_dies 23 = .ok (.bipush 29, 2) := by decide +kernel
theorem d_M_dies_25 : decode b_M_dies 25 = .ok (.lushr, 1) := by decide +kernel
theorem d_M_dies_26 : decode b_M_dies 26 = .ok (.lxor, 1) := by decide +kernel
theorem d_M_dies_27 : decode b_M_dies 27 = .ok (.ldc2_w 148, 3) := by decide +kernel
theorem d_M_dies_30 : decode b_M_dies 30 = .ok (.lmul, 1) := by decide +kernel
theorem d_M_dies_31 : decode b_M_dies 31 = .ok (.lstore 5, 2) := by decide +kernel
theorem d_M_dies_33 : decode b_M_dies 33 = .ok (.lload 5, 2) := by decide +kernel
theorem d_M_dies_35 : decode b_M_dies 35 = .ok (.bipush 33, 2) := by decide +kernel
theorem d_M_dies_37 : decode b_M_dies 37 = .ok (.lushr, 1) := by decide +kernel
theorem d_M_dies_38 : decode b_M_dies 38 = .ok (.ldc2_w 150, 3) := by decide +kernel
theorem d_M_dies_41 : decode b_M_dies 41 = .ok (.lrem, 1) := by decide +kernel
theorem d_M_dies_42 : decode b_M_dies 42 = .ok (.iload_n 2, 1) := by decide +kernel
theorem d_M_dies_43 : decode b_M_dies 43 = .ok (.i2l, 1) := by decide +kernel
theorem d_M_dies_44 : decode b_M_dies 44 = .ok (.lcmp, 1) := by decide +kernel
theorem d_M_dies_45 : decode b_M_dies 45 = .ok (.ifCond .ge 7, 3) := by decide +kernel
theorem d_M_dies_48 : decode b_M_dies 48 = .ok (.iconst 1, 1) := by decide +kernel
theorem d_M_dies_49 : decode b_M_dies 49 = .ok (.goto 4, 3) := by decide +kernel
theorem d_M_dies_52 : decode b_M_dies 52 = .ok (.iconst 0, 1) := by decide +kernel
theorem d_M_dies_53 : decode b_M_dies 53 = .ok (.ireturn, 1) := by decide +kernel
theorem d_M_ahead_0 : decode b_M_ahead 0 = .ok (.iload_n 1, 1) := by decide +kernel
theorem d_M_ahead_1 : decode b_M_ahead 1 = .ok (.iconst 1, 1) := by decide +kernel
theorem d_M_ahead_2 : decode b_M_ahead 2 = .ok (.bipush 20, 2) := by decide +kernel
theorem d_M_ahead_4 : decode b_M_ahead 4 = .ok (.invokestatic 75, 3) := by decide +kernel
theorem d_M_ahead_7 : decode b_M_ahead 7 = .ok (.ifCond .eq 25, 3) := by decide +kernel
theorem d_M_ahead_10 : decode b_M_ahead 10 = .ok (.iload_n 2, 1) := by decide +kernel
theorem d_M_ahead_11 : decode b_M_ahead 11 = .ok (.iconst 0, 1) := by decide +kernel
theorem d_M_ahead_12 : decode b_M_ahead 12 = .ok (.sipush 1000, 3) := by decide +kernel
theorem d_M_ahead_15 : decode b_M_ahead 15 = .ok (.invokestatic 75, 3) := by decide +kernel
theorem d_M_ahead_18 : decode b_M_ahead 18 = .ok (.ifCond .eq 14, 3) := by decide +kernel
theorem d_M_ahead_21 : decode b_M_ahead 21 = .ok (.iload 5, 2) := by decide +kernel
theorem d_M_ahead_23 : decode b_M_ahead 23 = .ok (.iconst 1, 1) := by decide +kernel
theorem d_M_ahead_24 : decode b_M_ahead 24 = .ok (.bipush 6, 2) := by decide +kernel
theorem d_M_ahead_26 : decode b_M_ahead 26 = .ok (.invokestatic 75, 3) := by decide +kernel
theorem d_M_ahead_29 : decode b_M_ahead 29 = .ok (.ifCond .ne 6, 3) := by decide +kernel
theorem d_M_ahead_32 : decode b_M_ahead 32 = .ok (.bipush (-2), 2) := by decide +kernel
theorem d_M_ahead_34 : decode b_M_ahead 34 = .ok (.ireturn, 1) := by decide +kernel
theorem d_M_ahead_35 : decode b_M_ahead 35 = .ok (.aload_n 0, 1) := by decide +kernel
theorem d_M_ahead_36 : decode b_M_ahead 36 = .ok (.iload_n 1, 1) := by decide +kernel
theorem d_M_ahead_37 : decode b_M_ahead 37 = .ok (.putfield 152, 3) := by decide +kernel
theorem d_M_ahead_40 : decode b_M_ahead 40 = .ok (.aload_n 0, 1) := by decide +kernel
theorem d_M_ahead_41 : decode b_M_ahead 41 = .ok (.invokevirtual 127, 3) := by decide +kernel
theorem d_M_ahead_44 : decode b_M_ahead 44 = .ok (.istore 6, 2) := by decide +kernel
theorem d_M_ahead_46 : decode b_M_ahead 46 = .ok (.iconst 0, 1) := by decide +kernel
theorem d_M_ahead_47 : decode b_M_ahead 47 = .ok (.istore 7, 2) := by decide +kernel
theorem d_M_ahead_49 : decode b_M_ahead 49 = .ok (.iload 7, 2) := by decide +kernel
theorem d_M_ahead_51 : decode b_M_ahead 51 = .ok (.aload_n 0, 1) := by decide +kernel
theorem d_M_ahead_52 : decode b_M_ahead 52 = .ok (.getfield 152, 3) := by decide +kernel
theorem d_M_ahead_55 : decode b_M_ahead 55 = .ok (.if_icmp .ge 114, 3) := by decide +kernel
theorem d_M_ahead_58 : decode b_M_ahead 58 = .ok (.aload_n 0, 1) := by decide +kernel
theorem d_M_ahead_59 : decode b_M_ahead 59 = .ok (.getfield 63, 3) := by decide +kernel
theorem d_M_ahead_62 : decode b_M_ahead 62 = .ok (.iload 7, 2) := by decide +kernel
theorem d_M_ahead_64 : decode b_M_ahead 64 = .ok (.iconst 0, 1) := by decide +kernel
theorem d_M_ahead_65 : decode b_M_ahead 65 = .ok (.iastore, 1) := by decide +kernel
theorem d_M_ahead_66 : decode b_M_ahead 66 = .ok (.iconst 0, 1) := by decide +kernel
theorem d_M_ahead_67 : decode b_M_ahead 67 = .ok (.istore 8, 2) := by decide +kernel
theorem d_M_ahead_69 : decode b_M_ahead 69 = .ok (.iload 8, 2) := by decide +kernel
theorem d_M_ahead_71 : decode b_M_ahead 71 = .ok (.aload_n 0, 1) := by decide +kernel
theorem d_M_ahead_72 : decode b_M_ahead 72 = .ok (.getfield 72, 3) := by decide +kernel
theorem d_M_ahead_75 : decode b_M_ahead 75 = .ok (.if_icmp .ge 54, 3) := by decide +kernel
theorem d_M_ahead_78 : decode b_M_ahead 78 = .ok (.iload 7, 2) := by decide +kernel
theorem d_M_ahead_80 : decode b_M_ahead 80 = .ok (.iload 8, 2) := by decide +kernel
theorem d_M_ahead_82 : decode b_M_ahead 82 = .ok (.iload_n 2, 1) := by decide +kernel
theorem d_M_ahead_83 : decode b_M_ahead 83 = .ok (.lload_n 3, 1) := by decide +kernel
theorem d_M_ahead_84 : decode b_M_ahead 84 = .ok (.invokestatic 155, 3) := by decide +kernel
theorem d_M_ahead_87 : decode b_M_ahead 87 = .ok (.ifCond .eq 15, 3) := by decide +kernel
theorem d_M_ahead_90 : decode b_M_ahead 90 = .ok (.iload 6, 2) := by decide +kernel
theorem d_M_ahead_92 : decode b_M_ahead 92 = .ok (.iconst 1, 1) := by decide +kernel
theorem d_M_ahead_93 : decode b_M_ahead 93 = .ok (.iload 8, 2) := by decide +kernel
theorem d_M_ahead_95 : decode b_M_ahead 95 = .ok (.ishl, 1) := by decide +kernel
theorem d_M_ahead_96 : decode b_M_ahead 96 = .ok (.iconst (-1), 1) := by decide +kernel
theorem d_M_ahead_97 : decode b_M_ahead 97 = .ok (.ixor, 1) := by decide +kernel
theorem d_M_ahead_98 : decode b_M_ahead 98 = .ok (.iand, 1) := by decide +kernel
theorem d_M_ahead_99 : decode b_M_ahead 99 = .ok (.goto 5, 3) := by decide +kernel
theorem d_M_ahead_102 : decode b_M_ahead 102 = .ok (.iload 6, 2) := by decide +kernel
theorem d_M_ahead_104 : decode b_M_ahead 104 = .ok (.istore 6, 2) := by decide +kernel
theorem d_M_ahead_106 : decode b_M_ahead 106 = .ok (.aload_n 0, 1) := by decide +kernel
theorem d_M_ahead_107 : decode b_M_ahead 107 = .ok (.getfield 63, 3) := by decide +kernel
theorem d_M_ahead_110 : decode b_M_ahead 110 = .ok (.iload 7, 2) := by decide +kernel
theorem d_M_ahead_112 : decode b_M_ahead 112 = .ok (.dup2, 1) := by decide +kernel
theorem d_M_ahead_113 : decode b_M_ahead 113 = .ok (.iaload, 1) := by decide +kernel
theorem d_M_ahead_114 : decode b_M_ahead 114 = .ok (.iload 6, 2) := by decide +kernel
theorem d_M_ahead_116 : decode b_M_ahead 116 = .ok (.iload 8, 2) := by decide +kernel
theorem d_M_ahead_118 : decode b_M_ahead 118 = .ok (.ishr, 1) := by decide +kernel
theorem d_M_ahead_119 : decode b_M_ahead 119 = .ok (.iconst 1, 1) := by decide +kernel
theorem d_M_ahead_120 : decode b_M_ahead 120 = .ok (.iand, 1) := by decide +kernel
theorem d_M_ahead_121 : decode b_M_ahead 121 = .ok (.iadd, 1) := by decide +kernel
theorem d_M_ahead_122 : decode b_M_ahead 122 = .ok (.iastore, 1) := by decide +kernel
theorem d_M_ahead_123 : decode b_M_ahead 123 = .ok (.iinc 8 1, 3) := by decide +kernel
theorem d_M_ahead_126 : decode b_M_ahead 126 = .ok (.goto (-57), 3) := by decide +kernel
theorem d_M_ahead_129 : decode b_M_ahead 129 = .ok (.aload_n 0, 1) := by decide +kernel
theorem d_M_ahead_130 : decode b_M_ahead 130 = .ok (.getfield 66, 3) := by decide +kernel
theorem d_M_ahead_133 : decode b_M_ahead 133 = .ok (.iload 7, 2) := by decide +kernel
theorem d_M_ahead_135 : decode b_M_ahead 135 = .ok (.aload_n 0, 1) := by decide +kernel
theorem d_M_ahead_136 : decode b_M_ahead 136 = .ok (.iload 5, 2) := by decide +kernel
theorem d_M_ahead_138 : decode b_M_ahead 138 = .ok (.iload 6, 2) := by decide +kernel
theorem d_M_ahead_140 : decode b_M_ahead 140 = .ok (.invokevirtual 131, 3) := by decide +kernel
theorem d_M_ahead_143 : decode b_M_ahead 143 = .ok (.ifCond .eq 7, 3) := by decide +kernel
theorem d_M_ahead_146 : decode b_M_ahead 146 = .ok (.iconst 1, 1) := by decide +kernel
theorem d_M_ahead_147 : decode b_M_ahead 147 = .ok (.goto 4, 3) := by decide +kernel
theorem d_M_ahead_150 : decode b_M_ahead 150 = .ok (.iconst 0, 1) := by decide +kernel
theorem d_M_ahead_151 : decode b_M_ahead 151 = .ok (.iastore, 1) := by decide +kernel
theorem d_M_ahead_152 : decode b_M_ahead 152 = .ok (.aload_n 0, 1) := by decide +kernel
theorem d_M_ahead_153 : decode b_M_ahead 153 = .ok (.getfield 69, 3) := by decide +kernel
theorem d_M_ahead_156 : decode b_M_ahead 156 = .ok (.iload 7, 2) := by decide +kernel
theorem d_M_ahead_158 : decode b_M_ahead 158 = .ok (.aload_n 0, 1) := by decide +kernel
theorem d_M_ahead_159 : decode b_M_ahead 159 = .ok (.getfield 111, 3) := by decide +kernel
theorem d_M_ahead_162 : decode b_M_ahead 162 = .ok (.iastore, 1) := by decide +kernel
theorem d_M_ahead_163 : decode b_M_ahead 163 = .ok (.iinc 7 1, 3) := by decide +kernel
theorem d_M_ahead_166 : decode b_M_ahead 166 = .ok (.goto (-117), 3) := by decide +kernel
theorem d_M_ahead_169 : decode b_M_ahead 169 = .ok (.aload_n 0, 1) := by decide +kernel
theorem d_M_ahead_170 : decode b_M_ahead 170 = .ok (.getfield 63, 3) := by decide +kernel
theorem d_M_ahead_173 : decode b_M_ahead 173 = .ok (.aload_n 0, 1) := by decide +kernel
theorem d_M_ahead_174 : decode b_M_ahead 174 = .ok (.getfield 152, 3) := by decide +kernel
theorem d_M_ahead_177 : decode b_M_ahead 177 = .ok (.iconst 1, 1) := by decide +kernel
theorem d_M_ahead_178 : decode b_M_ahead 178 = .ok (.isub, 1) := by decide +kernel
theorem d_M_ahead_179 : decode b_M_ahead 179 = .ok (.iaload, 1) := by decide +kernel
theorem d_M_ahead_180 : decode b_M_ahead 180 = .ok (.ireturn, 1) := by decide +kernel
theorem d_M_after_0 : decode b_M_after 0 = .ok (.iload_n 1, 1) := by decide +kernel
theorem d_M_after_1 : decode b_M_after 1 = .ok (.iconst 0, 1) := by decide +kernel
theorem d_M_after_2 : decode b_M_after 2 = .ok (.aload_n 0, 1) := by decide +kernel
theorem d_M_after_3 : decode b_M_after 3 = .ok (.getfield 152, 3) := by decide +kernel
theorem d_M_after_6 : decode b_M_after 6 = .ok (.iconst 1, 1) := by decide +kernel
theorem d_M_after_7 : decode b_M_after 7 = .ok (.isub, 1) := by decide +kernel
theorem d_M_after_8 : decode b_M_after 8 = .ok (.invokestatic 75, 3) := by decide +kernel
theorem d_M_after_11 : decode b_M_after 11 = .ok (.ifCond .ne 5, 3) := by decide +kernel
theorem d_M_after_14 : decode b_M_after 14 = .ok (.iconst (-1), 1) := by decide +kernel
theorem d_M_after_15 : decode b_M_after 15 = .ok (.ireturn, 1) := by decide +kernel
theorem d_M_after_16 : decode b_M_after 16 = .ok (.iload_n 2, 1) := by decide +kernel
theorem d_M_after_17 : decode b_M_after 17 = .ok (.ifCond .ne 12, 3) := by decide +kernel
theorem d_M_after_20 : decode b_M_after 20 = .ok (.aload_n 0, 1) := by decide +kernel
theorem d_M_after_21 : decode b_M_after 21 = .ok (.getfield 63, 3) := by decide +kernel
theorem d_M_after_24 : decode b_M_after 24 = .ok (.iload_n 1, 1) := by decide +kernel
theorem d_M_after_25 : decode b_M_after 25 = .ok (.iaload, 1) := by decide +kernel
theorem d_M_after_26 : decode b_M_after 26 = .ok (.goto 33, 3) := by decide +kernel
theorem d_M_after_29 : decode b_M_after 29 = .ok (.iload_n 2, 1) := by decide +kernel
theorem d_M_after_30 : decode b_M_after 30 = .ok (.iconst 1, 1) := by decide +kernel
theorem d_M_after_31 : decode b_M_after 31 = .ok (.if_icmp .ne 12, 3) := by decide +kernel
theorem d_M_after_34 : decode b_M_after 34 = .ok (.aload_n 0, 1) := by decide +kernel
theorem d_M_after_35 : decode b_M_after 35 = .ok (.getfield 66, 3) := by decide +kernel
theorem d_M_after_38 : decode b_M_after 38 = .ok (.iload_n 1, 1) := by decide +kernel
theorem d_M_after_39 : decode b_M_after 39 = .ok (.iaload, 1) := by decide +kernel
theorem d_M_after_40 : decode b_M_after 40 = .ok (.goto 19, 3) := by decide +kernel
theorem d_M_after_43 : decode b_M_after 43 = .ok (.iload_n 2, 1) := by decide +kernel
theorem d_M_after_44 : decode b_M_after 44 = .ok (.iconst 2, 1) := by decide +kernel
theorem d_M_after_45 : decode b_M_after 45 = .ok (.if_icmp .ne 12, 3) := by decide +kernel
theorem d_M_after_48 : decode b_M_after 48 = .ok (.aload_n 0, 1) := by decide +kernel
theorem d_M_after_49 : decode b_M_after 49 = .ok (.getfield 69, 3) := by decide +kernel
theorem d_M_after_52 : decode b_M_after 52 = .ok (.iload_n 1, 1) := by decide +kernel
theorem d_M_after_53 : decode b_M_after 53 = .ok (.iaload, 1) := by decide +kernel
theorem d_M_after_54 : decode b_M_after 54 = .ok (.goto 5, 3) := by decide +kernel
theorem d_M_after_57 : decode b_M_after 57 = .ok (.bipush (-2), 2) := by decide +kernel
theorem d_M_after_59 : decode b_M_after 59 = .ok (.ireturn, 1) := by decide +kernel
theorem d_Integer_bitCount_0 : decode b_Integer_bitCount 0 = .ok (.iload_n 0, 1) := by decide +kernel
theorem d_Integer_bitCount_1 : decode b_Integer_bitCount 1 = .ok (.iload_n 0, 1) := by decide +kernel
theorem d_Integer_bitCount_2 : decode b_Integer_bitCount 2 = .ok (.iconst 1, 1) := by decide +kernel
theorem d_Integer_bitCount_3 : decode b_Integer_bitCount 3 = .ok (.iushr, 1) := by decide +kernel
theorem d_Integer_bitCount_4 : decode b_Integer_bitCount 4 = .ok (.ldc_w 265, 3) := by decide +kernel
theorem d_Integer_bitCount_7 : decode b_Integer_bitCount 7 = .ok (.iand, 1) := by decide +kernel
theorem d_Integer_bitCount_8 : decode b_Integer_bitCount 8 = .ok (.isub, 1) := by decide +kernel
theorem d_Integer_bitCount_9 : decode b_Integer_bitCount 9 = .ok (.istore_n 0, 1) := by decide +kernel
theorem d_Integer_bitCount_10 : decode b_Integer_bitCount 10 = .ok (.iload_n 0, 1) := by decide +kernel
theorem d_Integer_bitCount_11 : decode b_Integer_bitCount 11 = .ok (.ldc_w 266, 3) := by decide +kernel
theorem d_Integer_bitCount_14 : decode b_Integer_bitCount 14 = .ok (.iand, 1) := by decide +kernel
theorem d_Integer_bitCount_15 : decode b_Integer_bitCount 15 = .ok (.iload_n 0, 1) := by decide +kernel
theorem d_Integer_bitCount_16 : decode b_Integer_bitCount 16 = .ok (.iconst 2, 1) := by decide +kernel
theorem d_Integer_bitCount_17 : decode b_Integer_bitCount 17 = .ok (.iushr, 1) := by decide +kernel
theorem d_Integer_bitCount_18 : decode b_Integer_bitCount 18 = .ok (.ldc_w 266, 3) := by decide +kernel
theorem d_Integer_bitCount_21 : decode b_Integer_bitCount 21 = .ok (.iand, 1) := by decide +kernel
theorem d_Integer_bitCount_22 : decode b_Integer_bitCount 22 = .ok (.iadd, 1) := by decide +kernel
theorem d_Integer_bitCount_23 : decode b_Integer_bitCount 23 = .ok (.istore_n 0, 1) := by decide +kernel
theorem d_Integer_bitCount_24 : decode b_Integer_bitCount 24 = .ok (.iload_n 0, 1) := by decide +kernel
theorem d_Integer_bitCount_25 : decode b_Integer_bitCount 25 = .ok (.iload_n 0, 1) := by decide +kernel
theorem d_Integer_bitCount_26 : decode b_Integer_bitCount 26 = .ok (.iconst 4, 1) := by decide +kernel
theorem d_Integer_bitCount_27 : decode b_Integer_bitCount 27 = .ok (.iushr, 1) := by decide +kernel
theorem d_Integer_bitCount_28 : decode b_Integer_bitCount 28 = .ok (.iadd, 1) := by decide +kernel
theorem d_Integer_bitCount_29 : decode b_Integer_bitCount 29 = .ok (.ldc_w 267, 3) := by decide +kernel
theorem d_Integer_bitCount_32 : decode b_Integer_bitCount 32 = .ok (.iand, 1) := by decide +kernel
theorem d_Integer_bitCount_33 : decode b_Integer_bitCount 33 = .ok (.istore_n 0, 1) := by decide +kernel
theorem d_Integer_bitCount_34 : decode b_Integer_bitCount 34 = .ok (.iload_n 0, 1) := by decide +kernel
theorem d_Integer_bitCount_35 : decode b_Integer_bitCount 35 = .ok (.iload_n 0, 1) := by decide +kernel
theorem d_Integer_bitCount_36 : decode b_Integer_bitCount 36 = .ok (.bipush 8, 2) := by decide +kernel
theorem d_Integer_bitCount_38 : decode b_Integer_bitCount 38 = .ok (.iushr, 1) := by decide +kernel
theorem d_Integer_bitCount_39 : decode b_Integer_bitCount 39 = .ok (.iadd, 1) := by decide +kernel
theorem d_Integer_bitCount_40 : decode b_Integer_bitCount 40 = .ok (.istore_n 0, 1) := by decide +kernel
theorem d_Integer_bitCount_41 : decode b_Integer_bitCount 41 = .ok (.iload_n 0, 1) := by decide +kernel
theorem d_Integer_bitCount_42 : decode b_Integer_bitCount 42 = .ok (.iload_n 0, 1) := by decide +kernel
theorem d_Integer_bitCount_43 : decode b_Integer_bitCount 43 = .ok (.bipush 16, 2) := by decide +kernel
theorem d_Integer_bitCount_45 : decode b_Integer_bitCount 45 = .ok (.iushr, 1) := by decide +kernel
theorem d_Integer_bitCount_46 : decode b_Integer_bitCount 46 = .ok (.iadd, 1) := by decide +kernel
theorem d_Integer_bitCount_47 : decode b_Integer_bitCount 47 = .ok (.istore_n 0, 1) := by decide +kernel
theorem d_Integer_bitCount_48 : decode b_Integer_bitCount 48 = .ok (.iload_n 0, 1) := by decide +kernel
theorem d_Integer_bitCount_49 : decode b_Integer_bitCount 49 = .ok (.bipush 63, 2) := by decide +kernel
theorem d_Integer_bitCount_51 : decode b_Integer_bitCount 51 = .ok (.iand, 1) := by decide +kernel
theorem d_Integer_bitCount_52 : decode b_Integer_bitCount 52 = .ok (.ireturn, 1) := by decide +kernel
