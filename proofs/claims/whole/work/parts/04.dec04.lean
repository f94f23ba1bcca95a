theorem d_M_init_50 : decode b_M_init 50 = .ok (.putfield 26, 3) := by decide +kernel
theorem d_M_init_53 : decode b_M_init 53 = .ok (.aload_n 0, 1) := by decide +kernel
theorem d_M_init_54 : decode b_M_init 54 = .ok (.bipush 8, 2) := by decide +kernel
theorem d_M_init_56 : decode b_M_init 56 = .ok (.newarray .int, 2) := by decide +kernel
theorem d_M_init_58 : decode b_M_init 58 = .ok (.putfield 30, 3) := by decide +kernel
theorem d_M_init_61 : decode b_M_init 61 = .ok (.aload_n 0, 1) := by decide +kernel
theorem d_M_init_62 : decode b_M_init 62 = .ok (.iconst (-1), 1) := by decide +kernel
theorem d_M_init_63 : decode b_M_init 63 = .ok (.putfield 33, 3) := by decide +kernel
theorem d_M_init_66 : decode b_M_init 66 = .ok (.aload_n 0, 1) := by decide +kernel
theorem d_M_init_67 : decode b_M_init 67 = .ok (.bipush 12, 2) := by decide +kernel
theorem d_M_init_69 : decode b_M_init 69 = .ok (.newarray .int, 2) := by decide +kernel
theorem d_M_init_71 : decode b_M_init 71 = .ok (.putfield 36, 3) := by decide +kernel
theorem d_M_init_74 : decode b_M_init 74 = .ok (.aload_n 0, 1) := by decide +kernel
theorem d_M_init_75 : decode b_M_init 75 = .ok (.bipush 12, 2) := by decide +kernel
theorem d_M_init_77 : decode b_M_init 77 = .ok (.newarray .int, 2) := by decide +kernel
theorem d_M_init_79 : decode b_M_init 79 = .ok (.putfield 39, 3) := by decide +kernel
theorem d_M_init_82 : decode b_M_init 82 = .ok (.aload_n 0, 1) := by decide +kernel
theorem d_M_init_83 : decode b_M_init 83 = .ok (.bipush 64, 2) := by decide +kernel
theorem d_M_init_85 : decode b_M_init 85 = .ok (.newarray .boolean, 2) := by decide +kernel
theorem d_M_init_87 : decode b_M_init 87 = .ok (.putfield 42, 3) := by decide +kernel
theorem d_M_init_90 : decode b_M_init 90 = .ok (.aload_n 0, 1) := by decide +kernel
theorem d_M_init_91 : decode b_M_init 91 = .ok (.bipush 64, 2) := by decide +kernel
theorem d_M_init_93 : decode b_M_init 93 = .ok (.newarray .boolean, 2) := by decide +kernel
theorem d_M_init_95 : decode b_M_init 95 = .ok (.putfield 45, 3) := by decide +kernel
theorem d_M_init_98 : decode b_M_init 98 = .ok (.aload_n 0, 1) := by decide +kernel
theorem d_M_init_99 : decode b_M_init 99 = .ok (.bipush 6, 2) := by decide +kernel
theorem d_M_init_101 : decode b_M_init 101 = .ok (.newarray .int, 2) := by decide +kernel
theorem d_M_init_103 : decode b_M_init 103 = .ok (.putfield 48, 3) := by decide +kernel
theorem d_M_init_106 : decode b_M_init 106 = .ok (.aload_n 0, 1) := by decide +kernel
theorem d_M_init_107 : decode b_M_init 107 = .ok (.bipush 6, 2) := by decide +kernel
theorem d_M_init_109 : decode b_M_init 109 = .ok (.newarray .int, 2) := by decide +kernel
theorem d_M_init_111 : decode b_M_init 111 = .ok (.putfield 51, 3) := by decide +kernel
theorem d_M_init_114 : decode b_M_init 114 = .ok (.aload_n 0, 1) := by decide +kernel
theorem d_M_init_115 : decode b_M_init 115 = .ok (.bipush 6, 2) := by decide +kernel
theorem d_M_init_117 : decode b_M_init 117 = .ok (.newarray .int, 2) := by decide +kernel
theorem d_M_init_119 : decode b_M_init 119 = .ok (.putfield 54, 3) := by decide +kernel
theorem d_M_init_122 : decode b_M_init 122 = .ok (.aload_n 0, 1) := by decide +kernel
theorem d_M_init_123 : decode b_M_init 123 = .ok (.bipush 6, 2) := by decide +kernel
theorem d_M_init_125 : decode b_M_init 125 = .ok (.newarray .int, 2) := by decide +kernel
theorem d_M_init_127 : decode b_M_init 127 = .ok (.putfield 57, 3) := by decide +kernel
theorem d_M_init_130 : decode b_M_init 130 = .ok (.aload_n 0, 1) := by decide +kernel
theorem d_M_init_131 : decode b_M_init 131 = .ok (.bipush 6, 2) := by decide +kernel
theorem d_M_init_133 : decode b_M_init 133 = .ok (.newarray .int, 2) := by decide +kernel
theorem d_M_init_135 : decode b_M_init 135 = .ok (.putfield 60, 3) := by decide +kernel
theorem d_M_init_138 : decode b_M_init 138 = .ok (.aload_n 0, 1) := by decide +kernel
theorem d_M_init_139 : decode b_M_init 139 = .ok (.bipush 20, 2) := by decide +kernel
theorem d_M_init_141 : decode b_M_init 141 = .ok (.newarray .int, 2) := by decide +kernel
theorem d_M_init_143 : decode b_M_init 143 = .ok (.putfield 63, 3) := by decide +kernel
theorem d_M_init_146 : decode b_M_init 146 = .ok (.aload_n 0, 1) := by decide +kernel
theorem d_M_init_147 : decode b_M_init 147 = .ok (.bipush 20, 2) := by decide +kernel
theorem d_M_init_149 : decode b_M_init 149 = .ok (.newarray .int, 2) := by decide +kernel
theorem d_M_init_151 : decode b_M_init 151 = .ok (.putfield 66, 3) := by decide +kernel
theorem d_M_init_154 : decode b_M_init 154 = .ok (.aload_n 0, 1) := by decide +kernel
theorem d_M_init_155 : decode b_M_init 155 = .ok (.bipush 20, 2) := by decide +kernel
theorem d_M_init_157 : decode b_M_init 157 = .ok (.newarray .int, 2) := by decide +kernel
theorem d_M_init_159 : decode b_M_init 159 = .ok (.putfield 69, 3) := by decide +kernel
theorem d_M_init_162 : decode b_M_init 162 = .ok (.return_, 1) := by decide +kernel
theorem d_M_isIn_0 : decode b_M_isIn 0 = .ok (.iload_n 0, 1) := by decide +kernel
theorem d_M_isIn_1 : decode b_M_isIn 1 = .ok (.iload_n 1, 1) := by decide +kernel
theorem d_M_isIn_2 : decode b_M_isIn 2 = .ok (.if_icmp .lt 12, 3) := by decide +kernel
theorem d_M_isIn_5 : decode b_M_isIn 5 = .ok (.iload_n 0, 1) := by decide +kernel
theorem d_M_isIn_6 : decode b_M_isIn 6 = .ok (.iload_n 2, 1) := by decide +kernel
theorem d_M_isIn_7 : decode b_M_isIn 7 = .ok (.if_icmp .gt 7, 3) := by decide +kernel
theorem d_M_isIn_10 : decode b_M_isIn 10 = .ok (.iconst 1, 1) := by decide +kernel
theorem d_M_isIn_11 : decode b_M_isIn 11 = .ok (.goto 4, 3) := by decide +kernel
theorem d_M_isIn_14 : decode b_M_isIn 14 = .ok (.iconst 0, 1) := by decide +kernel
theorem d_M_isIn_15 : decode b_M_isIn 15 = .ok (.ireturn, 1) := by decide +kernel
theorem d_M_isAnimal_0 : decode b_M_isAnimal 0 = .ok (.iload_n 1, 1) := by decide +kernel
theorem d_M_isAnimal_1 : decode b_M_isAnimal 1 = .ok (.iconst 0, 1) := by decide +kernel
theorem d_M_isAnimal_2 : decode b_M_isAnimal 2 = .ok (.aload_n 0, 1) := by decide +kernel
theorem d_M_isAnimal_3 : decode b_M_isAnimal 3 = .ok (.getfield 72, 3) := by decide +kernel
theorem d_M_isAnimal_6 : decode b_M_isAnimal 6 = .ok (.iconst 1, 1) := by decide +kernel
theorem d_M_isAnimal_7 : decode b_M_isAnimal 7 = .ok (.isub, 1) := by decide +kernel
theorem d_M_isAnimal_8 : decode b_M_isAnimal 8 = .ok (.invokestatic 75, 3) := by decide +kernel
theorem d_M_isAnimal_11 : decode b_M_isAnimal 11 = .ok (.ireturn, 1) := by decide +kernel
theorem d_M_leave_0 : decode b_M_leave 0 = .ok (.aload_n 0, 1) := by decide +kernel
theorem d_M_leave_1 : decode b_M_leave 1 = .ok (.iconst 0, 1) := by decide +kernel
theorem d_M_leave_2 : decode b_M_leave 2 = .ok (.putfield 79, 3) := by decide +kernel
theorem d_M_leave_5 : decode b_M_leave 5 = .ok (.return_, 1) := by decide +kernel
theorem d_M_animal_0 : decode b_M_animal 0 = .ok (.iload_n 1, 1) := by decide +kernel
theorem d_M_animal_1 : decode b_M_animal 1 = .ok (.iconst 0, 1) := by decide +kernel
theorem d_M_animal_2 : decode b_M_animal 2 = .ok (.iconst 1, 1) := by decide +kernel
theorem d_M_animal_3 : decode b_M_animal 3 = .ok (.invokestatic 75, 3) := by decide +kernel
theorem d_M_animal_6 : decode b_M_animal 6 = .ok (.ifCond .eq 26, 3) := by decide +kernel
theorem d_M_animal_9 : decode b_M_animal 9 = .ok (.iload_n 2, 1) := by decide +kernel
theorem d_M_animal_10 : decode b_M_animal 10 = .ok (.sipush (-10000), 3) := by decide +kernel
theorem d_M_animal_13 : decode b_M_animal 13 = .ok (.sipush 10000, 3) := by decide +kernel
theorem d_M_animal_16 : decode b_M_animal 16 = .ok (.invokestatic 75, 3) := by decide +kernel
theorem d_M_animal_19 : decode b_M_animal 19 = .ok (.ifCond .eq 13, 3) := by decide +kernel
theorem d_M_animal_22 : decode b_M_animal 22 = .ok (.iload_n 3, 1) := by decide +kernel
theorem d_M_animal_23 : decode b_M_animal 23 = .ok (.iconst 0, 1) := by decide +kernel
theorem d_M_animal_24 : decode b_M_animal 24 = .ok (.bipush 7, 2) := by decide +kernel
theorem d_M_animal_26 : decode b_M_animal 26 = .ok (.invokestatic 75, 3) := by decide +kernel
theorem d_M_animal_29 : decode b_M_animal 29 = .ok (.ifCond .ne 6, 3) := by decide +kernel
theorem d_M_animal_32 : decode b_M_animal 32 = .ok (.bipush (-2), 2) := by decide +kernel
theorem d_M_animal_34 : decode b_M_animal 34 = .ok (.ireturn, 1) := by decide +kernel
theorem d_M_animal_35 : decode b_M_animal 35 = .ok (.aload_n 0, 1) := by decide +kernel
theorem d_M_animal_36 : decode b_M_animal 36 = .ok (.getfield 72, 3) := by decide +kernel
theorem d_M_animal_39 : decode b_M_animal 39 = .ok (.bipush 12, 2) := by decide +kernel
theorem d_M_animal_41 : decode b_M_animal 41 = .ok (.if_icmp .ne 6, 3) := by decide +kernel
theorem d_M_animal_44 : decode b_M_animal 44 = .ok (.bipush (-4), 2) := by decide +kernel
theorem d_M_animal_46 : decode b_M_animal 46 = .ok (.ireturn, 1) := by decide +kernel
theorem d_M_animal_47 : decode b_M_animal 47 = .ok (.aload_n 0, 1) := by decide +kernel
theorem d_M_animal_48 : decode b_M_animal 48 = .ok (.invokevirtual 82, 3) := by decide +kernel
theorem d_M_animal_51 : decode b_M_animal 51 = .ok (.aload_n 0, 1) := by decide +kernel
theorem d_M_animal_52 : decode b_M_animal 52 = .ok (.getfield 7, 3) := by decide +kernel
theorem d_M_animal_55 : decode b_M_animal 55 = .ok (.aload_n 0, 1) := by decide +kernel
theorem d_M_animal_56 : decode b_M_animal 56 = .ok (.getfield 72, 3) := by decide +kernel
theorem d_M_animal_59 : decode b_M_animal 59 = .ok (.iload_n 1, 1) := by decide +kernel
theorem d_M_animal_60 : decode b_M_animal 60 = .ok (.iastore, 1) := by decide +kernel
theorem d_M_animal_61 : decode b_M_animal 61 = .ok (.aload_n 0, 1) := by decide +kernel
theorem d_M_animal_62 : decode b_M_animal 62 = .ok (.getfield 13, 3) := by decide +kernel
theorem d_M_animal_65 : decode b_M_animal 65 = .ok (.aload_n 0, 1) := by decide +kernel
theorem d_M_animal_66 : decode b_M_animal 66 = .ok (.getfield 72, 3) := by decide +kernel
theorem d_M_animal_69 : decode b_M_animal 69 = .ok (.iload_n 2, 1) := by decide +kernel
theorem d_M_animal_70 : decode b_M_animal 70 = .ok (.iastore, 1) := by decide +kernel
theorem d_M_animal_71 : decode b_M_animal 71 = .ok (.aload_n 0, 1) := by decide +kernel
theorem d_M_animal_72 : decode b_M_animal 72 = .ok (.getfield 16, 3) := by decide +kernel
theorem d_M_animal_75 : decode b_M_animal 75 = .ok (.aload_n 0, 1) := by decide +kernel
theorem d_M_animal_76 : decode b_M_animal 76 = .ok (.getfield 72, 3) := by decide +kernel
theorem d_M_animal_79 : decode b_M_animal 79 = .ok (.iload_n 3, 1) := by decide +kernel
theorem d_M_animal_80 : decode b_M_animal 80 = .ok (.iastore, 1) := by decide +kernel
theorem d_M_animal_81 : decode b_M_animal 81 = .ok (.aload_n 0, 1) := by decide +kernel
theorem d_M_animal_82 : decode b_M_animal 82 = .ok (.dup, 1) := by decide +kernel
theorem d_M_animal_83 : decode b_M_animal 83 = .ok (.getfield 72, 3) := by decide +kernel
theorem d_M_animal_86 : decode b_M_animal 86 = .ok (.iconst 1, 1) := by decide +kernel
theorem d_M_animal_87 : decode b_M_animal 87 = .ok (.iadd, 1) := by decide +kernel
theorem d_M_animal_88 : decode b_M_animal 88 = .ok (.putfield 72, 3) := by decide +kernel
theorem d_M_animal_91 : decode b_M_animal 91 = .ok (.aload_n 0, 1) := by decide +kernel
theorem d_M_animal_92 : decode b_M_animal 92 = .ok (.getfield 72, 3) := by decide +kernel
theorem d_M_animal_95 : decode b_M_animal 95 = .ok (.iconst 1, 1) := by decide +kernel
theorem d_M_animal_96 : decode b_M_animal 96 = .ok (.isub, 1) := by decide +kernel
theorem d_M_animal_97 : decode b_M_animal 97 = .ok (.ireturn, 1) := by decide +kernel
theorem d_M_worth_0 : decode b_M_worth 0 = .ok (.aload_n 0, 1) := by decide +kernel
theorem d_M_worth_1 : decode b_M_worth 1 = .ok (.iload_n 1, 1) := by decide +kernel
theorem d_M_worth_2 : decode b_M_worth 2 = .ok (.invokevirtual 85, 3) := by decide +kernel
theorem d_M_worth_5 : decode b_M_worth 5 = .ok (.ifCond .ne 7, 3) := by decide +kernel
theorem d_M_worth_8 : decode b_M_worth 8 = .ok (.sipush (-20000), 3) := by decide +kernel
theorem d_M_worth_11 : decode b_M_worth 11 = .ok (.ireturn, 1) := by decide +kernel
theorem d_M_worth_12 : decode b_M_worth 12 = .ok (.iload_n 2, 1) := by decide +kernel
theorem d_M_worth_13 : decode b_M_worth 13 = .ok (.sipush (-10000), 3) := by decide +kernel
theorem d_M_worth_16 : decode b_M_worth 16 = .ok (.sipush 10000, 3) := by decide +kernel
theorem d_M_worth_19 : decode b_M_worth 19 = .ok (.invokestatic 75, 3) := by decide +kernel
theorem d_M_worth_22 : decode b_M_worth 22 = .ok (.ifCond .ne 7, 3) := by decide +kernel
theorem d_M_worth_25 : decode b_M_worth 25 = .ok (.sipush (-20001), 3) := by decide +kernel
theorem d_M_worth_28 : decode b_M_worth 28 = .ok (.ireturn, 1) := by decide +kernel
theorem d_M_worth_29 : decode b_M_worth 29 = .ok (.aload_n 0, 1) := by decide +kernel
theorem d_M_worth_30 : decode b_M_worth 30 = .ok (.getfield 13, 3) := by decide +kernel
theorem d_M_worth_33 : decode b_M_worth 33 = .ok (.iload_n 1, 1) := by decide +kernel
theorem d_M_worth_34 : decode b_M_worth 34 = .ok (.iaload, 1) := by decide +kernel
theorem d_M_worth_35 : decode b_M_worth 35 = .ok (.istore_n 3, 1) := by decide +kernel
theorem d_M_worth_36 : decode b_M_worth 36 = .ok (.aload_n 0, 1) := by decide +kernel
theorem d_M_worth_37 : decode b_M_worth 37 = .ok (.getfield 13, 3) := by decide +kernel
theorem d_M_worth_40 : decode b_M_worth 40 = .ok (.iload_n 1, 1) := by decide +kernel
theorem d_M_worth_41 : decode b_M_worth 41 = .ok (.iload_n 2, 1) := by decide +kernel
theorem d_M_worth_42 : decode b_M_worth 42 = .ok (.iastore, 1) := by decide +kernel
theorem d_M_worth_43 : decode b_M_worth 43 = .ok (.iload_n 3, 1) := by decide +kernel
theorem d_M_worth_44 : decode b_M_worth 44 = .ok (.iload_n 2, 1) := by decide +kernel
theorem d_M_worth_45 : decode b_M_worth 45 = .ok (.if_icmp .eq 7, 3) := by decide +kernel
theorem d_M_worth_48 : decode b_M_worth 48 = .ok (.aload_n 0, 1) := by decide +kernel
theorem d_M_worth_49 : decode b_M_worth 49 = .ok (.invokevirtual 82, 3) := by decide +kernel
theorem d_M_worth_52 : decode b_M_worth 52 = .ok (.iload_n 3, 1) := by decide +kernel
theorem d_M_worth_53 : decode b_M_worth 53 = .ok (.ireturn, 1) := by decide +kernel
theorem d_M_kin_0 : decode b_M_kin 0 = .ok (.aload_n 0, 1) := by decide +kernel
theorem d_M_kin_1 : decode b_M_kin 1 = .ok (.iload_n 1, 1) := by decide +kernel
theorem d_M_kin_2 : decode b_M_kin 2 = .ok (.invokevirtual 85, 3) := by decide +kernel
theorem d_M_kin_5 : decode b_M_kin 5 = .ok (.ifCond .eq 11, 3) := by decide +kernel
theorem d_M_kin_8 : decode b_M_kin 8 = .ok (.aload_n 0, 1) := by decide +kernel
theorem d_M_kin_9 : decode b_M_kin 9 = .ok (.iload_n 2, 1) := by decide +kernel
theorem d_M_kin_10 : decode b_M_kin 10 = .ok (.invokevirtual 85, 3) := by decide +kernel
theorem d_M_kin_13 : decode b_M_kin 13 = .ok (.ifCond .ne 5, 3) := by decide +kernel
theorem d_M_kin_16 : decode b_M_kin 16 = .ok (.iconst (-1), 1) := by decide +kernel
theorem d_M_kin_17 : decode b_M_kin 17 = .ok (.ireturn, 1) := by decide +kernel
theorem d_M_kin_18 : decode b_M_kin 18 = .ok (.iload_n 3, 1) := by decide +kernel
theorem d_M_kin_19 : decode b_M_kin 19 = .ok (.iconst 0, 1) := by decide +kernel
theorem d_M_kin_20 : decode b_M_kin 20 = .ok (.sipush 1000, 3) := by decide +kernel
theorem d_M_kin_23 : decode b_M_kin 23 = .ok (.invokestatic 75, 3) := by decide +kernel
theorem d_M_kin_26 : decode b_M_kin 26 = .ok (.ifCond .ne 6, 3) := by decide +kernel
theorem d_M_kin_29 : decode b_M_kin 29 = .ok (.bipush (-2), 2) := by decide +kernel
theorem d_M_kin_31 : decode b_M_kin 31 = .ok (.ireturn, 1) := by decide +kernel
theorem d_M_kin_32 : decode b_M_kin 32 = .ok (.aload_n 0, 1) := by decide +kernel
theorem d_M_kin_33 : decode b_M_kin 33 = .ok (.getfield 19, 3) := by decide +kernel
theorem d_M_kin_36 : decode b_M_kin 36 = .ok (.bipush 12, 2) := by decide +kernel
theorem d_M_kin_38 : decode b_M_kin 38 = .ok (.iload_n 1, 1) := by decide +kernel
theorem d_M_kin_39 : decode b_M_kin 39 = .ok (.imul, 1) := by decide +kernel
theorem d_M_kin_40 : decode b_M_kin 40 = .ok (.iload_n 2, 1) := by decide +kernel
theorem d_M_kin_41 : decode b_M_kin 41 = .ok (.iadd, 1) := by decide +kernel
theorem d_M_kin_42 : decode b_M_kin 42 = .ok (.iaload, 1) := by decide +kernel
theorem d_M_kin_43 : decode b_M_kin 43 = .ok (.istore 4, 2) := by decide +kernel
theorem d_M_kin_45 : decode b_M_kin 45 = .ok (.aload_n 0, 1) := by decide +kernel
theorem d_M_kin_46 : decode b_M_kin 46 = .ok (.getfield 19, 3) := by decide +kernel
theorem d_M_kin_49 : decode b_M_kin 49 = .ok (.bipush 12, 2) := by decide +kernel
theorem d_M_kin_51 : decode b_M_kin 51 = .ok (.iload_n 1, 1) := by decide +kernel
theorem d_M_kin_52 : decode b_M_kin 52 = .ok (.imul, 1) := by decide +kernel
theorem d_M_kin_53 : decode b_M_kin 53 = .ok (.iload_n 2, 1) := by decide +kernel
theorem d_M_kin_54 : decode b_M_kin 54 = .ok (.iadd, 1) := by decide +kernel
theorem d_M_kin_55 : decode b_M_kin 55 = .ok (.iload_n 3, 1) := by decide +kernel
theorem d_M_kin_56 : decode b_M_kin 56 = .ok (.iastore, 1) := by decide +kernel
theorem d_M_kin_57 : decode b_M_kin 57 = .ok (.aload_n 0, 1) := by decide +kernel
theorem d_M_kin_58 : decode b_M_kin 58 = .ok (.getfield 19, 3) := by decide +kernel
theorem d_M_kin_61 : decode b_M_kin 61 = .ok (.bipush 12, 2) := by decide +kernel
theorem d_M_kin_63 : decode b_M_kin 63 = .ok (.iload_n 2, 1) := by decide +kernel
theorem d_M_kin_64 : decode b_M_kin 64 = .ok (.imul, 1) := by decide +kernel
theorem d_M_kin_65 : decode b_M_kin 65 = .ok (.iload_n 1, 1) := by decide +kernel
theorem d_M_kin_66 : decode b_M_kin 66 = .ok (.iadd, 1) := by decide +kernel
theorem d_M_kin_67 : decode b_M_kin 67 = .ok (.iload_n 3, 1) := by decide +kernel
theorem d_M_kin_68 : decode b_M_kin 68 = .ok (.iastore, 1) := by decide +kernel
theorem d_M_kin_69 : decode b_M_kin 69 = .ok (.iload 4, 2) := by decide +kernel
theorem d_M_kin_71 : decode b_M_kin 71 = .ok (.iload_n 3, 1) := by decide +kernel
theorem d_M_kin_72 : decode b_M_kin 72 = .ok (.if_icmp .eq 7, 3) := by decide +kernel
theorem d_M_kin_75 : decode b_M_kin 75 = .ok (.aload_n 0, 1) := by decide +kernel
theorem d_M_kin_76 : decode b_M_kin 76 = .ok (.invokevirtual 82, 3) := by decide +kernel
theorem d_M_kin_79 : decode b_M_kin 79 = .ok (.iload 4, 2) := by decide +kernel
theorem d_M_kin_81 : decode b_M_kin 81 = .ok (.ireturn, 1) := by decide +kernel
theorem d_M_bar_0 : decode b_M_bar 0 = .ok (.aload_n 0, 1) := by decide +kernel
theorem d_M_bar_1 : decode b_M_bar 1 = .ok (.iload_n 1, 1) := by decide +kernel
theorem d_M_bar_2 : decode b_M_bar 2 = .ok (.invokevirtual 85, 3) := by decide +kernel
theorem d_M_bar_5 : decode b_M_bar 5 = .ok (.ifCond .eq 41, 3) := by decide +kernel
theorem d_M_bar_8 : decode b_M_bar 8 = .ok (.aload_n 0, 1) := by decide +kernel
theorem d_M_bar_9 : decode b_M_bar 9 = .ok (.iload_n 2, 1) := by decide +kernel
theorem d_M_bar_10 : decode b_M_bar 10 = .ok (.invokevirtual 85, 3) := by decide +kernel
theorem d_M_bar_13 : decode b_M_bar 13 = .ok (.ifCond .eq 33, 3) := by decide +kernel
theorem d_M_bar_16 : decode b_M_bar 16 = .ok (.aload_n 0, 1) := by decide +kernel
theorem d_M_bar_17 : decode b_M_bar 17 = .ok (.getfield 7, 3) := by decide +kernel
theorem d_M_bar_20 : decode b_M_bar 20 = .ok (.iload_n 1, 1) := by decide +kernel
theorem d_M_bar_21 : decode b_M_bar 21 = .ok (.iaload, 1) := by decide +kernel
theorem d_M_bar_22 : decode b_M_bar 22 = .ok (.aload_n 0, 1) := by decide +kernel
theorem d_M_bar_23 : decode b_M_bar 23 = .ok (.getfield 7, 3) := by decide +kernel
theorem d_M_bar_26 : decode b_M_bar 26 = .ok (.iload_n 2, 1) := by decide +kernel
theorem d_M_bar_27 : decode b_M_bar 27 = .ok (.iaload, 1) := by decide +kernel
theorem d_M_bar_28 : decode b_M_bar 28 = .ok (.if_icmp .eq 18, 3) := by decide +kernel
theorem d_M_bar_31 : decode b_M_bar 31 = .ok (.aload_n 0, 1) := by decide +kernel
theorem d_M_bar_32 : decode b_M_bar 32 = .ok (.getfield 22, 3) := by decide +kernel
theorem d_M_bar_35 : decode b_M_bar 35 = .ok (.bipush 12, 2) := by decide +kernel
theorem d_M_bar_37 : decode b_M_bar 37 = .ok (.iload_n 1, 1) := by decide +kernel
theorem d_M_bar_38 : decode b_M_bar 38 = .ok (.imul, 1) := by decide +kernel
theorem d_M_bar_39 : decode b_M_bar 39 = .ok (.iload_n 2, 1) := by decide +kernel
theorem d_M_bar_40 : decode b_M_bar 40 = .ok (.iadd, 1) := by decide +kernel
theorem d_M_bar_41 : decode b_M_bar 41 = .ok (.baload, 1) := by decide +kernel
theorem d_M_bar_42 : decode b_M_bar 42 = .ok (.iload_n 3, 1) := by decide +kernel
theorem d_M_bar_43 : decode b_M_bar 43 = .ok (.if_icmp .ne 5, 3) := by decide +kernel
theorem d_M_bar_46 : decode b_M_bar 46 = .ok (.iconst 0, 1) := by decide +kernel
theorem d_M_bar_47 : decode b_M_bar 47 = .ok (.ireturn, 1) := by decide +kernel
theorem d_M_bar_48 : decode b_M_bar 48 = .ok (.aload_n 0, 1) := by decide +kernel
theorem d_M_bar_49 : decode b_M_bar 49 = .ok (.getfield 22, 3) := by decide +kernel
theorem d_M_bar_52 : decode b_M_bar 52 = .ok (.bipush 12, 2) := by decide +kernel
theorem d_M_bar_54 : decode b_M_bar 54 = .ok (.iload_n 1, 1) := by decide +kernel
theorem d_M_bar_55 : decode b_M_bar 55 = .ok (.imul, 1) := by decide +kernel
theorem d_M_bar_56 : decode b_M_bar 56 = .ok (.iload_n 2, 1) := by decide +kernel
theorem d_M_bar_57 : decode b_M_bar 57 = .ok (.iadd, 1) := by decide +kernel
theorem d_M_bar_58 : decode b_M_bar 58 = .ok (.iload_n 3, 1) := by decide +kernel
theorem d_M_bar_59 : decode b_M_bar 59 = .ok (.bastore, 1) := by decide +kernel
theorem d_M_bar_60 : decode b_M_bar 60 = .ok (.aload_n 0, 1) := by decide +kernel
theorem d_M_bar_61 : decode b_M_bar 61 = .ok (.getfield 22, 3) := by decide +kernel
theorem d_M_bar_64 : decode b_M_bar 64 = .ok (.bipush 12, 2) := by decide +kernel
theorem d_M_bar_66 : decode b_M_bar 66 = .ok (.iload_n 2, 1) := by decide +kernel
theorem d_M_bar_67 : decode b_M_bar 67 = .ok (.imul, 1) := by decide +kernel
theorem d_M_bar_68 : decode b_M_bar 68 = .ok (.iload_n 1, 1) := by decide +kernel
theorem d_M_bar_69 : decode b_M_bar 69 = .ok (.iadd, 1) := by decide +kernel
theorem d_M_bar_70 : decode b_M_bar 70 = .ok (.iload_n 3, 1) := by decide +kernel
theorem d_M_bar_71 : decode b_M_bar 71 = .ok (.bastore, 1) := by decide +kernel
theorem d_M_bar_72 : decode b_M_bar 72 = .ok (.aload_n 0, 1) := by decide +kernel
theorem d_M_bar_73 : decode b_M_bar 73 = .ok (.invokevirtual 82, 3) := by decide +kernel
theorem d_M_bar_76 : decode b_M_bar 76 = .ok (.iconst 1, 1) := by decide +kernel
theorem d_M_bar_77 : decode b_M_bar 77 = .ok (.ireturn, 1) := by decide +kernel
theorem d_M_limit_0 : decode b_M_limit 0 = .ok (.iload_n 1, 1) := by decide +kernel
theorem d_M_limit_1 : decode b_M_limit 1 = .ok (.iconst 0, 1) := by decide +kernel
theorem d_M_limit_2 : decode b_M_limit 2 = .ok (.sipush 1000, 3) := by decide +kernel
theorem d_M_limit_5 : decode b_M_limit 5 = .ok (.invokestatic 75, 3) := by decide +kernel
theorem d_M_limit_8 : decode b_M_limit 8 = .ok (.ifCond .ne 6, 3) := by decide +kernel
theorem d_M_limit_11 : decode b_M_limit 11 = .ok (.bipush (-2), 2) := by decide +kernel
theorem d_M_limit_13 : decode b_M_limit 13 = .ok (.ireturn, 1) := by decide +kernel
theorem d_M_limit_14 : decode b_M_limit 14 = .ok (.aload_n 0, 1) := by decide +kernel
theorem d_M_limit_15 : decode b_M_limit 15 = .ok (.getfield 26, 3) := by decide +kernel
theorem d_M_limit_18 : decode b_M_limit 18 = .ok (.istore_n 2, 1) := by decide +kernel
theorem d_M_limit_19 : decode b_M_limit 19 = .ok (.aload_n 0, 1) := by decide +kernel
theorem d_M_limit_20 : decode b_M_limit 20 = .ok (.iload_n 1, 1) := by decide +kernel
theorem d_M_limit_21 : decode b_M_limit 21 = .ok (.putfield 26, 3) := by decide +kernel
theorem d_M_limit_24 : decode b_M_limit 24 = .ok (.iload_n 2, 1) := by decide +kernel
theorem d_M_limit_25 : decode b_M_limit 25 = .ok (.iload_n 1, 1) := by decide +kernel
theorem d_M_limit_26 : decode b_M_limit 26 = .ok (.if_icmp .eq 7, 3) := by decide +kernel
theorem d_M_limit_29 : decode b_M_limit 29 = .ok (.aload_n 0, 1) := by decide +kernel
theorem d_M_limit_30 : decode b_M_limit 30 = .ok (.invokevirtual 82, 3) := by decide +kernel
theorem d_M_limit_33 : decode b_M_limit 33 = .ok (.iload_n 2, 1) := by decide +kernel
theorem d_M_limit_34 : decode b_M_limit 34 = .ok (.ireturn, 1) := by decide +kernel
theorem d_M_even_0 : decode b_M_even 0 = .ok (.iload_n 1, 1) := by decide +kernel
theorem d_M_even_1 : decode b_M_even 1 = .ok (.iconst 0, 1) := by decide +kernel
theorem d_M_even_2 : decode b_M_even 2 = .ok (.bipush 12, 2) := by decide +kernel
theorem d_M_even_4 : decode b_M_even 4 = .ok (.invokestatic 75, 3) := by decide +kernel
theorem d_M_even_7 : decode b_M_even 7 = .ok (.ifCond .ne 6, 3) := by decide +kernel
theorem d_M_even_10 : decode b_M_even 10 = .ok (.bipush (-2), 2) := by decide +kernel
theorem d_M_even_12 : decode b_M_even 12 = .ok (.ireturn, 1) := by decide +kernel
theorem d_M_even_13 : decode b_M_even 13 = .ok (.aload_n 0, 1) := by decide +kernel
theorem d_M_even_14 : decode b_M_even 14 = .ok (.getfield 89, 3) := by decide +kernel
theorem d_M_even_17 : decode b_M_even 17 = .ok (.istore_n 2, 1) := by decide +kernel
theorem d_M_even_18 : decode b_M_even 18 = .ok (.aload_n 0, 1) := by decide +kernel
theorem d_M_even_19 : decode b_M_even 19 = .ok (.iload_n 1, 1) := by decide +kernel
theorem d_M_even_20 : decode b_M_even 20 = .ok (.putfield 89, 3) := by decide +kernel
theorem d_M_even_23 : decode b_M_even 23 = .ok (.iload_n 2, 1) := by decide +kernel
theorem d_M_even_24 : decode b_M_even 24 = .ok (.iload_n 1, 1) := by decide +kernel
theorem d_M_even_25 : decode b_M_even 25 = .ok (.if_icmp .eq 7, 3) := by decide +kernel
theorem d_M_even_28 : decode b_M_even 28 = .ok (.aload_n 0, 1) := by decide +kernel
theorem d_M_even_29 : decode b_M_even 29 = .ok (.invokevirtual 82, 3) := by decide +kernel
theorem d_M_even_32 : decode b_M_even 32 = .ok (.iload_n 2, 1) := by decide +kernel
theorem d_M_even_33 : decode b_M_even 33 = .ok (.ireturn, 1) := by decide +kernel
theorem d_M_line_0 : decode b_M_line 0 = .ok (.iload_n 1, 1) := by decide +kernel
theorem d_M_line_1 : decode b_M_line 1 = .ok (.iconst 0, 1) := by decide +kernel
theorem d_M_line_2 : decode b_M_line 2 = .ok (.bipush 7, 2) := by decide +kernel
theorem d_M_line_4 : decode b_M_line 4 = .ok (.invokestatic 75, 3) := by decide +kernel
theorem d_M_line_7 : decode b_M_line 7 = .ok (.ifCond .ne 5, 3) := by decide +kernel
theorem d_M_line_10 : decode b_M_line 10 = .ok (.iconst (-1), 1) := by decide +kernel
theorem d_M_line_11 : decode b_M_line 11 = .ok (.ireturn, 1) := by decide +kernel
theorem d_M_line_12 : decode b_M_line 12 = .ok (.iload_n 2, 1) := by decide +kernel
theorem d_M_line_13 : decode b_M_line 13 = .ok (.iconst 0, 1) := by decide +kernel
theorem d_M_line_14 : decode b_M_line 14 = .ok (.bipush 12, 2) := by decide +kernel
theorem d_M_line_16 : decode b_M_line 16 = .ok (.invokestatic 75, 3) := by decide +kernel
theorem d_M_line_19 : decode b_M_line 19 = .ok (.ifCond .ne 6, 3) := by decide +kernel
theorem d_M_line_22 : decode b_M_line 22 = .ok (.bipush (-2), 2) := by decide +kernel
theorem d_M_line_24 : decode b_M_line 24 = .ok (.ireturn, 1) := by decide +kernel
theorem d_M_line_25 : decode b_M_line 25 = .ok (.aload_n 0, 1) := by decide +kernel
theorem d_M_line_26 : decode b_M_line 26 = .ok (.getfield 30, 3) := by decide +kernel
theorem d_M_line_29 : decode b_M_line 29 = .ok (.iload_n 1, 1) := by decide +kernel
theorem d_M_line_30 : decode b_M_line 30 = .ok (.iaload, 1) := by decide +kernel
theorem d_M_line_31 : decode b_M_line 31 = .ok (.istore_n 3, 1) := by decide +kernel
theorem d_M_line_32 : decode b_M_line 32 = .ok (.aload_n 0, 1) := by decide +kernel
theorem d_M_line_33 : decode b_M_line 33 = .ok (.getfield 30, 3) := by decide +kernel
theorem d_M_line_36 : decode b_M_line 36 = .ok (.iload_n 1, 1) := by decide +kernel
theorem d_M_line_37 : decode b_M_line 37 = .ok (.iload_n 2, 1) := by decide +kernel
theorem d_M_line_38 : decode b_M_line 38 = .ok (.iastore, 1) := by decide +kernel
theorem d_M_line_39 : decode b_M_line 39 = .ok (.iload_n 3, 1) := by decide +kernel
theorem d_M_line_40 : decode b_M_line 40 = .ok (.iload_n 2, 1) := by decide +kernel
theorem d_M_line_41 : decode b_M_line 41 = .ok (.if_icmp .eq 7, 3) := by decide +kernel
theorem d_M_line_44 : decode b_M_line 44 = .ok (.aload_n 0, 1) := by decide +kernel
theorem d_M_line_45 : decode b_M_line 45 = .ok (.invokevirtual 82, 3) := by decide +kernel
theorem d_M_line_48 : decode b_M_line 48 = .ok (.iload_n 3, 1) := by decide +kernel
theorem d_M_line_49 : decode b_M_line 49 = .ok (.ireturn, 1) := by decide +kernel
theorem d_M_kinOf_0 : decode b_M_kinOf 0 = .ok (.iconst 0, 1) := by decide +kernel
theorem d_M_kinOf_1 : decode b_M_kinOf 1 = .ok (.istore_n 2, 1) := by decide +kernel
theorem d_M_kinOf_2 : decode b_M_kinOf 2 = .ok (.iconst 0, 1) := by decide +kernel
theorem d_M_kinOf_3 : decode b_M_kinOf 3 = .ok (.istore_n 3, 1) := by decide +kernel
theorem d_M_kinOf_4 : decode b_M_kinOf 4 = .ok (.iload_n 3, 1) := by decide +kernel
theorem d_M_kinOf_5 : decode b_M_kinOf 5 = .ok (.aload_n 0, 1) := by decide +kernel
theorem d_M_kinOf_6 : decode b_M_kinOf 6 = .ok (.getfield 72, 3) := by decide +kernel
theorem d_M_kinOf_9 : decode b_M_kinOf 9 = .ok (.if_icmp .ge 65, 3) := by decide +kernel
theorem d_M_kinOf_12 : decode b_M_kinOf 12 = .ok (.iconst 0, 1) := by decide +kernel
theorem d_M_kinOf_13 : decode b_M_kinOf 13 = .ok (.istore 4, 2) := by decide +kernel
theorem d_M_kinOf_15 : decode b_M_kinOf 15 = .ok (.iload 4, 2) := by decide +kernel
theorem d_M_kinOf_17 : decode b_M_kinOf 17 = .ok (.aload_n 0, 1) := by decide +kernel
theorem d_M_kinOf_18 : decode b_M_kinOf 18 = .ok (.getfield 72, 3) := by decide +kernel
theorem d_M_kinOf_21 : decode b_M_kinOf 21 = .ok (.if_icmp .ge 47, 3) := by decide +kernel
theorem d_M_kinOf_24 : decode b_M_kinOf 24 = .ok (.iload_n 1, 1) := by decide +kernel
theorem d_M_kinOf_25 : decode b_M_kinOf 25 = .ok (.iload_n 3, 1) := by decide +kernel
theorem d_M_kinOf_26 : decode b_M_kinOf 26 = .ok (.ishr, 1) := by decide +kernel
theorem d_M_kinOf_27 : decode b_M_kinOf 27 = .ok (.iconst 1, 1) := by decide +kernel
theorem d_M_kinOf_28 : decode b_M_kinOf 28 = .ok (.iand, 1) := by decide +kernel
theorem d_M_kinOf_29 : decode b_M_kinOf 29 = .ok (.iconst 1, 1) := by decide +kernel
theorem d_M_kinOf_30 : decode b_M_kinOf 30 = .ok (.if_icmp .ne 30, 3) := by decide +kernel
theorem d_M_kinOf_33 : decode b_M_kinOf 33 = .ok (.iload_n 1, 1) := by decide +kernel
theorem d_M_kinOf_34 : decode b_M_kinOf 34 = .ok (.iload 4, 2) := by decide +kernel
theorem d_M_kinOf_36 : decode b_M_kinOf 36 = .ok (.ishr, 1) := by decide +kernel
theorem d_M_kinOf_37 : decode b_M_kinOf 37 = .ok (.iconst 1, 1) := by decide +kernel
theorem d_M_kinOf_38 : decode b_M_kinOf 38 = .ok (.iand, 1) := by decide +kernel
theorem d_M_kinOf_39 : decode b_M_kinOf 39 = .ok (.iconst 1, 1) := by decide +kernel
theorem d_M_kinOf_40 : decode b_M_kinOf 40 = .ok (.if_icmp .ne 20, 3) := by decide +kernel
theorem d_M_kinOf_43 : decode b_M_kinOf 43 = .ok (.iload_n 2, 1) := by decide +kernel
theorem d_M_kinOf_44 : decode b_M_kinOf 44 = .ok (.aload_n 0, 1) := by decide +kernel
theorem d_M_kinOf_45 : decode b_M_kinOf 45 = .ok (.getfield 19, 3) := by decide +kernel
theorem d_M_kinOf_48 : decode b_M_kinOf 48 = .ok (.bipush 12, 2) := by decide +kernel
theorem d_M_kinOf_50 : decode b_M_kinOf 50 = .ok (.iload_n 3, 1) := by decide +kernel
theorem d_M_kinOf_51 : decode b_M_kinOf 51 = .ok (.imul, 1) := by decide +kernel
theorem d_M_kinOf_52 : decode b_M_kinOf 52 = .ok (.iload 4, 2) := by decide +kernel
theorem d_M_kinOf_54 : decode b_M_kinOf 54 = .ok (.iadd, 1) := by decide +kernel
theorem d_M_kinOf_55 : decode b_M_kinOf 55 = .ok (.iaload, 1) := by decide +kernel
theorem d_M_kinOf_56 : decode b_M_kinOf 56 = .ok (.iadd, 1) := by decide +kernel
theorem d_M_kinOf_57 : decode b_M_kinOf 57 = .ok (.goto 4, 3) := by decide +kernel
theorem d_M_kinOf_60 : decode b_M_kinOf 60 = .ok (.iload_n 2, 1) := by decide +kernel
theorem d_M_kinOf_61 : decode b_M_kinOf 61 = .ok (.istore_n 2, 1) := by decide +kernel
theorem d_M_kinOf_62 : decode b_M_kinOf 62 = .ok (.iinc 4 1, 3) := by decide +kernel
theorem d_M_kinOf_65 : decode b_M_kinOf 65 = .ok (.goto (-50), 3) := by decide +kernel
theorem d_M_kinOf_68 : decode b_M_kinOf 68 = .ok (.iinc 3 1, 3) := by decide +kernel
theorem d_M_kinOf_71 : decode b_M_kinOf 71 = .ok (.goto (-67), 3) := by decide +kernel
theorem d_M_kinOf_74 : decode b_M_kinOf 74 = .ok (.iload_n 2, 1) := by decide +kernel
theorem d_M_kinOf_75 : decode b_M_kinOf 75 = .ok (.ireturn, 1) := by decide +kernel
theorem d_M_fitsFamilies_0 : decode b_M_fitsFamilies 0 = .ok (.iconst 1, 1) := by decide +kernel
theorem d_M_fitsFamilies_1 : decode b_M_fitsFamilies 1 = .ok (.istore_n 2, 1) := by decide +kernel
theorem d_M_fitsFamilies_2 : decode b_M_fitsFamilies 2 = .ok (.iconst 0, 1) := by decide +kernel
theorem d_M_fitsFamilies_3 : decode b_M_fitsFamilies 3 = .ok (.istore_n 3, 1) := by decide +kernel
theorem d_M_fitsFamilies_4 : decode b_M_fitsFamilies 4 = .ok (.iload_n 3, 1) := by decide +kernel
theorem d_M_fitsFamilies_5 : decode b_M_fitsFamilies 5 = .ok (.bipush 8, 2) := by decide +kernel
theorem d_M_fitsFamilies_7 : decode b_M_fitsFamilies 7 = .ok (.if_icmp .ge 99, 3) := by decide +kernel
theorem d_M_fitsFamilies_10 : decode b_M_fitsFamilies 10 = .ok (.iload_n 2, 1) := by decide +kernel
theorem d_M_fitsFamilies_11 : decode b_M_fitsFamilies 11 = .ok (.ifCond .eq 95, 3) := by decide +kernel
theorem d_M_fitsFamilies_14 : decode b_M_fitsFamilies 14 = .ok (.iconst 0, 1) := by decide +kernel
theorem d_M_fitsFamilies_15 : decode b_M_fitsFamilies 15 = .ok (.istore 4, 2) := by decide +kernel
theorem d_M_fitsFamilies_17 : decode b_M_fitsFamilies 17 = .ok (.iconst 0, 1) := by decide +kernel
theorem d_M_fitsFamilies_18 : decode b_M_fitsFamilies 18 = .ok (.istore 5, 2) := by decide +kernel
theorem d_M_fitsFamilies_20 : decode b_M_fitsFamilies 20 = .ok (.iload 5, 2) := by decide +kernel
theorem d_M_fitsFamilies_22 : decode b_M_fitsFamilies 22 = .ok (.aload_n 0, 1) := by decide +kernel
theorem d_M_fitsFamilies_23 : decode b_M_fitsFamilies 23 = .ok (.getfield 72, 3) := by decide +kernel
theorem d_M_fitsFamilies_26 : decode b_M_fitsFamilies 26 = .ok (.if_icmp .ge 41, 3) := by decide +kernel
