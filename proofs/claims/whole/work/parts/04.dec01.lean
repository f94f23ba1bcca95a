theorem d_Herd_kinSum_6 : decode b_Herd_kinSum 6 = .ok (.getfield 9, 3) := by decide +kernel
theorem d_Herd_kinSum_9 : decode b_Herd_kinSum 9 = .ok (.if_icmp .ge 69, 3) := by decide +kernel
theorem d_Herd_kinSum_12 : decode b_Herd_kinSum 12 = .ok (.iload_n 1, 1) := by decide +kernel
theorem d_Herd_kinSum_13 : decode b_Herd_kinSum 13 = .ok (.iload_n 3, 1) := by decide +kernel
theorem d_Herd_kinSum_14 : decode b_Herd_kinSum 14 = .ok (.invokestatic 46, 3) := by decide +kernel
theorem d_Herd_kinSum_17 : decode b_Herd_kinSum 17 = .ok (.ifCond .ne 6, 3) := by decide +kernel
theorem d_Herd_kinSum_20 : decode b_Herd_kinSum 20 = .ok (.goto 52, 3) := by decide +kernel
theorem d_Herd_kinSum_23 : decode b_Herd_kinSum 23 = .ok (.iload_n 2, 1) := by decide +kernel
theorem d_Herd_kinSum_24 : decode b_Herd_kinSum 24 = .ok (.aload_n 0, 1) := by decide +kernel
theorem d_Herd_kinSum_25 : decode b_Herd_kinSum 25 = .ok (.getfield 27, 3) := by decide +kernel
theorem d_Herd_kinSum_28 : decode b_Herd_kinSum 28 = .ok (.iload_n 3, 1) := by decide +kernel
theorem d_Herd_kinSum_29 : decode b_Herd_kinSum 29 = .ok (.aaload, 1) := by decide +kernel
theorem d_Herd_kinSum_30 : decode b_Herd_kinSum 30 = .ok (.iload_n 3, 1) := by decide +kernel
theorem d_Herd_kinSum_31 : decode b_Herd_kinSum 31 = .ok (.iaload, 1) := by decide +kernel
theorem d_Herd_kinSum_32 : decode b_Herd_kinSum 32 = .ok (.iadd, 1) := by decide +kernel
theorem d_Herd_kinSum_33 : decode b_Herd_kinSum 33 = .ok (.istore_n 2, 1) := by decide +kernel
theorem d_Herd_kinSum_34 : decode b_Herd_kinSum 34 = .ok (.iconst 0, 1) := by decide +kernel
theorem d_Herd_kinSum_35 : decode b_Herd_kinSum 35 = .ok (.istore 4, 2) := by decide +kernel
theorem d_Herd_kinSum_37 : decode b_Herd_kinSum 37 = .ok (.iload 4, 2) := by decide +kernel
theorem d_Herd_kinSum_39 : decode b_Herd_kinSum 39 = .ok (.iload_n 3, 1) := by decide +kernel
theorem d_Herd_kinSum_40 : decode b_Herd_kinSum 40 = .ok (.if_icmp .ge 32, 3) := by decide +kernel
theorem d_Herd_kinSum_43 : decode b_Herd_kinSum 43 = .ok (.iload_n 1, 1) := by decide +kernel
theorem d_Herd_kinSum_44 : decode b_Herd_kinSum 44 = .ok (.iload 4, 2) := by decide +kernel
theorem d_Herd_kinSum_46 : decode b_Herd_kinSum 46 = .ok (.invokestatic 46, 3) := by decide +kernel
theorem d_Herd_kinSum_49 : decode b_Herd_kinSum 49 = .ok (.ifCond .eq 17, 3) := by decide +kernel
theorem d_Herd_kinSum_52 : decode b_Herd_kinSum 52 = .ok (.iload_n 2, 1) := by decide +kernel
theorem d_Herd_kinSum_53 : decode b_Herd_kinSum 53 = .ok (.iconst 2, 1) := by decide +kernel
theorem d_Herd_kinSum_54 : decode b_Herd_kinSum 54 = .ok (.aload_n 0, 1) := by decide +kernel
theorem d_Herd_kinSum_55 : decode b_Herd_kinSum 55 = .ok (.getfield 27, 3) := by decide +kernel
theorem d_Herd_kinSum_58 : decode b_Herd_kinSum 58 = .ok (.iload_n 3, 1) := by decide +kernel
theorem d_Herd_kinSum_59 : decode b_Herd_kinSum 59 = .ok (.aaload, 1) := by decide +kernel
theorem d_Herd_kinSum_60 : decode b_Herd_kinSum 60 = .ok (.iload 4, 2) := by decide +kernel
theorem d_Herd_kinSum_62 : decode b_Herd_kinSum 62 = .ok (.iaload, 1) := by decide +kernel
theorem d_Herd_kinSum_63 : decode b_Herd_kinSum 63 = .ok (.imul, 1) := by decide +kernel
theorem d_Herd_kinSum_64 : decode b_Herd_kinSum 64 = .ok (.iadd, 1) := by decide +kernel
theorem d_Herd_kinSum_65 : decode b_Herd_kinSum 65 = .ok (.istore_n 2, 1) := by decide +kernel
theorem d_Herd_kinSum_66 : decode b_Herd_kinSum 66 = .ok (.iinc 4 1, 3) := by decide +kernel
theorem d_Herd_kinSum_69 : decode b_Herd_kinSum 69 = .ok (.goto (-32), 3) := by decide +kernel
theorem d_Herd_kinSum_72 : decode b_Herd_kinSum 72 = .ok (.iinc 3 1, 3) := by decide +kernel
theorem d_Herd_kinSum_75 : decode b_Herd_kinSum 75 = .ok (.goto (-71), 3) := by decide +kernel
theorem d_Herd_kinSum_78 : decode b_Herd_kinSum 78 = .ok (.iload_n 2, 1) := by decide +kernel
theorem d_Herd_kinSum_79 : decode b_Herd_kinSum 79 = .ok (.ireturn, 1) := by decide +kernel
theorem d_Herd_keepsFamilies_0 : decode b_Herd_keepsFamilies 0 = .ok (.iconst 0, 1) := by decide +kernel
theorem d_Herd_keepsFamilies_1 : decode b_Herd_keepsFamilies 1 = .ok (.istore_n 2, 1) := by decide +kernel
theorem d_Herd_keepsFamilies_2 : decode b_Herd_keepsFamilies 2 = .ok (.iload_n 2, 1) := by decide +kernel
theorem d_Herd_keepsFamilies_3 : decode b_Herd_keepsFamilies 3 = .ok (.bipush 8, 2) := by decide +kernel
theorem d_Herd_keepsFamilies_5 : decode b_Herd_keepsFamilies 5 = .ok (.if_icmp .ge 48, 3) := by decide +kernel
theorem d_Herd_keepsFamilies_8 : decode b_Herd_keepsFamilies 8 = .ok (.iload_n 1, 1) := by decide +kernel
theorem d_Herd_keepsFamilies_9 : decode b_Herd_keepsFamilies 9 = .ok (.aload_n 0, 1) := by decide +kernel
theorem d_Herd_keepsFamilies_10 : decode b_Herd_keepsFamilies 10 = .ok (.getfield 22, 3) := by decide +kernel
theorem d_Herd_keepsFamilies_13 : decode b_Herd_keepsFamilies 13 = .ok (.iload_n 2, 1) := by decide +kernel
theorem d_Herd_keepsFamilies_14 : decode b_Herd_keepsFamilies 14 = .ok (.iaload, 1) := by decide +kernel
theorem d_Herd_keepsFamilies_15 : decode b_Herd_keepsFamilies 15 = .ok (.iand, 1) := by decide +kernel
theorem d_Herd_keepsFamilies_16 : decode b_Herd_keepsFamilies 16 = .ok (.invokestatic 50, 3) := by decide +kernel
theorem d_Herd_keepsFamilies_19 : decode b_Herd_keepsFamilies 19 = .ok (.istore_n 3, 1) := by decide +kernel
theorem d_Herd_keepsFamilies_20 : decode b_Herd_keepsFamilies 20 = .ok (.iload_n 3, 1) := by decide +kernel
theorem d_Herd_keepsFamilies_21 : decode b_Herd_keepsFamilies 21 = .ok (.aload_n 0, 1) := by decide +kernel
theorem d_Herd_keepsFamilies_22 : decode b_Herd_keepsFamilies 22 = .ok (.getfield 39, 3) := by decide +kernel
theorem d_Herd_keepsFamilies_25 : decode b_Herd_keepsFamilies 25 = .ok (.iload_n 2, 1) := by decide +kernel
theorem d_Herd_keepsFamilies_26 : decode b_Herd_keepsFamilies 26 = .ok (.iaload, 1) := by decide +kernel
theorem d_Herd_keepsFamilies_27 : decode b_Herd_keepsFamilies 27 = .ok (.if_icmp .lt 18, 3) := by decide +kernel
theorem d_Herd_keepsFamilies_30 : decode b_Herd_keepsFamilies 30 = .ok (.aload_n 0, 1) := by decide +kernel
theorem d_Herd_keepsFamilies_31 : decode b_Herd_keepsFamilies 31 = .ok (.getfield 36, 3) := by decide +kernel
theorem d_Herd_keepsFamilies_34 : decode b_Herd_keepsFamilies 34 = .ok (.ifCond .le 13, 3) := by decide +kernel
theorem d_Herd_keepsFamilies_37 : decode b_Herd_keepsFamilies 37 = .ok (.iload_n 3, 1) := by decide +kernel
theorem d_Herd_keepsFamilies_38 : decode b_Herd_keepsFamilies 38 = .ok (.aload_n 0, 1) := by decide +kernel
theorem d_Herd_keepsFamilies_39 : decode b_Herd_keepsFamilies 39 = .ok (.getfield 36, 3) := by decide +kernel
theorem d_Herd_keepsFamilies_42 : decode b_Herd_keepsFamilies 42 = .ok (.if_icmp .le 5, 3) := by decide +kernel
theorem d_Herd_keepsFamilies_45 : decode b_Herd_keepsFamilies 45 = .ok (.iconst 0, 1) := by decide +kernel
theorem d_Herd_keepsFamilies_46 : decode b_Herd_keepsFamilies 46 = .ok (.ireturn, 1) := by decide +kernel
theorem d_Herd_keepsFamilies_47 : decode b_Herd_keepsFamilies 47 = .ok (.iinc 2 1, 3) := by decide +kernel
theorem d_Herd_keepsFamilies_50 : decode b_Herd_keepsFamilies 50 = .ok (.goto (-48), 3) := by decide +kernel
theorem d_Herd_keepsFamilies_53 : decode b_Herd_keepsFamilies 53 = .ok (.iconst 1, 1) := by decide +kernel
theorem d_Herd_keepsFamilies_54 : decode b_Herd_keepsFamilies 54 = .ok (.ireturn, 1) := by decide +kernel
theorem d_Herd_keepsRules_0 : decode b_Herd_keepsRules 0 = .ok (.aload_n 0, 1) := by decide +kernel
theorem d_Herd_keepsRules_1 : decode b_Herd_keepsRules 1 = .ok (.iload_n 1, 1) := by decide +kernel
theorem d_Herd_keepsRules_2 : decode b_Herd_keepsRules 2 = .ok (.invokevirtual 55, 3) := by decide +kernel
theorem d_Herd_keepsRules_5 : decode b_Herd_keepsRules 5 = .ok (.ifCond .eq 25, 3) := by decide +kernel
theorem d_Herd_keepsRules_8 : decode b_Herd_keepsRules 8 = .ok (.aload_n 0, 1) := by decide +kernel
theorem d_Herd_keepsRules_9 : decode b_Herd_keepsRules 9 = .ok (.iload_n 1, 1) := by decide +kernel
theorem d_Herd_keepsRules_10 : decode b_Herd_keepsRules 10 = .ok (.invokevirtual 59, 3) := by decide +kernel
theorem d_Herd_keepsRules_13 : decode b_Herd_keepsRules 13 = .ok (.iconst 4, 1) := by decide +kernel
theorem d_Herd_keepsRules_14 : decode b_Herd_keepsRules 14 = .ok (.iload_n 2, 1) := by decide +kernel
theorem d_Herd_keepsRules_15 : decode b_Herd_keepsRules 15 = .ok (.imul, 1) := by decide +kernel
theorem d_Herd_keepsRules_16 : decode b_Herd_keepsRules 16 = .ok (.iload_n 2, 1) := by decide +kernel
theorem d_Herd_keepsRules_17 : decode b_Herd_keepsRules 17 = .ok (.imul, 1) := by decide +kernel
theorem d_Herd_keepsRules_18 : decode b_Herd_keepsRules 18 = .ok (.aload_n 0, 1) := by decide +kernel
theorem d_Herd_keepsRules_19 : decode b_Herd_keepsRules 19 = .ok (.getfield 33, 3) := by decide +kernel
theorem d_Herd_keepsRules_22 : decode b_Herd_keepsRules 22 = .ok (.imul, 1) := by decide +kernel
theorem d_Herd_keepsRules_23 : decode b_Herd_keepsRules 23 = .ok (.if_icmp .gt 7, 3) := by decide +kernel
theorem d_Herd_keepsRules_26 : decode b_Herd_keepsRules 26 = .ok (.iconst 1, 1) := by decide +kernel
theorem d_Herd_keepsRules_27 : decode b_Herd_keepsRules 27 = .ok (.goto 4, 3) := by decide +kernel
theorem d_Herd_keepsRules_30 : decode b_Herd_keepsRules 30 = .ok (.iconst 0, 1) := by decide +kernel
theorem d_Herd_keepsRules_31 : decode b_Herd_keepsRules 31 = .ok (.ireturn, 1) := by decide +kernel
theorem d_Outlook_init_0 : decode b_Outlook_init 0 = .ok (.aload_n 0, 1) := by decide +kernel
theorem d_Outlook_init_1 : decode b_Outlook_init 1 = .ok (.invokespecial 3, 3) := by decide +kernel
theorem d_Outlook_init_4 : decode b_Outlook_init 4 = .ok (.aload_n 0, 1) := by decide +kernel
theorem d_Outlook_init_5 : decode b_Outlook_init 5 = .ok (.iconst 0, 1) := by decide +kernel
theorem d_Outlook_init_6 : decode b_Outlook_init 6 = .ok (.putfield 9, 3) := by decide +kernel
theorem d_Outlook_init_9 : decode b_Outlook_init 9 = .ok (.aload_n 0, 1) := by decide +kernel
theorem d_Outlook_init_10 : decode b_Outlook_init 10 = .ok (.bipush 20, 2) := by decide +kernel
theorem d_Outlook_init_12 : decode b_Outlook_init 12 = .ok (.newarray .int, 2) := by decide +kernel
theorem d_Outlook_init_14 : decode b_Outlook_init 14 = .ok (.putfield 15, 3) := by decide +kernel
theorem d_Outlook_init_17 : decode b_Outlook_init 17 = .ok (.aload_n 0, 1) := by decide +kernel
theorem d_Outlook_init_18 : decode b_Outlook_init 18 = .ok (.bipush 20, 2) := by decide +kernel
theorem d_Outlook_init_20 : decode b_Outlook_init 20 = .ok (.newarray .int, 2) := by decide +kernel
theorem d_Outlook_init_22 : decode b_Outlook_init 22 = .ok (.putfield 19, 3) := by decide +kernel
theorem d_Outlook_init_25 : decode b_Outlook_init 25 = .ok (.return_, 1) := by decide +kernel
theorem d_Outlook_note_0 : decode b_Outlook_note 0 = .ok (.aload_n 0, 1) := by decide +kernel
theorem d_Outlook_note_1 : decode b_Outlook_note 1 = .ok (.getfield 15, 3) := by decide +kernel
theorem d_Outlook_note_4 : decode b_Outlook_note 4 = .ok (.iload_n 1, 1) := by decide +kernel
theorem d_Outlook_note_5 : decode b_Outlook_note 5 = .ok (.iload_n 2, 1) := by decide +kernel
theorem d_Outlook_note_6 : decode b_Outlook_note 6 = .ok (.iastore, 1) := by decide +kernel
theorem d_Outlook_note_7 : decode b_Outlook_note 7 = .ok (.aload_n 0, 1) := by decide +kernel
theorem d_Outlook_note_8 : decode b_Outlook_note 8 = .ok (.getfield 19, 3) := by decide +kernel
theorem d_Outlook_note_11 : decode b_Outlook_note 11 = .ok (.iload_n 1, 1) := by decide +kernel
theorem d_Outlook_note_12 : decode b_Outlook_note 12 = .ok (.iload_n 3, 1) := by decide +kernel
theorem d_Outlook_note_13 : decode b_Outlook_note 13 = .ok (.iastore, 1) := by decide +kernel
theorem d_Outlook_note_14 : decode b_Outlook_note 14 = .ok (.return_, 1) := by decide +kernel
theorem d_Pairing_init_0 : decode b_Pairing_init 0 = .ok (.aload_n 0, 1) := by decide +kernel
theorem d_Pairing_init_1 : decode b_Pairing_init 1 = .ok (.invokespecial 3, 3) := by decide +kernel
theorem d_Pairing_init_4 : decode b_Pairing_init 4 = .ok (.aload_n 0, 1) := by decide +kernel
theorem d_Pairing_init_5 : decode b_Pairing_init 5 = .ok (.bipush 6, 2) := by decide +kernel
theorem d_Pairing_init_7 : decode b_Pairing_init 7 = .ok (.newarray .int, 2) := by decide +kernel
theorem d_Pairing_init_9 : decode b_Pairing_init 9 = .ok (.putfield 9, 3) := by decide +kernel
theorem d_Pairing_init_12 : decode b_Pairing_init 12 = .ok (.aload_n 0, 1) := by decide +kernel
theorem d_Pairing_init_13 : decode b_Pairing_init 13 = .ok (.bipush 6, 2) := by decide +kernel
theorem d_Pairing_init_15 : decode b_Pairing_init 15 = .ok (.newarray .int, 2) := by decide +kernel
theorem d_Pairing_init_17 : decode b_Pairing_init 17 = .ok (.putfield 15, 3) := by decide +kernel
theorem d_Pairing_init_20 : decode b_Pairing_init 20 = .ok (.return_, 1) := by decide +kernel
theorem d_Pairing_pairSet_0 : decode b_Pairing_pairSet 0 = .ok (.aload_n 0, 1) := by decide +kernel
theorem d_Pairing_pairSet_1 : decode b_Pairing_pairSet 1 = .ok (.iconst 0, 1) := by decide +kernel
theorem d_Pairing_pairSet_2 : decode b_Pairing_pairSet 2 = .ok (.aload_n 1, 1) := by decide +kernel
theorem d_Pairing_pairSet_3 : decode b_Pairing_pairSet 3 = .ok (.iload_n 2, 1) := by decide +kernel
theorem d_Pairing_pairSet_4 : decode b_Pairing_pairSet 4 = .ok (.aload_n 1, 1) := by decide +kernel
theorem d_Pairing_pairSet_5 : decode b_Pairing_pairSet 5 = .ok (.getfield 18, 3) := by decide +kernel
theorem d_Pairing_pairSet_8 : decode b_Pairing_pairSet 8 = .ok (.iand, 1) := by decide +kernel
theorem d_Pairing_pairSet_9 : decode b_Pairing_pairSet 9 = .ok (.iload_n 2, 1) := by decide +kernel
theorem d_Pairing_pairSet_10 : decode b_Pairing_pairSet 10 = .ok (.aload_n 1, 1) := by decide +kernel
theorem d_Pairing_pairSet_11 : decode b_Pairing_pairSet 11 = .ok (.getfield 18, 3) := by decide +kernel
theorem d_Pairing_pairSet_14 : decode b_Pairing_pairSet 14 = .ok (.iconst (-1), 1) := by decide +kernel
theorem d_Pairing_pairSet_15 : decode b_Pairing_pairSet 15 = .ok (.ixor, 1) := by decide +kernel
theorem d_Pairing_pairSet_16 : decode b_Pairing_pairSet 16 = .ok (.iand, 1) := by decide +kernel
theorem d_Pairing_pairSet_17 : decode b_Pairing_pairSet 17 = .ok (.invokevirtual 23, 3) := by decide +kernel
theorem d_Pairing_pairSet_20 : decode b_Pairing_pairSet 20 = .ok (.ireturn, 1) := by decide +kernel
theorem d_Pairing_pairFrom_0 : decode b_Pairing_pairFrom 0 = .ok (.iload_n 3, 1) := by decide +kernel
theorem d_Pairing_pairFrom_1 : decode b_Pairing_pairFrom 1 = .ok (.ifCond .ne 5, 3) := by decide +kernel
theorem d_Pairing_pairFrom_4 : decode b_Pairing_pairFrom 4 = .ok (.iconst 1, 1) := by decide +kernel
theorem d_Pairing_pairFrom_5 : decode b_Pairing_pairFrom 5 = .ok (.ireturn, 1) := by decide +kernel
theorem d_Pairing_pairFrom_6 : decode b_Pairing_pairFrom 6 = .ok (.iload_n 1, 1) := by decide +kernel
theorem d_Pairing_pairFrom_7 : decode b_Pairing_pairFrom 7 = .ok (.bipush 6, 2) := by decide +kernel
theorem d_Pairing_pairFrom_9 : decode b_Pairing_pairFrom 9 = .ok (.if_icmp .lt 5, 3) := by decide +kernel
theorem d_Pairing_pairFrom_12 : decode b_Pairing_pairFrom 12 = .ok (.iconst 0, 1) := by decide +kernel
theorem d_Pairing_pairFrom_13 : decode b_Pairing_pairFrom 13 = .ok (.ireturn, 1) := by decide +kernel
theorem d_Pairing_pairFrom_14 : decode b_Pairing_pairFrom 14 = .ok (.iload_n 3, 1) := by decide +kernel
theorem d_Pairing_pairFrom_15 : decode b_Pairing_pairFrom 15 = .ok (.invokestatic 27, 3) := by decide +kernel
theorem d_Pairing_pairFrom_18 : decode b_Pairing_pairFrom 18 = .ok (.istore 5, 2) := by decide +kernel
theorem d_Pairing_pairFrom_20 : decode b_Pairing_pairFrom 20 = .ok (.aload_n 2, 1) := by decide +kernel
theorem d_Pairing_pairFrom_21 : decode b_Pairing_pairFrom 21 = .ok (.iload 5, 2) := by decide +kernel
theorem d_Pairing_pairFrom_23 : decode b_Pairing_pairFrom 23 = .ok (.invokevirtual 31, 3) := by decide +kernel
theorem d_Pairing_pairFrom_26 : decode b_Pairing_pairFrom 26 = .ok (.ifCond .ne 5, 3) := by decide +kernel
theorem d_Pairing_pairFrom_29 : decode b_Pairing_pairFrom 29 = .ok (.iconst 0, 1) := by decide +kernel
theorem d_Pairing_pairFrom_30 : decode b_Pairing_pairFrom 30 = .ok (.ireturn, 1) := by decide +kernel
theorem d_Pairing_pairFrom_31 : decode b_Pairing_pairFrom 31 = .ok (.iload 4, 2) := by decide +kernel
theorem d_Pairing_pairFrom_33 : decode b_Pairing_pairFrom 33 = .ok (.aload_n 2, 1) := by decide +kernel
theorem d_Pairing_pairFrom_34 : decode b_Pairing_pairFrom 34 = .ok (.getfield 35, 3) := by decide +kernel
theorem d_Pairing_pairFrom_37 : decode b_Pairing_pairFrom 37 = .ok (.iload 5, 2) := by decide +kernel
theorem d_Pairing_pairFrom_39 : decode b_Pairing_pairFrom 39 = .ok (.iaload, 1) := by decide +kernel
theorem d_Pairing_pairFrom_40 : decode b_Pairing_pairFrom 40 = .ok (.iconst (-1), 1) := by decide +kernel
theorem d_Pairing_pairFrom_41 : decode b_Pairing_pairFrom 41 = .ok (.ixor, 1) := by decide +kernel
theorem d_Pairing_pairFrom_42 : decode b_Pairing_pairFrom 42 = .ok (.iand, 1) := by decide +kernel
theorem d_Pairing_pairFrom_43 : decode b_Pairing_pairFrom 43 = .ok (.istore 6, 2) := by decide +kernel
theorem d_Pairing_pairFrom_45 : decode b_Pairing_pairFrom 45 = .ok (.iconst 0, 1) := by decide +kernel
theorem d_Pairing_pairFrom_46 : decode b_Pairing_pairFrom 46 = .ok (.istore 7, 2) := by decide +kernel
theorem d_Pairing_pairFrom_48 : decode b_Pairing_pairFrom 48 = .ok (.iload 7, 2) := by decide +kernel
theorem d_Pairing_pairFrom_50 : decode b_Pairing_pairFrom 50 = .ok (.aload_n 2, 1) := by decide +kernel
theorem d_Pairing_pairFrom_51 : decode b_Pairing_pairFrom 51 = .ok (.getfield 38, 3) := by decide +kernel
theorem d_Pairing_pairFrom_54 : decode b_Pairing_pairFrom 54 = .ok (.if_icmp .ge 67, 3) := by decide +kernel
theorem d_Pairing_pairFrom_57 : decode b_Pairing_pairFrom 57 = .ok (.iload 6, 2) := by decide +kernel
theorem d_Pairing_pairFrom_59 : decode b_Pairing_pairFrom 59 = .ok (.iload 7, 2) := by decide +kernel
theorem d_Pairing_pairFrom_61 : decode b_Pairing_pairFrom 61 = .ok (.invokestatic 41, 3) := by decide +kernel
theorem d_Pairing_pairFrom_64 : decode b_Pairing_pairFrom 64 = .ok (.ifCond .eq 51, 3) := by decide +kernel
theorem d_Pairing_pairFrom_67 : decode b_Pairing_pairFrom 67 = .ok (.aload_n 0, 1) := by decide +kernel
theorem d_Pairing_pairFrom_68 : decode b_Pairing_pairFrom 68 = .ok (.iload_n 1, 1) := by decide +kernel
theorem d_Pairing_pairFrom_69 : decode b_Pairing_pairFrom 69 = .ok (.iconst 1, 1) := by decide +kernel
theorem d_Pairing_pairFrom_70 : decode b_Pairing_pairFrom 70 = .ok (.iadd, 1) := by decide +kernel
theorem d_Pairing_pairFrom_71 : decode b_Pairing_pairFrom 71 = .ok (.aload_n 2, 1) := by decide +kernel
theorem d_Pairing_pairFrom_72 : decode b_Pairing_pairFrom 72 = .ok (.iload_n 3, 1) := by decide +kernel
theorem d_Pairing_pairFrom_73 : decode b_Pairing_pairFrom 73 = .ok (.iload 5, 2) := by decide +kernel
theorem d_Pairing_pairFrom_75 : decode b_Pairing_pairFrom 75 = .ok (.invokestatic 45, 3) := by decide +kernel
theorem d_Pairing_pairFrom_78 : decode b_Pairing_pairFrom 78 = .ok (.iconst (-1), 1) := by decide +kernel
theorem d_Pairing_pairFrom_79 : decode b_Pairing_pairFrom 79 = .ok (.ixor, 1) := by decide +kernel
theorem d_Pairing_pairFrom_80 : decode b_Pairing_pairFrom 80 = .ok (.iand, 1) := by decide +kernel
theorem d_Pairing_pairFrom_81 : decode b_Pairing_pairFrom 81 = .ok (.iload 4, 2) := by decide +kernel
theorem d_Pairing_pairFrom_83 : decode b_Pairing_pairFrom 83 = .ok (.iload 7, 2) := by decide +kernel
theorem d_Pairing_pairFrom_85 : decode b_Pairing_pairFrom 85 = .ok (.invokestatic 45, 3) := by decide +kernel
theorem d_Pairing_pairFrom_88 : decode b_Pairing_pairFrom 88 = .ok (.iconst (-1), 1) := by decide +kernel
theorem d_Pairing_pairFrom_89 : decode b_Pairing_pairFrom 89 = .ok (.ixor, 1) := by decide +kernel
theorem d_Pairing_pairFrom_90 : decode b_Pairing_pairFrom 90 = .ok (.iand, 1) := by decide +kernel
theorem d_Pairing_pairFrom_91 : decode b_Pairing_pairFrom 91 = .ok (.invokevirtual 23, 3) := by decide +kernel
theorem d_Pairing_pairFrom_94 : decode b_Pairing_pairFrom 94 = .ok (.ifCond .eq 21, 3) := by decide +kernel
theorem d_Pairing_pairFrom_97 : decode b_Pairing_pairFrom 97 = .ok (.aload_n 0, 1) := by decide +kernel
theorem d_Pairing_pairFrom_98 : decode b_Pairing_pairFrom 98 = .ok (.getfield 9, 3) := by decide +kernel
theorem d_Pairing_pairFrom_101 : decode b_Pairing_pairFrom 101 = .ok (.iload_n 1, 1) := by decide +kernel
theorem d_Pairing_pairFrom_102 : decode b_Pairing_pairFrom 102 = .ok (.iload 5, 2) := by decide +kernel
theorem d_Pairing_pairFrom_104 : decode b_Pairing_pairFrom 104 = .ok (.iastore, 1) := by decide +kernel
theorem d_Pairing_pairFrom_105 : decode b_Pairing_pairFrom 105 = .ok (.aload_n 0, 1) := by decide +kernel
theorem d_Pairing_pairFrom_106 : decode b_Pairing_pairFrom 106 = .ok (.getfield 15, 3) := by decide +kernel
theorem d_Pairing_pairFrom_109 : decode b_Pairing_pairFrom 109 = .ok (.iload_n 1, 1) := by decide +kernel
theorem d_Pairing_pairFrom_110 : decode b_Pairing_pairFrom 110 = .ok (.iload 7, 2) := by decide +kernel
theorem d_Pairing_pairFrom_112 : decode b_Pairing_pairFrom 112 = .ok (.iastore, 1) := by decide +kernel
theorem d_Pairing_pairFrom_113 : decode b_Pairing_pairFrom 113 = .ok (.iconst 1, 1) := by decide +kernel
theorem d_Pairing_pairFrom_114 : decode b_Pairing_pairFrom 114 = .ok (.ireturn, 1) := by decide +kernel
theorem d_Pairing_pairFrom_115 : decode b_Pairing_pairFrom 115 = .ok (.iinc 7 1, 3) := by decide +kernel
theorem d_Pairing_pairFrom_118 : decode b_Pairing_pairFrom 118 = .ok (.goto (-70), 3) := by decide +kernel
theorem d_Pairing_pairFrom_121 : decode b_Pairing_pairFrom 121 = .ok (.iconst 0, 1) := by decide +kernel
theorem d_Pairing_pairFrom_122 : decode b_Pairing_pairFrom 122 = .ok (.ireturn, 1) := by decide +kernel
theorem d_SetList_init_0 : decode b_SetList_init 0 = .ok (.aload_n 0, 1) := by decide +kernel
theorem d_SetList_init_1 : decode b_SetList_init 1 = .ok (.invokespecial 3, 3) := by decide +kernel
theorem d_SetList_init_4 : decode b_SetList_init 4 = .ok (.aload_n 0, 1) := by decide +kernel
theorem d_SetList_init_5 : decode b_SetList_init 5 = .ok (.new 9, 3) := by decide +kernel
theorem d_SetList_init_8 : decode b_SetList_init 8 = .ok (.dup, 1) := by decide +kernel
theorem d_SetList_init_9 : decode b_SetList_init 9 = .ok (.invokespecial 11, 3) := by decide +kernel
theorem d_SetList_init_12 : decode b_SetList_init 12 = .ok (.putfield 12, 3) := by decide +kernel
theorem d_SetList_init_15 : decode b_SetList_init 15 = .ok (.aload_n 0, 1) := by decide +kernel
theorem d_SetList_init_16 : decode b_SetList_init 16 = .ok (.sipush 400, 3) := by decide +kernel
theorem d_SetList_init_19 : decode b_SetList_init 19 = .ok (.newarray .int, 2) := by decide +kernel
theorem d_SetList_init_21 : decode b_SetList_init 21 = .ok (.putfield 18, 3) := by decide +kernel
theorem d_SetList_init_24 : decode b_SetList_init 24 = .ok (.aload_n 0, 1) := by decide +kernel
theorem d_SetList_init_25 : decode b_SetList_init 25 = .ok (.sipush 400, 3) := by decide +kernel
theorem d_SetList_init_28 : decode b_SetList_init 28 = .ok (.newarray .int, 2) := by decide +kernel
theorem d_SetList_init_30 : decode b_SetList_init 30 = .ok (.putfield 22, 3) := by decide +kernel
theorem d_SetList_init_33 : decode b_SetList_init 33 = .ok (.aload_n 0, 1) := by decide +kernel
theorem d_SetList_init_34 : decode b_SetList_init 34 = .ok (.iconst 0, 1) := by decide +kernel
theorem d_SetList_init_35 : decode b_SetList_init 35 = .ok (.putfield 25, 3) := by decide +kernel
theorem d_SetList_init_38 : decode b_SetList_init 38 = .ok (.aload_n 0, 1) := by decide +kernel
theorem d_SetList_init_39 : decode b_SetList_init 39 = .ok (.iconst 0, 1) := by decide +kernel
theorem d_SetList_init_40 : decode b_SetList_init 40 = .ok (.putfield 29, 3) := by decide +kernel
theorem d_SetList_init_43 : decode b_SetList_init 43 = .ok (.aload_n 0, 1) := by decide +kernel
theorem d_SetList_init_44 : decode b_SetList_init 44 = .ok (.aload_n 1, 1) := by decide +kernel
theorem d_SetList_init_45 : decode b_SetList_init 45 = .ok (.putfield 32, 3) := by decide +kernel
theorem d_SetList_init_48 : decode b_SetList_init 48 = .ok (.return_, 1) := by decide +kernel
theorem d_SetList_forget_0 : decode b_SetList_forget 0 = .ok (.aload_n 0, 1) := by decide +kernel
theorem d_SetList_forget_1 : decode b_SetList_forget 1 = .ok (.iconst 0, 1) := by decide +kernel
theorem d_SetList_forget_2 : decode b_SetList_forget 2 = .ok (.putfield 29, 3) := by decide +kernel
theorem d_SetList_forget_5 : decode b_SetList_forget 5 = .ok (.return_, 1) := by decide +kernel
theorem d_SetList_listAll_0 : decode b_SetList_listAll 0 = .ok (.iload_n 1, 1) := by decide +kernel
theorem d_SetList_listAll_1 : decode b_SetList_listAll 1 = .ok (.aload_n 0, 1) := by decide +kernel
theorem d_SetList_listAll_2 : decode b_SetList_listAll 2 = .ok (.getfield 29, 3) := by decide +kernel
theorem d_SetList_listAll_5 : decode b_SetList_listAll 5 = .ok (.if_icmp .ne 4, 3) := by decide +kernel
theorem d_SetList_listAll_8 : decode b_SetList_listAll 8 = .ok (.return_, 1) := by decide +kernel
theorem d_SetList_listAll_9 : decode b_SetList_listAll 9 = .ok (.aload_n 0, 1) := by decide +kernel
theorem d_SetList_listAll_10 : decode b_SetList_listAll 10 = .ok (.iload_n 1, 1) := by decide +kernel
theorem d_SetList_listAll_11 : decode b_SetList_listAll 11 = .ok (.putfield 29, 3) := by decide +kernel
theorem d_SetList_listAll_14 : decode b_SetList_listAll 14 = .ok (.aload_n 0, 1) := by decide +kernel
theorem d_SetList_listAll_15 : decode b_SetList_listAll 15 = .ok (.iconst 0, 1) := by decide +kernel
theorem d_SetList_listAll_16 : decode b_SetList_listAll 16 = .ok (.putfield 25, 3) := by decide +kernel
theorem d_SetList_listAll_19 : decode b_SetList_listAll 19 = .ok (.aload_n 0, 1) := by decide +kernel
theorem d_SetList_listAll_20 : decode b_SetList_listAll 20 = .ok (.getfield 32, 3) := by decide +kernel
theorem d_SetList_listAll_23 : decode b_SetList_listAll 23 = .ok (.getfield 36, 3) := by decide +kernel
theorem d_SetList_listAll_26 : decode b_SetList_listAll 26 = .ok (.istore_n 2, 1) := by decide +kernel
theorem d_SetList_listAll_27 : decode b_SetList_listAll 27 = .ok (.iload_n 2, 1) := by decide +kernel
theorem d_SetList_listAll_28 : decode b_SetList_listAll 28 = .ok (.ifCond .le 31, 3) := by decide +kernel
theorem d_SetList_listAll_31 : decode b_SetList_listAll 31 = .ok (.iload_n 2, 1) := by decide +kernel
theorem d_SetList_listAll_32 : decode b_SetList_listAll 32 = .ok (.invokestatic 41, 3) := by decide +kernel
theorem d_SetList_listAll_35 : decode b_SetList_listAll 35 = .ok (.iload_n 1, 1) := by decide +kernel
theorem d_SetList_listAll_36 : decode b_SetList_listAll 36 = .ok (.if_icmp .ne 8, 3) := by decide +kernel
theorem d_SetList_listAll_39 : decode b_SetList_listAll 39 = .ok (.aload_n 0, 1) := by decide +kernel
theorem d_SetList_listAll_40 : decode b_SetList_listAll 40 = .ok (.iload_n 2, 1) := by decide +kernel
theorem d_SetList_listAll_41 : decode b_SetList_listAll 41 = .ok (.invokevirtual 47, 3) := by decide +kernel
theorem d_SetList_listAll_44 : decode b_SetList_listAll 44 = .ok (.iload_n 2, 1) := by decide +kernel
theorem d_SetList_listAll_45 : decode b_SetList_listAll 45 = .ok (.iconst 1, 1) := by decide +kernel
theorem d_SetList_listAll_46 : decode b_SetList_listAll 46 = .ok (.isub, 1) := by decide +kernel
theorem d_SetList_listAll_47 : decode b_SetList_listAll 47 = .ok (.aload_n 0, 1) := by decide +kernel
theorem d_SetList_listAll_48 : decode b_SetList_listAll 48 = .ok (.getfield 32, 3) := by decide +kernel
theorem d_SetList_listAll_51 : decode b_SetList_listAll 51 = .ok (.getfield 36, 3) := by decide +kernel
theorem d_SetList_listAll_54 : decode b_SetList_listAll 54 = .ok (.iand, 1) := by decide +kernel
theorem d_SetList_listAll_55 : decode b_SetList_listAll 55 = .ok (.istore_n 2, 1) := by decide +kernel
theorem d_SetList_listAll_56 : decode b_SetList_listAll 56 = .ok (.goto (-29), 3) := by decide +kernel
theorem d_SetList_listAll_59 : decode b_SetList_listAll 59 = .ok (.return_, 1) := by decide +kernel
theorem d_SetList_listWithMales_0 : decode b_SetList_listWithMales 0 = .ok (.aload_n 0, 1) := by decide +kernel
theorem d_SetList_listWithMales_1 : decode b_SetList_listWithMales 1 = .ok (.getfield 32, 3) := by decide +kernel
theorem d_SetList_listWithMales_4 : decode b_SetList_listWithMales 4 = .ok (.invokevirtual 51, 3) := by decide +kernel
theorem d_SetList_listWithMales_7 : decode b_SetList_listWithMales 7 = .ok (.aload_n 0, 1) := by decide +kernel
theorem d_SetList_listWithMales_8 : decode b_SetList_listWithMales 8 = .ok (.getfield 32, 3) := by decide +kernel
theorem d_SetList_listWithMales_11 : decode b_SetList_listWithMales 11 = .ok (.getfield 36, 3) := by decide +kernel
theorem d_SetList_listWithMales_14 : decode b_SetList_listWithMales 14 = .ok (.iconst (-1), 1) := by decide +kernel
theorem d_SetList_listWithMales_15 : decode b_SetList_listWithMales 15 = .ok (.ixor, 1) := by decide +kernel
theorem d_SetList_listWithMales_16 : decode b_SetList_listWithMales 16 = .ok (.iand, 1) := by decide +kernel
theorem d_SetList_listWithMales_17 : decode b_SetList_listWithMales 17 = .ok (.istore_n 2, 1) := by decide +kernel
theorem d_SetList_listWithMales_18 : decode b_SetList_listWithMales 18 = .ok (.iload_n 2, 1) := by decide +kernel
theorem d_SetList_listWithMales_19 : decode b_SetList_listWithMales 19 = .ok (.istore_n 3, 1) := by decide +kernel
theorem d_SetList_listWithMales_20 : decode b_SetList_listWithMales 20 = .ok (.iload_n 3, 1) := by decide +kernel
theorem d_SetList_listWithMales_21 : decode b_SetList_listWithMales 21 = .ok (.ifCond .le 30, 3) := by decide +kernel
theorem d_SetList_listWithMales_24 : decode b_SetList_listWithMales 24 = .ok (.iload_n 3, 1) := by decide +kernel
theorem d_SetList_listWithMales_25 : decode b_SetList_listWithMales 25 = .ok (.invokestatic 41, 3) := by decide +kernel
theorem d_SetList_listWithMales_28 : decode b_SetList_listWithMales 28 = .ok (.aload_n 0, 1) := by decide +kernel
theorem d_SetList_listWithMales_29 : decode b_SetList_listWithMales 29 = .ok (.getfield 29, 3) := by decide +kernel
theorem d_SetList_listWithMales_32 : decode b_SetList_listWithMales 32 = .ok (.if_icmp .ne 10, 3) := by decide +kernel
theorem d_SetList_listWithMales_35 : decode b_SetList_listWithMales 35 = .ok (.aload_n 0, 1) := by decide +kernel
theorem d_SetList_listWithMales_36 : decode b_SetList_listWithMales 36 = .ok (.iload_n 1, 1) := by decide +kernel
theorem d_SetList_listWithMales_37 : decode b_SetList_listWithMales 37 = .ok (.iload_n 3, 1) := by decide +kernel
theorem d_SetList_listWithMales_38 : decode b_SetList_listWithMales 38 = .ok (.ior, 1) := by decide +kernel
theorem d_SetList_listWithMales_39 : decode b_SetList_listWithMales 39 = .ok (.invokevirtual 55, 3) := by decide +kernel
theorem d_SetList_listWithMales_42 : decode b_SetList_listWithMales 42 = .ok (.iload_n 3, 1) := by decide +kernel
theorem d_SetList_listWithMales_43 : decode b_SetList_listWithMales 43 = .ok (.iconst 1, 1) := by decide +kernel
theorem d_SetList_listWithMales_44 : decode b_SetList_listWithMales 44 = .ok (.isub, 1) := by decide +kernel
theorem d_SetList_listWithMales_45 : decode b_SetList_listWithMales 45 = .ok (.iload_n 2, 1) := by decide +kernel
theorem d_SetList_listWithMales_46 : decode b_SetList_listWithMales 46 = .ok (.iand, 1) := by decide +kernel
theorem d_SetList_listWithMales_47 : decode b_SetList_listWithMales 47 = .ok (.istore_n 3, 1) := by decide +kernel
theorem d_SetList_listWithMales_48 : decode b_SetList_listWithMales 48 = .ok (.goto (-28), 3) := by decide +kernel
theorem d_SetList_listWithMales_51 : decode b_SetList_listWithMales 51 = .ok (.return_, 1) := by decide +kernel
theorem d_SetList_listIfItMayBe_0 : decode b_SetList_listIfItMayBe 0 = .ok (.aload_n 0, 1) := by decide +kernel
theorem d_SetList_listIfItMayBe_1 : decode b_SetList_listIfItMayBe 1 = .ok (.getfield 25, 3) := by decide +kernel
theorem d_SetList_listIfItMayBe_4 : decode b_SetList_listIfItMayBe 4 = .ok (.sipush 400, 3) := by decide +kernel
theorem d_SetList_listIfItMayBe_7 : decode b_SetList_listIfItMayBe 7 = .ok (.if_icmp .ge 70, 3) := by decide +kernel
theorem d_SetList_listIfItMayBe_10 : decode b_SetList_listIfItMayBe 10 = .ok (.aload_n 0, 1) := by decide +kernel
theorem d_SetList_listIfItMayBe_11 : decode b_SetList_listIfItMayBe 11 = .ok (.getfield 32, 3) := by decide +kernel
theorem d_SetList_listIfItMayBe_14 : decode b_SetList_listIfItMayBe 14 = .ok (.iload_n 1, 1) := by decide +kernel
theorem d_SetList_listIfItMayBe_15 : decode b_SetList_listIfItMayBe 15 = .ok (.aload_n 0, 1) := by decide +kernel
theorem d_SetList_listIfItMayBe_16 : decode b_SetList_listIfItMayBe 16 = .ok (.getfield 29, 3) := by decide +kernel
theorem d_SetList_listIfItMayBe_19 : decode b_SetList_listIfItMayBe 19 = .ok (.invokevirtual 58, 3) := by decide +kernel
theorem d_SetList_listIfItMayBe_22 : decode b_SetList_listIfItMayBe 22 = .ok (.ifCond .eq 55, 3) := by decide +kernel
theorem d_SetList_listIfItMayBe_25 : decode b_SetList_listIfItMayBe 25 = .ok (.aload_n 0, 1) := by decide +kernel
theorem d_SetList_listIfItMayBe_26 : decode b_SetList_listIfItMayBe 26 = .ok (.getfield 12, 3) := by decide +kernel
theorem d_SetList_listIfItMayBe_29 : decode b_SetList_listIfItMayBe 29 = .ok (.aload_n 0, 1) := by decide +kernel
theorem d_SetList_listIfItMayBe_30 : decode b_SetList_listIfItMayBe 30 = .ok (.getfield 32, 3) := by decide +kernel
theorem d_SetList_listIfItMayBe_33 : decode b_SetList_listIfItMayBe 33 = .ok (.iload_n 1, 1) := by decide +kernel
theorem d_SetList_listIfItMayBe_34 : decode b_SetList_listIfItMayBe 34 = .ok (.invokevirtual 62, 3) := by decide +kernel
theorem d_SetList_listIfItMayBe_37 : decode b_SetList_listIfItMayBe 37 = .ok (.ifCond .eq 40, 3) := by decide +kernel
theorem d_SetList_listIfItMayBe_40 : decode b_SetList_listIfItMayBe 40 = .ok (.aload_n 0, 1) := by decide +kernel
theorem d_SetList_listIfItMayBe_41 : decode b_SetList_listIfItMayBe 41 = .ok (.getfield 18, 3) := by decide +kernel
theorem d_SetList_listIfItMayBe_44 : decode b_SetList_listIfItMayBe 44 = .ok (.aload_n 0, 1) := by decide +kernel
theorem d_SetList_listIfItMayBe_45 : decode b_SetList_listIfItMayBe 45 = .ok (.getfield 25, 3) := by decide +kernel
theorem d_SetList_listIfItMayBe_48 : decode b_SetList_listIfItMayBe 48 = .ok (.iload_n 1, 1) := by decide +kernel
theorem d_SetList_listIfItMayBe_49 : decode b_SetList_listIfItMayBe 49 = .ok (.iastore, 1) := by decide +kernel
theorem d_SetList_listIfItMayBe_50 : decode b_SetList_listIfItMayBe 50 = .ok (.aload_n 0, 1) := by decide +kernel
theorem d_SetList_listIfItMayBe_51 : decode b_SetList_listIfItMayBe 51 = .ok (.getfield 22, 3) := by decide +kernel
theorem d_SetList_listIfItMayBe_54 : decode b_SetList_listIfItMayBe 54 = .ok (.aload_n 0, 1) := by decide +kernel
theorem d_SetList_listIfItMayBe_55 : decode b_SetList_listIfItMayBe 55 = .ok (.getfield 25, 3) := by decide +kernel
theorem d_SetList_listIfItMayBe_58 : decode b_SetList_listIfItMayBe 58 = .ok (.aload_n 0, 1) := by decide +kernel
theorem d_SetList_listIfItMayBe_59 : decode b_SetList_listIfItMayBe 59 = .ok (.getfield 32, 3) := by decide +kernel
theorem d_SetList_listIfItMayBe_62 : decode b_SetList_listIfItMayBe 62 = .ok (.iload_n 1, 1) := by decide +kernel
theorem d_SetList_listIfItMayBe_63 : decode b_SetList_listIfItMayBe 63 = .ok (.invokevirtual 66, 3) := by decide +kernel
theorem d_SetList_listIfItMayBe_66 : decode b_SetList_listIfItMayBe 66 = .ok (.iastore, 1) := by decide +kernel
theorem d_SetList_listIfItMayBe_67 : decode b_SetList_listIfItMayBe 67 = .ok (.aload_n 0, 1) := by decide +kernel
theorem d_SetList_listIfItMayBe_68 : decode b_SetList_listIfItMayBe 68 = .ok (.dup, 1) := by decide +kernel
theorem d_SetList_listIfItMayBe_69 : decode b_SetList_listIfItMayBe 69 = .ok (.getfield 25, 3) := by decide +kernel
theorem d_SetList_listIfItMayBe_72 : decode b_SetList_listIfItMayBe 72 = .ok (.iconst 1, 1) := by decide +kernel
theorem d_SetList_listIfItMayBe_73 : decode b_SetList_listIfItMayBe 73 = .ok (.iadd, 1) := by decide +kernel
theorem d_SetList_listIfItMayBe_74 : decode b_SetList_listIfItMayBe 74 = .ok (.putfield 25, 3) := by decide +kernel
theorem d_SetList_listIfItMayBe_77 : decode b_SetList_listIfItMayBe 77 = .ok (.return_, 1) := by decide +kernel
theorem d_SetList_best_0 : decode b_SetList_best 0 = .ok (.iconst 0, 1) := by decide +kernel
theorem d_SetList_best_1 : decode b_SetList_best 1 = .ok (.istore_n 1, 1) := by decide +kernel
theorem d_SetList_best_2 : decode b_SetList_best 2 = .ok (.ldc 69, 2) := by decide +kernel
theorem d_SetList_best_4 : decode b_SetList_best 4 = .ok (.istore_n 2, 1) := by decide +kernel
theorem d_SetList_best_5 : decode b_SetList_best 5 = .ok (.iconst 0, 1) := by decide +kernel
theorem d_SetList_best_6 : decode b_SetList_best 6 = .ok (.istore_n 3, 1) := by decide +kernel
theorem d_SetList_best_7 : decode b_SetList_best 7 = .ok (.iload_n 3, 1) := by decide +kernel
theorem d_SetList_best_8 : decode b_SetList_best 8 = .ok (.aload_n 0, 1) := by decide +kernel
theorem d_SetList_best_9 : decode b_SetList_best 9 = .ok (.getfield 25, 3) := by decide +kernel
theorem d_SetList_best_12 : decode b_SetList_best 12 = .ok (.if_icmp .ge 56, 3) := by decide +kernel
theorem d_SetList_best_15 : decode b_SetList_best 15 = .ok (.aload_n 0, 1) := by decide +kernel
theorem d_SetList_best_16 : decode b_SetList_best 16 = .ok (.getfield 22, 3) := by decide +kernel
theorem d_SetList_best_19 : decode b_SetList_best 19 = .ok (.iload_n 3, 1) := by decide +kernel
theorem d_SetList_best_20 : decode b_SetList_best 20 = .ok (.iaload, 1) := by decide +kernel
theorem d_SetList_best_21 : decode b_SetList_best 21 = .ok (.iload_n 2, 1) := by decide +kernel
theorem d_SetList_best_22 : decode b_SetList_best 22 = .ok (.if_icmp .gt 26, 3) := by decide +kernel
theorem d_SetList_best_25 : decode b_SetList_best 25 = .ok (.aload_n 0, 1) := by decide +kernel
theorem d_SetList_best_26 : decode b_SetList_best 26 = .ok (.getfield 22, 3) := by decide +kernel
theorem d_SetList_best_29 : decode b_SetList_best 29 = .ok (.iload_n 3, 1) := by decide +kernel
theorem d_SetList_best_30 : decode b_SetList_best 30 = .ok (.iaload, 1) := by decide +kernel
theorem d_SetList_best_31 : decode b_SetList_best 31 = .ok (.iload_n 2, 1) := by decide +kernel
theorem d_SetList_best_32 : decode b_SetList_best 32 = .ok (.if_icmp .ne 30, 3) := by decide +kernel
theorem d_SetList_best_35 : decode b_SetList_best 35 = .ok (.aload_n 0, 1) := by decide +kernel
theorem d_SetList_best_36 : decode b_SetList_best 36 = .ok (.getfield 18, 3) := by decide +kernel
theorem d_SetList_best_39 : decode b_SetList_best 39 = .ok (.iload_n 3, 1) := by decide +kernel
theorem d_SetList_best_40 : decode b_SetList_best 40 = .ok (.iaload, 1) := by decide +kernel
theorem d_SetList_best_41 : decode b_SetList_best 41 = .ok (.iload_n 1, 1) := by decide +kernel
theorem d_SetList_best_42 : decode b_SetList_best 42 = .ok (.invokestatic 70, 3) := by decide +kernel
theorem d_SetList_best_45 : decode b_SetList_best 45 = .ok (.ifCond .eq 17, 3) := by decide +kernel
theorem d_SetList_best_48 : decode b_SetList_best 48 = .ok (.aload_n 0, 1) := by decide +kernel
theorem d_SetList_best_49 : decode b_SetList_best 49 = .ok (.getfield 18, 3) := by decide +kernel
theorem d_SetList_best_52 : decode b_SetList_best 52 = .ok (.iload_n 3, 1) := by decide +kernel
theorem d_SetList_best_53 : decode b_SetList_best 53 = .ok (.iaload, 1) := by decide +kernel
theorem d_SetList_best_54 : decode b_SetList_best 54 = .ok (.istore_n 1, 1) := by decide +kernel
theorem d_SetList_best_55 : decode b_SetList_best 55 = .ok (.aload_n 0, 1) := by decide +kernel
theorem d_SetList_best_56 : decode b_SetList_best 56 = .ok (.getfield 22, 3) := by decide +kernel
theorem d_SetList_best_59 : decode b_SetList_best 59 = .ok (.iload_n 3, 1) := by decide +kernel
theorem d_SetList_best_60 : decode b_SetList_best 60 = .ok (.iaload, 1) := by decide +kernel
theorem d_SetList_best_61 : decode b_SetList_best 61 = .ok (.istore_n 2, 1) := by decide +kernel
theorem d_SetList_best_62 : decode b_SetList_best 62 = .ok (.iinc 3 1, 3) := by decide +kernel
theorem d_SetList_best_65 : decode b_SetList_best 65 = .ok (.goto (-58), 3) := by decide +kernel
theorem d_SetList_best_68 : decode b_SetList_best 68 = .ok (.iload_n 1, 1) := by decide +kernel
theorem d_SetList_best_69 : decode b_SetList_best 69 = .ok (.ireturn, 1) := by decide +kernel
theorem d_SetList_goesBefore_0 : decode b_SetList_goesBefore 0 = .ok (.iload_n 0, 1) := by decide +kernel
theorem d_SetList_goesBefore_1 : decode b_SetList_goesBefore 1 = .ok (.iload_n 1, 1) := by decide +kernel
theorem d_SetList_goesBefore_2 : decode b_SetList_goesBefore 2 = .ok (.ixor, 1) := by decide +kernel
theorem d_SetList_goesBefore_3 : decode b_SetList_goesBefore 3 = .ok (.istore_n 2, 1) := by decide +kernel
theorem d_SetList_goesBefore_4 : decode b_SetList_goesBefore 4 = .ok (.iload_n 0, 1) := by decide +kernel
