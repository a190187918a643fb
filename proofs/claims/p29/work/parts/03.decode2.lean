theorem dX6_init_37 : decode cX6_init 37 = .ok (.aload_n 0, 1) := by decide +kernel
theorem dX6_init_38 : decode cX6_init 38 = .ok (.bipush 7, 2) := by decide +kernel
theorem dX6_init_40 : decode cX6_init 40 = .ok (.anewarray 22, 3) := by decide +kernel
theorem dX6_init_43 : decode cX6_init 43 = .ok (.putfield 24, 3) := by decide +kernel
theorem dX6_init_46 : decode cX6_init 46 = .ok (.iconst 0, 1) := by decide +kernel
theorem dX6_init_47 : decode cX6_init 47 = .ok (.istore_n 1, 1) := by decide +kernel
theorem dX6_init_48 : decode cX6_init 48 = .ok (.iload_n 1, 1) := by decide +kernel
theorem dX6_init_49 : decode cX6_init 49 = .ok (.bipush 7, 2) := by decide +kernel
theorem dX6_init_51 : decode cX6_init 51 = .ok (.if_icmp .ge 22, 3) := by decide +kernel
theorem dX6_init_54 : decode cX6_init 54 = .ok (.aload_n 0, 1) := by decide +kernel
theorem dX6_init_55 : decode cX6_init 55 = .ok (.getfield 24, 3) := by decide +kernel
theorem dX6_init_58 : decode cX6_init 58 = .ok (.iload_n 1, 1) := by decide +kernel
theorem dX6_init_59 : decode cX6_init 59 = .ok (.new 22, 3) := by decide +kernel
theorem dX6_init_62 : decode cX6_init 62 = .ok (.dup, 1) := by decide +kernel
theorem dX6_init_63 : decode cX6_init 63 = .ok (.invokespecial 28, 3) := by decide +kernel
theorem dX6_init_66 : decode cX6_init 66 = .ok (.aastore, 1) := by decide +kernel
theorem dX6_init_67 : decode cX6_init 67 = .ok (.iinc 1 1, 3) := by decide +kernel
theorem dX6_init_70 : decode cX6_init 70 = .ok (.goto (-22), 3) := by decide +kernel
theorem dX6_init_73 : decode cX6_init 73 = .ok (.aload_n 0, 1) := by decide +kernel
theorem dX6_init_74 : decode cX6_init 74 = .ok (.new 29, 3) := by decide +kernel
theorem dX6_init_77 : decode cX6_init 77 = .ok (.dup, 1) := by decide +kernel
theorem dX6_init_78 : decode cX6_init 78 = .ok (.invokespecial 31, 3) := by decide +kernel
theorem dX6_init_81 : decode cX6_init 81 = .ok (.putfield 32, 3) := by decide +kernel
theorem dX6_init_84 : decode cX6_init 84 = .ok (.aload_n 0, 1) := by decide +kernel
theorem dX6_init_85 : decode cX6_init 85 = .ok (.new 36, 3) := by decide +kernel
theorem dX6_init_88 : decode cX6_init 88 = .ok (.dup, 1) := by decide +kernel
theorem dX6_init_89 : decode cX6_init 89 = .ok (.invokespecial 38, 3) := by decide +kernel
theorem dX6_init_92 : decode cX6_init 92 = .ok (.putfield 39, 3) := by decide +kernel
theorem dX6_init_95 : decode cX6_init 95 = .ok (.aload_n 0, 1) := by decide +kernel
theorem dX6_init_96 : decode cX6_init 96 = .ok (.iconst 0, 1) := by decide +kernel
theorem dX6_init_97 : decode cX6_init 97 = .ok (.putfield 43, 3) := by decide +kernel
theorem dX6_init_100 : decode cX6_init 100 = .ok (.aload_n 0, 1) := by decide +kernel
theorem dX6_init_101 : decode cX6_init 101 = .ok (.iconst 0, 1) := by decide +kernel
theorem dX6_init_102 : decode cX6_init 102 = .ok (.putfield 47, 3) := by decide +kernel
theorem dX6_init_105 : decode cX6_init 105 = .ok (.aload_n 0, 1) := by decide +kernel
theorem dX6_init_106 : decode cX6_init 106 = .ok (.bipush 10, 2) := by decide +kernel
theorem dX6_init_108 : decode cX6_init 108 = .ok (.putfield 50, 3) := by decide +kernel
theorem dX6_init_111 : decode cX6_init 111 = .ok (.return_, 1) := by decide +kernel
theorem dX6_series_0 : decode cX6_series 0 = .ok (.iload_n 1, 1) := by decide +kernel
theorem dX6_series_1 : decode cX6_series 1 = .ok (.iconst 0, 1) := by decide +kernel
theorem dX6_series_2 : decode cX6_series 2 = .ok (.iconst 2, 1) := by decide +kernel
theorem dX6_series_3 : decode cX6_series 3 = .ok (.invokestatic 53, 3) := by decide +kernel
theorem dX6_series_6 : decode cX6_series 6 = .ok (.ifCond .eq 13, 3) := by decide +kernel
theorem dX6_series_9 : decode cX6_series 9 = .ok (.new 57, 3) := by decide +kernel
theorem dX6_series_12 : decode cX6_series 12 = .ok (.dup, 1) := by decide +kernel
theorem dX6_series_13 : decode cX6_series 13 = .ok (.ldc 59, 2) := by decide +kernel
theorem dX6_series_15 : decode cX6_series 15 = .ok (.invokespecial 61, 3) := by decide +kernel
theorem dX6_series_18 : decode cX6_series 18 = .ok (.athrow, 1) := by decide +kernel
theorem dX6_series_19 : decode cX6_series 19 = .ok (.iload_n 2, 1) := by decide +kernel
theorem dX6_series_20 : decode cX6_series 20 = .ok (.invokestatic 64, 3) := by decide +kernel
theorem dX6_series_23 : decode cX6_series 23 = .ok (.iload_n 3, 1) := by decide +kernel
theorem dX6_series_24 : decode cX6_series 24 = .ok (.iconst 0, 1) := by decide +kernel
theorem dX6_series_25 : decode cX6_series 25 = .ok (.iconst 5, 1) := by decide +kernel
theorem dX6_series_26 : decode cX6_series 26 = .ok (.invokestatic 53, 3) := by decide +kernel
theorem dX6_series_29 : decode cX6_series 29 = .ok (.ifCond .eq 13, 3) := by decide +kernel
theorem dX6_series_32 : decode cX6_series 32 = .ok (.new 57, 3) := by decide +kernel
theorem dX6_series_35 : decode cX6_series 35 = .ok (.dup, 1) := by decide +kernel
theorem dX6_series_36 : decode cX6_series 36 = .ok (.ldc 68, 2) := by decide +kernel
theorem dX6_series_38 : decode cX6_series 38 = .ok (.invokespecial 61, 3) := by decide +kernel
theorem dX6_series_41 : decode cX6_series 41 = .ok (.athrow, 1) := by decide +kernel
theorem dX6_series_42 : decode cX6_series 42 = .ok (.aload_n 0, 1) := by decide +kernel
theorem dX6_series_43 : decode cX6_series 43 = .ok (.getfield 10, 3) := by decide +kernel
theorem dX6_series_46 : decode cX6_series 46 = .ok (.invokevirtual 70, 3) := by decide +kernel
theorem dX6_series_49 : decode cX6_series 49 = .ok (.istore 4, 2) := by decide +kernel
theorem dX6_series_51 : decode cX6_series 51 = .ok (.iload 4, 2) := by decide +kernel
theorem dX6_series_53 : decode cX6_series 53 = .ok (.bipush 12, 2) := by decide +kernel
theorem dX6_series_55 : decode cX6_series 55 = .ok (.if_icmp .lt 13, 3) := by decide +kernel
theorem dX6_series_58 : decode cX6_series 58 = .ok (.new 74, 3) := by decide +kernel
theorem dX6_series_61 : decode cX6_series 61 = .ok (.dup, 1) := by decide +kernel
theorem dX6_series_62 : decode cX6_series 62 = .ok (.ldc 76, 2) := by decide +kernel
theorem dX6_series_64 : decode cX6_series 64 = .ok (.invokespecial 78, 3) := by decide +kernel
theorem dX6_series_67 : decode cX6_series 67 = .ok (.athrow, 1) := by decide +kernel
theorem dX6_series_68 : decode cX6_series 68 = .ok (.aload_n 0, 1) := by decide +kernel
theorem dX6_series_69 : decode cX6_series 69 = .ok (.getfield 10, 3) := by decide +kernel
theorem dX6_series_72 : decode cX6_series 72 = .ok (.new 79, 3) := by decide +kernel
theorem dX6_series_75 : decode cX6_series 75 = .ok (.dup, 1) := by decide +kernel
theorem dX6_series_76 : decode cX6_series 76 = .ok (.iload 4, 2) := by decide +kernel
theorem dX6_series_78 : decode cX6_series 78 = .ok (.iload_n 1, 1) := by decide +kernel
theorem dX6_series_79 : decode cX6_series 79 = .ok (.iload_n 2, 1) := by decide +kernel
theorem dX6_series_80 : decode cX6_series 80 = .ok (.iload_n 3, 1) := by decide +kernel
theorem dX6_series_81 : decode cX6_series 81 = .ok (.invokespecial 81, 3) := by decide +kernel
theorem dX6_series_84 : decode cX6_series 84 = .ok (.invokevirtual 84, 3) := by decide +kernel
theorem dX6_series_87 : decode cX6_series 87 = .ok (.pop, 1) := by decide +kernel
theorem dX6_series_88 : decode cX6_series 88 = .ok (.iload 4, 2) := by decide +kernel
theorem dX6_series_90 : decode cX6_series 90 = .ok (.ireturn, 1) := by decide +kernel
theorem dX6_tell_0 : decode cX6_tell 0 = .ok (.aload_n 0, 1) := by decide +kernel
theorem dX6_tell_1 : decode cX6_tell 1 = .ok (.iload_n 1, 1) := by decide +kernel
theorem dX6_tell_2 : decode cX6_tell 2 = .ok (.invokevirtual 88, 3) := by decide +kernel
theorem dX6_tell_5 : decode cX6_tell 5 = .ok (.astore_n 3, 1) := by decide +kernel
theorem dX6_tell_6 : decode cX6_tell 6 = .ok (.aload_n 3, 1) := by decide +kernel
theorem dX6_tell_7 : decode cX6_tell 7 = .ok (.getfield 92, 3) := by decide +kernel
theorem dX6_tell_10 : decode cX6_tell 10 = .ok (.iconst 1, 1) := by decide +kernel
theorem dX6_tell_11 : decode cX6_tell 11 = .ok (.if_icmp .ne 9, 3) := by decide +kernel
theorem dX6_tell_14 : decode cX6_tell 14 = .ok (.sipush (-1000), 3) := by decide +kernel
theorem dX6_tell_17 : decode cX6_tell 17 = .ok (.goto 4, 3) := by decide +kernel
theorem dX6_tell_20 : decode cX6_tell 20 = .ok (.iconst 0, 1) := by decide +kernel
theorem dX6_tell_21 : decode cX6_tell 21 = .ok (.istore 4, 2) := by decide +kernel
theorem dX6_tell_23 : decode cX6_tell 23 = .ok (.iload_n 2, 1) := by decide +kernel
theorem dX6_tell_24 : decode cX6_tell 24 = .ok (.iload 4, 2) := by decide +kernel
theorem dX6_tell_26 : decode cX6_tell 26 = .ok (.sipush 1000, 3) := by decide +kernel
theorem dX6_tell_29 : decode cX6_tell 29 = .ok (.invokestatic 53, 3) := by decide +kernel
theorem dX6_tell_32 : decode cX6_tell 32 = .ok (.ifCond .eq 13, 3) := by decide +kernel
theorem dX6_tell_35 : decode cX6_tell 35 = .ok (.new 57, 3) := by decide +kernel
theorem dX6_tell_38 : decode cX6_tell 38 = .ok (.dup, 1) := by decide +kernel
theorem dX6_tell_39 : decode cX6_tell 39 = .ok (.ldc 95, 2) := by decide +kernel
theorem dX6_tell_41 : decode cX6_tell 41 = .ok (.invokespecial 61, 3) := by decide +kernel
theorem dX6_tell_44 : decode cX6_tell 44 = .ok (.athrow, 1) := by decide +kernel
theorem dX6_tell_45 : decode cX6_tell 45 = .ok (.aload_n 3, 1) := by decide +kernel
theorem dX6_tell_46 : decode cX6_tell 46 = .ok (.iload_n 2, 1) := by decide +kernel
theorem dX6_tell_47 : decode cX6_tell 47 = .ok (.invokevirtual 97, 3) := by decide +kernel
theorem dX6_tell_50 : decode cX6_tell 50 = .ok (.aload_n 3, 1) := by decide +kernel
theorem dX6_tell_51 : decode cX6_tell 51 = .ok (.getfield 100, 3) := by decide +kernel
theorem dX6_tell_54 : decode cX6_tell 54 = .ok (.iconst 0, 1) := by decide +kernel
theorem dX6_tell_55 : decode cX6_tell 55 = .ok (.iaload, 1) := by decide +kernel
theorem dX6_tell_56 : decode cX6_tell 56 = .ok (.ireturn, 1) := by decide +kernel
theorem dX6_reset_0 : decode cX6_reset 0 = .ok (.aload_n 0, 1) := by decide +kernel
theorem dX6_reset_1 : decode cX6_reset 1 = .ok (.iload_n 1, 1) := by decide +kernel
theorem dX6_reset_2 : decode cX6_reset 2 = .ok (.invokevirtual 88, 3) := by decide +kernel
theorem dX6_reset_5 : decode cX6_reset 5 = .ok (.astore_n 2, 1) := by decide +kernel
theorem dX6_reset_6 : decode cX6_reset 6 = .ok (.aload_n 2, 1) := by decide +kernel
theorem dX6_reset_7 : decode cX6_reset 7 = .ok (.getfield 100, 3) := by decide +kernel
theorem dX6_reset_10 : decode cX6_reset 10 = .ok (.iconst 0, 1) := by decide +kernel
theorem dX6_reset_11 : decode cX6_reset 11 = .ok (.iaload, 1) := by decide +kernel
theorem dX6_reset_12 : decode cX6_reset 12 = .ok (.istore_n 3, 1) := by decide +kernel
theorem dX6_reset_13 : decode cX6_reset 13 = .ok (.aload_n 2, 1) := by decide +kernel
theorem dX6_reset_14 : decode cX6_reset 14 = .ok (.invokevirtual 104, 3) := by decide +kernel
theorem dX6_reset_17 : decode cX6_reset 17 = .ok (.iload_n 3, 1) := by decide +kernel
theorem dX6_reset_18 : decode cX6_reset 18 = .ok (.ireturn, 1) := by decide +kernel
theorem dX6_rule_0 : decode cX6_rule 0 = .ok (.iload_n 1, 1) := by decide +kernel
theorem dX6_rule_1 : decode cX6_rule 1 = .ok (.invokestatic 64, 3) := by decide +kernel
theorem dX6_rule_4 : decode cX6_rule 4 = .ok (.iload_n 2, 1) := by decide +kernel
theorem dX6_rule_5 : decode cX6_rule 5 = .ok (.invokestatic 107, 3) := by decide +kernel
theorem dX6_rule_8 : decode cX6_rule 8 = .ok (.iload_n 3, 1) := by decide +kernel
theorem dX6_rule_9 : decode cX6_rule 9 = .ok (.invokestatic 110, 3) := by decide +kernel
theorem dX6_rule_12 : decode cX6_rule 12 = .ok (.iload 4, 2) := by decide +kernel
theorem dX6_rule_14 : decode cX6_rule 14 = .ok (.iconst 0, 1) := by decide +kernel
theorem dX6_rule_15 : decode cX6_rule 15 = .ok (.iconst 2, 1) := by decide +kernel
theorem dX6_rule_16 : decode cX6_rule 16 = .ok (.invokestatic 53, 3) := by decide +kernel
theorem dX6_rule_19 : decode cX6_rule 19 = .ok (.ifCond .eq 13, 3) := by decide +kernel
theorem dX6_rule_22 : decode cX6_rule 22 = .ok (.new 57, 3) := by decide +kernel
theorem dX6_rule_25 : decode cX6_rule 25 = .ok (.dup, 1) := by decide +kernel
theorem dX6_rule_26 : decode cX6_rule 26 = .ok (.ldc 113, 2) := by decide +kernel
theorem dX6_rule_28 : decode cX6_rule 28 = .ok (.invokespecial 61, 3) := by decide +kernel
theorem dX6_rule_31 : decode cX6_rule 31 = .ok (.athrow, 1) := by decide +kernel
theorem dX6_rule_32 : decode cX6_rule 32 = .ok (.iload 5, 2) := by decide +kernel
theorem dX6_rule_34 : decode cX6_rule 34 = .ok (.invokestatic 115, 3) := by decide +kernel
theorem dX6_rule_37 : decode cX6_rule 37 = .ok (.aload_n 0, 1) := by decide +kernel
theorem dX6_rule_38 : decode cX6_rule 38 = .ok (.getfield 16, 3) := by decide +kernel
theorem dX6_rule_41 : decode cX6_rule 41 = .ok (.invokevirtual 70, 3) := by decide +kernel
theorem dX6_rule_44 : decode cX6_rule 44 = .ok (.istore 7, 2) := by decide +kernel
theorem dX6_rule_46 : decode cX6_rule 46 = .ok (.iload 7, 2) := by decide +kernel
theorem dX6_rule_48 : decode cX6_rule 48 = .ok (.bipush 6, 2) := by decide +kernel
theorem dX6_rule_50 : decode cX6_rule 50 = .ok (.if_icmp .lt 13, 3) := by decide +kernel
theorem dX6_rule_53 : decode cX6_rule 53 = .ok (.new 74, 3) := by decide +kernel
theorem dX6_rule_56 : decode cX6_rule 56 = .ok (.dup, 1) := by decide +kernel
theorem dX6_rule_57 : decode cX6_rule 57 = .ok (.ldc 118, 2) := by decide +kernel
theorem dX6_rule_59 : decode cX6_rule 59 = .ok (.invokespecial 78, 3) := by decide +kernel
theorem dX6_rule_62 : decode cX6_rule 62 = .ok (.athrow, 1) := by decide +kernel
theorem dX6_rule_63 : decode cX6_rule 63 = .ok (.new 120, 3) := by decide +kernel
theorem dX6_rule_66 : decode cX6_rule 66 = .ok (.dup, 1) := by decide +kernel
theorem dX6_rule_67 : decode cX6_rule 67 = .ok (.iload 7, 2) := by decide +kernel
theorem dX6_rule_69 : decode cX6_rule 69 = .ok (.iload_n 1, 1) := by decide +kernel
theorem dX6_rule_70 : decode cX6_rule 70 = .ok (.iload_n 2, 1) := by decide +kernel
theorem dX6_rule_71 : decode cX6_rule 71 = .ok (.iload_n 3, 1) := by decide +kernel
theorem dX6_rule_72 : decode cX6_rule 72 = .ok (.iload 4, 2) := by decide +kernel
theorem dX6_rule_74 : decode cX6_rule 74 = .ok (.invokespecial 122, 3) := by decide +kernel
theorem dX6_rule_77 : decode cX6_rule 77 = .ok (.astore 8, 2) := by decide +kernel
theorem dX6_rule_79 : decode cX6_rule 79 = .ok (.aload 8, 2) := by decide +kernel
theorem dX6_rule_81 : decode cX6_rule 81 = .ok (.iload 5, 2) := by decide +kernel
theorem dX6_rule_83 : decode cX6_rule 83 = .ok (.putfield 125, 3) := by decide +kernel
theorem dX6_rule_86 : decode cX6_rule 86 = .ok (.aload 8, 2) := by decide +kernel
theorem dX6_rule_88 : decode cX6_rule 88 = .ok (.iload 6, 2) := by decide +kernel
theorem dX6_rule_90 : decode cX6_rule 90 = .ok (.putfield 128, 3) := by decide +kernel
theorem dX6_rule_93 : decode cX6_rule 93 = .ok (.aload_n 0, 1) := by decide +kernel
theorem dX6_rule_94 : decode cX6_rule 94 = .ok (.getfield 16, 3) := by decide +kernel
theorem dX6_rule_97 : decode cX6_rule 97 = .ok (.aload 8, 2) := by decide +kernel
theorem dX6_rule_99 : decode cX6_rule 99 = .ok (.invokevirtual 84, 3) := by decide +kernel
theorem dX6_rule_102 : decode cX6_rule 102 = .ok (.pop, 1) := by decide +kernel
theorem dX6_rule_103 : decode cX6_rule 103 = .ok (.iload 7, 2) := by decide +kernel
theorem dX6_rule_105 : decode cX6_rule 105 = .ok (.ireturn, 1) := by decide +kernel
theorem dX6_setRule_0 : decode cX6_setRule 0 = .ok (.aload_n 0, 1) := by decide +kernel
theorem dX6_setRule_1 : decode cX6_setRule 1 = .ok (.iload_n 1, 1) := by decide +kernel
theorem dX6_setRule_2 : decode cX6_setRule 2 = .ok (.invokevirtual 132, 3) := by decide +kernel
theorem dX6_setRule_5 : decode cX6_setRule 5 = .ok (.astore 5, 2) := by decide +kernel
theorem dX6_setRule_7 : decode cX6_setRule 7 = .ok (.iload_n 2, 1) := by decide +kernel
theorem dX6_setRule_8 : decode cX6_setRule 8 = .ok (.invokestatic 115, 3) := by decide +kernel
theorem dX6_setRule_11 : decode cX6_setRule 11 = .ok (.iload_n 3, 1) := by decide +kernel
theorem dX6_setRule_12 : decode cX6_setRule 12 = .ok (.iconst 0, 1) := by decide +kernel
theorem dX6_setRule_13 : decode cX6_setRule 13 = .ok (.bipush 20, 2) := by decide +kernel
theorem dX6_setRule_15 : decode cX6_setRule 15 = .ok (.invokestatic 53, 3) := by decide +kernel
theorem dX6_setRule_18 : decode cX6_setRule 18 = .ok (.ifCond .eq 13, 3) := by decide +kernel
theorem dX6_setRule_21 : decode cX6_setRule 21 = .ok (.new 57, 3) := by decide +kernel
theorem dX6_setRule_24 : decode cX6_setRule 24 = .ok (.dup, 1) := by decide +kernel
theorem dX6_setRule_25 : decode cX6_setRule 25 = .ok (.ldc 136, 2) := by decide +kernel
theorem dX6_setRule_27 : decode cX6_setRule 27 = .ok (.invokespecial 61, 3) := by decide +kernel
theorem dX6_setRule_30 : decode cX6_setRule 30 = .ok (.athrow, 1) := by decide +kernel
theorem dX6_setRule_31 : decode cX6_setRule 31 = .ok (.iload 4, 2) := by decide +kernel
theorem dX6_setRule_33 : decode cX6_setRule 33 = .ok (.iconst 0, 1) := by decide +kernel
theorem dX6_setRule_34 : decode cX6_setRule 34 = .ok (.iconst 3, 1) := by decide +kernel
theorem dX6_setRule_35 : decode cX6_setRule 35 = .ok (.invokestatic 53, 3) := by decide +kernel
theorem dX6_setRule_38 : decode cX6_setRule 38 = .ok (.ifCond .eq 13, 3) := by decide +kernel
theorem dX6_setRule_41 : decode cX6_setRule 41 = .ok (.new 57, 3) := by decide +kernel
theorem dX6_setRule_44 : decode cX6_setRule 44 = .ok (.dup, 1) := by decide +kernel
theorem dX6_setRule_45 : decode cX6_setRule 45 = .ok (.ldc 138, 2) := by decide +kernel
theorem dX6_setRule_47 : decode cX6_setRule 47 = .ok (.invokespecial 61, 3) := by decide +kernel
theorem dX6_setRule_50 : decode cX6_setRule 50 = .ok (.athrow, 1) := by decide +kernel
theorem dX6_setRule_51 : decode cX6_setRule 51 = .ok (.aload 5, 2) := by decide +kernel
theorem dX6_setRule_53 : decode cX6_setRule 53 = .ok (.getfield 125, 3) := by decide +kernel
theorem dX6_setRule_56 : decode cX6_setRule 56 = .ok (.istore 6, 2) := by decide +kernel
theorem dX6_setRule_58 : decode cX6_setRule 58 = .ok (.aload 5, 2) := by decide +kernel
theorem dX6_setRule_60 : decode cX6_setRule 60 = .ok (.iload_n 2, 1) := by decide +kernel
theorem dX6_setRule_61 : decode cX6_setRule 61 = .ok (.putfield 125, 3) := by decide +kernel
theorem dX6_setRule_64 : decode cX6_setRule 64 = .ok (.aload 5, 2) := by decide +kernel
theorem dX6_setRule_66 : decode cX6_setRule 66 = .ok (.iload_n 3, 1) := by decide +kernel
theorem dX6_setRule_67 : decode cX6_setRule 67 = .ok (.putfield 140, 3) := by decide +kernel
theorem dX6_setRule_70 : decode cX6_setRule 70 = .ok (.aload 5, 2) := by decide +kernel
theorem dX6_setRule_72 : decode cX6_setRule 72 = .ok (.iload 4, 2) := by decide +kernel
theorem dX6_setRule_74 : decode cX6_setRule 74 = .ok (.putfield 143, 3) := by decide +kernel
theorem dX6_setRule_77 : decode cX6_setRule 77 = .ok (.iload 6, 2) := by decide +kernel
theorem dX6_setRule_79 : decode cX6_setRule 79 = .ok (.ireturn, 1) := by decide +kernel
theorem dX6_dropRule_0 : decode cX6_dropRule 0 = .ok (.aload_n 0, 1) := by decide +kernel
theorem dX6_dropRule_1 : decode cX6_dropRule 1 = .ok (.getfield 16, 3) := by decide +kernel
theorem dX6_dropRule_4 : decode cX6_dropRule 4 = .ok (.invokevirtual 70, 3) := by decide +kernel
theorem dX6_dropRule_7 : decode cX6_dropRule 7 = .ok (.iconst 1, 1) := by decide +kernel
theorem dX6_dropRule_8 : decode cX6_dropRule 8 = .ok (.isub, 1) := by decide +kernel
theorem dX6_dropRule_9 : decode cX6_dropRule 9 = .ok (.istore_n 1, 1) := by decide +kernel
theorem dX6_dropRule_10 : decode cX6_dropRule 10 = .ok (.iload_n 1, 1) := by decide +kernel
theorem dX6_dropRule_11 : decode cX6_dropRule 11 = .ok (.ifCond .ge 13, 3) := by decide +kernel
theorem dX6_dropRule_14 : decode cX6_dropRule 14 = .ok (.new 74, 3) := by decide +kernel
theorem dX6_dropRule_17 : decode cX6_dropRule 17 = .ok (.dup, 1) := by decide +kernel
theorem dX6_dropRule_18 : decode cX6_dropRule 18 = .ok (.ldc 146, 2) := by decide +kernel
theorem dX6_dropRule_20 : decode cX6_dropRule 20 = .ok (.invokespecial 78, 3) := by decide +kernel
theorem dX6_dropRule_23 : decode cX6_dropRule 23 = .ok (.athrow, 1) := by decide +kernel
theorem dX6_dropRule_24 : decode cX6_dropRule 24 = .ok (.aload_n 0, 1) := by decide +kernel
theorem dX6_dropRule_25 : decode cX6_dropRule 25 = .ok (.getfield 16, 3) := by decide +kernel
theorem dX6_dropRule_28 : decode cX6_dropRule 28 = .ok (.iload_n 1, 1) := by decide +kernel
theorem dX6_dropRule_29 : decode cX6_dropRule 29 = .ok (.invokevirtual 148, 3) := by decide +kernel
theorem dX6_dropRule_32 : decode cX6_dropRule 32 = .ok (.pop, 1) := by decide +kernel
theorem dX6_dropRule_33 : decode cX6_dropRule 33 = .ok (.aload_n 0, 1) := by decide +kernel
theorem dX6_dropRule_34 : decode cX6_dropRule 34 = .ok (.iload_n 1, 1) := by decide +kernel
theorem dX6_dropRule_35 : decode cX6_dropRule 35 = .ok (.invokevirtual 152, 3) := by decide +kernel
theorem dX6_dropRule_38 : decode cX6_dropRule 38 = .ok (.iload_n 1, 1) := by decide +kernel
theorem dX6_dropRule_39 : decode cX6_dropRule 39 = .ok (.ireturn, 1) := by decide +kernel
theorem dX6_hush_0 : decode cX6_hush 0 = .ok (.iload_n 1, 1) := by decide +kernel
theorem dX6_hush_1 : decode cX6_hush 1 = .ok (.iconst (-1), 1) := by decide +kernel
theorem dX6_hush_2 : decode cX6_hush 2 = .ok (.if_icmp .eq 9, 3) := by decide +kernel
theorem dX6_hush_5 : decode cX6_hush 5 = .ok (.aload_n 0, 1) := by decide +kernel
theorem dX6_hush_6 : decode cX6_hush 6 = .ok (.iload_n 1, 1) := by decide +kernel
theorem dX6_hush_7 : decode cX6_hush 7 = .ok (.invokevirtual 132, 3) := by decide +kernel
theorem dX6_hush_10 : decode cX6_hush 10 = .ok (.pop, 1) := by decide +kernel
theorem dX6_hush_11 : decode cX6_hush 11 = .ok (.iload_n 2, 1) := by decide +kernel
theorem dX6_hush_12 : decode cX6_hush 12 = .ok (.iconst (-1), 1) := by decide +kernel
theorem dX6_hush_13 : decode cX6_hush 13 = .ok (.iconst 5, 1) := by decide +kernel
theorem dX6_hush_14 : decode cX6_hush 14 = .ok (.invokestatic 53, 3) := by decide +kernel
theorem dX6_hush_17 : decode cX6_hush 17 = .ok (.ifCond .eq 13, 3) := by decide +kernel
theorem dX6_hush_20 : decode cX6_hush 20 = .ok (.new 57, 3) := by decide +kernel
theorem dX6_hush_23 : decode cX6_hush 23 = .ok (.dup, 1) := by decide +kernel
theorem dX6_hush_24 : decode cX6_hush 24 = .ok (.ldc 155, 2) := by decide +kernel
theorem dX6_hush_26 : decode cX6_hush 26 = .ok (.invokespecial 61, 3) := by decide +kernel
theorem dX6_hush_29 : decode cX6_hush 29 = .ok (.athrow, 1) := by decide +kernel
theorem dX6_hush_30 : decode cX6_hush 30 = .ok (.iload_n 3, 1) := by decide +kernel
theorem dX6_hush_31 : decode cX6_hush 31 = .ok (.iconst 1, 1) := by decide +kernel
theorem dX6_hush_32 : decode cX6_hush 32 = .ok (.bipush 60, 2) := by decide +kernel
theorem dX6_hush_34 : decode cX6_hush 34 = .ok (.invokestatic 53, 3) := by decide +kernel
theorem dX6_hush_37 : decode cX6_hush 37 = .ok (.ifCond .eq 13, 3) := by decide +kernel
theorem dX6_hush_40 : decode cX6_hush 40 = .ok (.new 57, 3) := by decide +kernel
theorem dX6_hush_43 : decode cX6_hush 43 = .ok (.dup, 1) := by decide +kernel
theorem dX6_hush_44 : decode cX6_hush 44 = .ok (.ldc 157, 2) := by decide +kernel
theorem dX6_hush_46 : decode cX6_hush 46 = .ok (.invokespecial 61, 3) := by decide +kernel
theorem dX6_hush_49 : decode cX6_hush 49 = .ok (.athrow, 1) := by decide +kernel
theorem dX6_hush_50 : decode cX6_hush 50 = .ok (.aload_n 0, 1) := by decide +kernel
theorem dX6_hush_51 : decode cX6_hush 51 = .ok (.getfield 19, 3) := by decide +kernel
theorem dX6_hush_54 : decode cX6_hush 54 = .ok (.invokevirtual 70, 3) := by decide +kernel
theorem dX6_hush_57 : decode cX6_hush 57 = .ok (.istore 4, 2) := by decide +kernel
theorem dX6_hush_59 : decode cX6_hush 59 = .ok (.iload 4, 2) := by decide +kernel
theorem dX6_hush_61 : decode cX6_hush 61 = .ok (.iconst 5, 1) := by decide +kernel
theorem dX6_hush_62 : decode cX6_hush 62 = .ok (.if_icmp .lt 13, 3) := by decide +kernel
theorem dX6_hush_65 : decode cX6_hush 65 = .ok (.new 74, 3) := by decide +kernel
theorem dX6_hush_68 : decode cX6_hush 68 = .ok (.dup, 1) := by decide +kernel
theorem dX6_hush_69 : decode cX6_hush 69 = .ok (.ldc 159, 2) := by decide +kernel
theorem dX6_hush_71 : decode cX6_hush 71 = .ok (.invokespecial 78, 3) := by decide +kernel
theorem dX6_hush_74 : decode cX6_hush 74 = .ok (.athrow, 1) := by decide +kernel
theorem dX6_hush_75 : decode cX6_hush 75 = .ok (.aload_n 0, 1) := by decide +kernel
theorem dX6_hush_76 : decode cX6_hush 76 = .ok (.getfield 19, 3) := by decide +kernel
theorem dX6_hush_79 : decode cX6_hush 79 = .ok (.new 161, 3) := by decide +kernel
theorem dX6_hush_82 : decode cX6_hush 82 = .ok (.dup, 1) := by decide +kernel
theorem dX6_hush_83 : decode cX6_hush 83 = .ok (.iload_n 1, 1) := by decide +kernel
theorem dX6_hush_84 : decode cX6_hush 84 = .ok (.iload_n 2, 1) := by decide +kernel
theorem dX6_hush_85 : decode cX6_hush 85 = .ok (.aload_n 0, 1) := by decide +kernel
theorem dX6_hush_86 : decode cX6_hush 86 = .ok (.getfield 43, 3) := by decide +kernel
theorem dX6_hush_89 : decode cX6_hush 89 = .ok (.iload_n 3, 1) := by decide +kernel
theorem dX6_hush_90 : decode cX6_hush 90 = .ok (.iadd, 1) := by decide +kernel
theorem dX6_hush_91 : decode cX6_hush 91 = .ok (.invokespecial 163, 3) := by decide +kernel
theorem dX6_hush_94 : decode cX6_hush 94 = .ok (.invokevirtual 84, 3) := by decide +kernel
theorem dX6_hush_97 : decode cX6_hush 97 = .ok (.pop, 1) := by decide +kernel
theorem dX6_hush_98 : decode cX6_hush 98 = .ok (.iload 4, 2) := by decide +kernel
theorem dX6_hush_100 : decode cX6_hush 100 = .ok (.ireturn, 1) := by decide +kernel
theorem dX6_group_0 : decode cX6_group 0 = .ok (.iload_n 1, 1) := by decide +kernel
theorem dX6_group_1 : decode cX6_group 1 = .ok (.iconst 0, 1) := by decide +kernel
theorem dX6_group_2 : decode cX6_group 2 = .ok (.iconst 2, 1) := by decide +kernel
theorem dX6_group_3 : decode cX6_group 3 = .ok (.invokestatic 53, 3) := by decide +kernel
theorem dX6_group_6 : decode cX6_group 6 = .ok (.ifCond .eq 13, 3) := by decide +kernel
theorem dX6_group_9 : decode cX6_group 9 = .ok (.new 57, 3) := by decide +kernel
theorem dX6_group_12 : decode cX6_group 12 = .ok (.dup, 1) := by decide +kernel
theorem dX6_group_13 : decode cX6_group 13 = .ok (.ldc 170, 2) := by decide +kernel
theorem dX6_group_15 : decode cX6_group 15 = .ok (.invokespecial 61, 3) := by decide +kernel
theorem dX6_group_18 : decode cX6_group 18 = .ok (.athrow, 1) := by decide +kernel
theorem dX6_group_19 : decode cX6_group 19 = .ok (.iload_n 2, 1) := by decide +kernel
theorem dX6_group_20 : decode cX6_group 20 = .ok (.iconst 5, 1) := by decide +kernel
theorem dX6_group_21 : decode cX6_group 21 = .ok (.bipush 50, 2) := by decide +kernel
theorem dX6_group_23 : decode cX6_group 23 = .ok (.invokestatic 53, 3) := by decide +kernel
theorem dX6_group_26 : decode cX6_group 26 = .ok (.ifCond .eq 13, 3) := by decide +kernel
theorem dX6_group_29 : decode cX6_group 29 = .ok (.new 57, 3) := by decide +kernel
theorem dX6_group_32 : decode cX6_group 32 = .ok (.dup, 1) := by decide +kernel
theorem dX6_group_33 : decode cX6_group 33 = .ok (.ldc 172, 2) := by decide +kernel
theorem dX6_group_35 : decode cX6_group 35 = .ok (.invokespecial 61, 3) := by decide +kernel
theorem dX6_group_38 : decode cX6_group 38 = .ok (.athrow, 1) := by decide +kernel
theorem dX6_group_39 : decode cX6_group 39 = .ok (.aload_n 0, 1) := by decide +kernel
theorem dX6_group_40 : decode cX6_group 40 = .ok (.getfield 47, 3) := by decide +kernel
theorem dX6_group_43 : decode cX6_group 43 = .ok (.istore_n 3, 1) := by decide +kernel
theorem dX6_group_44 : decode cX6_group 44 = .ok (.aload_n 0, 1) := by decide +kernel
theorem dX6_group_45 : decode cX6_group 45 = .ok (.iload_n 2, 1) := by decide +kernel
theorem dX6_group_46 : decode cX6_group 46 = .ok (.putfield 50, 3) := by decide +kernel
theorem dX6_group_49 : decode cX6_group 49 = .ok (.iload_n 1, 1) := by decide +kernel
theorem dX6_group_50 : decode cX6_group 50 = .ok (.iload_n 3, 1) := by decide +kernel
theorem dX6_group_51 : decode cX6_group 51 = .ok (.if_icmp .eq 12, 3) := by decide +kernel
theorem dX6_group_54 : decode cX6_group 54 = .ok (.aload_n 0, 1) := by decide +kernel
theorem dX6_group_55 : decode cX6_group 55 = .ok (.iload_n 1, 1) := by decide +kernel
theorem dX6_group_56 : decode cX6_group 56 = .ok (.putfield 47, 3) := by decide +kernel
theorem dX6_group_59 : decode cX6_group 59 = .ok (.aload_n 0, 1) := by decide +kernel
theorem dX6_group_60 : decode cX6_group 60 = .ok (.invokevirtual 174, 3) := by decide +kernel
theorem dX6_group_63 : decode cX6_group 63 = .ok (.iload_n 3, 1) := by decide +kernel
theorem dX6_group_64 : decode cX6_group 64 = .ok (.ireturn, 1) := by decide +kernel
theorem dX6_tick_0 : decode cX6_tick 0 = .ok (.iload_n 1, 1) := by decide +kernel
theorem dX6_tick_1 : decode cX6_tick 1 = .ok (.invokestatic 177, 3) := by decide +kernel
theorem dX6_tick_4 : decode cX6_tick 4 = .ok (.iconst 0, 1) := by decide +kernel
theorem dX6_tick_5 : decode cX6_tick 5 = .ok (.istore_n 2, 1) := by decide +kernel
theorem dX6_tick_6 : decode cX6_tick 6 = .ok (.iconst 0, 1) := by decide +kernel
theorem dX6_tick_7 : decode cX6_tick 7 = .ok (.istore_n 3, 1) := by decide +kernel
theorem dX6_tick_8 : decode cX6_tick 8 = .ok (.iload_n 3, 1) := by decide +kernel
theorem dX6_tick_9 : decode cX6_tick 9 = .ok (.iload_n 1, 1) := by decide +kernel
theorem dX6_tick_10 : decode cX6_tick 10 = .ok (.if_icmp .ge 99, 3) := by decide +kernel
theorem dX6_tick_13 : decode cX6_tick 13 = .ok (.aload_n 0, 1) := by decide +kernel
theorem dX6_tick_14 : decode cX6_tick 14 = .ok (.dup, 1) := by decide +kernel
theorem dX6_tick_15 : decode cX6_tick 15 = .ok (.getfield 43, 3) := by decide +kernel
theorem dX6_tick_18 : decode cX6_tick 18 = .ok (.iconst 1, 1) := by decide +kernel
theorem dX6_tick_19 : decode cX6_tick 19 = .ok (.iadd, 1) := by decide +kernel
theorem dX6_tick_20 : decode cX6_tick 20 = .ok (.putfield 43, 3) := by decide +kernel
theorem dX6_tick_23 : decode cX6_tick 23 = .ok (.iconst 0, 1) := by decide +kernel
theorem dX6_tick_24 : decode cX6_tick 24 = .ok (.istore 4, 2) := by decide +kernel
theorem dX6_tick_26 : decode cX6_tick 26 = .ok (.iload 4, 2) := by decide +kernel
theorem dX6_tick_28 : decode cX6_tick 28 = .ok (.aload_n 0, 1) := by decide +kernel
theorem dX6_tick_29 : decode cX6_tick 29 = .ok (.getfield 10, 3) := by decide +kernel
theorem dX6_tick_32 : decode cX6_tick 32 = .ok (.invokevirtual 70, 3) := by decide +kernel
theorem dX6_tick_35 : decode cX6_tick 35 = .ok (.if_icmp .ge 24, 3) := by decide +kernel
theorem dX6_tick_38 : decode cX6_tick 38 = .ok (.aload_n 0, 1) := by decide +kernel
theorem dX6_tick_39 : decode cX6_tick 39 = .ok (.getfield 10, 3) := by decide +kernel
theorem dX6_tick_42 : decode cX6_tick 42 = .ok (.iload 4, 2) := by decide +kernel
theorem dX6_tick_44 : decode cX6_tick 44 = .ok (.invokevirtual 180, 3) := by decide +kernel
theorem dX6_tick_47 : decode cX6_tick 47 = .ok (.checkcast 79, 3) := by decide +kernel
theorem dX6_tick_50 : decode cX6_tick 50 = .ok (.invokevirtual 183, 3) := by decide +kernel
theorem dX6_tick_53 : decode cX6_tick 53 = .ok (.iinc 4 1, 3) := by decide +kernel
theorem dX6_tick_56 : decode cX6_tick 56 = .ok (.goto (-30), 3) := by decide +kernel
theorem dX6_tick_59 : decode cX6_tick 59 = .ok (.iconst 0, 1) := by decide +kernel
theorem dX6_tick_60 : decode cX6_tick 60 = .ok (.istore 4, 2) := by decide +kernel
theorem dX6_tick_62 : decode cX6_tick 62 = .ok (.iload 4, 2) := by decide +kernel
theorem dX6_tick_64 : decode cX6_tick 64 = .ok (.aload_n 0, 1) := by decide +kernel
theorem dX6_tick_65 : decode cX6_tick 65 = .ok (.getfield 16, 3) := by decide +kernel
theorem dX6_tick_68 : decode cX6_tick 68 = .ok (.invokevirtual 70, 3) := by decide +kernel
theorem dX6_tick_71 : decode cX6_tick 71 = .ok (.if_icmp .ge 25, 3) := by decide +kernel
theorem dX6_tick_74 : decode cX6_tick 74 = .ok (.aload_n 0, 1) := by decide +kernel
theorem dX6_tick_75 : decode cX6_tick 75 = .ok (.aload_n 0, 1) := by decide +kernel
theorem dX6_tick_76 : decode cX6_tick 76 = .ok (.getfield 16, 3) := by decide +kernel
theorem dX6_tick_79 : decode cX6_tick 79 = .ok (.iload 4, 2) := by decide +kernel
theorem dX6_tick_81 : decode cX6_tick 81 = .ok (.invokevirtual 180, 3) := by decide +kernel
theorem dX6_tick_84 : decode cX6_tick 84 = .ok (.checkcast 120, 3) := by decide +kernel
theorem dX6_tick_87 : decode cX6_tick 87 = .ok (.invokevirtual 186, 3) := by decide +kernel
theorem dX6_tick_90 : decode cX6_tick 90 = .ok (.iinc 4 1, 3) := by decide +kernel
theorem dX6_tick_93 : decode cX6_tick 93 = .ok (.goto (-31), 3) := by decide +kernel
theorem dX6_tick_96 : decode cX6_tick 96 = .ok (.iload_n 2, 1) := by decide +kernel
theorem dX6_tick_97 : decode cX6_tick 97 = .ok (.aload_n 0, 1) := by decide +kernel
theorem dX6_tick_98 : decode cX6_tick 98 = .ok (.invokevirtual 190, 3) := by decide +kernel
theorem dX6_tick_101 : decode cX6_tick 101 = .ok (.iadd, 1) := by decide +kernel
theorem dX6_tick_102 : decode cX6_tick 102 = .ok (.istore_n 2, 1) := by decide +kernel
theorem dX6_tick_103 : decode cX6_tick 103 = .ok (.iinc 3 1, 3) := by decide +kernel
theorem dX6_tick_106 : decode cX6_tick 106 = .ok (.goto (-98), 3) := by decide +kernel
theorem dX6_tick_109 : decode cX6_tick 109 = .ok (.iload_n 2, 1) := by decide +kernel
theorem dX6_tick_110 : decode cX6_tick 110 = .ok (.ireturn, 1) := by decide +kernel
theorem dX6_clock_0 : decode cX6_clock 0 = .ok (.aload_n 0, 1) := by decide +kernel
theorem dX6_clock_1 : decode cX6_clock 1 = .ok (.getfield 43, 3) := by decide +kernel
theorem dX6_clock_4 : decode cX6_clock 4 = .ok (.ireturn, 1) := by decide +kernel
theorem dX6_many_0 : decode cX6_many 0 = .ok (.iload_n 1, 1) := by decide +kernel
theorem dX6_many_1 : decode cX6_many 1 = .ok (.tableswitch 93 0 6 #[43, 51, 59, 67, 73, 79, 85], 43) := by decide +kernel
theorem dX6_many_44 : decode cX6_many 44 = .ok (.aload_n 0, 1) := by decide +kernel
theorem dX6_many_45 : decode cX6_many 45 = .ok (.getfield 10, 3) := by decide +kernel
theorem dX6_many_48 : decode cX6_many 48 = .ok (.invokevirtual 70, 3) := by decide +kernel
theorem dX6_many_51 : decode cX6_many 51 = .ok (.ireturn, 1) := by decide +kernel
theorem dX6_many_52 : decode cX6_many 52 = .ok (.aload_n 0, 1) := by decide +kernel
theorem dX6_many_53 : decode cX6_many 53 = .ok (.getfield 16, 3) := by decide +kernel
theorem dX6_many_56 : decode cX6_many 56 = .ok (.invokevirtual 70, 3) := by decide +kernel
theorem dX6_many_59 : decode cX6_many 59 = .ok (.ireturn, 1) := by decide +kernel
theorem dX6_many_60 : decode cX6_many 60 = .ok (.aload_n 0, 1) := by decide +kernel
theorem dX6_many_61 : decode cX6_many 61 = .ok (.getfield 19, 3) := by decide +kernel
theorem dX6_many_64 : decode cX6_many 64 = .ok (.invokevirtual 70, 3) := by decide +kernel
theorem dX6_many_67 : decode cX6_many 67 = .ok (.ireturn, 1) := by decide +kernel
theorem dX6_many_68 : decode cX6_many 68 = .ok (.aload_n 0, 1) := by decide +kernel
theorem dX6_many_69 : decode cX6_many 69 = .ok (.iconst 1, 1) := by decide +kernel
theorem dX6_many_70 : decode cX6_many 70 = .ok (.invokevirtual 193, 3) := by decide +kernel
theorem dX6_many_73 : decode cX6_many 73 = .ok (.ireturn, 1) := by decide +kernel
theorem dX6_many_74 : decode cX6_many 74 = .ok (.aload_n 0, 1) := by decide +kernel
theorem dX6_many_75 : decode cX6_many 75 = .ok (.iconst 2, 1) := by decide +kernel
theorem dX6_many_76 : decode cX6_many 76 = .ok (.invokevirtual 193, 3) := by decide +kernel
theorem dX6_many_79 : decode cX6_many 79 = .ok (.ireturn, 1) := by decide +kernel
theorem dX6_many_80 : decode cX6_many 80 = .ok (.aload_n 0, 1) := by decide +kernel
theorem dX6_many_81 : decode cX6_many 81 = .ok (.iconst (-1), 1) := by decide +kernel
theorem dX6_many_82 : decode cX6_many 82 = .ok (.invokevirtual 197, 3) := by decide +kernel
theorem dX6_many_85 : decode cX6_many 85 = .ok (.ireturn, 1) := by decide +kernel
theorem dX6_many_86 : decode cX6_many 86 = .ok (.aload_n 0, 1) := by decide +kernel
theorem dX6_many_87 : decode cX6_many 87 = .ok (.getfield 32, 3) := by decide +kernel
theorem dX6_many_90 : decode cX6_many 90 = .ok (.getfield 200, 3) := by decide +kernel
theorem dX6_many_93 : decode cX6_many 93 = .ok (.ireturn, 1) := by decide +kernel
theorem dX6_many_94 : decode cX6_many 94 = .ok (.new 57, 3) := by decide +kernel
theorem dX6_many_97 : decode cX6_many 97 = .ok (.dup, 1) := by decide +kernel
theorem dX6_many_98 : decode cX6_many 98 = .ok (.ldc 203, 2) := by decide +kernel
theorem dX6_many_100 : decode cX6_many 100 = .ok (.invokespecial 61, 3) := by decide +kernel
theorem dX6_many_103 : decode cX6_many 103 = .ok (.athrow, 1) := by decide +kernel
theorem dX6_now_0 : decode cX6_now 0 = .ok (.aload_n 0, 1) := by decide +kernel
theorem dX6_now_1 : decode cX6_now 1 = .ok (.iload_n 1, 1) := by decide +kernel
theorem dX6_now_2 : decode cX6_now 2 = .ok (.invokevirtual 88, 3) := by decide +kernel
theorem dX6_now_5 : decode cX6_now 5 = .ok (.astore_n 3, 1) := by decide +kernel
theorem dX6_now_6 : decode cX6_now 6 = .ok (.iload_n 2, 1) := by decide +kernel
theorem dX6_now_7 : decode cX6_now 7 = .ok (.iconst 0, 1) := by decide +kernel
theorem dX6_now_8 : decode cX6_now 8 = .ok (.bipush 6, 2) := by decide +kernel
theorem dX6_now_10 : decode cX6_now 10 = .ok (.invokestatic 53, 3) := by decide +kernel
theorem dX6_now_13 : decode cX6_now 13 = .ok (.ifCond .eq 13, 3) := by decide +kernel
theorem dX6_now_16 : decode cX6_now 16 = .ok (.new 57, 3) := by decide +kernel
theorem dX6_now_19 : decode cX6_now 19 = .ok (.dup, 1) := by decide +kernel
theorem dX6_now_20 : decode cX6_now 20 = .ok (.ldc 203, 2) := by decide +kernel
theorem dX6_now_22 : decode cX6_now 22 = .ok (.invokespecial 61, 3) := by decide +kernel
theorem dX6_now_25 : decode cX6_now 25 = .ok (.athrow, 1) := by decide +kernel
theorem dX6_now_26 : decode cX6_now 26 = .ok (.iload_n 2, 1) := by decide +kernel
theorem dX6_now_27 : decode cX6_now 27 = .ok (.ifCond .ne 10, 3) := by decide +kernel
theorem dX6_now_30 : decode cX6_now 30 = .ok (.aload_n 3, 1) := by decide +kernel
theorem dX6_now_31 : decode cX6_now 31 = .ok (.getfield 100, 3) := by decide +kernel
theorem dX6_now_34 : decode cX6_now 34 = .ok (.iconst 0, 1) := by decide +kernel
theorem dX6_now_35 : decode cX6_now 35 = .ok (.iaload, 1) := by decide +kernel
theorem dX6_now_36 : decode cX6_now 36 = .ok (.ireturn, 1) := by decide +kernel
theorem dX6_now_37 : decode cX6_now 37 = .ok (.iload_n 2, 1) := by decide +kernel
theorem dX6_now_38 : decode cX6_now 38 = .ok (.iconst 1, 1) := by decide +kernel
theorem dX6_now_39 : decode cX6_now 39 = .ok (.if_icmp .ne 10, 3) := by decide +kernel
theorem dX6_now_42 : decode cX6_now 42 = .ok (.aload_n 3, 1) := by decide +kernel
theorem dX6_now_43 : decode cX6_now 43 = .ok (.getfield 205, 3) := by decide +kernel
theorem dX6_now_46 : decode cX6_now 46 = .ok (.goto 13, 3) := by decide +kernel
theorem dX6_now_49 : decode cX6_now 49 = .ok (.aload_n 3, 1) := by decide +kernel
theorem dX6_now_50 : decode cX6_now 50 = .ok (.getfield 100, 3) := by decide +kernel
theorem dX6_now_53 : decode cX6_now 53 = .ok (.iload_n 2, 1) := by decide +kernel
theorem dX6_now_54 : decode cX6_now 54 = .ok (.iconst 2, 1) := by decide +kernel
theorem dX6_now_55 : decode cX6_now 55 = .ok (.isub, 1) := by decide +kernel
theorem dX6_now_56 : decode cX6_now 56 = .ok (.iconst 1, 1) := by decide +kernel
theorem dX6_now_57 : decode cX6_now 57 = .ok (.iadd, 1) := by decide +kernel
theorem dX6_now_58 : decode cX6_now 58 = .ok (.iaload, 1) := by decide +kernel
theorem dX6_now_59 : decode cX6_now 59 = .ok (.ireturn, 1) := by decide +kernel
theorem dX6_sample_0 : decode cX6_sample 0 = .ok (.aload_n 0, 1) := by decide +kernel
theorem dX6_sample_1 : decode cX6_sample 1 = .ok (.iload_n 1, 1) := by decide +kernel
theorem dX6_sample_2 : decode cX6_sample 2 = .ok (.invokevirtual 88, 3) := by decide +kernel
theorem dX6_sample_5 : decode cX6_sample 5 = .ok (.astore_n 3, 1) := by decide +kernel
theorem dX6_sample_6 : decode cX6_sample 6 = .ok (.iload_n 2, 1) := by decide +kernel
theorem dX6_sample_7 : decode cX6_sample 7 = .ok (.ifCond .ge 13, 3) := by decide +kernel
theorem dX6_sample_10 : decode cX6_sample 10 = .ok (.new 57, 3) := by decide +kernel
theorem dX6_sample_13 : decode cX6_sample 13 = .ok (.dup, 1) := by decide +kernel
theorem dX6_sample_14 : decode cX6_sample 14 = .ok (.ldc 208, 2) := by decide +kernel
theorem dX6_sample_16 : decode cX6_sample 16 = .ok (.invokespecial 61, 3) := by decide +kernel
theorem dX6_sample_19 : decode cX6_sample 19 = .ok (.athrow, 1) := by decide +kernel
theorem dX6_sample_20 : decode cX6_sample 20 = .ok (.aload_n 3, 1) := by decide +kernel
theorem dX6_sample_21 : decode cX6_sample 21 = .ok (.iconst 0, 1) := by decide +kernel
theorem dX6_sample_22 : decode cX6_sample 22 = .ok (.iload_n 2, 1) := by decide +kernel
theorem dX6_sample_23 : decode cX6_sample 23 = .ok (.iconst 0, 1) := by decide +kernel
theorem dX6_sample_24 : decode cX6_sample 24 = .ok (.invokevirtual 210, 3) := by decide +kernel
theorem dX6_sample_27 : decode cX6_sample 27 = .ok (.ireturn, 1) := by decide +kernel
theorem dX6_look_0 : decode cX6_look 0 = .ok (.aload_n 0, 1) := by decide +kernel
