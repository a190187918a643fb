theorem dX6_look_1 : decode cX6_look 1 = .ok (.iload_n 1, 1) := by decide +kernel
theorem dX6_look_2 : decode cX6_look 2 = .ok (.invokevirtual 88, 3) := by decide +kernel
theorem dX6_look_5 : decode cX6_look 5 = .ok (.astore 4, 2) := by decide +kernel
theorem dX6_look_7 : decode cX6_look 7 = .ok (.iload_n 2, 1) := by decide +kernel
theorem dX6_look_8 : decode cX6_look 8 = .ok (.invokestatic 107, 3) := by decide +kernel
theorem dX6_look_11 : decode cX6_look 11 = .ok (.iload_n 3, 1) := by decide +kernel
theorem dX6_look_12 : decode cX6_look 12 = .ok (.invokestatic 110, 3) := by decide +kernel
theorem dX6_look_15 : decode cX6_look 15 = .ok (.aload 4, 2) := by decide +kernel
theorem dX6_look_17 : decode cX6_look 17 = .ok (.iload_n 2, 1) := by decide +kernel
theorem dX6_look_18 : decode cX6_look 18 = .ok (.iload_n 3, 1) := by decide +kernel
theorem dX6_look_19 : decode cX6_look 19 = .ok (.iconst 0, 1) := by decide +kernel
theorem dX6_look_20 : decode cX6_look 20 = .ok (.invokevirtual 214, 3) := by decide +kernel
theorem dX6_look_23 : decode cX6_look 23 = .ok (.ireturn, 1) := by decide +kernel
theorem dX6_alert_0 : decode cX6_alert 0 = .ok (.aload_n 0, 1) := by decide +kernel
theorem dX6_alert_1 : decode cX6_alert 1 = .ok (.iload_n 1, 1) := by decide +kernel
theorem dX6_alert_2 : decode cX6_alert 2 = .ok (.invokevirtual 132, 3) := by decide +kernel
theorem dX6_alert_5 : decode cX6_alert 5 = .ok (.astore 4, 2) := by decide +kernel
theorem dX6_alert_7 : decode cX6_alert 7 = .ok (.iload_n 3, 1) := by decide +kernel
theorem dX6_alert_8 : decode cX6_alert 8 = .ok (.iconst 0, 1) := by decide +kernel
theorem dX6_alert_9 : decode cX6_alert 9 = .ok (.iconst 2, 1) := by decide +kernel
theorem dX6_alert_10 : decode cX6_alert 10 = .ok (.invokestatic 53, 3) := by decide +kernel
theorem dX6_alert_13 : decode cX6_alert 13 = .ok (.ifCond .eq 13, 3) := by decide +kernel
theorem dX6_alert_16 : decode cX6_alert 16 = .ok (.new 57, 3) := by decide +kernel
theorem dX6_alert_19 : decode cX6_alert 19 = .ok (.dup, 1) := by decide +kernel
theorem dX6_alert_20 : decode cX6_alert 20 = .ok (.ldc 227, 2) := by decide +kernel
theorem dX6_alert_22 : decode cX6_alert 22 = .ok (.invokespecial 61, 3) := by decide +kernel
theorem dX6_alert_25 : decode cX6_alert 25 = .ok (.athrow, 1) := by decide +kernel
theorem dX6_alert_26 : decode cX6_alert 26 = .ok (.aload 4, 2) := by decide +kernel
theorem dX6_alert_28 : decode cX6_alert 28 = .ok (.iload_n 2, 1) := by decide +kernel
theorem dX6_alert_29 : decode cX6_alert 29 = .ok (.invokevirtual 229, 3) := by decide +kernel
theorem dX6_alert_32 : decode cX6_alert 32 = .ok (.astore 5, 2) := by decide +kernel
theorem dX6_alert_34 : decode cX6_alert 34 = .ok (.aload 5, 2) := by decide +kernel
theorem dX6_alert_36 : decode cX6_alert 36 = .ok (.ifnonnull 22, 3) := by decide +kernel
theorem dX6_alert_39 : decode cX6_alert 39 = .ok (.iload_n 3, 1) := by decide +kernel
theorem dX6_alert_40 : decode cX6_alert 40 = .ok (.ifCond .ne 7, 3) := by decide +kernel
theorem dX6_alert_43 : decode cX6_alert 43 = .ok (.iconst 0, 1) := by decide +kernel
theorem dX6_alert_44 : decode cX6_alert 44 = .ok (.goto 13, 3) := by decide +kernel
theorem dX6_alert_47 : decode cX6_alert 47 = .ok (.iload_n 3, 1) := by decide +kernel
theorem dX6_alert_48 : decode cX6_alert 48 = .ok (.iconst 1, 1) := by decide +kernel
theorem dX6_alert_49 : decode cX6_alert 49 = .ok (.if_icmp .ne 7, 3) := by decide +kernel
theorem dX6_alert_52 : decode cX6_alert 52 = .ok (.iconst (-1), 1) := by decide +kernel
theorem dX6_alert_53 : decode cX6_alert 53 = .ok (.goto 4, 3) := by decide +kernel
theorem dX6_alert_56 : decode cX6_alert 56 = .ok (.iconst 1, 1) := by decide +kernel
theorem dX6_alert_57 : decode cX6_alert 57 = .ok (.ireturn, 1) := by decide +kernel
theorem dX6_alert_58 : decode cX6_alert 58 = .ok (.iload_n 3, 1) := by decide +kernel
theorem dX6_alert_59 : decode cX6_alert 59 = .ok (.lookupswitch 37 #[(0, 25), (1, 31)], 25) := by decide +kernel
theorem dX6_alert_84 : decode cX6_alert 84 = .ok (.aload 5, 2) := by decide +kernel
theorem dX6_alert_86 : decode cX6_alert 86 = .ok (.getfield 233, 3) := by decide +kernel
theorem dX6_alert_89 : decode cX6_alert 89 = .ok (.ireturn, 1) := by decide +kernel
theorem dX6_alert_90 : decode cX6_alert 90 = .ok (.aload 5, 2) := by decide +kernel
theorem dX6_alert_92 : decode cX6_alert 92 = .ok (.getfield 236, 3) := by decide +kernel
theorem dX6_alert_95 : decode cX6_alert 95 = .ok (.ireturn, 1) := by decide +kernel
theorem dX6_alert_96 : decode cX6_alert 96 = .ok (.aload_n 0, 1) := by decide +kernel
theorem dX6_alert_97 : decode cX6_alert 97 = .ok (.aload 4, 2) := by decide +kernel
theorem dX6_alert_99 : decode cX6_alert 99 = .ok (.iload_n 2, 1) := by decide +kernel
theorem dX6_alert_100 : decode cX6_alert 100 = .ok (.iconst (-1), 1) := by decide +kernel
theorem dX6_alert_101 : decode cX6_alert 101 = .ok (.invokevirtual 239, 3) := by decide +kernel
theorem dX6_alert_104 : decode cX6_alert 104 = .ok (.ireturn, 1) := by decide +kernel
theorem dX6_alertAt_0 : decode cX6_alertAt 0 = .ok (.aconst_null, 1) := by decide +kernel
theorem dX6_alertAt_1 : decode cX6_alertAt 1 = .ok (.astore_n 3, 1) := by decide +kernel
theorem dX6_alertAt_2 : decode cX6_alertAt 2 = .ok (.iconst (-1), 1) := by decide +kernel
theorem dX6_alertAt_3 : decode cX6_alertAt 3 = .ok (.istore 4, 2) := by decide +kernel
theorem dX6_alertAt_5 : decode cX6_alertAt 5 = .ok (.iconst 0, 1) := by decide +kernel
theorem dX6_alertAt_6 : decode cX6_alertAt 6 = .ok (.istore 5, 2) := by decide +kernel
theorem dX6_alertAt_8 : decode cX6_alertAt 8 = .ok (.iconst 0, 1) := by decide +kernel
theorem dX6_alertAt_9 : decode cX6_alertAt 9 = .ok (.istore 6, 2) := by decide +kernel
theorem dX6_alertAt_11 : decode cX6_alertAt 11 = .ok (.iload 6, 2) := by decide +kernel
theorem dX6_alertAt_13 : decode cX6_alertAt 13 = .ok (.aload_n 0, 1) := by decide +kernel
theorem dX6_alertAt_14 : decode cX6_alertAt 14 = .ok (.getfield 16, 3) := by decide +kernel
theorem dX6_alertAt_17 : decode cX6_alertAt 17 = .ok (.invokevirtual 70, 3) := by decide +kernel
theorem dX6_alertAt_20 : decode cX6_alertAt 20 = .ok (.if_icmp .ge 62, 3) := by decide +kernel
theorem dX6_alertAt_23 : decode cX6_alertAt 23 = .ok (.aload_n 3, 1) := by decide +kernel
theorem dX6_alertAt_24 : decode cX6_alertAt 24 = .ok (.ifnonnull 58, 3) := by decide +kernel
theorem dX6_alertAt_27 : decode cX6_alertAt 27 = .ok (.aload_n 0, 1) := by decide +kernel
theorem dX6_alertAt_28 : decode cX6_alertAt 28 = .ok (.getfield 16, 3) := by decide +kernel
theorem dX6_alertAt_31 : decode cX6_alertAt 31 = .ok (.iload 6, 2) := by decide +kernel
theorem dX6_alertAt_33 : decode cX6_alertAt 33 = .ok (.invokevirtual 180, 3) := by decide +kernel
theorem dX6_alertAt_36 : decode cX6_alertAt 36 = .ok (.checkcast 120, 3) := by decide +kernel
theorem dX6_alertAt_39 : decode cX6_alertAt 39 = .ok (.astore 7, 2) := by decide +kernel
theorem dX6_alertAt_41 : decode cX6_alertAt 41 = .ok (.aload 7, 2) := by decide +kernel
theorem dX6_alertAt_43 : decode cX6_alertAt 43 = .ok (.iload_n 1, 1) := by decide +kernel
theorem dX6_alertAt_44 : decode cX6_alertAt 44 = .ok (.iload 5, 2) := by decide +kernel
theorem dX6_alertAt_46 : decode cX6_alertAt 46 = .ok (.isub, 1) := by decide +kernel
theorem dX6_alertAt_47 : decode cX6_alertAt 47 = .ok (.invokevirtual 242, 3) := by decide +kernel
theorem dX6_alertAt_50 : decode cX6_alertAt 50 = .ok (.istore 4, 2) := by decide +kernel
theorem dX6_alertAt_52 : decode cX6_alertAt 52 = .ok (.iload 4, 2) := by decide +kernel
theorem dX6_alertAt_54 : decode cX6_alertAt 54 = .ok (.iconst (-1), 1) := by decide +kernel
theorem dX6_alertAt_55 : decode cX6_alertAt 55 = .ok (.if_icmp .ne 7, 3) := by decide +kernel
theorem dX6_alertAt_58 : decode cX6_alertAt 58 = .ok (.aconst_null, 1) := by decide +kernel
theorem dX6_alertAt_59 : decode cX6_alertAt 59 = .ok (.goto 5, 3) := by decide +kernel
theorem dX6_alertAt_62 : decode cX6_alertAt 62 = .ok (.aload 7, 2) := by decide +kernel
theorem dX6_alertAt_64 : decode cX6_alertAt 64 = .ok (.astore_n 3, 1) := by decide +kernel
theorem dX6_alertAt_65 : decode cX6_alertAt 65 = .ok (.iload 5, 2) := by decide +kernel
theorem dX6_alertAt_67 : decode cX6_alertAt 67 = .ok (.aload 7, 2) := by decide +kernel
theorem dX6_alertAt_69 : decode cX6_alertAt 69 = .ok (.iconst 1, 1) := by decide +kernel
theorem dX6_alertAt_70 : decode cX6_alertAt 70 = .ok (.invokevirtual 245, 3) := by decide +kernel
theorem dX6_alertAt_73 : decode cX6_alertAt 73 = .ok (.iadd, 1) := by decide +kernel
theorem dX6_alertAt_74 : decode cX6_alertAt 74 = .ok (.istore 5, 2) := by decide +kernel
theorem dX6_alertAt_76 : decode cX6_alertAt 76 = .ok (.iinc 6 1, 3) := by decide +kernel
theorem dX6_alertAt_79 : decode cX6_alertAt 79 = .ok (.goto (-68), 3) := by decide +kernel
theorem dX6_alertAt_82 : decode cX6_alertAt 82 = .ok (.aload_n 3, 1) := by decide +kernel
theorem dX6_alertAt_83 : decode cX6_alertAt 83 = .ok (.ifnonnull 13, 3) := by decide +kernel
theorem dX6_alertAt_86 : decode cX6_alertAt 86 = .ok (.new 248, 3) := by decide +kernel
theorem dX6_alertAt_89 : decode cX6_alertAt 89 = .ok (.dup, 1) := by decide +kernel
theorem dX6_alertAt_90 : decode cX6_alertAt 90 = .ok (.ldc 250, 2) := by decide +kernel
theorem dX6_alertAt_92 : decode cX6_alertAt 92 = .ok (.invokespecial 252, 3) := by decide +kernel
theorem dX6_alertAt_95 : decode cX6_alertAt 95 = .ok (.athrow, 1) := by decide +kernel
theorem dX6_alertAt_96 : decode cX6_alertAt 96 = .ok (.iload_n 2, 1) := by decide +kernel
theorem dX6_alertAt_97 : decode cX6_alertAt 97 = .ok (.tableswitch 43 0 2 #[27, 32, 35], 27) := by decide +kernel
theorem dX6_alertAt_124 : decode cX6_alertAt 124 = .ok (.aload_n 3, 1) := by decide +kernel
theorem dX6_alertAt_125 : decode cX6_alertAt 125 = .ok (.getfield 253, 3) := by decide +kernel
theorem dX6_alertAt_128 : decode cX6_alertAt 128 = .ok (.ireturn, 1) := by decide +kernel
theorem dX6_alertAt_129 : decode cX6_alertAt 129 = .ok (.iload 4, 2) := by decide +kernel
theorem dX6_alertAt_131 : decode cX6_alertAt 131 = .ok (.ireturn, 1) := by decide +kernel
theorem dX6_alertAt_132 : decode cX6_alertAt 132 = .ok (.aload_n 0, 1) := by decide +kernel
theorem dX6_alertAt_133 : decode cX6_alertAt 133 = .ok (.aload_n 3, 1) := by decide +kernel
theorem dX6_alertAt_134 : decode cX6_alertAt 134 = .ok (.iload 4, 2) := by decide +kernel
theorem dX6_alertAt_136 : decode cX6_alertAt 136 = .ok (.invokevirtual 256, 3) := by decide +kernel
theorem dX6_alertAt_139 : decode cX6_alertAt 139 = .ok (.ireturn, 1) := by decide +kernel
theorem dX6_alertAt_140 : decode cX6_alertAt 140 = .ok (.new 57, 3) := by decide +kernel
theorem dX6_alertAt_143 : decode cX6_alertAt 143 = .ok (.dup, 1) := by decide +kernel
theorem dX6_alertAt_144 : decode cX6_alertAt 144 = .ok (.ldc 227, 2) := by decide +kernel
theorem dX6_alertAt_146 : decode cX6_alertAt 146 = .ok (.invokespecial 61, 3) := by decide +kernel
theorem dX6_alertAt_149 : decode cX6_alertAt 149 = .ok (.athrow, 1) := by decide +kernel
theorem dX6_ofHush_0 : decode cX6_ofHush 0 = .ok (.aload_n 0, 1) := by decide +kernel
theorem dX6_ofHush_1 : decode cX6_ofHush 1 = .ok (.iload_n 1, 1) := by decide +kernel
theorem dX6_ofHush_2 : decode cX6_ofHush 2 = .ok (.invokevirtual 166, 3) := by decide +kernel
theorem dX6_ofHush_5 : decode cX6_ofHush 5 = .ok (.astore_n 3, 1) := by decide +kernel
theorem dX6_ofHush_6 : decode cX6_ofHush 6 = .ok (.iload_n 2, 1) := by decide +kernel
theorem dX6_ofHush_7 : decode cX6_ofHush 7 = .ok (.tableswitch 50 0 3 #[29, 34, 39, 44], 29) := by decide +kernel
theorem dX6_ofHush_36 : decode cX6_ofHush 36 = .ok (.aload_n 3, 1) := by decide +kernel
theorem dX6_ofHush_37 : decode cX6_ofHush 37 = .ok (.getfield 260, 3) := by decide +kernel
theorem dX6_ofHush_40 : decode cX6_ofHush 40 = .ok (.ireturn, 1) := by decide +kernel
theorem dX6_ofHush_41 : decode cX6_ofHush 41 = .ok (.aload_n 3, 1) := by decide +kernel
theorem dX6_ofHush_42 : decode cX6_ofHush 42 = .ok (.getfield 263, 3) := by decide +kernel
theorem dX6_ofHush_45 : decode cX6_ofHush 45 = .ok (.ireturn, 1) := by decide +kernel
theorem dX6_ofHush_46 : decode cX6_ofHush 46 = .ok (.aload_n 3, 1) := by decide +kernel
theorem dX6_ofHush_47 : decode cX6_ofHush 47 = .ok (.getfield 266, 3) := by decide +kernel
theorem dX6_ofHush_50 : decode cX6_ofHush 50 = .ok (.ireturn, 1) := by decide +kernel
theorem dX6_ofHush_51 : decode cX6_ofHush 51 = .ok (.aload_n 0, 1) := by decide +kernel
theorem dX6_ofHush_52 : decode cX6_ofHush 52 = .ok (.aload_n 3, 1) := by decide +kernel
theorem dX6_ofHush_53 : decode cX6_ofHush 53 = .ok (.invokevirtual 269, 3) := by decide +kernel
theorem dX6_ofHush_56 : decode cX6_ofHush 56 = .ok (.ireturn, 1) := by decide +kernel
theorem dX6_ofHush_57 : decode cX6_ofHush 57 = .ok (.new 57, 3) := by decide +kernel
theorem dX6_ofHush_60 : decode cX6_ofHush 60 = .ok (.dup, 1) := by decide +kernel
theorem dX6_ofHush_61 : decode cX6_ofHush 61 = .ok (.ldc_w 273, 3) := by decide +kernel
theorem dX6_ofHush_64 : decode cX6_ofHush 64 = .ok (.invokespecial 61, 3) := by decide +kernel
theorem dX6_ofHush_67 : decode cX6_ofHush 67 = .ok (.athrow, 1) := by decide +kernel
theorem dX6_notice_0 : decode cX6_notice 0 = .ok (.iload_n 1, 1) := by decide +kernel
theorem dX6_notice_1 : decode cX6_notice 1 = .ok (.iconst 0, 1) := by decide +kernel
theorem dX6_notice_2 : decode cX6_notice 2 = .ok (.aload_n 0, 1) := by decide +kernel
theorem dX6_notice_3 : decode cX6_notice 3 = .ok (.getfield 32, 3) := by decide +kernel
theorem dX6_notice_6 : decode cX6_notice 6 = .ok (.getfield 275, 3) := by decide +kernel
theorem dX6_notice_9 : decode cX6_notice 9 = .ok (.iconst 1, 1) := by decide +kernel
theorem dX6_notice_10 : decode cX6_notice 10 = .ok (.isub, 1) := by decide +kernel
theorem dX6_notice_11 : decode cX6_notice 11 = .ok (.invokestatic 53, 3) := by decide +kernel
theorem dX6_notice_14 : decode cX6_notice 14 = .ok (.ifCond .eq 14, 3) := by decide +kernel
theorem dX6_notice_17 : decode cX6_notice 17 = .ok (.new 248, 3) := by decide +kernel
theorem dX6_notice_20 : decode cX6_notice 20 = .ok (.dup, 1) := by decide +kernel
theorem dX6_notice_21 : decode cX6_notice 21 = .ok (.ldc_w 276, 3) := by decide +kernel
theorem dX6_notice_24 : decode cX6_notice 24 = .ok (.invokespecial 252, 3) := by decide +kernel
theorem dX6_notice_27 : decode cX6_notice 27 = .ok (.athrow, 1) := by decide +kernel
theorem dX6_notice_28 : decode cX6_notice 28 = .ok (.iload_n 2, 1) := by decide +kernel
theorem dX6_notice_29 : decode cX6_notice 29 = .ok (.iconst 0, 1) := by decide +kernel
theorem dX6_notice_30 : decode cX6_notice 30 = .ok (.iconst 3, 1) := by decide +kernel
theorem dX6_notice_31 : decode cX6_notice 31 = .ok (.invokestatic 53, 3) := by decide +kernel
theorem dX6_notice_34 : decode cX6_notice 34 = .ok (.ifCond .eq 14, 3) := by decide +kernel
theorem dX6_notice_37 : decode cX6_notice 37 = .ok (.new 57, 3) := by decide +kernel
theorem dX6_notice_40 : decode cX6_notice 40 = .ok (.dup, 1) := by decide +kernel
theorem dX6_notice_41 : decode cX6_notice 41 = .ok (.ldc_w 273, 3) := by decide +kernel
theorem dX6_notice_44 : decode cX6_notice 44 = .ok (.invokespecial 61, 3) := by decide +kernel
theorem dX6_notice_47 : decode cX6_notice 47 = .ok (.athrow, 1) := by decide +kernel
theorem dX6_notice_48 : decode cX6_notice 48 = .ok (.aload_n 0, 1) := by decide +kernel
theorem dX6_notice_49 : decode cX6_notice 49 = .ok (.getfield 32, 3) := by decide +kernel
theorem dX6_notice_52 : decode cX6_notice 52 = .ok (.iload_n 1, 1) := by decide +kernel
theorem dX6_notice_53 : decode cX6_notice 53 = .ok (.iload_n 2, 1) := by decide +kernel
theorem dX6_notice_54 : decode cX6_notice 54 = .ok (.invokevirtual 278, 3) := by decide +kernel
theorem dX6_notice_57 : decode cX6_notice 57 = .ok (.ireturn, 1) := by decide +kernel
theorem dX6_burningIn_0 : decode cX6_burningIn 0 = .ok (.iload_n 1, 1) := by decide +kernel
theorem dX6_burningIn_1 : decode cX6_burningIn 1 = .ok (.invokestatic 177, 3) := by decide +kernel
theorem dX6_burningIn_4 : decode cX6_burningIn 4 = .ok (.iconst 0, 1) := by decide +kernel
theorem dX6_burningIn_5 : decode cX6_burningIn 5 = .ok (.istore_n 2, 1) := by decide +kernel
theorem dX6_burningIn_6 : decode cX6_burningIn 6 = .ok (.iconst 0, 1) := by decide +kernel
theorem dX6_burningIn_7 : decode cX6_burningIn 7 = .ok (.istore_n 3, 1) := by decide +kernel
theorem dX6_burningIn_8 : decode cX6_burningIn 8 = .ok (.iload_n 3, 1) := by decide +kernel
theorem dX6_burningIn_9 : decode cX6_burningIn 9 = .ok (.aload_n 0, 1) := by decide +kernel
theorem dX6_burningIn_10 : decode cX6_burningIn 10 = .ok (.getfield 16, 3) := by decide +kernel
theorem dX6_burningIn_13 : decode cX6_burningIn 13 = .ok (.invokevirtual 70, 3) := by decide +kernel
theorem dX6_burningIn_16 : decode cX6_burningIn 16 = .ok (.if_icmp .ge 53, 3) := by decide +kernel
theorem dX6_burningIn_19 : decode cX6_burningIn 19 = .ok (.aload_n 0, 1) := by decide +kernel
theorem dX6_burningIn_20 : decode cX6_burningIn 20 = .ok (.getfield 16, 3) := by decide +kernel
theorem dX6_burningIn_23 : decode cX6_burningIn 23 = .ok (.iload_n 3, 1) := by decide +kernel
theorem dX6_burningIn_24 : decode cX6_burningIn 24 = .ok (.invokevirtual 180, 3) := by decide +kernel
theorem dX6_burningIn_27 : decode cX6_burningIn 27 = .ok (.checkcast 120, 3) := by decide +kernel
theorem dX6_burningIn_30 : decode cX6_burningIn 30 = .ok (.astore 4, 2) := by decide +kernel
theorem dX6_burningIn_32 : decode cX6_burningIn 32 = .ok (.iconst 0, 1) := by decide +kernel
theorem dX6_burningIn_33 : decode cX6_burningIn 33 = .ok (.istore 5, 2) := by decide +kernel
theorem dX6_burningIn_35 : decode cX6_burningIn 35 = .ok (.iload 5, 2) := by decide +kernel
theorem dX6_burningIn_37 : decode cX6_burningIn 37 = .ok (.bipush 12, 2) := by decide +kernel
theorem dX6_burningIn_39 : decode cX6_burningIn 39 = .ok (.if_icmp .ge 24, 3) := by decide +kernel
theorem dX6_burningIn_42 : decode cX6_burningIn 42 = .ok (.aload_n 0, 1) := by decide +kernel
theorem dX6_burningIn_43 : decode cX6_burningIn 43 = .ok (.aload 4, 2) := by decide +kernel
theorem dX6_burningIn_45 : decode cX6_burningIn 45 = .ok (.iload 5, 2) := by decide +kernel
theorem dX6_burningIn_47 : decode cX6_burningIn 47 = .ok (.iload_n 1, 1) := by decide +kernel
theorem dX6_burningIn_48 : decode cX6_burningIn 48 = .ok (.invokevirtual 282, 3) := by decide +kernel
theorem dX6_burningIn_51 : decode cX6_burningIn 51 = .ok (.ifCond .eq 6, 3) := by decide +kernel
theorem dX6_burningIn_54 : decode cX6_burningIn 54 = .ok (.iinc 2 1, 3) := by decide +kernel
theorem dX6_burningIn_57 : decode cX6_burningIn 57 = .ok (.iinc 5 1, 3) := by decide +kernel
theorem dX6_burningIn_60 : decode cX6_burningIn 60 = .ok (.goto (-25), 3) := by decide +kernel
theorem dX6_burningIn_63 : decode cX6_burningIn 63 = .ok (.iinc 3 1, 3) := by decide +kernel
theorem dX6_burningIn_66 : decode cX6_burningIn 66 = .ok (.goto (-58), 3) := by decide +kernel
theorem dX6_burningIn_69 : decode cX6_burningIn 69 = .ok (.iload_n 2, 1) := by decide +kernel
theorem dX6_burningIn_70 : decode cX6_burningIn 70 = .ok (.ireturn, 1) := by decide +kernel
theorem dX6_beyond_0 : decode cX6_beyond 0 = .ok (.aload_n 0, 1) := by decide +kernel
theorem dX6_beyond_1 : decode cX6_beyond 1 = .ok (.iload_n 1, 1) := by decide +kernel
theorem dX6_beyond_2 : decode cX6_beyond 2 = .ok (.invokevirtual 132, 3) := by decide +kernel
theorem dX6_beyond_5 : decode cX6_beyond 5 = .ok (.astore_n 3, 1) := by decide +kernel
theorem dX6_beyond_6 : decode cX6_beyond 6 = .ok (.iload_n 2, 1) := by decide +kernel
theorem dX6_beyond_7 : decode cX6_beyond 7 = .ok (.invokestatic 115, 3) := by decide +kernel
theorem dX6_beyond_10 : decode cX6_beyond 10 = .ok (.iconst 0, 1) := by decide +kernel
theorem dX6_beyond_11 : decode cX6_beyond 11 = .ok (.istore 4, 2) := by decide +kernel
theorem dX6_beyond_13 : decode cX6_beyond 13 = .ok (.iconst 0, 1) := by decide +kernel
theorem dX6_beyond_14 : decode cX6_beyond 14 = .ok (.istore 5, 2) := by decide +kernel
theorem dX6_beyond_16 : decode cX6_beyond 16 = .ok (.iload 5, 2) := by decide +kernel
theorem dX6_beyond_18 : decode cX6_beyond 18 = .ok (.bipush 12, 2) := by decide +kernel
theorem dX6_beyond_20 : decode cX6_beyond 20 = .ok (.if_icmp .ge 38, 3) := by decide +kernel
theorem dX6_beyond_23 : decode cX6_beyond 23 = .ok (.aload_n 0, 1) := by decide +kernel
theorem dX6_beyond_24 : decode cX6_beyond 24 = .ok (.aload_n 3, 1) := by decide +kernel
theorem dX6_beyond_25 : decode cX6_beyond 25 = .ok (.iload 5, 2) := by decide +kernel
theorem dX6_beyond_27 : decode cX6_beyond 27 = .ok (.invokevirtual 286, 3) := by decide +kernel
theorem dX6_beyond_30 : decode cX6_beyond 30 = .ok (.ifCond .eq 22, 3) := by decide +kernel
theorem dX6_beyond_33 : decode cX6_beyond 33 = .ok (.aload_n 3, 1) := by decide +kernel
theorem dX6_beyond_34 : decode cX6_beyond 34 = .ok (.aload_n 0, 1) := by decide +kernel
theorem dX6_beyond_35 : decode cX6_beyond 35 = .ok (.aload_n 3, 1) := by decide +kernel
theorem dX6_beyond_36 : decode cX6_beyond 36 = .ok (.iload 5, 2) := by decide +kernel
theorem dX6_beyond_38 : decode cX6_beyond 38 = .ok (.iconst 0, 1) := by decide +kernel
theorem dX6_beyond_39 : decode cX6_beyond 39 = .ok (.invokevirtual 223, 3) := by decide +kernel
theorem dX6_beyond_42 : decode cX6_beyond 42 = .ok (.iload_n 2, 1) := by decide +kernel
theorem dX6_beyond_43 : decode cX6_beyond 43 = .ok (.invokevirtual 290, 3) := by decide +kernel
theorem dX6_beyond_46 : decode cX6_beyond 46 = .ok (.ifCond .eq 6, 3) := by decide +kernel
theorem dX6_beyond_49 : decode cX6_beyond 49 = .ok (.iinc 4 1, 3) := by decide +kernel
theorem dX6_beyond_52 : decode cX6_beyond 52 = .ok (.iinc 5 1, 3) := by decide +kernel
theorem dX6_beyond_55 : decode cX6_beyond 55 = .ok (.goto (-39), 3) := by decide +kernel
theorem dX6_beyond_58 : decode cX6_beyond 58 = .ok (.iload 4, 2) := by decide +kernel
theorem dX6_beyond_60 : decode cX6_beyond 60 = .ok (.ireturn, 1) := by decide +kernel
theorem dX6_calm_0 : decode cX6_calm 0 = .ok (.aload_n 0, 1) := by decide +kernel
theorem dX6_calm_1 : decode cX6_calm 1 = .ok (.iload_n 1, 1) := by decide +kernel
theorem dX6_calm_2 : decode cX6_calm 2 = .ok (.invokevirtual 132, 3) := by decide +kernel
theorem dX6_calm_5 : decode cX6_calm 5 = .ok (.astore_n 2, 1) := by decide +kernel
theorem dX6_calm_6 : decode cX6_calm 6 = .ok (.iconst 1, 1) := by decide +kernel
theorem dX6_calm_7 : decode cX6_calm 7 = .ok (.istore_n 3, 1) := by decide +kernel
theorem dX6_calm_8 : decode cX6_calm 8 = .ok (.iconst 0, 1) := by decide +kernel
theorem dX6_calm_9 : decode cX6_calm 9 = .ok (.istore 4, 2) := by decide +kernel
theorem dX6_calm_11 : decode cX6_calm 11 = .ok (.iconst 0, 1) := by decide +kernel
theorem dX6_calm_12 : decode cX6_calm 12 = .ok (.istore 5, 2) := by decide +kernel
theorem dX6_calm_14 : decode cX6_calm 14 = .ok (.iload 5, 2) := by decide +kernel
theorem dX6_calm_16 : decode cX6_calm 16 = .ok (.bipush 12, 2) := by decide +kernel
theorem dX6_calm_18 : decode cX6_calm 18 = .ok (.if_icmp .ge 50, 3) := by decide +kernel
theorem dX6_calm_21 : decode cX6_calm 21 = .ok (.aload_n 0, 1) := by decide +kernel
theorem dX6_calm_22 : decode cX6_calm 22 = .ok (.aload_n 2, 1) := by decide +kernel
theorem dX6_calm_23 : decode cX6_calm 23 = .ok (.iload 5, 2) := by decide +kernel
theorem dX6_calm_25 : decode cX6_calm 25 = .ok (.invokevirtual 286, 3) := by decide +kernel
theorem dX6_calm_28 : decode cX6_calm 28 = .ok (.ifCond .eq 34, 3) := by decide +kernel
theorem dX6_calm_31 : decode cX6_calm 31 = .ok (.aload_n 0, 1) := by decide +kernel
theorem dX6_calm_32 : decode cX6_calm 32 = .ok (.aload_n 2, 1) := by decide +kernel
theorem dX6_calm_33 : decode cX6_calm 33 = .ok (.iload 5, 2) := by decide +kernel
theorem dX6_calm_35 : decode cX6_calm 35 = .ok (.iconst 0, 1) := by decide +kernel
theorem dX6_calm_36 : decode cX6_calm 36 = .ok (.invokevirtual 223, 3) := by decide +kernel
theorem dX6_calm_39 : decode cX6_calm 39 = .ok (.istore 6, 2) := by decide +kernel
theorem dX6_calm_41 : decode cX6_calm 41 = .ok (.iload_n 3, 1) := by decide +kernel
theorem dX6_calm_42 : decode cX6_calm 42 = .ok (.ifCond .ne 14, 3) := by decide +kernel
theorem dX6_calm_45 : decode cX6_calm 45 = .ok (.aload_n 2, 1) := by decide +kernel
theorem dX6_calm_46 : decode cX6_calm 46 = .ok (.iload 6, 2) := by decide +kernel
theorem dX6_calm_48 : decode cX6_calm 48 = .ok (.iload 4, 2) := by decide +kernel
theorem dX6_calm_50 : decode cX6_calm 50 = .ok (.invokevirtual 290, 3) := by decide +kernel
theorem dX6_calm_53 : decode cX6_calm 53 = .ok (.ifCond .eq 7, 3) := by decide +kernel
theorem dX6_calm_56 : decode cX6_calm 56 = .ok (.iload 6, 2) := by decide +kernel
theorem dX6_calm_58 : decode cX6_calm 58 = .ok (.istore 4, 2) := by decide +kernel
theorem dX6_calm_60 : decode cX6_calm 60 = .ok (.iconst 0, 1) := by decide +kernel
theorem dX6_calm_61 : decode cX6_calm 61 = .ok (.istore_n 3, 1) := by decide +kernel
theorem dX6_calm_62 : decode cX6_calm 62 = .ok (.iinc 5 1, 3) := by decide +kernel
theorem dX6_calm_65 : decode cX6_calm 65 = .ok (.goto (-51), 3) := by decide +kernel
theorem dX6_calm_68 : decode cX6_calm 68 = .ok (.iload 4, 2) := by decide +kernel
theorem dX6_calm_70 : decode cX6_calm 70 = .ok (.ireturn, 1) := by decide +kernel
theorem dX6_loudWithout_0 : decode cX6_loudWithout 0 = .ok (.aload_n 0, 1) := by decide +kernel
theorem dX6_loudWithout_1 : decode cX6_loudWithout 1 = .ok (.iload_n 1, 1) := by decide +kernel
theorem dX6_loudWithout_2 : decode cX6_loudWithout 2 = .ok (.invokevirtual 166, 3) := by decide +kernel
theorem dX6_loudWithout_5 : decode cX6_loudWithout 5 = .ok (.pop, 1) := by decide +kernel
theorem dX6_loudWithout_6 : decode cX6_loudWithout 6 = .ok (.aload_n 0, 1) := by decide +kernel
theorem dX6_loudWithout_7 : decode cX6_loudWithout 7 = .ok (.iload_n 1, 1) := by decide +kernel
theorem dX6_loudWithout_8 : decode cX6_loudWithout 8 = .ok (.invokevirtual 197, 3) := by decide +kernel
theorem dX6_loudWithout_11 : decode cX6_loudWithout 11 = .ok (.ireturn, 1) := by decide +kernel
theorem dX6_digest_0 : decode cX6_digest 0 = .ok (.ldc2_w 294, 3) := by decide +kernel
theorem dX6_digest_3 : decode cX6_digest 3 = .ok (.aload_n 0, 1) := by decide +kernel
theorem dX6_digest_4 : decode cX6_digest 4 = .ok (.invokevirtual 296, 3) := by decide +kernel
theorem dX6_digest_7 : decode cX6_digest 7 = .ok (.invokestatic 299, 3) := by decide +kernel
theorem dX6_digest_10 : decode cX6_digest 10 = .ok (.lstore_n 1, 1) := by decide +kernel
theorem dX6_digest_11 : decode cX6_digest 11 = .ok (.iconst 0, 1) := by decide +kernel
theorem dX6_digest_12 : decode cX6_digest 12 = .ok (.istore_n 3, 1) := by decide +kernel
theorem dX6_digest_13 : decode cX6_digest 13 = .ok (.iload_n 3, 1) := by decide +kernel
theorem dX6_digest_14 : decode cX6_digest 14 = .ok (.bipush 6, 2) := by decide +kernel
theorem dX6_digest_16 : decode cX6_digest 16 = .ok (.if_icmp .gt 19, 3) := by decide +kernel
theorem dX6_digest_19 : decode cX6_digest 19 = .ok (.lload_n 1, 1) := by decide +kernel
theorem dX6_digest_20 : decode cX6_digest 20 = .ok (.aload_n 0, 1) := by decide +kernel
theorem dX6_digest_21 : decode cX6_digest 21 = .ok (.iload_n 3, 1) := by decide +kernel
theorem dX6_digest_22 : decode cX6_digest 22 = .ok (.invokevirtual 303, 3) := by decide +kernel
theorem dX6_digest_25 : decode cX6_digest 25 = .ok (.invokestatic 299, 3) := by decide +kernel
theorem dX6_digest_28 : decode cX6_digest 28 = .ok (.lstore_n 1, 1) := by decide +kernel
theorem dX6_digest_29 : decode cX6_digest 29 = .ok (.iinc 3 1, 3) := by decide +kernel
theorem dX6_digest_32 : decode cX6_digest 32 = .ok (.goto (-19), 3) := by decide +kernel
theorem dX6_digest_35 : decode cX6_digest 35 = .ok (.iconst 0, 1) := by decide +kernel
theorem dX6_digest_36 : decode cX6_digest 36 = .ok (.istore_n 3, 1) := by decide +kernel
theorem dX6_digest_37 : decode cX6_digest 37 = .ok (.iload_n 3, 1) := by decide +kernel
theorem dX6_digest_38 : decode cX6_digest 38 = .ok (.aload_n 0, 1) := by decide +kernel
theorem dX6_digest_39 : decode cX6_digest 39 = .ok (.getfield 10, 3) := by decide +kernel
theorem dX6_digest_42 : decode cX6_digest 42 = .ok (.invokevirtual 70, 3) := by decide +kernel
theorem dX6_digest_45 : decode cX6_digest 45 = .ok (.if_icmp .ge 16, 3) := by decide +kernel
theorem dX6_digest_48 : decode cX6_digest 48 = .ok (.aload_n 0, 1) := by decide +kernel
theorem dX6_digest_49 : decode cX6_digest 49 = .ok (.lload_n 1, 1) := by decide +kernel
theorem dX6_digest_50 : decode cX6_digest 50 = .ok (.iload_n 3, 1) := by decide +kernel
theorem dX6_digest_51 : decode cX6_digest 51 = .ok (.invokevirtual 306, 3) := by decide +kernel
theorem dX6_digest_54 : decode cX6_digest 54 = .ok (.lstore_n 1, 1) := by decide +kernel
theorem dX6_digest_55 : decode cX6_digest 55 = .ok (.iinc 3 1, 3) := by decide +kernel
theorem dX6_digest_58 : decode cX6_digest 58 = .ok (.goto (-21), 3) := by decide +kernel
theorem dX6_digest_61 : decode cX6_digest 61 = .ok (.iconst 0, 1) := by decide +kernel
theorem dX6_digest_62 : decode cX6_digest 62 = .ok (.istore_n 3, 1) := by decide +kernel
theorem dX6_digest_63 : decode cX6_digest 63 = .ok (.iload_n 3, 1) := by decide +kernel
theorem dX6_digest_64 : decode cX6_digest 64 = .ok (.aload_n 0, 1) := by decide +kernel
theorem dX6_digest_65 : decode cX6_digest 65 = .ok (.getfield 16, 3) := by decide +kernel
theorem dX6_digest_68 : decode cX6_digest 68 = .ok (.invokevirtual 70, 3) := by decide +kernel
theorem dX6_digest_71 : decode cX6_digest 71 = .ok (.if_icmp .ge 43, 3) := by decide +kernel
theorem dX6_digest_74 : decode cX6_digest 74 = .ok (.lload_n 1, 1) := by decide +kernel
theorem dX6_digest_75 : decode cX6_digest 75 = .ok (.aload_n 0, 1) := by decide +kernel
theorem dX6_digest_76 : decode cX6_digest 76 = .ok (.iload_n 3, 1) := by decide +kernel
theorem dX6_digest_77 : decode cX6_digest 77 = .ok (.invokevirtual 309, 3) := by decide +kernel
theorem dX6_digest_80 : decode cX6_digest 80 = .ok (.invokestatic 299, 3) := by decide +kernel
theorem dX6_digest_83 : decode cX6_digest 83 = .ok (.lstore_n 1, 1) := by decide +kernel
theorem dX6_digest_84 : decode cX6_digest 84 = .ok (.lload_n 1, 1) := by decide +kernel
theorem dX6_digest_85 : decode cX6_digest 85 = .ok (.aload_n 0, 1) := by decide +kernel
theorem dX6_digest_86 : decode cX6_digest 86 = .ok (.iload_n 3, 1) := by decide +kernel
theorem dX6_digest_87 : decode cX6_digest 87 = .ok (.aload_n 0, 1) := by decide +kernel
theorem dX6_digest_88 : decode cX6_digest 88 = .ok (.getfield 16, 3) := by decide +kernel
theorem dX6_digest_91 : decode cX6_digest 91 = .ok (.iload_n 3, 1) := by decide +kernel
theorem dX6_digest_92 : decode cX6_digest 92 = .ok (.invokevirtual 180, 3) := by decide +kernel
theorem dX6_digest_95 : decode cX6_digest 95 = .ok (.checkcast 120, 3) := by decide +kernel
theorem dX6_digest_98 : decode cX6_digest 98 = .ok (.getfield 125, 3) := by decide +kernel
theorem dX6_digest_101 : decode cX6_digest 101 = .ok (.invokevirtual 312, 3) := by decide +kernel
theorem dX6_digest_104 : decode cX6_digest 104 = .ok (.invokestatic 299, 3) := by decide +kernel
theorem dX6_digest_107 : decode cX6_digest 107 = .ok (.lstore_n 1, 1) := by decide +kernel
theorem dX6_digest_108 : decode cX6_digest 108 = .ok (.iinc 3 1, 3) := by decide +kernel
theorem dX6_digest_111 : decode cX6_digest 111 = .ok (.goto (-48), 3) := by decide +kernel
theorem dX6_digest_114 : decode cX6_digest 114 = .ok (.aload_n 0, 1) := by decide +kernel
theorem dX6_digest_115 : decode cX6_digest 115 = .ok (.iconst 3, 1) := by decide +kernel
theorem dX6_digest_116 : decode cX6_digest 116 = .ok (.invokevirtual 303, 3) := by decide +kernel
theorem dX6_digest_119 : decode cX6_digest 119 = .ok (.istore_n 3, 1) := by decide +kernel
theorem dX6_digest_120 : decode cX6_digest 120 = .ok (.iconst 0, 1) := by decide +kernel
theorem dX6_digest_121 : decode cX6_digest 121 = .ok (.istore 4, 2) := by decide +kernel
theorem dX6_digest_123 : decode cX6_digest 123 = .ok (.iload 4, 2) := by decide +kernel
theorem dX6_digest_125 : decode cX6_digest 125 = .ok (.iload_n 3, 1) := by decide +kernel
theorem dX6_digest_126 : decode cX6_digest 126 = .ok (.if_icmp .ge 17, 3) := by decide +kernel
theorem dX6_digest_129 : decode cX6_digest 129 = .ok (.aload_n 0, 1) := by decide +kernel
theorem dX6_digest_130 : decode cX6_digest 130 = .ok (.lload_n 1, 1) := by decide +kernel
theorem dX6_digest_131 : decode cX6_digest 131 = .ok (.iload 4, 2) := by decide +kernel
theorem dX6_digest_133 : decode cX6_digest 133 = .ok (.invokevirtual 315, 3) := by decide +kernel
theorem dX6_digest_136 : decode cX6_digest 136 = .ok (.lstore_n 1, 1) := by decide +kernel
theorem dX6_digest_137 : decode cX6_digest 137 = .ok (.iinc 4 1, 3) := by decide +kernel
theorem dX6_digest_140 : decode cX6_digest 140 = .ok (.goto (-17), 3) := by decide +kernel
theorem dX6_digest_143 : decode cX6_digest 143 = .ok (.iconst 0, 1) := by decide +kernel
theorem dX6_digest_144 : decode cX6_digest 144 = .ok (.istore 4, 2) := by decide +kernel
theorem dX6_digest_146 : decode cX6_digest 146 = .ok (.iload 4, 2) := by decide +kernel
theorem dX6_digest_148 : decode cX6_digest 148 = .ok (.aload_n 0, 1) := by decide +kernel
theorem dX6_digest_149 : decode cX6_digest 149 = .ok (.getfield 19, 3) := by decide +kernel
theorem dX6_digest_152 : decode cX6_digest 152 = .ok (.invokevirtual 70, 3) := by decide +kernel
theorem dX6_digest_155 : decode cX6_digest 155 = .ok (.if_icmp .ge 17, 3) := by decide +kernel
theorem dX6_digest_158 : decode cX6_digest 158 = .ok (.aload_n 0, 1) := by decide +kernel
theorem dX6_digest_159 : decode cX6_digest 159 = .ok (.lload_n 1, 1) := by decide +kernel
theorem dX6_digest_160 : decode cX6_digest 160 = .ok (.iload 4, 2) := by decide +kernel
theorem dX6_digest_162 : decode cX6_digest 162 = .ok (.invokevirtual 318, 3) := by decide +kernel
theorem dX6_digest_165 : decode cX6_digest 165 = .ok (.lstore_n 1, 1) := by decide +kernel
theorem dX6_digest_166 : decode cX6_digest 166 = .ok (.iinc 4 1, 3) := by decide +kernel
theorem dX6_digest_169 : decode cX6_digest 169 = .ok (.goto (-23), 3) := by decide +kernel
theorem dX6_digest_172 : decode cX6_digest 172 = .ok (.aload_n 0, 1) := by decide +kernel
theorem dX6_digest_173 : decode cX6_digest 173 = .ok (.lload_n 1, 1) := by decide +kernel
theorem dX6_digest_174 : decode cX6_digest 174 = .ok (.invokevirtual 321, 3) := by decide +kernel
theorem dX6_digest_177 : decode cX6_digest 177 = .ok (.lreturn, 1) := by decide +kernel
theorem dX6_mix_0 : decode cX6_mix 0 = .ok (.lload_n 0, 1) := by decide +kernel
theorem dX6_mix_1 : decode cX6_mix 1 = .ok (.ldc2_w 325, 3) := by decide +kernel
theorem dX6_mix_4 : decode cX6_mix 4 = .ok (.lmul, 1) := by decide +kernel
theorem dX6_mix_5 : decode cX6_mix 5 = .ok (.iload_n 2, 1) := by decide +kernel
theorem dX6_mix_6 : decode cX6_mix 6 = .ok (.i2l, 1) := by decide +kernel
theorem dX6_mix_7 : decode cX6_mix 7 = .ok (.ladd, 1) := by decide +kernel
theorem dX6_mix_8 : decode cX6_mix 8 = .ok (.lreturn, 1) := by decide +kernel
theorem dX6_mixSeries_0 : decode cX6_mixSeries 0 = .ok (.lload_n 1, 1) := by decide +kernel
theorem dX6_mixSeries_1 : decode cX6_mixSeries 1 = .ok (.lstore 4, 2) := by decide +kernel
theorem dX6_mixSeries_3 : decode cX6_mixSeries 3 = .ok (.iconst 0, 1) := by decide +kernel
theorem dX6_mixSeries_4 : decode cX6_mixSeries 4 = .ok (.istore 6, 2) := by decide +kernel
theorem dX6_mixSeries_6 : decode cX6_mixSeries 6 = .ok (.iload 6, 2) := by decide +kernel
theorem dX6_mixSeries_8 : decode cX6_mixSeries 8 = .ok (.bipush 6, 2) := by decide +kernel
theorem dX6_mixSeries_10 : decode cX6_mixSeries 10 = .ok (.if_icmp .gt 23, 3) := by decide +kernel
theorem dX6_mixSeries_13 : decode cX6_mixSeries 13 = .ok (.lload 4, 2) := by decide +kernel
theorem dX6_mixSeries_15 : decode cX6_mixSeries 15 = .ok (.aload_n 0, 1) := by decide +kernel
theorem dX6_mixSeries_16 : decode cX6_mixSeries 16 = .ok (.iload_n 3, 1) := by decide +kernel
theorem dX6_mixSeries_17 : decode cX6_mixSeries 17 = .ok (.iload 6, 2) := by decide +kernel
theorem dX6_mixSeries_19 : decode cX6_mixSeries 19 = .ok (.invokevirtual 327, 3) := by decide +kernel
theorem dX6_mixSeries_22 : decode cX6_mixSeries 22 = .ok (.invokestatic 299, 3) := by decide +kernel
theorem dX6_mixSeries_25 : decode cX6_mixSeries 25 = .ok (.lstore 4, 2) := by decide +kernel
theorem dX6_mixSeries_27 : decode cX6_mixSeries 27 = .ok (.iinc 6 1, 3) := by decide +kernel
theorem dX6_mixSeries_30 : decode cX6_mixSeries 30 = .ok (.goto (-24), 3) := by decide +kernel
theorem dX6_mixSeries_33 : decode cX6_mixSeries 33 = .ok (.lload 4, 2) := by decide +kernel
theorem dX6_mixSeries_35 : decode cX6_mixSeries 35 = .ok (.aload_n 0, 1) := by decide +kernel
theorem dX6_mixSeries_36 : decode cX6_mixSeries 36 = .ok (.iload_n 3, 1) := by decide +kernel
theorem dX6_mixSeries_37 : decode cX6_mixSeries 37 = .ok (.iconst 0, 1) := by decide +kernel
theorem dX6_mixSeries_38 : decode cX6_mixSeries 38 = .ok (.invokevirtual 330, 3) := by decide +kernel
theorem dX6_mixSeries_41 : decode cX6_mixSeries 41 = .ok (.invokestatic 299, 3) := by decide +kernel
theorem dX6_mixSeries_44 : decode cX6_mixSeries 44 = .ok (.lstore 4, 2) := by decide +kernel
theorem dX6_mixSeries_46 : decode cX6_mixSeries 46 = .ok (.lload 4, 2) := by decide +kernel
theorem dX6_mixSeries_48 : decode cX6_mixSeries 48 = .ok (.aload_n 0, 1) := by decide +kernel
theorem dX6_mixSeries_49 : decode cX6_mixSeries 49 = .ok (.iload_n 3, 1) := by decide +kernel
theorem dX6_mixSeries_50 : decode cX6_mixSeries 50 = .ok (.iconst 1, 1) := by decide +kernel
theorem dX6_mixSeries_51 : decode cX6_mixSeries 51 = .ok (.invokevirtual 330, 3) := by decide +kernel
theorem dX6_mixSeries_54 : decode cX6_mixSeries 54 = .ok (.invokestatic 299, 3) := by decide +kernel
theorem dX6_mixSeries_57 : decode cX6_mixSeries 57 = .ok (.lstore 4, 2) := by decide +kernel
theorem dX6_mixSeries_59 : decode cX6_mixSeries 59 = .ok (.iconst 0, 1) := by decide +kernel
theorem dX6_mixSeries_60 : decode cX6_mixSeries 60 = .ok (.istore 6, 2) := by decide +kernel
theorem dX6_mixSeries_62 : decode cX6_mixSeries 62 = .ok (.iload 6, 2) := by decide +kernel
theorem dX6_mixSeries_64 : decode cX6_mixSeries 64 = .ok (.bipush 8, 2) := by decide +kernel
theorem dX6_mixSeries_66 : decode cX6_mixSeries 66 = .ok (.if_icmp .gt 24, 3) := by decide +kernel
theorem dX6_mixSeries_69 : decode cX6_mixSeries 69 = .ok (.lload 4, 2) := by decide +kernel
theorem dX6_mixSeries_71 : decode cX6_mixSeries 71 = .ok (.aload_n 0, 1) := by decide +kernel
theorem dX6_mixSeries_72 : decode cX6_mixSeries 72 = .ok (.iload_n 3, 1) := by decide +kernel
theorem dX6_mixSeries_73 : decode cX6_mixSeries 73 = .ok (.iload 6, 2) := by decide +kernel
theorem dX6_mixSeries_75 : decode cX6_mixSeries 75 = .ok (.iconst 5, 1) := by decide +kernel
theorem dX6_mixSeries_76 : decode cX6_mixSeries 76 = .ok (.invokevirtual 333, 3) := by decide +kernel
theorem dX6_mixSeries_79 : decode cX6_mixSeries 79 = .ok (.invokestatic 299, 3) := by decide +kernel
theorem dX6_mixSeries_82 : decode cX6_mixSeries 82 = .ok (.lstore 4, 2) := by decide +kernel
theorem dX6_mixSeries_84 : decode cX6_mixSeries 84 = .ok (.iinc 6 1, 3) := by decide +kernel
theorem dX6_mixSeries_87 : decode cX6_mixSeries 87 = .ok (.goto (-25), 3) := by decide +kernel
theorem dX6_mixSeries_90 : decode cX6_mixSeries 90 = .ok (.lload 4, 2) := by decide +kernel
theorem dX6_mixSeries_92 : decode cX6_mixSeries 92 = .ok (.lreturn, 1) := by decide +kernel
theorem dX6_mixAlert_0 : decode cX6_mixAlert 0 = .ok (.lload_n 1, 1) := by decide +kernel
theorem dX6_mixAlert_1 : decode cX6_mixAlert 1 = .ok (.lstore 4, 2) := by decide +kernel
theorem dX6_mixAlert_3 : decode cX6_mixAlert 3 = .ok (.iconst 0, 1) := by decide +kernel
theorem dX6_mixAlert_4 : decode cX6_mixAlert 4 = .ok (.istore 6, 2) := by decide +kernel
theorem dX6_mixAlert_6 : decode cX6_mixAlert 6 = .ok (.iload 6, 2) := by decide +kernel
theorem dX6_mixAlert_8 : decode cX6_mixAlert 8 = .ok (.iconst 2, 1) := by decide +kernel
theorem dX6_mixAlert_9 : decode cX6_mixAlert 9 = .ok (.if_icmp .gt 23, 3) := by decide +kernel
theorem dX6_mixAlert_12 : decode cX6_mixAlert 12 = .ok (.lload 4, 2) := by decide +kernel
theorem dX6_mixAlert_14 : decode cX6_mixAlert 14 = .ok (.aload_n 0, 1) := by decide +kernel
theorem dX6_mixAlert_15 : decode cX6_mixAlert 15 = .ok (.iload_n 3, 1) := by decide +kernel
theorem dX6_mixAlert_16 : decode cX6_mixAlert 16 = .ok (.iload 6, 2) := by decide +kernel
theorem dX6_mixAlert_18 : decode cX6_mixAlert 18 = .ok (.invokevirtual 336, 3) := by decide +kernel
theorem dX6_mixAlert_21 : decode cX6_mixAlert 21 = .ok (.invokestatic 299, 3) := by decide +kernel
theorem dX6_mixAlert_24 : decode cX6_mixAlert 24 = .ok (.lstore 4, 2) := by decide +kernel
theorem dX6_mixAlert_26 : decode cX6_mixAlert 26 = .ok (.iinc 6 1, 3) := by decide +kernel
theorem dX6_mixAlert_29 : decode cX6_mixAlert 29 = .ok (.goto (-23), 3) := by decide +kernel
theorem dX6_mixAlert_32 : decode cX6_mixAlert 32 = .ok (.aload_n 0, 1) := by decide +kernel
theorem dX6_mixAlert_33 : decode cX6_mixAlert 33 = .ok (.iload_n 3, 1) := by decide +kernel
theorem dX6_mixAlert_34 : decode cX6_mixAlert 34 = .ok (.iconst 0, 1) := by decide +kernel
theorem dX6_mixAlert_35 : decode cX6_mixAlert 35 = .ok (.invokevirtual 336, 3) := by decide +kernel
theorem dX6_mixAlert_38 : decode cX6_mixAlert 38 = .ok (.istore 6, 2) := by decide +kernel
theorem dX6_mixAlert_40 : decode cX6_mixAlert 40 = .ok (.aload_n 0, 1) := by decide +kernel
theorem dX6_mixAlert_41 : decode cX6_mixAlert 41 = .ok (.iload_n 3, 1) := by decide +kernel
theorem dX6_mixAlert_42 : decode cX6_mixAlert 42 = .ok (.iconst 1, 1) := by decide +kernel
theorem dX6_mixAlert_43 : decode cX6_mixAlert 43 = .ok (.invokevirtual 336, 3) := by decide +kernel
theorem dX6_mixAlert_46 : decode cX6_mixAlert 46 = .ok (.istore 7, 2) := by decide +kernel
theorem dX6_mixAlert_48 : decode cX6_mixAlert 48 = .ok (.iconst 0, 1) := by decide +kernel
theorem dX6_mixAlert_49 : decode cX6_mixAlert 49 = .ok (.istore 8, 2) := by decide +kernel
theorem dX6_mixAlert_51 : decode cX6_mixAlert 51 = .ok (.iload 8, 2) := by decide +kernel
theorem dX6_mixAlert_53 : decode cX6_mixAlert 53 = .ok (.iconst 2, 1) := by decide +kernel
theorem dX6_mixAlert_54 : decode cX6_mixAlert 54 = .ok (.if_icmp .gt 26, 3) := by decide +kernel
theorem dX6_mixAlert_57 : decode cX6_mixAlert 57 = .ok (.lload 4, 2) := by decide +kernel
theorem dX6_mixAlert_59 : decode cX6_mixAlert 59 = .ok (.aload_n 0, 1) := by decide +kernel
theorem dX6_mixAlert_60 : decode cX6_mixAlert 60 = .ok (.iload 6, 2) := by decide +kernel
theorem dX6_mixAlert_62 : decode cX6_mixAlert 62 = .ok (.iload 7, 2) := by decide +kernel
theorem dX6_mixAlert_64 : decode cX6_mixAlert 64 = .ok (.iload 8, 2) := by decide +kernel
theorem dX6_mixAlert_66 : decode cX6_mixAlert 66 = .ok (.invokevirtual 339, 3) := by decide +kernel
theorem dX6_mixAlert_69 : decode cX6_mixAlert 69 = .ok (.invokestatic 299, 3) := by decide +kernel
theorem dX6_mixAlert_72 : decode cX6_mixAlert 72 = .ok (.lstore 4, 2) := by decide +kernel
theorem dX6_mixAlert_74 : decode cX6_mixAlert 74 = .ok (.iinc 8 1, 3) := by decide +kernel
theorem dX6_mixAlert_77 : decode cX6_mixAlert 77 = .ok (.goto (-26), 3) := by decide +kernel
