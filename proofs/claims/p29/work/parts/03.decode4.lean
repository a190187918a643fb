theorem dX6_mixAlert_80 : decode cX6_mixAlert 80 = .ok (.lload 4, 2) := by decide +kernel
theorem dX6_mixAlert_82 : decode cX6_mixAlert 82 = .ok (.lreturn, 1) := by decide +kernel
theorem dX6_mixHush_0 : decode cX6_mixHush 0 = .ok (.lload_n 1, 1) := by decide +kernel
theorem dX6_mixHush_1 : decode cX6_mixHush 1 = .ok (.lstore 4, 2) := by decide +kernel
theorem dX6_mixHush_3 : decode cX6_mixHush 3 = .ok (.iconst 0, 1) := by decide +kernel
theorem dX6_mixHush_4 : decode cX6_mixHush 4 = .ok (.istore 6, 2) := by decide +kernel
theorem dX6_mixHush_6 : decode cX6_mixHush 6 = .ok (.iload 6, 2) := by decide +kernel
theorem dX6_mixHush_8 : decode cX6_mixHush 8 = .ok (.iconst 3, 1) := by decide +kernel
theorem dX6_mixHush_9 : decode cX6_mixHush 9 = .ok (.if_icmp .gt 23, 3) := by decide +kernel
theorem dX6_mixHush_12 : decode cX6_mixHush 12 = .ok (.lload 4, 2) := by decide +kernel
theorem dX6_mixHush_14 : decode cX6_mixHush 14 = .ok (.aload_n 0, 1) := by decide +kernel
theorem dX6_mixHush_15 : decode cX6_mixHush 15 = .ok (.iload_n 3, 1) := by decide +kernel
theorem dX6_mixHush_16 : decode cX6_mixHush 16 = .ok (.iload 6, 2) := by decide +kernel
theorem dX6_mixHush_18 : decode cX6_mixHush 18 = .ok (.invokevirtual 342, 3) := by decide +kernel
theorem dX6_mixHush_21 : decode cX6_mixHush 21 = .ok (.invokestatic 299, 3) := by decide +kernel
theorem dX6_mixHush_24 : decode cX6_mixHush 24 = .ok (.lstore 4, 2) := by decide +kernel
theorem dX6_mixHush_26 : decode cX6_mixHush 26 = .ok (.iinc 6 1, 3) := by decide +kernel
theorem dX6_mixHush_29 : decode cX6_mixHush 29 = .ok (.goto (-23), 3) := by decide +kernel
theorem dX6_mixHush_32 : decode cX6_mixHush 32 = .ok (.lload 4, 2) := by decide +kernel
theorem dX6_mixHush_34 : decode cX6_mixHush 34 = .ok (.aload_n 0, 1) := by decide +kernel
theorem dX6_mixHush_35 : decode cX6_mixHush 35 = .ok (.iload_n 3, 1) := by decide +kernel
theorem dX6_mixHush_36 : decode cX6_mixHush 36 = .ok (.invokevirtual 197, 3) := by decide +kernel
theorem dX6_mixHush_39 : decode cX6_mixHush 39 = .ok (.invokestatic 299, 3) := by decide +kernel
theorem dX6_mixHush_42 : decode cX6_mixHush 42 = .ok (.lreturn, 1) := by decide +kernel
theorem dX6_mixNotices_0 : decode cX6_mixNotices 0 = .ok (.lload_n 1, 1) := by decide +kernel
theorem dX6_mixNotices_1 : decode cX6_mixNotices 1 = .ok (.lstore_n 3, 1) := by decide +kernel
theorem dX6_mixNotices_2 : decode cX6_mixNotices 2 = .ok (.iconst 0, 1) := by decide +kernel
theorem dX6_mixNotices_3 : decode cX6_mixNotices 3 = .ok (.istore 5, 2) := by decide +kernel
theorem dX6_mixNotices_5 : decode cX6_mixNotices 5 = .ok (.iload 5, 2) := by decide +kernel
theorem dX6_mixNotices_7 : decode cX6_mixNotices 7 = .ok (.aload_n 0, 1) := by decide +kernel
theorem dX6_mixNotices_8 : decode cX6_mixNotices 8 = .ok (.getfield 32, 3) := by decide +kernel
theorem dX6_mixNotices_11 : decode cX6_mixNotices 11 = .ok (.getfield 275, 3) := by decide +kernel
theorem dX6_mixNotices_14 : decode cX6_mixNotices 14 = .ok (.if_icmp .ge 37, 3) := by decide +kernel
theorem dX6_mixNotices_17 : decode cX6_mixNotices 17 = .ok (.iconst 0, 1) := by decide +kernel
theorem dX6_mixNotices_18 : decode cX6_mixNotices 18 = .ok (.istore 6, 2) := by decide +kernel
theorem dX6_mixNotices_20 : decode cX6_mixNotices 20 = .ok (.iload 6, 2) := by decide +kernel
theorem dX6_mixNotices_22 : decode cX6_mixNotices 22 = .ok (.iconst 4, 1) := by decide +kernel
theorem dX6_mixNotices_23 : decode cX6_mixNotices 23 = .ok (.if_icmp .ge 22, 3) := by decide +kernel
theorem dX6_mixNotices_26 : decode cX6_mixNotices 26 = .ok (.lload_n 3, 1) := by decide +kernel
theorem dX6_mixNotices_27 : decode cX6_mixNotices 27 = .ok (.aload_n 0, 1) := by decide +kernel
theorem dX6_mixNotices_28 : decode cX6_mixNotices 28 = .ok (.iload 5, 2) := by decide +kernel
theorem dX6_mixNotices_30 : decode cX6_mixNotices 30 = .ok (.iload 6, 2) := by decide +kernel
theorem dX6_mixNotices_32 : decode cX6_mixNotices 32 = .ok (.invokevirtual 345, 3) := by decide +kernel
theorem dX6_mixNotices_35 : decode cX6_mixNotices 35 = .ok (.invokestatic 299, 3) := by decide +kernel
theorem dX6_mixNotices_38 : decode cX6_mixNotices 38 = .ok (.lstore_n 3, 1) := by decide +kernel
theorem dX6_mixNotices_39 : decode cX6_mixNotices 39 = .ok (.iinc 6 1, 3) := by decide +kernel
theorem dX6_mixNotices_42 : decode cX6_mixNotices 42 = .ok (.goto (-22), 3) := by decide +kernel
theorem dX6_mixNotices_45 : decode cX6_mixNotices 45 = .ok (.iinc 5 1, 3) := by decide +kernel
theorem dX6_mixNotices_48 : decode cX6_mixNotices 48 = .ok (.goto (-43), 3) := by decide +kernel
theorem dX6_mixNotices_51 : decode cX6_mixNotices 51 = .ok (.lload_n 3, 1) := by decide +kernel
theorem dX6_mixNotices_52 : decode cX6_mixNotices 52 = .ok (.lreturn, 1) := by decide +kernel
theorem dX6_isOutside_0 : decode cX6_isOutside 0 = .ok (.iload_n 0, 1) := by decide +kernel
theorem dX6_isOutside_1 : decode cX6_isOutside 1 = .ok (.iload_n 1, 1) := by decide +kernel
theorem dX6_isOutside_2 : decode cX6_isOutside 2 = .ok (.if_icmp .lt 8, 3) := by decide +kernel
theorem dX6_isOutside_5 : decode cX6_isOutside 5 = .ok (.iload_n 0, 1) := by decide +kernel
theorem dX6_isOutside_6 : decode cX6_isOutside 6 = .ok (.iload_n 2, 1) := by decide +kernel
theorem dX6_isOutside_7 : decode cX6_isOutside 7 = .ok (.if_icmp .le 7, 3) := by decide +kernel
theorem dX6_isOutside_10 : decode cX6_isOutside 10 = .ok (.iconst 1, 1) := by decide +kernel
theorem dX6_isOutside_11 : decode cX6_isOutside 11 = .ok (.goto 4, 3) := by decide +kernel
theorem dX6_isOutside_14 : decode cX6_isOutside 14 = .ok (.iconst 0, 1) := by decide +kernel
theorem dX6_isOutside_15 : decode cX6_isOutside 15 = .ok (.ireturn, 1) := by decide +kernel
theorem dX6_requireMetric_0 : decode cX6_requireMetric 0 = .ok (.iload_n 0, 1) := by decide +kernel
theorem dX6_requireMetric_1 : decode cX6_requireMetric 1 = .ok (.iconst 0, 1) := by decide +kernel
theorem dX6_requireMetric_2 : decode cX6_requireMetric 2 = .ok (.iconst 5, 1) := by decide +kernel
theorem dX6_requireMetric_3 : decode cX6_requireMetric 3 = .ok (.invokestatic 53, 3) := by decide +kernel
theorem dX6_requireMetric_6 : decode cX6_requireMetric 6 = .ok (.ifCond .eq 14, 3) := by decide +kernel
theorem dX6_requireMetric_9 : decode cX6_requireMetric 9 = .ok (.new 57, 3) := by decide +kernel
theorem dX6_requireMetric_12 : decode cX6_requireMetric 12 = .ok (.dup, 1) := by decide +kernel
theorem dX6_requireMetric_13 : decode cX6_requireMetric 13 = .ok (.ldc_w 348, 3) := by decide +kernel
theorem dX6_requireMetric_16 : decode cX6_requireMetric 16 = .ok (.invokespecial 61, 3) := by decide +kernel
theorem dX6_requireMetric_19 : decode cX6_requireMetric 19 = .ok (.athrow, 1) := by decide +kernel
theorem dX6_requireMetric_20 : decode cX6_requireMetric 20 = .ok (.return_, 1) := by decide +kernel
theorem dX6_requireLook_0 : decode cX6_requireLook 0 = .ok (.iload_n 0, 1) := by decide +kernel
theorem dX6_requireLook_1 : decode cX6_requireLook 1 = .ok (.iconst 0, 1) := by decide +kernel
theorem dX6_requireLook_2 : decode cX6_requireLook 2 = .ok (.bipush 8, 2) := by decide +kernel
theorem dX6_requireLook_4 : decode cX6_requireLook 4 = .ok (.invokestatic 53, 3) := by decide +kernel
theorem dX6_requireLook_7 : decode cX6_requireLook 7 = .ok (.ifCond .eq 14, 3) := by decide +kernel
theorem dX6_requireLook_10 : decode cX6_requireLook 10 = .ok (.new 57, 3) := by decide +kernel
theorem dX6_requireLook_13 : decode cX6_requireLook 13 = .ok (.dup, 1) := by decide +kernel
theorem dX6_requireLook_14 : decode cX6_requireLook 14 = .ok (.ldc_w 350, 3) := by decide +kernel
theorem dX6_requireLook_17 : decode cX6_requireLook 17 = .ok (.invokespecial 61, 3) := by decide +kernel
theorem dX6_requireLook_20 : decode cX6_requireLook 20 = .ok (.athrow, 1) := by decide +kernel
theorem dX6_requireLook_21 : decode cX6_requireLook 21 = .ok (.return_, 1) := by decide +kernel
theorem dX6_requireW_0 : decode cX6_requireW 0 = .ok (.iload_n 0, 1) := by decide +kernel
theorem dX6_requireW_1 : decode cX6_requireW 1 = .ok (.iconst 1, 1) := by decide +kernel
theorem dX6_requireW_2 : decode cX6_requireW 2 = .ok (.bipush 12, 2) := by decide +kernel
theorem dX6_requireW_4 : decode cX6_requireW 4 = .ok (.invokestatic 53, 3) := by decide +kernel
theorem dX6_requireW_7 : decode cX6_requireW 7 = .ok (.ifCond .eq 14, 3) := by decide +kernel
theorem dX6_requireW_10 : decode cX6_requireW 10 = .ok (.new 57, 3) := by decide +kernel
theorem dX6_requireW_13 : decode cX6_requireW 13 = .ok (.dup, 1) := by decide +kernel
theorem dX6_requireW_14 : decode cX6_requireW 14 = .ok (.ldc_w 352, 3) := by decide +kernel
theorem dX6_requireW_17 : decode cX6_requireW 17 = .ok (.invokespecial 61, 3) := by decide +kernel
theorem dX6_requireW_20 : decode cX6_requireW 20 = .ok (.athrow, 1) := by decide +kernel
theorem dX6_requireW_21 : decode cX6_requireW 21 = .ok (.return_, 1) := by decide +kernel
theorem dX6_requireLimit_0 : decode cX6_requireLimit 0 = .ok (.iload_n 0, 1) := by decide +kernel
theorem dX6_requireLimit_1 : decode cX6_requireLimit 1 = .ok (.sipush (-10000), 3) := by decide +kernel
theorem dX6_requireLimit_4 : decode cX6_requireLimit 4 = .ok (.sipush 10000, 3) := by decide +kernel
theorem dX6_requireLimit_7 : decode cX6_requireLimit 7 = .ok (.invokestatic 53, 3) := by decide +kernel
theorem dX6_requireLimit_10 : decode cX6_requireLimit 10 = .ok (.ifCond .eq 14, 3) := by decide +kernel
theorem dX6_requireLimit_13 : decode cX6_requireLimit 13 = .ok (.new 57, 3) := by decide +kernel
theorem dX6_requireLimit_16 : decode cX6_requireLimit 16 = .ok (.dup, 1) := by decide +kernel
theorem dX6_requireLimit_17 : decode cX6_requireLimit 17 = .ok (.ldc_w 354, 3) := by decide +kernel
theorem dX6_requireLimit_20 : decode cX6_requireLimit 20 = .ok (.invokespecial 61, 3) := by decide +kernel
theorem dX6_requireLimit_23 : decode cX6_requireLimit 23 = .ok (.athrow, 1) := by decide +kernel
theorem dX6_requireLimit_24 : decode cX6_requireLimit 24 = .ok (.return_, 1) := by decide +kernel
theorem dX6_requireTicks_0 : decode cX6_requireTicks 0 = .ok (.iload_n 0, 1) := by decide +kernel
theorem dX6_requireTicks_1 : decode cX6_requireTicks 1 = .ok (.iconst 1, 1) := by decide +kernel
theorem dX6_requireTicks_2 : decode cX6_requireTicks 2 = .ok (.bipush 10, 2) := by decide +kernel
theorem dX6_requireTicks_4 : decode cX6_requireTicks 4 = .ok (.invokestatic 53, 3) := by decide +kernel
theorem dX6_requireTicks_7 : decode cX6_requireTicks 7 = .ok (.ifCond .eq 14, 3) := by decide +kernel
theorem dX6_requireTicks_10 : decode cX6_requireTicks 10 = .ok (.new 57, 3) := by decide +kernel
theorem dX6_requireTicks_13 : decode cX6_requireTicks 13 = .ok (.dup, 1) := by decide +kernel
theorem dX6_requireTicks_14 : decode cX6_requireTicks 14 = .ok (.ldc_w 356, 3) := by decide +kernel
theorem dX6_requireTicks_17 : decode cX6_requireTicks 17 = .ok (.invokespecial 61, 3) := by decide +kernel
theorem dX6_requireTicks_20 : decode cX6_requireTicks 20 = .ok (.athrow, 1) := by decide +kernel
theorem dX6_requireTicks_21 : decode cX6_requireTicks 21 = .ok (.return_, 1) := by decide +kernel
theorem dX6_requireSeries_0 : decode cX6_requireSeries 0 = .ok (.iload_n 1, 1) := by decide +kernel
theorem dX6_requireSeries_1 : decode cX6_requireSeries 1 = .ok (.iconst 0, 1) := by decide +kernel
theorem dX6_requireSeries_2 : decode cX6_requireSeries 2 = .ok (.aload_n 0, 1) := by decide +kernel
theorem dX6_requireSeries_3 : decode cX6_requireSeries 3 = .ok (.getfield 10, 3) := by decide +kernel
theorem dX6_requireSeries_6 : decode cX6_requireSeries 6 = .ok (.invokevirtual 70, 3) := by decide +kernel
theorem dX6_requireSeries_9 : decode cX6_requireSeries 9 = .ok (.iconst 1, 1) := by decide +kernel
theorem dX6_requireSeries_10 : decode cX6_requireSeries 10 = .ok (.isub, 1) := by decide +kernel
theorem dX6_requireSeries_11 : decode cX6_requireSeries 11 = .ok (.invokestatic 53, 3) := by decide +kernel
theorem dX6_requireSeries_14 : decode cX6_requireSeries 14 = .ok (.ifCond .eq 14, 3) := by decide +kernel
theorem dX6_requireSeries_17 : decode cX6_requireSeries 17 = .ok (.new 248, 3) := by decide +kernel
theorem dX6_requireSeries_20 : decode cX6_requireSeries 20 = .ok (.dup, 1) := by decide +kernel
theorem dX6_requireSeries_21 : decode cX6_requireSeries 21 = .ok (.ldc_w 358, 3) := by decide +kernel
theorem dX6_requireSeries_24 : decode cX6_requireSeries 24 = .ok (.invokespecial 252, 3) := by decide +kernel
theorem dX6_requireSeries_27 : decode cX6_requireSeries 27 = .ok (.athrow, 1) := by decide +kernel
theorem dX6_requireSeries_28 : decode cX6_requireSeries 28 = .ok (.aload_n 0, 1) := by decide +kernel
theorem dX6_requireSeries_29 : decode cX6_requireSeries 29 = .ok (.getfield 10, 3) := by decide +kernel
theorem dX6_requireSeries_32 : decode cX6_requireSeries 32 = .ok (.iload_n 1, 1) := by decide +kernel
theorem dX6_requireSeries_33 : decode cX6_requireSeries 33 = .ok (.invokevirtual 180, 3) := by decide +kernel
theorem dX6_requireSeries_36 : decode cX6_requireSeries 36 = .ok (.checkcast 79, 3) := by decide +kernel
theorem dX6_requireSeries_39 : decode cX6_requireSeries 39 = .ok (.areturn, 1) := by decide +kernel
theorem dX6_requireRule_0 : decode cX6_requireRule 0 = .ok (.iload_n 1, 1) := by decide +kernel
theorem dX6_requireRule_1 : decode cX6_requireRule 1 = .ok (.iconst 0, 1) := by decide +kernel
theorem dX6_requireRule_2 : decode cX6_requireRule 2 = .ok (.aload_n 0, 1) := by decide +kernel
theorem dX6_requireRule_3 : decode cX6_requireRule 3 = .ok (.getfield 16, 3) := by decide +kernel
theorem dX6_requireRule_6 : decode cX6_requireRule 6 = .ok (.invokevirtual 70, 3) := by decide +kernel
theorem dX6_requireRule_9 : decode cX6_requireRule 9 = .ok (.iconst 1, 1) := by decide +kernel
theorem dX6_requireRule_10 : decode cX6_requireRule 10 = .ok (.isub, 1) := by decide +kernel
theorem dX6_requireRule_11 : decode cX6_requireRule 11 = .ok (.invokestatic 53, 3) := by decide +kernel
theorem dX6_requireRule_14 : decode cX6_requireRule 14 = .ok (.ifCond .eq 14, 3) := by decide +kernel
theorem dX6_requireRule_17 : decode cX6_requireRule 17 = .ok (.new 248, 3) := by decide +kernel
theorem dX6_requireRule_20 : decode cX6_requireRule 20 = .ok (.dup, 1) := by decide +kernel
theorem dX6_requireRule_21 : decode cX6_requireRule 21 = .ok (.ldc_w 360, 3) := by decide +kernel
theorem dX6_requireRule_24 : decode cX6_requireRule 24 = .ok (.invokespecial 252, 3) := by decide +kernel
theorem dX6_requireRule_27 : decode cX6_requireRule 27 = .ok (.athrow, 1) := by decide +kernel
theorem dX6_requireRule_28 : decode cX6_requireRule 28 = .ok (.aload_n 0, 1) := by decide +kernel
theorem dX6_requireRule_29 : decode cX6_requireRule 29 = .ok (.getfield 16, 3) := by decide +kernel
theorem dX6_requireRule_32 : decode cX6_requireRule 32 = .ok (.iload_n 1, 1) := by decide +kernel
theorem dX6_requireRule_33 : decode cX6_requireRule 33 = .ok (.invokevirtual 180, 3) := by decide +kernel
theorem dX6_requireRule_36 : decode cX6_requireRule 36 = .ok (.checkcast 120, 3) := by decide +kernel
theorem dX6_requireRule_39 : decode cX6_requireRule 39 = .ok (.areturn, 1) := by decide +kernel
theorem dX6_requireHush_0 : decode cX6_requireHush 0 = .ok (.iload_n 1, 1) := by decide +kernel
theorem dX6_requireHush_1 : decode cX6_requireHush 1 = .ok (.iconst 0, 1) := by decide +kernel
theorem dX6_requireHush_2 : decode cX6_requireHush 2 = .ok (.aload_n 0, 1) := by decide +kernel
theorem dX6_requireHush_3 : decode cX6_requireHush 3 = .ok (.getfield 19, 3) := by decide +kernel
theorem dX6_requireHush_6 : decode cX6_requireHush 6 = .ok (.invokevirtual 70, 3) := by decide +kernel
theorem dX6_requireHush_9 : decode cX6_requireHush 9 = .ok (.iconst 1, 1) := by decide +kernel
theorem dX6_requireHush_10 : decode cX6_requireHush 10 = .ok (.isub, 1) := by decide +kernel
theorem dX6_requireHush_11 : decode cX6_requireHush 11 = .ok (.invokestatic 53, 3) := by decide +kernel
theorem dX6_requireHush_14 : decode cX6_requireHush 14 = .ok (.ifCond .eq 14, 3) := by decide +kernel
theorem dX6_requireHush_17 : decode cX6_requireHush 17 = .ok (.new 248, 3) := by decide +kernel
theorem dX6_requireHush_20 : decode cX6_requireHush 20 = .ok (.dup, 1) := by decide +kernel
theorem dX6_requireHush_21 : decode cX6_requireHush 21 = .ok (.ldc_w 362, 3) := by decide +kernel
theorem dX6_requireHush_24 : decode cX6_requireHush 24 = .ok (.invokespecial 252, 3) := by decide +kernel
theorem dX6_requireHush_27 : decode cX6_requireHush 27 = .ok (.athrow, 1) := by decide +kernel
theorem dX6_requireHush_28 : decode cX6_requireHush 28 = .ok (.aload_n 0, 1) := by decide +kernel
theorem dX6_requireHush_29 : decode cX6_requireHush 29 = .ok (.getfield 19, 3) := by decide +kernel
theorem dX6_requireHush_32 : decode cX6_requireHush 32 = .ok (.iload_n 1, 1) := by decide +kernel
theorem dX6_requireHush_33 : decode cX6_requireHush 33 = .ok (.invokevirtual 180, 3) := by decide +kernel
theorem dX6_requireHush_36 : decode cX6_requireHush 36 = .ok (.checkcast 161, 3) := by decide +kernel
theorem dX6_requireHush_39 : decode cX6_requireHush 39 = .ok (.areturn, 1) := by decide +kernel
theorem dX6_hasKey_0 : decode cX6_hasKey 0 = .ok (.iconst 0, 1) := by decide +kernel
theorem dX6_hasKey_1 : decode cX6_hasKey 1 = .ok (.istore_n 3, 1) := by decide +kernel
theorem dX6_hasKey_2 : decode cX6_hasKey 2 = .ok (.iload_n 3, 1) := by decide +kernel
theorem dX6_hasKey_3 : decode cX6_hasKey 3 = .ok (.aload_n 0, 1) := by decide +kernel
theorem dX6_hasKey_4 : decode cX6_hasKey 4 = .ok (.getfield 10, 3) := by decide +kernel
theorem dX6_hasKey_7 : decode cX6_hasKey 7 = .ok (.invokevirtual 70, 3) := by decide +kernel
theorem dX6_hasKey_10 : decode cX6_hasKey 10 = .ok (.if_icmp .ge 30, 3) := by decide +kernel
theorem dX6_hasKey_13 : decode cX6_hasKey 13 = .ok (.aload_n 1, 1) := by decide +kernel
theorem dX6_hasKey_14 : decode cX6_hasKey 14 = .ok (.aload_n 0, 1) := by decide +kernel
theorem dX6_hasKey_15 : decode cX6_hasKey 15 = .ok (.getfield 10, 3) := by decide +kernel
theorem dX6_hasKey_18 : decode cX6_hasKey 18 = .ok (.iload_n 3, 1) := by decide +kernel
theorem dX6_hasKey_19 : decode cX6_hasKey 19 = .ok (.invokevirtual 180, 3) := by decide +kernel
theorem dX6_hasKey_22 : decode cX6_hasKey 22 = .ok (.checkcast 79, 3) := by decide +kernel
theorem dX6_hasKey_25 : decode cX6_hasKey 25 = .ok (.iload_n 2, 1) := by decide +kernel
theorem dX6_hasKey_26 : decode cX6_hasKey 26 = .ok (.invokevirtual 364, 3) := by decide +kernel
theorem dX6_hasKey_29 : decode cX6_hasKey 29 = .ok (.ifCond .eq 5, 3) := by decide +kernel
theorem dX6_hasKey_32 : decode cX6_hasKey 32 = .ok (.iconst 1, 1) := by decide +kernel
theorem dX6_hasKey_33 : decode cX6_hasKey 33 = .ok (.ireturn, 1) := by decide +kernel
theorem dX6_hasKey_34 : decode cX6_hasKey 34 = .ok (.iinc 3 1, 3) := by decide +kernel
theorem dX6_hasKey_37 : decode cX6_hasKey 37 = .ok (.goto (-35), 3) := by decide +kernel
theorem dX6_hasKey_40 : decode cX6_hasKey 40 = .ok (.iconst 0, 1) := by decide +kernel
theorem dX6_hasKey_41 : decode cX6_hasKey 41 = .ok (.ireturn, 1) := by decide +kernel
theorem dX6_lookedAt_0 : decode cX6_lookedAt 0 = .ok (.iconst 0, 1) := by decide +kernel
theorem dX6_lookedAt_1 : decode cX6_lookedAt 1 = .ok (.istore 4, 2) := by decide +kernel
theorem dX6_lookedAt_3 : decode cX6_lookedAt 3 = .ok (.iconst 0, 1) := by decide +kernel
theorem dX6_lookedAt_4 : decode cX6_lookedAt 4 = .ok (.istore 5, 2) := by decide +kernel
theorem dX6_lookedAt_6 : decode cX6_lookedAt 6 = .ok (.iload 5, 2) := by decide +kernel
theorem dX6_lookedAt_8 : decode cX6_lookedAt 8 = .ok (.aload_n 0, 1) := by decide +kernel
theorem dX6_lookedAt_9 : decode cX6_lookedAt 9 = .ok (.getfield 10, 3) := by decide +kernel
theorem dX6_lookedAt_12 : decode cX6_lookedAt 12 = .ok (.invokevirtual 70, 3) := by decide +kernel
theorem dX6_lookedAt_15 : decode cX6_lookedAt 15 = .ok (.if_icmp .ge 52, 3) := by decide +kernel
theorem dX6_lookedAt_18 : decode cX6_lookedAt 18 = .ok (.aload_n 0, 1) := by decide +kernel
theorem dX6_lookedAt_19 : decode cX6_lookedAt 19 = .ok (.getfield 10, 3) := by decide +kernel
theorem dX6_lookedAt_22 : decode cX6_lookedAt 22 = .ok (.iload 5, 2) := by decide +kernel
theorem dX6_lookedAt_24 : decode cX6_lookedAt 24 = .ok (.invokevirtual 180, 3) := by decide +kernel
theorem dX6_lookedAt_27 : decode cX6_lookedAt 27 = .ok (.checkcast 79, 3) := by decide +kernel
theorem dX6_lookedAt_30 : decode cX6_lookedAt 30 = .ok (.astore 6, 2) := by decide +kernel
theorem dX6_lookedAt_32 : decode cX6_lookedAt 32 = .ok (.aload_n 1, 1) := by decide +kernel
theorem dX6_lookedAt_33 : decode cX6_lookedAt 33 = .ok (.aload 6, 2) := by decide +kernel
theorem dX6_lookedAt_35 : decode cX6_lookedAt 35 = .ok (.iload_n 2, 1) := by decide +kernel
theorem dX6_lookedAt_36 : decode cX6_lookedAt 36 = .ok (.invokevirtual 364, 3) := by decide +kernel
theorem dX6_lookedAt_39 : decode cX6_lookedAt 39 = .ok (.ifCond .eq 22, 3) := by decide +kernel
theorem dX6_lookedAt_42 : decode cX6_lookedAt 42 = .ok (.iload 4, 2) := by decide +kernel
theorem dX6_lookedAt_44 : decode cX6_lookedAt 44 = .ok (.aload 6, 2) := by decide +kernel
theorem dX6_lookedAt_46 : decode cX6_lookedAt 46 = .ok (.aload_n 1, 1) := by decide +kernel
theorem dX6_lookedAt_47 : decode cX6_lookedAt 47 = .ok (.getfield 368, 3) := by decide +kernel
theorem dX6_lookedAt_50 : decode cX6_lookedAt 50 = .ok (.aload_n 1, 1) := by decide +kernel
theorem dX6_lookedAt_51 : decode cX6_lookedAt 51 = .ok (.getfield 370, 3) := by decide +kernel
theorem dX6_lookedAt_54 : decode cX6_lookedAt 54 = .ok (.iload_n 3, 1) := by decide +kernel
theorem dX6_lookedAt_55 : decode cX6_lookedAt 55 = .ok (.invokevirtual 214, 3) := by decide +kernel
theorem dX6_lookedAt_58 : decode cX6_lookedAt 58 = .ok (.iadd, 1) := by decide +kernel
theorem dX6_lookedAt_59 : decode cX6_lookedAt 59 = .ok (.istore 4, 2) := by decide +kernel
theorem dX6_lookedAt_61 : decode cX6_lookedAt 61 = .ok (.iinc 5 1, 3) := by decide +kernel
theorem dX6_lookedAt_64 : decode cX6_lookedAt 64 = .ok (.goto (-58), 3) := by decide +kernel
theorem dX6_lookedAt_67 : decode cX6_lookedAt 67 = .ok (.iload 4, 2) := by decide +kernel
theorem dX6_lookedAt_69 : decode cX6_lookedAt 69 = .ok (.ireturn, 1) := by decide +kernel
theorem dX6_placeOf_0 : decode cX6_placeOf 0 = .ok (.aload_n 1, 1) := by decide +kernel
theorem dX6_placeOf_1 : decode cX6_placeOf 1 = .ok (.getfield 373, 3) := by decide +kernel
theorem dX6_placeOf_4 : decode cX6_placeOf 4 = .ok (.lookupswitch 66 #[(0, 28), (1, 64)], 28) := by decide +kernel
theorem dX6_placeOf_32 : decode cX6_placeOf 32 = .ok (.iload_n 2, 1) := by decide +kernel
theorem dX6_placeOf_33 : decode cX6_placeOf 33 = .ok (.iconst 0, 1) := by decide +kernel
theorem dX6_placeOf_34 : decode cX6_placeOf 34 = .ok (.aload_n 0, 1) := by decide +kernel
theorem dX6_placeOf_35 : decode cX6_placeOf 35 = .ok (.getfield 10, 3) := by decide +kernel
theorem dX6_placeOf_38 : decode cX6_placeOf 38 = .ok (.invokevirtual 70, 3) := by decide +kernel
theorem dX6_placeOf_41 : decode cX6_placeOf 41 = .ok (.iconst 1, 1) := by decide +kernel
theorem dX6_placeOf_42 : decode cX6_placeOf 42 = .ok (.isub, 1) := by decide +kernel
theorem dX6_placeOf_43 : decode cX6_placeOf 43 = .ok (.invokestatic 53, 3) := by decide +kernel
theorem dX6_placeOf_46 : decode cX6_placeOf 46 = .ok (.ifCond .eq 7, 3) := by decide +kernel
theorem dX6_placeOf_49 : decode cX6_placeOf 49 = .ok (.iconst (-1), 1) := by decide +kernel
theorem dX6_placeOf_50 : decode cX6_placeOf 50 = .ok (.goto 17, 3) := by decide +kernel
theorem dX6_placeOf_53 : decode cX6_placeOf 53 = .ok (.aload_n 0, 1) := by decide +kernel
theorem dX6_placeOf_54 : decode cX6_placeOf 54 = .ok (.getfield 10, 3) := by decide +kernel
theorem dX6_placeOf_57 : decode cX6_placeOf 57 = .ok (.iload_n 2, 1) := by decide +kernel
theorem dX6_placeOf_58 : decode cX6_placeOf 58 = .ok (.invokevirtual 180, 3) := by decide +kernel
theorem dX6_placeOf_61 : decode cX6_placeOf 61 = .ok (.checkcast 79, 3) := by decide +kernel
theorem dX6_placeOf_64 : decode cX6_placeOf 64 = .ok (.getfield 376, 3) := by decide +kernel
theorem dX6_placeOf_67 : decode cX6_placeOf 67 = .ok (.ireturn, 1) := by decide +kernel
theorem dX6_placeOf_68 : decode cX6_placeOf 68 = .ok (.iload_n 2, 1) := by decide +kernel
theorem dX6_placeOf_69 : decode cX6_placeOf 69 = .ok (.ireturn, 1) := by decide +kernel
theorem dX6_placeOf_70 : decode cX6_placeOf 70 = .ok (.iconst (-1), 1) := by decide +kernel
theorem dX6_placeOf_71 : decode cX6_placeOf 71 = .ok (.ireturn, 1) := by decide +kernel
theorem dX6_stepAlerts_0 : decode cX6_stepAlerts 0 = .ok (.iconst 0, 1) := by decide +kernel
theorem dX6_stepAlerts_1 : decode cX6_stepAlerts 1 = .ok (.istore_n 2, 1) := by decide +kernel
theorem dX6_stepAlerts_2 : decode cX6_stepAlerts 2 = .ok (.iload_n 2, 1) := by decide +kernel
theorem dX6_stepAlerts_3 : decode cX6_stepAlerts 3 = .ok (.bipush 12, 2) := by decide +kernel
theorem dX6_stepAlerts_5 : decode cX6_stepAlerts 5 = .ok (.if_icmp .ge 55, 3) := by decide +kernel
theorem dX6_stepAlerts_8 : decode cX6_stepAlerts 8 = .ok (.aload_n 1, 1) := by decide +kernel
theorem dX6_stepAlerts_9 : decode cX6_stepAlerts 9 = .ok (.iload_n 2, 1) := by decide +kernel
theorem dX6_stepAlerts_10 : decode cX6_stepAlerts 10 = .ok (.invokevirtual 229, 3) := by decide +kernel
theorem dX6_stepAlerts_13 : decode cX6_stepAlerts 13 = .ok (.astore_n 3, 1) := by decide +kernel
theorem dX6_stepAlerts_14 : decode cX6_stepAlerts 14 = .ok (.aload_n 3, 1) := by decide +kernel
theorem dX6_stepAlerts_15 : decode cX6_stepAlerts 15 = .ok (.ifnull 39, 3) := by decide +kernel
theorem dX6_stepAlerts_18 : decode cX6_stepAlerts 18 = .ok (.aload_n 0, 1) := by decide +kernel
theorem dX6_stepAlerts_19 : decode cX6_stepAlerts 19 = .ok (.aload_n 1, 1) := by decide +kernel
theorem dX6_stepAlerts_20 : decode cX6_stepAlerts 20 = .ok (.iload_n 2, 1) := by decide +kernel
theorem dX6_stepAlerts_21 : decode cX6_stepAlerts 21 = .ok (.invokevirtual 286, 3) := by decide +kernel
theorem dX6_stepAlerts_24 : decode cX6_stepAlerts 24 = .ok (.ifCond .eq 30, 3) := by decide +kernel
theorem dX6_stepAlerts_27 : decode cX6_stepAlerts 27 = .ok (.aload_n 3, 1) := by decide +kernel
theorem dX6_stepAlerts_28 : decode cX6_stepAlerts 28 = .ok (.aload_n 1, 1) := by decide +kernel
theorem dX6_stepAlerts_29 : decode cX6_stepAlerts 29 = .ok (.aload_n 0, 1) := by decide +kernel
theorem dX6_stepAlerts_30 : decode cX6_stepAlerts 30 = .ok (.aload_n 1, 1) := by decide +kernel
theorem dX6_stepAlerts_31 : decode cX6_stepAlerts 31 = .ok (.iload_n 2, 1) := by decide +kernel
theorem dX6_stepAlerts_32 : decode cX6_stepAlerts 32 = .ok (.iconst 0, 1) := by decide +kernel
theorem dX6_stepAlerts_33 : decode cX6_stepAlerts 33 = .ok (.invokevirtual 223, 3) := by decide +kernel
theorem dX6_stepAlerts_36 : decode cX6_stepAlerts 36 = .ok (.aload_n 1, 1) := by decide +kernel
theorem dX6_stepAlerts_37 : decode cX6_stepAlerts 37 = .ok (.getfield 125, 3) := by decide +kernel
theorem dX6_stepAlerts_40 : decode cX6_stepAlerts 40 = .ok (.invokevirtual 290, 3) := by decide +kernel
theorem dX6_stepAlerts_43 : decode cX6_stepAlerts 43 = .ok (.aload_n 1, 1) := by decide +kernel
theorem dX6_stepAlerts_44 : decode cX6_stepAlerts 44 = .ok (.getfield 140, 3) := by decide +kernel
theorem dX6_stepAlerts_47 : decode cX6_stepAlerts 47 = .ok (.aload_n 0, 1) := by decide +kernel
theorem dX6_stepAlerts_48 : decode cX6_stepAlerts 48 = .ok (.getfield 43, 3) := by decide +kernel
theorem dX6_stepAlerts_51 : decode cX6_stepAlerts 51 = .ok (.invokevirtual 377, 3) := by decide +kernel
theorem dX6_stepAlerts_54 : decode cX6_stepAlerts 54 = .ok (.iinc 2 1, 3) := by decide +kernel
theorem dX6_stepAlerts_57 : decode cX6_stepAlerts 57 = .ok (.goto (-55), 3) := by decide +kernel
theorem dX6_stepAlerts_60 : decode cX6_stepAlerts 60 = .ok (.return_, 1) := by decide +kernel
theorem dX6_wouldBurn_0 : decode cX6_wouldBurn 0 = .ok (.aload_n 1, 1) := by decide +kernel
theorem dX6_wouldBurn_1 : decode cX6_wouldBurn 1 = .ok (.iload_n 2, 1) := by decide +kernel
theorem dX6_wouldBurn_2 : decode cX6_wouldBurn 2 = .ok (.invokevirtual 229, 3) := by decide +kernel
theorem dX6_wouldBurn_5 : decode cX6_wouldBurn 5 = .ok (.astore 4, 2) := by decide +kernel
theorem dX6_wouldBurn_7 : decode cX6_wouldBurn 7 = .ok (.aload 4, 2) := by decide +kernel
theorem dX6_wouldBurn_9 : decode cX6_wouldBurn 9 = .ok (.ifnull 12, 3) := by decide +kernel
theorem dX6_wouldBurn_12 : decode cX6_wouldBurn 12 = .ok (.aload_n 0, 1) := by decide +kernel
theorem dX6_wouldBurn_13 : decode cX6_wouldBurn 13 = .ok (.aload_n 1, 1) := by decide +kernel
theorem dX6_wouldBurn_14 : decode cX6_wouldBurn 14 = .ok (.iload_n 2, 1) := by decide +kernel
theorem dX6_wouldBurn_15 : decode cX6_wouldBurn 15 = .ok (.invokevirtual 286, 3) := by decide +kernel
theorem dX6_wouldBurn_18 : decode cX6_wouldBurn 18 = .ok (.ifCond .ne 5, 3) := by decide +kernel
theorem dX6_wouldBurn_21 : decode cX6_wouldBurn 21 = .ok (.iconst 0, 1) := by decide +kernel
theorem dX6_wouldBurn_22 : decode cX6_wouldBurn 22 = .ok (.ireturn, 1) := by decide +kernel
theorem dX6_wouldBurn_23 : decode cX6_wouldBurn 23 = .ok (.aload_n 0, 1) := by decide +kernel
theorem dX6_wouldBurn_24 : decode cX6_wouldBurn 24 = .ok (.getfield 39, 3) := by decide +kernel
theorem dX6_wouldBurn_27 : decode cX6_wouldBurn 27 = .ok (.aload 4, 2) := by decide +kernel
theorem dX6_wouldBurn_29 : decode cX6_wouldBurn 29 = .ok (.invokevirtual 381, 3) := by decide +kernel
theorem dX6_wouldBurn_32 : decode cX6_wouldBurn 32 = .ok (.iconst 1, 1) := by decide +kernel
theorem dX6_wouldBurn_33 : decode cX6_wouldBurn 33 = .ok (.istore 5, 2) := by decide +kernel
theorem dX6_wouldBurn_35 : decode cX6_wouldBurn 35 = .ok (.iload 5, 2) := by decide +kernel
theorem dX6_wouldBurn_37 : decode cX6_wouldBurn 37 = .ok (.iload_n 3, 1) := by decide +kernel
theorem dX6_wouldBurn_38 : decode cX6_wouldBurn 38 = .ok (.if_icmp .gt 43, 3) := by decide +kernel
theorem dX6_wouldBurn_41 : decode cX6_wouldBurn 41 = .ok (.aload_n 0, 1) := by decide +kernel
theorem dX6_wouldBurn_42 : decode cX6_wouldBurn 42 = .ok (.getfield 39, 3) := by decide +kernel
theorem dX6_wouldBurn_45 : decode cX6_wouldBurn 45 = .ok (.aload_n 1, 1) := by decide +kernel
theorem dX6_wouldBurn_46 : decode cX6_wouldBurn 46 = .ok (.aload_n 0, 1) := by decide +kernel
theorem dX6_wouldBurn_47 : decode cX6_wouldBurn 47 = .ok (.aload_n 1, 1) := by decide +kernel
theorem dX6_wouldBurn_48 : decode cX6_wouldBurn 48 = .ok (.iload_n 2, 1) := by decide +kernel
theorem dX6_wouldBurn_49 : decode cX6_wouldBurn 49 = .ok (.iload 5, 2) := by decide +kernel
theorem dX6_wouldBurn_51 : decode cX6_wouldBurn 51 = .ok (.invokevirtual 223, 3) := by decide +kernel
theorem dX6_wouldBurn_54 : decode cX6_wouldBurn 54 = .ok (.aload_n 1, 1) := by decide +kernel
theorem dX6_wouldBurn_55 : decode cX6_wouldBurn 55 = .ok (.getfield 125, 3) := by decide +kernel
theorem dX6_wouldBurn_58 : decode cX6_wouldBurn 58 = .ok (.invokevirtual 290, 3) := by decide +kernel
theorem dX6_wouldBurn_61 : decode cX6_wouldBurn 61 = .ok (.aload_n 1, 1) := by decide +kernel
theorem dX6_wouldBurn_62 : decode cX6_wouldBurn 62 = .ok (.getfield 140, 3) := by decide +kernel
theorem dX6_wouldBurn_65 : decode cX6_wouldBurn 65 = .ok (.aload_n 0, 1) := by decide +kernel
theorem dX6_wouldBurn_66 : decode cX6_wouldBurn 66 = .ok (.getfield 43, 3) := by decide +kernel
theorem dX6_wouldBurn_69 : decode cX6_wouldBurn 69 = .ok (.iload 5, 2) := by decide +kernel
theorem dX6_wouldBurn_71 : decode cX6_wouldBurn 71 = .ok (.iadd, 1) := by decide +kernel
theorem dX6_wouldBurn_72 : decode cX6_wouldBurn 72 = .ok (.invokevirtual 377, 3) := by decide +kernel
theorem dX6_wouldBurn_75 : decode cX6_wouldBurn 75 = .ok (.iinc 5 1, 3) := by decide +kernel
theorem dX6_wouldBurn_78 : decode cX6_wouldBurn 78 = .ok (.goto (-43), 3) := by decide +kernel
theorem dX6_wouldBurn_81 : decode cX6_wouldBurn 81 = .ok (.aload_n 0, 1) := by decide +kernel
theorem dX6_wouldBurn_82 : decode cX6_wouldBurn 82 = .ok (.getfield 39, 3) := by decide +kernel
theorem dX6_wouldBurn_85 : decode cX6_wouldBurn 85 = .ok (.getfield 233, 3) := by decide +kernel
theorem dX6_wouldBurn_88 : decode cX6_wouldBurn 88 = .ok (.iconst 2, 1) := by decide +kernel
theorem dX6_wouldBurn_89 : decode cX6_wouldBurn 89 = .ok (.if_icmp .ne 7, 3) := by decide +kernel
theorem dX6_wouldBurn_92 : decode cX6_wouldBurn 92 = .ok (.iconst 1, 1) := by decide +kernel
theorem dX6_wouldBurn_93 : decode cX6_wouldBurn 93 = .ok (.goto 4, 3) := by decide +kernel
theorem dX6_wouldBurn_96 : decode cX6_wouldBurn 96 = .ok (.iconst 0, 1) := by decide +kernel
theorem dX6_wouldBurn_97 : decode cX6_wouldBurn 97 = .ok (.ireturn, 1) := by decide +kernel
theorem dX6_countAlerts_0 : decode cX6_countAlerts 0 = .ok (.iconst 0, 1) := by decide +kernel
theorem dX6_countAlerts_1 : decode cX6_countAlerts 1 = .ok (.istore_n 2, 1) := by decide +kernel
theorem dX6_countAlerts_2 : decode cX6_countAlerts 2 = .ok (.iconst 0, 1) := by decide +kernel
theorem dX6_countAlerts_3 : decode cX6_countAlerts 3 = .ok (.istore_n 3, 1) := by decide +kernel
theorem dX6_countAlerts_4 : decode cX6_countAlerts 4 = .ok (.iload_n 3, 1) := by decide +kernel
theorem dX6_countAlerts_5 : decode cX6_countAlerts 5 = .ok (.aload_n 0, 1) := by decide +kernel
theorem dX6_countAlerts_6 : decode cX6_countAlerts 6 = .ok (.getfield 16, 3) := by decide +kernel
theorem dX6_countAlerts_9 : decode cX6_countAlerts 9 = .ok (.invokevirtual 70, 3) := by decide +kernel
theorem dX6_countAlerts_12 : decode cX6_countAlerts 12 = .ok (.if_icmp .ge 27, 3) := by decide +kernel
theorem dX6_countAlerts_15 : decode cX6_countAlerts 15 = .ok (.iload_n 2, 1) := by decide +kernel
theorem dX6_countAlerts_16 : decode cX6_countAlerts 16 = .ok (.aload_n 0, 1) := by decide +kernel
theorem dX6_countAlerts_17 : decode cX6_countAlerts 17 = .ok (.getfield 16, 3) := by decide +kernel
theorem dX6_countAlerts_20 : decode cX6_countAlerts 20 = .ok (.iload_n 3, 1) := by decide +kernel
theorem dX6_countAlerts_21 : decode cX6_countAlerts 21 = .ok (.invokevirtual 180, 3) := by decide +kernel
theorem dX6_countAlerts_24 : decode cX6_countAlerts 24 = .ok (.checkcast 120, 3) := by decide +kernel
theorem dX6_countAlerts_27 : decode cX6_countAlerts 27 = .ok (.iload_n 1, 1) := by decide +kernel
theorem dX6_countAlerts_28 : decode cX6_countAlerts 28 = .ok (.invokevirtual 245, 3) := by decide +kernel
theorem dX6_countAlerts_31 : decode cX6_countAlerts 31 = .ok (.iadd, 1) := by decide +kernel
theorem dX6_countAlerts_32 : decode cX6_countAlerts 32 = .ok (.istore_n 2, 1) := by decide +kernel
theorem dX6_countAlerts_33 : decode cX6_countAlerts 33 = .ok (.iinc 3 1, 3) := by decide +kernel
theorem dX6_countAlerts_36 : decode cX6_countAlerts 36 = .ok (.goto (-32), 3) := by decide +kernel
theorem dX6_countAlerts_39 : decode cX6_countAlerts 39 = .ok (.iload_n 2, 1) := by decide +kernel
theorem dX6_countAlerts_40 : decode cX6_countAlerts 40 = .ok (.ireturn, 1) := by decide +kernel
theorem dX6_hearing_0 : decode cX6_hearing 0 = .ok (.aload_n 1, 1) := by decide +kernel
theorem dX6_hearing_1 : decode cX6_hearing 1 = .ok (.iload_n 2, 1) := by decide +kernel
theorem dX6_hearing_2 : decode cX6_hearing 2 = .ok (.invokevirtual 385, 3) := by decide +kernel
theorem dX6_hearing_5 : decode cX6_hearing 5 = .ok (.ifCond .ne 5, 3) := by decide +kernel
theorem dX6_hearing_8 : decode cX6_hearing 8 = .ok (.iconst 1, 1) := by decide +kernel
theorem dX6_hearing_9 : decode cX6_hearing 9 = .ok (.ireturn, 1) := by decide +kernel
theorem dX6_hearing_10 : decode cX6_hearing 10 = .ok (.aload_n 0, 1) := by decide +kernel
theorem dX6_hearing_11 : decode cX6_hearing 11 = .ok (.aload_n 1, 1) := by decide +kernel
theorem dX6_hearing_12 : decode cX6_hearing 12 = .ok (.iload_n 2, 1) := by decide +kernel
theorem dX6_hearing_13 : decode cX6_hearing 13 = .ok (.invokevirtual 256, 3) := by decide +kernel
theorem dX6_hearing_16 : decode cX6_hearing 16 = .ok (.istore 4, 2) := by decide +kernel
theorem dX6_hearing_18 : decode cX6_hearing 18 = .ok (.aload_n 0, 1) := by decide +kernel
theorem dX6_hearing_19 : decode cX6_hearing 19 = .ok (.aload_n 1, 1) := by decide +kernel
theorem dX6_hearing_20 : decode cX6_hearing 20 = .ok (.getfield 253, 3) := by decide +kernel
theorem dX6_hearing_23 : decode cX6_hearing 23 = .ok (.iload 4, 2) := by decide +kernel
theorem dX6_hearing_25 : decode cX6_hearing 25 = .ok (.iload_n 3, 1) := by decide +kernel
theorem dX6_hearing_26 : decode cX6_hearing 26 = .ok (.invokevirtual 389, 3) := by decide +kernel
theorem dX6_hearing_29 : decode cX6_hearing 29 = .ok (.ifCond .eq 5, 3) := by decide +kernel
theorem dX6_hearing_32 : decode cX6_hearing 32 = .ok (.iconst 2, 1) := by decide +kernel
theorem dX6_hearing_33 : decode cX6_hearing 33 = .ok (.ireturn, 1) := by decide +kernel
theorem dX6_hearing_34 : decode cX6_hearing 34 = .ok (.aload_n 0, 1) := by decide +kernel
theorem dX6_hearing_35 : decode cX6_hearing 35 = .ok (.aload_n 1, 1) := by decide +kernel
theorem dX6_hearing_36 : decode cX6_hearing 36 = .ok (.getfield 143, 3) := by decide +kernel
theorem dX6_hearing_39 : decode cX6_hearing 39 = .ok (.iload 4, 2) := by decide +kernel
theorem dX6_hearing_41 : decode cX6_hearing 41 = .ok (.iload_n 3, 1) := by decide +kernel
theorem dX6_hearing_42 : decode cX6_hearing 42 = .ok (.invokevirtual 392, 3) := by decide +kernel
theorem dX6_hearing_45 : decode cX6_hearing 45 = .ok (.ifCond .eq 7, 3) := by decide +kernel
theorem dX6_hearing_48 : decode cX6_hearing 48 = .ok (.iconst 3, 1) := by decide +kernel
theorem dX6_hearing_49 : decode cX6_hearing 49 = .ok (.goto 4, 3) := by decide +kernel
theorem dX6_hearing_52 : decode cX6_hearing 52 = .ok (.iconst 0, 1) := by decide +kernel
theorem dX6_hearing_53 : decode cX6_hearing 53 = .ok (.ireturn, 1) := by decide +kernel
theorem dX6_isHushed_0 : decode cX6_isHushed 0 = .ok (.iconst 0, 1) := by decide +kernel
theorem dX6_isHushed_1 : decode cX6_isHushed 1 = .ok (.istore 4, 2) := by decide +kernel
theorem dX6_isHushed_3 : decode cX6_isHushed 3 = .ok (.iload 4, 2) := by decide +kernel
theorem dX6_isHushed_5 : decode cX6_isHushed 5 = .ok (.aload_n 0, 1) := by decide +kernel
theorem dX6_isHushed_6 : decode cX6_isHushed 6 = .ok (.getfield 19, 3) := by decide +kernel
theorem dX6_isHushed_9 : decode cX6_isHushed 9 = .ok (.invokevirtual 70, 3) := by decide +kernel
theorem dX6_isHushed_12 : decode cX6_isHushed 12 = .ok (.if_icmp .ge 41, 3) := by decide +kernel
theorem dX6_isHushed_15 : decode cX6_isHushed 15 = .ok (.iload 4, 2) := by decide +kernel
theorem dX6_isHushed_17 : decode cX6_isHushed 17 = .ok (.iload_n 3, 1) := by decide +kernel
theorem dX6_isHushed_18 : decode cX6_isHushed 18 = .ok (.if_icmp .eq 29, 3) := by decide +kernel
theorem dX6_isHushed_21 : decode cX6_isHushed 21 = .ok (.aload_n 0, 1) := by decide +kernel
theorem dX6_isHushed_22 : decode cX6_isHushed 22 = .ok (.getfield 19, 3) := by decide +kernel
theorem dX6_isHushed_25 : decode cX6_isHushed 25 = .ok (.iload 4, 2) := by decide +kernel
theorem dX6_isHushed_27 : decode cX6_isHushed 27 = .ok (.invokevirtual 180, 3) := by decide +kernel
theorem dX6_isHushed_30 : decode cX6_isHushed 30 = .ok (.checkcast 161, 3) := by decide +kernel
theorem dX6_isHushed_33 : decode cX6_isHushed 33 = .ok (.iload_n 1, 1) := by decide +kernel
theorem dX6_isHushed_34 : decode cX6_isHushed 34 = .ok (.iload_n 2, 1) := by decide +kernel
theorem dX6_isHushed_35 : decode cX6_isHushed 35 = .ok (.aload_n 0, 1) := by decide +kernel
theorem dX6_isHushed_36 : decode cX6_isHushed 36 = .ok (.getfield 43, 3) := by decide +kernel
theorem dX6_isHushed_39 : decode cX6_isHushed 39 = .ok (.invokevirtual 395, 3) := by decide +kernel
theorem dX6_isHushed_42 : decode cX6_isHushed 42 = .ok (.ifCond .eq 5, 3) := by decide +kernel
theorem dX6_isHushed_45 : decode cX6_isHushed 45 = .ok (.iconst 1, 1) := by decide +kernel
theorem dX6_isHushed_46 : decode cX6_isHushed 46 = .ok (.ireturn, 1) := by decide +kernel
theorem dX6_isHushed_47 : decode cX6_isHushed 47 = .ok (.iinc 4 1, 3) := by decide +kernel
theorem dX6_isHushed_50 : decode cX6_isHushed 50 = .ok (.goto (-47), 3) := by decide +kernel
theorem dX6_isHushed_53 : decode cX6_isHushed 53 = .ok (.iconst 0, 1) := by decide +kernel
theorem dX6_isHushed_54 : decode cX6_isHushed 54 = .ok (.ireturn, 1) := by decide +kernel
theorem dX6_isQuiet_0 : decode cX6_isQuiet 0 = .ok (.iconst 0, 1) := by decide +kernel
theorem dX6_isQuiet_1 : decode cX6_isQuiet 1 = .ok (.istore 4, 2) := by decide +kernel
theorem dX6_isQuiet_3 : decode cX6_isQuiet 3 = .ok (.iload 4, 2) := by decide +kernel
theorem dX6_isQuiet_5 : decode cX6_isQuiet 5 = .ok (.aload_n 0, 1) := by decide +kernel
theorem dX6_isQuiet_6 : decode cX6_isQuiet 6 = .ok (.getfield 16, 3) := by decide +kernel
theorem dX6_isQuiet_9 : decode cX6_isQuiet 9 = .ok (.invokevirtual 70, 3) := by decide +kernel
theorem dX6_isQuiet_12 : decode cX6_isQuiet 12 = .ok (.if_icmp .ge 106, 3) := by decide +kernel
theorem dX6_isQuiet_15 : decode cX6_isQuiet 15 = .ok (.aload_n 0, 1) := by decide +kernel
theorem dX6_isQuiet_16 : decode cX6_isQuiet 16 = .ok (.getfield 16, 3) := by decide +kernel
theorem dX6_isQuiet_19 : decode cX6_isQuiet 19 = .ok (.iload 4, 2) := by decide +kernel
theorem dX6_isQuiet_21 : decode cX6_isQuiet 21 = .ok (.invokevirtual 180, 3) := by decide +kernel
theorem dX6_isQuiet_24 : decode cX6_isQuiet 24 = .ok (.checkcast 120, 3) := by decide +kernel
theorem dX6_isQuiet_27 : decode cX6_isQuiet 27 = .ok (.astore 5, 2) := by decide +kernel
theorem dX6_isQuiet_29 : decode cX6_isQuiet 29 = .ok (.iconst 0, 1) := by decide +kernel
theorem dX6_isQuiet_30 : decode cX6_isQuiet 30 = .ok (.istore 6, 2) := by decide +kernel
theorem dX6_isQuiet_32 : decode cX6_isQuiet 32 = .ok (.iload 6, 2) := by decide +kernel
theorem dX6_isQuiet_34 : decode cX6_isQuiet 34 = .ok (.bipush 12, 2) := by decide +kernel
theorem dX6_isQuiet_36 : decode cX6_isQuiet 36 = .ok (.if_icmp .ge 76, 3) := by decide +kernel
theorem dX6_isQuiet_39 : decode cX6_isQuiet 39 = .ok (.aload 5, 2) := by decide +kernel
theorem dX6_isQuiet_41 : decode cX6_isQuiet 41 = .ok (.getfield 143, 3) := by decide +kernel
theorem dX6_isQuiet_44 : decode cX6_isQuiet 44 = .ok (.iload_n 1, 1) := by decide +kernel
theorem dX6_isQuiet_45 : decode cX6_isQuiet 45 = .ok (.if_icmp .le 67, 3) := by decide +kernel
theorem dX6_isQuiet_48 : decode cX6_isQuiet 48 = .ok (.aload_n 0, 1) := by decide +kernel
theorem dX6_isQuiet_49 : decode cX6_isQuiet 49 = .ok (.aload 5, 2) := by decide +kernel
theorem dX6_isQuiet_51 : decode cX6_isQuiet 51 = .ok (.iload 6, 2) := by decide +kernel
theorem dX6_isQuiet_53 : decode cX6_isQuiet 53 = .ok (.invokevirtual 256, 3) := by decide +kernel
theorem dX6_isQuiet_56 : decode cX6_isQuiet 56 = .ok (.istore 7, 2) := by decide +kernel
theorem dX6_isQuiet_58 : decode cX6_isQuiet 58 = .ok (.iload 7, 2) := by decide +kernel
theorem dX6_isQuiet_60 : decode cX6_isQuiet 60 = .ok (.iload_n 2, 1) := by decide +kernel
theorem dX6_isQuiet_61 : decode cX6_isQuiet 61 = .ok (.if_icmp .eq 9, 3) := by decide +kernel
theorem dX6_isQuiet_64 : decode cX6_isQuiet 64 = .ok (.iload 7, 2) := by decide +kernel
theorem dX6_isQuiet_66 : decode cX6_isQuiet 66 = .ok (.iconst (-1), 1) := by decide +kernel
theorem dX6_isQuiet_67 : decode cX6_isQuiet 67 = .ok (.if_icmp .ne 7, 3) := by decide +kernel
theorem dX6_isQuiet_70 : decode cX6_isQuiet 70 = .ok (.iconst 1, 1) := by decide +kernel
theorem dX6_isQuiet_71 : decode cX6_isQuiet 71 = .ok (.goto 4, 3) := by decide +kernel
theorem dX6_isQuiet_74 : decode cX6_isQuiet 74 = .ok (.iconst 0, 1) := by decide +kernel
theorem dX6_isQuiet_75 : decode cX6_isQuiet 75 = .ok (.istore 8, 2) := by decide +kernel
theorem dX6_isQuiet_77 : decode cX6_isQuiet 77 = .ok (.iload 8, 2) := by decide +kernel
theorem dX6_isQuiet_79 : decode cX6_isQuiet 79 = .ok (.ifCond .eq 27, 3) := by decide +kernel
theorem dX6_isQuiet_82 : decode cX6_isQuiet 82 = .ok (.aload 5, 2) := by decide +kernel
theorem dX6_isQuiet_84 : decode cX6_isQuiet 84 = .ok (.iload 6, 2) := by decide +kernel
theorem dX6_isQuiet_86 : decode cX6_isQuiet 86 = .ok (.invokevirtual 385, 3) := by decide +kernel
theorem dX6_isQuiet_89 : decode cX6_isQuiet 89 = .ok (.ifCond .eq 17, 3) := by decide +kernel
theorem dX6_isQuiet_92 : decode cX6_isQuiet 92 = .ok (.aload_n 0, 1) := by decide +kernel
theorem dX6_isQuiet_93 : decode cX6_isQuiet 93 = .ok (.iload 4, 2) := by decide +kernel
theorem dX6_isQuiet_95 : decode cX6_isQuiet 95 = .ok (.iload 7, 2) := by decide +kernel
theorem dX6_isQuiet_97 : decode cX6_isQuiet 97 = .ok (.iload_n 3, 1) := by decide +kernel
theorem dX6_isQuiet_98 : decode cX6_isQuiet 98 = .ok (.invokevirtual 389, 3) := by decide +kernel
theorem dX6_isQuiet_101 : decode cX6_isQuiet 101 = .ok (.ifCond .ne 5, 3) := by decide +kernel
theorem dX6_isQuiet_104 : decode cX6_isQuiet 104 = .ok (.iconst 1, 1) := by decide +kernel
theorem dX6_isQuiet_105 : decode cX6_isQuiet 105 = .ok (.ireturn, 1) := by decide +kernel
theorem dX6_isQuiet_106 : decode cX6_isQuiet 106 = .ok (.iinc 6 1, 3) := by decide +kernel
theorem dX6_isQuiet_109 : decode cX6_isQuiet 109 = .ok (.goto (-77), 3) := by decide +kernel
theorem dX6_isQuiet_112 : decode cX6_isQuiet 112 = .ok (.iinc 4 1, 3) := by decide +kernel
theorem dX6_isQuiet_115 : decode cX6_isQuiet 115 = .ok (.goto (-112), 3) := by decide +kernel
theorem dX6_isQuiet_118 : decode cX6_isQuiet 118 = .ok (.iconst 0, 1) := by decide +kernel
theorem dX6_isQuiet_119 : decode cX6_isQuiet 119 = .ok (.ireturn, 1) := by decide +kernel
