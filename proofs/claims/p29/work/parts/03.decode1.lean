theorem dX4_hasAlert_0 : decode cX4_hasAlert 0 = .ok (.aload_n 0, 1) := by decide +kernel
theorem dX4_hasAlert_1 : decode cX4_hasAlert 1 = .ok (.iload_n 1, 1) := by decide +kernel
theorem dX4_hasAlert_2 : decode cX4_hasAlert 2 = .ok (.invokevirtual 55, 3) := by decide +kernel
theorem dX4_hasAlert_5 : decode cX4_hasAlert 5 = .ok (.astore_n 2, 1) := by decide +kernel
theorem dX4_hasAlert_6 : decode cX4_hasAlert 6 = .ok (.aload_n 2, 1) := by decide +kernel
theorem dX4_hasAlert_7 : decode cX4_hasAlert 7 = .ok (.ifnull 14, 3) := by decide +kernel
theorem dX4_hasAlert_10 : decode cX4_hasAlert 10 = .ok (.aload_n 2, 1) := by decide +kernel
theorem dX4_hasAlert_11 : decode cX4_hasAlert 11 = .ok (.getfield 59, 3) := by decide +kernel
theorem dX4_hasAlert_14 : decode cX4_hasAlert 14 = .ok (.ifCond .eq 7, 3) := by decide +kernel
theorem dX4_hasAlert_17 : decode cX4_hasAlert 17 = .ok (.iconst 1, 1) := by decide +kernel
theorem dX4_hasAlert_18 : decode cX4_hasAlert 18 = .ok (.goto 4, 3) := by decide +kernel
theorem dX4_hasAlert_21 : decode cX4_hasAlert 21 = .ok (.iconst 0, 1) := by decide +kernel
theorem dX4_hasAlert_22 : decode cX4_hasAlert 22 = .ok (.ireturn, 1) := by decide +kernel
theorem dX4_burns_0 : decode cX4_burns 0 = .ok (.aload_n 0, 1) := by decide +kernel
theorem dX4_burns_1 : decode cX4_burns 1 = .ok (.iload_n 1, 1) := by decide +kernel
theorem dX4_burns_2 : decode cX4_burns 2 = .ok (.invokevirtual 55, 3) := by decide +kernel
theorem dX4_burns_5 : decode cX4_burns 5 = .ok (.astore_n 2, 1) := by decide +kernel
theorem dX4_burns_6 : decode cX4_burns 6 = .ok (.aload_n 2, 1) := by decide +kernel
theorem dX4_burns_7 : decode cX4_burns 7 = .ok (.ifnull 15, 3) := by decide +kernel
theorem dX4_burns_10 : decode cX4_burns 10 = .ok (.aload_n 2, 1) := by decide +kernel
theorem dX4_burns_11 : decode cX4_burns 11 = .ok (.getfield 59, 3) := by decide +kernel
theorem dX4_burns_14 : decode cX4_burns 14 = .ok (.iconst 2, 1) := by decide +kernel
theorem dX4_burns_15 : decode cX4_burns 15 = .ok (.if_icmp .ne 7, 3) := by decide +kernel
theorem dX4_burns_18 : decode cX4_burns 18 = .ok (.iconst 1, 1) := by decide +kernel
theorem dX4_burns_19 : decode cX4_burns 19 = .ok (.goto 4, 3) := by decide +kernel
theorem dX4_burns_22 : decode cX4_burns 22 = .ok (.iconst 0, 1) := by decide +kernel
theorem dX4_burns_23 : decode cX4_burns 23 = .ok (.ireturn, 1) := by decide +kernel
theorem dX4_countAlertsFrom_0 : decode cX4_countAlertsFrom 0 = .ok (.iconst 0, 1) := by decide +kernel
theorem dX4_countAlertsFrom_1 : decode cX4_countAlertsFrom 1 = .ok (.istore_n 2, 1) := by decide +kernel
theorem dX4_countAlertsFrom_2 : decode cX4_countAlertsFrom 2 = .ok (.iconst 0, 1) := by decide +kernel
theorem dX4_countAlertsFrom_3 : decode cX4_countAlertsFrom 3 = .ok (.istore_n 3, 1) := by decide +kernel
theorem dX4_countAlertsFrom_4 : decode cX4_countAlertsFrom 4 = .ok (.iload_n 3, 1) := by decide +kernel
theorem dX4_countAlertsFrom_5 : decode cX4_countAlertsFrom 5 = .ok (.bipush 12, 2) := by decide +kernel
theorem dX4_countAlertsFrom_7 : decode cX4_countAlertsFrom 7 = .ok (.if_icmp .ge 25, 3) := by decide +kernel
theorem dX4_countAlertsFrom_10 : decode cX4_countAlertsFrom 10 = .ok (.aload_n 0, 1) := by decide +kernel
theorem dX4_countAlertsFrom_11 : decode cX4_countAlertsFrom 11 = .ok (.getfield 20, 3) := by decide +kernel
theorem dX4_countAlertsFrom_14 : decode cX4_countAlertsFrom 14 = .ok (.iload_n 3, 1) := by decide +kernel
theorem dX4_countAlertsFrom_15 : decode cX4_countAlertsFrom 15 = .ok (.aaload, 1) := by decide +kernel
theorem dX4_countAlertsFrom_16 : decode cX4_countAlertsFrom 16 = .ok (.getfield 59, 3) := by decide +kernel
theorem dX4_countAlertsFrom_19 : decode cX4_countAlertsFrom 19 = .ok (.iload_n 1, 1) := by decide +kernel
theorem dX4_countAlertsFrom_20 : decode cX4_countAlertsFrom 20 = .ok (.if_icmp .lt 6, 3) := by decide +kernel
theorem dX4_countAlertsFrom_23 : decode cX4_countAlertsFrom 23 = .ok (.iinc 2 1, 3) := by decide +kernel
theorem dX4_countAlertsFrom_26 : decode cX4_countAlertsFrom 26 = .ok (.iinc 3 1, 3) := by decide +kernel
theorem dX4_countAlertsFrom_29 : decode cX4_countAlertsFrom 29 = .ok (.goto (-25), 3) := by decide +kernel
theorem dX4_countAlertsFrom_32 : decode cX4_countAlertsFrom 32 = .ok (.iload_n 2, 1) := by decide +kernel
theorem dX4_countAlertsFrom_33 : decode cX4_countAlertsFrom 33 = .ok (.ireturn, 1) := by decide +kernel
theorem dX4_keyOfAlert_0 : decode cX4_keyOfAlert 0 = .ok (.iconst 0, 1) := by decide +kernel
theorem dX4_keyOfAlert_1 : decode cX4_keyOfAlert 1 = .ok (.istore_n 2, 1) := by decide +kernel
theorem dX4_keyOfAlert_2 : decode cX4_keyOfAlert 2 = .ok (.iconst 0, 1) := by decide +kernel
theorem dX4_keyOfAlert_3 : decode cX4_keyOfAlert 3 = .ok (.istore_n 3, 1) := by decide +kernel
theorem dX4_keyOfAlert_4 : decode cX4_keyOfAlert 4 = .ok (.iload_n 3, 1) := by decide +kernel
theorem dX4_keyOfAlert_5 : decode cX4_keyOfAlert 5 = .ok (.bipush 12, 2) := by decide +kernel
theorem dX4_keyOfAlert_7 : decode cX4_keyOfAlert 7 = .ok (.if_icmp .ge 31, 3) := by decide +kernel
theorem dX4_keyOfAlert_10 : decode cX4_keyOfAlert 10 = .ok (.aload_n 0, 1) := by decide +kernel
theorem dX4_keyOfAlert_11 : decode cX4_keyOfAlert 11 = .ok (.getfield 20, 3) := by decide +kernel
theorem dX4_keyOfAlert_14 : decode cX4_keyOfAlert 14 = .ok (.iload_n 3, 1) := by decide +kernel
theorem dX4_keyOfAlert_15 : decode cX4_keyOfAlert 15 = .ok (.aaload, 1) := by decide +kernel
theorem dX4_keyOfAlert_16 : decode cX4_keyOfAlert 16 = .ok (.getfield 59, 3) := by decide +kernel
theorem dX4_keyOfAlert_19 : decode cX4_keyOfAlert 19 = .ok (.ifCond .eq 13, 3) := by decide +kernel
theorem dX4_keyOfAlert_22 : decode cX4_keyOfAlert 22 = .ok (.iload_n 2, 1) := by decide +kernel
theorem dX4_keyOfAlert_23 : decode cX4_keyOfAlert 23 = .ok (.iload_n 1, 1) := by decide +kernel
theorem dX4_keyOfAlert_24 : decode cX4_keyOfAlert 24 = .ok (.if_icmp .ne 5, 3) := by decide +kernel
theorem dX4_keyOfAlert_27 : decode cX4_keyOfAlert 27 = .ok (.iload_n 3, 1) := by decide +kernel
theorem dX4_keyOfAlert_28 : decode cX4_keyOfAlert 28 = .ok (.ireturn, 1) := by decide +kernel
theorem dX4_keyOfAlert_29 : decode cX4_keyOfAlert 29 = .ok (.iinc 2 1, 3) := by decide +kernel
theorem dX4_keyOfAlert_32 : decode cX4_keyOfAlert 32 = .ok (.iinc 3 1, 3) := by decide +kernel
theorem dX4_keyOfAlert_35 : decode cX4_keyOfAlert 35 = .ok (.goto (-31), 3) := by decide +kernel
theorem dX4_keyOfAlert_38 : decode cX4_keyOfAlert 38 = .ok (.iconst (-1), 1) := by decide +kernel
theorem dX4_keyOfAlert_39 : decode cX4_keyOfAlert 39 = .ok (.ireturn, 1) := by decide +kernel
theorem dX5_init_0 : decode cX5_init 0 = .ok (.aload_n 0, 1) := by decide +kernel
theorem dX5_init_1 : decode cX5_init 1 = .ok (.invokespecial 3, 3) := by decide +kernel
theorem dX5_init_4 : decode cX5_init 4 = .ok (.aload_n 0, 1) := by decide +kernel
theorem dX5_init_5 : decode cX5_init 5 = .ok (.bipush 6, 2) := by decide +kernel
theorem dX5_init_7 : decode cX5_init 7 = .ok (.newarray .int, 2) := by decide +kernel
theorem dX5_init_9 : decode cX5_init 9 = .ok (.putfield 9, 3) := by decide +kernel
theorem dX5_init_12 : decode cX5_init 12 = .ok (.aload_n 0, 1) := by decide +kernel
theorem dX5_init_13 : decode cX5_init 13 = .ok (.bipush 13, 2) := by decide +kernel
theorem dX5_init_15 : decode cX5_init 15 = .ok (.bipush 6, 2) := by decide +kernel
theorem dX5_init_17 : decode cX5_init 17 = .ok (.multianewarray 15 2, 4) := by decide +kernel
theorem dX5_init_21 : decode cX5_init 21 = .ok (.putfield 17, 3) := by decide +kernel
theorem dX5_init_24 : decode cX5_init 24 = .ok (.aload_n 0, 1) := by decide +kernel
theorem dX5_init_25 : decode cX5_init 25 = .ok (.iconst 0, 1) := by decide +kernel
theorem dX5_init_26 : decode cX5_init 26 = .ok (.putfield 20, 3) := by decide +kernel
theorem dX5_init_29 : decode cX5_init 29 = .ok (.aload_n 0, 1) := by decide +kernel
theorem dX5_init_30 : decode cX5_init 30 = .ok (.iconst 0, 1) := by decide +kernel
theorem dX5_init_31 : decode cX5_init 31 = .ok (.putfield 24, 3) := by decide +kernel
theorem dX5_init_34 : decode cX5_init 34 = .ok (.aload_n 0, 1) := by decide +kernel
theorem dX5_init_35 : decode cX5_init 35 = .ok (.iload_n 1, 1) := by decide +kernel
theorem dX5_init_36 : decode cX5_init 36 = .ok (.putfield 27, 3) := by decide +kernel
theorem dX5_init_39 : decode cX5_init 39 = .ok (.aload_n 0, 1) := by decide +kernel
theorem dX5_init_40 : decode cX5_init 40 = .ok (.iload_n 2, 1) := by decide +kernel
theorem dX5_init_41 : decode cX5_init 41 = .ok (.putfield 30, 3) := by decide +kernel
theorem dX5_init_44 : decode cX5_init 44 = .ok (.aload_n 0, 1) := by decide +kernel
theorem dX5_init_45 : decode cX5_init 45 = .ok (.iload_n 3, 1) := by decide +kernel
theorem dX5_init_46 : decode cX5_init 46 = .ok (.putfield 33, 3) := by decide +kernel
theorem dX5_init_49 : decode cX5_init 49 = .ok (.aload_n 0, 1) := by decide +kernel
theorem dX5_init_50 : decode cX5_init 50 = .ok (.iload 4, 2) := by decide +kernel
theorem dX5_init_52 : decode cX5_init 52 = .ok (.putfield 36, 3) := by decide +kernel
theorem dX5_init_55 : decode cX5_init 55 = .ok (.return_, 1) := by decide +kernel
theorem dX5_take_0 : decode cX5_take 0 = .ok (.aload_n 0, 1) := by decide +kernel
theorem dX5_take_1 : decode cX5_take 1 = .ok (.getfield 30, 3) := by decide +kernel
theorem dX5_take_4 : decode cX5_take 4 = .ok (.iconst 1, 1) := by decide +kernel
theorem dX5_take_5 : decode cX5_take 5 = .ok (.if_icmp .ne 13, 3) := by decide +kernel
theorem dX5_take_8 : decode cX5_take 8 = .ok (.aload_n 0, 1) := by decide +kernel
theorem dX5_take_9 : decode cX5_take 9 = .ok (.getfield 9, 3) := by decide +kernel
theorem dX5_take_12 : decode cX5_take 12 = .ok (.iconst 0, 1) := by decide +kernel
theorem dX5_take_13 : decode cX5_take 13 = .ok (.iload_n 1, 1) := by decide +kernel
theorem dX5_take_14 : decode cX5_take 14 = .ok (.iastore, 1) := by decide +kernel
theorem dX5_take_15 : decode cX5_take 15 = .ok (.goto 46, 3) := by decide +kernel
theorem dX5_take_18 : decode cX5_take 18 = .ok (.aload_n 0, 1) := by decide +kernel
theorem dX5_take_19 : decode cX5_take 19 = .ok (.getfield 30, 3) := by decide +kernel
theorem dX5_take_22 : decode cX5_take 22 = .ok (.ifCond .ne 16, 3) := by decide +kernel
theorem dX5_take_25 : decode cX5_take 25 = .ok (.aload_n 0, 1) := by decide +kernel
theorem dX5_take_26 : decode cX5_take 26 = .ok (.getfield 9, 3) := by decide +kernel
theorem dX5_take_29 : decode cX5_take 29 = .ok (.iconst 0, 1) := by decide +kernel
theorem dX5_take_30 : decode cX5_take 30 = .ok (.dup2, 1) := by decide +kernel
theorem dX5_take_31 : decode cX5_take 31 = .ok (.iaload, 1) := by decide +kernel
theorem dX5_take_32 : decode cX5_take 32 = .ok (.iload_n 1, 1) := by decide +kernel
theorem dX5_take_33 : decode cX5_take 33 = .ok (.iadd, 1) := by decide +kernel
theorem dX5_take_34 : decode cX5_take 34 = .ok (.iastore, 1) := by decide +kernel
theorem dX5_take_35 : decode cX5_take 35 = .ok (.goto 26, 3) := by decide +kernel
theorem dX5_take_38 : decode cX5_take 38 = .ok (.aload_n 0, 1) := by decide +kernel
theorem dX5_take_39 : decode cX5_take 39 = .ok (.getfield 9, 3) := by decide +kernel
theorem dX5_take_42 : decode cX5_take 42 = .ok (.iload_n 1, 1) := by decide +kernel
theorem dX5_take_43 : decode cX5_take 43 = .ok (.invokestatic 39, 3) := by decide +kernel
theorem dX5_take_46 : decode cX5_take 46 = .ok (.dup2, 1) := by decide +kernel
theorem dX5_take_47 : decode cX5_take 47 = .ok (.iaload, 1) := by decide +kernel
theorem dX5_take_48 : decode cX5_take 48 = .ok (.iconst 1, 1) := by decide +kernel
theorem dX5_take_49 : decode cX5_take 49 = .ok (.iadd, 1) := by decide +kernel
theorem dX5_take_50 : decode cX5_take 50 = .ok (.iastore, 1) := by decide +kernel
theorem dX5_take_51 : decode cX5_take 51 = .ok (.aload_n 0, 1) := by decide +kernel
theorem dX5_take_52 : decode cX5_take 52 = .ok (.getfield 9, 3) := by decide +kernel
theorem dX5_take_55 : decode cX5_take 55 = .ok (.iconst 0, 1) := by decide +kernel
theorem dX5_take_56 : decode cX5_take 56 = .ok (.dup2, 1) := by decide +kernel
theorem dX5_take_57 : decode cX5_take 57 = .ok (.iaload, 1) := by decide +kernel
theorem dX5_take_58 : decode cX5_take 58 = .ok (.iconst 1, 1) := by decide +kernel
theorem dX5_take_59 : decode cX5_take 59 = .ok (.iadd, 1) := by decide +kernel
theorem dX5_take_60 : decode cX5_take 60 = .ok (.iastore, 1) := by decide +kernel
theorem dX5_take_61 : decode cX5_take 61 = .ok (.return_, 1) := by decide +kernel
theorem dX5_columnFor_0 : decode cX5_columnFor 0 = .ok (.iconst 1, 1) := by decide +kernel
theorem dX5_columnFor_1 : decode cX5_columnFor 1 = .ok (.istore_n 1, 1) := by decide +kernel
theorem dX5_columnFor_2 : decode cX5_columnFor 2 = .ok (.iload_n 1, 1) := by decide +kernel
theorem dX5_columnFor_3 : decode cX5_columnFor 3 = .ok (.iconst 5, 1) := by decide +kernel
theorem dX5_columnFor_4 : decode cX5_columnFor 4 = .ok (.if_icmp .ge 18, 3) := by decide +kernel
theorem dX5_columnFor_7 : decode cX5_columnFor 7 = .ok (.iload_n 0, 1) := by decide +kernel
theorem dX5_columnFor_8 : decode cX5_columnFor 8 = .ok (.getstatic 43, 3) := by decide +kernel
theorem dX5_columnFor_11 : decode cX5_columnFor 11 = .ok (.iload_n 1, 1) := by decide +kernel
theorem dX5_columnFor_12 : decode cX5_columnFor 12 = .ok (.iaload, 1) := by decide +kernel
theorem dX5_columnFor_13 : decode cX5_columnFor 13 = .ok (.if_icmp .le 9, 3) := by decide +kernel
theorem dX5_columnFor_16 : decode cX5_columnFor 16 = .ok (.iinc 1 1, 3) := by decide +kernel
theorem dX5_columnFor_19 : decode cX5_columnFor 19 = .ok (.goto (-17), 3) := by decide +kernel
theorem dX5_columnFor_22 : decode cX5_columnFor 22 = .ok (.iload_n 1, 1) := by decide +kernel
theorem dX5_columnFor_23 : decode cX5_columnFor 23 = .ok (.ireturn, 1) := by decide +kernel
theorem dX5_beginAnew_0 : decode cX5_beginAnew 0 = .ok (.iconst 0, 1) := by decide +kernel
theorem dX5_beginAnew_1 : decode cX5_beginAnew 1 = .ok (.istore_n 1, 1) := by decide +kernel
theorem dX5_beginAnew_2 : decode cX5_beginAnew 2 = .ok (.iload_n 1, 1) := by decide +kernel
theorem dX5_beginAnew_3 : decode cX5_beginAnew 3 = .ok (.bipush 6, 2) := by decide +kernel
theorem dX5_beginAnew_5 : decode cX5_beginAnew 5 = .ok (.if_icmp .ge 16, 3) := by decide +kernel
theorem dX5_beginAnew_8 : decode cX5_beginAnew 8 = .ok (.aload_n 0, 1) := by decide +kernel
theorem dX5_beginAnew_9 : decode cX5_beginAnew 9 = .ok (.getfield 9, 3) := by decide +kernel
theorem dX5_beginAnew_12 : decode cX5_beginAnew 12 = .ok (.iload_n 1, 1) := by decide +kernel
theorem dX5_beginAnew_13 : decode cX5_beginAnew 13 = .ok (.iconst 0, 1) := by decide +kernel
theorem dX5_beginAnew_14 : decode cX5_beginAnew 14 = .ok (.iastore, 1) := by decide +kernel
theorem dX5_beginAnew_15 : decode cX5_beginAnew 15 = .ok (.iinc 1 1, 3) := by decide +kernel
theorem dX5_beginAnew_18 : decode cX5_beginAnew 18 = .ok (.goto (-16), 3) := by decide +kernel
theorem dX5_beginAnew_21 : decode cX5_beginAnew 21 = .ok (.return_, 1) := by decide +kernel
theorem dX5_keepSample_0 : decode cX5_keepSample 0 = .ok (.aload_n 0, 1) := by decide +kernel
theorem dX5_keepSample_1 : decode cX5_keepSample 1 = .ok (.aload_n 0, 1) := by decide +kernel
theorem dX5_keepSample_2 : decode cX5_keepSample 2 = .ok (.getfield 20, 3) := by decide +kernel
theorem dX5_keepSample_5 : decode cX5_keepSample 5 = .ok (.iconst 1, 1) := by decide +kernel
theorem dX5_keepSample_6 : decode cX5_keepSample 6 = .ok (.iadd, 1) := by decide +kernel
theorem dX5_keepSample_7 : decode cX5_keepSample 7 = .ok (.bipush 13, 2) := by decide +kernel
theorem dX5_keepSample_9 : decode cX5_keepSample 9 = .ok (.irem, 1) := by decide +kernel
theorem dX5_keepSample_10 : decode cX5_keepSample 10 = .ok (.putfield 20, 3) := by decide +kernel
theorem dX5_keepSample_13 : decode cX5_keepSample 13 = .ok (.aload_n 0, 1) := by decide +kernel
theorem dX5_keepSample_14 : decode cX5_keepSample 14 = .ok (.aload_n 0, 1) := by decide +kernel
theorem dX5_keepSample_15 : decode cX5_keepSample 15 = .ok (.getfield 24, 3) := by decide +kernel
theorem dX5_keepSample_18 : decode cX5_keepSample 18 = .ok (.iconst 1, 1) := by decide +kernel
theorem dX5_keepSample_19 : decode cX5_keepSample 19 = .ok (.iadd, 1) := by decide +kernel
theorem dX5_keepSample_20 : decode cX5_keepSample 20 = .ok (.bipush 13, 2) := by decide +kernel
theorem dX5_keepSample_22 : decode cX5_keepSample 22 = .ok (.invokestatic 46, 3) := by decide +kernel
theorem dX5_keepSample_25 : decode cX5_keepSample 25 = .ok (.putfield 24, 3) := by decide +kernel
theorem dX5_keepSample_28 : decode cX5_keepSample 28 = .ok (.aload_n 0, 1) := by decide +kernel
theorem dX5_keepSample_29 : decode cX5_keepSample 29 = .ok (.getfield 9, 3) := by decide +kernel
theorem dX5_keepSample_32 : decode cX5_keepSample 32 = .ok (.iconst 0, 1) := by decide +kernel
theorem dX5_keepSample_33 : decode cX5_keepSample 33 = .ok (.aload_n 0, 1) := by decide +kernel
theorem dX5_keepSample_34 : decode cX5_keepSample 34 = .ok (.getfield 17, 3) := by decide +kernel
theorem dX5_keepSample_37 : decode cX5_keepSample 37 = .ok (.aload_n 0, 1) := by decide +kernel
theorem dX5_keepSample_38 : decode cX5_keepSample 38 = .ok (.getfield 20, 3) := by decide +kernel
theorem dX5_keepSample_41 : decode cX5_keepSample 41 = .ok (.aaload, 1) := by decide +kernel
theorem dX5_keepSample_42 : decode cX5_keepSample 42 = .ok (.iconst 0, 1) := by decide +kernel
theorem dX5_keepSample_43 : decode cX5_keepSample 43 = .ok (.bipush 6, 2) := by decide +kernel
theorem dX5_keepSample_45 : decode cX5_keepSample 45 = .ok (.invokestatic 52, 3) := by decide +kernel
theorem dX5_keepSample_48 : decode cX5_keepSample 48 = .ok (.return_, 1) := by decide +kernel
theorem dX5_past_0 : decode cX5_past 0 = .ok (.iload_n 2, 1) := by decide +kernel
theorem dX5_past_1 : decode cX5_past 1 = .ok (.iload_n 3, 1) := by decide +kernel
theorem dX5_past_2 : decode cX5_past 2 = .ok (.if_icmp .ge 10, 3) := by decide +kernel
theorem dX5_past_5 : decode cX5_past 5 = .ok (.aload_n 0, 1) := by decide +kernel
theorem dX5_past_6 : decode cX5_past 6 = .ok (.getfield 9, 3) := by decide +kernel
theorem dX5_past_9 : decode cX5_past 9 = .ok (.iload_n 1, 1) := by decide +kernel
theorem dX5_past_10 : decode cX5_past 10 = .ok (.iaload, 1) := by decide +kernel
theorem dX5_past_11 : decode cX5_past 11 = .ok (.ireturn, 1) := by decide +kernel
theorem dX5_past_12 : decode cX5_past 12 = .ok (.iload_n 2, 1) := by decide +kernel
theorem dX5_past_13 : decode cX5_past 13 = .ok (.iload_n 3, 1) := by decide +kernel
theorem dX5_past_14 : decode cX5_past 14 = .ok (.isub, 1) := by decide +kernel
theorem dX5_past_15 : decode cX5_past 15 = .ok (.istore 4, 2) := by decide +kernel
theorem dX5_past_17 : decode cX5_past 17 = .ok (.iload 4, 2) := by decide +kernel
theorem dX5_past_19 : decode cX5_past 19 = .ok (.aload_n 0, 1) := by decide +kernel
theorem dX5_past_20 : decode cX5_past 20 = .ok (.getfield 24, 3) := by decide +kernel
theorem dX5_past_23 : decode cX5_past 23 = .ok (.if_icmp .lt 5, 3) := by decide +kernel
theorem dX5_past_26 : decode cX5_past 26 = .ok (.iconst 0, 1) := by decide +kernel
theorem dX5_past_27 : decode cX5_past 27 = .ok (.ireturn, 1) := by decide +kernel
theorem dX5_past_28 : decode cX5_past 28 = .ok (.aload_n 0, 1) := by decide +kernel
theorem dX5_past_29 : decode cX5_past 29 = .ok (.getfield 17, 3) := by decide +kernel
theorem dX5_past_32 : decode cX5_past 32 = .ok (.aload_n 0, 1) := by decide +kernel
theorem dX5_past_33 : decode cX5_past 33 = .ok (.getfield 20, 3) := by decide +kernel
theorem dX5_past_36 : decode cX5_past 36 = .ok (.iload 4, 2) := by decide +kernel
theorem dX5_past_38 : decode cX5_past 38 = .ok (.isub, 1) := by decide +kernel
theorem dX5_past_39 : decode cX5_past 39 = .ok (.bipush 13, 2) := by decide +kernel
theorem dX5_past_41 : decode cX5_past 41 = .ok (.iadd, 1) := by decide +kernel
theorem dX5_past_42 : decode cX5_past 42 = .ok (.bipush 13, 2) := by decide +kernel
theorem dX5_past_44 : decode cX5_past 44 = .ok (.irem, 1) := by decide +kernel
theorem dX5_past_45 : decode cX5_past 45 = .ok (.aaload, 1) := by decide +kernel
theorem dX5_past_46 : decode cX5_past 46 = .ok (.iload_n 1, 1) := by decide +kernel
theorem dX5_past_47 : decode cX5_past 47 = .ok (.iaload, 1) := by decide +kernel
theorem dX5_past_48 : decode cX5_past 48 = .ok (.ireturn, 1) := by decide +kernel
theorem dX5_lookOver_0 : decode cX5_lookOver 0 = .ok (.iload_n 1, 1) := by decide +kernel
theorem dX5_lookOver_1 : decode cX5_lookOver 1 = .ok (.tableswitch 74 0 4 #[35, 43, 51, 58, 66], 35) := by decide +kernel
theorem dX5_lookOver_36 : decode cX5_lookOver 36 = .ok (.aload_n 0, 1) := by decide +kernel
theorem dX5_lookOver_37 : decode cX5_lookOver 37 = .ok (.iconst 0, 1) := by decide +kernel
theorem dX5_lookOver_38 : decode cX5_lookOver 38 = .ok (.iconst 0, 1) := by decide +kernel
theorem dX5_lookOver_39 : decode cX5_lookOver 39 = .ok (.iload_n 3, 1) := by decide +kernel
theorem dX5_lookOver_40 : decode cX5_lookOver 40 = .ok (.invokevirtual 58, 3) := by decide +kernel
theorem dX5_lookOver_43 : decode cX5_lookOver 43 = .ok (.ireturn, 1) := by decide +kernel
theorem dX5_lookOver_44 : decode cX5_lookOver 44 = .ok (.aload_n 0, 1) := by decide +kernel
theorem dX5_lookOver_45 : decode cX5_lookOver 45 = .ok (.iconst 0, 1) := by decide +kernel
theorem dX5_lookOver_46 : decode cX5_lookOver 46 = .ok (.iload_n 2, 1) := by decide +kernel
theorem dX5_lookOver_47 : decode cX5_lookOver 47 = .ok (.iload_n 3, 1) := by decide +kernel
theorem dX5_lookOver_48 : decode cX5_lookOver 48 = .ok (.invokevirtual 62, 3) := by decide +kernel
theorem dX5_lookOver_51 : decode cX5_lookOver 51 = .ok (.ireturn, 1) := by decide +kernel
theorem dX5_lookOver_52 : decode cX5_lookOver 52 = .ok (.aload_n 0, 1) := by decide +kernel
theorem dX5_lookOver_53 : decode cX5_lookOver 53 = .ok (.iload_n 2, 1) := by decide +kernel
theorem dX5_lookOver_54 : decode cX5_lookOver 54 = .ok (.iload_n 3, 1) := by decide +kernel
theorem dX5_lookOver_55 : decode cX5_lookOver 55 = .ok (.invokevirtual 65, 3) := by decide +kernel
theorem dX5_lookOver_58 : decode cX5_lookOver 58 = .ok (.ireturn, 1) := by decide +kernel
theorem dX5_lookOver_59 : decode cX5_lookOver 59 = .ok (.aload_n 0, 1) := by decide +kernel
theorem dX5_lookOver_60 : decode cX5_lookOver 60 = .ok (.iload_n 2, 1) := by decide +kernel
theorem dX5_lookOver_61 : decode cX5_lookOver 61 = .ok (.iload_n 3, 1) := by decide +kernel
theorem dX5_lookOver_62 : decode cX5_lookOver 62 = .ok (.iconst 1, 1) := by decide +kernel
theorem dX5_lookOver_63 : decode cX5_lookOver 63 = .ok (.invokevirtual 68, 3) := by decide +kernel
theorem dX5_lookOver_66 : decode cX5_lookOver 66 = .ok (.ireturn, 1) := by decide +kernel
theorem dX5_lookOver_67 : decode cX5_lookOver 67 = .ok (.aload_n 0, 1) := by decide +kernel
theorem dX5_lookOver_68 : decode cX5_lookOver 68 = .ok (.iload_n 2, 1) := by decide +kernel
theorem dX5_lookOver_69 : decode cX5_lookOver 69 = .ok (.iload_n 3, 1) := by decide +kernel
theorem dX5_lookOver_70 : decode cX5_lookOver 70 = .ok (.iconst 0, 1) := by decide +kernel
theorem dX5_lookOver_71 : decode cX5_lookOver 71 = .ok (.invokevirtual 68, 3) := by decide +kernel
theorem dX5_lookOver_74 : decode cX5_lookOver 74 = .ok (.ireturn, 1) := by decide +kernel
theorem dX5_lookOver_75 : decode cX5_lookOver 75 = .ok (.aload_n 0, 1) := by decide +kernel
theorem dX5_lookOver_76 : decode cX5_lookOver 76 = .ok (.getfield 30, 3) := by decide +kernel
theorem dX5_lookOver_79 : decode cX5_lookOver 79 = .ok (.iconst 2, 1) := by decide +kernel
theorem dX5_lookOver_80 : decode cX5_lookOver 80 = .ok (.if_icmp .ne 19, 3) := by decide +kernel
theorem dX5_lookOver_83 : decode cX5_lookOver 83 = .ok (.aload_n 0, 1) := by decide +kernel
theorem dX5_lookOver_84 : decode cX5_lookOver 84 = .ok (.getstatic 72, 3) := by decide +kernel
theorem dX5_lookOver_87 : decode cX5_lookOver 87 = .ok (.iload_n 1, 1) := by decide +kernel
theorem dX5_lookOver_88 : decode cX5_lookOver 88 = .ok (.iconst 5, 1) := by decide +kernel
theorem dX5_lookOver_89 : decode cX5_lookOver 89 = .ok (.isub, 1) := by decide +kernel
theorem dX5_lookOver_90 : decode cX5_lookOver 90 = .ok (.iaload, 1) := by decide +kernel
theorem dX5_lookOver_91 : decode cX5_lookOver 91 = .ok (.iload_n 2, 1) := by decide +kernel
theorem dX5_lookOver_92 : decode cX5_lookOver 92 = .ok (.iload_n 3, 1) := by decide +kernel
theorem dX5_lookOver_93 : decode cX5_lookOver 93 = .ok (.invokevirtual 75, 3) := by decide +kernel
theorem dX5_lookOver_96 : decode cX5_lookOver 96 = .ok (.goto 4, 3) := by decide +kernel
theorem dX5_lookOver_99 : decode cX5_lookOver 99 = .ok (.iconst 0, 1) := by decide +kernel
theorem dX5_lookOver_100 : decode cX5_lookOver 100 = .ok (.ireturn, 1) := by decide +kernel
theorem dX5_growthOf_0 : decode cX5_growthOf 0 = .ok (.iconst 0, 1) := by decide +kernel
theorem dX5_growthOf_1 : decode cX5_growthOf 1 = .ok (.istore 4, 2) := by decide +kernel
theorem dX5_growthOf_3 : decode cX5_growthOf 3 = .ok (.iload_n 2, 1) := by decide +kernel
theorem dX5_growthOf_4 : decode cX5_growthOf 4 = .ok (.iconst 1, 1) := by decide +kernel
theorem dX5_growthOf_5 : decode cX5_growthOf 5 = .ok (.iadd, 1) := by decide +kernel
theorem dX5_growthOf_6 : decode cX5_growthOf 6 = .ok (.aload_n 0, 1) := by decide +kernel
theorem dX5_growthOf_7 : decode cX5_growthOf 7 = .ok (.getfield 24, 3) := by decide +kernel
theorem dX5_growthOf_10 : decode cX5_growthOf 10 = .ok (.iload_n 3, 1) := by decide +kernel
theorem dX5_growthOf_11 : decode cX5_growthOf 11 = .ok (.iadd, 1) := by decide +kernel
theorem dX5_growthOf_12 : decode cX5_growthOf 12 = .ok (.invokestatic 46, 3) := by decide +kernel
theorem dX5_growthOf_15 : decode cX5_growthOf 15 = .ok (.iconst 1, 1) := by decide +kernel
theorem dX5_growthOf_16 : decode cX5_growthOf 16 = .ok (.isub, 1) := by decide +kernel
theorem dX5_growthOf_17 : decode cX5_growthOf 17 = .ok (.istore 5, 2) := by decide +kernel
theorem dX5_growthOf_19 : decode cX5_growthOf 19 = .ok (.iload 5, 2) := by decide +kernel
theorem dX5_growthOf_21 : decode cX5_growthOf 21 = .ok (.ifCond .le 51, 3) := by decide +kernel
theorem dX5_growthOf_24 : decode cX5_growthOf 24 = .ok (.aload_n 0, 1) := by decide +kernel
theorem dX5_growthOf_25 : decode cX5_growthOf 25 = .ok (.iload_n 1, 1) := by decide +kernel
theorem dX5_growthOf_26 : decode cX5_growthOf 26 = .ok (.iload 5, 2) := by decide +kernel
theorem dX5_growthOf_28 : decode cX5_growthOf 28 = .ok (.iconst 1, 1) := by decide +kernel
theorem dX5_growthOf_29 : decode cX5_growthOf 29 = .ok (.isub, 1) := by decide +kernel
theorem dX5_growthOf_30 : decode cX5_growthOf 30 = .ok (.iload_n 3, 1) := by decide +kernel
theorem dX5_growthOf_31 : decode cX5_growthOf 31 = .ok (.invokevirtual 58, 3) := by decide +kernel
theorem dX5_growthOf_34 : decode cX5_growthOf 34 = .ok (.istore 6, 2) := by decide +kernel
theorem dX5_growthOf_36 : decode cX5_growthOf 36 = .ok (.iload 6, 2) := by decide +kernel
theorem dX5_growthOf_38 : decode cX5_growthOf 38 = .ok (.aload_n 0, 1) := by decide +kernel
theorem dX5_growthOf_39 : decode cX5_growthOf 39 = .ok (.iload_n 1, 1) := by decide +kernel
theorem dX5_growthOf_40 : decode cX5_growthOf 40 = .ok (.iload 5, 2) := by decide +kernel
theorem dX5_growthOf_42 : decode cX5_growthOf 42 = .ok (.iload_n 3, 1) := by decide +kernel
theorem dX5_growthOf_43 : decode cX5_growthOf 43 = .ok (.invokevirtual 58, 3) := by decide +kernel
theorem dX5_growthOf_46 : decode cX5_growthOf 46 = .ok (.isub, 1) := by decide +kernel
theorem dX5_growthOf_47 : decode cX5_growthOf 47 = .ok (.istore 7, 2) := by decide +kernel
theorem dX5_growthOf_49 : decode cX5_growthOf 49 = .ok (.iload 4, 2) := by decide +kernel
theorem dX5_growthOf_51 : decode cX5_growthOf 51 = .ok (.iload 7, 2) := by decide +kernel
theorem dX5_growthOf_53 : decode cX5_growthOf 53 = .ok (.ifCond .ge 8, 3) := by decide +kernel
theorem dX5_growthOf_56 : decode cX5_growthOf 56 = .ok (.iload 6, 2) := by decide +kernel
theorem dX5_growthOf_58 : decode cX5_growthOf 58 = .ok (.goto 5, 3) := by decide +kernel
theorem dX5_growthOf_61 : decode cX5_growthOf 61 = .ok (.iload 7, 2) := by decide +kernel
theorem dX5_growthOf_63 : decode cX5_growthOf 63 = .ok (.iadd, 1) := by decide +kernel
theorem dX5_growthOf_64 : decode cX5_growthOf 64 = .ok (.istore 4, 2) := by decide +kernel
theorem dX5_growthOf_66 : decode cX5_growthOf 66 = .ok (.iinc 5 (-1), 3) := by decide +kernel
theorem dX5_growthOf_69 : decode cX5_growthOf 69 = .ok (.goto (-50), 3) := by decide +kernel
theorem dX5_growthOf_72 : decode cX5_growthOf 72 = .ok (.iload 4, 2) := by decide +kernel
theorem dX5_growthOf_74 : decode cX5_growthOf 74 = .ok (.ireturn, 1) := by decide +kernel
theorem dX5_meanOver_0 : decode cX5_meanOver 0 = .ok (.iload_n 1, 1) := by decide +kernel
theorem dX5_meanOver_1 : decode cX5_meanOver 1 = .ok (.aload_n 0, 1) := by decide +kernel
theorem dX5_meanOver_2 : decode cX5_meanOver 2 = .ok (.getfield 24, 3) := by decide +kernel
theorem dX5_meanOver_5 : decode cX5_meanOver 5 = .ok (.iload_n 2, 1) := by decide +kernel
theorem dX5_meanOver_6 : decode cX5_meanOver 6 = .ok (.iadd, 1) := by decide +kernel
theorem dX5_meanOver_7 : decode cX5_meanOver 7 = .ok (.invokestatic 46, 3) := by decide +kernel
theorem dX5_meanOver_10 : decode cX5_meanOver 10 = .ok (.istore_n 3, 1) := by decide +kernel
theorem dX5_meanOver_11 : decode cX5_meanOver 11 = .ok (.iconst 0, 1) := by decide +kernel
theorem dX5_meanOver_12 : decode cX5_meanOver 12 = .ok (.istore 4, 2) := by decide +kernel
theorem dX5_meanOver_14 : decode cX5_meanOver 14 = .ok (.iconst 0, 1) := by decide +kernel
theorem dX5_meanOver_15 : decode cX5_meanOver 15 = .ok (.istore 5, 2) := by decide +kernel
theorem dX5_meanOver_17 : decode cX5_meanOver 17 = .ok (.iload 5, 2) := by decide +kernel
theorem dX5_meanOver_19 : decode cX5_meanOver 19 = .ok (.iload_n 3, 1) := by decide +kernel
theorem dX5_meanOver_20 : decode cX5_meanOver 20 = .ok (.if_icmp .ge 22, 3) := by decide +kernel
theorem dX5_meanOver_23 : decode cX5_meanOver 23 = .ok (.iload 4, 2) := by decide +kernel
theorem dX5_meanOver_25 : decode cX5_meanOver 25 = .ok (.aload_n 0, 1) := by decide +kernel
theorem dX5_meanOver_26 : decode cX5_meanOver 26 = .ok (.iconst 0, 1) := by decide +kernel
theorem dX5_meanOver_27 : decode cX5_meanOver 27 = .ok (.iload 5, 2) := by decide +kernel
theorem dX5_meanOver_29 : decode cX5_meanOver 29 = .ok (.iload_n 2, 1) := by decide +kernel
theorem dX5_meanOver_30 : decode cX5_meanOver 30 = .ok (.invokevirtual 58, 3) := by decide +kernel
theorem dX5_meanOver_33 : decode cX5_meanOver 33 = .ok (.iadd, 1) := by decide +kernel
theorem dX5_meanOver_34 : decode cX5_meanOver 34 = .ok (.istore 4, 2) := by decide +kernel
theorem dX5_meanOver_36 : decode cX5_meanOver 36 = .ok (.iinc 5 1, 3) := by decide +kernel
theorem dX5_meanOver_39 : decode cX5_meanOver 39 = .ok (.goto (-22), 3) := by decide +kernel
theorem dX5_meanOver_42 : decode cX5_meanOver 42 = .ok (.iload_n 3, 1) := by decide +kernel
theorem dX5_meanOver_43 : decode cX5_meanOver 43 = .ok (.ifCond .le 10, 3) := by decide +kernel
theorem dX5_meanOver_46 : decode cX5_meanOver 46 = .ok (.iload 4, 2) := by decide +kernel
theorem dX5_meanOver_48 : decode cX5_meanOver 48 = .ok (.iload_n 3, 1) := by decide +kernel
theorem dX5_meanOver_49 : decode cX5_meanOver 49 = .ok (.idiv, 1) := by decide +kernel
theorem dX5_meanOver_50 : decode cX5_meanOver 50 = .ok (.goto 4, 3) := by decide +kernel
theorem dX5_meanOver_53 : decode cX5_meanOver 53 = .ok (.iconst 0, 1) := by decide +kernel
theorem dX5_meanOver_54 : decode cX5_meanOver 54 = .ok (.ireturn, 1) := by decide +kernel
theorem dX5_utmostOver_0 : decode cX5_utmostOver 0 = .ok (.iload_n 1, 1) := by decide +kernel
theorem dX5_utmostOver_1 : decode cX5_utmostOver 1 = .ok (.aload_n 0, 1) := by decide +kernel
theorem dX5_utmostOver_2 : decode cX5_utmostOver 2 = .ok (.getfield 24, 3) := by decide +kernel
theorem dX5_utmostOver_5 : decode cX5_utmostOver 5 = .ok (.iload_n 2, 1) := by decide +kernel
theorem dX5_utmostOver_6 : decode cX5_utmostOver 6 = .ok (.iadd, 1) := by decide +kernel
theorem dX5_utmostOver_7 : decode cX5_utmostOver 7 = .ok (.invokestatic 46, 3) := by decide +kernel
theorem dX5_utmostOver_10 : decode cX5_utmostOver 10 = .ok (.istore 4, 2) := by decide +kernel
theorem dX5_utmostOver_12 : decode cX5_utmostOver 12 = .ok (.aload_n 0, 1) := by decide +kernel
theorem dX5_utmostOver_13 : decode cX5_utmostOver 13 = .ok (.iconst 0, 1) := by decide +kernel
theorem dX5_utmostOver_14 : decode cX5_utmostOver 14 = .ok (.iconst 0, 1) := by decide +kernel
theorem dX5_utmostOver_15 : decode cX5_utmostOver 15 = .ok (.iload_n 2, 1) := by decide +kernel
theorem dX5_utmostOver_16 : decode cX5_utmostOver 16 = .ok (.invokevirtual 58, 3) := by decide +kernel
theorem dX5_utmostOver_19 : decode cX5_utmostOver 19 = .ok (.istore 5, 2) := by decide +kernel
theorem dX5_utmostOver_21 : decode cX5_utmostOver 21 = .ok (.iconst 1, 1) := by decide +kernel
theorem dX5_utmostOver_22 : decode cX5_utmostOver 22 = .ok (.istore 6, 2) := by decide +kernel
theorem dX5_utmostOver_24 : decode cX5_utmostOver 24 = .ok (.iload 6, 2) := by decide +kernel
theorem dX5_utmostOver_26 : decode cX5_utmostOver 26 = .ok (.iload 4, 2) := by decide +kernel
theorem dX5_utmostOver_28 : decode cX5_utmostOver 28 = .ok (.if_icmp .ge 42, 3) := by decide +kernel
theorem dX5_utmostOver_31 : decode cX5_utmostOver 31 = .ok (.aload_n 0, 1) := by decide +kernel
theorem dX5_utmostOver_32 : decode cX5_utmostOver 32 = .ok (.iconst 0, 1) := by decide +kernel
theorem dX5_utmostOver_33 : decode cX5_utmostOver 33 = .ok (.iload 6, 2) := by decide +kernel
theorem dX5_utmostOver_35 : decode cX5_utmostOver 35 = .ok (.iload_n 2, 1) := by decide +kernel
theorem dX5_utmostOver_36 : decode cX5_utmostOver 36 = .ok (.invokevirtual 58, 3) := by decide +kernel
theorem dX5_utmostOver_39 : decode cX5_utmostOver 39 = .ok (.istore 7, 2) := by decide +kernel
theorem dX5_utmostOver_41 : decode cX5_utmostOver 41 = .ok (.iload_n 3, 1) := by decide +kernel
theorem dX5_utmostOver_42 : decode cX5_utmostOver 42 = .ok (.ifCond .eq 13, 3) := by decide +kernel
theorem dX5_utmostOver_45 : decode cX5_utmostOver 45 = .ok (.iload 5, 2) := by decide +kernel
theorem dX5_utmostOver_47 : decode cX5_utmostOver 47 = .ok (.iload 7, 2) := by decide +kernel
theorem dX5_utmostOver_49 : decode cX5_utmostOver 49 = .ok (.invokestatic 78, 3) := by decide +kernel
theorem dX5_utmostOver_52 : decode cX5_utmostOver 52 = .ok (.goto 10, 3) := by decide +kernel
theorem dX5_utmostOver_55 : decode cX5_utmostOver 55 = .ok (.iload 5, 2) := by decide +kernel
theorem dX5_utmostOver_57 : decode cX5_utmostOver 57 = .ok (.iload 7, 2) := by decide +kernel
theorem dX5_utmostOver_59 : decode cX5_utmostOver 59 = .ok (.invokestatic 46, 3) := by decide +kernel
theorem dX5_utmostOver_62 : decode cX5_utmostOver 62 = .ok (.istore 5, 2) := by decide +kernel
theorem dX5_utmostOver_64 : decode cX5_utmostOver 64 = .ok (.iinc 6 1, 3) := by decide +kernel
theorem dX5_utmostOver_67 : decode cX5_utmostOver 67 = .ok (.goto (-43), 3) := by decide +kernel
theorem dX5_utmostOver_70 : decode cX5_utmostOver 70 = .ok (.iload 5, 2) := by decide +kernel
theorem dX5_utmostOver_72 : decode cX5_utmostOver 72 = .ok (.ireturn, 1) := by decide +kernel
theorem dX5_partOver_0 : decode cX5_partOver 0 = .ok (.iconst 0, 1) := by decide +kernel
theorem dX5_partOver_1 : decode cX5_partOver 1 = .ok (.istore 4, 2) := by decide +kernel
theorem dX5_partOver_3 : decode cX5_partOver 3 = .ok (.iconst 1, 1) := by decide +kernel
theorem dX5_partOver_4 : decode cX5_partOver 4 = .ok (.istore 5, 2) := by decide +kernel
theorem dX5_partOver_6 : decode cX5_partOver 6 = .ok (.iload 5, 2) := by decide +kernel
theorem dX5_partOver_8 : decode cX5_partOver 8 = .ok (.iconst 5, 1) := by decide +kernel
theorem dX5_partOver_9 : decode cX5_partOver 9 = .ok (.if_icmp .gt 22, 3) := by decide +kernel
theorem dX5_partOver_12 : decode cX5_partOver 12 = .ok (.iload 4, 2) := by decide +kernel
theorem dX5_partOver_14 : decode cX5_partOver 14 = .ok (.aload_n 0, 1) := by decide +kernel
theorem dX5_partOver_15 : decode cX5_partOver 15 = .ok (.iload 5, 2) := by decide +kernel
theorem dX5_partOver_17 : decode cX5_partOver 17 = .ok (.iload_n 2, 1) := by decide +kernel
theorem dX5_partOver_18 : decode cX5_partOver 18 = .ok (.iload_n 3, 1) := by decide +kernel
theorem dX5_partOver_19 : decode cX5_partOver 19 = .ok (.invokevirtual 62, 3) := by decide +kernel
theorem dX5_partOver_22 : decode cX5_partOver 22 = .ok (.iadd, 1) := by decide +kernel
theorem dX5_partOver_23 : decode cX5_partOver 23 = .ok (.istore 4, 2) := by decide +kernel
theorem dX5_partOver_25 : decode cX5_partOver 25 = .ok (.iinc 5 1, 3) := by decide +kernel
theorem dX5_partOver_28 : decode cX5_partOver 28 = .ok (.goto (-22), 3) := by decide +kernel
theorem dX5_partOver_31 : decode cX5_partOver 31 = .ok (.iload 4, 2) := by decide +kernel
theorem dX5_partOver_33 : decode cX5_partOver 33 = .ok (.ifCond .ne 5, 3) := by decide +kernel
theorem dX5_partOver_36 : decode cX5_partOver 36 = .ok (.iconst 0, 1) := by decide +kernel
theorem dX5_partOver_37 : decode cX5_partOver 37 = .ok (.ireturn, 1) := by decide +kernel
theorem dX5_partOver_38 : decode cX5_partOver 38 = .ok (.iload_n 1, 1) := by decide +kernel
theorem dX5_partOver_39 : decode cX5_partOver 39 = .ok (.iload 4, 2) := by decide +kernel
theorem dX5_partOver_41 : decode cX5_partOver 41 = .ok (.imul, 1) := by decide +kernel
theorem dX5_partOver_42 : decode cX5_partOver 42 = .ok (.bipush 99, 2) := by decide +kernel
theorem dX5_partOver_44 : decode cX5_partOver 44 = .ok (.iadd, 1) := by decide +kernel
theorem dX5_partOver_45 : decode cX5_partOver 45 = .ok (.bipush 100, 2) := by decide +kernel
theorem dX5_partOver_47 : decode cX5_partOver 47 = .ok (.idiv, 1) := by decide +kernel
theorem dX5_partOver_48 : decode cX5_partOver 48 = .ok (.istore 5, 2) := by decide +kernel
theorem dX5_partOver_50 : decode cX5_partOver 50 = .ok (.iconst 0, 1) := by decide +kernel
theorem dX5_partOver_51 : decode cX5_partOver 51 = .ok (.istore 6, 2) := by decide +kernel
theorem dX5_partOver_53 : decode cX5_partOver 53 = .ok (.iconst 1, 1) := by decide +kernel
theorem dX5_partOver_54 : decode cX5_partOver 54 = .ok (.istore 7, 2) := by decide +kernel
theorem dX5_partOver_56 : decode cX5_partOver 56 = .ok (.iload 7, 2) := by decide +kernel
theorem dX5_partOver_58 : decode cX5_partOver 58 = .ok (.iconst 5, 1) := by decide +kernel
theorem dX5_partOver_59 : decode cX5_partOver 59 = .ok (.if_icmp .ge 73, 3) := by decide +kernel
theorem dX5_partOver_62 : decode cX5_partOver 62 = .ok (.aload_n 0, 1) := by decide +kernel
theorem dX5_partOver_63 : decode cX5_partOver 63 = .ok (.iload 7, 2) := by decide +kernel
theorem dX5_partOver_65 : decode cX5_partOver 65 = .ok (.iload_n 2, 1) := by decide +kernel
theorem dX5_partOver_66 : decode cX5_partOver 66 = .ok (.iload_n 3, 1) := by decide +kernel
theorem dX5_partOver_67 : decode cX5_partOver 67 = .ok (.invokevirtual 62, 3) := by decide +kernel
theorem dX5_partOver_70 : decode cX5_partOver 70 = .ok (.istore 8, 2) := by decide +kernel
theorem dX5_partOver_72 : decode cX5_partOver 72 = .ok (.iload 8, 2) := by decide +kernel
theorem dX5_partOver_74 : decode cX5_partOver 74 = .ok (.ifCond .le 45, 3) := by decide +kernel
theorem dX5_partOver_77 : decode cX5_partOver 77 = .ok (.iload 6, 2) := by decide +kernel
theorem dX5_partOver_79 : decode cX5_partOver 79 = .ok (.iload 8, 2) := by decide +kernel
theorem dX5_partOver_81 : decode cX5_partOver 81 = .ok (.iadd, 1) := by decide +kernel
theorem dX5_partOver_82 : decode cX5_partOver 82 = .ok (.iload 5, 2) := by decide +kernel
theorem dX5_partOver_84 : decode cX5_partOver 84 = .ok (.if_icmp .lt 35, 3) := by decide +kernel
theorem dX5_partOver_87 : decode cX5_partOver 87 = .ok (.getstatic 43, 3) := by decide +kernel
theorem dX5_partOver_90 : decode cX5_partOver 90 = .ok (.iload 7, 2) := by decide +kernel
theorem dX5_partOver_92 : decode cX5_partOver 92 = .ok (.iconst 1, 1) := by decide +kernel
theorem dX5_partOver_93 : decode cX5_partOver 93 = .ok (.isub, 1) := by decide +kernel
theorem dX5_partOver_94 : decode cX5_partOver 94 = .ok (.iaload, 1) := by decide +kernel
theorem dX5_partOver_95 : decode cX5_partOver 95 = .ok (.istore 9, 2) := by decide +kernel
theorem dX5_partOver_97 : decode cX5_partOver 97 = .ok (.iload 9, 2) := by decide +kernel
theorem dX5_partOver_99 : decode cX5_partOver 99 = .ok (.getstatic 43, 3) := by decide +kernel
theorem dX5_partOver_102 : decode cX5_partOver 102 = .ok (.iload 7, 2) := by decide +kernel
theorem dX5_partOver_104 : decode cX5_partOver 104 = .ok (.iaload, 1) := by decide +kernel
theorem dX5_partOver_105 : decode cX5_partOver 105 = .ok (.iload 9, 2) := by decide +kernel
theorem dX5_partOver_107 : decode cX5_partOver 107 = .ok (.isub, 1) := by decide +kernel
theorem dX5_partOver_108 : decode cX5_partOver 108 = .ok (.iload 5, 2) := by decide +kernel
theorem dX5_partOver_110 : decode cX5_partOver 110 = .ok (.iload 6, 2) := by decide +kernel
theorem dX5_partOver_112 : decode cX5_partOver 112 = .ok (.isub, 1) := by decide +kernel
theorem dX5_partOver_113 : decode cX5_partOver 113 = .ok (.imul, 1) := by decide +kernel
theorem dX5_partOver_114 : decode cX5_partOver 114 = .ok (.iload 8, 2) := by decide +kernel
theorem dX5_partOver_116 : decode cX5_partOver 116 = .ok (.idiv, 1) := by decide +kernel
theorem dX5_partOver_117 : decode cX5_partOver 117 = .ok (.iadd, 1) := by decide +kernel
theorem dX5_partOver_118 : decode cX5_partOver 118 = .ok (.ireturn, 1) := by decide +kernel
theorem dX5_partOver_119 : decode cX5_partOver 119 = .ok (.iload 6, 2) := by decide +kernel
theorem dX5_partOver_121 : decode cX5_partOver 121 = .ok (.iload 8, 2) := by decide +kernel
theorem dX5_partOver_123 : decode cX5_partOver 123 = .ok (.iadd, 1) := by decide +kernel
theorem dX5_partOver_124 : decode cX5_partOver 124 = .ok (.istore 6, 2) := by decide +kernel
theorem dX5_partOver_126 : decode cX5_partOver 126 = .ok (.iinc 7 1, 3) := by decide +kernel
theorem dX5_partOver_129 : decode cX5_partOver 129 = .ok (.goto (-73), 3) := by decide +kernel
theorem dX5_partOver_132 : decode cX5_partOver 132 = .ok (.sipush 500, 3) := by decide +kernel
theorem dX5_partOver_135 : decode cX5_partOver 135 = .ok (.ireturn, 1) := by decide +kernel
theorem dX6_init_0 : decode cX6_init 0 = .ok (.aload_n 0, 1) := by decide +kernel
theorem dX6_init_1 : decode cX6_init 1 = .ok (.invokespecial 1, 3) := by decide +kernel
theorem dX6_init_4 : decode cX6_init 4 = .ok (.aload_n 0, 1) := by decide +kernel
theorem dX6_init_5 : decode cX6_init 5 = .ok (.new 7, 3) := by decide +kernel
theorem dX6_init_8 : decode cX6_init 8 = .ok (.dup, 1) := by decide +kernel
theorem dX6_init_9 : decode cX6_init 9 = .ok (.invokespecial 9, 3) := by decide +kernel
theorem dX6_init_12 : decode cX6_init 12 = .ok (.putfield 10, 3) := by decide +kernel
theorem dX6_init_15 : decode cX6_init 15 = .ok (.aload_n 0, 1) := by decide +kernel
theorem dX6_init_16 : decode cX6_init 16 = .ok (.new 7, 3) := by decide +kernel
theorem dX6_init_19 : decode cX6_init 19 = .ok (.dup, 1) := by decide +kernel
theorem dX6_init_20 : decode cX6_init 20 = .ok (.invokespecial 9, 3) := by decide +kernel
theorem dX6_init_23 : decode cX6_init 23 = .ok (.putfield 16, 3) := by decide +kernel
theorem dX6_init_26 : decode cX6_init 26 = .ok (.aload_n 0, 1) := by decide +kernel
theorem dX6_init_27 : decode cX6_init 27 = .ok (.new 7, 3) := by decide +kernel
theorem dX6_init_30 : decode cX6_init 30 = .ok (.dup, 1) := by decide +kernel
theorem dX6_init_31 : decode cX6_init 31 = .ok (.invokespecial 9, 3) := by decide +kernel
theorem dX6_init_34 : decode cX6_init 34 = .ok (.putfield 19, 3) := by decide +kernel
