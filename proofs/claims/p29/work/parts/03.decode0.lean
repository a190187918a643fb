theorem dX0_init_0 : decode cX0_init 0 = .ok (.aload_n 0, 1) := by decide +kernel
theorem dX0_init_1 : decode cX0_init 1 = .ok (.invokespecial 3, 3) := by decide +kernel
theorem dX0_init_4 : decode cX0_init 4 = .ok (.aload_n 0, 1) := by decide +kernel
theorem dX0_init_5 : decode cX0_init 5 = .ok (.iconst 0, 1) := by decide +kernel
theorem dX0_init_6 : decode cX0_init 6 = .ok (.putfield 9, 3) := by decide +kernel
theorem dX0_init_9 : decode cX0_init 9 = .ok (.aload_n 0, 1) := by decide +kernel
theorem dX0_init_10 : decode cX0_init 10 = .ok (.iconst (-1), 1) := by decide +kernel
theorem dX0_init_11 : decode cX0_init 11 = .ok (.putfield 15, 3) := by decide +kernel
theorem dX0_init_14 : decode cX0_init 14 = .ok (.aload_n 0, 1) := by decide +kernel
theorem dX0_init_15 : decode cX0_init 15 = .ok (.iconst 0, 1) := by decide +kernel
theorem dX0_init_16 : decode cX0_init 16 = .ok (.putfield 18, 3) := by decide +kernel
theorem dX0_init_19 : decode cX0_init 19 = .ok (.return_, 1) := by decide +kernel
theorem dX0_step_0 : decode cX0_step 0 = .ok (.iload_n 1, 1) := by decide +kernel
theorem dX0_step_1 : decode cX0_step 1 = .ok (.ifCond .eq 12, 3) := by decide +kernel
theorem dX0_step_4 : decode cX0_step 4 = .ok (.aload_n 0, 1) := by decide +kernel
theorem dX0_step_5 : decode cX0_step 5 = .ok (.iload_n 2, 1) := by decide +kernel
theorem dX0_step_6 : decode cX0_step 6 = .ok (.iload_n 3, 1) := by decide +kernel
theorem dX0_step_7 : decode cX0_step 7 = .ok (.invokevirtual 21, 3) := by decide +kernel
theorem dX0_step_10 : decode cX0_step 10 = .ok (.goto 7, 3) := by decide +kernel
theorem dX0_step_13 : decode cX0_step 13 = .ok (.aload_n 0, 1) := by decide +kernel
theorem dX0_step_14 : decode cX0_step 14 = .ok (.invokevirtual 25, 3) := by decide +kernel
theorem dX0_step_17 : decode cX0_step 17 = .ok (.return_, 1) := by decide +kernel
theorem dX0_rise_0 : decode cX0_rise 0 = .ok (.aload_n 0, 1) := by decide +kernel
theorem dX0_rise_1 : decode cX0_rise 1 = .ok (.iconst 0, 1) := by decide +kernel
theorem dX0_rise_2 : decode cX0_rise 2 = .ok (.putfield 18, 3) := by decide +kernel
theorem dX0_rise_5 : decode cX0_rise 5 = .ok (.aload_n 0, 1) := by decide +kernel
theorem dX0_rise_6 : decode cX0_rise 6 = .ok (.getfield 9, 3) := by decide +kernel
theorem dX0_rise_9 : decode cX0_rise 9 = .ok (.ifCond .ne 13, 3) := by decide +kernel
theorem dX0_rise_12 : decode cX0_rise 12 = .ok (.aload_n 0, 1) := by decide +kernel
theorem dX0_rise_13 : decode cX0_rise 13 = .ok (.iconst 1, 1) := by decide +kernel
theorem dX0_rise_14 : decode cX0_rise 14 = .ok (.putfield 9, 3) := by decide +kernel
theorem dX0_rise_17 : decode cX0_rise 17 = .ok (.aload_n 0, 1) := by decide +kernel
theorem dX0_rise_18 : decode cX0_rise 18 = .ok (.iload_n 2, 1) := by decide +kernel
theorem dX0_rise_19 : decode cX0_rise 19 = .ok (.putfield 15, 3) := by decide +kernel
theorem dX0_rise_22 : decode cX0_rise 22 = .ok (.aload_n 0, 1) := by decide +kernel
theorem dX0_rise_23 : decode cX0_rise 23 = .ok (.getfield 9, 3) := by decide +kernel
theorem dX0_rise_26 : decode cX0_rise 26 = .ok (.iconst 1, 1) := by decide +kernel
theorem dX0_rise_27 : decode cX0_rise 27 = .ok (.if_icmp .ne 23, 3) := by decide +kernel
theorem dX0_rise_30 : decode cX0_rise 30 = .ok (.iload_n 2, 1) := by decide +kernel
theorem dX0_rise_31 : decode cX0_rise 31 = .ok (.aload_n 0, 1) := by decide +kernel
theorem dX0_rise_32 : decode cX0_rise 32 = .ok (.getfield 15, 3) := by decide +kernel
theorem dX0_rise_35 : decode cX0_rise 35 = .ok (.isub, 1) := by decide +kernel
theorem dX0_rise_36 : decode cX0_rise 36 = .ok (.iload_n 1, 1) := by decide +kernel
theorem dX0_rise_37 : decode cX0_rise 37 = .ok (.if_icmp .lt 13, 3) := by decide +kernel
theorem dX0_rise_40 : decode cX0_rise 40 = .ok (.aload_n 0, 1) := by decide +kernel
theorem dX0_rise_41 : decode cX0_rise 41 = .ok (.iconst 2, 1) := by decide +kernel
theorem dX0_rise_42 : decode cX0_rise 42 = .ok (.putfield 9, 3) := by decide +kernel
theorem dX0_rise_45 : decode cX0_rise 45 = .ok (.aload_n 0, 1) := by decide +kernel
theorem dX0_rise_46 : decode cX0_rise 46 = .ok (.iload_n 2, 1) := by decide +kernel
theorem dX0_rise_47 : decode cX0_rise 47 = .ok (.putfield 15, 3) := by decide +kernel
theorem dX0_rise_50 : decode cX0_rise 50 = .ok (.return_, 1) := by decide +kernel
theorem dX0_fall_0 : decode cX0_fall 0 = .ok (.aload_n 0, 1) := by decide +kernel
theorem dX0_fall_1 : decode cX0_fall 1 = .ok (.dup, 1) := by decide +kernel
theorem dX0_fall_2 : decode cX0_fall 2 = .ok (.getfield 18, 3) := by decide +kernel
theorem dX0_fall_5 : decode cX0_fall 5 = .ok (.iconst 1, 1) := by decide +kernel
theorem dX0_fall_6 : decode cX0_fall 6 = .ok (.iadd, 1) := by decide +kernel
theorem dX0_fall_7 : decode cX0_fall 7 = .ok (.putfield 18, 3) := by decide +kernel
theorem dX0_fall_10 : decode cX0_fall 10 = .ok (.aload_n 0, 1) := by decide +kernel
theorem dX0_fall_11 : decode cX0_fall 11 = .ok (.getfield 9, 3) := by decide +kernel
theorem dX0_fall_14 : decode cX0_fall 14 = .ok (.iconst 2, 1) := by decide +kernel
theorem dX0_fall_15 : decode cX0_fall 15 = .ok (.if_icmp .ne 11, 3) := by decide +kernel
theorem dX0_fall_18 : decode cX0_fall 18 = .ok (.aload_n 0, 1) := by decide +kernel
theorem dX0_fall_19 : decode cX0_fall 19 = .ok (.getfield 18, 3) := by decide +kernel
theorem dX0_fall_22 : decode cX0_fall 22 = .ok (.iconst 3, 1) := by decide +kernel
theorem dX0_fall_23 : decode cX0_fall 23 = .ok (.if_icmp .lt 13, 3) := by decide +kernel
theorem dX0_fall_26 : decode cX0_fall 26 = .ok (.aload_n 0, 1) := by decide +kernel
theorem dX0_fall_27 : decode cX0_fall 27 = .ok (.iconst 0, 1) := by decide +kernel
theorem dX0_fall_28 : decode cX0_fall 28 = .ok (.putfield 9, 3) := by decide +kernel
theorem dX0_fall_31 : decode cX0_fall 31 = .ok (.aload_n 0, 1) := by decide +kernel
theorem dX0_fall_32 : decode cX0_fall 32 = .ok (.iconst (-1), 1) := by decide +kernel
theorem dX0_fall_33 : decode cX0_fall 33 = .ok (.putfield 15, 3) := by decide +kernel
theorem dX0_fall_36 : decode cX0_fall 36 = .ok (.return_, 1) := by decide +kernel
theorem dX0_become_0 : decode cX0_become 0 = .ok (.aload_n 0, 1) := by decide +kernel
theorem dX0_become_1 : decode cX0_become 1 = .ok (.aload_n 1, 1) := by decide +kernel
theorem dX0_become_2 : decode cX0_become 2 = .ok (.getfield 9, 3) := by decide +kernel
theorem dX0_become_5 : decode cX0_become 5 = .ok (.putfield 9, 3) := by decide +kernel
theorem dX0_become_8 : decode cX0_become 8 = .ok (.aload_n 0, 1) := by decide +kernel
theorem dX0_become_9 : decode cX0_become 9 = .ok (.aload_n 1, 1) := by decide +kernel
theorem dX0_become_10 : decode cX0_become 10 = .ok (.getfield 15, 3) := by decide +kernel
theorem dX0_become_13 : decode cX0_become 13 = .ok (.putfield 15, 3) := by decide +kernel
theorem dX0_become_16 : decode cX0_become 16 = .ok (.aload_n 0, 1) := by decide +kernel
theorem dX0_become_17 : decode cX0_become 17 = .ok (.aload_n 1, 1) := by decide +kernel
theorem dX0_become_18 : decode cX0_become 18 = .ok (.getfield 18, 3) := by decide +kernel
theorem dX0_become_21 : decode cX0_become 21 = .ok (.putfield 18, 3) := by decide +kernel
theorem dX0_become_24 : decode cX0_become 24 = .ok (.return_, 1) := by decide +kernel
theorem dX1_init_0 : decode cX1_init 0 = .ok (.aload_n 0, 1) := by decide +kernel
theorem dX1_init_1 : decode cX1_init 1 = .ok (.invokespecial 3, 3) := by decide +kernel
theorem dX1_init_4 : decode cX1_init 4 = .ok (.aload_n 0, 1) := by decide +kernel
theorem dX1_init_5 : decode cX1_init 5 = .ok (.bipush 6, 2) := by decide +kernel
theorem dX1_init_7 : decode cX1_init 7 = .ok (.newarray .int, 2) := by decide +kernel
theorem dX1_init_9 : decode cX1_init 9 = .ok (.putfield 9, 3) := by decide +kernel
theorem dX1_init_12 : decode cX1_init 12 = .ok (.aload_n 0, 1) := by decide +kernel
theorem dX1_init_13 : decode cX1_init 13 = .ok (.bipush 6, 2) := by decide +kernel
theorem dX1_init_15 : decode cX1_init 15 = .ok (.newarray .int, 2) := by decide +kernel
theorem dX1_init_17 : decode cX1_init 17 = .ok (.putfield 15, 3) := by decide +kernel
theorem dX1_init_20 : decode cX1_init 20 = .ok (.aload_n 0, 1) := by decide +kernel
theorem dX1_init_21 : decode cX1_init 21 = .ok (.iconst 0, 1) := by decide +kernel
theorem dX1_init_22 : decode cX1_init 22 = .ok (.putfield 18, 3) := by decide +kernel
theorem dX1_init_25 : decode cX1_init 25 = .ok (.aload_n 0, 1) := by decide +kernel
theorem dX1_init_26 : decode cX1_init 26 = .ok (.iconst 0, 1) := by decide +kernel
theorem dX1_init_27 : decode cX1_init 27 = .ok (.putfield 22, 3) := by decide +kernel
theorem dX1_init_30 : decode cX1_init 30 = .ok (.return_, 1) := by decide +kernel
theorem dX1_forget_0 : decode cX1_forget 0 = .ok (.iconst 0, 1) := by decide +kernel
theorem dX1_forget_1 : decode cX1_forget 1 = .ok (.istore_n 1, 1) := by decide +kernel
theorem dX1_forget_2 : decode cX1_forget 2 = .ok (.iload_n 1, 1) := by decide +kernel
theorem dX1_forget_3 : decode cX1_forget 3 = .ok (.bipush 6, 2) := by decide +kernel
theorem dX1_forget_5 : decode cX1_forget 5 = .ok (.if_icmp .ge 16, 3) := by decide +kernel
theorem dX1_forget_8 : decode cX1_forget 8 = .ok (.aload_n 0, 1) := by decide +kernel
theorem dX1_forget_9 : decode cX1_forget 9 = .ok (.getfield 15, 3) := by decide +kernel
theorem dX1_forget_12 : decode cX1_forget 12 = .ok (.iload_n 1, 1) := by decide +kernel
theorem dX1_forget_13 : decode cX1_forget 13 = .ok (.iconst 0, 1) := by decide +kernel
theorem dX1_forget_14 : decode cX1_forget 14 = .ok (.iastore, 1) := by decide +kernel
theorem dX1_forget_15 : decode cX1_forget 15 = .ok (.iinc 1 1, 3) := by decide +kernel
theorem dX1_forget_18 : decode cX1_forget 18 = .ok (.goto (-16), 3) := by decide +kernel
theorem dX1_forget_21 : decode cX1_forget 21 = .ok (.aload_n 0, 1) := by decide +kernel
theorem dX1_forget_22 : decode cX1_forget 22 = .ok (.iconst 0, 1) := by decide +kernel
theorem dX1_forget_23 : decode cX1_forget 23 = .ok (.putfield 22, 3) := by decide +kernel
theorem dX1_forget_26 : decode cX1_forget 26 = .ok (.return_, 1) := by decide +kernel
theorem dX1_clearLoud_0 : decode cX1_clearLoud 0 = .ok (.iconst 0, 1) := by decide +kernel
theorem dX1_clearLoud_1 : decode cX1_clearLoud 1 = .ok (.istore_n 1, 1) := by decide +kernel
theorem dX1_clearLoud_2 : decode cX1_clearLoud 2 = .ok (.iload_n 1, 1) := by decide +kernel
theorem dX1_clearLoud_3 : decode cX1_clearLoud 3 = .ok (.bipush 6, 2) := by decide +kernel
theorem dX1_clearLoud_5 : decode cX1_clearLoud 5 = .ok (.if_icmp .ge 16, 3) := by decide +kernel
theorem dX1_clearLoud_8 : decode cX1_clearLoud 8 = .ok (.aload_n 0, 1) := by decide +kernel
theorem dX1_clearLoud_9 : decode cX1_clearLoud 9 = .ok (.getfield 9, 3) := by decide +kernel
theorem dX1_clearLoud_12 : decode cX1_clearLoud 12 = .ok (.iload_n 1, 1) := by decide +kernel
theorem dX1_clearLoud_13 : decode cX1_clearLoud 13 = .ok (.iconst 0, 1) := by decide +kernel
theorem dX1_clearLoud_14 : decode cX1_clearLoud 14 = .ok (.iastore, 1) := by decide +kernel
theorem dX1_clearLoud_15 : decode cX1_clearLoud 15 = .ok (.iinc 1 1, 3) := by decide +kernel
theorem dX1_clearLoud_18 : decode cX1_clearLoud 18 = .ok (.goto (-16), 3) := by decide +kernel
theorem dX1_clearLoud_21 : decode cX1_clearLoud 21 = .ok (.return_, 1) := by decide +kernel
theorem dX1_addLoud_0 : decode cX1_addLoud 0 = .ok (.iload_n 1, 1) := by decide +kernel
theorem dX1_addLoud_1 : decode cX1_addLoud 1 = .ok (.iconst 0, 1) := by decide +kernel
theorem dX1_addLoud_2 : decode cX1_addLoud 2 = .ok (.iconst 5, 1) := by decide +kernel
theorem dX1_addLoud_3 : decode cX1_addLoud 3 = .ok (.invokestatic 26, 3) := by decide +kernel
theorem dX1_addLoud_6 : decode cX1_addLoud 6 = .ok (.ifCond .ne 15, 3) := by decide +kernel
theorem dX1_addLoud_9 : decode cX1_addLoud 9 = .ok (.aload_n 0, 1) := by decide +kernel
theorem dX1_addLoud_10 : decode cX1_addLoud 10 = .ok (.getfield 9, 3) := by decide +kernel
theorem dX1_addLoud_13 : decode cX1_addLoud 13 = .ok (.iload_n 1, 1) := by decide +kernel
theorem dX1_addLoud_14 : decode cX1_addLoud 14 = .ok (.dup2, 1) := by decide +kernel
theorem dX1_addLoud_15 : decode cX1_addLoud 15 = .ok (.iaload, 1) := by decide +kernel
theorem dX1_addLoud_16 : decode cX1_addLoud 16 = .ok (.iconst 1, 1) := by decide +kernel
theorem dX1_addLoud_17 : decode cX1_addLoud 17 = .ok (.iload_n 2, 1) := by decide +kernel
theorem dX1_addLoud_18 : decode cX1_addLoud 18 = .ok (.ishl, 1) := by decide +kernel
theorem dX1_addLoud_19 : decode cX1_addLoud 19 = .ok (.ior, 1) := by decide +kernel
theorem dX1_addLoud_20 : decode cX1_addLoud 20 = .ok (.iastore, 1) := by decide +kernel
theorem dX1_addLoud_21 : decode cX1_addLoud 21 = .ok (.return_, 1) := by decide +kernel
theorem dX1_hasLoudOf_0 : decode cX1_hasLoudOf 0 = .ok (.iload_n 1, 1) := by decide +kernel
theorem dX1_hasLoudOf_1 : decode cX1_hasLoudOf 1 = .ok (.iconst 0, 1) := by decide +kernel
theorem dX1_hasLoudOf_2 : decode cX1_hasLoudOf 2 = .ok (.iconst 5, 1) := by decide +kernel
theorem dX1_hasLoudOf_3 : decode cX1_hasLoudOf 3 = .ok (.invokestatic 26, 3) := by decide +kernel
theorem dX1_hasLoudOf_6 : decode cX1_hasLoudOf 6 = .ok (.ifCond .ne 16, 3) := by decide +kernel
theorem dX1_hasLoudOf_9 : decode cX1_hasLoudOf 9 = .ok (.aload_n 0, 1) := by decide +kernel
theorem dX1_hasLoudOf_10 : decode cX1_hasLoudOf 10 = .ok (.getfield 9, 3) := by decide +kernel
theorem dX1_hasLoudOf_13 : decode cX1_hasLoudOf 13 = .ok (.iload_n 1, 1) := by decide +kernel
theorem dX1_hasLoudOf_14 : decode cX1_hasLoudOf 14 = .ok (.iaload, 1) := by decide +kernel
theorem dX1_hasLoudOf_15 : decode cX1_hasLoudOf 15 = .ok (.ifCond .eq 7, 3) := by decide +kernel
theorem dX1_hasLoudOf_18 : decode cX1_hasLoudOf 18 = .ok (.iconst 1, 1) := by decide +kernel
theorem dX1_hasLoudOf_19 : decode cX1_hasLoudOf 19 = .ok (.goto 4, 3) := by decide +kernel
theorem dX1_hasLoudOf_22 : decode cX1_hasLoudOf 22 = .ok (.iconst 0, 1) := by decide +kernel
theorem dX1_hasLoudOf_23 : decode cX1_hasLoudOf 23 = .ok (.ireturn, 1) := by decide +kernel
theorem dX1_isLoud_0 : decode cX1_isLoud 0 = .ok (.aload_n 0, 1) := by decide +kernel
theorem dX1_isLoud_1 : decode cX1_isLoud 1 = .ok (.invokevirtual 30, 3) := by decide +kernel
theorem dX1_isLoud_4 : decode cX1_isLoud 4 = .ok (.ifCond .le 7, 3) := by decide +kernel
theorem dX1_isLoud_7 : decode cX1_isLoud 7 = .ok (.iconst 1, 1) := by decide +kernel
theorem dX1_isLoud_8 : decode cX1_isLoud 8 = .ok (.goto 4, 3) := by decide +kernel
theorem dX1_isLoud_11 : decode cX1_isLoud 11 = .ok (.iconst 0, 1) := by decide +kernel
theorem dX1_isLoud_12 : decode cX1_isLoud 12 = .ok (.ireturn, 1) := by decide +kernel
theorem dX1_countLoudNow_0 : decode cX1_countLoudNow 0 = .ok (.iconst 0, 1) := by decide +kernel
theorem dX1_countLoudNow_1 : decode cX1_countLoudNow 1 = .ok (.istore_n 1, 1) := by decide +kernel
theorem dX1_countLoudNow_2 : decode cX1_countLoudNow 2 = .ok (.iconst 0, 1) := by decide +kernel
theorem dX1_countLoudNow_3 : decode cX1_countLoudNow 3 = .ok (.istore_n 2, 1) := by decide +kernel
theorem dX1_countLoudNow_4 : decode cX1_countLoudNow 4 = .ok (.iload_n 2, 1) := by decide +kernel
theorem dX1_countLoudNow_5 : decode cX1_countLoudNow 5 = .ok (.bipush 6, 2) := by decide +kernel
theorem dX1_countLoudNow_7 : decode cX1_countLoudNow 7 = .ok (.if_icmp .ge 21, 3) := by decide +kernel
theorem dX1_countLoudNow_10 : decode cX1_countLoudNow 10 = .ok (.iload_n 1, 1) := by decide +kernel
theorem dX1_countLoudNow_11 : decode cX1_countLoudNow 11 = .ok (.aload_n 0, 1) := by decide +kernel
theorem dX1_countLoudNow_12 : decode cX1_countLoudNow 12 = .ok (.getfield 9, 3) := by decide +kernel
theorem dX1_countLoudNow_15 : decode cX1_countLoudNow 15 = .ok (.iload_n 2, 1) := by decide +kernel
theorem dX1_countLoudNow_16 : decode cX1_countLoudNow 16 = .ok (.iaload, 1) := by decide +kernel
theorem dX1_countLoudNow_17 : decode cX1_countLoudNow 17 = .ok (.invokestatic 34, 3) := by decide +kernel
theorem dX1_countLoudNow_20 : decode cX1_countLoudNow 20 = .ok (.iadd, 1) := by decide +kernel
theorem dX1_countLoudNow_21 : decode cX1_countLoudNow 21 = .ok (.istore_n 1, 1) := by decide +kernel
theorem dX1_countLoudNow_22 : decode cX1_countLoudNow 22 = .ok (.iinc 2 1, 3) := by decide +kernel
theorem dX1_countLoudNow_25 : decode cX1_countLoudNow 25 = .ok (.goto (-21), 3) := by decide +kernel
theorem dX1_countLoudNow_28 : decode cX1_countLoudNow 28 = .ok (.iload_n 1, 1) := by decide +kernel
theorem dX1_countLoudNow_29 : decode cX1_countLoudNow 29 = .ok (.ireturn, 1) := by decide +kernel
theorem dX1_hasTold_0 : decode cX1_hasTold 0 = .ok (.iconst 0, 1) := by decide +kernel
theorem dX1_hasTold_1 : decode cX1_hasTold 1 = .ok (.istore_n 1, 1) := by decide +kernel
theorem dX1_hasTold_2 : decode cX1_hasTold 2 = .ok (.iload_n 1, 1) := by decide +kernel
theorem dX1_hasTold_3 : decode cX1_hasTold 3 = .ok (.bipush 6, 2) := by decide +kernel
theorem dX1_hasTold_5 : decode cX1_hasTold 5 = .ok (.if_icmp .ge 20, 3) := by decide +kernel
theorem dX1_hasTold_8 : decode cX1_hasTold 8 = .ok (.aload_n 0, 1) := by decide +kernel
theorem dX1_hasTold_9 : decode cX1_hasTold 9 = .ok (.getfield 15, 3) := by decide +kernel
theorem dX1_hasTold_12 : decode cX1_hasTold 12 = .ok (.iload_n 1, 1) := by decide +kernel
theorem dX1_hasTold_13 : decode cX1_hasTold 13 = .ok (.iaload, 1) := by decide +kernel
theorem dX1_hasTold_14 : decode cX1_hasTold 14 = .ok (.ifCond .eq 5, 3) := by decide +kernel
theorem dX1_hasTold_17 : decode cX1_hasTold 17 = .ok (.iconst 1, 1) := by decide +kernel
theorem dX1_hasTold_18 : decode cX1_hasTold 18 = .ok (.ireturn, 1) := by decide +kernel
theorem dX1_hasTold_19 : decode cX1_hasTold 19 = .ok (.iinc 1 1, 3) := by decide +kernel
theorem dX1_hasTold_22 : decode cX1_hasTold 22 = .ok (.goto (-20), 3) := by decide +kernel
theorem dX1_hasTold_25 : decode cX1_hasTold 25 = .ok (.iconst 0, 1) := by decide +kernel
theorem dX1_hasTold_26 : decode cX1_hasTold 26 = .ok (.ireturn, 1) := by decide +kernel
theorem dX1_hasChanged_0 : decode cX1_hasChanged 0 = .ok (.iconst 0, 1) := by decide +kernel
theorem dX1_hasChanged_1 : decode cX1_hasChanged 1 = .ok (.istore_n 1, 1) := by decide +kernel
theorem dX1_hasChanged_2 : decode cX1_hasChanged 2 = .ok (.iload_n 1, 1) := by decide +kernel
theorem dX1_hasChanged_3 : decode cX1_hasChanged 3 = .ok (.bipush 6, 2) := by decide +kernel
theorem dX1_hasChanged_5 : decode cX1_hasChanged 5 = .ok (.if_icmp .ge 26, 3) := by decide +kernel
theorem dX1_hasChanged_8 : decode cX1_hasChanged 8 = .ok (.aload_n 0, 1) := by decide +kernel
theorem dX1_hasChanged_9 : decode cX1_hasChanged 9 = .ok (.getfield 15, 3) := by decide +kernel
theorem dX1_hasChanged_12 : decode cX1_hasChanged 12 = .ok (.iload_n 1, 1) := by decide +kernel
theorem dX1_hasChanged_13 : decode cX1_hasChanged 13 = .ok (.iaload, 1) := by decide +kernel
theorem dX1_hasChanged_14 : decode cX1_hasChanged 14 = .ok (.aload_n 0, 1) := by decide +kernel
theorem dX1_hasChanged_15 : decode cX1_hasChanged 15 = .ok (.getfield 9, 3) := by decide +kernel
theorem dX1_hasChanged_18 : decode cX1_hasChanged 18 = .ok (.iload_n 1, 1) := by decide +kernel
theorem dX1_hasChanged_19 : decode cX1_hasChanged 19 = .ok (.iaload, 1) := by decide +kernel
theorem dX1_hasChanged_20 : decode cX1_hasChanged 20 = .ok (.if_icmp .eq 5, 3) := by decide +kernel
theorem dX1_hasChanged_23 : decode cX1_hasChanged 23 = .ok (.iconst 1, 1) := by decide +kernel
theorem dX1_hasChanged_24 : decode cX1_hasChanged 24 = .ok (.ireturn, 1) := by decide +kernel
theorem dX1_hasChanged_25 : decode cX1_hasChanged 25 = .ok (.iinc 1 1, 3) := by decide +kernel
theorem dX1_hasChanged_28 : decode cX1_hasChanged 28 = .ok (.goto (-26), 3) := by decide +kernel
theorem dX1_hasChanged_31 : decode cX1_hasChanged 31 = .ok (.iconst 0, 1) := by decide +kernel
theorem dX1_hasChanged_32 : decode cX1_hasChanged 32 = .ok (.ireturn, 1) := by decide +kernel
theorem dX1_isDue_0 : decode cX1_isDue 0 = .ok (.aload_n 0, 1) := by decide +kernel
theorem dX1_isDue_1 : decode cX1_isDue 1 = .ok (.invokevirtual 40, 3) := by decide +kernel
theorem dX1_isDue_4 : decode cX1_isDue 4 = .ok (.ifCond .ne 8, 3) := by decide +kernel
theorem dX1_isDue_7 : decode cX1_isDue 7 = .ok (.aload_n 0, 1) := by decide +kernel
theorem dX1_isDue_8 : decode cX1_isDue 8 = .ok (.invokevirtual 44, 3) := by decide +kernel
theorem dX1_isDue_11 : decode cX1_isDue 11 = .ok (.ireturn, 1) := by decide +kernel
theorem dX1_isDue_12 : decode cX1_isDue 12 = .ok (.aload_n 0, 1) := by decide +kernel
theorem dX1_isDue_13 : decode cX1_isDue 13 = .ok (.invokevirtual 44, 3) := by decide +kernel
theorem dX1_isDue_16 : decode cX1_isDue 16 = .ok (.ifCond .ne 8, 3) := by decide +kernel
theorem dX1_isDue_19 : decode cX1_isDue 19 = .ok (.aload_n 0, 1) := by decide +kernel
theorem dX1_isDue_20 : decode cX1_isDue 20 = .ok (.getfield 22, 3) := by decide +kernel
theorem dX1_isDue_23 : decode cX1_isDue 23 = .ok (.ireturn, 1) := by decide +kernel
theorem dX1_isDue_24 : decode cX1_isDue 24 = .ok (.iload_n 1, 1) := by decide +kernel
theorem dX1_isDue_25 : decode cX1_isDue 25 = .ok (.aload_n 0, 1) := by decide +kernel
theorem dX1_isDue_26 : decode cX1_isDue 26 = .ok (.getfield 18, 3) := by decide +kernel
theorem dX1_isDue_29 : decode cX1_isDue 29 = .ok (.isub, 1) := by decide +kernel
theorem dX1_isDue_30 : decode cX1_isDue 30 = .ok (.istore_n 3, 1) := by decide +kernel
theorem dX1_isDue_31 : decode cX1_isDue 31 = .ok (.iload_n 3, 1) := by decide +kernel
theorem dX1_isDue_32 : decode cX1_isDue 32 = .ok (.iload_n 2, 1) := by decide +kernel
theorem dX1_isDue_33 : decode cX1_isDue 33 = .ok (.if_icmp .ge 15, 3) := by decide +kernel
theorem dX1_isDue_36 : decode cX1_isDue 36 = .ok (.iload_n 3, 1) := by decide +kernel
theorem dX1_isDue_37 : decode cX1_isDue 37 = .ok (.iconst 3, 1) := by decide +kernel
theorem dX1_isDue_38 : decode cX1_isDue 38 = .ok (.if_icmp .lt 14, 3) := by decide +kernel
theorem dX1_isDue_41 : decode cX1_isDue 41 = .ok (.aload_n 0, 1) := by decide +kernel
theorem dX1_isDue_42 : decode cX1_isDue 42 = .ok (.invokevirtual 47, 3) := by decide +kernel
theorem dX1_isDue_45 : decode cX1_isDue 45 = .ok (.ifCond .eq 7, 3) := by decide +kernel
theorem dX1_isDue_48 : decode cX1_isDue 48 = .ok (.iconst 1, 1) := by decide +kernel
theorem dX1_isDue_49 : decode cX1_isDue 49 = .ok (.goto 4, 3) := by decide +kernel
theorem dX1_isDue_52 : decode cX1_isDue 52 = .ok (.iconst 0, 1) := by decide +kernel
theorem dX1_isDue_53 : decode cX1_isDue 53 = .ok (.ireturn, 1) := by decide +kernel
theorem dX1_markTold_0 : decode cX1_markTold 0 = .ok (.aload_n 0, 1) := by decide +kernel
theorem dX1_markTold_1 : decode cX1_markTold 1 = .ok (.iload_n 1, 1) := by decide +kernel
theorem dX1_markTold_2 : decode cX1_markTold 2 = .ok (.putfield 18, 3) := by decide +kernel
theorem dX1_markTold_5 : decode cX1_markTold 5 = .ok (.aload_n 0, 1) := by decide +kernel
theorem dX1_markTold_6 : decode cX1_markTold 6 = .ok (.getfield 9, 3) := by decide +kernel
theorem dX1_markTold_9 : decode cX1_markTold 9 = .ok (.iconst 0, 1) := by decide +kernel
theorem dX1_markTold_10 : decode cX1_markTold 10 = .ok (.aload_n 0, 1) := by decide +kernel
theorem dX1_markTold_11 : decode cX1_markTold 11 = .ok (.getfield 15, 3) := by decide +kernel
theorem dX1_markTold_14 : decode cX1_markTold 14 = .ok (.iconst 0, 1) := by decide +kernel
theorem dX1_markTold_15 : decode cX1_markTold 15 = .ok (.bipush 6, 2) := by decide +kernel
theorem dX1_markTold_17 : decode cX1_markTold 17 = .ok (.invokestatic 50, 3) := by decide +kernel
theorem dX1_markTold_20 : decode cX1_markTold 20 = .ok (.return_, 1) := by decide +kernel
theorem dX2_init_0 : decode cX2_init 0 = .ok (.aload_n 0, 1) := by decide +kernel
theorem dX2_init_1 : decode cX2_init 1 = .ok (.invokespecial 3, 3) := by decide +kernel
theorem dX2_init_4 : decode cX2_init 4 = .ok (.aload_n 0, 1) := by decide +kernel
theorem dX2_init_5 : decode cX2_init 5 = .ok (.iload_n 1, 1) := by decide +kernel
theorem dX2_init_6 : decode cX2_init 6 = .ok (.putfield 9, 3) := by decide +kernel
theorem dX2_init_9 : decode cX2_init 9 = .ok (.aload_n 0, 1) := by decide +kernel
theorem dX2_init_10 : decode cX2_init 10 = .ok (.iload_n 2, 1) := by decide +kernel
theorem dX2_init_11 : decode cX2_init 11 = .ok (.putfield 15, 3) := by decide +kernel
theorem dX2_init_14 : decode cX2_init 14 = .ok (.aload_n 0, 1) := by decide +kernel
theorem dX2_init_15 : decode cX2_init 15 = .ok (.iload_n 3, 1) := by decide +kernel
theorem dX2_init_16 : decode cX2_init 16 = .ok (.putfield 18, 3) := by decide +kernel
theorem dX2_init_19 : decode cX2_init 19 = .ok (.return_, 1) := by decide +kernel
theorem dX2_covers_0 : decode cX2_covers 0 = .ok (.iload_n 3, 1) := by decide +kernel
theorem dX2_covers_1 : decode cX2_covers 1 = .ok (.aload_n 0, 1) := by decide +kernel
theorem dX2_covers_2 : decode cX2_covers 2 = .ok (.getfield 18, 3) := by decide +kernel
theorem dX2_covers_5 : decode cX2_covers 5 = .ok (.if_icmp .ge 39, 3) := by decide +kernel
theorem dX2_covers_8 : decode cX2_covers 8 = .ok (.aload_n 0, 1) := by decide +kernel
theorem dX2_covers_9 : decode cX2_covers 9 = .ok (.getfield 9, 3) := by decide +kernel
theorem dX2_covers_12 : decode cX2_covers 12 = .ok (.iconst (-1), 1) := by decide +kernel
theorem dX2_covers_13 : decode cX2_covers 13 = .ok (.if_icmp .eq 11, 3) := by decide +kernel
theorem dX2_covers_16 : decode cX2_covers 16 = .ok (.aload_n 0, 1) := by decide +kernel
theorem dX2_covers_17 : decode cX2_covers 17 = .ok (.getfield 9, 3) := by decide +kernel
theorem dX2_covers_20 : decode cX2_covers 20 = .ok (.iload_n 1, 1) := by decide +kernel
theorem dX2_covers_21 : decode cX2_covers 21 = .ok (.if_icmp .ne 23, 3) := by decide +kernel
theorem dX2_covers_24 : decode cX2_covers 24 = .ok (.aload_n 0, 1) := by decide +kernel
theorem dX2_covers_25 : decode cX2_covers 25 = .ok (.getfield 15, 3) := by decide +kernel
theorem dX2_covers_28 : decode cX2_covers 28 = .ok (.iconst (-1), 1) := by decide +kernel
theorem dX2_covers_29 : decode cX2_covers 29 = .ok (.if_icmp .eq 11, 3) := by decide +kernel
theorem dX2_covers_32 : decode cX2_covers 32 = .ok (.aload_n 0, 1) := by decide +kernel
theorem dX2_covers_33 : decode cX2_covers 33 = .ok (.getfield 15, 3) := by decide +kernel
theorem dX2_covers_36 : decode cX2_covers 36 = .ok (.iload_n 2, 1) := by decide +kernel
theorem dX2_covers_37 : decode cX2_covers 37 = .ok (.if_icmp .ne 7, 3) := by decide +kernel
theorem dX2_covers_40 : decode cX2_covers 40 = .ok (.iconst 1, 1) := by decide +kernel
theorem dX2_covers_41 : decode cX2_covers 41 = .ok (.goto 4, 3) := by decide +kernel
theorem dX2_covers_44 : decode cX2_covers 44 = .ok (.iconst 0, 1) := by decide +kernel
theorem dX2_covers_45 : decode cX2_covers 45 = .ok (.ireturn, 1) := by decide +kernel
theorem dX3_init_0 : decode cX3_init 0 = .ok (.aload_n 0, 1) := by decide +kernel
theorem dX3_init_1 : decode cX3_init 1 = .ok (.invokespecial 3, 3) := by decide +kernel
theorem dX3_init_4 : decode cX3_init 4 = .ok (.aload_n 0, 1) := by decide +kernel
theorem dX3_init_5 : decode cX3_init 5 = .ok (.bipush 30, 2) := by decide +kernel
theorem dX3_init_7 : decode cX3_init 7 = .ok (.iconst 4, 1) := by decide +kernel
theorem dX3_init_8 : decode cX3_init 8 = .ok (.multianewarray 9 2, 4) := by decide +kernel
theorem dX3_init_12 : decode cX3_init 12 = .ok (.putfield 11, 3) := by decide +kernel
theorem dX3_init_15 : decode cX3_init 15 = .ok (.aload_n 0, 1) := by decide +kernel
theorem dX3_init_16 : decode cX3_init 16 = .ok (.iconst 0, 1) := by decide +kernel
theorem dX3_init_17 : decode cX3_init 17 = .ok (.putfield 16, 3) := by decide +kernel
theorem dX3_init_20 : decode cX3_init 20 = .ok (.aload_n 0, 1) := by decide +kernel
theorem dX3_init_21 : decode cX3_init 21 = .ok (.iconst 0, 1) := by decide +kernel
theorem dX3_init_22 : decode cX3_init 22 = .ok (.putfield 20, 3) := by decide +kernel
theorem dX3_init_25 : decode cX3_init 25 = .ok (.aload_n 0, 1) := by decide +kernel
theorem dX3_init_26 : decode cX3_init 26 = .ok (.iconst 0, 1) := by decide +kernel
theorem dX3_init_27 : decode cX3_init 27 = .ok (.putfield 23, 3) := by decide +kernel
theorem dX3_init_30 : decode cX3_init 30 = .ok (.return_, 1) := by decide +kernel
theorem dX3_keep_0 : decode cX3_keep 0 = .ok (.aload_n 0, 1) := by decide +kernel
theorem dX3_keep_1 : decode cX3_keep 1 = .ok (.aload_n 0, 1) := by decide +kernel
theorem dX3_keep_2 : decode cX3_keep 2 = .ok (.getfield 16, 3) := by decide +kernel
theorem dX3_keep_5 : decode cX3_keep 5 = .ok (.iconst 1, 1) := by decide +kernel
theorem dX3_keep_6 : decode cX3_keep 6 = .ok (.iadd, 1) := by decide +kernel
theorem dX3_keep_7 : decode cX3_keep 7 = .ok (.bipush 30, 2) := by decide +kernel
theorem dX3_keep_9 : decode cX3_keep 9 = .ok (.irem, 1) := by decide +kernel
theorem dX3_keep_10 : decode cX3_keep 10 = .ok (.putfield 16, 3) := by decide +kernel
theorem dX3_keep_13 : decode cX3_keep 13 = .ok (.aload_n 0, 1) := by decide +kernel
theorem dX3_keep_14 : decode cX3_keep 14 = .ok (.aload_n 0, 1) := by decide +kernel
theorem dX3_keep_15 : decode cX3_keep 15 = .ok (.getfield 20, 3) := by decide +kernel
theorem dX3_keep_18 : decode cX3_keep 18 = .ok (.iconst 1, 1) := by decide +kernel
theorem dX3_keep_19 : decode cX3_keep 19 = .ok (.iadd, 1) := by decide +kernel
theorem dX3_keep_20 : decode cX3_keep 20 = .ok (.bipush 30, 2) := by decide +kernel
theorem dX3_keep_22 : decode cX3_keep 22 = .ok (.invokestatic 26, 3) := by decide +kernel
theorem dX3_keep_25 : decode cX3_keep 25 = .ok (.putfield 20, 3) := by decide +kernel
theorem dX3_keep_28 : decode cX3_keep 28 = .ok (.aload_n 0, 1) := by decide +kernel
theorem dX3_keep_29 : decode cX3_keep 29 = .ok (.dup, 1) := by decide +kernel
theorem dX3_keep_30 : decode cX3_keep 30 = .ok (.getfield 23, 3) := by decide +kernel
theorem dX3_keep_33 : decode cX3_keep 33 = .ok (.iconst 1, 1) := by decide +kernel
theorem dX3_keep_34 : decode cX3_keep 34 = .ok (.iadd, 1) := by decide +kernel
theorem dX3_keep_35 : decode cX3_keep 35 = .ok (.putfield 23, 3) := by decide +kernel
theorem dX3_keep_38 : decode cX3_keep 38 = .ok (.aload_n 0, 1) := by decide +kernel
theorem dX3_keep_39 : decode cX3_keep 39 = .ok (.getfield 11, 3) := by decide +kernel
theorem dX3_keep_42 : decode cX3_keep 42 = .ok (.aload_n 0, 1) := by decide +kernel
theorem dX3_keep_43 : decode cX3_keep 43 = .ok (.getfield 16, 3) := by decide +kernel
theorem dX3_keep_46 : decode cX3_keep 46 = .ok (.aaload, 1) := by decide +kernel
theorem dX3_keep_47 : decode cX3_keep 47 = .ok (.astore 5, 2) := by decide +kernel
theorem dX3_keep_49 : decode cX3_keep 49 = .ok (.aload 5, 2) := by decide +kernel
theorem dX3_keep_51 : decode cX3_keep 51 = .ok (.iconst 0, 1) := by decide +kernel
theorem dX3_keep_52 : decode cX3_keep 52 = .ok (.iload_n 1, 1) := by decide +kernel
theorem dX3_keep_53 : decode cX3_keep 53 = .ok (.iastore, 1) := by decide +kernel
theorem dX3_keep_54 : decode cX3_keep 54 = .ok (.aload 5, 2) := by decide +kernel
theorem dX3_keep_56 : decode cX3_keep 56 = .ok (.iconst 1, 1) := by decide +kernel
theorem dX3_keep_57 : decode cX3_keep 57 = .ok (.iload_n 2, 1) := by decide +kernel
theorem dX3_keep_58 : decode cX3_keep 58 = .ok (.iastore, 1) := by decide +kernel
theorem dX3_keep_59 : decode cX3_keep 59 = .ok (.aload 5, 2) := by decide +kernel
theorem dX3_keep_61 : decode cX3_keep 61 = .ok (.iconst 2, 1) := by decide +kernel
theorem dX3_keep_62 : decode cX3_keep 62 = .ok (.iload_n 3, 1) := by decide +kernel
theorem dX3_keep_63 : decode cX3_keep 63 = .ok (.iastore, 1) := by decide +kernel
theorem dX3_keep_64 : decode cX3_keep 64 = .ok (.aload 5, 2) := by decide +kernel
theorem dX3_keep_66 : decode cX3_keep 66 = .ok (.iconst 3, 1) := by decide +kernel
theorem dX3_keep_67 : decode cX3_keep 67 = .ok (.iload 4, 2) := by decide +kernel
theorem dX3_keep_69 : decode cX3_keep 69 = .ok (.iastore, 1) := by decide +kernel
theorem dX3_keep_70 : decode cX3_keep 70 = .ok (.return_, 1) := by decide +kernel
theorem dX3_factOf_0 : decode cX3_factOf 0 = .ok (.aload_n 0, 1) := by decide +kernel
theorem dX3_factOf_1 : decode cX3_factOf 1 = .ok (.getfield 11, 3) := by decide +kernel
theorem dX3_factOf_4 : decode cX3_factOf 4 = .ok (.aload_n 0, 1) := by decide +kernel
theorem dX3_factOf_5 : decode cX3_factOf 5 = .ok (.getfield 16, 3) := by decide +kernel
theorem dX3_factOf_8 : decode cX3_factOf 8 = .ok (.iload_n 1, 1) := by decide +kernel
theorem dX3_factOf_9 : decode cX3_factOf 9 = .ok (.isub, 1) := by decide +kernel
theorem dX3_factOf_10 : decode cX3_factOf 10 = .ok (.bipush 30, 2) := by decide +kernel
theorem dX3_factOf_12 : decode cX3_factOf 12 = .ok (.iadd, 1) := by decide +kernel
theorem dX3_factOf_13 : decode cX3_factOf 13 = .ok (.bipush 30, 2) := by decide +kernel
theorem dX3_factOf_15 : decode cX3_factOf 15 = .ok (.irem, 1) := by decide +kernel
theorem dX3_factOf_16 : decode cX3_factOf 16 = .ok (.aaload, 1) := by decide +kernel
theorem dX3_factOf_17 : decode cX3_factOf 17 = .ok (.iload_n 2, 1) := by decide +kernel
theorem dX3_factOf_18 : decode cX3_factOf 18 = .ok (.iaload, 1) := by decide +kernel
theorem dX3_factOf_19 : decode cX3_factOf 19 = .ok (.ireturn, 1) := by decide +kernel
theorem dX4_init_0 : decode cX4_init 0 = .ok (.aload_n 0, 1) := by decide +kernel
theorem dX4_init_1 : decode cX4_init 1 = .ok (.invokespecial 3, 3) := by decide +kernel
theorem dX4_init_4 : decode cX4_init 4 = .ok (.aload_n 0, 1) := by decide +kernel
theorem dX4_init_5 : decode cX4_init 5 = .ok (.iconst 0, 1) := by decide +kernel
theorem dX4_init_6 : decode cX4_init 6 = .ok (.putfield 9, 3) := by decide +kernel
theorem dX4_init_9 : decode cX4_init 9 = .ok (.aload_n 0, 1) := by decide +kernel
theorem dX4_init_10 : decode cX4_init 10 = .ok (.iconst 0, 1) := by decide +kernel
theorem dX4_init_11 : decode cX4_init 11 = .ok (.putfield 15, 3) := by decide +kernel
theorem dX4_init_14 : decode cX4_init 14 = .ok (.aload_n 0, 1) := by decide +kernel
theorem dX4_init_15 : decode cX4_init 15 = .ok (.bipush 12, 2) := by decide +kernel
theorem dX4_init_17 : decode cX4_init 17 = .ok (.anewarray 18, 3) := by decide +kernel
theorem dX4_init_20 : decode cX4_init 20 = .ok (.putfield 20, 3) := by decide +kernel
theorem dX4_init_23 : decode cX4_init 23 = .ok (.aload_n 0, 1) := by decide +kernel
theorem dX4_init_24 : decode cX4_init 24 = .ok (.iload_n 1, 1) := by decide +kernel
theorem dX4_init_25 : decode cX4_init 25 = .ok (.putfield 24, 3) := by decide +kernel
theorem dX4_init_28 : decode cX4_init 28 = .ok (.aload_n 0, 1) := by decide +kernel
theorem dX4_init_29 : decode cX4_init 29 = .ok (.iload_n 2, 1) := by decide +kernel
theorem dX4_init_30 : decode cX4_init 30 = .ok (.putfield 27, 3) := by decide +kernel
theorem dX4_init_33 : decode cX4_init 33 = .ok (.aload_n 0, 1) := by decide +kernel
theorem dX4_init_34 : decode cX4_init 34 = .ok (.iload_n 3, 1) := by decide +kernel
theorem dX4_init_35 : decode cX4_init 35 = .ok (.putfield 30, 3) := by decide +kernel
theorem dX4_init_38 : decode cX4_init 38 = .ok (.aload_n 0, 1) := by decide +kernel
theorem dX4_init_39 : decode cX4_init 39 = .ok (.iload 4, 2) := by decide +kernel
theorem dX4_init_41 : decode cX4_init 41 = .ok (.putfield 33, 3) := by decide +kernel
theorem dX4_init_44 : decode cX4_init 44 = .ok (.aload_n 0, 1) := by decide +kernel
theorem dX4_init_45 : decode cX4_init 45 = .ok (.iload 5, 2) := by decide +kernel
theorem dX4_init_47 : decode cX4_init 47 = .ok (.putfield 36, 3) := by decide +kernel
theorem dX4_init_50 : decode cX4_init 50 = .ok (.iconst 0, 1) := by decide +kernel
theorem dX4_init_51 : decode cX4_init 51 = .ok (.istore 6, 2) := by decide +kernel
theorem dX4_init_53 : decode cX4_init 53 = .ok (.iload 6, 2) := by decide +kernel
theorem dX4_init_55 : decode cX4_init 55 = .ok (.bipush 12, 2) := by decide +kernel
theorem dX4_init_57 : decode cX4_init 57 = .ok (.if_icmp .ge 23, 3) := by decide +kernel
theorem dX4_init_60 : decode cX4_init 60 = .ok (.aload_n 0, 1) := by decide +kernel
theorem dX4_init_61 : decode cX4_init 61 = .ok (.getfield 20, 3) := by decide +kernel
theorem dX4_init_64 : decode cX4_init 64 = .ok (.iload 6, 2) := by decide +kernel
theorem dX4_init_66 : decode cX4_init 66 = .ok (.new 18, 3) := by decide +kernel
theorem dX4_init_69 : decode cX4_init 69 = .ok (.dup, 1) := by decide +kernel
theorem dX4_init_70 : decode cX4_init 70 = .ok (.invokespecial 39, 3) := by decide +kernel
theorem dX4_init_73 : decode cX4_init 73 = .ok (.aastore, 1) := by decide +kernel
theorem dX4_init_74 : decode cX4_init 74 = .ok (.iinc 6 1, 3) := by decide +kernel
theorem dX4_init_77 : decode cX4_init 77 = .ok (.goto (-24), 3) := by decide +kernel
theorem dX4_init_80 : decode cX4_init 80 = .ok (.return_, 1) := by decide +kernel
theorem dX4_takes_0 : decode cX4_takes 0 = .ok (.aload_n 1, 1) := by decide +kernel
theorem dX4_takes_1 : decode cX4_takes 1 = .ok (.getfield 40, 3) := by decide +kernel
theorem dX4_takes_4 : decode cX4_takes 4 = .ok (.aload_n 0, 1) := by decide +kernel
theorem dX4_takes_5 : decode cX4_takes 5 = .ok (.getfield 27, 3) := by decide +kernel
theorem dX4_takes_8 : decode cX4_takes 8 = .ok (.if_icmp .eq 5, 3) := by decide +kernel
theorem dX4_takes_11 : decode cX4_takes 11 = .ok (.iconst 0, 1) := by decide +kernel
theorem dX4_takes_12 : decode cX4_takes 12 = .ok (.ireturn, 1) := by decide +kernel
theorem dX4_takes_13 : decode cX4_takes 13 = .ok (.aload_n 0, 1) := by decide +kernel
theorem dX4_takes_14 : decode cX4_takes 14 = .ok (.getfield 36, 3) := by decide +kernel
theorem dX4_takes_17 : decode cX4_takes 17 = .ok (.lookupswitch 55 #[(0, 27), (1, 41)], 27) := by decide +kernel
theorem dX4_takes_44 : decode cX4_takes 44 = .ok (.aload_n 1, 1) := by decide +kernel
theorem dX4_takes_45 : decode cX4_takes 45 = .ok (.getfield 43, 3) := by decide +kernel
theorem dX4_takes_48 : decode cX4_takes 48 = .ok (.iload_n 2, 1) := by decide +kernel
theorem dX4_takes_49 : decode cX4_takes 49 = .ok (.if_icmp .ne 7, 3) := by decide +kernel
theorem dX4_takes_52 : decode cX4_takes 52 = .ok (.iconst 1, 1) := by decide +kernel
theorem dX4_takes_53 : decode cX4_takes 53 = .ok (.goto 4, 3) := by decide +kernel
theorem dX4_takes_56 : decode cX4_takes 56 = .ok (.iconst 0, 1) := by decide +kernel
theorem dX4_takes_57 : decode cX4_takes 57 = .ok (.ireturn, 1) := by decide +kernel
theorem dX4_takes_58 : decode cX4_takes 58 = .ok (.aload_n 1, 1) := by decide +kernel
theorem dX4_takes_59 : decode cX4_takes 59 = .ok (.getfield 44, 3) := by decide +kernel
theorem dX4_takes_62 : decode cX4_takes 62 = .ok (.iload_n 2, 1) := by decide +kernel
theorem dX4_takes_63 : decode cX4_takes 63 = .ok (.if_icmp .ne 7, 3) := by decide +kernel
theorem dX4_takes_66 : decode cX4_takes 66 = .ok (.iconst 1, 1) := by decide +kernel
theorem dX4_takes_67 : decode cX4_takes 67 = .ok (.goto 4, 3) := by decide +kernel
theorem dX4_takes_70 : decode cX4_takes 70 = .ok (.iconst 0, 1) := by decide +kernel
theorem dX4_takes_71 : decode cX4_takes 71 = .ok (.ireturn, 1) := by decide +kernel
theorem dX4_takes_72 : decode cX4_takes 72 = .ok (.iload_n 2, 1) := by decide +kernel
theorem dX4_takes_73 : decode cX4_takes 73 = .ok (.ifCond .ne 7, 3) := by decide +kernel
theorem dX4_takes_76 : decode cX4_takes 76 = .ok (.iconst 1, 1) := by decide +kernel
theorem dX4_takes_77 : decode cX4_takes 77 = .ok (.goto 4, 3) := by decide +kernel
theorem dX4_takes_80 : decode cX4_takes 80 = .ok (.iconst 0, 1) := by decide +kernel
theorem dX4_takes_81 : decode cX4_takes 81 = .ok (.ireturn, 1) := by decide +kernel
theorem dX4_isBeyond_0 : decode cX4_isBeyond 0 = .ok (.aload_n 0, 1) := by decide +kernel
theorem dX4_isBeyond_1 : decode cX4_isBeyond 1 = .ok (.getfield 47, 3) := by decide +kernel
theorem dX4_isBeyond_4 : decode cX4_isBeyond 4 = .ok (.ifCond .eq 16, 3) := by decide +kernel
theorem dX4_isBeyond_7 : decode cX4_isBeyond 7 = .ok (.iload_n 1, 1) := by decide +kernel
theorem dX4_isBeyond_8 : decode cX4_isBeyond 8 = .ok (.iload_n 2, 1) := by decide +kernel
theorem dX4_isBeyond_9 : decode cX4_isBeyond 9 = .ok (.if_icmp .le 7, 3) := by decide +kernel
theorem dX4_isBeyond_12 : decode cX4_isBeyond 12 = .ok (.iconst 1, 1) := by decide +kernel
theorem dX4_isBeyond_13 : decode cX4_isBeyond 13 = .ok (.goto 17, 3) := by decide +kernel
theorem dX4_isBeyond_16 : decode cX4_isBeyond 16 = .ok (.iconst 0, 1) := by decide +kernel
theorem dX4_isBeyond_17 : decode cX4_isBeyond 17 = .ok (.goto 13, 3) := by decide +kernel
theorem dX4_isBeyond_20 : decode cX4_isBeyond 20 = .ok (.iload_n 1, 1) := by decide +kernel
theorem dX4_isBeyond_21 : decode cX4_isBeyond 21 = .ok (.iload_n 2, 1) := by decide +kernel
theorem dX4_isBeyond_22 : decode cX4_isBeyond 22 = .ok (.if_icmp .ge 7, 3) := by decide +kernel
theorem dX4_isBeyond_25 : decode cX4_isBeyond 25 = .ok (.iconst 1, 1) := by decide +kernel
theorem dX4_isBeyond_26 : decode cX4_isBeyond 26 = .ok (.goto 4, 3) := by decide +kernel
theorem dX4_isBeyond_29 : decode cX4_isBeyond 29 = .ok (.iconst 0, 1) := by decide +kernel
theorem dX4_isBeyond_30 : decode cX4_isBeyond 30 = .ok (.ireturn, 1) := by decide +kernel
theorem dX4_alertOf_0 : decode cX4_alertOf 0 = .ok (.iload_n 1, 1) := by decide +kernel
theorem dX4_alertOf_1 : decode cX4_alertOf 1 = .ok (.iconst 0, 1) := by decide +kernel
theorem dX4_alertOf_2 : decode cX4_alertOf 2 = .ok (.bipush 11, 2) := by decide +kernel
theorem dX4_alertOf_4 : decode cX4_alertOf 4 = .ok (.invokestatic 51, 3) := by decide +kernel
theorem dX4_alertOf_7 : decode cX4_alertOf 7 = .ok (.ifCond .eq 7, 3) := by decide +kernel
theorem dX4_alertOf_10 : decode cX4_alertOf 10 = .ok (.aconst_null, 1) := by decide +kernel
theorem dX4_alertOf_11 : decode cX4_alertOf 11 = .ok (.goto 9, 3) := by decide +kernel
theorem dX4_alertOf_14 : decode cX4_alertOf 14 = .ok (.aload_n 0, 1) := by decide +kernel
theorem dX4_alertOf_15 : decode cX4_alertOf 15 = .ok (.getfield 20, 3) := by decide +kernel
theorem dX4_alertOf_18 : decode cX4_alertOf 18 = .ok (.iload_n 1, 1) := by decide +kernel
theorem dX4_alertOf_19 : decode cX4_alertOf 19 = .ok (.aaload, 1) := by decide +kernel
theorem dX4_alertOf_20 : decode cX4_alertOf 20 = .ok (.areturn, 1) := by decide +kernel
