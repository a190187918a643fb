theorem dX6_countLoud_0 : decode cX6_countLoud 0 = .ok (.iconst 0, 1) := by decide +kernel
theorem dX6_countLoud_1 : decode cX6_countLoud 1 = .ok (.istore_n 2, 1) := by decide +kernel
theorem dX6_countLoud_2 : decode cX6_countLoud 2 = .ok (.iconst 0, 1) := by decide +kernel
theorem dX6_countLoud_3 : decode cX6_countLoud 3 = .ok (.istore_n 3, 1) := by decide +kernel
theorem dX6_countLoud_4 : decode cX6_countLoud 4 = .ok (.iload_n 3, 1) := by decide +kernel
theorem dX6_countLoud_5 : decode cX6_countLoud 5 = .ok (.aload_n 0, 1) := by decide +kernel
theorem dX6_countLoud_6 : decode cX6_countLoud 6 = .ok (.getfield 16, 3) := by decide +kernel
theorem dX6_countLoud_9 : decode cX6_countLoud 9 = .ok (.invokevirtual 70, 3) := by decide +kernel
theorem dX6_countLoud_12 : decode cX6_countLoud 12 = .ok (.if_icmp .ge 53, 3) := by decide +kernel
theorem dX6_countLoud_15 : decode cX6_countLoud 15 = .ok (.aload_n 0, 1) := by decide +kernel
theorem dX6_countLoud_16 : decode cX6_countLoud 16 = .ok (.getfield 16, 3) := by decide +kernel
theorem dX6_countLoud_19 : decode cX6_countLoud 19 = .ok (.iload_n 3, 1) := by decide +kernel
theorem dX6_countLoud_20 : decode cX6_countLoud 20 = .ok (.invokevirtual 180, 3) := by decide +kernel
theorem dX6_countLoud_23 : decode cX6_countLoud 23 = .ok (.checkcast 120, 3) := by decide +kernel
theorem dX6_countLoud_26 : decode cX6_countLoud 26 = .ok (.astore 4, 2) := by decide +kernel
theorem dX6_countLoud_28 : decode cX6_countLoud 28 = .ok (.iconst 0, 1) := by decide +kernel
theorem dX6_countLoud_29 : decode cX6_countLoud 29 = .ok (.istore 5, 2) := by decide +kernel
theorem dX6_countLoud_31 : decode cX6_countLoud 31 = .ok (.iload 5, 2) := by decide +kernel
theorem dX6_countLoud_33 : decode cX6_countLoud 33 = .ok (.bipush 12, 2) := by decide +kernel
theorem dX6_countLoud_35 : decode cX6_countLoud 35 = .ok (.if_icmp .ge 24, 3) := by decide +kernel
theorem dX6_countLoud_38 : decode cX6_countLoud 38 = .ok (.aload_n 0, 1) := by decide +kernel
theorem dX6_countLoud_39 : decode cX6_countLoud 39 = .ok (.aload 4, 2) := by decide +kernel
theorem dX6_countLoud_41 : decode cX6_countLoud 41 = .ok (.iload 5, 2) := by decide +kernel
theorem dX6_countLoud_43 : decode cX6_countLoud 43 = .ok (.iload_n 1, 1) := by decide +kernel
theorem dX6_countLoud_44 : decode cX6_countLoud 44 = .ok (.invokevirtual 239, 3) := by decide +kernel
theorem dX6_countLoud_47 : decode cX6_countLoud 47 = .ok (.ifCond .ne 6, 3) := by decide +kernel
theorem dX6_countLoud_50 : decode cX6_countLoud 50 = .ok (.iinc 2 1, 3) := by decide +kernel
theorem dX6_countLoud_53 : decode cX6_countLoud 53 = .ok (.iinc 5 1, 3) := by decide +kernel
theorem dX6_countLoud_56 : decode cX6_countLoud 56 = .ok (.goto (-25), 3) := by decide +kernel
theorem dX6_countLoud_59 : decode cX6_countLoud 59 = .ok (.iinc 3 1, 3) := by decide +kernel
theorem dX6_countLoud_62 : decode cX6_countLoud 62 = .ok (.goto (-58), 3) := by decide +kernel
theorem dX6_countLoud_65 : decode cX6_countLoud 65 = .ok (.iload_n 2, 1) := by decide +kernel
theorem dX6_countLoud_66 : decode cX6_countLoud 66 = .ok (.ireturn, 1) := by decide +kernel
theorem dX6_countCovered_0 : decode cX6_countCovered 0 = .ok (.iconst 0, 1) := by decide +kernel
theorem dX6_countCovered_1 : decode cX6_countCovered 1 = .ok (.istore_n 2, 1) := by decide +kernel
theorem dX6_countCovered_2 : decode cX6_countCovered 2 = .ok (.iconst 0, 1) := by decide +kernel
theorem dX6_countCovered_3 : decode cX6_countCovered 3 = .ok (.istore_n 3, 1) := by decide +kernel
theorem dX6_countCovered_4 : decode cX6_countCovered 4 = .ok (.iload_n 3, 1) := by decide +kernel
theorem dX6_countCovered_5 : decode cX6_countCovered 5 = .ok (.aload_n 0, 1) := by decide +kernel
theorem dX6_countCovered_6 : decode cX6_countCovered 6 = .ok (.getfield 16, 3) := by decide +kernel
theorem dX6_countCovered_9 : decode cX6_countCovered 9 = .ok (.invokevirtual 70, 3) := by decide +kernel
theorem dX6_countCovered_12 : decode cX6_countCovered 12 = .ok (.if_icmp .ge 71, 3) := by decide +kernel
theorem dX6_countCovered_15 : decode cX6_countCovered 15 = .ok (.aload_n 0, 1) := by decide +kernel
theorem dX6_countCovered_16 : decode cX6_countCovered 16 = .ok (.getfield 16, 3) := by decide +kernel
theorem dX6_countCovered_19 : decode cX6_countCovered 19 = .ok (.iload_n 3, 1) := by decide +kernel
theorem dX6_countCovered_20 : decode cX6_countCovered 20 = .ok (.invokevirtual 180, 3) := by decide +kernel
theorem dX6_countCovered_23 : decode cX6_countCovered 23 = .ok (.checkcast 120, 3) := by decide +kernel
theorem dX6_countCovered_26 : decode cX6_countCovered 26 = .ok (.astore 4, 2) := by decide +kernel
theorem dX6_countCovered_28 : decode cX6_countCovered 28 = .ok (.iconst 0, 1) := by decide +kernel
theorem dX6_countCovered_29 : decode cX6_countCovered 29 = .ok (.istore 5, 2) := by decide +kernel
theorem dX6_countCovered_31 : decode cX6_countCovered 31 = .ok (.iload 5, 2) := by decide +kernel
theorem dX6_countCovered_33 : decode cX6_countCovered 33 = .ok (.bipush 12, 2) := by decide +kernel
theorem dX6_countCovered_35 : decode cX6_countCovered 35 = .ok (.if_icmp .ge 42, 3) := by decide +kernel
theorem dX6_countCovered_38 : decode cX6_countCovered 38 = .ok (.aload 4, 2) := by decide +kernel
theorem dX6_countCovered_40 : decode cX6_countCovered 40 = .ok (.iload 5, 2) := by decide +kernel
theorem dX6_countCovered_42 : decode cX6_countCovered 42 = .ok (.invokevirtual 398, 3) := by decide +kernel
theorem dX6_countCovered_45 : decode cX6_countCovered 45 = .ok (.ifCond .eq 26, 3) := by decide +kernel
theorem dX6_countCovered_48 : decode cX6_countCovered 48 = .ok (.aload_n 1, 1) := by decide +kernel
theorem dX6_countCovered_49 : decode cX6_countCovered 49 = .ok (.iload_n 3, 1) := by decide +kernel
theorem dX6_countCovered_50 : decode cX6_countCovered 50 = .ok (.aload_n 0, 1) := by decide +kernel
theorem dX6_countCovered_51 : decode cX6_countCovered 51 = .ok (.aload 4, 2) := by decide +kernel
theorem dX6_countCovered_53 : decode cX6_countCovered 53 = .ok (.iload 5, 2) := by decide +kernel
theorem dX6_countCovered_55 : decode cX6_countCovered 55 = .ok (.invokevirtual 256, 3) := by decide +kernel
theorem dX6_countCovered_58 : decode cX6_countCovered 58 = .ok (.aload_n 0, 1) := by decide +kernel
theorem dX6_countCovered_59 : decode cX6_countCovered 59 = .ok (.getfield 43, 3) := by decide +kernel
theorem dX6_countCovered_62 : decode cX6_countCovered 62 = .ok (.invokevirtual 395, 3) := by decide +kernel
theorem dX6_countCovered_65 : decode cX6_countCovered 65 = .ok (.ifCond .eq 6, 3) := by decide +kernel
theorem dX6_countCovered_68 : decode cX6_countCovered 68 = .ok (.iinc 2 1, 3) := by decide +kernel
theorem dX6_countCovered_71 : decode cX6_countCovered 71 = .ok (.iinc 5 1, 3) := by decide +kernel
theorem dX6_countCovered_74 : decode cX6_countCovered 74 = .ok (.goto (-43), 3) := by decide +kernel
theorem dX6_countCovered_77 : decode cX6_countCovered 77 = .ok (.iinc 3 1, 3) := by decide +kernel
theorem dX6_countCovered_80 : decode cX6_countCovered 80 = .ok (.goto (-76), 3) := by decide +kernel
theorem dX6_countCovered_83 : decode cX6_countCovered 83 = .ok (.iload_n 2, 1) := by decide +kernel
theorem dX6_countCovered_84 : decode cX6_countCovered 84 = .ok (.ireturn, 1) := by decide +kernel
theorem dX6_dropHushesOf_0 : decode cX6_dropHushesOf 0 = .ok (.aload_n 0, 1) := by decide +kernel
theorem dX6_dropHushesOf_1 : decode cX6_dropHushesOf 1 = .ok (.getfield 19, 3) := by decide +kernel
theorem dX6_dropHushesOf_4 : decode cX6_dropHushesOf 4 = .ok (.invokevirtual 70, 3) := by decide +kernel
theorem dX6_dropHushesOf_7 : decode cX6_dropHushesOf 7 = .ok (.iconst 1, 1) := by decide +kernel
theorem dX6_dropHushesOf_8 : decode cX6_dropHushesOf 8 = .ok (.isub, 1) := by decide +kernel
theorem dX6_dropHushesOf_9 : decode cX6_dropHushesOf 9 = .ok (.istore_n 2, 1) := by decide +kernel
theorem dX6_dropHushesOf_10 : decode cX6_dropHushesOf 10 = .ok (.iload_n 2, 1) := by decide +kernel
theorem dX6_dropHushesOf_11 : decode cX6_dropHushesOf 11 = .ok (.ifCond .lt 36, 3) := by decide +kernel
theorem dX6_dropHushesOf_14 : decode cX6_dropHushesOf 14 = .ok (.aload_n 0, 1) := by decide +kernel
theorem dX6_dropHushesOf_15 : decode cX6_dropHushesOf 15 = .ok (.getfield 19, 3) := by decide +kernel
theorem dX6_dropHushesOf_18 : decode cX6_dropHushesOf 18 = .ok (.iload_n 2, 1) := by decide +kernel
theorem dX6_dropHushesOf_19 : decode cX6_dropHushesOf 19 = .ok (.invokevirtual 180, 3) := by decide +kernel
theorem dX6_dropHushesOf_22 : decode cX6_dropHushesOf 22 = .ok (.checkcast 161, 3) := by decide +kernel
theorem dX6_dropHushesOf_25 : decode cX6_dropHushesOf 25 = .ok (.getfield 260, 3) := by decide +kernel
theorem dX6_dropHushesOf_28 : decode cX6_dropHushesOf 28 = .ok (.iload_n 1, 1) := by decide +kernel
theorem dX6_dropHushesOf_29 : decode cX6_dropHushesOf 29 = .ok (.if_icmp .ne 12, 3) := by decide +kernel
theorem dX6_dropHushesOf_32 : decode cX6_dropHushesOf 32 = .ok (.aload_n 0, 1) := by decide +kernel
theorem dX6_dropHushesOf_33 : decode cX6_dropHushesOf 33 = .ok (.getfield 19, 3) := by decide +kernel
theorem dX6_dropHushesOf_36 : decode cX6_dropHushesOf 36 = .ok (.iload_n 2, 1) := by decide +kernel
theorem dX6_dropHushesOf_37 : decode cX6_dropHushesOf 37 = .ok (.invokevirtual 148, 3) := by decide +kernel
theorem dX6_dropHushesOf_40 : decode cX6_dropHushesOf 40 = .ok (.pop, 1) := by decide +kernel
theorem dX6_dropHushesOf_41 : decode cX6_dropHushesOf 41 = .ok (.iinc 2 (-1), 3) := by decide +kernel
theorem dX6_dropHushesOf_44 : decode cX6_dropHushesOf 44 = .ok (.goto (-34), 3) := by decide +kernel
theorem dX6_dropHushesOf_47 : decode cX6_dropHushesOf 47 = .ok (.return_, 1) := by decide +kernel
theorem dX6_forgetGroups_0 : decode cX6_forgetGroups 0 = .ok (.iconst 0, 1) := by decide +kernel
theorem dX6_forgetGroups_1 : decode cX6_forgetGroups 1 = .ok (.istore_n 1, 1) := by decide +kernel
theorem dX6_forgetGroups_2 : decode cX6_forgetGroups 2 = .ok (.iload_n 1, 1) := by decide +kernel
theorem dX6_forgetGroups_3 : decode cX6_forgetGroups 3 = .ok (.bipush 7, 2) := by decide +kernel
theorem dX6_forgetGroups_5 : decode cX6_forgetGroups 5 = .ok (.if_icmp .ge 18, 3) := by decide +kernel
theorem dX6_forgetGroups_8 : decode cX6_forgetGroups 8 = .ok (.aload_n 0, 1) := by decide +kernel
theorem dX6_forgetGroups_9 : decode cX6_forgetGroups 9 = .ok (.getfield 24, 3) := by decide +kernel
theorem dX6_forgetGroups_12 : decode cX6_forgetGroups 12 = .ok (.iload_n 1, 1) := by decide +kernel
theorem dX6_forgetGroups_13 : decode cX6_forgetGroups 13 = .ok (.aaload, 1) := by decide +kernel
theorem dX6_forgetGroups_14 : decode cX6_forgetGroups 14 = .ok (.invokevirtual 401, 3) := by decide +kernel
theorem dX6_forgetGroups_17 : decode cX6_forgetGroups 17 = .ok (.iinc 1 1, 3) := by decide +kernel
theorem dX6_forgetGroups_20 : decode cX6_forgetGroups 20 = .ok (.goto (-18), 3) := by decide +kernel
theorem dX6_forgetGroups_23 : decode cX6_forgetGroups 23 = .ok (.return_, 1) := by decide +kernel
theorem dX6_sendNotices_0 : decode cX6_sendNotices 0 = .ok (.aload_n 0, 1) := by decide +kernel
theorem dX6_sendNotices_1 : decode cX6_sendNotices 1 = .ok (.invokevirtual 404, 3) := by decide +kernel
theorem dX6_sendNotices_4 : decode cX6_sendNotices 4 = .ok (.iconst 0, 1) := by decide +kernel
theorem dX6_sendNotices_5 : decode cX6_sendNotices 5 = .ok (.istore_n 1, 1) := by decide +kernel
theorem dX6_sendNotices_6 : decode cX6_sendNotices 6 = .ok (.iconst 0, 1) := by decide +kernel
theorem dX6_sendNotices_7 : decode cX6_sendNotices 7 = .ok (.istore_n 2, 1) := by decide +kernel
theorem dX6_sendNotices_8 : decode cX6_sendNotices 8 = .ok (.iload_n 2, 1) := by decide +kernel
theorem dX6_sendNotices_9 : decode cX6_sendNotices 9 = .ok (.bipush 7, 2) := by decide +kernel
theorem dX6_sendNotices_11 : decode cX6_sendNotices 11 = .ok (.if_icmp .ge 71, 3) := by decide +kernel
theorem dX6_sendNotices_14 : decode cX6_sendNotices 14 = .ok (.aload_n 0, 1) := by decide +kernel
theorem dX6_sendNotices_15 : decode cX6_sendNotices 15 = .ok (.getfield 24, 3) := by decide +kernel
theorem dX6_sendNotices_18 : decode cX6_sendNotices 18 = .ok (.iload_n 2, 1) := by decide +kernel
theorem dX6_sendNotices_19 : decode cX6_sendNotices 19 = .ok (.aaload, 1) := by decide +kernel
theorem dX6_sendNotices_20 : decode cX6_sendNotices 20 = .ok (.astore_n 3, 1) := by decide +kernel
theorem dX6_sendNotices_21 : decode cX6_sendNotices 21 = .ok (.aload_n 3, 1) := by decide +kernel
theorem dX6_sendNotices_22 : decode cX6_sendNotices 22 = .ok (.aload_n 0, 1) := by decide +kernel
theorem dX6_sendNotices_23 : decode cX6_sendNotices 23 = .ok (.getfield 43, 3) := by decide +kernel
theorem dX6_sendNotices_26 : decode cX6_sendNotices 26 = .ok (.aload_n 0, 1) := by decide +kernel
theorem dX6_sendNotices_27 : decode cX6_sendNotices 27 = .ok (.getfield 50, 3) := by decide +kernel
theorem dX6_sendNotices_30 : decode cX6_sendNotices 30 = .ok (.invokevirtual 407, 3) := by decide +kernel
theorem dX6_sendNotices_33 : decode cX6_sendNotices 33 = .ok (.ifCond .eq 35, 3) := by decide +kernel
theorem dX6_sendNotices_36 : decode cX6_sendNotices 36 = .ok (.aload_n 0, 1) := by decide +kernel
theorem dX6_sendNotices_37 : decode cX6_sendNotices 37 = .ok (.getfield 32, 3) := by decide +kernel
theorem dX6_sendNotices_40 : decode cX6_sendNotices 40 = .ok (.aload_n 0, 1) := by decide +kernel
theorem dX6_sendNotices_41 : decode cX6_sendNotices 41 = .ok (.getfield 43, 3) := by decide +kernel
theorem dX6_sendNotices_44 : decode cX6_sendNotices 44 = .ok (.iload_n 2, 1) := by decide +kernel
theorem dX6_sendNotices_45 : decode cX6_sendNotices 45 = .ok (.aload_n 3, 1) := by decide +kernel
theorem dX6_sendNotices_46 : decode cX6_sendNotices 46 = .ok (.invokevirtual 410, 3) := by decide +kernel
theorem dX6_sendNotices_49 : decode cX6_sendNotices 49 = .ok (.aload_n 0, 1) := by decide +kernel
theorem dX6_sendNotices_50 : decode cX6_sendNotices 50 = .ok (.aload_n 3, 1) := by decide +kernel
theorem dX6_sendNotices_51 : decode cX6_sendNotices 51 = .ok (.invokevirtual 413, 3) := by decide +kernel
theorem dX6_sendNotices_54 : decode cX6_sendNotices 54 = .ok (.invokevirtual 417, 3) := by decide +kernel
theorem dX6_sendNotices_57 : decode cX6_sendNotices 57 = .ok (.aload_n 3, 1) := by decide +kernel
theorem dX6_sendNotices_58 : decode cX6_sendNotices 58 = .ok (.aload_n 0, 1) := by decide +kernel
theorem dX6_sendNotices_59 : decode cX6_sendNotices 59 = .ok (.getfield 43, 3) := by decide +kernel
theorem dX6_sendNotices_62 : decode cX6_sendNotices 62 = .ok (.invokevirtual 420, 3) := by decide +kernel
theorem dX6_sendNotices_65 : decode cX6_sendNotices 65 = .ok (.iinc 1 1, 3) := by decide +kernel
theorem dX6_sendNotices_68 : decode cX6_sendNotices 68 = .ok (.aload_n 3, 1) := by decide +kernel
theorem dX6_sendNotices_69 : decode cX6_sendNotices 69 = .ok (.aload_n 3, 1) := by decide +kernel
theorem dX6_sendNotices_70 : decode cX6_sendNotices 70 = .ok (.invokevirtual 423, 3) := by decide +kernel
theorem dX6_sendNotices_73 : decode cX6_sendNotices 73 = .ok (.putfield 427, 3) := by decide +kernel
theorem dX6_sendNotices_76 : decode cX6_sendNotices 76 = .ok (.iinc 2 1, 3) := by decide +kernel
theorem dX6_sendNotices_79 : decode cX6_sendNotices 79 = .ok (.goto (-71), 3) := by decide +kernel
theorem dX6_sendNotices_82 : decode cX6_sendNotices 82 = .ok (.iload_n 1, 1) := by decide +kernel
theorem dX6_sendNotices_83 : decode cX6_sendNotices 83 = .ok (.ireturn, 1) := by decide +kernel
theorem dX6_gatherLoud_0 : decode cX6_gatherLoud 0 = .ok (.iconst 0, 1) := by decide +kernel
theorem dX6_gatherLoud_1 : decode cX6_gatherLoud 1 = .ok (.istore_n 1, 1) := by decide +kernel
theorem dX6_gatherLoud_2 : decode cX6_gatherLoud 2 = .ok (.iload_n 1, 1) := by decide +kernel
theorem dX6_gatherLoud_3 : decode cX6_gatherLoud 3 = .ok (.bipush 7, 2) := by decide +kernel
theorem dX6_gatherLoud_5 : decode cX6_gatherLoud 5 = .ok (.if_icmp .ge 18, 3) := by decide +kernel
theorem dX6_gatherLoud_8 : decode cX6_gatherLoud 8 = .ok (.aload_n 0, 1) := by decide +kernel
theorem dX6_gatherLoud_9 : decode cX6_gatherLoud 9 = .ok (.getfield 24, 3) := by decide +kernel
theorem dX6_gatherLoud_12 : decode cX6_gatherLoud 12 = .ok (.iload_n 1, 1) := by decide +kernel
theorem dX6_gatherLoud_13 : decode cX6_gatherLoud 13 = .ok (.aaload, 1) := by decide +kernel
theorem dX6_gatherLoud_14 : decode cX6_gatherLoud 14 = .ok (.invokevirtual 430, 3) := by decide +kernel
theorem dX6_gatherLoud_17 : decode cX6_gatherLoud 17 = .ok (.iinc 1 1, 3) := by decide +kernel
theorem dX6_gatherLoud_20 : decode cX6_gatherLoud 20 = .ok (.goto (-18), 3) := by decide +kernel
theorem dX6_gatherLoud_23 : decode cX6_gatherLoud 23 = .ok (.iconst 0, 1) := by decide +kernel
theorem dX6_gatherLoud_24 : decode cX6_gatherLoud 24 = .ok (.istore_n 1, 1) := by decide +kernel
theorem dX6_gatherLoud_25 : decode cX6_gatherLoud 25 = .ok (.iload_n 1, 1) := by decide +kernel
theorem dX6_gatherLoud_26 : decode cX6_gatherLoud 26 = .ok (.aload_n 0, 1) := by decide +kernel
theorem dX6_gatherLoud_27 : decode cX6_gatherLoud 27 = .ok (.getfield 16, 3) := by decide +kernel
theorem dX6_gatherLoud_30 : decode cX6_gatherLoud 30 = .ok (.invokevirtual 70, 3) := by decide +kernel
theorem dX6_gatherLoud_33 : decode cX6_gatherLoud 33 = .ok (.if_icmp .ge 76, 3) := by decide +kernel
theorem dX6_gatherLoud_36 : decode cX6_gatherLoud 36 = .ok (.aload_n 0, 1) := by decide +kernel
theorem dX6_gatherLoud_37 : decode cX6_gatherLoud 37 = .ok (.getfield 16, 3) := by decide +kernel
theorem dX6_gatherLoud_40 : decode cX6_gatherLoud 40 = .ok (.iload_n 1, 1) := by decide +kernel
theorem dX6_gatherLoud_41 : decode cX6_gatherLoud 41 = .ok (.invokevirtual 180, 3) := by decide +kernel
theorem dX6_gatherLoud_44 : decode cX6_gatherLoud 44 = .ok (.checkcast 120, 3) := by decide +kernel
theorem dX6_gatherLoud_47 : decode cX6_gatherLoud 47 = .ok (.astore_n 2, 1) := by decide +kernel
theorem dX6_gatherLoud_48 : decode cX6_gatherLoud 48 = .ok (.iconst 0, 1) := by decide +kernel
theorem dX6_gatherLoud_49 : decode cX6_gatherLoud 49 = .ok (.istore_n 3, 1) := by decide +kernel
theorem dX6_gatherLoud_50 : decode cX6_gatherLoud 50 = .ok (.iload_n 3, 1) := by decide +kernel
theorem dX6_gatherLoud_51 : decode cX6_gatherLoud 51 = .ok (.bipush 12, 2) := by decide +kernel
theorem dX6_gatherLoud_53 : decode cX6_gatherLoud 53 = .ok (.if_icmp .ge 50, 3) := by decide +kernel
theorem dX6_gatherLoud_56 : decode cX6_gatherLoud 56 = .ok (.aload_n 0, 1) := by decide +kernel
theorem dX6_gatherLoud_57 : decode cX6_gatherLoud 57 = .ok (.aload_n 2, 1) := by decide +kernel
theorem dX6_gatherLoud_58 : decode cX6_gatherLoud 58 = .ok (.iload_n 3, 1) := by decide +kernel
theorem dX6_gatherLoud_59 : decode cX6_gatherLoud 59 = .ok (.invokevirtual 433, 3) := by decide +kernel
theorem dX6_gatherLoud_62 : decode cX6_gatherLoud 62 = .ok (.istore 4, 2) := by decide +kernel
theorem dX6_gatherLoud_64 : decode cX6_gatherLoud 64 = .ok (.iload 4, 2) := by decide +kernel
theorem dX6_gatherLoud_66 : decode cX6_gatherLoud 66 = .ok (.iconst 0, 1) := by decide +kernel
theorem dX6_gatherLoud_67 : decode cX6_gatherLoud 67 = .ok (.bipush 6, 2) := by decide +kernel
theorem dX6_gatherLoud_69 : decode cX6_gatherLoud 69 = .ok (.invokestatic 53, 3) := by decide +kernel
theorem dX6_gatherLoud_72 : decode cX6_gatherLoud 72 = .ok (.ifCond .ne 25, 3) := by decide +kernel
theorem dX6_gatherLoud_75 : decode cX6_gatherLoud 75 = .ok (.aload_n 0, 1) := by decide +kernel
theorem dX6_gatherLoud_76 : decode cX6_gatherLoud 76 = .ok (.aload_n 2, 1) := by decide +kernel
theorem dX6_gatherLoud_77 : decode cX6_gatherLoud 77 = .ok (.iload_n 3, 1) := by decide +kernel
theorem dX6_gatherLoud_78 : decode cX6_gatherLoud 78 = .ok (.iconst (-1), 1) := by decide +kernel
theorem dX6_gatherLoud_79 : decode cX6_gatherLoud 79 = .ok (.invokevirtual 239, 3) := by decide +kernel
theorem dX6_gatherLoud_82 : decode cX6_gatherLoud 82 = .ok (.ifCond .ne 15, 3) := by decide +kernel
theorem dX6_gatherLoud_85 : decode cX6_gatherLoud 85 = .ok (.aload_n 0, 1) := by decide +kernel
theorem dX6_gatherLoud_86 : decode cX6_gatherLoud 86 = .ok (.getfield 24, 3) := by decide +kernel
theorem dX6_gatherLoud_89 : decode cX6_gatherLoud 89 = .ok (.iload 4, 2) := by decide +kernel
theorem dX6_gatherLoud_91 : decode cX6_gatherLoud 91 = .ok (.aaload, 1) := by decide +kernel
theorem dX6_gatherLoud_92 : decode cX6_gatherLoud 92 = .ok (.iload_n 1, 1) := by decide +kernel
theorem dX6_gatherLoud_93 : decode cX6_gatherLoud 93 = .ok (.iload_n 3, 1) := by decide +kernel
theorem dX6_gatherLoud_94 : decode cX6_gatherLoud 94 = .ok (.invokevirtual 436, 3) := by decide +kernel
theorem dX6_gatherLoud_97 : decode cX6_gatherLoud 97 = .ok (.iinc 3 1, 3) := by decide +kernel
theorem dX6_gatherLoud_100 : decode cX6_gatherLoud 100 = .ok (.goto (-50), 3) := by decide +kernel
theorem dX6_gatherLoud_103 : decode cX6_gatherLoud 103 = .ok (.iinc 1 1, 3) := by decide +kernel
theorem dX6_gatherLoud_106 : decode cX6_gatherLoud 106 = .ok (.goto (-81), 3) := by decide +kernel
theorem dX6_gatherLoud_109 : decode cX6_gatherLoud 109 = .ok (.return_, 1) := by decide +kernel
theorem dX6_groupOf_0 : decode cX6_groupOf 0 = .ok (.aload_n 0, 1) := by decide +kernel
theorem dX6_groupOf_1 : decode cX6_groupOf 1 = .ok (.getfield 47, 3) := by decide +kernel
theorem dX6_groupOf_4 : decode cX6_groupOf 4 = .ok (.iconst 1, 1) := by decide +kernel
theorem dX6_groupOf_5 : decode cX6_groupOf 5 = .ok (.if_icmp .ne 8, 3) := by decide +kernel
theorem dX6_groupOf_8 : decode cX6_groupOf 8 = .ok (.aload_n 1, 1) := by decide +kernel
theorem dX6_groupOf_9 : decode cX6_groupOf 9 = .ok (.getfield 253, 3) := by decide +kernel
theorem dX6_groupOf_12 : decode cX6_groupOf 12 = .ok (.ireturn, 1) := by decide +kernel
theorem dX6_groupOf_13 : decode cX6_groupOf 13 = .ok (.aload_n 0, 1) := by decide +kernel
theorem dX6_groupOf_14 : decode cX6_groupOf 14 = .ok (.getfield 47, 3) := by decide +kernel
theorem dX6_groupOf_17 : decode cX6_groupOf 17 = .ok (.iconst 2, 1) := by decide +kernel
theorem dX6_groupOf_18 : decode cX6_groupOf 18 = .ok (.if_icmp .ne 22, 3) := by decide +kernel
theorem dX6_groupOf_21 : decode cX6_groupOf 21 = .ok (.aload_n 0, 1) := by decide +kernel
theorem dX6_groupOf_22 : decode cX6_groupOf 22 = .ok (.aload_n 1, 1) := by decide +kernel
theorem dX6_groupOf_23 : decode cX6_groupOf 23 = .ok (.iload_n 2, 1) := by decide +kernel
theorem dX6_groupOf_24 : decode cX6_groupOf 24 = .ok (.invokevirtual 256, 3) := by decide +kernel
theorem dX6_groupOf_27 : decode cX6_groupOf 27 = .ok (.istore_n 3, 1) := by decide +kernel
theorem dX6_groupOf_28 : decode cX6_groupOf 28 = .ok (.iload_n 3, 1) := by decide +kernel
theorem dX6_groupOf_29 : decode cX6_groupOf 29 = .ok (.iconst (-1), 1) := by decide +kernel
theorem dX6_groupOf_30 : decode cX6_groupOf 30 = .ok (.if_icmp .ne 8, 3) := by decide +kernel
theorem dX6_groupOf_33 : decode cX6_groupOf 33 = .ok (.bipush 6, 2) := by decide +kernel
theorem dX6_groupOf_35 : decode cX6_groupOf 35 = .ok (.goto 4, 3) := by decide +kernel
theorem dX6_groupOf_38 : decode cX6_groupOf 38 = .ok (.iload_n 3, 1) := by decide +kernel
theorem dX6_groupOf_39 : decode cX6_groupOf 39 = .ok (.ireturn, 1) := by decide +kernel
theorem dX6_groupOf_40 : decode cX6_groupOf 40 = .ok (.iconst 0, 1) := by decide +kernel
theorem dX6_groupOf_41 : decode cX6_groupOf 41 = .ok (.ireturn, 1) := by decide +kernel
theorem dX6_greatestRank_0 : decode cX6_greatestRank 0 = .ok (.iconst (-1), 1) := by decide +kernel
theorem dX6_greatestRank_1 : decode cX6_greatestRank 1 = .ok (.istore_n 2, 1) := by decide +kernel
theorem dX6_greatestRank_2 : decode cX6_greatestRank 2 = .ok (.iconst 0, 1) := by decide +kernel
theorem dX6_greatestRank_3 : decode cX6_greatestRank 3 = .ok (.istore_n 3, 1) := by decide +kernel
theorem dX6_greatestRank_4 : decode cX6_greatestRank 4 = .ok (.iload_n 3, 1) := by decide +kernel
theorem dX6_greatestRank_5 : decode cX6_greatestRank 5 = .ok (.aload_n 0, 1) := by decide +kernel
theorem dX6_greatestRank_6 : decode cX6_greatestRank 6 = .ok (.getfield 16, 3) := by decide +kernel
theorem dX6_greatestRank_9 : decode cX6_greatestRank 9 = .ok (.invokevirtual 70, 3) := by decide +kernel
theorem dX6_greatestRank_12 : decode cX6_greatestRank 12 = .ok (.if_icmp .ge 36, 3) := by decide +kernel
theorem dX6_greatestRank_15 : decode cX6_greatestRank 15 = .ok (.aload_n 1, 1) := by decide +kernel
theorem dX6_greatestRank_16 : decode cX6_greatestRank 16 = .ok (.iload_n 3, 1) := by decide +kernel
theorem dX6_greatestRank_17 : decode cX6_greatestRank 17 = .ok (.invokevirtual 440, 3) := by decide +kernel
theorem dX6_greatestRank_20 : decode cX6_greatestRank 20 = .ok (.ifCond .eq 22, 3) := by decide +kernel
theorem dX6_greatestRank_23 : decode cX6_greatestRank 23 = .ok (.iload_n 2, 1) := by decide +kernel
theorem dX6_greatestRank_24 : decode cX6_greatestRank 24 = .ok (.aload_n 0, 1) := by decide +kernel
theorem dX6_greatestRank_25 : decode cX6_greatestRank 25 = .ok (.getfield 16, 3) := by decide +kernel
theorem dX6_greatestRank_28 : decode cX6_greatestRank 28 = .ok (.iload_n 3, 1) := by decide +kernel
theorem dX6_greatestRank_29 : decode cX6_greatestRank 29 = .ok (.invokevirtual 180, 3) := by decide +kernel
theorem dX6_greatestRank_32 : decode cX6_greatestRank 32 = .ok (.checkcast 120, 3) := by decide +kernel
theorem dX6_greatestRank_35 : decode cX6_greatestRank 35 = .ok (.getfield 143, 3) := by decide +kernel
theorem dX6_greatestRank_38 : decode cX6_greatestRank 38 = .ok (.invokestatic 443, 3) := by decide +kernel
theorem dX6_greatestRank_41 : decode cX6_greatestRank 41 = .ok (.istore_n 2, 1) := by decide +kernel
theorem dX6_greatestRank_42 : decode cX6_greatestRank 42 = .ok (.iinc 3 1, 3) := by decide +kernel
theorem dX6_greatestRank_45 : decode cX6_greatestRank 45 = .ok (.goto (-41), 3) := by decide +kernel
theorem dX6_greatestRank_48 : decode cX6_greatestRank 48 = .ok (.iload_n 2, 1) := by decide +kernel
theorem dX6_greatestRank_49 : decode cX6_greatestRank 49 = .ok (.ireturn, 1) := by decide +kernel
theorem dJ6_bitCount_0f7a4_0 : decode cJ6_bitCount_0f7a4 0 = .ok (.iload_n 0, 1) := by decide +kernel
theorem dJ6_bitCount_0f7a4_1 : decode cJ6_bitCount_0f7a4 1 = .ok (.iload_n 0, 1) := by decide +kernel
theorem dJ6_bitCount_0f7a4_2 : decode cJ6_bitCount_0f7a4 2 = .ok (.iconst 1, 1) := by decide +kernel
theorem dJ6_bitCount_0f7a4_3 : decode cJ6_bitCount_0f7a4 3 = .ok (.iushr, 1) := by decide +kernel
theorem dJ6_bitCount_0f7a4_4 : decode cJ6_bitCount_0f7a4 4 = .ok (.ldc_w 265, 3) := by decide +kernel
theorem dJ6_bitCount_0f7a4_7 : decode cJ6_bitCount_0f7a4 7 = .ok (.iand, 1) := by decide +kernel
theorem dJ6_bitCount_0f7a4_8 : decode cJ6_bitCount_0f7a4 8 = .ok (.isub, 1) := by decide +kernel
theorem dJ6_bitCount_0f7a4_9 : decode cJ6_bitCount_0f7a4 9 = .ok (.istore_n 0, 1) := by decide +kernel
theorem dJ6_bitCount_0f7a4_10 : decode cJ6_bitCount_0f7a4 10 = .ok (.iload_n 0, 1) := by decide +kernel
theorem dJ6_bitCount_0f7a4_11 : decode cJ6_bitCount_0f7a4 11 = .ok (.ldc_w 266, 3) := by decide +kernel
theorem dJ6_bitCount_0f7a4_14 : decode cJ6_bitCount_0f7a4 14 = .ok (.iand, 1) := by decide +kernel
theorem dJ6_bitCount_0f7a4_15 : decode cJ6_bitCount_0f7a4 15 = .ok (.iload_n 0, 1) := by decide +kernel
theorem dJ6_bitCount_0f7a4_16 : decode cJ6_bitCount_0f7a4 16 = .ok (.iconst 2, 1) := by decide +kernel
theorem dJ6_bitCount_0f7a4_17 : decode cJ6_bitCount_0f7a4 17 = .ok (.iushr, 1) := by decide +kernel
theorem dJ6_bitCount_0f7a4_18 : decode cJ6_bitCount_0f7a4 18 = .ok (.ldc_w 266, 3) := by decide +kernel
theorem dJ6_bitCount_0f7a4_21 : decode cJ6_bitCount_0f7a4 21 = .ok (.iand, 1) := by decide +kernel
theorem dJ6_bitCount_0f7a4_22 : decode cJ6_bitCount_0f7a4 22 = .ok (.iadd, 1) := by decide +kernel
theorem dJ6_bitCount_0f7a4_23 : decode cJ6_bitCount_0f7a4 23 = .ok (.istore_n 0, 1) := by decide +kernel
theorem dJ6_bitCount_0f7a4_24 : decode cJ6_bitCount_0f7a4 24 = .ok (.iload_n 0, 1) := by decide +kernel
theorem dJ6_bitCount_0f7a4_25 : decode cJ6_bitCount_0f7a4 25 = .ok (.iload_n 0, 1) := by decide +kernel
theorem dJ6_bitCount_0f7a4_26 : decode cJ6_bitCount_0f7a4 26 = .ok (.iconst 4, 1) := by decide +kernel
theorem dJ6_bitCount_0f7a4_27 : decode cJ6_bitCount_0f7a4 27 = .ok (.iushr, 1) := by decide +kernel
theorem dJ6_bitCount_0f7a4_28 : decode cJ6_bitCount_0f7a4 28 = .ok (.iadd, 1) := by decide +kernel
theorem dJ6_bitCount_0f7a4_29 : decode cJ6_bitCount_0f7a4 29 = .ok (.ldc_w 267, 3) := by decide +kernel
theorem dJ6_bitCount_0f7a4_32 : decode cJ6_bitCount_0f7a4 32 = .ok (.iand, 1) := by decide +kernel
theorem dJ6_bitCount_0f7a4_33 : decode cJ6_bitCount_0f7a4 33 = .ok (.istore_n 0, 1) := by decide +kernel
theorem dJ6_bitCount_0f7a4_34 : decode cJ6_bitCount_0f7a4 34 = .ok (.iload_n 0, 1) := by decide +kernel
theorem dJ6_bitCount_0f7a4_35 : decode cJ6_bitCount_0f7a4 35 = .ok (.iload_n 0, 1) := by decide +kernel
theorem dJ6_bitCount_0f7a4_36 : decode cJ6_bitCount_0f7a4 36 = .ok (.bipush 8, 2) := by decide +kernel
theorem dJ6_bitCount_0f7a4_38 : decode cJ6_bitCount_0f7a4 38 = .ok (.iushr, 1) := by decide +kernel
theorem dJ6_bitCount_0f7a4_39 : decode cJ6_bitCount_0f7a4 39 = .ok (.iadd, 1) := by decide +kernel
theorem dJ6_bitCount_0f7a4_40 : decode cJ6_bitCount_0f7a4 40 = .ok (.istore_n 0, 1) := by decide +kernel
theorem dJ6_bitCount_0f7a4_41 : decode cJ6_bitCount_0f7a4 41 = .ok (.iload_n 0, 1) := by decide +kernel
theorem dJ6_bitCount_0f7a4_42 : decode cJ6_bitCount_0f7a4 42 = .ok (.iload_n 0, 1) := by decide +kernel
theorem dJ6_bitCount_0f7a4_43 : decode cJ6_bitCount_0f7a4 43 = .ok (.bipush 16, 2) := by decide +kernel
theorem dJ6_bitCount_0f7a4_45 : decode cJ6_bitCount_0f7a4 45 = .ok (.iushr, 1) := by decide +kernel
theorem dJ6_bitCount_0f7a4_46 : decode cJ6_bitCount_0f7a4 46 = .ok (.iadd, 1) := by decide +kernel
theorem dJ6_bitCount_0f7a4_47 : decode cJ6_bitCount_0f7a4 47 = .ok (.istore_n 0, 1) := by decide +kernel
theorem dJ6_bitCount_0f7a4_48 : decode cJ6_bitCount_0f7a4 48 = .ok (.iload_n 0, 1) := by decide +kernel
theorem dJ6_bitCount_0f7a4_49 : decode cJ6_bitCount_0f7a4 49 = .ok (.bipush 63, 2) := by decide +kernel
theorem dJ6_bitCount_0f7a4_51 : decode cJ6_bitCount_0f7a4 51 = .ok (.iand, 1) := by decide +kernel
theorem dJ6_bitCount_0f7a4_52 : decode cJ6_bitCount_0f7a4 52 = .ok (.ireturn, 1) := by decide +kernel
theorem dJ9_max_7cf53_0 : decode cJ9_max_7cf53 0 = .ok (.iload_n 0, 1) := by decide +kernel
theorem dJ9_max_7cf53_1 : decode cJ9_max_7cf53 1 = .ok (.iload_n 1, 1) := by decide +kernel
theorem dJ9_max_7cf53_2 : decode cJ9_max_7cf53 2 = .ok (.if_icmp .lt 7, 3) := by decide +kernel
theorem dJ9_max_7cf53_5 : decode cJ9_max_7cf53 5 = .ok (.iload_n 0, 1) := by decide +kernel
theorem dJ9_max_7cf53_6 : decode cJ9_max_7cf53 6 = .ok (.goto 4, 3) := by decide +kernel
theorem dJ9_max_7cf53_9 : decode cJ9_max_7cf53 9 = .ok (.iload_n 1, 1) := by decide +kernel
theorem dJ9_max_7cf53_10 : decode cJ9_max_7cf53 10 = .ok (.ireturn, 1) := by decide +kernel
theorem dJ9_min_7cf53_0 : decode cJ9_min_7cf53 0 = .ok (.iload_n 0, 1) := by decide +kernel
theorem dJ9_min_7cf53_1 : decode cJ9_min_7cf53 1 = .ok (.iload_n 1, 1) := by decide +kernel
theorem dJ9_min_7cf53_2 : decode cJ9_min_7cf53 2 = .ok (.if_icmp .gt 7, 3) := by decide +kernel
theorem dJ9_min_7cf53_5 : decode cJ9_min_7cf53 5 = .ok (.iload_n 0, 1) := by decide +kernel
theorem dJ9_min_7cf53_6 : decode cJ9_min_7cf53 6 = .ok (.goto 4, 3) := by decide +kernel
theorem dJ9_min_7cf53_9 : decode cJ9_min_7cf53 9 = .ok (.iload_n 1, 1) := by decide +kernel
theorem dJ9_min_7cf53_10 : decode cJ9_min_7cf53 10 = .ok (.ireturn, 1) := by decide +kernel
theorem dJxa1e45_init_da8c8_0 : decode cJxa1e45_init_da8c8 0 = .ok (.aload_n 0, 1) := by decide +kernel
theorem dJxa1e45_init_da8c8_1 : decode cJxa1e45_init_da8c8 1 = .ok (.invokespecial 1, 3) := by decide +kernel
theorem dJxa1e45_init_da8c8_4 : decode cJxa1e45_init_da8c8 4 = .ok (.return_, 1) := by decide +kernel
theorem dJxc12de_init_da8c8_0 : decode cJxc12de_init_da8c8 0 = .ok (.aload_n 0, 1) := by decide +kernel
theorem dJxc12de_init_da8c8_1 : decode cJxc12de_init_da8c8 1 = .ok (.invokespecial 1, 3) := by decide +kernel
theorem dJxc12de_init_da8c8_4 : decode cJxc12de_init_da8c8 4 = .ok (.aload_n 0, 1) := by decide +kernel
theorem dJxc12de_init_da8c8_5 : decode cJxc12de_init_da8c8 5 = .ok (.iconst 0, 1) := by decide +kernel
theorem dJxc12de_init_da8c8_6 : decode cJxc12de_init_da8c8 6 = .ok (.putfield 7, 3) := by decide +kernel
theorem dJxc12de_init_da8c8_9 : decode cJxc12de_init_da8c8 9 = .ok (.return_, 1) := by decide +kernel
theorem dJx4a65c_init_da8c8_0 : decode cJx4a65c_init_da8c8 0 = .ok (.aload_n 0, 1) := by decide +kernel
theorem dJx4a65c_init_da8c8_1 : decode cJx4a65c_init_da8c8 1 = .ok (.invokespecial 1, 3) := by decide +kernel
theorem dJx4a65c_init_da8c8_4 : decode cJx4a65c_init_da8c8 4 = .ok (.aload_n 0, 1) := by decide +kernel
theorem dJx4a65c_init_da8c8_5 : decode cJx4a65c_init_da8c8 5 = .ok (.getstatic 39, 3) := by decide +kernel
theorem dJx4a65c_init_da8c8_8 : decode cJx4a65c_init_da8c8 8 = .ok (.putfield 9, 3) := by decide +kernel
theorem dJx4a65c_init_da8c8_11 : decode cJx4a65c_init_da8c8 11 = .ok (.return_, 1) := by decide +kernel
theorem dJx4a65c_grow_92f84_0 : decode cJx4a65c_grow_92f84 0 = .ok (.aload_n 0, 1) := by decide +kernel
theorem dJx4a65c_grow_92f84_1 : decode cJx4a65c_grow_92f84 1 = .ok (.getfield 9, 3) := by decide +kernel
theorem dJx4a65c_grow_92f84_4 : decode cJx4a65c_grow_92f84 4 = .ok (.arraylength, 1) := by decide +kernel
theorem dJx4a65c_grow_92f84_5 : decode cJx4a65c_grow_92f84 5 = .ok (.istore_n 2, 1) := by decide +kernel
theorem dJx4a65c_grow_92f84_6 : decode cJx4a65c_grow_92f84 6 = .ok (.iload_n 2, 1) := by decide +kernel
theorem dJx4a65c_grow_92f84_7 : decode cJx4a65c_grow_92f84 7 = .ok (.ifCond .gt 13, 3) := by decide +kernel
theorem dJx4a65c_grow_92f84_10 : decode cJx4a65c_grow_92f84 10 = .ok (.aload_n 0, 1) := by decide +kernel
theorem dJx4a65c_grow_92f84_11 : decode cJx4a65c_grow_92f84 11 = .ok (.getfield 9, 3) := by decide +kernel
theorem dJx4a65c_grow_92f84_14 : decode cJx4a65c_grow_92f84 14 = .ok (.getstatic 39, 3) := by decide +kernel
theorem dJx4a65c_grow_92f84_17 : decode cJx4a65c_grow_92f84 17 = .ok (.if_acmp .eq 28, 3) := by decide +kernel
theorem dJx4a65c_grow_92f84_20 : decode cJx4a65c_grow_92f84 20 = .ok (.iload_n 2, 1) := by decide +kernel
theorem dJx4a65c_grow_92f84_21 : decode cJx4a65c_grow_92f84 21 = .ok (.iload_n 1, 1) := by decide +kernel
theorem dJx4a65c_grow_92f84_22 : decode cJx4a65c_grow_92f84 22 = .ok (.iload_n 2, 1) := by decide +kernel
theorem dJx4a65c_grow_92f84_23 : decode cJx4a65c_grow_92f84 23 = .ok (.isub, 1) := by decide +kernel
theorem dJx4a65c_grow_92f84_24 : decode cJx4a65c_grow_92f84 24 = .ok (.iload_n 2, 1) := by decide +kernel
theorem dJx4a65c_grow_92f84_25 : decode cJx4a65c_grow_92f84 25 = .ok (.iconst 1, 1) := by decide +kernel
theorem dJx4a65c_grow_92f84_26 : decode cJx4a65c_grow_92f84 26 = .ok (.ishr, 1) := by decide +kernel
theorem dJx4a65c_grow_92f84_27 : decode cJx4a65c_grow_92f84 27 = .ok (.invokestatic 73, 3) := by decide +kernel
theorem dJx4a65c_grow_92f84_30 : decode cJx4a65c_grow_92f84 30 = .ok (.istore_n 3, 1) := by decide +kernel
theorem dJx4a65c_grow_92f84_31 : decode cJx4a65c_grow_92f84 31 = .ok (.aload_n 0, 1) := by decide +kernel
theorem dJx4a65c_grow_92f84_32 : decode cJx4a65c_grow_92f84 32 = .ok (.aload_n 0, 1) := by decide +kernel
theorem dJx4a65c_grow_92f84_33 : decode cJx4a65c_grow_92f84 33 = .ok (.getfield 9, 3) := by decide +kernel
theorem dJx4a65c_grow_92f84_36 : decode cJx4a65c_grow_92f84 36 = .ok (.iload_n 3, 1) := by decide +kernel
theorem dJx4a65c_grow_92f84_37 : decode cJx4a65c_grow_92f84 37 = .ok (.invokestatic 66, 3) := by decide +kernel
theorem dJx4a65c_grow_92f84_40 : decode cJx4a65c_grow_92f84 40 = .ok (.dup_x1, 1) := by decide +kernel
theorem dJx4a65c_grow_92f84_41 : decode cJx4a65c_grow_92f84 41 = .ok (.putfield 9, 3) := by decide +kernel
theorem dJx4a65c_grow_92f84_44 : decode cJx4a65c_grow_92f84 44 = .ok (.areturn, 1) := by decide +kernel
theorem dJx4a65c_grow_92f84_45 : decode cJx4a65c_grow_92f84 45 = .ok (.aload_n 0, 1) := by decide +kernel
theorem dJx4a65c_grow_92f84_46 : decode cJx4a65c_grow_92f84 46 = .ok (.bipush 10, 2) := by decide +kernel
theorem dJx4a65c_grow_92f84_48 : decode cJx4a65c_grow_92f84 48 = .ok (.iload_n 1, 1) := by decide +kernel
theorem dJx4a65c_grow_92f84_49 : decode cJx4a65c_grow_92f84 49 = .ok (.invokestatic 79, 3) := by decide +kernel
theorem dJx4a65c_grow_92f84_52 : decode cJx4a65c_grow_92f84 52 = .ok (.anewarray 7, 3) := by decide +kernel
theorem dJx4a65c_grow_92f84_55 : decode cJx4a65c_grow_92f84 55 = .ok (.dup_x1, 1) := by decide +kernel
theorem dJx4a65c_grow_92f84_56 : decode cJx4a65c_grow_92f84 56 = .ok (.putfield 9, 3) := by decide +kernel
theorem dJx4a65c_grow_92f84_59 : decode cJx4a65c_grow_92f84 59 = .ok (.areturn, 1) := by decide +kernel
theorem dJx4a65c_grow_d5877_0 : decode cJx4a65c_grow_d5877 0 = .ok (.aload_n 0, 1) := by decide +kernel
theorem dJx4a65c_grow_d5877_1 : decode cJx4a65c_grow_d5877 1 = .ok (.aload_n 0, 1) := by decide +kernel
theorem dJx4a65c_grow_d5877_2 : decode cJx4a65c_grow_d5877 2 = .ok (.getfield 48, 3) := by decide +kernel
theorem dJx4a65c_grow_d5877_5 : decode cJx4a65c_grow_d5877 5 = .ok (.iconst 1, 1) := by decide +kernel
theorem dJx4a65c_grow_d5877_6 : decode cJx4a65c_grow_d5877 6 = .ok (.iadd, 1) := by decide +kernel
theorem dJx4a65c_grow_d5877_7 : decode cJx4a65c_grow_d5877 7 = .ok (.invokevirtual 69, 3) := by decide +kernel
theorem dJx4a65c_grow_d5877_10 : decode cJx4a65c_grow_d5877 10 = .ok (.areturn, 1) := by decide +kernel
theorem dJx4a65c_size_8abf5_0 : decode cJx4a65c_size_8abf5 0 = .ok (.aload_n 0, 1) := by decide +kernel
theorem dJx4a65c_size_8abf5_1 : decode cJx4a65c_size_8abf5 1 = .ok (.getfield 48, 3) := by decide +kernel
theorem dJx4a65c_size_8abf5_4 : decode cJx4a65c_size_8abf5 4 = .ok (.ireturn, 1) := by decide +kernel
theorem dJx4a65c_elementData_915e3_0 : decode cJx4a65c_elementData_915e3 0 = .ok (.aload_n 0, 1) := by decide +kernel
theorem dJx4a65c_elementData_915e3_1 : decode cJx4a65c_elementData_915e3 1 = .ok (.getfield 9, 3) := by decide +kernel
theorem dJx4a65c_elementData_915e3_4 : decode cJx4a65c_elementData_915e3 4 = .ok (.iload_n 1, 1) := by decide +kernel
theorem dJx4a65c_elementData_915e3_5 : decode cJx4a65c_elementData_915e3 5 = .ok (.aaload, 1) := by decide +kernel
theorem dJx4a65c_elementData_915e3_6 : decode cJx4a65c_elementData_915e3 6 = .ok (.areturn, 1) := by decide +kernel
theorem dJx4a65c_get_915e3_0 : decode cJx4a65c_get_915e3 0 = .ok (.iload_n 1, 1) := by decide +kernel
theorem dJx4a65c_get_915e3_1 : decode cJx4a65c_get_915e3 1 = .ok (.aload_n 0, 1) := by decide +kernel
theorem dJx4a65c_get_915e3_2 : decode cJx4a65c_get_915e3 2 = .ok (.getfield 48, 3) := by decide +kernel
theorem dJx4a65c_get_915e3_5 : decode cJx4a65c_get_915e3 5 = .ok (.invokestatic 118, 3) := by decide +kernel
theorem dJx4a65c_get_915e3_8 : decode cJx4a65c_get_915e3 8 = .ok (.pop, 1) := by decide +kernel
theorem dJx4a65c_get_915e3_9 : decode cJx4a65c_get_915e3 9 = .ok (.aload_n 0, 1) := by decide +kernel
theorem dJx4a65c_get_915e3_10 : decode cJx4a65c_get_915e3 10 = .ok (.iload_n 1, 1) := by decide +kernel
theorem dJx4a65c_get_915e3_11 : decode cJx4a65c_get_915e3 11 = .ok (.invokevirtual 123, 3) := by decide +kernel
theorem dJx4a65c_get_915e3_14 : decode cJx4a65c_get_915e3 14 = .ok (.areturn, 1) := by decide +kernel
theorem dJx4a65c_add_72be8_0 : decode cJx4a65c_add_72be8 0 = .ok (.iload_n 3, 1) := by decide +kernel
theorem dJx4a65c_add_72be8_1 : decode cJx4a65c_add_72be8 1 = .ok (.aload_n 2, 1) := by decide +kernel
theorem dJx4a65c_add_72be8_2 : decode cJx4a65c_add_72be8 2 = .ok (.arraylength, 1) := by decide +kernel
theorem dJx4a65c_add_72be8_3 : decode cJx4a65c_add_72be8 3 = .ok (.if_icmp .ne 8, 3) := by decide +kernel
theorem dJx4a65c_add_72be8_6 : decode cJx4a65c_add_72be8 6 = .ok (.aload_n 0, 1) := by decide +kernel
theorem dJx4a65c_add_72be8_7 : decode cJx4a65c_add_72be8 7 = .ok (.invokevirtual 129, 3) := by decide +kernel
theorem dJx4a65c_add_72be8_10 : decode cJx4a65c_add_72be8 10 = .ok (.astore_n 2, 1) := by decide +kernel
theorem dJx4a65c_add_72be8_11 : decode cJx4a65c_add_72be8 11 = .ok (.aload_n 2, 1) := by decide +kernel
theorem dJx4a65c_add_72be8_12 : decode cJx4a65c_add_72be8 12 = .ok (.iload_n 3, 1) := by decide +kernel
theorem dJx4a65c_add_72be8_13 : decode cJx4a65c_add_72be8 13 = .ok (.aload_n 1, 1) := by decide +kernel
theorem dJx4a65c_add_72be8_14 : decode cJx4a65c_add_72be8 14 = .ok (.aastore, 1) := by decide +kernel
theorem dJx4a65c_add_72be8_15 : decode cJx4a65c_add_72be8 15 = .ok (.aload_n 0, 1) := by decide +kernel
theorem dJx4a65c_add_72be8_16 : decode cJx4a65c_add_72be8 16 = .ok (.iload_n 3, 1) := by decide +kernel
theorem dJx4a65c_add_72be8_17 : decode cJx4a65c_add_72be8 17 = .ok (.iconst 1, 1) := by decide +kernel
theorem dJx4a65c_add_72be8_18 : decode cJx4a65c_add_72be8 18 = .ok (.iadd, 1) := by decide +kernel
theorem dJx4a65c_add_72be8_19 : decode cJx4a65c_add_72be8 19 = .ok (.putfield 48, 3) := by decide +kernel
theorem dJx4a65c_add_72be8_22 : decode cJx4a65c_add_72be8 22 = .ok (.return_, 1) := by decide +kernel
theorem dJx4a65c_add_9ea2d_0 : decode cJx4a65c_add_9ea2d 0 = .ok (.aload_n 0, 1) := by decide +kernel
theorem dJx4a65c_add_9ea2d_1 : decode cJx4a65c_add_9ea2d 1 = .ok (.dup, 1) := by decide +kernel
theorem dJx4a65c_add_9ea2d_2 : decode cJx4a65c_add_9ea2d 2 = .ok (.getfield 63, 3) := by decide +kernel
theorem dJx4a65c_add_9ea2d_5 : decode cJx4a65c_add_9ea2d 5 = .ok (.iconst 1, 1) := by decide +kernel
theorem dJx4a65c_add_9ea2d_6 : decode cJx4a65c_add_9ea2d 6 = .ok (.iadd, 1) := by decide +kernel
theorem dJx4a65c_add_9ea2d_7 : decode cJx4a65c_add_9ea2d 7 = .ok (.putfield 63, 3) := by decide +kernel
theorem dJx4a65c_add_9ea2d_10 : decode cJx4a65c_add_9ea2d 10 = .ok (.aload_n 0, 1) := by decide +kernel
theorem dJx4a65c_add_9ea2d_11 : decode cJx4a65c_add_9ea2d 11 = .ok (.aload_n 1, 1) := by decide +kernel
theorem dJx4a65c_add_9ea2d_12 : decode cJx4a65c_add_9ea2d 12 = .ok (.aload_n 0, 1) := by decide +kernel
theorem dJx4a65c_add_9ea2d_13 : decode cJx4a65c_add_9ea2d 13 = .ok (.getfield 9, 3) := by decide +kernel
theorem dJx4a65c_add_9ea2d_16 : decode cJx4a65c_add_9ea2d 16 = .ok (.aload_n 0, 1) := by decide +kernel
theorem dJx4a65c_add_9ea2d_17 : decode cJx4a65c_add_9ea2d 17 = .ok (.getfield 48, 3) := by decide +kernel
theorem dJx4a65c_add_9ea2d_20 : decode cJx4a65c_add_9ea2d 20 = .ok (.invokevirtual 131, 3) := by decide +kernel
theorem dJx4a65c_add_9ea2d_23 : decode cJx4a65c_add_9ea2d 23 = .ok (.iconst 1, 1) := by decide +kernel
theorem dJx4a65c_add_9ea2d_24 : decode cJx4a65c_add_9ea2d 24 = .ok (.ireturn, 1) := by decide +kernel
theorem dJx4a65c_remove_915e3_0 : decode cJx4a65c_remove_915e3 0 = .ok (.iload_n 1, 1) := by decide +kernel
theorem dJx4a65c_remove_915e3_1 : decode cJx4a65c_remove_915e3 1 = .ok (.aload_n 0, 1) := by decide +kernel
theorem dJx4a65c_remove_915e3_2 : decode cJx4a65c_remove_915e3 2 = .ok (.getfield 48, 3) := by decide +kernel
theorem dJx4a65c_remove_915e3_5 : decode cJx4a65c_remove_915e3 5 = .ok (.invokestatic 118, 3) := by decide +kernel
theorem dJx4a65c_remove_915e3_8 : decode cJx4a65c_remove_915e3 8 = .ok (.pop, 1) := by decide +kernel
theorem dJx4a65c_remove_915e3_9 : decode cJx4a65c_remove_915e3 9 = .ok (.aload_n 0, 1) := by decide +kernel
theorem dJx4a65c_remove_915e3_10 : decode cJx4a65c_remove_915e3 10 = .ok (.getfield 9, 3) := by decide +kernel
theorem dJx4a65c_remove_915e3_13 : decode cJx4a65c_remove_915e3 13 = .ok (.astore_n 2, 1) := by decide +kernel
theorem dJx4a65c_remove_915e3_14 : decode cJx4a65c_remove_915e3 14 = .ok (.aload_n 2, 1) := by decide +kernel
theorem dJx4a65c_remove_915e3_15 : decode cJx4a65c_remove_915e3 15 = .ok (.iload_n 1, 1) := by decide +kernel
theorem dJx4a65c_remove_915e3_16 : decode cJx4a65c_remove_915e3 16 = .ok (.aaload, 1) := by decide +kernel
theorem dJx4a65c_remove_915e3_17 : decode cJx4a65c_remove_915e3 17 = .ok (.astore_n 3, 1) := by decide +kernel
theorem dJx4a65c_remove_915e3_18 : decode cJx4a65c_remove_915e3 18 = .ok (.aload_n 0, 1) := by decide +kernel
theorem dJx4a65c_remove_915e3_19 : decode cJx4a65c_remove_915e3 19 = .ok (.aload_n 2, 1) := by decide +kernel
theorem dJx4a65c_remove_915e3_20 : decode cJx4a65c_remove_915e3 20 = .ok (.iload_n 1, 1) := by decide +kernel
theorem dJx4a65c_remove_915e3_21 : decode cJx4a65c_remove_915e3 21 = .ok (.invokevirtual 144, 3) := by decide +kernel
theorem dJx4a65c_remove_915e3_24 : decode cJx4a65c_remove_915e3 24 = .ok (.aload_n 3, 1) := by decide +kernel
theorem dJx4a65c_remove_915e3_25 : decode cJx4a65c_remove_915e3 25 = .ok (.areturn, 1) := by decide +kernel
theorem dJx4a65c_fastRemove_b59b0_0 : decode cJx4a65c_fastRemove_b59b0 0 = .ok (.aload_n 0, 1) := by decide +kernel
theorem dJx4a65c_fastRemove_b59b0_1 : decode cJx4a65c_fastRemove_b59b0 1 = .ok (.dup, 1) := by decide +kernel
theorem dJx4a65c_fastRemove_b59b0_2 : decode cJx4a65c_fastRemove_b59b0 2 = .ok (.getfield 63, 3) := by decide +kernel
theorem dJx4a65c_fastRemove_b59b0_5 : decode cJx4a65c_fastRemove_b59b0 5 = .ok (.iconst 1, 1) := by decide +kernel
theorem dJx4a65c_fastRemove_b59b0_6 : decode cJx4a65c_fastRemove_b59b0 6 = .ok (.iadd, 1) := by decide +kernel
theorem dJx4a65c_fastRemove_b59b0_7 : decode cJx4a65c_fastRemove_b59b0 7 = .ok (.putfield 63, 3) := by decide +kernel
theorem dJx4a65c_fastRemove_b59b0_10 : decode cJx4a65c_fastRemove_b59b0 10 = .ok (.aload_n 0, 1) := by decide +kernel
theorem dJx4a65c_fastRemove_b59b0_11 : decode cJx4a65c_fastRemove_b59b0 11 = .ok (.getfield 48, 3) := by decide +kernel
theorem dJx4a65c_fastRemove_b59b0_14 : decode cJx4a65c_fastRemove_b59b0 14 = .ok (.iconst 1, 1) := by decide +kernel
theorem dJx4a65c_fastRemove_b59b0_15 : decode cJx4a65c_fastRemove_b59b0 15 = .ok (.isub, 1) := by decide +kernel
theorem dJx4a65c_fastRemove_b59b0_16 : decode cJx4a65c_fastRemove_b59b0 16 = .ok (.dup, 1) := by decide +kernel
theorem dJx4a65c_fastRemove_b59b0_17 : decode cJx4a65c_fastRemove_b59b0 17 = .ok (.istore_n 3, 1) := by decide +kernel
theorem dJx4a65c_fastRemove_b59b0_18 : decode cJx4a65c_fastRemove_b59b0 18 = .ok (.iload_n 2, 1) := by decide +kernel
theorem dJx4a65c_fastRemove_b59b0_19 : decode cJx4a65c_fastRemove_b59b0 19 = .ok (.if_icmp .le 15, 3) := by decide +kernel
theorem dJx4a65c_fastRemove_b59b0_22 : decode cJx4a65c_fastRemove_b59b0 22 = .ok (.aload_n 1, 1) := by decide +kernel
theorem dJx4a65c_fastRemove_b59b0_23 : decode cJx4a65c_fastRemove_b59b0 23 = .ok (.iload_n 2, 1) := by decide +kernel
theorem dJx4a65c_fastRemove_b59b0_24 : decode cJx4a65c_fastRemove_b59b0 24 = .ok (.iconst 1, 1) := by decide +kernel
theorem dJx4a65c_fastRemove_b59b0_25 : decode cJx4a65c_fastRemove_b59b0 25 = .ok (.iadd, 1) := by decide +kernel
theorem dJx4a65c_fastRemove_b59b0_26 : decode cJx4a65c_fastRemove_b59b0 26 = .ok (.aload_n 1, 1) := by decide +kernel
theorem dJx4a65c_fastRemove_b59b0_27 : decode cJx4a65c_fastRemove_b59b0 27 = .ok (.iload_n 2, 1) := by decide +kernel
theorem dJx4a65c_fastRemove_b59b0_28 : decode cJx4a65c_fastRemove_b59b0 28 = .ok (.iload_n 3, 1) := by decide +kernel
theorem dJx4a65c_fastRemove_b59b0_29 : decode cJx4a65c_fastRemove_b59b0 29 = .ok (.iload_n 2, 1) := by decide +kernel
theorem dJx4a65c_fastRemove_b59b0_30 : decode cJx4a65c_fastRemove_b59b0 30 = .ok (.isub, 1) := by decide +kernel
theorem dJx4a65c_fastRemove_b59b0_31 : decode cJx4a65c_fastRemove_b59b0 31 = .ok (.invokestatic 112, 3) := by decide +kernel
theorem dJx4a65c_fastRemove_b59b0_34 : decode cJx4a65c_fastRemove_b59b0 34 = .ok (.aload_n 1, 1) := by decide +kernel
theorem dJx4a65c_fastRemove_b59b0_35 : decode cJx4a65c_fastRemove_b59b0 35 = .ok (.aload_n 0, 1) := by decide +kernel
theorem dJx4a65c_fastRemove_b59b0_36 : decode cJx4a65c_fastRemove_b59b0 36 = .ok (.iload_n 3, 1) := by decide +kernel
theorem dJx4a65c_fastRemove_b59b0_37 : decode cJx4a65c_fastRemove_b59b0 37 = .ok (.dup_x1, 1) := by decide +kernel
theorem dJx4a65c_fastRemove_b59b0_38 : decode cJx4a65c_fastRemove_b59b0 38 = .ok (.putfield 48, 3) := by decide +kernel
theorem dJx4a65c_fastRemove_b59b0_41 : decode cJx4a65c_fastRemove_b59b0 41 = .ok (.aconst_null, 1) := by decide +kernel
theorem dJx4a65c_fastRemove_b59b0_42 : decode cJx4a65c_fastRemove_b59b0 42 = .ok (.aastore, 1) := by decide +kernel
theorem dJx4a65c_fastRemove_b59b0_43 : decode cJx4a65c_fastRemove_b59b0 43 = .ok (.return_, 1) := by decide +kernel
theorem dJ7_copyOf_1904c_0 : decode cJ7_copyOf_1904c 0 = .ok (.aload_n 0, 1) := by decide +kernel
theorem dJ7_copyOf_1904c_1 : decode cJ7_copyOf_1904c 1 = .ok (.iload_n 1, 1) := by decide +kernel
theorem dJ7_copyOf_1904c_2 : decode cJ7_copyOf_1904c 2 = .ok (.aload_n 0, 1) := by decide +kernel
