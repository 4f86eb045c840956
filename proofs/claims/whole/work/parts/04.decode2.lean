theorem dX6_apart_5 : decode cX6_apart 5 = .ok (.iconst 2, 1) := by decide +kernel
theorem dX6_apart_6 : decode cX6_apart 6 = .ok (.if_icmp .le 10, 3) := by decide +kernel
theorem dX6_apart_9 : decode cX6_apart 9 = .ok (.aload_n 0, 1) := by decide +kernel
theorem dX6_apart_10 : decode cX6_apart 10 = .ok (.bipush (-9), 2) := by decide +kernel
theorem dX6_apart_12 : decode cX6_apart 12 = .ok (.invokevirtual 86, 3) := by decide +kernel
theorem dX6_apart_15 : decode cX6_apart 15 = .ok (.ireturn, 1) := by decide +kernel
theorem dX6_apart_16 : decode cX6_apart 16 = .ok (.aload_n 0, 1) := by decide +kernel
theorem dX6_apart_17 : decode cX6_apart 17 = .ok (.getfield 10, 3) := by decide +kernel
theorem dX6_apart_20 : decode cX6_apart 20 = .ok (.iload_n 1, 1) := by decide +kernel
theorem dX6_apart_21 : decode cX6_apart 21 = .ok (.invokevirtual 168, 3) := by decide +kernel
theorem dX6_apart_24 : decode cX6_apart 24 = .ok (.ireturn, 1) := by decide +kernel
theorem dX6_count_0 : decode cX6_count 0 = .ok (.iload_n 1, 1) := by decide +kernel
theorem dX6_count_1 : decode cX6_count 1 = .ok (.invokestatic 171, 3) := by decide +kernel
theorem dX6_count_4 : decode cX6_count 4 = .ok (.ifCond .ne 10, 3) := by decide +kernel
theorem dX6_count_7 : decode cX6_count 7 = .ok (.aload_n 0, 1) := by decide +kernel
theorem dX6_count_8 : decode cX6_count 8 = .ok (.bipush (-3), 2) := by decide +kernel
theorem dX6_count_10 : decode cX6_count 10 = .ok (.invokevirtual 86, 3) := by decide +kernel
theorem dX6_count_13 : decode cX6_count 13 = .ok (.ireturn, 1) := by decide +kernel
theorem dX6_count_14 : decode cX6_count 14 = .ok (.iload_n 2, 1) := by decide +kernel
theorem dX6_count_15 : decode cX6_count 15 = .ok (.ifCond .lt 8, 3) := by decide +kernel
theorem dX6_count_18 : decode cX6_count 18 = .ok (.iload_n 2, 1) := by decide +kernel
theorem dX6_count_19 : decode cX6_count 19 = .ok (.iconst 4, 1) := by decide +kernel
theorem dX6_count_20 : decode cX6_count 20 = .ok (.if_icmp .le 10, 3) := by decide +kernel
theorem dX6_count_23 : decode cX6_count 23 = .ok (.aload_n 0, 1) := by decide +kernel
theorem dX6_count_24 : decode cX6_count 24 = .ok (.bipush (-9), 2) := by decide +kernel
theorem dX6_count_26 : decode cX6_count 26 = .ok (.invokevirtual 86, 3) := by decide +kernel
theorem dX6_count_29 : decode cX6_count 29 = .ok (.ireturn, 1) := by decide +kernel
theorem dX6_count_30 : decode cX6_count 30 = .ok (.aload_n 0, 1) := by decide +kernel
theorem dX6_count_31 : decode cX6_count 31 = .ok (.getfield 10, 3) := by decide +kernel
theorem dX6_count_34 : decode cX6_count 34 = .ok (.iload_n 1, 1) := by decide +kernel
theorem dX6_count_35 : decode cX6_count 35 = .ok (.iload_n 2, 1) := by decide +kernel
theorem dX6_count_36 : decode cX6_count 36 = .ok (.invokevirtual 174, 3) := by decide +kernel
theorem dX6_count_39 : decode cX6_count 39 = .ok (.ireturn, 1) := by decide +kernel
theorem dX6_way_0 : decode cX6_way 0 = .ok (.aload_n 0, 1) := by decide +kernel
theorem dX6_way_1 : decode cX6_way 1 = .ok (.getfield 10, 3) := by decide +kernel
theorem dX6_way_4 : decode cX6_way 4 = .ok (.iload_n 1, 1) := by decide +kernel
theorem dX6_way_5 : decode cX6_way 5 = .ok (.iload_n 2, 1) := by decide +kernel
theorem dX6_way_6 : decode cX6_way 6 = .ok (.invokevirtual 137, 3) := by decide +kernel
theorem dX6_way_9 : decode cX6_way 9 = .ok (.istore_n 3, 1) := by decide +kernel
theorem dX6_way_10 : decode cX6_way 10 = .ok (.aload_n 0, 1) := by decide +kernel
theorem dX6_way_11 : decode cX6_way 11 = .ok (.getfield 10, 3) := by decide +kernel
theorem dX6_way_14 : decode cX6_way 14 = .ok (.iload_n 1, 1) := by decide +kernel
theorem dX6_way_15 : decode cX6_way 15 = .ok (.invokevirtual 107, 3) := by decide +kernel
theorem dX6_way_18 : decode cX6_way 18 = .ok (.astore 4, 2) := by decide +kernel
theorem dX6_way_20 : decode cX6_way 20 = .ok (.iload_n 3, 1) := by decide +kernel
theorem dX6_way_21 : decode cX6_way 21 = .ok (.ifCond .ne 8, 3) := by decide +kernel
theorem dX6_way_24 : decode cX6_way 24 = .ok (.aload 4, 2) := by decide +kernel
theorem dX6_way_26 : decode cX6_way 26 = .ok (.ifnonnull 9, 3) := by decide +kernel
theorem dX6_way_29 : decode cX6_way 29 = .ok (.aload_n 0, 1) := by decide +kernel
theorem dX6_way_30 : decode cX6_way 30 = .ok (.iload_n 3, 1) := by decide +kernel
theorem dX6_way_31 : decode cX6_way 31 = .ok (.invokevirtual 86, 3) := by decide +kernel
theorem dX6_way_34 : decode cX6_way 34 = .ok (.ireturn, 1) := by decide +kernel
theorem dX6_way_35 : decode cX6_way 35 = .ok (.aload_n 0, 1) := by decide +kernel
theorem dX6_way_36 : decode cX6_way 36 = .ok (.getfield 26, 3) := by decide +kernel
theorem dX6_way_39 : decode cX6_way 39 = .ok (.aload_n 0, 1) := by decide +kernel
theorem dX6_way_40 : decode cX6_way 40 = .ok (.getfield 10, 3) := by decide +kernel
theorem dX6_way_43 : decode cX6_way 43 = .ok (.getfield 57, 3) := by decide +kernel
theorem dX6_way_46 : decode cX6_way 46 = .ok (.aload 4, 2) := by decide +kernel
theorem dX6_way_48 : decode cX6_way 48 = .ok (.getfield 152, 3) := by decide +kernel
theorem dX6_way_51 : decode cX6_way 51 = .ok (.iload_n 2, 1) := by decide +kernel
theorem dX6_way_52 : decode cX6_way 52 = .ok (.iaload, 1) := by decide +kernel
theorem dX6_way_53 : decode cX6_way 53 = .ok (.iload_n 2, 1) := by decide +kernel
theorem dX6_way_54 : decode cX6_way 54 = .ok (.invokevirtual 177, 3) := by decide +kernel
theorem dX6_way_57 : decode cX6_way 57 = .ok (.aload_n 0, 1) := by decide +kernel
theorem dX6_way_58 : decode cX6_way 58 = .ok (.getfield 26, 3) := by decide +kernel
theorem dX6_way_61 : decode cX6_way 61 = .ok (.getfield 181, 3) := by decide +kernel
theorem dX6_way_64 : decode cX6_way 64 = .ok (.ireturn, 1) := by decide +kernel
theorem dX6_wayAt_0 : decode cX6_wayAt 0 = .ok (.iload_n 1, 1) := by decide +kernel
theorem dX6_wayAt_1 : decode cX6_wayAt 1 = .ok (.ifCond .lt 14, 3) := by decide +kernel
theorem dX6_wayAt_4 : decode cX6_wayAt 4 = .ok (.iload_n 1, 1) := by decide +kernel
theorem dX6_wayAt_5 : decode cX6_wayAt 5 = .ok (.aload_n 0, 1) := by decide +kernel
theorem dX6_wayAt_6 : decode cX6_wayAt 6 = .ok (.getfield 26, 3) := by decide +kernel
theorem dX6_wayAt_9 : decode cX6_wayAt 9 = .ok (.getfield 181, 3) := by decide +kernel
theorem dX6_wayAt_12 : decode cX6_wayAt 12 = .ok (.if_icmp .lt 10, 3) := by decide +kernel
theorem dX6_wayAt_15 : decode cX6_wayAt 15 = .ok (.aload_n 0, 1) := by decide +kernel
theorem dX6_wayAt_16 : decode cX6_wayAt 16 = .ok (.bipush (-3), 2) := by decide +kernel
theorem dX6_wayAt_18 : decode cX6_wayAt 18 = .ok (.invokevirtual 86, 3) := by decide +kernel
theorem dX6_wayAt_21 : decode cX6_wayAt 21 = .ok (.ireturn, 1) := by decide +kernel
theorem dX6_wayAt_22 : decode cX6_wayAt 22 = .ok (.aload_n 0, 1) := by decide +kernel
theorem dX6_wayAt_23 : decode cX6_wayAt 23 = .ok (.getfield 26, 3) := by decide +kernel
theorem dX6_wayAt_26 : decode cX6_wayAt 26 = .ok (.getfield 182, 3) := by decide +kernel
theorem dX6_wayAt_29 : decode cX6_wayAt 29 = .ok (.iload_n 1, 1) := by decide +kernel
theorem dX6_wayAt_30 : decode cX6_wayAt 30 = .ok (.iaload, 1) := by decide +kernel
theorem dX6_wayAt_31 : decode cX6_wayAt 31 = .ok (.ireturn, 1) := by decide +kernel
theorem dX6_forge_0 : decode cX6_forge 0 = .ok (.iload_n 1, 1) := by decide +kernel
theorem dX6_forge_1 : decode cX6_forge 1 = .ok (.ifCond .lt 14, 3) := by decide +kernel
theorem dX6_forge_4 : decode cX6_forge 4 = .ok (.iload_n 1, 1) := by decide +kernel
theorem dX6_forge_5 : decode cX6_forge 5 = .ok (.aload_n 0, 1) := by decide +kernel
theorem dX6_forge_6 : decode cX6_forge 6 = .ok (.getfield 26, 3) := by decide +kernel
theorem dX6_forge_9 : decode cX6_forge 9 = .ok (.getfield 181, 3) := by decide +kernel
theorem dX6_forge_12 : decode cX6_forge 12 = .ok (.if_icmp .lt 10, 3) := by decide +kernel
theorem dX6_forge_15 : decode cX6_forge 15 = .ok (.aload_n 0, 1) := by decide +kernel
theorem dX6_forge_16 : decode cX6_forge 16 = .ok (.bipush (-3), 2) := by decide +kernel
theorem dX6_forge_18 : decode cX6_forge 18 = .ok (.invokevirtual 86, 3) := by decide +kernel
theorem dX6_forge_21 : decode cX6_forge 21 = .ok (.ireturn, 1) := by decide +kernel
theorem dX6_forge_22 : decode cX6_forge 22 = .ok (.aload_n 0, 1) := by decide +kernel
theorem dX6_forge_23 : decode cX6_forge 23 = .ok (.getfield 26, 3) := by decide +kernel
theorem dX6_forge_26 : decode cX6_forge 26 = .ok (.getfield 182, 3) := by decide +kernel
theorem dX6_forge_29 : decode cX6_forge 29 = .ok (.iload_n 1, 1) := by decide +kernel
theorem dX6_forge_30 : decode cX6_forge 30 = .ok (.iload_n 2, 1) := by decide +kernel
theorem dX6_forge_31 : decode cX6_forge 31 = .ok (.iastore, 1) := by decide +kernel
theorem dX6_forge_32 : decode cX6_forge 32 = .ok (.iconst 1, 1) := by decide +kernel
theorem dX6_forge_33 : decode cX6_forge 33 = .ok (.ireturn, 1) := by decide +kernel
theorem dX6_check_0 : decode cX6_check 0 = .ok (.iload_n 1, 1) := by decide +kernel
theorem dX6_check_1 : decode cX6_check 1 = .ok (.invokestatic 171, 3) := by decide +kernel
theorem dX6_check_4 : decode cX6_check 4 = .ok (.ifCond .eq 10, 3) := by decide +kernel
theorem dX6_check_7 : decode cX6_check 7 = .ok (.iload_n 2, 1) := by decide +kernel
theorem dX6_check_8 : decode cX6_check 8 = .ok (.invokestatic 171, 3) := by decide +kernel
theorem dX6_check_11 : decode cX6_check 11 = .ok (.ifCond .ne 10, 3) := by decide +kernel
theorem dX6_check_14 : decode cX6_check 14 = .ok (.aload_n 0, 1) := by decide +kernel
theorem dX6_check_15 : decode cX6_check 15 = .ok (.bipush (-3), 2) := by decide +kernel
theorem dX6_check_17 : decode cX6_check 17 = .ok (.invokevirtual 86, 3) := by decide +kernel
theorem dX6_check_20 : decode cX6_check 20 = .ok (.ireturn, 1) := by decide +kernel
theorem dX6_check_21 : decode cX6_check 21 = .ok (.aload_n 0, 1) := by decide +kernel
theorem dX6_check_22 : decode cX6_check 22 = .ok (.getfield 10, 3) := by decide +kernel
theorem dX6_check_25 : decode cX6_check 25 = .ok (.iload_n 1, 1) := by decide +kernel
theorem dX6_check_26 : decode cX6_check 26 = .ok (.invokevirtual 107, 3) := by decide +kernel
theorem dX6_check_29 : decode cX6_check 29 = .ok (.astore 5, 2) := by decide +kernel
theorem dX6_check_31 : decode cX6_check 31 = .ok (.aload 5, 2) := by decide +kernel
theorem dX6_check_33 : decode cX6_check 33 = .ok (.ifnonnull 10, 3) := by decide +kernel
theorem dX6_check_36 : decode cX6_check 36 = .ok (.aload_n 0, 1) := by decide +kernel
theorem dX6_check_37 : decode cX6_check 37 = .ok (.bipush (-2), 2) := by decide +kernel
theorem dX6_check_39 : decode cX6_check 39 = .ok (.invokevirtual 86, 3) := by decide +kernel
theorem dX6_check_42 : decode cX6_check 42 = .ok (.ireturn, 1) := by decide +kernel
theorem dX6_check_43 : decode cX6_check 43 = .ok (.aload_n 0, 1) := by decide +kernel
theorem dX6_check_44 : decode cX6_check 44 = .ok (.getfield 26, 3) := by decide +kernel
theorem dX6_check_47 : decode cX6_check 47 = .ok (.getfield 181, 3) := by decide +kernel
theorem dX6_check_50 : decode cX6_check 50 = .ok (.ifCond .ne 21, 3) := by decide +kernel
theorem dX6_check_53 : decode cX6_check 53 = .ok (.aload 5, 2) := by decide +kernel
theorem dX6_check_55 : decode cX6_check 55 = .ok (.iload_n 2, 1) := by decide +kernel
theorem dX6_check_56 : decode cX6_check 56 = .ok (.iload_n 3, 1) := by decide +kernel
theorem dX6_check_57 : decode cX6_check 57 = .ok (.iload 4, 2) := by decide +kernel
theorem dX6_check_59 : decode cX6_check 59 = .ok (.invokevirtual 185, 3) := by decide +kernel
theorem dX6_check_62 : decode cX6_check 62 = .ok (.ifCond .eq 7, 3) := by decide +kernel
theorem dX6_check_65 : decode cX6_check 65 = .ok (.iconst 1, 1) := by decide +kernel
theorem dX6_check_66 : decode cX6_check 66 = .ok (.goto 4, 3) := by decide +kernel
theorem dX6_check_69 : decode cX6_check 69 = .ok (.iconst 0, 1) := by decide +kernel
theorem dX6_check_70 : decode cX6_check 70 = .ok (.ireturn, 1) := by decide +kernel
theorem dX6_check_71 : decode cX6_check 71 = .ok (.aload_n 0, 1) := by decide +kernel
theorem dX6_check_72 : decode cX6_check 72 = .ok (.getfield 26, 3) := by decide +kernel
theorem dX6_check_75 : decode cX6_check 75 = .ok (.aload_n 0, 1) := by decide +kernel
theorem dX6_check_76 : decode cX6_check 76 = .ok (.getfield 10, 3) := by decide +kernel
theorem dX6_check_79 : decode cX6_check 79 = .ok (.getfield 57, 3) := by decide +kernel
theorem dX6_check_82 : decode cX6_check 82 = .ok (.iload_n 1, 1) := by decide +kernel
theorem dX6_check_83 : decode cX6_check 83 = .ok (.iload_n 2, 1) := by decide +kernel
theorem dX6_check_84 : decode cX6_check 84 = .ok (.iload_n 3, 1) := by decide +kernel
theorem dX6_check_85 : decode cX6_check 85 = .ok (.iload 4, 2) := by decide +kernel
theorem dX6_check_87 : decode cX6_check 87 = .ok (.invokevirtual 189, 3) := by decide +kernel
theorem dX6_check_90 : decode cX6_check 90 = .ok (.ifCond .eq 7, 3) := by decide +kernel
theorem dX6_check_93 : decode cX6_check 93 = .ok (.iconst 1, 1) := by decide +kernel
theorem dX6_check_94 : decode cX6_check 94 = .ok (.goto 4, 3) := by decide +kernel
theorem dX6_check_97 : decode cX6_check 97 = .ok (.iconst 0, 1) := by decide +kernel
theorem dX6_check_98 : decode cX6_check 98 = .ok (.ireturn, 1) := by decide +kernel
theorem dX6_replay_0 : decode cX6_replay 0 = .ok (.aload_n 0, 1) := by decide +kernel
theorem dX6_replay_1 : decode cX6_replay 1 = .ok (.getfield 46, 3) := by decide +kernel
theorem dX6_replay_4 : decode cX6_replay 4 = .ok (.ifnonnull 14, 3) := by decide +kernel
theorem dX6_replay_7 : decode cX6_replay 7 = .ok (.aload_n 0, 1) := by decide +kernel
theorem dX6_replay_8 : decode cX6_replay 8 = .ok (.new 7, 3) := by decide +kernel
theorem dX6_replay_11 : decode cX6_replay 11 = .ok (.dup, 1) := by decide +kernel
theorem dX6_replay_12 : decode cX6_replay 12 = .ok (.invokespecial 9, 3) := by decide +kernel
theorem dX6_replay_15 : decode cX6_replay 15 = .ok (.putfield 46, 3) := by decide +kernel
theorem dX6_replay_18 : decode cX6_replay 18 = .ok (.aload_n 0, 1) := by decide +kernel
theorem dX6_replay_19 : decode cX6_replay 19 = .ok (.getfield 46, 3) := by decide +kernel
theorem dX6_replay_22 : decode cX6_replay 22 = .ok (.invokevirtual 193, 3) := by decide +kernel
theorem dX6_replay_25 : decode cX6_replay 25 = .ok (.aload_n 0, 1) := by decide +kernel
theorem dX6_replay_26 : decode cX6_replay 26 = .ok (.getfield 10, 3) := by decide +kernel
theorem dX6_replay_29 : decode cX6_replay 29 = .ok (.getfield 196, 3) := by decide +kernel
theorem dX6_replay_32 : decode cX6_replay 32 = .ok (.astore_n 1, 1) := by decide +kernel
theorem dX6_replay_33 : decode cX6_replay 33 = .ok (.iconst 0, 1) := by decide +kernel
theorem dX6_replay_34 : decode cX6_replay 34 = .ok (.istore_n 2, 1) := by decide +kernel
theorem dX6_replay_35 : decode cX6_replay 35 = .ok (.iload_n 2, 1) := by decide +kernel
theorem dX6_replay_36 : decode cX6_replay 36 = .ok (.aload_n 1, 1) := by decide +kernel
theorem dX6_replay_37 : decode cX6_replay 37 = .ok (.getfield 81, 3) := by decide +kernel
theorem dX6_replay_40 : decode cX6_replay 40 = .ok (.if_icmp .ge 67, 3) := by decide +kernel
theorem dX6_replay_43 : decode cX6_replay 43 = .ok (.aload_n 1, 1) := by decide +kernel
theorem dX6_replay_44 : decode cX6_replay 44 = .ok (.iload_n 2, 1) := by decide +kernel
theorem dX6_replay_45 : decode cX6_replay 45 = .ok (.iconst 3, 1) := by decide +kernel
theorem dX6_replay_46 : decode cX6_replay 46 = .ok (.invokevirtual 199, 3) := by decide +kernel
theorem dX6_replay_49 : decode cX6_replay 49 = .ok (.i2l, 1) := by decide +kernel
theorem dX6_replay_50 : decode cX6_replay 50 = .ok (.lstore_n 3, 1) := by decide +kernel
theorem dX6_replay_51 : decode cX6_replay 51 = .ok (.aload_n 1, 1) := by decide +kernel
theorem dX6_replay_52 : decode cX6_replay 52 = .ok (.iload_n 2, 1) := by decide +kernel
theorem dX6_replay_53 : decode cX6_replay 53 = .ok (.iconst 4, 1) := by decide +kernel
theorem dX6_replay_54 : decode cX6_replay 54 = .ok (.invokevirtual 199, 3) := by decide +kernel
theorem dX6_replay_57 : decode cX6_replay 57 = .ok (.i2l, 1) := by decide +kernel
theorem dX6_replay_58 : decode cX6_replay 58 = .ok (.lstore 5, 2) := by decide +kernel
theorem dX6_replay_60 : decode cX6_replay 60 = .ok (.lload_n 3, 1) := by decide +kernel
theorem dX6_replay_61 : decode cX6_replay 61 = .ok (.bipush 32, 2) := by decide +kernel
theorem dX6_replay_63 : decode cX6_replay 63 = .ok (.lshl, 1) := by decide +kernel
theorem dX6_replay_64 : decode cX6_replay 64 = .ok (.lload 5, 2) := by decide +kernel
theorem dX6_replay_66 : decode cX6_replay 66 = .ok (.ldc2_w 202, 3) := by decide +kernel
theorem dX6_replay_69 : decode cX6_replay 69 = .ok (.land, 1) := by decide +kernel
theorem dX6_replay_70 : decode cX6_replay 70 = .ok (.lor, 1) := by decide +kernel
theorem dX6_replay_71 : decode cX6_replay 71 = .ok (.lstore 7, 2) := by decide +kernel
theorem dX6_replay_73 : decode cX6_replay 73 = .ok (.aload_n 0, 1) := by decide +kernel
theorem dX6_replay_74 : decode cX6_replay 74 = .ok (.getfield 46, 3) := by decide +kernel
theorem dX6_replay_77 : decode cX6_replay 77 = .ok (.aload_n 1, 1) := by decide +kernel
theorem dX6_replay_78 : decode cX6_replay 78 = .ok (.iload_n 2, 1) := by decide +kernel
theorem dX6_replay_79 : decode cX6_replay 79 = .ok (.iconst 0, 1) := by decide +kernel
theorem dX6_replay_80 : decode cX6_replay 80 = .ok (.invokevirtual 199, 3) := by decide +kernel
theorem dX6_replay_83 : decode cX6_replay 83 = .ok (.aload_n 1, 1) := by decide +kernel
theorem dX6_replay_84 : decode cX6_replay 84 = .ok (.iload_n 2, 1) := by decide +kernel
theorem dX6_replay_85 : decode cX6_replay 85 = .ok (.iconst 1, 1) := by decide +kernel
theorem dX6_replay_86 : decode cX6_replay 86 = .ok (.invokevirtual 199, 3) := by decide +kernel
theorem dX6_replay_89 : decode cX6_replay 89 = .ok (.aload_n 1, 1) := by decide +kernel
theorem dX6_replay_90 : decode cX6_replay 90 = .ok (.iload_n 2, 1) := by decide +kernel
theorem dX6_replay_91 : decode cX6_replay 91 = .ok (.iconst 2, 1) := by decide +kernel
theorem dX6_replay_92 : decode cX6_replay 92 = .ok (.invokevirtual 199, 3) := by decide +kernel
theorem dX6_replay_95 : decode cX6_replay 95 = .ok (.lload 7, 2) := by decide +kernel
theorem dX6_replay_97 : decode cX6_replay 97 = .ok (.invokevirtual 49, 3) := by decide +kernel
theorem dX6_replay_100 : decode cX6_replay 100 = .ok (.pop, 1) := by decide +kernel
theorem dX6_replay_101 : decode cX6_replay 101 = .ok (.iinc 2 1, 3) := by decide +kernel
theorem dX6_replay_104 : decode cX6_replay 104 = .ok (.goto (-69), 3) := by decide +kernel
theorem dX6_replay_107 : decode cX6_replay 107 = .ok (.aload_n 0, 1) := by decide +kernel
theorem dX6_replay_108 : decode cX6_replay 108 = .ok (.getfield 46, 3) := by decide +kernel
theorem dX6_replay_111 : decode cX6_replay 111 = .ok (.aload_n 0, 1) := by decide +kernel
theorem dX6_replay_112 : decode cX6_replay 112 = .ok (.getfield 10, 3) := by decide +kernel
theorem dX6_replay_115 : decode cX6_replay 115 = .ok (.invokevirtual 204, 3) := by decide +kernel
theorem dX6_replay_118 : decode cX6_replay 118 = .ok (.ifCond .eq 7, 3) := by decide +kernel
theorem dX6_replay_121 : decode cX6_replay 121 = .ok (.iconst 1, 1) := by decide +kernel
theorem dX6_replay_122 : decode cX6_replay 122 = .ok (.goto 4, 3) := by decide +kernel
theorem dX6_replay_125 : decode cX6_replay 125 = .ok (.iconst 0, 1) := by decide +kernel
theorem dX6_replay_126 : decode cX6_replay 126 = .ok (.ireturn, 1) := by decide +kernel
theorem dX6_image_0 : decode cX6_image 0 = .ok (.aload_n 0, 1) := by decide +kernel
theorem dX6_image_1 : decode cX6_image 1 = .ok (.getfield 43, 3) := by decide +kernel
theorem dX6_image_4 : decode cX6_image 4 = .ok (.ifnonnull 14, 3) := by decide +kernel
theorem dX6_image_7 : decode cX6_image 7 = .ok (.aload_n 0, 1) := by decide +kernel
theorem dX6_image_8 : decode cX6_image 8 = .ok (.new 7, 3) := by decide +kernel
theorem dX6_image_11 : decode cX6_image 11 = .ok (.dup, 1) := by decide +kernel
theorem dX6_image_12 : decode cX6_image 12 = .ok (.invokespecial 9, 3) := by decide +kernel
theorem dX6_image_15 : decode cX6_image 15 = .ok (.putfield 43, 3) := by decide +kernel
theorem dX6_image_18 : decode cX6_image 18 = .ok (.aload_n 0, 1) := by decide +kernel
theorem dX6_image_19 : decode cX6_image 19 = .ok (.getfield 43, 3) := by decide +kernel
theorem dX6_image_22 : decode cX6_image 22 = .ok (.aload_n 0, 1) := by decide +kernel
theorem dX6_image_23 : decode cX6_image 23 = .ok (.getfield 10, 3) := by decide +kernel
theorem dX6_image_26 : decode cX6_image 26 = .ok (.invokevirtual 208, 3) := by decide +kernel
theorem dX6_image_29 : decode cX6_image 29 = .ok (.aload_n 0, 1) := by decide +kernel
theorem dX6_image_30 : decode cX6_image 30 = .ok (.getfield 43, 3) := by decide +kernel
theorem dX6_image_33 : decode cX6_image 33 = .ok (.getfield 196, 3) := by decide +kernel
theorem dX6_image_36 : decode cX6_image 36 = .ok (.getfield 81, 3) := by decide +kernel
theorem dX6_image_39 : decode cX6_image 39 = .ok (.ireturn, 1) := by decide +kernel
theorem dX6_back_0 : decode cX6_back 0 = .ok (.aload_n 0, 1) := by decide +kernel
theorem dX6_back_1 : decode cX6_back 1 = .ok (.getfield 43, 3) := by decide +kernel
theorem dX6_back_4 : decode cX6_back 4 = .ok (.ifnonnull 10, 3) := by decide +kernel
theorem dX6_back_7 : decode cX6_back 7 = .ok (.aload_n 0, 1) := by decide +kernel
theorem dX6_back_8 : decode cX6_back 8 = .ok (.bipush (-9), 2) := by decide +kernel
theorem dX6_back_10 : decode cX6_back 10 = .ok (.invokevirtual 86, 3) := by decide +kernel
theorem dX6_back_13 : decode cX6_back 13 = .ok (.ireturn, 1) := by decide +kernel
theorem dX6_back_14 : decode cX6_back 14 = .ok (.aload_n 0, 1) := by decide +kernel
theorem dX6_back_15 : decode cX6_back 15 = .ok (.getfield 10, 3) := by decide +kernel
theorem dX6_back_18 : decode cX6_back 18 = .ok (.aload_n 0, 1) := by decide +kernel
theorem dX6_back_19 : decode cX6_back 19 = .ok (.getfield 43, 3) := by decide +kernel
theorem dX6_back_22 : decode cX6_back 22 = .ok (.invokevirtual 208, 3) := by decide +kernel
theorem dX6_back_25 : decode cX6_back 25 = .ok (.aload_n 0, 1) := by decide +kernel
theorem dX6_back_26 : decode cX6_back 26 = .ok (.getfield 10, 3) := by decide +kernel
theorem dX6_back_29 : decode cX6_back 29 = .ok (.getfield 196, 3) := by decide +kernel
theorem dX6_back_32 : decode cX6_back 32 = .ok (.getfield 81, 3) := by decide +kernel
theorem dX6_back_35 : decode cX6_back 35 = .ok (.ireturn, 1) := by decide +kernel
theorem dX6_trace_0 : decode cX6_trace 0 = .ok (.iload_n 1, 1) := by decide +kernel
theorem dX6_trace_1 : decode cX6_trace 1 = .ok (.ifCond .lt 9, 3) := by decide +kernel
theorem dX6_trace_4 : decode cX6_trace 4 = .ok (.iload_n 1, 1) := by decide +kernel
theorem dX6_trace_5 : decode cX6_trace 5 = .ok (.bipush 12, 2) := by decide +kernel
theorem dX6_trace_7 : decode cX6_trace 7 = .ok (.if_icmp .lt 10, 3) := by decide +kernel
theorem dX6_trace_10 : decode cX6_trace 10 = .ok (.aload_n 0, 1) := by decide +kernel
theorem dX6_trace_11 : decode cX6_trace 11 = .ok (.bipush (-9), 2) := by decide +kernel
theorem dX6_trace_13 : decode cX6_trace 13 = .ok (.invokevirtual 86, 3) := by decide +kernel
theorem dX6_trace_16 : decode cX6_trace 16 = .ok (.ireturn, 1) := by decide +kernel
theorem dX6_trace_17 : decode cX6_trace 17 = .ok (.aload_n 0, 1) := by decide +kernel
theorem dX6_trace_18 : decode cX6_trace 18 = .ok (.getfield 10, 3) := by decide +kernel
theorem dX6_trace_21 : decode cX6_trace 21 = .ok (.getfield 212, 3) := by decide +kernel
theorem dX6_trace_24 : decode cX6_trace 24 = .ok (.iload_n 1, 1) := by decide +kernel
theorem dX6_trace_25 : decode cX6_trace 25 = .ok (.iaload, 1) := by decide +kernel
theorem dX6_trace_26 : decode cX6_trace 26 = .ok (.ireturn, 1) := by decide +kernel
theorem dX6_again_0 : decode cX6_again 0 = .ok (.aload_n 0, 1) := by decide +kernel
theorem dX6_again_1 : decode cX6_again 1 = .ok (.getfield 19, 3) := by decide +kernel
theorem dX6_again_4 : decode cX6_again 4 = .ok (.invokevirtual 215, 3) := by decide +kernel
theorem dX6_again_7 : decode cX6_again 7 = .ok (.ireturn, 1) := by decide +kernel
theorem dX6_status_0 : decode cX6_status 0 = .ok (.iload_n 1, 1) := by decide +kernel
theorem dX6_status_1 : decode cX6_status 1 = .ok (.ifCond .ne 14, 3) := by decide +kernel
theorem dX6_status_4 : decode cX6_status 4 = .ok (.aload_n 0, 1) := by decide +kernel
theorem dX6_status_5 : decode cX6_status 5 = .ok (.getfield 10, 3) := by decide +kernel
theorem dX6_status_8 : decode cX6_status 8 = .ok (.getfield 196, 3) := by decide +kernel
theorem dX6_status_11 : decode cX6_status 11 = .ok (.getfield 81, 3) := by decide +kernel
theorem dX6_status_14 : decode cX6_status 14 = .ok (.ireturn, 1) := by decide +kernel
theorem dX6_status_15 : decode cX6_status 15 = .ok (.iload_n 1, 1) := by decide +kernel
theorem dX6_status_16 : decode cX6_status 16 = .ok (.bipush (-2), 2) := by decide +kernel
theorem dX6_status_18 : decode cX6_status 18 = .ok (.if_icmp .gt 9, 3) := by decide +kernel
theorem dX6_status_21 : decode cX6_status 21 = .ok (.iload_n 1, 1) := by decide +kernel
theorem dX6_status_22 : decode cX6_status 22 = .ok (.bipush (-10), 2) := by decide +kernel
theorem dX6_status_24 : decode cX6_status 24 = .ok (.if_icmp .ge 10, 3) := by decide +kernel
theorem dX6_status_27 : decode cX6_status 27 = .ok (.aload_n 0, 1) := by decide +kernel
theorem dX6_status_28 : decode cX6_status 28 = .ok (.bipush (-9), 2) := by decide +kernel
theorem dX6_status_30 : decode cX6_status 30 = .ok (.invokevirtual 86, 3) := by decide +kernel
theorem dX6_status_33 : decode cX6_status 33 = .ok (.ireturn, 1) := by decide +kernel
theorem dX6_status_34 : decode cX6_status 34 = .ok (.aload_n 0, 1) := by decide +kernel
theorem dX6_status_35 : decode cX6_status 35 = .ok (.getfield 19, 3) := by decide +kernel
theorem dX6_status_38 : decode cX6_status 38 = .ok (.getfield 218, 3) := by decide +kernel
theorem dX6_status_41 : decode cX6_status 41 = .ok (.iload_n 1, 1) := by decide +kernel
theorem dX6_status_42 : decode cX6_status 42 = .ok (.ineg, 1) := by decide +kernel
theorem dX6_status_43 : decode cX6_status 43 = .ok (.iaload, 1) := by decide +kernel
theorem dX6_status_44 : decode cX6_status 44 = .ok (.ireturn, 1) := by decide +kernel
theorem dX6_settled_0 : decode cX6_settled 0 = .ok (.iload_n 1, 1) := by decide +kernel
theorem dX6_settled_1 : decode cX6_settled 1 = .ok (.iconst (-1), 1) := by decide +kernel
theorem dX6_settled_2 : decode cX6_settled 2 = .ok (.if_icmp .ge 11, 3) := by decide +kernel
theorem dX6_settled_5 : decode cX6_settled 5 = .ok (.aload_n 0, 1) := by decide +kernel
theorem dX6_settled_6 : decode cX6_settled 6 = .ok (.iload_n 1, 1) := by decide +kernel
theorem dX6_settled_7 : decode cX6_settled 7 = .ok (.invokevirtual 86, 3) := by decide +kernel
theorem dX6_settled_10 : decode cX6_settled 10 = .ok (.goto 4, 3) := by decide +kernel
theorem dX6_settled_13 : decode cX6_settled 13 = .ok (.iload_n 1, 1) := by decide +kernel
theorem dX6_settled_14 : decode cX6_settled 14 = .ok (.ireturn, 1) := by decide +kernel
theorem dX6_refused_0 : decode cX6_refused 0 = .ok (.aload_n 0, 1) := by decide +kernel
theorem dX6_refused_1 : decode cX6_refused 1 = .ok (.getfield 19, 3) := by decide +kernel
theorem dX6_refused_4 : decode cX6_refused 4 = .ok (.iload_n 1, 1) := by decide +kernel
theorem dX6_refused_5 : decode cX6_refused 5 = .ok (.invokevirtual 221, 3) := by decide +kernel
theorem dX6_refused_8 : decode cX6_refused 8 = .ok (.iload_n 1, 1) := by decide +kernel
theorem dX6_refused_9 : decode cX6_refused 9 = .ok (.ireturn, 1) := by decide +kernel
theorem dX6_isMember_0 : decode cX6_isMember 0 = .ok (.iload_n 0, 1) := by decide +kernel
theorem dX6_isMember_1 : decode cX6_isMember 1 = .ok (.ifCond .lt 13, 3) := by decide +kernel
theorem dX6_isMember_4 : decode cX6_isMember 4 = .ok (.iload_n 0, 1) := by decide +kernel
theorem dX6_isMember_5 : decode cX6_isMember 5 = .ok (.bipush 64, 2) := by decide +kernel
theorem dX6_isMember_7 : decode cX6_isMember 7 = .ok (.if_icmp .ge 7, 3) := by decide +kernel
theorem dX6_isMember_10 : decode cX6_isMember 10 = .ok (.iconst 1, 1) := by decide +kernel
theorem dX6_isMember_11 : decode cX6_isMember 11 = .ok (.goto 4, 3) := by decide +kernel
theorem dX6_isMember_14 : decode cX6_isMember 14 = .ok (.iconst 0, 1) := by decide +kernel
theorem dX6_isMember_15 : decode cX6_isMember 15 = .ok (.ireturn, 1) := by decide +kernel
theorem dX6_sameNumbers_0 : decode cX6_sameNumbers 0 = .ok (.iload_n 2, 1) := by decide +kernel
theorem dX6_sameNumbers_1 : decode cX6_sameNumbers 1 = .ok (.aload_n 0, 1) := by decide +kernel
theorem dX6_sameNumbers_2 : decode cX6_sameNumbers 2 = .ok (.arraylength, 1) := by decide +kernel
theorem dX6_sameNumbers_3 : decode cX6_sameNumbers 3 = .ok (.if_icmp .gt 9, 3) := by decide +kernel
theorem dX6_sameNumbers_6 : decode cX6_sameNumbers 6 = .ok (.iload_n 2, 1) := by decide +kernel
theorem dX6_sameNumbers_7 : decode cX6_sameNumbers 7 = .ok (.aload_n 1, 1) := by decide +kernel
theorem dX6_sameNumbers_8 : decode cX6_sameNumbers 8 = .ok (.arraylength, 1) := by decide +kernel
theorem dX6_sameNumbers_9 : decode cX6_sameNumbers 9 = .ok (.if_icmp .le 5, 3) := by decide +kernel
theorem dX6_sameNumbers_12 : decode cX6_sameNumbers 12 = .ok (.iconst 0, 1) := by decide +kernel
theorem dX6_sameNumbers_13 : decode cX6_sameNumbers 13 = .ok (.ireturn, 1) := by decide +kernel
theorem dX6_sameNumbers_14 : decode cX6_sameNumbers 14 = .ok (.iconst 0, 1) := by decide +kernel
theorem dX6_sameNumbers_15 : decode cX6_sameNumbers 15 = .ok (.istore_n 3, 1) := by decide +kernel
theorem dX6_sameNumbers_16 : decode cX6_sameNumbers 16 = .ok (.iload_n 3, 1) := by decide +kernel
theorem dX6_sameNumbers_17 : decode cX6_sameNumbers 17 = .ok (.iload_n 2, 1) := by decide +kernel
theorem dX6_sameNumbers_18 : decode cX6_sameNumbers 18 = .ok (.if_icmp .ge 20, 3) := by decide +kernel
theorem dX6_sameNumbers_21 : decode cX6_sameNumbers 21 = .ok (.aload_n 0, 1) := by decide +kernel
theorem dX6_sameNumbers_22 : decode cX6_sameNumbers 22 = .ok (.iload_n 3, 1) := by decide +kernel
theorem dX6_sameNumbers_23 : decode cX6_sameNumbers 23 = .ok (.iaload, 1) := by decide +kernel
theorem dX6_sameNumbers_24 : decode cX6_sameNumbers 24 = .ok (.aload_n 1, 1) := by decide +kernel
theorem dX6_sameNumbers_25 : decode cX6_sameNumbers 25 = .ok (.iload_n 3, 1) := by decide +kernel
theorem dX6_sameNumbers_26 : decode cX6_sameNumbers 26 = .ok (.iaload, 1) := by decide +kernel
theorem dX6_sameNumbers_27 : decode cX6_sameNumbers 27 = .ok (.if_icmp .eq 5, 3) := by decide +kernel
theorem dX6_sameNumbers_30 : decode cX6_sameNumbers 30 = .ok (.iconst 0, 1) := by decide +kernel
theorem dX6_sameNumbers_31 : decode cX6_sameNumbers 31 = .ok (.ireturn, 1) := by decide +kernel
theorem dX6_sameNumbers_32 : decode cX6_sameNumbers 32 = .ok (.iinc 3 1, 3) := by decide +kernel
theorem dX6_sameNumbers_35 : decode cX6_sameNumbers 35 = .ok (.goto (-19), 3) := by decide +kernel
theorem dX6_sameNumbers_38 : decode cX6_sameNumbers 38 = .ok (.iconst 1, 1) := by decide +kernel
theorem dX6_sameNumbers_39 : decode cX6_sameNumbers 39 = .ok (.ireturn, 1) := by decide +kernel
theorem dX7_init_0 : decode cX7_init 0 = .ok (.aload_n 0, 1) := by decide +kernel
theorem dX7_init_1 : decode cX7_init 1 = .ok (.invokespecial 1, 3) := by decide +kernel
theorem dX7_init_4 : decode cX7_init 4 = .ok (.aload_n 0, 1) := by decide +kernel
theorem dX7_init_5 : decode cX7_init 5 = .ok (.ldc 7, 2) := by decide +kernel
theorem dX7_init_7 : decode cX7_init 7 = .ok (.newarray .int, 2) := by decide +kernel
theorem dX7_init_9 : decode cX7_init 9 = .ok (.putfield 8, 3) := by decide +kernel
theorem dX7_init_12 : decode cX7_init 12 = .ok (.aload_n 0, 1) := by decide +kernel
theorem dX7_init_13 : decode cX7_init 13 = .ok (.ldc 7, 2) := by decide +kernel
theorem dX7_init_15 : decode cX7_init 15 = .ok (.newarray .int, 2) := by decide +kernel
theorem dX7_init_17 : decode cX7_init 17 = .ok (.putfield 14, 3) := by decide +kernel
theorem dX7_init_20 : decode cX7_init 20 = .ok (.aload_n 0, 1) := by decide +kernel
theorem dX7_init_21 : decode cX7_init 21 = .ok (.bipush 64, 2) := by decide +kernel
theorem dX7_init_23 : decode cX7_init 23 = .ok (.newarray .long, 2) := by decide +kernel
theorem dX7_init_25 : decode cX7_init 25 = .ok (.putfield 17, 3) := by decide +kernel
theorem dX7_init_28 : decode cX7_init 28 = .ok (.aload_n 0, 1) := by decide +kernel
theorem dX7_init_29 : decode cX7_init 29 = .ok (.bipush 64, 2) := by decide +kernel
theorem dX7_init_31 : decode cX7_init 31 = .ok (.newarray .long, 2) := by decide +kernel
theorem dX7_init_33 : decode cX7_init 33 = .ok (.putfield 21, 3) := by decide +kernel
theorem dX7_init_36 : decode cX7_init 36 = .ok (.aload_n 0, 1) := by decide +kernel
theorem dX7_init_37 : decode cX7_init 37 = .ok (.bipush 16, 2) := by decide +kernel
theorem dX7_init_39 : decode cX7_init 39 = .ok (.newarray .int, 2) := by decide +kernel
theorem dX7_init_41 : decode cX7_init 41 = .ok (.putfield 24, 3) := by decide +kernel
theorem dX7_init_44 : decode cX7_init 44 = .ok (.aload_n 0, 1) := by decide +kernel
theorem dX7_init_45 : decode cX7_init 45 = .ok (.sipush 1300, 3) := by decide +kernel
theorem dX7_init_48 : decode cX7_init 48 = .ok (.newarray .int, 2) := by decide +kernel
theorem dX7_init_50 : decode cX7_init 50 = .ok (.putfield 27, 3) := by decide +kernel
theorem dX7_init_53 : decode cX7_init 53 = .ok (.aload_n 0, 1) := by decide +kernel
theorem dX7_init_54 : decode cX7_init 54 = .ok (.bipush 11, 2) := by decide +kernel
theorem dX7_init_56 : decode cX7_init 56 = .ok (.newarray .int, 2) := by decide +kernel
theorem dX7_init_58 : decode cX7_init 58 = .ok (.putfield 30, 3) := by decide +kernel
theorem dX7_init_61 : decode cX7_init 61 = .ok (.aload_n 0, 1) := by decide +kernel
theorem dX7_init_62 : decode cX7_init 62 = .ok (.bipush 64, 2) := by decide +kernel
theorem dX7_init_64 : decode cX7_init 64 = .ok (.newarray .int, 2) := by decide +kernel
theorem dX7_init_66 : decode cX7_init 66 = .ok (.putfield 33, 3) := by decide +kernel
theorem dX7_init_69 : decode cX7_init 69 = .ok (.aload_n 0, 1) := by decide +kernel
theorem dX7_init_70 : decode cX7_init 70 = .ok (.bipush 64, 2) := by decide +kernel
theorem dX7_init_72 : decode cX7_init 72 = .ok (.newarray .boolean, 2) := by decide +kernel
theorem dX7_init_74 : decode cX7_init 74 = .ok (.putfield 36, 3) := by decide +kernel
theorem dX7_init_77 : decode cX7_init 77 = .ok (.iconst 0, 1) := by decide +kernel
theorem dX7_init_78 : decode cX7_init 78 = .ok (.istore_n 1, 1) := by decide +kernel
theorem dX7_init_79 : decode cX7_init 79 = .ok (.iload_n 1, 1) := by decide +kernel
theorem dX7_init_80 : decode cX7_init 80 = .ok (.bipush 16, 2) := by decide +kernel
theorem dX7_init_82 : decode cX7_init 82 = .ok (.if_icmp .ge 16, 3) := by decide +kernel
theorem dX7_init_85 : decode cX7_init 85 = .ok (.aload_n 0, 1) := by decide +kernel
theorem dX7_init_86 : decode cX7_init 86 = .ok (.getfield 24, 3) := by decide +kernel
theorem dX7_init_89 : decode cX7_init 89 = .ok (.iload_n 1, 1) := by decide +kernel
theorem dX7_init_90 : decode cX7_init 90 = .ok (.iconst (-1), 1) := by decide +kernel
theorem dX7_init_91 : decode cX7_init 91 = .ok (.iastore, 1) := by decide +kernel
theorem dX7_init_92 : decode cX7_init 92 = .ok (.iinc 1 1, 3) := by decide +kernel
theorem dX7_init_95 : decode cX7_init 95 = .ok (.goto (-16), 3) := by decide +kernel
theorem dX7_init_98 : decode cX7_init 98 = .ok (.return_, 1) := by decide +kernel
theorem dX7_isIn_0 : decode cX7_isIn 0 = .ok (.lload_n 0, 1) := by decide +kernel
theorem dX7_isIn_1 : decode cX7_isIn 1 = .ok (.lload_n 2, 1) := by decide +kernel
theorem dX7_isIn_2 : decode cX7_isIn 2 = .ok (.lcmp, 1) := by decide +kernel
theorem dX7_isIn_3 : decode cX7_isIn 3 = .ok (.ifCond .lt 14, 3) := by decide +kernel
theorem dX7_isIn_6 : decode cX7_isIn 6 = .ok (.lload_n 0, 1) := by decide +kernel
theorem dX7_isIn_7 : decode cX7_isIn 7 = .ok (.lload 4, 2) := by decide +kernel
theorem dX7_isIn_9 : decode cX7_isIn 9 = .ok (.lcmp, 1) := by decide +kernel
theorem dX7_isIn_10 : decode cX7_isIn 10 = .ok (.ifCond .gt 7, 3) := by decide +kernel
theorem dX7_isIn_13 : decode cX7_isIn 13 = .ok (.iconst 1, 1) := by decide +kernel
theorem dX7_isIn_14 : decode cX7_isIn 14 = .ok (.goto 4, 3) := by decide +kernel
theorem dX7_isIn_17 : decode cX7_isIn 17 = .ok (.iconst 0, 1) := by decide +kernel
theorem dX7_isIn_18 : decode cX7_isIn 18 = .ok (.ireturn, 1) := by decide +kernel
theorem dX7_no_0 : decode cX7_no 0 = .ok (.aload_n 0, 1) := by decide +kernel
theorem dX7_no_1 : decode cX7_no 1 = .ok (.getfield 30, 3) := by decide +kernel
theorem dX7_no_4 : decode cX7_no 4 = .ok (.iload_n 1, 1) := by decide +kernel
theorem dX7_no_5 : decode cX7_no 5 = .ok (.ineg, 1) := by decide +kernel
theorem dX7_no_6 : decode cX7_no 6 = .ok (.dup2, 1) := by decide +kernel
theorem dX7_no_7 : decode cX7_no 7 = .ok (.iaload, 1) := by decide +kernel
theorem dX7_no_8 : decode cX7_no 8 = .ok (.iconst 1, 1) := by decide +kernel
theorem dX7_no_9 : decode cX7_no 9 = .ok (.iadd, 1) := by decide +kernel
theorem dX7_no_10 : decode cX7_no 10 = .ok (.iastore, 1) := by decide +kernel
theorem dX7_no_11 : decode cX7_no 11 = .ok (.aload_n 0, 1) := by decide +kernel
theorem dX7_no_12 : decode cX7_no 12 = .ok (.iload_n 1, 1) := by decide +kernel
theorem dX7_no_13 : decode cX7_no 13 = .ok (.putfield 40, 3) := by decide +kernel
theorem dX7_no_16 : decode cX7_no 16 = .ok (.iload_n 1, 1) := by decide +kernel
theorem dX7_no_17 : decode cX7_no 17 = .ok (.ireturn, 1) := by decide +kernel
theorem dX7_of_0 : decode cX7_of 0 = .ok (.aload_n 0, 1) := by decide +kernel
theorem dX7_of_1 : decode cX7_of 1 = .ok (.getfield 8, 3) := by decide +kernel
theorem dX7_of_4 : decode cX7_of 4 = .ok (.bipush 7, 2) := by decide +kernel
theorem dX7_of_6 : decode cX7_of 6 = .ok (.iload_n 1, 1) := by decide +kernel
theorem dX7_of_7 : decode cX7_of 7 = .ok (.imul, 1) := by decide +kernel
theorem dX7_of_8 : decode cX7_of 8 = .ok (.iload_n 2, 1) := by decide +kernel
theorem dX7_of_9 : decode cX7_of 9 = .ok (.iadd, 1) := by decide +kernel
theorem dX7_of_10 : decode cX7_of 10 = .ok (.iaload, 1) := by decide +kernel
theorem dX7_of_11 : decode cX7_of 11 = .ok (.ireturn, 1) := by decide +kernel
theorem dX7_to_0 : decode cX7_to 0 = .ok (.aload_n 0, 1) := by decide +kernel
theorem dX7_to_1 : decode cX7_to 1 = .ok (.getfield 8, 3) := by decide +kernel
theorem dX7_to_4 : decode cX7_to 4 = .ok (.bipush 7, 2) := by decide +kernel
theorem dX7_to_6 : decode cX7_to 6 = .ok (.iload_n 1, 1) := by decide +kernel
theorem dX7_to_7 : decode cX7_to 7 = .ok (.imul, 1) := by decide +kernel
theorem dX7_to_8 : decode cX7_to 8 = .ok (.iload_n 2, 1) := by decide +kernel
theorem dX7_to_9 : decode cX7_to 9 = .ok (.iadd, 1) := by decide +kernel
theorem dX7_to_10 : decode cX7_to 10 = .ok (.iload_n 3, 1) := by decide +kernel
theorem dX7_to_11 : decode cX7_to 11 = .ok (.iastore, 1) := by decide +kernel
theorem dX7_to_12 : decode cX7_to 12 = .ok (.return_, 1) := by decide +kernel
theorem dX7_newsAt_0 : decode cX7_newsAt 0 = .ok (.sipush 448, 3) := by decide +kernel
theorem dX7_newsAt_3 : decode cX7_newsAt 3 = .ok (.iconst 5, 1) := by decide +kernel
theorem dX7_newsAt_4 : decode cX7_newsAt 4 = .ok (.bipush 64, 2) := by decide +kernel
theorem dX7_newsAt_6 : decode cX7_newsAt 6 = .ok (.iload_n 0, 1) := by decide +kernel
theorem dX7_newsAt_7 : decode cX7_newsAt 7 = .ok (.imul, 1) := by decide +kernel
theorem dX7_newsAt_8 : decode cX7_newsAt 8 = .ok (.iload_n 1, 1) := by decide +kernel
theorem dX7_newsAt_9 : decode cX7_newsAt 9 = .ok (.iadd, 1) := by decide +kernel
theorem dX7_newsAt_10 : decode cX7_newsAt 10 = .ok (.imul, 1) := by decide +kernel
theorem dX7_newsAt_11 : decode cX7_newsAt 11 = .ok (.iadd, 1) := by decide +kernel
theorem dX7_newsAt_12 : decode cX7_newsAt 12 = .ok (.ireturn, 1) := by decide +kernel
theorem dX7_kindOf_0 : decode cX7_kindOf 0 = .ok (.aload_n 0, 1) := by decide +kernel
theorem dX7_kindOf_1 : decode cX7_kindOf 1 = .ok (.getfield 8, 3) := by decide +kernel
theorem dX7_kindOf_4 : decode cX7_kindOf 4 = .ok (.iload_n 1, 1) := by decide +kernel
theorem dX7_kindOf_5 : decode cX7_kindOf 5 = .ok (.iload_n 2, 1) := by decide +kernel
theorem dX7_kindOf_6 : decode cX7_kindOf 6 = .ok (.invokestatic 44, 3) := by decide +kernel
theorem dX7_kindOf_9 : decode cX7_kindOf 9 = .ok (.iaload, 1) := by decide +kernel
theorem dX7_kindOf_10 : decode cX7_kindOf 10 = .ok (.ireturn, 1) := by decide +kernel
theorem dX7_isMember_0 : decode cX7_isMember 0 = .ok (.iload_n 0, 1) := by decide +kernel
theorem dX7_isMember_1 : decode cX7_isMember 1 = .ok (.ifCond .lt 13, 3) := by decide +kernel
theorem dX7_isMember_4 : decode cX7_isMember 4 = .ok (.iload_n 0, 1) := by decide +kernel
theorem dX7_isMember_5 : decode cX7_isMember 5 = .ok (.bipush 64, 2) := by decide +kernel
theorem dX7_isMember_7 : decode cX7_isMember 7 = .ok (.if_icmp .ge 7, 3) := by decide +kernel
theorem dX7_isMember_10 : decode cX7_isMember 10 = .ok (.iconst 1, 1) := by decide +kernel
theorem dX7_isMember_11 : decode cX7_isMember 11 = .ok (.goto 4, 3) := by decide +kernel
theorem dX7_isMember_14 : decode cX7_isMember 14 = .ok (.iconst 0, 1) := by decide +kernel
theorem dX7_isMember_15 : decode cX7_isMember 15 = .ok (.ireturn, 1) := by decide +kernel
theorem dX7_isMade_0 : decode cX7_isMade 0 = .ok (.aload_n 0, 1) := by decide +kernel
theorem dX7_isMade_1 : decode cX7_isMade 1 = .ok (.iload_n 1, 1) := by decide +kernel
theorem dX7_isMade_2 : decode cX7_isMade 2 = .ok (.iconst 0, 1) := by decide +kernel
theorem dX7_isMade_3 : decode cX7_isMade 3 = .ok (.invokevirtual 48, 3) := by decide +kernel
theorem dX7_isMade_6 : decode cX7_isMade 6 = .ok (.ifCond .eq 7, 3) := by decide +kernel
theorem dX7_isMade_9 : decode cX7_isMade 9 = .ok (.iconst 1, 1) := by decide +kernel
theorem dX7_isMade_10 : decode cX7_isMade 10 = .ok (.goto 4, 3) := by decide +kernel
theorem dX7_isMade_13 : decode cX7_isMade 13 = .ok (.iconst 0, 1) := by decide +kernel
theorem dX7_isMade_14 : decode cX7_isMade 14 = .ok (.ireturn, 1) := by decide +kernel
theorem dX7_isLetter_0 : decode cX7_isLetter 0 = .ok (.iload_n 1, 1) := by decide +kernel
theorem dX7_isLetter_1 : decode cX7_isLetter 1 = .ok (.ifCond .lt 18, 3) := by decide +kernel
theorem dX7_isLetter_4 : decode cX7_isLetter 4 = .ok (.iload_n 1, 1) := by decide +kernel
theorem dX7_isLetter_5 : decode cX7_isLetter 5 = .ok (.aload_n 0, 1) := by decide +kernel
theorem dX7_isLetter_6 : decode cX7_isLetter 6 = .ok (.getfield 8, 3) := by decide +kernel
theorem dX7_isLetter_9 : decode cX7_isLetter 9 = .ok (.ldc 51, 2) := by decide +kernel
theorem dX7_isLetter_11 : decode cX7_isLetter 11 = .ok (.iaload, 1) := by decide +kernel
theorem dX7_isLetter_12 : decode cX7_isLetter 12 = .ok (.if_icmp .ge 7, 3) := by decide +kernel
theorem dX7_isLetter_15 : decode cX7_isLetter 15 = .ok (.iconst 1, 1) := by decide +kernel
theorem dX7_isLetter_16 : decode cX7_isLetter 16 = .ok (.goto 4, 3) := by decide +kernel
theorem dX7_isLetter_19 : decode cX7_isLetter 19 = .ok (.iconst 0, 1) := by decide +kernel
theorem dX7_isLetter_20 : decode cX7_isLetter 20 = .ok (.ireturn, 1) := by decide +kernel
theorem dX7_letterOf_0 : decode cX7_letterOf 0 = .ok (.aload_n 0, 1) := by decide +kernel
theorem dX7_letterOf_1 : decode cX7_letterOf 1 = .ok (.getfield 8, 3) := by decide +kernel
theorem dX7_letterOf_4 : decode cX7_letterOf 4 = .ok (.sipush 29120, 3) := by decide +kernel
theorem dX7_letterOf_7 : decode cX7_letterOf 7 = .ok (.bipush 8, 2) := by decide +kernel
theorem dX7_letterOf_9 : decode cX7_letterOf 9 = .ok (.iload_n 1, 1) := by decide +kernel
theorem dX7_letterOf_10 : decode cX7_letterOf 10 = .ok (.imul, 1) := by decide +kernel
theorem dX7_letterOf_11 : decode cX7_letterOf 11 = .ok (.iadd, 1) := by decide +kernel
theorem dX7_letterOf_12 : decode cX7_letterOf 12 = .ok (.iload_n 2, 1) := by decide +kernel
theorem dX7_letterOf_13 : decode cX7_letterOf 13 = .ok (.iadd, 1) := by decide +kernel
theorem dX7_letterOf_14 : decode cX7_letterOf 14 = .ok (.iaload, 1) := by decide +kernel
theorem dX7_letterOf_15 : decode cX7_letterOf 15 = .ok (.ireturn, 1) := by decide +kernel
theorem dX7_isFull_0 : decode cX7_isFull 0 = .ok (.aload_n 0, 1) := by decide +kernel
theorem dX7_isFull_1 : decode cX7_isFull 1 = .ok (.getfield 8, 3) := by decide +kernel
theorem dX7_isFull_4 : decode cX7_isFull 4 = .ok (.ldc 51, 2) := by decide +kernel
theorem dX7_isFull_6 : decode cX7_isFull 6 = .ok (.iaload, 1) := by decide +kernel
theorem dX7_isFull_7 : decode cX7_isFull 7 = .ok (.sipush 1196, 3) := by decide +kernel
theorem dX7_isFull_10 : decode cX7_isFull 10 = .ok (.if_icmp .gt 29, 3) := by decide +kernel
theorem dX7_isFull_13 : decode cX7_isFull 13 = .ok (.aload_n 0, 1) := by decide +kernel
theorem dX7_isFull_14 : decode cX7_isFull 14 = .ok (.getfield 8, 3) := by decide +kernel
theorem dX7_isFull_17 : decode cX7_isFull 17 = .ok (.ldc 52, 2) := by decide +kernel
theorem dX7_isFull_19 : decode cX7_isFull 19 = .ok (.iaload, 1) := by decide +kernel
theorem dX7_isFull_20 : decode cX7_isFull 20 = .ok (.sipush 19800, 3) := by decide +kernel
theorem dX7_isFull_23 : decode cX7_isFull 23 = .ok (.if_icmp .gt 16, 3) := by decide +kernel
theorem dX7_isFull_26 : decode cX7_isFull 26 = .ok (.aload_n 0, 1) := by decide +kernel
theorem dX7_isFull_27 : decode cX7_isFull 27 = .ok (.getfield 8, 3) := by decide +kernel
theorem dX7_isFull_30 : decode cX7_isFull 30 = .ok (.ldc 53, 2) := by decide +kernel
theorem dX7_isFull_32 : decode cX7_isFull 32 = .ok (.iaload, 1) := by decide +kernel
theorem dX7_isFull_33 : decode cX7_isFull 33 = .ok (.sipush 4000, 3) := by decide +kernel
theorem dX7_isFull_36 : decode cX7_isFull 36 = .ok (.if_icmp .lt 7, 3) := by decide +kernel
theorem dX7_isFull_39 : decode cX7_isFull 39 = .ok (.iconst 1, 1) := by decide +kernel
theorem dX7_isFull_40 : decode cX7_isFull 40 = .ok (.goto 4, 3) := by decide +kernel
theorem dX7_isFull_43 : decode cX7_isFull 43 = .ok (.iconst 0, 1) := by decide +kernel
theorem dX7_isFull_44 : decode cX7_isFull 44 = .ok (.ireturn, 1) := by decide +kernel
theorem dX7_ran_0 : decode cX7_ran 0 = .ok (.aload_n 0, 1) := by decide +kernel
theorem dX7_ran_1 : decode cX7_ran 1 = .ok (.getfield 8, 3) := by decide +kernel
theorem dX7_ran_4 : decode cX7_ran 4 = .ok (.ldc 54, 2) := by decide +kernel
theorem dX7_ran_6 : decode cX7_ran 6 = .ok (.iload_n 1, 1) := by decide +kernel
theorem dX7_ran_7 : decode cX7_ran 7 = .ok (.iadd, 1) := by decide +kernel
theorem dX7_ran_8 : decode cX7_ran 8 = .ok (.dup2, 1) := by decide +kernel
theorem dX7_ran_9 : decode cX7_ran 9 = .ok (.iaload, 1) := by decide +kernel
theorem dX7_ran_10 : decode cX7_ran 10 = .ok (.iconst 1, 1) := by decide +kernel
theorem dX7_ran_11 : decode cX7_ran 11 = .ok (.iadd, 1) := by decide +kernel
theorem dX7_ran_12 : decode cX7_ran 12 = .ok (.iastore, 1) := by decide +kernel
theorem dX7_ran_13 : decode cX7_ran 13 = .ok (.return_, 1) := by decide +kernel
theorem dX7_draw_0 : decode cX7_draw 0 = .ok (.aload_n 0, 1) := by decide +kernel
theorem dX7_draw_1 : decode cX7_draw 1 = .ok (.getfield 17, 3) := by decide +kernel
theorem dX7_draw_4 : decode cX7_draw 4 = .ok (.iload_n 1, 1) := by decide +kernel
theorem dX7_draw_5 : decode cX7_draw 5 = .ok (.aload_n 0, 1) := by decide +kernel
theorem dX7_draw_6 : decode cX7_draw 6 = .ok (.getfield 17, 3) := by decide +kernel
theorem dX7_draw_9 : decode cX7_draw 9 = .ok (.iload_n 1, 1) := by decide +kernel
theorem dX7_draw_10 : decode cX7_draw 10 = .ok (.laload, 1) := by decide +kernel
theorem dX7_draw_11 : decode cX7_draw 11 = .ok (.ldc2_w 55, 3) := by decide +kernel
theorem dX7_draw_14 : decode cX7_draw 14 = .ok (.lmul, 1) := by decide +kernel
theorem dX7_draw_15 : decode cX7_draw 15 = .ok (.ldc2_w 57, 3) := by decide +kernel
theorem dX7_draw_18 : decode cX7_draw 18 = .ok (.ladd, 1) := by decide +kernel
theorem dX7_draw_19 : decode cX7_draw 19 = .ok (.lastore, 1) := by decide +kernel
theorem dX7_draw_20 : decode cX7_draw 20 = .ok (.aload_n 0, 1) := by decide +kernel
theorem dX7_draw_21 : decode cX7_draw 21 = .ok (.getfield 17, 3) := by decide +kernel
theorem dX7_draw_24 : decode cX7_draw 24 = .ok (.iload_n 1, 1) := by decide +kernel
theorem dX7_draw_25 : decode cX7_draw 25 = .ok (.laload, 1) := by decide +kernel
theorem dX7_draw_26 : decode cX7_draw 26 = .ok (.bipush 33, 2) := by decide +kernel
theorem dX7_draw_28 : decode cX7_draw 28 = .ok (.lushr, 1) := by decide +kernel
theorem dX7_draw_29 : decode cX7_draw 29 = .ok (.iload_n 2, 1) := by decide +kernel
theorem dX7_draw_30 : decode cX7_draw 30 = .ok (.i2l, 1) := by decide +kernel
theorem dX7_draw_31 : decode cX7_draw 31 = .ok (.lrem, 1) := by decide +kernel
theorem dX7_draw_32 : decode cX7_draw 32 = .ok (.l2i, 1) := by decide +kernel
theorem dX7_draw_33 : decode cX7_draw 33 = .ok (.ireturn, 1) := by decide +kernel
theorem dX7_writes_0 : decode cX7_writes 0 = .ok (.iload_n 1, 1) := by decide +kernel
theorem dX7_writes_1 : decode cX7_writes 1 = .ok (.iload_n 2, 1) := by decide +kernel
theorem dX7_writes_2 : decode cX7_writes 2 = .ok (.invokestatic 44, 3) := by decide +kernel
theorem dX7_writes_5 : decode cX7_writes 5 = .ok (.istore 6, 2) := by decide +kernel
theorem dX7_writes_7 : decode cX7_writes 7 = .ok (.aload_n 0, 1) := by decide +kernel
theorem dX7_writes_8 : decode cX7_writes 8 = .ok (.getfield 8, 3) := by decide +kernel
theorem dX7_writes_11 : decode cX7_writes 11 = .ok (.iload 6, 2) := by decide +kernel
theorem dX7_writes_13 : decode cX7_writes 13 = .ok (.iconst 0, 1) := by decide +kernel
theorem dX7_writes_14 : decode cX7_writes 14 = .ok (.iadd, 1) := by decide +kernel
theorem dX7_writes_15 : decode cX7_writes 15 = .ok (.iload_n 3, 1) := by decide +kernel
theorem dX7_writes_16 : decode cX7_writes 16 = .ok (.iastore, 1) := by decide +kernel
theorem dX7_writes_17 : decode cX7_writes 17 = .ok (.aload_n 0, 1) := by decide +kernel
theorem dX7_writes_18 : decode cX7_writes 18 = .ok (.getfield 8, 3) := by decide +kernel
theorem dX7_writes_21 : decode cX7_writes 21 = .ok (.iload 6, 2) := by decide +kernel
theorem dX7_writes_23 : decode cX7_writes 23 = .ok (.iconst 1, 1) := by decide +kernel
theorem dX7_writes_24 : decode cX7_writes 24 = .ok (.iadd, 1) := by decide +kernel
theorem dX7_writes_25 : decode cX7_writes 25 = .ok (.iload 4, 2) := by decide +kernel
theorem dX7_writes_27 : decode cX7_writes 27 = .ok (.iastore, 1) := by decide +kernel
theorem dX7_writes_28 : decode cX7_writes 28 = .ok (.aload_n 0, 1) := by decide +kernel
theorem dX7_writes_29 : decode cX7_writes 29 = .ok (.getfield 8, 3) := by decide +kernel
theorem dX7_writes_32 : decode cX7_writes 32 = .ok (.iload 6, 2) := by decide +kernel
theorem dX7_writes_34 : decode cX7_writes 34 = .ok (.iconst 2, 1) := by decide +kernel
theorem dX7_writes_35 : decode cX7_writes 35 = .ok (.iadd, 1) := by decide +kernel
theorem dX7_writes_36 : decode cX7_writes 36 = .ok (.iconst 0, 1) := by decide +kernel
theorem dX7_writes_37 : decode cX7_writes 37 = .ok (.iastore, 1) := by decide +kernel
theorem dX7_writes_38 : decode cX7_writes 38 = .ok (.aload_n 0, 1) := by decide +kernel
theorem dX7_writes_39 : decode cX7_writes 39 = .ok (.getfield 8, 3) := by decide +kernel
theorem dX7_writes_42 : decode cX7_writes 42 = .ok (.iload 6, 2) := by decide +kernel
theorem dX7_writes_44 : decode cX7_writes 44 = .ok (.iconst 3, 1) := by decide +kernel
theorem dX7_writes_45 : decode cX7_writes 45 = .ok (.iadd, 1) := by decide +kernel
theorem dX7_writes_46 : decode cX7_writes 46 = .ok (.aload_n 0, 1) := by decide +kernel
theorem dX7_writes_47 : decode cX7_writes 47 = .ok (.iload_n 1, 1) := by decide +kernel
theorem dX7_writes_48 : decode cX7_writes 48 = .ok (.iconst 2, 1) := by decide +kernel
theorem dX7_writes_49 : decode cX7_writes 49 = .ok (.invokevirtual 48, 3) := by decide +kernel
theorem dX7_writes_52 : decode cX7_writes 52 = .ok (.iastore, 1) := by decide +kernel
theorem dX7_writes_53 : decode cX7_writes 53 = .ok (.aload_n 0, 1) := by decide +kernel
theorem dX7_writes_54 : decode cX7_writes 54 = .ok (.getfield 8, 3) := by decide +kernel
theorem dX7_writes_57 : decode cX7_writes 57 = .ok (.iload 6, 2) := by decide +kernel
theorem dX7_writes_59 : decode cX7_writes 59 = .ok (.iconst 4, 1) := by decide +kernel
theorem dX7_writes_60 : decode cX7_writes 60 = .ok (.iadd, 1) := by decide +kernel
theorem dX7_writes_61 : decode cX7_writes 61 = .ok (.iload 5, 2) := by decide +kernel
theorem dX7_writes_63 : decode cX7_writes 63 = .ok (.iastore, 1) := by decide +kernel
theorem dX7_writes_64 : decode cX7_writes 64 = .ok (.return_, 1) := by decide +kernel
theorem dX7_takes_0 : decode cX7_takes 0 = .ok (.aload_n 0, 1) := by decide +kernel
theorem dX7_takes_1 : decode cX7_takes 1 = .ok (.iload_n 3, 1) := by decide +kernel
theorem dX7_takes_2 : decode cX7_takes 2 = .ok (.iconst 1, 1) := by decide +kernel
theorem dX7_takes_3 : decode cX7_takes 3 = .ok (.isub, 1) := by decide +kernel
theorem dX7_takes_4 : decode cX7_takes 4 = .ok (.invokevirtual 59, 3) := by decide +kernel
theorem dX7_takes_7 : decode cX7_takes 7 = .ok (.iload_n 2, 1) := by decide +kernel
theorem dX7_takes_8 : decode cX7_takes 8 = .ok (.iload_n 1, 1) := by decide +kernel
theorem dX7_takes_9 : decode cX7_takes 9 = .ok (.if_icmp .ne 49, 3) := by decide +kernel
theorem dX7_takes_12 : decode cX7_takes 12 = .ok (.iload_n 3, 1) := by decide +kernel
theorem dX7_takes_13 : decode cX7_takes 13 = .ok (.iconst 1, 1) := by decide +kernel
theorem dX7_takes_14 : decode cX7_takes 14 = .ok (.if_icmp .eq 14, 3) := by decide +kernel
theorem dX7_takes_17 : decode cX7_takes 17 = .ok (.iload 4, 2) := by decide +kernel
theorem dX7_takes_19 : decode cX7_takes 19 = .ok (.aload_n 0, 1) := by decide +kernel
theorem dX7_takes_20 : decode cX7_takes 20 = .ok (.iload_n 1, 1) := by decide +kernel
theorem dX7_takes_21 : decode cX7_takes 21 = .ok (.iconst 1, 1) := by decide +kernel
theorem dX7_takes_22 : decode cX7_takes 22 = .ok (.invokevirtual 48, 3) := by decide +kernel
theorem dX7_takes_25 : decode cX7_takes 25 = .ok (.if_icmp .ge 4, 3) := by decide +kernel
theorem dX7_takes_28 : decode cX7_takes 28 = .ok (.return_, 1) := by decide +kernel
theorem dX7_takes_29 : decode cX7_takes 29 = .ok (.aload_n 0, 1) := by decide +kernel
theorem dX7_takes_30 : decode cX7_takes 30 = .ok (.iload_n 1, 1) := by decide +kernel
theorem dX7_takes_31 : decode cX7_takes 31 = .ok (.iconst 1, 1) := by decide +kernel
theorem dX7_takes_32 : decode cX7_takes 32 = .ok (.iload 4, 2) := by decide +kernel
theorem dX7_takes_34 : decode cX7_takes 34 = .ok (.iconst 1, 1) := by decide +kernel
theorem dX7_takes_35 : decode cX7_takes 35 = .ok (.iadd, 1) := by decide +kernel
theorem dX7_takes_36 : decode cX7_takes 36 = .ok (.invokevirtual 63, 3) := by decide +kernel
theorem dX7_takes_39 : decode cX7_takes 39 = .ok (.aload_n 0, 1) := by decide +kernel
theorem dX7_takes_40 : decode cX7_takes 40 = .ok (.iload_n 1, 1) := by decide +kernel
theorem dX7_takes_41 : decode cX7_takes 41 = .ok (.iload_n 1, 1) := by decide +kernel
theorem dX7_takes_42 : decode cX7_takes 42 = .ok (.iconst 1, 1) := by decide +kernel
theorem dX7_takes_43 : decode cX7_takes 43 = .ok (.iload 4, 2) := by decide +kernel
theorem dX7_takes_45 : decode cX7_takes 45 = .ok (.iconst 1, 1) := by decide +kernel
theorem dX7_takes_46 : decode cX7_takes 46 = .ok (.iadd, 1) := by decide +kernel
theorem dX7_takes_47 : decode cX7_takes 47 = .ok (.iconst (-1), 1) := by decide +kernel
theorem dX7_takes_48 : decode cX7_takes 48 = .ok (.invokevirtual 67, 3) := by decide +kernel
theorem dX7_takes_51 : decode cX7_takes 51 = .ok (.aload_n 0, 1) := by decide +kernel
theorem dX7_takes_52 : decode cX7_takes 52 = .ok (.bipush 10, 2) := by decide +kernel
theorem dX7_takes_54 : decode cX7_takes 54 = .ok (.invokevirtual 59, 3) := by decide +kernel
theorem dX7_takes_57 : decode cX7_takes 57 = .ok (.return_, 1) := by decide +kernel
theorem dX7_takes_58 : decode cX7_takes 58 = .ok (.iload_n 1, 1) := by decide +kernel
theorem dX7_takes_59 : decode cX7_takes 59 = .ok (.iload_n 2, 1) := by decide +kernel
theorem dX7_takes_60 : decode cX7_takes 60 = .ok (.invokestatic 44, 3) := by decide +kernel
theorem dX7_takes_63 : decode cX7_takes 63 = .ok (.istore 6, 2) := by decide +kernel
theorem dX7_takes_65 : decode cX7_takes 65 = .ok (.aload_n 0, 1) := by decide +kernel
theorem dX7_takes_66 : decode cX7_takes 66 = .ok (.getfield 8, 3) := by decide +kernel
theorem dX7_takes_69 : decode cX7_takes 69 = .ok (.iload 6, 2) := by decide +kernel
theorem dX7_takes_71 : decode cX7_takes 71 = .ok (.iaload, 1) := by decide +kernel
theorem dX7_takes_72 : decode cX7_takes 72 = .ok (.ifCond .eq 42, 3) := by decide +kernel
theorem dX7_takes_75 : decode cX7_takes 75 = .ok (.iload 4, 2) := by decide +kernel
theorem dX7_takes_77 : decode cX7_takes 77 = .ok (.aload_n 0, 1) := by decide +kernel
theorem dX7_takes_78 : decode cX7_takes 78 = .ok (.getfield 8, 3) := by decide +kernel
theorem dX7_takes_81 : decode cX7_takes 81 = .ok (.iload 6, 2) := by decide +kernel
theorem dX7_takes_83 : decode cX7_takes 83 = .ok (.iconst 1, 1) := by decide +kernel
theorem dX7_takes_84 : decode cX7_takes 84 = .ok (.iadd, 1) := by decide +kernel
theorem dX7_takes_85 : decode cX7_takes 85 = .ok (.iaload, 1) := by decide +kernel
theorem dX7_takes_86 : decode cX7_takes 86 = .ok (.if_icmp .gt 28, 3) := by decide +kernel
theorem dX7_takes_89 : decode cX7_takes 89 = .ok (.iload 4, 2) := by decide +kernel
theorem dX7_takes_91 : decode cX7_takes 91 = .ok (.aload_n 0, 1) := by decide +kernel
theorem dX7_takes_92 : decode cX7_takes 92 = .ok (.getfield 8, 3) := by decide +kernel
theorem dX7_takes_95 : decode cX7_takes 95 = .ok (.iload 6, 2) := by decide +kernel
theorem dX7_takes_97 : decode cX7_takes 97 = .ok (.iconst 1, 1) := by decide +kernel
theorem dX7_takes_98 : decode cX7_takes 98 = .ok (.iadd, 1) := by decide +kernel
theorem dX7_takes_99 : decode cX7_takes 99 = .ok (.iaload, 1) := by decide +kernel
theorem dX7_takes_100 : decode cX7_takes 100 = .ok (.if_icmp .ne 18, 3) := by decide +kernel
theorem dX7_takes_103 : decode cX7_takes 103 = .ok (.iload_n 3, 1) := by decide +kernel
theorem dX7_takes_104 : decode cX7_takes 104 = .ok (.aload_n 0, 1) := by decide +kernel
theorem dX7_takes_105 : decode cX7_takes 105 = .ok (.getfield 8, 3) := by decide +kernel
theorem dX7_takes_108 : decode cX7_takes 108 = .ok (.iload 6, 2) := by decide +kernel
theorem dX7_takes_110 : decode cX7_takes 110 = .ok (.iaload, 1) := by decide +kernel
theorem dX7_takes_111 : decode cX7_takes 111 = .ok (.if_icmp .le 7, 3) := by decide +kernel
theorem dX7_takes_114 : decode cX7_takes 114 = .ok (.iconst 1, 1) := by decide +kernel
theorem dX7_takes_115 : decode cX7_takes 115 = .ok (.goto 4, 3) := by decide +kernel
theorem dX7_takes_118 : decode cX7_takes 118 = .ok (.iconst 0, 1) := by decide +kernel
theorem dX7_takes_119 : decode cX7_takes 119 = .ok (.istore 7, 2) := by decide +kernel
theorem dX7_takes_121 : decode cX7_takes 121 = .ok (.iload 7, 2) := by decide +kernel
theorem dX7_takes_123 : decode cX7_takes 123 = .ok (.ifCond .eq 14, 3) := by decide +kernel
theorem dX7_takes_126 : decode cX7_takes 126 = .ok (.aload_n 0, 1) := by decide +kernel
theorem dX7_takes_127 : decode cX7_takes 127 = .ok (.iload_n 1, 1) := by decide +kernel
theorem dX7_takes_128 : decode cX7_takes 128 = .ok (.iload_n 2, 1) := by decide +kernel
theorem dX7_takes_129 : decode cX7_takes 129 = .ok (.iload_n 3, 1) := by decide +kernel
theorem dX7_takes_130 : decode cX7_takes 130 = .ok (.iload 4, 2) := by decide +kernel
theorem dX7_takes_132 : decode cX7_takes 132 = .ok (.iload 5, 2) := by decide +kernel
theorem dX7_takes_134 : decode cX7_takes 134 = .ok (.invokevirtual 67, 3) := by decide +kernel
theorem dX7_takes_137 : decode cX7_takes 137 = .ok (.return_, 1) := by decide +kernel
theorem dX7_carry_0 : decode cX7_carry 0 = .ok (.iload_n 1, 1) := by decide +kernel
theorem dX7_carry_1 : decode cX7_carry 1 = .ok (.iload_n 2, 1) := by decide +kernel
theorem dX7_carry_2 : decode cX7_carry 2 = .ok (.invokestatic 44, 3) := by decide +kernel
theorem dX7_carry_5 : decode cX7_carry 5 = .ok (.istore_n 3, 1) := by decide +kernel
theorem dX7_carry_6 : decode cX7_carry 6 = .ok (.ldc 71, 2) := by decide +kernel
theorem dX7_carry_8 : decode cX7_carry 8 = .ok (.iconst 4, 1) := by decide +kernel
theorem dX7_carry_9 : decode cX7_carry 9 = .ok (.aload_n 0, 1) := by decide +kernel
theorem dX7_carry_10 : decode cX7_carry 10 = .ok (.getfield 8, 3) := by decide +kernel
theorem dX7_carry_13 : decode cX7_carry 13 = .ok (.ldc 52, 2) := by decide +kernel
theorem dX7_carry_15 : decode cX7_carry 15 = .ok (.iaload, 1) := by decide +kernel
theorem dX7_carry_16 : decode cX7_carry 16 = .ok (.imul, 1) := by decide +kernel
theorem dX7_carry_17 : decode cX7_carry 17 = .ok (.iadd, 1) := by decide +kernel
theorem dX7_carry_18 : decode cX7_carry 18 = .ok (.istore 4, 2) := by decide +kernel
theorem dX7_carry_20 : decode cX7_carry 20 = .ok (.aload_n 0, 1) := by decide +kernel
theorem dX7_carry_21 : decode cX7_carry 21 = .ok (.getfield 8, 3) := by decide +kernel
theorem dX7_carry_24 : decode cX7_carry 24 = .ok (.iload 4, 2) := by decide +kernel
theorem dX7_carry_26 : decode cX7_carry 26 = .ok (.iload_n 2, 1) := by decide +kernel
theorem dX7_carry_27 : decode cX7_carry 27 = .ok (.iastore, 1) := by decide +kernel
theorem dX7_carry_28 : decode cX7_carry 28 = .ok (.aload_n 0, 1) := by decide +kernel
theorem dX7_carry_29 : decode cX7_carry 29 = .ok (.getfield 8, 3) := by decide +kernel
theorem dX7_carry_32 : decode cX7_carry 32 = .ok (.iload 4, 2) := by decide +kernel
theorem dX7_carry_34 : decode cX7_carry 34 = .ok (.iconst 1, 1) := by decide +kernel
theorem dX7_carry_35 : decode cX7_carry 35 = .ok (.iadd, 1) := by decide +kernel
theorem dX7_carry_36 : decode cX7_carry 36 = .ok (.aload_n 0, 1) := by decide +kernel
theorem dX7_carry_37 : decode cX7_carry 37 = .ok (.getfield 8, 3) := by decide +kernel
theorem dX7_carry_40 : decode cX7_carry 40 = .ok (.iload_n 3, 1) := by decide +kernel
theorem dX7_carry_41 : decode cX7_carry 41 = .ok (.iconst 0, 1) := by decide +kernel
theorem dX7_carry_42 : decode cX7_carry 42 = .ok (.iadd, 1) := by decide +kernel
theorem dX7_carry_43 : decode cX7_carry 43 = .ok (.iaload, 1) := by decide +kernel
theorem dX7_carry_44 : decode cX7_carry 44 = .ok (.iastore, 1) := by decide +kernel
theorem dX7_carry_45 : decode cX7_carry 45 = .ok (.aload_n 0, 1) := by decide +kernel
theorem dX7_carry_46 : decode cX7_carry 46 = .ok (.getfield 8, 3) := by decide +kernel
theorem dX7_carry_49 : decode cX7_carry 49 = .ok (.iload 4, 2) := by decide +kernel
theorem dX7_carry_51 : decode cX7_carry 51 = .ok (.iconst 2, 1) := by decide +kernel
theorem dX7_carry_52 : decode cX7_carry 52 = .ok (.iadd, 1) := by decide +kernel
theorem dX7_carry_53 : decode cX7_carry 53 = .ok (.aload_n 0, 1) := by decide +kernel
theorem dX7_carry_54 : decode cX7_carry 54 = .ok (.getfield 8, 3) := by decide +kernel
theorem dX7_carry_57 : decode cX7_carry 57 = .ok (.iload_n 3, 1) := by decide +kernel
theorem dX7_carry_58 : decode cX7_carry 58 = .ok (.iconst 1, 1) := by decide +kernel
theorem dX7_carry_59 : decode cX7_carry 59 = .ok (.iadd, 1) := by decide +kernel
theorem dX7_carry_60 : decode cX7_carry 60 = .ok (.iaload, 1) := by decide +kernel
theorem dX7_carry_61 : decode cX7_carry 61 = .ok (.iastore, 1) := by decide +kernel
theorem dX7_carry_62 : decode cX7_carry 62 = .ok (.aload_n 0, 1) := by decide +kernel
theorem dX7_carry_63 : decode cX7_carry 63 = .ok (.getfield 8, 3) := by decide +kernel
theorem dX7_carry_66 : decode cX7_carry 66 = .ok (.iload 4, 2) := by decide +kernel
theorem dX7_carry_68 : decode cX7_carry 68 = .ok (.iconst 3, 1) := by decide +kernel
theorem dX7_carry_69 : decode cX7_carry 69 = .ok (.iadd, 1) := by decide +kernel
theorem dX7_carry_70 : decode cX7_carry 70 = .ok (.aload_n 0, 1) := by decide +kernel
theorem dX7_carry_71 : decode cX7_carry 71 = .ok (.getfield 8, 3) := by decide +kernel
theorem dX7_carry_74 : decode cX7_carry 74 = .ok (.iload_n 3, 1) := by decide +kernel
theorem dX7_carry_75 : decode cX7_carry 75 = .ok (.iconst 4, 1) := by decide +kernel
theorem dX7_carry_76 : decode cX7_carry 76 = .ok (.iadd, 1) := by decide +kernel
theorem dX7_carry_77 : decode cX7_carry 77 = .ok (.iaload, 1) := by decide +kernel
theorem dX7_carry_78 : decode cX7_carry 78 = .ok (.iastore, 1) := by decide +kernel
theorem dX7_carry_79 : decode cX7_carry 79 = .ok (.aload_n 0, 1) := by decide +kernel
theorem dX7_carry_80 : decode cX7_carry 80 = .ok (.getfield 8, 3) := by decide +kernel
theorem dX7_carry_83 : decode cX7_carry 83 = .ok (.ldc 52, 2) := by decide +kernel
theorem dX7_carry_85 : decode cX7_carry 85 = .ok (.dup2, 1) := by decide +kernel
theorem dX7_carry_86 : decode cX7_carry 86 = .ok (.iaload, 1) := by decide +kernel
theorem dX7_carry_87 : decode cX7_carry 87 = .ok (.iconst 1, 1) := by decide +kernel
theorem dX7_carry_88 : decode cX7_carry 88 = .ok (.iadd, 1) := by decide +kernel
theorem dX7_carry_89 : decode cX7_carry 89 = .ok (.iastore, 1) := by decide +kernel
theorem dX7_carry_90 : decode cX7_carry 90 = .ok (.aload_n 0, 1) := by decide +kernel
theorem dX7_carry_91 : decode cX7_carry 91 = .ok (.iconst 3, 1) := by decide +kernel
theorem dX7_carry_92 : decode cX7_carry 92 = .ok (.aload_n 0, 1) := by decide +kernel
theorem dX7_carry_93 : decode cX7_carry 93 = .ok (.getfield 8, 3) := by decide +kernel
theorem dX7_carry_96 : decode cX7_carry 96 = .ok (.iload_n 3, 1) := by decide +kernel
theorem dX7_carry_97 : decode cX7_carry 97 = .ok (.iconst 0, 1) := by decide +kernel
theorem dX7_carry_98 : decode cX7_carry 98 = .ok (.iadd, 1) := by decide +kernel
theorem dX7_carry_99 : decode cX7_carry 99 = .ok (.iaload, 1) := by decide +kernel
theorem dX7_carry_100 : decode cX7_carry 100 = .ok (.iadd, 1) := by decide +kernel
theorem dX7_carry_101 : decode cX7_carry 101 = .ok (.invokevirtual 59, 3) := by decide +kernel
theorem dX7_carry_104 : decode cX7_carry 104 = .ok (.return_, 1) := by decide +kernel
theorem dX7_leastTold_0 : decode cX7_leastTold 0 = .ok (.iconst (-1), 1) := by decide +kernel
theorem dX7_leastTold_1 : decode cX7_leastTold 1 = .ok (.istore_n 2, 1) := by decide +kernel
theorem dX7_leastTold_2 : decode cX7_leastTold 2 = .ok (.iconst 0, 1) := by decide +kernel
theorem dX7_leastTold_3 : decode cX7_leastTold 3 = .ok (.istore_n 3, 1) := by decide +kernel
theorem dX7_leastTold_4 : decode cX7_leastTold 4 = .ok (.iload_n 3, 1) := by decide +kernel
theorem dX7_leastTold_5 : decode cX7_leastTold 5 = .ok (.bipush 64, 2) := by decide +kernel
theorem dX7_leastTold_7 : decode cX7_leastTold 7 = .ok (.if_icmp .ge 91, 3) := by decide +kernel
theorem dX7_leastTold_10 : decode cX7_leastTold 10 = .ok (.iload_n 1, 1) := by decide +kernel
theorem dX7_leastTold_11 : decode cX7_leastTold 11 = .ok (.iload_n 3, 1) := by decide +kernel
theorem dX7_leastTold_12 : decode cX7_leastTold 12 = .ok (.invokestatic 44, 3) := by decide +kernel
theorem dX7_leastTold_15 : decode cX7_leastTold 15 = .ok (.istore 4, 2) := by decide +kernel
theorem dX7_leastTold_17 : decode cX7_leastTold 17 = .ok (.aload_n 0, 1) := by decide +kernel
theorem dX7_leastTold_18 : decode cX7_leastTold 18 = .ok (.getfield 8, 3) := by decide +kernel
theorem dX7_leastTold_21 : decode cX7_leastTold 21 = .ok (.iload 4, 2) := by decide +kernel
theorem dX7_leastTold_23 : decode cX7_leastTold 23 = .ok (.iaload, 1) := by decide +kernel
theorem dX7_leastTold_24 : decode cX7_leastTold 24 = .ok (.ifCond .eq 30, 3) := by decide +kernel
theorem dX7_leastTold_27 : decode cX7_leastTold 27 = .ok (.aload_n 0, 1) := by decide +kernel
theorem dX7_leastTold_28 : decode cX7_leastTold 28 = .ok (.getfield 8, 3) := by decide +kernel
theorem dX7_leastTold_31 : decode cX7_leastTold 31 = .ok (.iload 4, 2) := by decide +kernel
theorem dX7_leastTold_33 : decode cX7_leastTold 33 = .ok (.iconst 2, 1) := by decide +kernel
theorem dX7_leastTold_34 : decode cX7_leastTold 34 = .ok (.iadd, 1) := by decide +kernel
theorem dX7_leastTold_35 : decode cX7_leastTold 35 = .ok (.iaload, 1) := by decide +kernel
theorem dX7_leastTold_36 : decode cX7_leastTold 36 = .ok (.bipush 8, 2) := by decide +kernel
theorem dX7_leastTold_38 : decode cX7_leastTold 38 = .ok (.if_icmp .ge 16, 3) := by decide +kernel
theorem dX7_leastTold_41 : decode cX7_leastTold 41 = .ok (.aload_n 0, 1) := by decide +kernel
theorem dX7_leastTold_42 : decode cX7_leastTold 42 = .ok (.getfield 36, 3) := by decide +kernel
theorem dX7_leastTold_45 : decode cX7_leastTold 45 = .ok (.iload_n 3, 1) := by decide +kernel
theorem dX7_leastTold_46 : decode cX7_leastTold 46 = .ok (.baload, 1) := by decide +kernel
theorem dX7_leastTold_47 : decode cX7_leastTold 47 = .ok (.ifCond .ne 7, 3) := by decide +kernel
theorem dX7_leastTold_50 : decode cX7_leastTold 50 = .ok (.iconst 1, 1) := by decide +kernel
theorem dX7_leastTold_51 : decode cX7_leastTold 51 = .ok (.goto 4, 3) := by decide +kernel
theorem dX7_leastTold_54 : decode cX7_leastTold 54 = .ok (.iconst 0, 1) := by decide +kernel
theorem dX7_leastTold_55 : decode cX7_leastTold 55 = .ok (.istore 5, 2) := by decide +kernel
theorem dX7_leastTold_57 : decode cX7_leastTold 57 = .ok (.iload 5, 2) := by decide +kernel
theorem dX7_leastTold_59 : decode cX7_leastTold 59 = .ok (.ifCond .eq 33, 3) := by decide +kernel
theorem dX7_leastTold_62 : decode cX7_leastTold 62 = .ok (.iload_n 2, 1) := by decide +kernel
theorem dX7_leastTold_63 : decode cX7_leastTold 63 = .ok (.ifCond .lt 27, 3) := by decide +kernel
theorem dX7_leastTold_66 : decode cX7_leastTold 66 = .ok (.aload_n 0, 1) := by decide +kernel
theorem dX7_leastTold_67 : decode cX7_leastTold 67 = .ok (.getfield 8, 3) := by decide +kernel
theorem dX7_leastTold_70 : decode cX7_leastTold 70 = .ok (.iload 4, 2) := by decide +kernel
theorem dX7_leastTold_72 : decode cX7_leastTold 72 = .ok (.iconst 2, 1) := by decide +kernel
theorem dX7_leastTold_73 : decode cX7_leastTold 73 = .ok (.iadd, 1) := by decide +kernel
theorem dX7_leastTold_74 : decode cX7_leastTold 74 = .ok (.iaload, 1) := by decide +kernel
theorem dX7_leastTold_75 : decode cX7_leastTold 75 = .ok (.aload_n 0, 1) := by decide +kernel
theorem dX7_leastTold_76 : decode cX7_leastTold 76 = .ok (.getfield 8, 3) := by decide +kernel
theorem dX7_leastTold_79 : decode cX7_leastTold 79 = .ok (.iload_n 1, 1) := by decide +kernel
theorem dX7_leastTold_80 : decode cX7_leastTold 80 = .ok (.iload_n 2, 1) := by decide +kernel
theorem dX7_leastTold_81 : decode cX7_leastTold 81 = .ok (.invokestatic 44, 3) := by decide +kernel
theorem dX7_leastTold_84 : decode cX7_leastTold 84 = .ok (.iconst 2, 1) := by decide +kernel
theorem dX7_leastTold_85 : decode cX7_leastTold 85 = .ok (.iadd, 1) := by decide +kernel
theorem dX7_leastTold_86 : decode cX7_leastTold 86 = .ok (.iaload, 1) := by decide +kernel
theorem dX7_leastTold_87 : decode cX7_leastTold 87 = .ok (.if_icmp .ge 5, 3) := by decide +kernel
theorem dX7_leastTold_90 : decode cX7_leastTold 90 = .ok (.iload_n 3, 1) := by decide +kernel
theorem dX7_leastTold_91 : decode cX7_leastTold 91 = .ok (.istore_n 2, 1) := by decide +kernel
theorem dX7_leastTold_92 : decode cX7_leastTold 92 = .ok (.iinc 3 1, 3) := by decide +kernel
theorem dX7_leastTold_95 : decode cX7_leastTold 95 = .ok (.goto (-91), 3) := by decide +kernel
theorem dX7_leastTold_98 : decode cX7_leastTold 98 = .ok (.iload_n 2, 1) := by decide +kernel
theorem dX7_leastTold_99 : decode cX7_leastTold 99 = .ok (.ireturn, 1) := by decide +kernel
theorem dX7_send_0 : decode cX7_send 0 = .ok (.aload_n 0, 1) := by decide +kernel
theorem dX7_send_1 : decode cX7_send 1 = .ok (.getfield 8, 3) := by decide +kernel
theorem dX7_send_4 : decode cX7_send 4 = .ok (.ldc 51, 2) := by decide +kernel
theorem dX7_send_6 : decode cX7_send 6 = .ok (.iaload, 1) := by decide +kernel
theorem dX7_send_7 : decode cX7_send 7 = .ok (.istore 5, 2) := by decide +kernel
theorem dX7_send_9 : decode cX7_send 9 = .ok (.sipush 29120, 3) := by decide +kernel
theorem dX7_send_12 : decode cX7_send 12 = .ok (.bipush 8, 2) := by decide +kernel
theorem dX7_send_14 : decode cX7_send 14 = .ok (.iload 5, 2) := by decide +kernel
theorem dX7_send_16 : decode cX7_send 16 = .ok (.imul, 1) := by decide +kernel
theorem dX7_send_17 : decode cX7_send 17 = .ok (.iadd, 1) := by decide +kernel
theorem dX7_send_18 : decode cX7_send 18 = .ok (.istore 6, 2) := by decide +kernel
theorem dX7_send_20 : decode cX7_send 20 = .ok (.aload_n 0, 1) := by decide +kernel
theorem dX7_send_21 : decode cX7_send 21 = .ok (.getfield 8, 3) := by decide +kernel
theorem dX7_send_24 : decode cX7_send 24 = .ok (.ldc 51, 2) := by decide +kernel
theorem dX7_send_26 : decode cX7_send 26 = .ok (.dup2, 1) := by decide +kernel
theorem dX7_send_27 : decode cX7_send 27 = .ok (.iaload, 1) := by decide +kernel
theorem dX7_send_28 : decode cX7_send 28 = .ok (.iconst 1, 1) := by decide +kernel
theorem dX7_send_29 : decode cX7_send 29 = .ok (.iadd, 1) := by decide +kernel
theorem dX7_send_30 : decode cX7_send 30 = .ok (.iastore, 1) := by decide +kernel
theorem dX7_send_31 : decode cX7_send 31 = .ok (.aload_n 0, 1) := by decide +kernel
theorem dX7_send_32 : decode cX7_send 32 = .ok (.getfield 8, 3) := by decide +kernel
theorem dX7_send_35 : decode cX7_send 35 = .ok (.iload 6, 2) := by decide +kernel
theorem dX7_send_37 : decode cX7_send 37 = .ok (.iconst 0, 1) := by decide +kernel
theorem dX7_send_38 : decode cX7_send 38 = .ok (.iadd, 1) := by decide +kernel
theorem dX7_send_39 : decode cX7_send 39 = .ok (.iload_n 3, 1) := by decide +kernel
theorem dX7_send_40 : decode cX7_send 40 = .ok (.iastore, 1) := by decide +kernel
theorem dX7_send_41 : decode cX7_send 41 = .ok (.aload_n 0, 1) := by decide +kernel
theorem dX7_send_42 : decode cX7_send 42 = .ok (.getfield 8, 3) := by decide +kernel
theorem dX7_send_45 : decode cX7_send 45 = .ok (.iload 6, 2) := by decide +kernel
theorem dX7_send_47 : decode cX7_send 47 = .ok (.iconst 1, 1) := by decide +kernel
theorem dX7_send_48 : decode cX7_send 48 = .ok (.iadd, 1) := by decide +kernel
theorem dX7_send_49 : decode cX7_send 49 = .ok (.iload_n 1, 1) := by decide +kernel
theorem dX7_send_50 : decode cX7_send 50 = .ok (.iastore, 1) := by decide +kernel
theorem dX7_send_51 : decode cX7_send 51 = .ok (.aload_n 0, 1) := by decide +kernel
theorem dX7_send_52 : decode cX7_send 52 = .ok (.getfield 8, 3) := by decide +kernel
theorem dX7_send_55 : decode cX7_send 55 = .ok (.iload 6, 2) := by decide +kernel
theorem dX7_send_57 : decode cX7_send 57 = .ok (.iconst 2, 1) := by decide +kernel
theorem dX7_send_58 : decode cX7_send 58 = .ok (.iadd, 1) := by decide +kernel
theorem dX7_send_59 : decode cX7_send 59 = .ok (.iload_n 2, 1) := by decide +kernel
theorem dX7_send_60 : decode cX7_send 60 = .ok (.iastore, 1) := by decide +kernel
theorem dX7_send_61 : decode cX7_send 61 = .ok (.aload_n 0, 1) := by decide +kernel
theorem dX7_send_62 : decode cX7_send 62 = .ok (.getfield 8, 3) := by decide +kernel
theorem dX7_send_65 : decode cX7_send 65 = .ok (.iload 6, 2) := by decide +kernel
theorem dX7_send_67 : decode cX7_send 67 = .ok (.iconst 3, 1) := by decide +kernel
theorem dX7_send_68 : decode cX7_send 68 = .ok (.iadd, 1) := by decide +kernel
theorem dX7_send_69 : decode cX7_send 69 = .ok (.iload 4, 2) := by decide +kernel
theorem dX7_send_71 : decode cX7_send 71 = .ok (.iastore, 1) := by decide +kernel
theorem dX7_send_72 : decode cX7_send 72 = .ok (.aload_n 0, 1) := by decide +kernel
theorem dX7_send_73 : decode cX7_send 73 = .ok (.getfield 8, 3) := by decide +kernel
theorem dX7_send_76 : decode cX7_send 76 = .ok (.iload 6, 2) := by decide +kernel
theorem dX7_send_78 : decode cX7_send 78 = .ok (.iconst 4, 1) := by decide +kernel
theorem dX7_send_79 : decode cX7_send 79 = .ok (.iadd, 1) := by decide +kernel
theorem dX7_send_80 : decode cX7_send 80 = .ok (.aload_n 0, 1) := by decide +kernel
theorem dX7_send_81 : decode cX7_send 81 = .ok (.getfield 8, 3) := by decide +kernel
theorem dX7_send_84 : decode cX7_send 84 = .ok (.ldc 52, 2) := by decide +kernel
theorem dX7_send_86 : decode cX7_send 86 = .ok (.iaload, 1) := by decide +kernel
theorem dX7_send_87 : decode cX7_send 87 = .ok (.iastore, 1) := by decide +kernel
theorem dX7_send_88 : decode cX7_send 88 = .ok (.aload_n 0, 1) := by decide +kernel
theorem dX7_send_89 : decode cX7_send 89 = .ok (.getfield 8, 3) := by decide +kernel
theorem dX7_send_92 : decode cX7_send 92 = .ok (.iload 6, 2) := by decide +kernel
theorem dX7_send_94 : decode cX7_send 94 = .ok (.bipush 6, 2) := by decide +kernel
theorem dX7_send_96 : decode cX7_send 96 = .ok (.iadd, 1) := by decide +kernel
theorem dX7_send_97 : decode cX7_send 97 = .ok (.iconst 0, 1) := by decide +kernel
theorem dX7_send_98 : decode cX7_send 98 = .ok (.iastore, 1) := by decide +kernel
theorem dX7_send_99 : decode cX7_send 99 = .ok (.aload_n 0, 1) := by decide +kernel
theorem dX7_send_100 : decode cX7_send 100 = .ok (.getfield 8, 3) := by decide +kernel
theorem dX7_send_103 : decode cX7_send 103 = .ok (.iload 6, 2) := by decide +kernel
theorem dX7_send_105 : decode cX7_send 105 = .ok (.bipush 7, 2) := by decide +kernel
theorem dX7_send_107 : decode cX7_send 107 = .ok (.iadd, 1) := by decide +kernel
theorem dX7_send_108 : decode cX7_send 108 = .ok (.iconst (-1), 1) := by decide +kernel
theorem dX7_send_109 : decode cX7_send 109 = .ok (.iastore, 1) := by decide +kernel
theorem dX7_send_110 : decode cX7_send 110 = .ok (.iconst 0, 1) := by decide +kernel
theorem dX7_send_111 : decode cX7_send 111 = .ok (.istore 7, 2) := by decide +kernel
theorem dX7_send_113 : decode cX7_send 113 = .ok (.iload 7, 2) := by decide +kernel
theorem dX7_send_115 : decode cX7_send 115 = .ok (.bipush 64, 2) := by decide +kernel
theorem dX7_send_117 : decode cX7_send 117 = .ok (.if_icmp .ge 40, 3) := by decide +kernel
theorem dX7_send_120 : decode cX7_send 120 = .ok (.aload_n 0, 1) := by decide +kernel
theorem dX7_send_121 : decode cX7_send 121 = .ok (.getfield 36, 3) := by decide +kernel
theorem dX7_send_124 : decode cX7_send 124 = .ok (.iload 7, 2) := by decide +kernel
theorem dX7_send_126 : decode cX7_send 126 = .ok (.iconst 0, 1) := by decide +kernel
theorem dX7_send_127 : decode cX7_send 127 = .ok (.bastore, 1) := by decide +kernel
theorem dX7_send_128 : decode cX7_send 128 = .ok (.iload_n 3, 1) := by decide +kernel
theorem dX7_send_129 : decode cX7_send 129 = .ok (.bipush 6, 2) := by decide +kernel
theorem dX7_send_131 : decode cX7_send 131 = .ok (.if_icmp .ne 20, 3) := by decide +kernel
theorem dX7_send_134 : decode cX7_send 134 = .ok (.aload_n 0, 1) := by decide +kernel
theorem dX7_send_135 : decode cX7_send 135 = .ok (.iload_n 1, 1) := by decide +kernel
theorem dX7_send_136 : decode cX7_send 136 = .ok (.iload 7, 2) := by decide +kernel
theorem dX7_send_138 : decode cX7_send 138 = .ok (.invokevirtual 72, 3) := by decide +kernel
theorem dX7_send_141 : decode cX7_send 141 = .ok (.ifCond .eq 10, 3) := by decide +kernel
theorem dX7_send_144 : decode cX7_send 144 = .ok (.aload_n 0, 1) := by decide +kernel
theorem dX7_send_145 : decode cX7_send 145 = .ok (.iload_n 1, 1) := by decide +kernel
theorem dX7_send_146 : decode cX7_send 146 = .ok (.iload 7, 2) := by decide +kernel
theorem dX7_send_148 : decode cX7_send 148 = .ok (.invokevirtual 75, 3) := by decide +kernel
theorem dX7_send_151 : decode cX7_send 151 = .ok (.iinc 7 1, 3) := by decide +kernel
theorem dX7_send_154 : decode cX7_send 154 = .ok (.goto (-41), 3) := by decide +kernel
theorem dX7_send_157 : decode cX7_send 157 = .ok (.iconst 0, 1) := by decide +kernel
theorem dX7_send_158 : decode cX7_send 158 = .ok (.istore 7, 2) := by decide +kernel
theorem dX7_send_160 : decode cX7_send 160 = .ok (.iload 7, 2) := by decide +kernel
theorem dX7_send_162 : decode cX7_send 162 = .ok (.bipush 6, 2) := by decide +kernel
theorem dX7_send_164 : decode cX7_send 164 = .ok (.if_icmp .ge 45, 3) := by decide +kernel
theorem dX7_send_167 : decode cX7_send 167 = .ok (.iload_n 3, 1) := by decide +kernel
theorem dX7_send_168 : decode cX7_send 168 = .ok (.bipush 6, 2) := by decide +kernel
theorem dX7_send_170 : decode cX7_send 170 = .ok (.if_icmp .eq 39, 3) := by decide +kernel
theorem dX7_send_173 : decode cX7_send 173 = .ok (.aload_n 0, 1) := by decide +kernel
theorem dX7_send_174 : decode cX7_send 174 = .ok (.iload_n 1, 1) := by decide +kernel
theorem dX7_send_175 : decode cX7_send 175 = .ok (.invokevirtual 79, 3) := by decide +kernel
theorem dX7_send_178 : decode cX7_send 178 = .ok (.istore 8, 2) := by decide +kernel
theorem dX7_send_180 : decode cX7_send 180 = .ok (.iload 8, 2) := by decide +kernel
theorem dX7_send_182 : decode cX7_send 182 = .ok (.ifCond .ge 6, 3) := by decide +kernel
theorem dX7_send_185 : decode cX7_send 185 = .ok (.goto 24, 3) := by decide +kernel
theorem dX7_send_188 : decode cX7_send 188 = .ok (.aload_n 0, 1) := by decide +kernel
theorem dX7_send_189 : decode cX7_send 189 = .ok (.getfield 36, 3) := by decide +kernel
theorem dX7_send_192 : decode cX7_send 192 = .ok (.iload 8, 2) := by decide +kernel
theorem dX7_send_194 : decode cX7_send 194 = .ok (.iconst 1, 1) := by decide +kernel
theorem dX7_send_195 : decode cX7_send 195 = .ok (.bastore, 1) := by decide +kernel
theorem dX7_send_196 : decode cX7_send 196 = .ok (.aload_n 0, 1) := by decide +kernel
theorem dX7_send_197 : decode cX7_send 197 = .ok (.iload_n 1, 1) := by decide +kernel
theorem dX7_send_198 : decode cX7_send 198 = .ok (.iload 8, 2) := by decide +kernel
theorem dX7_send_200 : decode cX7_send 200 = .ok (.invokevirtual 75, 3) := by decide +kernel
theorem dX7_send_203 : decode cX7_send 203 = .ok (.iinc 7 1, 3) := by decide +kernel
theorem dX7_send_206 : decode cX7_send 206 = .ok (.goto (-46), 3) := by decide +kernel
theorem dX7_send_209 : decode cX7_send 209 = .ok (.iconst 0, 1) := by decide +kernel
theorem dX7_send_210 : decode cX7_send 210 = .ok (.istore 7, 2) := by decide +kernel
theorem dX7_send_212 : decode cX7_send 212 = .ok (.iload 7, 2) := by decide +kernel
theorem dX7_send_214 : decode cX7_send 214 = .ok (.bipush 64, 2) := by decide +kernel
theorem dX7_send_216 : decode cX7_send 216 = .ok (.if_icmp .ge 36, 3) := by decide +kernel
theorem dX7_send_219 : decode cX7_send 219 = .ok (.aload_n 0, 1) := by decide +kernel
theorem dX7_send_220 : decode cX7_send 220 = .ok (.getfield 36, 3) := by decide +kernel
theorem dX7_send_223 : decode cX7_send 223 = .ok (.iload 7, 2) := by decide +kernel
theorem dX7_send_225 : decode cX7_send 225 = .ok (.baload, 1) := by decide +kernel
theorem dX7_send_226 : decode cX7_send 226 = .ok (.ifCond .eq 20, 3) := by decide +kernel
theorem dX7_send_229 : decode cX7_send 229 = .ok (.aload_n 0, 1) := by decide +kernel
theorem dX7_send_230 : decode cX7_send 230 = .ok (.getfield 8, 3) := by decide +kernel
theorem dX7_send_233 : decode cX7_send 233 = .ok (.iload_n 1, 1) := by decide +kernel
theorem dX7_send_234 : decode cX7_send 234 = .ok (.iload 7, 2) := by decide +kernel
theorem dX7_send_236 : decode cX7_send 236 = .ok (.invokestatic 44, 3) := by decide +kernel
theorem dX7_send_239 : decode cX7_send 239 = .ok (.iconst 2, 1) := by decide +kernel
theorem dX7_send_240 : decode cX7_send 240 = .ok (.iadd, 1) := by decide +kernel
theorem dX7_send_241 : decode cX7_send 241 = .ok (.dup2, 1) := by decide +kernel
theorem dX7_send_242 : decode cX7_send 242 = .ok (.iaload, 1) := by decide +kernel
theorem dX7_send_243 : decode cX7_send 243 = .ok (.iconst 1, 1) := by decide +kernel
theorem dX7_send_244 : decode cX7_send 244 = .ok (.iadd, 1) := by decide +kernel
theorem dX7_send_245 : decode cX7_send 245 = .ok (.iastore, 1) := by decide +kernel
theorem dX7_send_246 : decode cX7_send 246 = .ok (.iinc 7 1, 3) := by decide +kernel
theorem dX7_send_249 : decode cX7_send 249 = .ok (.goto (-37), 3) := by decide +kernel
theorem dX7_send_252 : decode cX7_send 252 = .ok (.aload_n 0, 1) := by decide +kernel
theorem dX7_send_253 : decode cX7_send 253 = .ok (.getfield 8, 3) := by decide +kernel
theorem dX7_send_256 : decode cX7_send 256 = .ok (.iload 6, 2) := by decide +kernel
theorem dX7_send_258 : decode cX7_send 258 = .ok (.iconst 5, 1) := by decide +kernel
theorem dX7_send_259 : decode cX7_send 259 = .ok (.iadd, 1) := by decide +kernel
theorem dX7_send_260 : decode cX7_send 260 = .ok (.aload_n 0, 1) := by decide +kernel
theorem dX7_send_261 : decode cX7_send 261 = .ok (.getfield 8, 3) := by decide +kernel
theorem dX7_send_264 : decode cX7_send 264 = .ok (.ldc 52, 2) := by decide +kernel
theorem dX7_send_266 : decode cX7_send 266 = .ok (.iaload, 1) := by decide +kernel
theorem dX7_send_267 : decode cX7_send 267 = .ok (.aload_n 0, 1) := by decide +kernel
theorem dX7_send_268 : decode cX7_send 268 = .ok (.getfield 8, 3) := by decide +kernel
theorem dX7_send_271 : decode cX7_send 271 = .ok (.iload 6, 2) := by decide +kernel
theorem dX7_send_273 : decode cX7_send 273 = .ok (.iconst 4, 1) := by decide +kernel
theorem dX7_send_274 : decode cX7_send 274 = .ok (.iadd, 1) := by decide +kernel
theorem dX7_send_275 : decode cX7_send 275 = .ok (.iaload, 1) := by decide +kernel
theorem dX7_send_276 : decode cX7_send 276 = .ok (.isub, 1) := by decide +kernel
theorem dX7_send_277 : decode cX7_send 277 = .ok (.iastore, 1) := by decide +kernel
theorem dX7_send_278 : decode cX7_send 278 = .ok (.iload 5, 2) := by decide +kernel
theorem dX7_send_280 : decode cX7_send 280 = .ok (.ireturn, 1) := by decide +kernel
theorem dX7_answered_0 : decode cX7_answered 0 = .ok (.aload_n 0, 1) := by decide +kernel
theorem dX7_answered_1 : decode cX7_answered 1 = .ok (.iload_n 1, 1) := by decide +kernel
theorem dX7_answered_2 : decode cX7_answered 2 = .ok (.iconst 3, 1) := by decide +kernel
theorem dX7_answered_3 : decode cX7_answered 3 = .ok (.invokevirtual 48, 3) := by decide +kernel
theorem dX7_answered_6 : decode cX7_answered 6 = .ok (.iload_n 2, 1) := by decide +kernel
theorem dX7_answered_7 : decode cX7_answered 7 = .ok (.if_icmp .ne 10, 3) := by decide +kernel
theorem dX7_answered_10 : decode cX7_answered 10 = .ok (.aload_n 0, 1) := by decide +kernel
theorem dX7_answered_11 : decode cX7_answered 11 = .ok (.iload_n 1, 1) := by decide +kernel
theorem dX7_answered_12 : decode cX7_answered 12 = .ok (.iconst 3, 1) := by decide +kernel
theorem dX7_answered_13 : decode cX7_answered 13 = .ok (.iconst (-1), 1) := by decide +kernel
theorem dX7_answered_14 : decode cX7_answered 14 = .ok (.invokevirtual 63, 3) := by decide +kernel
theorem dX7_answered_17 : decode cX7_answered 17 = .ok (.aload_n 0, 1) := by decide +kernel
theorem dX7_answered_18 : decode cX7_answered 18 = .ok (.iload_n 1, 1) := by decide +kernel
theorem dX7_answered_19 : decode cX7_answered 19 = .ok (.iconst 4, 1) := by decide +kernel
theorem dX7_answered_20 : decode cX7_answered 20 = .ok (.invokevirtual 48, 3) := by decide +kernel
theorem dX7_answered_23 : decode cX7_answered 23 = .ok (.iload_n 2, 1) := by decide +kernel
theorem dX7_answered_24 : decode cX7_answered 24 = .ok (.if_icmp .ne 10, 3) := by decide +kernel
theorem dX7_answered_27 : decode cX7_answered 27 = .ok (.aload_n 0, 1) := by decide +kernel
theorem dX7_answered_28 : decode cX7_answered 28 = .ok (.iload_n 1, 1) := by decide +kernel
theorem dX7_answered_29 : decode cX7_answered 29 = .ok (.iconst 4, 1) := by decide +kernel
theorem dX7_answered_30 : decode cX7_answered 30 = .ok (.iconst (-1), 1) := by decide +kernel
theorem dX7_answered_31 : decode cX7_answered 31 = .ok (.invokevirtual 63, 3) := by decide +kernel
theorem dX7_answered_34 : decode cX7_answered 34 = .ok (.return_, 1) := by decide +kernel
theorem dX7_comes_0 : decode cX7_comes 0 = .ok (.aload_n 0, 1) := by decide +kernel
theorem dX7_comes_1 : decode cX7_comes 1 = .ok (.iload_n 1, 1) := by decide +kernel
theorem dX7_comes_2 : decode cX7_comes 2 = .ok (.iconst 1, 1) := by decide +kernel
theorem dX7_comes_3 : decode cX7_comes 3 = .ok (.invokevirtual 83, 3) := by decide +kernel
theorem dX7_comes_6 : decode cX7_comes 6 = .ok (.istore_n 2, 1) := by decide +kernel
theorem dX7_comes_7 : decode cX7_comes 7 = .ok (.aload_n 0, 1) := by decide +kernel
theorem dX7_comes_8 : decode cX7_comes 8 = .ok (.iload_n 1, 1) := by decide +kernel
theorem dX7_comes_9 : decode cX7_comes 9 = .ok (.iconst 2, 1) := by decide +kernel
theorem dX7_comes_10 : decode cX7_comes 10 = .ok (.invokevirtual 83, 3) := by decide +kernel
theorem dX7_comes_13 : decode cX7_comes 13 = .ok (.istore_n 3, 1) := by decide +kernel
theorem dX7_comes_14 : decode cX7_comes 14 = .ok (.aload_n 0, 1) := by decide +kernel
theorem dX7_comes_15 : decode cX7_comes 15 = .ok (.iload_n 1, 1) := by decide +kernel
theorem dX7_comes_16 : decode cX7_comes 16 = .ok (.iconst 3, 1) := by decide +kernel
theorem dX7_comes_17 : decode cX7_comes 17 = .ok (.invokevirtual 83, 3) := by decide +kernel
theorem dX7_comes_20 : decode cX7_comes 20 = .ok (.istore 4, 2) := by decide +kernel
theorem dX7_comes_22 : decode cX7_comes 22 = .ok (.iconst 0, 1) := by decide +kernel
theorem dX7_comes_23 : decode cX7_comes 23 = .ok (.istore 5, 2) := by decide +kernel
theorem dX7_comes_25 : decode cX7_comes 25 = .ok (.iload 5, 2) := by decide +kernel
theorem dX7_comes_27 : decode cX7_comes 27 = .ok (.aload_n 0, 1) := by decide +kernel
theorem dX7_comes_28 : decode cX7_comes 28 = .ok (.iload_n 1, 1) := by decide +kernel
theorem dX7_comes_29 : decode cX7_comes 29 = .ok (.iconst 5, 1) := by decide +kernel
theorem dX7_comes_30 : decode cX7_comes 30 = .ok (.invokevirtual 83, 3) := by decide +kernel
theorem dX7_comes_33 : decode cX7_comes 33 = .ok (.if_icmp .ge 56, 3) := by decide +kernel
theorem dX7_comes_36 : decode cX7_comes 36 = .ok (.ldc 71, 2) := by decide +kernel
theorem dX7_comes_38 : decode cX7_comes 38 = .ok (.iconst 4, 1) := by decide +kernel
theorem dX7_comes_39 : decode cX7_comes 39 = .ok (.aload_n 0, 1) := by decide +kernel
theorem dX7_comes_40 : decode cX7_comes 40 = .ok (.iload_n 1, 1) := by decide +kernel
theorem dX7_comes_41 : decode cX7_comes 41 = .ok (.iconst 4, 1) := by decide +kernel
theorem dX7_comes_42 : decode cX7_comes 42 = .ok (.invokevirtual 83, 3) := by decide +kernel
theorem dX7_comes_45 : decode cX7_comes 45 = .ok (.iload 5, 2) := by decide +kernel
theorem dX7_comes_47 : decode cX7_comes 47 = .ok (.iadd, 1) := by decide +kernel
theorem dX7_comes_48 : decode cX7_comes 48 = .ok (.imul, 1) := by decide +kernel
theorem dX7_comes_49 : decode cX7_comes 49 = .ok (.iadd, 1) := by decide +kernel
theorem dX7_comes_50 : decode cX7_comes 50 = .ok (.istore 6, 2) := by decide +kernel
theorem dX7_comes_52 : decode cX7_comes 52 = .ok (.aload_n 0, 1) := by decide +kernel
theorem dX7_comes_53 : decode cX7_comes 53 = .ok (.iload_n 3, 1) := by decide +kernel
theorem dX7_comes_54 : decode cX7_comes 54 = .ok (.aload_n 0, 1) := by decide +kernel
theorem dX7_comes_55 : decode cX7_comes 55 = .ok (.getfield 8, 3) := by decide +kernel
theorem dX7_comes_58 : decode cX7_comes 58 = .ok (.iload 6, 2) := by decide +kernel
theorem dX7_comes_60 : decode cX7_comes 60 = .ok (.iaload, 1) := by decide +kernel
theorem dX7_comes_61 : decode cX7_comes 61 = .ok (.aload_n 0, 1) := by decide +kernel
theorem dX7_comes_62 : decode cX7_comes 62 = .ok (.getfield 8, 3) := by decide +kernel
theorem dX7_comes_65 : decode cX7_comes 65 = .ok (.iload 6, 2) := by decide +kernel
theorem dX7_comes_67 : decode cX7_comes 67 = .ok (.iconst 1, 1) := by decide +kernel
theorem dX7_comes_68 : decode cX7_comes 68 = .ok (.iadd, 1) := by decide +kernel
theorem dX7_comes_69 : decode cX7_comes 69 = .ok (.iaload, 1) := by decide +kernel
theorem dX7_comes_70 : decode cX7_comes 70 = .ok (.aload_n 0, 1) := by decide +kernel
theorem dX7_comes_71 : decode cX7_comes 71 = .ok (.getfield 8, 3) := by decide +kernel
theorem dX7_comes_74 : decode cX7_comes 74 = .ok (.iload 6, 2) := by decide +kernel
theorem dX7_comes_76 : decode cX7_comes 76 = .ok (.iconst 2, 1) := by decide +kernel
theorem dX7_comes_77 : decode cX7_comes 77 = .ok (.iadd, 1) := by decide +kernel
theorem dX7_comes_78 : decode cX7_comes 78 = .ok (.iaload, 1) := by decide +kernel
theorem dX7_comes_79 : decode cX7_comes 79 = .ok (.iload_n 1, 1) := by decide +kernel
theorem dX7_comes_80 : decode cX7_comes 80 = .ok (.invokevirtual 86, 3) := by decide +kernel
theorem dX7_comes_83 : decode cX7_comes 83 = .ok (.iinc 5 1, 3) := by decide +kernel
theorem dX7_comes_86 : decode cX7_comes 86 = .ok (.goto (-61), 3) := by decide +kernel
theorem dX7_comes_89 : decode cX7_comes 89 = .ok (.iconst (-1), 1) := by decide +kernel
theorem dX7_comes_90 : decode cX7_comes 90 = .ok (.istore 5, 2) := by decide +kernel
theorem dX7_comes_92 : decode cX7_comes 92 = .ok (.aload_n 0, 1) := by decide +kernel
theorem dX7_comes_93 : decode cX7_comes 93 = .ok (.iload_n 1, 1) := by decide +kernel
theorem dX7_comes_94 : decode cX7_comes 94 = .ok (.iconst 0, 1) := by decide +kernel
theorem dX7_comes_95 : decode cX7_comes 95 = .ok (.invokevirtual 83, 3) := by decide +kernel
theorem dX7_comes_98 : decode cX7_comes 98 = .ok (.tableswitch 114 1 5 #[34, 48, 62, 90, 100], 34) := by decide +kernel
theorem dX7_comes_132 : decode cX7_comes 132 = .ok (.aload_n 0, 1) := by decide +kernel
theorem dX7_comes_133 : decode cX7_comes 133 = .ok (.iload_n 3, 1) := by decide +kernel
theorem dX7_comes_134 : decode cX7_comes 134 = .ok (.iload_n 2, 1) := by decide +kernel
theorem dX7_comes_135 : decode cX7_comes 135 = .ok (.iconst 3, 1) := by decide +kernel
theorem dX7_comes_136 : decode cX7_comes 136 = .ok (.iload 4, 2) := by decide +kernel
theorem dX7_comes_138 : decode cX7_comes 138 = .ok (.invokevirtual 89, 3) := by decide +kernel
theorem dX7_comes_141 : decode cX7_comes 141 = .ok (.istore 5, 2) := by decide +kernel
theorem dX7_comes_143 : decode cX7_comes 143 = .ok (.goto 69, 3) := by decide +kernel
theorem dX7_comes_146 : decode cX7_comes 146 = .ok (.aload_n 0, 1) := by decide +kernel
theorem dX7_comes_147 : decode cX7_comes 147 = .ok (.iload_n 3, 1) := by decide +kernel
theorem dX7_comes_148 : decode cX7_comes 148 = .ok (.iload 4, 2) := by decide +kernel
theorem dX7_comes_150 : decode cX7_comes 150 = .ok (.iconst 1, 1) := by decide +kernel
theorem dX7_comes_151 : decode cX7_comes 151 = .ok (.iload_n 2, 1) := by decide +kernel
theorem dX7_comes_152 : decode cX7_comes 152 = .ok (.invokevirtual 89, 3) := by decide +kernel
theorem dX7_comes_155 : decode cX7_comes 155 = .ok (.istore 5, 2) := by decide +kernel
theorem dX7_comes_157 : decode cX7_comes 157 = .ok (.goto 55, 3) := by decide +kernel
theorem dX7_comes_160 : decode cX7_comes 160 = .ok (.iload 4, 2) := by decide +kernel
theorem dX7_comes_162 : decode cX7_comes 162 = .ok (.ifCond .ge 12, 3) := by decide +kernel
theorem dX7_comes_165 : decode cX7_comes 165 = .ok (.aload_n 0, 1) := by decide +kernel
theorem dX7_comes_166 : decode cX7_comes 166 = .ok (.iload_n 3, 1) := by decide +kernel
theorem dX7_comes_167 : decode cX7_comes 167 = .ok (.iload_n 2, 1) := by decide +kernel
theorem dX7_comes_168 : decode cX7_comes 168 = .ok (.invokevirtual 93, 3) := by decide +kernel
theorem dX7_comes_171 : decode cX7_comes 171 = .ok (.goto 41, 3) := by decide +kernel
theorem dX7_comes_174 : decode cX7_comes 174 = .ok (.aload_n 0, 1) := by decide +kernel
theorem dX7_comes_175 : decode cX7_comes 175 = .ok (.iload_n 3, 1) := by decide +kernel
theorem dX7_comes_176 : decode cX7_comes 176 = .ok (.iload 4, 2) := by decide +kernel
theorem dX7_comes_178 : decode cX7_comes 178 = .ok (.iconst 4, 1) := by decide +kernel
theorem dX7_comes_179 : decode cX7_comes 179 = .ok (.iload_n 2, 1) := by decide +kernel
theorem dX7_comes_180 : decode cX7_comes 180 = .ok (.invokevirtual 89, 3) := by decide +kernel
theorem dX7_comes_183 : decode cX7_comes 183 = .ok (.istore 5, 2) := by decide +kernel
theorem dX7_comes_185 : decode cX7_comes 185 = .ok (.goto 27, 3) := by decide +kernel
theorem dX7_comes_188 : decode cX7_comes 188 = .ok (.aload_n 0, 1) := by decide +kernel
theorem dX7_comes_189 : decode cX7_comes 189 = .ok (.iload_n 3, 1) := by decide +kernel
theorem dX7_comes_190 : decode cX7_comes 190 = .ok (.iload 4, 2) := by decide +kernel
theorem dX7_comes_192 : decode cX7_comes 192 = .ok (.invokevirtual 93, 3) := by decide +kernel
theorem dX7_comes_195 : decode cX7_comes 195 = .ok (.goto 17, 3) := by decide +kernel
theorem dX7_comes_198 : decode cX7_comes 198 = .ok (.aload_n 0, 1) := by decide +kernel
theorem dX7_comes_199 : decode cX7_comes 199 = .ok (.iload_n 3, 1) := by decide +kernel
theorem dX7_comes_200 : decode cX7_comes 200 = .ok (.iload_n 2, 1) := by decide +kernel
theorem dX7_comes_201 : decode cX7_comes 201 = .ok (.bipush 6, 2) := by decide +kernel
theorem dX7_comes_203 : decode cX7_comes 203 = .ok (.iconst (-1), 1) := by decide +kernel
theorem dX7_comes_204 : decode cX7_comes 204 = .ok (.invokevirtual 89, 3) := by decide +kernel
theorem dX7_comes_207 : decode cX7_comes 207 = .ok (.istore 5, 2) := by decide +kernel
theorem dX7_comes_209 : decode cX7_comes 209 = .ok (.goto 3, 3) := by decide +kernel
theorem dX7_comes_212 : decode cX7_comes 212 = .ok (.iload 5, 2) := by decide +kernel
theorem dX7_comes_214 : decode cX7_comes 214 = .ok (.ifCond .ge 7, 3) := by decide +kernel
theorem dX7_comes_217 : decode cX7_comes 217 = .ok (.iconst 0, 1) := by decide +kernel
theorem dX7_comes_218 : decode cX7_comes 218 = .ok (.goto 4, 3) := by decide +kernel
theorem dX7_comes_221 : decode cX7_comes 221 = .ok (.iconst 1, 1) := by decide +kernel
theorem dX7_comes_222 : decode cX7_comes 222 = .ok (.ireturn, 1) := by decide +kernel
theorem dX7_isAround_0 : decode cX7_isAround 0 = .ok (.iload_n 2, 1) := by decide +kernel
theorem dX7_isAround_1 : decode cX7_isAround 1 = .ok (.iload_n 1, 1) := by decide +kernel
theorem dX7_isAround_2 : decode cX7_isAround 2 = .ok (.if_icmp .eq 27, 3) := by decide +kernel
theorem dX7_isAround_5 : decode cX7_isAround 5 = .ok (.aload_n 0, 1) := by decide +kernel
theorem dX7_isAround_6 : decode cX7_isAround 6 = .ok (.iload_n 1, 1) := by decide +kernel
theorem dX7_isAround_7 : decode cX7_isAround 7 = .ok (.iload_n 2, 1) := by decide +kernel
theorem dX7_isAround_8 : decode cX7_isAround 8 = .ok (.invokevirtual 72, 3) := by decide +kernel
theorem dX7_isAround_11 : decode cX7_isAround 11 = .ok (.iconst 1, 1) := by decide +kernel
theorem dX7_isAround_12 : decode cX7_isAround 12 = .ok (.if_icmp .eq 13, 3) := by decide +kernel
theorem dX7_isAround_15 : decode cX7_isAround 15 = .ok (.aload_n 0, 1) := by decide +kernel
theorem dX7_isAround_16 : decode cX7_isAround 16 = .ok (.iload_n 1, 1) := by decide +kernel
theorem dX7_isAround_17 : decode cX7_isAround 17 = .ok (.iload_n 2, 1) := by decide +kernel
theorem dX7_isAround_18 : decode cX7_isAround 18 = .ok (.invokevirtual 72, 3) := by decide +kernel
theorem dX7_isAround_21 : decode cX7_isAround 21 = .ok (.iconst 2, 1) := by decide +kernel
theorem dX7_isAround_22 : decode cX7_isAround 22 = .ok (.if_icmp .ne 7, 3) := by decide +kernel
theorem dX7_isAround_25 : decode cX7_isAround 25 = .ok (.iconst 1, 1) := by decide +kernel
theorem dX7_isAround_26 : decode cX7_isAround 26 = .ok (.goto 4, 3) := by decide +kernel
theorem dX7_isAround_29 : decode cX7_isAround 29 = .ok (.iconst 0, 1) := by decide +kernel
theorem dX7_isAround_30 : decode cX7_isAround 30 = .ok (.ireturn, 1) := by decide +kernel
theorem dX7_gather_0 : decode cX7_gather 0 = .ok (.aload_n 0, 1) := by decide +kernel
theorem dX7_gather_1 : decode cX7_gather 1 = .ok (.iconst 0, 1) := by decide +kernel
theorem dX7_gather_2 : decode cX7_gather 2 = .ok (.putfield 96, 3) := by decide +kernel
theorem dX7_gather_5 : decode cX7_gather 5 = .ok (.iconst 0, 1) := by decide +kernel
theorem dX7_gather_6 : decode cX7_gather 6 = .ok (.istore_n 3, 1) := by decide +kernel
theorem dX7_gather_7 : decode cX7_gather 7 = .ok (.iload_n 3, 1) := by decide +kernel
theorem dX7_gather_8 : decode cX7_gather 8 = .ok (.bipush 64, 2) := by decide +kernel
theorem dX7_gather_10 : decode cX7_gather 10 = .ok (.if_icmp .ge 46, 3) := by decide +kernel
theorem dX7_gather_13 : decode cX7_gather 13 = .ok (.iload_n 3, 1) := by decide +kernel
theorem dX7_gather_14 : decode cX7_gather 14 = .ok (.iload_n 2, 1) := by decide +kernel
theorem dX7_gather_15 : decode cX7_gather 15 = .ok (.if_icmp .eq 35, 3) := by decide +kernel
theorem dX7_gather_18 : decode cX7_gather 18 = .ok (.aload_n 0, 1) := by decide +kernel
theorem dX7_gather_19 : decode cX7_gather 19 = .ok (.iload_n 1, 1) := by decide +kernel
theorem dX7_gather_20 : decode cX7_gather 20 = .ok (.iload_n 3, 1) := by decide +kernel
theorem dX7_gather_21 : decode cX7_gather 21 = .ok (.invokevirtual 99, 3) := by decide +kernel
theorem dX7_gather_24 : decode cX7_gather 24 = .ok (.ifCond .ne 6, 3) := by decide +kernel
theorem dX7_gather_27 : decode cX7_gather 27 = .ok (.goto 23, 3) := by decide +kernel
theorem dX7_gather_30 : decode cX7_gather 30 = .ok (.aload_n 0, 1) := by decide +kernel
theorem dX7_gather_31 : decode cX7_gather 31 = .ok (.getfield 33, 3) := by decide +kernel
theorem dX7_gather_34 : decode cX7_gather 34 = .ok (.aload_n 0, 1) := by decide +kernel
theorem dX7_gather_35 : decode cX7_gather 35 = .ok (.getfield 96, 3) := by decide +kernel
theorem dX7_gather_38 : decode cX7_gather 38 = .ok (.iload_n 3, 1) := by decide +kernel
theorem dX7_gather_39 : decode cX7_gather 39 = .ok (.iastore, 1) := by decide +kernel
theorem dX7_gather_40 : decode cX7_gather 40 = .ok (.aload_n 0, 1) := by decide +kernel
theorem dX7_gather_41 : decode cX7_gather 41 = .ok (.dup, 1) := by decide +kernel
theorem dX7_gather_42 : decode cX7_gather 42 = .ok (.getfield 96, 3) := by decide +kernel
theorem dX7_gather_45 : decode cX7_gather 45 = .ok (.iconst 1, 1) := by decide +kernel
theorem dX7_gather_46 : decode cX7_gather 46 = .ok (.iadd, 1) := by decide +kernel
theorem dX7_gather_47 : decode cX7_gather 47 = .ok (.putfield 96, 3) := by decide +kernel
theorem dX7_gather_50 : decode cX7_gather 50 = .ok (.iinc 3 1, 3) := by decide +kernel
theorem dX7_gather_53 : decode cX7_gather 53 = .ok (.goto (-46), 3) := by decide +kernel
theorem dX7_gather_56 : decode cX7_gather 56 = .ok (.return_, 1) := by decide +kernel
theorem dX7_mix_0 : decode cX7_mix 0 = .ok (.aload_n 0, 1) := by decide +kernel
theorem dX7_mix_1 : decode cX7_mix 1 = .ok (.iload_n 1, 1) := by decide +kernel
theorem dX7_mix_2 : decode cX7_mix 2 = .ok (.iconst (-1), 1) := by decide +kernel
theorem dX7_mix_3 : decode cX7_mix 3 = .ok (.invokevirtual 103, 3) := by decide +kernel
theorem dX7_mix_6 : decode cX7_mix 6 = .ok (.aload_n 0, 1) := by decide +kernel
theorem dX7_mix_7 : decode cX7_mix 7 = .ok (.getfield 96, 3) := by decide +kernel
theorem dX7_mix_10 : decode cX7_mix 10 = .ok (.iconst 1, 1) := by decide +kernel
theorem dX7_mix_11 : decode cX7_mix 11 = .ok (.isub, 1) := by decide +kernel
theorem dX7_mix_12 : decode cX7_mix 12 = .ok (.istore_n 2, 1) := by decide +kernel
theorem dX7_mix_13 : decode cX7_mix 13 = .ok (.iload_n 2, 1) := by decide +kernel
theorem dX7_mix_14 : decode cX7_mix 14 = .ok (.iconst 1, 1) := by decide +kernel
theorem dX7_mix_15 : decode cX7_mix 15 = .ok (.if_icmp .lt 46, 3) := by decide +kernel
theorem dX7_mix_18 : decode cX7_mix 18 = .ok (.aload_n 0, 1) := by decide +kernel
theorem dX7_mix_19 : decode cX7_mix 19 = .ok (.iload_n 1, 1) := by decide +kernel
theorem dX7_mix_20 : decode cX7_mix 20 = .ok (.iload_n 2, 1) := by decide +kernel
theorem dX7_mix_21 : decode cX7_mix 21 = .ok (.iconst 1, 1) := by decide +kernel
theorem dX7_mix_22 : decode cX7_mix 22 = .ok (.iadd, 1) := by decide +kernel
theorem dX7_mix_23 : decode cX7_mix 23 = .ok (.invokevirtual 106, 3) := by decide +kernel
theorem dX7_mix_26 : decode cX7_mix 26 = .ok (.istore_n 3, 1) := by decide +kernel
theorem dX7_mix_27 : decode cX7_mix 27 = .ok (.aload_n 0, 1) := by decide +kernel
theorem dX7_mix_28 : decode cX7_mix 28 = .ok (.getfield 33, 3) := by decide +kernel
theorem dX7_mix_31 : decode cX7_mix 31 = .ok (.iload_n 2, 1) := by decide +kernel
theorem dX7_mix_32 : decode cX7_mix 32 = .ok (.iaload, 1) := by decide +kernel
theorem dX7_mix_33 : decode cX7_mix 33 = .ok (.istore 4, 2) := by decide +kernel
theorem dX7_mix_35 : decode cX7_mix 35 = .ok (.aload_n 0, 1) := by decide +kernel
theorem dX7_mix_36 : decode cX7_mix 36 = .ok (.getfield 33, 3) := by decide +kernel
theorem dX7_mix_39 : decode cX7_mix 39 = .ok (.iload_n 2, 1) := by decide +kernel
theorem dX7_mix_40 : decode cX7_mix 40 = .ok (.aload_n 0, 1) := by decide +kernel
theorem dX7_mix_41 : decode cX7_mix 41 = .ok (.getfield 33, 3) := by decide +kernel
theorem dX7_mix_44 : decode cX7_mix 44 = .ok (.iload_n 3, 1) := by decide +kernel
theorem dX7_mix_45 : decode cX7_mix 45 = .ok (.iaload, 1) := by decide +kernel
theorem dX7_mix_46 : decode cX7_mix 46 = .ok (.iastore, 1) := by decide +kernel
theorem dX7_mix_47 : decode cX7_mix 47 = .ok (.aload_n 0, 1) := by decide +kernel
theorem dX7_mix_48 : decode cX7_mix 48 = .ok (.getfield 33, 3) := by decide +kernel
theorem dX7_mix_51 : decode cX7_mix 51 = .ok (.iload_n 3, 1) := by decide +kernel
theorem dX7_mix_52 : decode cX7_mix 52 = .ok (.iload 4, 2) := by decide +kernel
theorem dX7_mix_54 : decode cX7_mix 54 = .ok (.iastore, 1) := by decide +kernel
theorem dX7_mix_55 : decode cX7_mix 55 = .ok (.iinc 2 (-1), 3) := by decide +kernel
theorem dX7_mix_58 : decode cX7_mix 58 = .ok (.goto (-45), 3) := by decide +kernel
theorem dX7_mix_61 : decode cX7_mix 61 = .ok (.return_, 1) := by decide +kernel
theorem dX7_stillThere_0 : decode cX7_stillThere 0 = .ok (.aload_n 0, 1) := by decide +kernel
theorem dX7_stillThere_1 : decode cX7_stillThere 1 = .ok (.iload_n 1, 1) := by decide +kernel
theorem dX7_stillThere_2 : decode cX7_stillThere 2 = .ok (.bipush 6, 2) := by decide +kernel
theorem dX7_stillThere_4 : decode cX7_stillThere 4 = .ok (.invokevirtual 48, 3) := by decide +kernel
theorem dX7_stillThere_7 : decode cX7_stillThere 7 = .ok (.istore_n 2, 1) := by decide +kernel
theorem dX7_stillThere_8 : decode cX7_stillThere 8 = .ok (.iload_n 2, 1) := by decide +kernel
theorem dX7_stillThere_9 : decode cX7_stillThere 9 = .ok (.aload_n 0, 1) := by decide +kernel
theorem dX7_stillThere_10 : decode cX7_stillThere 10 = .ok (.iload_n 1, 1) := by decide +kernel
theorem dX7_stillThere_11 : decode cX7_stillThere 11 = .ok (.iconst 5, 1) := by decide +kernel
theorem dX7_stillThere_12 : decode cX7_stillThere 12 = .ok (.invokevirtual 48, 3) := by decide +kernel
theorem dX7_stillThere_15 : decode cX7_stillThere 15 = .ok (.if_icmp .ge 34, 3) := by decide +kernel
theorem dX7_stillThere_18 : decode cX7_stillThere 18 = .ok (.aload_n 0, 1) := by decide +kernel
theorem dX7_stillThere_19 : decode cX7_stillThere 19 = .ok (.iload_n 1, 1) := by decide +kernel
theorem dX7_stillThere_20 : decode cX7_stillThere 20 = .ok (.aload_n 0, 1) := by decide +kernel
theorem dX7_stillThere_21 : decode cX7_stillThere 21 = .ok (.getfield 8, 3) := by decide +kernel
theorem dX7_stillThere_24 : decode cX7_stillThere 24 = .ok (.sipush 20928, 3) := by decide +kernel
theorem dX7_stillThere_27 : decode cX7_stillThere 27 = .ok (.bipush 64, 2) := by decide +kernel
theorem dX7_stillThere_29 : decode cX7_stillThere 29 = .ok (.iload_n 1, 1) := by decide +kernel
theorem dX7_stillThere_30 : decode cX7_stillThere 30 = .ok (.imul, 1) := by decide +kernel
theorem dX7_stillThere_31 : decode cX7_stillThere 31 = .ok (.iadd, 1) := by decide +kernel
theorem dX7_stillThere_32 : decode cX7_stillThere 32 = .ok (.iload_n 2, 1) := by decide +kernel
theorem dX7_stillThere_33 : decode cX7_stillThere 33 = .ok (.iadd, 1) := by decide +kernel
theorem dX7_stillThere_34 : decode cX7_stillThere 34 = .ok (.iaload, 1) := by decide +kernel
theorem dX7_stillThere_35 : decode cX7_stillThere 35 = .ok (.invokevirtual 99, 3) := by decide +kernel
theorem dX7_stillThere_38 : decode cX7_stillThere 38 = .ok (.ifCond .eq 5, 3) := by decide +kernel
theorem dX7_stillThere_41 : decode cX7_stillThere 41 = .ok (.iload_n 2, 1) := by decide +kernel
theorem dX7_stillThere_42 : decode cX7_stillThere 42 = .ok (.ireturn, 1) := by decide +kernel
theorem dX7_stillThere_43 : decode cX7_stillThere 43 = .ok (.iinc 2 1, 3) := by decide +kernel
theorem dX7_stillThere_46 : decode cX7_stillThere 46 = .ok (.goto (-38), 3) := by decide +kernel
theorem dX7_stillThere_49 : decode cX7_stillThere 49 = .ok (.iconst (-1), 1) := by decide +kernel
theorem dX7_stillThere_50 : decode cX7_stillThere 50 = .ok (.ireturn, 1) := by decide +kernel
theorem dX7_nextOf_0 : decode cX7_nextOf 0 = .ok (.aload_n 0, 1) := by decide +kernel
theorem dX7_nextOf_1 : decode cX7_nextOf 1 = .ok (.iload_n 1, 1) := by decide +kernel
theorem dX7_nextOf_2 : decode cX7_nextOf 2 = .ok (.invokevirtual 109, 3) := by decide +kernel
theorem dX7_nextOf_5 : decode cX7_nextOf 5 = .ok (.istore_n 2, 1) := by decide +kernel
theorem dX7_nextOf_6 : decode cX7_nextOf 6 = .ok (.iload_n 2, 1) := by decide +kernel
theorem dX7_nextOf_7 : decode cX7_nextOf 7 = .ok (.ifCond .ge 80, 3) := by decide +kernel
theorem dX7_nextOf_10 : decode cX7_nextOf 10 = .ok (.aload_n 0, 1) := by decide +kernel
theorem dX7_nextOf_11 : decode cX7_nextOf 11 = .ok (.iload_n 1, 1) := by decide +kernel
theorem dX7_nextOf_12 : decode cX7_nextOf 12 = .ok (.invokevirtual 112, 3) := by decide +kernel
theorem dX7_nextOf_15 : decode cX7_nextOf 15 = .ok (.aload_n 0, 1) := by decide +kernel
theorem dX7_nextOf_16 : decode cX7_nextOf 16 = .ok (.bipush 11, 2) := by decide +kernel
theorem dX7_nextOf_18 : decode cX7_nextOf 18 = .ok (.invokevirtual 59, 3) := by decide +kernel
theorem dX7_nextOf_21 : decode cX7_nextOf 21 = .ok (.iconst 0, 1) := by decide +kernel
theorem dX7_nextOf_22 : decode cX7_nextOf 22 = .ok (.istore_n 3, 1) := by decide +kernel
theorem dX7_nextOf_23 : decode cX7_nextOf 23 = .ok (.iload_n 3, 1) := by decide +kernel
theorem dX7_nextOf_24 : decode cX7_nextOf 24 = .ok (.aload_n 0, 1) := by decide +kernel
theorem dX7_nextOf_25 : decode cX7_nextOf 25 = .ok (.getfield 96, 3) := by decide +kernel
theorem dX7_nextOf_28 : decode cX7_nextOf 28 = .ok (.if_icmp .ge 30, 3) := by decide +kernel
theorem dX7_nextOf_31 : decode cX7_nextOf 31 = .ok (.aload_n 0, 1) := by decide +kernel
theorem dX7_nextOf_32 : decode cX7_nextOf 32 = .ok (.getfield 8, 3) := by decide +kernel
theorem dX7_nextOf_35 : decode cX7_nextOf 35 = .ok (.sipush 20928, 3) := by decide +kernel
theorem dX7_nextOf_38 : decode cX7_nextOf 38 = .ok (.bipush 64, 2) := by decide +kernel
theorem dX7_nextOf_40 : decode cX7_nextOf 40 = .ok (.iload_n 1, 1) := by decide +kernel
theorem dX7_nextOf_41 : decode cX7_nextOf 41 = .ok (.imul, 1) := by decide +kernel
theorem dX7_nextOf_42 : decode cX7_nextOf 42 = .ok (.iadd, 1) := by decide +kernel
theorem dX7_nextOf_43 : decode cX7_nextOf 43 = .ok (.iload_n 3, 1) := by decide +kernel
theorem dX7_nextOf_44 : decode cX7_nextOf 44 = .ok (.iadd, 1) := by decide +kernel
theorem dX7_nextOf_45 : decode cX7_nextOf 45 = .ok (.aload_n 0, 1) := by decide +kernel
theorem dX7_nextOf_46 : decode cX7_nextOf 46 = .ok (.getfield 33, 3) := by decide +kernel
theorem dX7_nextOf_49 : decode cX7_nextOf 49 = .ok (.iload_n 3, 1) := by decide +kernel
theorem dX7_nextOf_50 : decode cX7_nextOf 50 = .ok (.iaload, 1) := by decide +kernel
theorem dX7_nextOf_51 : decode cX7_nextOf 51 = .ok (.iastore, 1) := by decide +kernel
theorem dX7_nextOf_52 : decode cX7_nextOf 52 = .ok (.iinc 3 1, 3) := by decide +kernel
theorem dX7_nextOf_55 : decode cX7_nextOf 55 = .ok (.goto (-32), 3) := by decide +kernel
theorem dX7_nextOf_58 : decode cX7_nextOf 58 = .ok (.aload_n 0, 1) := by decide +kernel
theorem dX7_nextOf_59 : decode cX7_nextOf 59 = .ok (.iload_n 1, 1) := by decide +kernel
theorem dX7_nextOf_60 : decode cX7_nextOf 60 = .ok (.iconst 5, 1) := by decide +kernel
theorem dX7_nextOf_61 : decode cX7_nextOf 61 = .ok (.aload_n 0, 1) := by decide +kernel
theorem dX7_nextOf_62 : decode cX7_nextOf 62 = .ok (.getfield 96, 3) := by decide +kernel
theorem dX7_nextOf_65 : decode cX7_nextOf 65 = .ok (.invokevirtual 63, 3) := by decide +kernel
theorem dX7_nextOf_68 : decode cX7_nextOf 68 = .ok (.aload_n 0, 1) := by decide +kernel
theorem dX7_nextOf_69 : decode cX7_nextOf 69 = .ok (.iload_n 1, 1) := by decide +kernel
theorem dX7_nextOf_70 : decode cX7_nextOf 70 = .ok (.bipush 6, 2) := by decide +kernel
theorem dX7_nextOf_72 : decode cX7_nextOf 72 = .ok (.iconst 0, 1) := by decide +kernel
theorem dX7_nextOf_73 : decode cX7_nextOf 73 = .ok (.invokevirtual 63, 3) := by decide +kernel
theorem dX7_nextOf_76 : decode cX7_nextOf 76 = .ok (.aload_n 0, 1) := by decide +kernel
theorem dX7_nextOf_77 : decode cX7_nextOf 77 = .ok (.getfield 96, 3) := by decide +kernel
theorem dX7_nextOf_80 : decode cX7_nextOf 80 = .ok (.ifCond .ne 5, 3) := by decide +kernel
theorem dX7_nextOf_83 : decode cX7_nextOf 83 = .ok (.iconst (-1), 1) := by decide +kernel
theorem dX7_nextOf_84 : decode cX7_nextOf 84 = .ok (.ireturn, 1) := by decide +kernel
theorem dX7_nextOf_85 : decode cX7_nextOf 85 = .ok (.iconst 0, 1) := by decide +kernel
theorem dX7_nextOf_86 : decode cX7_nextOf 86 = .ok (.istore_n 2, 1) := by decide +kernel
theorem dX7_nextOf_87 : decode cX7_nextOf 87 = .ok (.aload_n 0, 1) := by decide +kernel
theorem dX7_nextOf_88 : decode cX7_nextOf 88 = .ok (.iload_n 1, 1) := by decide +kernel
theorem dX7_nextOf_89 : decode cX7_nextOf 89 = .ok (.bipush 6, 2) := by decide +kernel
theorem dX7_nextOf_91 : decode cX7_nextOf 91 = .ok (.iload_n 2, 1) := by decide +kernel
theorem dX7_nextOf_92 : decode cX7_nextOf 92 = .ok (.iconst 1, 1) := by decide +kernel
theorem dX7_nextOf_93 : decode cX7_nextOf 93 = .ok (.iadd, 1) := by decide +kernel
theorem dX7_nextOf_94 : decode cX7_nextOf 94 = .ok (.invokevirtual 63, 3) := by decide +kernel
theorem dX7_nextOf_97 : decode cX7_nextOf 97 = .ok (.aload_n 0, 1) := by decide +kernel
theorem dX7_nextOf_98 : decode cX7_nextOf 98 = .ok (.getfield 8, 3) := by decide +kernel
theorem dX7_nextOf_101 : decode cX7_nextOf 101 = .ok (.sipush 20928, 3) := by decide +kernel
theorem dX7_nextOf_104 : decode cX7_nextOf 104 = .ok (.bipush 64, 2) := by decide +kernel
theorem dX7_nextOf_106 : decode cX7_nextOf 106 = .ok (.iload_n 1, 1) := by decide +kernel
theorem dX7_nextOf_107 : decode cX7_nextOf 107 = .ok (.imul, 1) := by decide +kernel
theorem dX7_nextOf_108 : decode cX7_nextOf 108 = .ok (.iadd, 1) := by decide +kernel
theorem dX7_nextOf_109 : decode cX7_nextOf 109 = .ok (.iload_n 2, 1) := by decide +kernel
theorem dX7_nextOf_110 : decode cX7_nextOf 110 = .ok (.iadd, 1) := by decide +kernel
theorem dX7_nextOf_111 : decode cX7_nextOf 111 = .ok (.iaload, 1) := by decide +kernel
theorem dX7_nextOf_112 : decode cX7_nextOf 112 = .ok (.ireturn, 1) := by decide +kernel
theorem dX7_sendsThree_0 : decode cX7_sendsThree 0 = .ok (.aload_n 0, 1) := by decide +kernel
theorem dX7_sendsThree_1 : decode cX7_sendsThree 1 = .ok (.iload_n 1, 1) := by decide +kernel
theorem dX7_sendsThree_2 : decode cX7_sendsThree 2 = .ok (.iload_n 2, 1) := by decide +kernel
theorem dX7_sendsThree_3 : decode cX7_sendsThree 3 = .ok (.invokevirtual 103, 3) := by decide +kernel
theorem dX7_sendsThree_6 : decode cX7_sendsThree 6 = .ok (.iconst 0, 1) := by decide +kernel
theorem dX7_sendsThree_7 : decode cX7_sendsThree 7 = .ok (.istore 5, 2) := by decide +kernel
theorem dX7_sendsThree_9 : decode cX7_sendsThree 9 = .ok (.iload 5, 2) := by decide +kernel
theorem dX7_sendsThree_11 : decode cX7_sendsThree 11 = .ok (.iconst 3, 1) := by decide +kernel
theorem dX7_sendsThree_12 : decode cX7_sendsThree 12 = .ok (.if_icmp .ge 93, 3) := by decide +kernel
theorem dX7_sendsThree_15 : decode cX7_sendsThree 15 = .ok (.aload_n 0, 1) := by decide +kernel
theorem dX7_sendsThree_16 : decode cX7_sendsThree 16 = .ok (.getfield 96, 3) := by decide +kernel
theorem dX7_sendsThree_19 : decode cX7_sendsThree 19 = .ok (.ifCond .le 86, 3) := by decide +kernel
theorem dX7_sendsThree_22 : decode cX7_sendsThree 22 = .ok (.aload_n 0, 1) := by decide +kernel
theorem dX7_sendsThree_23 : decode cX7_sendsThree 23 = .ok (.iload_n 1, 1) := by decide +kernel
theorem dX7_sendsThree_24 : decode cX7_sendsThree 24 = .ok (.aload_n 0, 1) := by decide +kernel
theorem dX7_sendsThree_25 : decode cX7_sendsThree 25 = .ok (.getfield 96, 3) := by decide +kernel
theorem dX7_sendsThree_28 : decode cX7_sendsThree 28 = .ok (.invokevirtual 106, 3) := by decide +kernel
theorem dX7_sendsThree_31 : decode cX7_sendsThree 31 = .ok (.istore 6, 2) := by decide +kernel
theorem dX7_sendsThree_33 : decode cX7_sendsThree 33 = .ok (.aload_n 0, 1) := by decide +kernel
theorem dX7_sendsThree_34 : decode cX7_sendsThree 34 = .ok (.getfield 33, 3) := by decide +kernel
theorem dX7_sendsThree_37 : decode cX7_sendsThree 37 = .ok (.iload 6, 2) := by decide +kernel
theorem dX7_sendsThree_39 : decode cX7_sendsThree 39 = .ok (.iaload, 1) := by decide +kernel
theorem dX7_sendsThree_40 : decode cX7_sendsThree 40 = .ok (.istore 7, 2) := by decide +kernel
theorem dX7_sendsThree_42 : decode cX7_sendsThree 42 = .ok (.aload_n 0, 1) := by decide +kernel
theorem dX7_sendsThree_43 : decode cX7_sendsThree 43 = .ok (.dup, 1) := by decide +kernel
theorem dX7_sendsThree_44 : decode cX7_sendsThree 44 = .ok (.getfield 96, 3) := by decide +kernel
theorem dX7_sendsThree_47 : decode cX7_sendsThree 47 = .ok (.iconst 1, 1) := by decide +kernel
theorem dX7_sendsThree_48 : decode cX7_sendsThree 48 = .ok (.isub, 1) := by decide +kernel
theorem dX7_sendsThree_49 : decode cX7_sendsThree 49 = .ok (.putfield 96, 3) := by decide +kernel
theorem dX7_sendsThree_52 : decode cX7_sendsThree 52 = .ok (.iload 6, 2) := by decide +kernel
theorem dX7_sendsThree_54 : decode cX7_sendsThree 54 = .ok (.istore 8, 2) := by decide +kernel
theorem dX7_sendsThree_56 : decode cX7_sendsThree 56 = .ok (.iload 8, 2) := by decide +kernel
theorem dX7_sendsThree_58 : decode cX7_sendsThree 58 = .ok (.aload_n 0, 1) := by decide +kernel
theorem dX7_sendsThree_59 : decode cX7_sendsThree 59 = .ok (.getfield 96, 3) := by decide +kernel
theorem dX7_sendsThree_62 : decode cX7_sendsThree 62 = .ok (.if_icmp .ge 25, 3) := by decide +kernel
theorem dX7_sendsThree_65 : decode cX7_sendsThree 65 = .ok (.aload_n 0, 1) := by decide +kernel
theorem dX7_sendsThree_66 : decode cX7_sendsThree 66 = .ok (.getfield 33, 3) := by decide +kernel
theorem dX7_sendsThree_69 : decode cX7_sendsThree 69 = .ok (.iload 8, 2) := by decide +kernel
theorem dX7_sendsThree_71 : decode cX7_sendsThree 71 = .ok (.aload_n 0, 1) := by decide +kernel
theorem dX7_sendsThree_72 : decode cX7_sendsThree 72 = .ok (.getfield 33, 3) := by decide +kernel
theorem dX7_sendsThree_75 : decode cX7_sendsThree 75 = .ok (.iload 8, 2) := by decide +kernel
theorem dX7_sendsThree_77 : decode cX7_sendsThree 77 = .ok (.iconst 1, 1) := by decide +kernel
theorem dX7_sendsThree_78 : decode cX7_sendsThree 78 = .ok (.iadd, 1) := by decide +kernel
theorem dX7_sendsThree_79 : decode cX7_sendsThree 79 = .ok (.iaload, 1) := by decide +kernel
theorem dX7_sendsThree_80 : decode cX7_sendsThree 80 = .ok (.iastore, 1) := by decide +kernel
theorem dX7_sendsThree_81 : decode cX7_sendsThree 81 = .ok (.iinc 8 1, 3) := by decide +kernel
theorem dX7_sendsThree_84 : decode cX7_sendsThree 84 = .ok (.goto (-28), 3) := by decide +kernel
theorem dX7_sendsThree_87 : decode cX7_sendsThree 87 = .ok (.aload_n 0, 1) := by decide +kernel
theorem dX7_sendsThree_88 : decode cX7_sendsThree 88 = .ok (.iload_n 1, 1) := by decide +kernel
theorem dX7_sendsThree_89 : decode cX7_sendsThree 89 = .ok (.iload 7, 2) := by decide +kernel
theorem dX7_sendsThree_91 : decode cX7_sendsThree 91 = .ok (.iload_n 3, 1) := by decide +kernel
theorem dX7_sendsThree_92 : decode cX7_sendsThree 92 = .ok (.iload 4, 2) := by decide +kernel
theorem dX7_sendsThree_94 : decode cX7_sendsThree 94 = .ok (.invokevirtual 89, 3) := by decide +kernel
theorem dX7_sendsThree_97 : decode cX7_sendsThree 97 = .ok (.istore 8, 2) := by decide +kernel
theorem dX7_sendsThree_99 : decode cX7_sendsThree 99 = .ok (.iinc 5 1, 3) := by decide +kernel
theorem dX7_sendsThree_102 : decode cX7_sendsThree 102 = .ok (.goto (-93), 3) := by decide +kernel
theorem dX7_sendsThree_105 : decode cX7_sendsThree 105 = .ok (.iload 5, 2) := by decide +kernel
theorem dX7_sendsThree_107 : decode cX7_sendsThree 107 = .ok (.ireturn, 1) := by decide +kernel
theorem dX7_takesTurn_0 : decode cX7_takesTurn 0 = .ok (.aload_n 0, 1) := by decide +kernel
theorem dX7_takesTurn_1 : decode cX7_takesTurn 1 = .ok (.iload_n 1, 1) := by decide +kernel
theorem dX7_takesTurn_2 : decode cX7_takesTurn 2 = .ok (.iconst 2, 1) := by decide +kernel
theorem dX7_takesTurn_3 : decode cX7_takesTurn 3 = .ok (.aload_n 0, 1) := by decide +kernel
theorem dX7_takesTurn_4 : decode cX7_takesTurn 4 = .ok (.iload_n 1, 1) := by decide +kernel
theorem dX7_takesTurn_5 : decode cX7_takesTurn 5 = .ok (.iconst 2, 1) := by decide +kernel
theorem dX7_takesTurn_6 : decode cX7_takesTurn 6 = .ok (.invokevirtual 48, 3) := by decide +kernel
theorem dX7_takesTurn_9 : decode cX7_takesTurn 9 = .ok (.iconst 1, 1) := by decide +kernel
theorem dX7_takesTurn_10 : decode cX7_takesTurn 10 = .ok (.iadd, 1) := by decide +kernel
theorem dX7_takesTurn_11 : decode cX7_takesTurn 11 = .ok (.invokevirtual 63, 3) := by decide +kernel
theorem dX7_takesTurn_14 : decode cX7_takesTurn 14 = .ok (.iconst 0, 1) := by decide +kernel
theorem dX7_takesTurn_15 : decode cX7_takesTurn 15 = .ok (.istore_n 2, 1) := by decide +kernel
theorem dX7_takesTurn_16 : decode cX7_takesTurn 16 = .ok (.iload_n 2, 1) := by decide +kernel
theorem dX7_takesTurn_17 : decode cX7_takesTurn 17 = .ok (.bipush 64, 2) := by decide +kernel
theorem dX7_takesTurn_19 : decode cX7_takesTurn 19 = .ok (.if_icmp .ge 78, 3) := by decide +kernel
theorem dX7_takesTurn_22 : decode cX7_takesTurn 22 = .ok (.iload_n 1, 1) := by decide +kernel
theorem dX7_takesTurn_23 : decode cX7_takesTurn 23 = .ok (.iload_n 2, 1) := by decide +kernel
theorem dX7_takesTurn_24 : decode cX7_takesTurn 24 = .ok (.invokestatic 44, 3) := by decide +kernel
theorem dX7_takesTurn_27 : decode cX7_takesTurn 27 = .ok (.istore_n 3, 1) := by decide +kernel
theorem dX7_takesTurn_28 : decode cX7_takesTurn 28 = .ok (.aload_n 0, 1) := by decide +kernel
theorem dX7_takesTurn_29 : decode cX7_takesTurn 29 = .ok (.getfield 8, 3) := by decide +kernel
theorem dX7_takesTurn_32 : decode cX7_takesTurn 32 = .ok (.iload_n 3, 1) := by decide +kernel
theorem dX7_takesTurn_33 : decode cX7_takesTurn 33 = .ok (.iaload, 1) := by decide +kernel
theorem dX7_takesTurn_34 : decode cX7_takesTurn 34 = .ok (.iconst 2, 1) := by decide +kernel
theorem dX7_takesTurn_35 : decode cX7_takesTurn 35 = .ok (.if_icmp .eq 6, 3) := by decide +kernel
theorem dX7_takesTurn_38 : decode cX7_takesTurn 38 = .ok (.goto 53, 3) := by decide +kernel
theorem dX7_takesTurn_41 : decode cX7_takesTurn 41 = .ok (.aload_n 0, 1) := by decide +kernel
theorem dX7_takesTurn_42 : decode cX7_takesTurn 42 = .ok (.bipush 8, 2) := by decide +kernel
theorem dX7_takesTurn_44 : decode cX7_takesTurn 44 = .ok (.invokevirtual 59, 3) := by decide +kernel
theorem dX7_takesTurn_47 : decode cX7_takesTurn 47 = .ok (.aload_n 0, 1) := by decide +kernel
theorem dX7_takesTurn_48 : decode cX7_takesTurn 48 = .ok (.iload_n 1, 1) := by decide +kernel
theorem dX7_takesTurn_49 : decode cX7_takesTurn 49 = .ok (.iconst 2, 1) := by decide +kernel
theorem dX7_takesTurn_50 : decode cX7_takesTurn 50 = .ok (.invokevirtual 48, 3) := by decide +kernel
theorem dX7_takesTurn_53 : decode cX7_takesTurn 53 = .ok (.aload_n 0, 1) := by decide +kernel
theorem dX7_takesTurn_54 : decode cX7_takesTurn 54 = .ok (.getfield 8, 3) := by decide +kernel
theorem dX7_takesTurn_57 : decode cX7_takesTurn 57 = .ok (.iload_n 3, 1) := by decide +kernel
theorem dX7_takesTurn_58 : decode cX7_takesTurn 58 = .ok (.iconst 3, 1) := by decide +kernel
theorem dX7_takesTurn_59 : decode cX7_takesTurn 59 = .ok (.iadd, 1) := by decide +kernel
theorem dX7_takesTurn_60 : decode cX7_takesTurn 60 = .ok (.iaload, 1) := by decide +kernel
theorem dX7_takesTurn_61 : decode cX7_takesTurn 61 = .ok (.isub, 1) := by decide +kernel
theorem dX7_takesTurn_62 : decode cX7_takesTurn 62 = .ok (.iconst 5, 1) := by decide +kernel
theorem dX7_takesTurn_63 : decode cX7_takesTurn 63 = .ok (.if_icmp .ge 6, 3) := by decide +kernel
theorem dX7_takesTurn_66 : decode cX7_takesTurn 66 = .ok (.goto 25, 3) := by decide +kernel
theorem dX7_takesTurn_69 : decode cX7_takesTurn 69 = .ok (.aload_n 0, 1) := by decide +kernel
theorem dX7_takesTurn_70 : decode cX7_takesTurn 70 = .ok (.bipush 9, 2) := by decide +kernel
theorem dX7_takesTurn_72 : decode cX7_takesTurn 72 = .ok (.invokevirtual 59, 3) := by decide +kernel
theorem dX7_takesTurn_75 : decode cX7_takesTurn 75 = .ok (.aload_n 0, 1) := by decide +kernel
theorem dX7_takesTurn_76 : decode cX7_takesTurn 76 = .ok (.iload_n 1, 1) := by decide +kernel
theorem dX7_takesTurn_77 : decode cX7_takesTurn 77 = .ok (.iload_n 2, 1) := by decide +kernel
theorem dX7_takesTurn_78 : decode cX7_takesTurn 78 = .ok (.iconst 3, 1) := by decide +kernel
theorem dX7_takesTurn_79 : decode cX7_takesTurn 79 = .ok (.aload_n 0, 1) := by decide +kernel
theorem dX7_takesTurn_80 : decode cX7_takesTurn 80 = .ok (.getfield 8, 3) := by decide +kernel
theorem dX7_takesTurn_83 : decode cX7_takesTurn 83 = .ok (.iload_n 3, 1) := by decide +kernel
theorem dX7_takesTurn_84 : decode cX7_takesTurn 84 = .ok (.iconst 1, 1) := by decide +kernel
theorem dX7_takesTurn_85 : decode cX7_takesTurn 85 = .ok (.iadd, 1) := by decide +kernel
theorem dX7_takesTurn_86 : decode cX7_takesTurn 86 = .ok (.iaload, 1) := by decide +kernel
theorem dX7_takesTurn_87 : decode cX7_takesTurn 87 = .ok (.iconst (-1), 1) := by decide +kernel
theorem dX7_takesTurn_88 : decode cX7_takesTurn 88 = .ok (.invokevirtual 67, 3) := by decide +kernel
theorem dX7_takesTurn_91 : decode cX7_takesTurn 91 = .ok (.iinc 2 1, 3) := by decide +kernel
theorem dX7_takesTurn_94 : decode cX7_takesTurn 94 = .ok (.goto (-78), 3) := by decide +kernel
theorem dX7_takesTurn_97 : decode cX7_takesTurn 97 = .ok (.aload_n 0, 1) := by decide +kernel
theorem dX7_takesTurn_98 : decode cX7_takesTurn 98 = .ok (.iload_n 1, 1) := by decide +kernel
theorem dX7_takesTurn_99 : decode cX7_takesTurn 99 = .ok (.iconst 4, 1) := by decide +kernel
theorem dX7_takesTurn_100 : decode cX7_takesTurn 100 = .ok (.invokevirtual 48, 3) := by decide +kernel
theorem dX7_takesTurn_103 : decode cX7_takesTurn 103 = .ok (.istore_n 2, 1) := by decide +kernel
theorem dX7_takesTurn_104 : decode cX7_takesTurn 104 = .ok (.aload_n 0, 1) := by decide +kernel
theorem dX7_takesTurn_105 : decode cX7_takesTurn 105 = .ok (.iload_n 1, 1) := by decide +kernel
theorem dX7_takesTurn_106 : decode cX7_takesTurn 106 = .ok (.iconst 4, 1) := by decide +kernel
theorem dX7_takesTurn_107 : decode cX7_takesTurn 107 = .ok (.iconst (-1), 1) := by decide +kernel
theorem dX7_takesTurn_108 : decode cX7_takesTurn 108 = .ok (.invokevirtual 63, 3) := by decide +kernel
theorem dX7_takesTurn_111 : decode cX7_takesTurn 111 = .ok (.iload_n 2, 1) := by decide +kernel
theorem dX7_takesTurn_112 : decode cX7_takesTurn 112 = .ok (.ifCond .lt 33, 3) := by decide +kernel
theorem dX7_takesTurn_115 : decode cX7_takesTurn 115 = .ok (.aload_n 0, 1) := by decide +kernel
theorem dX7_takesTurn_116 : decode cX7_takesTurn 116 = .ok (.iload_n 1, 1) := by decide +kernel
theorem dX7_takesTurn_117 : decode cX7_takesTurn 117 = .ok (.iload_n 2, 1) := by decide +kernel
theorem dX7_takesTurn_118 : decode cX7_takesTurn 118 = .ok (.invokevirtual 72, 3) := by decide +kernel
theorem dX7_takesTurn_121 : decode cX7_takesTurn 121 = .ok (.iconst 1, 1) := by decide +kernel
theorem dX7_takesTurn_122 : decode cX7_takesTurn 122 = .ok (.if_icmp .ne 23, 3) := by decide +kernel
theorem dX7_takesTurn_125 : decode cX7_takesTurn 125 = .ok (.aload_n 0, 1) := by decide +kernel
theorem dX7_takesTurn_126 : decode cX7_takesTurn 126 = .ok (.iload_n 1, 1) := by decide +kernel
theorem dX7_takesTurn_127 : decode cX7_takesTurn 127 = .ok (.iload_n 2, 1) := by decide +kernel
theorem dX7_takesTurn_128 : decode cX7_takesTurn 128 = .ok (.iconst 2, 1) := by decide +kernel
theorem dX7_takesTurn_129 : decode cX7_takesTurn 129 = .ok (.aload_n 0, 1) := by decide +kernel
theorem dX7_takesTurn_130 : decode cX7_takesTurn 130 = .ok (.getfield 8, 3) := by decide +kernel
theorem dX7_takesTurn_133 : decode cX7_takesTurn 133 = .ok (.iload_n 1, 1) := by decide +kernel
theorem dX7_takesTurn_134 : decode cX7_takesTurn 134 = .ok (.iload_n 2, 1) := by decide +kernel
theorem dX7_takesTurn_135 : decode cX7_takesTurn 135 = .ok (.invokestatic 44, 3) := by decide +kernel
theorem dX7_takesTurn_138 : decode cX7_takesTurn 138 = .ok (.iconst 1, 1) := by decide +kernel
theorem dX7_takesTurn_139 : decode cX7_takesTurn 139 = .ok (.iadd, 1) := by decide +kernel
theorem dX7_takesTurn_140 : decode cX7_takesTurn 140 = .ok (.iaload, 1) := by decide +kernel
theorem dX7_takesTurn_141 : decode cX7_takesTurn 141 = .ok (.iconst (-1), 1) := by decide +kernel
theorem dX7_takesTurn_142 : decode cX7_takesTurn 142 = .ok (.invokevirtual 67, 3) := by decide +kernel
theorem dX7_takesTurn_145 : decode cX7_takesTurn 145 = .ok (.iconst 0, 1) := by decide +kernel
theorem dX7_takesTurn_146 : decode cX7_takesTurn 146 = .ok (.istore_n 3, 1) := by decide +kernel
theorem dX7_takesTurn_147 : decode cX7_takesTurn 147 = .ok (.aload_n 0, 1) := by decide +kernel
theorem dX7_takesTurn_148 : decode cX7_takesTurn 148 = .ok (.iload_n 1, 1) := by decide +kernel
theorem dX7_takesTurn_149 : decode cX7_takesTurn 149 = .ok (.iconst 3, 1) := by decide +kernel
theorem dX7_takesTurn_150 : decode cX7_takesTurn 150 = .ok (.invokevirtual 48, 3) := by decide +kernel
theorem dX7_takesTurn_153 : decode cX7_takesTurn 153 = .ok (.istore 4, 2) := by decide +kernel
theorem dX7_takesTurn_155 : decode cX7_takesTurn 155 = .ok (.aload_n 0, 1) := by decide +kernel
theorem dX7_takesTurn_156 : decode cX7_takesTurn 156 = .ok (.iload_n 1, 1) := by decide +kernel
theorem dX7_takesTurn_157 : decode cX7_takesTurn 157 = .ok (.iconst 3, 1) := by decide +kernel
theorem dX7_takesTurn_158 : decode cX7_takesTurn 158 = .ok (.iconst (-1), 1) := by decide +kernel
theorem dX7_takesTurn_159 : decode cX7_takesTurn 159 = .ok (.invokevirtual 63, 3) := by decide +kernel
theorem dX7_takesTurn_162 : decode cX7_takesTurn 162 = .ok (.iload 4, 2) := by decide +kernel
theorem dX7_takesTurn_164 : decode cX7_takesTurn 164 = .ok (.ifCond .lt 22, 3) := by decide +kernel
theorem dX7_takesTurn_167 : decode cX7_takesTurn 167 = .ok (.aload_n 0, 1) := by decide +kernel
theorem dX7_takesTurn_168 : decode cX7_takesTurn 168 = .ok (.iload_n 1, 1) := by decide +kernel
theorem dX7_takesTurn_169 : decode cX7_takesTurn 169 = .ok (.iconst 4, 1) := by decide +kernel
theorem dX7_takesTurn_170 : decode cX7_takesTurn 170 = .ok (.iload 4, 2) := by decide +kernel
theorem dX7_takesTurn_172 : decode cX7_takesTurn 172 = .ok (.invokevirtual 63, 3) := by decide +kernel
theorem dX7_takesTurn_175 : decode cX7_takesTurn 175 = .ok (.aload_n 0, 1) := by decide +kernel
theorem dX7_takesTurn_176 : decode cX7_takesTurn 176 = .ok (.iload_n 1, 1) := by decide +kernel
theorem dX7_takesTurn_177 : decode cX7_takesTurn 177 = .ok (.iload 4, 2) := by decide +kernel
theorem dX7_takesTurn_179 : decode cX7_takesTurn 179 = .ok (.iconst 2, 1) := by decide +kernel
theorem dX7_takesTurn_180 : decode cX7_takesTurn 180 = .ok (.iload 4, 2) := by decide +kernel
theorem dX7_takesTurn_182 : decode cX7_takesTurn 182 = .ok (.invokevirtual 115, 3) := by decide +kernel
theorem dX7_takesTurn_185 : decode cX7_takesTurn 185 = .ok (.istore_n 3, 1) := by decide +kernel
theorem dX7_takesTurn_186 : decode cX7_takesTurn 186 = .ok (.aload_n 0, 1) := by decide +kernel
theorem dX7_takesTurn_187 : decode cX7_takesTurn 187 = .ok (.iload_n 1, 1) := by decide +kernel
theorem dX7_takesTurn_188 : decode cX7_takesTurn 188 = .ok (.invokevirtual 118, 3) := by decide +kernel
theorem dX7_takesTurn_191 : decode cX7_takesTurn 191 = .ok (.istore 5, 2) := by decide +kernel
theorem dX7_takesTurn_193 : decode cX7_takesTurn 193 = .ok (.iload 5, 2) := by decide +kernel
theorem dX7_takesTurn_195 : decode cX7_takesTurn 195 = .ok (.ifCond .ge 5, 3) := by decide +kernel
theorem dX7_takesTurn_198 : decode cX7_takesTurn 198 = .ok (.iload_n 3, 1) := by decide +kernel
theorem dX7_takesTurn_199 : decode cX7_takesTurn 199 = .ok (.ireturn, 1) := by decide +kernel
theorem dX7_takesTurn_200 : decode cX7_takesTurn 200 = .ok (.aload_n 0, 1) := by decide +kernel
theorem dX7_takesTurn_201 : decode cX7_takesTurn 201 = .ok (.iload_n 1, 1) := by decide +kernel
theorem dX7_takesTurn_202 : decode cX7_takesTurn 202 = .ok (.iload 5, 2) := by decide +kernel
theorem dX7_takesTurn_204 : decode cX7_takesTurn 204 = .ok (.iconst 1, 1) := by decide +kernel
theorem dX7_takesTurn_205 : decode cX7_takesTurn 205 = .ok (.iconst (-1), 1) := by decide +kernel
theorem dX7_takesTurn_206 : decode cX7_takesTurn 206 = .ok (.invokevirtual 89, 3) := by decide +kernel
theorem dX7_takesTurn_209 : decode cX7_takesTurn 209 = .ok (.istore 6, 2) := by decide +kernel
theorem dX7_takesTurn_211 : decode cX7_takesTurn 211 = .ok (.aload_n 0, 1) := by decide +kernel
theorem dX7_takesTurn_212 : decode cX7_takesTurn 212 = .ok (.iload_n 1, 1) := by decide +kernel
theorem dX7_takesTurn_213 : decode cX7_takesTurn 213 = .ok (.iconst 3, 1) := by decide +kernel
theorem dX7_takesTurn_214 : decode cX7_takesTurn 214 = .ok (.iload 5, 2) := by decide +kernel
theorem dX7_takesTurn_216 : decode cX7_takesTurn 216 = .ok (.invokevirtual 63, 3) := by decide +kernel
theorem dX7_takesTurn_219 : decode cX7_takesTurn 219 = .ok (.iload_n 3, 1) := by decide +kernel
theorem dX7_takesTurn_220 : decode cX7_takesTurn 220 = .ok (.iconst 1, 1) := by decide +kernel
theorem dX7_takesTurn_221 : decode cX7_takesTurn 221 = .ok (.iadd, 1) := by decide +kernel
theorem dX7_takesTurn_222 : decode cX7_takesTurn 222 = .ok (.ireturn, 1) := by decide +kernel
theorem dX7_why_0 : decode cX7_why 0 = .ok (.iload_n 1, 1) := by decide +kernel
theorem dX7_why_1 : decode cX7_why 1 = .ok (.invokestatic 121, 3) := by decide +kernel
theorem dX7_why_4 : decode cX7_why 4 = .ok (.ifCond .ne 6, 3) := by decide +kernel
theorem dX7_why_7 : decode cX7_why 7 = .ok (.bipush (-3), 2) := by decide +kernel
theorem dX7_why_9 : decode cX7_why 9 = .ok (.ireturn, 1) := by decide +kernel
theorem dX7_why_10 : decode cX7_why 10 = .ok (.aload_n 0, 1) := by decide +kernel
theorem dX7_why_11 : decode cX7_why 11 = .ok (.iload_n 1, 1) := by decide +kernel
theorem dX7_why_12 : decode cX7_why 12 = .ok (.invokevirtual 125, 3) := by decide +kernel
theorem dX7_why_15 : decode cX7_why 15 = .ok (.ifCond .ne 6, 3) := by decide +kernel
theorem dX7_why_18 : decode cX7_why 18 = .ok (.bipush (-2), 2) := by decide +kernel
theorem dX7_why_20 : decode cX7_why 20 = .ok (.ireturn, 1) := by decide +kernel
theorem dX7_why_21 : decode cX7_why 21 = .ok (.iload_n 2, 1) := by decide +kernel
theorem dX7_why_22 : decode cX7_why 22 = .ok (.iconst 1, 1) := by decide +kernel
theorem dX7_why_23 : decode cX7_why 23 = .ok (.if_icmp .ne 16, 3) := by decide +kernel
theorem dX7_why_26 : decode cX7_why 26 = .ok (.aload_n 0, 1) := by decide +kernel
theorem dX7_why_27 : decode cX7_why 27 = .ok (.iload_n 1, 1) := by decide +kernel
theorem dX7_why_28 : decode cX7_why 28 = .ok (.iconst 0, 1) := by decide +kernel
theorem dX7_why_29 : decode cX7_why 29 = .ok (.invokevirtual 48, 3) := by decide +kernel
theorem dX7_why_32 : decode cX7_why 32 = .ok (.iconst 1, 1) := by decide +kernel
theorem dX7_why_33 : decode cX7_why 33 = .ok (.if_icmp .eq 6, 3) := by decide +kernel
theorem dX7_why_36 : decode cX7_why 36 = .ok (.bipush (-8), 2) := by decide +kernel
theorem dX7_why_38 : decode cX7_why 38 = .ok (.ireturn, 1) := by decide +kernel
theorem dX7_why_39 : decode cX7_why 39 = .ok (.iload_n 2, 1) := by decide +kernel
theorem dX7_why_40 : decode cX7_why 40 = .ok (.iconst 2, 1) := by decide +kernel
theorem dX7_why_41 : decode cX7_why 41 = .ok (.if_icmp .ne 16, 3) := by decide +kernel
theorem dX7_why_44 : decode cX7_why 44 = .ok (.aload_n 0, 1) := by decide +kernel
theorem dX7_why_45 : decode cX7_why 45 = .ok (.iload_n 1, 1) := by decide +kernel
theorem dX7_why_46 : decode cX7_why 46 = .ok (.iconst 0, 1) := by decide +kernel
theorem dX7_why_47 : decode cX7_why 47 = .ok (.invokevirtual 48, 3) := by decide +kernel
theorem dX7_why_50 : decode cX7_why 50 = .ok (.iconst 1, 1) := by decide +kernel
theorem dX7_why_51 : decode cX7_why 51 = .ok (.if_icmp .ne 6, 3) := by decide +kernel
theorem dX7_why_54 : decode cX7_why 54 = .ok (.bipush (-9), 2) := by decide +kernel
theorem dX7_why_56 : decode cX7_why 56 = .ok (.ireturn, 1) := by decide +kernel
theorem dX7_why_57 : decode cX7_why 57 = .ok (.aload_n 0, 1) := by decide +kernel
theorem dX7_why_58 : decode cX7_why 58 = .ok (.invokevirtual 128, 3) := by decide +kernel
theorem dX7_why_61 : decode cX7_why 61 = .ok (.ifCond .eq 8, 3) := by decide +kernel
theorem dX7_why_64 : decode cX7_why 64 = .ok (.bipush (-10), 2) := by decide +kernel
theorem dX7_why_66 : decode cX7_why 66 = .ok (.goto 4, 3) := by decide +kernel
theorem dX7_why_69 : decode cX7_why 69 = .ok (.iconst 0, 1) := by decide +kernel
theorem dX7_why_70 : decode cX7_why 70 = .ok (.ireturn, 1) := by decide +kernel
theorem dX7_did_0 : decode cX7_did 0 = .ok (.aload_n 0, 1) := by decide +kernel
theorem dX7_did_1 : decode cX7_did 1 = .ok (.getfield 8, 3) := by decide +kernel
theorem dX7_did_4 : decode cX7_did 4 = .ok (.ldc 53, 2) := by decide +kernel
theorem dX7_did_6 : decode cX7_did 6 = .ok (.dup2, 1) := by decide +kernel
theorem dX7_did_7 : decode cX7_did 7 = .ok (.iaload, 1) := by decide +kernel
theorem dX7_did_8 : decode cX7_did 8 = .ok (.iconst 1, 1) := by decide +kernel
theorem dX7_did_9 : decode cX7_did 9 = .ok (.iadd, 1) := by decide +kernel
theorem dX7_did_10 : decode cX7_did 10 = .ok (.iastore, 1) := by decide +kernel
theorem dX7_did_11 : decode cX7_did 11 = .ok (.iload_n 1, 1) := by decide +kernel
theorem dX7_did_12 : decode cX7_did 12 = .ok (.ireturn, 1) := by decide +kernel
theorem dX7_goesQuiet_0 : decode cX7_goesQuiet 0 = .ok (.aload_n 0, 1) := by decide +kernel
theorem dX7_goesQuiet_1 : decode cX7_goesQuiet 1 = .ok (.iload_n 1, 1) := by decide +kernel
theorem dX7_goesQuiet_2 : decode cX7_goesQuiet 2 = .ok (.iconst 3, 1) := by decide +kernel
theorem dX7_goesQuiet_3 : decode cX7_goesQuiet 3 = .ok (.iconst (-1), 1) := by decide +kernel
theorem dX7_goesQuiet_4 : decode cX7_goesQuiet 4 = .ok (.invokevirtual 63, 3) := by decide +kernel
theorem dX7_goesQuiet_7 : decode cX7_goesQuiet 7 = .ok (.aload_n 0, 1) := by decide +kernel
theorem dX7_goesQuiet_8 : decode cX7_goesQuiet 8 = .ok (.iload_n 1, 1) := by decide +kernel
theorem dX7_goesQuiet_9 : decode cX7_goesQuiet 9 = .ok (.iconst 4, 1) := by decide +kernel
theorem dX7_goesQuiet_10 : decode cX7_goesQuiet 10 = .ok (.iconst (-1), 1) := by decide +kernel
theorem dX7_goesQuiet_11 : decode cX7_goesQuiet 11 = .ok (.invokevirtual 63, 3) := by decide +kernel
theorem dX7_goesQuiet_14 : decode cX7_goesQuiet 14 = .ok (.aload_n 0, 1) := by decide +kernel
theorem dX7_goesQuiet_15 : decode cX7_goesQuiet 15 = .ok (.iload_n 1, 1) := by decide +kernel
theorem dX7_goesQuiet_16 : decode cX7_goesQuiet 16 = .ok (.iconst 5, 1) := by decide +kernel
theorem dX7_goesQuiet_17 : decode cX7_goesQuiet 17 = .ok (.iconst 0, 1) := by decide +kernel
theorem dX7_goesQuiet_18 : decode cX7_goesQuiet 18 = .ok (.invokevirtual 63, 3) := by decide +kernel
theorem dX7_goesQuiet_21 : decode cX7_goesQuiet 21 = .ok (.aload_n 0, 1) := by decide +kernel
theorem dX7_goesQuiet_22 : decode cX7_goesQuiet 22 = .ok (.iload_n 1, 1) := by decide +kernel
theorem dX7_goesQuiet_23 : decode cX7_goesQuiet 23 = .ok (.bipush 6, 2) := by decide +kernel
theorem dX7_goesQuiet_25 : decode cX7_goesQuiet 25 = .ok (.iconst 0, 1) := by decide +kernel
theorem dX7_goesQuiet_26 : decode cX7_goesQuiet 26 = .ok (.invokevirtual 63, 3) := by decide +kernel
theorem dX7_goesQuiet_29 : decode cX7_goesQuiet 29 = .ok (.return_, 1) := by decide +kernel
theorem dX7_member_0 : decode cX7_member 0 = .ok (.iload_n 1, 1) := by decide +kernel
theorem dX7_member_1 : decode cX7_member 1 = .ok (.invokestatic 121, 3) := by decide +kernel
theorem dX7_member_4 : decode cX7_member 4 = .ok (.ifCond .ne 10, 3) := by decide +kernel
theorem dX7_member_7 : decode cX7_member 7 = .ok (.aload_n 0, 1) := by decide +kernel
theorem dX7_member_8 : decode cX7_member 8 = .ok (.bipush (-3), 2) := by decide +kernel
theorem dX7_member_10 : decode cX7_member 10 = .ok (.invokevirtual 132, 3) := by decide +kernel
theorem dX7_member_13 : decode cX7_member 13 = .ok (.ireturn, 1) := by decide +kernel
theorem dX7_member_14 : decode cX7_member 14 = .ok (.aload_n 0, 1) := by decide +kernel
theorem dX7_member_15 : decode cX7_member 15 = .ok (.iload_n 1, 1) := by decide +kernel
theorem dX7_member_16 : decode cX7_member 16 = .ok (.invokevirtual 125, 3) := by decide +kernel
theorem dX7_member_19 : decode cX7_member 19 = .ok (.ifCond .eq 10, 3) := by decide +kernel
theorem dX7_member_22 : decode cX7_member 22 = .ok (.aload_n 0, 1) := by decide +kernel
theorem dX7_member_23 : decode cX7_member 23 = .ok (.bipush (-9), 2) := by decide +kernel
theorem dX7_member_25 : decode cX7_member 25 = .ok (.invokevirtual 132, 3) := by decide +kernel
theorem dX7_member_28 : decode cX7_member 28 = .ok (.ireturn, 1) := by decide +kernel
theorem dX7_member_29 : decode cX7_member 29 = .ok (.aload_n 0, 1) := by decide +kernel
theorem dX7_member_30 : decode cX7_member 30 = .ok (.invokevirtual 128, 3) := by decide +kernel
theorem dX7_member_33 : decode cX7_member 33 = .ok (.ifCond .eq 10, 3) := by decide +kernel
theorem dX7_member_36 : decode cX7_member 36 = .ok (.aload_n 0, 1) := by decide +kernel
theorem dX7_member_37 : decode cX7_member 37 = .ok (.bipush (-10), 2) := by decide +kernel
theorem dX7_member_39 : decode cX7_member 39 = .ok (.invokevirtual 132, 3) := by decide +kernel
theorem dX7_member_42 : decode cX7_member 42 = .ok (.ireturn, 1) := by decide +kernel
theorem dX7_member_43 : decode cX7_member 43 = .ok (.aload_n 0, 1) := by decide +kernel
theorem dX7_member_44 : decode cX7_member 44 = .ok (.iload_n 1, 1) := by decide +kernel
theorem dX7_member_45 : decode cX7_member 45 = .ok (.iconst 0, 1) := by decide +kernel
theorem dX7_member_46 : decode cX7_member 46 = .ok (.iconst 1, 1) := by decide +kernel
theorem dX7_member_47 : decode cX7_member 47 = .ok (.invokevirtual 63, 3) := by decide +kernel
theorem dX7_member_50 : decode cX7_member 50 = .ok (.aload_n 0, 1) := by decide +kernel
theorem dX7_member_51 : decode cX7_member 51 = .ok (.iload_n 1, 1) := by decide +kernel
theorem dX7_member_52 : decode cX7_member 52 = .ok (.iconst 1, 1) := by decide +kernel
theorem dX7_member_53 : decode cX7_member 53 = .ok (.iconst 1, 1) := by decide +kernel
theorem dX7_member_54 : decode cX7_member 54 = .ok (.invokevirtual 63, 3) := by decide +kernel
theorem dX7_member_57 : decode cX7_member 57 = .ok (.aload_n 0, 1) := by decide +kernel
theorem dX7_member_58 : decode cX7_member 58 = .ok (.iload_n 1, 1) := by decide +kernel
theorem dX7_member_59 : decode cX7_member 59 = .ok (.iconst 2, 1) := by decide +kernel
theorem dX7_member_60 : decode cX7_member 60 = .ok (.iconst 0, 1) := by decide +kernel
theorem dX7_member_61 : decode cX7_member 61 = .ok (.invokevirtual 63, 3) := by decide +kernel
theorem dX7_member_64 : decode cX7_member 64 = .ok (.aload_n 0, 1) := by decide +kernel
theorem dX7_member_65 : decode cX7_member 65 = .ok (.iload_n 1, 1) := by decide +kernel
theorem dX7_member_66 : decode cX7_member 66 = .ok (.invokevirtual 135, 3) := by decide +kernel
theorem dX7_member_69 : decode cX7_member 69 = .ok (.aload_n 0, 1) := by decide +kernel
theorem dX7_member_70 : decode cX7_member 70 = .ok (.getfield 17, 3) := by decide +kernel
theorem dX7_member_73 : decode cX7_member 73 = .ok (.iload_n 1, 1) := by decide +kernel
theorem dX7_member_74 : decode cX7_member 74 = .ok (.lload_n 2, 1) := by decide +kernel
theorem dX7_member_75 : decode cX7_member 75 = .ok (.lastore, 1) := by decide +kernel
theorem dX7_member_76 : decode cX7_member 76 = .ok (.aload_n 0, 1) := by decide +kernel
theorem dX7_member_77 : decode cX7_member 77 = .ok (.iload_n 1, 1) := by decide +kernel
theorem dX7_member_78 : decode cX7_member 78 = .ok (.iload_n 1, 1) := by decide +kernel
theorem dX7_member_79 : decode cX7_member 79 = .ok (.iconst 1, 1) := by decide +kernel
theorem dX7_member_80 : decode cX7_member 80 = .ok (.iconst 1, 1) := by decide +kernel
theorem dX7_member_81 : decode cX7_member 81 = .ok (.iconst (-1), 1) := by decide +kernel
theorem dX7_member_82 : decode cX7_member 82 = .ok (.invokevirtual 67, 3) := by decide +kernel
theorem dX7_member_85 : decode cX7_member 85 = .ok (.iconst 0, 1) := by decide +kernel
theorem dX7_member_86 : decode cX7_member 86 = .ok (.istore 4, 2) := by decide +kernel
theorem dX7_member_88 : decode cX7_member 88 = .ok (.iconst 0, 1) := by decide +kernel
theorem dX7_member_89 : decode cX7_member 89 = .ok (.istore 5, 2) := by decide +kernel
theorem dX7_member_91 : decode cX7_member 91 = .ok (.iload 5, 2) := by decide +kernel
theorem dX7_member_93 : decode cX7_member 93 = .ok (.bipush 64, 2) := by decide +kernel
theorem dX7_member_95 : decode cX7_member 95 = .ok (.if_icmp .ge 28, 3) := by decide +kernel
theorem dX7_member_98 : decode cX7_member 98 = .ok (.iload 4, 2) := by decide +kernel
theorem dX7_member_100 : decode cX7_member 100 = .ok (.aload_n 0, 1) := by decide +kernel
theorem dX7_member_101 : decode cX7_member 101 = .ok (.iload 5, 2) := by decide +kernel
theorem dX7_member_103 : decode cX7_member 103 = .ok (.invokevirtual 125, 3) := by decide +kernel
theorem dX7_member_106 : decode cX7_member 106 = .ok (.ifCond .eq 7, 3) := by decide +kernel
theorem dX7_member_109 : decode cX7_member 109 = .ok (.iconst 1, 1) := by decide +kernel
theorem dX7_member_110 : decode cX7_member 110 = .ok (.goto 4, 3) := by decide +kernel
theorem dX7_member_113 : decode cX7_member 113 = .ok (.iconst 0, 1) := by decide +kernel
theorem dX7_member_114 : decode cX7_member 114 = .ok (.iadd, 1) := by decide +kernel
theorem dX7_member_115 : decode cX7_member 115 = .ok (.istore 4, 2) := by decide +kernel
theorem dX7_member_117 : decode cX7_member 117 = .ok (.iinc 5 1, 3) := by decide +kernel
theorem dX7_member_120 : decode cX7_member 120 = .ok (.goto (-29), 3) := by decide +kernel
theorem dX7_member_123 : decode cX7_member 123 = .ok (.aload_n 0, 1) := by decide +kernel
theorem dX7_member_124 : decode cX7_member 124 = .ok (.iload 4, 2) := by decide +kernel
theorem dX7_member_126 : decode cX7_member 126 = .ok (.invokevirtual 138, 3) := by decide +kernel
theorem dX7_member_129 : decode cX7_member 129 = .ok (.ireturn, 1) := by decide +kernel
theorem dX7_join_0 : decode cX7_join 0 = .ok (.iload_n 1, 1) := by decide +kernel
theorem dX7_join_1 : decode cX7_join 1 = .ok (.invokestatic 121, 3) := by decide +kernel
theorem dX7_join_4 : decode cX7_join 4 = .ok (.ifCond .eq 10, 3) := by decide +kernel
theorem dX7_join_7 : decode cX7_join 7 = .ok (.iload_n 2, 1) := by decide +kernel
theorem dX7_join_8 : decode cX7_join 8 = .ok (.invokestatic 121, 3) := by decide +kernel
theorem dX7_join_11 : decode cX7_join 11 = .ok (.ifCond .ne 10, 3) := by decide +kernel
theorem dX7_join_14 : decode cX7_join 14 = .ok (.aload_n 0, 1) := by decide +kernel
theorem dX7_join_15 : decode cX7_join 15 = .ok (.bipush (-3), 2) := by decide +kernel
theorem dX7_join_17 : decode cX7_join 17 = .ok (.invokevirtual 132, 3) := by decide +kernel
theorem dX7_join_20 : decode cX7_join 20 = .ok (.ireturn, 1) := by decide +kernel
theorem dX7_join_21 : decode cX7_join 21 = .ok (.aload_n 0, 1) := by decide +kernel
theorem dX7_join_22 : decode cX7_join 22 = .ok (.iload_n 1, 1) := by decide +kernel
theorem dX7_join_23 : decode cX7_join 23 = .ok (.invokevirtual 125, 3) := by decide +kernel
theorem dX7_join_26 : decode cX7_join 26 = .ok (.ifCond .eq 11, 3) := by decide +kernel
theorem dX7_join_29 : decode cX7_join 29 = .ok (.aload_n 0, 1) := by decide +kernel
theorem dX7_join_30 : decode cX7_join 30 = .ok (.iload_n 2, 1) := by decide +kernel
theorem dX7_join_31 : decode cX7_join 31 = .ok (.invokevirtual 125, 3) := by decide +kernel
theorem dX7_join_34 : decode cX7_join 34 = .ok (.ifCond .ne 10, 3) := by decide +kernel
theorem dX7_join_37 : decode cX7_join 37 = .ok (.aload_n 0, 1) := by decide +kernel
theorem dX7_join_38 : decode cX7_join 38 = .ok (.bipush (-2), 2) := by decide +kernel
theorem dX7_join_40 : decode cX7_join 40 = .ok (.invokevirtual 132, 3) := by decide +kernel
theorem dX7_join_43 : decode cX7_join 43 = .ok (.ireturn, 1) := by decide +kernel
theorem dX7_join_44 : decode cX7_join 44 = .ok (.aload_n 0, 1) := by decide +kernel
theorem dX7_join_45 : decode cX7_join 45 = .ok (.iload_n 1, 1) := by decide +kernel
theorem dX7_join_46 : decode cX7_join 46 = .ok (.iconst 0, 1) := by decide +kernel
theorem dX7_join_47 : decode cX7_join 47 = .ok (.invokevirtual 48, 3) := by decide +kernel
theorem dX7_join_50 : decode cX7_join 50 = .ok (.iconst 1, 1) := by decide +kernel
theorem dX7_join_51 : decode cX7_join 51 = .ok (.if_icmp .eq 10, 3) := by decide +kernel
theorem dX7_join_54 : decode cX7_join 54 = .ok (.aload_n 0, 1) := by decide +kernel
theorem dX7_join_55 : decode cX7_join 55 = .ok (.bipush (-8), 2) := by decide +kernel
theorem dX7_join_57 : decode cX7_join 57 = .ok (.invokevirtual 132, 3) := by decide +kernel
theorem dX7_join_60 : decode cX7_join 60 = .ok (.ireturn, 1) := by decide +kernel
theorem dX7_join_61 : decode cX7_join 61 = .ok (.iload_n 1, 1) := by decide +kernel
theorem dX7_join_62 : decode cX7_join 62 = .ok (.iload_n 2, 1) := by decide +kernel
theorem dX7_join_63 : decode cX7_join 63 = .ok (.if_icmp .ne 10, 3) := by decide +kernel
theorem dX7_join_66 : decode cX7_join 66 = .ok (.aload_n 0, 1) := by decide +kernel
theorem dX7_join_67 : decode cX7_join 67 = .ok (.bipush (-9), 2) := by decide +kernel
theorem dX7_join_69 : decode cX7_join 69 = .ok (.invokevirtual 132, 3) := by decide +kernel
theorem dX7_join_72 : decode cX7_join 72 = .ok (.ireturn, 1) := by decide +kernel
theorem dX7_join_73 : decode cX7_join 73 = .ok (.aload_n 0, 1) := by decide +kernel
theorem dX7_join_74 : decode cX7_join 74 = .ok (.invokevirtual 128, 3) := by decide +kernel
theorem dX7_join_77 : decode cX7_join 77 = .ok (.ifCond .eq 10, 3) := by decide +kernel
theorem dX7_join_80 : decode cX7_join 80 = .ok (.aload_n 0, 1) := by decide +kernel
theorem dX7_join_81 : decode cX7_join 81 = .ok (.bipush (-10), 2) := by decide +kernel
theorem dX7_join_83 : decode cX7_join 83 = .ok (.invokevirtual 132, 3) := by decide +kernel
theorem dX7_join_86 : decode cX7_join 86 = .ok (.ireturn, 1) := by decide +kernel
theorem dX7_join_87 : decode cX7_join 87 = .ok (.aload_n 0, 1) := by decide +kernel
theorem dX7_join_88 : decode cX7_join 88 = .ok (.aload_n 0, 1) := by decide +kernel
theorem dX7_join_89 : decode cX7_join 89 = .ok (.iload_n 1, 1) := by decide +kernel
theorem dX7_join_90 : decode cX7_join 90 = .ok (.iload_n 2, 1) := by decide +kernel
theorem dX7_join_91 : decode cX7_join 91 = .ok (.iconst 5, 1) := by decide +kernel
theorem dX7_join_92 : decode cX7_join 92 = .ok (.iconst (-1), 1) := by decide +kernel
theorem dX7_join_93 : decode cX7_join 93 = .ok (.invokevirtual 89, 3) := by decide +kernel
theorem dX7_join_96 : decode cX7_join 96 = .ok (.invokevirtual 138, 3) := by decide +kernel
theorem dX7_join_99 : decode cX7_join 99 = .ok (.ireturn, 1) := by decide +kernel
theorem dX7_leave_0 : decode cX7_leave 0 = .ok (.aload_n 0, 1) := by decide +kernel
theorem dX7_leave_1 : decode cX7_leave 1 = .ok (.iload_n 1, 1) := by decide +kernel
theorem dX7_leave_2 : decode cX7_leave 2 = .ok (.iconst 1, 1) := by decide +kernel
theorem dX7_leave_3 : decode cX7_leave 3 = .ok (.invokevirtual 141, 3) := by decide +kernel
theorem dX7_leave_6 : decode cX7_leave 6 = .ok (.istore_n 2, 1) := by decide +kernel
theorem dX7_leave_7 : decode cX7_leave 7 = .ok (.iload_n 2, 1) := by decide +kernel
theorem dX7_leave_8 : decode cX7_leave 8 = .ok (.ifCond .eq 9, 3) := by decide +kernel
theorem dX7_leave_11 : decode cX7_leave 11 = .ok (.aload_n 0, 1) := by decide +kernel
theorem dX7_leave_12 : decode cX7_leave 12 = .ok (.iload_n 2, 1) := by decide +kernel
theorem dX7_leave_13 : decode cX7_leave 13 = .ok (.invokevirtual 132, 3) := by decide +kernel
theorem dX7_leave_16 : decode cX7_leave 16 = .ok (.ireturn, 1) := by decide +kernel
theorem dX7_leave_17 : decode cX7_leave 17 = .ok (.aload_n 0, 1) := by decide +kernel
theorem dX7_leave_18 : decode cX7_leave 18 = .ok (.iload_n 1, 1) := by decide +kernel
theorem dX7_leave_19 : decode cX7_leave 19 = .ok (.iload_n 1, 1) := by decide +kernel
theorem dX7_leave_20 : decode cX7_leave 20 = .ok (.iconst 4, 1) := by decide +kernel
theorem dX7_leave_21 : decode cX7_leave 21 = .ok (.aload_n 0, 1) := by decide +kernel
theorem dX7_leave_22 : decode cX7_leave 22 = .ok (.iload_n 1, 1) := by decide +kernel
theorem dX7_leave_23 : decode cX7_leave 23 = .ok (.iconst 1, 1) := by decide +kernel
theorem dX7_leave_24 : decode cX7_leave 24 = .ok (.invokevirtual 48, 3) := by decide +kernel
theorem dX7_leave_27 : decode cX7_leave 27 = .ok (.iconst (-1), 1) := by decide +kernel
theorem dX7_leave_28 : decode cX7_leave 28 = .ok (.invokevirtual 67, 3) := by decide +kernel
theorem dX7_leave_31 : decode cX7_leave 31 = .ok (.aload_n 0, 1) := by decide +kernel
theorem dX7_leave_32 : decode cX7_leave 32 = .ok (.iload_n 1, 1) := by decide +kernel
theorem dX7_leave_33 : decode cX7_leave 33 = .ok (.iconst 0, 1) := by decide +kernel
theorem dX7_leave_34 : decode cX7_leave 34 = .ok (.iconst 3, 1) := by decide +kernel
theorem dX7_leave_35 : decode cX7_leave 35 = .ok (.invokevirtual 63, 3) := by decide +kernel
theorem dX7_leave_38 : decode cX7_leave 38 = .ok (.aload_n 0, 1) := by decide +kernel
theorem dX7_leave_39 : decode cX7_leave 39 = .ok (.iload_n 1, 1) := by decide +kernel
theorem dX7_leave_40 : decode cX7_leave 40 = .ok (.iconst (-1), 1) := by decide +kernel
theorem dX7_leave_41 : decode cX7_leave 41 = .ok (.bipush 6, 2) := by decide +kernel
theorem dX7_leave_43 : decode cX7_leave 43 = .ok (.iconst (-1), 1) := by decide +kernel
theorem dX7_leave_44 : decode cX7_leave 44 = .ok (.invokevirtual 115, 3) := by decide +kernel
theorem dX7_leave_47 : decode cX7_leave 47 = .ok (.istore_n 3, 1) := by decide +kernel
theorem dX7_leave_48 : decode cX7_leave 48 = .ok (.aload_n 0, 1) := by decide +kernel
theorem dX7_leave_49 : decode cX7_leave 49 = .ok (.iload_n 1, 1) := by decide +kernel
theorem dX7_leave_50 : decode cX7_leave 50 = .ok (.invokevirtual 135, 3) := by decide +kernel
theorem dX7_leave_53 : decode cX7_leave 53 = .ok (.aload_n 0, 1) := by decide +kernel
theorem dX7_leave_54 : decode cX7_leave 54 = .ok (.iload_n 3, 1) := by decide +kernel
theorem dX7_leave_55 : decode cX7_leave 55 = .ok (.invokevirtual 138, 3) := by decide +kernel
theorem dX7_leave_58 : decode cX7_leave 58 = .ok (.ireturn, 1) := by decide +kernel
theorem dX7_turn_0 : decode cX7_turn 0 = .ok (.aload_n 0, 1) := by decide +kernel
theorem dX7_turn_1 : decode cX7_turn 1 = .ok (.iload_n 1, 1) := by decide +kernel
theorem dX7_turn_2 : decode cX7_turn 2 = .ok (.iconst 1, 1) := by decide +kernel
theorem dX7_turn_3 : decode cX7_turn 3 = .ok (.invokevirtual 141, 3) := by decide +kernel
theorem dX7_turn_6 : decode cX7_turn 6 = .ok (.istore_n 2, 1) := by decide +kernel
theorem dX7_turn_7 : decode cX7_turn 7 = .ok (.iload_n 2, 1) := by decide +kernel
theorem dX7_turn_8 : decode cX7_turn 8 = .ok (.ifCond .eq 11, 3) := by decide +kernel
theorem dX7_turn_11 : decode cX7_turn 11 = .ok (.aload_n 0, 1) := by decide +kernel
theorem dX7_turn_12 : decode cX7_turn 12 = .ok (.iload_n 2, 1) := by decide +kernel
theorem dX7_turn_13 : decode cX7_turn 13 = .ok (.invokevirtual 132, 3) := by decide +kernel
theorem dX7_turn_16 : decode cX7_turn 16 = .ok (.goto 12, 3) := by decide +kernel
theorem dX7_turn_19 : decode cX7_turn 19 = .ok (.aload_n 0, 1) := by decide +kernel
theorem dX7_turn_20 : decode cX7_turn 20 = .ok (.aload_n 0, 1) := by decide +kernel
theorem dX7_turn_21 : decode cX7_turn 21 = .ok (.iload_n 1, 1) := by decide +kernel
theorem dX7_turn_22 : decode cX7_turn 22 = .ok (.invokevirtual 144, 3) := by decide +kernel
theorem dX7_turn_25 : decode cX7_turn 25 = .ok (.invokevirtual 138, 3) := by decide +kernel
theorem dX7_turn_28 : decode cX7_turn 28 = .ok (.ireturn, 1) := by decide +kernel
theorem dX7_fall_0 : decode cX7_fall 0 = .ok (.aload_n 0, 1) := by decide +kernel
theorem dX7_fall_1 : decode cX7_fall 1 = .ok (.iload_n 1, 1) := by decide +kernel
theorem dX7_fall_2 : decode cX7_fall 2 = .ok (.iconst 1, 1) := by decide +kernel
theorem dX7_fall_3 : decode cX7_fall 3 = .ok (.invokevirtual 141, 3) := by decide +kernel
theorem dX7_fall_6 : decode cX7_fall 6 = .ok (.istore_n 2, 1) := by decide +kernel
theorem dX7_fall_7 : decode cX7_fall 7 = .ok (.iload_n 2, 1) := by decide +kernel
theorem dX7_fall_8 : decode cX7_fall 8 = .ok (.ifCond .eq 9, 3) := by decide +kernel
theorem dX7_fall_11 : decode cX7_fall 11 = .ok (.aload_n 0, 1) := by decide +kernel
theorem dX7_fall_12 : decode cX7_fall 12 = .ok (.iload_n 2, 1) := by decide +kernel
theorem dX7_fall_13 : decode cX7_fall 13 = .ok (.invokevirtual 132, 3) := by decide +kernel
theorem dX7_fall_16 : decode cX7_fall 16 = .ok (.ireturn, 1) := by decide +kernel
theorem dX7_fall_17 : decode cX7_fall 17 = .ok (.aload_n 0, 1) := by decide +kernel
theorem dX7_fall_18 : decode cX7_fall 18 = .ok (.iload_n 1, 1) := by decide +kernel
theorem dX7_fall_19 : decode cX7_fall 19 = .ok (.iconst 0, 1) := by decide +kernel
theorem dX7_fall_20 : decode cX7_fall 20 = .ok (.iconst 2, 1) := by decide +kernel
theorem dX7_fall_21 : decode cX7_fall 21 = .ok (.invokevirtual 63, 3) := by decide +kernel
theorem dX7_fall_24 : decode cX7_fall 24 = .ok (.iconst 0, 1) := by decide +kernel
theorem dX7_fall_25 : decode cX7_fall 25 = .ok (.istore_n 3, 1) := by decide +kernel
theorem dX7_fall_26 : decode cX7_fall 26 = .ok (.iload_n 3, 1) := by decide +kernel
theorem dX7_fall_27 : decode cX7_fall 27 = .ok (.bipush 64, 2) := by decide +kernel
theorem dX7_fall_29 : decode cX7_fall 29 = .ok (.if_icmp .ge 20, 3) := by decide +kernel
theorem dX7_fall_32 : decode cX7_fall 32 = .ok (.aload_n 0, 1) := by decide +kernel
theorem dX7_fall_33 : decode cX7_fall 33 = .ok (.getfield 8, 3) := by decide +kernel
theorem dX7_fall_36 : decode cX7_fall 36 = .ok (.iload_n 1, 1) := by decide +kernel
theorem dX7_fall_37 : decode cX7_fall 37 = .ok (.iload_n 3, 1) := by decide +kernel
theorem dX7_fall_38 : decode cX7_fall 38 = .ok (.invokestatic 44, 3) := by decide +kernel
theorem dX7_fall_41 : decode cX7_fall 41 = .ok (.iconst 0, 1) := by decide +kernel
theorem dX7_fall_42 : decode cX7_fall 42 = .ok (.iastore, 1) := by decide +kernel
theorem dX7_fall_43 : decode cX7_fall 43 = .ok (.iinc 3 1, 3) := by decide +kernel
theorem dX7_fall_46 : decode cX7_fall 46 = .ok (.goto (-20), 3) := by decide +kernel
theorem dX7_fall_49 : decode cX7_fall 49 = .ok (.aload_n 0, 1) := by decide +kernel
theorem dX7_fall_50 : decode cX7_fall 50 = .ok (.iload_n 1, 1) := by decide +kernel
theorem dX7_fall_51 : decode cX7_fall 51 = .ok (.iload_n 1, 1) := by decide +kernel
theorem dX7_fall_52 : decode cX7_fall 52 = .ok (.iconst 1, 1) := by decide +kernel
theorem dX7_fall_53 : decode cX7_fall 53 = .ok (.aload_n 0, 1) := by decide +kernel
theorem dX7_fall_54 : decode cX7_fall 54 = .ok (.iload_n 1, 1) := by decide +kernel
theorem dX7_fall_55 : decode cX7_fall 55 = .ok (.iconst 1, 1) := by decide +kernel
theorem dX7_fall_56 : decode cX7_fall 56 = .ok (.invokevirtual 48, 3) := by decide +kernel
theorem dX7_fall_59 : decode cX7_fall 59 = .ok (.iconst (-1), 1) := by decide +kernel
theorem dX7_fall_60 : decode cX7_fall 60 = .ok (.invokevirtual 67, 3) := by decide +kernel
theorem dX7_fall_63 : decode cX7_fall 63 = .ok (.aload_n 0, 1) := by decide +kernel
theorem dX7_fall_64 : decode cX7_fall 64 = .ok (.iload_n 1, 1) := by decide +kernel
theorem dX7_fall_65 : decode cX7_fall 65 = .ok (.invokevirtual 135, 3) := by decide +kernel
theorem dX7_fall_68 : decode cX7_fall 68 = .ok (.aload_n 0, 1) := by decide +kernel
theorem dX7_fall_69 : decode cX7_fall 69 = .ok (.aload_n 0, 1) := by decide +kernel
theorem dX7_fall_70 : decode cX7_fall 70 = .ok (.iload_n 1, 1) := by decide +kernel
theorem dX7_fall_71 : decode cX7_fall 71 = .ok (.iconst 1, 1) := by decide +kernel
theorem dX7_fall_72 : decode cX7_fall 72 = .ok (.invokevirtual 48, 3) := by decide +kernel
theorem dX7_fall_75 : decode cX7_fall 75 = .ok (.invokevirtual 138, 3) := by decide +kernel
theorem dX7_fall_78 : decode cX7_fall 78 = .ok (.ireturn, 1) := by decide +kernel
theorem dX7_rise_0 : decode cX7_rise 0 = .ok (.aload_n 0, 1) := by decide +kernel
theorem dX7_rise_1 : decode cX7_rise 1 = .ok (.iload_n 1, 1) := by decide +kernel
theorem dX7_rise_2 : decode cX7_rise 2 = .ok (.iconst 2, 1) := by decide +kernel
theorem dX7_rise_3 : decode cX7_rise 3 = .ok (.invokevirtual 141, 3) := by decide +kernel
theorem dX7_rise_6 : decode cX7_rise 6 = .ok (.istore_n 2, 1) := by decide +kernel
theorem dX7_rise_7 : decode cX7_rise 7 = .ok (.iload_n 2, 1) := by decide +kernel
theorem dX7_rise_8 : decode cX7_rise 8 = .ok (.ifCond .eq 9, 3) := by decide +kernel
theorem dX7_rise_11 : decode cX7_rise 11 = .ok (.aload_n 0, 1) := by decide +kernel
theorem dX7_rise_12 : decode cX7_rise 12 = .ok (.iload_n 2, 1) := by decide +kernel
theorem dX7_rise_13 : decode cX7_rise 13 = .ok (.invokevirtual 132, 3) := by decide +kernel
theorem dX7_rise_16 : decode cX7_rise 16 = .ok (.ireturn, 1) := by decide +kernel
theorem dX7_rise_17 : decode cX7_rise 17 = .ok (.aload_n 0, 1) := by decide +kernel
theorem dX7_rise_18 : decode cX7_rise 18 = .ok (.iload_n 1, 1) := by decide +kernel
theorem dX7_rise_19 : decode cX7_rise 19 = .ok (.iconst 0, 1) := by decide +kernel
theorem dX7_rise_20 : decode cX7_rise 20 = .ok (.iconst 1, 1) := by decide +kernel
theorem dX7_rise_21 : decode cX7_rise 21 = .ok (.invokevirtual 63, 3) := by decide +kernel
theorem dX7_rise_24 : decode cX7_rise 24 = .ok (.aload_n 0, 1) := by decide +kernel
theorem dX7_rise_25 : decode cX7_rise 25 = .ok (.iload_n 1, 1) := by decide +kernel
theorem dX7_rise_26 : decode cX7_rise 26 = .ok (.iconst 1, 1) := by decide +kernel
theorem dX7_rise_27 : decode cX7_rise 27 = .ok (.aload_n 0, 1) := by decide +kernel
theorem dX7_rise_28 : decode cX7_rise 28 = .ok (.iload_n 1, 1) := by decide +kernel
theorem dX7_rise_29 : decode cX7_rise 29 = .ok (.iconst 1, 1) := by decide +kernel
theorem dX7_rise_30 : decode cX7_rise 30 = .ok (.invokevirtual 48, 3) := by decide +kernel
theorem dX7_rise_33 : decode cX7_rise 33 = .ok (.iconst 1, 1) := by decide +kernel
theorem dX7_rise_34 : decode cX7_rise 34 = .ok (.iadd, 1) := by decide +kernel
theorem dX7_rise_35 : decode cX7_rise 35 = .ok (.invokevirtual 63, 3) := by decide +kernel
theorem dX7_rise_38 : decode cX7_rise 38 = .ok (.aload_n 0, 1) := by decide +kernel
theorem dX7_rise_39 : decode cX7_rise 39 = .ok (.iload_n 1, 1) := by decide +kernel
theorem dX7_rise_40 : decode cX7_rise 40 = .ok (.iload_n 1, 1) := by decide +kernel
theorem dX7_rise_41 : decode cX7_rise 41 = .ok (.iconst 1, 1) := by decide +kernel
theorem dX7_rise_42 : decode cX7_rise 42 = .ok (.aload_n 0, 1) := by decide +kernel
theorem dX7_rise_43 : decode cX7_rise 43 = .ok (.iload_n 1, 1) := by decide +kernel
theorem dX7_rise_44 : decode cX7_rise 44 = .ok (.iconst 1, 1) := by decide +kernel
theorem dX7_rise_45 : decode cX7_rise 45 = .ok (.invokevirtual 48, 3) := by decide +kernel
theorem dX7_rise_48 : decode cX7_rise 48 = .ok (.iconst (-1), 1) := by decide +kernel
theorem dX7_rise_49 : decode cX7_rise 49 = .ok (.invokevirtual 67, 3) := by decide +kernel
theorem dX7_rise_52 : decode cX7_rise 52 = .ok (.aload_n 0, 1) := by decide +kernel
theorem dX7_rise_53 : decode cX7_rise 53 = .ok (.aload_n 0, 1) := by decide +kernel
theorem dX7_rise_54 : decode cX7_rise 54 = .ok (.iload_n 1, 1) := by decide +kernel
theorem dX7_rise_55 : decode cX7_rise 55 = .ok (.iconst 1, 1) := by decide +kernel
theorem dX7_rise_56 : decode cX7_rise 56 = .ok (.invokevirtual 48, 3) := by decide +kernel
theorem dX7_rise_59 : decode cX7_rise 59 = .ok (.invokevirtual 138, 3) := by decide +kernel
theorem dX7_rise_62 : decode cX7_rise 62 = .ok (.ireturn, 1) := by decide +kernel
theorem dX7_whyLetter_0 : decode cX7_whyLetter 0 = .ok (.aload_n 0, 1) := by decide +kernel
theorem dX7_whyLetter_1 : decode cX7_whyLetter 1 = .ok (.iload_n 1, 1) := by decide +kernel
theorem dX7_whyLetter_2 : decode cX7_whyLetter 2 = .ok (.invokevirtual 147, 3) := by decide +kernel
theorem dX7_whyLetter_5 : decode cX7_whyLetter 5 = .ok (.ifCond .ne 6, 3) := by decide +kernel
theorem dX7_whyLetter_8 : decode cX7_whyLetter 8 = .ok (.bipush (-3), 2) := by decide +kernel
theorem dX7_whyLetter_10 : decode cX7_whyLetter 10 = .ok (.ireturn, 1) := by decide +kernel
theorem dX7_whyLetter_11 : decode cX7_whyLetter 11 = .ok (.aload_n 0, 1) := by decide +kernel
theorem dX7_whyLetter_12 : decode cX7_whyLetter 12 = .ok (.iload_n 1, 1) := by decide +kernel
theorem dX7_whyLetter_13 : decode cX7_whyLetter 13 = .ok (.bipush 6, 2) := by decide +kernel
theorem dX7_whyLetter_15 : decode cX7_whyLetter 15 = .ok (.invokevirtual 83, 3) := by decide +kernel
theorem dX7_whyLetter_18 : decode cX7_whyLetter 18 = .ok (.ifCond .eq 6, 3) := by decide +kernel
theorem dX7_whyLetter_21 : decode cX7_whyLetter 21 = .ok (.bipush (-2), 2) := by decide +kernel
theorem dX7_whyLetter_23 : decode cX7_whyLetter 23 = .ok (.ireturn, 1) := by decide +kernel
theorem dX7_whyLetter_24 : decode cX7_whyLetter 24 = .ok (.aload_n 0, 1) := by decide +kernel
theorem dX7_whyLetter_25 : decode cX7_whyLetter 25 = .ok (.invokevirtual 128, 3) := by decide +kernel
theorem dX7_whyLetter_28 : decode cX7_whyLetter 28 = .ok (.ifCond .eq 8, 3) := by decide +kernel
theorem dX7_whyLetter_31 : decode cX7_whyLetter 31 = .ok (.bipush (-10), 2) := by decide +kernel
theorem dX7_whyLetter_33 : decode cX7_whyLetter 33 = .ok (.goto 4, 3) := by decide +kernel
theorem dX7_whyLetter_36 : decode cX7_whyLetter 36 = .ok (.iconst 0, 1) := by decide +kernel
theorem dX7_whyLetter_37 : decode cX7_whyLetter 37 = .ok (.ireturn, 1) := by decide +kernel
theorem dX7_deliver_0 : decode cX7_deliver 0 = .ok (.aload_n 0, 1) := by decide +kernel
theorem dX7_deliver_1 : decode cX7_deliver 1 = .ok (.iload_n 1, 1) := by decide +kernel
theorem dX7_deliver_2 : decode cX7_deliver 2 = .ok (.invokevirtual 150, 3) := by decide +kernel
theorem dX7_deliver_5 : decode cX7_deliver 5 = .ok (.istore_n 2, 1) := by decide +kernel
theorem dX7_deliver_6 : decode cX7_deliver 6 = .ok (.iload_n 2, 1) := by decide +kernel
theorem dX7_deliver_7 : decode cX7_deliver 7 = .ok (.ifCond .eq 9, 3) := by decide +kernel
theorem dX7_deliver_10 : decode cX7_deliver 10 = .ok (.aload_n 0, 1) := by decide +kernel
theorem dX7_deliver_11 : decode cX7_deliver 11 = .ok (.iload_n 2, 1) := by decide +kernel
theorem dX7_deliver_12 : decode cX7_deliver 12 = .ok (.invokevirtual 132, 3) := by decide +kernel
theorem dX7_deliver_15 : decode cX7_deliver 15 = .ok (.ireturn, 1) := by decide +kernel
theorem dX7_deliver_16 : decode cX7_deliver 16 = .ok (.aload_n 0, 1) := by decide +kernel
theorem dX7_deliver_17 : decode cX7_deliver 17 = .ok (.iload_n 1, 1) := by decide +kernel
theorem dX7_deliver_18 : decode cX7_deliver 18 = .ok (.iconst 1, 1) := by decide +kernel
theorem dX7_deliver_19 : decode cX7_deliver 19 = .ok (.invokevirtual 83, 3) := by decide +kernel
theorem dX7_deliver_22 : decode cX7_deliver 22 = .ok (.istore_n 3, 1) := by decide +kernel
theorem dX7_deliver_23 : decode cX7_deliver 23 = .ok (.aload_n 0, 1) := by decide +kernel
theorem dX7_deliver_24 : decode cX7_deliver 24 = .ok (.iload_n 1, 1) := by decide +kernel
theorem dX7_deliver_25 : decode cX7_deliver 25 = .ok (.iconst 2, 1) := by decide +kernel
theorem dX7_deliver_26 : decode cX7_deliver 26 = .ok (.invokevirtual 83, 3) := by decide +kernel
theorem dX7_deliver_29 : decode cX7_deliver 29 = .ok (.istore 4, 2) := by decide +kernel
theorem dX7_deliver_31 : decode cX7_deliver 31 = .ok (.aload_n 0, 1) := by decide +kernel
theorem dX7_deliver_32 : decode cX7_deliver 32 = .ok (.getfield 8, 3) := by decide +kernel
theorem dX7_deliver_35 : decode cX7_deliver 35 = .ok (.sipush 25024, 3) := by decide +kernel
theorem dX7_deliver_38 : decode cX7_deliver 38 = .ok (.bipush 64, 2) := by decide +kernel
theorem dX7_deliver_40 : decode cX7_deliver 40 = .ok (.iload_n 3, 1) := by decide +kernel
theorem dX7_deliver_41 : decode cX7_deliver 41 = .ok (.imul, 1) := by decide +kernel
theorem dX7_deliver_42 : decode cX7_deliver 42 = .ok (.iadd, 1) := by decide +kernel
theorem dX7_deliver_43 : decode cX7_deliver 43 = .ok (.iload 4, 2) := by decide +kernel
theorem dX7_deliver_45 : decode cX7_deliver 45 = .ok (.iadd, 1) := by decide +kernel
theorem dX7_deliver_46 : decode cX7_deliver 46 = .ok (.iaload, 1) := by decide +kernel
theorem dX7_deliver_47 : decode cX7_deliver 47 = .ok (.iconst 1, 1) := by decide +kernel
theorem dX7_deliver_48 : decode cX7_deliver 48 = .ok (.if_icmp .eq 14, 3) := by decide +kernel
theorem dX7_deliver_51 : decode cX7_deliver 51 = .ok (.aload_n 0, 1) := by decide +kernel
theorem dX7_deliver_52 : decode cX7_deliver 52 = .ok (.iload 4, 2) := by decide +kernel
theorem dX7_deliver_54 : decode cX7_deliver 54 = .ok (.iconst 0, 1) := by decide +kernel
theorem dX7_deliver_55 : decode cX7_deliver 55 = .ok (.invokevirtual 48, 3) := by decide +kernel
theorem dX7_deliver_58 : decode cX7_deliver 58 = .ok (.iconst 1, 1) := by decide +kernel
theorem dX7_deliver_59 : decode cX7_deliver 59 = .ok (.if_icmp .eq 7, 3) := by decide +kernel
theorem dX7_deliver_62 : decode cX7_deliver 62 = .ok (.iconst 1, 1) := by decide +kernel
theorem dX7_deliver_63 : decode cX7_deliver 63 = .ok (.goto 4, 3) := by decide +kernel
theorem dX7_deliver_66 : decode cX7_deliver 66 = .ok (.iconst 0, 1) := by decide +kernel
theorem dX7_deliver_67 : decode cX7_deliver 67 = .ok (.istore 5, 2) := by decide +kernel
theorem dX7_deliver_69 : decode cX7_deliver 69 = .ok (.aload_n 0, 1) := by decide +kernel
theorem dX7_deliver_70 : decode cX7_deliver 70 = .ok (.getfield 8, 3) := by decide +kernel
theorem dX7_deliver_73 : decode cX7_deliver 73 = .ok (.sipush 29120, 3) := by decide +kernel
theorem dX7_deliver_76 : decode cX7_deliver 76 = .ok (.bipush 8, 2) := by decide +kernel
theorem dX7_deliver_78 : decode cX7_deliver 78 = .ok (.iload_n 1, 1) := by decide +kernel
theorem dX7_deliver_79 : decode cX7_deliver 79 = .ok (.imul, 1) := by decide +kernel
theorem dX7_deliver_80 : decode cX7_deliver 80 = .ok (.iadd, 1) := by decide +kernel
theorem dX7_deliver_81 : decode cX7_deliver 81 = .ok (.bipush 6, 2) := by decide +kernel
theorem dX7_deliver_83 : decode cX7_deliver 83 = .ok (.iadd, 1) := by decide +kernel
theorem dX7_deliver_84 : decode cX7_deliver 84 = .ok (.iload 5, 2) := by decide +kernel
theorem dX7_deliver_86 : decode cX7_deliver 86 = .ok (.ifCond .eq 7, 3) := by decide +kernel
theorem dX7_deliver_89 : decode cX7_deliver 89 = .ok (.iconst 2, 1) := by decide +kernel
theorem dX7_deliver_90 : decode cX7_deliver 90 = .ok (.goto 4, 3) := by decide +kernel
theorem dX7_deliver_93 : decode cX7_deliver 93 = .ok (.iconst 1, 1) := by decide +kernel
theorem dX7_deliver_94 : decode cX7_deliver 94 = .ok (.iastore, 1) := by decide +kernel
theorem dX7_deliver_95 : decode cX7_deliver 95 = .ok (.aload_n 0, 1) := by decide +kernel
theorem dX7_deliver_96 : decode cX7_deliver 96 = .ok (.iload 5, 2) := by decide +kernel
theorem dX7_deliver_98 : decode cX7_deliver 98 = .ok (.ifCond .eq 7, 3) := by decide +kernel
theorem dX7_deliver_101 : decode cX7_deliver 101 = .ok (.iconst (-1), 1) := by decide +kernel
theorem dX7_deliver_102 : decode cX7_deliver 102 = .ok (.goto 8, 3) := by decide +kernel
theorem dX7_deliver_105 : decode cX7_deliver 105 = .ok (.aload_n 0, 1) := by decide +kernel
theorem dX7_deliver_106 : decode cX7_deliver 106 = .ok (.iload_n 1, 1) := by decide +kernel
theorem dX7_deliver_107 : decode cX7_deliver 107 = .ok (.invokevirtual 153, 3) := by decide +kernel
theorem dX7_deliver_110 : decode cX7_deliver 110 = .ok (.invokevirtual 138, 3) := by decide +kernel
theorem dX7_deliver_113 : decode cX7_deliver 113 = .ok (.ireturn, 1) := by decide +kernel
theorem dX7_withState_0 : decode cX7_withState 0 = .ok (.iconst 0, 1) := by decide +kernel
theorem dX7_withState_1 : decode cX7_withState 1 = .ok (.istore_n 2, 1) := by decide +kernel
theorem dX7_withState_2 : decode cX7_withState 2 = .ok (.iconst 0, 1) := by decide +kernel
theorem dX7_withState_3 : decode cX7_withState 3 = .ok (.istore_n 3, 1) := by decide +kernel
theorem dX7_withState_4 : decode cX7_withState 4 = .ok (.iload_n 3, 1) := by decide +kernel
theorem dX7_withState_5 : decode cX7_withState 5 = .ok (.aload_n 0, 1) := by decide +kernel
theorem dX7_withState_6 : decode cX7_withState 6 = .ok (.getfield 8, 3) := by decide +kernel
theorem dX7_withState_9 : decode cX7_withState 9 = .ok (.ldc 51, 2) := by decide +kernel
theorem dX7_withState_11 : decode cX7_withState 11 = .ok (.iaload, 1) := by decide +kernel
theorem dX7_withState_12 : decode cX7_withState 12 = .ok (.if_icmp .ge 28, 3) := by decide +kernel
theorem dX7_withState_15 : decode cX7_withState 15 = .ok (.iload_n 2, 1) := by decide +kernel
theorem dX7_withState_16 : decode cX7_withState 16 = .ok (.aload_n 0, 1) := by decide +kernel
theorem dX7_withState_17 : decode cX7_withState 17 = .ok (.iload_n 3, 1) := by decide +kernel
theorem dX7_withState_18 : decode cX7_withState 18 = .ok (.bipush 6, 2) := by decide +kernel
theorem dX7_withState_20 : decode cX7_withState 20 = .ok (.invokevirtual 83, 3) := by decide +kernel
theorem dX7_withState_23 : decode cX7_withState 23 = .ok (.iload_n 1, 1) := by decide +kernel
theorem dX7_withState_24 : decode cX7_withState 24 = .ok (.if_icmp .ne 7, 3) := by decide +kernel
theorem dX7_withState_27 : decode cX7_withState 27 = .ok (.iconst 1, 1) := by decide +kernel
theorem dX7_withState_28 : decode cX7_withState 28 = .ok (.goto 4, 3) := by decide +kernel
theorem dX7_withState_31 : decode cX7_withState 31 = .ok (.iconst 0, 1) := by decide +kernel
theorem dX7_withState_32 : decode cX7_withState 32 = .ok (.iadd, 1) := by decide +kernel
theorem dX7_withState_33 : decode cX7_withState 33 = .ok (.istore_n 2, 1) := by decide +kernel
theorem dX7_withState_34 : decode cX7_withState 34 = .ok (.iinc 3 1, 3) := by decide +kernel
theorem dX7_withState_37 : decode cX7_withState 37 = .ok (.goto (-33), 3) := by decide +kernel
theorem dX7_withState_40 : decode cX7_withState 40 = .ok (.iload_n 2, 1) := by decide +kernel
theorem dX7_withState_41 : decode cX7_withState 41 = .ok (.ireturn, 1) := by decide +kernel
theorem dX7_lose_0 : decode cX7_lose 0 = .ok (.aload_n 0, 1) := by decide +kernel
theorem dX7_lose_1 : decode cX7_lose 1 = .ok (.iload_n 1, 1) := by decide +kernel
theorem dX7_lose_2 : decode cX7_lose 2 = .ok (.invokevirtual 150, 3) := by decide +kernel
theorem dX7_lose_5 : decode cX7_lose 5 = .ok (.istore_n 2, 1) := by decide +kernel
theorem dX7_lose_6 : decode cX7_lose 6 = .ok (.iload_n 2, 1) := by decide +kernel
theorem dX7_lose_7 : decode cX7_lose 7 = .ok (.ifCond .eq 9, 3) := by decide +kernel
theorem dX7_lose_10 : decode cX7_lose 10 = .ok (.aload_n 0, 1) := by decide +kernel
theorem dX7_lose_11 : decode cX7_lose 11 = .ok (.iload_n 2, 1) := by decide +kernel
theorem dX7_lose_12 : decode cX7_lose 12 = .ok (.invokevirtual 132, 3) := by decide +kernel
theorem dX7_lose_15 : decode cX7_lose 15 = .ok (.ireturn, 1) := by decide +kernel
theorem dX7_lose_16 : decode cX7_lose 16 = .ok (.aload_n 0, 1) := by decide +kernel
theorem dX7_lose_17 : decode cX7_lose 17 = .ok (.getfield 8, 3) := by decide +kernel
theorem dX7_lose_20 : decode cX7_lose 20 = .ok (.sipush 29120, 3) := by decide +kernel
theorem dX7_lose_23 : decode cX7_lose 23 = .ok (.bipush 8, 2) := by decide +kernel
theorem dX7_lose_25 : decode cX7_lose 25 = .ok (.iload_n 1, 1) := by decide +kernel
theorem dX7_lose_26 : decode cX7_lose 26 = .ok (.imul, 1) := by decide +kernel
theorem dX7_lose_27 : decode cX7_lose 27 = .ok (.iadd, 1) := by decide +kernel
theorem dX7_lose_28 : decode cX7_lose 28 = .ok (.bipush 6, 2) := by decide +kernel
theorem dX7_lose_30 : decode cX7_lose 30 = .ok (.iadd, 1) := by decide +kernel
theorem dX7_lose_31 : decode cX7_lose 31 = .ok (.iconst 2, 1) := by decide +kernel
theorem dX7_lose_32 : decode cX7_lose 32 = .ok (.iastore, 1) := by decide +kernel
theorem dX7_lose_33 : decode cX7_lose 33 = .ok (.aload_n 0, 1) := by decide +kernel
theorem dX7_lose_34 : decode cX7_lose 34 = .ok (.aload_n 0, 1) := by decide +kernel
theorem dX7_lose_35 : decode cX7_lose 35 = .ok (.iconst 0, 1) := by decide +kernel
theorem dX7_lose_36 : decode cX7_lose 36 = .ok (.invokevirtual 156, 3) := by decide +kernel
theorem dX7_lose_39 : decode cX7_lose 39 = .ok (.invokevirtual 138, 3) := by decide +kernel
theorem dX7_lose_42 : decode cX7_lose 42 = .ok (.ireturn, 1) := by decide +kernel
theorem dX7_twice_0 : decode cX7_twice 0 = .ok (.aload_n 0, 1) := by decide +kernel
theorem dX7_twice_1 : decode cX7_twice 1 = .ok (.iload_n 1, 1) := by decide +kernel
theorem dX7_twice_2 : decode cX7_twice 2 = .ok (.invokevirtual 150, 3) := by decide +kernel
theorem dX7_twice_5 : decode cX7_twice 5 = .ok (.istore_n 2, 1) := by decide +kernel
theorem dX7_twice_6 : decode cX7_twice 6 = .ok (.iload_n 2, 1) := by decide +kernel
theorem dX7_twice_7 : decode cX7_twice 7 = .ok (.ifCond .eq 9, 3) := by decide +kernel
theorem dX7_twice_10 : decode cX7_twice 10 = .ok (.aload_n 0, 1) := by decide +kernel
theorem dX7_twice_11 : decode cX7_twice 11 = .ok (.iload_n 2, 1) := by decide +kernel
theorem dX7_twice_12 : decode cX7_twice 12 = .ok (.invokevirtual 132, 3) := by decide +kernel
theorem dX7_twice_15 : decode cX7_twice 15 = .ok (.ireturn, 1) := by decide +kernel
theorem dX7_twice_16 : decode cX7_twice 16 = .ok (.aload_n 0, 1) := by decide +kernel
theorem dX7_twice_17 : decode cX7_twice 17 = .ok (.getfield 8, 3) := by decide +kernel
theorem dX7_twice_20 : decode cX7_twice 20 = .ok (.ldc 51, 2) := by decide +kernel
theorem dX7_twice_22 : decode cX7_twice 22 = .ok (.iaload, 1) := by decide +kernel
theorem dX7_twice_23 : decode cX7_twice 23 = .ok (.istore_n 3, 1) := by decide +kernel
theorem dX7_twice_24 : decode cX7_twice 24 = .ok (.aload_n 0, 1) := by decide +kernel
theorem dX7_twice_25 : decode cX7_twice 25 = .ok (.getfield 8, 3) := by decide +kernel
theorem dX7_twice_28 : decode cX7_twice 28 = .ok (.ldc 51, 2) := by decide +kernel
theorem dX7_twice_30 : decode cX7_twice 30 = .ok (.dup2, 1) := by decide +kernel
theorem dX7_twice_31 : decode cX7_twice 31 = .ok (.iaload, 1) := by decide +kernel
theorem dX7_twice_32 : decode cX7_twice 32 = .ok (.iconst 1, 1) := by decide +kernel
theorem dX7_twice_33 : decode cX7_twice 33 = .ok (.iadd, 1) := by decide +kernel
theorem dX7_twice_34 : decode cX7_twice 34 = .ok (.iastore, 1) := by decide +kernel
theorem dX7_twice_35 : decode cX7_twice 35 = .ok (.iconst 0, 1) := by decide +kernel
theorem dX7_twice_36 : decode cX7_twice 36 = .ok (.istore 4, 2) := by decide +kernel
theorem dX7_twice_38 : decode cX7_twice 38 = .ok (.iload 4, 2) := by decide +kernel
theorem dX7_twice_40 : decode cX7_twice 40 = .ok (.bipush 8, 2) := by decide +kernel
theorem dX7_twice_42 : decode cX7_twice 42 = .ok (.if_icmp .ge 32, 3) := by decide +kernel
theorem dX7_twice_45 : decode cX7_twice 45 = .ok (.aload_n 0, 1) := by decide +kernel
theorem dX7_twice_46 : decode cX7_twice 46 = .ok (.getfield 8, 3) := by decide +kernel
theorem dX7_twice_49 : decode cX7_twice 49 = .ok (.sipush 29120, 3) := by decide +kernel
theorem dX7_twice_52 : decode cX7_twice 52 = .ok (.bipush 8, 2) := by decide +kernel
theorem dX7_twice_54 : decode cX7_twice 54 = .ok (.iload_n 3, 1) := by decide +kernel
theorem dX7_twice_55 : decode cX7_twice 55 = .ok (.imul, 1) := by decide +kernel
theorem dX7_twice_56 : decode cX7_twice 56 = .ok (.iadd, 1) := by decide +kernel
theorem dX7_twice_57 : decode cX7_twice 57 = .ok (.iload 4, 2) := by decide +kernel
theorem dX7_twice_59 : decode cX7_twice 59 = .ok (.iadd, 1) := by decide +kernel
theorem dX7_twice_60 : decode cX7_twice 60 = .ok (.aload_n 0, 1) := by decide +kernel
theorem dX7_twice_61 : decode cX7_twice 61 = .ok (.iload_n 1, 1) := by decide +kernel
theorem dX7_twice_62 : decode cX7_twice 62 = .ok (.iload 4, 2) := by decide +kernel
theorem dX7_twice_64 : decode cX7_twice 64 = .ok (.invokevirtual 83, 3) := by decide +kernel
theorem dX7_twice_67 : decode cX7_twice 67 = .ok (.iastore, 1) := by decide +kernel
theorem dX7_twice_68 : decode cX7_twice 68 = .ok (.iinc 4 1, 3) := by decide +kernel
theorem dX7_twice_71 : decode cX7_twice 71 = .ok (.goto (-33), 3) := by decide +kernel
theorem dX7_twice_74 : decode cX7_twice 74 = .ok (.aload_n 0, 1) := by decide +kernel
theorem dX7_twice_75 : decode cX7_twice 75 = .ok (.getfield 8, 3) := by decide +kernel
theorem dX7_twice_78 : decode cX7_twice 78 = .ok (.sipush 29120, 3) := by decide +kernel
theorem dX7_twice_81 : decode cX7_twice 81 = .ok (.bipush 8, 2) := by decide +kernel
theorem dX7_twice_83 : decode cX7_twice 83 = .ok (.iload_n 3, 1) := by decide +kernel
theorem dX7_twice_84 : decode cX7_twice 84 = .ok (.imul, 1) := by decide +kernel
theorem dX7_twice_85 : decode cX7_twice 85 = .ok (.iadd, 1) := by decide +kernel
theorem dX7_twice_86 : decode cX7_twice 86 = .ok (.bipush 7, 2) := by decide +kernel
theorem dX7_twice_88 : decode cX7_twice 88 = .ok (.iadd, 1) := by decide +kernel
theorem dX7_twice_89 : decode cX7_twice 89 = .ok (.iload_n 1, 1) := by decide +kernel
theorem dX7_twice_90 : decode cX7_twice 90 = .ok (.iastore, 1) := by decide +kernel
theorem dX7_twice_91 : decode cX7_twice 91 = .ok (.aload_n 0, 1) := by decide +kernel
theorem dX7_twice_92 : decode cX7_twice 92 = .ok (.getfield 8, 3) := by decide +kernel
theorem dX7_twice_95 : decode cX7_twice 95 = .ok (.sipush 29120, 3) := by decide +kernel
theorem dX7_twice_98 : decode cX7_twice 98 = .ok (.bipush 8, 2) := by decide +kernel
theorem dX7_twice_100 : decode cX7_twice 100 = .ok (.iload_n 3, 1) := by decide +kernel
theorem dX7_twice_101 : decode cX7_twice 101 = .ok (.imul, 1) := by decide +kernel
theorem dX7_twice_102 : decode cX7_twice 102 = .ok (.iadd, 1) := by decide +kernel
theorem dX7_twice_103 : decode cX7_twice 103 = .ok (.iconst 4, 1) := by decide +kernel
theorem dX7_twice_104 : decode cX7_twice 104 = .ok (.iadd, 1) := by decide +kernel
theorem dX7_twice_105 : decode cX7_twice 105 = .ok (.aload_n 0, 1) := by decide +kernel
theorem dX7_twice_106 : decode cX7_twice 106 = .ok (.getfield 8, 3) := by decide +kernel
theorem dX7_twice_109 : decode cX7_twice 109 = .ok (.ldc 52, 2) := by decide +kernel
theorem dX7_twice_111 : decode cX7_twice 111 = .ok (.iaload, 1) := by decide +kernel
theorem dX7_twice_112 : decode cX7_twice 112 = .ok (.iastore, 1) := by decide +kernel
theorem dX7_twice_113 : decode cX7_twice 113 = .ok (.iconst 0, 1) := by decide +kernel
theorem dX7_twice_114 : decode cX7_twice 114 = .ok (.istore 4, 2) := by decide +kernel
theorem dX7_twice_116 : decode cX7_twice 116 = .ok (.iload 4, 2) := by decide +kernel
theorem dX7_twice_118 : decode cX7_twice 118 = .ok (.iconst 4, 1) := by decide +kernel
theorem dX7_twice_119 : decode cX7_twice 119 = .ok (.aload_n 0, 1) := by decide +kernel
theorem dX7_twice_120 : decode cX7_twice 120 = .ok (.iload_n 1, 1) := by decide +kernel
theorem dX7_twice_121 : decode cX7_twice 121 = .ok (.iconst 5, 1) := by decide +kernel
theorem dX7_twice_122 : decode cX7_twice 122 = .ok (.invokevirtual 83, 3) := by decide +kernel
theorem dX7_twice_125 : decode cX7_twice 125 = .ok (.imul, 1) := by decide +kernel
theorem dX7_twice_126 : decode cX7_twice 126 = .ok (.if_icmp .ge 48, 3) := by decide +kernel
theorem dX7_twice_129 : decode cX7_twice 129 = .ok (.aload_n 0, 1) := by decide +kernel
theorem dX7_twice_130 : decode cX7_twice 130 = .ok (.getfield 8, 3) := by decide +kernel
theorem dX7_twice_133 : decode cX7_twice 133 = .ok (.ldc 71, 2) := by decide +kernel
theorem dX7_twice_135 : decode cX7_twice 135 = .ok (.iconst 4, 1) := by decide +kernel
theorem dX7_twice_136 : decode cX7_twice 136 = .ok (.aload_n 0, 1) := by decide +kernel
theorem dX7_twice_137 : decode cX7_twice 137 = .ok (.getfield 8, 3) := by decide +kernel
theorem dX7_twice_140 : decode cX7_twice 140 = .ok (.ldc 52, 2) := by decide +kernel
theorem dX7_twice_142 : decode cX7_twice 142 = .ok (.iaload, 1) := by decide +kernel
theorem dX7_twice_143 : decode cX7_twice 143 = .ok (.imul, 1) := by decide +kernel
theorem dX7_twice_144 : decode cX7_twice 144 = .ok (.iadd, 1) := by decide +kernel
theorem dX7_twice_145 : decode cX7_twice 145 = .ok (.iload 4, 2) := by decide +kernel
theorem dX7_twice_147 : decode cX7_twice 147 = .ok (.iadd, 1) := by decide +kernel
theorem dX7_twice_148 : decode cX7_twice 148 = .ok (.aload_n 0, 1) := by decide +kernel
theorem dX7_twice_149 : decode cX7_twice 149 = .ok (.getfield 8, 3) := by decide +kernel
theorem dX7_twice_152 : decode cX7_twice 152 = .ok (.ldc 71, 2) := by decide +kernel
theorem dX7_twice_154 : decode cX7_twice 154 = .ok (.iconst 4, 1) := by decide +kernel
theorem dX7_twice_155 : decode cX7_twice 155 = .ok (.aload_n 0, 1) := by decide +kernel
theorem dX7_twice_156 : decode cX7_twice 156 = .ok (.iload_n 1, 1) := by decide +kernel
theorem dX7_twice_157 : decode cX7_twice 157 = .ok (.iconst 4, 1) := by decide +kernel
theorem dX7_twice_158 : decode cX7_twice 158 = .ok (.invokevirtual 83, 3) := by decide +kernel
theorem dX7_twice_161 : decode cX7_twice 161 = .ok (.imul, 1) := by decide +kernel
theorem dX7_twice_162 : decode cX7_twice 162 = .ok (.iadd, 1) := by decide +kernel
theorem dX7_twice_163 : decode cX7_twice 163 = .ok (.iload 4, 2) := by decide +kernel
theorem dX7_twice_165 : decode cX7_twice 165 = .ok (.iadd, 1) := by decide +kernel
theorem dX7_twice_166 : decode cX7_twice 166 = .ok (.iaload, 1) := by decide +kernel
theorem dX7_twice_167 : decode cX7_twice 167 = .ok (.iastore, 1) := by decide +kernel
theorem dX7_twice_168 : decode cX7_twice 168 = .ok (.iinc 4 1, 3) := by decide +kernel
theorem dX7_twice_171 : decode cX7_twice 171 = .ok (.goto (-55), 3) := by decide +kernel
theorem dX7_twice_174 : decode cX7_twice 174 = .ok (.aload_n 0, 1) := by decide +kernel
theorem dX7_twice_175 : decode cX7_twice 175 = .ok (.getfield 8, 3) := by decide +kernel
theorem dX7_twice_178 : decode cX7_twice 178 = .ok (.ldc 52, 2) := by decide +kernel
theorem dX7_twice_180 : decode cX7_twice 180 = .ok (.dup2, 1) := by decide +kernel
theorem dX7_twice_181 : decode cX7_twice 181 = .ok (.iaload, 1) := by decide +kernel
theorem dX7_twice_182 : decode cX7_twice 182 = .ok (.aload_n 0, 1) := by decide +kernel
theorem dX7_twice_183 : decode cX7_twice 183 = .ok (.iload_n 1, 1) := by decide +kernel
theorem dX7_twice_184 : decode cX7_twice 184 = .ok (.iconst 5, 1) := by decide +kernel
theorem dX7_twice_185 : decode cX7_twice 185 = .ok (.invokevirtual 83, 3) := by decide +kernel
theorem dX7_twice_188 : decode cX7_twice 188 = .ok (.iadd, 1) := by decide +kernel
theorem dX7_twice_189 : decode cX7_twice 189 = .ok (.iastore, 1) := by decide +kernel
theorem dX7_twice_190 : decode cX7_twice 190 = .ok (.aload_n 0, 1) := by decide +kernel
theorem dX7_twice_191 : decode cX7_twice 191 = .ok (.iload_n 3, 1) := by decide +kernel
theorem dX7_twice_192 : decode cX7_twice 192 = .ok (.invokevirtual 138, 3) := by decide +kernel
theorem dX7_twice_195 : decode cX7_twice 195 = .ok (.ireturn, 1) := by decide +kernel
theorem dX7_links_0 : decode cX7_links 0 = .ok (.iload_n 1, 1) := by decide +kernel
theorem dX7_links_1 : decode cX7_links 1 = .ok (.invokestatic 121, 3) := by decide +kernel
theorem dX7_links_4 : decode cX7_links 4 = .ok (.ifCond .eq 10, 3) := by decide +kernel
theorem dX7_links_7 : decode cX7_links 7 = .ok (.iload_n 2, 1) := by decide +kernel
theorem dX7_links_8 : decode cX7_links 8 = .ok (.invokestatic 121, 3) := by decide +kernel
theorem dX7_links_11 : decode cX7_links 11 = .ok (.ifCond .ne 10, 3) := by decide +kernel
theorem dX7_links_14 : decode cX7_links 14 = .ok (.aload_n 0, 1) := by decide +kernel
theorem dX7_links_15 : decode cX7_links 15 = .ok (.bipush (-3), 2) := by decide +kernel
theorem dX7_links_17 : decode cX7_links 17 = .ok (.invokevirtual 132, 3) := by decide +kernel
theorem dX7_links_20 : decode cX7_links 20 = .ok (.ireturn, 1) := by decide +kernel
theorem dX7_links_21 : decode cX7_links 21 = .ok (.iload_n 1, 1) := by decide +kernel
theorem dX7_links_22 : decode cX7_links 22 = .ok (.iload_n 2, 1) := by decide +kernel
theorem dX7_links_23 : decode cX7_links 23 = .ok (.if_icmp .ne 10, 3) := by decide +kernel
theorem dX7_links_26 : decode cX7_links 26 = .ok (.aload_n 0, 1) := by decide +kernel
theorem dX7_links_27 : decode cX7_links 27 = .ok (.bipush (-9), 2) := by decide +kernel
theorem dX7_links_29 : decode cX7_links 29 = .ok (.invokevirtual 132, 3) := by decide +kernel
theorem dX7_links_32 : decode cX7_links 32 = .ok (.ireturn, 1) := by decide +kernel
theorem dX7_links_33 : decode cX7_links 33 = .ok (.aload_n 0, 1) := by decide +kernel
theorem dX7_links_34 : decode cX7_links 34 = .ok (.invokevirtual 128, 3) := by decide +kernel
theorem dX7_links_37 : decode cX7_links 37 = .ok (.ifCond .eq 10, 3) := by decide +kernel
theorem dX7_links_40 : decode cX7_links 40 = .ok (.aload_n 0, 1) := by decide +kernel
theorem dX7_links_41 : decode cX7_links 41 = .ok (.bipush (-10), 2) := by decide +kernel
theorem dX7_links_43 : decode cX7_links 43 = .ok (.invokevirtual 132, 3) := by decide +kernel
theorem dX7_links_46 : decode cX7_links 46 = .ok (.ireturn, 1) := by decide +kernel
theorem dX7_links_47 : decode cX7_links 47 = .ok (.aload_n 0, 1) := by decide +kernel
theorem dX7_links_48 : decode cX7_links 48 = .ok (.getfield 8, 3) := by decide +kernel
theorem dX7_links_51 : decode cX7_links 51 = .ok (.sipush 25024, 3) := by decide +kernel
theorem dX7_links_54 : decode cX7_links 54 = .ok (.bipush 64, 2) := by decide +kernel
theorem dX7_links_56 : decode cX7_links 56 = .ok (.iload_n 1, 1) := by decide +kernel
theorem dX7_links_57 : decode cX7_links 57 = .ok (.imul, 1) := by decide +kernel
theorem dX7_links_58 : decode cX7_links 58 = .ok (.iadd, 1) := by decide +kernel
theorem dX7_links_59 : decode cX7_links 59 = .ok (.iload_n 2, 1) := by decide +kernel
theorem dX7_links_60 : decode cX7_links 60 = .ok (.iadd, 1) := by decide +kernel
theorem dX7_links_61 : decode cX7_links 61 = .ok (.iaload, 1) := by decide +kernel
theorem dX7_links_62 : decode cX7_links 62 = .ok (.istore 4, 2) := by decide +kernel
theorem dX7_links_64 : decode cX7_links 64 = .ok (.aload_n 0, 1) := by decide +kernel
theorem dX7_links_65 : decode cX7_links 65 = .ok (.getfield 8, 3) := by decide +kernel
theorem dX7_links_68 : decode cX7_links 68 = .ok (.sipush 25024, 3) := by decide +kernel
theorem dX7_links_71 : decode cX7_links 71 = .ok (.bipush 64, 2) := by decide +kernel
theorem dX7_links_73 : decode cX7_links 73 = .ok (.iload_n 1, 1) := by decide +kernel
theorem dX7_links_74 : decode cX7_links 74 = .ok (.imul, 1) := by decide +kernel
theorem dX7_links_75 : decode cX7_links 75 = .ok (.iadd, 1) := by decide +kernel
theorem dX7_links_76 : decode cX7_links 76 = .ok (.iload_n 2, 1) := by decide +kernel
theorem dX7_links_77 : decode cX7_links 77 = .ok (.iadd, 1) := by decide +kernel
theorem dX7_links_78 : decode cX7_links 78 = .ok (.iload_n 3, 1) := by decide +kernel
theorem dX7_links_79 : decode cX7_links 79 = .ok (.iastore, 1) := by decide +kernel
theorem dX7_links_80 : decode cX7_links 80 = .ok (.aload_n 0, 1) := by decide +kernel
theorem dX7_links_81 : decode cX7_links 81 = .ok (.getfield 8, 3) := by decide +kernel
theorem dX7_links_84 : decode cX7_links 84 = .ok (.sipush 25024, 3) := by decide +kernel
theorem dX7_links_87 : decode cX7_links 87 = .ok (.bipush 64, 2) := by decide +kernel
theorem dX7_links_89 : decode cX7_links 89 = .ok (.iload_n 2, 1) := by decide +kernel
theorem dX7_links_90 : decode cX7_links 90 = .ok (.imul, 1) := by decide +kernel
theorem dX7_links_91 : decode cX7_links 91 = .ok (.iadd, 1) := by decide +kernel
theorem dX7_links_92 : decode cX7_links 92 = .ok (.iload_n 1, 1) := by decide +kernel
theorem dX7_links_93 : decode cX7_links 93 = .ok (.iadd, 1) := by decide +kernel
theorem dX7_links_94 : decode cX7_links 94 = .ok (.iload_n 3, 1) := by decide +kernel
theorem dX7_links_95 : decode cX7_links 95 = .ok (.iastore, 1) := by decide +kernel
theorem dX7_links_96 : decode cX7_links 96 = .ok (.aload_n 0, 1) := by decide +kernel
theorem dX7_links_97 : decode cX7_links 97 = .ok (.iload 4, 2) := by decide +kernel
theorem dX7_links_99 : decode cX7_links 99 = .ok (.iload_n 3, 1) := by decide +kernel
theorem dX7_links_100 : decode cX7_links 100 = .ok (.if_icmp .ne 7, 3) := by decide +kernel
theorem dX7_links_103 : decode cX7_links 103 = .ok (.iconst 0, 1) := by decide +kernel
theorem dX7_links_104 : decode cX7_links 104 = .ok (.goto 4, 3) := by decide +kernel
theorem dX7_links_107 : decode cX7_links 107 = .ok (.iconst 1, 1) := by decide +kernel
theorem dX7_links_108 : decode cX7_links 108 = .ok (.invokevirtual 138, 3) := by decide +kernel
theorem dX7_links_111 : decode cX7_links 111 = .ok (.ireturn, 1) := by decide +kernel
theorem dX7_cut_0 : decode cX7_cut 0 = .ok (.aload_n 0, 1) := by decide +kernel
theorem dX7_cut_1 : decode cX7_cut 1 = .ok (.iload_n 1, 1) := by decide +kernel
theorem dX7_cut_2 : decode cX7_cut 2 = .ok (.iload_n 2, 1) := by decide +kernel
theorem dX7_cut_3 : decode cX7_cut 3 = .ok (.iconst 1, 1) := by decide +kernel
theorem dX7_cut_4 : decode cX7_cut 4 = .ok (.invokevirtual 159, 3) := by decide +kernel
theorem dX7_cut_7 : decode cX7_cut 7 = .ok (.ireturn, 1) := by decide +kernel
theorem dX7_heal_0 : decode cX7_heal 0 = .ok (.aload_n 0, 1) := by decide +kernel
theorem dX7_heal_1 : decode cX7_heal 1 = .ok (.iload_n 1, 1) := by decide +kernel
theorem dX7_heal_2 : decode cX7_heal 2 = .ok (.iload_n 2, 1) := by decide +kernel
theorem dX7_heal_3 : decode cX7_heal 3 = .ok (.iconst 0, 1) := by decide +kernel
theorem dX7_heal_4 : decode cX7_heal 4 = .ok (.invokevirtual 159, 3) := by decide +kernel
theorem dX7_heal_7 : decode cX7_heal 7 = .ok (.ireturn, 1) := by decide +kernel
theorem dX7_letters_0 : decode cX7_letters 0 = .ok (.iload_n 1, 1) := by decide +kernel
theorem dX7_letters_1 : decode cX7_letters 1 = .ok (.i2l, 1) := by decide +kernel
theorem dX7_letters_2 : decode cX7_letters 2 = .ok (.lconst 0, 1) := by decide +kernel
theorem dX7_letters_3 : decode cX7_letters 3 = .ok (.ldc2_w 163, 3) := by decide +kernel
theorem dX7_letters_6 : decode cX7_letters 6 = .ok (.invokestatic 165, 3) := by decide +kernel
theorem dX7_letters_9 : decode cX7_letters 9 = .ok (.ifCond .ne 10, 3) := by decide +kernel
theorem dX7_letters_12 : decode cX7_letters 12 = .ok (.aload_n 0, 1) := by decide +kernel
theorem dX7_letters_13 : decode cX7_letters 13 = .ok (.bipush (-9), 2) := by decide +kernel
theorem dX7_letters_15 : decode cX7_letters 15 = .ok (.invokevirtual 132, 3) := by decide +kernel
theorem dX7_letters_18 : decode cX7_letters 18 = .ok (.ireturn, 1) := by decide +kernel
theorem dX7_letters_19 : decode cX7_letters 19 = .ok (.iload_n 1, 1) := by decide +kernel
theorem dX7_letters_20 : decode cX7_letters 20 = .ok (.ifCond .ne 13, 3) := by decide +kernel
theorem dX7_letters_23 : decode cX7_letters 23 = .ok (.aload_n 0, 1) := by decide +kernel
theorem dX7_letters_24 : decode cX7_letters 24 = .ok (.getfield 8, 3) := by decide +kernel
theorem dX7_letters_27 : decode cX7_letters 27 = .ok (.ldc 51, 2) := by decide +kernel
theorem dX7_letters_29 : decode cX7_letters 29 = .ok (.iaload, 1) := by decide +kernel
theorem dX7_letters_30 : decode cX7_letters 30 = .ok (.goto 25, 3) := by decide +kernel
theorem dX7_letters_33 : decode cX7_letters 33 = .ok (.iload_n 1, 1) := by decide +kernel
theorem dX7_letters_34 : decode cX7_letters 34 = .ok (.iconst 4, 1) := by decide +kernel
theorem dX7_letters_35 : decode cX7_letters 35 = .ok (.if_icmp .ne 13, 3) := by decide +kernel
theorem dX7_letters_38 : decode cX7_letters 38 = .ok (.aload_n 0, 1) := by decide +kernel
theorem dX7_letters_39 : decode cX7_letters 39 = .ok (.getfield 8, 3) := by decide +kernel
theorem dX7_letters_42 : decode cX7_letters 42 = .ok (.ldc 52, 2) := by decide +kernel
theorem dX7_letters_44 : decode cX7_letters 44 = .ok (.iaload, 1) := by decide +kernel
theorem dX7_letters_45 : decode cX7_letters 45 = .ok (.goto 10, 3) := by decide +kernel
theorem dX7_letters_48 : decode cX7_letters 48 = .ok (.aload_n 0, 1) := by decide +kernel
theorem dX7_letters_49 : decode cX7_letters 49 = .ok (.iload_n 1, 1) := by decide +kernel
theorem dX7_letters_50 : decode cX7_letters 50 = .ok (.iconst 1, 1) := by decide +kernel
theorem dX7_letters_51 : decode cX7_letters 51 = .ok (.isub, 1) := by decide +kernel
theorem dX7_letters_52 : decode cX7_letters 52 = .ok (.invokevirtual 156, 3) := by decide +kernel
theorem dX7_letters_55 : decode cX7_letters 55 = .ok (.ireturn, 1) := by decide +kernel
theorem dX7_underWay_0 : decode cX7_underWay 0 = .ok (.iload_n 1, 1) := by decide +kernel
theorem dX7_underWay_1 : decode cX7_underWay 1 = .ok (.ifCond .ge 10, 3) := by decide +kernel
theorem dX7_underWay_4 : decode cX7_underWay 4 = .ok (.aload_n 0, 1) := by decide +kernel
theorem dX7_underWay_5 : decode cX7_underWay 5 = .ok (.bipush (-3), 2) := by decide +kernel
theorem dX7_underWay_7 : decode cX7_underWay 7 = .ok (.invokevirtual 132, 3) := by decide +kernel
theorem dX7_underWay_10 : decode cX7_underWay 10 = .ok (.ireturn, 1) := by decide +kernel
theorem dX7_underWay_11 : decode cX7_underWay 11 = .ok (.iload_n 1, 1) := by decide +kernel
theorem dX7_underWay_12 : decode cX7_underWay 12 = .ok (.istore_n 2, 1) := by decide +kernel
theorem dX7_underWay_13 : decode cX7_underWay 13 = .ok (.iconst 0, 1) := by decide +kernel
theorem dX7_underWay_14 : decode cX7_underWay 14 = .ok (.istore_n 3, 1) := by decide +kernel
theorem dX7_underWay_15 : decode cX7_underWay 15 = .ok (.iload_n 3, 1) := by decide +kernel
theorem dX7_underWay_16 : decode cX7_underWay 16 = .ok (.aload_n 0, 1) := by decide +kernel
theorem dX7_underWay_17 : decode cX7_underWay 17 = .ok (.getfield 8, 3) := by decide +kernel
theorem dX7_underWay_20 : decode cX7_underWay 20 = .ok (.ldc 51, 2) := by decide +kernel
theorem dX7_underWay_22 : decode cX7_underWay 22 = .ok (.iaload, 1) := by decide +kernel
theorem dX7_underWay_23 : decode cX7_underWay 23 = .ok (.if_icmp .ge 31, 3) := by decide +kernel
theorem dX7_underWay_26 : decode cX7_underWay 26 = .ok (.aload_n 0, 1) := by decide +kernel
theorem dX7_underWay_27 : decode cX7_underWay 27 = .ok (.iload_n 3, 1) := by decide +kernel
theorem dX7_underWay_28 : decode cX7_underWay 28 = .ok (.bipush 6, 2) := by decide +kernel
theorem dX7_underWay_30 : decode cX7_underWay 30 = .ok (.invokevirtual 83, 3) := by decide +kernel
theorem dX7_underWay_33 : decode cX7_underWay 33 = .ok (.ifCond .eq 6, 3) := by decide +kernel
theorem dX7_underWay_36 : decode cX7_underWay 36 = .ok (.goto 12, 3) := by decide +kernel
theorem dX7_underWay_39 : decode cX7_underWay 39 = .ok (.iload_n 2, 1) := by decide +kernel
theorem dX7_underWay_40 : decode cX7_underWay 40 = .ok (.ifCond .ne 5, 3) := by decide +kernel
theorem dX7_underWay_43 : decode cX7_underWay 43 = .ok (.iload_n 3, 1) := by decide +kernel
theorem dX7_underWay_44 : decode cX7_underWay 44 = .ok (.ireturn, 1) := by decide +kernel
theorem dX7_underWay_45 : decode cX7_underWay 45 = .ok (.iinc 2 (-1), 3) := by decide +kernel
theorem dX7_underWay_48 : decode cX7_underWay 48 = .ok (.iinc 3 1, 3) := by decide +kernel
theorem dX7_underWay_51 : decode cX7_underWay 51 = .ok (.goto (-36), 3) := by decide +kernel
theorem dX7_underWay_54 : decode cX7_underWay 54 = .ok (.iconst (-1), 1) := by decide +kernel
theorem dX7_underWay_55 : decode cX7_underWay 55 = .ok (.ireturn, 1) := by decide +kernel
theorem dX7_letter_0 : decode cX7_letter 0 = .ok (.aload_n 0, 1) := by decide +kernel
theorem dX7_letter_1 : decode cX7_letter 1 = .ok (.iload_n 1, 1) := by decide +kernel
theorem dX7_letter_2 : decode cX7_letter 2 = .ok (.invokevirtual 147, 3) := by decide +kernel
theorem dX7_letter_5 : decode cX7_letter 5 = .ok (.ifCond .ne 10, 3) := by decide +kernel
theorem dX7_letter_8 : decode cX7_letter 8 = .ok (.aload_n 0, 1) := by decide +kernel
theorem dX7_letter_9 : decode cX7_letter 9 = .ok (.bipush (-3), 2) := by decide +kernel
theorem dX7_letter_11 : decode cX7_letter 11 = .ok (.invokevirtual 132, 3) := by decide +kernel
theorem dX7_letter_14 : decode cX7_letter 14 = .ok (.ireturn, 1) := by decide +kernel
theorem dX7_letter_15 : decode cX7_letter 15 = .ok (.iload_n 2, 1) := by decide +kernel
theorem dX7_letter_16 : decode cX7_letter 16 = .ok (.i2l, 1) := by decide +kernel
theorem dX7_letter_17 : decode cX7_letter 17 = .ok (.lconst 0, 1) := by decide +kernel
theorem dX7_letter_18 : decode cX7_letter 18 = .ok (.ldc2_w 169, 3) := by decide +kernel
theorem dX7_letter_21 : decode cX7_letter 21 = .ok (.invokestatic 165, 3) := by decide +kernel
theorem dX7_letter_24 : decode cX7_letter 24 = .ok (.ifCond .ne 10, 3) := by decide +kernel
theorem dX7_letter_27 : decode cX7_letter 27 = .ok (.aload_n 0, 1) := by decide +kernel
theorem dX7_letter_28 : decode cX7_letter 28 = .ok (.bipush (-9), 2) := by decide +kernel
theorem dX7_letter_30 : decode cX7_letter 30 = .ok (.invokevirtual 132, 3) := by decide +kernel
theorem dX7_letter_33 : decode cX7_letter 33 = .ok (.ireturn, 1) := by decide +kernel
theorem dX7_letter_34 : decode cX7_letter 34 = .ok (.aload_n 0, 1) := by decide +kernel
theorem dX7_letter_35 : decode cX7_letter 35 = .ok (.iload_n 1, 1) := by decide +kernel
theorem dX7_letter_36 : decode cX7_letter 36 = .ok (.iload_n 2, 1) := by decide +kernel
theorem dX7_letter_37 : decode cX7_letter 37 = .ok (.iconst 4, 1) := by decide +kernel
theorem dX7_letter_38 : decode cX7_letter 38 = .ok (.if_icmp .ge 7, 3) := by decide +kernel
theorem dX7_letter_41 : decode cX7_letter 41 = .ok (.iload_n 2, 1) := by decide +kernel
theorem dX7_letter_42 : decode cX7_letter 42 = .ok (.goto 6, 3) := by decide +kernel
theorem dX7_letter_45 : decode cX7_letter 45 = .ok (.iload_n 2, 1) := by decide +kernel
theorem dX7_letter_46 : decode cX7_letter 46 = .ok (.iconst 1, 1) := by decide +kernel
theorem dX7_letter_47 : decode cX7_letter 47 = .ok (.iadd, 1) := by decide +kernel
theorem dX7_letter_48 : decode cX7_letter 48 = .ok (.invokevirtual 83, 3) := by decide +kernel
theorem dX7_letter_51 : decode cX7_letter 51 = .ok (.ireturn, 1) := by decide +kernel
theorem dX7_carries_0 : decode cX7_carries 0 = .ok (.aload_n 0, 1) := by decide +kernel
theorem dX7_carries_1 : decode cX7_carries 1 = .ok (.iload_n 1, 1) := by decide +kernel
theorem dX7_carries_2 : decode cX7_carries 2 = .ok (.invokevirtual 147, 3) := by decide +kernel
theorem dX7_carries_5 : decode cX7_carries 5 = .ok (.ifCond .eq 21, 3) := by decide +kernel
theorem dX7_carries_8 : decode cX7_carries 8 = .ok (.iload_n 2, 1) := by decide +kernel
theorem dX7_carries_9 : decode cX7_carries 9 = .ok (.i2l, 1) := by decide +kernel
theorem dX7_carries_10 : decode cX7_carries 10 = .ok (.lconst 0, 1) := by decide +kernel
theorem dX7_carries_11 : decode cX7_carries 11 = .ok (.aload_n 0, 1) := by decide +kernel
theorem dX7_carries_12 : decode cX7_carries 12 = .ok (.iload_n 1, 1) := by decide +kernel
theorem dX7_carries_13 : decode cX7_carries 13 = .ok (.iconst 5, 1) := by decide +kernel
theorem dX7_carries_14 : decode cX7_carries 14 = .ok (.invokevirtual 83, 3) := by decide +kernel
theorem dX7_carries_17 : decode cX7_carries 17 = .ok (.iconst 1, 1) := by decide +kernel
theorem dX7_carries_18 : decode cX7_carries 18 = .ok (.isub, 1) := by decide +kernel
theorem dX7_carries_19 : decode cX7_carries 19 = .ok (.i2l, 1) := by decide +kernel
theorem dX7_carries_20 : decode cX7_carries 20 = .ok (.invokestatic 165, 3) := by decide +kernel
theorem dX7_carries_23 : decode cX7_carries 23 = .ok (.ifCond .ne 10, 3) := by decide +kernel
theorem dX7_carries_26 : decode cX7_carries 26 = .ok (.aload_n 0, 1) := by decide +kernel
theorem dX7_carries_27 : decode cX7_carries 27 = .ok (.bipush (-3), 2) := by decide +kernel
theorem dX7_carries_29 : decode cX7_carries 29 = .ok (.invokevirtual 132, 3) := by decide +kernel
theorem dX7_carries_32 : decode cX7_carries 32 = .ok (.ireturn, 1) := by decide +kernel
theorem dX7_carries_33 : decode cX7_carries 33 = .ok (.iload_n 3, 1) := by decide +kernel
theorem dX7_carries_34 : decode cX7_carries 34 = .ok (.i2l, 1) := by decide +kernel
theorem dX7_carries_35 : decode cX7_carries 35 = .ok (.lconst 0, 1) := by decide +kernel
theorem dX7_carries_36 : decode cX7_carries 36 = .ok (.ldc2_w 171, 3) := by decide +kernel
theorem dX7_carries_39 : decode cX7_carries 39 = .ok (.invokestatic 165, 3) := by decide +kernel
theorem dX7_carries_42 : decode cX7_carries 42 = .ok (.ifCond .ne 10, 3) := by decide +kernel
theorem dX7_carries_45 : decode cX7_carries 45 = .ok (.aload_n 0, 1) := by decide +kernel
theorem dX7_carries_46 : decode cX7_carries 46 = .ok (.bipush (-9), 2) := by decide +kernel
theorem dX7_carries_48 : decode cX7_carries 48 = .ok (.invokevirtual 132, 3) := by decide +kernel
theorem dX7_carries_51 : decode cX7_carries 51 = .ok (.ireturn, 1) := by decide +kernel
theorem dX7_carries_52 : decode cX7_carries 52 = .ok (.aload_n 0, 1) := by decide +kernel
theorem dX7_carries_53 : decode cX7_carries 53 = .ok (.getfield 8, 3) := by decide +kernel
theorem dX7_carries_56 : decode cX7_carries 56 = .ok (.ldc 71, 2) := by decide +kernel
theorem dX7_carries_58 : decode cX7_carries 58 = .ok (.iconst 4, 1) := by decide +kernel
theorem dX7_carries_59 : decode cX7_carries 59 = .ok (.aload_n 0, 1) := by decide +kernel
theorem dX7_carries_60 : decode cX7_carries 60 = .ok (.iload_n 1, 1) := by decide +kernel
theorem dX7_carries_61 : decode cX7_carries 61 = .ok (.iconst 4, 1) := by decide +kernel
theorem dX7_carries_62 : decode cX7_carries 62 = .ok (.invokevirtual 83, 3) := by decide +kernel
theorem dX7_carries_65 : decode cX7_carries 65 = .ok (.iload_n 2, 1) := by decide +kernel
theorem dX7_carries_66 : decode cX7_carries 66 = .ok (.iadd, 1) := by decide +kernel
theorem dX7_carries_67 : decode cX7_carries 67 = .ok (.imul, 1) := by decide +kernel
theorem dX7_carries_68 : decode cX7_carries 68 = .ok (.iadd, 1) := by decide +kernel
theorem dX7_carries_69 : decode cX7_carries 69 = .ok (.iload_n 3, 1) := by decide +kernel
theorem dX7_carries_70 : decode cX7_carries 70 = .ok (.iadd, 1) := by decide +kernel
theorem dX7_carries_71 : decode cX7_carries 71 = .ok (.iaload, 1) := by decide +kernel
theorem dX7_carries_72 : decode cX7_carries 72 = .ok (.ireturn, 1) := by decide +kernel
theorem dX7_state_0 : decode cX7_state 0 = .ok (.iload_n 1, 1) := by decide +kernel
theorem dX7_state_1 : decode cX7_state 1 = .ok (.invokestatic 121, 3) := by decide +kernel
theorem dX7_state_4 : decode cX7_state 4 = .ok (.ifCond .ne 10, 3) := by decide +kernel
theorem dX7_state_7 : decode cX7_state 7 = .ok (.aload_n 0, 1) := by decide +kernel
theorem dX7_state_8 : decode cX7_state 8 = .ok (.bipush (-3), 2) := by decide +kernel
theorem dX7_state_10 : decode cX7_state 10 = .ok (.invokevirtual 132, 3) := by decide +kernel
theorem dX7_state_13 : decode cX7_state 13 = .ok (.ireturn, 1) := by decide +kernel
theorem dX7_state_14 : decode cX7_state 14 = .ok (.aload_n 0, 1) := by decide +kernel
theorem dX7_state_15 : decode cX7_state 15 = .ok (.iload_n 1, 1) := by decide +kernel
theorem dX7_state_16 : decode cX7_state 16 = .ok (.invokevirtual 125, 3) := by decide +kernel
theorem dX7_state_19 : decode cX7_state 19 = .ok (.ifCond .ne 10, 3) := by decide +kernel
theorem dX7_state_22 : decode cX7_state 22 = .ok (.aload_n 0, 1) := by decide +kernel
theorem dX7_state_23 : decode cX7_state 23 = .ok (.bipush (-2), 2) := by decide +kernel
theorem dX7_state_25 : decode cX7_state 25 = .ok (.invokevirtual 132, 3) := by decide +kernel
theorem dX7_state_28 : decode cX7_state 28 = .ok (.ireturn, 1) := by decide +kernel
theorem dX7_state_29 : decode cX7_state 29 = .ok (.iload_n 2, 1) := by decide +kernel
theorem dX7_state_30 : decode cX7_state 30 = .ok (.i2l, 1) := by decide +kernel
theorem dX7_state_31 : decode cX7_state 31 = .ok (.lconst 0, 1) := by decide +kernel
theorem dX7_state_32 : decode cX7_state 32 = .ok (.ldc2_w 173, 3) := by decide +kernel
theorem dX7_state_35 : decode cX7_state 35 = .ok (.invokestatic 165, 3) := by decide +kernel
theorem dX7_state_38 : decode cX7_state 38 = .ok (.ifCond .ne 10, 3) := by decide +kernel
theorem dX7_state_41 : decode cX7_state 41 = .ok (.aload_n 0, 1) := by decide +kernel
theorem dX7_state_42 : decode cX7_state 42 = .ok (.bipush (-9), 2) := by decide +kernel
theorem dX7_state_44 : decode cX7_state 44 = .ok (.invokevirtual 132, 3) := by decide +kernel
theorem dX7_state_47 : decode cX7_state 47 = .ok (.ireturn, 1) := by decide +kernel
theorem dX7_state_48 : decode cX7_state 48 = .ok (.iload_n 2, 1) := by decide +kernel
theorem dX7_state_49 : decode cX7_state 49 = .ok (.ifCond .ne 12, 3) := by decide +kernel
theorem dX7_state_52 : decode cX7_state 52 = .ok (.aload_n 0, 1) := by decide +kernel
theorem dX7_state_53 : decode cX7_state 53 = .ok (.iload_n 1, 1) := by decide +kernel
theorem dX7_state_54 : decode cX7_state 54 = .ok (.iconst 0, 1) := by decide +kernel
theorem dX7_state_55 : decode cX7_state 55 = .ok (.invokevirtual 48, 3) := by decide +kernel
theorem dX7_state_58 : decode cX7_state 58 = .ok (.iconst 1, 1) := by decide +kernel
theorem dX7_state_59 : decode cX7_state 59 = .ok (.isub, 1) := by decide +kernel
theorem dX7_state_60 : decode cX7_state 60 = .ok (.ireturn, 1) := by decide +kernel
theorem dX7_state_61 : decode cX7_state 61 = .ok (.iload_n 2, 1) := by decide +kernel
theorem dX7_state_62 : decode cX7_state 62 = .ok (.iconst 3, 1) := by decide +kernel
theorem dX7_state_63 : decode cX7_state 63 = .ok (.if_icmp .ge 10, 3) := by decide +kernel
theorem dX7_state_66 : decode cX7_state 66 = .ok (.aload_n 0, 1) := by decide +kernel
theorem dX7_state_67 : decode cX7_state 67 = .ok (.iload_n 1, 1) := by decide +kernel
theorem dX7_state_68 : decode cX7_state 68 = .ok (.iload_n 2, 1) := by decide +kernel
theorem dX7_state_69 : decode cX7_state 69 = .ok (.invokevirtual 48, 3) := by decide +kernel
theorem dX7_state_72 : decode cX7_state 72 = .ok (.ireturn, 1) := by decide +kernel
theorem dX7_state_73 : decode cX7_state 73 = .ok (.iload_n 2, 1) := by decide +kernel
theorem dX7_state_74 : decode cX7_state 74 = .ok (.bipush 7, 2) := by decide +kernel
theorem dX7_state_76 : decode cX7_state 76 = .ok (.if_icmp .le 12, 3) := by decide +kernel
theorem dX7_state_79 : decode cX7_state 79 = .ok (.aload_n 0, 1) := by decide +kernel
theorem dX7_state_80 : decode cX7_state 80 = .ok (.iload_n 1, 1) := by decide +kernel
theorem dX7_state_81 : decode cX7_state 81 = .ok (.iload_n 2, 1) := by decide +kernel
theorem dX7_state_82 : decode cX7_state 82 = .ok (.iconst 5, 1) := by decide +kernel
theorem dX7_state_83 : decode cX7_state 83 = .ok (.isub, 1) := by decide +kernel
theorem dX7_state_84 : decode cX7_state 84 = .ok (.invokevirtual 48, 3) := by decide +kernel
theorem dX7_state_87 : decode cX7_state 87 = .ok (.ireturn, 1) := by decide +kernel
theorem dX7_state_88 : decode cX7_state 88 = .ok (.iconst 0, 1) := by decide +kernel
theorem dX7_state_89 : decode cX7_state 89 = .ok (.istore_n 3, 1) := by decide +kernel
theorem dX7_state_90 : decode cX7_state 90 = .ok (.iconst 0, 1) := by decide +kernel
theorem dX7_state_91 : decode cX7_state 91 = .ok (.istore 4, 2) := by decide +kernel
theorem dX7_state_93 : decode cX7_state 93 = .ok (.iload 4, 2) := by decide +kernel
theorem dX7_state_95 : decode cX7_state 95 = .ok (.bipush 64, 2) := by decide +kernel
theorem dX7_state_97 : decode cX7_state 97 = .ok (.if_icmp .ge 48, 3) := by decide +kernel
theorem dX7_state_100 : decode cX7_state 100 = .ok (.iload_n 3, 1) := by decide +kernel
theorem dX7_state_101 : decode cX7_state 101 = .ok (.iload_n 2, 1) := by decide +kernel
theorem dX7_state_102 : decode cX7_state 102 = .ok (.iconst 3, 1) := by decide +kernel
theorem dX7_state_103 : decode cX7_state 103 = .ok (.if_icmp .ne 16, 3) := by decide +kernel
theorem dX7_state_106 : decode cX7_state 106 = .ok (.aload_n 0, 1) := by decide +kernel
theorem dX7_state_107 : decode cX7_state 107 = .ok (.iload_n 1, 1) := by decide +kernel
theorem dX7_state_108 : decode cX7_state 108 = .ok (.iload 4, 2) := by decide +kernel
theorem dX7_state_110 : decode cX7_state 110 = .ok (.invokevirtual 72, 3) := by decide +kernel
theorem dX7_state_113 : decode cX7_state 113 = .ok (.ifCond .eq 23, 3) := by decide +kernel
theorem dX7_state_116 : decode cX7_state 116 = .ok (.goto 16, 3) := by decide +kernel
theorem dX7_state_119 : decode cX7_state 119 = .ok (.aload_n 0, 1) := by decide +kernel
theorem dX7_state_120 : decode cX7_state 120 = .ok (.iload_n 1, 1) := by decide +kernel
theorem dX7_state_121 : decode cX7_state 121 = .ok (.iload 4, 2) := by decide +kernel
theorem dX7_state_123 : decode cX7_state 123 = .ok (.invokevirtual 72, 3) := by decide +kernel
theorem dX7_state_126 : decode cX7_state 126 = .ok (.iload_n 2, 1) := by decide +kernel
theorem dX7_state_127 : decode cX7_state 127 = .ok (.iconst 3, 1) := by decide +kernel
theorem dX7_state_128 : decode cX7_state 128 = .ok (.isub, 1) := by decide +kernel
theorem dX7_state_129 : decode cX7_state 129 = .ok (.if_icmp .ne 7, 3) := by decide +kernel
theorem dX7_state_132 : decode cX7_state 132 = .ok (.iconst 1, 1) := by decide +kernel
theorem dX7_state_133 : decode cX7_state 133 = .ok (.goto 4, 3) := by decide +kernel
theorem dX7_state_136 : decode cX7_state 136 = .ok (.iconst 0, 1) := by decide +kernel
theorem dX7_state_137 : decode cX7_state 137 = .ok (.iadd, 1) := by decide +kernel
theorem dX7_state_138 : decode cX7_state 138 = .ok (.istore_n 3, 1) := by decide +kernel
theorem dX7_state_139 : decode cX7_state 139 = .ok (.iinc 4 1, 3) := by decide +kernel
theorem dX7_state_142 : decode cX7_state 142 = .ok (.goto (-49), 3) := by decide +kernel
theorem dX7_state_145 : decode cX7_state 145 = .ok (.iload_n 3, 1) := by decide +kernel
theorem dX7_state_146 : decode cX7_state 146 = .ok (.ireturn, 1) := by decide +kernel
theorem dX7_whyNews_0 : decode cX7_whyNews 0 = .ok (.iload_n 1, 1) := by decide +kernel
theorem dX7_whyNews_1 : decode cX7_whyNews 1 = .ok (.invokestatic 121, 3) := by decide +kernel
theorem dX7_whyNews_4 : decode cX7_whyNews 4 = .ok (.ifCond .eq 10, 3) := by decide +kernel
theorem dX7_whyNews_7 : decode cX7_whyNews 7 = .ok (.iload_n 2, 1) := by decide +kernel
theorem dX7_whyNews_8 : decode cX7_whyNews 8 = .ok (.invokestatic 121, 3) := by decide +kernel
theorem dX7_whyNews_11 : decode cX7_whyNews 11 = .ok (.ifCond .ne 6, 3) := by decide +kernel
theorem dX7_whyNews_14 : decode cX7_whyNews 14 = .ok (.bipush (-3), 2) := by decide +kernel
theorem dX7_whyNews_16 : decode cX7_whyNews 16 = .ok (.ireturn, 1) := by decide +kernel
theorem dX7_whyNews_17 : decode cX7_whyNews 17 = .ok (.aload_n 0, 1) := by decide +kernel
theorem dX7_whyNews_18 : decode cX7_whyNews 18 = .ok (.iload_n 1, 1) := by decide +kernel
theorem dX7_whyNews_19 : decode cX7_whyNews 19 = .ok (.invokevirtual 125, 3) := by decide +kernel
theorem dX7_whyNews_22 : decode cX7_whyNews 22 = .ok (.ifCond .eq 12, 3) := by decide +kernel
theorem dX7_whyNews_25 : decode cX7_whyNews 25 = .ok (.aload_n 0, 1) := by decide +kernel
theorem dX7_whyNews_26 : decode cX7_whyNews 26 = .ok (.iload_n 1, 1) := by decide +kernel
theorem dX7_whyNews_27 : decode cX7_whyNews 27 = .ok (.iload_n 2, 1) := by decide +kernel
theorem dX7_whyNews_28 : decode cX7_whyNews 28 = .ok (.invokevirtual 72, 3) := by decide +kernel
theorem dX7_whyNews_31 : decode cX7_whyNews 31 = .ok (.ifCond .ne 8, 3) := by decide +kernel
theorem dX7_whyNews_34 : decode cX7_whyNews 34 = .ok (.bipush (-2), 2) := by decide +kernel
theorem dX7_whyNews_36 : decode cX7_whyNews 36 = .ok (.goto 4, 3) := by decide +kernel
theorem dX7_whyNews_39 : decode cX7_whyNews 39 = .ok (.iconst 0, 1) := by decide +kernel
theorem dX7_whyNews_40 : decode cX7_whyNews 40 = .ok (.ireturn, 1) := by decide +kernel
theorem dX7_news_0 : decode cX7_news 0 = .ok (.aload_n 0, 1) := by decide +kernel
theorem dX7_news_1 : decode cX7_news 1 = .ok (.iload_n 1, 1) := by decide +kernel
theorem dX7_news_2 : decode cX7_news 2 = .ok (.iload_n 2, 1) := by decide +kernel
theorem dX7_news_3 : decode cX7_news 3 = .ok (.invokevirtual 175, 3) := by decide +kernel
theorem dX7_news_6 : decode cX7_news 6 = .ok (.istore 4, 2) := by decide +kernel
theorem dX7_news_8 : decode cX7_news 8 = .ok (.iload 4, 2) := by decide +kernel
theorem dX7_news_10 : decode cX7_news 10 = .ok (.ifCond .eq 10, 3) := by decide +kernel
theorem dX7_news_13 : decode cX7_news 13 = .ok (.aload_n 0, 1) := by decide +kernel
theorem dX7_news_14 : decode cX7_news 14 = .ok (.iload 4, 2) := by decide +kernel
theorem dX7_news_16 : decode cX7_news 16 = .ok (.invokevirtual 132, 3) := by decide +kernel
theorem dX7_news_19 : decode cX7_news 19 = .ok (.ireturn, 1) := by decide +kernel
theorem dX7_news_20 : decode cX7_news 20 = .ok (.iload_n 3, 1) := by decide +kernel
theorem dX7_news_21 : decode cX7_news 21 = .ok (.i2l, 1) := by decide +kernel
theorem dX7_news_22 : decode cX7_news 22 = .ok (.lconst 0, 1) := by decide +kernel
theorem dX7_news_23 : decode cX7_news 23 = .ok (.ldc2_w 163, 3) := by decide +kernel
theorem dX7_news_26 : decode cX7_news 26 = .ok (.invokestatic 165, 3) := by decide +kernel
theorem dX7_news_29 : decode cX7_news 29 = .ok (.ifCond .eq 18, 3) := by decide +kernel
theorem dX7_news_32 : decode cX7_news 32 = .ok (.aload_n 0, 1) := by decide +kernel
theorem dX7_news_33 : decode cX7_news 33 = .ok (.getfield 8, 3) := by decide +kernel
theorem dX7_news_36 : decode cX7_news 36 = .ok (.iload_n 1, 1) := by decide +kernel
theorem dX7_news_37 : decode cX7_news 37 = .ok (.iload_n 2, 1) := by decide +kernel
theorem dX7_news_38 : decode cX7_news 38 = .ok (.invokestatic 44, 3) := by decide +kernel
theorem dX7_news_41 : decode cX7_news 41 = .ok (.iload_n 3, 1) := by decide +kernel
theorem dX7_news_42 : decode cX7_news 42 = .ok (.iadd, 1) := by decide +kernel
theorem dX7_news_43 : decode cX7_news 43 = .ok (.iaload, 1) := by decide +kernel
theorem dX7_news_44 : decode cX7_news 44 = .ok (.goto 9, 3) := by decide +kernel
theorem dX7_news_47 : decode cX7_news 47 = .ok (.aload_n 0, 1) := by decide +kernel
theorem dX7_news_48 : decode cX7_news 48 = .ok (.bipush (-9), 2) := by decide +kernel
theorem dX7_news_50 : decode cX7_news 50 = .ok (.invokevirtual 132, 3) := by decide +kernel
theorem dX7_news_53 : decode cX7_news 53 = .ok (.ireturn, 1) := by decide +kernel
theorem dX7_as_0 : decode cX7_as 0 = .ok (.aload_n 0, 1) := by decide +kernel
theorem dX7_as_1 : decode cX7_as 1 = .ok (.iload_n 1, 1) := by decide +kernel
theorem dX7_as_2 : decode cX7_as 2 = .ok (.iload_n 2, 1) := by decide +kernel
theorem dX7_as_3 : decode cX7_as 3 = .ok (.invokevirtual 175, 3) := by decide +kernel
theorem dX7_as_6 : decode cX7_as 6 = .ok (.istore 4, 2) := by decide +kernel
theorem dX7_as_8 : decode cX7_as 8 = .ok (.iload 4, 2) := by decide +kernel
theorem dX7_as_10 : decode cX7_as 10 = .ok (.ifCond .eq 10, 3) := by decide +kernel
theorem dX7_as_13 : decode cX7_as 13 = .ok (.aload_n 0, 1) := by decide +kernel
theorem dX7_as_14 : decode cX7_as 14 = .ok (.iload 4, 2) := by decide +kernel
theorem dX7_as_16 : decode cX7_as 16 = .ok (.invokevirtual 132, 3) := by decide +kernel
theorem dX7_as_19 : decode cX7_as 19 = .ok (.ireturn, 1) := by decide +kernel
theorem dX7_as_20 : decode cX7_as 20 = .ok (.iload_n 3, 1) := by decide +kernel
theorem dX7_as_21 : decode cX7_as 21 = .ok (.i2l, 1) := by decide +kernel
theorem dX7_as_22 : decode cX7_as 22 = .ok (.lconst 1, 1) := by decide +kernel
theorem dX7_as_23 : decode cX7_as 23 = .ok (.ldc2_w 163, 3) := by decide +kernel
theorem dX7_as_26 : decode cX7_as 26 = .ok (.invokestatic 165, 3) := by decide +kernel
theorem dX7_as_29 : decode cX7_as 29 = .ok (.ifCond .ne 10, 3) := by decide +kernel
theorem dX7_as_32 : decode cX7_as 32 = .ok (.aload_n 0, 1) := by decide +kernel
theorem dX7_as_33 : decode cX7_as 33 = .ok (.bipush (-9), 2) := by decide +kernel
theorem dX7_as_35 : decode cX7_as 35 = .ok (.invokevirtual 132, 3) := by decide +kernel
theorem dX7_as_38 : decode cX7_as 38 = .ok (.ireturn, 1) := by decide +kernel
theorem dX7_as_39 : decode cX7_as 39 = .ok (.aload_n 0, 1) := by decide +kernel
theorem dX7_as_40 : decode cX7_as 40 = .ok (.iload_n 1, 1) := by decide +kernel
theorem dX7_as_41 : decode cX7_as 41 = .ok (.iload_n 2, 1) := by decide +kernel
theorem dX7_as_42 : decode cX7_as 42 = .ok (.invokevirtual 72, 3) := by decide +kernel
theorem dX7_as_45 : decode cX7_as 45 = .ok (.iload_n 3, 1) := by decide +kernel
theorem dX7_as_46 : decode cX7_as 46 = .ok (.if_icmp .lt 18, 3) := by decide +kernel
theorem dX7_as_49 : decode cX7_as 49 = .ok (.aload_n 0, 1) := by decide +kernel
theorem dX7_as_50 : decode cX7_as 50 = .ok (.getfield 8, 3) := by decide +kernel
theorem dX7_as_53 : decode cX7_as 53 = .ok (.iload_n 1, 1) := by decide +kernel
theorem dX7_as_54 : decode cX7_as 54 = .ok (.iload_n 2, 1) := by decide +kernel
theorem dX7_as_55 : decode cX7_as 55 = .ok (.invokestatic 44, 3) := by decide +kernel
theorem dX7_as_58 : decode cX7_as 58 = .ok (.iconst 1, 1) := by decide +kernel
theorem dX7_as_59 : decode cX7_as 59 = .ok (.iadd, 1) := by decide +kernel
theorem dX7_as_60 : decode cX7_as 60 = .ok (.iaload, 1) := by decide +kernel
theorem dX7_as_61 : decode cX7_as 61 = .ok (.goto 9, 3) := by decide +kernel
theorem dX7_as_64 : decode cX7_as 64 = .ok (.aload_n 0, 1) := by decide +kernel
theorem dX7_as_65 : decode cX7_as 65 = .ok (.bipush (-5), 2) := by decide +kernel
theorem dX7_as_67 : decode cX7_as 67 = .ok (.invokevirtual 132, 3) := by decide +kernel
theorem dX7_as_70 : decode cX7_as 70 = .ok (.ireturn, 1) := by decide +kernel
theorem dX7_round_0 : decode cX7_round 0 = .ok (.iload_n 1, 1) := by decide +kernel
theorem dX7_round_1 : decode cX7_round 1 = .ok (.invokestatic 121, 3) := by decide +kernel
theorem dX7_round_4 : decode cX7_round 4 = .ok (.ifCond .ne 10, 3) := by decide +kernel
theorem dX7_round_7 : decode cX7_round 7 = .ok (.aload_n 0, 1) := by decide +kernel
theorem dX7_round_8 : decode cX7_round 8 = .ok (.bipush (-3), 2) := by decide +kernel
theorem dX7_round_10 : decode cX7_round 10 = .ok (.invokevirtual 132, 3) := by decide +kernel
theorem dX7_round_13 : decode cX7_round 13 = .ok (.ireturn, 1) := by decide +kernel
theorem dX7_round_14 : decode cX7_round 14 = .ok (.aload_n 0, 1) := by decide +kernel
theorem dX7_round_15 : decode cX7_round 15 = .ok (.iload_n 1, 1) := by decide +kernel
theorem dX7_round_16 : decode cX7_round 16 = .ok (.invokevirtual 125, 3) := by decide +kernel
theorem dX7_round_19 : decode cX7_round 19 = .ok (.ifCond .ne 10, 3) := by decide +kernel
theorem dX7_round_22 : decode cX7_round 22 = .ok (.aload_n 0, 1) := by decide +kernel
theorem dX7_round_23 : decode cX7_round 23 = .ok (.bipush (-2), 2) := by decide +kernel
theorem dX7_round_25 : decode cX7_round 25 = .ok (.invokevirtual 132, 3) := by decide +kernel
theorem dX7_round_28 : decode cX7_round 28 = .ok (.ireturn, 1) := by decide +kernel
theorem dX7_round_29 : decode cX7_round 29 = .ok (.iload_n 2, 1) := by decide +kernel
theorem dX7_round_30 : decode cX7_round 30 = .ok (.i2l, 1) := by decide +kernel
theorem dX7_round_31 : decode cX7_round 31 = .ok (.lconst 0, 1) := by decide +kernel
theorem dX7_round_32 : decode cX7_round 32 = .ok (.aload_n 0, 1) := by decide +kernel
theorem dX7_round_33 : decode cX7_round 33 = .ok (.iload_n 1, 1) := by decide +kernel
theorem dX7_round_34 : decode cX7_round 34 = .ok (.iconst 5, 1) := by decide +kernel
theorem dX7_round_35 : decode cX7_round 35 = .ok (.invokevirtual 48, 3) := by decide +kernel
theorem dX7_round_38 : decode cX7_round 38 = .ok (.iconst 1, 1) := by decide +kernel
theorem dX7_round_39 : decode cX7_round 39 = .ok (.isub, 1) := by decide +kernel
theorem dX7_round_40 : decode cX7_round 40 = .ok (.i2l, 1) := by decide +kernel
theorem dX7_round_41 : decode cX7_round 41 = .ok (.invokestatic 165, 3) := by decide +kernel
theorem dX7_round_44 : decode cX7_round 44 = .ok (.ifCond .eq 21, 3) := by decide +kernel
theorem dX7_round_47 : decode cX7_round 47 = .ok (.aload_n 0, 1) := by decide +kernel
theorem dX7_round_48 : decode cX7_round 48 = .ok (.getfield 8, 3) := by decide +kernel
theorem dX7_round_51 : decode cX7_round 51 = .ok (.sipush 20928, 3) := by decide +kernel
theorem dX7_round_54 : decode cX7_round 54 = .ok (.bipush 64, 2) := by decide +kernel
theorem dX7_round_56 : decode cX7_round 56 = .ok (.iload_n 1, 1) := by decide +kernel
theorem dX7_round_57 : decode cX7_round 57 = .ok (.imul, 1) := by decide +kernel
theorem dX7_round_58 : decode cX7_round 58 = .ok (.iadd, 1) := by decide +kernel
theorem dX7_round_59 : decode cX7_round 59 = .ok (.iload_n 2, 1) := by decide +kernel
theorem dX7_round_60 : decode cX7_round 60 = .ok (.iadd, 1) := by decide +kernel
theorem dX7_round_61 : decode cX7_round 61 = .ok (.iaload, 1) := by decide +kernel
theorem dX7_round_62 : decode cX7_round 62 = .ok (.goto 9, 3) := by decide +kernel
theorem dX7_round_65 : decode cX7_round 65 = .ok (.aload_n 0, 1) := by decide +kernel
theorem dX7_round_66 : decode cX7_round 66 = .ok (.bipush (-3), 2) := by decide +kernel
theorem dX7_round_68 : decode cX7_round 68 = .ok (.invokevirtual 132, 3) := by decide +kernel
theorem dX7_round_71 : decode cX7_round 71 = .ok (.ireturn, 1) := by decide +kernel
theorem dX7_next_0 : decode cX7_next 0 = .ok (.iload_n 1, 1) := by decide +kernel
theorem dX7_next_1 : decode cX7_next 1 = .ok (.invokestatic 121, 3) := by decide +kernel
theorem dX7_next_4 : decode cX7_next 4 = .ok (.ifCond .ne 10, 3) := by decide +kernel
theorem dX7_next_7 : decode cX7_next 7 = .ok (.aload_n 0, 1) := by decide +kernel
theorem dX7_next_8 : decode cX7_next 8 = .ok (.bipush (-3), 2) := by decide +kernel
theorem dX7_next_10 : decode cX7_next 10 = .ok (.invokevirtual 132, 3) := by decide +kernel
theorem dX7_next_13 : decode cX7_next 13 = .ok (.ireturn, 1) := by decide +kernel
theorem dX7_next_14 : decode cX7_next 14 = .ok (.aload_n 0, 1) := by decide +kernel
theorem dX7_next_15 : decode cX7_next 15 = .ok (.iload_n 1, 1) := by decide +kernel
theorem dX7_next_16 : decode cX7_next 16 = .ok (.invokevirtual 125, 3) := by decide +kernel
theorem dX7_next_19 : decode cX7_next 19 = .ok (.ifCond .ne 10, 3) := by decide +kernel
theorem dX7_next_22 : decode cX7_next 22 = .ok (.aload_n 0, 1) := by decide +kernel
theorem dX7_next_23 : decode cX7_next 23 = .ok (.bipush (-2), 2) := by decide +kernel
theorem dX7_next_25 : decode cX7_next 25 = .ok (.invokevirtual 132, 3) := by decide +kernel
theorem dX7_next_28 : decode cX7_next 28 = .ok (.ireturn, 1) := by decide +kernel
theorem dX7_next_29 : decode cX7_next 29 = .ok (.aload_n 0, 1) := by decide +kernel
theorem dX7_next_30 : decode cX7_next 30 = .ok (.iload_n 1, 1) := by decide +kernel
theorem dX7_next_31 : decode cX7_next 31 = .ok (.iconst 0, 1) := by decide +kernel
theorem dX7_next_32 : decode cX7_next 32 = .ok (.invokevirtual 48, 3) := by decide +kernel
theorem dX7_next_35 : decode cX7_next 35 = .ok (.iconst 1, 1) := by decide +kernel
theorem dX7_next_36 : decode cX7_next 36 = .ok (.if_icmp .eq 10, 3) := by decide +kernel
theorem dX7_next_39 : decode cX7_next 39 = .ok (.aload_n 0, 1) := by decide +kernel
theorem dX7_next_40 : decode cX7_next 40 = .ok (.bipush (-8), 2) := by decide +kernel
theorem dX7_next_42 : decode cX7_next 42 = .ok (.invokevirtual 132, 3) := by decide +kernel
theorem dX7_next_45 : decode cX7_next 45 = .ok (.ireturn, 1) := by decide +kernel
theorem dX7_next_46 : decode cX7_next 46 = .ok (.aload_n 0, 1) := by decide +kernel
theorem dX7_next_47 : decode cX7_next 47 = .ok (.iload_n 1, 1) := by decide +kernel
theorem dX7_next_48 : decode cX7_next 48 = .ok (.invokevirtual 109, 3) := by decide +kernel
theorem dX7_next_51 : decode cX7_next 51 = .ok (.istore_n 2, 1) := by decide +kernel
theorem dX7_next_52 : decode cX7_next 52 = .ok (.iload_n 2, 1) := by decide +kernel
theorem dX7_next_53 : decode cX7_next 53 = .ok (.ifCond .lt 19, 3) := by decide +kernel
theorem dX7_next_56 : decode cX7_next 56 = .ok (.aload_n 0, 1) := by decide +kernel
theorem dX7_next_57 : decode cX7_next 57 = .ok (.getfield 8, 3) := by decide +kernel
theorem dX7_next_60 : decode cX7_next 60 = .ok (.sipush 20928, 3) := by decide +kernel
theorem dX7_next_63 : decode cX7_next 63 = .ok (.bipush 64, 2) := by decide +kernel
theorem dX7_next_65 : decode cX7_next 65 = .ok (.iload_n 1, 1) := by decide +kernel
theorem dX7_next_66 : decode cX7_next 66 = .ok (.imul, 1) := by decide +kernel
theorem dX7_next_67 : decode cX7_next 67 = .ok (.iadd, 1) := by decide +kernel
theorem dX7_next_68 : decode cX7_next 68 = .ok (.iload_n 2, 1) := by decide +kernel
theorem dX7_next_69 : decode cX7_next 69 = .ok (.iadd, 1) := by decide +kernel
theorem dX7_next_70 : decode cX7_next 70 = .ok (.iaload, 1) := by decide +kernel
theorem dX7_next_71 : decode cX7_next 71 = .ok (.ireturn, 1) := by decide +kernel
theorem dX7_next_72 : decode cX7_next 72 = .ok (.aload_n 0, 1) := by decide +kernel
theorem dX7_next_73 : decode cX7_next 73 = .ok (.getfield 17, 3) := by decide +kernel
theorem dX7_next_76 : decode cX7_next 76 = .ok (.iload_n 1, 1) := by decide +kernel
theorem dX7_next_77 : decode cX7_next 77 = .ok (.laload, 1) := by decide +kernel
theorem dX7_next_78 : decode cX7_next 78 = .ok (.lstore_n 3, 1) := by decide +kernel
theorem dX7_next_79 : decode cX7_next 79 = .ok (.aload_n 0, 1) := by decide +kernel
theorem dX7_next_80 : decode cX7_next 80 = .ok (.iload_n 1, 1) := by decide +kernel
theorem dX7_next_81 : decode cX7_next 81 = .ok (.invokevirtual 112, 3) := by decide +kernel
theorem dX7_next_84 : decode cX7_next 84 = .ok (.aload_n 0, 1) := by decide +kernel
theorem dX7_next_85 : decode cX7_next 85 = .ok (.getfield 17, 3) := by decide +kernel
theorem dX7_next_88 : decode cX7_next 88 = .ok (.iload_n 1, 1) := by decide +kernel
theorem dX7_next_89 : decode cX7_next 89 = .ok (.lload_n 3, 1) := by decide +kernel
theorem dX7_next_90 : decode cX7_next 90 = .ok (.lastore, 1) := by decide +kernel
theorem dX7_next_91 : decode cX7_next 91 = .ok (.aload_n 0, 1) := by decide +kernel
theorem dX7_next_92 : decode cX7_next 92 = .ok (.getfield 96, 3) := by decide +kernel
theorem dX7_next_95 : decode cX7_next 95 = .ok (.ifCond .ne 7, 3) := by decide +kernel
theorem dX7_next_98 : decode cX7_next 98 = .ok (.iconst (-1), 1) := by decide +kernel
theorem dX7_next_99 : decode cX7_next 99 = .ok (.goto 9, 3) := by decide +kernel
theorem dX7_next_102 : decode cX7_next 102 = .ok (.aload_n 0, 1) := by decide +kernel
theorem dX7_next_103 : decode cX7_next 103 = .ok (.getfield 33, 3) := by decide +kernel
theorem dX7_next_106 : decode cX7_next 106 = .ok (.iconst 0, 1) := by decide +kernel
theorem dX7_next_107 : decode cX7_next 107 = .ok (.iaload, 1) := by decide +kernel
theorem dX7_next_108 : decode cX7_next 108 = .ok (.ireturn, 1) := by decide +kernel
theorem dX7_copy_0 : decode cX7_copy 0 = .ok (.iload_n 1, 1) := by decide +kernel
theorem dX7_copy_1 : decode cX7_copy 1 = .ok (.invokestatic 121, 3) := by decide +kernel
theorem dX7_copy_4 : decode cX7_copy 4 = .ok (.ifCond .ne 10, 3) := by decide +kernel
theorem dX7_copy_7 : decode cX7_copy 7 = .ok (.aload_n 0, 1) := by decide +kernel
theorem dX7_copy_8 : decode cX7_copy 8 = .ok (.bipush (-3), 2) := by decide +kernel
theorem dX7_copy_10 : decode cX7_copy 10 = .ok (.invokevirtual 132, 3) := by decide +kernel
theorem dX7_copy_13 : decode cX7_copy 13 = .ok (.ireturn, 1) := by decide +kernel
theorem dX7_copy_14 : decode cX7_copy 14 = .ok (.aload_n 0, 1) := by decide +kernel
theorem dX7_copy_15 : decode cX7_copy 15 = .ok (.iload_n 1, 1) := by decide +kernel
theorem dX7_copy_16 : decode cX7_copy 16 = .ok (.invokevirtual 125, 3) := by decide +kernel
theorem dX7_copy_19 : decode cX7_copy 19 = .ok (.ifCond .ne 10, 3) := by decide +kernel
theorem dX7_copy_22 : decode cX7_copy 22 = .ok (.aload_n 0, 1) := by decide +kernel
theorem dX7_copy_23 : decode cX7_copy 23 = .ok (.bipush (-2), 2) := by decide +kernel
theorem dX7_copy_25 : decode cX7_copy 25 = .ok (.invokevirtual 132, 3) := by decide +kernel
theorem dX7_copy_28 : decode cX7_copy 28 = .ok (.ireturn, 1) := by decide +kernel
theorem dX7_copy_29 : decode cX7_copy 29 = .ok (.iload_n 3, 1) := by decide +kernel
theorem dX7_copy_30 : decode cX7_copy 30 = .ok (.ifCond .ge 10, 3) := by decide +kernel
theorem dX7_copy_33 : decode cX7_copy 33 = .ok (.aload_n 0, 1) := by decide +kernel
theorem dX7_copy_34 : decode cX7_copy 34 = .ok (.bipush (-4), 2) := by decide +kernel
theorem dX7_copy_36 : decode cX7_copy 36 = .ok (.invokevirtual 132, 3) := by decide +kernel
theorem dX7_copy_39 : decode cX7_copy 39 = .ok (.ireturn, 1) := by decide +kernel
theorem dX7_copy_40 : decode cX7_copy 40 = .ok (.iload_n 2, 1) := by decide +kernel
theorem dX7_copy_41 : decode cX7_copy 41 = .ok (.ifCond .lt 37, 3) := by decide +kernel
theorem dX7_copy_44 : decode cX7_copy 44 = .ok (.iload 4, 2) := by decide +kernel
theorem dX7_copy_46 : decode cX7_copy 46 = .ok (.ifCond .lt 32, 3) := by decide +kernel
theorem dX7_copy_49 : decode cX7_copy 49 = .ok (.iload_n 2, 1) := by decide +kernel
theorem dX7_copy_50 : decode cX7_copy 50 = .ok (.i2l, 1) := by decide +kernel
theorem dX7_copy_51 : decode cX7_copy 51 = .ok (.iload_n 3, 1) := by decide +kernel
theorem dX7_copy_52 : decode cX7_copy 52 = .ok (.i2l, 1) := by decide +kernel
theorem dX7_copy_53 : decode cX7_copy 53 = .ok (.ladd, 1) := by decide +kernel
theorem dX7_copy_54 : decode cX7_copy 54 = .ok (.aload_n 0, 1) := by decide +kernel
theorem dX7_copy_55 : decode cX7_copy 55 = .ok (.iload_n 1, 1) := by decide +kernel
theorem dX7_copy_56 : decode cX7_copy 56 = .ok (.iconst 5, 1) := by decide +kernel
theorem dX7_copy_57 : decode cX7_copy 57 = .ok (.invokevirtual 48, 3) := by decide +kernel
theorem dX7_copy_60 : decode cX7_copy 60 = .ok (.i2l, 1) := by decide +kernel
theorem dX7_copy_61 : decode cX7_copy 61 = .ok (.lcmp, 1) := by decide +kernel
theorem dX7_copy_62 : decode cX7_copy 62 = .ok (.ifCond .gt 16, 3) := by decide +kernel
theorem dX7_copy_65 : decode cX7_copy 65 = .ok (.iload 4, 2) := by decide +kernel
theorem dX7_copy_67 : decode cX7_copy 67 = .ok (.i2l, 1) := by decide +kernel
theorem dX7_copy_68 : decode cX7_copy 68 = .ok (.iload_n 3, 1) := by decide +kernel
theorem dX7_copy_69 : decode cX7_copy 69 = .ok (.i2l, 1) := by decide +kernel
theorem dX7_copy_70 : decode cX7_copy 70 = .ok (.ladd, 1) := by decide +kernel
theorem dX7_copy_71 : decode cX7_copy 71 = .ok (.ldc2_w 178, 3) := by decide +kernel
theorem dX7_copy_74 : decode cX7_copy 74 = .ok (.lcmp, 1) := by decide +kernel
theorem dX7_copy_75 : decode cX7_copy 75 = .ok (.ifCond .le 10, 3) := by decide +kernel
theorem dX7_copy_78 : decode cX7_copy 78 = .ok (.aload_n 0, 1) := by decide +kernel
theorem dX7_copy_79 : decode cX7_copy 79 = .ok (.bipush (-6), 2) := by decide +kernel
theorem dX7_copy_81 : decode cX7_copy 81 = .ok (.invokevirtual 132, 3) := by decide +kernel
theorem dX7_copy_84 : decode cX7_copy 84 = .ok (.ireturn, 1) := by decide +kernel
theorem dX7_copy_85 : decode cX7_copy 85 = .ok (.iconst 0, 1) := by decide +kernel
theorem dX7_copy_86 : decode cX7_copy 86 = .ok (.istore 5, 2) := by decide +kernel
theorem dX7_copy_88 : decode cX7_copy 88 = .ok (.iload 5, 2) := by decide +kernel
theorem dX7_copy_90 : decode cX7_copy 90 = .ok (.iload_n 3, 1) := by decide +kernel
theorem dX7_copy_91 : decode cX7_copy 91 = .ok (.if_icmp .ge 37, 3) := by decide +kernel
theorem dX7_copy_94 : decode cX7_copy 94 = .ok (.aload_n 0, 1) := by decide +kernel
theorem dX7_copy_95 : decode cX7_copy 95 = .ok (.getfield 24, 3) := by decide +kernel
theorem dX7_copy_98 : decode cX7_copy 98 = .ok (.iload 4, 2) := by decide +kernel
theorem dX7_copy_100 : decode cX7_copy 100 = .ok (.iload 5, 2) := by decide +kernel
theorem dX7_copy_102 : decode cX7_copy 102 = .ok (.iadd, 1) := by decide +kernel
theorem dX7_copy_103 : decode cX7_copy 103 = .ok (.aload_n 0, 1) := by decide +kernel
theorem dX7_copy_104 : decode cX7_copy 104 = .ok (.getfield 8, 3) := by decide +kernel
theorem dX7_copy_107 : decode cX7_copy 107 = .ok (.sipush 20928, 3) := by decide +kernel
theorem dX7_copy_110 : decode cX7_copy 110 = .ok (.bipush 64, 2) := by decide +kernel
theorem dX7_copy_112 : decode cX7_copy 112 = .ok (.iload_n 1, 1) := by decide +kernel
theorem dX7_copy_113 : decode cX7_copy 113 = .ok (.imul, 1) := by decide +kernel
theorem dX7_copy_114 : decode cX7_copy 114 = .ok (.iadd, 1) := by decide +kernel
theorem dX7_copy_115 : decode cX7_copy 115 = .ok (.iload_n 2, 1) := by decide +kernel
theorem dX7_copy_116 : decode cX7_copy 116 = .ok (.iadd, 1) := by decide +kernel
theorem dX7_copy_117 : decode cX7_copy 117 = .ok (.iload 5, 2) := by decide +kernel
theorem dX7_copy_119 : decode cX7_copy 119 = .ok (.iadd, 1) := by decide +kernel
theorem dX7_copy_120 : decode cX7_copy 120 = .ok (.iaload, 1) := by decide +kernel
theorem dX7_copy_121 : decode cX7_copy 121 = .ok (.iastore, 1) := by decide +kernel
theorem dX7_copy_122 : decode cX7_copy 122 = .ok (.iinc 5 1, 3) := by decide +kernel
theorem dX7_copy_125 : decode cX7_copy 125 = .ok (.goto (-37), 3) := by decide +kernel
theorem dX7_copy_128 : decode cX7_copy 128 = .ok (.iload_n 3, 1) := by decide +kernel
theorem dX7_copy_129 : decode cX7_copy 129 = .ok (.ireturn, 1) := by decide +kernel
theorem dX7_table_0 : decode cX7_table 0 = .ok (.iload_n 1, 1) := by decide +kernel
theorem dX7_table_1 : decode cX7_table 1 = .ok (.i2l, 1) := by decide +kernel
theorem dX7_table_2 : decode cX7_table 2 = .ok (.lconst 0, 1) := by decide +kernel
theorem dX7_table_3 : decode cX7_table 3 = .ok (.ldc2_w 180, 3) := by decide +kernel
theorem dX7_table_6 : decode cX7_table 6 = .ok (.invokestatic 165, 3) := by decide +kernel
theorem dX7_table_9 : decode cX7_table 9 = .ok (.ifCond .eq 12, 3) := by decide +kernel
theorem dX7_table_12 : decode cX7_table 12 = .ok (.aload_n 0, 1) := by decide +kernel
theorem dX7_table_13 : decode cX7_table 13 = .ok (.getfield 24, 3) := by decide +kernel
theorem dX7_table_16 : decode cX7_table 16 = .ok (.iload_n 1, 1) := by decide +kernel
theorem dX7_table_17 : decode cX7_table 17 = .ok (.iaload, 1) := by decide +kernel
theorem dX7_table_18 : decode cX7_table 18 = .ok (.goto 9, 3) := by decide +kernel
theorem dX7_table_21 : decode cX7_table 21 = .ok (.aload_n 0, 1) := by decide +kernel
theorem dX7_table_22 : decode cX7_table 22 = .ok (.bipush (-3), 2) := by decide +kernel
theorem dX7_table_24 : decode cX7_table 24 = .ok (.invokevirtual 132, 3) := by decide +kernel
theorem dX7_table_27 : decode cX7_table 27 = .ok (.ireturn, 1) := by decide +kernel
theorem dX7_differ_0 : decode cX7_differ 0 = .ok (.iload_n 1, 1) := by decide +kernel
theorem dX7_differ_1 : decode cX7_differ 1 = .ok (.iload_n 3, 1) := by decide +kernel
theorem dX7_differ_2 : decode cX7_differ 2 = .ok (.invokestatic 44, 3) := by decide +kernel
theorem dX7_differ_5 : decode cX7_differ 5 = .ok (.istore 4, 2) := by decide +kernel
theorem dX7_differ_7 : decode cX7_differ 7 = .ok (.iload_n 2, 1) := by decide +kernel
theorem dX7_differ_8 : decode cX7_differ 8 = .ok (.iload_n 3, 1) := by decide +kernel
theorem dX7_differ_9 : decode cX7_differ 9 = .ok (.invokestatic 44, 3) := by decide +kernel
theorem dX7_differ_12 : decode cX7_differ 12 = .ok (.istore 5, 2) := by decide +kernel
theorem dX7_differ_14 : decode cX7_differ 14 = .ok (.aload_n 0, 1) := by decide +kernel
theorem dX7_differ_15 : decode cX7_differ 15 = .ok (.getfield 8, 3) := by decide +kernel
theorem dX7_differ_18 : decode cX7_differ 18 = .ok (.iload 4, 2) := by decide +kernel
theorem dX7_differ_20 : decode cX7_differ 20 = .ok (.iaload, 1) := by decide +kernel
theorem dX7_differ_21 : decode cX7_differ 21 = .ok (.aload_n 0, 1) := by decide +kernel
theorem dX7_differ_22 : decode cX7_differ 22 = .ok (.getfield 8, 3) := by decide +kernel
theorem dX7_differ_25 : decode cX7_differ 25 = .ok (.iload 5, 2) := by decide +kernel
theorem dX7_differ_27 : decode cX7_differ 27 = .ok (.iaload, 1) := by decide +kernel
theorem dX7_differ_28 : decode cX7_differ 28 = .ok (.if_icmp .ne 34, 3) := by decide +kernel
theorem dX7_differ_31 : decode cX7_differ 31 = .ok (.aload_n 0, 1) := by decide +kernel
theorem dX7_differ_32 : decode cX7_differ 32 = .ok (.getfield 8, 3) := by decide +kernel
theorem dX7_differ_35 : decode cX7_differ 35 = .ok (.iload 4, 2) := by decide +kernel
theorem dX7_differ_37 : decode cX7_differ 37 = .ok (.iaload, 1) := by decide +kernel
theorem dX7_differ_38 : decode cX7_differ 38 = .ok (.ifCond .eq 28, 3) := by decide +kernel
theorem dX7_differ_41 : decode cX7_differ 41 = .ok (.aload_n 0, 1) := by decide +kernel
theorem dX7_differ_42 : decode cX7_differ 42 = .ok (.getfield 8, 3) := by decide +kernel
theorem dX7_differ_45 : decode cX7_differ 45 = .ok (.iload 4, 2) := by decide +kernel
theorem dX7_differ_47 : decode cX7_differ 47 = .ok (.iconst 1, 1) := by decide +kernel
theorem dX7_differ_48 : decode cX7_differ 48 = .ok (.iadd, 1) := by decide +kernel
theorem dX7_differ_49 : decode cX7_differ 49 = .ok (.iaload, 1) := by decide +kernel
theorem dX7_differ_50 : decode cX7_differ 50 = .ok (.aload_n 0, 1) := by decide +kernel
theorem dX7_differ_51 : decode cX7_differ 51 = .ok (.getfield 8, 3) := by decide +kernel
theorem dX7_differ_54 : decode cX7_differ 54 = .ok (.iload 5, 2) := by decide +kernel
theorem dX7_differ_56 : decode cX7_differ 56 = .ok (.iconst 1, 1) := by decide +kernel
theorem dX7_differ_57 : decode cX7_differ 57 = .ok (.iadd, 1) := by decide +kernel
theorem dX7_differ_58 : decode cX7_differ 58 = .ok (.iaload, 1) := by decide +kernel
theorem dX7_differ_59 : decode cX7_differ 59 = .ok (.if_icmp .eq 7, 3) := by decide +kernel
theorem dX7_differ_62 : decode cX7_differ 62 = .ok (.iconst 1, 1) := by decide +kernel
theorem dX7_differ_63 : decode cX7_differ 63 = .ok (.goto 4, 3) := by decide +kernel
theorem dX7_differ_66 : decode cX7_differ 66 = .ok (.iconst 0, 1) := by decide +kernel
theorem dX7_differ_67 : decode cX7_differ 67 = .ok (.ireturn, 1) := by decide +kernel
theorem dX7_isApart_0 : decode cX7_isApart 0 = .ok (.iconst 0, 1) := by decide +kernel
theorem dX7_isApart_1 : decode cX7_isApart 1 = .ok (.istore_n 1, 1) := by decide +kernel
theorem dX7_isApart_2 : decode cX7_isApart 2 = .ok (.iload_n 1, 1) := by decide +kernel
theorem dX7_isApart_3 : decode cX7_isApart 3 = .ok (.bipush 64, 2) := by decide +kernel
theorem dX7_isApart_5 : decode cX7_isApart 5 = .ok (.if_icmp .ge 92, 3) := by decide +kernel
theorem dX7_isApart_8 : decode cX7_isApart 8 = .ok (.iload_n 1, 1) := by decide +kernel
theorem dX7_isApart_9 : decode cX7_isApart 9 = .ok (.iconst 1, 1) := by decide +kernel
theorem dX7_isApart_10 : decode cX7_isApart 10 = .ok (.iadd, 1) := by decide +kernel
theorem dX7_isApart_11 : decode cX7_isApart 11 = .ok (.istore_n 2, 1) := by decide +kernel
theorem dX7_isApart_12 : decode cX7_isApart 12 = .ok (.iload_n 2, 1) := by decide +kernel
theorem dX7_isApart_13 : decode cX7_isApart 13 = .ok (.bipush 64, 2) := by decide +kernel
theorem dX7_isApart_15 : decode cX7_isApart 15 = .ok (.if_icmp .ge 76, 3) := by decide +kernel
theorem dX7_isApart_18 : decode cX7_isApart 18 = .ok (.aload_n 0, 1) := by decide +kernel
theorem dX7_isApart_19 : decode cX7_isApart 19 = .ok (.iload_n 1, 1) := by decide +kernel
theorem dX7_isApart_20 : decode cX7_isApart 20 = .ok (.iconst 0, 1) := by decide +kernel
theorem dX7_isApart_21 : decode cX7_isApart 21 = .ok (.invokevirtual 48, 3) := by decide +kernel
theorem dX7_isApart_24 : decode cX7_isApart 24 = .ok (.iconst 1, 1) := by decide +kernel
theorem dX7_isApart_25 : decode cX7_isApart 25 = .ok (.if_icmp .ne 60, 3) := by decide +kernel
theorem dX7_isApart_28 : decode cX7_isApart 28 = .ok (.aload_n 0, 1) := by decide +kernel
theorem dX7_isApart_29 : decode cX7_isApart 29 = .ok (.iload_n 2, 1) := by decide +kernel
theorem dX7_isApart_30 : decode cX7_isApart 30 = .ok (.iconst 0, 1) := by decide +kernel
theorem dX7_isApart_31 : decode cX7_isApart 31 = .ok (.invokevirtual 48, 3) := by decide +kernel
theorem dX7_isApart_34 : decode cX7_isApart 34 = .ok (.iconst 1, 1) := by decide +kernel
theorem dX7_isApart_35 : decode cX7_isApart 35 = .ok (.if_icmp .eq 6, 3) := by decide +kernel
theorem dX7_isApart_38 : decode cX7_isApart 38 = .ok (.goto 47, 3) := by decide +kernel
theorem dX7_isApart_41 : decode cX7_isApart 41 = .ok (.iconst 0, 1) := by decide +kernel
theorem dX7_isApart_42 : decode cX7_isApart 42 = .ok (.istore_n 3, 1) := by decide +kernel
theorem dX7_isApart_43 : decode cX7_isApart 43 = .ok (.iload_n 3, 1) := by decide +kernel
theorem dX7_isApart_44 : decode cX7_isApart 44 = .ok (.bipush 64, 2) := by decide +kernel
theorem dX7_isApart_46 : decode cX7_isApart 46 = .ok (.if_icmp .ge 39, 3) := by decide +kernel
theorem dX7_isApart_49 : decode cX7_isApart 49 = .ok (.aload_n 0, 1) := by decide +kernel
theorem dX7_isApart_50 : decode cX7_isApart 50 = .ok (.iload_n 1, 1) := by decide +kernel
theorem dX7_isApart_51 : decode cX7_isApart 51 = .ok (.iload_n 2, 1) := by decide +kernel
theorem dX7_isApart_52 : decode cX7_isApart 52 = .ok (.iload_n 3, 1) := by decide +kernel
theorem dX7_isApart_53 : decode cX7_isApart 53 = .ok (.invokevirtual 182, 3) := by decide +kernel
theorem dX7_isApart_56 : decode cX7_isApart 56 = .ok (.ifCond .ne 6, 3) := by decide +kernel
theorem dX7_isApart_59 : decode cX7_isApart 59 = .ok (.goto 20, 3) := by decide +kernel
theorem dX7_isApart_62 : decode cX7_isApart 62 = .ok (.aload_n 0, 1) := by decide +kernel
theorem dX7_isApart_63 : decode cX7_isApart 63 = .ok (.iload_n 1, 1) := by decide +kernel
theorem dX7_isApart_64 : decode cX7_isApart 64 = .ok (.putfield 186, 3) := by decide +kernel
theorem dX7_isApart_67 : decode cX7_isApart 67 = .ok (.aload_n 0, 1) := by decide +kernel
theorem dX7_isApart_68 : decode cX7_isApart 68 = .ok (.iload_n 2, 1) := by decide +kernel
theorem dX7_isApart_69 : decode cX7_isApart 69 = .ok (.putfield 189, 3) := by decide +kernel
theorem dX7_isApart_72 : decode cX7_isApart 72 = .ok (.aload_n 0, 1) := by decide +kernel
theorem dX7_isApart_73 : decode cX7_isApart 73 = .ok (.iload_n 3, 1) := by decide +kernel
theorem dX7_isApart_74 : decode cX7_isApart 74 = .ok (.putfield 192, 3) := by decide +kernel
theorem dX7_isApart_77 : decode cX7_isApart 77 = .ok (.iconst 1, 1) := by decide +kernel
theorem dX7_isApart_78 : decode cX7_isApart 78 = .ok (.ireturn, 1) := by decide +kernel
theorem dX7_isApart_79 : decode cX7_isApart 79 = .ok (.iinc 3 1, 3) := by decide +kernel
theorem dX7_isApart_82 : decode cX7_isApart 82 = .ok (.goto (-39), 3) := by decide +kernel
theorem dX7_isApart_85 : decode cX7_isApart 85 = .ok (.iinc 2 1, 3) := by decide +kernel
theorem dX7_isApart_88 : decode cX7_isApart 88 = .ok (.goto (-76), 3) := by decide +kernel
theorem dX7_isApart_91 : decode cX7_isApart 91 = .ok (.iinc 1 1, 3) := by decide +kernel
theorem dX7_isApart_94 : decode cX7_isApart 94 = .ok (.goto (-92), 3) := by decide +kernel
theorem dX7_isApart_97 : decode cX7_isApart 97 = .ok (.iconst 0, 1) := by decide +kernel
theorem dX7_isApart_98 : decode cX7_isApart 98 = .ok (.ireturn, 1) := by decide +kernel
theorem dX7_agree_0 : decode cX7_agree 0 = .ok (.aload_n 0, 1) := by decide +kernel
theorem dX7_agree_1 : decode cX7_agree 1 = .ok (.invokevirtual 195, 3) := by decide +kernel
theorem dX7_agree_4 : decode cX7_agree 4 = .ok (.ifCond .eq 7, 3) := by decide +kernel
theorem dX7_agree_7 : decode cX7_agree 7 = .ok (.iconst 0, 1) := by decide +kernel
theorem dX7_agree_8 : decode cX7_agree 8 = .ok (.goto 4, 3) := by decide +kernel
theorem dX7_agree_11 : decode cX7_agree 11 = .ok (.iconst 1, 1) := by decide +kernel
theorem dX7_agree_12 : decode cX7_agree 12 = .ok (.ireturn, 1) := by decide +kernel
theorem dX7_apart_0 : decode cX7_apart 0 = .ok (.iload_n 1, 1) := by decide +kernel
theorem dX7_apart_1 : decode cX7_apart 1 = .ok (.i2l, 1) := by decide +kernel
theorem dX7_apart_2 : decode cX7_apart 2 = .ok (.lconst 0, 1) := by decide +kernel
theorem dX7_apart_3 : decode cX7_apart 3 = .ok (.ldc2_w 198, 3) := by decide +kernel
theorem dX7_apart_6 : decode cX7_apart 6 = .ok (.invokestatic 165, 3) := by decide +kernel
theorem dX7_apart_9 : decode cX7_apart 9 = .ok (.ifCond .ne 10, 3) := by decide +kernel
theorem dX7_apart_12 : decode cX7_apart 12 = .ok (.aload_n 0, 1) := by decide +kernel
theorem dX7_apart_13 : decode cX7_apart 13 = .ok (.bipush (-9), 2) := by decide +kernel
theorem dX7_apart_15 : decode cX7_apart 15 = .ok (.invokevirtual 132, 3) := by decide +kernel
theorem dX7_apart_18 : decode cX7_apart 18 = .ok (.ireturn, 1) := by decide +kernel
theorem dX7_apart_19 : decode cX7_apart 19 = .ok (.aload_n 0, 1) := by decide +kernel
theorem dX7_apart_20 : decode cX7_apart 20 = .ok (.invokevirtual 195, 3) := by decide +kernel
theorem dX7_apart_23 : decode cX7_apart 23 = .ok (.ifCond .ne 5, 3) := by decide +kernel
theorem dX7_apart_26 : decode cX7_apart 26 = .ok (.iconst (-1), 1) := by decide +kernel
theorem dX7_apart_27 : decode cX7_apart 27 = .ok (.ireturn, 1) := by decide +kernel
theorem dX7_apart_28 : decode cX7_apart 28 = .ok (.iload_n 1, 1) := by decide +kernel
theorem dX7_apart_29 : decode cX7_apart 29 = .ok (.ifCond .ne 10, 3) := by decide +kernel
theorem dX7_apart_32 : decode cX7_apart 32 = .ok (.aload_n 0, 1) := by decide +kernel
theorem dX7_apart_33 : decode cX7_apart 33 = .ok (.getfield 186, 3) := by decide +kernel
theorem dX7_apart_36 : decode cX7_apart 36 = .ok (.goto 19, 3) := by decide +kernel
theorem dX7_apart_39 : decode cX7_apart 39 = .ok (.iload_n 1, 1) := by decide +kernel
theorem dX7_apart_40 : decode cX7_apart 40 = .ok (.iconst 1, 1) := by decide +kernel
theorem dX7_apart_41 : decode cX7_apart 41 = .ok (.if_icmp .ne 10, 3) := by decide +kernel
theorem dX7_apart_44 : decode cX7_apart 44 = .ok (.aload_n 0, 1) := by decide +kernel
theorem dX7_apart_45 : decode cX7_apart 45 = .ok (.getfield 189, 3) := by decide +kernel
theorem dX7_apart_48 : decode cX7_apart 48 = .ok (.goto 7, 3) := by decide +kernel
theorem dX7_apart_51 : decode cX7_apart 51 = .ok (.aload_n 0, 1) := by decide +kernel
theorem dX7_apart_52 : decode cX7_apart 52 = .ok (.getfield 192, 3) := by decide +kernel
theorem dX7_apart_55 : decode cX7_apart 55 = .ok (.ireturn, 1) := by decide +kernel
theorem dX7_count_0 : decode cX7_count 0 = .ok (.iload_n 1, 1) := by decide +kernel
theorem dX7_count_1 : decode cX7_count 1 = .ok (.invokestatic 121, 3) := by decide +kernel
theorem dX7_count_4 : decode cX7_count 4 = .ok (.ifCond .ne 10, 3) := by decide +kernel
theorem dX7_count_7 : decode cX7_count 7 = .ok (.aload_n 0, 1) := by decide +kernel
theorem dX7_count_8 : decode cX7_count 8 = .ok (.bipush (-3), 2) := by decide +kernel
theorem dX7_count_10 : decode cX7_count 10 = .ok (.invokevirtual 132, 3) := by decide +kernel
theorem dX7_count_13 : decode cX7_count 13 = .ok (.ireturn, 1) := by decide +kernel
theorem dX7_count_14 : decode cX7_count 14 = .ok (.iload_n 2, 1) := by decide +kernel
theorem dX7_count_15 : decode cX7_count 15 = .ok (.i2l, 1) := by decide +kernel
theorem dX7_count_16 : decode cX7_count 16 = .ok (.lconst 0, 1) := by decide +kernel
theorem dX7_count_17 : decode cX7_count 17 = .ok (.ldc2_w 163, 3) := by decide +kernel
theorem dX7_count_20 : decode cX7_count 20 = .ok (.invokestatic 165, 3) := by decide +kernel
theorem dX7_count_23 : decode cX7_count 23 = .ok (.ifCond .ne 10, 3) := by decide +kernel
theorem dX7_count_26 : decode cX7_count 26 = .ok (.aload_n 0, 1) := by decide +kernel
theorem dX7_count_27 : decode cX7_count 27 = .ok (.bipush (-9), 2) := by decide +kernel
theorem dX7_count_29 : decode cX7_count 29 = .ok (.invokevirtual 132, 3) := by decide +kernel
theorem dX7_count_32 : decode cX7_count 32 = .ok (.ireturn, 1) := by decide +kernel
theorem dX7_count_33 : decode cX7_count 33 = .ok (.iconst 0, 1) := by decide +kernel
theorem dX7_count_34 : decode cX7_count 34 = .ok (.istore_n 3, 1) := by decide +kernel
theorem dX7_count_35 : decode cX7_count 35 = .ok (.iconst 0, 1) := by decide +kernel
theorem dX7_count_36 : decode cX7_count 36 = .ok (.istore 4, 2) := by decide +kernel
theorem dX7_count_38 : decode cX7_count 38 = .ok (.iload 4, 2) := by decide +kernel
theorem dX7_count_40 : decode cX7_count 40 = .ok (.bipush 64, 2) := by decide +kernel
theorem dX7_count_42 : decode cX7_count 42 = .ok (.if_icmp .ge 45, 3) := by decide +kernel
theorem dX7_count_45 : decode cX7_count 45 = .ok (.iload_n 3, 1) := by decide +kernel
theorem dX7_count_46 : decode cX7_count 46 = .ok (.iload 4, 2) := by decide +kernel
theorem dX7_count_48 : decode cX7_count 48 = .ok (.iload_n 1, 1) := by decide +kernel
theorem dX7_count_49 : decode cX7_count 49 = .ok (.if_icmp .eq 29, 3) := by decide +kernel
theorem dX7_count_52 : decode cX7_count 52 = .ok (.aload_n 0, 1) := by decide +kernel
theorem dX7_count_53 : decode cX7_count 53 = .ok (.iload 4, 2) := by decide +kernel
theorem dX7_count_55 : decode cX7_count 55 = .ok (.iconst 0, 1) := by decide +kernel
theorem dX7_count_56 : decode cX7_count 56 = .ok (.invokevirtual 48, 3) := by decide +kernel
theorem dX7_count_59 : decode cX7_count 59 = .ok (.iconst 1, 1) := by decide +kernel
theorem dX7_count_60 : decode cX7_count 60 = .ok (.if_icmp .ne 18, 3) := by decide +kernel
theorem dX7_count_63 : decode cX7_count 63 = .ok (.aload_n 0, 1) := by decide +kernel
theorem dX7_count_64 : decode cX7_count 64 = .ok (.iload 4, 2) := by decide +kernel
theorem dX7_count_66 : decode cX7_count 66 = .ok (.iload_n 1, 1) := by decide +kernel
theorem dX7_count_67 : decode cX7_count 67 = .ok (.invokevirtual 72, 3) := by decide +kernel
theorem dX7_count_70 : decode cX7_count 70 = .ok (.iload_n 2, 1) := by decide +kernel
theorem dX7_count_71 : decode cX7_count 71 = .ok (.if_icmp .ne 7, 3) := by decide +kernel
theorem dX7_count_74 : decode cX7_count 74 = .ok (.iconst 1, 1) := by decide +kernel
theorem dX7_count_75 : decode cX7_count 75 = .ok (.goto 4, 3) := by decide +kernel
theorem dX7_count_78 : decode cX7_count 78 = .ok (.iconst 0, 1) := by decide +kernel
theorem dX7_count_79 : decode cX7_count 79 = .ok (.iadd, 1) := by decide +kernel
theorem dX7_count_80 : decode cX7_count 80 = .ok (.istore_n 3, 1) := by decide +kernel
theorem dX7_count_81 : decode cX7_count 81 = .ok (.iinc 4 1, 3) := by decide +kernel
theorem dX7_count_84 : decode cX7_count 84 = .ok (.goto (-46), 3) := by decide +kernel
theorem dX7_count_87 : decode cX7_count 87 = .ok (.iload_n 3, 1) := by decide +kernel
theorem dX7_count_88 : decode cX7_count 88 = .ok (.ireturn, 1) := by decide +kernel
theorem dX7_pieceOf_0 : decode cX7_pieceOf 0 = .ok (.iconst 0, 1) := by decide +kernel
theorem dX7_pieceOf_1 : decode cX7_pieceOf 1 = .ok (.istore_n 3, 1) := by decide +kernel
theorem dX7_pieceOf_2 : decode cX7_pieceOf 2 = .ok (.iload_n 3, 1) := by decide +kernel
theorem dX7_pieceOf_3 : decode cX7_pieceOf 3 = .ok (.aload_n 0, 1) := by decide +kernel
theorem dX7_pieceOf_4 : decode cX7_pieceOf 4 = .ok (.iload_n 1, 1) := by decide +kernel
theorem dX7_pieceOf_5 : decode cX7_pieceOf 5 = .ok (.iconst 5, 1) := by decide +kernel
theorem dX7_pieceOf_6 : decode cX7_pieceOf 6 = .ok (.invokevirtual 83, 3) := by decide +kernel
theorem dX7_pieceOf_9 : decode cX7_pieceOf 9 = .ok (.if_icmp .ge 38, 3) := by decide +kernel
theorem dX7_pieceOf_12 : decode cX7_pieceOf 12 = .ok (.ldc 71, 2) := by decide +kernel
theorem dX7_pieceOf_14 : decode cX7_pieceOf 14 = .ok (.iconst 4, 1) := by decide +kernel
theorem dX7_pieceOf_15 : decode cX7_pieceOf 15 = .ok (.aload_n 0, 1) := by decide +kernel
theorem dX7_pieceOf_16 : decode cX7_pieceOf 16 = .ok (.iload_n 1, 1) := by decide +kernel
theorem dX7_pieceOf_17 : decode cX7_pieceOf 17 = .ok (.iconst 4, 1) := by decide +kernel
theorem dX7_pieceOf_18 : decode cX7_pieceOf 18 = .ok (.invokevirtual 83, 3) := by decide +kernel
theorem dX7_pieceOf_21 : decode cX7_pieceOf 21 = .ok (.iload_n 3, 1) := by decide +kernel
theorem dX7_pieceOf_22 : decode cX7_pieceOf 22 = .ok (.iadd, 1) := by decide +kernel
theorem dX7_pieceOf_23 : decode cX7_pieceOf 23 = .ok (.imul, 1) := by decide +kernel
theorem dX7_pieceOf_24 : decode cX7_pieceOf 24 = .ok (.iadd, 1) := by decide +kernel
theorem dX7_pieceOf_25 : decode cX7_pieceOf 25 = .ok (.istore 4, 2) := by decide +kernel
theorem dX7_pieceOf_27 : decode cX7_pieceOf 27 = .ok (.aload_n 0, 1) := by decide +kernel
theorem dX7_pieceOf_28 : decode cX7_pieceOf 28 = .ok (.getfield 8, 3) := by decide +kernel
theorem dX7_pieceOf_31 : decode cX7_pieceOf 31 = .ok (.iload 4, 2) := by decide +kernel
theorem dX7_pieceOf_33 : decode cX7_pieceOf 33 = .ok (.iaload, 1) := by decide +kernel
theorem dX7_pieceOf_34 : decode cX7_pieceOf 34 = .ok (.iload_n 2, 1) := by decide +kernel
theorem dX7_pieceOf_35 : decode cX7_pieceOf 35 = .ok (.if_icmp .ne 6, 3) := by decide +kernel
theorem dX7_pieceOf_38 : decode cX7_pieceOf 38 = .ok (.iload 4, 2) := by decide +kernel
theorem dX7_pieceOf_40 : decode cX7_pieceOf 40 = .ok (.ireturn, 1) := by decide +kernel
theorem dX7_pieceOf_41 : decode cX7_pieceOf 41 = .ok (.iinc 3 1, 3) := by decide +kernel
theorem dX7_pieceOf_44 : decode cX7_pieceOf 44 = .ok (.goto (-42), 3) := by decide +kernel
theorem dX7_pieceOf_47 : decode cX7_pieceOf 47 = .ok (.iconst (-1), 1) := by decide +kernel
theorem dX7_pieceOf_48 : decode cX7_pieceOf 48 = .ok (.ireturn, 1) := by decide +kernel
theorem dX7_way_0 : decode cX7_way 0 = .ok (.aload_n 0, 1) := by decide +kernel
theorem dX7_way_1 : decode cX7_way 1 = .ok (.iload_n 1, 1) := by decide +kernel
theorem dX7_way_2 : decode cX7_way 2 = .ok (.iload_n 2, 1) := by decide +kernel
theorem dX7_way_3 : decode cX7_way 3 = .ok (.invokevirtual 175, 3) := by decide +kernel
theorem dX7_way_6 : decode cX7_way 6 = .ok (.istore_n 3, 1) := by decide +kernel
theorem dX7_way_7 : decode cX7_way 7 = .ok (.iload_n 3, 1) := by decide +kernel
theorem dX7_way_8 : decode cX7_way 8 = .ok (.ifCond .eq 9, 3) := by decide +kernel
theorem dX7_way_11 : decode cX7_way 11 = .ok (.aload_n 0, 1) := by decide +kernel
theorem dX7_way_12 : decode cX7_way 12 = .ok (.iload_n 3, 1) := by decide +kernel
theorem dX7_way_13 : decode cX7_way 13 = .ok (.invokevirtual 132, 3) := by decide +kernel
theorem dX7_way_16 : decode cX7_way 16 = .ok (.ireturn, 1) := by decide +kernel
theorem dX7_way_17 : decode cX7_way 17 = .ok (.aload_n 0, 1) := by decide +kernel
theorem dX7_way_18 : decode cX7_way 18 = .ok (.iconst 0, 1) := by decide +kernel
theorem dX7_way_19 : decode cX7_way 19 = .ok (.putfield 200, 3) := by decide +kernel
theorem dX7_way_22 : decode cX7_way 22 = .ok (.aload_n 0, 1) := by decide +kernel
theorem dX7_way_23 : decode cX7_way 23 = .ok (.getfield 8, 3) := by decide +kernel
theorem dX7_way_26 : decode cX7_way 26 = .ok (.iload_n 1, 1) := by decide +kernel
theorem dX7_way_27 : decode cX7_way 27 = .ok (.iload_n 2, 1) := by decide +kernel
theorem dX7_way_28 : decode cX7_way 28 = .ok (.invokestatic 44, 3) := by decide +kernel
theorem dX7_way_31 : decode cX7_way 31 = .ok (.iconst 4, 1) := by decide +kernel
theorem dX7_way_32 : decode cX7_way 32 = .ok (.iadd, 1) := by decide +kernel
theorem dX7_way_33 : decode cX7_way 33 = .ok (.iaload, 1) := by decide +kernel
theorem dX7_way_34 : decode cX7_way 34 = .ok (.istore 4, 2) := by decide +kernel
theorem dX7_way_36 : decode cX7_way 36 = .ok (.iload 4, 2) := by decide +kernel
theorem dX7_way_38 : decode cX7_way 38 = .ok (.ifCond .lt 43, 3) := by decide +kernel
theorem dX7_way_41 : decode cX7_way 41 = .ok (.aload_n 0, 1) := by decide +kernel
theorem dX7_way_42 : decode cX7_way 42 = .ok (.getfield 27, 3) := by decide +kernel
theorem dX7_way_45 : decode cX7_way 45 = .ok (.aload_n 0, 1) := by decide +kernel
theorem dX7_way_46 : decode cX7_way 46 = .ok (.getfield 200, 3) := by decide +kernel
theorem dX7_way_49 : decode cX7_way 49 = .ok (.iload 4, 2) := by decide +kernel
theorem dX7_way_51 : decode cX7_way 51 = .ok (.iastore, 1) := by decide +kernel
theorem dX7_way_52 : decode cX7_way 52 = .ok (.aload_n 0, 1) := by decide +kernel
theorem dX7_way_53 : decode cX7_way 53 = .ok (.dup, 1) := by decide +kernel
theorem dX7_way_54 : decode cX7_way 54 = .ok (.getfield 200, 3) := by decide +kernel
theorem dX7_way_57 : decode cX7_way 57 = .ok (.iconst 1, 1) := by decide +kernel
theorem dX7_way_58 : decode cX7_way 58 = .ok (.iadd, 1) := by decide +kernel
theorem dX7_way_59 : decode cX7_way 59 = .ok (.putfield 200, 3) := by decide +kernel
theorem dX7_way_62 : decode cX7_way 62 = .ok (.aload_n 0, 1) := by decide +kernel
theorem dX7_way_63 : decode cX7_way 63 = .ok (.getfield 8, 3) := by decide +kernel
theorem dX7_way_66 : decode cX7_way 66 = .ok (.aload_n 0, 1) := by decide +kernel
theorem dX7_way_67 : decode cX7_way 67 = .ok (.iload 4, 2) := by decide +kernel
theorem dX7_way_69 : decode cX7_way 69 = .ok (.iload_n 2, 1) := by decide +kernel
theorem dX7_way_70 : decode cX7_way 70 = .ok (.invokevirtual 203, 3) := by decide +kernel
theorem dX7_way_73 : decode cX7_way 73 = .ok (.iconst 3, 1) := by decide +kernel
theorem dX7_way_74 : decode cX7_way 74 = .ok (.iadd, 1) := by decide +kernel
theorem dX7_way_75 : decode cX7_way 75 = .ok (.iaload, 1) := by decide +kernel
theorem dX7_way_76 : decode cX7_way 76 = .ok (.istore 4, 2) := by decide +kernel
theorem dX7_way_78 : decode cX7_way 78 = .ok (.goto (-42), 3) := by decide +kernel
theorem dX7_way_81 : decode cX7_way 81 = .ok (.aload_n 0, 1) := by decide +kernel
theorem dX7_way_82 : decode cX7_way 82 = .ok (.getfield 200, 3) := by decide +kernel
theorem dX7_way_85 : decode cX7_way 85 = .ok (.ireturn, 1) := by decide +kernel
theorem dX7_isStep_0 : decode cX7_isStep 0 = .ok (.iload_n 1, 1) := by decide +kernel
theorem dX7_isStep_1 : decode cX7_isStep 1 = .ok (.ifCond .lt 15, 3) := by decide +kernel
theorem dX7_isStep_4 : decode cX7_isStep 4 = .ok (.iload_n 1, 1) := by decide +kernel
theorem dX7_isStep_5 : decode cX7_isStep 5 = .ok (.aload_n 0, 1) := by decide +kernel
theorem dX7_isStep_6 : decode cX7_isStep 6 = .ok (.getfield 200, 3) := by decide +kernel
theorem dX7_isStep_9 : decode cX7_isStep 9 = .ok (.if_icmp .ge 7, 3) := by decide +kernel
theorem dX7_isStep_12 : decode cX7_isStep 12 = .ok (.iconst 1, 1) := by decide +kernel
theorem dX7_isStep_13 : decode cX7_isStep 13 = .ok (.goto 4, 3) := by decide +kernel
theorem dX7_isStep_16 : decode cX7_isStep 16 = .ok (.iconst 0, 1) := by decide +kernel
theorem dX7_isStep_17 : decode cX7_isStep 17 = .ok (.ireturn, 1) := by decide +kernel
theorem dX7_wayAt_0 : decode cX7_wayAt 0 = .ok (.aload_n 0, 1) := by decide +kernel
theorem dX7_wayAt_1 : decode cX7_wayAt 1 = .ok (.iload_n 1, 1) := by decide +kernel
theorem dX7_wayAt_2 : decode cX7_wayAt 2 = .ok (.invokevirtual 206, 3) := by decide +kernel
theorem dX7_wayAt_5 : decode cX7_wayAt 5 = .ok (.ifCond .eq 12, 3) := by decide +kernel
theorem dX7_wayAt_8 : decode cX7_wayAt 8 = .ok (.aload_n 0, 1) := by decide +kernel
theorem dX7_wayAt_9 : decode cX7_wayAt 9 = .ok (.getfield 27, 3) := by decide +kernel
theorem dX7_wayAt_12 : decode cX7_wayAt 12 = .ok (.iload_n 1, 1) := by decide +kernel
theorem dX7_wayAt_13 : decode cX7_wayAt 13 = .ok (.iaload, 1) := by decide +kernel
theorem dX7_wayAt_14 : decode cX7_wayAt 14 = .ok (.goto 9, 3) := by decide +kernel
theorem dX7_wayAt_17 : decode cX7_wayAt 17 = .ok (.aload_n 0, 1) := by decide +kernel
theorem dX7_wayAt_18 : decode cX7_wayAt 18 = .ok (.bipush (-3), 2) := by decide +kernel
theorem dX7_wayAt_20 : decode cX7_wayAt 20 = .ok (.invokevirtual 132, 3) := by decide +kernel
theorem dX7_wayAt_23 : decode cX7_wayAt 23 = .ok (.ireturn, 1) := by decide +kernel
theorem dX7_forge_0 : decode cX7_forge 0 = .ok (.aload_n 0, 1) := by decide +kernel
theorem dX7_forge_1 : decode cX7_forge 1 = .ok (.iload_n 1, 1) := by decide +kernel
theorem dX7_forge_2 : decode cX7_forge 2 = .ok (.invokevirtual 206, 3) := by decide +kernel
theorem dX7_forge_5 : decode cX7_forge 5 = .ok (.ifCond .ne 10, 3) := by decide +kernel
theorem dX7_forge_8 : decode cX7_forge 8 = .ok (.aload_n 0, 1) := by decide +kernel
theorem dX7_forge_9 : decode cX7_forge 9 = .ok (.bipush (-3), 2) := by decide +kernel
theorem dX7_forge_11 : decode cX7_forge 11 = .ok (.invokevirtual 132, 3) := by decide +kernel
theorem dX7_forge_14 : decode cX7_forge 14 = .ok (.ireturn, 1) := by decide +kernel
theorem dX7_forge_15 : decode cX7_forge 15 = .ok (.aload_n 0, 1) := by decide +kernel
theorem dX7_forge_16 : decode cX7_forge 16 = .ok (.getfield 27, 3) := by decide +kernel
theorem dX7_forge_19 : decode cX7_forge 19 = .ok (.iload_n 1, 1) := by decide +kernel
theorem dX7_forge_20 : decode cX7_forge 20 = .ok (.iload_n 2, 1) := by decide +kernel
theorem dX7_forge_21 : decode cX7_forge 21 = .ok (.iastore, 1) := by decide +kernel
theorem dX7_forge_22 : decode cX7_forge 22 = .ok (.iconst 1, 1) := by decide +kernel
theorem dX7_forge_23 : decode cX7_forge 23 = .ok (.ireturn, 1) := by decide +kernel
theorem dX7_stands_0 : decode cX7_stands 0 = .ok (.aload_n 0, 1) := by decide +kernel
theorem dX7_stands_1 : decode cX7_stands 1 = .ok (.getfield 27, 3) := by decide +kernel
theorem dX7_stands_4 : decode cX7_stands 4 = .ok (.iload_n 1, 1) := by decide +kernel
theorem dX7_stands_5 : decode cX7_stands 5 = .ok (.iaload, 1) := by decide +kernel
theorem dX7_stands_6 : decode cX7_stands 6 = .ok (.istore 6, 2) := by decide +kernel
theorem dX7_stands_8 : decode cX7_stands 8 = .ok (.aload_n 0, 1) := by decide +kernel
theorem dX7_stands_9 : decode cX7_stands 9 = .ok (.iload 6, 2) := by decide +kernel
theorem dX7_stands_11 : decode cX7_stands 11 = .ok (.invokevirtual 147, 3) := by decide +kernel
theorem dX7_stands_14 : decode cX7_stands 14 = .ok (.ifCond .eq 26, 3) := by decide +kernel
theorem dX7_stands_17 : decode cX7_stands 17 = .ok (.aload_n 0, 1) := by decide +kernel
theorem dX7_stands_18 : decode cX7_stands 18 = .ok (.iload 6, 2) := by decide +kernel
theorem dX7_stands_20 : decode cX7_stands 20 = .ok (.bipush 6, 2) := by decide +kernel
theorem dX7_stands_22 : decode cX7_stands 22 = .ok (.invokevirtual 83, 3) := by decide +kernel
theorem dX7_stands_25 : decode cX7_stands 25 = .ok (.iconst 1, 1) := by decide +kernel
theorem dX7_stands_26 : decode cX7_stands 26 = .ok (.if_icmp .ne 14, 3) := by decide +kernel
theorem dX7_stands_29 : decode cX7_stands 29 = .ok (.aload_n 0, 1) := by decide +kernel
theorem dX7_stands_30 : decode cX7_stands 30 = .ok (.iload 6, 2) := by decide +kernel
theorem dX7_stands_32 : decode cX7_stands 32 = .ok (.iconst 2, 1) := by decide +kernel
theorem dX7_stands_33 : decode cX7_stands 33 = .ok (.invokevirtual 83, 3) := by decide +kernel
theorem dX7_stands_36 : decode cX7_stands 36 = .ok (.iload_n 2, 1) := by decide +kernel
theorem dX7_stands_37 : decode cX7_stands 37 = .ok (.if_icmp .eq 5, 3) := by decide +kernel
theorem dX7_stands_40 : decode cX7_stands 40 = .ok (.iconst 0, 1) := by decide +kernel
theorem dX7_stands_41 : decode cX7_stands 41 = .ok (.ireturn, 1) := by decide +kernel
theorem dX7_stands_42 : decode cX7_stands 42 = .ok (.aload_n 0, 1) := by decide +kernel
theorem dX7_stands_43 : decode cX7_stands 43 = .ok (.iload 6, 2) := by decide +kernel
theorem dX7_stands_45 : decode cX7_stands 45 = .ok (.iload_n 3, 1) := by decide +kernel
theorem dX7_stands_46 : decode cX7_stands 46 = .ok (.invokevirtual 203, 3) := by decide +kernel
theorem dX7_stands_49 : decode cX7_stands 49 = .ok (.istore 7, 2) := by decide +kernel
theorem dX7_stands_51 : decode cX7_stands 51 = .ok (.iload 7, 2) := by decide +kernel
theorem dX7_stands_53 : decode cX7_stands 53 = .ok (.ifCond .lt 69, 3) := by decide +kernel
theorem dX7_stands_56 : decode cX7_stands 56 = .ok (.aload_n 0, 1) := by decide +kernel
theorem dX7_stands_57 : decode cX7_stands 57 = .ok (.getfield 8, 3) := by decide +kernel
theorem dX7_stands_60 : decode cX7_stands 60 = .ok (.iload 7, 2) := by decide +kernel
theorem dX7_stands_62 : decode cX7_stands 62 = .ok (.iconst 1, 1) := by decide +kernel
theorem dX7_stands_63 : decode cX7_stands 63 = .ok (.iadd, 1) := by decide +kernel
theorem dX7_stands_64 : decode cX7_stands 64 = .ok (.iaload, 1) := by decide +kernel
theorem dX7_stands_65 : decode cX7_stands 65 = .ok (.iload 4, 2) := by decide +kernel
theorem dX7_stands_67 : decode cX7_stands 67 = .ok (.if_icmp .ne 55, 3) := by decide +kernel
theorem dX7_stands_70 : decode cX7_stands 70 = .ok (.aload_n 0, 1) := by decide +kernel
theorem dX7_stands_71 : decode cX7_stands 71 = .ok (.getfield 8, 3) := by decide +kernel
theorem dX7_stands_74 : decode cX7_stands 74 = .ok (.iload 7, 2) := by decide +kernel
theorem dX7_stands_76 : decode cX7_stands 76 = .ok (.iconst 2, 1) := by decide +kernel
theorem dX7_stands_77 : decode cX7_stands 77 = .ok (.iadd, 1) := by decide +kernel
theorem dX7_stands_78 : decode cX7_stands 78 = .ok (.iaload, 1) := by decide +kernel
theorem dX7_stands_79 : decode cX7_stands 79 = .ok (.iload 5, 2) := by decide +kernel
theorem dX7_stands_81 : decode cX7_stands 81 = .ok (.if_icmp .ne 41, 3) := by decide +kernel
theorem dX7_stands_84 : decode cX7_stands 84 = .ok (.aload_n 0, 1) := by decide +kernel
theorem dX7_stands_85 : decode cX7_stands 85 = .ok (.getfield 8, 3) := by decide +kernel
theorem dX7_stands_88 : decode cX7_stands 88 = .ok (.iload 7, 2) := by decide +kernel
theorem dX7_stands_90 : decode cX7_stands 90 = .ok (.iconst 3, 1) := by decide +kernel
theorem dX7_stands_91 : decode cX7_stands 91 = .ok (.iadd, 1) := by decide +kernel
theorem dX7_stands_92 : decode cX7_stands 92 = .ok (.iaload, 1) := by decide +kernel
theorem dX7_stands_93 : decode cX7_stands 93 = .ok (.iload_n 1, 1) := by decide +kernel
theorem dX7_stands_94 : decode cX7_stands 94 = .ok (.iconst 1, 1) := by decide +kernel
theorem dX7_stands_95 : decode cX7_stands 95 = .ok (.iadd, 1) := by decide +kernel
theorem dX7_stands_96 : decode cX7_stands 96 = .ok (.aload_n 0, 1) := by decide +kernel
theorem dX7_stands_97 : decode cX7_stands 97 = .ok (.getfield 200, 3) := by decide +kernel
theorem dX7_stands_100 : decode cX7_stands 100 = .ok (.if_icmp .ge 14, 3) := by decide +kernel
theorem dX7_stands_103 : decode cX7_stands 103 = .ok (.aload_n 0, 1) := by decide +kernel
theorem dX7_stands_104 : decode cX7_stands 104 = .ok (.getfield 27, 3) := by decide +kernel
theorem dX7_stands_107 : decode cX7_stands 107 = .ok (.iload_n 1, 1) := by decide +kernel
theorem dX7_stands_108 : decode cX7_stands 108 = .ok (.iconst 1, 1) := by decide +kernel
theorem dX7_stands_109 : decode cX7_stands 109 = .ok (.iadd, 1) := by decide +kernel
theorem dX7_stands_110 : decode cX7_stands 110 = .ok (.iaload, 1) := by decide +kernel
theorem dX7_stands_111 : decode cX7_stands 111 = .ok (.goto 4, 3) := by decide +kernel
theorem dX7_stands_114 : decode cX7_stands 114 = .ok (.iconst (-1), 1) := by decide +kernel
theorem dX7_stands_115 : decode cX7_stands 115 = .ok (.if_icmp .ne 7, 3) := by decide +kernel
theorem dX7_stands_118 : decode cX7_stands 118 = .ok (.iconst 1, 1) := by decide +kernel
theorem dX7_stands_119 : decode cX7_stands 119 = .ok (.goto 4, 3) := by decide +kernel
theorem dX7_stands_122 : decode cX7_stands 122 = .ok (.iconst 0, 1) := by decide +kernel
theorem dX7_stands_123 : decode cX7_stands 123 = .ok (.ireturn, 1) := by decide +kernel
theorem dX7_check_0 : decode cX7_check 0 = .ok (.iload_n 1, 1) := by decide +kernel
theorem dX7_check_1 : decode cX7_check 1 = .ok (.invokestatic 121, 3) := by decide +kernel
theorem dX7_check_4 : decode cX7_check 4 = .ok (.ifCond .eq 10, 3) := by decide +kernel
theorem dX7_check_7 : decode cX7_check 7 = .ok (.iload_n 2, 1) := by decide +kernel
theorem dX7_check_8 : decode cX7_check 8 = .ok (.invokestatic 121, 3) := by decide +kernel
theorem dX7_check_11 : decode cX7_check 11 = .ok (.ifCond .ne 10, 3) := by decide +kernel
theorem dX7_check_14 : decode cX7_check 14 = .ok (.aload_n 0, 1) := by decide +kernel
theorem dX7_check_15 : decode cX7_check 15 = .ok (.bipush (-3), 2) := by decide +kernel
theorem dX7_check_17 : decode cX7_check 17 = .ok (.invokevirtual 132, 3) := by decide +kernel
theorem dX7_check_20 : decode cX7_check 20 = .ok (.ireturn, 1) := by decide +kernel
theorem dX7_check_21 : decode cX7_check 21 = .ok (.aload_n 0, 1) := by decide +kernel
theorem dX7_check_22 : decode cX7_check 22 = .ok (.iload_n 1, 1) := by decide +kernel
theorem dX7_check_23 : decode cX7_check 23 = .ok (.invokevirtual 125, 3) := by decide +kernel
theorem dX7_check_26 : decode cX7_check 26 = .ok (.ifCond .ne 10, 3) := by decide +kernel
theorem dX7_check_29 : decode cX7_check 29 = .ok (.aload_n 0, 1) := by decide +kernel
theorem dX7_check_30 : decode cX7_check 30 = .ok (.bipush (-2), 2) := by decide +kernel
theorem dX7_check_32 : decode cX7_check 32 = .ok (.invokevirtual 132, 3) := by decide +kernel
theorem dX7_check_35 : decode cX7_check 35 = .ok (.ireturn, 1) := by decide +kernel
theorem dX7_check_36 : decode cX7_check 36 = .ok (.iload_n 1, 1) := by decide +kernel
theorem dX7_check_37 : decode cX7_check 37 = .ok (.iload_n 2, 1) := by decide +kernel
theorem dX7_check_38 : decode cX7_check 38 = .ok (.invokestatic 44, 3) := by decide +kernel
theorem dX7_check_41 : decode cX7_check 41 = .ok (.istore 5, 2) := by decide +kernel
theorem dX7_check_43 : decode cX7_check 43 = .ok (.aload_n 0, 1) := by decide +kernel
theorem dX7_check_44 : decode cX7_check 44 = .ok (.getfield 200, 3) := by decide +kernel
theorem dX7_check_47 : decode cX7_check 47 = .ok (.ifCond .ne 57, 3) := by decide +kernel
theorem dX7_check_50 : decode cX7_check 50 = .ok (.aload_n 0, 1) := by decide +kernel
theorem dX7_check_51 : decode cX7_check 51 = .ok (.getfield 8, 3) := by decide +kernel
theorem dX7_check_54 : decode cX7_check 54 = .ok (.iload 5, 2) := by decide +kernel
theorem dX7_check_56 : decode cX7_check 56 = .ok (.iaload, 1) := by decide +kernel
theorem dX7_check_57 : decode cX7_check 57 = .ok (.ifCond .eq 45, 3) := by decide +kernel
theorem dX7_check_60 : decode cX7_check 60 = .ok (.aload_n 0, 1) := by decide +kernel
theorem dX7_check_61 : decode cX7_check 61 = .ok (.getfield 8, 3) := by decide +kernel
theorem dX7_check_64 : decode cX7_check 64 = .ok (.iload 5, 2) := by decide +kernel
theorem dX7_check_66 : decode cX7_check 66 = .ok (.iaload, 1) := by decide +kernel
theorem dX7_check_67 : decode cX7_check 67 = .ok (.iload_n 3, 1) := by decide +kernel
theorem dX7_check_68 : decode cX7_check 68 = .ok (.if_icmp .ne 34, 3) := by decide +kernel
theorem dX7_check_71 : decode cX7_check 71 = .ok (.aload_n 0, 1) := by decide +kernel
theorem dX7_check_72 : decode cX7_check 72 = .ok (.getfield 8, 3) := by decide +kernel
theorem dX7_check_75 : decode cX7_check 75 = .ok (.iload 5, 2) := by decide +kernel
theorem dX7_check_77 : decode cX7_check 77 = .ok (.iconst 1, 1) := by decide +kernel
theorem dX7_check_78 : decode cX7_check 78 = .ok (.iadd, 1) := by decide +kernel
theorem dX7_check_79 : decode cX7_check 79 = .ok (.iaload, 1) := by decide +kernel
theorem dX7_check_80 : decode cX7_check 80 = .ok (.iload 4, 2) := by decide +kernel
theorem dX7_check_82 : decode cX7_check 82 = .ok (.if_icmp .ne 20, 3) := by decide +kernel
theorem dX7_check_85 : decode cX7_check 85 = .ok (.aload_n 0, 1) := by decide +kernel
theorem dX7_check_86 : decode cX7_check 86 = .ok (.getfield 8, 3) := by decide +kernel
theorem dX7_check_89 : decode cX7_check 89 = .ok (.iload 5, 2) := by decide +kernel
theorem dX7_check_91 : decode cX7_check 91 = .ok (.iconst 4, 1) := by decide +kernel
theorem dX7_check_92 : decode cX7_check 92 = .ok (.iadd, 1) := by decide +kernel
theorem dX7_check_93 : decode cX7_check 93 = .ok (.iaload, 1) := by decide +kernel
theorem dX7_check_94 : decode cX7_check 94 = .ok (.iconst (-1), 1) := by decide +kernel
theorem dX7_check_95 : decode cX7_check 95 = .ok (.if_icmp .ne 7, 3) := by decide +kernel
theorem dX7_check_98 : decode cX7_check 98 = .ok (.iconst 1, 1) := by decide +kernel
theorem dX7_check_99 : decode cX7_check 99 = .ok (.goto 4, 3) := by decide +kernel
theorem dX7_check_102 : decode cX7_check 102 = .ok (.iconst 0, 1) := by decide +kernel
theorem dX7_check_103 : decode cX7_check 103 = .ok (.ireturn, 1) := by decide +kernel
theorem dX7_check_104 : decode cX7_check 104 = .ok (.iload_n 1, 1) := by decide +kernel
theorem dX7_check_105 : decode cX7_check 105 = .ok (.istore 6, 2) := by decide +kernel
theorem dX7_check_107 : decode cX7_check 107 = .ok (.iconst 0, 1) := by decide +kernel
theorem dX7_check_108 : decode cX7_check 108 = .ok (.istore 7, 2) := by decide +kernel
theorem dX7_check_110 : decode cX7_check 110 = .ok (.iload 7, 2) := by decide +kernel
theorem dX7_check_112 : decode cX7_check 112 = .ok (.aload_n 0, 1) := by decide +kernel
theorem dX7_check_113 : decode cX7_check 113 = .ok (.getfield 200, 3) := by decide +kernel
theorem dX7_check_116 : decode cX7_check 116 = .ok (.if_icmp .ge 40, 3) := by decide +kernel
theorem dX7_check_119 : decode cX7_check 119 = .ok (.aload_n 0, 1) := by decide +kernel
theorem dX7_check_120 : decode cX7_check 120 = .ok (.iload 7, 2) := by decide +kernel
theorem dX7_check_122 : decode cX7_check 122 = .ok (.iload 6, 2) := by decide +kernel
theorem dX7_check_124 : decode cX7_check 124 = .ok (.iload_n 2, 1) := by decide +kernel
theorem dX7_check_125 : decode cX7_check 125 = .ok (.iload_n 3, 1) := by decide +kernel
theorem dX7_check_126 : decode cX7_check 126 = .ok (.iload 4, 2) := by decide +kernel
theorem dX7_check_128 : decode cX7_check 128 = .ok (.invokevirtual 209, 3) := by decide +kernel
theorem dX7_check_131 : decode cX7_check 131 = .ok (.ifCond .ne 5, 3) := by decide +kernel
theorem dX7_check_134 : decode cX7_check 134 = .ok (.iconst 0, 1) := by decide +kernel
theorem dX7_check_135 : decode cX7_check 135 = .ok (.ireturn, 1) := by decide +kernel
theorem dX7_check_136 : decode cX7_check 136 = .ok (.aload_n 0, 1) := by decide +kernel
theorem dX7_check_137 : decode cX7_check 137 = .ok (.aload_n 0, 1) := by decide +kernel
theorem dX7_check_138 : decode cX7_check 138 = .ok (.getfield 27, 3) := by decide +kernel
theorem dX7_check_141 : decode cX7_check 141 = .ok (.iload 7, 2) := by decide +kernel
theorem dX7_check_143 : decode cX7_check 143 = .ok (.iaload, 1) := by decide +kernel
theorem dX7_check_144 : decode cX7_check 144 = .ok (.iconst 1, 1) := by decide +kernel
theorem dX7_check_145 : decode cX7_check 145 = .ok (.invokevirtual 83, 3) := by decide +kernel
theorem dX7_check_148 : decode cX7_check 148 = .ok (.istore 6, 2) := by decide +kernel
theorem dX7_check_150 : decode cX7_check 150 = .ok (.iinc 7 1, 3) := by decide +kernel
theorem dX7_check_153 : decode cX7_check 153 = .ok (.goto (-43), 3) := by decide +kernel
theorem dX7_check_156 : decode cX7_check 156 = .ok (.iconst 1, 1) := by decide +kernel
theorem dX7_check_157 : decode cX7_check 157 = .ok (.ireturn, 1) := by decide +kernel
theorem dX7_replay_0 : decode cX7_replay 0 = .ok (.iconst 1, 1) := by decide +kernel
theorem dX7_replay_1 : decode cX7_replay 1 = .ok (.ireturn, 1) := by decide +kernel
theorem dX7_image_0 : decode cX7_image 0 = .ok (.iconst 0, 1) := by decide +kernel
theorem dX7_image_1 : decode cX7_image 1 = .ok (.istore_n 1, 1) := by decide +kernel
theorem dX7_image_2 : decode cX7_image 2 = .ok (.iload_n 1, 1) := by decide +kernel
theorem dX7_image_3 : decode cX7_image 3 = .ok (.ldc 7, 2) := by decide +kernel
theorem dX7_image_5 : decode cX7_image 5 = .ok (.if_icmp .ge 21, 3) := by decide +kernel
theorem dX7_image_8 : decode cX7_image 8 = .ok (.aload_n 0, 1) := by decide +kernel
theorem dX7_image_9 : decode cX7_image 9 = .ok (.getfield 14, 3) := by decide +kernel
theorem dX7_image_12 : decode cX7_image 12 = .ok (.iload_n 1, 1) := by decide +kernel
theorem dX7_image_13 : decode cX7_image 13 = .ok (.aload_n 0, 1) := by decide +kernel
theorem dX7_image_14 : decode cX7_image 14 = .ok (.getfield 8, 3) := by decide +kernel
theorem dX7_image_17 : decode cX7_image 17 = .ok (.iload_n 1, 1) := by decide +kernel
theorem dX7_image_18 : decode cX7_image 18 = .ok (.iaload, 1) := by decide +kernel
theorem dX7_image_19 : decode cX7_image 19 = .ok (.iastore, 1) := by decide +kernel
theorem dX7_image_20 : decode cX7_image 20 = .ok (.iinc 1 1, 3) := by decide +kernel
theorem dX7_image_23 : decode cX7_image 23 = .ok (.goto (-21), 3) := by decide +kernel
theorem dX7_image_26 : decode cX7_image 26 = .ok (.iconst 0, 1) := by decide +kernel
theorem dX7_image_27 : decode cX7_image 27 = .ok (.istore_n 1, 1) := by decide +kernel
theorem dX7_image_28 : decode cX7_image 28 = .ok (.iload_n 1, 1) := by decide +kernel
theorem dX7_image_29 : decode cX7_image 29 = .ok (.bipush 64, 2) := by decide +kernel
theorem dX7_image_31 : decode cX7_image 31 = .ok (.if_icmp .ge 21, 3) := by decide +kernel
theorem dX7_image_34 : decode cX7_image 34 = .ok (.aload_n 0, 1) := by decide +kernel
theorem dX7_image_35 : decode cX7_image 35 = .ok (.getfield 21, 3) := by decide +kernel
theorem dX7_image_38 : decode cX7_image 38 = .ok (.iload_n 1, 1) := by decide +kernel
theorem dX7_image_39 : decode cX7_image 39 = .ok (.aload_n 0, 1) := by decide +kernel
theorem dX7_image_40 : decode cX7_image 40 = .ok (.getfield 17, 3) := by decide +kernel
theorem dX7_image_43 : decode cX7_image 43 = .ok (.iload_n 1, 1) := by decide +kernel
theorem dX7_image_44 : decode cX7_image 44 = .ok (.laload, 1) := by decide +kernel
theorem dX7_image_45 : decode cX7_image 45 = .ok (.lastore, 1) := by decide +kernel
theorem dX7_image_46 : decode cX7_image 46 = .ok (.iinc 1 1, 3) := by decide +kernel
theorem dX7_image_49 : decode cX7_image 49 = .ok (.goto (-21), 3) := by decide +kernel
theorem dX7_image_52 : decode cX7_image 52 = .ok (.aload_n 0, 1) := by decide +kernel
theorem dX7_image_53 : decode cX7_image 53 = .ok (.iconst 1, 1) := by decide +kernel
theorem dX7_image_54 : decode cX7_image 54 = .ok (.putfield 213, 3) := by decide +kernel
theorem dX7_image_57 : decode cX7_image 57 = .ok (.aload_n 0, 1) := by decide +kernel
theorem dX7_image_58 : decode cX7_image 58 = .ok (.getfield 8, 3) := by decide +kernel
theorem dX7_image_61 : decode cX7_image 61 = .ok (.ldc 53, 2) := by decide +kernel
theorem dX7_image_63 : decode cX7_image 63 = .ok (.iaload, 1) := by decide +kernel
theorem dX7_image_64 : decode cX7_image 64 = .ok (.ireturn, 1) := by decide +kernel
theorem dX7_back_0 : decode cX7_back 0 = .ok (.aload_n 0, 1) := by decide +kernel
theorem dX7_back_1 : decode cX7_back 1 = .ok (.getfield 213, 3) := by decide +kernel
theorem dX7_back_4 : decode cX7_back 4 = .ok (.ifCond .ne 10, 3) := by decide +kernel
theorem dX7_back_7 : decode cX7_back 7 = .ok (.aload_n 0, 1) := by decide +kernel
theorem dX7_back_8 : decode cX7_back 8 = .ok (.bipush (-9), 2) := by decide +kernel
theorem dX7_back_10 : decode cX7_back 10 = .ok (.invokevirtual 132, 3) := by decide +kernel
theorem dX7_back_13 : decode cX7_back 13 = .ok (.ireturn, 1) := by decide +kernel
theorem dX7_back_14 : decode cX7_back 14 = .ok (.iconst 0, 1) := by decide +kernel
theorem dX7_back_15 : decode cX7_back 15 = .ok (.istore_n 1, 1) := by decide +kernel
theorem dX7_back_16 : decode cX7_back 16 = .ok (.iload_n 1, 1) := by decide +kernel
theorem dX7_back_17 : decode cX7_back 17 = .ok (.ldc 7, 2) := by decide +kernel
theorem dX7_back_19 : decode cX7_back 19 = .ok (.if_icmp .ge 21, 3) := by decide +kernel
theorem dX7_back_22 : decode cX7_back 22 = .ok (.aload_n 0, 1) := by decide +kernel
theorem dX7_back_23 : decode cX7_back 23 = .ok (.getfield 8, 3) := by decide +kernel
theorem dX7_back_26 : decode cX7_back 26 = .ok (.iload_n 1, 1) := by decide +kernel
theorem dX7_back_27 : decode cX7_back 27 = .ok (.aload_n 0, 1) := by decide +kernel
theorem dX7_back_28 : decode cX7_back 28 = .ok (.getfield 14, 3) := by decide +kernel
theorem dX7_back_31 : decode cX7_back 31 = .ok (.iload_n 1, 1) := by decide +kernel
theorem dX7_back_32 : decode cX7_back 32 = .ok (.iaload, 1) := by decide +kernel
theorem dX7_back_33 : decode cX7_back 33 = .ok (.iastore, 1) := by decide +kernel
theorem dX7_back_34 : decode cX7_back 34 = .ok (.iinc 1 1, 3) := by decide +kernel
theorem dX7_back_37 : decode cX7_back 37 = .ok (.goto (-21), 3) := by decide +kernel
theorem dX7_back_40 : decode cX7_back 40 = .ok (.iconst 0, 1) := by decide +kernel
theorem dX7_back_41 : decode cX7_back 41 = .ok (.istore_n 1, 1) := by decide +kernel
theorem dX7_back_42 : decode cX7_back 42 = .ok (.iload_n 1, 1) := by decide +kernel
theorem dX7_back_43 : decode cX7_back 43 = .ok (.bipush 64, 2) := by decide +kernel
theorem dX7_back_45 : decode cX7_back 45 = .ok (.if_icmp .ge 21, 3) := by decide +kernel
theorem dX7_back_48 : decode cX7_back 48 = .ok (.aload_n 0, 1) := by decide +kernel
theorem dX7_back_49 : decode cX7_back 49 = .ok (.getfield 17, 3) := by decide +kernel
theorem dX7_back_52 : decode cX7_back 52 = .ok (.iload_n 1, 1) := by decide +kernel
theorem dX7_back_53 : decode cX7_back 53 = .ok (.aload_n 0, 1) := by decide +kernel
theorem dX7_back_54 : decode cX7_back 54 = .ok (.getfield 21, 3) := by decide +kernel
theorem dX7_back_57 : decode cX7_back 57 = .ok (.iload_n 1, 1) := by decide +kernel
theorem dX7_back_58 : decode cX7_back 58 = .ok (.laload, 1) := by decide +kernel
theorem dX7_back_59 : decode cX7_back 59 = .ok (.lastore, 1) := by decide +kernel
theorem dX7_back_60 : decode cX7_back 60 = .ok (.iinc 1 1, 3) := by decide +kernel
theorem dX7_back_63 : decode cX7_back 63 = .ok (.goto (-21), 3) := by decide +kernel
theorem dX7_back_66 : decode cX7_back 66 = .ok (.aload_n 0, 1) := by decide +kernel
theorem dX7_back_67 : decode cX7_back 67 = .ok (.getfield 8, 3) := by decide +kernel
theorem dX7_back_70 : decode cX7_back 70 = .ok (.ldc 53, 2) := by decide +kernel
theorem dX7_back_72 : decode cX7_back 72 = .ok (.iaload, 1) := by decide +kernel
theorem dX7_back_73 : decode cX7_back 73 = .ok (.ireturn, 1) := by decide +kernel
theorem dX7_trace_0 : decode cX7_trace 0 = .ok (.iload_n 1, 1) := by decide +kernel
theorem dX7_trace_1 : decode cX7_trace 1 = .ok (.i2l, 1) := by decide +kernel
theorem dX7_trace_2 : decode cX7_trace 2 = .ok (.lconst 0, 1) := by decide +kernel
theorem dX7_trace_3 : decode cX7_trace 3 = .ok (.ldc2_w 173, 3) := by decide +kernel
theorem dX7_trace_6 : decode cX7_trace 6 = .ok (.invokestatic 165, 3) := by decide +kernel
theorem dX7_trace_9 : decode cX7_trace 9 = .ok (.ifCond .eq 15, 3) := by decide +kernel
theorem dX7_trace_12 : decode cX7_trace 12 = .ok (.aload_n 0, 1) := by decide +kernel
theorem dX7_trace_13 : decode cX7_trace 13 = .ok (.getfield 8, 3) := by decide +kernel
theorem dX7_trace_16 : decode cX7_trace 16 = .ok (.ldc 54, 2) := by decide +kernel
theorem dX7_trace_18 : decode cX7_trace 18 = .ok (.iload_n 1, 1) := by decide +kernel
theorem dX7_trace_19 : decode cX7_trace 19 = .ok (.iadd, 1) := by decide +kernel
theorem dX7_trace_20 : decode cX7_trace 20 = .ok (.iaload, 1) := by decide +kernel
theorem dX7_trace_21 : decode cX7_trace 21 = .ok (.goto 9, 3) := by decide +kernel
theorem dX7_trace_24 : decode cX7_trace 24 = .ok (.aload_n 0, 1) := by decide +kernel
theorem dX7_trace_25 : decode cX7_trace 25 = .ok (.bipush (-9), 2) := by decide +kernel
theorem dX7_trace_27 : decode cX7_trace 27 = .ok (.invokevirtual 132, 3) := by decide +kernel
theorem dX7_trace_30 : decode cX7_trace 30 = .ok (.ireturn, 1) := by decide +kernel
theorem dX7_again_0 : decode cX7_again 0 = .ok (.aload_n 0, 1) := by decide +kernel
theorem dX7_again_1 : decode cX7_again 1 = .ok (.getfield 40, 3) := by decide +kernel
theorem dX7_again_4 : decode cX7_again 4 = .ok (.ifCond .ne 6, 3) := by decide +kernel
theorem dX7_again_7 : decode cX7_again 7 = .ok (.bipush (-7), 2) := by decide +kernel
theorem dX7_again_9 : decode cX7_again 9 = .ok (.ireturn, 1) := by decide +kernel
theorem dX7_again_10 : decode cX7_again 10 = .ok (.aload_n 0, 1) := by decide +kernel
theorem dX7_again_11 : decode cX7_again 11 = .ok (.getfield 40, 3) := by decide +kernel
theorem dX7_again_14 : decode cX7_again 14 = .ok (.istore_n 1, 1) := by decide +kernel
theorem dX7_again_15 : decode cX7_again 15 = .ok (.aload_n 0, 1) := by decide +kernel
theorem dX7_again_16 : decode cX7_again 16 = .ok (.iconst 0, 1) := by decide +kernel
theorem dX7_again_17 : decode cX7_again 17 = .ok (.putfield 40, 3) := by decide +kernel
theorem dX7_again_20 : decode cX7_again 20 = .ok (.iload_n 1, 1) := by decide +kernel
theorem dX7_again_21 : decode cX7_again 21 = .ok (.ireturn, 1) := by decide +kernel
theorem dX7_status_0 : decode cX7_status 0 = .ok (.iload_n 1, 1) := by decide +kernel
theorem dX7_status_1 : decode cX7_status 1 = .ok (.ifCond .ne 11, 3) := by decide +kernel
theorem dX7_status_4 : decode cX7_status 4 = .ok (.aload_n 0, 1) := by decide +kernel
theorem dX7_status_5 : decode cX7_status 5 = .ok (.getfield 8, 3) := by decide +kernel
theorem dX7_status_8 : decode cX7_status 8 = .ok (.ldc 53, 2) := by decide +kernel
theorem dX7_status_10 : decode cX7_status 10 = .ok (.iaload, 1) := by decide +kernel
theorem dX7_status_11 : decode cX7_status 11 = .ok (.ireturn, 1) := by decide +kernel
theorem dX7_status_12 : decode cX7_status 12 = .ok (.iload_n 1, 1) := by decide +kernel
theorem dX7_status_13 : decode cX7_status 13 = .ok (.i2l, 1) := by decide +kernel
theorem dX7_status_14 : decode cX7_status 14 = .ok (.ldc2_w 217, 3) := by decide +kernel
theorem dX7_status_17 : decode cX7_status 17 = .ok (.ldc2_w 219, 3) := by decide +kernel
theorem dX7_status_20 : decode cX7_status 20 = .ok (.invokestatic 165, 3) := by decide +kernel
theorem dX7_status_23 : decode cX7_status 23 = .ok (.ifCond .eq 13, 3) := by decide +kernel
theorem dX7_status_26 : decode cX7_status 26 = .ok (.aload_n 0, 1) := by decide +kernel
theorem dX7_status_27 : decode cX7_status 27 = .ok (.getfield 30, 3) := by decide +kernel
theorem dX7_status_30 : decode cX7_status 30 = .ok (.iload_n 1, 1) := by decide +kernel
theorem dX7_status_31 : decode cX7_status 31 = .ok (.ineg, 1) := by decide +kernel
theorem dX7_status_32 : decode cX7_status 32 = .ok (.iaload, 1) := by decide +kernel
theorem dX7_status_33 : decode cX7_status 33 = .ok (.goto 9, 3) := by decide +kernel
theorem dX7_status_36 : decode cX7_status 36 = .ok (.aload_n 0, 1) := by decide +kernel
theorem dX7_status_37 : decode cX7_status 37 = .ok (.bipush (-9), 2) := by decide +kernel
theorem dX7_status_39 : decode cX7_status 39 = .ok (.invokevirtual 132, 3) := by decide +kernel
theorem dX7_status_42 : decode cX7_status 42 = .ok (.ireturn, 1) := by decide +kernel
theorem dJ9_max_7cf53_0 : decode cJ9_max_7cf53 0 = .ok (.iload_n 0, 1) := by decide +kernel
theorem dJ9_max_7cf53_1 : decode cJ9_max_7cf53 1 = .ok (.iload_n 1, 1) := by decide +kernel
theorem dJ9_max_7cf53_2 : decode cJ9_max_7cf53 2 = .ok (.if_icmp .lt 7, 3) := by decide +kernel
theorem dJ9_max_7cf53_5 : decode cJ9_max_7cf53 5 = .ok (.iload_n 0, 1) := by decide +kernel
theorem dJ9_max_7cf53_6 : decode cJ9_max_7cf53 6 = .ok (.goto 4, 3) := by decide +kernel
theorem dJ9_max_7cf53_9 : decode cJ9_max_7cf53 9 = .ok (.iload_n 1, 1) := by decide +kernel
theorem dJ9_max_7cf53_10 : decode cJ9_max_7cf53 10 = .ok (.ireturn, 1) := by decide +kernel
theorem dJ9_min_7cf53_0 : decode cJ9_min_7cf53 0 = .ok (.iload_n 0, 1) := by decide +kernel
theorem dJ9_min_7cf53_1 : decode cJ9_min_7cf53 1 = .ok (.iload_n 1, 1) := by decide +kernel
theorem dJ9_min_7cf53_2 : decode cJ9_min_7cf53 2 = .ok (.if_icmp .gt 7, 3) := by decide +kernel
theorem dJ9_min_7cf53_5 : decode cJ9_min_7cf53 5 = .ok (.iload_n 0, 1) := by decide +kernel
theorem dJ9_min_7cf53_6 : decode cJ9_min_7cf53 6 = .ok (.goto 4, 3) := by decide +kernel
theorem dJ9_min_7cf53_9 : decode cJ9_min_7cf53 9 = .ok (.iload_n 1, 1) := by decide +kernel
theorem dJ9_min_7cf53_10 : decode cJ9_min_7cf53 10 = .ok (.ireturn, 1) := by decide +kernel
theorem dJ7_fill_d0a16_0 : decode cJ7_fill_d0a16 0 = .ok (.iconst 0, 1) := by decide +kernel
theorem dJ7_fill_d0a16_1 : decode cJ7_fill_d0a16 1 = .ok (.istore_n 3, 1) := by decide +kernel
theorem dJ7_fill_d0a16_2 : decode cJ7_fill_d0a16 2 = .ok (.aload_n 0, 1) := by decide +kernel
theorem dJ7_fill_d0a16_3 : decode cJ7_fill_d0a16 3 = .ok (.arraylength, 1) := by decide +kernel
theorem dJ7_fill_d0a16_4 : decode cJ7_fill_d0a16 4 = .ok (.istore 4, 2) := by decide +kernel
theorem dJ7_fill_d0a16_6 : decode cJ7_fill_d0a16 6 = .ok (.iload_n 3, 1) := by decide +kernel
theorem dJ7_fill_d0a16_7 : decode cJ7_fill_d0a16 7 = .ok (.iload 4, 2) := by decide +kernel
theorem dJ7_fill_d0a16_9 : decode cJ7_fill_d0a16 9 = .ok (.if_icmp .ge 13, 3) := by decide +kernel
theorem dJ7_fill_d0a16_12 : decode cJ7_fill_d0a16 12 = .ok (.aload_n 0, 1) := by decide +kernel
theorem dJ7_fill_d0a16_13 : decode cJ7_fill_d0a16 13 = .ok (.iload_n 3, 1) := by decide +kernel
theorem dJ7_fill_d0a16_14 : decode cJ7_fill_d0a16 14 = .ok (.lload_n 1, 1) := by decide +kernel
theorem dJ7_fill_d0a16_15 : decode cJ7_fill_d0a16 15 = .ok (.lastore, 1) := by decide +kernel
theorem dJ7_fill_d0a16_16 : decode cJ7_fill_d0a16 16 = .ok (.iinc 3 1, 3) := by decide +kernel
theorem dJ7_fill_d0a16_19 : decode cJ7_fill_d0a16 19 = .ok (.goto (-13), 3) := by decide +kernel
theorem dJ7_fill_d0a16_22 : decode cJ7_fill_d0a16 22 = .ok (.return_, 1) := by decide +kernel
theorem dJ7_fill_53178_0 : decode cJ7_fill_53178 0 = .ok (.iconst 0, 1) := by decide +kernel
theorem dJ7_fill_53178_1 : decode cJ7_fill_53178 1 = .ok (.istore_n 2, 1) := by decide +kernel
theorem dJ7_fill_53178_2 : decode cJ7_fill_53178 2 = .ok (.aload_n 0, 1) := by decide +kernel
theorem dJ7_fill_53178_3 : decode cJ7_fill_53178 3 = .ok (.arraylength, 1) := by decide +kernel
theorem dJ7_fill_53178_4 : decode cJ7_fill_53178 4 = .ok (.istore_n 3, 1) := by decide +kernel
theorem dJ7_fill_53178_5 : decode cJ7_fill_53178 5 = .ok (.iload_n 2, 1) := by decide +kernel
theorem dJ7_fill_53178_6 : decode cJ7_fill_53178 6 = .ok (.iload_n 3, 1) := by decide +kernel
theorem dJ7_fill_53178_7 : decode cJ7_fill_53178 7 = .ok (.if_icmp .ge 13, 3) := by decide +kernel
theorem dJ7_fill_53178_10 : decode cJ7_fill_53178 10 = .ok (.aload_n 0, 1) := by decide +kernel
theorem dJ7_fill_53178_11 : decode cJ7_fill_53178 11 = .ok (.iload_n 2, 1) := by decide +kernel
theorem dJ7_fill_53178_12 : decode cJ7_fill_53178 12 = .ok (.iload_n 1, 1) := by decide +kernel
theorem dJ7_fill_53178_13 : decode cJ7_fill_53178 13 = .ok (.iastore, 1) := by decide +kernel
theorem dJ7_fill_53178_14 : decode cJ7_fill_53178 14 = .ok (.iinc 2 1, 3) := by decide +kernel
theorem dJ7_fill_53178_17 : decode cJ7_fill_53178 17 = .ok (.goto (-12), 3) := by decide +kernel
theorem dJ7_fill_53178_20 : decode cJ7_fill_53178 20 = .ok (.return_, 1) := by decide +kernel
theorem dJ7_copyOf_59c91_0 : decode cJ7_copyOf_59c91 0 = .ok (.iload_n 1, 1) := by decide +kernel
theorem dJ7_copyOf_59c91_1 : decode cJ7_copyOf_59c91 1 = .ok (.aload_n 0, 1) := by decide +kernel
theorem dJ7_copyOf_59c91_2 : decode cJ7_copyOf_59c91 2 = .ok (.arraylength, 1) := by decide +kernel
theorem dJ7_copyOf_59c91_3 : decode cJ7_copyOf_59c91 3 = .ok (.if_icmp .ne 11, 3) := by decide +kernel
theorem dJ7_copyOf_59c91_6 : decode cJ7_copyOf_59c91 6 = .ok (.aload_n 0, 1) := by decide +kernel
theorem dJ7_copyOf_59c91_7 : decode cJ7_copyOf_59c91 7 = .ok (.invokevirtual 316, 3) := by decide +kernel
theorem dJ7_copyOf_59c91_10 : decode cJ7_copyOf_59c91 10 = .ok (.checkcast 317, 3) := by decide +kernel
theorem dJ7_copyOf_59c91_13 : decode cJ7_copyOf_59c91 13 = .ok (.areturn, 1) := by decide +kernel
theorem dJ7_copyOf_59c91_14 : decode cJ7_copyOf_59c91 14 = .ok (.iload_n 1, 1) := by decide +kernel
theorem dJ7_copyOf_59c91_15 : decode cJ7_copyOf_59c91 15 = .ok (.newarray .int, 2) := by decide +kernel
theorem dJ7_copyOf_59c91_17 : decode cJ7_copyOf_59c91 17 = .ok (.astore_n 2, 1) := by decide +kernel
theorem dJ7_copyOf_59c91_18 : decode cJ7_copyOf_59c91 18 = .ok (.aload_n 0, 1) := by decide +kernel
theorem dJ7_copyOf_59c91_19 : decode cJ7_copyOf_59c91 19 = .ok (.iconst 0, 1) := by decide +kernel
theorem dJ7_copyOf_59c91_20 : decode cJ7_copyOf_59c91 20 = .ok (.aload_n 2, 1) := by decide +kernel
theorem dJ7_copyOf_59c91_21 : decode cJ7_copyOf_59c91 21 = .ok (.iconst 0, 1) := by decide +kernel
theorem dJ7_copyOf_59c91_22 : decode cJ7_copyOf_59c91 22 = .ok (.aload_n 0, 1) := by decide +kernel
theorem dJ7_copyOf_59c91_23 : decode cJ7_copyOf_59c91 23 = .ok (.arraylength, 1) := by decide +kernel
theorem dJ7_copyOf_59c91_24 : decode cJ7_copyOf_59c91 24 = .ok (.iload_n 1, 1) := by decide +kernel
theorem dJ7_copyOf_59c91_25 : decode cJ7_copyOf_59c91 25 = .ok (.invokestatic 304, 3) := by decide +kernel
theorem dJ7_copyOf_59c91_28 : decode cJ7_copyOf_59c91 28 = .ok (.invokestatic 150, 3) := by decide +kernel
theorem dJ7_copyOf_59c91_31 : decode cJ7_copyOf_59c91 31 = .ok (.aload_n 2, 1) := by decide +kernel
theorem dJ7_copyOf_59c91_32 : decode cJ7_copyOf_59c91 32 = .ok (.areturn, 1) := by decide +kernel
