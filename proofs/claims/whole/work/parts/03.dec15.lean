theorem d_Mo_heatNow_18 : decode b_Mo_heatNow 18 = .ok (.iconst 1, 1) := by decide +kernel
theorem d_Mo_heatNow_19 : decode b_Mo_heatNow 19 = .ok (.if_icmp .ne 17, 3) := by decide +kernel
theorem d_Mo_heatNow_22 : decode b_Mo_heatNow 22 = .ok (.iload_n 1, 1) := by decide +kernel
theorem d_Mo_heatNow_23 : decode b_Mo_heatNow 23 = .ok (.aload_n 0, 1) := by decide +kernel
theorem d_Mo_heatNow_24 : decode b_Mo_heatNow 24 = .ok (.getfield 22, 3) := by decide +kernel
theorem d_Mo_heatNow_27 : decode b_Mo_heatNow 27 = .ok (.bipush 32, 2) := by decide +kernel
theorem d_Mo_heatNow_29 : decode b_Mo_heatNow 29 = .ok (.iload_n 2, 1) := by decide +kernel
theorem d_Mo_heatNow_30 : decode b_Mo_heatNow 30 = .ok (.iadd, 1) := by decide +kernel
theorem d_Mo_heatNow_31 : decode b_Mo_heatNow 31 = .ok (.iaload, 1) := by decide +kernel
theorem d_Mo_heatNow_32 : decode b_Mo_heatNow 32 = .ok (.iadd, 1) := by decide +kernel
theorem d_Mo_heatNow_33 : decode b_Mo_heatNow 33 = .ok (.goto 4, 3) := by decide +kernel
theorem d_Mo_heatNow_36 : decode b_Mo_heatNow 36 = .ok (.iload_n 1, 1) := by decide +kernel
theorem d_Mo_heatNow_37 : decode b_Mo_heatNow 37 = .ok (.istore_n 1, 1) := by decide +kernel
theorem d_Mo_heatNow_38 : decode b_Mo_heatNow 38 = .ok (.iinc 2 1, 3) := by decide +kernel
theorem d_Mo_heatNow_41 : decode b_Mo_heatNow 41 = .ok (.goto (-37), 3) := by decide +kernel
theorem d_Mo_heatNow_44 : decode b_Mo_heatNow 44 = .ok (.iload_n 1, 1) := by decide +kernel
theorem d_Mo_heatNow_45 : decode b_Mo_heatNow 45 = .ok (.ireturn, 1) := by decide +kernel
theorem d_Mo_level_0 : decode b_Mo_level 0 = .ok (.aload_n 0, 1) := by decide +kernel
theorem d_Mo_level_1 : decode b_Mo_level 1 = .ok (.iload_n 1, 1) := by decide +kernel
theorem d_Mo_level_2 : decode b_Mo_level 2 = .ok (.ifCond .lt 8, 3) := by decide +kernel
theorem d_Mo_level_5 : decode b_Mo_level 5 = .ok (.iload_n 1, 1) := by decide +kernel
theorem d_Mo_level_6 : decode b_Mo_level 6 = .ok (.iconst 2, 1) := by decide +kernel
theorem d_Mo_level_7 : decode b_Mo_level 7 = .ok (.if_icmp .le 7, 3) := by decide +kernel
theorem d_Mo_level_10 : decode b_Mo_level 10 = .ok (.iconst 1, 1) := by decide +kernel
theorem d_Mo_level_11 : decode b_Mo_level 11 = .ok (.goto 4, 3) := by decide +kernel
theorem d_Mo_level_14 : decode b_Mo_level 14 = .ok (.iconst 0, 1) := by decide +kernel
theorem d_Mo_level_15 : decode b_Mo_level 15 = .ok (.iconst 0, 1) := by decide +kernel
theorem d_Mo_level_16 : decode b_Mo_level 16 = .ok (.invokevirtual 126, 3) := by decide +kernel
theorem d_Mo_level_19 : decode b_Mo_level 19 = .ok (.ifCond .eq 5, 3) := by decide +kernel
theorem d_Mo_level_22 : decode b_Mo_level 22 = .ok (.iconst 0, 1) := by decide +kernel
theorem d_Mo_level_23 : decode b_Mo_level 23 = .ok (.ireturn, 1) := by decide +kernel
theorem d_Mo_level_24 : decode b_Mo_level 24 = .ok (.iload_n 1, 1) := by decide +kernel
theorem d_Mo_level_25 : decode b_Mo_level 25 = .ok (.ifCond .ne 10, 3) := by decide +kernel
theorem d_Mo_level_28 : decode b_Mo_level 28 = .ok (.aload_n 0, 1) := by decide +kernel
theorem d_Mo_level_29 : decode b_Mo_level 29 = .ok (.getfield 55, 3) := by decide +kernel
theorem d_Mo_level_32 : decode b_Mo_level 32 = .ok (.goto 19, 3) := by decide +kernel
theorem d_Mo_level_35 : decode b_Mo_level 35 = .ok (.iload_n 1, 1) := by decide +kernel
theorem d_Mo_level_36 : decode b_Mo_level 36 = .ok (.iconst 1, 1) := by decide +kernel
theorem d_Mo_level_37 : decode b_Mo_level 37 = .ok (.if_icmp .ne 10, 3) := by decide +kernel
theorem d_Mo_level_40 : decode b_Mo_level 40 = .ok (.aload_n 0, 1) := by decide +kernel
theorem d_Mo_level_41 : decode b_Mo_level 41 = .ok (.getfield 151, 3) := by decide +kernel
theorem d_Mo_level_44 : decode b_Mo_level 44 = .ok (.goto 7, 3) := by decide +kernel
theorem d_Mo_level_47 : decode b_Mo_level 47 = .ok (.aload_n 0, 1) := by decide +kernel
theorem d_Mo_level_48 : decode b_Mo_level 48 = .ok (.invokevirtual 204, 3) := by decide +kernel
theorem d_Mo_level_51 : decode b_Mo_level 51 = .ok (.ireturn, 1) := by decide +kernel
theorem d_Mo_reserve_0 : decode b_Mo_reserve 0 = .ok (.aload_n 0, 1) := by decide +kernel
theorem d_Mo_reserve_1 : decode b_Mo_reserve 1 = .ok (.iconst 0, 1) := by decide +kernel
theorem d_Mo_reserve_2 : decode b_Mo_reserve 2 = .ok (.putfield 74, 3) := by decide +kernel
theorem d_Mo_reserve_5 : decode b_Mo_reserve 5 = .ok (.iconst 0, 1) := by decide +kernel
theorem d_Mo_reserve_6 : decode b_Mo_reserve 6 = .ok (.istore_n 1, 1) := by decide +kernel
theorem d_Mo_reserve_7 : decode b_Mo_reserve 7 = .ok (.iload_n 1, 1) := by decide +kernel
theorem d_Mo_reserve_8 : decode b_Mo_reserve 8 = .ok (.sipush 1000, 3) := by decide +kernel
theorem d_Mo_reserve_11 : decode b_Mo_reserve 11 = .ok (.if_icmp .gt 23, 3) := by decide +kernel
theorem d_Mo_reserve_14 : decode b_Mo_reserve 14 = .ok (.aload_n 0, 1) := by decide +kernel
theorem d_Mo_reserve_15 : decode b_Mo_reserve 15 = .ok (.iload_n 1, 1) := by decide +kernel
theorem d_Mo_reserve_16 : decode b_Mo_reserve 16 = .ok (.aload_n 0, 1) := by decide +kernel
theorem d_Mo_reserve_17 : decode b_Mo_reserve 17 = .ok (.getfield 154, 3) := by decide +kernel
theorem d_Mo_reserve_20 : decode b_Mo_reserve 20 = .ok (.invokevirtual 157, 3) := by decide +kernel
theorem d_Mo_reserve_23 : decode b_Mo_reserve 23 = .ok (.ifCond .eq 5, 3) := by decide +kernel
theorem d_Mo_reserve_26 : decode b_Mo_reserve 26 = .ok (.iload_n 1, 1) := by decide +kernel
theorem d_Mo_reserve_27 : decode b_Mo_reserve 27 = .ok (.ireturn, 1) := by decide +kernel
theorem d_Mo_reserve_28 : decode b_Mo_reserve 28 = .ok (.iinc 1 1, 3) := by decide +kernel
theorem d_Mo_reserve_31 : decode b_Mo_reserve 31 = .ok (.goto (-24), 3) := by decide +kernel
theorem d_Mo_reserve_34 : decode b_Mo_reserve 34 = .ok (.iconst (-1), 1) := by decide +kernel
theorem d_Mo_reserve_35 : decode b_Mo_reserve 35 = .ok (.ireturn, 1) := by decide +kernel
theorem d_Mo_activities_0 : decode b_Mo_activities 0 = .ok (.aload_n 0, 1) := by decide +kernel
theorem d_Mo_activities_1 : decode b_Mo_activities 1 = .ok (.iconst 0, 1) := by decide +kernel
theorem d_Mo_activities_2 : decode b_Mo_activities 2 = .ok (.putfield 74, 3) := by decide +kernel
theorem d_Mo_activities_5 : decode b_Mo_activities 5 = .ok (.aload_n 0, 1) := by decide +kernel
theorem d_Mo_activities_6 : decode b_Mo_activities 6 = .ok (.getfield 120, 3) := by decide +kernel
theorem d_Mo_activities_9 : decode b_Mo_activities 9 = .ok (.ireturn, 1) := by decide +kernel
theorem d_Mo_activity_0 : decode b_Mo_activity 0 = .ok (.aload_n 0, 1) := by decide +kernel
theorem d_Mo_activity_1 : decode b_Mo_activity 1 = .ok (.aload_n 0, 1) := by decide +kernel
theorem d_Mo_activity_2 : decode b_Mo_activity 2 = .ok (.iload_n 1, 1) := by decide +kernel
theorem d_Mo_activity_3 : decode b_Mo_activity 3 = .ok (.invokevirtual 201, 3) := by decide +kernel
theorem d_Mo_activity_6 : decode b_Mo_activity 6 = .ok (.ifCond .eq 12, 3) := by decide +kernel
theorem d_Mo_activity_9 : decode b_Mo_activity 9 = .ok (.iload_n 2, 1) := by decide +kernel
theorem d_Mo_activity_10 : decode b_Mo_activity 10 = .ok (.ifCond .lt 8, 3) := by decide +kernel
theorem d_Mo_activity_13 : decode b_Mo_activity 13 = .ok (.iload_n 2, 1) := by decide +kernel
theorem d_Mo_activity_14 : decode b_Mo_activity 14 = .ok (.iconst 5, 1) := by decide +kernel
theorem d_Mo_activity_15 : decode b_Mo_activity 15 = .ok (.if_icmp .le 7, 3) := by decide +kernel
theorem d_Mo_activity_18 : decode b_Mo_activity 18 = .ok (.iconst 1, 1) := by decide +kernel
theorem d_Mo_activity_19 : decode b_Mo_activity 19 = .ok (.goto 4, 3) := by decide +kernel
theorem d_Mo_activity_22 : decode b_Mo_activity 22 = .ok (.iconst 0, 1) := by decide +kernel
theorem d_Mo_activity_23 : decode b_Mo_activity 23 = .ok (.iconst 0, 1) := by decide +kernel
theorem d_Mo_activity_24 : decode b_Mo_activity 24 = .ok (.invokevirtual 126, 3) := by decide +kernel
theorem d_Mo_activity_27 : decode b_Mo_activity 27 = .ok (.ifCond .eq 5, 3) := by decide +kernel
theorem d_Mo_activity_30 : decode b_Mo_activity 30 = .ok (.iconst 0, 1) := by decide +kernel
theorem d_Mo_activity_31 : decode b_Mo_activity 31 = .ok (.ireturn, 1) := by decide +kernel
theorem d_Mo_activity_32 : decode b_Mo_activity 32 = .ok (.iload_n 2, 1) := by decide +kernel
theorem d_Mo_activity_33 : decode b_Mo_activity 33 = .ok (.tableswitch 70 0 4 #[35, 42, 49, 56, 63], 35) := by decide +kernel
theorem d_Mo_activity_68 : decode b_Mo_activity 68 = .ok (.aload_n 0, 1) := by decide +kernel
theorem d_Mo_activity_69 : decode b_Mo_activity 69 = .ok (.getfield 28, 3) := by decide +kernel
theorem d_Mo_activity_72 : decode b_Mo_activity 72 = .ok (.iload_n 1, 1) := by decide +kernel
theorem d_Mo_activity_73 : decode b_Mo_activity 73 = .ok (.iaload, 1) := by decide +kernel
theorem d_Mo_activity_74 : decode b_Mo_activity 74 = .ok (.ireturn, 1) := by decide +kernel
theorem d_Mo_activity_75 : decode b_Mo_activity 75 = .ok (.aload_n 0, 1) := by decide +kernel
theorem d_Mo_activity_76 : decode b_Mo_activity 76 = .ok (.getfield 31, 3) := by decide +kernel
theorem d_Mo_activity_79 : decode b_Mo_activity 79 = .ok (.iload_n 1, 1) := by decide +kernel
theorem d_Mo_activity_80 : decode b_Mo_activity 80 = .ok (.iaload, 1) := by decide +kernel
theorem d_Mo_activity_81 : decode b_Mo_activity 81 = .ok (.ireturn, 1) := by decide +kernel
theorem d_Mo_activity_82 : decode b_Mo_activity 82 = .ok (.aload_n 0, 1) := by decide +kernel
theorem d_Mo_activity_83 : decode b_Mo_activity 83 = .ok (.getfield 34, 3) := by decide +kernel
theorem d_Mo_activity_86 : decode b_Mo_activity 86 = .ok (.iload_n 1, 1) := by decide +kernel
theorem d_Mo_activity_87 : decode b_Mo_activity 87 = .ok (.iaload, 1) := by decide +kernel
theorem d_Mo_activity_88 : decode b_Mo_activity 88 = .ok (.ireturn, 1) := by decide +kernel
theorem d_Mo_activity_89 : decode b_Mo_activity 89 = .ok (.aload_n 0, 1) := by decide +kernel
theorem d_Mo_activity_90 : decode b_Mo_activity 90 = .ok (.getfield 37, 3) := by decide +kernel
theorem d_Mo_activity_93 : decode b_Mo_activity 93 = .ok (.iload_n 1, 1) := by decide +kernel
theorem d_Mo_activity_94 : decode b_Mo_activity 94 = .ok (.iaload, 1) := by decide +kernel
theorem d_Mo_activity_95 : decode b_Mo_activity 95 = .ok (.ireturn, 1) := by decide +kernel
theorem d_Mo_activity_96 : decode b_Mo_activity 96 = .ok (.aload_n 0, 1) := by decide +kernel
theorem d_Mo_activity_97 : decode b_Mo_activity 97 = .ok (.getfield 40, 3) := by decide +kernel
theorem d_Mo_activity_100 : decode b_Mo_activity 100 = .ok (.iload_n 1, 1) := by decide +kernel
theorem d_Mo_activity_101 : decode b_Mo_activity 101 = .ok (.iaload, 1) := by decide +kernel
theorem d_Mo_activity_102 : decode b_Mo_activity 102 = .ok (.ireturn, 1) := by decide +kernel
theorem d_Mo_activity_103 : decode b_Mo_activity 103 = .ok (.aload_n 0, 1) := by decide +kernel
theorem d_Mo_activity_104 : decode b_Mo_activity 104 = .ok (.getfield 25, 3) := by decide +kernel
theorem d_Mo_activity_107 : decode b_Mo_activity 107 = .ok (.iload_n 1, 1) := by decide +kernel
theorem d_Mo_activity_108 : decode b_Mo_activity 108 = .ok (.iaload, 1) := by decide +kernel
theorem d_Mo_activity_109 : decode b_Mo_activity 109 = .ok (.ireturn, 1) := by decide +kernel
theorem d_Mo_lowest_0 : decode b_Mo_lowest 0 = .ok (.aload_n 0, 1) := by decide +kernel
theorem d_Mo_lowest_1 : decode b_Mo_lowest 1 = .ok (.iconst 0, 1) := by decide +kernel
theorem d_Mo_lowest_2 : decode b_Mo_lowest 2 = .ok (.putfield 74, 3) := by decide +kernel
theorem d_Mo_lowest_5 : decode b_Mo_lowest 5 = .ok (.aload_n 0, 1) := by decide +kernel
theorem d_Mo_lowest_6 : decode b_Mo_lowest 6 = .ok (.getfield 55, 3) := by decide +kernel
theorem d_Mo_lowest_9 : decode b_Mo_lowest 9 = .ok (.istore_n 1, 1) := by decide +kernel
theorem d_Mo_lowest_10 : decode b_Mo_lowest 10 = .ok (.aload_n 0, 1) := by decide +kernel
theorem d_Mo_lowest_11 : decode b_Mo_lowest 11 = .ok (.getfield 55, 3) := by decide +kernel
theorem d_Mo_lowest_14 : decode b_Mo_lowest 14 = .ok (.istore_n 2, 1) := by decide +kernel
theorem d_Mo_lowest_15 : decode b_Mo_lowest 15 = .ok (.iconst 1, 1) := by decide +kernel
theorem d_Mo_lowest_16 : decode b_Mo_lowest 16 = .ok (.istore_n 3, 1) := by decide +kernel
theorem d_Mo_lowest_17 : decode b_Mo_lowest 17 = .ok (.iload_n 3, 1) := by decide +kernel
theorem d_Mo_lowest_18 : decode b_Mo_lowest 18 = .ok (.bipush 30, 2) := by decide +kernel
theorem d_Mo_lowest_20 : decode b_Mo_lowest 20 = .ok (.if_icmp .gt 47, 3) := by decide +kernel
theorem d_Mo_lowest_23 : decode b_Mo_lowest 23 = .ok (.aload_n 0, 1) := by decide +kernel
theorem d_Mo_lowest_24 : decode b_Mo_lowest 24 = .ok (.iload_n 3, 1) := by decide +kernel
theorem d_Mo_lowest_25 : decode b_Mo_lowest 25 = .ok (.iconst (-1), 1) := by decide +kernel
theorem d_Mo_lowest_26 : decode b_Mo_lowest 26 = .ok (.invokevirtual 160, 3) := by decide +kernel
theorem d_Mo_lowest_29 : decode b_Mo_lowest 29 = .ok (.ifCond .lt 38, 3) := by decide +kernel
theorem d_Mo_lowest_32 : decode b_Mo_lowest 32 = .ok (.aload_n 0, 1) := by decide +kernel
theorem d_Mo_lowest_33 : decode b_Mo_lowest 33 = .ok (.iload_n 1, 1) := by decide +kernel
theorem d_Mo_lowest_34 : decode b_Mo_lowest 34 = .ok (.aload_n 0, 1) := by decide +kernel
theorem d_Mo_lowest_35 : decode b_Mo_lowest 35 = .ok (.getfield 154, 3) := by decide +kernel
theorem d_Mo_lowest_38 : decode b_Mo_lowest 38 = .ok (.iload_n 3, 1) := by decide +kernel
theorem d_Mo_lowest_39 : decode b_Mo_lowest 39 = .ok (.iadd, 1) := by decide +kernel
theorem d_Mo_lowest_40 : decode b_Mo_lowest 40 = .ok (.aload_n 0, 1) := by decide +kernel
theorem d_Mo_lowest_41 : decode b_Mo_lowest 41 = .ok (.iload_n 3, 1) := by decide +kernel
theorem d_Mo_lowest_42 : decode b_Mo_lowest 42 = .ok (.iconst (-1), 1) := by decide +kernel
theorem d_Mo_lowest_43 : decode b_Mo_lowest 43 = .ok (.invokevirtual 160, 3) := by decide +kernel
theorem d_Mo_lowest_46 : decode b_Mo_lowest 46 = .ok (.invokevirtual 139, 3) := by decide +kernel
theorem d_Mo_lowest_49 : decode b_Mo_lowest 49 = .ok (.istore_n 1, 1) := by decide +kernel
theorem d_Mo_lowest_50 : decode b_Mo_lowest 50 = .ok (.iload_n 1, 1) := by decide +kernel
theorem d_Mo_lowest_51 : decode b_Mo_lowest 51 = .ok (.iload_n 2, 1) := by decide +kernel
theorem d_Mo_lowest_52 : decode b_Mo_lowest 52 = .ok (.if_icmp .ge 7, 3) := by decide +kernel
theorem d_Mo_lowest_55 : decode b_Mo_lowest 55 = .ok (.iload_n 1, 1) := by decide +kernel
theorem d_Mo_lowest_56 : decode b_Mo_lowest 56 = .ok (.goto 4, 3) := by decide +kernel
theorem d_Mo_lowest_59 : decode b_Mo_lowest 59 = .ok (.iload_n 2, 1) := by decide +kernel
theorem d_Mo_lowest_60 : decode b_Mo_lowest 60 = .ok (.istore_n 2, 1) := by decide +kernel
theorem d_Mo_lowest_61 : decode b_Mo_lowest 61 = .ok (.iinc 3 1, 3) := by decide +kernel
theorem d_Mo_lowest_64 : decode b_Mo_lowest 64 = .ok (.goto (-47), 3) := by decide +kernel
theorem d_Mo_lowest_67 : decode b_Mo_lowest 67 = .ok (.iload_n 2, 1) := by decide +kernel
theorem d_Mo_lowest_68 : decode b_Mo_lowest 68 = .ok (.ifCond .ge 7, 3) := by decide +kernel
theorem d_Mo_lowest_71 : decode b_Mo_lowest 71 = .ok (.iconst 0, 1) := by decide +kernel
theorem d_Mo_lowest_72 : decode b_Mo_lowest 72 = .ok (.goto 4, 3) := by decide +kernel
theorem d_Mo_lowest_75 : decode b_Mo_lowest 75 = .ok (.iload_n 2, 1) := by decide +kernel
theorem d_Mo_lowest_76 : decode b_Mo_lowest 76 = .ok (.ireturn, 1) := by decide +kernel
theorem d_Mo_could_0 : decode b_Mo_could 0 = .ok (.aload_n 0, 1) := by decide +kernel
theorem d_Mo_could_1 : decode b_Mo_could 1 = .ok (.aload_n 0, 1) := by decide +kernel
theorem d_Mo_could_2 : decode b_Mo_could 2 = .ok (.iload_n 1, 1) := by decide +kernel
theorem d_Mo_could_3 : decode b_Mo_could 3 = .ok (.invokevirtual 201, 3) := by decide +kernel
theorem d_Mo_could_6 : decode b_Mo_could 6 = .ok (.ifCond .ne 7, 3) := by decide +kernel
theorem d_Mo_could_9 : decode b_Mo_could 9 = .ok (.iconst 1, 1) := by decide +kernel
theorem d_Mo_could_10 : decode b_Mo_could 10 = .ok (.goto 4, 3) := by decide +kernel
theorem d_Mo_could_13 : decode b_Mo_could 13 = .ok (.iconst 0, 1) := by decide +kernel
theorem d_Mo_could_14 : decode b_Mo_could 14 = .ok (.iconst 0, 1) := by decide +kernel
theorem d_Mo_could_15 : decode b_Mo_could 15 = .ok (.invokevirtual 126, 3) := by decide +kernel
theorem d_Mo_could_18 : decode b_Mo_could 18 = .ok (.ifCond .ne 23, 3) := by decide +kernel
theorem d_Mo_could_21 : decode b_Mo_could 21 = .ok (.aload_n 0, 1) := by decide +kernel
theorem d_Mo_could_22 : decode b_Mo_could 22 = .ok (.getfield 123, 3) := by decide +kernel
theorem d_Mo_could_25 : decode b_Mo_could 25 = .ok (.iconst 1, 1) := by decide +kernel
theorem d_Mo_could_26 : decode b_Mo_could 26 = .ok (.if_icmp .ne 15, 3) := by decide +kernel
theorem d_Mo_could_29 : decode b_Mo_could 29 = .ok (.aload_n 0, 1) := by decide +kernel
theorem d_Mo_could_30 : decode b_Mo_could 30 = .ok (.iload_n 1, 1) := by decide +kernel
theorem d_Mo_could_31 : decode b_Mo_could 31 = .ok (.invokevirtual 173, 3) := by decide +kernel
theorem d_Mo_could_34 : decode b_Mo_could 34 = .ok (.ifCond .eq 7, 3) := by decide +kernel
theorem d_Mo_could_37 : decode b_Mo_could 37 = .ok (.iconst 1, 1) := by decide +kernel
theorem d_Mo_could_38 : decode b_Mo_could 38 = .ok (.goto 4, 3) := by decide +kernel
theorem d_Mo_could_41 : decode b_Mo_could 41 = .ok (.iconst 0, 1) := by decide +kernel
theorem d_Mo_could_42 : decode b_Mo_could 42 = .ok (.ireturn, 1) := by decide +kernel
