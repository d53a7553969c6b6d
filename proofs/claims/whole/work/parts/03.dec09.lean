theorem d_Rm_activities_7 : decode b_Rm_activities 7 = .ok (.ireturn, 1) := by decide +kernel
theorem d_Rm_activity_0 : decode b_Rm_activity 0 = .ok (.aload_n 0, 1) := by decide +kernel
theorem d_Rm_activity_1 : decode b_Rm_activity 1 = .ok (.getfield 42, 3) := by decide +kernel
theorem d_Rm_activity_4 : decode b_Rm_activity 4 = .ok (.iload_n 1, 1) := by decide +kernel
theorem d_Rm_activity_5 : decode b_Rm_activity 5 = .ok (.invokevirtual 124, 3) := by decide +kernel
theorem d_Rm_activity_8 : decode b_Rm_activity 8 = .ok (.ifCond .ne 11, 3) := by decide +kernel
theorem d_Rm_activity_11 : decode b_Rm_activity 11 = .ok (.new 127, 3) := by decide +kernel
theorem d_Rm_activity_14 : decode b_Rm_activity 14 = .ok (.dup, 1) := by decide +kernel
theorem d_Rm_activity_15 : decode b_Rm_activity 15 = .ok (.invokespecial 129, 3) := by decide +kernel
theorem d_Rm_activity_18 : decode b_Rm_activity 18 = .ok (.athrow, 1) := by decide +kernel
theorem d_Rm_activity_19 : decode b_Rm_activity 19 = .ok (.aload_n 0, 1) := by decide +kernel
theorem d_Rm_activity_20 : decode b_Rm_activity 20 = .ok (.getfield 42, 3) := by decide +kernel
theorem d_Rm_activity_23 : decode b_Rm_activity 23 = .ok (.getfield 130, 3) := by decide +kernel
theorem d_Rm_activity_26 : decode b_Rm_activity 26 = .ok (.iload_n 1, 1) := by decide +kernel
theorem d_Rm_activity_27 : decode b_Rm_activity 27 = .ok (.aaload, 1) := by decide +kernel
theorem d_Rm_activity_28 : decode b_Rm_activity 28 = .ok (.astore_n 3, 1) := by decide +kernel
theorem d_Rm_activity_29 : decode b_Rm_activity 29 = .ok (.iload_n 2, 1) := by decide +kernel
theorem d_Rm_activity_30 : decode b_Rm_activity 30 = .ok (.tableswitch 68 0 5 #[38, 43, 48, 53, 58, 63], 38) := by decide +kernel
theorem d_Rm_activity_68 : decode b_Rm_activity 68 = .ok (.aload_n 3, 1) := by decide +kernel
theorem d_Rm_activity_69 : decode b_Rm_activity 69 = .ok (.getfield 161, 3) := by decide +kernel
theorem d_Rm_activity_72 : decode b_Rm_activity 72 = .ok (.ireturn, 1) := by decide +kernel
theorem d_Rm_activity_73 : decode b_Rm_activity 73 = .ok (.aload_n 3, 1) := by decide +kernel
theorem d_Rm_activity_74 : decode b_Rm_activity 74 = .ok (.getfield 164, 3) := by decide +kernel
theorem d_Rm_activity_77 : decode b_Rm_activity 77 = .ok (.ireturn, 1) := by decide +kernel
theorem d_Rm_activity_78 : decode b_Rm_activity 78 = .ok (.aload_n 3, 1) := by decide +kernel
theorem d_Rm_activity_79 : decode b_Rm_activity 79 = .ok (.getfield 167, 3) := by decide +kernel
theorem d_Rm_activity_82 : decode b_Rm_activity 82 = .ok (.ireturn, 1) := by decide +kernel
theorem d_Rm_activity_83 : decode b_Rm_activity 83 = .ok (.aload_n 3, 1) := by decide +kernel
theorem d_Rm_activity_84 : decode b_Rm_activity 84 = .ok (.getfield 170, 3) := by decide +kernel
theorem d_Rm_activity_87 : decode b_Rm_activity 87 = .ok (.ireturn, 1) := by decide +kernel
theorem d_Rm_activity_88 : decode b_Rm_activity 88 = .ok (.aload_n 3, 1) := by decide +kernel
theorem d_Rm_activity_89 : decode b_Rm_activity 89 = .ok (.getfield 173, 3) := by decide +kernel
theorem d_Rm_activity_92 : decode b_Rm_activity 92 = .ok (.ireturn, 1) := by decide +kernel
theorem d_Rm_activity_93 : decode b_Rm_activity 93 = .ok (.aload_n 3, 1) := by decide +kernel
theorem d_Rm_activity_94 : decode b_Rm_activity 94 = .ok (.getfield 176, 3) := by decide +kernel
theorem d_Rm_activity_97 : decode b_Rm_activity 97 = .ok (.ireturn, 1) := by decide +kernel
theorem d_Rm_activity_98 : decode b_Rm_activity 98 = .ok (.new 127, 3) := by decide +kernel
theorem d_Rm_activity_101 : decode b_Rm_activity 101 = .ok (.dup, 1) := by decide +kernel
theorem d_Rm_activity_102 : decode b_Rm_activity 102 = .ok (.invokespecial 129, 3) := by decide +kernel
theorem d_Rm_activity_105 : decode b_Rm_activity 105 = .ok (.athrow, 1) := by decide +kernel
theorem d_Rm_lowest_0 : decode b_Rm_lowest 0 = .ok (.aload_n 0, 1) := by decide +kernel
theorem d_Rm_lowest_1 : decode b_Rm_lowest 1 = .ok (.getfield 35, 3) := by decide +kernel
theorem d_Rm_lowest_4 : decode b_Rm_lowest 4 = .ok (.aload_n 0, 1) := by decide +kernel
theorem d_Rm_lowest_5 : decode b_Rm_lowest 5 = .ok (.getfield 42, 3) := by decide +kernel
theorem d_Rm_lowest_8 : decode b_Rm_lowest 8 = .ok (.iconst (-1), 1) := by decide +kernel
theorem d_Rm_lowest_9 : decode b_Rm_lowest 9 = .ok (.invokevirtual 179, 3) := by decide +kernel
theorem d_Rm_lowest_12 : decode b_Rm_lowest 12 = .ok (.aload_n 0, 1) := by decide +kernel
theorem d_Rm_lowest_13 : decode b_Rm_lowest 13 = .ok (.getfield 35, 3) := by decide +kernel
theorem d_Rm_lowest_16 : decode b_Rm_lowest 16 = .ok (.aload_n 0, 1) := by decide +kernel
theorem d_Rm_lowest_17 : decode b_Rm_lowest 17 = .ok (.getfield 28, 3) := by decide +kernel
theorem d_Rm_lowest_20 : decode b_Rm_lowest 20 = .ok (.aload_n 0, 1) := by decide +kernel
theorem d_Rm_lowest_21 : decode b_Rm_lowest 21 = .ok (.getfield 94, 3) := by decide +kernel
theorem d_Rm_lowest_24 : decode b_Rm_lowest 24 = .ok (.invokevirtual 183, 3) := by decide +kernel
theorem d_Rm_lowest_27 : decode b_Rm_lowest 27 = .ok (.ireturn, 1) := by decide +kernel
theorem d_Rm_could_0 : decode b_Rm_could 0 = .ok (.aload_n 0, 1) := by decide +kernel
theorem d_Rm_could_1 : decode b_Rm_could 1 = .ok (.getfield 42, 3) := by decide +kernel
theorem d_Rm_could_4 : decode b_Rm_could 4 = .ok (.iload_n 1, 1) := by decide +kernel
theorem d_Rm_could_5 : decode b_Rm_could 5 = .ok (.invokevirtual 124, 3) := by decide +kernel
theorem d_Rm_could_8 : decode b_Rm_could 8 = .ok (.ifCond .ne 11, 3) := by decide +kernel
theorem d_Rm_could_11 : decode b_Rm_could 11 = .ok (.new 127, 3) := by decide +kernel
theorem d_Rm_could_14 : decode b_Rm_could 14 = .ok (.dup, 1) := by decide +kernel
theorem d_Rm_could_15 : decode b_Rm_could 15 = .ok (.invokespecial 129, 3) := by decide +kernel
theorem d_Rm_could_18 : decode b_Rm_could 18 = .ok (.athrow, 1) := by decide +kernel
theorem d_Rm_could_19 : decode b_Rm_could 19 = .ok (.aload_n 0, 1) := by decide +kernel
theorem d_Rm_could_20 : decode b_Rm_could 20 = .ok (.getfield 49, 3) := by decide +kernel
theorem d_Rm_could_23 : decode b_Rm_could 23 = .ok (.iconst 1, 1) := by decide +kernel
theorem d_Rm_could_24 : decode b_Rm_could 24 = .ok (.if_icmp .ne 15, 3) := by decide +kernel
theorem d_Rm_could_27 : decode b_Rm_could 27 = .ok (.aload_n 0, 1) := by decide +kernel
theorem d_Rm_could_28 : decode b_Rm_could 28 = .ok (.iload_n 1, 1) := by decide +kernel
theorem d_Rm_could_29 : decode b_Rm_could 29 = .ok (.invokevirtual 187, 3) := by decide +kernel
theorem d_Rm_could_32 : decode b_Rm_could 32 = .ok (.ifCond .eq 7, 3) := by decide +kernel
theorem d_Rm_could_35 : decode b_Rm_could 35 = .ok (.iconst 1, 1) := by decide +kernel
theorem d_Rm_could_36 : decode b_Rm_could 36 = .ok (.goto 4, 3) := by decide +kernel
theorem d_Rm_could_39 : decode b_Rm_could 39 = .ok (.iconst 0, 1) := by decide +kernel
theorem d_Rm_could_40 : decode b_Rm_could 40 = .ok (.ireturn, 1) := by decide +kernel
theorem d_Rm_byteOf_0 : decode b_Rm_byteOf 0 = .ok (.iload_n 0, 1) := by decide +kernel
theorem d_Rm_byteOf_1 : decode b_Rm_byteOf 1 = .ok (.bipush 8, 2) := by decide +kernel
theorem d_Rm_byteOf_3 : decode b_Rm_byteOf 3 = .ok (.iload_n 1, 1) := by decide +kernel
theorem d_Rm_byteOf_4 : decode b_Rm_byteOf 4 = .ok (.imul, 1) := by decide +kernel
theorem d_Rm_byteOf_5 : decode b_Rm_byteOf 5 = .ok (.iushr, 1) := by decide +kernel
theorem d_Rm_byteOf_6 : decode b_Rm_byteOf 6 = .ok (.sipush 255, 3) := by decide +kernel
theorem d_Rm_byteOf_9 : decode b_Rm_byteOf 9 = .ok (.iand, 1) := by decide +kernel
theorem d_Rm_byteOf_10 : decode b_Rm_byteOf 10 = .ok (.ireturn, 1) := by decide +kernel
theorem d_Rm_passInPlan_0 : decode b_Rm_passInPlan 0 = .ok (.aload_n 0, 1) := by decide +kernel
theorem d_Rm_passInPlan_1 : decode b_Rm_passInPlan 1 = .ok (.getfield 28, 3) := by decide +kernel
theorem d_Rm_passInPlan_4 : decode b_Rm_passInPlan 4 = .ok (.aload_n 0, 1) := by decide +kernel
theorem d_Rm_passInPlan_5 : decode b_Rm_passInPlan 5 = .ok (.getfield 94, 3) := by decide +kernel
theorem d_Rm_passInPlan_8 : decode b_Rm_passInPlan 8 = .ok (.aload_n 0, 1) := by decide +kernel
theorem d_Rm_passInPlan_9 : decode b_Rm_passInPlan 9 = .ok (.getfield 42, 3) := by decide +kernel
theorem d_Rm_passInPlan_12 : decode b_Rm_passInPlan 12 = .ok (.invokevirtual 190, 3) := by decide +kernel
theorem d_Rm_passInPlan_15 : decode b_Rm_passInPlan 15 = .ok (.invokevirtual 120, 3) := by decide +kernel
theorem d_Rm_passInPlan_18 : decode b_Rm_passInPlan 18 = .ok (.aload_n 0, 1) := by decide +kernel
theorem d_Rm_passInPlan_19 : decode b_Rm_passInPlan 19 = .ok (.getfield 28, 3) := by decide +kernel
theorem d_Rm_passInPlan_22 : decode b_Rm_passInPlan 22 = .ok (.aload_n 0, 1) := by decide +kernel
theorem d_Rm_passInPlan_23 : decode b_Rm_passInPlan 23 = .ok (.getfield 42, 3) := by decide +kernel
theorem d_Rm_passInPlan_26 : decode b_Rm_passInPlan 26 = .ok (.invokevirtual 193, 3) := by decide +kernel
theorem d_Rm_passInPlan_29 : decode b_Rm_passInPlan 29 = .ok (.invokevirtual 196, 3) := by decide +kernel
theorem d_Rm_passInPlan_32 : decode b_Rm_passInPlan 32 = .ok (.aload_n 0, 1) := by decide +kernel
theorem d_Rm_passInPlan_33 : decode b_Rm_passInPlan 33 = .ok (.getfield 42, 3) := by decide +kernel
theorem d_Rm_passInPlan_36 : decode b_Rm_passInPlan 36 = .ok (.invokevirtual 199, 3) := by decide +kernel
theorem d_Rm_passInPlan_39 : decode b_Rm_passInPlan 39 = .ok (.aload_n 0, 1) := by decide +kernel
theorem d_Rm_passInPlan_40 : decode b_Rm_passInPlan 40 = .ok (.getfield 42, 3) := by decide +kernel
theorem d_Rm_passInPlan_43 : decode b_Rm_passInPlan 43 = .ok (.aload_n 0, 1) := by decide +kernel
theorem d_Rm_passInPlan_44 : decode b_Rm_passInPlan 44 = .ok (.getfield 94, 3) := by decide +kernel
theorem d_Rm_passInPlan_47 : decode b_Rm_passInPlan 47 = .ok (.aload_n 0, 1) := by decide +kernel
theorem d_Rm_passInPlan_48 : decode b_Rm_passInPlan 48 = .ok (.getfield 101, 3) := by decide +kernel
theorem d_Rm_passInPlan_51 : decode b_Rm_passInPlan 51 = .ok (.isub, 1) := by decide +kernel
theorem d_Rm_passInPlan_52 : decode b_Rm_passInPlan 52 = .ok (.invokevirtual 104, 3) := by decide +kernel
theorem d_Rm_passInPlan_55 : decode b_Rm_passInPlan 55 = .ok (.aload_n 0, 1) := by decide +kernel
theorem d_Rm_passInPlan_56 : decode b_Rm_passInPlan 56 = .ok (.getfield 28, 3) := by decide +kernel
theorem d_Rm_passInPlan_59 : decode b_Rm_passInPlan 59 = .ok (.aload_n 0, 1) := by decide +kernel
theorem d_Rm_passInPlan_60 : decode b_Rm_passInPlan 60 = .ok (.getfield 28, 3) := by decide +kernel
theorem d_Rm_passInPlan_63 : decode b_Rm_passInPlan 63 = .ok (.getfield 91, 3) := by decide +kernel
theorem d_Rm_passInPlan_66 : decode b_Rm_passInPlan 66 = .ok (.aload_n 0, 1) := by decide +kernel
theorem d_Rm_passInPlan_67 : decode b_Rm_passInPlan 67 = .ok (.getfield 94, 3) := by decide +kernel
theorem d_Rm_passInPlan_70 : decode b_Rm_passInPlan 70 = .ok (.invokevirtual 97, 3) := by decide +kernel
theorem d_Rm_passInPlan_73 : decode b_Rm_passInPlan 73 = .ok (.ifCond .ne 9, 3) := by decide +kernel
theorem d_Rm_passInPlan_76 : decode b_Rm_passInPlan 76 = .ok (.aload_n 0, 1) := by decide +kernel
theorem d_Rm_passInPlan_77 : decode b_Rm_passInPlan 77 = .ok (.invokevirtual 111, 3) := by decide +kernel
theorem d_Rm_passInPlan_80 : decode b_Rm_passInPlan 80 = .ok (.iconst 0, 1) := by decide +kernel
theorem d_Rm_passInPlan_81 : decode b_Rm_passInPlan 81 = .ok (.ireturn, 1) := by decide +kernel
theorem d_Rm_passInPlan_82 : decode b_Rm_passInPlan 82 = .ok (.aload_n 0, 1) := by decide +kernel
theorem d_Rm_passInPlan_83 : decode b_Rm_passInPlan 83 = .ok (.invokevirtual 108, 3) := by decide +kernel
theorem d_Rm_passInPlan_86 : decode b_Rm_passInPlan 86 = .ok (.ireturn, 1) := by decide +kernel
theorem d_Rm_passInReturn_0 : decode b_Rm_passInReturn 0 = .ok (.aload_n 0, 1) := by decide +kernel
theorem d_Rm_passInReturn_1 : decode b_Rm_passInReturn 1 = .ok (.getfield 28, 3) := by decide +kernel
theorem d_Rm_passInReturn_4 : decode b_Rm_passInReturn 4 = .ok (.aload_n 0, 1) := by decide +kernel
theorem d_Rm_passInReturn_5 : decode b_Rm_passInReturn 5 = .ok (.getfield 94, 3) := by decide +kernel
theorem d_Rm_passInReturn_8 : decode b_Rm_passInReturn 8 = .ok (.aload_n 0, 1) := by decide +kernel
theorem d_Rm_passInReturn_9 : decode b_Rm_passInReturn 9 = .ok (.getfield 28, 3) := by decide +kernel
theorem d_Rm_passInReturn_12 : decode b_Rm_passInReturn 12 = .ok (.getfield 202, 3) := by decide +kernel
theorem d_Rm_passInReturn_15 : decode b_Rm_passInReturn 15 = .ok (.invokevirtual 120, 3) := by decide +kernel
theorem d_Rm_passInReturn_18 : decode b_Rm_passInReturn 18 = .ok (.aload_n 0, 1) := by decide +kernel
theorem d_Rm_passInReturn_19 : decode b_Rm_passInReturn 19 = .ok (.dup, 1) := by decide +kernel
theorem d_Rm_passInReturn_20 : decode b_Rm_passInReturn 20 = .ok (.getfield 205, 3) := by decide +kernel
theorem d_Rm_passInReturn_23 : decode b_Rm_passInReturn 23 = .ok (.iconst 1, 1) := by decide +kernel
theorem d_Rm_passInReturn_24 : decode b_Rm_passInReturn 24 = .ok (.isub, 1) := by decide +kernel
theorem d_Rm_passInReturn_25 : decode b_Rm_passInReturn 25 = .ok (.putfield 205, 3) := by decide +kernel
theorem d_Rm_passInReturn_28 : decode b_Rm_passInReturn 28 = .ok (.aload_n 0, 1) := by decide +kernel
theorem d_Rm_passInReturn_29 : decode b_Rm_passInReturn 29 = .ok (.getfield 205, 3) := by decide +kernel
theorem d_Rm_passInReturn_32 : decode b_Rm_passInReturn 32 = .ok (.ifCond .gt 8, 3) := by decide +kernel
theorem d_Rm_passInReturn_35 : decode b_Rm_passInReturn 35 = .ok (.aload_n 0, 1) := by decide +kernel
theorem d_Rm_passInReturn_36 : decode b_Rm_passInReturn 36 = .ok (.iconst 0, 1) := by decide +kernel
theorem d_Rm_passInReturn_37 : decode b_Rm_passInReturn 37 = .ok (.putfield 49, 3) := by decide +kernel
theorem d_Rm_passInReturn_40 : decode b_Rm_passInReturn 40 = .ok (.return_, 1) := by decide +kernel
theorem d_Rm_beginReturn_0 : decode b_Rm_beginReturn 0 = .ok (.aload_n 0, 1) := by decide +kernel
theorem d_Rm_beginReturn_1 : decode b_Rm_beginReturn 1 = .ok (.getfield 42, 3) := by decide +kernel
theorem d_Rm_beginReturn_4 : decode b_Rm_beginReturn 4 = .ok (.invokevirtual 208, 3) := by decide +kernel
theorem d_Rm_beginReturn_7 : decode b_Rm_beginReturn 7 = .ok (.aload_n 0, 1) := by decide +kernel
theorem d_Rm_beginReturn_8 : decode b_Rm_beginReturn 8 = .ok (.iconst 2, 1) := by decide +kernel
theorem d_Rm_beginReturn_9 : decode b_Rm_beginReturn 9 = .ok (.putfield 49, 3) := by decide +kernel
theorem d_Rm_beginReturn_12 : decode b_Rm_beginReturn 12 = .ok (.aload_n 0, 1) := by decide +kernel
theorem d_Rm_beginReturn_13 : decode b_Rm_beginReturn 13 = .ok (.aload_n 0, 1) := by decide +kernel
theorem d_Rm_beginReturn_14 : decode b_Rm_beginReturn 14 = .ok (.getfield 28, 3) := by decide +kernel
theorem d_Rm_beginReturn_17 : decode b_Rm_beginReturn 17 = .ok (.getfield 211, 3) := by decide +kernel
theorem d_Rm_beginReturn_20 : decode b_Rm_beginReturn 20 = .ok (.putfield 205, 3) := by decide +kernel
theorem d_Rm_beginReturn_23 : decode b_Rm_beginReturn 23 = .ok (.return_, 1) := by decide +kernel
theorem d_Rm_startAndSettle_0 : decode b_Rm_startAndSettle 0 = .ok (.iconst 0, 1) := by decide +kernel
theorem d_Rm_startAndSettle_1 : decode b_Rm_startAndSettle 1 = .ok (.istore_n 1, 1) := by decide +kernel
theorem d_Rm_startAndSettle_2 : decode b_Rm_startAndSettle 2 = .ok (.iconst 0, 1) := by decide +kernel
theorem d_Rm_startAndSettle_3 : decode b_Rm_startAndSettle 3 = .ok (.istore_n 2, 1) := by decide +kernel
theorem d_Rm_startAndSettle_4 : decode b_Rm_startAndSettle 4 = .ok (.iload_n 2, 1) := by decide +kernel
theorem d_Rm_startAndSettle_5 : decode b_Rm_startAndSettle 5 = .ok (.aload_n 0, 1) := by decide +kernel
theorem d_Rm_startAndSettle_6 : decode b_Rm_startAndSettle 6 = .ok (.getfield 42, 3) := by decide +kernel
theorem d_Rm_startAndSettle_9 : decode b_Rm_startAndSettle 9 = .ok (.getfield 88, 3) := by decide +kernel
theorem d_Rm_startAndSettle_12 : decode b_Rm_startAndSettle 12 = .ok (.if_icmp .ge 36, 3) := by decide +kernel
theorem d_Rm_startAndSettle_15 : decode b_Rm_startAndSettle 15 = .ok (.aload_n 0, 1) := by decide +kernel
theorem d_Rm_startAndSettle_16 : decode b_Rm_startAndSettle 16 = .ok (.iload_n 2, 1) := by decide +kernel
theorem d_Rm_startAndSettle_17 : decode b_Rm_startAndSettle 17 = .ok (.invokevirtual 187, 3) := by decide +kernel
theorem d_Rm_startAndSettle_20 : decode b_Rm_startAndSettle 20 = .ok (.ifCond .eq 22, 3) := by decide +kernel
theorem d_Rm_startAndSettle_23 : decode b_Rm_startAndSettle 23 = .ok (.aload_n 0, 1) := by decide +kernel
theorem d_Rm_startAndSettle_24 : decode b_Rm_startAndSettle 24 = .ok (.getfield 42, 3) := by decide +kernel
theorem d_Rm_startAndSettle_27 : decode b_Rm_startAndSettle 27 = .ok (.getfield 130, 3) := by decide +kernel
theorem d_Rm_startAndSettle_30 : decode b_Rm_startAndSettle 30 = .ok (.iload_n 2, 1) := by decide +kernel
theorem d_Rm_startAndSettle_31 : decode b_Rm_startAndSettle 31 = .ok (.aaload, 1) := by decide +kernel
theorem d_Rm_startAndSettle_32 : decode b_Rm_startAndSettle 32 = .ok (.aload_n 0, 1) := by decide +kernel
theorem d_Rm_startAndSettle_33 : decode b_Rm_startAndSettle 33 = .ok (.getfield 94, 3) := by decide +kernel
theorem d_Rm_startAndSettle_36 : decode b_Rm_startAndSettle 36 = .ok (.invokevirtual 214, 3) := by decide +kernel
theorem d_Rm_startAndSettle_39 : decode b_Rm_startAndSettle 39 = .ok (.iinc 1 1, 3) := by decide +kernel
theorem d_Rm_startAndSettle_42 : decode b_Rm_startAndSettle 42 = .ok (.iinc 2 1, 3) := by decide +kernel
theorem d_Rm_startAndSettle_45 : decode b_Rm_startAndSettle 45 = .ok (.goto (-41), 3) := by decide +kernel
theorem d_Rm_startAndSettle_48 : decode b_Rm_startAndSettle 48 = .ok (.aload_n 0, 1) := by decide +kernel
theorem d_Rm_startAndSettle_49 : decode b_Rm_startAndSettle 49 = .ok (.getfield 42, 3) := by decide +kernel
theorem d_Rm_startAndSettle_52 : decode b_Rm_startAndSettle 52 = .ok (.invokevirtual 217, 3) := by decide +kernel
theorem d_Rm_startAndSettle_55 : decode b_Rm_startAndSettle 55 = .ok (.ifCond .eq 8, 3) := by decide +kernel
theorem d_Rm_startAndSettle_58 : decode b_Rm_startAndSettle 58 = .ok (.aload_n 0, 1) := by decide +kernel
theorem d_Rm_startAndSettle_59 : decode b_Rm_startAndSettle 59 = .ok (.iconst 0, 1) := by decide +kernel
theorem d_Rm_startAndSettle_60 : decode b_Rm_startAndSettle 60 = .ok (.putfield 49, 3) := by decide +kernel
theorem d_Rm_startAndSettle_63 : decode b_Rm_startAndSettle 63 = .ok (.iload_n 1, 1) := by decide +kernel
theorem d_Rm_startAndSettle_64 : decode b_Rm_startAndSettle 64 = .ok (.ireturn, 1) := by decide +kernel
theorem d_Rm_mayStart_0 : decode b_Rm_mayStart 0 = .ok (.aload_n 0, 1) := by decide +kernel
theorem d_Rm_mayStart_1 : decode b_Rm_mayStart 1 = .ok (.getfield 42, 3) := by decide +kernel
theorem d_Rm_mayStart_4 : decode b_Rm_mayStart 4 = .ok (.iload_n 1, 1) := by decide +kernel
theorem d_Rm_mayStart_5 : decode b_Rm_mayStart 5 = .ok (.invokevirtual 221, 3) := by decide +kernel
theorem d_Rm_mayStart_8 : decode b_Rm_mayStart 8 = .ok (.ifCond .ne 5, 3) := by decide +kernel
theorem d_Rm_mayStart_11 : decode b_Rm_mayStart 11 = .ok (.iconst 0, 1) := by decide +kernel
theorem d_Rm_mayStart_12 : decode b_Rm_mayStart 12 = .ok (.ireturn, 1) := by decide +kernel
theorem d_Rm_mayStart_13 : decode b_Rm_mayStart 13 = .ok (.aload_n 0, 1) := by decide +kernel
theorem d_Rm_mayStart_14 : decode b_Rm_mayStart 14 = .ok (.getfield 35, 3) := by decide +kernel
theorem d_Rm_mayStart_17 : decode b_Rm_mayStart 17 = .ok (.aload_n 0, 1) := by decide +kernel
theorem d_Rm_mayStart_18 : decode b_Rm_mayStart 18 = .ok (.getfield 42, 3) := by decide +kernel
theorem d_Rm_mayStart_21 : decode b_Rm_mayStart 21 = .ok (.iload_n 1, 1) := by decide +kernel
theorem d_Rm_mayStart_22 : decode b_Rm_mayStart 22 = .ok (.invokevirtual 179, 3) := by decide +kernel
theorem d_Rm_mayStart_25 : decode b_Rm_mayStart 25 = .ok (.aload_n 0, 1) := by decide +kernel
theorem d_Rm_mayStart_26 : decode b_Rm_mayStart 26 = .ok (.getfield 35, 3) := by decide +kernel
theorem d_Rm_mayStart_29 : decode b_Rm_mayStart 29 = .ok (.aload_n 0, 1) := by decide +kernel
theorem d_Rm_mayStart_30 : decode b_Rm_mayStart 30 = .ok (.getfield 28, 3) := by decide +kernel
theorem d_Rm_mayStart_33 : decode b_Rm_mayStart 33 = .ok (.aload_n 0, 1) := by decide +kernel
theorem d_Rm_mayStart_34 : decode b_Rm_mayStart 34 = .ok (.getfield 94, 3) := by decide +kernel
theorem d_Rm_mayStart_37 : decode b_Rm_mayStart 37 = .ok (.invokevirtual 224, 3) := by decide +kernel
theorem d_Rm_mayStart_40 : decode b_Rm_mayStart 40 = .ok (.ireturn, 1) := by decide +kernel
