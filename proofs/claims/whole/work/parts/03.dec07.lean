theorem d_PlanReader_init_0 : decode b_PlanReader_init 0 = .ok (.aload_n 0, 1) := by decide +kernel
theorem d_PlanReader_init_1 : decode b_PlanReader_init 1 = .ok (.invokespecial 3, 3) := by decide +kernel
theorem d_PlanReader_init_4 : decode b_PlanReader_init 4 = .ok (.aload_n 0, 1) := by decide +kernel
theorem d_PlanReader_init_5 : decode b_PlanReader_init 5 = .ok (.aload_n 1, 1) := by decide +kernel
theorem d_PlanReader_init_6 : decode b_PlanReader_init 6 = .ok (.putfield 9, 3) := by decide +kernel
theorem d_PlanReader_init_9 : decode b_PlanReader_init 9 = .ok (.return_, 1) := by decide +kernel
theorem d_PlanReader_read_0 : decode b_PlanReader_read 0 = .ok (.aload_n 0, 1) := by decide +kernel
theorem d_PlanReader_read_1 : decode b_PlanReader_read 1 = .ok (.iconst 0, 1) := by decide +kernel
theorem d_PlanReader_read_2 : decode b_PlanReader_read 2 = .ok (.putfield 15, 3) := by decide +kernel
theorem d_PlanReader_read_5 : decode b_PlanReader_read 5 = .ok (.iconst 0, 1) := by decide +kernel
theorem d_PlanReader_read_6 : decode b_PlanReader_read 6 = .ok (.istore_n 2, 1) := by decide +kernel
theorem d_PlanReader_read_7 : decode b_PlanReader_read 7 = .ok (.iload_n 2, 1) := by decide +kernel
theorem d_PlanReader_read_8 : decode b_PlanReader_read 8 = .ok (.bipush 8, 2) := by decide +kernel
theorem d_PlanReader_read_10 : decode b_PlanReader_read 10 = .ok (.if_icmp .ge 84, 3) := by decide +kernel
theorem d_PlanReader_read_13 : decode b_PlanReader_read 13 = .ok (.aload_n 1, 1) := by decide +kernel
theorem d_PlanReader_read_14 : decode b_PlanReader_read 14 = .ok (.getfield 21, 3) := by decide +kernel
theorem d_PlanReader_read_17 : decode b_PlanReader_read 17 = .ok (.iload_n 2, 1) := by decide +kernel
theorem d_PlanReader_read_18 : decode b_PlanReader_read 18 = .ok (.aaload, 1) := by decide +kernel
theorem d_PlanReader_read_19 : decode b_PlanReader_read 19 = .ok (.astore_n 3, 1) := by decide +kernel
theorem d_PlanReader_read_20 : decode b_PlanReader_read 20 = .ok (.aload_n 3, 1) := by decide +kernel
theorem d_PlanReader_read_21 : decode b_PlanReader_read 21 = .ok (.invokevirtual 25, 3) := by decide +kernel
theorem d_PlanReader_read_24 : decode b_PlanReader_read 24 = .ok (.iload_n 2, 1) := by decide +kernel
theorem d_PlanReader_read_25 : decode b_PlanReader_read 25 = .ok (.ifCond .le 12, 3) := by decide +kernel
theorem d_PlanReader_read_28 : decode b_PlanReader_read 28 = .ok (.aload_n 0, 1) := by decide +kernel
theorem d_PlanReader_read_29 : decode b_PlanReader_read 29 = .ok (.bipush 59, 2) := by decide +kernel
theorem d_PlanReader_read_31 : decode b_PlanReader_read 31 = .ok (.invokevirtual 30, 3) := by decide +kernel
theorem d_PlanReader_read_34 : decode b_PlanReader_read 34 = .ok (.ifCond .eq 24, 3) := by decide +kernel
theorem d_PlanReader_read_37 : decode b_PlanReader_read 37 = .ok (.aload_n 0, 1) := by decide +kernel
theorem d_PlanReader_read_38 : decode b_PlanReader_read 38 = .ok (.aload_n 3, 1) := by decide +kernel
theorem d_PlanReader_read_39 : decode b_PlanReader_read 39 = .ok (.bipush 97, 2) := by decide +kernel
theorem d_PlanReader_read_41 : decode b_PlanReader_read 41 = .ok (.iload_n 2, 1) := by decide +kernel
theorem d_PlanReader_read_42 : decode b_PlanReader_read 42 = .ok (.iadd, 1) := by decide +kernel
theorem d_PlanReader_read_43 : decode b_PlanReader_read 43 = .ok (.i2c, 1) := by decide +kernel
theorem d_PlanReader_read_44 : decode b_PlanReader_read 44 = .ok (.invokevirtual 34, 3) := by decide +kernel
theorem d_PlanReader_read_47 : decode b_PlanReader_read 47 = .ok (.ifCond .eq 11, 3) := by decide +kernel
theorem d_PlanReader_read_50 : decode b_PlanReader_read 50 = .ok (.aload_n 0, 1) := by decide +kernel
theorem d_PlanReader_read_51 : decode b_PlanReader_read 51 = .ok (.aload_n 3, 1) := by decide +kernel
theorem d_PlanReader_read_52 : decode b_PlanReader_read 52 = .ok (.invokevirtual 38, 3) := by decide +kernel
theorem d_PlanReader_read_55 : decode b_PlanReader_read 55 = .ok (.ifCond .ne 10, 3) := by decide +kernel
theorem d_PlanReader_read_58 : decode b_PlanReader_read 58 = .ok (.aload_n 0, 1) := by decide +kernel
theorem d_PlanReader_read_59 : decode b_PlanReader_read 59 = .ok (.getfield 15, 3) := by decide +kernel
theorem d_PlanReader_read_62 : decode b_PlanReader_read 62 = .ok (.iconst 1, 1) := by decide +kernel
theorem d_PlanReader_read_63 : decode b_PlanReader_read 63 = .ok (.iadd, 1) := by decide +kernel
theorem d_PlanReader_read_64 : decode b_PlanReader_read 64 = .ok (.ireturn, 1) := by decide +kernel
theorem d_PlanReader_read_65 : decode b_PlanReader_read 65 = .ok (.aload_n 1, 1) := by decide +kernel
theorem d_PlanReader_read_66 : decode b_PlanReader_read 66 = .ok (.iload_n 2, 1) := by decide +kernel
theorem d_PlanReader_read_67 : decode b_PlanReader_read 67 = .ok (.iconst 1, 1) := by decide +kernel
theorem d_PlanReader_read_68 : decode b_PlanReader_read 68 = .ok (.iadd, 1) := by decide +kernel
theorem d_PlanReader_read_69 : decode b_PlanReader_read 69 = .ok (.putfield 42, 3) := by decide +kernel
theorem d_PlanReader_read_72 : decode b_PlanReader_read 72 = .ok (.aload_n 0, 1) := by decide +kernel
theorem d_PlanReader_read_73 : decode b_PlanReader_read 73 = .ok (.getfield 15, 3) := by decide +kernel
theorem d_PlanReader_read_76 : decode b_PlanReader_read 76 = .ok (.aload_n 0, 1) := by decide +kernel
theorem d_PlanReader_read_77 : decode b_PlanReader_read 77 = .ok (.getfield 9, 3) := by decide +kernel
theorem d_PlanReader_read_80 : decode b_PlanReader_read 80 = .ok (.getfield 45, 3) := by decide +kernel
theorem d_PlanReader_read_83 : decode b_PlanReader_read 83 = .ok (.if_icmp .ne 5, 3) := by decide +kernel
theorem d_PlanReader_read_86 : decode b_PlanReader_read 86 = .ok (.iconst 0, 1) := by decide +kernel
theorem d_PlanReader_read_87 : decode b_PlanReader_read 87 = .ok (.ireturn, 1) := by decide +kernel
theorem d_PlanReader_read_88 : decode b_PlanReader_read 88 = .ok (.iinc 2 1, 3) := by decide +kernel
theorem d_PlanReader_read_91 : decode b_PlanReader_read 91 = .ok (.goto (-84), 3) := by decide +kernel
theorem d_PlanReader_read_94 : decode b_PlanReader_read 94 = .ok (.aload_n 0, 1) := by decide +kernel
theorem d_PlanReader_read_95 : decode b_PlanReader_read 95 = .ok (.getfield 15, 3) := by decide +kernel
theorem d_PlanReader_read_98 : decode b_PlanReader_read 98 = .ok (.iconst 1, 1) := by decide +kernel
theorem d_PlanReader_read_99 : decode b_PlanReader_read 99 = .ok (.iadd, 1) := by decide +kernel
theorem d_PlanReader_read_100 : decode b_PlanReader_read 100 = .ok (.ireturn, 1) := by decide +kernel
theorem d_PlanReader_readTimes_0 : decode b_PlanReader_readTimes 0 = .ok (.aload_n 0, 1) := by decide +kernel
theorem d_PlanReader_readTimes_1 : decode b_PlanReader_readTimes 1 = .ok (.iload_n 2, 1) := by decide +kernel
theorem d_PlanReader_readTimes_2 : decode b_PlanReader_readTimes 2 = .ok (.invokevirtual 30, 3) := by decide +kernel
theorem d_PlanReader_readTimes_5 : decode b_PlanReader_readTimes 5 = .ok (.ifCond .ne 5, 3) := by decide +kernel
theorem d_PlanReader_readTimes_8 : decode b_PlanReader_readTimes 8 = .ok (.iconst 0, 1) := by decide +kernel
theorem d_PlanReader_readTimes_9 : decode b_PlanReader_readTimes 9 = .ok (.ireturn, 1) := by decide +kernel
theorem d_PlanReader_readTimes_10 : decode b_PlanReader_readTimes 10 = .ok (.aload_n 1, 1) := by decide +kernel
theorem d_PlanReader_readTimes_11 : decode b_PlanReader_readTimes 11 = .ok (.aload_n 0, 1) := by decide +kernel
theorem d_PlanReader_readTimes_12 : decode b_PlanReader_readTimes 12 = .ok (.invokevirtual 50, 3) := by decide +kernel
theorem d_PlanReader_readTimes_15 : decode b_PlanReader_readTimes 15 = .ok (.putfield 54, 3) := by decide +kernel
theorem d_PlanReader_readTimes_18 : decode b_PlanReader_readTimes 18 = .ok (.aload_n 1, 1) := by decide +kernel
theorem d_PlanReader_readTimes_19 : decode b_PlanReader_readTimes 19 = .ok (.getfield 54, 3) := by decide +kernel
theorem d_PlanReader_readTimes_22 : decode b_PlanReader_readTimes 22 = .ok (.iconst (-1), 1) := by decide +kernel
theorem d_PlanReader_readTimes_23 : decode b_PlanReader_readTimes 23 = .ok (.if_icmp .eq 12, 3) := by decide +kernel
theorem d_PlanReader_readTimes_26 : decode b_PlanReader_readTimes 26 = .ok (.aload_n 0, 1) := by decide +kernel
theorem d_PlanReader_readTimes_27 : decode b_PlanReader_readTimes 27 = .ok (.bipush 45, 2) := by decide +kernel
theorem d_PlanReader_readTimes_29 : decode b_PlanReader_readTimes 29 = .ok (.invokevirtual 30, 3) := by decide +kernel
theorem d_PlanReader_readTimes_32 : decode b_PlanReader_readTimes 32 = .ok (.ifCond .ne 5, 3) := by decide +kernel
theorem d_PlanReader_readTimes_35 : decode b_PlanReader_readTimes 35 = .ok (.iconst 0, 1) := by decide +kernel
theorem d_PlanReader_readTimes_36 : decode b_PlanReader_readTimes 36 = .ok (.ireturn, 1) := by decide +kernel
theorem d_PlanReader_readTimes_37 : decode b_PlanReader_readTimes 37 = .ok (.aload_n 1, 1) := by decide +kernel
theorem d_PlanReader_readTimes_38 : decode b_PlanReader_readTimes 38 = .ok (.aload_n 0, 1) := by decide +kernel
theorem d_PlanReader_readTimes_39 : decode b_PlanReader_readTimes 39 = .ok (.invokevirtual 50, 3) := by decide +kernel
theorem d_PlanReader_readTimes_42 : decode b_PlanReader_readTimes 42 = .ok (.putfield 57, 3) := by decide +kernel
theorem d_PlanReader_readTimes_45 : decode b_PlanReader_readTimes 45 = .ok (.aload_n 1, 1) := by decide +kernel
theorem d_PlanReader_readTimes_46 : decode b_PlanReader_readTimes 46 = .ok (.getfield 57, 3) := by decide +kernel
theorem d_PlanReader_readTimes_49 : decode b_PlanReader_readTimes 49 = .ok (.iconst (-1), 1) := by decide +kernel
theorem d_PlanReader_readTimes_50 : decode b_PlanReader_readTimes 50 = .ok (.if_icmp .eq 7, 3) := by decide +kernel
theorem d_PlanReader_readTimes_53 : decode b_PlanReader_readTimes 53 = .ok (.iconst 1, 1) := by decide +kernel
theorem d_PlanReader_readTimes_54 : decode b_PlanReader_readTimes 54 = .ok (.goto 4, 3) := by decide +kernel
theorem d_PlanReader_readTimes_57 : decode b_PlanReader_readTimes 57 = .ok (.iconst 0, 1) := by decide +kernel
theorem d_PlanReader_readTimes_58 : decode b_PlanReader_readTimes 58 = .ok (.ireturn, 1) := by decide +kernel
theorem d_PlanReader_readOptions_0 : decode b_PlanReader_readOptions 0 = .ok (.iconst 0, 1) := by decide +kernel
theorem d_PlanReader_readOptions_1 : decode b_PlanReader_readOptions 1 = .ok (.istore_n 2, 1) := by decide +kernel
theorem d_PlanReader_readOptions_2 : decode b_PlanReader_readOptions 2 = .ok (.iconst 0, 1) := by decide +kernel
theorem d_PlanReader_readOptions_3 : decode b_PlanReader_readOptions 3 = .ok (.istore_n 3, 1) := by decide +kernel
theorem d_PlanReader_readOptions_4 : decode b_PlanReader_readOptions 4 = .ok (.iload_n 3, 1) := by decide +kernel
theorem d_PlanReader_readOptions_5 : decode b_PlanReader_readOptions 5 = .ok (.bipush 64, 2) := by decide +kernel
theorem d_PlanReader_readOptions_7 : decode b_PlanReader_readOptions 7 = .ok (.if_icmp .ge 129, 3) := by decide +kernel
theorem d_PlanReader_readOptions_10 : decode b_PlanReader_readOptions 10 = .ok (.aload_n 0, 1) := by decide +kernel
theorem d_PlanReader_readOptions_11 : decode b_PlanReader_readOptions 11 = .ok (.getfield 15, 3) := by decide +kernel
theorem d_PlanReader_readOptions_14 : decode b_PlanReader_readOptions 14 = .ok (.aload_n 0, 1) := by decide +kernel
theorem d_PlanReader_readOptions_15 : decode b_PlanReader_readOptions 15 = .ok (.getfield 9, 3) := by decide +kernel
theorem d_PlanReader_readOptions_18 : decode b_PlanReader_readOptions 18 = .ok (.getfield 45, 3) := by decide +kernel
theorem d_PlanReader_readOptions_21 : decode b_PlanReader_readOptions 21 = .ok (.if_icmp .ge 115, 3) := by decide +kernel
theorem d_PlanReader_readOptions_24 : decode b_PlanReader_readOptions 24 = .ok (.aload_n 0, 1) := by decide +kernel
theorem d_PlanReader_readOptions_25 : decode b_PlanReader_readOptions 25 = .ok (.getfield 9, 3) := by decide +kernel
theorem d_PlanReader_readOptions_28 : decode b_PlanReader_readOptions 28 = .ok (.getfield 60, 3) := by decide +kernel
theorem d_PlanReader_readOptions_31 : decode b_PlanReader_readOptions 31 = .ok (.aload_n 0, 1) := by decide +kernel
theorem d_PlanReader_readOptions_32 : decode b_PlanReader_readOptions 32 = .ok (.getfield 15, 3) := by decide +kernel
theorem d_PlanReader_readOptions_35 : decode b_PlanReader_readOptions 35 = .ok (.caload, 1) := by decide +kernel
theorem d_PlanReader_readOptions_36 : decode b_PlanReader_readOptions 36 = .ok (.istore 4, 2) := by decide +kernel
theorem d_PlanReader_readOptions_38 : decode b_PlanReader_readOptions 38 = .ok (.ldc 64, 2) := by decide +kernel
theorem d_PlanReader_readOptions_40 : decode b_PlanReader_readOptions 40 = .ok (.iload 4, 2) := by decide +kernel
theorem d_PlanReader_readOptions_42 : decode b_PlanReader_readOptions 42 = .ok (.invokevirtual 66, 3) := by decide +kernel
theorem d_PlanReader_readOptions_45 : decode b_PlanReader_readOptions 45 = .ok (.istore 5, 2) := by decide +kernel
theorem d_PlanReader_readOptions_47 : decode b_PlanReader_readOptions 47 = .ok (.iload 5, 2) := by decide +kernel
theorem d_PlanReader_readOptions_49 : decode b_PlanReader_readOptions 49 = .ok (.ifCond .lt 43, 3) := by decide +kernel
theorem d_PlanReader_readOptions_52 : decode b_PlanReader_readOptions 52 = .ok (.iload_n 2, 1) := by decide +kernel
theorem d_PlanReader_readOptions_53 : decode b_PlanReader_readOptions 53 = .ok (.iload 5, 2) := by decide +kernel
theorem d_PlanReader_readOptions_55 : decode b_PlanReader_readOptions 55 = .ok (.ishr, 1) := by decide +kernel
theorem d_PlanReader_readOptions_56 : decode b_PlanReader_readOptions 56 = .ok (.iconst 1, 1) := by decide +kernel
theorem d_PlanReader_readOptions_57 : decode b_PlanReader_readOptions 57 = .ok (.iand, 1) := by decide +kernel
theorem d_PlanReader_readOptions_58 : decode b_PlanReader_readOptions 58 = .ok (.ifCond .eq 5, 3) := by decide +kernel
theorem d_PlanReader_readOptions_61 : decode b_PlanReader_readOptions 61 = .ok (.iconst 0, 1) := by decide +kernel
theorem d_PlanReader_readOptions_62 : decode b_PlanReader_readOptions 62 = .ok (.ireturn, 1) := by decide +kernel
theorem d_PlanReader_readOptions_63 : decode b_PlanReader_readOptions 63 = .ok (.iload_n 2, 1) := by decide +kernel
theorem d_PlanReader_readOptions_64 : decode b_PlanReader_readOptions 64 = .ok (.iconst 1, 1) := by decide +kernel
theorem d_PlanReader_readOptions_65 : decode b_PlanReader_readOptions 65 = .ok (.iload 5, 2) := by decide +kernel
theorem d_PlanReader_readOptions_67 : decode b_PlanReader_readOptions 67 = .ok (.ishl, 1) := by decide +kernel
theorem d_PlanReader_readOptions_68 : decode b_PlanReader_readOptions 68 = .ok (.ior, 1) := by decide +kernel
theorem d_PlanReader_readOptions_69 : decode b_PlanReader_readOptions 69 = .ok (.istore_n 2, 1) := by decide +kernel
theorem d_PlanReader_readOptions_70 : decode b_PlanReader_readOptions 70 = .ok (.aload_n 0, 1) := by decide +kernel
theorem d_PlanReader_readOptions_71 : decode b_PlanReader_readOptions 71 = .ok (.dup, 1) := by decide +kernel
theorem d_PlanReader_readOptions_72 : decode b_PlanReader_readOptions 72 = .ok (.getfield 15, 3) := by decide +kernel
theorem d_PlanReader_readOptions_75 : decode b_PlanReader_readOptions 75 = .ok (.iconst 1, 1) := by decide +kernel
theorem d_PlanReader_readOptions_76 : decode b_PlanReader_readOptions 76 = .ok (.iadd, 1) := by decide +kernel
theorem d_PlanReader_readOptions_77 : decode b_PlanReader_readOptions 77 = .ok (.putfield 15, 3) := by decide +kernel
theorem d_PlanReader_readOptions_80 : decode b_PlanReader_readOptions 80 = .ok (.aload_n 0, 1) := by decide +kernel
theorem d_PlanReader_readOptions_81 : decode b_PlanReader_readOptions 81 = .ok (.aload_n 1, 1) := by decide +kernel
theorem d_PlanReader_readOptions_82 : decode b_PlanReader_readOptions 82 = .ok (.iload 5, 2) := by decide +kernel
theorem d_PlanReader_readOptions_84 : decode b_PlanReader_readOptions 84 = .ok (.invokevirtual 72, 3) := by decide +kernel
theorem d_PlanReader_readOptions_87 : decode b_PlanReader_readOptions 87 = .ok (.ifCond .ne 43, 3) := by decide +kernel
theorem d_PlanReader_readOptions_90 : decode b_PlanReader_readOptions 90 = .ok (.iconst 0, 1) := by decide +kernel
theorem d_PlanReader_readOptions_91 : decode b_PlanReader_readOptions 91 = .ok (.ireturn, 1) := by decide +kernel
theorem d_PlanReader_readOptions_92 : decode b_PlanReader_readOptions 92 = .ok (.iload 4, 2) := by decide +kernel
theorem d_PlanReader_readOptions_94 : decode b_PlanReader_readOptions 94 = .ok (.bipush 62, 2) := by decide +kernel
theorem d_PlanReader_readOptions_96 : decode b_PlanReader_readOptions 96 = .ok (.if_icmp .eq 10, 3) := by decide +kernel
theorem d_PlanReader_readOptions_99 : decode b_PlanReader_readOptions 99 = .ok (.iload 4, 2) := by decide +kernel
theorem d_PlanReader_readOptions_101 : decode b_PlanReader_readOptions 101 = .ok (.bipush 47, 2) := by decide +kernel
theorem d_PlanReader_readOptions_103 : decode b_PlanReader_readOptions 103 = .ok (.if_icmp .ne 25, 3) := by decide +kernel
theorem d_PlanReader_readOptions_106 : decode b_PlanReader_readOptions 106 = .ok (.aload_n 0, 1) := by decide +kernel
theorem d_PlanReader_readOptions_107 : decode b_PlanReader_readOptions 107 = .ok (.dup, 1) := by decide +kernel
theorem d_PlanReader_readOptions_108 : decode b_PlanReader_readOptions 108 = .ok (.getfield 15, 3) := by decide +kernel
theorem d_PlanReader_readOptions_111 : decode b_PlanReader_readOptions 111 = .ok (.iconst 1, 1) := by decide +kernel
theorem d_PlanReader_readOptions_112 : decode b_PlanReader_readOptions 112 = .ok (.iadd, 1) := by decide +kernel
theorem d_PlanReader_readOptions_113 : decode b_PlanReader_readOptions 113 = .ok (.putfield 15, 3) := by decide +kernel
theorem d_PlanReader_readOptions_116 : decode b_PlanReader_readOptions 116 = .ok (.aload_n 0, 1) := by decide +kernel
theorem d_PlanReader_readOptions_117 : decode b_PlanReader_readOptions 117 = .ok (.aload_n 1, 1) := by decide +kernel
theorem d_PlanReader_readOptions_118 : decode b_PlanReader_readOptions 118 = .ok (.iload 4, 2) := by decide +kernel
theorem d_PlanReader_readOptions_120 : decode b_PlanReader_readOptions 120 = .ok (.invokevirtual 76, 3) := by decide +kernel
theorem d_PlanReader_readOptions_123 : decode b_PlanReader_readOptions 123 = .ok (.ifCond .ne 7, 3) := by decide +kernel
theorem d_PlanReader_readOptions_126 : decode b_PlanReader_readOptions 126 = .ok (.iconst 0, 1) := by decide +kernel
theorem d_PlanReader_readOptions_127 : decode b_PlanReader_readOptions 127 = .ok (.ireturn, 1) := by decide +kernel
theorem d_PlanReader_readOptions_128 : decode b_PlanReader_readOptions 128 = .ok (.iconst 1, 1) := by decide +kernel
theorem d_PlanReader_readOptions_129 : decode b_PlanReader_readOptions 129 = .ok (.ireturn, 1) := by decide +kernel
theorem d_PlanReader_readOptions_130 : decode b_PlanReader_readOptions 130 = .ok (.iinc 3 1, 3) := by decide +kernel
theorem d_PlanReader_readOptions_133 : decode b_PlanReader_readOptions 133 = .ok (.goto (-129), 3) := by decide +kernel
theorem d_PlanReader_readOptions_136 : decode b_PlanReader_readOptions 136 = .ok (.iconst 1, 1) := by decide +kernel
theorem d_PlanReader_readOptions_137 : decode b_PlanReader_readOptions 137 = .ok (.ireturn, 1) := by decide +kernel
theorem d_PlanReader_readValue_0 : decode b_PlanReader_readValue 0 = .ok (.aload_n 0, 1) := by decide +kernel
theorem d_PlanReader_readValue_1 : decode b_PlanReader_readValue 1 = .ok (.invokevirtual 50, 3) := by decide +kernel
theorem d_PlanReader_readValue_4 : decode b_PlanReader_readValue 4 = .ok (.istore_n 3, 1) := by decide +kernel
theorem d_PlanReader_readValue_5 : decode b_PlanReader_readValue 5 = .ok (.iload_n 3, 1) := by decide +kernel
theorem d_PlanReader_readValue_6 : decode b_PlanReader_readValue 6 = .ok (.iconst (-1), 1) := by decide +kernel
theorem d_PlanReader_readValue_7 : decode b_PlanReader_readValue 7 = .ok (.if_icmp .ne 5, 3) := by decide +kernel
theorem d_PlanReader_readValue_10 : decode b_PlanReader_readValue 10 = .ok (.iconst 0, 1) := by decide +kernel
theorem d_PlanReader_readValue_11 : decode b_PlanReader_readValue 11 = .ok (.ireturn, 1) := by decide +kernel
theorem d_PlanReader_readValue_12 : decode b_PlanReader_readValue 12 = .ok (.iload_n 2, 1) := by decide +kernel
theorem d_PlanReader_readValue_13 : decode b_PlanReader_readValue 13 = .ok (.tableswitch 63 0 3 #[31, 39, 47, 55], 31) := by decide +kernel
theorem d_PlanReader_readValue_44 : decode b_PlanReader_readValue 44 = .ok (.aload_n 1, 1) := by decide +kernel
theorem d_PlanReader_readValue_45 : decode b_PlanReader_readValue 45 = .ok (.iload_n 3, 1) := by decide +kernel
theorem d_PlanReader_readValue_46 : decode b_PlanReader_readValue 46 = .ok (.putfield 79, 3) := by decide +kernel
theorem d_PlanReader_readValue_49 : decode b_PlanReader_readValue 49 = .ok (.goto 32, 3) := by decide +kernel
theorem d_PlanReader_readValue_52 : decode b_PlanReader_readValue 52 = .ok (.aload_n 1, 1) := by decide +kernel
theorem d_PlanReader_readValue_53 : decode b_PlanReader_readValue 53 = .ok (.iload_n 3, 1) := by decide +kernel
theorem d_PlanReader_readValue_54 : decode b_PlanReader_readValue 54 = .ok (.putfield 82, 3) := by decide +kernel
theorem d_PlanReader_readValue_57 : decode b_PlanReader_readValue 57 = .ok (.goto 24, 3) := by decide +kernel
theorem d_PlanReader_readValue_60 : decode b_PlanReader_readValue 60 = .ok (.aload_n 1, 1) := by decide +kernel
theorem d_PlanReader_readValue_61 : decode b_PlanReader_readValue 61 = .ok (.iload_n 3, 1) := by decide +kernel
theorem d_PlanReader_readValue_62 : decode b_PlanReader_readValue 62 = .ok (.putfield 85, 3) := by decide +kernel
theorem d_PlanReader_readValue_65 : decode b_PlanReader_readValue 65 = .ok (.goto 16, 3) := by decide +kernel
theorem d_PlanReader_readValue_68 : decode b_PlanReader_readValue 68 = .ok (.aload_n 1, 1) := by decide +kernel
theorem d_PlanReader_readValue_69 : decode b_PlanReader_readValue 69 = .ok (.iload_n 3, 1) := by decide +kernel
theorem d_PlanReader_readValue_70 : decode b_PlanReader_readValue 70 = .ok (.putfield 88, 3) := by decide +kernel
theorem d_PlanReader_readValue_73 : decode b_PlanReader_readValue 73 = .ok (.goto 8, 3) := by decide +kernel
theorem d_PlanReader_readValue_76 : decode b_PlanReader_readValue 76 = .ok (.aload_n 1, 1) := by decide +kernel
theorem d_PlanReader_readValue_77 : decode b_PlanReader_readValue 77 = .ok (.iload_n 3, 1) := by decide +kernel
theorem d_PlanReader_readValue_78 : decode b_PlanReader_readValue 78 = .ok (.putfield 91, 3) := by decide +kernel
theorem d_PlanReader_readValue_81 : decode b_PlanReader_readValue 81 = .ok (.iconst 1, 1) := by decide +kernel
theorem d_PlanReader_readValue_82 : decode b_PlanReader_readValue 82 = .ok (.ireturn, 1) := by decide +kernel
theorem d_PlanReader_readLink_0 : decode b_PlanReader_readLink 0 = .ok (.aload_n 0, 1) := by decide +kernel
theorem d_PlanReader_readLink_1 : decode b_PlanReader_readLink 1 = .ok (.getfield 15, 3) := by decide +kernel
theorem d_PlanReader_readLink_4 : decode b_PlanReader_readLink 4 = .ok (.aload_n 0, 1) := by decide +kernel
theorem d_PlanReader_readLink_5 : decode b_PlanReader_readLink 5 = .ok (.getfield 9, 3) := by decide +kernel
theorem d_PlanReader_readLink_8 : decode b_PlanReader_readLink 8 = .ok (.getfield 45, 3) := by decide +kernel
theorem d_PlanReader_readLink_11 : decode b_PlanReader_readLink 11 = .ok (.if_icmp .ge 37, 3) := by decide +kernel
theorem d_PlanReader_readLink_14 : decode b_PlanReader_readLink 14 = .ok (.aload_n 0, 1) := by decide +kernel
theorem d_PlanReader_readLink_15 : decode b_PlanReader_readLink 15 = .ok (.getfield 9, 3) := by decide +kernel
theorem d_PlanReader_readLink_18 : decode b_PlanReader_readLink 18 = .ok (.getfield 60, 3) := by decide +kernel
theorem d_PlanReader_readLink_21 : decode b_PlanReader_readLink 21 = .ok (.aload_n 0, 1) := by decide +kernel
theorem d_PlanReader_readLink_22 : decode b_PlanReader_readLink 22 = .ok (.getfield 15, 3) := by decide +kernel
theorem d_PlanReader_readLink_25 : decode b_PlanReader_readLink 25 = .ok (.caload, 1) := by decide +kernel
theorem d_PlanReader_readLink_26 : decode b_PlanReader_readLink 26 = .ok (.bipush 97, 2) := by decide +kernel
theorem d_PlanReader_readLink_28 : decode b_PlanReader_readLink 28 = .ok (.if_icmp .lt 20, 3) := by decide +kernel
theorem d_PlanReader_readLink_31 : decode b_PlanReader_readLink 31 = .ok (.aload_n 0, 1) := by decide +kernel
theorem d_PlanReader_readLink_32 : decode b_PlanReader_readLink 32 = .ok (.getfield 9, 3) := by decide +kernel
theorem d_PlanReader_readLink_35 : decode b_PlanReader_readLink 35 = .ok (.getfield 60, 3) := by decide +kernel
theorem d_PlanReader_readLink_38 : decode b_PlanReader_readLink 38 = .ok (.aload_n 0, 1) := by decide +kernel
theorem d_PlanReader_readLink_39 : decode b_PlanReader_readLink 39 = .ok (.getfield 15, 3) := by decide +kernel
theorem d_PlanReader_readLink_42 : decode b_PlanReader_readLink 42 = .ok (.caload, 1) := by decide +kernel
theorem d_PlanReader_readLink_43 : decode b_PlanReader_readLink 43 = .ok (.bipush 122, 2) := by decide +kernel
theorem d_PlanReader_readLink_45 : decode b_PlanReader_readLink 45 = .ok (.if_icmp .le 5, 3) := by decide +kernel
theorem d_PlanReader_readLink_48 : decode b_PlanReader_readLink 48 = .ok (.iconst 0, 1) := by decide +kernel
theorem d_PlanReader_readLink_49 : decode b_PlanReader_readLink 49 = .ok (.ireturn, 1) := by decide +kernel
theorem d_PlanReader_readLink_50 : decode b_PlanReader_readLink 50 = .ok (.iconst 1, 1) := by decide +kernel
theorem d_PlanReader_readLink_51 : decode b_PlanReader_readLink 51 = .ok (.aload_n 0, 1) := by decide +kernel
theorem d_PlanReader_readLink_52 : decode b_PlanReader_readLink 52 = .ok (.getfield 9, 3) := by decide +kernel
theorem d_PlanReader_readLink_55 : decode b_PlanReader_readLink 55 = .ok (.getfield 60, 3) := by decide +kernel
theorem d_PlanReader_readLink_58 : decode b_PlanReader_readLink 58 = .ok (.aload_n 0, 1) := by decide +kernel
theorem d_PlanReader_readLink_59 : decode b_PlanReader_readLink 59 = .ok (.getfield 15, 3) := by decide +kernel
theorem d_PlanReader_readLink_62 : decode b_PlanReader_readLink 62 = .ok (.caload, 1) := by decide +kernel
theorem d_PlanReader_readLink_63 : decode b_PlanReader_readLink 63 = .ok (.bipush 97, 2) := by decide +kernel
theorem d_PlanReader_readLink_65 : decode b_PlanReader_readLink 65 = .ok (.isub, 1) := by decide +kernel
theorem d_PlanReader_readLink_66 : decode b_PlanReader_readLink 66 = .ok (.ishl, 1) := by decide +kernel
theorem d_PlanReader_readLink_67 : decode b_PlanReader_readLink 67 = .ok (.istore_n 3, 1) := by decide +kernel
theorem d_PlanReader_readLink_68 : decode b_PlanReader_readLink 68 = .ok (.aload_n 0, 1) := by decide +kernel
theorem d_PlanReader_readLink_69 : decode b_PlanReader_readLink 69 = .ok (.dup, 1) := by decide +kernel
theorem d_PlanReader_readLink_70 : decode b_PlanReader_readLink 70 = .ok (.getfield 15, 3) := by decide +kernel
theorem d_PlanReader_readLink_73 : decode b_PlanReader_readLink 73 = .ok (.iconst 1, 1) := by decide +kernel
theorem d_PlanReader_readLink_74 : decode b_PlanReader_readLink 74 = .ok (.iadd, 1) := by decide +kernel
theorem d_PlanReader_readLink_75 : decode b_PlanReader_readLink 75 = .ok (.putfield 15, 3) := by decide +kernel
theorem d_PlanReader_readLink_78 : decode b_PlanReader_readLink 78 = .ok (.iload_n 2, 1) := by decide +kernel
theorem d_PlanReader_readLink_79 : decode b_PlanReader_readLink 79 = .ok (.bipush 62, 2) := by decide +kernel
theorem d_PlanReader_readLink_81 : decode b_PlanReader_readLink 81 = .ok (.if_icmp .ne 16, 3) := by decide +kernel
theorem d_PlanReader_readLink_84 : decode b_PlanReader_readLink 84 = .ok (.aload_n 1, 1) := by decide +kernel
theorem d_PlanReader_readLink_85 : decode b_PlanReader_readLink 85 = .ok (.dup, 1) := by decide +kernel
theorem d_PlanReader_readLink_86 : decode b_PlanReader_readLink 86 = .ok (.getfield 94, 3) := by decide +kernel
theorem d_PlanReader_readLink_89 : decode b_PlanReader_readLink 89 = .ok (.iload_n 3, 1) := by decide +kernel
theorem d_PlanReader_readLink_90 : decode b_PlanReader_readLink 90 = .ok (.ior, 1) := by decide +kernel
theorem d_PlanReader_readLink_91 : decode b_PlanReader_readLink 91 = .ok (.putfield 94, 3) := by decide +kernel
theorem d_PlanReader_readLink_94 : decode b_PlanReader_readLink 94 = .ok (.goto 13, 3) := by decide +kernel
theorem d_PlanReader_readLink_97 : decode b_PlanReader_readLink 97 = .ok (.aload_n 1, 1) := by decide +kernel
theorem d_PlanReader_readLink_98 : decode b_PlanReader_readLink 98 = .ok (.dup, 1) := by decide +kernel
theorem d_PlanReader_readLink_99 : decode b_PlanReader_readLink 99 = .ok (.getfield 97, 3) := by decide +kernel
theorem d_PlanReader_readLink_102 : decode b_PlanReader_readLink 102 = .ok (.iload_n 3, 1) := by decide +kernel
theorem d_PlanReader_readLink_103 : decode b_PlanReader_readLink 103 = .ok (.ior, 1) := by decide +kernel
theorem d_PlanReader_readLink_104 : decode b_PlanReader_readLink 104 = .ok (.putfield 97, 3) := by decide +kernel
theorem d_PlanReader_readLink_107 : decode b_PlanReader_readLink 107 = .ok (.iconst 1, 1) := by decide +kernel
theorem d_PlanReader_readLink_108 : decode b_PlanReader_readLink 108 = .ok (.ireturn, 1) := by decide +kernel
theorem d_PlanReader_take_0 : decode b_PlanReader_take 0 = .ok (.aload_n 0, 1) := by decide +kernel
theorem d_PlanReader_take_1 : decode b_PlanReader_take 1 = .ok (.getfield 15, 3) := by decide +kernel
theorem d_PlanReader_take_4 : decode b_PlanReader_take 4 = .ok (.aload_n 0, 1) := by decide +kernel
theorem d_PlanReader_take_5 : decode b_PlanReader_take 5 = .ok (.getfield 9, 3) := by decide +kernel
theorem d_PlanReader_take_8 : decode b_PlanReader_take 8 = .ok (.getfield 45, 3) := by decide +kernel
theorem d_PlanReader_take_11 : decode b_PlanReader_take 11 = .ok (.if_icmp .ge 19, 3) := by decide +kernel
theorem d_PlanReader_take_14 : decode b_PlanReader_take 14 = .ok (.aload_n 0, 1) := by decide +kernel
theorem d_PlanReader_take_15 : decode b_PlanReader_take 15 = .ok (.getfield 9, 3) := by decide +kernel
theorem d_PlanReader_take_18 : decode b_PlanReader_take 18 = .ok (.getfield 60, 3) := by decide +kernel
theorem d_PlanReader_take_21 : decode b_PlanReader_take 21 = .ok (.aload_n 0, 1) := by decide +kernel
theorem d_PlanReader_take_22 : decode b_PlanReader_take 22 = .ok (.getfield 15, 3) := by decide +kernel
theorem d_PlanReader_take_25 : decode b_PlanReader_take 25 = .ok (.caload, 1) := by decide +kernel
theorem d_PlanReader_take_26 : decode b_PlanReader_take 26 = .ok (.iload_n 1, 1) := by decide +kernel
theorem d_PlanReader_take_27 : decode b_PlanReader_take 27 = .ok (.if_icmp .eq 5, 3) := by decide +kernel
theorem d_PlanReader_take_30 : decode b_PlanReader_take 30 = .ok (.iconst 0, 1) := by decide +kernel
theorem d_PlanReader_take_31 : decode b_PlanReader_take 31 = .ok (.ireturn, 1) := by decide +kernel
theorem d_PlanReader_take_32 : decode b_PlanReader_take 32 = .ok (.aload_n 0, 1) := by decide +kernel
theorem d_PlanReader_take_33 : decode b_PlanReader_take 33 = .ok (.dup, 1) := by decide +kernel
theorem d_PlanReader_take_34 : decode b_PlanReader_take 34 = .ok (.getfield 15, 3) := by decide +kernel
theorem d_PlanReader_take_37 : decode b_PlanReader_take 37 = .ok (.iconst 1, 1) := by decide +kernel
theorem d_PlanReader_take_38 : decode b_PlanReader_take 38 = .ok (.iadd, 1) := by decide +kernel
theorem d_PlanReader_take_39 : decode b_PlanReader_take 39 = .ok (.putfield 15, 3) := by decide +kernel
theorem d_PlanReader_take_42 : decode b_PlanReader_take 42 = .ok (.iconst 1, 1) := by decide +kernel
theorem d_PlanReader_take_43 : decode b_PlanReader_take 43 = .ok (.ireturn, 1) := by decide +kernel
theorem d_PlanReader_takeNumber_0 : decode b_PlanReader_takeNumber 0 = .ok (.aload_n 0, 1) := by decide +kernel
theorem d_PlanReader_takeNumber_1 : decode b_PlanReader_takeNumber 1 = .ok (.invokevirtual 100, 3) := by decide +kernel
theorem d_PlanReader_takeNumber_4 : decode b_PlanReader_takeNumber 4 = .ok (.istore_n 1, 1) := by decide +kernel
theorem d_PlanReader_takeNumber_5 : decode b_PlanReader_takeNumber 5 = .ok (.iload_n 1, 1) := by decide +kernel
theorem d_PlanReader_takeNumber_6 : decode b_PlanReader_takeNumber 6 = .ok (.ifCond .gt 5, 3) := by decide +kernel
theorem d_PlanReader_takeNumber_9 : decode b_PlanReader_takeNumber 9 = .ok (.iload_n 1, 1) := by decide +kernel
theorem d_PlanReader_takeNumber_10 : decode b_PlanReader_takeNumber 10 = .ok (.ireturn, 1) := by decide +kernel
theorem d_PlanReader_takeNumber_11 : decode b_PlanReader_takeNumber 11 = .ok (.aload_n 0, 1) := by decide +kernel
theorem d_PlanReader_takeNumber_12 : decode b_PlanReader_takeNumber 12 = .ok (.invokevirtual 100, 3) := by decide +kernel
theorem d_PlanReader_takeNumber_15 : decode b_PlanReader_takeNumber 15 = .ok (.istore_n 2, 1) := by decide +kernel
theorem d_PlanReader_takeNumber_16 : decode b_PlanReader_takeNumber 16 = .ok (.iload_n 2, 1) := by decide +kernel
theorem d_PlanReader_takeNumber_17 : decode b_PlanReader_takeNumber 17 = .ok (.iconst (-1), 1) := by decide +kernel
theorem d_PlanReader_takeNumber_18 : decode b_PlanReader_takeNumber 18 = .ok (.if_icmp .ne 7, 3) := by decide +kernel
theorem d_PlanReader_takeNumber_21 : decode b_PlanReader_takeNumber 21 = .ok (.iload_n 1, 1) := by decide +kernel
theorem d_PlanReader_takeNumber_22 : decode b_PlanReader_takeNumber 22 = .ok (.goto 9, 3) := by decide +kernel
theorem d_PlanReader_takeNumber_25 : decode b_PlanReader_takeNumber 25 = .ok (.bipush 10, 2) := by decide +kernel
theorem d_PlanReader_takeNumber_27 : decode b_PlanReader_takeNumber 27 = .ok (.iload_n 1, 1) := by decide +kernel
theorem d_PlanReader_takeNumber_28 : decode b_PlanReader_takeNumber 28 = .ok (.imul, 1) := by decide +kernel
theorem d_PlanReader_takeNumber_29 : decode b_PlanReader_takeNumber 29 = .ok (.iload_n 2, 1) := by decide +kernel
theorem d_PlanReader_takeNumber_30 : decode b_PlanReader_takeNumber 30 = .ok (.iadd, 1) := by decide +kernel
theorem d_PlanReader_takeNumber_31 : decode b_PlanReader_takeNumber 31 = .ok (.ireturn, 1) := by decide +kernel
theorem d_PlanReader_takeDigit_0 : decode b_PlanReader_takeDigit 0 = .ok (.aload_n 0, 1) := by decide +kernel
theorem d_PlanReader_takeDigit_1 : decode b_PlanReader_takeDigit 1 = .ok (.getfield 15, 3) := by decide +kernel
theorem d_PlanReader_takeDigit_4 : decode b_PlanReader_takeDigit 4 = .ok (.aload_n 0, 1) := by decide +kernel
theorem d_PlanReader_takeDigit_5 : decode b_PlanReader_takeDigit 5 = .ok (.getfield 9, 3) := by decide +kernel
theorem d_PlanReader_takeDigit_8 : decode b_PlanReader_takeDigit 8 = .ok (.getfield 45, 3) := by decide +kernel
theorem d_PlanReader_takeDigit_11 : decode b_PlanReader_takeDigit 11 = .ok (.if_icmp .ge 37, 3) := by decide +kernel
theorem d_PlanReader_takeDigit_14 : decode b_PlanReader_takeDigit 14 = .ok (.aload_n 0, 1) := by decide +kernel
theorem d_PlanReader_takeDigit_15 : decode b_PlanReader_takeDigit 15 = .ok (.getfield 9, 3) := by decide +kernel
theorem d_PlanReader_takeDigit_18 : decode b_PlanReader_takeDigit 18 = .ok (.getfield 60, 3) := by decide +kernel
theorem d_PlanReader_takeDigit_21 : decode b_PlanReader_takeDigit 21 = .ok (.aload_n 0, 1) := by decide +kernel
theorem d_PlanReader_takeDigit_22 : decode b_PlanReader_takeDigit 22 = .ok (.getfield 15, 3) := by decide +kernel
theorem d_PlanReader_takeDigit_25 : decode b_PlanReader_takeDigit 25 = .ok (.caload, 1) := by decide +kernel
theorem d_PlanReader_takeDigit_26 : decode b_PlanReader_takeDigit 26 = .ok (.bipush 48, 2) := by decide +kernel
theorem d_PlanReader_takeDigit_28 : decode b_PlanReader_takeDigit 28 = .ok (.if_icmp .lt 20, 3) := by decide +kernel
theorem d_PlanReader_takeDigit_31 : decode b_PlanReader_takeDigit 31 = .ok (.aload_n 0, 1) := by decide +kernel
theorem d_PlanReader_takeDigit_32 : decode b_PlanReader_takeDigit 32 = .ok (.getfield 9, 3) := by decide +kernel
theorem d_PlanReader_takeDigit_35 : decode b_PlanReader_takeDigit 35 = .ok (.getfield 60, 3) := by decide +kernel
theorem d_PlanReader_takeDigit_38 : decode b_PlanReader_takeDigit 38 = .ok (.aload_n 0, 1) := by decide +kernel
theorem d_PlanReader_takeDigit_39 : decode b_PlanReader_takeDigit 39 = .ok (.getfield 15, 3) := by decide +kernel
theorem d_PlanReader_takeDigit_42 : decode b_PlanReader_takeDigit 42 = .ok (.caload, 1) := by decide +kernel
theorem d_PlanReader_takeDigit_43 : decode b_PlanReader_takeDigit 43 = .ok (.bipush 57, 2) := by decide +kernel
theorem d_PlanReader_takeDigit_45 : decode b_PlanReader_takeDigit 45 = .ok (.if_icmp .le 5, 3) := by decide +kernel
theorem d_PlanReader_takeDigit_48 : decode b_PlanReader_takeDigit 48 = .ok (.iconst (-1), 1) := by decide +kernel
theorem d_PlanReader_takeDigit_49 : decode b_PlanReader_takeDigit 49 = .ok (.ireturn, 1) := by decide +kernel
theorem d_PlanReader_takeDigit_50 : decode b_PlanReader_takeDigit 50 = .ok (.aload_n 0, 1) := by decide +kernel
theorem d_PlanReader_takeDigit_51 : decode b_PlanReader_takeDigit 51 = .ok (.getfield 9, 3) := by decide +kernel
theorem d_PlanReader_takeDigit_54 : decode b_PlanReader_takeDigit 54 = .ok (.getfield 60, 3) := by decide +kernel
theorem d_PlanReader_takeDigit_57 : decode b_PlanReader_takeDigit 57 = .ok (.aload_n 0, 1) := by decide +kernel
theorem d_PlanReader_takeDigit_58 : decode b_PlanReader_takeDigit 58 = .ok (.getfield 15, 3) := by decide +kernel
theorem d_PlanReader_takeDigit_61 : decode b_PlanReader_takeDigit 61 = .ok (.caload, 1) := by decide +kernel
theorem d_PlanReader_takeDigit_62 : decode b_PlanReader_takeDigit 62 = .ok (.bipush 48, 2) := by decide +kernel
theorem d_PlanReader_takeDigit_64 : decode b_PlanReader_takeDigit 64 = .ok (.isub, 1) := by decide +kernel
theorem d_PlanReader_takeDigit_65 : decode b_PlanReader_takeDigit 65 = .ok (.istore_n 1, 1) := by decide +kernel
theorem d_PlanReader_takeDigit_66 : decode b_PlanReader_takeDigit 66 = .ok (.aload_n 0, 1) := by decide +kernel
theorem d_PlanReader_takeDigit_67 : decode b_PlanReader_takeDigit 67 = .ok (.dup, 1) := by decide +kernel
theorem d_PlanReader_takeDigit_68 : decode b_PlanReader_takeDigit 68 = .ok (.getfield 15, 3) := by decide +kernel
theorem d_PlanReader_takeDigit_71 : decode b_PlanReader_takeDigit 71 = .ok (.iconst 1, 1) := by decide +kernel
theorem d_PlanReader_takeDigit_72 : decode b_PlanReader_takeDigit 72 = .ok (.iadd, 1) := by decide +kernel
theorem d_PlanReader_takeDigit_73 : decode b_PlanReader_takeDigit 73 = .ok (.putfield 15, 3) := by decide +kernel
theorem d_PlanReader_takeDigit_76 : decode b_PlanReader_takeDigit 76 = .ok (.iload_n 1, 1) := by decide +kernel
theorem d_PlanReader_takeDigit_77 : decode b_PlanReader_takeDigit 77 = .ok (.ireturn, 1) := by decide +kernel
