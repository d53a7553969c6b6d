theorem d_Mo_hasIn_34 : decode b_Mo_hasIn 34 = .ok (.iload 5, 2) := by decide +kernel
theorem d_Mo_hasIn_36 : decode b_Mo_hasIn 36 = .ok (.iaload, 1) := by decide +kernel
theorem d_Mo_hasIn_37 : decode b_Mo_hasIn 37 = .ok (.iload_n 2, 1) := by decide +kernel
theorem d_Mo_hasIn_38 : decode b_Mo_hasIn 38 = .ok (.if_icmp .eq 14, 3) := by decide +kernel
theorem d_Mo_hasIn_41 : decode b_Mo_hasIn 41 = .ok (.aload_n 0, 1) := by decide +kernel
theorem d_Mo_hasIn_42 : decode b_Mo_hasIn 42 = .ok (.getfield 28, 3) := by decide +kernel
theorem d_Mo_hasIn_45 : decode b_Mo_hasIn 45 = .ok (.iload 5, 2) := by decide +kernel
theorem d_Mo_hasIn_47 : decode b_Mo_hasIn 47 = .ok (.iaload, 1) := by decide +kernel
theorem d_Mo_hasIn_48 : decode b_Mo_hasIn 48 = .ok (.iload_n 3, 1) := by decide +kernel
theorem d_Mo_hasIn_49 : decode b_Mo_hasIn 49 = .ok (.if_icmp .ne 7, 3) := by decide +kernel
theorem d_Mo_hasIn_52 : decode b_Mo_hasIn 52 = .ok (.iconst 1, 1) := by decide +kernel
theorem d_Mo_hasIn_53 : decode b_Mo_hasIn 53 = .ok (.goto 4, 3) := by decide +kernel
theorem d_Mo_hasIn_56 : decode b_Mo_hasIn 56 = .ok (.iconst 0, 1) := by decide +kernel
theorem d_Mo_hasIn_57 : decode b_Mo_hasIn 57 = .ok (.istore 4, 2) := by decide +kernel
theorem d_Mo_hasIn_59 : decode b_Mo_hasIn 59 = .ok (.iinc 5 1, 3) := by decide +kernel
theorem d_Mo_hasIn_62 : decode b_Mo_hasIn 62 = .ok (.goto (-56), 3) := by decide +kernel
theorem d_Mo_hasIn_65 : decode b_Mo_hasIn 65 = .ok (.iload 4, 2) := by decide +kernel
theorem d_Mo_hasIn_67 : decode b_Mo_hasIn 67 = .ok (.ireturn, 1) := by decide +kernel
theorem d_Mo_skip_0 : decode b_Mo_skip 0 = .ok (.iconst 1, 1) := by decide +kernel
theorem d_Mo_skip_1 : decode b_Mo_skip 1 = .ok (.istore_n 1, 1) := by decide +kernel
theorem d_Mo_skip_2 : decode b_Mo_skip 2 = .ok (.iload_n 1, 1) := by decide +kernel
theorem d_Mo_skip_3 : decode b_Mo_skip 3 = .ok (.ifCond .eq 109, 3) := by decide +kernel
theorem d_Mo_skip_6 : decode b_Mo_skip 6 = .ok (.iconst 0, 1) := by decide +kernel
theorem d_Mo_skip_7 : decode b_Mo_skip 7 = .ok (.istore_n 1, 1) := by decide +kernel
theorem d_Mo_skip_8 : decode b_Mo_skip 8 = .ok (.iconst 0, 1) := by decide +kernel
theorem d_Mo_skip_9 : decode b_Mo_skip 9 = .ok (.istore_n 2, 1) := by decide +kernel
theorem d_Mo_skip_10 : decode b_Mo_skip 10 = .ok (.iload_n 2, 1) := by decide +kernel
theorem d_Mo_skip_11 : decode b_Mo_skip 11 = .ok (.aload_n 0, 1) := by decide +kernel
theorem d_Mo_skip_12 : decode b_Mo_skip 12 = .ok (.getfield 120, 3) := by decide +kernel
theorem d_Mo_skip_15 : decode b_Mo_skip 15 = .ok (.if_icmp .ge 94, 3) := by decide +kernel
theorem d_Mo_skip_18 : decode b_Mo_skip 18 = .ok (.aload_n 0, 1) := by decide +kernel
theorem d_Mo_skip_19 : decode b_Mo_skip 19 = .ok (.getfield 154, 3) := by decide +kernel
theorem d_Mo_skip_22 : decode b_Mo_skip 22 = .ok (.aload_n 0, 1) := by decide +kernel
theorem d_Mo_skip_23 : decode b_Mo_skip 23 = .ok (.getfield 163, 3) := by decide +kernel
theorem d_Mo_skip_26 : decode b_Mo_skip 26 = .ok (.isub, 1) := by decide +kernel
theorem d_Mo_skip_27 : decode b_Mo_skip 27 = .ok (.aload_n 0, 1) := by decide +kernel
theorem d_Mo_skip_28 : decode b_Mo_skip 28 = .ok (.getfield 22, 3) := by decide +kernel
theorem d_Mo_skip_31 : decode b_Mo_skip 31 = .ok (.bipush 40, 2) := by decide +kernel
theorem d_Mo_skip_33 : decode b_Mo_skip 33 = .ok (.iload_n 2, 1) := by decide +kernel
theorem d_Mo_skip_34 : decode b_Mo_skip 34 = .ok (.iadd, 1) := by decide +kernel
theorem d_Mo_skip_35 : decode b_Mo_skip 35 = .ok (.iaload, 1) := by decide +kernel
theorem d_Mo_skip_36 : decode b_Mo_skip 36 = .ok (.if_icmp .gt 39, 3) := by decide +kernel
theorem d_Mo_skip_39 : decode b_Mo_skip 39 = .ok (.aload_n 0, 1) := by decide +kernel
theorem d_Mo_skip_40 : decode b_Mo_skip 40 = .ok (.aload_n 0, 1) := by decide +kernel
theorem d_Mo_skip_41 : decode b_Mo_skip 41 = .ok (.getfield 22, 3) := by decide +kernel
theorem d_Mo_skip_44 : decode b_Mo_skip 44 = .ok (.bipush 56, 2) := by decide +kernel
theorem d_Mo_skip_46 : decode b_Mo_skip 46 = .ok (.iload_n 2, 1) := by decide +kernel
theorem d_Mo_skip_47 : decode b_Mo_skip 47 = .ok (.iadd, 1) := by decide +kernel
theorem d_Mo_skip_48 : decode b_Mo_skip 48 = .ok (.iaload, 1) := by decide +kernel
theorem d_Mo_skip_49 : decode b_Mo_skip 49 = .ok (.iconst 3, 1) := by decide +kernel
theorem d_Mo_skip_50 : decode b_Mo_skip 50 = .ok (.iconst 4, 1) := by decide +kernel
theorem d_Mo_skip_51 : decode b_Mo_skip 51 = .ok (.invokevirtual 166, 3) := by decide +kernel
theorem d_Mo_skip_54 : decode b_Mo_skip 54 = .ok (.ifCond .ne 21, 3) := by decide +kernel
theorem d_Mo_skip_57 : decode b_Mo_skip 57 = .ok (.aload_n 0, 1) := by decide +kernel
theorem d_Mo_skip_58 : decode b_Mo_skip 58 = .ok (.aload_n 0, 1) := by decide +kernel
theorem d_Mo_skip_59 : decode b_Mo_skip 59 = .ok (.getfield 22, 3) := by decide +kernel
theorem d_Mo_skip_62 : decode b_Mo_skip 62 = .ok (.bipush 64, 2) := by decide +kernel
theorem d_Mo_skip_64 : decode b_Mo_skip 64 = .ok (.iload_n 2, 1) := by decide +kernel
theorem d_Mo_skip_65 : decode b_Mo_skip 65 = .ok (.iadd, 1) := by decide +kernel
theorem d_Mo_skip_66 : decode b_Mo_skip 66 = .ok (.iaload, 1) := by decide +kernel
theorem d_Mo_skip_67 : decode b_Mo_skip 67 = .ok (.iconst 2, 1) := by decide +kernel
theorem d_Mo_skip_68 : decode b_Mo_skip 68 = .ok (.iconst 2, 1) := by decide +kernel
theorem d_Mo_skip_69 : decode b_Mo_skip 69 = .ok (.invokevirtual 166, 3) := by decide +kernel
theorem d_Mo_skip_72 : decode b_Mo_skip 72 = .ok (.ifCond .eq 7, 3) := by decide +kernel
theorem d_Mo_skip_75 : decode b_Mo_skip 75 = .ok (.iconst 1, 1) := by decide +kernel
theorem d_Mo_skip_76 : decode b_Mo_skip 76 = .ok (.goto 4, 3) := by decide +kernel
theorem d_Mo_skip_79 : decode b_Mo_skip 79 = .ok (.iconst 0, 1) := by decide +kernel
theorem d_Mo_skip_80 : decode b_Mo_skip 80 = .ok (.istore_n 3, 1) := by decide +kernel
theorem d_Mo_skip_81 : decode b_Mo_skip 81 = .ok (.aload_n 0, 1) := by decide +kernel
theorem d_Mo_skip_82 : decode b_Mo_skip 82 = .ok (.getfield 28, 3) := by decide +kernel
theorem d_Mo_skip_85 : decode b_Mo_skip 85 = .ok (.iload_n 2, 1) := by decide +kernel
theorem d_Mo_skip_86 : decode b_Mo_skip 86 = .ok (.iaload, 1) := by decide +kernel
theorem d_Mo_skip_87 : decode b_Mo_skip 87 = .ok (.ifCond .ne 16, 3) := by decide +kernel
theorem d_Mo_skip_90 : decode b_Mo_skip 90 = .ok (.iload_n 3, 1) := by decide +kernel
theorem d_Mo_skip_91 : decode b_Mo_skip 91 = .ok (.ifCond .eq 12, 3) := by decide +kernel
theorem d_Mo_skip_94 : decode b_Mo_skip 94 = .ok (.aload_n 0, 1) := by decide +kernel
theorem d_Mo_skip_95 : decode b_Mo_skip 95 = .ok (.getfield 28, 3) := by decide +kernel
theorem d_Mo_skip_98 : decode b_Mo_skip 98 = .ok (.iload_n 2, 1) := by decide +kernel
theorem d_Mo_skip_99 : decode b_Mo_skip 99 = .ok (.iconst 4, 1) := by decide +kernel
theorem d_Mo_skip_100 : decode b_Mo_skip 100 = .ok (.iastore, 1) := by decide +kernel
theorem d_Mo_skip_101 : decode b_Mo_skip 101 = .ok (.iconst 1, 1) := by decide +kernel
theorem d_Mo_skip_102 : decode b_Mo_skip 102 = .ok (.istore_n 1, 1) := by decide +kernel
theorem d_Mo_skip_103 : decode b_Mo_skip 103 = .ok (.iinc 2 1, 3) := by decide +kernel
theorem d_Mo_skip_106 : decode b_Mo_skip 106 = .ok (.goto (-96), 3) := by decide +kernel
theorem d_Mo_skip_109 : decode b_Mo_skip 109 = .ok (.goto (-107), 3) := by decide +kernel
theorem d_Mo_skip_112 : decode b_Mo_skip 112 = .ok (.return_, 1) := by decide +kernel
theorem d_Mo_mayStart_0 : decode b_Mo_mayStart 0 = .ok (.aload_n 0, 1) := by decide +kernel
theorem d_Mo_mayStart_1 : decode b_Mo_mayStart 1 = .ok (.aload_n 0, 1) := by decide +kernel
theorem d_Mo_mayStart_2 : decode b_Mo_mayStart 2 = .ok (.getfield 22, 3) := by decide +kernel
theorem d_Mo_mayStart_5 : decode b_Mo_mayStart 5 = .ok (.bipush 56, 2) := by decide +kernel
theorem d_Mo_mayStart_7 : decode b_Mo_mayStart 7 = .ok (.iload_n 1, 1) := by decide +kernel
theorem d_Mo_mayStart_8 : decode b_Mo_mayStart 8 = .ok (.iadd, 1) := by decide +kernel
theorem d_Mo_mayStart_9 : decode b_Mo_mayStart 9 = .ok (.iaload, 1) := by decide +kernel
theorem d_Mo_mayStart_10 : decode b_Mo_mayStart 10 = .ok (.iconst 0, 1) := by decide +kernel
theorem d_Mo_mayStart_11 : decode b_Mo_mayStart 11 = .ok (.iconst 1, 1) := by decide +kernel
theorem d_Mo_mayStart_12 : decode b_Mo_mayStart 12 = .ok (.invokevirtual 166, 3) := by decide +kernel
theorem d_Mo_mayStart_15 : decode b_Mo_mayStart 15 = .ok (.ifCond .ne 25, 3) := by decide +kernel
theorem d_Mo_mayStart_18 : decode b_Mo_mayStart 18 = .ok (.aload_n 0, 1) := by decide +kernel
theorem d_Mo_mayStart_19 : decode b_Mo_mayStart 19 = .ok (.aload_n 0, 1) := by decide +kernel
theorem d_Mo_mayStart_20 : decode b_Mo_mayStart 20 = .ok (.getfield 22, 3) := by decide +kernel
theorem d_Mo_mayStart_23 : decode b_Mo_mayStart 23 = .ok (.bipush 56, 2) := by decide +kernel
theorem d_Mo_mayStart_25 : decode b_Mo_mayStart 25 = .ok (.iload_n 1, 1) := by decide +kernel
theorem d_Mo_mayStart_26 : decode b_Mo_mayStart 26 = .ok (.iadd, 1) := by decide +kernel
theorem d_Mo_mayStart_27 : decode b_Mo_mayStart 27 = .ok (.iaload, 1) := by decide +kernel
theorem d_Mo_mayStart_28 : decode b_Mo_mayStart 28 = .ok (.iconst 3, 1) := by decide +kernel
theorem d_Mo_mayStart_29 : decode b_Mo_mayStart 29 = .ok (.iconst 4, 1) := by decide +kernel
theorem d_Mo_mayStart_30 : decode b_Mo_mayStart 30 = .ok (.invokevirtual 166, 3) := by decide +kernel
theorem d_Mo_mayStart_33 : decode b_Mo_mayStart 33 = .ok (.ifCond .ne 7, 3) := by decide +kernel
theorem d_Mo_mayStart_36 : decode b_Mo_mayStart 36 = .ok (.iconst 1, 1) := by decide +kernel
theorem d_Mo_mayStart_37 : decode b_Mo_mayStart 37 = .ok (.goto 4, 3) := by decide +kernel
theorem d_Mo_mayStart_40 : decode b_Mo_mayStart 40 = .ok (.iconst 0, 1) := by decide +kernel
theorem d_Mo_mayStart_41 : decode b_Mo_mayStart 41 = .ok (.istore_n 2, 1) := by decide +kernel
theorem d_Mo_mayStart_42 : decode b_Mo_mayStart 42 = .ok (.aload_n 0, 1) := by decide +kernel
theorem d_Mo_mayStart_43 : decode b_Mo_mayStart 43 = .ok (.aload_n 0, 1) := by decide +kernel
theorem d_Mo_mayStart_44 : decode b_Mo_mayStart 44 = .ok (.getfield 22, 3) := by decide +kernel
theorem d_Mo_mayStart_47 : decode b_Mo_mayStart 47 = .ok (.bipush 64, 2) := by decide +kernel
theorem d_Mo_mayStart_49 : decode b_Mo_mayStart 49 = .ok (.iload_n 1, 1) := by decide +kernel
theorem d_Mo_mayStart_50 : decode b_Mo_mayStart 50 = .ok (.iadd, 1) := by decide +kernel
theorem d_Mo_mayStart_51 : decode b_Mo_mayStart 51 = .ok (.iaload, 1) := by decide +kernel
theorem d_Mo_mayStart_52 : decode b_Mo_mayStart 52 = .ok (.iconst 0, 1) := by decide +kernel
theorem d_Mo_mayStart_53 : decode b_Mo_mayStart 53 = .ok (.iconst 1, 1) := by decide +kernel
theorem d_Mo_mayStart_54 : decode b_Mo_mayStart 54 = .ok (.invokevirtual 166, 3) := by decide +kernel
theorem d_Mo_mayStart_57 : decode b_Mo_mayStart 57 = .ok (.ifCond .ne 25, 3) := by decide +kernel
theorem d_Mo_mayStart_60 : decode b_Mo_mayStart 60 = .ok (.aload_n 0, 1) := by decide +kernel
theorem d_Mo_mayStart_61 : decode b_Mo_mayStart 61 = .ok (.aload_n 0, 1) := by decide +kernel
theorem d_Mo_mayStart_62 : decode b_Mo_mayStart 62 = .ok (.getfield 22, 3) := by decide +kernel
theorem d_Mo_mayStart_65 : decode b_Mo_mayStart 65 = .ok (.bipush 64, 2) := by decide +kernel
theorem d_Mo_mayStart_67 : decode b_Mo_mayStart 67 = .ok (.iload_n 1, 1) := by decide +kernel
theorem d_Mo_mayStart_68 : decode b_Mo_mayStart 68 = .ok (.iadd, 1) := by decide +kernel
theorem d_Mo_mayStart_69 : decode b_Mo_mayStart 69 = .ok (.iaload, 1) := by decide +kernel
theorem d_Mo_mayStart_70 : decode b_Mo_mayStart 70 = .ok (.iconst 2, 1) := by decide +kernel
theorem d_Mo_mayStart_71 : decode b_Mo_mayStart 71 = .ok (.iconst 2, 1) := by decide +kernel
theorem d_Mo_mayStart_72 : decode b_Mo_mayStart 72 = .ok (.invokevirtual 166, 3) := by decide +kernel
theorem d_Mo_mayStart_75 : decode b_Mo_mayStart 75 = .ok (.ifCond .ne 7, 3) := by decide +kernel
theorem d_Mo_mayStart_78 : decode b_Mo_mayStart 78 = .ok (.iconst 1, 1) := by decide +kernel
theorem d_Mo_mayStart_79 : decode b_Mo_mayStart 79 = .ok (.goto 4, 3) := by decide +kernel
theorem d_Mo_mayStart_82 : decode b_Mo_mayStart 82 = .ok (.iconst 0, 1) := by decide +kernel
theorem d_Mo_mayStart_83 : decode b_Mo_mayStart 83 = .ok (.istore_n 3, 1) := by decide +kernel
theorem d_Mo_mayStart_84 : decode b_Mo_mayStart 84 = .ok (.aload_n 0, 1) := by decide +kernel
theorem d_Mo_mayStart_85 : decode b_Mo_mayStart 85 = .ok (.getfield 28, 3) := by decide +kernel
theorem d_Mo_mayStart_88 : decode b_Mo_mayStart 88 = .ok (.iload_n 1, 1) := by decide +kernel
theorem d_Mo_mayStart_89 : decode b_Mo_mayStart 89 = .ok (.iaload, 1) := by decide +kernel
theorem d_Mo_mayStart_90 : decode b_Mo_mayStart 90 = .ok (.ifCond .ne 23, 3) := by decide +kernel
theorem d_Mo_mayStart_93 : decode b_Mo_mayStart 93 = .ok (.iload_n 2, 1) := by decide +kernel
theorem d_Mo_mayStart_94 : decode b_Mo_mayStart 94 = .ok (.ifCond .eq 19, 3) := by decide +kernel
theorem d_Mo_mayStart_97 : decode b_Mo_mayStart 97 = .ok (.iload_n 3, 1) := by decide +kernel
theorem d_Mo_mayStart_98 : decode b_Mo_mayStart 98 = .ok (.ifCond .eq 15, 3) := by decide +kernel
theorem d_Mo_mayStart_101 : decode b_Mo_mayStart 101 = .ok (.aload_n 0, 1) := by decide +kernel
theorem d_Mo_mayStart_102 : decode b_Mo_mayStart 102 = .ok (.iload_n 1, 1) := by decide +kernel
theorem d_Mo_mayStart_103 : decode b_Mo_mayStart 103 = .ok (.invokevirtual 170, 3) := by decide +kernel
theorem d_Mo_mayStart_106 : decode b_Mo_mayStart 106 = .ok (.ifCond .eq 7, 3) := by decide +kernel
theorem d_Mo_mayStart_109 : decode b_Mo_mayStart 109 = .ok (.iconst 1, 1) := by decide +kernel
theorem d_Mo_mayStart_110 : decode b_Mo_mayStart 110 = .ok (.goto 4, 3) := by decide +kernel
theorem d_Mo_mayStart_113 : decode b_Mo_mayStart 113 = .ok (.iconst 0, 1) := by decide +kernel
theorem d_Mo_mayStart_114 : decode b_Mo_mayStart 114 = .ok (.ireturn, 1) := by decide +kernel
theorem d_Mo_startAll_0 : decode b_Mo_startAll 0 = .ok (.iconst 0, 1) := by decide +kernel
theorem d_Mo_startAll_1 : decode b_Mo_startAll 1 = .ok (.istore_n 1, 1) := by decide +kernel
theorem d_Mo_startAll_2 : decode b_Mo_startAll 2 = .ok (.iconst 0, 1) := by decide +kernel
theorem d_Mo_startAll_3 : decode b_Mo_startAll 3 = .ok (.istore_n 2, 1) := by decide +kernel
theorem d_Mo_startAll_4 : decode b_Mo_startAll 4 = .ok (.iload_n 2, 1) := by decide +kernel
theorem d_Mo_startAll_5 : decode b_Mo_startAll 5 = .ok (.aload_n 0, 1) := by decide +kernel
theorem d_Mo_startAll_6 : decode b_Mo_startAll 6 = .ok (.getfield 120, 3) := by decide +kernel
theorem d_Mo_startAll_9 : decode b_Mo_startAll 9 = .ok (.if_icmp .ge 134, 3) := by decide +kernel
theorem d_Mo_startAll_12 : decode b_Mo_startAll 12 = .ok (.aload_n 0, 1) := by decide +kernel
theorem d_Mo_startAll_13 : decode b_Mo_startAll 13 = .ok (.iload_n 2, 1) := by decide +kernel
theorem d_Mo_startAll_14 : decode b_Mo_startAll 14 = .ok (.invokevirtual 173, 3) := by decide +kernel
theorem d_Mo_startAll_17 : decode b_Mo_startAll 17 = .ok (.ifCond .eq 120, 3) := by decide +kernel
theorem d_Mo_startAll_20 : decode b_Mo_startAll 20 = .ok (.aload_n 0, 1) := by decide +kernel
theorem d_Mo_startAll_21 : decode b_Mo_startAll 21 = .ok (.getfield 28, 3) := by decide +kernel
theorem d_Mo_startAll_24 : decode b_Mo_startAll 24 = .ok (.iload_n 2, 1) := by decide +kernel
theorem d_Mo_startAll_25 : decode b_Mo_startAll 25 = .ok (.iconst 1, 1) := by decide +kernel
theorem d_Mo_startAll_26 : decode b_Mo_startAll 26 = .ok (.iastore, 1) := by decide +kernel
theorem d_Mo_startAll_27 : decode b_Mo_startAll 27 = .ok (.aload_n 0, 1) := by decide +kernel
theorem d_Mo_startAll_28 : decode b_Mo_startAll 28 = .ok (.getfield 31, 3) := by decide +kernel
theorem d_Mo_startAll_31 : decode b_Mo_startAll 31 = .ok (.iload_n 2, 1) := by decide +kernel
theorem d_Mo_startAll_32 : decode b_Mo_startAll 32 = .ok (.aload_n 0, 1) := by decide +kernel
theorem d_Mo_startAll_33 : decode b_Mo_startAll 33 = .ok (.getfield 154, 3) := by decide +kernel
theorem d_Mo_startAll_36 : decode b_Mo_startAll 36 = .ok (.iastore, 1) := by decide +kernel
theorem d_Mo_startAll_37 : decode b_Mo_startAll 37 = .ok (.aload_n 0, 1) := by decide +kernel
theorem d_Mo_startAll_38 : decode b_Mo_startAll 38 = .ok (.getfield 34, 3) := by decide +kernel
theorem d_Mo_startAll_41 : decode b_Mo_startAll 41 = .ok (.iload_n 2, 1) := by decide +kernel
theorem d_Mo_startAll_42 : decode b_Mo_startAll 42 = .ok (.iconst 0, 1) := by decide +kernel
theorem d_Mo_startAll_43 : decode b_Mo_startAll 43 = .ok (.iastore, 1) := by decide +kernel
theorem d_Mo_startAll_44 : decode b_Mo_startAll 44 = .ok (.aload_n 0, 1) := by decide +kernel
theorem d_Mo_startAll_45 : decode b_Mo_startAll 45 = .ok (.getfield 40, 3) := by decide +kernel
theorem d_Mo_startAll_48 : decode b_Mo_startAll 48 = .ok (.iload_n 2, 1) := by decide +kernel
theorem d_Mo_startAll_49 : decode b_Mo_startAll 49 = .ok (.dup2, 1) := by decide +kernel
theorem d_Mo_startAll_50 : decode b_Mo_startAll 50 = .ok (.iaload, 1) := by decide +kernel
theorem d_Mo_startAll_51 : decode b_Mo_startAll 51 = .ok (.iconst 1, 1) := by decide +kernel
theorem d_Mo_startAll_52 : decode b_Mo_startAll 52 = .ok (.iadd, 1) := by decide +kernel
theorem d_Mo_startAll_53 : decode b_Mo_startAll 53 = .ok (.iastore, 1) := by decide +kernel
theorem d_Mo_startAll_54 : decode b_Mo_startAll 54 = .ok (.aload_n 0, 1) := by decide +kernel
theorem d_Mo_startAll_55 : decode b_Mo_startAll 55 = .ok (.getfield 43, 3) := by decide +kernel
theorem d_Mo_startAll_58 : decode b_Mo_startAll 58 = .ok (.iload_n 2, 1) := by decide +kernel
theorem d_Mo_startAll_59 : decode b_Mo_startAll 59 = .ok (.aload_n 0, 1) := by decide +kernel
theorem d_Mo_startAll_60 : decode b_Mo_startAll 60 = .ok (.getfield 49, 3) := by decide +kernel
theorem d_Mo_startAll_63 : decode b_Mo_startAll 63 = .ok (.iload_n 2, 1) := by decide +kernel
theorem d_Mo_startAll_64 : decode b_Mo_startAll 64 = .ok (.iaload, 1) := by decide +kernel
theorem d_Mo_startAll_65 : decode b_Mo_startAll 65 = .ok (.ifCond .ge 15, 3) := by decide +kernel
theorem d_Mo_startAll_68 : decode b_Mo_startAll 68 = .ok (.aload_n 0, 1) := by decide +kernel
theorem d_Mo_startAll_69 : decode b_Mo_startAll 69 = .ok (.getfield 22, 3) := by decide +kernel
theorem d_Mo_startAll_72 : decode b_Mo_startAll 72 = .ok (.bipush 8, 2) := by decide +kernel
theorem d_Mo_startAll_74 : decode b_Mo_startAll 74 = .ok (.iload_n 2, 1) := by decide +kernel
theorem d_Mo_startAll_75 : decode b_Mo_startAll 75 = .ok (.iadd, 1) := by decide +kernel
theorem d_Mo_startAll_76 : decode b_Mo_startAll 76 = .ok (.iaload, 1) := by decide +kernel
theorem d_Mo_startAll_77 : decode b_Mo_startAll 77 = .ok (.goto 9, 3) := by decide +kernel
theorem d_Mo_startAll_80 : decode b_Mo_startAll 80 = .ok (.aload_n 0, 1) := by decide +kernel
theorem d_Mo_startAll_81 : decode b_Mo_startAll 81 = .ok (.getfield 49, 3) := by decide +kernel
theorem d_Mo_startAll_84 : decode b_Mo_startAll 84 = .ok (.iload_n 2, 1) := by decide +kernel
theorem d_Mo_startAll_85 : decode b_Mo_startAll 85 = .ok (.iaload, 1) := by decide +kernel
theorem d_Mo_startAll_86 : decode b_Mo_startAll 86 = .ok (.iastore, 1) := by decide +kernel
theorem d_Mo_startAll_87 : decode b_Mo_startAll 87 = .ok (.aload_n 0, 1) := by decide +kernel
theorem d_Mo_startAll_88 : decode b_Mo_startAll 88 = .ok (.getfield 46, 3) := by decide +kernel
theorem d_Mo_startAll_91 : decode b_Mo_startAll 91 = .ok (.iload_n 2, 1) := by decide +kernel
theorem d_Mo_startAll_92 : decode b_Mo_startAll 92 = .ok (.aload_n 0, 1) := by decide +kernel
theorem d_Mo_startAll_93 : decode b_Mo_startAll 93 = .ok (.getfield 52, 3) := by decide +kernel
theorem d_Mo_startAll_96 : decode b_Mo_startAll 96 = .ok (.iload_n 2, 1) := by decide +kernel
theorem d_Mo_startAll_97 : decode b_Mo_startAll 97 = .ok (.iaload, 1) := by decide +kernel
theorem d_Mo_startAll_98 : decode b_Mo_startAll 98 = .ok (.ifCond .ge 15, 3) := by decide +kernel
theorem d_Mo_startAll_101 : decode b_Mo_startAll 101 = .ok (.aload_n 0, 1) := by decide +kernel
theorem d_Mo_startAll_102 : decode b_Mo_startAll 102 = .ok (.getfield 22, 3) := by decide +kernel
theorem d_Mo_startAll_105 : decode b_Mo_startAll 105 = .ok (.bipush 16, 2) := by decide +kernel
theorem d_Mo_startAll_107 : decode b_Mo_startAll 107 = .ok (.iload_n 2, 1) := by decide +kernel
theorem d_Mo_startAll_108 : decode b_Mo_startAll 108 = .ok (.iadd, 1) := by decide +kernel
theorem d_Mo_startAll_109 : decode b_Mo_startAll 109 = .ok (.iaload, 1) := by decide +kernel
theorem d_Mo_startAll_110 : decode b_Mo_startAll 110 = .ok (.goto 9, 3) := by decide +kernel
theorem d_Mo_startAll_113 : decode b_Mo_startAll 113 = .ok (.aload_n 0, 1) := by decide +kernel
theorem d_Mo_startAll_114 : decode b_Mo_startAll 114 = .ok (.getfield 52, 3) := by decide +kernel
theorem d_Mo_startAll_117 : decode b_Mo_startAll 117 = .ok (.iload_n 2, 1) := by decide +kernel
theorem d_Mo_startAll_118 : decode b_Mo_startAll 118 = .ok (.iaload, 1) := by decide +kernel
theorem d_Mo_startAll_119 : decode b_Mo_startAll 119 = .ok (.iastore, 1) := by decide +kernel
theorem d_Mo_startAll_120 : decode b_Mo_startAll 120 = .ok (.aload_n 0, 1) := by decide +kernel
theorem d_Mo_startAll_121 : decode b_Mo_startAll 121 = .ok (.getfield 49, 3) := by decide +kernel
theorem d_Mo_startAll_124 : decode b_Mo_startAll 124 = .ok (.iload_n 2, 1) := by decide +kernel
theorem d_Mo_startAll_125 : decode b_Mo_startAll 125 = .ok (.iconst (-1), 1) := by decide +kernel
theorem d_Mo_startAll_126 : decode b_Mo_startAll 126 = .ok (.iastore, 1) := by decide +kernel
theorem d_Mo_startAll_127 : decode b_Mo_startAll 127 = .ok (.aload_n 0, 1) := by decide +kernel
theorem d_Mo_startAll_128 : decode b_Mo_startAll 128 = .ok (.getfield 52, 3) := by decide +kernel
theorem d_Mo_startAll_131 : decode b_Mo_startAll 131 = .ok (.iload_n 2, 1) := by decide +kernel
theorem d_Mo_startAll_132 : decode b_Mo_startAll 132 = .ok (.iconst (-1), 1) := by decide +kernel
theorem d_Mo_startAll_133 : decode b_Mo_startAll 133 = .ok (.iastore, 1) := by decide +kernel
theorem d_Mo_startAll_134 : decode b_Mo_startAll 134 = .ok (.iinc 1 1, 3) := by decide +kernel
theorem d_Mo_startAll_137 : decode b_Mo_startAll 137 = .ok (.iinc 2 1, 3) := by decide +kernel
theorem d_Mo_startAll_140 : decode b_Mo_startAll 140 = .ok (.goto (-136), 3) := by decide +kernel
theorem d_Mo_startAll_143 : decode b_Mo_startAll 143 = .ok (.aload_n 0, 1) := by decide +kernel
theorem d_Mo_startAll_144 : decode b_Mo_startAll 144 = .ok (.aload_n 0, 1) := by decide +kernel
theorem d_Mo_startAll_145 : decode b_Mo_startAll 145 = .ok (.iconst 0, 1) := by decide +kernel
theorem d_Mo_startAll_146 : decode b_Mo_startAll 146 = .ok (.invokevirtual 176, 3) := by decide +kernel
theorem d_Mo_startAll_149 : decode b_Mo_startAll 149 = .ok (.aload_n 0, 1) := by decide +kernel
theorem d_Mo_startAll_150 : decode b_Mo_startAll 150 = .ok (.iconst 1, 1) := by decide +kernel
theorem d_Mo_startAll_151 : decode b_Mo_startAll 151 = .ok (.invokevirtual 176, 3) := by decide +kernel
theorem d_Mo_startAll_154 : decode b_Mo_startAll 154 = .ok (.iadd, 1) := by decide +kernel
theorem d_Mo_startAll_155 : decode b_Mo_startAll 155 = .ok (.ifCond .ne 7, 3) := by decide +kernel
theorem d_Mo_startAll_158 : decode b_Mo_startAll 158 = .ok (.iconst 0, 1) := by decide +kernel
theorem d_Mo_startAll_159 : decode b_Mo_startAll 159 = .ok (.goto 4, 3) := by decide +kernel
theorem d_Mo_startAll_162 : decode b_Mo_startAll 162 = .ok (.iconst 1, 1) := by decide +kernel
theorem d_Mo_startAll_163 : decode b_Mo_startAll 163 = .ok (.putfield 123, 3) := by decide +kernel
theorem d_Mo_startAll_166 : decode b_Mo_startAll 166 = .ok (.iload_n 1, 1) := by decide +kernel
theorem d_Mo_startAll_167 : decode b_Mo_startAll 167 = .ok (.ireturn, 1) := by decide +kernel
theorem d_Mo_goHome_0 : decode b_Mo_goHome 0 = .ok (.iconst 0, 1) := by decide +kernel
theorem d_Mo_goHome_1 : decode b_Mo_goHome 1 = .ok (.istore_n 1, 1) := by decide +kernel
theorem d_Mo_goHome_2 : decode b_Mo_goHome 2 = .ok (.iload_n 1, 1) := by decide +kernel
theorem d_Mo_goHome_3 : decode b_Mo_goHome 3 = .ok (.aload_n 0, 1) := by decide +kernel
theorem d_Mo_goHome_4 : decode b_Mo_goHome 4 = .ok (.getfield 120, 3) := by decide +kernel
theorem d_Mo_goHome_7 : decode b_Mo_goHome 7 = .ok (.if_icmp .ge 48, 3) := by decide +kernel
theorem d_Mo_goHome_10 : decode b_Mo_goHome 10 = .ok (.aload_n 0, 1) := by decide +kernel
theorem d_Mo_goHome_11 : decode b_Mo_goHome 11 = .ok (.getfield 28, 3) := by decide +kernel
theorem d_Mo_goHome_14 : decode b_Mo_goHome 14 = .ok (.iload_n 1, 1) := by decide +kernel
theorem d_Mo_goHome_15 : decode b_Mo_goHome 15 = .ok (.aload_n 0, 1) := by decide +kernel
theorem d_Mo_goHome_16 : decode b_Mo_goHome 16 = .ok (.getfield 28, 3) := by decide +kernel
theorem d_Mo_goHome_19 : decode b_Mo_goHome 19 = .ok (.iload_n 1, 1) := by decide +kernel
theorem d_Mo_goHome_20 : decode b_Mo_goHome 20 = .ok (.iaload, 1) := by decide +kernel
theorem d_Mo_goHome_21 : decode b_Mo_goHome 21 = .ok (.iconst 1, 1) := by decide +kernel
theorem d_Mo_goHome_22 : decode b_Mo_goHome 22 = .ok (.if_icmp .ne 7, 3) := by decide +kernel
theorem d_Mo_goHome_25 : decode b_Mo_goHome 25 = .ok (.iconst 3, 1) := by decide +kernel
theorem d_Mo_goHome_26 : decode b_Mo_goHome 26 = .ok (.goto 22, 3) := by decide +kernel
theorem d_Mo_goHome_29 : decode b_Mo_goHome 29 = .ok (.aload_n 0, 1) := by decide +kernel
theorem d_Mo_goHome_30 : decode b_Mo_goHome 30 = .ok (.getfield 28, 3) := by decide +kernel
theorem d_Mo_goHome_33 : decode b_Mo_goHome 33 = .ok (.iload_n 1, 1) := by decide +kernel
theorem d_Mo_goHome_34 : decode b_Mo_goHome 34 = .ok (.iaload, 1) := by decide +kernel
theorem d_Mo_goHome_35 : decode b_Mo_goHome 35 = .ok (.ifCond .ne 7, 3) := by decide +kernel
theorem d_Mo_goHome_38 : decode b_Mo_goHome 38 = .ok (.iconst 4, 1) := by decide +kernel
theorem d_Mo_goHome_39 : decode b_Mo_goHome 39 = .ok (.goto 9, 3) := by decide +kernel
theorem d_Mo_goHome_42 : decode b_Mo_goHome 42 = .ok (.aload_n 0, 1) := by decide +kernel
theorem d_Mo_goHome_43 : decode b_Mo_goHome 43 = .ok (.getfield 28, 3) := by decide +kernel
theorem d_Mo_goHome_46 : decode b_Mo_goHome 46 = .ok (.iload_n 1, 1) := by decide +kernel
theorem d_Mo_goHome_47 : decode b_Mo_goHome 47 = .ok (.iaload, 1) := by decide +kernel
theorem d_Mo_goHome_48 : decode b_Mo_goHome 48 = .ok (.iastore, 1) := by decide +kernel
theorem d_Mo_goHome_49 : decode b_Mo_goHome 49 = .ok (.iinc 1 1, 3) := by decide +kernel
theorem d_Mo_goHome_52 : decode b_Mo_goHome 52 = .ok (.goto (-50), 3) := by decide +kernel
theorem d_Mo_goHome_55 : decode b_Mo_goHome 55 = .ok (.aload_n 0, 1) := by decide +kernel
theorem d_Mo_goHome_56 : decode b_Mo_goHome 56 = .ok (.iconst 2, 1) := by decide +kernel
theorem d_Mo_goHome_57 : decode b_Mo_goHome 57 = .ok (.putfield 123, 3) := by decide +kernel
theorem d_Mo_goHome_60 : decode b_Mo_goHome 60 = .ok (.aload_n 0, 1) := by decide +kernel
theorem d_Mo_goHome_61 : decode b_Mo_goHome 61 = .ok (.aload_n 0, 1) := by decide +kernel
theorem d_Mo_goHome_62 : decode b_Mo_goHome 62 = .ok (.getfield 65, 3) := by decide +kernel
theorem d_Mo_goHome_65 : decode b_Mo_goHome 65 = .ok (.putfield 179, 3) := by decide +kernel
theorem d_Mo_goHome_68 : decode b_Mo_goHome 68 = .ok (.return_, 1) := by decide +kernel
theorem d_Mo_enable_0 : decode b_Mo_enable 0 = .ok (.aload_n 0, 1) := by decide +kernel
theorem d_Mo_enable_1 : decode b_Mo_enable 1 = .ok (.aload_n 0, 1) := by decide +kernel
theorem d_Mo_enable_2 : decode b_Mo_enable 2 = .ok (.getfield 123, 3) := by decide +kernel
theorem d_Mo_enable_5 : decode b_Mo_enable 5 = .ok (.ifCond .ne 25, 3) := by decide +kernel
theorem d_Mo_enable_8 : decode b_Mo_enable 8 = .ok (.aload_n 0, 1) := by decide +kernel
theorem d_Mo_enable_9 : decode b_Mo_enable 9 = .ok (.getfield 120, 3) := by decide +kernel
theorem d_Mo_enable_12 : decode b_Mo_enable 12 = .ok (.ifCond .eq 18, 3) := by decide +kernel
theorem d_Mo_enable_15 : decode b_Mo_enable 15 = .ok (.aload_n 0, 1) := by decide +kernel
theorem d_Mo_enable_16 : decode b_Mo_enable 16 = .ok (.aload_n 0, 1) := by decide +kernel
theorem d_Mo_enable_17 : decode b_Mo_enable 17 = .ok (.getfield 55, 3) := by decide +kernel
theorem d_Mo_enable_20 : decode b_Mo_enable 20 = .ok (.aload_n 0, 1) := by decide +kernel
theorem d_Mo_enable_21 : decode b_Mo_enable 21 = .ok (.getfield 154, 3) := by decide +kernel
theorem d_Mo_enable_24 : decode b_Mo_enable 24 = .ok (.invokevirtual 157, 3) := by decide +kernel
theorem d_Mo_enable_27 : decode b_Mo_enable 27 = .ok (.ifCond .ne 7, 3) := by decide +kernel
theorem d_Mo_enable_30 : decode b_Mo_enable 30 = .ok (.iconst 1, 1) := by decide +kernel
theorem d_Mo_enable_31 : decode b_Mo_enable 31 = .ok (.goto 4, 3) := by decide +kernel
theorem d_Mo_enable_34 : decode b_Mo_enable 34 = .ok (.iconst 0, 1) := by decide +kernel
theorem d_Mo_enable_35 : decode b_Mo_enable 35 = .ok (.iconst 0, 1) := by decide +kernel
theorem d_Mo_enable_36 : decode b_Mo_enable 36 = .ok (.invokevirtual 126, 3) := by decide +kernel
theorem d_Mo_enable_39 : decode b_Mo_enable 39 = .ok (.ifCond .eq 5, 3) := by decide +kernel
theorem d_Mo_enable_42 : decode b_Mo_enable 42 = .ok (.iconst 0, 1) := by decide +kernel
theorem d_Mo_enable_43 : decode b_Mo_enable 43 = .ok (.ireturn, 1) := by decide +kernel
theorem d_Mo_enable_44 : decode b_Mo_enable 44 = .ok (.aload_n 0, 1) := by decide +kernel
theorem d_Mo_enable_45 : decode b_Mo_enable 45 = .ok (.invokevirtual 136, 3) := by decide +kernel
theorem d_Mo_enable_48 : decode b_Mo_enable 48 = .ok (.aload_n 0, 1) := by decide +kernel
theorem d_Mo_enable_49 : decode b_Mo_enable 49 = .ok (.aload_n 0, 1) := by decide +kernel
theorem d_Mo_enable_50 : decode b_Mo_enable 50 = .ok (.getfield 154, 3) := by decide +kernel
theorem d_Mo_enable_53 : decode b_Mo_enable 53 = .ok (.putfield 163, 3) := by decide +kernel
theorem d_Mo_enable_56 : decode b_Mo_enable 56 = .ok (.aload_n 0, 1) := by decide +kernel
theorem d_Mo_enable_57 : decode b_Mo_enable 57 = .ok (.invokevirtual 182, 3) := by decide +kernel
theorem d_Mo_enable_60 : decode b_Mo_enable 60 = .ok (.aload_n 0, 1) := by decide +kernel
theorem d_Mo_enable_61 : decode b_Mo_enable 61 = .ok (.invokevirtual 185, 3) := by decide +kernel
theorem d_Mo_enable_64 : decode b_Mo_enable 64 = .ok (.ireturn, 1) := by decide +kernel
theorem d_Mo_cancel_0 : decode b_Mo_cancel 0 = .ok (.aload_n 0, 1) := by decide +kernel
theorem d_Mo_cancel_1 : decode b_Mo_cancel 1 = .ok (.aload_n 0, 1) := by decide +kernel
theorem d_Mo_cancel_2 : decode b_Mo_cancel 2 = .ok (.getfield 123, 3) := by decide +kernel
theorem d_Mo_cancel_5 : decode b_Mo_cancel 5 = .ok (.iconst 1, 1) := by decide +kernel
theorem d_Mo_cancel_6 : decode b_Mo_cancel 6 = .ok (.if_icmp .eq 7, 3) := by decide +kernel
theorem d_Mo_cancel_9 : decode b_Mo_cancel 9 = .ok (.iconst 1, 1) := by decide +kernel
theorem d_Mo_cancel_10 : decode b_Mo_cancel 10 = .ok (.goto 4, 3) := by decide +kernel
theorem d_Mo_cancel_13 : decode b_Mo_cancel 13 = .ok (.iconst 0, 1) := by decide +kernel
theorem d_Mo_cancel_14 : decode b_Mo_cancel 14 = .ok (.iconst 0, 1) := by decide +kernel
theorem d_Mo_cancel_15 : decode b_Mo_cancel 15 = .ok (.invokevirtual 126, 3) := by decide +kernel
theorem d_Mo_cancel_18 : decode b_Mo_cancel 18 = .ok (.ifCond .ne 7, 3) := by decide +kernel
theorem d_Mo_cancel_21 : decode b_Mo_cancel 21 = .ok (.aload_n 0, 1) := by decide +kernel
theorem d_Mo_cancel_22 : decode b_Mo_cancel 22 = .ok (.invokevirtual 188, 3) := by decide +kernel
theorem d_Mo_cancel_25 : decode b_Mo_cancel 25 = .ok (.return_, 1) := by decide +kernel
theorem d_Mo_draw_0 : decode b_Mo_draw 0 = .ok (.aload_n 0, 1) := by decide +kernel
theorem d_Mo_draw_1 : decode b_Mo_draw 1 = .ok (.getfield 62, 3) := by decide +kernel
theorem d_Mo_draw_4 : decode b_Mo_draw 4 = .ok (.ifCond .ge 18, 3) := by decide +kernel
theorem d_Mo_draw_7 : decode b_Mo_draw 7 = .ok (.aload_n 0, 1) := by decide +kernel
theorem d_Mo_draw_8 : decode b_Mo_draw 8 = .ok (.getfield 59, 3) := by decide +kernel
theorem d_Mo_draw_11 : decode b_Mo_draw 11 = .ok (.aload_n 0, 1) := by decide +kernel
theorem d_Mo_draw_12 : decode b_Mo_draw 12 = .ok (.getfield 154, 3) := by decide +kernel
theorem d_Mo_draw_15 : decode b_Mo_draw 15 = .ok (.bipush 24, 2) := by decide +kernel
theorem d_Mo_draw_17 : decode b_Mo_draw 17 = .ok (.irem, 1) := by decide +kernel
theorem d_Mo_draw_18 : decode b_Mo_draw 18 = .ok (.iaload, 1) := by decide +kernel
theorem d_Mo_draw_19 : decode b_Mo_draw 19 = .ok (.goto 7, 3) := by decide +kernel
theorem d_Mo_draw_22 : decode b_Mo_draw 22 = .ok (.aload_n 0, 1) := by decide +kernel
theorem d_Mo_draw_23 : decode b_Mo_draw 23 = .ok (.getfield 62, 3) := by decide +kernel
theorem d_Mo_draw_26 : decode b_Mo_draw 26 = .ok (.istore_n 2, 1) := by decide +kernel
theorem d_Mo_draw_27 : decode b_Mo_draw 27 = .ok (.aload_n 0, 1) := by decide +kernel
theorem d_Mo_draw_28 : decode b_Mo_draw 28 = .ok (.getfield 55, 3) := by decide +kernel
theorem d_Mo_draw_31 : decode b_Mo_draw 31 = .ok (.iload_n 2, 1) := by decide +kernel
theorem d_Mo_draw_32 : decode b_Mo_draw 32 = .ok (.iadd, 1) := by decide +kernel
theorem d_Mo_draw_33 : decode b_Mo_draw 33 = .ok (.iload_n 1, 1) := by decide +kernel
theorem d_Mo_draw_34 : decode b_Mo_draw 34 = .ok (.isub, 1) := by decide +kernel
theorem d_Mo_draw_35 : decode b_Mo_draw 35 = .ok (.istore_n 3, 1) := by decide +kernel
theorem d_Mo_draw_36 : decode b_Mo_draw 36 = .ok (.aload_n 0, 1) := by decide +kernel
theorem d_Mo_draw_37 : decode b_Mo_draw 37 = .ok (.iload_n 3, 1) := by decide +kernel
theorem d_Mo_draw_38 : decode b_Mo_draw 38 = .ok (.sipush 1000, 3) := by decide +kernel
theorem d_Mo_draw_41 : decode b_Mo_draw 41 = .ok (.if_icmp .le 9, 3) := by decide +kernel
theorem d_Mo_draw_44 : decode b_Mo_draw 44 = .ok (.sipush 1000, 3) := by decide +kernel
theorem d_Mo_draw_47 : decode b_Mo_draw 47 = .ok (.goto 12, 3) := by decide +kernel
theorem d_Mo_draw_50 : decode b_Mo_draw 50 = .ok (.iload_n 3, 1) := by decide +kernel
theorem d_Mo_draw_51 : decode b_Mo_draw 51 = .ok (.ifCond .ge 7, 3) := by decide +kernel
theorem d_Mo_draw_54 : decode b_Mo_draw 54 = .ok (.iconst 0, 1) := by decide +kernel
theorem d_Mo_draw_55 : decode b_Mo_draw 55 = .ok (.goto 4, 3) := by decide +kernel
theorem d_Mo_draw_58 : decode b_Mo_draw 58 = .ok (.iload_n 3, 1) := by decide +kernel
theorem d_Mo_draw_59 : decode b_Mo_draw 59 = .ok (.putfield 55, 3) := by decide +kernel
theorem d_Mo_draw_62 : decode b_Mo_draw 62 = .ok (.return_, 1) := by decide +kernel
theorem d_Mo_age_0 : decode b_Mo_age 0 = .ok (.iconst 0, 1) := by decide +kernel
theorem d_Mo_age_1 : decode b_Mo_age 1 = .ok (.istore_n 1, 1) := by decide +kernel
theorem d_Mo_age_2 : decode b_Mo_age 2 = .ok (.iconst 0, 1) := by decide +kernel
theorem d_Mo_age_3 : decode b_Mo_age 3 = .ok (.istore_n 2, 1) := by decide +kernel
theorem d_Mo_age_4 : decode b_Mo_age 4 = .ok (.iload_n 2, 1) := by decide +kernel
theorem d_Mo_age_5 : decode b_Mo_age 5 = .ok (.aload_n 0, 1) := by decide +kernel
theorem d_Mo_age_6 : decode b_Mo_age 6 = .ok (.getfield 120, 3) := by decide +kernel
theorem d_Mo_age_9 : decode b_Mo_age 9 = .ok (.if_icmp .ge 46, 3) := by decide +kernel
theorem d_Mo_age_12 : decode b_Mo_age 12 = .ok (.aload_n 0, 1) := by decide +kernel
theorem d_Mo_age_13 : decode b_Mo_age 13 = .ok (.getfield 28, 3) := by decide +kernel
theorem d_Mo_age_16 : decode b_Mo_age 16 = .ok (.iload_n 2, 1) := by decide +kernel
theorem d_Mo_age_17 : decode b_Mo_age 17 = .ok (.iaload, 1) := by decide +kernel
theorem d_Mo_age_18 : decode b_Mo_age 18 = .ok (.iconst 1, 1) := by decide +kernel
theorem d_Mo_age_19 : decode b_Mo_age 19 = .ok (.if_icmp .ne 30, 3) := by decide +kernel
theorem d_Mo_age_22 : decode b_Mo_age 22 = .ok (.iload_n 1, 1) := by decide +kernel
theorem d_Mo_age_23 : decode b_Mo_age 23 = .ok (.aload_n 0, 1) := by decide +kernel
theorem d_Mo_age_24 : decode b_Mo_age 24 = .ok (.getfield 46, 3) := by decide +kernel
theorem d_Mo_age_27 : decode b_Mo_age 27 = .ok (.iload_n 2, 1) := by decide +kernel
theorem d_Mo_age_28 : decode b_Mo_age 28 = .ok (.iaload, 1) := by decide +kernel
theorem d_Mo_age_29 : decode b_Mo_age 29 = .ok (.iadd, 1) := by decide +kernel
theorem d_Mo_age_30 : decode b_Mo_age 30 = .ok (.istore_n 1, 1) := by decide +kernel
