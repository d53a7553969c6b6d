theorem d_Mo_unfit_110 : decode b_Mo_unfit 110 = .ok (.goto (-35), 3) := by decide +kernel
theorem d_Mo_unfit_113 : decode b_Mo_unfit 113 = .ok (.iconst 0, 1) := by decide +kernel
theorem d_Mo_unfit_114 : decode b_Mo_unfit 114 = .ok (.ireturn, 1) := by decide +kernel
theorem d_Mo_rest_0 : decode b_Mo_rest 0 = .ok (.iconst 0, 1) := by decide +kernel
theorem d_Mo_rest_1 : decode b_Mo_rest 1 = .ok (.istore_n 1, 1) := by decide +kernel
theorem d_Mo_rest_2 : decode b_Mo_rest 2 = .ok (.iload_n 1, 1) := by decide +kernel
theorem d_Mo_rest_3 : decode b_Mo_rest 3 = .ok (.aload_n 0, 1) := by decide +kernel
theorem d_Mo_rest_4 : decode b_Mo_rest 4 = .ok (.getfield 120, 3) := by decide +kernel
theorem d_Mo_rest_7 : decode b_Mo_rest 7 = .ok (.if_icmp .ge 52, 3) := by decide +kernel
theorem d_Mo_rest_10 : decode b_Mo_rest 10 = .ok (.aload_n 0, 1) := by decide +kernel
theorem d_Mo_rest_11 : decode b_Mo_rest 11 = .ok (.getfield 28, 3) := by decide +kernel
theorem d_Mo_rest_14 : decode b_Mo_rest 14 = .ok (.iload_n 1, 1) := by decide +kernel
theorem d_Mo_rest_15 : decode b_Mo_rest 15 = .ok (.iconst 0, 1) := by decide +kernel
theorem d_Mo_rest_16 : decode b_Mo_rest 16 = .ok (.iastore, 1) := by decide +kernel
theorem d_Mo_rest_17 : decode b_Mo_rest 17 = .ok (.aload_n 0, 1) := by decide +kernel
theorem d_Mo_rest_18 : decode b_Mo_rest 18 = .ok (.getfield 31, 3) := by decide +kernel
theorem d_Mo_rest_21 : decode b_Mo_rest 21 = .ok (.iload_n 1, 1) := by decide +kernel
theorem d_Mo_rest_22 : decode b_Mo_rest 22 = .ok (.iconst (-1), 1) := by decide +kernel
theorem d_Mo_rest_23 : decode b_Mo_rest 23 = .ok (.iastore, 1) := by decide +kernel
theorem d_Mo_rest_24 : decode b_Mo_rest 24 = .ok (.aload_n 0, 1) := by decide +kernel
theorem d_Mo_rest_25 : decode b_Mo_rest 25 = .ok (.getfield 34, 3) := by decide +kernel
theorem d_Mo_rest_28 : decode b_Mo_rest 28 = .ok (.iload_n 1, 1) := by decide +kernel
theorem d_Mo_rest_29 : decode b_Mo_rest 29 = .ok (.iconst 0, 1) := by decide +kernel
theorem d_Mo_rest_30 : decode b_Mo_rest 30 = .ok (.iastore, 1) := by decide +kernel
theorem d_Mo_rest_31 : decode b_Mo_rest 31 = .ok (.aload_n 0, 1) := by decide +kernel
theorem d_Mo_rest_32 : decode b_Mo_rest 32 = .ok (.getfield 37, 3) := by decide +kernel
theorem d_Mo_rest_35 : decode b_Mo_rest 35 = .ok (.iload_n 1, 1) := by decide +kernel
theorem d_Mo_rest_36 : decode b_Mo_rest 36 = .ok (.aload_n 0, 1) := by decide +kernel
theorem d_Mo_rest_37 : decode b_Mo_rest 37 = .ok (.getfield 22, 3) := by decide +kernel
theorem d_Mo_rest_40 : decode b_Mo_rest 40 = .ok (.bipush 48, 2) := by decide +kernel
theorem d_Mo_rest_42 : decode b_Mo_rest 42 = .ok (.iload_n 1, 1) := by decide +kernel
theorem d_Mo_rest_43 : decode b_Mo_rest 43 = .ok (.iadd, 1) := by decide +kernel
theorem d_Mo_rest_44 : decode b_Mo_rest 44 = .ok (.iaload, 1) := by decide +kernel
theorem d_Mo_rest_45 : decode b_Mo_rest 45 = .ok (.iastore, 1) := by decide +kernel
theorem d_Mo_rest_46 : decode b_Mo_rest 46 = .ok (.aload_n 0, 1) := by decide +kernel
theorem d_Mo_rest_47 : decode b_Mo_rest 47 = .ok (.getfield 40, 3) := by decide +kernel
theorem d_Mo_rest_50 : decode b_Mo_rest 50 = .ok (.iload_n 1, 1) := by decide +kernel
theorem d_Mo_rest_51 : decode b_Mo_rest 51 = .ok (.iconst 0, 1) := by decide +kernel
theorem d_Mo_rest_52 : decode b_Mo_rest 52 = .ok (.iastore, 1) := by decide +kernel
theorem d_Mo_rest_53 : decode b_Mo_rest 53 = .ok (.iinc 1 1, 3) := by decide +kernel
theorem d_Mo_rest_56 : decode b_Mo_rest 56 = .ok (.goto (-54), 3) := by decide +kernel
theorem d_Mo_rest_59 : decode b_Mo_rest 59 = .ok (.return_, 1) := by decide +kernel
theorem d_Mo_submit_0 : decode b_Mo_submit 0 = .ok (.aload_n 0, 1) := by decide +kernel
theorem d_Mo_submit_1 : decode b_Mo_submit 1 = .ok (.aload_n 0, 1) := by decide +kernel
theorem d_Mo_submit_2 : decode b_Mo_submit 2 = .ok (.getfield 123, 3) := by decide +kernel
theorem d_Mo_submit_5 : decode b_Mo_submit 5 = .ok (.ifCond .eq 7, 3) := by decide +kernel
theorem d_Mo_submit_8 : decode b_Mo_submit 8 = .ok (.iconst 1, 1) := by decide +kernel
theorem d_Mo_submit_9 : decode b_Mo_submit 9 = .ok (.goto 4, 3) := by decide +kernel
theorem d_Mo_submit_12 : decode b_Mo_submit 12 = .ok (.iconst 0, 1) := by decide +kernel
theorem d_Mo_submit_13 : decode b_Mo_submit 13 = .ok (.iconst 0, 1) := by decide +kernel
theorem d_Mo_submit_14 : decode b_Mo_submit 14 = .ok (.invokevirtual 126, 3) := by decide +kernel
theorem d_Mo_submit_17 : decode b_Mo_submit 17 = .ok (.ifCond .eq 5, 3) := by decide +kernel
theorem d_Mo_submit_20 : decode b_Mo_submit 20 = .ok (.iconst 0, 1) := by decide +kernel
theorem d_Mo_submit_21 : decode b_Mo_submit 21 = .ok (.ireturn, 1) := by decide +kernel
theorem d_Mo_submit_22 : decode b_Mo_submit 22 = .ok (.aload_n 0, 1) := by decide +kernel
theorem d_Mo_submit_23 : decode b_Mo_submit 23 = .ok (.invokevirtual 130, 3) := by decide +kernel
theorem d_Mo_submit_26 : decode b_Mo_submit 26 = .ok (.istore_n 1, 1) := by decide +kernel
theorem d_Mo_submit_27 : decode b_Mo_submit 27 = .ok (.aload_n 0, 1) := by decide +kernel
theorem d_Mo_submit_28 : decode b_Mo_submit 28 = .ok (.iconst 0, 1) := by decide +kernel
theorem d_Mo_submit_29 : decode b_Mo_submit 29 = .ok (.putfield 71, 3) := by decide +kernel
theorem d_Mo_submit_32 : decode b_Mo_submit 32 = .ok (.iload_n 1, 1) := by decide +kernel
theorem d_Mo_submit_33 : decode b_Mo_submit 33 = .ok (.ifCond .eq 10, 3) := by decide +kernel
theorem d_Mo_submit_36 : decode b_Mo_submit 36 = .ok (.aload_n 0, 1) := by decide +kernel
theorem d_Mo_submit_37 : decode b_Mo_submit 37 = .ok (.invokevirtual 133, 3) := by decide +kernel
theorem d_Mo_submit_40 : decode b_Mo_submit 40 = .ok (.goto 9, 3) := by decide +kernel
theorem d_Mo_submit_43 : decode b_Mo_submit 43 = .ok (.aload_n 0, 1) := by decide +kernel
theorem d_Mo_submit_44 : decode b_Mo_submit 44 = .ok (.getfield 77, 3) := by decide +kernel
theorem d_Mo_submit_47 : decode b_Mo_submit 47 = .ok (.iconst 1, 1) := by decide +kernel
theorem d_Mo_submit_48 : decode b_Mo_submit 48 = .ok (.iadd, 1) := by decide +kernel
theorem d_Mo_submit_49 : decode b_Mo_submit 49 = .ok (.istore_n 2, 1) := by decide +kernel
theorem d_Mo_submit_50 : decode b_Mo_submit 50 = .ok (.iload_n 2, 1) := by decide +kernel
theorem d_Mo_submit_51 : decode b_Mo_submit 51 = .ok (.ifCond .eq 5, 3) := by decide +kernel
theorem d_Mo_submit_54 : decode b_Mo_submit 54 = .ok (.iload_n 2, 1) := by decide +kernel
theorem d_Mo_submit_55 : decode b_Mo_submit 55 = .ok (.ireturn, 1) := by decide +kernel
theorem d_Mo_submit_56 : decode b_Mo_submit 56 = .ok (.aload_n 0, 1) := by decide +kernel
theorem d_Mo_submit_57 : decode b_Mo_submit 57 = .ok (.aload_n 0, 1) := by decide +kernel
theorem d_Mo_submit_58 : decode b_Mo_submit 58 = .ok (.getfield 91, 3) := by decide +kernel
theorem d_Mo_submit_61 : decode b_Mo_submit 61 = .ok (.putfield 120, 3) := by decide +kernel
theorem d_Mo_submit_64 : decode b_Mo_submit 64 = .ok (.iconst 0, 1) := by decide +kernel
theorem d_Mo_submit_65 : decode b_Mo_submit 65 = .ok (.istore_n 3, 1) := by decide +kernel
theorem d_Mo_submit_66 : decode b_Mo_submit 66 = .ok (.iload_n 3, 1) := by decide +kernel
theorem d_Mo_submit_67 : decode b_Mo_submit 67 = .ok (.bipush 72, 2) := by decide +kernel
theorem d_Mo_submit_69 : decode b_Mo_submit 69 = .ok (.if_icmp .ge 21, 3) := by decide +kernel
theorem d_Mo_submit_72 : decode b_Mo_submit 72 = .ok (.aload_n 0, 1) := by decide +kernel
theorem d_Mo_submit_73 : decode b_Mo_submit 73 = .ok (.getfield 22, 3) := by decide +kernel
theorem d_Mo_submit_76 : decode b_Mo_submit 76 = .ok (.iload_n 3, 1) := by decide +kernel
theorem d_Mo_submit_77 : decode b_Mo_submit 77 = .ok (.aload_n 0, 1) := by decide +kernel
theorem d_Mo_submit_78 : decode b_Mo_submit 78 = .ok (.getfield 13, 3) := by decide +kernel
theorem d_Mo_submit_81 : decode b_Mo_submit 81 = .ok (.iload_n 3, 1) := by decide +kernel
theorem d_Mo_submit_82 : decode b_Mo_submit 82 = .ok (.iaload, 1) := by decide +kernel
theorem d_Mo_submit_83 : decode b_Mo_submit 83 = .ok (.iastore, 1) := by decide +kernel
theorem d_Mo_submit_84 : decode b_Mo_submit 84 = .ok (.iinc 3 1, 3) := by decide +kernel
theorem d_Mo_submit_87 : decode b_Mo_submit 87 = .ok (.goto (-21), 3) := by decide +kernel
theorem d_Mo_submit_90 : decode b_Mo_submit 90 = .ok (.iconst 0, 1) := by decide +kernel
theorem d_Mo_submit_91 : decode b_Mo_submit 91 = .ok (.istore_n 3, 1) := by decide +kernel
theorem d_Mo_submit_92 : decode b_Mo_submit 92 = .ok (.iload_n 3, 1) := by decide +kernel
theorem d_Mo_submit_93 : decode b_Mo_submit 93 = .ok (.bipush 8, 2) := by decide +kernel
theorem d_Mo_submit_95 : decode b_Mo_submit 95 = .ok (.if_icmp .ge 35, 3) := by decide +kernel
theorem d_Mo_submit_98 : decode b_Mo_submit 98 = .ok (.aload_n 0, 1) := by decide +kernel
theorem d_Mo_submit_99 : decode b_Mo_submit 99 = .ok (.getfield 25, 3) := by decide +kernel
theorem d_Mo_submit_102 : decode b_Mo_submit 102 = .ok (.iload_n 3, 1) := by decide +kernel
theorem d_Mo_submit_103 : decode b_Mo_submit 103 = .ok (.aload_n 0, 1) := by decide +kernel
theorem d_Mo_submit_104 : decode b_Mo_submit 104 = .ok (.getfield 19, 3) := by decide +kernel
theorem d_Mo_submit_107 : decode b_Mo_submit 107 = .ok (.iload_n 3, 1) := by decide +kernel
theorem d_Mo_submit_108 : decode b_Mo_submit 108 = .ok (.iaload, 1) := by decide +kernel
theorem d_Mo_submit_109 : decode b_Mo_submit 109 = .ok (.iastore, 1) := by decide +kernel
theorem d_Mo_submit_110 : decode b_Mo_submit 110 = .ok (.aload_n 0, 1) := by decide +kernel
theorem d_Mo_submit_111 : decode b_Mo_submit 111 = .ok (.getfield 49, 3) := by decide +kernel
theorem d_Mo_submit_114 : decode b_Mo_submit 114 = .ok (.iload_n 3, 1) := by decide +kernel
theorem d_Mo_submit_115 : decode b_Mo_submit 115 = .ok (.iconst (-1), 1) := by decide +kernel
theorem d_Mo_submit_116 : decode b_Mo_submit 116 = .ok (.iastore, 1) := by decide +kernel
theorem d_Mo_submit_117 : decode b_Mo_submit 117 = .ok (.aload_n 0, 1) := by decide +kernel
theorem d_Mo_submit_118 : decode b_Mo_submit 118 = .ok (.getfield 52, 3) := by decide +kernel
theorem d_Mo_submit_121 : decode b_Mo_submit 121 = .ok (.iload_n 3, 1) := by decide +kernel
theorem d_Mo_submit_122 : decode b_Mo_submit 122 = .ok (.iconst (-1), 1) := by decide +kernel
theorem d_Mo_submit_123 : decode b_Mo_submit 123 = .ok (.iastore, 1) := by decide +kernel
theorem d_Mo_submit_124 : decode b_Mo_submit 124 = .ok (.iinc 3 1, 3) := by decide +kernel
theorem d_Mo_submit_127 : decode b_Mo_submit 127 = .ok (.goto (-35), 3) := by decide +kernel
theorem d_Mo_submit_130 : decode b_Mo_submit 130 = .ok (.aload_n 0, 1) := by decide +kernel
theorem d_Mo_submit_131 : decode b_Mo_submit 131 = .ok (.invokevirtual 136, 3) := by decide +kernel
theorem d_Mo_submit_134 : decode b_Mo_submit 134 = .ok (.iconst 0, 1) := by decide +kernel
theorem d_Mo_submit_135 : decode b_Mo_submit 135 = .ok (.ireturn, 1) := by decide +kernel
theorem d_Mo_afterMinute_0 : decode b_Mo_afterMinute 0 = .ok (.iload_n 1, 1) := by decide +kernel
theorem d_Mo_afterMinute_1 : decode b_Mo_afterMinute 1 = .ok (.aload_n 0, 1) := by decide +kernel
theorem d_Mo_afterMinute_2 : decode b_Mo_afterMinute 2 = .ok (.getfield 59, 3) := by decide +kernel
theorem d_Mo_afterMinute_5 : decode b_Mo_afterMinute 5 = .ok (.iload_n 2, 1) := by decide +kernel
theorem d_Mo_afterMinute_6 : decode b_Mo_afterMinute 6 = .ok (.bipush 24, 2) := by decide +kernel
theorem d_Mo_afterMinute_8 : decode b_Mo_afterMinute 8 = .ok (.irem, 1) := by decide +kernel
theorem d_Mo_afterMinute_9 : decode b_Mo_afterMinute 9 = .ok (.iaload, 1) := by decide +kernel
theorem d_Mo_afterMinute_10 : decode b_Mo_afterMinute 10 = .ok (.iadd, 1) := by decide +kernel
theorem d_Mo_afterMinute_11 : decode b_Mo_afterMinute 11 = .ok (.iload_n 3, 1) := by decide +kernel
theorem d_Mo_afterMinute_12 : decode b_Mo_afterMinute 12 = .ok (.isub, 1) := by decide +kernel
theorem d_Mo_afterMinute_13 : decode b_Mo_afterMinute 13 = .ok (.istore 4, 2) := by decide +kernel
theorem d_Mo_afterMinute_15 : decode b_Mo_afterMinute 15 = .ok (.iload 4, 2) := by decide +kernel
theorem d_Mo_afterMinute_17 : decode b_Mo_afterMinute 17 = .ok (.sipush 1000, 3) := by decide +kernel
theorem d_Mo_afterMinute_20 : decode b_Mo_afterMinute 20 = .ok (.if_icmp .le 9, 3) := by decide +kernel
theorem d_Mo_afterMinute_23 : decode b_Mo_afterMinute 23 = .ok (.sipush 1000, 3) := by decide +kernel
theorem d_Mo_afterMinute_26 : decode b_Mo_afterMinute 26 = .ok (.goto 5, 3) := by decide +kernel
theorem d_Mo_afterMinute_29 : decode b_Mo_afterMinute 29 = .ok (.iload 4, 2) := by decide +kernel
theorem d_Mo_afterMinute_31 : decode b_Mo_afterMinute 31 = .ok (.ireturn, 1) := by decide +kernel
theorem d_Mo_isOpen_0 : decode b_Mo_isOpen 0 = .ok (.iload_n 1, 1) := by decide +kernel
theorem d_Mo_isOpen_1 : decode b_Mo_isOpen 1 = .ok (.istore_n 3, 1) := by decide +kernel
theorem d_Mo_isOpen_2 : decode b_Mo_isOpen 2 = .ok (.iconst 1, 1) := by decide +kernel
theorem d_Mo_isOpen_3 : decode b_Mo_isOpen 3 = .ok (.istore 4, 2) := by decide +kernel
theorem d_Mo_isOpen_5 : decode b_Mo_isOpen 5 = .ok (.iconst 1, 1) := by decide +kernel
theorem d_Mo_isOpen_6 : decode b_Mo_isOpen 6 = .ok (.istore 5, 2) := by decide +kernel
theorem d_Mo_isOpen_8 : decode b_Mo_isOpen 8 = .ok (.iload 5, 2) := by decide +kernel
theorem d_Mo_isOpen_10 : decode b_Mo_isOpen 10 = .ok (.aload_n 0, 1) := by decide +kernel
theorem d_Mo_isOpen_11 : decode b_Mo_isOpen 11 = .ok (.getfield 65, 3) := by decide +kernel
theorem d_Mo_isOpen_14 : decode b_Mo_isOpen 14 = .ok (.if_icmp .gt 39, 3) := by decide +kernel
theorem d_Mo_isOpen_17 : decode b_Mo_isOpen 17 = .ok (.iload 4, 2) := by decide +kernel
theorem d_Mo_isOpen_19 : decode b_Mo_isOpen 19 = .ok (.ifCond .eq 34, 3) := by decide +kernel
theorem d_Mo_isOpen_22 : decode b_Mo_isOpen 22 = .ok (.aload_n 0, 1) := by decide +kernel
theorem d_Mo_isOpen_23 : decode b_Mo_isOpen 23 = .ok (.iload_n 3, 1) := by decide +kernel
theorem d_Mo_isOpen_24 : decode b_Mo_isOpen 24 = .ok (.iload_n 2, 1) := by decide +kernel
theorem d_Mo_isOpen_25 : decode b_Mo_isOpen 25 = .ok (.iload 5, 2) := by decide +kernel
theorem d_Mo_isOpen_27 : decode b_Mo_isOpen 27 = .ok (.iadd, 1) := by decide +kernel
theorem d_Mo_isOpen_28 : decode b_Mo_isOpen 28 = .ok (.aload_n 0, 1) := by decide +kernel
theorem d_Mo_isOpen_29 : decode b_Mo_isOpen 29 = .ok (.getfield 68, 3) := by decide +kernel
theorem d_Mo_isOpen_32 : decode b_Mo_isOpen 32 = .ok (.invokevirtual 139, 3) := by decide +kernel
theorem d_Mo_isOpen_35 : decode b_Mo_isOpen 35 = .ok (.istore_n 3, 1) := by decide +kernel
theorem d_Mo_isOpen_36 : decode b_Mo_isOpen 36 = .ok (.iload_n 3, 1) := by decide +kernel
theorem d_Mo_isOpen_37 : decode b_Mo_isOpen 37 = .ok (.ifCond .lt 7, 3) := by decide +kernel
theorem d_Mo_isOpen_40 : decode b_Mo_isOpen 40 = .ok (.iconst 1, 1) := by decide +kernel
theorem d_Mo_isOpen_41 : decode b_Mo_isOpen 41 = .ok (.goto 4, 3) := by decide +kernel
theorem d_Mo_isOpen_44 : decode b_Mo_isOpen 44 = .ok (.iconst 0, 1) := by decide +kernel
theorem d_Mo_isOpen_45 : decode b_Mo_isOpen 45 = .ok (.istore 4, 2) := by decide +kernel
theorem d_Mo_isOpen_47 : decode b_Mo_isOpen 47 = .ok (.iinc 5 1, 3) := by decide +kernel
theorem d_Mo_isOpen_50 : decode b_Mo_isOpen 50 = .ok (.goto (-42), 3) := by decide +kernel
theorem d_Mo_isOpen_53 : decode b_Mo_isOpen 53 = .ok (.iload 4, 2) := by decide +kernel
theorem d_Mo_isOpen_55 : decode b_Mo_isOpen 55 = .ok (.ireturn, 1) := by decide +kernel
theorem d_Mo_isRunningOr_0 : decode b_Mo_isRunningOr 0 = .ok (.aload_n 0, 1) := by decide +kernel
theorem d_Mo_isRunningOr_1 : decode b_Mo_isRunningOr 1 = .ok (.getfield 28, 3) := by decide +kernel
theorem d_Mo_isRunningOr_4 : decode b_Mo_isRunningOr 4 = .ok (.iload_n 1, 1) := by decide +kernel
theorem d_Mo_isRunningOr_5 : decode b_Mo_isRunningOr 5 = .ok (.iaload, 1) := by decide +kernel
theorem d_Mo_isRunningOr_6 : decode b_Mo_isRunningOr 6 = .ok (.iconst 1, 1) := by decide +kernel
theorem d_Mo_isRunningOr_7 : decode b_Mo_isRunningOr 7 = .ok (.if_icmp .eq 8, 3) := by decide +kernel
theorem d_Mo_isRunningOr_10 : decode b_Mo_isRunningOr 10 = .ok (.iload_n 1, 1) := by decide +kernel
theorem d_Mo_isRunningOr_11 : decode b_Mo_isRunningOr 11 = .ok (.iload_n 2, 1) := by decide +kernel
theorem d_Mo_isRunningOr_12 : decode b_Mo_isRunningOr 12 = .ok (.if_icmp .ne 7, 3) := by decide +kernel
theorem d_Mo_isRunningOr_15 : decode b_Mo_isRunningOr 15 = .ok (.iconst 1, 1) := by decide +kernel
theorem d_Mo_isRunningOr_16 : decode b_Mo_isRunningOr 16 = .ok (.goto 4, 3) := by decide +kernel
theorem d_Mo_isRunningOr_19 : decode b_Mo_isRunningOr 19 = .ok (.iconst 0, 1) := by decide +kernel
theorem d_Mo_isRunningOr_20 : decode b_Mo_isRunningOr 20 = .ok (.ireturn, 1) := by decide +kernel
theorem d_Mo_leftOf_0 : decode b_Mo_leftOf 0 = .ok (.aload_n 0, 1) := by decide +kernel
theorem d_Mo_leftOf_1 : decode b_Mo_leftOf 1 = .ok (.getfield 22, 3) := by decide +kernel
theorem d_Mo_leftOf_4 : decode b_Mo_leftOf 4 = .ok (.bipush 8, 2) := by decide +kernel
theorem d_Mo_leftOf_6 : decode b_Mo_leftOf 6 = .ok (.iload_n 1, 1) := by decide +kernel
theorem d_Mo_leftOf_7 : decode b_Mo_leftOf 7 = .ok (.iadd, 1) := by decide +kernel
theorem d_Mo_leftOf_8 : decode b_Mo_leftOf 8 = .ok (.iaload, 1) := by decide +kernel
theorem d_Mo_leftOf_9 : decode b_Mo_leftOf 9 = .ok (.iload_n 1, 1) := by decide +kernel
theorem d_Mo_leftOf_10 : decode b_Mo_leftOf 10 = .ok (.iload_n 2, 1) := by decide +kernel
theorem d_Mo_leftOf_11 : decode b_Mo_leftOf 11 = .ok (.if_icmp .ne 7, 3) := by decide +kernel
theorem d_Mo_leftOf_14 : decode b_Mo_leftOf 14 = .ok (.iconst 0, 1) := by decide +kernel
theorem d_Mo_leftOf_15 : decode b_Mo_leftOf 15 = .ok (.goto 9, 3) := by decide +kernel
theorem d_Mo_leftOf_18 : decode b_Mo_leftOf 18 = .ok (.aload_n 0, 1) := by decide +kernel
theorem d_Mo_leftOf_19 : decode b_Mo_leftOf 19 = .ok (.getfield 34, 3) := by decide +kernel
theorem d_Mo_leftOf_22 : decode b_Mo_leftOf 22 = .ok (.iload_n 1, 1) := by decide +kernel
theorem d_Mo_leftOf_23 : decode b_Mo_leftOf 23 = .ok (.iaload, 1) := by decide +kernel
theorem d_Mo_leftOf_24 : decode b_Mo_leftOf 24 = .ok (.isub, 1) := by decide +kernel
theorem d_Mo_leftOf_25 : decode b_Mo_leftOf 25 = .ok (.ireturn, 1) := by decide +kernel
theorem d_Mo_drawIn_0 : decode b_Mo_drawIn 0 = .ok (.iconst 0, 1) := by decide +kernel
theorem d_Mo_drawIn_1 : decode b_Mo_drawIn 1 = .ok (.istore_n 3, 1) := by decide +kernel
theorem d_Mo_drawIn_2 : decode b_Mo_drawIn 2 = .ok (.iconst 0, 1) := by decide +kernel
theorem d_Mo_drawIn_3 : decode b_Mo_drawIn 3 = .ok (.istore 4, 2) := by decide +kernel
theorem d_Mo_drawIn_5 : decode b_Mo_drawIn 5 = .ok (.iconst 0, 1) := by decide +kernel
theorem d_Mo_drawIn_6 : decode b_Mo_drawIn 6 = .ok (.istore 5, 2) := by decide +kernel
theorem d_Mo_drawIn_8 : decode b_Mo_drawIn 8 = .ok (.iload 5, 2) := by decide +kernel
theorem d_Mo_drawIn_10 : decode b_Mo_drawIn 10 = .ok (.aload_n 0, 1) := by decide +kernel
theorem d_Mo_drawIn_11 : decode b_Mo_drawIn 11 = .ok (.getfield 120, 3) := by decide +kernel
theorem d_Mo_drawIn_14 : decode b_Mo_drawIn 14 = .ok (.if_icmp .ge 76, 3) := by decide +kernel
theorem d_Mo_drawIn_17 : decode b_Mo_drawIn 17 = .ok (.aload_n 0, 1) := by decide +kernel
theorem d_Mo_drawIn_18 : decode b_Mo_drawIn 18 = .ok (.iload 5, 2) := by decide +kernel
theorem d_Mo_drawIn_20 : decode b_Mo_drawIn 20 = .ok (.iload_n 2, 1) := by decide +kernel
theorem d_Mo_drawIn_21 : decode b_Mo_drawIn 21 = .ok (.invokevirtual 143, 3) := by decide +kernel
theorem d_Mo_drawIn_24 : decode b_Mo_drawIn 24 = .ok (.ifCond .eq 18, 3) := by decide +kernel
theorem d_Mo_drawIn_27 : decode b_Mo_drawIn 27 = .ok (.aload_n 0, 1) := by decide +kernel
theorem d_Mo_drawIn_28 : decode b_Mo_drawIn 28 = .ok (.iload 5, 2) := by decide +kernel
theorem d_Mo_drawIn_30 : decode b_Mo_drawIn 30 = .ok (.iload_n 2, 1) := by decide +kernel
theorem d_Mo_drawIn_31 : decode b_Mo_drawIn 31 = .ok (.invokevirtual 147, 3) := by decide +kernel
theorem d_Mo_drawIn_34 : decode b_Mo_drawIn 34 = .ok (.iload_n 1, 1) := by decide +kernel
theorem d_Mo_drawIn_35 : decode b_Mo_drawIn 35 = .ok (.if_icmp .lt 7, 3) := by decide +kernel
theorem d_Mo_drawIn_38 : decode b_Mo_drawIn 38 = .ok (.iconst 1, 1) := by decide +kernel
theorem d_Mo_drawIn_39 : decode b_Mo_drawIn 39 = .ok (.goto 4, 3) := by decide +kernel
theorem d_Mo_drawIn_42 : decode b_Mo_drawIn 42 = .ok (.iconst 0, 1) := by decide +kernel
theorem d_Mo_drawIn_43 : decode b_Mo_drawIn 43 = .ok (.istore 6, 2) := by decide +kernel
theorem d_Mo_drawIn_45 : decode b_Mo_drawIn 45 = .ok (.iload 6, 2) := by decide +kernel
theorem d_Mo_drawIn_47 : decode b_Mo_drawIn 47 = .ok (.ifCond .eq 18, 3) := by decide +kernel
theorem d_Mo_drawIn_50 : decode b_Mo_drawIn 50 = .ok (.iload_n 3, 1) := by decide +kernel
theorem d_Mo_drawIn_51 : decode b_Mo_drawIn 51 = .ok (.aload_n 0, 1) := by decide +kernel
theorem d_Mo_drawIn_52 : decode b_Mo_drawIn 52 = .ok (.getfield 22, 3) := by decide +kernel
theorem d_Mo_drawIn_55 : decode b_Mo_drawIn 55 = .ok (.bipush 16, 2) := by decide +kernel
theorem d_Mo_drawIn_57 : decode b_Mo_drawIn 57 = .ok (.iload 5, 2) := by decide +kernel
theorem d_Mo_drawIn_59 : decode b_Mo_drawIn 59 = .ok (.iadd, 1) := by decide +kernel
theorem d_Mo_drawIn_60 : decode b_Mo_drawIn 60 = .ok (.iaload, 1) := by decide +kernel
theorem d_Mo_drawIn_61 : decode b_Mo_drawIn 61 = .ok (.iadd, 1) := by decide +kernel
theorem d_Mo_drawIn_62 : decode b_Mo_drawIn 62 = .ok (.goto 4, 3) := by decide +kernel
theorem d_Mo_drawIn_65 : decode b_Mo_drawIn 65 = .ok (.iload_n 3, 1) := by decide +kernel
theorem d_Mo_drawIn_66 : decode b_Mo_drawIn 66 = .ok (.istore_n 3, 1) := by decide +kernel
theorem d_Mo_drawIn_67 : decode b_Mo_drawIn 67 = .ok (.iload 4, 2) := by decide +kernel
theorem d_Mo_drawIn_69 : decode b_Mo_drawIn 69 = .ok (.ifCond .ne 8, 3) := by decide +kernel
theorem d_Mo_drawIn_72 : decode b_Mo_drawIn 72 = .ok (.iload 6, 2) := by decide +kernel
theorem d_Mo_drawIn_74 : decode b_Mo_drawIn 74 = .ok (.ifCond .eq 7, 3) := by decide +kernel
theorem d_Mo_drawIn_77 : decode b_Mo_drawIn 77 = .ok (.iconst 1, 1) := by decide +kernel
theorem d_Mo_drawIn_78 : decode b_Mo_drawIn 78 = .ok (.goto 4, 3) := by decide +kernel
theorem d_Mo_drawIn_81 : decode b_Mo_drawIn 81 = .ok (.iconst 0, 1) := by decide +kernel
theorem d_Mo_drawIn_82 : decode b_Mo_drawIn 82 = .ok (.istore 4, 2) := by decide +kernel
theorem d_Mo_drawIn_84 : decode b_Mo_drawIn 84 = .ok (.iinc 5 1, 3) := by decide +kernel
theorem d_Mo_drawIn_87 : decode b_Mo_drawIn 87 = .ok (.goto (-79), 3) := by decide +kernel
theorem d_Mo_drawIn_90 : decode b_Mo_drawIn 90 = .ok (.iload 4, 2) := by decide +kernel
theorem d_Mo_drawIn_92 : decode b_Mo_drawIn 92 = .ok (.ifCond .eq 7, 3) := by decide +kernel
theorem d_Mo_drawIn_95 : decode b_Mo_drawIn 95 = .ok (.iload_n 3, 1) := by decide +kernel
theorem d_Mo_drawIn_96 : decode b_Mo_drawIn 96 = .ok (.goto 4, 3) := by decide +kernel
theorem d_Mo_drawIn_99 : decode b_Mo_drawIn 99 = .ok (.iconst (-1), 1) := by decide +kernel
theorem d_Mo_drawIn_100 : decode b_Mo_drawIn 100 = .ok (.ireturn, 1) := by decide +kernel
theorem d_Mo_holds_0 : decode b_Mo_holds 0 = .ok (.iconst 0, 1) := by decide +kernel
theorem d_Mo_holds_1 : decode b_Mo_holds 1 = .ok (.istore_n 2, 1) := by decide +kernel
theorem d_Mo_holds_2 : decode b_Mo_holds 2 = .ok (.aload_n 0, 1) := by decide +kernel
theorem d_Mo_holds_3 : decode b_Mo_holds 3 = .ok (.getfield 151, 3) := by decide +kernel
theorem d_Mo_holds_6 : decode b_Mo_holds 6 = .ok (.istore_n 3, 1) := by decide +kernel
theorem d_Mo_holds_7 : decode b_Mo_holds 7 = .ok (.iconst 0, 1) := by decide +kernel
theorem d_Mo_holds_8 : decode b_Mo_holds 8 = .ok (.istore 4, 2) := by decide +kernel
theorem d_Mo_holds_10 : decode b_Mo_holds 10 = .ok (.iload 4, 2) := by decide +kernel
theorem d_Mo_holds_12 : decode b_Mo_holds 12 = .ok (.aload_n 0, 1) := by decide +kernel
theorem d_Mo_holds_13 : decode b_Mo_holds 13 = .ok (.getfield 120, 3) := by decide +kernel
theorem d_Mo_holds_16 : decode b_Mo_holds 16 = .ok (.if_icmp .ge 53, 3) := by decide +kernel
theorem d_Mo_holds_19 : decode b_Mo_holds 19 = .ok (.aload_n 0, 1) := by decide +kernel
theorem d_Mo_holds_20 : decode b_Mo_holds 20 = .ok (.iload 4, 2) := by decide +kernel
theorem d_Mo_holds_22 : decode b_Mo_holds 22 = .ok (.iload_n 1, 1) := by decide +kernel
theorem d_Mo_holds_23 : decode b_Mo_holds 23 = .ok (.invokevirtual 143, 3) := by decide +kernel
theorem d_Mo_holds_26 : decode b_Mo_holds 26 = .ok (.ifCond .eq 37, 3) := by decide +kernel
theorem d_Mo_holds_29 : decode b_Mo_holds 29 = .ok (.iload_n 2, 1) := by decide +kernel
theorem d_Mo_holds_30 : decode b_Mo_holds 30 = .ok (.aload_n 0, 1) := by decide +kernel
theorem d_Mo_holds_31 : decode b_Mo_holds 31 = .ok (.getfield 22, 3) := by decide +kernel
theorem d_Mo_holds_34 : decode b_Mo_holds 34 = .ok (.bipush 32, 2) := by decide +kernel
theorem d_Mo_holds_36 : decode b_Mo_holds 36 = .ok (.iload 4, 2) := by decide +kernel
theorem d_Mo_holds_38 : decode b_Mo_holds 38 = .ok (.iadd, 1) := by decide +kernel
theorem d_Mo_holds_39 : decode b_Mo_holds 39 = .ok (.iaload, 1) := by decide +kernel
theorem d_Mo_holds_40 : decode b_Mo_holds 40 = .ok (.iadd, 1) := by decide +kernel
theorem d_Mo_holds_41 : decode b_Mo_holds 41 = .ok (.istore_n 2, 1) := by decide +kernel
theorem d_Mo_holds_42 : decode b_Mo_holds 42 = .ok (.iload_n 3, 1) := by decide +kernel
theorem d_Mo_holds_43 : decode b_Mo_holds 43 = .ok (.aload_n 0, 1) := by decide +kernel
theorem d_Mo_holds_44 : decode b_Mo_holds 44 = .ok (.getfield 22, 3) := by decide +kernel
theorem d_Mo_holds_47 : decode b_Mo_holds 47 = .ok (.bipush 24, 2) := by decide +kernel
theorem d_Mo_holds_49 : decode b_Mo_holds 49 = .ok (.iload 4, 2) := by decide +kernel
theorem d_Mo_holds_51 : decode b_Mo_holds 51 = .ok (.iadd, 1) := by decide +kernel
theorem d_Mo_holds_52 : decode b_Mo_holds 52 = .ok (.iaload, 1) := by decide +kernel
theorem d_Mo_holds_53 : decode b_Mo_holds 53 = .ok (.aload_n 0, 1) := by decide +kernel
theorem d_Mo_holds_54 : decode b_Mo_holds 54 = .ok (.iload 4, 2) := by decide +kernel
theorem d_Mo_holds_56 : decode b_Mo_holds 56 = .ok (.iload_n 1, 1) := by decide +kernel
theorem d_Mo_holds_57 : decode b_Mo_holds 57 = .ok (.invokevirtual 147, 3) := by decide +kernel
theorem d_Mo_holds_60 : decode b_Mo_holds 60 = .ok (.imul, 1) := by decide +kernel
theorem d_Mo_holds_61 : decode b_Mo_holds 61 = .ok (.iadd, 1) := by decide +kernel
theorem d_Mo_holds_62 : decode b_Mo_holds 62 = .ok (.istore_n 3, 1) := by decide +kernel
theorem d_Mo_holds_63 : decode b_Mo_holds 63 = .ok (.iinc 4 1, 3) := by decide +kernel
theorem d_Mo_holds_66 : decode b_Mo_holds 66 = .ok (.goto (-56), 3) := by decide +kernel
theorem d_Mo_holds_69 : decode b_Mo_holds 69 = .ok (.aload_n 0, 1) := by decide +kernel
theorem d_Mo_holds_70 : decode b_Mo_holds 70 = .ok (.getfield 55, 3) := by decide +kernel
theorem d_Mo_holds_73 : decode b_Mo_holds 73 = .ok (.istore 4, 2) := by decide +kernel
theorem d_Mo_holds_75 : decode b_Mo_holds 75 = .ok (.iload_n 2, 1) := by decide +kernel
theorem d_Mo_holds_76 : decode b_Mo_holds 76 = .ok (.bipush 100, 2) := by decide +kernel
theorem d_Mo_holds_78 : decode b_Mo_holds 78 = .ok (.if_icmp .gt 27, 3) := by decide +kernel
theorem d_Mo_holds_81 : decode b_Mo_holds 81 = .ok (.iload_n 3, 1) := by decide +kernel
theorem d_Mo_holds_82 : decode b_Mo_holds 82 = .ok (.sipush 500, 3) := by decide +kernel
theorem d_Mo_holds_85 : decode b_Mo_holds 85 = .ok (.if_icmp .gt 20, 3) := by decide +kernel
theorem d_Mo_holds_88 : decode b_Mo_holds 88 = .ok (.aload_n 0, 1) := by decide +kernel
theorem d_Mo_holds_89 : decode b_Mo_holds 89 = .ok (.iload 4, 2) := by decide +kernel
theorem d_Mo_holds_91 : decode b_Mo_holds 91 = .ok (.aload_n 0, 1) := by decide +kernel
theorem d_Mo_holds_92 : decode b_Mo_holds 92 = .ok (.getfield 154, 3) := by decide +kernel
theorem d_Mo_holds_95 : decode b_Mo_holds 95 = .ok (.invokevirtual 157, 3) := by decide +kernel
theorem d_Mo_holds_98 : decode b_Mo_holds 98 = .ok (.ifCond .eq 7, 3) := by decide +kernel
theorem d_Mo_holds_101 : decode b_Mo_holds 101 = .ok (.iconst 1, 1) := by decide +kernel
theorem d_Mo_holds_102 : decode b_Mo_holds 102 = .ok (.goto 4, 3) := by decide +kernel
theorem d_Mo_holds_105 : decode b_Mo_holds 105 = .ok (.iconst 0, 1) := by decide +kernel
theorem d_Mo_holds_106 : decode b_Mo_holds 106 = .ok (.istore 5, 2) := by decide +kernel
theorem d_Mo_holds_108 : decode b_Mo_holds 108 = .ok (.iconst 1, 1) := by decide +kernel
theorem d_Mo_holds_109 : decode b_Mo_holds 109 = .ok (.istore 6, 2) := by decide +kernel
theorem d_Mo_holds_111 : decode b_Mo_holds 111 = .ok (.iload 6, 2) := by decide +kernel
theorem d_Mo_holds_113 : decode b_Mo_holds 113 = .ok (.bipush 30, 2) := by decide +kernel
theorem d_Mo_holds_115 : decode b_Mo_holds 115 = .ok (.if_icmp .gt 74, 3) := by decide +kernel
theorem d_Mo_holds_118 : decode b_Mo_holds 118 = .ok (.iload 5, 2) := by decide +kernel
theorem d_Mo_holds_120 : decode b_Mo_holds 120 = .ok (.ifCond .eq 69, 3) := by decide +kernel
theorem d_Mo_holds_123 : decode b_Mo_holds 123 = .ok (.aload_n 0, 1) := by decide +kernel
theorem d_Mo_holds_124 : decode b_Mo_holds 124 = .ok (.iload 6, 2) := by decide +kernel
theorem d_Mo_holds_126 : decode b_Mo_holds 126 = .ok (.iload_n 1, 1) := by decide +kernel
theorem d_Mo_holds_127 : decode b_Mo_holds 127 = .ok (.invokevirtual 160, 3) := by decide +kernel
theorem d_Mo_holds_130 : decode b_Mo_holds 130 = .ok (.ifCond .lt 59, 3) := by decide +kernel
theorem d_Mo_holds_133 : decode b_Mo_holds 133 = .ok (.aload_n 0, 1) := by decide +kernel
theorem d_Mo_holds_134 : decode b_Mo_holds 134 = .ok (.iload 4, 2) := by decide +kernel
theorem d_Mo_holds_136 : decode b_Mo_holds 136 = .ok (.aload_n 0, 1) := by decide +kernel
theorem d_Mo_holds_137 : decode b_Mo_holds 137 = .ok (.getfield 154, 3) := by decide +kernel
theorem d_Mo_holds_140 : decode b_Mo_holds 140 = .ok (.iload 6, 2) := by decide +kernel
theorem d_Mo_holds_142 : decode b_Mo_holds 142 = .ok (.iadd, 1) := by decide +kernel
theorem d_Mo_holds_143 : decode b_Mo_holds 143 = .ok (.aload_n 0, 1) := by decide +kernel
theorem d_Mo_holds_144 : decode b_Mo_holds 144 = .ok (.iload 6, 2) := by decide +kernel
theorem d_Mo_holds_146 : decode b_Mo_holds 146 = .ok (.iload_n 1, 1) := by decide +kernel
theorem d_Mo_holds_147 : decode b_Mo_holds 147 = .ok (.invokevirtual 160, 3) := by decide +kernel
theorem d_Mo_holds_150 : decode b_Mo_holds 150 = .ok (.invokevirtual 139, 3) := by decide +kernel
theorem d_Mo_holds_153 : decode b_Mo_holds 153 = .ok (.istore 4, 2) := by decide +kernel
theorem d_Mo_holds_155 : decode b_Mo_holds 155 = .ok (.iload 4, 2) := by decide +kernel
theorem d_Mo_holds_157 : decode b_Mo_holds 157 = .ok (.ifCond .lt 23, 3) := by decide +kernel
theorem d_Mo_holds_160 : decode b_Mo_holds 160 = .ok (.aload_n 0, 1) := by decide +kernel
theorem d_Mo_holds_161 : decode b_Mo_holds 161 = .ok (.iload 4, 2) := by decide +kernel
theorem d_Mo_holds_163 : decode b_Mo_holds 163 = .ok (.aload_n 0, 1) := by decide +kernel
theorem d_Mo_holds_164 : decode b_Mo_holds 164 = .ok (.getfield 154, 3) := by decide +kernel
theorem d_Mo_holds_167 : decode b_Mo_holds 167 = .ok (.iload 6, 2) := by decide +kernel
theorem d_Mo_holds_169 : decode b_Mo_holds 169 = .ok (.iadd, 1) := by decide +kernel
theorem d_Mo_holds_170 : decode b_Mo_holds 170 = .ok (.invokevirtual 157, 3) := by decide +kernel
theorem d_Mo_holds_173 : decode b_Mo_holds 173 = .ok (.ifCond .eq 7, 3) := by decide +kernel
theorem d_Mo_holds_176 : decode b_Mo_holds 176 = .ok (.iconst 1, 1) := by decide +kernel
theorem d_Mo_holds_177 : decode b_Mo_holds 177 = .ok (.goto 4, 3) := by decide +kernel
theorem d_Mo_holds_180 : decode b_Mo_holds 180 = .ok (.iconst 0, 1) := by decide +kernel
theorem d_Mo_holds_181 : decode b_Mo_holds 181 = .ok (.istore 5, 2) := by decide +kernel
theorem d_Mo_holds_183 : decode b_Mo_holds 183 = .ok (.iinc 6 1, 3) := by decide +kernel
theorem d_Mo_holds_186 : decode b_Mo_holds 186 = .ok (.goto (-75), 3) := by decide +kernel
theorem d_Mo_holds_189 : decode b_Mo_holds 189 = .ok (.iload 5, 2) := by decide +kernel
theorem d_Mo_holds_191 : decode b_Mo_holds 191 = .ok (.ireturn, 1) := by decide +kernel
theorem d_Mo_howMany_0 : decode b_Mo_howMany 0 = .ok (.iconst 0, 1) := by decide +kernel
theorem d_Mo_howMany_1 : decode b_Mo_howMany 1 = .ok (.istore_n 2, 1) := by decide +kernel
theorem d_Mo_howMany_2 : decode b_Mo_howMany 2 = .ok (.iconst 0, 1) := by decide +kernel
theorem d_Mo_howMany_3 : decode b_Mo_howMany 3 = .ok (.istore_n 3, 1) := by decide +kernel
theorem d_Mo_howMany_4 : decode b_Mo_howMany 4 = .ok (.iload_n 3, 1) := by decide +kernel
theorem d_Mo_howMany_5 : decode b_Mo_howMany 5 = .ok (.aload_n 0, 1) := by decide +kernel
theorem d_Mo_howMany_6 : decode b_Mo_howMany 6 = .ok (.getfield 120, 3) := by decide +kernel
theorem d_Mo_howMany_9 : decode b_Mo_howMany 9 = .ok (.if_icmp .ge 27, 3) := by decide +kernel
theorem d_Mo_howMany_12 : decode b_Mo_howMany 12 = .ok (.aload_n 0, 1) := by decide +kernel
theorem d_Mo_howMany_13 : decode b_Mo_howMany 13 = .ok (.getfield 28, 3) := by decide +kernel
theorem d_Mo_howMany_16 : decode b_Mo_howMany 16 = .ok (.iload_n 3, 1) := by decide +kernel
theorem d_Mo_howMany_17 : decode b_Mo_howMany 17 = .ok (.iaload, 1) := by decide +kernel
theorem d_Mo_howMany_18 : decode b_Mo_howMany 18 = .ok (.iload_n 1, 1) := by decide +kernel
theorem d_Mo_howMany_19 : decode b_Mo_howMany 19 = .ok (.if_icmp .ne 9, 3) := by decide +kernel
theorem d_Mo_howMany_22 : decode b_Mo_howMany 22 = .ok (.iload_n 2, 1) := by decide +kernel
theorem d_Mo_howMany_23 : decode b_Mo_howMany 23 = .ok (.iconst 1, 1) := by decide +kernel
theorem d_Mo_howMany_24 : decode b_Mo_howMany 24 = .ok (.iadd, 1) := by decide +kernel
theorem d_Mo_howMany_25 : decode b_Mo_howMany 25 = .ok (.goto 4, 3) := by decide +kernel
theorem d_Mo_howMany_28 : decode b_Mo_howMany 28 = .ok (.iload_n 2, 1) := by decide +kernel
theorem d_Mo_howMany_29 : decode b_Mo_howMany 29 = .ok (.istore_n 2, 1) := by decide +kernel
theorem d_Mo_howMany_30 : decode b_Mo_howMany 30 = .ok (.iinc 3 1, 3) := by decide +kernel
theorem d_Mo_howMany_33 : decode b_Mo_howMany 33 = .ok (.goto (-29), 3) := by decide +kernel
theorem d_Mo_howMany_36 : decode b_Mo_howMany 36 = .ok (.iload_n 2, 1) := by decide +kernel
theorem d_Mo_howMany_37 : decode b_Mo_howMany 37 = .ok (.ireturn, 1) := by decide +kernel
theorem d_Mo_hasIn_0 : decode b_Mo_hasIn 0 = .ok (.iconst 0, 1) := by decide +kernel
theorem d_Mo_hasIn_1 : decode b_Mo_hasIn 1 = .ok (.istore 4, 2) := by decide +kernel
theorem d_Mo_hasIn_3 : decode b_Mo_hasIn 3 = .ok (.iconst 0, 1) := by decide +kernel
theorem d_Mo_hasIn_4 : decode b_Mo_hasIn 4 = .ok (.istore 5, 2) := by decide +kernel
theorem d_Mo_hasIn_6 : decode b_Mo_hasIn 6 = .ok (.iload 5, 2) := by decide +kernel
theorem d_Mo_hasIn_8 : decode b_Mo_hasIn 8 = .ok (.aload_n 0, 1) := by decide +kernel
theorem d_Mo_hasIn_9 : decode b_Mo_hasIn 9 = .ok (.getfield 120, 3) := by decide +kernel
theorem d_Mo_hasIn_12 : decode b_Mo_hasIn 12 = .ok (.if_icmp .ge 53, 3) := by decide +kernel
theorem d_Mo_hasIn_15 : decode b_Mo_hasIn 15 = .ok (.iload 4, 2) := by decide +kernel
theorem d_Mo_hasIn_17 : decode b_Mo_hasIn 17 = .ok (.ifCond .ne 35, 3) := by decide +kernel
theorem d_Mo_hasIn_20 : decode b_Mo_hasIn 20 = .ok (.iload_n 1, 1) := by decide +kernel
theorem d_Mo_hasIn_21 : decode b_Mo_hasIn 21 = .ok (.iload 5, 2) := by decide +kernel
theorem d_Mo_hasIn_23 : decode b_Mo_hasIn 23 = .ok (.ishr, 1) := by decide +kernel
theorem d_Mo_hasIn_24 : decode b_Mo_hasIn 24 = .ok (.iconst 1, 1) := by decide +kernel
theorem d_Mo_hasIn_25 : decode b_Mo_hasIn 25 = .ok (.iand, 1) := by decide +kernel
theorem d_Mo_hasIn_26 : decode b_Mo_hasIn 26 = .ok (.iconst 1, 1) := by decide +kernel
theorem d_Mo_hasIn_27 : decode b_Mo_hasIn 27 = .ok (.if_icmp .ne 29, 3) := by decide +kernel
theorem d_Mo_hasIn_30 : decode b_Mo_hasIn 30 = .ok (.aload_n 0, 1) := by decide +kernel
theorem d_Mo_hasIn_31 : decode b_Mo_hasIn 31 = .ok (.getfield 28, 3) := by decide +kernel
