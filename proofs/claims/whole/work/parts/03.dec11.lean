theorem d_Mo_readOption_155 : decode b_Mo_readOption 155 = .ok (.iadd, 1) := by decide +kernel
theorem d_Mo_readOption_156 : decode b_Mo_readOption 156 = .ok (.putfield 77, 3) := by decide +kernel
theorem d_Mo_readOption_159 : decode b_Mo_readOption 159 = .ok (.iconst 1, 1) := by decide +kernel
theorem d_Mo_readOption_160 : decode b_Mo_readOption 160 = .ok (.ireturn, 1) := by decide +kernel
theorem d_Mo_readActivity_0 : decode b_Mo_readActivity 0 = .ok (.iconst 0, 1) := by decide +kernel
theorem d_Mo_readActivity_1 : decode b_Mo_readActivity 1 = .ok (.istore_n 1, 1) := by decide +kernel
theorem d_Mo_readActivity_2 : decode b_Mo_readActivity 2 = .ok (.iload_n 1, 1) := by decide +kernel
theorem d_Mo_readActivity_3 : decode b_Mo_readActivity 3 = .ok (.bipush 9, 2) := by decide +kernel
theorem d_Mo_readActivity_5 : decode b_Mo_readActivity 5 = .ok (.if_icmp .ge 34, 3) := by decide +kernel
theorem d_Mo_readActivity_8 : decode b_Mo_readActivity 8 = .ok (.aload_n 0, 1) := by decide +kernel
theorem d_Mo_readActivity_9 : decode b_Mo_readActivity 9 = .ok (.getfield 13, 3) := by decide +kernel
theorem d_Mo_readActivity_12 : decode b_Mo_readActivity 12 = .ok (.bipush 8, 2) := by decide +kernel
theorem d_Mo_readActivity_14 : decode b_Mo_readActivity 14 = .ok (.iload_n 1, 1) := by decide +kernel
theorem d_Mo_readActivity_15 : decode b_Mo_readActivity 15 = .ok (.imul, 1) := by decide +kernel
theorem d_Mo_readActivity_16 : decode b_Mo_readActivity 16 = .ok (.aload_n 0, 1) := by decide +kernel
theorem d_Mo_readActivity_17 : decode b_Mo_readActivity 17 = .ok (.getfield 91, 3) := by decide +kernel
theorem d_Mo_readActivity_20 : decode b_Mo_readActivity 20 = .ok (.iadd, 1) := by decide +kernel
theorem d_Mo_readActivity_21 : decode b_Mo_readActivity 21 = .ok (.iload_n 1, 1) := by decide +kernel
theorem d_Mo_readActivity_22 : decode b_Mo_readActivity 22 = .ok (.iconst 5, 1) := by decide +kernel
theorem d_Mo_readActivity_23 : decode b_Mo_readActivity 23 = .ok (.if_icmp .ne 8, 3) := by decide +kernel
theorem d_Mo_readActivity_26 : decode b_Mo_readActivity 26 = .ok (.bipush 99, 2) := by decide +kernel
theorem d_Mo_readActivity_28 : decode b_Mo_readActivity 28 = .ok (.goto 4, 3) := by decide +kernel
theorem d_Mo_readActivity_31 : decode b_Mo_readActivity 31 = .ok (.iconst 0, 1) := by decide +kernel
theorem d_Mo_readActivity_32 : decode b_Mo_readActivity 32 = .ok (.iastore, 1) := by decide +kernel
theorem d_Mo_readActivity_33 : decode b_Mo_readActivity 33 = .ok (.iinc 1 1, 3) := by decide +kernel
theorem d_Mo_readActivity_36 : decode b_Mo_readActivity 36 = .ok (.goto (-34), 3) := by decide +kernel
theorem d_Mo_readActivity_39 : decode b_Mo_readActivity 39 = .ok (.aload_n 0, 1) := by decide +kernel
theorem d_Mo_readActivity_40 : decode b_Mo_readActivity 40 = .ok (.invokevirtual 80, 3) := by decide +kernel
theorem d_Mo_readActivity_43 : decode b_Mo_readActivity 43 = .ok (.bipush 97, 2) := by decide +kernel
theorem d_Mo_readActivity_45 : decode b_Mo_readActivity 45 = .ok (.aload_n 0, 1) := by decide +kernel
theorem d_Mo_readActivity_46 : decode b_Mo_readActivity 46 = .ok (.getfield 91, 3) := by decide +kernel
theorem d_Mo_readActivity_49 : decode b_Mo_readActivity 49 = .ok (.iadd, 1) := by decide +kernel
theorem d_Mo_readActivity_50 : decode b_Mo_readActivity 50 = .ok (.if_icmp .eq 5, 3) := by decide +kernel
theorem d_Mo_readActivity_53 : decode b_Mo_readActivity 53 = .ok (.iconst 0, 1) := by decide +kernel
theorem d_Mo_readActivity_54 : decode b_Mo_readActivity 54 = .ok (.ireturn, 1) := by decide +kernel
theorem d_Mo_readActivity_55 : decode b_Mo_readActivity 55 = .ok (.aload_n 0, 1) := by decide +kernel
theorem d_Mo_readActivity_56 : decode b_Mo_readActivity 56 = .ok (.dup, 1) := by decide +kernel
theorem d_Mo_readActivity_57 : decode b_Mo_readActivity 57 = .ok (.getfield 77, 3) := by decide +kernel
theorem d_Mo_readActivity_60 : decode b_Mo_readActivity 60 = .ok (.iconst 1, 1) := by decide +kernel
theorem d_Mo_readActivity_61 : decode b_Mo_readActivity 61 = .ok (.iadd, 1) := by decide +kernel
theorem d_Mo_readActivity_62 : decode b_Mo_readActivity 62 = .ok (.putfield 77, 3) := by decide +kernel
theorem d_Mo_readActivity_65 : decode b_Mo_readActivity 65 = .ok (.aload_n 0, 1) := by decide +kernel
theorem d_Mo_readActivity_66 : decode b_Mo_readActivity 66 = .ok (.iconst 0, 1) := by decide +kernel
theorem d_Mo_readActivity_67 : decode b_Mo_readActivity 67 = .ok (.invokevirtual 101, 3) := by decide +kernel
theorem d_Mo_readActivity_70 : decode b_Mo_readActivity 70 = .ok (.ifCond .eq 12, 3) := by decide +kernel
theorem d_Mo_readActivity_73 : decode b_Mo_readActivity 73 = .ok (.aload_n 0, 1) := by decide +kernel
theorem d_Mo_readActivity_74 : decode b_Mo_readActivity 74 = .ok (.invokevirtual 80, 3) := by decide +kernel
theorem d_Mo_readActivity_77 : decode b_Mo_readActivity 77 = .ok (.bipush 45, 2) := by decide +kernel
theorem d_Mo_readActivity_79 : decode b_Mo_readActivity 79 = .ok (.if_icmp .eq 5, 3) := by decide +kernel
theorem d_Mo_readActivity_82 : decode b_Mo_readActivity 82 = .ok (.iconst 0, 1) := by decide +kernel
theorem d_Mo_readActivity_83 : decode b_Mo_readActivity 83 = .ok (.ireturn, 1) := by decide +kernel
theorem d_Mo_readActivity_84 : decode b_Mo_readActivity 84 = .ok (.aload_n 0, 1) := by decide +kernel
theorem d_Mo_readActivity_85 : decode b_Mo_readActivity 85 = .ok (.dup, 1) := by decide +kernel
theorem d_Mo_readActivity_86 : decode b_Mo_readActivity 86 = .ok (.getfield 77, 3) := by decide +kernel
theorem d_Mo_readActivity_89 : decode b_Mo_readActivity 89 = .ok (.iconst 1, 1) := by decide +kernel
theorem d_Mo_readActivity_90 : decode b_Mo_readActivity 90 = .ok (.iadd, 1) := by decide +kernel
theorem d_Mo_readActivity_91 : decode b_Mo_readActivity 91 = .ok (.putfield 77, 3) := by decide +kernel
theorem d_Mo_readActivity_94 : decode b_Mo_readActivity 94 = .ok (.aload_n 0, 1) := by decide +kernel
theorem d_Mo_readActivity_95 : decode b_Mo_readActivity 95 = .ok (.iconst 1, 1) := by decide +kernel
theorem d_Mo_readActivity_96 : decode b_Mo_readActivity 96 = .ok (.invokevirtual 101, 3) := by decide +kernel
theorem d_Mo_readActivity_99 : decode b_Mo_readActivity 99 = .ok (.ifCond .ne 5, 3) := by decide +kernel
theorem d_Mo_readActivity_102 : decode b_Mo_readActivity 102 = .ok (.iconst 0, 1) := by decide +kernel
theorem d_Mo_readActivity_103 : decode b_Mo_readActivity 103 = .ok (.ireturn, 1) := by decide +kernel
theorem d_Mo_readActivity_104 : decode b_Mo_readActivity 104 = .ok (.aload_n 0, 1) := by decide +kernel
theorem d_Mo_readActivity_105 : decode b_Mo_readActivity 105 = .ok (.iconst 0, 1) := by decide +kernel
theorem d_Mo_readActivity_106 : decode b_Mo_readActivity 106 = .ok (.putfield 98, 3) := by decide +kernel
theorem d_Mo_readActivity_109 : decode b_Mo_readActivity 109 = .ok (.iconst 1, 1) := by decide +kernel
theorem d_Mo_readActivity_110 : decode b_Mo_readActivity 110 = .ok (.istore_n 1, 1) := by decide +kernel
theorem d_Mo_readActivity_111 : decode b_Mo_readActivity 111 = .ok (.iload_n 1, 1) := by decide +kernel
theorem d_Mo_readActivity_112 : decode b_Mo_readActivity 112 = .ok (.iconst 1, 1) := by decide +kernel
theorem d_Mo_readActivity_113 : decode b_Mo_readActivity 113 = .ok (.if_icmp .ne 11, 3) := by decide +kernel
theorem d_Mo_readActivity_116 : decode b_Mo_readActivity 116 = .ok (.aload_n 0, 1) := by decide +kernel
theorem d_Mo_readActivity_117 : decode b_Mo_readActivity 117 = .ok (.invokevirtual 105, 3) := by decide +kernel
theorem d_Mo_readActivity_120 : decode b_Mo_readActivity 120 = .ok (.istore_n 1, 1) := by decide +kernel
theorem d_Mo_readActivity_121 : decode b_Mo_readActivity 121 = .ok (.goto (-10), 3) := by decide +kernel
theorem d_Mo_readActivity_124 : decode b_Mo_readActivity 124 = .ok (.aload_n 0, 1) := by decide +kernel
theorem d_Mo_readActivity_125 : decode b_Mo_readActivity 125 = .ok (.dup, 1) := by decide +kernel
theorem d_Mo_readActivity_126 : decode b_Mo_readActivity 126 = .ok (.getfield 91, 3) := by decide +kernel
theorem d_Mo_readActivity_129 : decode b_Mo_readActivity 129 = .ok (.iconst 1, 1) := by decide +kernel
theorem d_Mo_readActivity_130 : decode b_Mo_readActivity 130 = .ok (.iadd, 1) := by decide +kernel
theorem d_Mo_readActivity_131 : decode b_Mo_readActivity 131 = .ok (.putfield 91, 3) := by decide +kernel
theorem d_Mo_readActivity_134 : decode b_Mo_readActivity 134 = .ok (.iload_n 1, 1) := by decide +kernel
theorem d_Mo_readActivity_135 : decode b_Mo_readActivity 135 = .ok (.ifCond .ne 7, 3) := by decide +kernel
theorem d_Mo_readActivity_138 : decode b_Mo_readActivity 138 = .ok (.iconst 1, 1) := by decide +kernel
theorem d_Mo_readActivity_139 : decode b_Mo_readActivity 139 = .ok (.goto 4, 3) := by decide +kernel
theorem d_Mo_readActivity_142 : decode b_Mo_readActivity 142 = .ok (.iconst 0, 1) := by decide +kernel
theorem d_Mo_readActivity_143 : decode b_Mo_readActivity 143 = .ok (.ireturn, 1) := by decide +kernel
theorem d_Mo_readLine_0 : decode b_Mo_readLine 0 = .ok (.aload_n 0, 1) := by decide +kernel
theorem d_Mo_readLine_1 : decode b_Mo_readLine 1 = .ok (.iconst 0, 1) := by decide +kernel
theorem d_Mo_readLine_2 : decode b_Mo_readLine 2 = .ok (.putfield 77, 3) := by decide +kernel
theorem d_Mo_readLine_5 : decode b_Mo_readLine 5 = .ok (.aload_n 0, 1) := by decide +kernel
theorem d_Mo_readLine_6 : decode b_Mo_readLine 6 = .ok (.iconst 0, 1) := by decide +kernel
theorem d_Mo_readLine_7 : decode b_Mo_readLine 7 = .ok (.putfield 91, 3) := by decide +kernel
theorem d_Mo_readLine_10 : decode b_Mo_readLine 10 = .ok (.aload_n 0, 1) := by decide +kernel
theorem d_Mo_readLine_11 : decode b_Mo_readLine 11 = .ok (.invokevirtual 108, 3) := by decide +kernel
theorem d_Mo_readLine_14 : decode b_Mo_readLine 14 = .ok (.istore_n 1, 1) := by decide +kernel
theorem d_Mo_readLine_15 : decode b_Mo_readLine 15 = .ok (.iload_n 1, 1) := by decide +kernel
theorem d_Mo_readLine_16 : decode b_Mo_readLine 16 = .ok (.ifCond .eq 39, 3) := by decide +kernel
theorem d_Mo_readLine_19 : decode b_Mo_readLine 19 = .ok (.aload_n 0, 1) := by decide +kernel
theorem d_Mo_readLine_20 : decode b_Mo_readLine 20 = .ok (.invokevirtual 80, 3) := by decide +kernel
theorem d_Mo_readLine_23 : decode b_Mo_readLine 23 = .ok (.bipush 59, 2) := by decide +kernel
theorem d_Mo_readLine_25 : decode b_Mo_readLine 25 = .ok (.if_icmp .ne 30, 3) := by decide +kernel
theorem d_Mo_readLine_28 : decode b_Mo_readLine 28 = .ok (.aload_n 0, 1) := by decide +kernel
theorem d_Mo_readLine_29 : decode b_Mo_readLine 29 = .ok (.getfield 91, 3) := by decide +kernel
theorem d_Mo_readLine_32 : decode b_Mo_readLine 32 = .ok (.bipush 8, 2) := by decide +kernel
theorem d_Mo_readLine_34 : decode b_Mo_readLine 34 = .ok (.if_icmp .ge 21, 3) := by decide +kernel
theorem d_Mo_readLine_37 : decode b_Mo_readLine 37 = .ok (.aload_n 0, 1) := by decide +kernel
theorem d_Mo_readLine_38 : decode b_Mo_readLine 38 = .ok (.dup, 1) := by decide +kernel
theorem d_Mo_readLine_39 : decode b_Mo_readLine 39 = .ok (.getfield 77, 3) := by decide +kernel
theorem d_Mo_readLine_42 : decode b_Mo_readLine 42 = .ok (.iconst 1, 1) := by decide +kernel
theorem d_Mo_readLine_43 : decode b_Mo_readLine 43 = .ok (.iadd, 1) := by decide +kernel
theorem d_Mo_readLine_44 : decode b_Mo_readLine 44 = .ok (.putfield 77, 3) := by decide +kernel
theorem d_Mo_readLine_47 : decode b_Mo_readLine 47 = .ok (.aload_n 0, 1) := by decide +kernel
theorem d_Mo_readLine_48 : decode b_Mo_readLine 48 = .ok (.invokevirtual 108, 3) := by decide +kernel
theorem d_Mo_readLine_51 : decode b_Mo_readLine 51 = .ok (.istore_n 1, 1) := by decide +kernel
theorem d_Mo_readLine_52 : decode b_Mo_readLine 52 = .ok (.goto (-37), 3) := by decide +kernel
theorem d_Mo_readLine_55 : decode b_Mo_readLine 55 = .ok (.iload_n 1, 1) := by decide +kernel
theorem d_Mo_readLine_56 : decode b_Mo_readLine 56 = .ok (.ifCond .eq 18, 3) := by decide +kernel
theorem d_Mo_readLine_59 : decode b_Mo_readLine 59 = .ok (.aload_n 0, 1) := by decide +kernel
theorem d_Mo_readLine_60 : decode b_Mo_readLine 60 = .ok (.getfield 77, 3) := by decide +kernel
theorem d_Mo_readLine_63 : decode b_Mo_readLine 63 = .ok (.aload_n 0, 1) := by decide +kernel
theorem d_Mo_readLine_64 : decode b_Mo_readLine 64 = .ok (.getfield 71, 3) := by decide +kernel
theorem d_Mo_readLine_67 : decode b_Mo_readLine 67 = .ok (.if_icmp .ne 7, 3) := by decide +kernel
theorem d_Mo_readLine_70 : decode b_Mo_readLine 70 = .ok (.iconst 1, 1) := by decide +kernel
theorem d_Mo_readLine_71 : decode b_Mo_readLine 71 = .ok (.goto 4, 3) := by decide +kernel
theorem d_Mo_readLine_74 : decode b_Mo_readLine 74 = .ok (.iconst 0, 1) := by decide +kernel
theorem d_Mo_readLine_75 : decode b_Mo_readLine 75 = .ok (.ireturn, 1) := by decide +kernel
theorem d_Mo_isWrong_0 : decode b_Mo_isWrong 0 = .ok (.aload_n 0, 1) := by decide +kernel
theorem d_Mo_isWrong_1 : decode b_Mo_isWrong 1 = .ok (.getfield 13, 3) := by decide +kernel
theorem d_Mo_isWrong_4 : decode b_Mo_isWrong 4 = .ok (.iload_n 1, 1) := by decide +kernel
theorem d_Mo_isWrong_5 : decode b_Mo_isWrong 5 = .ok (.iaload, 1) := by decide +kernel
theorem d_Mo_isWrong_6 : decode b_Mo_isWrong 6 = .ok (.istore_n 2, 1) := by decide +kernel
theorem d_Mo_isWrong_7 : decode b_Mo_isWrong 7 = .ok (.aload_n 0, 1) := by decide +kernel
theorem d_Mo_isWrong_8 : decode b_Mo_isWrong 8 = .ok (.getfield 13, 3) := by decide +kernel
theorem d_Mo_isWrong_11 : decode b_Mo_isWrong 11 = .ok (.bipush 8, 2) := by decide +kernel
theorem d_Mo_isWrong_13 : decode b_Mo_isWrong 13 = .ok (.iload_n 1, 1) := by decide +kernel
theorem d_Mo_isWrong_14 : decode b_Mo_isWrong 14 = .ok (.iadd, 1) := by decide +kernel
theorem d_Mo_isWrong_15 : decode b_Mo_isWrong 15 = .ok (.iaload, 1) := by decide +kernel
theorem d_Mo_isWrong_16 : decode b_Mo_isWrong 16 = .ok (.istore_n 3, 1) := by decide +kernel
theorem d_Mo_isWrong_17 : decode b_Mo_isWrong 17 = .ok (.aload_n 0, 1) := by decide +kernel
theorem d_Mo_isWrong_18 : decode b_Mo_isWrong 18 = .ok (.getfield 13, 3) := by decide +kernel
theorem d_Mo_isWrong_21 : decode b_Mo_isWrong 21 = .ok (.bipush 56, 2) := by decide +kernel
theorem d_Mo_isWrong_23 : decode b_Mo_isWrong 23 = .ok (.iload_n 1, 1) := by decide +kernel
theorem d_Mo_isWrong_24 : decode b_Mo_isWrong 24 = .ok (.iadd, 1) := by decide +kernel
theorem d_Mo_isWrong_25 : decode b_Mo_isWrong 25 = .ok (.iaload, 1) := by decide +kernel
theorem d_Mo_isWrong_26 : decode b_Mo_isWrong 26 = .ok (.aload_n 0, 1) := by decide +kernel
theorem d_Mo_isWrong_27 : decode b_Mo_isWrong 27 = .ok (.getfield 13, 3) := by decide +kernel
theorem d_Mo_isWrong_30 : decode b_Mo_isWrong 30 = .ok (.bipush 64, 2) := by decide +kernel
theorem d_Mo_isWrong_32 : decode b_Mo_isWrong 32 = .ok (.iload_n 1, 1) := by decide +kernel
theorem d_Mo_isWrong_33 : decode b_Mo_isWrong 33 = .ok (.iadd, 1) := by decide +kernel
theorem d_Mo_isWrong_34 : decode b_Mo_isWrong 34 = .ok (.iaload, 1) := by decide +kernel
theorem d_Mo_isWrong_35 : decode b_Mo_isWrong 35 = .ok (.ior, 1) := by decide +kernel
theorem d_Mo_isWrong_36 : decode b_Mo_isWrong 36 = .ok (.istore 4, 2) := by decide +kernel
theorem d_Mo_isWrong_38 : decode b_Mo_isWrong 38 = .ok (.iload_n 2, 1) := by decide +kernel
theorem d_Mo_isWrong_39 : decode b_Mo_isWrong 39 = .ok (.iconst 1, 1) := by decide +kernel
theorem d_Mo_isWrong_40 : decode b_Mo_isWrong 40 = .ok (.if_icmp .lt 18, 3) := by decide +kernel
theorem d_Mo_isWrong_43 : decode b_Mo_isWrong 43 = .ok (.iload_n 3, 1) := by decide +kernel
theorem d_Mo_isWrong_44 : decode b_Mo_isWrong 44 = .ok (.bipush 30, 2) := by decide +kernel
theorem d_Mo_isWrong_46 : decode b_Mo_isWrong 46 = .ok (.if_icmp .gt 12, 3) := by decide +kernel
theorem d_Mo_isWrong_49 : decode b_Mo_isWrong 49 = .ok (.iload_n 2, 1) := by decide +kernel
theorem d_Mo_isWrong_50 : decode b_Mo_isWrong 50 = .ok (.iload_n 3, 1) := by decide +kernel
theorem d_Mo_isWrong_51 : decode b_Mo_isWrong 51 = .ok (.if_icmp .gt 7, 3) := by decide +kernel
theorem d_Mo_isWrong_54 : decode b_Mo_isWrong 54 = .ok (.iconst 1, 1) := by decide +kernel
theorem d_Mo_isWrong_55 : decode b_Mo_isWrong 55 = .ok (.goto 4, 3) := by decide +kernel
theorem d_Mo_isWrong_58 : decode b_Mo_isWrong 58 = .ok (.iconst 0, 1) := by decide +kernel
theorem d_Mo_isWrong_59 : decode b_Mo_isWrong 59 = .ok (.istore 5, 2) := by decide +kernel
theorem d_Mo_isWrong_61 : decode b_Mo_isWrong 61 = .ok (.iload 5, 2) := by decide +kernel
theorem d_Mo_isWrong_63 : decode b_Mo_isWrong 63 = .ok (.ifCond .eq 36, 3) := by decide +kernel
theorem d_Mo_isWrong_66 : decode b_Mo_isWrong 66 = .ok (.aload_n 0, 1) := by decide +kernel
theorem d_Mo_isWrong_67 : decode b_Mo_isWrong 67 = .ok (.getfield 13, 3) := by decide +kernel
theorem d_Mo_isWrong_70 : decode b_Mo_isWrong 70 = .ok (.bipush 48, 2) := by decide +kernel
theorem d_Mo_isWrong_72 : decode b_Mo_isWrong 72 = .ok (.iload_n 1, 1) := by decide +kernel
theorem d_Mo_isWrong_73 : decode b_Mo_isWrong 73 = .ok (.iadd, 1) := by decide +kernel
theorem d_Mo_isWrong_74 : decode b_Mo_isWrong 74 = .ok (.iaload, 1) := by decide +kernel
theorem d_Mo_isWrong_75 : decode b_Mo_isWrong 75 = .ok (.iconst 3, 1) := by decide +kernel
theorem d_Mo_isWrong_76 : decode b_Mo_isWrong 76 = .ok (.if_icmp .gt 23, 3) := by decide +kernel
theorem d_Mo_isWrong_79 : decode b_Mo_isWrong 79 = .ok (.iload 4, 2) := by decide +kernel
theorem d_Mo_isWrong_81 : decode b_Mo_isWrong 81 = .ok (.aload_n 0, 1) := by decide +kernel
theorem d_Mo_isWrong_82 : decode b_Mo_isWrong 82 = .ok (.getfield 91, 3) := by decide +kernel
theorem d_Mo_isWrong_85 : decode b_Mo_isWrong 85 = .ok (.ishr, 1) := by decide +kernel
theorem d_Mo_isWrong_86 : decode b_Mo_isWrong 86 = .ok (.ifCond .ne 13, 3) := by decide +kernel
theorem d_Mo_isWrong_89 : decode b_Mo_isWrong 89 = .ok (.iload 4, 2) := by decide +kernel
theorem d_Mo_isWrong_91 : decode b_Mo_isWrong 91 = .ok (.iload_n 1, 1) := by decide +kernel
theorem d_Mo_isWrong_92 : decode b_Mo_isWrong 92 = .ok (.ishr, 1) := by decide +kernel
theorem d_Mo_isWrong_93 : decode b_Mo_isWrong 93 = .ok (.iconst 1, 1) := by decide +kernel
theorem d_Mo_isWrong_94 : decode b_Mo_isWrong 94 = .ok (.iand, 1) := by decide +kernel
theorem d_Mo_isWrong_95 : decode b_Mo_isWrong 95 = .ok (.iconst 1, 1) := by decide +kernel
theorem d_Mo_isWrong_96 : decode b_Mo_isWrong 96 = .ok (.if_icmp .ne 7, 3) := by decide +kernel
theorem d_Mo_isWrong_99 : decode b_Mo_isWrong 99 = .ok (.iconst 1, 1) := by decide +kernel
theorem d_Mo_isWrong_100 : decode b_Mo_isWrong 100 = .ok (.goto 4, 3) := by decide +kernel
theorem d_Mo_isWrong_103 : decode b_Mo_isWrong 103 = .ok (.iconst 0, 1) := by decide +kernel
theorem d_Mo_isWrong_104 : decode b_Mo_isWrong 104 = .ok (.ireturn, 1) := by decide +kernel
theorem d_Mo_findRings_0 : decode b_Mo_findRings 0 = .ok (.iconst 0, 1) := by decide +kernel
theorem d_Mo_findRings_1 : decode b_Mo_findRings 1 = .ok (.istore_n 1, 1) := by decide +kernel
theorem d_Mo_findRings_2 : decode b_Mo_findRings 2 = .ok (.iload_n 1, 1) := by decide +kernel
theorem d_Mo_findRings_3 : decode b_Mo_findRings 3 = .ok (.aload_n 0, 1) := by decide +kernel
theorem d_Mo_findRings_4 : decode b_Mo_findRings 4 = .ok (.getfield 91, 3) := by decide +kernel
theorem d_Mo_findRings_7 : decode b_Mo_findRings 7 = .ok (.if_icmp .ge 24, 3) := by decide +kernel
theorem d_Mo_findRings_10 : decode b_Mo_findRings 10 = .ok (.aload_n 0, 1) := by decide +kernel
theorem d_Mo_findRings_11 : decode b_Mo_findRings 11 = .ok (.getfield 16, 3) := by decide +kernel
theorem d_Mo_findRings_14 : decode b_Mo_findRings 14 = .ok (.iload_n 1, 1) := by decide +kernel
theorem d_Mo_findRings_15 : decode b_Mo_findRings 15 = .ok (.aload_n 0, 1) := by decide +kernel
theorem d_Mo_findRings_16 : decode b_Mo_findRings 16 = .ok (.getfield 13, 3) := by decide +kernel
theorem d_Mo_findRings_19 : decode b_Mo_findRings 19 = .ok (.bipush 56, 2) := by decide +kernel
theorem d_Mo_findRings_21 : decode b_Mo_findRings 21 = .ok (.iload_n 1, 1) := by decide +kernel
theorem d_Mo_findRings_22 : decode b_Mo_findRings 22 = .ok (.iadd, 1) := by decide +kernel
theorem d_Mo_findRings_23 : decode b_Mo_findRings 23 = .ok (.iaload, 1) := by decide +kernel
theorem d_Mo_findRings_24 : decode b_Mo_findRings 24 = .ok (.iastore, 1) := by decide +kernel
theorem d_Mo_findRings_25 : decode b_Mo_findRings 25 = .ok (.iinc 1 1, 3) := by decide +kernel
theorem d_Mo_findRings_28 : decode b_Mo_findRings 28 = .ok (.goto (-26), 3) := by decide +kernel
theorem d_Mo_findRings_31 : decode b_Mo_findRings 31 = .ok (.iconst 0, 1) := by decide +kernel
theorem d_Mo_findRings_32 : decode b_Mo_findRings 32 = .ok (.istore_n 1, 1) := by decide +kernel
theorem d_Mo_findRings_33 : decode b_Mo_findRings 33 = .ok (.iload_n 1, 1) := by decide +kernel
theorem d_Mo_findRings_34 : decode b_Mo_findRings 34 = .ok (.bipush 8, 2) := by decide +kernel
theorem d_Mo_findRings_36 : decode b_Mo_findRings 36 = .ok (.if_icmp .ge 83, 3) := by decide +kernel
theorem d_Mo_findRings_39 : decode b_Mo_findRings 39 = .ok (.iconst 0, 1) := by decide +kernel
theorem d_Mo_findRings_40 : decode b_Mo_findRings 40 = .ok (.istore_n 2, 1) := by decide +kernel
theorem d_Mo_findRings_41 : decode b_Mo_findRings 41 = .ok (.iload_n 2, 1) := by decide +kernel
theorem d_Mo_findRings_42 : decode b_Mo_findRings 42 = .ok (.aload_n 0, 1) := by decide +kernel
theorem d_Mo_findRings_43 : decode b_Mo_findRings 43 = .ok (.getfield 91, 3) := by decide +kernel
theorem d_Mo_findRings_46 : decode b_Mo_findRings 46 = .ok (.if_icmp .ge 67, 3) := by decide +kernel
theorem d_Mo_findRings_49 : decode b_Mo_findRings 49 = .ok (.iconst 0, 1) := by decide +kernel
theorem d_Mo_findRings_50 : decode b_Mo_findRings 50 = .ok (.istore_n 3, 1) := by decide +kernel
theorem d_Mo_findRings_51 : decode b_Mo_findRings 51 = .ok (.iload_n 3, 1) := by decide +kernel
theorem d_Mo_findRings_52 : decode b_Mo_findRings 52 = .ok (.aload_n 0, 1) := by decide +kernel
theorem d_Mo_findRings_53 : decode b_Mo_findRings 53 = .ok (.getfield 91, 3) := by decide +kernel
theorem d_Mo_findRings_56 : decode b_Mo_findRings 56 = .ok (.if_icmp .ge 51, 3) := by decide +kernel
theorem d_Mo_findRings_59 : decode b_Mo_findRings 59 = .ok (.aload_n 0, 1) := by decide +kernel
theorem d_Mo_findRings_60 : decode b_Mo_findRings 60 = .ok (.getfield 16, 3) := by decide +kernel
theorem d_Mo_findRings_63 : decode b_Mo_findRings 63 = .ok (.iload_n 2, 1) := by decide +kernel
theorem d_Mo_findRings_64 : decode b_Mo_findRings 64 = .ok (.aload_n 0, 1) := by decide +kernel
theorem d_Mo_findRings_65 : decode b_Mo_findRings 65 = .ok (.getfield 16, 3) := by decide +kernel
theorem d_Mo_findRings_68 : decode b_Mo_findRings 68 = .ok (.iload_n 2, 1) := by decide +kernel
theorem d_Mo_findRings_69 : decode b_Mo_findRings 69 = .ok (.iaload, 1) := by decide +kernel
theorem d_Mo_findRings_70 : decode b_Mo_findRings 70 = .ok (.iload_n 3, 1) := by decide +kernel
theorem d_Mo_findRings_71 : decode b_Mo_findRings 71 = .ok (.ishr, 1) := by decide +kernel
theorem d_Mo_findRings_72 : decode b_Mo_findRings 72 = .ok (.iconst 1, 1) := by decide +kernel
theorem d_Mo_findRings_73 : decode b_Mo_findRings 73 = .ok (.iand, 1) := by decide +kernel
theorem d_Mo_findRings_74 : decode b_Mo_findRings 74 = .ok (.iconst 1, 1) := by decide +kernel
theorem d_Mo_findRings_75 : decode b_Mo_findRings 75 = .ok (.if_icmp .ne 19, 3) := by decide +kernel
theorem d_Mo_findRings_78 : decode b_Mo_findRings 78 = .ok (.aload_n 0, 1) := by decide +kernel
theorem d_Mo_findRings_79 : decode b_Mo_findRings 79 = .ok (.getfield 16, 3) := by decide +kernel
theorem d_Mo_findRings_82 : decode b_Mo_findRings 82 = .ok (.iload_n 2, 1) := by decide +kernel
theorem d_Mo_findRings_83 : decode b_Mo_findRings 83 = .ok (.iaload, 1) := by decide +kernel
theorem d_Mo_findRings_84 : decode b_Mo_findRings 84 = .ok (.aload_n 0, 1) := by decide +kernel
theorem d_Mo_findRings_85 : decode b_Mo_findRings 85 = .ok (.getfield 16, 3) := by decide +kernel
theorem d_Mo_findRings_88 : decode b_Mo_findRings 88 = .ok (.iload_n 3, 1) := by decide +kernel
theorem d_Mo_findRings_89 : decode b_Mo_findRings 89 = .ok (.iaload, 1) := by decide +kernel
theorem d_Mo_findRings_90 : decode b_Mo_findRings 90 = .ok (.ior, 1) := by decide +kernel
theorem d_Mo_findRings_91 : decode b_Mo_findRings 91 = .ok (.goto 9, 3) := by decide +kernel
theorem d_Mo_findRings_94 : decode b_Mo_findRings 94 = .ok (.aload_n 0, 1) := by decide +kernel
theorem d_Mo_findRings_95 : decode b_Mo_findRings 95 = .ok (.getfield 16, 3) := by decide +kernel
theorem d_Mo_findRings_98 : decode b_Mo_findRings 98 = .ok (.iload_n 2, 1) := by decide +kernel
theorem d_Mo_findRings_99 : decode b_Mo_findRings 99 = .ok (.iaload, 1) := by decide +kernel
theorem d_Mo_findRings_100 : decode b_Mo_findRings 100 = .ok (.iastore, 1) := by decide +kernel
theorem d_Mo_findRings_101 : decode b_Mo_findRings 101 = .ok (.iinc 3 1, 3) := by decide +kernel
theorem d_Mo_findRings_104 : decode b_Mo_findRings 104 = .ok (.goto (-53), 3) := by decide +kernel
theorem d_Mo_findRings_107 : decode b_Mo_findRings 107 = .ok (.iinc 2 1, 3) := by decide +kernel
theorem d_Mo_findRings_110 : decode b_Mo_findRings 110 = .ok (.goto (-69), 3) := by decide +kernel
theorem d_Mo_findRings_113 : decode b_Mo_findRings 113 = .ok (.iinc 1 1, 3) := by decide +kernel
theorem d_Mo_findRings_116 : decode b_Mo_findRings 116 = .ok (.goto (-83), 3) := by decide +kernel
theorem d_Mo_findRings_119 : decode b_Mo_findRings 119 = .ok (.return_, 1) := by decide +kernel
theorem d_Mo_findFirsts_0 : decode b_Mo_findFirsts 0 = .ok (.iconst 0, 1) := by decide +kernel
theorem d_Mo_findFirsts_1 : decode b_Mo_findFirsts 1 = .ok (.istore_n 1, 1) := by decide +kernel
theorem d_Mo_findFirsts_2 : decode b_Mo_findFirsts 2 = .ok (.iload_n 1, 1) := by decide +kernel
theorem d_Mo_findFirsts_3 : decode b_Mo_findFirsts 3 = .ok (.bipush 8, 2) := by decide +kernel
theorem d_Mo_findFirsts_5 : decode b_Mo_findFirsts 5 = .ok (.if_icmp .ge 16, 3) := by decide +kernel
theorem d_Mo_findFirsts_8 : decode b_Mo_findFirsts 8 = .ok (.aload_n 0, 1) := by decide +kernel
theorem d_Mo_findFirsts_9 : decode b_Mo_findFirsts 9 = .ok (.getfield 19, 3) := by decide +kernel
theorem d_Mo_findFirsts_12 : decode b_Mo_findFirsts 12 = .ok (.iload_n 1, 1) := by decide +kernel
theorem d_Mo_findFirsts_13 : decode b_Mo_findFirsts 13 = .ok (.iconst 0, 1) := by decide +kernel
theorem d_Mo_findFirsts_14 : decode b_Mo_findFirsts 14 = .ok (.iastore, 1) := by decide +kernel
theorem d_Mo_findFirsts_15 : decode b_Mo_findFirsts 15 = .ok (.iinc 1 1, 3) := by decide +kernel
theorem d_Mo_findFirsts_18 : decode b_Mo_findFirsts 18 = .ok (.goto (-16), 3) := by decide +kernel
theorem d_Mo_findFirsts_21 : decode b_Mo_findFirsts 21 = .ok (.iconst 0, 1) := by decide +kernel
theorem d_Mo_findFirsts_22 : decode b_Mo_findFirsts 22 = .ok (.istore_n 1, 1) := by decide +kernel
theorem d_Mo_findFirsts_23 : decode b_Mo_findFirsts 23 = .ok (.iload_n 1, 1) := by decide +kernel
theorem d_Mo_findFirsts_24 : decode b_Mo_findFirsts 24 = .ok (.bipush 8, 2) := by decide +kernel
theorem d_Mo_findFirsts_26 : decode b_Mo_findFirsts 26 = .ok (.if_icmp .ge 101, 3) := by decide +kernel
theorem d_Mo_findFirsts_29 : decode b_Mo_findFirsts 29 = .ok (.iconst 0, 1) := by decide +kernel
theorem d_Mo_findFirsts_30 : decode b_Mo_findFirsts 30 = .ok (.istore_n 2, 1) := by decide +kernel
theorem d_Mo_findFirsts_31 : decode b_Mo_findFirsts 31 = .ok (.iload_n 2, 1) := by decide +kernel
theorem d_Mo_findFirsts_32 : decode b_Mo_findFirsts 32 = .ok (.aload_n 0, 1) := by decide +kernel
theorem d_Mo_findFirsts_33 : decode b_Mo_findFirsts 33 = .ok (.getfield 91, 3) := by decide +kernel
theorem d_Mo_findFirsts_36 : decode b_Mo_findFirsts 36 = .ok (.if_icmp .ge 85, 3) := by decide +kernel
theorem d_Mo_findFirsts_39 : decode b_Mo_findFirsts 39 = .ok (.iconst 0, 1) := by decide +kernel
theorem d_Mo_findFirsts_40 : decode b_Mo_findFirsts 40 = .ok (.istore_n 3, 1) := by decide +kernel
theorem d_Mo_findFirsts_41 : decode b_Mo_findFirsts 41 = .ok (.iload_n 3, 1) := by decide +kernel
theorem d_Mo_findFirsts_42 : decode b_Mo_findFirsts 42 = .ok (.aload_n 0, 1) := by decide +kernel
theorem d_Mo_findFirsts_43 : decode b_Mo_findFirsts 43 = .ok (.getfield 91, 3) := by decide +kernel
theorem d_Mo_findFirsts_46 : decode b_Mo_findFirsts 46 = .ok (.if_icmp .ge 69, 3) := by decide +kernel
theorem d_Mo_findFirsts_49 : decode b_Mo_findFirsts 49 = .ok (.aload_n 0, 1) := by decide +kernel
theorem d_Mo_findFirsts_50 : decode b_Mo_findFirsts 50 = .ok (.getfield 19, 3) := by decide +kernel
theorem d_Mo_findFirsts_53 : decode b_Mo_findFirsts 53 = .ok (.iload_n 3, 1) := by decide +kernel
theorem d_Mo_findFirsts_54 : decode b_Mo_findFirsts 54 = .ok (.iaload, 1) := by decide +kernel
theorem d_Mo_findFirsts_55 : decode b_Mo_findFirsts 55 = .ok (.aload_n 0, 1) := by decide +kernel
theorem d_Mo_findFirsts_56 : decode b_Mo_findFirsts 56 = .ok (.getfield 13, 3) := by decide +kernel
theorem d_Mo_findFirsts_59 : decode b_Mo_findFirsts 59 = .ok (.iload_n 3, 1) := by decide +kernel
theorem d_Mo_findFirsts_60 : decode b_Mo_findFirsts 60 = .ok (.iaload, 1) := by decide +kernel
theorem d_Mo_findFirsts_61 : decode b_Mo_findFirsts 61 = .ok (.iadd, 1) := by decide +kernel
theorem d_Mo_findFirsts_62 : decode b_Mo_findFirsts 62 = .ok (.istore 4, 2) := by decide +kernel
theorem d_Mo_findFirsts_64 : decode b_Mo_findFirsts 64 = .ok (.aload_n 0, 1) := by decide +kernel
theorem d_Mo_findFirsts_65 : decode b_Mo_findFirsts 65 = .ok (.getfield 19, 3) := by decide +kernel
theorem d_Mo_findFirsts_68 : decode b_Mo_findFirsts 68 = .ok (.iload_n 2, 1) := by decide +kernel
theorem d_Mo_findFirsts_69 : decode b_Mo_findFirsts 69 = .ok (.aload_n 0, 1) := by decide +kernel
theorem d_Mo_findFirsts_70 : decode b_Mo_findFirsts 70 = .ok (.getfield 13, 3) := by decide +kernel
theorem d_Mo_findFirsts_73 : decode b_Mo_findFirsts 73 = .ok (.bipush 56, 2) := by decide +kernel
theorem d_Mo_findFirsts_75 : decode b_Mo_findFirsts 75 = .ok (.iload_n 2, 1) := by decide +kernel
theorem d_Mo_findFirsts_76 : decode b_Mo_findFirsts 76 = .ok (.iadd, 1) := by decide +kernel
theorem d_Mo_findFirsts_77 : decode b_Mo_findFirsts 77 = .ok (.iaload, 1) := by decide +kernel
theorem d_Mo_findFirsts_78 : decode b_Mo_findFirsts 78 = .ok (.iload_n 3, 1) := by decide +kernel
theorem d_Mo_findFirsts_79 : decode b_Mo_findFirsts 79 = .ok (.ishr, 1) := by decide +kernel
theorem d_Mo_findFirsts_80 : decode b_Mo_findFirsts 80 = .ok (.iconst 1, 1) := by decide +kernel
theorem d_Mo_findFirsts_81 : decode b_Mo_findFirsts 81 = .ok (.iand, 1) := by decide +kernel
theorem d_Mo_findFirsts_82 : decode b_Mo_findFirsts 82 = .ok (.iconst 1, 1) := by decide +kernel
theorem d_Mo_findFirsts_83 : decode b_Mo_findFirsts 83 = .ok (.if_icmp .ne 19, 3) := by decide +kernel
theorem d_Mo_findFirsts_86 : decode b_Mo_findFirsts 86 = .ok (.iload 4, 2) := by decide +kernel
theorem d_Mo_findFirsts_88 : decode b_Mo_findFirsts 88 = .ok (.aload_n 0, 1) := by decide +kernel
theorem d_Mo_findFirsts_89 : decode b_Mo_findFirsts 89 = .ok (.getfield 19, 3) := by decide +kernel
theorem d_Mo_findFirsts_92 : decode b_Mo_findFirsts 92 = .ok (.iload_n 2, 1) := by decide +kernel
theorem d_Mo_findFirsts_93 : decode b_Mo_findFirsts 93 = .ok (.iaload, 1) := by decide +kernel
theorem d_Mo_findFirsts_94 : decode b_Mo_findFirsts 94 = .ok (.if_icmp .le 8, 3) := by decide +kernel
theorem d_Mo_findFirsts_97 : decode b_Mo_findFirsts 97 = .ok (.iload 4, 2) := by decide +kernel
theorem d_Mo_findFirsts_99 : decode b_Mo_findFirsts 99 = .ok (.goto 9, 3) := by decide +kernel
theorem d_Mo_findFirsts_102 : decode b_Mo_findFirsts 102 = .ok (.aload_n 0, 1) := by decide +kernel
theorem d_Mo_findFirsts_103 : decode b_Mo_findFirsts 103 = .ok (.getfield 19, 3) := by decide +kernel
theorem d_Mo_findFirsts_106 : decode b_Mo_findFirsts 106 = .ok (.iload_n 2, 1) := by decide +kernel
theorem d_Mo_findFirsts_107 : decode b_Mo_findFirsts 107 = .ok (.iaload, 1) := by decide +kernel
theorem d_Mo_findFirsts_108 : decode b_Mo_findFirsts 108 = .ok (.iastore, 1) := by decide +kernel
theorem d_Mo_findFirsts_109 : decode b_Mo_findFirsts 109 = .ok (.iinc 3 1, 3) := by decide +kernel
theorem d_Mo_findFirsts_112 : decode b_Mo_findFirsts 112 = .ok (.goto (-71), 3) := by decide +kernel
theorem d_Mo_findFirsts_115 : decode b_Mo_findFirsts 115 = .ok (.iinc 2 1, 3) := by decide +kernel
theorem d_Mo_findFirsts_118 : decode b_Mo_findFirsts 118 = .ok (.goto (-87), 3) := by decide +kernel
theorem d_Mo_findFirsts_121 : decode b_Mo_findFirsts 121 = .ok (.iinc 1 1, 3) := by decide +kernel
theorem d_Mo_findFirsts_124 : decode b_Mo_findFirsts 124 = .ok (.goto (-101), 3) := by decide +kernel
theorem d_Mo_findFirsts_127 : decode b_Mo_findFirsts 127 = .ok (.return_, 1) := by decide +kernel
theorem d_Mo_unfit_0 : decode b_Mo_unfit 0 = .ok (.iconst 0, 1) := by decide +kernel
theorem d_Mo_unfit_1 : decode b_Mo_unfit 1 = .ok (.istore_n 1, 1) := by decide +kernel
theorem d_Mo_unfit_2 : decode b_Mo_unfit 2 = .ok (.iload_n 1, 1) := by decide +kernel
theorem d_Mo_unfit_3 : decode b_Mo_unfit 3 = .ok (.aload_n 0, 1) := by decide +kernel
theorem d_Mo_unfit_4 : decode b_Mo_unfit 4 = .ok (.getfield 91, 3) := by decide +kernel
theorem d_Mo_unfit_7 : decode b_Mo_unfit 7 = .ok (.if_icmp .ge 22, 3) := by decide +kernel
theorem d_Mo_unfit_10 : decode b_Mo_unfit 10 = .ok (.aload_n 0, 1) := by decide +kernel
theorem d_Mo_unfit_11 : decode b_Mo_unfit 11 = .ok (.iload_n 1, 1) := by decide +kernel
theorem d_Mo_unfit_12 : decode b_Mo_unfit 12 = .ok (.invokevirtual 111, 3) := by decide +kernel
theorem d_Mo_unfit_15 : decode b_Mo_unfit 15 = .ok (.ifCond .eq 8, 3) := by decide +kernel
theorem d_Mo_unfit_18 : decode b_Mo_unfit 18 = .ok (.bipush 100, 2) := by decide +kernel
theorem d_Mo_unfit_20 : decode b_Mo_unfit 20 = .ok (.iload_n 1, 1) := by decide +kernel
theorem d_Mo_unfit_21 : decode b_Mo_unfit 21 = .ok (.iadd, 1) := by decide +kernel
theorem d_Mo_unfit_22 : decode b_Mo_unfit 22 = .ok (.ireturn, 1) := by decide +kernel
theorem d_Mo_unfit_23 : decode b_Mo_unfit 23 = .ok (.iinc 1 1, 3) := by decide +kernel
theorem d_Mo_unfit_26 : decode b_Mo_unfit 26 = .ok (.goto (-24), 3) := by decide +kernel
theorem d_Mo_unfit_29 : decode b_Mo_unfit 29 = .ok (.aload_n 0, 1) := by decide +kernel
theorem d_Mo_unfit_30 : decode b_Mo_unfit 30 = .ok (.invokevirtual 114, 3) := by decide +kernel
theorem d_Mo_unfit_33 : decode b_Mo_unfit 33 = .ok (.iconst 0, 1) := by decide +kernel
theorem d_Mo_unfit_34 : decode b_Mo_unfit 34 = .ok (.istore_n 1, 1) := by decide +kernel
theorem d_Mo_unfit_35 : decode b_Mo_unfit 35 = .ok (.iload_n 1, 1) := by decide +kernel
theorem d_Mo_unfit_36 : decode b_Mo_unfit 36 = .ok (.aload_n 0, 1) := by decide +kernel
theorem d_Mo_unfit_37 : decode b_Mo_unfit 37 = .ok (.getfield 91, 3) := by decide +kernel
theorem d_Mo_unfit_40 : decode b_Mo_unfit 40 = .ok (.if_icmp .ge 29, 3) := by decide +kernel
theorem d_Mo_unfit_43 : decode b_Mo_unfit 43 = .ok (.aload_n 0, 1) := by decide +kernel
theorem d_Mo_unfit_44 : decode b_Mo_unfit 44 = .ok (.getfield 16, 3) := by decide +kernel
theorem d_Mo_unfit_47 : decode b_Mo_unfit 47 = .ok (.iload_n 1, 1) := by decide +kernel
theorem d_Mo_unfit_48 : decode b_Mo_unfit 48 = .ok (.iaload, 1) := by decide +kernel
theorem d_Mo_unfit_49 : decode b_Mo_unfit 49 = .ok (.iload_n 1, 1) := by decide +kernel
theorem d_Mo_unfit_50 : decode b_Mo_unfit 50 = .ok (.ishr, 1) := by decide +kernel
theorem d_Mo_unfit_51 : decode b_Mo_unfit 51 = .ok (.iconst 1, 1) := by decide +kernel
theorem d_Mo_unfit_52 : decode b_Mo_unfit 52 = .ok (.iand, 1) := by decide +kernel
theorem d_Mo_unfit_53 : decode b_Mo_unfit 53 = .ok (.iconst 1, 1) := by decide +kernel
theorem d_Mo_unfit_54 : decode b_Mo_unfit 54 = .ok (.if_icmp .ne 9, 3) := by decide +kernel
theorem d_Mo_unfit_57 : decode b_Mo_unfit 57 = .ok (.sipush 200, 3) := by decide +kernel
theorem d_Mo_unfit_60 : decode b_Mo_unfit 60 = .ok (.iload_n 1, 1) := by decide +kernel
theorem d_Mo_unfit_61 : decode b_Mo_unfit 61 = .ok (.iadd, 1) := by decide +kernel
theorem d_Mo_unfit_62 : decode b_Mo_unfit 62 = .ok (.ireturn, 1) := by decide +kernel
theorem d_Mo_unfit_63 : decode b_Mo_unfit 63 = .ok (.iinc 1 1, 3) := by decide +kernel
theorem d_Mo_unfit_66 : decode b_Mo_unfit 66 = .ok (.goto (-31), 3) := by decide +kernel
theorem d_Mo_unfit_69 : decode b_Mo_unfit 69 = .ok (.aload_n 0, 1) := by decide +kernel
theorem d_Mo_unfit_70 : decode b_Mo_unfit 70 = .ok (.invokevirtual 117, 3) := by decide +kernel
theorem d_Mo_unfit_73 : decode b_Mo_unfit 73 = .ok (.iconst 0, 1) := by decide +kernel
theorem d_Mo_unfit_74 : decode b_Mo_unfit 74 = .ok (.istore_n 1, 1) := by decide +kernel
theorem d_Mo_unfit_75 : decode b_Mo_unfit 75 = .ok (.iload_n 1, 1) := by decide +kernel
theorem d_Mo_unfit_76 : decode b_Mo_unfit 76 = .ok (.aload_n 0, 1) := by decide +kernel
theorem d_Mo_unfit_77 : decode b_Mo_unfit 77 = .ok (.getfield 91, 3) := by decide +kernel
theorem d_Mo_unfit_80 : decode b_Mo_unfit 80 = .ok (.if_icmp .ge 33, 3) := by decide +kernel
theorem d_Mo_unfit_83 : decode b_Mo_unfit 83 = .ok (.aload_n 0, 1) := by decide +kernel
theorem d_Mo_unfit_84 : decode b_Mo_unfit 84 = .ok (.getfield 19, 3) := by decide +kernel
theorem d_Mo_unfit_87 : decode b_Mo_unfit 87 = .ok (.iload_n 1, 1) := by decide +kernel
theorem d_Mo_unfit_88 : decode b_Mo_unfit 88 = .ok (.iaload, 1) := by decide +kernel
theorem d_Mo_unfit_89 : decode b_Mo_unfit 89 = .ok (.aload_n 0, 1) := by decide +kernel
theorem d_Mo_unfit_90 : decode b_Mo_unfit 90 = .ok (.getfield 13, 3) := by decide +kernel
theorem d_Mo_unfit_93 : decode b_Mo_unfit 93 = .ok (.bipush 40, 2) := by decide +kernel
theorem d_Mo_unfit_95 : decode b_Mo_unfit 95 = .ok (.iload_n 1, 1) := by decide +kernel
theorem d_Mo_unfit_96 : decode b_Mo_unfit 96 = .ok (.iadd, 1) := by decide +kernel
theorem d_Mo_unfit_97 : decode b_Mo_unfit 97 = .ok (.iaload, 1) := by decide +kernel
theorem d_Mo_unfit_98 : decode b_Mo_unfit 98 = .ok (.if_icmp .le 9, 3) := by decide +kernel
theorem d_Mo_unfit_101 : decode b_Mo_unfit 101 = .ok (.sipush 300, 3) := by decide +kernel
theorem d_Mo_unfit_104 : decode b_Mo_unfit 104 = .ok (.iload_n 1, 1) := by decide +kernel
theorem d_Mo_unfit_105 : decode b_Mo_unfit 105 = .ok (.iadd, 1) := by decide +kernel
theorem d_Mo_unfit_106 : decode b_Mo_unfit 106 = .ok (.ireturn, 1) := by decide +kernel
theorem d_Mo_unfit_107 : decode b_Mo_unfit 107 = .ok (.iinc 1 1, 3) := by decide +kernel
