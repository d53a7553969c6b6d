theorem d_Plan_init_0 : decode b_Plan_init 0 = .ok (.aload_n 0, 1) := by decide +kernel
theorem d_Plan_init_1 : decode b_Plan_init 1 = .ok (.invokespecial 1, 3) := by decide +kernel
theorem d_Plan_init_4 : decode b_Plan_init 4 = .ok (.aload_n 0, 1) := by decide +kernel
theorem d_Plan_init_5 : decode b_Plan_init 5 = .ok (.bipush 8, 2) := by decide +kernel
theorem d_Plan_init_7 : decode b_Plan_init 7 = .ok (.anewarray 9, 3) := by decide +kernel
theorem d_Plan_init_10 : decode b_Plan_init 10 = .ok (.putfield 11, 3) := by decide +kernel
theorem d_Plan_init_13 : decode b_Plan_init 13 = .ok (.iconst 0, 1) := by decide +kernel
theorem d_Plan_init_14 : decode b_Plan_init 14 = .ok (.istore_n 1, 1) := by decide +kernel
theorem d_Plan_init_15 : decode b_Plan_init 15 = .ok (.iload_n 1, 1) := by decide +kernel
theorem d_Plan_init_16 : decode b_Plan_init 16 = .ok (.bipush 8, 2) := by decide +kernel
theorem d_Plan_init_18 : decode b_Plan_init 18 = .ok (.if_icmp .ge 22, 3) := by decide +kernel
theorem d_Plan_init_21 : decode b_Plan_init 21 = .ok (.aload_n 0, 1) := by decide +kernel
theorem d_Plan_init_22 : decode b_Plan_init 22 = .ok (.getfield 11, 3) := by decide +kernel
theorem d_Plan_init_25 : decode b_Plan_init 25 = .ok (.iload_n 1, 1) := by decide +kernel
theorem d_Plan_init_26 : decode b_Plan_init 26 = .ok (.new 9, 3) := by decide +kernel
theorem d_Plan_init_29 : decode b_Plan_init 29 = .ok (.dup, 1) := by decide +kernel
theorem d_Plan_init_30 : decode b_Plan_init 30 = .ok (.invokespecial 15, 3) := by decide +kernel
theorem d_Plan_init_33 : decode b_Plan_init 33 = .ok (.aastore, 1) := by decide +kernel
theorem d_Plan_init_34 : decode b_Plan_init 34 = .ok (.iinc 1 1, 3) := by decide +kernel
theorem d_Plan_init_37 : decode b_Plan_init 37 = .ok (.goto (-22), 3) := by decide +kernel
theorem d_Plan_init_40 : decode b_Plan_init 40 = .ok (.return_, 1) := by decide +kernel
theorem d_Plan_has_0 : decode b_Plan_has 0 = .ok (.iload_n 1, 1) := by decide +kernel
theorem d_Plan_has_1 : decode b_Plan_has 1 = .ok (.ifCond .lt 15, 3) := by decide +kernel
theorem d_Plan_has_4 : decode b_Plan_has 4 = .ok (.iload_n 1, 1) := by decide +kernel
theorem d_Plan_has_5 : decode b_Plan_has 5 = .ok (.aload_n 0, 1) := by decide +kernel
theorem d_Plan_has_6 : decode b_Plan_has 6 = .ok (.getfield 16, 3) := by decide +kernel
theorem d_Plan_has_9 : decode b_Plan_has 9 = .ok (.if_icmp .ge 7, 3) := by decide +kernel
theorem d_Plan_has_12 : decode b_Plan_has 12 = .ok (.iconst 1, 1) := by decide +kernel
theorem d_Plan_has_13 : decode b_Plan_has 13 = .ok (.goto 4, 3) := by decide +kernel
theorem d_Plan_has_16 : decode b_Plan_has 16 = .ok (.iconst 0, 1) := by decide +kernel
theorem d_Plan_has_17 : decode b_Plan_has 17 = .ok (.ireturn, 1) := by decide +kernel
theorem d_Plan_makeReady_0 : decode b_Plan_makeReady 0 = .ok (.iconst 0, 1) := by decide +kernel
theorem d_Plan_makeReady_1 : decode b_Plan_makeReady 1 = .ok (.istore_n 1, 1) := by decide +kernel
theorem d_Plan_makeReady_2 : decode b_Plan_makeReady 2 = .ok (.iload_n 1, 1) := by decide +kernel
theorem d_Plan_makeReady_3 : decode b_Plan_makeReady 3 = .ok (.aload_n 0, 1) := by decide +kernel
theorem d_Plan_makeReady_4 : decode b_Plan_makeReady 4 = .ok (.getfield 16, 3) := by decide +kernel
theorem d_Plan_makeReady_7 : decode b_Plan_makeReady 7 = .ok (.if_icmp .ge 18, 3) := by decide +kernel
theorem d_Plan_makeReady_10 : decode b_Plan_makeReady 10 = .ok (.aload_n 0, 1) := by decide +kernel
theorem d_Plan_makeReady_11 : decode b_Plan_makeReady 11 = .ok (.getfield 11, 3) := by decide +kernel
theorem d_Plan_makeReady_14 : decode b_Plan_makeReady 14 = .ok (.iload_n 1, 1) := by decide +kernel
theorem d_Plan_makeReady_15 : decode b_Plan_makeReady 15 = .ok (.aaload, 1) := by decide +kernel
theorem d_Plan_makeReady_16 : decode b_Plan_makeReady 16 = .ok (.invokevirtual 20, 3) := by decide +kernel
theorem d_Plan_makeReady_19 : decode b_Plan_makeReady 19 = .ok (.iinc 1 1, 3) := by decide +kernel
theorem d_Plan_makeReady_22 : decode b_Plan_makeReady 22 = .ok (.goto (-20), 3) := by decide +kernel
theorem d_Plan_makeReady_25 : decode b_Plan_makeReady 25 = .ok (.return_, 1) := by decide +kernel
theorem d_Plan_findUnfit_0 : decode b_Plan_findUnfit 0 = .ok (.iconst 0, 1) := by decide +kernel
theorem d_Plan_findUnfit_1 : decode b_Plan_findUnfit 1 = .ok (.istore_n 1, 1) := by decide +kernel
theorem d_Plan_findUnfit_2 : decode b_Plan_findUnfit 2 = .ok (.iload_n 1, 1) := by decide +kernel
theorem d_Plan_findUnfit_3 : decode b_Plan_findUnfit 3 = .ok (.aload_n 0, 1) := by decide +kernel
theorem d_Plan_findUnfit_4 : decode b_Plan_findUnfit 4 = .ok (.getfield 16, 3) := by decide +kernel
theorem d_Plan_findUnfit_7 : decode b_Plan_findUnfit 7 = .ok (.if_icmp .ge 22, 3) := by decide +kernel
theorem d_Plan_findUnfit_10 : decode b_Plan_findUnfit 10 = .ok (.aload_n 0, 1) := by decide +kernel
theorem d_Plan_findUnfit_11 : decode b_Plan_findUnfit 11 = .ok (.iload_n 1, 1) := by decide +kernel
theorem d_Plan_findUnfit_12 : decode b_Plan_findUnfit 12 = .ok (.invokevirtual 23, 3) := by decide +kernel
theorem d_Plan_findUnfit_15 : decode b_Plan_findUnfit 15 = .ok (.ifCond .eq 8, 3) := by decide +kernel
theorem d_Plan_findUnfit_18 : decode b_Plan_findUnfit 18 = .ok (.bipush 100, 2) := by decide +kernel
theorem d_Plan_findUnfit_20 : decode b_Plan_findUnfit 20 = .ok (.iload_n 1, 1) := by decide +kernel
theorem d_Plan_findUnfit_21 : decode b_Plan_findUnfit 21 = .ok (.iadd, 1) := by decide +kernel
theorem d_Plan_findUnfit_22 : decode b_Plan_findUnfit 22 = .ok (.ireturn, 1) := by decide +kernel
theorem d_Plan_findUnfit_23 : decode b_Plan_findUnfit 23 = .ok (.iinc 1 1, 3) := by decide +kernel
theorem d_Plan_findUnfit_26 : decode b_Plan_findUnfit 26 = .ok (.goto (-24), 3) := by decide +kernel
theorem d_Plan_findUnfit_29 : decode b_Plan_findUnfit 29 = .ok (.iconst 0, 1) := by decide +kernel
theorem d_Plan_findUnfit_30 : decode b_Plan_findUnfit 30 = .ok (.istore_n 1, 1) := by decide +kernel
theorem d_Plan_findUnfit_31 : decode b_Plan_findUnfit 31 = .ok (.iload_n 1, 1) := by decide +kernel
theorem d_Plan_findUnfit_32 : decode b_Plan_findUnfit 32 = .ok (.aload_n 0, 1) := by decide +kernel
theorem d_Plan_findUnfit_33 : decode b_Plan_findUnfit 33 = .ok (.getfield 16, 3) := by decide +kernel
theorem d_Plan_findUnfit_36 : decode b_Plan_findUnfit 36 = .ok (.if_icmp .ge 23, 3) := by decide +kernel
theorem d_Plan_findUnfit_39 : decode b_Plan_findUnfit 39 = .ok (.aload_n 0, 1) := by decide +kernel
theorem d_Plan_findUnfit_40 : decode b_Plan_findUnfit 40 = .ok (.iload_n 1, 1) := by decide +kernel
theorem d_Plan_findUnfit_41 : decode b_Plan_findUnfit 41 = .ok (.invokevirtual 27, 3) := by decide +kernel
theorem d_Plan_findUnfit_44 : decode b_Plan_findUnfit 44 = .ok (.ifCond .eq 9, 3) := by decide +kernel
theorem d_Plan_findUnfit_47 : decode b_Plan_findUnfit 47 = .ok (.sipush 200, 3) := by decide +kernel
theorem d_Plan_findUnfit_50 : decode b_Plan_findUnfit 50 = .ok (.iload_n 1, 1) := by decide +kernel
theorem d_Plan_findUnfit_51 : decode b_Plan_findUnfit 51 = .ok (.iadd, 1) := by decide +kernel
theorem d_Plan_findUnfit_52 : decode b_Plan_findUnfit 52 = .ok (.ireturn, 1) := by decide +kernel
theorem d_Plan_findUnfit_53 : decode b_Plan_findUnfit 53 = .ok (.iinc 1 1, 3) := by decide +kernel
theorem d_Plan_findUnfit_56 : decode b_Plan_findUnfit 56 = .ok (.goto (-25), 3) := by decide +kernel
theorem d_Plan_findUnfit_59 : decode b_Plan_findUnfit 59 = .ok (.aload_n 0, 1) := by decide +kernel
theorem d_Plan_findUnfit_60 : decode b_Plan_findUnfit 60 = .ok (.invokevirtual 30, 3) := by decide +kernel
theorem d_Plan_findUnfit_63 : decode b_Plan_findUnfit 63 = .ok (.iconst 0, 1) := by decide +kernel
theorem d_Plan_findUnfit_64 : decode b_Plan_findUnfit 64 = .ok (.istore_n 1, 1) := by decide +kernel
theorem d_Plan_findUnfit_65 : decode b_Plan_findUnfit 65 = .ok (.iload_n 1, 1) := by decide +kernel
theorem d_Plan_findUnfit_66 : decode b_Plan_findUnfit 66 = .ok (.aload_n 0, 1) := by decide +kernel
theorem d_Plan_findUnfit_67 : decode b_Plan_findUnfit 67 = .ok (.getfield 16, 3) := by decide +kernel
theorem d_Plan_findUnfit_70 : decode b_Plan_findUnfit 70 = .ok (.if_icmp .ge 36, 3) := by decide +kernel
theorem d_Plan_findUnfit_73 : decode b_Plan_findUnfit 73 = .ok (.aload_n 0, 1) := by decide +kernel
theorem d_Plan_findUnfit_74 : decode b_Plan_findUnfit 74 = .ok (.getfield 11, 3) := by decide +kernel
theorem d_Plan_findUnfit_77 : decode b_Plan_findUnfit 77 = .ok (.iload_n 1, 1) := by decide +kernel
theorem d_Plan_findUnfit_78 : decode b_Plan_findUnfit 78 = .ok (.aaload, 1) := by decide +kernel
theorem d_Plan_findUnfit_79 : decode b_Plan_findUnfit 79 = .ok (.getfield 33, 3) := by decide +kernel
theorem d_Plan_findUnfit_82 : decode b_Plan_findUnfit 82 = .ok (.aload_n 0, 1) := by decide +kernel
theorem d_Plan_findUnfit_83 : decode b_Plan_findUnfit 83 = .ok (.getfield 11, 3) := by decide +kernel
theorem d_Plan_findUnfit_86 : decode b_Plan_findUnfit 86 = .ok (.iload_n 1, 1) := by decide +kernel
theorem d_Plan_findUnfit_87 : decode b_Plan_findUnfit 87 = .ok (.aaload, 1) := by decide +kernel
theorem d_Plan_findUnfit_88 : decode b_Plan_findUnfit 88 = .ok (.getfield 36, 3) := by decide +kernel
theorem d_Plan_findUnfit_91 : decode b_Plan_findUnfit 91 = .ok (.if_icmp .le 9, 3) := by decide +kernel
theorem d_Plan_findUnfit_94 : decode b_Plan_findUnfit 94 = .ok (.sipush 300, 3) := by decide +kernel
theorem d_Plan_findUnfit_97 : decode b_Plan_findUnfit 97 = .ok (.iload_n 1, 1) := by decide +kernel
theorem d_Plan_findUnfit_98 : decode b_Plan_findUnfit 98 = .ok (.iadd, 1) := by decide +kernel
theorem d_Plan_findUnfit_99 : decode b_Plan_findUnfit 99 = .ok (.ireturn, 1) := by decide +kernel
theorem d_Plan_findUnfit_100 : decode b_Plan_findUnfit 100 = .ok (.iinc 1 1, 3) := by decide +kernel
theorem d_Plan_findUnfit_103 : decode b_Plan_findUnfit 103 = .ok (.goto (-38), 3) := by decide +kernel
theorem d_Plan_findUnfit_106 : decode b_Plan_findUnfit 106 = .ok (.iconst 0, 1) := by decide +kernel
theorem d_Plan_findUnfit_107 : decode b_Plan_findUnfit 107 = .ok (.ireturn, 1) := by decide +kernel
theorem d_Plan_saysWrong_0 : decode b_Plan_saysWrong 0 = .ok (.aload_n 0, 1) := by decide +kernel
theorem d_Plan_saysWrong_1 : decode b_Plan_saysWrong 1 = .ok (.getfield 11, 3) := by decide +kernel
theorem d_Plan_saysWrong_4 : decode b_Plan_saysWrong 4 = .ok (.iload_n 1, 1) := by decide +kernel
theorem d_Plan_saysWrong_5 : decode b_Plan_saysWrong 5 = .ok (.aaload, 1) := by decide +kernel
theorem d_Plan_saysWrong_6 : decode b_Plan_saysWrong 6 = .ok (.astore_n 2, 1) := by decide +kernel
theorem d_Plan_saysWrong_7 : decode b_Plan_saysWrong 7 = .ok (.iconst 1, 1) := by decide +kernel
theorem d_Plan_saysWrong_8 : decode b_Plan_saysWrong 8 = .ok (.aload_n 0, 1) := by decide +kernel
theorem d_Plan_saysWrong_9 : decode b_Plan_saysWrong 9 = .ok (.getfield 16, 3) := by decide +kernel
theorem d_Plan_saysWrong_12 : decode b_Plan_saysWrong 12 = .ok (.ishl, 1) := by decide +kernel
theorem d_Plan_saysWrong_13 : decode b_Plan_saysWrong 13 = .ok (.iconst 1, 1) := by decide +kernel
theorem d_Plan_saysWrong_14 : decode b_Plan_saysWrong 14 = .ok (.isub, 1) := by decide +kernel
theorem d_Plan_saysWrong_15 : decode b_Plan_saysWrong 15 = .ok (.iconst 1, 1) := by decide +kernel
theorem d_Plan_saysWrong_16 : decode b_Plan_saysWrong 16 = .ok (.iload_n 1, 1) := by decide +kernel
theorem d_Plan_saysWrong_17 : decode b_Plan_saysWrong 17 = .ok (.ishl, 1) := by decide +kernel
theorem d_Plan_saysWrong_18 : decode b_Plan_saysWrong 18 = .ok (.iconst (-1), 1) := by decide +kernel
theorem d_Plan_saysWrong_19 : decode b_Plan_saysWrong 19 = .ok (.ixor, 1) := by decide +kernel
theorem d_Plan_saysWrong_20 : decode b_Plan_saysWrong 20 = .ok (.iand, 1) := by decide +kernel
theorem d_Plan_saysWrong_21 : decode b_Plan_saysWrong 21 = .ok (.istore_n 3, 1) := by decide +kernel
theorem d_Plan_saysWrong_22 : decode b_Plan_saysWrong 22 = .ok (.aload_n 2, 1) := by decide +kernel
theorem d_Plan_saysWrong_23 : decode b_Plan_saysWrong 23 = .ok (.getfield 39, 3) := by decide +kernel
theorem d_Plan_saysWrong_26 : decode b_Plan_saysWrong 26 = .ok (.iconst 1, 1) := by decide +kernel
theorem d_Plan_saysWrong_27 : decode b_Plan_saysWrong 27 = .ok (.if_icmp .lt 47, 3) := by decide +kernel
theorem d_Plan_saysWrong_30 : decode b_Plan_saysWrong 30 = .ok (.aload_n 2, 1) := by decide +kernel
theorem d_Plan_saysWrong_31 : decode b_Plan_saysWrong 31 = .ok (.getfield 42, 3) := by decide +kernel
theorem d_Plan_saysWrong_34 : decode b_Plan_saysWrong 34 = .ok (.bipush 30, 2) := by decide +kernel
theorem d_Plan_saysWrong_36 : decode b_Plan_saysWrong 36 = .ok (.if_icmp .gt 38, 3) := by decide +kernel
theorem d_Plan_saysWrong_39 : decode b_Plan_saysWrong 39 = .ok (.aload_n 2, 1) := by decide +kernel
theorem d_Plan_saysWrong_40 : decode b_Plan_saysWrong 40 = .ok (.getfield 39, 3) := by decide +kernel
theorem d_Plan_saysWrong_43 : decode b_Plan_saysWrong 43 = .ok (.aload_n 2, 1) := by decide +kernel
theorem d_Plan_saysWrong_44 : decode b_Plan_saysWrong 44 = .ok (.getfield 42, 3) := by decide +kernel
theorem d_Plan_saysWrong_47 : decode b_Plan_saysWrong 47 = .ok (.if_icmp .gt 27, 3) := by decide +kernel
theorem d_Plan_saysWrong_50 : decode b_Plan_saysWrong 50 = .ok (.aload_n 2, 1) := by decide +kernel
theorem d_Plan_saysWrong_51 : decode b_Plan_saysWrong 51 = .ok (.getfield 45, 3) := by decide +kernel
theorem d_Plan_saysWrong_54 : decode b_Plan_saysWrong 54 = .ok (.iconst 3, 1) := by decide +kernel
theorem d_Plan_saysWrong_55 : decode b_Plan_saysWrong 55 = .ok (.if_icmp .gt 19, 3) := by decide +kernel
theorem d_Plan_saysWrong_58 : decode b_Plan_saysWrong 58 = .ok (.aload_n 2, 1) := by decide +kernel
theorem d_Plan_saysWrong_59 : decode b_Plan_saysWrong 59 = .ok (.getfield 48, 3) := by decide +kernel
theorem d_Plan_saysWrong_62 : decode b_Plan_saysWrong 62 = .ok (.aload_n 2, 1) := by decide +kernel
theorem d_Plan_saysWrong_63 : decode b_Plan_saysWrong 63 = .ok (.getfield 51, 3) := by decide +kernel
theorem d_Plan_saysWrong_66 : decode b_Plan_saysWrong 66 = .ok (.ior, 1) := by decide +kernel
theorem d_Plan_saysWrong_67 : decode b_Plan_saysWrong 67 = .ok (.iload_n 3, 1) := by decide +kernel
theorem d_Plan_saysWrong_68 : decode b_Plan_saysWrong 68 = .ok (.iconst (-1), 1) := by decide +kernel
theorem d_Plan_saysWrong_69 : decode b_Plan_saysWrong 69 = .ok (.ixor, 1) := by decide +kernel
theorem d_Plan_saysWrong_70 : decode b_Plan_saysWrong 70 = .ok (.iand, 1) := by decide +kernel
theorem d_Plan_saysWrong_71 : decode b_Plan_saysWrong 71 = .ok (.ifCond .eq 7, 3) := by decide +kernel
theorem d_Plan_saysWrong_74 : decode b_Plan_saysWrong 74 = .ok (.iconst 1, 1) := by decide +kernel
theorem d_Plan_saysWrong_75 : decode b_Plan_saysWrong 75 = .ok (.goto 4, 3) := by decide +kernel
theorem d_Plan_saysWrong_78 : decode b_Plan_saysWrong 78 = .ok (.iconst 0, 1) := by decide +kernel
theorem d_Plan_saysWrong_79 : decode b_Plan_saysWrong 79 = .ok (.ireturn, 1) := by decide +kernel
theorem d_Plan_isInRing_0 : decode b_Plan_isInRing 0 = .ok (.aload_n 0, 1) := by decide +kernel
theorem d_Plan_isInRing_1 : decode b_Plan_isInRing 1 = .ok (.getfield 11, 3) := by decide +kernel
theorem d_Plan_isInRing_4 : decode b_Plan_isInRing 4 = .ok (.iload_n 1, 1) := by decide +kernel
theorem d_Plan_isInRing_5 : decode b_Plan_isInRing 5 = .ok (.aaload, 1) := by decide +kernel
theorem d_Plan_isInRing_6 : decode b_Plan_isInRing 6 = .ok (.getfield 48, 3) := by decide +kernel
theorem d_Plan_isInRing_9 : decode b_Plan_isInRing 9 = .ok (.istore_n 2, 1) := by decide +kernel
theorem d_Plan_isInRing_10 : decode b_Plan_isInRing 10 = .ok (.iconst 0, 1) := by decide +kernel
theorem d_Plan_isInRing_11 : decode b_Plan_isInRing 11 = .ok (.istore_n 3, 1) := by decide +kernel
theorem d_Plan_isInRing_12 : decode b_Plan_isInRing 12 = .ok (.iload_n 3, 1) := by decide +kernel
theorem d_Plan_isInRing_13 : decode b_Plan_isInRing 13 = .ok (.aload_n 0, 1) := by decide +kernel
theorem d_Plan_isInRing_14 : decode b_Plan_isInRing 14 = .ok (.getfield 16, 3) := by decide +kernel
theorem d_Plan_isInRing_17 : decode b_Plan_isInRing 17 = .ok (.if_icmp .ge 49, 3) := by decide +kernel
theorem d_Plan_isInRing_20 : decode b_Plan_isInRing 20 = .ok (.iconst 0, 1) := by decide +kernel
theorem d_Plan_isInRing_21 : decode b_Plan_isInRing 21 = .ok (.istore 4, 2) := by decide +kernel
theorem d_Plan_isInRing_23 : decode b_Plan_isInRing 23 = .ok (.iload 4, 2) := by decide +kernel
theorem d_Plan_isInRing_25 : decode b_Plan_isInRing 25 = .ok (.aload_n 0, 1) := by decide +kernel
theorem d_Plan_isInRing_26 : decode b_Plan_isInRing 26 = .ok (.getfield 16, 3) := by decide +kernel
theorem d_Plan_isInRing_29 : decode b_Plan_isInRing 29 = .ok (.if_icmp .ge 31, 3) := by decide +kernel
theorem d_Plan_isInRing_32 : decode b_Plan_isInRing 32 = .ok (.iload_n 2, 1) := by decide +kernel
theorem d_Plan_isInRing_33 : decode b_Plan_isInRing 33 = .ok (.iload 4, 2) := by decide +kernel
theorem d_Plan_isInRing_35 : decode b_Plan_isInRing 35 = .ok (.ishr, 1) := by decide +kernel
theorem d_Plan_isInRing_36 : decode b_Plan_isInRing 36 = .ok (.iconst 1, 1) := by decide +kernel
theorem d_Plan_isInRing_37 : decode b_Plan_isInRing 37 = .ok (.iand, 1) := by decide +kernel
theorem d_Plan_isInRing_38 : decode b_Plan_isInRing 38 = .ok (.ifCond .eq 16, 3) := by decide +kernel
theorem d_Plan_isInRing_41 : decode b_Plan_isInRing 41 = .ok (.iload_n 2, 1) := by decide +kernel
theorem d_Plan_isInRing_42 : decode b_Plan_isInRing 42 = .ok (.aload_n 0, 1) := by decide +kernel
theorem d_Plan_isInRing_43 : decode b_Plan_isInRing 43 = .ok (.getfield 11, 3) := by decide +kernel
theorem d_Plan_isInRing_46 : decode b_Plan_isInRing 46 = .ok (.iload 4, 2) := by decide +kernel
theorem d_Plan_isInRing_48 : decode b_Plan_isInRing 48 = .ok (.aaload, 1) := by decide +kernel
theorem d_Plan_isInRing_49 : decode b_Plan_isInRing 49 = .ok (.getfield 48, 3) := by decide +kernel
theorem d_Plan_isInRing_52 : decode b_Plan_isInRing 52 = .ok (.ior, 1) := by decide +kernel
theorem d_Plan_isInRing_53 : decode b_Plan_isInRing 53 = .ok (.istore_n 2, 1) := by decide +kernel
theorem d_Plan_isInRing_54 : decode b_Plan_isInRing 54 = .ok (.iinc 4 1, 3) := by decide +kernel
theorem d_Plan_isInRing_57 : decode b_Plan_isInRing 57 = .ok (.goto (-34), 3) := by decide +kernel
theorem d_Plan_isInRing_60 : decode b_Plan_isInRing 60 = .ok (.iinc 3 1, 3) := by decide +kernel
theorem d_Plan_isInRing_63 : decode b_Plan_isInRing 63 = .ok (.goto (-51), 3) := by decide +kernel
theorem d_Plan_isInRing_66 : decode b_Plan_isInRing 66 = .ok (.iload_n 2, 1) := by decide +kernel
theorem d_Plan_isInRing_67 : decode b_Plan_isInRing 67 = .ok (.iload_n 1, 1) := by decide +kernel
theorem d_Plan_isInRing_68 : decode b_Plan_isInRing 68 = .ok (.ishr, 1) := by decide +kernel
theorem d_Plan_isInRing_69 : decode b_Plan_isInRing 69 = .ok (.iconst 1, 1) := by decide +kernel
theorem d_Plan_isInRing_70 : decode b_Plan_isInRing 70 = .ok (.iand, 1) := by decide +kernel
theorem d_Plan_isInRing_71 : decode b_Plan_isInRing 71 = .ok (.ifCond .eq 7, 3) := by decide +kernel
theorem d_Plan_isInRing_74 : decode b_Plan_isInRing 74 = .ok (.iconst 1, 1) := by decide +kernel
theorem d_Plan_isInRing_75 : decode b_Plan_isInRing 75 = .ok (.goto 4, 3) := by decide +kernel
theorem d_Plan_isInRing_78 : decode b_Plan_isInRing 78 = .ok (.iconst 0, 1) := by decide +kernel
theorem d_Plan_isInRing_79 : decode b_Plan_isInRing 79 = .ok (.ireturn, 1) := by decide +kernel
theorem d_Plan_reckonEarliest_0 : decode b_Plan_reckonEarliest 0 = .ok (.iconst 0, 1) := by decide +kernel
theorem d_Plan_reckonEarliest_1 : decode b_Plan_reckonEarliest 1 = .ok (.istore_n 1, 1) := by decide +kernel
theorem d_Plan_reckonEarliest_2 : decode b_Plan_reckonEarliest 2 = .ok (.iload_n 1, 1) := by decide +kernel
theorem d_Plan_reckonEarliest_3 : decode b_Plan_reckonEarliest 3 = .ok (.aload_n 0, 1) := by decide +kernel
theorem d_Plan_reckonEarliest_4 : decode b_Plan_reckonEarliest 4 = .ok (.getfield 16, 3) := by decide +kernel
theorem d_Plan_reckonEarliest_7 : decode b_Plan_reckonEarliest 7 = .ok (.if_icmp .ge 44, 3) := by decide +kernel
theorem d_Plan_reckonEarliest_10 : decode b_Plan_reckonEarliest 10 = .ok (.iconst 0, 1) := by decide +kernel
theorem d_Plan_reckonEarliest_11 : decode b_Plan_reckonEarliest 11 = .ok (.istore_n 2, 1) := by decide +kernel
theorem d_Plan_reckonEarliest_12 : decode b_Plan_reckonEarliest 12 = .ok (.iload_n 2, 1) := by decide +kernel
theorem d_Plan_reckonEarliest_13 : decode b_Plan_reckonEarliest 13 = .ok (.aload_n 0, 1) := by decide +kernel
theorem d_Plan_reckonEarliest_14 : decode b_Plan_reckonEarliest 14 = .ok (.getfield 16, 3) := by decide +kernel
theorem d_Plan_reckonEarliest_17 : decode b_Plan_reckonEarliest 17 = .ok (.if_icmp .ge 28, 3) := by decide +kernel
theorem d_Plan_reckonEarliest_20 : decode b_Plan_reckonEarliest 20 = .ok (.aload_n 0, 1) := by decide +kernel
theorem d_Plan_reckonEarliest_21 : decode b_Plan_reckonEarliest 21 = .ok (.getfield 11, 3) := by decide +kernel
theorem d_Plan_reckonEarliest_24 : decode b_Plan_reckonEarliest 24 = .ok (.iload_n 2, 1) := by decide +kernel
theorem d_Plan_reckonEarliest_25 : decode b_Plan_reckonEarliest 25 = .ok (.aaload, 1) := by decide +kernel
theorem d_Plan_reckonEarliest_26 : decode b_Plan_reckonEarliest 26 = .ok (.aload_n 0, 1) := by decide +kernel
theorem d_Plan_reckonEarliest_27 : decode b_Plan_reckonEarliest 27 = .ok (.aload_n 0, 1) := by decide +kernel
theorem d_Plan_reckonEarliest_28 : decode b_Plan_reckonEarliest 28 = .ok (.getfield 11, 3) := by decide +kernel
theorem d_Plan_reckonEarliest_31 : decode b_Plan_reckonEarliest 31 = .ok (.iload_n 2, 1) := by decide +kernel
theorem d_Plan_reckonEarliest_32 : decode b_Plan_reckonEarliest 32 = .ok (.aaload, 1) := by decide +kernel
theorem d_Plan_reckonEarliest_33 : decode b_Plan_reckonEarliest 33 = .ok (.invokevirtual 54, 3) := by decide +kernel
theorem d_Plan_reckonEarliest_36 : decode b_Plan_reckonEarliest 36 = .ok (.putfield 33, 3) := by decide +kernel
theorem d_Plan_reckonEarliest_39 : decode b_Plan_reckonEarliest 39 = .ok (.iinc 2 1, 3) := by decide +kernel
theorem d_Plan_reckonEarliest_42 : decode b_Plan_reckonEarliest 42 = .ok (.goto (-30), 3) := by decide +kernel
theorem d_Plan_reckonEarliest_45 : decode b_Plan_reckonEarliest 45 = .ok (.iinc 1 1, 3) := by decide +kernel
theorem d_Plan_reckonEarliest_48 : decode b_Plan_reckonEarliest 48 = .ok (.goto (-46), 3) := by decide +kernel
theorem d_Plan_reckonEarliest_51 : decode b_Plan_reckonEarliest 51 = .ok (.return_, 1) := by decide +kernel
theorem d_Plan_earliestOf_0 : decode b_Plan_earliestOf 0 = .ok (.iconst 0, 1) := by decide +kernel
theorem d_Plan_earliestOf_1 : decode b_Plan_earliestOf 1 = .ok (.istore_n 2, 1) := by decide +kernel
theorem d_Plan_earliestOf_2 : decode b_Plan_earliestOf 2 = .ok (.iconst 0, 1) := by decide +kernel
theorem d_Plan_earliestOf_3 : decode b_Plan_earliestOf 3 = .ok (.istore_n 3, 1) := by decide +kernel
theorem d_Plan_earliestOf_4 : decode b_Plan_earliestOf 4 = .ok (.iload_n 3, 1) := by decide +kernel
theorem d_Plan_earliestOf_5 : decode b_Plan_earliestOf 5 = .ok (.aload_n 0, 1) := by decide +kernel
theorem d_Plan_earliestOf_6 : decode b_Plan_earliestOf 6 = .ok (.getfield 16, 3) := by decide +kernel
theorem d_Plan_earliestOf_9 : decode b_Plan_earliestOf 9 = .ok (.if_icmp .ge 41, 3) := by decide +kernel
theorem d_Plan_earliestOf_12 : decode b_Plan_earliestOf 12 = .ok (.aload_n 1, 1) := by decide +kernel
theorem d_Plan_earliestOf_13 : decode b_Plan_earliestOf 13 = .ok (.iload_n 3, 1) := by decide +kernel
theorem d_Plan_earliestOf_14 : decode b_Plan_earliestOf 14 = .ok (.invokevirtual 58, 3) := by decide +kernel
theorem d_Plan_earliestOf_17 : decode b_Plan_earliestOf 17 = .ok (.ifCond .eq 27, 3) := by decide +kernel
theorem d_Plan_earliestOf_20 : decode b_Plan_earliestOf 20 = .ok (.iload_n 2, 1) := by decide +kernel
theorem d_Plan_earliestOf_21 : decode b_Plan_earliestOf 21 = .ok (.aload_n 0, 1) := by decide +kernel
theorem d_Plan_earliestOf_22 : decode b_Plan_earliestOf 22 = .ok (.getfield 11, 3) := by decide +kernel
theorem d_Plan_earliestOf_25 : decode b_Plan_earliestOf 25 = .ok (.iload_n 3, 1) := by decide +kernel
theorem d_Plan_earliestOf_26 : decode b_Plan_earliestOf 26 = .ok (.aaload, 1) := by decide +kernel
theorem d_Plan_earliestOf_27 : decode b_Plan_earliestOf 27 = .ok (.getfield 33, 3) := by decide +kernel
theorem d_Plan_earliestOf_30 : decode b_Plan_earliestOf 30 = .ok (.aload_n 0, 1) := by decide +kernel
theorem d_Plan_earliestOf_31 : decode b_Plan_earliestOf 31 = .ok (.getfield 11, 3) := by decide +kernel
theorem d_Plan_earliestOf_34 : decode b_Plan_earliestOf 34 = .ok (.iload_n 3, 1) := by decide +kernel
theorem d_Plan_earliestOf_35 : decode b_Plan_earliestOf 35 = .ok (.aaload, 1) := by decide +kernel
theorem d_Plan_earliestOf_36 : decode b_Plan_earliestOf 36 = .ok (.getfield 39, 3) := by decide +kernel
theorem d_Plan_earliestOf_39 : decode b_Plan_earliestOf 39 = .ok (.iadd, 1) := by decide +kernel
theorem d_Plan_earliestOf_40 : decode b_Plan_earliestOf 40 = .ok (.invokestatic 61, 3) := by decide +kernel
theorem d_Plan_earliestOf_43 : decode b_Plan_earliestOf 43 = .ok (.istore_n 2, 1) := by decide +kernel
theorem d_Plan_earliestOf_44 : decode b_Plan_earliestOf 44 = .ok (.iinc 3 1, 3) := by decide +kernel
theorem d_Plan_earliestOf_47 : decode b_Plan_earliestOf 47 = .ok (.goto (-43), 3) := by decide +kernel
theorem d_Plan_earliestOf_50 : decode b_Plan_earliestOf 50 = .ok (.iload_n 2, 1) := by decide +kernel
theorem d_Plan_earliestOf_51 : decode b_Plan_earliestOf 51 = .ok (.ireturn, 1) := by decide +kernel
theorem d_Plan_runningDraw_0 : decode b_Plan_runningDraw 0 = .ok (.iconst 0, 1) := by decide +kernel
theorem d_Plan_runningDraw_1 : decode b_Plan_runningDraw 1 = .ok (.istore_n 1, 1) := by decide +kernel
theorem d_Plan_runningDraw_2 : decode b_Plan_runningDraw 2 = .ok (.iconst 0, 1) := by decide +kernel
theorem d_Plan_runningDraw_3 : decode b_Plan_runningDraw 3 = .ok (.istore_n 2, 1) := by decide +kernel
theorem d_Plan_runningDraw_4 : decode b_Plan_runningDraw 4 = .ok (.iload_n 2, 1) := by decide +kernel
theorem d_Plan_runningDraw_5 : decode b_Plan_runningDraw 5 = .ok (.aload_n 0, 1) := by decide +kernel
theorem d_Plan_runningDraw_6 : decode b_Plan_runningDraw 6 = .ok (.getfield 16, 3) := by decide +kernel
theorem d_Plan_runningDraw_9 : decode b_Plan_runningDraw 9 = .ok (.if_icmp .ge 33, 3) := by decide +kernel
theorem d_Plan_runningDraw_12 : decode b_Plan_runningDraw 12 = .ok (.aload_n 0, 1) := by decide +kernel
theorem d_Plan_runningDraw_13 : decode b_Plan_runningDraw 13 = .ok (.getfield 11, 3) := by decide +kernel
theorem d_Plan_runningDraw_16 : decode b_Plan_runningDraw 16 = .ok (.iload_n 2, 1) := by decide +kernel
theorem d_Plan_runningDraw_17 : decode b_Plan_runningDraw 17 = .ok (.aaload, 1) := by decide +kernel
theorem d_Plan_runningDraw_18 : decode b_Plan_runningDraw 18 = .ok (.invokevirtual 67, 3) := by decide +kernel
theorem d_Plan_runningDraw_21 : decode b_Plan_runningDraw 21 = .ok (.ifCond .eq 15, 3) := by decide +kernel
theorem d_Plan_runningDraw_24 : decode b_Plan_runningDraw 24 = .ok (.iload_n 1, 1) := by decide +kernel
theorem d_Plan_runningDraw_25 : decode b_Plan_runningDraw 25 = .ok (.aload_n 0, 1) := by decide +kernel
theorem d_Plan_runningDraw_26 : decode b_Plan_runningDraw 26 = .ok (.getfield 11, 3) := by decide +kernel
theorem d_Plan_runningDraw_29 : decode b_Plan_runningDraw 29 = .ok (.iload_n 2, 1) := by decide +kernel
theorem d_Plan_runningDraw_30 : decode b_Plan_runningDraw 30 = .ok (.aaload, 1) := by decide +kernel
theorem d_Plan_runningDraw_31 : decode b_Plan_runningDraw 31 = .ok (.getfield 71, 3) := by decide +kernel
theorem d_Plan_runningDraw_34 : decode b_Plan_runningDraw 34 = .ok (.iadd, 1) := by decide +kernel
theorem d_Plan_runningDraw_35 : decode b_Plan_runningDraw 35 = .ok (.istore_n 1, 1) := by decide +kernel
theorem d_Plan_runningDraw_36 : decode b_Plan_runningDraw 36 = .ok (.iinc 2 1, 3) := by decide +kernel
theorem d_Plan_runningDraw_39 : decode b_Plan_runningDraw 39 = .ok (.goto (-35), 3) := by decide +kernel
theorem d_Plan_runningDraw_42 : decode b_Plan_runningDraw 42 = .ok (.iload_n 1, 1) := by decide +kernel
theorem d_Plan_runningDraw_43 : decode b_Plan_runningDraw 43 = .ok (.ireturn, 1) := by decide +kernel
theorem d_Plan_runningData_0 : decode b_Plan_runningData 0 = .ok (.iconst 0, 1) := by decide +kernel
theorem d_Plan_runningData_1 : decode b_Plan_runningData 1 = .ok (.istore_n 1, 1) := by decide +kernel
theorem d_Plan_runningData_2 : decode b_Plan_runningData 2 = .ok (.iconst 0, 1) := by decide +kernel
theorem d_Plan_runningData_3 : decode b_Plan_runningData 3 = .ok (.istore_n 2, 1) := by decide +kernel
theorem d_Plan_runningData_4 : decode b_Plan_runningData 4 = .ok (.iload_n 2, 1) := by decide +kernel
theorem d_Plan_runningData_5 : decode b_Plan_runningData 5 = .ok (.aload_n 0, 1) := by decide +kernel
theorem d_Plan_runningData_6 : decode b_Plan_runningData 6 = .ok (.getfield 16, 3) := by decide +kernel
theorem d_Plan_runningData_9 : decode b_Plan_runningData 9 = .ok (.if_icmp .ge 33, 3) := by decide +kernel
theorem d_Plan_runningData_12 : decode b_Plan_runningData 12 = .ok (.aload_n 0, 1) := by decide +kernel
theorem d_Plan_runningData_13 : decode b_Plan_runningData 13 = .ok (.getfield 11, 3) := by decide +kernel
theorem d_Plan_runningData_16 : decode b_Plan_runningData 16 = .ok (.iload_n 2, 1) := by decide +kernel
theorem d_Plan_runningData_17 : decode b_Plan_runningData 17 = .ok (.aaload, 1) := by decide +kernel
theorem d_Plan_runningData_18 : decode b_Plan_runningData 18 = .ok (.invokevirtual 67, 3) := by decide +kernel
theorem d_Plan_runningData_21 : decode b_Plan_runningData 21 = .ok (.ifCond .eq 15, 3) := by decide +kernel
theorem d_Plan_runningData_24 : decode b_Plan_runningData 24 = .ok (.iload_n 1, 1) := by decide +kernel
theorem d_Plan_runningData_25 : decode b_Plan_runningData 25 = .ok (.aload_n 0, 1) := by decide +kernel
theorem d_Plan_runningData_26 : decode b_Plan_runningData 26 = .ok (.getfield 11, 3) := by decide +kernel
theorem d_Plan_runningData_29 : decode b_Plan_runningData 29 = .ok (.iload_n 2, 1) := by decide +kernel
theorem d_Plan_runningData_30 : decode b_Plan_runningData 30 = .ok (.aaload, 1) := by decide +kernel
theorem d_Plan_runningData_31 : decode b_Plan_runningData 31 = .ok (.getfield 74, 3) := by decide +kernel
theorem d_Plan_runningData_34 : decode b_Plan_runningData 34 = .ok (.iadd, 1) := by decide +kernel
theorem d_Plan_runningData_35 : decode b_Plan_runningData 35 = .ok (.istore_n 1, 1) := by decide +kernel
theorem d_Plan_runningData_36 : decode b_Plan_runningData 36 = .ok (.iinc 2 1, 3) := by decide +kernel
theorem d_Plan_runningData_39 : decode b_Plan_runningData 39 = .ok (.goto (-35), 3) := by decide +kernel
theorem d_Plan_runningData_42 : decode b_Plan_runningData 42 = .ok (.iload_n 1, 1) := by decide +kernel
theorem d_Plan_runningData_43 : decode b_Plan_runningData 43 = .ok (.ireturn, 1) := by decide +kernel
theorem d_Plan_runningHeat_0 : decode b_Plan_runningHeat 0 = .ok (.iconst 0, 1) := by decide +kernel
theorem d_Plan_runningHeat_1 : decode b_Plan_runningHeat 1 = .ok (.istore_n 1, 1) := by decide +kernel
theorem d_Plan_runningHeat_2 : decode b_Plan_runningHeat 2 = .ok (.iconst 0, 1) := by decide +kernel
theorem d_Plan_runningHeat_3 : decode b_Plan_runningHeat 3 = .ok (.istore_n 2, 1) := by decide +kernel
theorem d_Plan_runningHeat_4 : decode b_Plan_runningHeat 4 = .ok (.iload_n 2, 1) := by decide +kernel
theorem d_Plan_runningHeat_5 : decode b_Plan_runningHeat 5 = .ok (.aload_n 0, 1) := by decide +kernel
theorem d_Plan_runningHeat_6 : decode b_Plan_runningHeat 6 = .ok (.getfield 16, 3) := by decide +kernel
theorem d_Plan_runningHeat_9 : decode b_Plan_runningHeat 9 = .ok (.if_icmp .ge 33, 3) := by decide +kernel
theorem d_Plan_runningHeat_12 : decode b_Plan_runningHeat 12 = .ok (.aload_n 0, 1) := by decide +kernel
theorem d_Plan_runningHeat_13 : decode b_Plan_runningHeat 13 = .ok (.getfield 11, 3) := by decide +kernel
theorem d_Plan_runningHeat_16 : decode b_Plan_runningHeat 16 = .ok (.iload_n 2, 1) := by decide +kernel
theorem d_Plan_runningHeat_17 : decode b_Plan_runningHeat 17 = .ok (.aaload, 1) := by decide +kernel
theorem d_Plan_runningHeat_18 : decode b_Plan_runningHeat 18 = .ok (.invokevirtual 67, 3) := by decide +kernel
theorem d_Plan_runningHeat_21 : decode b_Plan_runningHeat 21 = .ok (.ifCond .eq 15, 3) := by decide +kernel
theorem d_Plan_runningHeat_24 : decode b_Plan_runningHeat 24 = .ok (.iload_n 1, 1) := by decide +kernel
theorem d_Plan_runningHeat_25 : decode b_Plan_runningHeat 25 = .ok (.aload_n 0, 1) := by decide +kernel
theorem d_Plan_runningHeat_26 : decode b_Plan_runningHeat 26 = .ok (.getfield 11, 3) := by decide +kernel
theorem d_Plan_runningHeat_29 : decode b_Plan_runningHeat 29 = .ok (.iload_n 2, 1) := by decide +kernel
theorem d_Plan_runningHeat_30 : decode b_Plan_runningHeat 30 = .ok (.aaload, 1) := by decide +kernel
theorem d_Plan_runningHeat_31 : decode b_Plan_runningHeat 31 = .ok (.getfield 77, 3) := by decide +kernel
theorem d_Plan_runningHeat_34 : decode b_Plan_runningHeat 34 = .ok (.iadd, 1) := by decide +kernel
theorem d_Plan_runningHeat_35 : decode b_Plan_runningHeat 35 = .ok (.istore_n 1, 1) := by decide +kernel
theorem d_Plan_runningHeat_36 : decode b_Plan_runningHeat 36 = .ok (.iinc 2 1, 3) := by decide +kernel
theorem d_Plan_runningHeat_39 : decode b_Plan_runningHeat 39 = .ok (.goto (-35), 3) := by decide +kernel
theorem d_Plan_runningHeat_42 : decode b_Plan_runningHeat 42 = .ok (.iload_n 1, 1) := by decide +kernel
theorem d_Plan_runningHeat_43 : decode b_Plan_runningHeat 43 = .ok (.ireturn, 1) := by decide +kernel
theorem d_Plan_growOlder_0 : decode b_Plan_growOlder 0 = .ok (.iconst 0, 1) := by decide +kernel
theorem d_Plan_growOlder_1 : decode b_Plan_growOlder 1 = .ok (.istore_n 1, 1) := by decide +kernel
theorem d_Plan_growOlder_2 : decode b_Plan_growOlder 2 = .ok (.iload_n 1, 1) := by decide +kernel
theorem d_Plan_growOlder_3 : decode b_Plan_growOlder 3 = .ok (.aload_n 0, 1) := by decide +kernel
theorem d_Plan_growOlder_4 : decode b_Plan_growOlder 4 = .ok (.getfield 16, 3) := by decide +kernel
theorem d_Plan_growOlder_7 : decode b_Plan_growOlder 7 = .ok (.if_icmp .ge 30, 3) := by decide +kernel
theorem d_Plan_growOlder_10 : decode b_Plan_growOlder 10 = .ok (.aload_n 0, 1) := by decide +kernel
theorem d_Plan_growOlder_11 : decode b_Plan_growOlder 11 = .ok (.getfield 11, 3) := by decide +kernel
theorem d_Plan_growOlder_14 : decode b_Plan_growOlder 14 = .ok (.iload_n 1, 1) := by decide +kernel
theorem d_Plan_growOlder_15 : decode b_Plan_growOlder 15 = .ok (.aaload, 1) := by decide +kernel
theorem d_Plan_growOlder_16 : decode b_Plan_growOlder 16 = .ok (.invokevirtual 67, 3) := by decide +kernel
theorem d_Plan_growOlder_19 : decode b_Plan_growOlder 19 = .ok (.ifCond .eq 12, 3) := by decide +kernel
theorem d_Plan_growOlder_22 : decode b_Plan_growOlder 22 = .ok (.aload_n 0, 1) := by decide +kernel
theorem d_Plan_growOlder_23 : decode b_Plan_growOlder 23 = .ok (.getfield 11, 3) := by decide +kernel
theorem d_Plan_growOlder_26 : decode b_Plan_growOlder 26 = .ok (.iload_n 1, 1) := by decide +kernel
theorem d_Plan_growOlder_27 : decode b_Plan_growOlder 27 = .ok (.aaload, 1) := by decide +kernel
theorem d_Plan_growOlder_28 : decode b_Plan_growOlder 28 = .ok (.invokevirtual 80, 3) := by decide +kernel
theorem d_Plan_growOlder_31 : decode b_Plan_growOlder 31 = .ok (.iinc 1 1, 3) := by decide +kernel
theorem d_Plan_growOlder_34 : decode b_Plan_growOlder 34 = .ok (.goto (-32), 3) := by decide +kernel
theorem d_Plan_growOlder_37 : decode b_Plan_growOlder 37 = .ok (.return_, 1) := by decide +kernel
theorem d_Plan_skipHopeless_0 : decode b_Plan_skipHopeless 0 = .ok (.iconst 0, 1) := by decide +kernel
theorem d_Plan_skipHopeless_1 : decode b_Plan_skipHopeless 1 = .ok (.istore_n 2, 1) := by decide +kernel
theorem d_Plan_skipHopeless_2 : decode b_Plan_skipHopeless 2 = .ok (.iload_n 2, 1) := by decide +kernel
theorem d_Plan_skipHopeless_3 : decode b_Plan_skipHopeless 3 = .ok (.aload_n 0, 1) := by decide +kernel
theorem d_Plan_skipHopeless_4 : decode b_Plan_skipHopeless 4 = .ok (.getfield 16, 3) := by decide +kernel
theorem d_Plan_skipHopeless_7 : decode b_Plan_skipHopeless 7 = .ok (.if_icmp .ge 61, 3) := by decide +kernel
theorem d_Plan_skipHopeless_10 : decode b_Plan_skipHopeless 10 = .ok (.iconst 0, 1) := by decide +kernel
theorem d_Plan_skipHopeless_11 : decode b_Plan_skipHopeless 11 = .ok (.istore_n 3, 1) := by decide +kernel
theorem d_Plan_skipHopeless_12 : decode b_Plan_skipHopeless 12 = .ok (.iload_n 3, 1) := by decide +kernel
theorem d_Plan_skipHopeless_13 : decode b_Plan_skipHopeless 13 = .ok (.aload_n 0, 1) := by decide +kernel
theorem d_Plan_skipHopeless_14 : decode b_Plan_skipHopeless 14 = .ok (.getfield 16, 3) := by decide +kernel
theorem d_Plan_skipHopeless_17 : decode b_Plan_skipHopeless 17 = .ok (.if_icmp .ge 45, 3) := by decide +kernel
theorem d_Plan_skipHopeless_20 : decode b_Plan_skipHopeless 20 = .ok (.aload_n 0, 1) := by decide +kernel
theorem d_Plan_skipHopeless_21 : decode b_Plan_skipHopeless 21 = .ok (.getfield 11, 3) := by decide +kernel
theorem d_Plan_skipHopeless_24 : decode b_Plan_skipHopeless 24 = .ok (.iload_n 3, 1) := by decide +kernel
theorem d_Plan_skipHopeless_25 : decode b_Plan_skipHopeless 25 = .ok (.aaload, 1) := by decide +kernel
theorem d_Plan_skipHopeless_26 : decode b_Plan_skipHopeless 26 = .ok (.invokevirtual 83, 3) := by decide +kernel
theorem d_Plan_skipHopeless_29 : decode b_Plan_skipHopeless 29 = .ok (.ifCond .eq 27, 3) := by decide +kernel
theorem d_Plan_skipHopeless_32 : decode b_Plan_skipHopeless 32 = .ok (.aload_n 0, 1) := by decide +kernel
theorem d_Plan_skipHopeless_33 : decode b_Plan_skipHopeless 33 = .ok (.aload_n 0, 1) := by decide +kernel
theorem d_Plan_skipHopeless_34 : decode b_Plan_skipHopeless 34 = .ok (.getfield 11, 3) := by decide +kernel
theorem d_Plan_skipHopeless_37 : decode b_Plan_skipHopeless 37 = .ok (.iload_n 3, 1) := by decide +kernel
theorem d_Plan_skipHopeless_38 : decode b_Plan_skipHopeless 38 = .ok (.aaload, 1) := by decide +kernel
theorem d_Plan_skipHopeless_39 : decode b_Plan_skipHopeless 39 = .ok (.iload_n 1, 1) := by decide +kernel
theorem d_Plan_skipHopeless_40 : decode b_Plan_skipHopeless 40 = .ok (.invokevirtual 86, 3) := by decide +kernel
theorem d_Plan_skipHopeless_43 : decode b_Plan_skipHopeless 43 = .ok (.ifCond .eq 13, 3) := by decide +kernel
theorem d_Plan_skipHopeless_46 : decode b_Plan_skipHopeless 46 = .ok (.aload_n 0, 1) := by decide +kernel
theorem d_Plan_skipHopeless_47 : decode b_Plan_skipHopeless 47 = .ok (.getfield 11, 3) := by decide +kernel
theorem d_Plan_skipHopeless_50 : decode b_Plan_skipHopeless 50 = .ok (.iload_n 3, 1) := by decide +kernel
theorem d_Plan_skipHopeless_51 : decode b_Plan_skipHopeless 51 = .ok (.aaload, 1) := by decide +kernel
theorem d_Plan_skipHopeless_52 : decode b_Plan_skipHopeless 52 = .ok (.iconst 4, 1) := by decide +kernel
theorem d_Plan_skipHopeless_53 : decode b_Plan_skipHopeless 53 = .ok (.putfield 90, 3) := by decide +kernel
theorem d_Plan_skipHopeless_56 : decode b_Plan_skipHopeless 56 = .ok (.iinc 3 1, 3) := by decide +kernel
theorem d_Plan_skipHopeless_59 : decode b_Plan_skipHopeless 59 = .ok (.goto (-47), 3) := by decide +kernel
theorem d_Plan_skipHopeless_62 : decode b_Plan_skipHopeless 62 = .ok (.iinc 2 1, 3) := by decide +kernel
theorem d_Plan_skipHopeless_65 : decode b_Plan_skipHopeless 65 = .ok (.goto (-63), 3) := by decide +kernel
theorem d_Plan_skipHopeless_68 : decode b_Plan_skipHopeless 68 = .ok (.return_, 1) := by decide +kernel
theorem d_Plan_isHopeless_0 : decode b_Plan_isHopeless 0 = .ok (.iload_n 2, 1) := by decide +kernel
theorem d_Plan_isHopeless_1 : decode b_Plan_isHopeless 1 = .ok (.aload_n 1, 1) := by decide +kernel
theorem d_Plan_isHopeless_2 : decode b_Plan_isHopeless 2 = .ok (.getfield 36, 3) := by decide +kernel
theorem d_Plan_isHopeless_5 : decode b_Plan_isHopeless 5 = .ok (.if_icmp .le 5, 3) := by decide +kernel
theorem d_Plan_isHopeless_8 : decode b_Plan_isHopeless 8 = .ok (.iconst 1, 1) := by decide +kernel
theorem d_Plan_isHopeless_9 : decode b_Plan_isHopeless 9 = .ok (.ireturn, 1) := by decide +kernel
theorem d_Plan_isHopeless_10 : decode b_Plan_isHopeless 10 = .ok (.iconst 0, 1) := by decide +kernel
theorem d_Plan_isHopeless_11 : decode b_Plan_isHopeless 11 = .ok (.istore_n 3, 1) := by decide +kernel
