theorem d_Envelope_init_0 : decode b_Envelope_init 0 = .ok (.aload_n 0, 1) := by decide +kernel
theorem d_Envelope_init_1 : decode b_Envelope_init 1 = .ok (.invokespecial 1, 3) := by decide +kernel
theorem d_Envelope_init_4 : decode b_Envelope_init 4 = .ok (.aload_n 0, 1) := by decide +kernel
theorem d_Envelope_init_5 : decode b_Envelope_init 5 = .ok (.bipush 31, 2) := by decide +kernel
theorem d_Envelope_init_7 : decode b_Envelope_init 7 = .ok (.newarray .int, 2) := by decide +kernel
theorem d_Envelope_init_9 : decode b_Envelope_init 9 = .ok (.putfield 9, 3) := by decide +kernel
theorem d_Envelope_init_12 : decode b_Envelope_init 12 = .ok (.return_, 1) := by decide +kernel
theorem d_Envelope_gather_0 : decode b_Envelope_gather 0 = .ok (.aload_n 0, 1) := by decide +kernel
theorem d_Envelope_gather_1 : decode b_Envelope_gather 1 = .ok (.invokevirtual 15, 3) := by decide +kernel
theorem d_Envelope_gather_4 : decode b_Envelope_gather 4 = .ok (.iconst 0, 1) := by decide +kernel
theorem d_Envelope_gather_5 : decode b_Envelope_gather 5 = .ok (.istore_n 3, 1) := by decide +kernel
theorem d_Envelope_gather_6 : decode b_Envelope_gather 6 = .ok (.iload_n 3, 1) := by decide +kernel
theorem d_Envelope_gather_7 : decode b_Envelope_gather 7 = .ok (.aload_n 1, 1) := by decide +kernel
theorem d_Envelope_gather_8 : decode b_Envelope_gather 8 = .ok (.getfield 18, 3) := by decide +kernel
theorem d_Envelope_gather_11 : decode b_Envelope_gather 11 = .ok (.if_icmp .ge 61, 3) := by decide +kernel
theorem d_Envelope_gather_14 : decode b_Envelope_gather 14 = .ok (.aload_n 1, 1) := by decide +kernel
theorem d_Envelope_gather_15 : decode b_Envelope_gather 15 = .ok (.getfield 24, 3) := by decide +kernel
theorem d_Envelope_gather_18 : decode b_Envelope_gather 18 = .ok (.iload_n 3, 1) := by decide +kernel
theorem d_Envelope_gather_19 : decode b_Envelope_gather 19 = .ok (.aaload, 1) := by decide +kernel
theorem d_Envelope_gather_20 : decode b_Envelope_gather 20 = .ok (.astore 4, 2) := by decide +kernel
theorem d_Envelope_gather_22 : decode b_Envelope_gather 22 = .ok (.aload 4, 2) := by decide +kernel
theorem d_Envelope_gather_24 : decode b_Envelope_gather 24 = .ok (.invokevirtual 28, 3) := by decide +kernel
theorem d_Envelope_gather_27 : decode b_Envelope_gather 27 = .ok (.ifCond .eq 23, 3) := by decide +kernel
theorem d_Envelope_gather_30 : decode b_Envelope_gather 30 = .ok (.aload_n 0, 1) := by decide +kernel
theorem d_Envelope_gather_31 : decode b_Envelope_gather 31 = .ok (.aload 4, 2) := by decide +kernel
theorem d_Envelope_gather_33 : decode b_Envelope_gather 33 = .ok (.aload 4, 2) := by decide +kernel
theorem d_Envelope_gather_35 : decode b_Envelope_gather 35 = .ok (.getfield 32, 3) := by decide +kernel
theorem d_Envelope_gather_38 : decode b_Envelope_gather 38 = .ok (.aload 4, 2) := by decide +kernel
theorem d_Envelope_gather_40 : decode b_Envelope_gather 40 = .ok (.getfield 35, 3) := by decide +kernel
theorem d_Envelope_gather_43 : decode b_Envelope_gather 43 = .ok (.isub, 1) := by decide +kernel
theorem d_Envelope_gather_44 : decode b_Envelope_gather 44 = .ok (.invokevirtual 38, 3) := by decide +kernel
theorem d_Envelope_gather_47 : decode b_Envelope_gather 47 = .ok (.goto 19, 3) := by decide +kernel
theorem d_Envelope_gather_50 : decode b_Envelope_gather 50 = .ok (.iload_n 3, 1) := by decide +kernel
theorem d_Envelope_gather_51 : decode b_Envelope_gather 51 = .ok (.iload_n 2, 1) := by decide +kernel
theorem d_Envelope_gather_52 : decode b_Envelope_gather 52 = .ok (.if_icmp .ne 14, 3) := by decide +kernel
theorem d_Envelope_gather_55 : decode b_Envelope_gather 55 = .ok (.aload_n 0, 1) := by decide +kernel
theorem d_Envelope_gather_56 : decode b_Envelope_gather 56 = .ok (.aload 4, 2) := by decide +kernel
theorem d_Envelope_gather_58 : decode b_Envelope_gather 58 = .ok (.aload 4, 2) := by decide +kernel
theorem d_Envelope_gather_60 : decode b_Envelope_gather 60 = .ok (.getfield 32, 3) := by decide +kernel
theorem d_Envelope_gather_63 : decode b_Envelope_gather 63 = .ok (.invokevirtual 38, 3) := by decide +kernel
theorem d_Envelope_gather_66 : decode b_Envelope_gather 66 = .ok (.iinc 3 1, 3) := by decide +kernel
theorem d_Envelope_gather_69 : decode b_Envelope_gather 69 = .ok (.goto (-63), 3) := by decide +kernel
theorem d_Envelope_gather_72 : decode b_Envelope_gather 72 = .ok (.return_, 1) := by decide +kernel
theorem d_Envelope_clear_0 : decode b_Envelope_clear 0 = .ok (.aload_n 0, 1) := by decide +kernel
theorem d_Envelope_clear_1 : decode b_Envelope_clear 1 = .ok (.iconst 0, 1) := by decide +kernel
theorem d_Envelope_clear_2 : decode b_Envelope_clear 2 = .ok (.putfield 42, 3) := by decide +kernel
theorem d_Envelope_clear_5 : decode b_Envelope_clear 5 = .ok (.aload_n 0, 1) := by decide +kernel
theorem d_Envelope_clear_6 : decode b_Envelope_clear 6 = .ok (.iconst 0, 1) := by decide +kernel
theorem d_Envelope_clear_7 : decode b_Envelope_clear 7 = .ok (.putfield 45, 3) := by decide +kernel
theorem d_Envelope_clear_10 : decode b_Envelope_clear 10 = .ok (.aload_n 0, 1) := by decide +kernel
theorem d_Envelope_clear_11 : decode b_Envelope_clear 11 = .ok (.iconst 0, 1) := by decide +kernel
theorem d_Envelope_clear_12 : decode b_Envelope_clear 12 = .ok (.putfield 48, 3) := by decide +kernel
theorem d_Envelope_clear_15 : decode b_Envelope_clear 15 = .ok (.iconst 0, 1) := by decide +kernel
theorem d_Envelope_clear_16 : decode b_Envelope_clear 16 = .ok (.istore_n 1, 1) := by decide +kernel
theorem d_Envelope_clear_17 : decode b_Envelope_clear 17 = .ok (.iload_n 1, 1) := by decide +kernel
theorem d_Envelope_clear_18 : decode b_Envelope_clear 18 = .ok (.aload_n 0, 1) := by decide +kernel
theorem d_Envelope_clear_19 : decode b_Envelope_clear 19 = .ok (.getfield 9, 3) := by decide +kernel
theorem d_Envelope_clear_22 : decode b_Envelope_clear 22 = .ok (.arraylength, 1) := by decide +kernel
theorem d_Envelope_clear_23 : decode b_Envelope_clear 23 = .ok (.if_icmp .ge 16, 3) := by decide +kernel
theorem d_Envelope_clear_26 : decode b_Envelope_clear 26 = .ok (.aload_n 0, 1) := by decide +kernel
theorem d_Envelope_clear_27 : decode b_Envelope_clear 27 = .ok (.getfield 9, 3) := by decide +kernel
theorem d_Envelope_clear_30 : decode b_Envelope_clear 30 = .ok (.iload_n 1, 1) := by decide +kernel
theorem d_Envelope_clear_31 : decode b_Envelope_clear 31 = .ok (.iconst 0, 1) := by decide +kernel
theorem d_Envelope_clear_32 : decode b_Envelope_clear 32 = .ok (.iastore, 1) := by decide +kernel
theorem d_Envelope_clear_33 : decode b_Envelope_clear 33 = .ok (.iinc 1 1, 3) := by decide +kernel
theorem d_Envelope_clear_36 : decode b_Envelope_clear 36 = .ok (.goto (-19), 3) := by decide +kernel
theorem d_Envelope_clear_39 : decode b_Envelope_clear 39 = .ok (.return_, 1) := by decide +kernel
theorem d_Envelope_add_0 : decode b_Envelope_add 0 = .ok (.aload_n 0, 1) := by decide +kernel
theorem d_Envelope_add_1 : decode b_Envelope_add 1 = .ok (.dup, 1) := by decide +kernel
theorem d_Envelope_add_2 : decode b_Envelope_add 2 = .ok (.getfield 45, 3) := by decide +kernel
theorem d_Envelope_add_5 : decode b_Envelope_add 5 = .ok (.aload_n 1, 1) := by decide +kernel
theorem d_Envelope_add_6 : decode b_Envelope_add 6 = .ok (.getfield 51, 3) := by decide +kernel
theorem d_Envelope_add_9 : decode b_Envelope_add 9 = .ok (.iadd, 1) := by decide +kernel
theorem d_Envelope_add_10 : decode b_Envelope_add 10 = .ok (.putfield 45, 3) := by decide +kernel
theorem d_Envelope_add_13 : decode b_Envelope_add 13 = .ok (.aload_n 0, 1) := by decide +kernel
theorem d_Envelope_add_14 : decode b_Envelope_add 14 = .ok (.dup, 1) := by decide +kernel
theorem d_Envelope_add_15 : decode b_Envelope_add 15 = .ok (.getfield 48, 3) := by decide +kernel
theorem d_Envelope_add_18 : decode b_Envelope_add 18 = .ok (.aload_n 1, 1) := by decide +kernel
theorem d_Envelope_add_19 : decode b_Envelope_add 19 = .ok (.getfield 52, 3) := by decide +kernel
theorem d_Envelope_add_22 : decode b_Envelope_add 22 = .ok (.iload_n 2, 1) := by decide +kernel
theorem d_Envelope_add_23 : decode b_Envelope_add 23 = .ok (.imul, 1) := by decide +kernel
theorem d_Envelope_add_24 : decode b_Envelope_add 24 = .ok (.iadd, 1) := by decide +kernel
theorem d_Envelope_add_25 : decode b_Envelope_add 25 = .ok (.putfield 48, 3) := by decide +kernel
theorem d_Envelope_add_28 : decode b_Envelope_add 28 = .ok (.iconst 1, 1) := by decide +kernel
theorem d_Envelope_add_29 : decode b_Envelope_add 29 = .ok (.istore_n 3, 1) := by decide +kernel
theorem d_Envelope_add_30 : decode b_Envelope_add 30 = .ok (.iload_n 3, 1) := by decide +kernel
theorem d_Envelope_add_31 : decode b_Envelope_add 31 = .ok (.iload_n 2, 1) := by decide +kernel
theorem d_Envelope_add_32 : decode b_Envelope_add 32 = .ok (.if_icmp .gt 43, 3) := by decide +kernel
theorem d_Envelope_add_35 : decode b_Envelope_add 35 = .ok (.iload_n 3, 1) := by decide +kernel
theorem d_Envelope_add_36 : decode b_Envelope_add 36 = .ok (.aload_n 0, 1) := by decide +kernel
theorem d_Envelope_add_37 : decode b_Envelope_add 37 = .ok (.getfield 9, 3) := by decide +kernel
theorem d_Envelope_add_40 : decode b_Envelope_add 40 = .ok (.arraylength, 1) := by decide +kernel
theorem d_Envelope_add_41 : decode b_Envelope_add 41 = .ok (.if_icmp .ge 34, 3) := by decide +kernel
theorem d_Envelope_add_44 : decode b_Envelope_add 44 = .ok (.aload_n 0, 1) := by decide +kernel
theorem d_Envelope_add_45 : decode b_Envelope_add 45 = .ok (.getfield 9, 3) := by decide +kernel
theorem d_Envelope_add_48 : decode b_Envelope_add 48 = .ok (.iload_n 3, 1) := by decide +kernel
theorem d_Envelope_add_49 : decode b_Envelope_add 49 = .ok (.dup2, 1) := by decide +kernel
theorem d_Envelope_add_50 : decode b_Envelope_add 50 = .ok (.iaload, 1) := by decide +kernel
theorem d_Envelope_add_51 : decode b_Envelope_add 51 = .ok (.aload_n 1, 1) := by decide +kernel
theorem d_Envelope_add_52 : decode b_Envelope_add 52 = .ok (.getfield 53, 3) := by decide +kernel
theorem d_Envelope_add_55 : decode b_Envelope_add 55 = .ok (.iadd, 1) := by decide +kernel
theorem d_Envelope_add_56 : decode b_Envelope_add 56 = .ok (.iastore, 1) := by decide +kernel
theorem d_Envelope_add_57 : decode b_Envelope_add 57 = .ok (.aload_n 0, 1) := by decide +kernel
theorem d_Envelope_add_58 : decode b_Envelope_add 58 = .ok (.aload_n 0, 1) := by decide +kernel
theorem d_Envelope_add_59 : decode b_Envelope_add 59 = .ok (.getfield 42, 3) := by decide +kernel
theorem d_Envelope_add_62 : decode b_Envelope_add 62 = .ok (.iload_n 3, 1) := by decide +kernel
theorem d_Envelope_add_63 : decode b_Envelope_add 63 = .ok (.invokestatic 56, 3) := by decide +kernel
theorem d_Envelope_add_66 : decode b_Envelope_add 66 = .ok (.putfield 42, 3) := by decide +kernel
theorem d_Envelope_add_69 : decode b_Envelope_add 69 = .ok (.iinc 3 1, 3) := by decide +kernel
theorem d_Envelope_add_72 : decode b_Envelope_add 72 = .ok (.goto (-42), 3) := by decide +kernel
theorem d_Envelope_add_75 : decode b_Envelope_add 75 = .ok (.return_, 1) := by decide +kernel
theorem d_Envelope_holds_0 : decode b_Envelope_holds 0 = .ok (.aload_n 0, 1) := by decide +kernel
theorem d_Envelope_holds_1 : decode b_Envelope_holds 1 = .ok (.getfield 45, 3) := by decide +kernel
theorem d_Envelope_holds_4 : decode b_Envelope_holds 4 = .ok (.bipush 100, 2) := by decide +kernel
theorem d_Envelope_holds_6 : decode b_Envelope_holds 6 = .ok (.if_icmp .gt 18, 3) := by decide +kernel
theorem d_Envelope_holds_9 : decode b_Envelope_holds 9 = .ok (.aload_n 1, 1) := by decide +kernel
theorem d_Envelope_holds_10 : decode b_Envelope_holds 10 = .ok (.getfield 62, 3) := by decide +kernel
theorem d_Envelope_holds_13 : decode b_Envelope_holds 13 = .ok (.aload_n 0, 1) := by decide +kernel
theorem d_Envelope_holds_14 : decode b_Envelope_holds 14 = .ok (.getfield 48, 3) := by decide +kernel
theorem d_Envelope_holds_17 : decode b_Envelope_holds 17 = .ok (.iadd, 1) := by decide +kernel
theorem d_Envelope_holds_18 : decode b_Envelope_holds 18 = .ok (.sipush 500, 3) := by decide +kernel
theorem d_Envelope_holds_21 : decode b_Envelope_holds 21 = .ok (.if_icmp .le 5, 3) := by decide +kernel
theorem d_Envelope_holds_24 : decode b_Envelope_holds 24 = .ok (.iconst 0, 1) := by decide +kernel
theorem d_Envelope_holds_25 : decode b_Envelope_holds 25 = .ok (.ireturn, 1) := by decide +kernel
theorem d_Envelope_holds_26 : decode b_Envelope_holds 26 = .ok (.aload_n 1, 1) := by decide +kernel
theorem d_Envelope_holds_27 : decode b_Envelope_holds 27 = .ok (.getfield 67, 3) := by decide +kernel
theorem d_Envelope_holds_30 : decode b_Envelope_holds 30 = .ok (.istore_n 3, 1) := by decide +kernel
theorem d_Envelope_holds_31 : decode b_Envelope_holds 31 = .ok (.aload_n 1, 1) := by decide +kernel
theorem d_Envelope_holds_32 : decode b_Envelope_holds 32 = .ok (.iload_n 3, 1) := by decide +kernel
theorem d_Envelope_holds_33 : decode b_Envelope_holds 33 = .ok (.iload_n 2, 1) := by decide +kernel
theorem d_Envelope_holds_34 : decode b_Envelope_holds 34 = .ok (.invokevirtual 68, 3) := by decide +kernel
theorem d_Envelope_holds_37 : decode b_Envelope_holds 37 = .ok (.istore 4, 2) := by decide +kernel
theorem d_Envelope_holds_39 : decode b_Envelope_holds 39 = .ok (.iconst 1, 1) := by decide +kernel
theorem d_Envelope_holds_40 : decode b_Envelope_holds 40 = .ok (.istore 5, 2) := by decide +kernel
theorem d_Envelope_holds_42 : decode b_Envelope_holds 42 = .ok (.iload 5, 2) := by decide +kernel
theorem d_Envelope_holds_44 : decode b_Envelope_holds 44 = .ok (.aload_n 0, 1) := by decide +kernel
theorem d_Envelope_holds_45 : decode b_Envelope_holds 45 = .ok (.getfield 42, 3) := by decide +kernel
theorem d_Envelope_holds_48 : decode b_Envelope_holds 48 = .ok (.if_icmp .gt 45, 3) := by decide +kernel
theorem d_Envelope_holds_51 : decode b_Envelope_holds 51 = .ok (.iload 4, 2) := by decide +kernel
theorem d_Envelope_holds_53 : decode b_Envelope_holds 53 = .ok (.ifCond .eq 40, 3) := by decide +kernel
theorem d_Envelope_holds_56 : decode b_Envelope_holds 56 = .ok (.iload_n 3, 1) := by decide +kernel
theorem d_Envelope_holds_57 : decode b_Envelope_holds 57 = .ok (.aload_n 1, 1) := by decide +kernel
theorem d_Envelope_holds_58 : decode b_Envelope_holds 58 = .ok (.iload_n 2, 1) := by decide +kernel
theorem d_Envelope_holds_59 : decode b_Envelope_holds 59 = .ok (.iload 5, 2) := by decide +kernel
theorem d_Envelope_holds_61 : decode b_Envelope_holds 61 = .ok (.iadd, 1) := by decide +kernel
theorem d_Envelope_holds_62 : decode b_Envelope_holds 62 = .ok (.invokevirtual 72, 3) := by decide +kernel
theorem d_Envelope_holds_65 : decode b_Envelope_holds 65 = .ok (.aload_n 0, 1) := by decide +kernel
theorem d_Envelope_holds_66 : decode b_Envelope_holds 66 = .ok (.getfield 9, 3) := by decide +kernel
theorem d_Envelope_holds_69 : decode b_Envelope_holds 69 = .ok (.iload 5, 2) := by decide +kernel
theorem d_Envelope_holds_71 : decode b_Envelope_holds 71 = .ok (.iaload, 1) := by decide +kernel
theorem d_Envelope_holds_72 : decode b_Envelope_holds 72 = .ok (.invokestatic 76, 3) := by decide +kernel
theorem d_Envelope_holds_75 : decode b_Envelope_holds 75 = .ok (.istore_n 3, 1) := by decide +kernel
theorem d_Envelope_holds_76 : decode b_Envelope_holds 76 = .ok (.aload_n 1, 1) := by decide +kernel
theorem d_Envelope_holds_77 : decode b_Envelope_holds 77 = .ok (.iload_n 3, 1) := by decide +kernel
theorem d_Envelope_holds_78 : decode b_Envelope_holds 78 = .ok (.iload_n 2, 1) := by decide +kernel
theorem d_Envelope_holds_79 : decode b_Envelope_holds 79 = .ok (.iload 5, 2) := by decide +kernel
theorem d_Envelope_holds_81 : decode b_Envelope_holds 81 = .ok (.iadd, 1) := by decide +kernel
theorem d_Envelope_holds_82 : decode b_Envelope_holds 82 = .ok (.invokevirtual 68, 3) := by decide +kernel
theorem d_Envelope_holds_85 : decode b_Envelope_holds 85 = .ok (.istore 4, 2) := by decide +kernel
theorem d_Envelope_holds_87 : decode b_Envelope_holds 87 = .ok (.iinc 5 1, 3) := by decide +kernel
theorem d_Envelope_holds_90 : decode b_Envelope_holds 90 = .ok (.goto (-48), 3) := by decide +kernel
theorem d_Envelope_holds_93 : decode b_Envelope_holds 93 = .ok (.iload 4, 2) := by decide +kernel
theorem d_Envelope_holds_95 : decode b_Envelope_holds 95 = .ok (.ireturn, 1) := by decide +kernel
theorem d_Envelope_deepest_0 : decode b_Envelope_deepest 0 = .ok (.aload_n 1, 1) := by decide +kernel
theorem d_Envelope_deepest_1 : decode b_Envelope_deepest 1 = .ok (.getfield 67, 3) := by decide +kernel
theorem d_Envelope_deepest_4 : decode b_Envelope_deepest 4 = .ok (.istore_n 3, 1) := by decide +kernel
theorem d_Envelope_deepest_5 : decode b_Envelope_deepest 5 = .ok (.iload_n 3, 1) := by decide +kernel
theorem d_Envelope_deepest_6 : decode b_Envelope_deepest 6 = .ok (.istore 4, 2) := by decide +kernel
theorem d_Envelope_deepest_8 : decode b_Envelope_deepest 8 = .ok (.iconst 1, 1) := by decide +kernel
theorem d_Envelope_deepest_9 : decode b_Envelope_deepest 9 = .ok (.istore 5, 2) := by decide +kernel
theorem d_Envelope_deepest_11 : decode b_Envelope_deepest 11 = .ok (.iload 5, 2) := by decide +kernel
theorem d_Envelope_deepest_13 : decode b_Envelope_deepest 13 = .ok (.aload_n 0, 1) := by decide +kernel
theorem d_Envelope_deepest_14 : decode b_Envelope_deepest 14 = .ok (.getfield 42, 3) := by decide +kernel
theorem d_Envelope_deepest_17 : decode b_Envelope_deepest 17 = .ok (.if_icmp .gt 37, 3) := by decide +kernel
theorem d_Envelope_deepest_20 : decode b_Envelope_deepest 20 = .ok (.iload_n 3, 1) := by decide +kernel
theorem d_Envelope_deepest_21 : decode b_Envelope_deepest 21 = .ok (.aload_n 1, 1) := by decide +kernel
theorem d_Envelope_deepest_22 : decode b_Envelope_deepest 22 = .ok (.iload_n 2, 1) := by decide +kernel
theorem d_Envelope_deepest_23 : decode b_Envelope_deepest 23 = .ok (.iload 5, 2) := by decide +kernel
theorem d_Envelope_deepest_25 : decode b_Envelope_deepest 25 = .ok (.iadd, 1) := by decide +kernel
theorem d_Envelope_deepest_26 : decode b_Envelope_deepest 26 = .ok (.invokevirtual 72, 3) := by decide +kernel
theorem d_Envelope_deepest_29 : decode b_Envelope_deepest 29 = .ok (.aload_n 0, 1) := by decide +kernel
theorem d_Envelope_deepest_30 : decode b_Envelope_deepest 30 = .ok (.getfield 9, 3) := by decide +kernel
theorem d_Envelope_deepest_33 : decode b_Envelope_deepest 33 = .ok (.iload 5, 2) := by decide +kernel
theorem d_Envelope_deepest_35 : decode b_Envelope_deepest 35 = .ok (.iaload, 1) := by decide +kernel
theorem d_Envelope_deepest_36 : decode b_Envelope_deepest 36 = .ok (.invokestatic 76, 3) := by decide +kernel
theorem d_Envelope_deepest_39 : decode b_Envelope_deepest 39 = .ok (.istore_n 3, 1) := by decide +kernel
theorem d_Envelope_deepest_40 : decode b_Envelope_deepest 40 = .ok (.iload 4, 2) := by decide +kernel
theorem d_Envelope_deepest_42 : decode b_Envelope_deepest 42 = .ok (.iload_n 3, 1) := by decide +kernel
theorem d_Envelope_deepest_43 : decode b_Envelope_deepest 43 = .ok (.invokestatic 80, 3) := by decide +kernel
theorem d_Envelope_deepest_46 : decode b_Envelope_deepest 46 = .ok (.istore 4, 2) := by decide +kernel
theorem d_Envelope_deepest_48 : decode b_Envelope_deepest 48 = .ok (.iinc 5 1, 3) := by decide +kernel
theorem d_Envelope_deepest_51 : decode b_Envelope_deepest 51 = .ok (.goto (-40), 3) := by decide +kernel
theorem d_Envelope_deepest_54 : decode b_Envelope_deepest 54 = .ok (.iconst 0, 1) := by decide +kernel
theorem d_Envelope_deepest_55 : decode b_Envelope_deepest 55 = .ok (.iload 4, 2) := by decide +kernel
theorem d_Envelope_deepest_57 : decode b_Envelope_deepest 57 = .ok (.invokestatic 56, 3) := by decide +kernel
theorem d_Envelope_deepest_60 : decode b_Envelope_deepest 60 = .ok (.ireturn, 1) := by decide +kernel
