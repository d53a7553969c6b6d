theorem d_Rm_init_0 : decode b_Rm_init 0 = .ok (.aload_n 0, 1) := by decide +kernel
theorem d_Rm_init_1 : decode b_Rm_init 1 = .ok (.invokespecial 1, 3) := by decide +kernel
theorem d_Rm_init_4 : decode b_Rm_init 4 = .ok (.aload_n 0, 1) := by decide +kernel
theorem d_Rm_init_5 : decode b_Rm_init 5 = .ok (.new 7, 3) := by decide +kernel
theorem d_Rm_init_8 : decode b_Rm_init 8 = .ok (.dup, 1) := by decide +kernel
theorem d_Rm_init_9 : decode b_Rm_init 9 = .ok (.invokespecial 9, 3) := by decide +kernel
theorem d_Rm_init_12 : decode b_Rm_init 12 = .ok (.putfield 10, 3) := by decide +kernel
theorem d_Rm_init_15 : decode b_Rm_init 15 = .ok (.aload_n 0, 1) := by decide +kernel
theorem d_Rm_init_16 : decode b_Rm_init 16 = .ok (.new 16, 3) := by decide +kernel
theorem d_Rm_init_19 : decode b_Rm_init 19 = .ok (.dup, 1) := by decide +kernel
theorem d_Rm_init_20 : decode b_Rm_init 20 = .ok (.aload_n 0, 1) := by decide +kernel
theorem d_Rm_init_21 : decode b_Rm_init 21 = .ok (.getfield 10, 3) := by decide +kernel
theorem d_Rm_init_24 : decode b_Rm_init 24 = .ok (.invokespecial 18, 3) := by decide +kernel
theorem d_Rm_init_27 : decode b_Rm_init 27 = .ok (.putfield 21, 3) := by decide +kernel
theorem d_Rm_init_30 : decode b_Rm_init 30 = .ok (.aload_n 0, 1) := by decide +kernel
theorem d_Rm_init_31 : decode b_Rm_init 31 = .ok (.new 25, 3) := by decide +kernel
theorem d_Rm_init_34 : decode b_Rm_init 34 = .ok (.dup, 1) := by decide +kernel
theorem d_Rm_init_35 : decode b_Rm_init 35 = .ok (.invokespecial 27, 3) := by decide +kernel
theorem d_Rm_init_38 : decode b_Rm_init 38 = .ok (.putfield 28, 3) := by decide +kernel
theorem d_Rm_init_41 : decode b_Rm_init 41 = .ok (.aload_n 0, 1) := by decide +kernel
theorem d_Rm_init_42 : decode b_Rm_init 42 = .ok (.new 32, 3) := by decide +kernel
theorem d_Rm_init_45 : decode b_Rm_init 45 = .ok (.dup, 1) := by decide +kernel
theorem d_Rm_init_46 : decode b_Rm_init 46 = .ok (.invokespecial 34, 3) := by decide +kernel
theorem d_Rm_init_49 : decode b_Rm_init 49 = .ok (.putfield 35, 3) := by decide +kernel
theorem d_Rm_init_52 : decode b_Rm_init 52 = .ok (.aload_n 0, 1) := by decide +kernel
theorem d_Rm_init_53 : decode b_Rm_init 53 = .ok (.new 39, 3) := by decide +kernel
theorem d_Rm_init_56 : decode b_Rm_init 56 = .ok (.dup, 1) := by decide +kernel
theorem d_Rm_init_57 : decode b_Rm_init 57 = .ok (.invokespecial 41, 3) := by decide +kernel
theorem d_Rm_init_60 : decode b_Rm_init 60 = .ok (.putfield 42, 3) := by decide +kernel
theorem d_Rm_init_63 : decode b_Rm_init 63 = .ok (.aload_n 0, 1) := by decide +kernel
theorem d_Rm_init_64 : decode b_Rm_init 64 = .ok (.new 39, 3) := by decide +kernel
theorem d_Rm_init_67 : decode b_Rm_init 67 = .ok (.dup, 1) := by decide +kernel
theorem d_Rm_init_68 : decode b_Rm_init 68 = .ok (.invokespecial 41, 3) := by decide +kernel
theorem d_Rm_init_71 : decode b_Rm_init 71 = .ok (.putfield 46, 3) := by decide +kernel
theorem d_Rm_init_74 : decode b_Rm_init 74 = .ok (.aload_n 0, 1) := by decide +kernel
theorem d_Rm_init_75 : decode b_Rm_init 75 = .ok (.iconst 0, 1) := by decide +kernel
theorem d_Rm_init_76 : decode b_Rm_init 76 = .ok (.putfield 49, 3) := by decide +kernel
theorem d_Rm_init_79 : decode b_Rm_init 79 = .ok (.return_, 1) := by decide +kernel
theorem d_Rm_type_0 : decode b_Rm_type 0 = .ok (.iconst 0, 1) := by decide +kernel
theorem d_Rm_type_1 : decode b_Rm_type 1 = .ok (.istore_n 2, 1) := by decide +kernel
theorem d_Rm_type_2 : decode b_Rm_type 2 = .ok (.iload_n 2, 1) := by decide +kernel
theorem d_Rm_type_3 : decode b_Rm_type 3 = .ok (.iconst 4, 1) := by decide +kernel
theorem d_Rm_type_4 : decode b_Rm_type 4 = .ok (.if_icmp .ge 36, 3) := by decide +kernel
theorem d_Rm_type_7 : decode b_Rm_type 7 = .ok (.iload_n 1, 1) := by decide +kernel
theorem d_Rm_type_8 : decode b_Rm_type 8 = .ok (.iload_n 2, 1) := by decide +kernel
theorem d_Rm_type_9 : decode b_Rm_type 9 = .ok (.invokestatic 53, 3) := by decide +kernel
theorem d_Rm_type_12 : decode b_Rm_type 12 = .ok (.ifCond .eq 28, 3) := by decide +kernel
theorem d_Rm_type_15 : decode b_Rm_type 15 = .ok (.iload_n 1, 1) := by decide +kernel
theorem d_Rm_type_16 : decode b_Rm_type 16 = .ok (.iload_n 2, 1) := by decide +kernel
theorem d_Rm_type_17 : decode b_Rm_type 17 = .ok (.invokestatic 53, 3) := by decide +kernel
theorem d_Rm_type_20 : decode b_Rm_type 20 = .ok (.invokestatic 57, 3) := by decide +kernel
theorem d_Rm_type_23 : decode b_Rm_type 23 = .ok (.ifCond .ne 11, 3) := by decide +kernel
theorem d_Rm_type_26 : decode b_Rm_type 26 = .ok (.new 61, 3) := by decide +kernel
theorem d_Rm_type_29 : decode b_Rm_type 29 = .ok (.dup, 1) := by decide +kernel
theorem d_Rm_type_30 : decode b_Rm_type 30 = .ok (.invokespecial 63, 3) := by decide +kernel
theorem d_Rm_type_33 : decode b_Rm_type 33 = .ok (.athrow, 1) := by decide +kernel
theorem d_Rm_type_34 : decode b_Rm_type 34 = .ok (.iinc 2 1, 3) := by decide +kernel
theorem d_Rm_type_37 : decode b_Rm_type 37 = .ok (.goto (-35), 3) := by decide +kernel
theorem d_Rm_type_40 : decode b_Rm_type 40 = .ok (.aload_n 0, 1) := by decide +kernel
theorem d_Rm_type_41 : decode b_Rm_type 41 = .ok (.getfield 10, 3) := by decide +kernel
theorem d_Rm_type_44 : decode b_Rm_type 44 = .ok (.iload_n 2, 1) := by decide +kernel
theorem d_Rm_type_45 : decode b_Rm_type 45 = .ok (.invokevirtual 64, 3) := by decide +kernel
theorem d_Rm_type_48 : decode b_Rm_type 48 = .ok (.ifCond .ne 5, 3) := by decide +kernel
theorem d_Rm_type_51 : decode b_Rm_type 51 = .ok (.iconst 0, 1) := by decide +kernel
theorem d_Rm_type_52 : decode b_Rm_type 52 = .ok (.ireturn, 1) := by decide +kernel
theorem d_Rm_type_53 : decode b_Rm_type 53 = .ok (.iconst 0, 1) := by decide +kernel
theorem d_Rm_type_54 : decode b_Rm_type 54 = .ok (.istore_n 3, 1) := by decide +kernel
theorem d_Rm_type_55 : decode b_Rm_type 55 = .ok (.iload_n 3, 1) := by decide +kernel
theorem d_Rm_type_56 : decode b_Rm_type 56 = .ok (.iload_n 2, 1) := by decide +kernel
theorem d_Rm_type_57 : decode b_Rm_type 57 = .ok (.if_icmp .ge 22, 3) := by decide +kernel
theorem d_Rm_type_60 : decode b_Rm_type 60 = .ok (.aload_n 0, 1) := by decide +kernel
theorem d_Rm_type_61 : decode b_Rm_type 61 = .ok (.getfield 10, 3) := by decide +kernel
theorem d_Rm_type_64 : decode b_Rm_type 64 = .ok (.iload_n 1, 1) := by decide +kernel
theorem d_Rm_type_65 : decode b_Rm_type 65 = .ok (.iload_n 3, 1) := by decide +kernel
theorem d_Rm_type_66 : decode b_Rm_type 66 = .ok (.invokestatic 53, 3) := by decide +kernel
theorem d_Rm_type_69 : decode b_Rm_type 69 = .ok (.i2c, 1) := by decide +kernel
theorem d_Rm_type_70 : decode b_Rm_type 70 = .ok (.invokevirtual 67, 3) := by decide +kernel
theorem d_Rm_type_73 : decode b_Rm_type 73 = .ok (.iinc 3 1, 3) := by decide +kernel
theorem d_Rm_type_76 : decode b_Rm_type 76 = .ok (.goto (-21), 3) := by decide +kernel
theorem d_Rm_type_79 : decode b_Rm_type 79 = .ok (.iconst 1, 1) := by decide +kernel
theorem d_Rm_type_80 : decode b_Rm_type 80 = .ok (.ireturn, 1) := by decide +kernel
theorem d_Rm_submit_0 : decode b_Rm_submit 0 = .ok (.aload_n 0, 1) := by decide +kernel
theorem d_Rm_submit_1 : decode b_Rm_submit 1 = .ok (.getfield 49, 3) := by decide +kernel
theorem d_Rm_submit_4 : decode b_Rm_submit 4 = .ok (.ifCond .eq 11, 3) := by decide +kernel
theorem d_Rm_submit_7 : decode b_Rm_submit 7 = .ok (.new 71, 3) := by decide +kernel
theorem d_Rm_submit_10 : decode b_Rm_submit 10 = .ok (.dup, 1) := by decide +kernel
theorem d_Rm_submit_11 : decode b_Rm_submit 11 = .ok (.invokespecial 73, 3) := by decide +kernel
theorem d_Rm_submit_14 : decode b_Rm_submit 14 = .ok (.athrow, 1) := by decide +kernel
theorem d_Rm_submit_15 : decode b_Rm_submit 15 = .ok (.aload_n 0, 1) := by decide +kernel
theorem d_Rm_submit_16 : decode b_Rm_submit 16 = .ok (.getfield 21, 3) := by decide +kernel
theorem d_Rm_submit_19 : decode b_Rm_submit 19 = .ok (.aload_n 0, 1) := by decide +kernel
theorem d_Rm_submit_20 : decode b_Rm_submit 20 = .ok (.getfield 46, 3) := by decide +kernel
theorem d_Rm_submit_23 : decode b_Rm_submit 23 = .ok (.invokevirtual 74, 3) := by decide +kernel
theorem d_Rm_submit_26 : decode b_Rm_submit 26 = .ok (.istore_n 1, 1) := by decide +kernel
theorem d_Rm_submit_27 : decode b_Rm_submit 27 = .ok (.aload_n 0, 1) := by decide +kernel
theorem d_Rm_submit_28 : decode b_Rm_submit 28 = .ok (.getfield 10, 3) := by decide +kernel
theorem d_Rm_submit_31 : decode b_Rm_submit 31 = .ok (.invokevirtual 78, 3) := by decide +kernel
theorem d_Rm_submit_34 : decode b_Rm_submit 34 = .ok (.iload_n 1, 1) := by decide +kernel
theorem d_Rm_submit_35 : decode b_Rm_submit 35 = .ok (.ifCond .ne 11, 3) := by decide +kernel
theorem d_Rm_submit_38 : decode b_Rm_submit 38 = .ok (.aload_n 0, 1) := by decide +kernel
theorem d_Rm_submit_39 : decode b_Rm_submit 39 = .ok (.getfield 46, 3) := by decide +kernel
theorem d_Rm_submit_42 : decode b_Rm_submit 42 = .ok (.invokevirtual 81, 3) := by decide +kernel
theorem d_Rm_submit_45 : decode b_Rm_submit 45 = .ok (.istore_n 1, 1) := by decide +kernel
theorem d_Rm_submit_46 : decode b_Rm_submit 46 = .ok (.iload_n 1, 1) := by decide +kernel
theorem d_Rm_submit_47 : decode b_Rm_submit 47 = .ok (.ifCond .ne 28, 3) := by decide +kernel
theorem d_Rm_submit_50 : decode b_Rm_submit 50 = .ok (.aload_n 0, 1) := by decide +kernel
theorem d_Rm_submit_51 : decode b_Rm_submit 51 = .ok (.getfield 42, 3) := by decide +kernel
theorem d_Rm_submit_54 : decode b_Rm_submit 54 = .ok (.astore_n 2, 1) := by decide +kernel
theorem d_Rm_submit_55 : decode b_Rm_submit 55 = .ok (.aload_n 0, 1) := by decide +kernel
theorem d_Rm_submit_56 : decode b_Rm_submit 56 = .ok (.aload_n 0, 1) := by decide +kernel
theorem d_Rm_submit_57 : decode b_Rm_submit 57 = .ok (.getfield 46, 3) := by decide +kernel
theorem d_Rm_submit_60 : decode b_Rm_submit 60 = .ok (.putfield 42, 3) := by decide +kernel
theorem d_Rm_submit_63 : decode b_Rm_submit 63 = .ok (.aload_n 0, 1) := by decide +kernel
theorem d_Rm_submit_64 : decode b_Rm_submit 64 = .ok (.aload_n 2, 1) := by decide +kernel
theorem d_Rm_submit_65 : decode b_Rm_submit 65 = .ok (.putfield 46, 3) := by decide +kernel
theorem d_Rm_submit_68 : decode b_Rm_submit 68 = .ok (.aload_n 0, 1) := by decide +kernel
theorem d_Rm_submit_69 : decode b_Rm_submit 69 = .ok (.getfield 42, 3) := by decide +kernel
theorem d_Rm_submit_72 : decode b_Rm_submit 72 = .ok (.invokevirtual 85, 3) := by decide +kernel
theorem d_Rm_submit_75 : decode b_Rm_submit 75 = .ok (.iload_n 1, 1) := by decide +kernel
theorem d_Rm_submit_76 : decode b_Rm_submit 76 = .ok (.ireturn, 1) := by decide +kernel
theorem d_Rm_enable_0 : decode b_Rm_enable 0 = .ok (.aload_n 0, 1) := by decide +kernel
theorem d_Rm_enable_1 : decode b_Rm_enable 1 = .ok (.getfield 49, 3) := by decide +kernel
theorem d_Rm_enable_4 : decode b_Rm_enable 4 = .ok (.ifCond .ne 34, 3) := by decide +kernel
theorem d_Rm_enable_7 : decode b_Rm_enable 7 = .ok (.aload_n 0, 1) := by decide +kernel
theorem d_Rm_enable_8 : decode b_Rm_enable 8 = .ok (.getfield 42, 3) := by decide +kernel
theorem d_Rm_enable_11 : decode b_Rm_enable 11 = .ok (.getfield 88, 3) := by decide +kernel
theorem d_Rm_enable_14 : decode b_Rm_enable 14 = .ok (.ifCond .eq 24, 3) := by decide +kernel
theorem d_Rm_enable_17 : decode b_Rm_enable 17 = .ok (.aload_n 0, 1) := by decide +kernel
theorem d_Rm_enable_18 : decode b_Rm_enable 18 = .ok (.getfield 28, 3) := by decide +kernel
theorem d_Rm_enable_21 : decode b_Rm_enable 21 = .ok (.aload_n 0, 1) := by decide +kernel
theorem d_Rm_enable_22 : decode b_Rm_enable 22 = .ok (.getfield 28, 3) := by decide +kernel
theorem d_Rm_enable_25 : decode b_Rm_enable 25 = .ok (.getfield 91, 3) := by decide +kernel
theorem d_Rm_enable_28 : decode b_Rm_enable 28 = .ok (.aload_n 0, 1) := by decide +kernel
theorem d_Rm_enable_29 : decode b_Rm_enable 29 = .ok (.getfield 94, 3) := by decide +kernel
theorem d_Rm_enable_32 : decode b_Rm_enable 32 = .ok (.invokevirtual 97, 3) := by decide +kernel
theorem d_Rm_enable_35 : decode b_Rm_enable 35 = .ok (.ifCond .ne 11, 3) := by decide +kernel
theorem d_Rm_enable_38 : decode b_Rm_enable 38 = .ok (.new 71, 3) := by decide +kernel
theorem d_Rm_enable_41 : decode b_Rm_enable 41 = .ok (.dup, 1) := by decide +kernel
theorem d_Rm_enable_42 : decode b_Rm_enable 42 = .ok (.invokespecial 73, 3) := by decide +kernel
theorem d_Rm_enable_45 : decode b_Rm_enable 45 = .ok (.athrow, 1) := by decide +kernel
theorem d_Rm_enable_46 : decode b_Rm_enable 46 = .ok (.aload_n 0, 1) := by decide +kernel
theorem d_Rm_enable_47 : decode b_Rm_enable 47 = .ok (.getfield 42, 3) := by decide +kernel
theorem d_Rm_enable_50 : decode b_Rm_enable 50 = .ok (.invokevirtual 85, 3) := by decide +kernel
theorem d_Rm_enable_53 : decode b_Rm_enable 53 = .ok (.aload_n 0, 1) := by decide +kernel
theorem d_Rm_enable_54 : decode b_Rm_enable 54 = .ok (.iconst 1, 1) := by decide +kernel
theorem d_Rm_enable_55 : decode b_Rm_enable 55 = .ok (.putfield 49, 3) := by decide +kernel
theorem d_Rm_enable_58 : decode b_Rm_enable 58 = .ok (.aload_n 0, 1) := by decide +kernel
theorem d_Rm_enable_59 : decode b_Rm_enable 59 = .ok (.aload_n 0, 1) := by decide +kernel
theorem d_Rm_enable_60 : decode b_Rm_enable 60 = .ok (.getfield 94, 3) := by decide +kernel
theorem d_Rm_enable_63 : decode b_Rm_enable 63 = .ok (.putfield 101, 3) := by decide +kernel
theorem d_Rm_enable_66 : decode b_Rm_enable 66 = .ok (.aload_n 0, 1) := by decide +kernel
theorem d_Rm_enable_67 : decode b_Rm_enable 67 = .ok (.getfield 42, 3) := by decide +kernel
theorem d_Rm_enable_70 : decode b_Rm_enable 70 = .ok (.iconst 0, 1) := by decide +kernel
theorem d_Rm_enable_71 : decode b_Rm_enable 71 = .ok (.invokevirtual 104, 3) := by decide +kernel
theorem d_Rm_enable_74 : decode b_Rm_enable 74 = .ok (.aload_n 0, 1) := by decide +kernel
theorem d_Rm_enable_75 : decode b_Rm_enable 75 = .ok (.invokevirtual 108, 3) := by decide +kernel
theorem d_Rm_enable_78 : decode b_Rm_enable 78 = .ok (.ireturn, 1) := by decide +kernel
theorem d_Rm_cancel_0 : decode b_Rm_cancel 0 = .ok (.aload_n 0, 1) := by decide +kernel
theorem d_Rm_cancel_1 : decode b_Rm_cancel 1 = .ok (.getfield 49, 3) := by decide +kernel
theorem d_Rm_cancel_4 : decode b_Rm_cancel 4 = .ok (.iconst 1, 1) := by decide +kernel
theorem d_Rm_cancel_5 : decode b_Rm_cancel 5 = .ok (.if_icmp .eq 11, 3) := by decide +kernel
theorem d_Rm_cancel_8 : decode b_Rm_cancel 8 = .ok (.new 71, 3) := by decide +kernel
theorem d_Rm_cancel_11 : decode b_Rm_cancel 11 = .ok (.dup, 1) := by decide +kernel
theorem d_Rm_cancel_12 : decode b_Rm_cancel 12 = .ok (.invokespecial 73, 3) := by decide +kernel
theorem d_Rm_cancel_15 : decode b_Rm_cancel 15 = .ok (.athrow, 1) := by decide +kernel
theorem d_Rm_cancel_16 : decode b_Rm_cancel 16 = .ok (.aload_n 0, 1) := by decide +kernel
theorem d_Rm_cancel_17 : decode b_Rm_cancel 17 = .ok (.invokevirtual 111, 3) := by decide +kernel
theorem d_Rm_cancel_20 : decode b_Rm_cancel 20 = .ok (.return_, 1) := by decide +kernel
theorem d_Rm_minutes_0 : decode b_Rm_minutes 0 = .ok (.iload_n 1, 1) := by decide +kernel
theorem d_Rm_minutes_1 : decode b_Rm_minutes 1 = .ok (.ifCond .lt 9, 3) := by decide +kernel
theorem d_Rm_minutes_4 : decode b_Rm_minutes 4 = .ok (.iload_n 1, 1) := by decide +kernel
theorem d_Rm_minutes_5 : decode b_Rm_minutes 5 = .ok (.bipush 60, 2) := by decide +kernel
theorem d_Rm_minutes_7 : decode b_Rm_minutes 7 = .ok (.if_icmp .le 11, 3) := by decide +kernel
theorem d_Rm_minutes_10 : decode b_Rm_minutes 10 = .ok (.new 61, 3) := by decide +kernel
theorem d_Rm_minutes_13 : decode b_Rm_minutes 13 = .ok (.dup, 1) := by decide +kernel
theorem d_Rm_minutes_14 : decode b_Rm_minutes 14 = .ok (.invokespecial 63, 3) := by decide +kernel
theorem d_Rm_minutes_17 : decode b_Rm_minutes 17 = .ok (.athrow, 1) := by decide +kernel
theorem d_Rm_minutes_18 : decode b_Rm_minutes 18 = .ok (.iconst 0, 1) := by decide +kernel
theorem d_Rm_minutes_19 : decode b_Rm_minutes 19 = .ok (.istore_n 2, 1) := by decide +kernel
theorem d_Rm_minutes_20 : decode b_Rm_minutes 20 = .ok (.iconst 0, 1) := by decide +kernel
theorem d_Rm_minutes_21 : decode b_Rm_minutes 21 = .ok (.istore_n 3, 1) := by decide +kernel
theorem d_Rm_minutes_22 : decode b_Rm_minutes 22 = .ok (.iload_n 3, 1) := by decide +kernel
theorem d_Rm_minutes_23 : decode b_Rm_minutes 23 = .ok (.iload_n 1, 1) := by decide +kernel
theorem d_Rm_minutes_24 : decode b_Rm_minutes 24 = .ok (.if_icmp .ge 64, 3) := by decide +kernel
theorem d_Rm_minutes_27 : decode b_Rm_minutes 27 = .ok (.aload_n 0, 1) := by decide +kernel
theorem d_Rm_minutes_28 : decode b_Rm_minutes 28 = .ok (.dup, 1) := by decide +kernel
theorem d_Rm_minutes_29 : decode b_Rm_minutes 29 = .ok (.getfield 94, 3) := by decide +kernel
theorem d_Rm_minutes_32 : decode b_Rm_minutes 32 = .ok (.iconst 1, 1) := by decide +kernel
theorem d_Rm_minutes_33 : decode b_Rm_minutes 33 = .ok (.iadd, 1) := by decide +kernel
theorem d_Rm_minutes_34 : decode b_Rm_minutes 34 = .ok (.putfield 94, 3) := by decide +kernel
theorem d_Rm_minutes_37 : decode b_Rm_minutes 37 = .ok (.aload_n 0, 1) := by decide +kernel
theorem d_Rm_minutes_38 : decode b_Rm_minutes 38 = .ok (.getfield 49, 3) := by decide +kernel
theorem d_Rm_minutes_41 : decode b_Rm_minutes 41 = .ok (.iconst 1, 1) := by decide +kernel
theorem d_Rm_minutes_42 : decode b_Rm_minutes 42 = .ok (.if_icmp .ne 13, 3) := by decide +kernel
theorem d_Rm_minutes_45 : decode b_Rm_minutes 45 = .ok (.iload_n 2, 1) := by decide +kernel
theorem d_Rm_minutes_46 : decode b_Rm_minutes 46 = .ok (.aload_n 0, 1) := by decide +kernel
theorem d_Rm_minutes_47 : decode b_Rm_minutes 47 = .ok (.invokevirtual 114, 3) := by decide +kernel
theorem d_Rm_minutes_50 : decode b_Rm_minutes 50 = .ok (.iadd, 1) := by decide +kernel
theorem d_Rm_minutes_51 : decode b_Rm_minutes 51 = .ok (.istore_n 2, 1) := by decide +kernel
theorem d_Rm_minutes_52 : decode b_Rm_minutes 52 = .ok (.goto 30, 3) := by decide +kernel
theorem d_Rm_minutes_55 : decode b_Rm_minutes 55 = .ok (.aload_n 0, 1) := by decide +kernel
theorem d_Rm_minutes_56 : decode b_Rm_minutes 56 = .ok (.getfield 49, 3) := by decide +kernel
theorem d_Rm_minutes_59 : decode b_Rm_minutes 59 = .ok (.iconst 2, 1) := by decide +kernel
theorem d_Rm_minutes_60 : decode b_Rm_minutes 60 = .ok (.if_icmp .ne 10, 3) := by decide +kernel
theorem d_Rm_minutes_63 : decode b_Rm_minutes 63 = .ok (.aload_n 0, 1) := by decide +kernel
theorem d_Rm_minutes_64 : decode b_Rm_minutes 64 = .ok (.invokevirtual 117, 3) := by decide +kernel
theorem d_Rm_minutes_67 : decode b_Rm_minutes 67 = .ok (.goto 15, 3) := by decide +kernel
theorem d_Rm_minutes_70 : decode b_Rm_minutes 70 = .ok (.aload_n 0, 1) := by decide +kernel
theorem d_Rm_minutes_71 : decode b_Rm_minutes 71 = .ok (.getfield 28, 3) := by decide +kernel
theorem d_Rm_minutes_74 : decode b_Rm_minutes 74 = .ok (.aload_n 0, 1) := by decide +kernel
theorem d_Rm_minutes_75 : decode b_Rm_minutes 75 = .ok (.getfield 94, 3) := by decide +kernel
theorem d_Rm_minutes_78 : decode b_Rm_minutes 78 = .ok (.iconst 0, 1) := by decide +kernel
theorem d_Rm_minutes_79 : decode b_Rm_minutes 79 = .ok (.invokevirtual 120, 3) := by decide +kernel
theorem d_Rm_minutes_82 : decode b_Rm_minutes 82 = .ok (.iinc 3 1, 3) := by decide +kernel
theorem d_Rm_minutes_85 : decode b_Rm_minutes 85 = .ok (.goto (-63), 3) := by decide +kernel
theorem d_Rm_minutes_88 : decode b_Rm_minutes 88 = .ok (.iload_n 2, 1) := by decide +kernel
theorem d_Rm_minutes_89 : decode b_Rm_minutes 89 = .ok (.ireturn, 1) := by decide +kernel
theorem d_Rm_lasts_0 : decode b_Rm_lasts 0 = .ok (.aload_n 0, 1) := by decide +kernel
theorem d_Rm_lasts_1 : decode b_Rm_lasts 1 = .ok (.getfield 42, 3) := by decide +kernel
theorem d_Rm_lasts_4 : decode b_Rm_lasts 4 = .ok (.iload_n 1, 1) := by decide +kernel
theorem d_Rm_lasts_5 : decode b_Rm_lasts 5 = .ok (.invokevirtual 124, 3) := by decide +kernel
theorem d_Rm_lasts_8 : decode b_Rm_lasts 8 = .ok (.ifCond .ne 11, 3) := by decide +kernel
theorem d_Rm_lasts_11 : decode b_Rm_lasts 11 = .ok (.new 127, 3) := by decide +kernel
theorem d_Rm_lasts_14 : decode b_Rm_lasts 14 = .ok (.dup, 1) := by decide +kernel
theorem d_Rm_lasts_15 : decode b_Rm_lasts 15 = .ok (.invokespecial 129, 3) := by decide +kernel
theorem d_Rm_lasts_18 : decode b_Rm_lasts 18 = .ok (.athrow, 1) := by decide +kernel
theorem d_Rm_lasts_19 : decode b_Rm_lasts 19 = .ok (.iload_n 2, 1) := by decide +kernel
theorem d_Rm_lasts_20 : decode b_Rm_lasts 20 = .ok (.iconst 1, 1) := by decide +kernel
theorem d_Rm_lasts_21 : decode b_Rm_lasts 21 = .ok (.if_icmp .lt 9, 3) := by decide +kernel
theorem d_Rm_lasts_24 : decode b_Rm_lasts 24 = .ok (.iload_n 2, 1) := by decide +kernel
theorem d_Rm_lasts_25 : decode b_Rm_lasts 25 = .ok (.bipush 40, 2) := by decide +kernel
theorem d_Rm_lasts_27 : decode b_Rm_lasts 27 = .ok (.if_icmp .le 11, 3) := by decide +kernel
theorem d_Rm_lasts_30 : decode b_Rm_lasts 30 = .ok (.new 61, 3) := by decide +kernel
theorem d_Rm_lasts_33 : decode b_Rm_lasts 33 = .ok (.dup, 1) := by decide +kernel
theorem d_Rm_lasts_34 : decode b_Rm_lasts 34 = .ok (.invokespecial 63, 3) := by decide +kernel
theorem d_Rm_lasts_37 : decode b_Rm_lasts 37 = .ok (.athrow, 1) := by decide +kernel
theorem d_Rm_lasts_38 : decode b_Rm_lasts 38 = .ok (.aload_n 0, 1) := by decide +kernel
theorem d_Rm_lasts_39 : decode b_Rm_lasts 39 = .ok (.getfield 42, 3) := by decide +kernel
theorem d_Rm_lasts_42 : decode b_Rm_lasts 42 = .ok (.getfield 130, 3) := by decide +kernel
theorem d_Rm_lasts_45 : decode b_Rm_lasts 45 = .ok (.iload_n 1, 1) := by decide +kernel
theorem d_Rm_lasts_46 : decode b_Rm_lasts 46 = .ok (.aaload, 1) := by decide +kernel
theorem d_Rm_lasts_47 : decode b_Rm_lasts 47 = .ok (.iload_n 2, 1) := by decide +kernel
theorem d_Rm_lasts_48 : decode b_Rm_lasts 48 = .ok (.putfield 134, 3) := by decide +kernel
theorem d_Rm_lasts_51 : decode b_Rm_lasts 51 = .ok (.return_, 1) := by decide +kernel
theorem d_Rm_draws_0 : decode b_Rm_draws 0 = .ok (.aload_n 0, 1) := by decide +kernel
theorem d_Rm_draws_1 : decode b_Rm_draws 1 = .ok (.getfield 42, 3) := by decide +kernel
theorem d_Rm_draws_4 : decode b_Rm_draws 4 = .ok (.iload_n 1, 1) := by decide +kernel
theorem d_Rm_draws_5 : decode b_Rm_draws 5 = .ok (.invokevirtual 124, 3) := by decide +kernel
theorem d_Rm_draws_8 : decode b_Rm_draws 8 = .ok (.ifCond .ne 11, 3) := by decide +kernel
theorem d_Rm_draws_11 : decode b_Rm_draws 11 = .ok (.new 127, 3) := by decide +kernel
theorem d_Rm_draws_14 : decode b_Rm_draws 14 = .ok (.dup, 1) := by decide +kernel
theorem d_Rm_draws_15 : decode b_Rm_draws 15 = .ok (.invokespecial 129, 3) := by decide +kernel
theorem d_Rm_draws_18 : decode b_Rm_draws 18 = .ok (.athrow, 1) := by decide +kernel
theorem d_Rm_draws_19 : decode b_Rm_draws 19 = .ok (.iload_n 2, 1) := by decide +kernel
theorem d_Rm_draws_20 : decode b_Rm_draws 20 = .ok (.ifCond .lt 10, 3) := by decide +kernel
theorem d_Rm_draws_23 : decode b_Rm_draws 23 = .ok (.iload_n 2, 1) := by decide +kernel
theorem d_Rm_draws_24 : decode b_Rm_draws 24 = .ok (.sipush 200, 3) := by decide +kernel
theorem d_Rm_draws_27 : decode b_Rm_draws 27 = .ok (.if_icmp .le 11, 3) := by decide +kernel
theorem d_Rm_draws_30 : decode b_Rm_draws 30 = .ok (.new 61, 3) := by decide +kernel
theorem d_Rm_draws_33 : decode b_Rm_draws 33 = .ok (.dup, 1) := by decide +kernel
theorem d_Rm_draws_34 : decode b_Rm_draws 34 = .ok (.invokespecial 63, 3) := by decide +kernel
theorem d_Rm_draws_37 : decode b_Rm_draws 37 = .ok (.athrow, 1) := by decide +kernel
theorem d_Rm_draws_38 : decode b_Rm_draws 38 = .ok (.aload_n 0, 1) := by decide +kernel
theorem d_Rm_draws_39 : decode b_Rm_draws 39 = .ok (.getfield 42, 3) := by decide +kernel
theorem d_Rm_draws_42 : decode b_Rm_draws 42 = .ok (.getfield 130, 3) := by decide +kernel
theorem d_Rm_draws_45 : decode b_Rm_draws 45 = .ok (.iload_n 1, 1) := by decide +kernel
theorem d_Rm_draws_46 : decode b_Rm_draws 46 = .ok (.aaload, 1) := by decide +kernel
theorem d_Rm_draws_47 : decode b_Rm_draws 47 = .ok (.iload_n 2, 1) := by decide +kernel
theorem d_Rm_draws_48 : decode b_Rm_draws 48 = .ok (.putfield 139, 3) := by decide +kernel
theorem d_Rm_draws_51 : decode b_Rm_draws 51 = .ok (.return_, 1) := by decide +kernel
theorem d_Rm_curve_0 : decode b_Rm_curve 0 = .ok (.iload_n 1, 1) := by decide +kernel
theorem d_Rm_curve_1 : decode b_Rm_curve 1 = .ok (.ifCond .lt 9, 3) := by decide +kernel
theorem d_Rm_curve_4 : decode b_Rm_curve 4 = .ok (.iload_n 1, 1) := by decide +kernel
theorem d_Rm_curve_5 : decode b_Rm_curve 5 = .ok (.bipush 24, 2) := by decide +kernel
theorem d_Rm_curve_7 : decode b_Rm_curve 7 = .ok (.if_icmp .lt 11, 3) := by decide +kernel
theorem d_Rm_curve_10 : decode b_Rm_curve 10 = .ok (.new 127, 3) := by decide +kernel
theorem d_Rm_curve_13 : decode b_Rm_curve 13 = .ok (.dup, 1) := by decide +kernel
theorem d_Rm_curve_14 : decode b_Rm_curve 14 = .ok (.invokespecial 129, 3) := by decide +kernel
theorem d_Rm_curve_17 : decode b_Rm_curve 17 = .ok (.athrow, 1) := by decide +kernel
theorem d_Rm_curve_18 : decode b_Rm_curve 18 = .ok (.iload_n 2, 1) := by decide +kernel
theorem d_Rm_curve_19 : decode b_Rm_curve 19 = .ok (.ifCond .lt 9, 3) := by decide +kernel
theorem d_Rm_curve_22 : decode b_Rm_curve 22 = .ok (.iload_n 2, 1) := by decide +kernel
theorem d_Rm_curve_23 : decode b_Rm_curve 23 = .ok (.bipush 50, 2) := by decide +kernel
theorem d_Rm_curve_25 : decode b_Rm_curve 25 = .ok (.if_icmp .le 11, 3) := by decide +kernel
theorem d_Rm_curve_28 : decode b_Rm_curve 28 = .ok (.new 61, 3) := by decide +kernel
theorem d_Rm_curve_31 : decode b_Rm_curve 31 = .ok (.dup, 1) := by decide +kernel
theorem d_Rm_curve_32 : decode b_Rm_curve 32 = .ok (.invokespecial 63, 3) := by decide +kernel
theorem d_Rm_curve_35 : decode b_Rm_curve 35 = .ok (.athrow, 1) := by decide +kernel
theorem d_Rm_curve_36 : decode b_Rm_curve 36 = .ok (.aload_n 0, 1) := by decide +kernel
theorem d_Rm_curve_37 : decode b_Rm_curve 37 = .ok (.getfield 28, 3) := by decide +kernel
theorem d_Rm_curve_40 : decode b_Rm_curve 40 = .ok (.iload_n 1, 1) := by decide +kernel
theorem d_Rm_curve_41 : decode b_Rm_curve 41 = .ok (.iload_n 2, 1) := by decide +kernel
theorem d_Rm_curve_42 : decode b_Rm_curve 42 = .ok (.invokevirtual 142, 3) := by decide +kernel
theorem d_Rm_curve_45 : decode b_Rm_curve 45 = .ok (.return_, 1) := by decide +kernel
theorem d_Rm_gain_0 : decode b_Rm_gain 0 = .ok (.iload_n 1, 1) := by decide +kernel
theorem d_Rm_gain_1 : decode b_Rm_gain 1 = .ok (.iconst (-1), 1) := by decide +kernel
theorem d_Rm_gain_2 : decode b_Rm_gain 2 = .ok (.if_icmp .lt 9, 3) := by decide +kernel
theorem d_Rm_gain_5 : decode b_Rm_gain 5 = .ok (.iload_n 1, 1) := by decide +kernel
theorem d_Rm_gain_6 : decode b_Rm_gain 6 = .ok (.bipush 100, 2) := by decide +kernel
theorem d_Rm_gain_8 : decode b_Rm_gain 8 = .ok (.if_icmp .le 11, 3) := by decide +kernel
theorem d_Rm_gain_11 : decode b_Rm_gain 11 = .ok (.new 61, 3) := by decide +kernel
theorem d_Rm_gain_14 : decode b_Rm_gain 14 = .ok (.dup, 1) := by decide +kernel
theorem d_Rm_gain_15 : decode b_Rm_gain 15 = .ok (.invokespecial 63, 3) := by decide +kernel
theorem d_Rm_gain_18 : decode b_Rm_gain 18 = .ok (.athrow, 1) := by decide +kernel
theorem d_Rm_gain_19 : decode b_Rm_gain 19 = .ok (.aload_n 0, 1) := by decide +kernel
theorem d_Rm_gain_20 : decode b_Rm_gain 20 = .ok (.getfield 28, 3) := by decide +kernel
theorem d_Rm_gain_23 : decode b_Rm_gain 23 = .ok (.iload_n 1, 1) := by decide +kernel
theorem d_Rm_gain_24 : decode b_Rm_gain 24 = .ok (.putfield 145, 3) := by decide +kernel
theorem d_Rm_gain_27 : decode b_Rm_gain 27 = .ok (.return_, 1) := by decide +kernel
theorem d_Rm_home_0 : decode b_Rm_home 0 = .ok (.iload_n 1, 1) := by decide +kernel
theorem d_Rm_home_1 : decode b_Rm_home 1 = .ok (.iconst 1, 1) := by decide +kernel
theorem d_Rm_home_2 : decode b_Rm_home 2 = .ok (.if_icmp .lt 19, 3) := by decide +kernel
theorem d_Rm_home_5 : decode b_Rm_home 5 = .ok (.iload_n 1, 1) := by decide +kernel
theorem d_Rm_home_6 : decode b_Rm_home 6 = .ok (.bipush 20, 2) := by decide +kernel
theorem d_Rm_home_8 : decode b_Rm_home 8 = .ok (.if_icmp .gt 13, 3) := by decide +kernel
theorem d_Rm_home_11 : decode b_Rm_home 11 = .ok (.iload_n 2, 1) := by decide +kernel
theorem d_Rm_home_12 : decode b_Rm_home 12 = .ok (.ifCond .lt 9, 3) := by decide +kernel
theorem d_Rm_home_15 : decode b_Rm_home 15 = .ok (.iload_n 2, 1) := by decide +kernel
theorem d_Rm_home_16 : decode b_Rm_home 16 = .ok (.bipush 99, 2) := by decide +kernel
theorem d_Rm_home_18 : decode b_Rm_home 18 = .ok (.if_icmp .le 11, 3) := by decide +kernel
theorem d_Rm_home_21 : decode b_Rm_home 21 = .ok (.new 61, 3) := by decide +kernel
theorem d_Rm_home_24 : decode b_Rm_home 24 = .ok (.dup, 1) := by decide +kernel
theorem d_Rm_home_25 : decode b_Rm_home 25 = .ok (.invokespecial 63, 3) := by decide +kernel
theorem d_Rm_home_28 : decode b_Rm_home 28 = .ok (.athrow, 1) := by decide +kernel
theorem d_Rm_home_29 : decode b_Rm_home 29 = .ok (.aload_n 0, 1) := by decide +kernel
theorem d_Rm_home_30 : decode b_Rm_home 30 = .ok (.getfield 49, 3) := by decide +kernel
theorem d_Rm_home_33 : decode b_Rm_home 33 = .ok (.ifCond .eq 11, 3) := by decide +kernel
theorem d_Rm_home_36 : decode b_Rm_home 36 = .ok (.new 71, 3) := by decide +kernel
theorem d_Rm_home_39 : decode b_Rm_home 39 = .ok (.dup, 1) := by decide +kernel
theorem d_Rm_home_40 : decode b_Rm_home 40 = .ok (.invokespecial 73, 3) := by decide +kernel
theorem d_Rm_home_43 : decode b_Rm_home 43 = .ok (.athrow, 1) := by decide +kernel
theorem d_Rm_home_44 : decode b_Rm_home 44 = .ok (.aload_n 0, 1) := by decide +kernel
theorem d_Rm_home_45 : decode b_Rm_home 45 = .ok (.getfield 28, 3) := by decide +kernel
theorem d_Rm_home_48 : decode b_Rm_home 48 = .ok (.iload_n 1, 1) := by decide +kernel
theorem d_Rm_home_49 : decode b_Rm_home 49 = .ok (.iload_n 2, 1) := by decide +kernel
theorem d_Rm_home_50 : decode b_Rm_home 50 = .ok (.invokevirtual 148, 3) := by decide +kernel
theorem d_Rm_home_53 : decode b_Rm_home 53 = .ok (.return_, 1) := by decide +kernel
theorem d_Rm_fill_0 : decode b_Rm_fill 0 = .ok (.iload_n 1, 1) := by decide +kernel
theorem d_Rm_fill_1 : decode b_Rm_fill 1 = .ok (.ifCond .lt 21, 3) := by decide +kernel
theorem d_Rm_fill_4 : decode b_Rm_fill 4 = .ok (.iload_n 1, 1) := by decide +kernel
theorem d_Rm_fill_5 : decode b_Rm_fill 5 = .ok (.sipush 1000, 3) := by decide +kernel
theorem d_Rm_fill_8 : decode b_Rm_fill 8 = .ok (.if_icmp .gt 14, 3) := by decide +kernel
theorem d_Rm_fill_11 : decode b_Rm_fill 11 = .ok (.iload_n 2, 1) := by decide +kernel
theorem d_Rm_fill_12 : decode b_Rm_fill 12 = .ok (.ifCond .lt 10, 3) := by decide +kernel
theorem d_Rm_fill_15 : decode b_Rm_fill 15 = .ok (.iload_n 2, 1) := by decide +kernel
theorem d_Rm_fill_16 : decode b_Rm_fill 16 = .ok (.sipush 500, 3) := by decide +kernel
theorem d_Rm_fill_19 : decode b_Rm_fill 19 = .ok (.if_icmp .le 11, 3) := by decide +kernel
theorem d_Rm_fill_22 : decode b_Rm_fill 22 = .ok (.new 61, 3) := by decide +kernel
theorem d_Rm_fill_25 : decode b_Rm_fill 25 = .ok (.dup, 1) := by decide +kernel
theorem d_Rm_fill_26 : decode b_Rm_fill 26 = .ok (.invokespecial 63, 3) := by decide +kernel
theorem d_Rm_fill_29 : decode b_Rm_fill 29 = .ok (.athrow, 1) := by decide +kernel
theorem d_Rm_fill_30 : decode b_Rm_fill 30 = .ok (.aload_n 0, 1) := by decide +kernel
theorem d_Rm_fill_31 : decode b_Rm_fill 31 = .ok (.getfield 49, 3) := by decide +kernel
theorem d_Rm_fill_34 : decode b_Rm_fill 34 = .ok (.ifCond .eq 11, 3) := by decide +kernel
theorem d_Rm_fill_37 : decode b_Rm_fill 37 = .ok (.new 71, 3) := by decide +kernel
theorem d_Rm_fill_40 : decode b_Rm_fill 40 = .ok (.dup, 1) := by decide +kernel
theorem d_Rm_fill_41 : decode b_Rm_fill 41 = .ok (.invokespecial 73, 3) := by decide +kernel
theorem d_Rm_fill_44 : decode b_Rm_fill 44 = .ok (.athrow, 1) := by decide +kernel
theorem d_Rm_fill_45 : decode b_Rm_fill 45 = .ok (.aload_n 0, 1) := by decide +kernel
theorem d_Rm_fill_46 : decode b_Rm_fill 46 = .ok (.getfield 28, 3) := by decide +kernel
theorem d_Rm_fill_49 : decode b_Rm_fill 49 = .ok (.iload_n 1, 1) := by decide +kernel
theorem d_Rm_fill_50 : decode b_Rm_fill 50 = .ok (.putfield 91, 3) := by decide +kernel
theorem d_Rm_fill_53 : decode b_Rm_fill 53 = .ok (.aload_n 0, 1) := by decide +kernel
theorem d_Rm_fill_54 : decode b_Rm_fill 54 = .ok (.getfield 28, 3) := by decide +kernel
theorem d_Rm_fill_57 : decode b_Rm_fill 57 = .ok (.iload_n 2, 1) := by decide +kernel
theorem d_Rm_fill_58 : decode b_Rm_fill 58 = .ok (.putfield 151, 3) := by decide +kernel
theorem d_Rm_fill_61 : decode b_Rm_fill 61 = .ok (.return_, 1) := by decide +kernel
theorem d_Rm_now_0 : decode b_Rm_now 0 = .ok (.aload_n 0, 1) := by decide +kernel
theorem d_Rm_now_1 : decode b_Rm_now 1 = .ok (.getfield 94, 3) := by decide +kernel
theorem d_Rm_now_4 : decode b_Rm_now 4 = .ok (.ireturn, 1) := by decide +kernel
theorem d_Rm_mode_0 : decode b_Rm_mode 0 = .ok (.aload_n 0, 1) := by decide +kernel
theorem d_Rm_mode_1 : decode b_Rm_mode 1 = .ok (.getfield 49, 3) := by decide +kernel
theorem d_Rm_mode_4 : decode b_Rm_mode 4 = .ok (.ireturn, 1) := by decide +kernel
theorem d_Rm_level_0 : decode b_Rm_level 0 = .ok (.iload_n 1, 1) := by decide +kernel
theorem d_Rm_level_1 : decode b_Rm_level 1 = .ok (.tableswitch 51 0 2 #[27, 35, 43], 27) := by decide +kernel
theorem d_Rm_level_28 : decode b_Rm_level 28 = .ok (.aload_n 0, 1) := by decide +kernel
theorem d_Rm_level_29 : decode b_Rm_level 29 = .ok (.getfield 28, 3) := by decide +kernel
theorem d_Rm_level_32 : decode b_Rm_level 32 = .ok (.getfield 91, 3) := by decide +kernel
theorem d_Rm_level_35 : decode b_Rm_level 35 = .ok (.ireturn, 1) := by decide +kernel
theorem d_Rm_level_36 : decode b_Rm_level 36 = .ok (.aload_n 0, 1) := by decide +kernel
theorem d_Rm_level_37 : decode b_Rm_level 37 = .ok (.getfield 28, 3) := by decide +kernel
theorem d_Rm_level_40 : decode b_Rm_level 40 = .ok (.getfield 151, 3) := by decide +kernel
theorem d_Rm_level_43 : decode b_Rm_level 43 = .ok (.ireturn, 1) := by decide +kernel
theorem d_Rm_level_44 : decode b_Rm_level 44 = .ok (.aload_n 0, 1) := by decide +kernel
theorem d_Rm_level_45 : decode b_Rm_level 45 = .ok (.getfield 42, 3) := by decide +kernel
theorem d_Rm_level_48 : decode b_Rm_level 48 = .ok (.invokevirtual 154, 3) := by decide +kernel
theorem d_Rm_level_51 : decode b_Rm_level 51 = .ok (.ireturn, 1) := by decide +kernel
theorem d_Rm_level_52 : decode b_Rm_level 52 = .ok (.new 127, 3) := by decide +kernel
theorem d_Rm_level_55 : decode b_Rm_level 55 = .ok (.dup, 1) := by decide +kernel
theorem d_Rm_level_56 : decode b_Rm_level 56 = .ok (.invokespecial 129, 3) := by decide +kernel
theorem d_Rm_level_59 : decode b_Rm_level 59 = .ok (.athrow, 1) := by decide +kernel
theorem d_Rm_reserve_0 : decode b_Rm_reserve 0 = .ok (.aload_n 0, 1) := by decide +kernel
theorem d_Rm_reserve_1 : decode b_Rm_reserve 1 = .ok (.getfield 28, 3) := by decide +kernel
theorem d_Rm_reserve_4 : decode b_Rm_reserve 4 = .ok (.aload_n 0, 1) := by decide +kernel
theorem d_Rm_reserve_5 : decode b_Rm_reserve 5 = .ok (.getfield 94, 3) := by decide +kernel
theorem d_Rm_reserve_8 : decode b_Rm_reserve 8 = .ok (.invokevirtual 157, 3) := by decide +kernel
theorem d_Rm_reserve_11 : decode b_Rm_reserve 11 = .ok (.ireturn, 1) := by decide +kernel
theorem d_Rm_activities_0 : decode b_Rm_activities 0 = .ok (.aload_n 0, 1) := by decide +kernel
theorem d_Rm_activities_1 : decode b_Rm_activities 1 = .ok (.getfield 42, 3) := by decide +kernel
theorem d_Rm_activities_4 : decode b_Rm_activities 4 = .ok (.getfield 88, 3) := by decide +kernel
