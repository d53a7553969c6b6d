theorem d_floorMod_0 : decode b_floorMod 0 = .ok (.iload_n 0, 1) := by decide +kernel
theorem d_floorMod_1 : decode b_floorMod 1 = .ok (.iload_n 1, 1) := by decide +kernel
theorem d_floorMod_2 : decode b_floorMod 2 = .ok (.irem, 1) := by decide +kernel
theorem d_floorMod_3 : decode b_floorMod 3 = .ok (.istore_n 2, 1) := by decide +kernel
theorem d_floorMod_4 : decode b_floorMod 4 = .ok (.iload_n 0, 1) := by decide +kernel
theorem d_floorMod_5 : decode b_floorMod 5 = .ok (.iload_n 1, 1) := by decide +kernel
theorem d_floorMod_6 : decode b_floorMod 6 = .ok (.ixor, 1) := by decide +kernel
theorem d_floorMod_7 : decode b_floorMod 7 = .ok (.ifCond .ge 11, 3) := by decide +kernel
theorem d_floorMod_10 : decode b_floorMod 10 = .ok (.iload_n 2, 1) := by decide +kernel
theorem d_floorMod_11 : decode b_floorMod 11 = .ok (.ifCond .eq 7, 3) := by decide +kernel
theorem d_floorMod_14 : decode b_floorMod 14 = .ok (.iload_n 2, 1) := by decide +kernel
theorem d_floorMod_15 : decode b_floorMod 15 = .ok (.iload_n 1, 1) := by decide +kernel
theorem d_floorMod_16 : decode b_floorMod 16 = .ok (.iadd, 1) := by decide +kernel
theorem d_floorMod_17 : decode b_floorMod 17 = .ok (.ireturn, 1) := by decide +kernel
theorem d_floorMod_18 : decode b_floorMod 18 = .ok (.iload_n 2, 1) := by decide +kernel
theorem d_floorMod_19 : decode b_floorMod 19 = .ok (.ireturn, 1) := by decide +kernel
theorem d_Activity_init_0 : decode b_Activity_init 0 = .ok (.aload_n 0, 1) := by decide +kernel
theorem d_Activity_init_1 : decode b_Activity_init 1 = .ok (.invokespecial 3, 3) := by decide +kernel
theorem d_Activity_init_4 : decode b_Activity_init 4 = .ok (.return_, 1) := by decide +kernel
theorem d_Activity_clear_0 : decode b_Activity_clear 0 = .ok (.aload_n 0, 1) := by decide +kernel
theorem d_Activity_clear_1 : decode b_Activity_clear 1 = .ok (.iconst 0, 1) := by decide +kernel
theorem d_Activity_clear_2 : decode b_Activity_clear 2 = .ok (.putfield 9, 3) := by decide +kernel
theorem d_Activity_clear_5 : decode b_Activity_clear 5 = .ok (.aload_n 0, 1) := by decide +kernel
theorem d_Activity_clear_6 : decode b_Activity_clear 6 = .ok (.iconst 0, 1) := by decide +kernel
theorem d_Activity_clear_7 : decode b_Activity_clear 7 = .ok (.putfield 15, 3) := by decide +kernel
theorem d_Activity_clear_10 : decode b_Activity_clear 10 = .ok (.aload_n 0, 1) := by decide +kernel
theorem d_Activity_clear_11 : decode b_Activity_clear 11 = .ok (.iconst 0, 1) := by decide +kernel
theorem d_Activity_clear_12 : decode b_Activity_clear 12 = .ok (.putfield 18, 3) := by decide +kernel
theorem d_Activity_clear_15 : decode b_Activity_clear 15 = .ok (.aload_n 0, 1) := by decide +kernel
theorem d_Activity_clear_16 : decode b_Activity_clear 16 = .ok (.iconst 0, 1) := by decide +kernel
theorem d_Activity_clear_17 : decode b_Activity_clear 17 = .ok (.putfield 21, 3) := by decide +kernel
theorem d_Activity_clear_20 : decode b_Activity_clear 20 = .ok (.aload_n 0, 1) := by decide +kernel
theorem d_Activity_clear_21 : decode b_Activity_clear 21 = .ok (.iconst 0, 1) := by decide +kernel
theorem d_Activity_clear_22 : decode b_Activity_clear 22 = .ok (.putfield 24, 3) := by decide +kernel
theorem d_Activity_clear_25 : decode b_Activity_clear 25 = .ok (.aload_n 0, 1) := by decide +kernel
theorem d_Activity_clear_26 : decode b_Activity_clear 26 = .ok (.bipush 99, 2) := by decide +kernel
theorem d_Activity_clear_28 : decode b_Activity_clear 28 = .ok (.putfield 27, 3) := by decide +kernel
theorem d_Activity_clear_31 : decode b_Activity_clear 31 = .ok (.aload_n 0, 1) := by decide +kernel
theorem d_Activity_clear_32 : decode b_Activity_clear 32 = .ok (.iconst 0, 1) := by decide +kernel
theorem d_Activity_clear_33 : decode b_Activity_clear 33 = .ok (.putfield 30, 3) := by decide +kernel
theorem d_Activity_clear_36 : decode b_Activity_clear 36 = .ok (.aload_n 0, 1) := by decide +kernel
theorem d_Activity_clear_37 : decode b_Activity_clear 37 = .ok (.iconst 0, 1) := by decide +kernel
theorem d_Activity_clear_38 : decode b_Activity_clear 38 = .ok (.putfield 33, 3) := by decide +kernel
theorem d_Activity_clear_41 : decode b_Activity_clear 41 = .ok (.aload_n 0, 1) := by decide +kernel
theorem d_Activity_clear_42 : decode b_Activity_clear 42 = .ok (.iconst 0, 1) := by decide +kernel
theorem d_Activity_clear_43 : decode b_Activity_clear 43 = .ok (.putfield 36, 3) := by decide +kernel
theorem d_Activity_clear_46 : decode b_Activity_clear 46 = .ok (.aload_n 0, 1) := by decide +kernel
theorem d_Activity_clear_47 : decode b_Activity_clear 47 = .ok (.iconst 0, 1) := by decide +kernel
theorem d_Activity_clear_48 : decode b_Activity_clear 48 = .ok (.putfield 39, 3) := by decide +kernel
theorem d_Activity_clear_51 : decode b_Activity_clear 51 = .ok (.aload_n 0, 1) := by decide +kernel
theorem d_Activity_clear_52 : decode b_Activity_clear 52 = .ok (.iconst (-1), 1) := by decide +kernel
theorem d_Activity_clear_53 : decode b_Activity_clear 53 = .ok (.putfield 42, 3) := by decide +kernel
theorem d_Activity_clear_56 : decode b_Activity_clear 56 = .ok (.aload_n 0, 1) := by decide +kernel
theorem d_Activity_clear_57 : decode b_Activity_clear 57 = .ok (.iconst (-1), 1) := by decide +kernel
theorem d_Activity_clear_58 : decode b_Activity_clear 58 = .ok (.putfield 45, 3) := by decide +kernel
theorem d_Activity_clear_61 : decode b_Activity_clear 61 = .ok (.return_, 1) := by decide +kernel
theorem d_Activity_makeReady_0 : decode b_Activity_makeReady 0 = .ok (.aload_n 0, 1) := by decide +kernel
theorem d_Activity_makeReady_1 : decode b_Activity_makeReady 1 = .ok (.iconst 0, 1) := by decide +kernel
theorem d_Activity_makeReady_2 : decode b_Activity_makeReady 2 = .ok (.putfield 48, 3) := by decide +kernel
theorem d_Activity_makeReady_5 : decode b_Activity_makeReady 5 = .ok (.aload_n 0, 1) := by decide +kernel
theorem d_Activity_makeReady_6 : decode b_Activity_makeReady 6 = .ok (.iconst (-1), 1) := by decide +kernel
theorem d_Activity_makeReady_7 : decode b_Activity_makeReady 7 = .ok (.putfield 51, 3) := by decide +kernel
theorem d_Activity_makeReady_10 : decode b_Activity_makeReady 10 = .ok (.aload_n 0, 1) := by decide +kernel
theorem d_Activity_makeReady_11 : decode b_Activity_makeReady 11 = .ok (.iconst 0, 1) := by decide +kernel
theorem d_Activity_makeReady_12 : decode b_Activity_makeReady 12 = .ok (.putfield 54, 3) := by decide +kernel
theorem d_Activity_makeReady_15 : decode b_Activity_makeReady 15 = .ok (.aload_n 0, 1) := by decide +kernel
theorem d_Activity_makeReady_16 : decode b_Activity_makeReady 16 = .ok (.aload_n 0, 1) := by decide +kernel
theorem d_Activity_makeReady_17 : decode b_Activity_makeReady 17 = .ok (.getfield 30, 3) := by decide +kernel
theorem d_Activity_makeReady_20 : decode b_Activity_makeReady 20 = .ok (.putfield 57, 3) := by decide +kernel
theorem d_Activity_makeReady_23 : decode b_Activity_makeReady 23 = .ok (.aload_n 0, 1) := by decide +kernel
theorem d_Activity_makeReady_24 : decode b_Activity_makeReady 24 = .ok (.iconst 0, 1) := by decide +kernel
theorem d_Activity_makeReady_25 : decode b_Activity_makeReady 25 = .ok (.putfield 60, 3) := by decide +kernel
theorem d_Activity_makeReady_28 : decode b_Activity_makeReady 28 = .ok (.return_, 1) := by decide +kernel
theorem d_Activity_isAfter_0 : decode b_Activity_isAfter 0 = .ok (.aload_n 0, 1) := by decide +kernel
theorem d_Activity_isAfter_1 : decode b_Activity_isAfter 1 = .ok (.getfield 33, 3) := by decide +kernel
theorem d_Activity_isAfter_4 : decode b_Activity_isAfter 4 = .ok (.iload_n 1, 1) := by decide +kernel
theorem d_Activity_isAfter_5 : decode b_Activity_isAfter 5 = .ok (.ishr, 1) := by decide +kernel
theorem d_Activity_isAfter_6 : decode b_Activity_isAfter 6 = .ok (.iconst 1, 1) := by decide +kernel
theorem d_Activity_isAfter_7 : decode b_Activity_isAfter 7 = .ok (.iand, 1) := by decide +kernel
theorem d_Activity_isAfter_8 : decode b_Activity_isAfter 8 = .ok (.ifCond .eq 7, 3) := by decide +kernel
theorem d_Activity_isAfter_11 : decode b_Activity_isAfter 11 = .ok (.iconst 1, 1) := by decide +kernel
theorem d_Activity_isAfter_12 : decode b_Activity_isAfter 12 = .ok (.goto 4, 3) := by decide +kernel
theorem d_Activity_isAfter_15 : decode b_Activity_isAfter 15 = .ok (.iconst 0, 1) := by decide +kernel
theorem d_Activity_isAfter_16 : decode b_Activity_isAfter 16 = .ok (.ireturn, 1) := by decide +kernel
theorem d_Activity_isInsteadOf_0 : decode b_Activity_isInsteadOf 0 = .ok (.aload_n 0, 1) := by decide +kernel
theorem d_Activity_isInsteadOf_1 : decode b_Activity_isInsteadOf 1 = .ok (.getfield 36, 3) := by decide +kernel
theorem d_Activity_isInsteadOf_4 : decode b_Activity_isInsteadOf 4 = .ok (.iload_n 1, 1) := by decide +kernel
theorem d_Activity_isInsteadOf_5 : decode b_Activity_isInsteadOf 5 = .ok (.ishr, 1) := by decide +kernel
theorem d_Activity_isInsteadOf_6 : decode b_Activity_isInsteadOf 6 = .ok (.iconst 1, 1) := by decide +kernel
theorem d_Activity_isInsteadOf_7 : decode b_Activity_isInsteadOf 7 = .ok (.iand, 1) := by decide +kernel
theorem d_Activity_isInsteadOf_8 : decode b_Activity_isInsteadOf 8 = .ok (.ifCond .eq 7, 3) := by decide +kernel
theorem d_Activity_isInsteadOf_11 : decode b_Activity_isInsteadOf 11 = .ok (.iconst 1, 1) := by decide +kernel
theorem d_Activity_isInsteadOf_12 : decode b_Activity_isInsteadOf 12 = .ok (.goto 4, 3) := by decide +kernel
theorem d_Activity_isInsteadOf_15 : decode b_Activity_isInsteadOf 15 = .ok (.iconst 0, 1) := by decide +kernel
theorem d_Activity_isInsteadOf_16 : decode b_Activity_isInsteadOf 16 = .ok (.ireturn, 1) := by decide +kernel
theorem d_Activity_isRunning_0 : decode b_Activity_isRunning 0 = .ok (.aload_n 0, 1) := by decide +kernel
theorem d_Activity_isRunning_1 : decode b_Activity_isRunning 1 = .ok (.getfield 48, 3) := by decide +kernel
theorem d_Activity_isRunning_4 : decode b_Activity_isRunning 4 = .ok (.iconst 1, 1) := by decide +kernel
theorem d_Activity_isRunning_5 : decode b_Activity_isRunning 5 = .ok (.if_icmp .ne 7, 3) := by decide +kernel
theorem d_Activity_isRunning_8 : decode b_Activity_isRunning 8 = .ok (.iconst 1, 1) := by decide +kernel
theorem d_Activity_isRunning_9 : decode b_Activity_isRunning 9 = .ok (.goto 4, 3) := by decide +kernel
theorem d_Activity_isRunning_12 : decode b_Activity_isRunning 12 = .ok (.iconst 0, 1) := by decide +kernel
theorem d_Activity_isRunning_13 : decode b_Activity_isRunning 13 = .ok (.ireturn, 1) := by decide +kernel
theorem d_Activity_isWaiting_0 : decode b_Activity_isWaiting 0 = .ok (.aload_n 0, 1) := by decide +kernel
theorem d_Activity_isWaiting_1 : decode b_Activity_isWaiting 1 = .ok (.getfield 48, 3) := by decide +kernel
theorem d_Activity_isWaiting_4 : decode b_Activity_isWaiting 4 = .ok (.ifCond .ne 7, 3) := by decide +kernel
theorem d_Activity_isWaiting_7 : decode b_Activity_isWaiting 7 = .ok (.iconst 1, 1) := by decide +kernel
theorem d_Activity_isWaiting_8 : decode b_Activity_isWaiting 8 = .ok (.goto 4, 3) := by decide +kernel
theorem d_Activity_isWaiting_11 : decode b_Activity_isWaiting 11 = .ok (.iconst 0, 1) := by decide +kernel
theorem d_Activity_isWaiting_12 : decode b_Activity_isWaiting 12 = .ok (.ireturn, 1) := by decide +kernel
theorem d_Activity_isDone_0 : decode b_Activity_isDone 0 = .ok (.aload_n 0, 1) := by decide +kernel
theorem d_Activity_isDone_1 : decode b_Activity_isDone 1 = .ok (.getfield 48, 3) := by decide +kernel
theorem d_Activity_isDone_4 : decode b_Activity_isDone 4 = .ok (.iconst 2, 1) := by decide +kernel
theorem d_Activity_isDone_5 : decode b_Activity_isDone 5 = .ok (.if_icmp .ne 7, 3) := by decide +kernel
theorem d_Activity_isDone_8 : decode b_Activity_isDone 8 = .ok (.iconst 1, 1) := by decide +kernel
theorem d_Activity_isDone_9 : decode b_Activity_isDone 9 = .ok (.goto 4, 3) := by decide +kernel
theorem d_Activity_isDone_12 : decode b_Activity_isDone 12 = .ok (.iconst 0, 1) := by decide +kernel
theorem d_Activity_isDone_13 : decode b_Activity_isDone 13 = .ok (.ireturn, 1) := by decide +kernel
theorem d_Activity_hasFailed_0 : decode b_Activity_hasFailed 0 = .ok (.aload_n 0, 1) := by decide +kernel
theorem d_Activity_hasFailed_1 : decode b_Activity_hasFailed 1 = .ok (.getfield 48, 3) := by decide +kernel
theorem d_Activity_hasFailed_4 : decode b_Activity_hasFailed 4 = .ok (.iconst 3, 1) := by decide +kernel
theorem d_Activity_hasFailed_5 : decode b_Activity_hasFailed 5 = .ok (.if_icmp .eq 11, 3) := by decide +kernel
theorem d_Activity_hasFailed_8 : decode b_Activity_hasFailed 8 = .ok (.aload_n 0, 1) := by decide +kernel
theorem d_Activity_hasFailed_9 : decode b_Activity_hasFailed 9 = .ok (.getfield 48, 3) := by decide +kernel
theorem d_Activity_hasFailed_12 : decode b_Activity_hasFailed 12 = .ok (.iconst 4, 1) := by decide +kernel
theorem d_Activity_hasFailed_13 : decode b_Activity_hasFailed 13 = .ok (.if_icmp .ne 7, 3) := by decide +kernel
theorem d_Activity_hasFailed_16 : decode b_Activity_hasFailed 16 = .ok (.iconst 1, 1) := by decide +kernel
theorem d_Activity_hasFailed_17 : decode b_Activity_hasFailed 17 = .ok (.goto 4, 3) := by decide +kernel
theorem d_Activity_hasFailed_20 : decode b_Activity_hasFailed 20 = .ok (.iconst 0, 1) := by decide +kernel
theorem d_Activity_hasFailed_21 : decode b_Activity_hasFailed 21 = .ok (.ireturn, 1) := by decide +kernel
theorem d_Activity_start_0 : decode b_Activity_start 0 = .ok (.aload_n 0, 1) := by decide +kernel
theorem d_Activity_start_1 : decode b_Activity_start 1 = .ok (.iconst 1, 1) := by decide +kernel
theorem d_Activity_start_2 : decode b_Activity_start 2 = .ok (.putfield 48, 3) := by decide +kernel
theorem d_Activity_start_5 : decode b_Activity_start 5 = .ok (.aload_n 0, 1) := by decide +kernel
theorem d_Activity_start_6 : decode b_Activity_start 6 = .ok (.iload_n 1, 1) := by decide +kernel
theorem d_Activity_start_7 : decode b_Activity_start 7 = .ok (.putfield 51, 3) := by decide +kernel
theorem d_Activity_start_10 : decode b_Activity_start 10 = .ok (.aload_n 0, 1) := by decide +kernel
theorem d_Activity_start_11 : decode b_Activity_start 11 = .ok (.iconst 0, 1) := by decide +kernel
theorem d_Activity_start_12 : decode b_Activity_start 12 = .ok (.putfield 54, 3) := by decide +kernel
theorem d_Activity_start_15 : decode b_Activity_start 15 = .ok (.aload_n 0, 1) := by decide +kernel
theorem d_Activity_start_16 : decode b_Activity_start 16 = .ok (.dup, 1) := by decide +kernel
theorem d_Activity_start_17 : decode b_Activity_start 17 = .ok (.getfield 60, 3) := by decide +kernel
theorem d_Activity_start_20 : decode b_Activity_start 20 = .ok (.iconst 1, 1) := by decide +kernel
theorem d_Activity_start_21 : decode b_Activity_start 21 = .ok (.iadd, 1) := by decide +kernel
theorem d_Activity_start_22 : decode b_Activity_start 22 = .ok (.putfield 60, 3) := by decide +kernel
theorem d_Activity_start_25 : decode b_Activity_start 25 = .ok (.aload_n 0, 1) := by decide +kernel
theorem d_Activity_start_26 : decode b_Activity_start 26 = .ok (.aload_n 0, 1) := by decide +kernel
theorem d_Activity_start_27 : decode b_Activity_start 27 = .ok (.getfield 42, 3) := by decide +kernel
theorem d_Activity_start_30 : decode b_Activity_start 30 = .ok (.iconst (-1), 1) := by decide +kernel
theorem d_Activity_start_31 : decode b_Activity_start 31 = .ok (.if_icmp .ne 10, 3) := by decide +kernel
theorem d_Activity_start_34 : decode b_Activity_start 34 = .ok (.aload_n 0, 1) := by decide +kernel
theorem d_Activity_start_35 : decode b_Activity_start 35 = .ok (.getfield 15, 3) := by decide +kernel
theorem d_Activity_start_38 : decode b_Activity_start 38 = .ok (.goto 7, 3) := by decide +kernel
theorem d_Activity_start_41 : decode b_Activity_start 41 = .ok (.aload_n 0, 1) := by decide +kernel
theorem d_Activity_start_42 : decode b_Activity_start 42 = .ok (.getfield 42, 3) := by decide +kernel
theorem d_Activity_start_45 : decode b_Activity_start 45 = .ok (.putfield 63, 3) := by decide +kernel
theorem d_Activity_start_48 : decode b_Activity_start 48 = .ok (.aload_n 0, 1) := by decide +kernel
theorem d_Activity_start_49 : decode b_Activity_start 49 = .ok (.aload_n 0, 1) := by decide +kernel
theorem d_Activity_start_50 : decode b_Activity_start 50 = .ok (.getfield 45, 3) := by decide +kernel
theorem d_Activity_start_53 : decode b_Activity_start 53 = .ok (.iconst (-1), 1) := by decide +kernel
theorem d_Activity_start_54 : decode b_Activity_start 54 = .ok (.if_icmp .ne 10, 3) := by decide +kernel
theorem d_Activity_start_57 : decode b_Activity_start 57 = .ok (.aload_n 0, 1) := by decide +kernel
theorem d_Activity_start_58 : decode b_Activity_start 58 = .ok (.getfield 18, 3) := by decide +kernel
theorem d_Activity_start_61 : decode b_Activity_start 61 = .ok (.goto 7, 3) := by decide +kernel
theorem d_Activity_start_64 : decode b_Activity_start 64 = .ok (.aload_n 0, 1) := by decide +kernel
theorem d_Activity_start_65 : decode b_Activity_start 65 = .ok (.getfield 45, 3) := by decide +kernel
theorem d_Activity_start_68 : decode b_Activity_start 68 = .ok (.putfield 66, 3) := by decide +kernel
theorem d_Activity_start_71 : decode b_Activity_start 71 = .ok (.aload_n 0, 1) := by decide +kernel
theorem d_Activity_start_72 : decode b_Activity_start 72 = .ok (.iconst (-1), 1) := by decide +kernel
theorem d_Activity_start_73 : decode b_Activity_start 73 = .ok (.putfield 42, 3) := by decide +kernel
theorem d_Activity_start_76 : decode b_Activity_start 76 = .ok (.aload_n 0, 1) := by decide +kernel
theorem d_Activity_start_77 : decode b_Activity_start 77 = .ok (.iconst (-1), 1) := by decide +kernel
theorem d_Activity_start_78 : decode b_Activity_start 78 = .ok (.putfield 45, 3) := by decide +kernel
theorem d_Activity_start_81 : decode b_Activity_start 81 = .ok (.return_, 1) := by decide +kernel
theorem d_Activity_growOlder_0 : decode b_Activity_growOlder 0 = .ok (.aload_n 0, 1) := by decide +kernel
theorem d_Activity_growOlder_1 : decode b_Activity_growOlder 1 = .ok (.dup, 1) := by decide +kernel
theorem d_Activity_growOlder_2 : decode b_Activity_growOlder 2 = .ok (.getfield 54, 3) := by decide +kernel
theorem d_Activity_growOlder_5 : decode b_Activity_growOlder 5 = .ok (.iconst 1, 1) := by decide +kernel
theorem d_Activity_growOlder_6 : decode b_Activity_growOlder 6 = .ok (.iadd, 1) := by decide +kernel
theorem d_Activity_growOlder_7 : decode b_Activity_growOlder 7 = .ok (.putfield 54, 3) := by decide +kernel
theorem d_Activity_growOlder_10 : decode b_Activity_growOlder 10 = .ok (.aload_n 0, 1) := by decide +kernel
theorem d_Activity_growOlder_11 : decode b_Activity_growOlder 11 = .ok (.getfield 66, 3) := by decide +kernel
theorem d_Activity_growOlder_14 : decode b_Activity_growOlder 14 = .ok (.aload_n 0, 1) := by decide +kernel
theorem d_Activity_growOlder_15 : decode b_Activity_growOlder 15 = .ok (.getfield 18, 3) := by decide +kernel
theorem d_Activity_growOlder_18 : decode b_Activity_growOlder 18 = .ok (.if_icmp .gt 25, 3) := by decide +kernel
theorem d_Activity_growOlder_21 : decode b_Activity_growOlder 21 = .ok (.aload_n 0, 1) := by decide +kernel
theorem d_Activity_growOlder_22 : decode b_Activity_growOlder 22 = .ok (.getfield 54, 3) := by decide +kernel
theorem d_Activity_growOlder_25 : decode b_Activity_growOlder 25 = .ok (.aload_n 0, 1) := by decide +kernel
theorem d_Activity_growOlder_26 : decode b_Activity_growOlder 26 = .ok (.getfield 15, 3) := by decide +kernel
theorem d_Activity_growOlder_29 : decode b_Activity_growOlder 29 = .ok (.if_icmp .lt 21, 3) := by decide +kernel
theorem d_Activity_growOlder_32 : decode b_Activity_growOlder 32 = .ok (.aload_n 0, 1) := by decide +kernel
theorem d_Activity_growOlder_33 : decode b_Activity_growOlder 33 = .ok (.getfield 63, 3) := by decide +kernel
theorem d_Activity_growOlder_36 : decode b_Activity_growOlder 36 = .ok (.aload_n 0, 1) := by decide +kernel
theorem d_Activity_growOlder_37 : decode b_Activity_growOlder 37 = .ok (.getfield 54, 3) := by decide +kernel
theorem d_Activity_growOlder_40 : decode b_Activity_growOlder 40 = .ok (.if_icmp .le 10, 3) := by decide +kernel
theorem d_Activity_growOlder_43 : decode b_Activity_growOlder 43 = .ok (.aload_n 0, 1) := by decide +kernel
theorem d_Activity_growOlder_44 : decode b_Activity_growOlder 44 = .ok (.invokevirtual 69, 3) := by decide +kernel
theorem d_Activity_growOlder_47 : decode b_Activity_growOlder 47 = .ok (.goto 19, 3) := by decide +kernel
theorem d_Activity_growOlder_50 : decode b_Activity_growOlder 50 = .ok (.aload_n 0, 1) := by decide +kernel
theorem d_Activity_growOlder_51 : decode b_Activity_growOlder 51 = .ok (.getfield 54, 3) := by decide +kernel
theorem d_Activity_growOlder_54 : decode b_Activity_growOlder 54 = .ok (.aload_n 0, 1) := by decide +kernel
theorem d_Activity_growOlder_55 : decode b_Activity_growOlder 55 = .ok (.getfield 63, 3) := by decide +kernel
theorem d_Activity_growOlder_58 : decode b_Activity_growOlder 58 = .ok (.if_icmp .lt 8, 3) := by decide +kernel
theorem d_Activity_growOlder_61 : decode b_Activity_growOlder 61 = .ok (.aload_n 0, 1) := by decide +kernel
theorem d_Activity_growOlder_62 : decode b_Activity_growOlder 62 = .ok (.iconst 2, 1) := by decide +kernel
theorem d_Activity_growOlder_63 : decode b_Activity_growOlder 63 = .ok (.putfield 48, 3) := by decide +kernel
theorem d_Activity_growOlder_66 : decode b_Activity_growOlder 66 = .ok (.return_, 1) := by decide +kernel
theorem d_Activity_stop_0 : decode b_Activity_stop 0 = .ok (.aload_n 0, 1) := by decide +kernel
theorem d_Activity_stop_1 : decode b_Activity_stop 1 = .ok (.getfield 57, 3) := by decide +kernel
theorem d_Activity_stop_4 : decode b_Activity_stop 4 = .ok (.ifCond .le 21, 3) := by decide +kernel
theorem d_Activity_stop_7 : decode b_Activity_stop 7 = .ok (.aload_n 0, 1) := by decide +kernel
theorem d_Activity_stop_8 : decode b_Activity_stop 8 = .ok (.dup, 1) := by decide +kernel
theorem d_Activity_stop_9 : decode b_Activity_stop 9 = .ok (.getfield 57, 3) := by decide +kernel
theorem d_Activity_stop_12 : decode b_Activity_stop 12 = .ok (.iconst 1, 1) := by decide +kernel
theorem d_Activity_stop_13 : decode b_Activity_stop 13 = .ok (.isub, 1) := by decide +kernel
theorem d_Activity_stop_14 : decode b_Activity_stop 14 = .ok (.putfield 57, 3) := by decide +kernel
theorem d_Activity_stop_17 : decode b_Activity_stop 17 = .ok (.aload_n 0, 1) := by decide +kernel
theorem d_Activity_stop_18 : decode b_Activity_stop 18 = .ok (.iconst 0, 1) := by decide +kernel
theorem d_Activity_stop_19 : decode b_Activity_stop 19 = .ok (.putfield 48, 3) := by decide +kernel
theorem d_Activity_stop_22 : decode b_Activity_stop 22 = .ok (.goto 8, 3) := by decide +kernel
theorem d_Activity_stop_25 : decode b_Activity_stop 25 = .ok (.aload_n 0, 1) := by decide +kernel
theorem d_Activity_stop_26 : decode b_Activity_stop 26 = .ok (.iconst 3, 1) := by decide +kernel
theorem d_Activity_stop_27 : decode b_Activity_stop 27 = .ok (.putfield 48, 3) := by decide +kernel
theorem d_Activity_stop_30 : decode b_Activity_stop 30 = .ok (.return_, 1) := by decide +kernel
