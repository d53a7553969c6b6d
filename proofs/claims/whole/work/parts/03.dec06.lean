theorem d_Plan_isHopeless_12 : decode b_Plan_isHopeless 12 = .ok (.iload_n 3, 1) := by decide +kernel
theorem d_Plan_isHopeless_13 : decode b_Plan_isHopeless 13 = .ok (.aload_n 0, 1) := by decide +kernel
theorem d_Plan_isHopeless_14 : decode b_Plan_isHopeless 14 = .ok (.getfield 16, 3) := by decide +kernel
theorem d_Plan_isHopeless_17 : decode b_Plan_isHopeless 17 = .ok (.if_icmp .ge 51, 3) := by decide +kernel
theorem d_Plan_isHopeless_20 : decode b_Plan_isHopeless 20 = .ok (.aload_n 1, 1) := by decide +kernel
theorem d_Plan_isHopeless_21 : decode b_Plan_isHopeless 21 = .ok (.iload_n 3, 1) := by decide +kernel
theorem d_Plan_isHopeless_22 : decode b_Plan_isHopeless 22 = .ok (.invokevirtual 58, 3) := by decide +kernel
theorem d_Plan_isHopeless_25 : decode b_Plan_isHopeless 25 = .ok (.ifCond .eq 15, 3) := by decide +kernel
theorem d_Plan_isHopeless_28 : decode b_Plan_isHopeless 28 = .ok (.aload_n 0, 1) := by decide +kernel
theorem d_Plan_isHopeless_29 : decode b_Plan_isHopeless 29 = .ok (.getfield 11, 3) := by decide +kernel
theorem d_Plan_isHopeless_32 : decode b_Plan_isHopeless 32 = .ok (.iload_n 3, 1) := by decide +kernel
theorem d_Plan_isHopeless_33 : decode b_Plan_isHopeless 33 = .ok (.aaload, 1) := by decide +kernel
theorem d_Plan_isHopeless_34 : decode b_Plan_isHopeless 34 = .ok (.invokevirtual 93, 3) := by decide +kernel
theorem d_Plan_isHopeless_37 : decode b_Plan_isHopeless 37 = .ok (.ifCond .ne 23, 3) := by decide +kernel
theorem d_Plan_isHopeless_40 : decode b_Plan_isHopeless 40 = .ok (.aload_n 1, 1) := by decide +kernel
theorem d_Plan_isHopeless_41 : decode b_Plan_isHopeless 41 = .ok (.iload_n 3, 1) := by decide +kernel
theorem d_Plan_isHopeless_42 : decode b_Plan_isHopeless 42 = .ok (.invokevirtual 96, 3) := by decide +kernel
theorem d_Plan_isHopeless_45 : decode b_Plan_isHopeless 45 = .ok (.ifCond .eq 17, 3) := by decide +kernel
theorem d_Plan_isHopeless_48 : decode b_Plan_isHopeless 48 = .ok (.aload_n 0, 1) := by decide +kernel
theorem d_Plan_isHopeless_49 : decode b_Plan_isHopeless 49 = .ok (.getfield 11, 3) := by decide +kernel
theorem d_Plan_isHopeless_52 : decode b_Plan_isHopeless 52 = .ok (.iload_n 3, 1) := by decide +kernel
theorem d_Plan_isHopeless_53 : decode b_Plan_isHopeless 53 = .ok (.aaload, 1) := by decide +kernel
theorem d_Plan_isHopeless_54 : decode b_Plan_isHopeless 54 = .ok (.invokevirtual 99, 3) := by decide +kernel
theorem d_Plan_isHopeless_57 : decode b_Plan_isHopeless 57 = .ok (.ifCond .eq 5, 3) := by decide +kernel
theorem d_Plan_isHopeless_60 : decode b_Plan_isHopeless 60 = .ok (.iconst 1, 1) := by decide +kernel
theorem d_Plan_isHopeless_61 : decode b_Plan_isHopeless 61 = .ok (.ireturn, 1) := by decide +kernel
theorem d_Plan_isHopeless_62 : decode b_Plan_isHopeless 62 = .ok (.iinc 3 1, 3) := by decide +kernel
theorem d_Plan_isHopeless_65 : decode b_Plan_isHopeless 65 = .ok (.goto (-53), 3) := by decide +kernel
theorem d_Plan_isHopeless_68 : decode b_Plan_isHopeless 68 = .ok (.iconst 0, 1) := by decide +kernel
theorem d_Plan_isHopeless_69 : decode b_Plan_isHopeless 69 = .ok (.ireturn, 1) := by decide +kernel
theorem d_Plan_isReady_0 : decode b_Plan_isReady 0 = .ok (.aload_n 0, 1) := by decide +kernel
theorem d_Plan_isReady_1 : decode b_Plan_isReady 1 = .ok (.getfield 11, 3) := by decide +kernel
theorem d_Plan_isReady_4 : decode b_Plan_isReady 4 = .ok (.iload_n 1, 1) := by decide +kernel
theorem d_Plan_isReady_5 : decode b_Plan_isReady 5 = .ok (.aaload, 1) := by decide +kernel
theorem d_Plan_isReady_6 : decode b_Plan_isReady 6 = .ok (.astore_n 2, 1) := by decide +kernel
theorem d_Plan_isReady_7 : decode b_Plan_isReady 7 = .ok (.aload_n 2, 1) := by decide +kernel
theorem d_Plan_isReady_8 : decode b_Plan_isReady 8 = .ok (.invokevirtual 83, 3) := by decide +kernel
theorem d_Plan_isReady_11 : decode b_Plan_isReady 11 = .ok (.ifCond .ne 5, 3) := by decide +kernel
theorem d_Plan_isReady_14 : decode b_Plan_isReady 14 = .ok (.iconst 0, 1) := by decide +kernel
theorem d_Plan_isReady_15 : decode b_Plan_isReady 15 = .ok (.ireturn, 1) := by decide +kernel
theorem d_Plan_isReady_16 : decode b_Plan_isReady 16 = .ok (.iconst 0, 1) := by decide +kernel
theorem d_Plan_isReady_17 : decode b_Plan_isReady 17 = .ok (.istore_n 3, 1) := by decide +kernel
theorem d_Plan_isReady_18 : decode b_Plan_isReady 18 = .ok (.iload_n 3, 1) := by decide +kernel
theorem d_Plan_isReady_19 : decode b_Plan_isReady 19 = .ok (.aload_n 0, 1) := by decide +kernel
theorem d_Plan_isReady_20 : decode b_Plan_isReady 20 = .ok (.getfield 16, 3) := by decide +kernel
theorem d_Plan_isReady_23 : decode b_Plan_isReady 23 = .ok (.if_icmp .ge 51, 3) := by decide +kernel
theorem d_Plan_isReady_26 : decode b_Plan_isReady 26 = .ok (.aload_n 2, 1) := by decide +kernel
theorem d_Plan_isReady_27 : decode b_Plan_isReady 27 = .ok (.iload_n 3, 1) := by decide +kernel
theorem d_Plan_isReady_28 : decode b_Plan_isReady 28 = .ok (.invokevirtual 58, 3) := by decide +kernel
theorem d_Plan_isReady_31 : decode b_Plan_isReady 31 = .ok (.ifCond .eq 15, 3) := by decide +kernel
theorem d_Plan_isReady_34 : decode b_Plan_isReady 34 = .ok (.aload_n 0, 1) := by decide +kernel
theorem d_Plan_isReady_35 : decode b_Plan_isReady 35 = .ok (.getfield 11, 3) := by decide +kernel
theorem d_Plan_isReady_38 : decode b_Plan_isReady 38 = .ok (.iload_n 3, 1) := by decide +kernel
theorem d_Plan_isReady_39 : decode b_Plan_isReady 39 = .ok (.aaload, 1) := by decide +kernel
theorem d_Plan_isReady_40 : decode b_Plan_isReady 40 = .ok (.invokevirtual 99, 3) := by decide +kernel
theorem d_Plan_isReady_43 : decode b_Plan_isReady 43 = .ok (.ifCond .eq 23, 3) := by decide +kernel
theorem d_Plan_isReady_46 : decode b_Plan_isReady 46 = .ok (.aload_n 2, 1) := by decide +kernel
theorem d_Plan_isReady_47 : decode b_Plan_isReady 47 = .ok (.iload_n 3, 1) := by decide +kernel
theorem d_Plan_isReady_48 : decode b_Plan_isReady 48 = .ok (.invokevirtual 96, 3) := by decide +kernel
theorem d_Plan_isReady_51 : decode b_Plan_isReady 51 = .ok (.ifCond .eq 17, 3) := by decide +kernel
theorem d_Plan_isReady_54 : decode b_Plan_isReady 54 = .ok (.aload_n 0, 1) := by decide +kernel
theorem d_Plan_isReady_55 : decode b_Plan_isReady 55 = .ok (.getfield 11, 3) := by decide +kernel
theorem d_Plan_isReady_58 : decode b_Plan_isReady 58 = .ok (.iload_n 3, 1) := by decide +kernel
theorem d_Plan_isReady_59 : decode b_Plan_isReady 59 = .ok (.aaload, 1) := by decide +kernel
theorem d_Plan_isReady_60 : decode b_Plan_isReady 60 = .ok (.invokevirtual 93, 3) := by decide +kernel
theorem d_Plan_isReady_63 : decode b_Plan_isReady 63 = .ok (.ifCond .ne 5, 3) := by decide +kernel
theorem d_Plan_isReady_66 : decode b_Plan_isReady 66 = .ok (.iconst 0, 1) := by decide +kernel
theorem d_Plan_isReady_67 : decode b_Plan_isReady 67 = .ok (.ireturn, 1) := by decide +kernel
theorem d_Plan_isReady_68 : decode b_Plan_isReady 68 = .ok (.iinc 3 1, 3) := by decide +kernel
theorem d_Plan_isReady_71 : decode b_Plan_isReady 71 = .ok (.goto (-53), 3) := by decide +kernel
theorem d_Plan_isReady_74 : decode b_Plan_isReady 74 = .ok (.iconst 1, 1) := by decide +kernel
theorem d_Plan_isReady_75 : decode b_Plan_isReady 75 = .ok (.ireturn, 1) := by decide +kernel
theorem d_Plan_giveUp_0 : decode b_Plan_giveUp 0 = .ok (.iconst 0, 1) := by decide +kernel
theorem d_Plan_giveUp_1 : decode b_Plan_giveUp 1 = .ok (.istore_n 1, 1) := by decide +kernel
theorem d_Plan_giveUp_2 : decode b_Plan_giveUp 2 = .ok (.iload_n 1, 1) := by decide +kernel
theorem d_Plan_giveUp_3 : decode b_Plan_giveUp 3 = .ok (.aload_n 0, 1) := by decide +kernel
theorem d_Plan_giveUp_4 : decode b_Plan_giveUp 4 = .ok (.getfield 16, 3) := by decide +kernel
theorem d_Plan_giveUp_7 : decode b_Plan_giveUp 7 = .ok (.if_icmp .ge 56, 3) := by decide +kernel
theorem d_Plan_giveUp_10 : decode b_Plan_giveUp 10 = .ok (.aload_n 0, 1) := by decide +kernel
theorem d_Plan_giveUp_11 : decode b_Plan_giveUp 11 = .ok (.getfield 11, 3) := by decide +kernel
theorem d_Plan_giveUp_14 : decode b_Plan_giveUp 14 = .ok (.iload_n 1, 1) := by decide +kernel
theorem d_Plan_giveUp_15 : decode b_Plan_giveUp 15 = .ok (.aaload, 1) := by decide +kernel
theorem d_Plan_giveUp_16 : decode b_Plan_giveUp 16 = .ok (.invokevirtual 67, 3) := by decide +kernel
theorem d_Plan_giveUp_19 : decode b_Plan_giveUp 19 = .ok (.ifCond .eq 16, 3) := by decide +kernel
theorem d_Plan_giveUp_22 : decode b_Plan_giveUp 22 = .ok (.aload_n 0, 1) := by decide +kernel
theorem d_Plan_giveUp_23 : decode b_Plan_giveUp 23 = .ok (.getfield 11, 3) := by decide +kernel
theorem d_Plan_giveUp_26 : decode b_Plan_giveUp 26 = .ok (.iload_n 1, 1) := by decide +kernel
theorem d_Plan_giveUp_27 : decode b_Plan_giveUp 27 = .ok (.aaload, 1) := by decide +kernel
theorem d_Plan_giveUp_28 : decode b_Plan_giveUp 28 = .ok (.iconst 3, 1) := by decide +kernel
theorem d_Plan_giveUp_29 : decode b_Plan_giveUp 29 = .ok (.putfield 90, 3) := by decide +kernel
theorem d_Plan_giveUp_32 : decode b_Plan_giveUp 32 = .ok (.goto 25, 3) := by decide +kernel
theorem d_Plan_giveUp_35 : decode b_Plan_giveUp 35 = .ok (.aload_n 0, 1) := by decide +kernel
theorem d_Plan_giveUp_36 : decode b_Plan_giveUp 36 = .ok (.getfield 11, 3) := by decide +kernel
theorem d_Plan_giveUp_39 : decode b_Plan_giveUp 39 = .ok (.iload_n 1, 1) := by decide +kernel
theorem d_Plan_giveUp_40 : decode b_Plan_giveUp 40 = .ok (.aaload, 1) := by decide +kernel
theorem d_Plan_giveUp_41 : decode b_Plan_giveUp 41 = .ok (.invokevirtual 83, 3) := by decide +kernel
theorem d_Plan_giveUp_44 : decode b_Plan_giveUp 44 = .ok (.ifCond .eq 13, 3) := by decide +kernel
theorem d_Plan_giveUp_47 : decode b_Plan_giveUp 47 = .ok (.aload_n 0, 1) := by decide +kernel
theorem d_Plan_giveUp_48 : decode b_Plan_giveUp 48 = .ok (.getfield 11, 3) := by decide +kernel
theorem d_Plan_giveUp_51 : decode b_Plan_giveUp 51 = .ok (.iload_n 1, 1) := by decide +kernel
theorem d_Plan_giveUp_52 : decode b_Plan_giveUp 52 = .ok (.aaload, 1) := by decide +kernel
theorem d_Plan_giveUp_53 : decode b_Plan_giveUp 53 = .ok (.iconst 4, 1) := by decide +kernel
theorem d_Plan_giveUp_54 : decode b_Plan_giveUp 54 = .ok (.putfield 90, 3) := by decide +kernel
theorem d_Plan_giveUp_57 : decode b_Plan_giveUp 57 = .ok (.iinc 1 1, 3) := by decide +kernel
theorem d_Plan_giveUp_60 : decode b_Plan_giveUp 60 = .ok (.goto (-58), 3) := by decide +kernel
theorem d_Plan_giveUp_63 : decode b_Plan_giveUp 63 = .ok (.return_, 1) := by decide +kernel
theorem d_Plan_isOver_0 : decode b_Plan_isOver 0 = .ok (.iconst 0, 1) := by decide +kernel
theorem d_Plan_isOver_1 : decode b_Plan_isOver 1 = .ok (.istore_n 1, 1) := by decide +kernel
theorem d_Plan_isOver_2 : decode b_Plan_isOver 2 = .ok (.iload_n 1, 1) := by decide +kernel
theorem d_Plan_isOver_3 : decode b_Plan_isOver 3 = .ok (.aload_n 0, 1) := by decide +kernel
theorem d_Plan_isOver_4 : decode b_Plan_isOver 4 = .ok (.getfield 16, 3) := by decide +kernel
theorem d_Plan_isOver_7 : decode b_Plan_isOver 7 = .ok (.if_icmp .ge 35, 3) := by decide +kernel
theorem d_Plan_isOver_10 : decode b_Plan_isOver 10 = .ok (.aload_n 0, 1) := by decide +kernel
theorem d_Plan_isOver_11 : decode b_Plan_isOver 11 = .ok (.getfield 11, 3) := by decide +kernel
theorem d_Plan_isOver_14 : decode b_Plan_isOver 14 = .ok (.iload_n 1, 1) := by decide +kernel
theorem d_Plan_isOver_15 : decode b_Plan_isOver 15 = .ok (.aaload, 1) := by decide +kernel
theorem d_Plan_isOver_16 : decode b_Plan_isOver 16 = .ok (.invokevirtual 67, 3) := by decide +kernel
theorem d_Plan_isOver_19 : decode b_Plan_isOver 19 = .ok (.ifCond .ne 15, 3) := by decide +kernel
theorem d_Plan_isOver_22 : decode b_Plan_isOver 22 = .ok (.aload_n 0, 1) := by decide +kernel
theorem d_Plan_isOver_23 : decode b_Plan_isOver 23 = .ok (.getfield 11, 3) := by decide +kernel
theorem d_Plan_isOver_26 : decode b_Plan_isOver 26 = .ok (.iload_n 1, 1) := by decide +kernel
theorem d_Plan_isOver_27 : decode b_Plan_isOver 27 = .ok (.aaload, 1) := by decide +kernel
theorem d_Plan_isOver_28 : decode b_Plan_isOver 28 = .ok (.invokevirtual 83, 3) := by decide +kernel
theorem d_Plan_isOver_31 : decode b_Plan_isOver 31 = .ok (.ifCond .eq 5, 3) := by decide +kernel
theorem d_Plan_isOver_34 : decode b_Plan_isOver 34 = .ok (.iconst 0, 1) := by decide +kernel
theorem d_Plan_isOver_35 : decode b_Plan_isOver 35 = .ok (.ireturn, 1) := by decide +kernel
theorem d_Plan_isOver_36 : decode b_Plan_isOver 36 = .ok (.iinc 1 1, 3) := by decide +kernel
theorem d_Plan_isOver_39 : decode b_Plan_isOver 39 = .ok (.goto (-37), 3) := by decide +kernel
theorem d_Plan_isOver_42 : decode b_Plan_isOver 42 = .ok (.iconst 1, 1) := by decide +kernel
theorem d_Plan_isOver_43 : decode b_Plan_isOver 43 = .ok (.ireturn, 1) := by decide +kernel
