theorem d_La_type_0 : decode b_La_type 0 = .ok (.aload_n 2, 1) := by decide +kernel
theorem d_La_type_1 : decode b_La_type 1 = .ok (.iconst 0, 1) := by decide +kernel
theorem d_La_type_2 : decode b_La_type 2 = .ok (.aload_n 0, 1) := by decide +kernel
theorem d_La_type_3 : decode b_La_type 3 = .ok (.iload_n 1, 1) := by decide +kernel
theorem d_La_type_4 : decode b_La_type 4 = .ok (.invokevirtual 7, 3) := by decide +kernel
theorem d_La_type_7 : decode b_La_type 7 = .ok (.ifCond .eq 7, 3) := by decide +kernel
theorem d_La_type_10 : decode b_La_type 10 = .ok (.lconst 1, 1) := by decide +kernel
theorem d_La_type_11 : decode b_La_type 11 = .ok (.goto 4, 3) := by decide +kernel
theorem d_La_type_14 : decode b_La_type 14 = .ok (.lconst 0, 1) := by decide +kernel
theorem d_La_type_15 : decode b_La_type 15 = .ok (.lastore, 1) := by decide +kernel
theorem d_La_type_16 : decode b_La_type 16 = .ok (.goto 6, 3) := by decide +kernel
theorem d_La_type_19 : decode b_La_type 19 = .ok (.astore_n 3, 1) := by decide +kernel
theorem d_La_type_20 : decode b_La_type 20 = .ok (.iconst 1, 1) := by decide +kernel
theorem d_La_type_21 : decode b_La_type 21 = .ok (.ireturn, 1) := by decide +kernel
theorem d_La_type_22 : decode b_La_type 22 = .ok (.iconst 0, 1) := by decide +kernel
theorem d_La_type_23 : decode b_La_type 23 = .ok (.ireturn, 1) := by decide +kernel
theorem d_La_submit_0 : decode b_La_submit 0 = .ok (.aload_n 1, 1) := by decide +kernel
theorem d_La_submit_1 : decode b_La_submit 1 = .ok (.iconst 0, 1) := by decide +kernel
theorem d_La_submit_2 : decode b_La_submit 2 = .ok (.aload_n 0, 1) := by decide +kernel
theorem d_La_submit_3 : decode b_La_submit 3 = .ok (.invokevirtual 15, 3) := by decide +kernel
theorem d_La_submit_6 : decode b_La_submit 6 = .ok (.i2l, 1) := by decide +kernel
theorem d_La_submit_7 : decode b_La_submit 7 = .ok (.lastore, 1) := by decide +kernel
theorem d_La_submit_8 : decode b_La_submit 8 = .ok (.goto 6, 3) := by decide +kernel
theorem d_La_submit_11 : decode b_La_submit 11 = .ok (.astore_n 2, 1) := by decide +kernel
theorem d_La_submit_12 : decode b_La_submit 12 = .ok (.iconst 1, 1) := by decide +kernel
theorem d_La_submit_13 : decode b_La_submit 13 = .ok (.ireturn, 1) := by decide +kernel
theorem d_La_submit_14 : decode b_La_submit 14 = .ok (.iconst 0, 1) := by decide +kernel
theorem d_La_submit_15 : decode b_La_submit 15 = .ok (.ireturn, 1) := by decide +kernel
theorem d_La_enable_0 : decode b_La_enable 0 = .ok (.aload_n 1, 1) := by decide +kernel
theorem d_La_enable_1 : decode b_La_enable 1 = .ok (.iconst 0, 1) := by decide +kernel
theorem d_La_enable_2 : decode b_La_enable 2 = .ok (.aload_n 0, 1) := by decide +kernel
theorem d_La_enable_3 : decode b_La_enable 3 = .ok (.invokevirtual 21, 3) := by decide +kernel
theorem d_La_enable_6 : decode b_La_enable 6 = .ok (.i2l, 1) := by decide +kernel
theorem d_La_enable_7 : decode b_La_enable 7 = .ok (.lastore, 1) := by decide +kernel
theorem d_La_enable_8 : decode b_La_enable 8 = .ok (.goto 6, 3) := by decide +kernel
theorem d_La_enable_11 : decode b_La_enable 11 = .ok (.astore_n 2, 1) := by decide +kernel
theorem d_La_enable_12 : decode b_La_enable 12 = .ok (.iconst 1, 1) := by decide +kernel
theorem d_La_enable_13 : decode b_La_enable 13 = .ok (.ireturn, 1) := by decide +kernel
theorem d_La_enable_14 : decode b_La_enable 14 = .ok (.iconst 0, 1) := by decide +kernel
theorem d_La_enable_15 : decode b_La_enable 15 = .ok (.ireturn, 1) := by decide +kernel
theorem d_La_cancel_0 : decode b_La_cancel 0 = .ok (.aload_n 0, 1) := by decide +kernel
theorem d_La_cancel_1 : decode b_La_cancel 1 = .ok (.invokevirtual 24, 3) := by decide +kernel
theorem d_La_cancel_4 : decode b_La_cancel 4 = .ok (.goto 6, 3) := by decide +kernel
theorem d_La_cancel_7 : decode b_La_cancel 7 = .ok (.astore_n 1, 1) := by decide +kernel
theorem d_La_cancel_8 : decode b_La_cancel 8 = .ok (.iconst 1, 1) := by decide +kernel
theorem d_La_cancel_9 : decode b_La_cancel 9 = .ok (.ireturn, 1) := by decide +kernel
theorem d_La_cancel_10 : decode b_La_cancel 10 = .ok (.iconst 0, 1) := by decide +kernel
theorem d_La_cancel_11 : decode b_La_cancel 11 = .ok (.ireturn, 1) := by decide +kernel
theorem d_La_minutes_0 : decode b_La_minutes 0 = .ok (.aload_n 2, 1) := by decide +kernel
theorem d_La_minutes_1 : decode b_La_minutes 1 = .ok (.iconst 0, 1) := by decide +kernel
theorem d_La_minutes_2 : decode b_La_minutes 2 = .ok (.aload_n 0, 1) := by decide +kernel
theorem d_La_minutes_3 : decode b_La_minutes 3 = .ok (.iload_n 1, 1) := by decide +kernel
theorem d_La_minutes_4 : decode b_La_minutes 4 = .ok (.invokevirtual 27, 3) := by decide +kernel
theorem d_La_minutes_7 : decode b_La_minutes 7 = .ok (.i2l, 1) := by decide +kernel
theorem d_La_minutes_8 : decode b_La_minutes 8 = .ok (.lastore, 1) := by decide +kernel
theorem d_La_minutes_9 : decode b_La_minutes 9 = .ok (.goto 6, 3) := by decide +kernel
theorem d_La_minutes_12 : decode b_La_minutes 12 = .ok (.astore_n 3, 1) := by decide +kernel
theorem d_La_minutes_13 : decode b_La_minutes 13 = .ok (.iconst 1, 1) := by decide +kernel
theorem d_La_minutes_14 : decode b_La_minutes 14 = .ok (.ireturn, 1) := by decide +kernel
theorem d_La_minutes_15 : decode b_La_minutes 15 = .ok (.iconst 0, 1) := by decide +kernel
theorem d_La_minutes_16 : decode b_La_minutes 16 = .ok (.ireturn, 1) := by decide +kernel
theorem d_La_lasts_0 : decode b_La_lasts 0 = .ok (.aload_n 0, 1) := by decide +kernel
theorem d_La_lasts_1 : decode b_La_lasts 1 = .ok (.iload_n 1, 1) := by decide +kernel
theorem d_La_lasts_2 : decode b_La_lasts 2 = .ok (.iload_n 2, 1) := by decide +kernel
theorem d_La_lasts_3 : decode b_La_lasts 3 = .ok (.invokevirtual 31, 3) := by decide +kernel
theorem d_La_lasts_6 : decode b_La_lasts 6 = .ok (.goto 9, 3) := by decide +kernel
theorem d_La_lasts_9 : decode b_La_lasts 9 = .ok (.astore_n 3, 1) := by decide +kernel
theorem d_La_lasts_10 : decode b_La_lasts 10 = .ok (.iconst 1, 1) := by decide +kernel
theorem d_La_lasts_11 : decode b_La_lasts 11 = .ok (.ireturn, 1) := by decide +kernel
theorem d_La_lasts_12 : decode b_La_lasts 12 = .ok (.astore_n 3, 1) := by decide +kernel
theorem d_La_lasts_13 : decode b_La_lasts 13 = .ok (.iconst 2, 1) := by decide +kernel
theorem d_La_lasts_14 : decode b_La_lasts 14 = .ok (.ireturn, 1) := by decide +kernel
theorem d_La_lasts_15 : decode b_La_lasts 15 = .ok (.iconst 0, 1) := by decide +kernel
theorem d_La_lasts_16 : decode b_La_lasts 16 = .ok (.ireturn, 1) := by decide +kernel
theorem d_La_draws_0 : decode b_La_draws 0 = .ok (.aload_n 0, 1) := by decide +kernel
theorem d_La_draws_1 : decode b_La_draws 1 = .ok (.iload_n 1, 1) := by decide +kernel
theorem d_La_draws_2 : decode b_La_draws 2 = .ok (.iload_n 2, 1) := by decide +kernel
theorem d_La_draws_3 : decode b_La_draws 3 = .ok (.invokevirtual 37, 3) := by decide +kernel
theorem d_La_draws_6 : decode b_La_draws 6 = .ok (.goto 9, 3) := by decide +kernel
theorem d_La_draws_9 : decode b_La_draws 9 = .ok (.astore_n 3, 1) := by decide +kernel
theorem d_La_draws_10 : decode b_La_draws 10 = .ok (.iconst 1, 1) := by decide +kernel
theorem d_La_draws_11 : decode b_La_draws 11 = .ok (.ireturn, 1) := by decide +kernel
theorem d_La_draws_12 : decode b_La_draws 12 = .ok (.astore_n 3, 1) := by decide +kernel
theorem d_La_draws_13 : decode b_La_draws 13 = .ok (.iconst 2, 1) := by decide +kernel
theorem d_La_draws_14 : decode b_La_draws 14 = .ok (.ireturn, 1) := by decide +kernel
theorem d_La_draws_15 : decode b_La_draws 15 = .ok (.iconst 0, 1) := by decide +kernel
theorem d_La_draws_16 : decode b_La_draws 16 = .ok (.ireturn, 1) := by decide +kernel
theorem d_La_curve_0 : decode b_La_curve 0 = .ok (.aload_n 0, 1) := by decide +kernel
theorem d_La_curve_1 : decode b_La_curve 1 = .ok (.iload_n 1, 1) := by decide +kernel
theorem d_La_curve_2 : decode b_La_curve 2 = .ok (.iload_n 2, 1) := by decide +kernel
theorem d_La_curve_3 : decode b_La_curve 3 = .ok (.invokevirtual 40, 3) := by decide +kernel
theorem d_La_curve_6 : decode b_La_curve 6 = .ok (.goto 9, 3) := by decide +kernel
theorem d_La_curve_9 : decode b_La_curve 9 = .ok (.astore_n 3, 1) := by decide +kernel
theorem d_La_curve_10 : decode b_La_curve 10 = .ok (.iconst 1, 1) := by decide +kernel
theorem d_La_curve_11 : decode b_La_curve 11 = .ok (.ireturn, 1) := by decide +kernel
theorem d_La_curve_12 : decode b_La_curve 12 = .ok (.astore_n 3, 1) := by decide +kernel
theorem d_La_curve_13 : decode b_La_curve 13 = .ok (.iconst 2, 1) := by decide +kernel
theorem d_La_curve_14 : decode b_La_curve 14 = .ok (.ireturn, 1) := by decide +kernel
theorem d_La_curve_15 : decode b_La_curve 15 = .ok (.iconst 0, 1) := by decide +kernel
theorem d_La_curve_16 : decode b_La_curve 16 = .ok (.ireturn, 1) := by decide +kernel
theorem d_La_gain_0 : decode b_La_gain 0 = .ok (.aload_n 0, 1) := by decide +kernel
theorem d_La_gain_1 : decode b_La_gain 1 = .ok (.iload_n 1, 1) := by decide +kernel
theorem d_La_gain_2 : decode b_La_gain 2 = .ok (.invokevirtual 43, 3) := by decide +kernel
theorem d_La_gain_5 : decode b_La_gain 5 = .ok (.goto 6, 3) := by decide +kernel
theorem d_La_gain_8 : decode b_La_gain 8 = .ok (.astore_n 2, 1) := by decide +kernel
theorem d_La_gain_9 : decode b_La_gain 9 = .ok (.iconst 1, 1) := by decide +kernel
theorem d_La_gain_10 : decode b_La_gain 10 = .ok (.ireturn, 1) := by decide +kernel
theorem d_La_gain_11 : decode b_La_gain 11 = .ok (.iconst 0, 1) := by decide +kernel
theorem d_La_gain_12 : decode b_La_gain 12 = .ok (.ireturn, 1) := by decide +kernel
theorem d_La_home_0 : decode b_La_home 0 = .ok (.aload_n 0, 1) := by decide +kernel
theorem d_La_home_1 : decode b_La_home 1 = .ok (.iload_n 1, 1) := by decide +kernel
theorem d_La_home_2 : decode b_La_home 2 = .ok (.iload_n 2, 1) := by decide +kernel
theorem d_La_home_3 : decode b_La_home 3 = .ok (.invokevirtual 47, 3) := by decide +kernel
theorem d_La_home_6 : decode b_La_home 6 = .ok (.goto 9, 3) := by decide +kernel
theorem d_La_home_9 : decode b_La_home 9 = .ok (.astore_n 3, 1) := by decide +kernel
theorem d_La_home_10 : decode b_La_home 10 = .ok (.iconst 1, 1) := by decide +kernel
theorem d_La_home_11 : decode b_La_home 11 = .ok (.ireturn, 1) := by decide +kernel
theorem d_La_home_12 : decode b_La_home 12 = .ok (.astore_n 3, 1) := by decide +kernel
theorem d_La_home_13 : decode b_La_home 13 = .ok (.iconst 2, 1) := by decide +kernel
theorem d_La_home_14 : decode b_La_home 14 = .ok (.ireturn, 1) := by decide +kernel
theorem d_La_home_15 : decode b_La_home 15 = .ok (.iconst 0, 1) := by decide +kernel
theorem d_La_home_16 : decode b_La_home 16 = .ok (.ireturn, 1) := by decide +kernel
theorem d_La_fill_0 : decode b_La_fill 0 = .ok (.aload_n 0, 1) := by decide +kernel
theorem d_La_fill_1 : decode b_La_fill 1 = .ok (.iload_n 1, 1) := by decide +kernel
theorem d_La_fill_2 : decode b_La_fill 2 = .ok (.iload_n 2, 1) := by decide +kernel
theorem d_La_fill_3 : decode b_La_fill 3 = .ok (.invokevirtual 50, 3) := by decide +kernel
theorem d_La_fill_6 : decode b_La_fill 6 = .ok (.goto 9, 3) := by decide +kernel
theorem d_La_fill_9 : decode b_La_fill 9 = .ok (.astore_n 3, 1) := by decide +kernel
theorem d_La_fill_10 : decode b_La_fill 10 = .ok (.iconst 1, 1) := by decide +kernel
theorem d_La_fill_11 : decode b_La_fill 11 = .ok (.ireturn, 1) := by decide +kernel
theorem d_La_fill_12 : decode b_La_fill 12 = .ok (.astore_n 3, 1) := by decide +kernel
theorem d_La_fill_13 : decode b_La_fill 13 = .ok (.iconst 2, 1) := by decide +kernel
theorem d_La_fill_14 : decode b_La_fill 14 = .ok (.ireturn, 1) := by decide +kernel
theorem d_La_fill_15 : decode b_La_fill 15 = .ok (.iconst 0, 1) := by decide +kernel
theorem d_La_fill_16 : decode b_La_fill 16 = .ok (.ireturn, 1) := by decide +kernel
theorem d_La_level_0 : decode b_La_level 0 = .ok (.aload_n 2, 1) := by decide +kernel
theorem d_La_level_1 : decode b_La_level 1 = .ok (.iconst 0, 1) := by decide +kernel
theorem d_La_level_2 : decode b_La_level 2 = .ok (.aload_n 0, 1) := by decide +kernel
theorem d_La_level_3 : decode b_La_level 3 = .ok (.iload_n 1, 1) := by decide +kernel
theorem d_La_level_4 : decode b_La_level 4 = .ok (.invokevirtual 53, 3) := by decide +kernel
theorem d_La_level_7 : decode b_La_level 7 = .ok (.i2l, 1) := by decide +kernel
theorem d_La_level_8 : decode b_La_level 8 = .ok (.lastore, 1) := by decide +kernel
theorem d_La_level_9 : decode b_La_level 9 = .ok (.goto 6, 3) := by decide +kernel
theorem d_La_level_12 : decode b_La_level 12 = .ok (.astore_n 3, 1) := by decide +kernel
theorem d_La_level_13 : decode b_La_level 13 = .ok (.iconst 1, 1) := by decide +kernel
theorem d_La_level_14 : decode b_La_level 14 = .ok (.ireturn, 1) := by decide +kernel
theorem d_La_level_15 : decode b_La_level 15 = .ok (.iconst 0, 1) := by decide +kernel
theorem d_La_level_16 : decode b_La_level 16 = .ok (.ireturn, 1) := by decide +kernel
theorem d_La_activity_0 : decode b_La_activity 0 = .ok (.aload_n 3, 1) := by decide +kernel
theorem d_La_activity_1 : decode b_La_activity 1 = .ok (.iconst 0, 1) := by decide +kernel
theorem d_La_activity_2 : decode b_La_activity 2 = .ok (.aload_n 0, 1) := by decide +kernel
theorem d_La_activity_3 : decode b_La_activity 3 = .ok (.iload_n 1, 1) := by decide +kernel
theorem d_La_activity_4 : decode b_La_activity 4 = .ok (.iload_n 2, 1) := by decide +kernel
theorem d_La_activity_5 : decode b_La_activity 5 = .ok (.invokevirtual 56, 3) := by decide +kernel
theorem d_La_activity_8 : decode b_La_activity 8 = .ok (.i2l, 1) := by decide +kernel
theorem d_La_activity_9 : decode b_La_activity 9 = .ok (.lastore, 1) := by decide +kernel
theorem d_La_activity_10 : decode b_La_activity 10 = .ok (.goto 7, 3) := by decide +kernel
theorem d_La_activity_13 : decode b_La_activity 13 = .ok (.astore 4, 2) := by decide +kernel
theorem d_La_activity_15 : decode b_La_activity 15 = .ok (.iconst 1, 1) := by decide +kernel
theorem d_La_activity_16 : decode b_La_activity 16 = .ok (.ireturn, 1) := by decide +kernel
theorem d_La_activity_17 : decode b_La_activity 17 = .ok (.iconst 0, 1) := by decide +kernel
theorem d_La_activity_18 : decode b_La_activity 18 = .ok (.ireturn, 1) := by decide +kernel
theorem d_La_could_0 : decode b_La_could 0 = .ok (.aload_n 2, 1) := by decide +kernel
theorem d_La_could_1 : decode b_La_could 1 = .ok (.iconst 0, 1) := by decide +kernel
theorem d_La_could_2 : decode b_La_could 2 = .ok (.aload_n 0, 1) := by decide +kernel
theorem d_La_could_3 : decode b_La_could 3 = .ok (.iload_n 1, 1) := by decide +kernel
theorem d_La_could_4 : decode b_La_could 4 = .ok (.invokevirtual 60, 3) := by decide +kernel
theorem d_La_could_7 : decode b_La_could 7 = .ok (.ifCond .eq 7, 3) := by decide +kernel
theorem d_La_could_10 : decode b_La_could 10 = .ok (.lconst 1, 1) := by decide +kernel
theorem d_La_could_11 : decode b_La_could 11 = .ok (.goto 4, 3) := by decide +kernel
theorem d_La_could_14 : decode b_La_could 14 = .ok (.lconst 0, 1) := by decide +kernel
theorem d_La_could_15 : decode b_La_could 15 = .ok (.lastore, 1) := by decide +kernel
theorem d_La_could_16 : decode b_La_could 16 = .ok (.goto 6, 3) := by decide +kernel
theorem d_La_could_19 : decode b_La_could 19 = .ok (.astore_n 3, 1) := by decide +kernel
theorem d_La_could_20 : decode b_La_could 20 = .ok (.iconst 1, 1) := by decide +kernel
theorem d_La_could_21 : decode b_La_could 21 = .ok (.ireturn, 1) := by decide +kernel
theorem d_La_could_22 : decode b_La_could 22 = .ok (.iconst 0, 1) := by decide +kernel
theorem d_La_could_23 : decode b_La_could 23 = .ok (.ireturn, 1) := by decide +kernel
theorem d_La_law_0 : decode b_La_law 0 = .ok (.new 8, 3) := by decide +kernel
theorem d_La_law_3 : decode b_La_law 3 = .ok (.dup, 1) := by decide +kernel
theorem d_La_law_4 : decode b_La_law 4 = .ok (.invokespecial 63, 3) := by decide +kernel
theorem d_La_law_7 : decode b_La_law 7 = .ok (.astore_n 1, 1) := by decide +kernel
theorem d_La_law_8 : decode b_La_law 8 = .ok (.new 64, 3) := by decide +kernel
theorem d_La_law_11 : decode b_La_law 11 = .ok (.dup, 1) := by decide +kernel
theorem d_La_law_12 : decode b_La_law 12 = .ok (.invokespecial 66, 3) := by decide +kernel
theorem d_La_law_15 : decode b_La_law 15 = .ok (.astore_n 2, 1) := by decide +kernel
theorem d_La_law_16 : decode b_La_law 16 = .ok (.iconst 1, 1) := by decide +kernel
theorem d_La_law_17 : decode b_La_law 17 = .ok (.newarray .long, 2) := by decide +kernel
theorem d_La_law_19 : decode b_La_law 19 = .ok (.astore_n 3, 1) := by decide +kernel
theorem d_La_law_20 : decode b_La_law 20 = .ok (.iconst 0, 1) := by decide +kernel
theorem d_La_law_21 : decode b_La_law 21 = .ok (.istore 4, 2) := by decide +kernel
theorem d_La_law_23 : decode b_La_law 23 = .ok (.iload 4, 2) := by decide +kernel
theorem d_La_law_25 : decode b_La_law 25 = .ok (.aload_n 0, 1) := by decide +kernel
theorem d_La_law_26 : decode b_La_law 26 = .ok (.arraylength, 1) := by decide +kernel
theorem d_La_law_27 : decode b_La_law 27 = .ok (.iconst 3, 1) := by decide +kernel
theorem d_La_law_28 : decode b_La_law 28 = .ok (.isub, 1) := by decide +kernel
theorem d_La_law_29 : decode b_La_law 29 = .ok (.if_icmp .gt 864, 3) := by decide +kernel
theorem d_La_law_32 : decode b_La_law 32 = .ok (.aload_n 0, 1) := by decide +kernel
theorem d_La_law_33 : decode b_La_law 33 = .ok (.iload 4, 2) := by decide +kernel
theorem d_La_law_35 : decode b_La_law 35 = .ok (.iaload, 1) := by decide +kernel
theorem d_La_law_36 : decode b_La_law 36 = .ok (.bipush 31, 2) := by decide +kernel
theorem d_La_law_38 : decode b_La_law 38 = .ok (.iand, 1) := by decide +kernel
theorem d_La_law_39 : decode b_La_law 39 = .ok (.tableswitch 848 0 18 #[89, 152, 196, 240, 264, 320, 368, 416, 464, 500, 548, 596, 609, 622, 678, 691, 704, 772, 785], 89) := by decide +kernel
theorem d_La_law_128 : decode b_La_law 128 = .ok (.aload_n 1, 1) := by decide +kernel
theorem d_La_law_129 : decode b_La_law 129 = .ok (.aload_n 0, 1) := by decide +kernel
theorem d_La_law_130 : decode b_La_law 130 = .ok (.iload 4, 2) := by decide +kernel
theorem d_La_law_132 : decode b_La_law 132 = .ok (.iconst 1, 1) := by decide +kernel
theorem d_La_law_133 : decode b_La_law 133 = .ok (.iadd, 1) := by decide +kernel
theorem d_La_law_134 : decode b_La_law 134 = .ok (.iaload, 1) := by decide +kernel
theorem d_La_law_135 : decode b_La_law 135 = .ok (.aload_n 3, 1) := by decide +kernel
theorem d_La_law_136 : decode b_La_law 136 = .ok (.invokestatic 67, 3) := by decide +kernel
theorem d_La_law_139 : decode b_La_law 139 = .ok (.istore 5, 2) := by decide +kernel
theorem d_La_law_141 : decode b_La_law 141 = .ok (.aload_n 2, 1) := by decide +kernel
theorem d_La_law_142 : decode b_La_law 142 = .ok (.aload_n 0, 1) := by decide +kernel
theorem d_La_law_143 : decode b_La_law 143 = .ok (.iload 4, 2) := by decide +kernel
theorem d_La_law_145 : decode b_La_law 145 = .ok (.iconst 1, 1) := by decide +kernel
theorem d_La_law_146 : decode b_La_law 146 = .ok (.iadd, 1) := by decide +kernel
theorem d_La_law_147 : decode b_La_law 147 = .ok (.iaload, 1) := by decide +kernel
theorem d_La_law_148 : decode b_La_law 148 = .ok (.invokevirtual 72, 3) := by decide +kernel
theorem d_La_law_151 : decode b_La_law 151 = .ok (.istore 6, 2) := by decide +kernel
theorem d_La_law_153 : decode b_La_law 153 = .ok (.aload_n 2, 1) := by decide +kernel
theorem d_La_law_154 : decode b_La_law 154 = .ok (.invokevirtual 73, 3) := by decide +kernel
theorem d_La_law_157 : decode b_La_law 157 = .ok (.iload 5, 2) := by decide +kernel
theorem d_La_law_159 : decode b_La_law 159 = .ok (.if_icmp .eq 5, 3) := by decide +kernel
theorem d_La_law_162 : decode b_La_law 162 = .ok (.iconst 0, 1) := by decide +kernel
theorem d_La_law_163 : decode b_La_law 163 = .ok (.ireturn, 1) := by decide +kernel
theorem d_La_law_164 : decode b_La_law 164 = .ok (.iload 5, 2) := by decide +kernel
theorem d_La_law_166 : decode b_La_law 166 = .ok (.ifCond .ne 22, 3) := by decide +kernel
theorem d_La_law_169 : decode b_La_law 169 = .ok (.aload_n 3, 1) := by decide +kernel
theorem d_La_law_170 : decode b_La_law 170 = .ok (.iconst 0, 1) := by decide +kernel
theorem d_La_law_171 : decode b_La_law 171 = .ok (.laload, 1) := by decide +kernel
theorem d_La_law_172 : decode b_La_law 172 = .ok (.iload 6, 2) := by decide +kernel
theorem d_La_law_174 : decode b_La_law 174 = .ok (.ifCond .eq 7, 3) := by decide +kernel
theorem d_La_law_177 : decode b_La_law 177 = .ok (.lconst 1, 1) := by decide +kernel
theorem d_La_law_178 : decode b_La_law 178 = .ok (.goto 4, 3) := by decide +kernel
theorem d_La_law_181 : decode b_La_law 181 = .ok (.lconst 0, 1) := by decide +kernel
theorem d_La_law_182 : decode b_La_law 182 = .ok (.lcmp, 1) := by decide +kernel
theorem d_La_law_183 : decode b_La_law 183 = .ok (.ifCond .eq 5, 3) := by decide +kernel
theorem d_La_law_186 : decode b_La_law 186 = .ok (.iconst 0, 1) := by decide +kernel
theorem d_La_law_187 : decode b_La_law 187 = .ok (.ireturn, 1) := by decide +kernel
theorem d_La_law_188 : decode b_La_law 188 = .ok (.goto 699, 3) := by decide +kernel
theorem d_La_law_191 : decode b_La_law 191 = .ok (.aload_n 1, 1) := by decide +kernel
theorem d_La_law_192 : decode b_La_law 192 = .ok (.aload_n 3, 1) := by decide +kernel
theorem d_La_law_193 : decode b_La_law 193 = .ok (.invokestatic 76, 3) := by decide +kernel
theorem d_La_law_196 : decode b_La_law 196 = .ok (.istore 5, 2) := by decide +kernel
theorem d_La_law_198 : decode b_La_law 198 = .ok (.aload_n 2, 1) := by decide +kernel
theorem d_La_law_199 : decode b_La_law 199 = .ok (.invokevirtual 79, 3) := by decide +kernel
theorem d_La_law_202 : decode b_La_law 202 = .ok (.istore 6, 2) := by decide +kernel
theorem d_La_law_204 : decode b_La_law 204 = .ok (.aload_n 2, 1) := by decide +kernel
theorem d_La_law_205 : decode b_La_law 205 = .ok (.invokevirtual 73, 3) := by decide +kernel
theorem d_La_law_208 : decode b_La_law 208 = .ok (.iload 5, 2) := by decide +kernel
theorem d_La_law_210 : decode b_La_law 210 = .ok (.if_icmp .eq 5, 3) := by decide +kernel
theorem d_La_law_213 : decode b_La_law 213 = .ok (.iconst 0, 1) := by decide +kernel
theorem d_La_law_214 : decode b_La_law 214 = .ok (.ireturn, 1) := by decide +kernel
theorem d_La_law_215 : decode b_La_law 215 = .ok (.iload 5, 2) := by decide +kernel
theorem d_La_law_217 : decode b_La_law 217 = .ok (.ifCond .ne 15, 3) := by decide +kernel
theorem d_La_law_220 : decode b_La_law 220 = .ok (.aload_n 3, 1) := by decide +kernel
theorem d_La_law_221 : decode b_La_law 221 = .ok (.iconst 0, 1) := by decide +kernel
theorem d_La_law_222 : decode b_La_law 222 = .ok (.laload, 1) := by decide +kernel
theorem d_La_law_223 : decode b_La_law 223 = .ok (.iload 6, 2) := by decide +kernel
theorem d_La_law_225 : decode b_La_law 225 = .ok (.i2l, 1) := by decide +kernel
theorem d_La_law_226 : decode b_La_law 226 = .ok (.lcmp, 1) := by decide +kernel
theorem d_La_law_227 : decode b_La_law 227 = .ok (.ifCond .eq 5, 3) := by decide +kernel
theorem d_La_law_230 : decode b_La_law 230 = .ok (.iconst 0, 1) := by decide +kernel
theorem d_La_law_231 : decode b_La_law 231 = .ok (.ireturn, 1) := by decide +kernel
theorem d_La_law_232 : decode b_La_law 232 = .ok (.goto 655, 3) := by decide +kernel
theorem d_La_law_235 : decode b_La_law 235 = .ok (.aload_n 1, 1) := by decide +kernel
theorem d_La_law_236 : decode b_La_law 236 = .ok (.aload_n 3, 1) := by decide +kernel
theorem d_La_law_237 : decode b_La_law 237 = .ok (.invokestatic 80, 3) := by decide +kernel
theorem d_La_law_240 : decode b_La_law 240 = .ok (.istore 5, 2) := by decide +kernel
theorem d_La_law_242 : decode b_La_law 242 = .ok (.aload_n 2, 1) := by decide +kernel
theorem d_La_law_243 : decode b_La_law 243 = .ok (.invokevirtual 82, 3) := by decide +kernel
theorem d_La_law_246 : decode b_La_law 246 = .ok (.istore 6, 2) := by decide +kernel
theorem d_La_law_248 : decode b_La_law 248 = .ok (.aload_n 2, 1) := by decide +kernel
theorem d_La_law_249 : decode b_La_law 249 = .ok (.invokevirtual 73, 3) := by decide +kernel
theorem d_La_law_252 : decode b_La_law 252 = .ok (.iload 5, 2) := by decide +kernel
theorem d_La_law_254 : decode b_La_law 254 = .ok (.if_icmp .eq 5, 3) := by decide +kernel
theorem d_La_law_257 : decode b_La_law 257 = .ok (.iconst 0, 1) := by decide +kernel
theorem d_La_law_258 : decode b_La_law 258 = .ok (.ireturn, 1) := by decide +kernel
theorem d_La_law_259 : decode b_La_law 259 = .ok (.iload 5, 2) := by decide +kernel
theorem d_La_law_261 : decode b_La_law 261 = .ok (.ifCond .ne 15, 3) := by decide +kernel
theorem d_La_law_264 : decode b_La_law 264 = .ok (.aload_n 3, 1) := by decide +kernel
theorem d_La_law_265 : decode b_La_law 265 = .ok (.iconst 0, 1) := by decide +kernel
theorem d_La_law_266 : decode b_La_law 266 = .ok (.laload, 1) := by decide +kernel
theorem d_La_law_267 : decode b_La_law 267 = .ok (.iload 6, 2) := by decide +kernel
theorem d_La_law_269 : decode b_La_law 269 = .ok (.i2l, 1) := by decide +kernel
theorem d_La_law_270 : decode b_La_law 270 = .ok (.lcmp, 1) := by decide +kernel
theorem d_La_law_271 : decode b_La_law 271 = .ok (.ifCond .eq 5, 3) := by decide +kernel
theorem d_La_law_274 : decode b_La_law 274 = .ok (.iconst 0, 1) := by decide +kernel
theorem d_La_law_275 : decode b_La_law 275 = .ok (.ireturn, 1) := by decide +kernel
theorem d_La_law_276 : decode b_La_law 276 = .ok (.goto 611, 3) := by decide +kernel
theorem d_La_law_279 : decode b_La_law 279 = .ok (.aload_n 1, 1) := by decide +kernel
theorem d_La_law_280 : decode b_La_law 280 = .ok (.invokestatic 83, 3) := by decide +kernel
theorem d_La_law_283 : decode b_La_law 283 = .ok (.istore 5, 2) := by decide +kernel
theorem d_La_law_285 : decode b_La_law 285 = .ok (.aload_n 2, 1) := by decide +kernel
theorem d_La_law_286 : decode b_La_law 286 = .ok (.invokevirtual 86, 3) := by decide +kernel
theorem d_La_law_289 : decode b_La_law 289 = .ok (.aload_n 2, 1) := by decide +kernel
theorem d_La_law_290 : decode b_La_law 290 = .ok (.invokevirtual 73, 3) := by decide +kernel
theorem d_La_law_293 : decode b_La_law 293 = .ok (.iload 5, 2) := by decide +kernel
theorem d_La_law_295 : decode b_La_law 295 = .ok (.if_icmp .eq 5, 3) := by decide +kernel
theorem d_La_law_298 : decode b_La_law 298 = .ok (.iconst 0, 1) := by decide +kernel
theorem d_La_law_299 : decode b_La_law 299 = .ok (.ireturn, 1) := by decide +kernel
theorem d_La_law_300 : decode b_La_law 300 = .ok (.goto 587, 3) := by decide +kernel
theorem d_La_law_303 : decode b_La_law 303 = .ok (.aload_n 1, 1) := by decide +kernel
theorem d_La_law_304 : decode b_La_law 304 = .ok (.aload_n 0, 1) := by decide +kernel
theorem d_La_law_305 : decode b_La_law 305 = .ok (.iload 4, 2) := by decide +kernel
theorem d_La_law_307 : decode b_La_law 307 = .ok (.iconst 1, 1) := by decide +kernel
theorem d_La_law_308 : decode b_La_law 308 = .ok (.iadd, 1) := by decide +kernel
theorem d_La_law_309 : decode b_La_law 309 = .ok (.iaload, 1) := by decide +kernel
theorem d_La_law_310 : decode b_La_law 310 = .ok (.aload_n 3, 1) := by decide +kernel
theorem d_La_law_311 : decode b_La_law 311 = .ok (.invokestatic 87, 3) := by decide +kernel
theorem d_La_law_314 : decode b_La_law 314 = .ok (.istore 5, 2) := by decide +kernel
theorem d_La_law_316 : decode b_La_law 316 = .ok (.aload_n 2, 1) := by decide +kernel
theorem d_La_law_317 : decode b_La_law 317 = .ok (.aload_n 0, 1) := by decide +kernel
theorem d_La_law_318 : decode b_La_law 318 = .ok (.iload 4, 2) := by decide +kernel
theorem d_La_law_320 : decode b_La_law 320 = .ok (.iconst 1, 1) := by decide +kernel
theorem d_La_law_321 : decode b_La_law 321 = .ok (.iadd, 1) := by decide +kernel
theorem d_La_law_322 : decode b_La_law 322 = .ok (.iaload, 1) := by decide +kernel
theorem d_La_law_323 : decode b_La_law 323 = .ok (.invokevirtual 89, 3) := by decide +kernel
theorem d_La_law_326 : decode b_La_law 326 = .ok (.istore 6, 2) := by decide +kernel
theorem d_La_law_328 : decode b_La_law 328 = .ok (.aload_n 2, 1) := by decide +kernel
theorem d_La_law_329 : decode b_La_law 329 = .ok (.invokevirtual 73, 3) := by decide +kernel
theorem d_La_law_332 : decode b_La_law 332 = .ok (.iload 5, 2) := by decide +kernel
theorem d_La_law_334 : decode b_La_law 334 = .ok (.if_icmp .eq 5, 3) := by decide +kernel
theorem d_La_law_337 : decode b_La_law 337 = .ok (.iconst 0, 1) := by decide +kernel
theorem d_La_law_338 : decode b_La_law 338 = .ok (.ireturn, 1) := by decide +kernel
theorem d_La_law_339 : decode b_La_law 339 = .ok (.iload 5, 2) := by decide +kernel
theorem d_La_law_341 : decode b_La_law 341 = .ok (.ifCond .ne 15, 3) := by decide +kernel
theorem d_La_law_344 : decode b_La_law 344 = .ok (.aload_n 3, 1) := by decide +kernel
theorem d_La_law_345 : decode b_La_law 345 = .ok (.iconst 0, 1) := by decide +kernel
theorem d_La_law_346 : decode b_La_law 346 = .ok (.laload, 1) := by decide +kernel
theorem d_La_law_347 : decode b_La_law 347 = .ok (.iload 6, 2) := by decide +kernel
theorem d_La_law_349 : decode b_La_law 349 = .ok (.i2l, 1) := by decide +kernel
theorem d_La_law_350 : decode b_La_law 350 = .ok (.lcmp, 1) := by decide +kernel
theorem d_La_law_351 : decode b_La_law 351 = .ok (.ifCond .eq 5, 3) := by decide +kernel
theorem d_La_law_354 : decode b_La_law 354 = .ok (.iconst 0, 1) := by decide +kernel
theorem d_La_law_355 : decode b_La_law 355 = .ok (.ireturn, 1) := by decide +kernel
theorem d_La_law_356 : decode b_La_law 356 = .ok (.goto 531, 3) := by decide +kernel
theorem d_La_law_359 : decode b_La_law 359 = .ok (.aload_n 1, 1) := by decide +kernel
theorem d_La_law_360 : decode b_La_law 360 = .ok (.aload_n 0, 1) := by decide +kernel
theorem d_La_law_361 : decode b_La_law 361 = .ok (.iload 4, 2) := by decide +kernel
theorem d_La_law_363 : decode b_La_law 363 = .ok (.iconst 1, 1) := by decide +kernel
theorem d_La_law_364 : decode b_La_law 364 = .ok (.iadd, 1) := by decide +kernel
theorem d_La_law_365 : decode b_La_law 365 = .ok (.iaload, 1) := by decide +kernel
theorem d_La_law_366 : decode b_La_law 366 = .ok (.aload_n 0, 1) := by decide +kernel
theorem d_La_law_367 : decode b_La_law 367 = .ok (.iload 4, 2) := by decide +kernel
theorem d_La_law_369 : decode b_La_law 369 = .ok (.iconst 2, 1) := by decide +kernel
theorem d_La_law_370 : decode b_La_law 370 = .ok (.iadd, 1) := by decide +kernel
theorem d_La_law_371 : decode b_La_law 371 = .ok (.iaload, 1) := by decide +kernel
theorem d_La_law_372 : decode b_La_law 372 = .ok (.invokestatic 90, 3) := by decide +kernel
theorem d_La_law_375 : decode b_La_law 375 = .ok (.istore 5, 2) := by decide +kernel
theorem d_La_law_377 : decode b_La_law 377 = .ok (.aload_n 2, 1) := by decide +kernel
theorem d_La_law_378 : decode b_La_law 378 = .ok (.aload_n 0, 1) := by decide +kernel
theorem d_La_law_379 : decode b_La_law 379 = .ok (.iload 4, 2) := by decide +kernel
theorem d_La_law_381 : decode b_La_law 381 = .ok (.iconst 1, 1) := by decide +kernel
theorem d_La_law_382 : decode b_La_law 382 = .ok (.iadd, 1) := by decide +kernel
theorem d_La_law_383 : decode b_La_law 383 = .ok (.iaload, 1) := by decide +kernel
theorem d_La_law_384 : decode b_La_law 384 = .ok (.aload_n 0, 1) := by decide +kernel
theorem d_La_law_385 : decode b_La_law 385 = .ok (.iload 4, 2) := by decide +kernel
theorem d_La_law_387 : decode b_La_law 387 = .ok (.iconst 2, 1) := by decide +kernel
theorem d_La_law_388 : decode b_La_law 388 = .ok (.iadd, 1) := by decide +kernel
theorem d_La_law_389 : decode b_La_law 389 = .ok (.iaload, 1) := by decide +kernel
theorem d_La_law_390 : decode b_La_law 390 = .ok (.invokevirtual 93, 3) := by decide +kernel
theorem d_La_law_393 : decode b_La_law 393 = .ok (.aload_n 2, 1) := by decide +kernel
theorem d_La_law_394 : decode b_La_law 394 = .ok (.invokevirtual 73, 3) := by decide +kernel
theorem d_La_law_397 : decode b_La_law 397 = .ok (.iload 5, 2) := by decide +kernel
theorem d_La_law_399 : decode b_La_law 399 = .ok (.if_icmp .eq 5, 3) := by decide +kernel
theorem d_La_law_402 : decode b_La_law 402 = .ok (.iconst 0, 1) := by decide +kernel
theorem d_La_law_403 : decode b_La_law 403 = .ok (.ireturn, 1) := by decide +kernel
theorem d_La_law_404 : decode b_La_law 404 = .ok (.goto 483, 3) := by decide +kernel
theorem d_La_law_407 : decode b_La_law 407 = .ok (.aload_n 1, 1) := by decide +kernel
theorem d_La_law_408 : decode b_La_law 408 = .ok (.aload_n 0, 1) := by decide +kernel
theorem d_La_law_409 : decode b_La_law 409 = .ok (.iload 4, 2) := by decide +kernel
theorem d_La_law_411 : decode b_La_law 411 = .ok (.iconst 1, 1) := by decide +kernel
theorem d_La_law_412 : decode b_La_law 412 = .ok (.iadd, 1) := by decide +kernel
theorem d_La_law_413 : decode b_La_law 413 = .ok (.iaload, 1) := by decide +kernel
theorem d_La_law_414 : decode b_La_law 414 = .ok (.aload_n 0, 1) := by decide +kernel
theorem d_La_law_415 : decode b_La_law 415 = .ok (.iload 4, 2) := by decide +kernel
theorem d_La_law_417 : decode b_La_law 417 = .ok (.iconst 2, 1) := by decide +kernel
theorem d_La_law_418 : decode b_La_law 418 = .ok (.iadd, 1) := by decide +kernel
theorem d_La_law_419 : decode b_La_law 419 = .ok (.iaload, 1) := by decide +kernel
theorem d_La_law_420 : decode b_La_law 420 = .ok (.invokestatic 94, 3) := by decide +kernel
theorem d_La_law_423 : decode b_La_law 423 = .ok (.istore 5, 2) := by decide +kernel
theorem d_La_law_425 : decode b_La_law 425 = .ok (.aload_n 2, 1) := by decide +kernel
theorem d_La_law_426 : decode b_La_law 426 = .ok (.aload_n 0, 1) := by decide +kernel
theorem d_La_law_427 : decode b_La_law 427 = .ok (.iload 4, 2) := by decide +kernel
theorem d_La_law_429 : decode b_La_law 429 = .ok (.iconst 1, 1) := by decide +kernel
theorem d_La_law_430 : decode b_La_law 430 = .ok (.iadd, 1) := by decide +kernel
theorem d_La_law_431 : decode b_La_law 431 = .ok (.iaload, 1) := by decide +kernel
theorem d_La_law_432 : decode b_La_law 432 = .ok (.aload_n 0, 1) := by decide +kernel
theorem d_La_law_433 : decode b_La_law 433 = .ok (.iload 4, 2) := by decide +kernel
theorem d_La_law_435 : decode b_La_law 435 = .ok (.iconst 2, 1) := by decide +kernel
theorem d_La_law_436 : decode b_La_law 436 = .ok (.iadd, 1) := by decide +kernel
theorem d_La_law_437 : decode b_La_law 437 = .ok (.iaload, 1) := by decide +kernel
theorem d_La_law_438 : decode b_La_law 438 = .ok (.invokevirtual 96, 3) := by decide +kernel
theorem d_La_law_441 : decode b_La_law 441 = .ok (.aload_n 2, 1) := by decide +kernel
theorem d_La_law_442 : decode b_La_law 442 = .ok (.invokevirtual 73, 3) := by decide +kernel
theorem d_La_law_445 : decode b_La_law 445 = .ok (.iload 5, 2) := by decide +kernel
theorem d_La_law_447 : decode b_La_law 447 = .ok (.if_icmp .eq 5, 3) := by decide +kernel
theorem d_La_law_450 : decode b_La_law 450 = .ok (.iconst 0, 1) := by decide +kernel
