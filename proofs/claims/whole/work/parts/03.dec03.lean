theorem d_Supply_init_0 : decode b_Supply_init 0 = .ok (.aload_n 0, 1) := by decide +kernel
theorem d_Supply_init_1 : decode b_Supply_init 1 = .ok (.invokespecial 3, 3) := by decide +kernel
theorem d_Supply_init_4 : decode b_Supply_init 4 = .ok (.aload_n 0, 1) := by decide +kernel
theorem d_Supply_init_5 : decode b_Supply_init 5 = .ok (.sipush 1000, 3) := by decide +kernel
theorem d_Supply_init_8 : decode b_Supply_init 8 = .ok (.putfield 11, 3) := by decide +kernel
theorem d_Supply_init_11 : decode b_Supply_init 11 = .ok (.aload_n 0, 1) := by decide +kernel
theorem d_Supply_init_12 : decode b_Supply_init 12 = .ok (.iconst (-1), 1) := by decide +kernel
theorem d_Supply_init_13 : decode b_Supply_init 13 = .ok (.putfield 15, 3) := by decide +kernel
theorem d_Supply_init_16 : decode b_Supply_init 16 = .ok (.aload_n 0, 1) := by decide +kernel
theorem d_Supply_init_17 : decode b_Supply_init 17 = .ok (.bipush 24, 2) := by decide +kernel
theorem d_Supply_init_19 : decode b_Supply_init 19 = .ok (.newarray .int, 2) := by decide +kernel
theorem d_Supply_init_21 : decode b_Supply_init 21 = .ok (.putfield 18, 3) := by decide +kernel
theorem d_Supply_init_24 : decode b_Supply_init 24 = .ok (.aload_n 0, 1) := by decide +kernel
theorem d_Supply_init_25 : decode b_Supply_init 25 = .ok (.bipush 24, 2) := by decide +kernel
theorem d_Supply_init_27 : decode b_Supply_init 27 = .ok (.newarray .int, 2) := by decide +kernel
theorem d_Supply_init_29 : decode b_Supply_init 29 = .ok (.putfield 22, 3) := by decide +kernel
theorem d_Supply_init_32 : decode b_Supply_init 32 = .ok (.aload_n 0, 1) := by decide +kernel
theorem d_Supply_init_33 : decode b_Supply_init 33 = .ok (.iconst 5, 1) := by decide +kernel
theorem d_Supply_init_34 : decode b_Supply_init 34 = .ok (.bipush 20, 2) := by decide +kernel
theorem d_Supply_init_36 : decode b_Supply_init 36 = .ok (.invokevirtual 25, 3) := by decide +kernel
theorem d_Supply_init_39 : decode b_Supply_init 39 = .ok (.return_, 1) := by decide +kernel
theorem d_Supply_setWayHome_0 : decode b_Supply_setWayHome 0 = .ok (.aload_n 0, 1) := by decide +kernel
theorem d_Supply_setWayHome_1 : decode b_Supply_setWayHome 1 = .ok (.iload_n 1, 1) := by decide +kernel
theorem d_Supply_setWayHome_2 : decode b_Supply_setWayHome 2 = .ok (.putfield 29, 3) := by decide +kernel
theorem d_Supply_setWayHome_5 : decode b_Supply_setWayHome 5 = .ok (.aload_n 0, 1) := by decide +kernel
theorem d_Supply_setWayHome_6 : decode b_Supply_setWayHome 6 = .ok (.iload_n 2, 1) := by decide +kernel
theorem d_Supply_setWayHome_7 : decode b_Supply_setWayHome 7 = .ok (.putfield 32, 3) := by decide +kernel
theorem d_Supply_setWayHome_10 : decode b_Supply_setWayHome 10 = .ok (.aload_n 0, 1) := by decide +kernel
theorem d_Supply_setWayHome_11 : decode b_Supply_setWayHome 11 = .ok (.invokevirtual 35, 3) := by decide +kernel
theorem d_Supply_setWayHome_14 : decode b_Supply_setWayHome 14 = .ok (.return_, 1) := by decide +kernel
theorem d_Supply_setLowerGain_0 : decode b_Supply_setLowerGain 0 = .ok (.aload_n 0, 1) := by decide +kernel
theorem d_Supply_setLowerGain_1 : decode b_Supply_setLowerGain 1 = .ok (.getfield 18, 3) := by decide +kernel
theorem d_Supply_setLowerGain_4 : decode b_Supply_setLowerGain 4 = .ok (.iload_n 1, 1) := by decide +kernel
theorem d_Supply_setLowerGain_5 : decode b_Supply_setLowerGain 5 = .ok (.iload_n 2, 1) := by decide +kernel
theorem d_Supply_setLowerGain_6 : decode b_Supply_setLowerGain 6 = .ok (.iastore, 1) := by decide +kernel
theorem d_Supply_setLowerGain_7 : decode b_Supply_setLowerGain 7 = .ok (.aload_n 0, 1) := by decide +kernel
theorem d_Supply_setLowerGain_8 : decode b_Supply_setLowerGain 8 = .ok (.invokevirtual 35, 3) := by decide +kernel
theorem d_Supply_setLowerGain_11 : decode b_Supply_setLowerGain 11 = .ok (.return_, 1) := by decide +kernel
theorem d_Supply_reckonNeeds_0 : decode b_Supply_reckonNeeds 0 = .ok (.iconst 0, 1) := by decide +kernel
theorem d_Supply_reckonNeeds_1 : decode b_Supply_reckonNeeds 1 = .ok (.istore_n 1, 1) := by decide +kernel
theorem d_Supply_reckonNeeds_2 : decode b_Supply_reckonNeeds 2 = .ok (.iload_n 1, 1) := by decide +kernel
theorem d_Supply_reckonNeeds_3 : decode b_Supply_reckonNeeds 3 = .ok (.bipush 24, 2) := by decide +kernel
theorem d_Supply_reckonNeeds_5 : decode b_Supply_reckonNeeds 5 = .ok (.if_icmp .ge 20, 3) := by decide +kernel
theorem d_Supply_reckonNeeds_8 : decode b_Supply_reckonNeeds 8 = .ok (.aload_n 0, 1) := by decide +kernel
theorem d_Supply_reckonNeeds_9 : decode b_Supply_reckonNeeds 9 = .ok (.getfield 22, 3) := by decide +kernel
theorem d_Supply_reckonNeeds_12 : decode b_Supply_reckonNeeds 12 = .ok (.iload_n 1, 1) := by decide +kernel
theorem d_Supply_reckonNeeds_13 : decode b_Supply_reckonNeeds 13 = .ok (.aload_n 0, 1) := by decide +kernel
theorem d_Supply_reckonNeeds_14 : decode b_Supply_reckonNeeds 14 = .ok (.iload_n 1, 1) := by decide +kernel
theorem d_Supply_reckonNeeds_15 : decode b_Supply_reckonNeeds 15 = .ok (.invokevirtual 38, 3) := by decide +kernel
theorem d_Supply_reckonNeeds_18 : decode b_Supply_reckonNeeds 18 = .ok (.iastore, 1) := by decide +kernel
theorem d_Supply_reckonNeeds_19 : decode b_Supply_reckonNeeds 19 = .ok (.iinc 1 1, 3) := by decide +kernel
theorem d_Supply_reckonNeeds_22 : decode b_Supply_reckonNeeds 22 = .ok (.goto (-20), 3) := by decide +kernel
theorem d_Supply_reckonNeeds_25 : decode b_Supply_reckonNeeds 25 = .ok (.return_, 1) := by decide +kernel
theorem d_Supply_needFrom_0 : decode b_Supply_needFrom 0 = .ok (.iconst 0, 1) := by decide +kernel
theorem d_Supply_needFrom_1 : decode b_Supply_needFrom 1 = .ok (.istore_n 2, 1) := by decide +kernel
theorem d_Supply_needFrom_2 : decode b_Supply_needFrom 2 = .ok (.aload_n 0, 1) := by decide +kernel
theorem d_Supply_needFrom_3 : decode b_Supply_needFrom 3 = .ok (.getfield 29, 3) := by decide +kernel
theorem d_Supply_needFrom_6 : decode b_Supply_needFrom 6 = .ok (.istore_n 3, 1) := by decide +kernel
theorem d_Supply_needFrom_7 : decode b_Supply_needFrom 7 = .ok (.iload_n 3, 1) := by decide +kernel
theorem d_Supply_needFrom_8 : decode b_Supply_needFrom 8 = .ok (.iconst 1, 1) := by decide +kernel
theorem d_Supply_needFrom_9 : decode b_Supply_needFrom 9 = .ok (.if_icmp .lt 41, 3) := by decide +kernel
theorem d_Supply_needFrom_12 : decode b_Supply_needFrom 12 = .ok (.iconst 0, 1) := by decide +kernel
theorem d_Supply_needFrom_13 : decode b_Supply_needFrom 13 = .ok (.iload_n 2, 1) := by decide +kernel
theorem d_Supply_needFrom_14 : decode b_Supply_needFrom 14 = .ok (.aload_n 0, 1) := by decide +kernel
theorem d_Supply_needFrom_15 : decode b_Supply_needFrom 15 = .ok (.getfield 32, 3) := by decide +kernel
theorem d_Supply_needFrom_18 : decode b_Supply_needFrom 18 = .ok (.iadd, 1) := by decide +kernel
theorem d_Supply_needFrom_19 : decode b_Supply_needFrom 19 = .ok (.aload_n 0, 1) := by decide +kernel
theorem d_Supply_needFrom_20 : decode b_Supply_needFrom 20 = .ok (.getfield 18, 3) := by decide +kernel
theorem d_Supply_needFrom_23 : decode b_Supply_needFrom 23 = .ok (.iload_n 1, 1) := by decide +kernel
theorem d_Supply_needFrom_24 : decode b_Supply_needFrom 24 = .ok (.iload_n 3, 1) := by decide +kernel
theorem d_Supply_needFrom_25 : decode b_Supply_needFrom 25 = .ok (.iadd, 1) := by decide +kernel
theorem d_Supply_needFrom_26 : decode b_Supply_needFrom 26 = .ok (.bipush 24, 2) := by decide +kernel
theorem d_Supply_needFrom_28 : decode b_Supply_needFrom 28 = .ok (.irem, 1) := by decide +kernel
theorem d_Supply_needFrom_29 : decode b_Supply_needFrom 29 = .ok (.iaload, 1) := by decide +kernel
theorem d_Supply_needFrom_30 : decode b_Supply_needFrom 30 = .ok (.isub, 1) := by decide +kernel
theorem d_Supply_needFrom_31 : decode b_Supply_needFrom 31 = .ok (.invokestatic 42, 3) := by decide +kernel
theorem d_Supply_needFrom_34 : decode b_Supply_needFrom 34 = .ok (.istore_n 2, 1) := by decide +kernel
theorem d_Supply_needFrom_35 : decode b_Supply_needFrom 35 = .ok (.iload_n 2, 1) := by decide +kernel
theorem d_Supply_needFrom_36 : decode b_Supply_needFrom 36 = .ok (.sipush 1000, 3) := by decide +kernel
theorem d_Supply_needFrom_39 : decode b_Supply_needFrom 39 = .ok (.if_icmp .le 5, 3) := by decide +kernel
theorem d_Supply_needFrom_42 : decode b_Supply_needFrom 42 = .ok (.iconst (-1), 1) := by decide +kernel
theorem d_Supply_needFrom_43 : decode b_Supply_needFrom 43 = .ok (.ireturn, 1) := by decide +kernel
theorem d_Supply_needFrom_44 : decode b_Supply_needFrom 44 = .ok (.iinc 3 (-1), 3) := by decide +kernel
theorem d_Supply_needFrom_47 : decode b_Supply_needFrom 47 = .ok (.goto (-40), 3) := by decide +kernel
theorem d_Supply_needFrom_50 : decode b_Supply_needFrom 50 = .ok (.iload_n 2, 1) := by decide +kernel
theorem d_Supply_needFrom_51 : decode b_Supply_needFrom 51 = .ok (.ireturn, 1) := by decide +kernel
theorem d_Supply_lowerGain_0 : decode b_Supply_lowerGain 0 = .ok (.aload_n 0, 1) := by decide +kernel
theorem d_Supply_lowerGain_1 : decode b_Supply_lowerGain 1 = .ok (.getfield 18, 3) := by decide +kernel
theorem d_Supply_lowerGain_4 : decode b_Supply_lowerGain 4 = .ok (.iload_n 1, 1) := by decide +kernel
theorem d_Supply_lowerGain_5 : decode b_Supply_lowerGain 5 = .ok (.bipush 24, 2) := by decide +kernel
theorem d_Supply_lowerGain_7 : decode b_Supply_lowerGain 7 = .ok (.invokestatic 48, 3) := by decide +kernel
theorem d_Supply_lowerGain_10 : decode b_Supply_lowerGain 10 = .ok (.iaload, 1) := by decide +kernel
theorem d_Supply_lowerGain_11 : decode b_Supply_lowerGain 11 = .ok (.ireturn, 1) := by decide +kernel
theorem d_Supply_needBehind_0 : decode b_Supply_needBehind 0 = .ok (.aload_n 0, 1) := by decide +kernel
theorem d_Supply_needBehind_1 : decode b_Supply_needBehind 1 = .ok (.getfield 22, 3) := by decide +kernel
theorem d_Supply_needBehind_4 : decode b_Supply_needBehind 4 = .ok (.iload_n 1, 1) := by decide +kernel
theorem d_Supply_needBehind_5 : decode b_Supply_needBehind 5 = .ok (.bipush 24, 2) := by decide +kernel
theorem d_Supply_needBehind_7 : decode b_Supply_needBehind 7 = .ok (.invokestatic 48, 3) := by decide +kernel
theorem d_Supply_needBehind_10 : decode b_Supply_needBehind 10 = .ok (.iaload, 1) := by decide +kernel
theorem d_Supply_needBehind_11 : decode b_Supply_needBehind 11 = .ok (.ireturn, 1) := by decide +kernel
theorem d_Supply_isOpen_0 : decode b_Supply_isOpen 0 = .ok (.aload_n 0, 1) := by decide +kernel
theorem d_Supply_isOpen_1 : decode b_Supply_isOpen 1 = .ok (.iload_n 2, 1) := by decide +kernel
theorem d_Supply_isOpen_2 : decode b_Supply_isOpen 2 = .ok (.invokevirtual 51, 3) := by decide +kernel
theorem d_Supply_isOpen_5 : decode b_Supply_isOpen 5 = .ok (.istore_n 3, 1) := by decide +kernel
theorem d_Supply_isOpen_6 : decode b_Supply_isOpen 6 = .ok (.iload_n 3, 1) := by decide +kernel
theorem d_Supply_isOpen_7 : decode b_Supply_isOpen 7 = .ok (.iconst (-1), 1) := by decide +kernel
theorem d_Supply_isOpen_8 : decode b_Supply_isOpen 8 = .ok (.if_icmp .eq 12, 3) := by decide +kernel
theorem d_Supply_isOpen_11 : decode b_Supply_isOpen 11 = .ok (.iload_n 1, 1) := by decide +kernel
theorem d_Supply_isOpen_12 : decode b_Supply_isOpen 12 = .ok (.iload_n 3, 1) := by decide +kernel
theorem d_Supply_isOpen_13 : decode b_Supply_isOpen 13 = .ok (.if_icmp .lt 7, 3) := by decide +kernel
theorem d_Supply_isOpen_16 : decode b_Supply_isOpen 16 = .ok (.iconst 1, 1) := by decide +kernel
theorem d_Supply_isOpen_17 : decode b_Supply_isOpen 17 = .ok (.goto 4, 3) := by decide +kernel
theorem d_Supply_isOpen_20 : decode b_Supply_isOpen 20 = .ok (.iconst 0, 1) := by decide +kernel
theorem d_Supply_isOpen_21 : decode b_Supply_isOpen 21 = .ok (.ireturn, 1) := by decide +kernel
theorem d_Supply_goOn_0 : decode b_Supply_goOn 0 = .ok (.sipush 1000, 3) := by decide +kernel
theorem d_Supply_goOn_3 : decode b_Supply_goOn 3 = .ok (.iload_n 0, 1) := by decide +kernel
theorem d_Supply_goOn_4 : decode b_Supply_goOn 4 = .ok (.iload_n 1, 1) := by decide +kernel
theorem d_Supply_goOn_5 : decode b_Supply_goOn 5 = .ok (.iadd, 1) := by decide +kernel
theorem d_Supply_goOn_6 : decode b_Supply_goOn 6 = .ok (.iload_n 2, 1) := by decide +kernel
theorem d_Supply_goOn_7 : decode b_Supply_goOn 7 = .ok (.isub, 1) := by decide +kernel
theorem d_Supply_goOn_8 : decode b_Supply_goOn 8 = .ok (.invokestatic 54, 3) := by decide +kernel
theorem d_Supply_goOn_11 : decode b_Supply_goOn 11 = .ok (.ireturn, 1) := by decide +kernel
theorem d_Supply_pass_0 : decode b_Supply_pass 0 = .ok (.aload_n 0, 1) := by decide +kernel
theorem d_Supply_pass_1 : decode b_Supply_pass 1 = .ok (.getfield 15, 3) := by decide +kernel
theorem d_Supply_pass_4 : decode b_Supply_pass 4 = .ok (.iconst (-1), 1) := by decide +kernel
theorem d_Supply_pass_5 : decode b_Supply_pass 5 = .ok (.if_icmp .ne 11, 3) := by decide +kernel
theorem d_Supply_pass_8 : decode b_Supply_pass 8 = .ok (.aload_n 0, 1) := by decide +kernel
theorem d_Supply_pass_9 : decode b_Supply_pass 9 = .ok (.iload_n 1, 1) := by decide +kernel
theorem d_Supply_pass_10 : decode b_Supply_pass 10 = .ok (.invokevirtual 57, 3) := by decide +kernel
theorem d_Supply_pass_13 : decode b_Supply_pass 13 = .ok (.goto 7, 3) := by decide +kernel
theorem d_Supply_pass_16 : decode b_Supply_pass 16 = .ok (.aload_n 0, 1) := by decide +kernel
theorem d_Supply_pass_17 : decode b_Supply_pass 17 = .ok (.getfield 15, 3) := by decide +kernel
theorem d_Supply_pass_20 : decode b_Supply_pass 20 = .ok (.istore_n 3, 1) := by decide +kernel
theorem d_Supply_pass_21 : decode b_Supply_pass 21 = .ok (.aload_n 0, 1) := by decide +kernel
theorem d_Supply_pass_22 : decode b_Supply_pass 22 = .ok (.iconst 0, 1) := by decide +kernel
theorem d_Supply_pass_23 : decode b_Supply_pass 23 = .ok (.aload_n 0, 1) := by decide +kernel
theorem d_Supply_pass_24 : decode b_Supply_pass 24 = .ok (.getfield 11, 3) := by decide +kernel
theorem d_Supply_pass_27 : decode b_Supply_pass 27 = .ok (.iload_n 3, 1) := by decide +kernel
theorem d_Supply_pass_28 : decode b_Supply_pass 28 = .ok (.iload_n 2, 1) := by decide +kernel
theorem d_Supply_pass_29 : decode b_Supply_pass 29 = .ok (.invokestatic 60, 3) := by decide +kernel
theorem d_Supply_pass_32 : decode b_Supply_pass 32 = .ok (.invokestatic 42, 3) := by decide +kernel
theorem d_Supply_pass_35 : decode b_Supply_pass 35 = .ok (.putfield 11, 3) := by decide +kernel
theorem d_Supply_pass_38 : decode b_Supply_pass 38 = .ok (.return_, 1) := by decide +kernel
theorem d_Supply_keep_0 : decode b_Supply_keep 0 = .ok (.aload_n 0, 1) := by decide +kernel
theorem d_Supply_keep_1 : decode b_Supply_keep 1 = .ok (.sipush 500, 3) := by decide +kernel
theorem d_Supply_keep_4 : decode b_Supply_keep 4 = .ok (.aload_n 0, 1) := by decide +kernel
theorem d_Supply_keep_5 : decode b_Supply_keep 5 = .ok (.getfield 64, 3) := by decide +kernel
theorem d_Supply_keep_8 : decode b_Supply_keep 8 = .ok (.iload_n 1, 1) := by decide +kernel
theorem d_Supply_keep_9 : decode b_Supply_keep 9 = .ok (.iadd, 1) := by decide +kernel
theorem d_Supply_keep_10 : decode b_Supply_keep 10 = .ok (.invokestatic 54, 3) := by decide +kernel
theorem d_Supply_keep_13 : decode b_Supply_keep 13 = .ok (.putfield 64, 3) := by decide +kernel
theorem d_Supply_keep_16 : decode b_Supply_keep 16 = .ok (.return_, 1) := by decide +kernel
