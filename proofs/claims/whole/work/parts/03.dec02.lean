theorem d_Line_init_0 : decode b_Line_init 0 = .ok (.aload_n 0, 1) := by decide +kernel
theorem d_Line_init_1 : decode b_Line_init 1 = .ok (.invokespecial 1, 3) := by decide +kernel
theorem d_Line_init_4 : decode b_Line_init 4 = .ok (.aload_n 0, 1) := by decide +kernel
theorem d_Line_init_5 : decode b_Line_init 5 = .ok (.bipush 64, 2) := by decide +kernel
theorem d_Line_init_7 : decode b_Line_init 7 = .ok (.newarray .char, 2) := by decide +kernel
theorem d_Line_init_9 : decode b_Line_init 9 = .ok (.putfield 9, 3) := by decide +kernel
theorem d_Line_init_12 : decode b_Line_init 12 = .ok (.return_, 1) := by decide +kernel
theorem d_Line_canHold_0 : decode b_Line_canHold 0 = .ok (.iload_n 0, 1) := by decide +kernel
theorem d_Line_canHold_1 : decode b_Line_canHold 1 = .ok (.bipush 32, 2) := by decide +kernel
theorem d_Line_canHold_3 : decode b_Line_canHold 3 = .ok (.if_icmp .lt 13, 3) := by decide +kernel
theorem d_Line_canHold_6 : decode b_Line_canHold 6 = .ok (.iload_n 0, 1) := by decide +kernel
theorem d_Line_canHold_7 : decode b_Line_canHold 7 = .ok (.bipush 126, 2) := by decide +kernel
theorem d_Line_canHold_9 : decode b_Line_canHold 9 = .ok (.if_icmp .gt 7, 3) := by decide +kernel
theorem d_Line_canHold_12 : decode b_Line_canHold 12 = .ok (.iconst 1, 1) := by decide +kernel
theorem d_Line_canHold_13 : decode b_Line_canHold 13 = .ok (.goto 4, 3) := by decide +kernel
theorem d_Line_canHold_16 : decode b_Line_canHold 16 = .ok (.iconst 0, 1) := by decide +kernel
theorem d_Line_canHold_17 : decode b_Line_canHold 17 = .ok (.ireturn, 1) := by decide +kernel
theorem d_Line_hasRoomFor_0 : decode b_Line_hasRoomFor 0 = .ok (.aload_n 0, 1) := by decide +kernel
theorem d_Line_hasRoomFor_1 : decode b_Line_hasRoomFor 1 = .ok (.getfield 13, 3) := by decide +kernel
theorem d_Line_hasRoomFor_4 : decode b_Line_hasRoomFor 4 = .ok (.iload_n 1, 1) := by decide +kernel
theorem d_Line_hasRoomFor_5 : decode b_Line_hasRoomFor 5 = .ok (.iadd, 1) := by decide +kernel
theorem d_Line_hasRoomFor_6 : decode b_Line_hasRoomFor 6 = .ok (.bipush 64, 2) := by decide +kernel
theorem d_Line_hasRoomFor_8 : decode b_Line_hasRoomFor 8 = .ok (.if_icmp .gt 7, 3) := by decide +kernel
theorem d_Line_hasRoomFor_11 : decode b_Line_hasRoomFor 11 = .ok (.iconst 1, 1) := by decide +kernel
theorem d_Line_hasRoomFor_12 : decode b_Line_hasRoomFor 12 = .ok (.goto 4, 3) := by decide +kernel
theorem d_Line_hasRoomFor_15 : decode b_Line_hasRoomFor 15 = .ok (.iconst 0, 1) := by decide +kernel
theorem d_Line_hasRoomFor_16 : decode b_Line_hasRoomFor 16 = .ok (.ireturn, 1) := by decide +kernel
theorem d_Line_put_0 : decode b_Line_put 0 = .ok (.aload_n 0, 1) := by decide +kernel
theorem d_Line_put_1 : decode b_Line_put 1 = .ok (.getfield 13, 3) := by decide +kernel
theorem d_Line_put_4 : decode b_Line_put 4 = .ok (.bipush 64, 2) := by decide +kernel
theorem d_Line_put_6 : decode b_Line_put 6 = .ok (.if_icmp .ge 23, 3) := by decide +kernel
theorem d_Line_put_9 : decode b_Line_put 9 = .ok (.aload_n 0, 1) := by decide +kernel
theorem d_Line_put_10 : decode b_Line_put 10 = .ok (.getfield 9, 3) := by decide +kernel
theorem d_Line_put_13 : decode b_Line_put 13 = .ok (.aload_n 0, 1) := by decide +kernel
theorem d_Line_put_14 : decode b_Line_put 14 = .ok (.getfield 13, 3) := by decide +kernel
theorem d_Line_put_17 : decode b_Line_put 17 = .ok (.iload_n 1, 1) := by decide +kernel
theorem d_Line_put_18 : decode b_Line_put 18 = .ok (.castore, 1) := by decide +kernel
theorem d_Line_put_19 : decode b_Line_put 19 = .ok (.aload_n 0, 1) := by decide +kernel
theorem d_Line_put_20 : decode b_Line_put 20 = .ok (.dup, 1) := by decide +kernel
theorem d_Line_put_21 : decode b_Line_put 21 = .ok (.getfield 13, 3) := by decide +kernel
theorem d_Line_put_24 : decode b_Line_put 24 = .ok (.iconst 1, 1) := by decide +kernel
theorem d_Line_put_25 : decode b_Line_put 25 = .ok (.iadd, 1) := by decide +kernel
theorem d_Line_put_26 : decode b_Line_put 26 = .ok (.putfield 13, 3) := by decide +kernel
theorem d_Line_put_29 : decode b_Line_put 29 = .ok (.return_, 1) := by decide +kernel
theorem d_Line_clear_0 : decode b_Line_clear 0 = .ok (.aload_n 0, 1) := by decide +kernel
theorem d_Line_clear_1 : decode b_Line_clear 1 = .ok (.iconst 0, 1) := by decide +kernel
theorem d_Line_clear_2 : decode b_Line_clear 2 = .ok (.putfield 13, 3) := by decide +kernel
theorem d_Line_clear_5 : decode b_Line_clear 5 = .ok (.return_, 1) := by decide +kernel
