abbrev b_Str_coder : ByteArray := prog_17_method_152_code
abbrev y_Str_coder : MethodName := ⟨"java/lang/String", "coder", "()B"⟩
theorem d_Str_coder_0 : decode b_Str_coder 0 = .ok (.getstatic 38, 3) := by decide +kernel
theorem d_Str_coder_3 : decode b_Str_coder 3 = .ok (.ifCond .eq 10, 3) := by decide +kernel
theorem d_Str_coder_6 : decode b_Str_coder 6 = .ok (.aload_n 0, 1) := by decide +kernel
theorem d_Str_coder_7 : decode b_Str_coder 7 = .ok (.getfield 15, 3) := by decide +kernel
theorem d_Str_coder_10 : decode b_Str_coder 10 = .ok (.goto 4, 3) := by decide +kernel
theorem d_Str_coder_13 : decode b_Str_coder 13 = .ok (.iconst 1, 1) := by decide +kernel
theorem d_Str_coder_14 : decode b_Str_coder 14 = .ok (.ireturn, 1) := by decide +kernel
abbrev b_Str_isLatin1 : ByteArray := prog_17_method_154_code
abbrev y_Str_isLatin1 : MethodName := ⟨"java/lang/String", "isLatin1", "()Z"⟩
theorem d_Str_isLatin1_0 : decode b_Str_isLatin1 0 = .ok (.getstatic 38, 3) := by decide +kernel
theorem d_Str_isLatin1_3 : decode b_Str_isLatin1 3 = .ok (.ifCond .eq 14, 3) := by decide +kernel
theorem d_Str_isLatin1_6 : decode b_Str_isLatin1 6 = .ok (.aload_n 0, 1) := by decide +kernel
theorem d_Str_isLatin1_7 : decode b_Str_isLatin1 7 = .ok (.getfield 15, 3) := by decide +kernel
theorem d_Str_isLatin1_10 : decode b_Str_isLatin1 10 = .ok (.ifCond .ne 7, 3) := by decide +kernel
theorem d_Str_isLatin1_13 : decode b_Str_isLatin1 13 = .ok (.iconst 1, 1) := by decide +kernel
theorem d_Str_isLatin1_14 : decode b_Str_isLatin1 14 = .ok (.goto 4, 3) := by decide +kernel
theorem d_Str_isLatin1_17 : decode b_Str_isLatin1 17 = .ok (.iconst 0, 1) := by decide +kernel
theorem d_Str_isLatin1_18 : decode b_Str_isLatin1 18 = .ok (.ireturn, 1) := by decide +kernel
abbrev b_Str_length : ByteArray := prog_17_method_54_code
abbrev y_Str_length : MethodName := ⟨"java/lang/String", "length", "()I"⟩
theorem d_Str_length_0 : decode b_Str_length 0 = .ok (.aload_n 0, 1) := by decide +kernel
theorem d_Str_length_1 : decode b_Str_length 1 = .ok (.getfield 9, 3) := by decide +kernel
theorem d_Str_length_4 : decode b_Str_length 4 = .ok (.arraylength, 1) := by decide +kernel
theorem d_Str_length_5 : decode b_Str_length 5 = .ok (.aload_n 0, 1) := by decide +kernel
theorem d_Str_length_6 : decode b_Str_length 6 = .ok (.invokevirtual 335, 3) := by decide +kernel
theorem d_Str_length_9 : decode b_Str_length 9 = .ok (.ishr, 1) := by decide +kernel
theorem d_Str_length_10 : decode b_Str_length 10 = .ok (.ireturn, 1) := by decide +kernel
abbrev b_Lat_canEncode : ByteArray := prog_18_method_4_code
abbrev y_Lat_canEncode : MethodName := ⟨"java/lang/StringLatin1", "canEncode", "(I)Z"⟩
theorem d_Lat_canEncode_0 : decode b_Lat_canEncode 0 = .ok (.iload_n 0, 1) := by decide +kernel
theorem d_Lat_canEncode_1 : decode b_Lat_canEncode 1 = .ok (.ifCond .lt 14, 3) := by decide +kernel
theorem d_Lat_canEncode_4 : decode b_Lat_canEncode 4 = .ok (.iload_n 0, 1) := by decide +kernel
theorem d_Lat_canEncode_5 : decode b_Lat_canEncode 5 = .ok (.sipush 255, 3) := by decide +kernel
theorem d_Lat_canEncode_8 : decode b_Lat_canEncode 8 = .ok (.if_icmp .gt 7, 3) := by decide +kernel
theorem d_Lat_canEncode_11 : decode b_Lat_canEncode 11 = .ok (.iconst 1, 1) := by decide +kernel
theorem d_Lat_canEncode_12 : decode b_Lat_canEncode 12 = .ok (.goto 4, 3) := by decide +kernel
theorem d_Lat_canEncode_15 : decode b_Lat_canEncode 15 = .ok (.iconst 0, 1) := by decide +kernel
theorem d_Lat_canEncode_16 : decode b_Lat_canEncode 16 = .ok (.ireturn, 1) := by decide +kernel
abbrev b_Lat_indexOfChar : ByteArray := prog_18_method_23_code
abbrev y_Lat_indexOfChar : MethodName := ⟨"java/lang/StringLatin1", "indexOfChar", "([BIII)I"⟩
theorem d_Lat_indexOfChar_0 : decode b_Lat_indexOfChar 0 = .ok (.iload_n 1, 1) := by decide +kernel
theorem d_Lat_indexOfChar_1 : decode b_Lat_indexOfChar 1 = .ok (.i2b, 1) := by decide +kernel
theorem d_Lat_indexOfChar_2 : decode b_Lat_indexOfChar 2 = .ok (.istore 4, 2) := by decide +kernel
theorem d_Lat_indexOfChar_4 : decode b_Lat_indexOfChar 4 = .ok (.iload_n 2, 1) := by decide +kernel
theorem d_Lat_indexOfChar_5 : decode b_Lat_indexOfChar 5 = .ok (.istore 5, 2) := by decide +kernel
theorem d_Lat_indexOfChar_7 : decode b_Lat_indexOfChar 7 = .ok (.iload 5, 2) := by decide +kernel
theorem d_Lat_indexOfChar_9 : decode b_Lat_indexOfChar 9 = .ok (.iload_n 3, 1) := by decide +kernel
theorem d_Lat_indexOfChar_10 : decode b_Lat_indexOfChar 10 = .ok (.if_icmp .ge 21, 3) := by decide +kernel
theorem d_Lat_indexOfChar_13 : decode b_Lat_indexOfChar 13 = .ok (.aload_n 0, 1) := by decide +kernel
theorem d_Lat_indexOfChar_14 : decode b_Lat_indexOfChar 14 = .ok (.iload 5, 2) := by decide +kernel
theorem d_Lat_indexOfChar_16 : decode b_Lat_indexOfChar 16 = .ok (.baload, 1) := by decide +kernel
theorem d_Lat_indexOfChar_17 : decode b_Lat_indexOfChar 17 = .ok (.iload 4, 2) := by decide +kernel
theorem d_Lat_indexOfChar_19 : decode b_Lat_indexOfChar 19 = .ok (.if_icmp .ne 6, 3) := by decide +kernel
theorem d_Lat_indexOfChar_22 : decode b_Lat_indexOfChar 22 = .ok (.iload 5, 2) := by decide +kernel
theorem d_Lat_indexOfChar_24 : decode b_Lat_indexOfChar 24 = .ok (.ireturn, 1) := by decide +kernel
theorem d_Lat_indexOfChar_25 : decode b_Lat_indexOfChar 25 = .ok (.iinc 5 1, 3) := by decide +kernel
theorem d_Lat_indexOfChar_28 : decode b_Lat_indexOfChar 28 = .ok (.goto (-21), 3) := by decide +kernel
theorem d_Lat_indexOfChar_31 : decode b_Lat_indexOfChar 31 = .ok (.iconst (-1), 1) := by decide +kernel
theorem d_Lat_indexOfChar_32 : decode b_Lat_indexOfChar 32 = .ok (.ireturn, 1) := by decide +kernel
abbrev b_Lat_indexOf : ByteArray := prog_18_method_22_code
abbrev y_Lat_indexOf : MethodName := ⟨"java/lang/StringLatin1", "indexOf", "([BIII)I"⟩
theorem d_Lat_indexOf_0 : decode b_Lat_indexOf 0 = .ok (.iload_n 1, 1) := by decide +kernel
theorem d_Lat_indexOf_1 : decode b_Lat_indexOf 1 = .ok (.invokestatic 88, 3) := by decide +kernel
theorem d_Lat_indexOf_4 : decode b_Lat_indexOf 4 = .ok (.ifCond .ne 5, 3) := by decide +kernel
theorem d_Lat_indexOf_7 : decode b_Lat_indexOf 7 = .ok (.iconst (-1), 1) := by decide +kernel
theorem d_Lat_indexOf_8 : decode b_Lat_indexOf 8 = .ok (.ireturn, 1) := by decide +kernel
theorem d_Lat_indexOf_9 : decode b_Lat_indexOf 9 = .ok (.iload_n 2, 1) := by decide +kernel
theorem d_Lat_indexOf_10 : decode b_Lat_indexOf 10 = .ok (.iconst 0, 1) := by decide +kernel
theorem d_Lat_indexOf_11 : decode b_Lat_indexOf 11 = .ok (.invokestatic 92, 3) := by decide +kernel
theorem d_Lat_indexOf_14 : decode b_Lat_indexOf 14 = .ok (.istore_n 2, 1) := by decide +kernel
theorem d_Lat_indexOf_15 : decode b_Lat_indexOf 15 = .ok (.iload_n 3, 1) := by decide +kernel
theorem d_Lat_indexOf_16 : decode b_Lat_indexOf 16 = .ok (.aload_n 0, 1) := by decide +kernel
theorem d_Lat_indexOf_17 : decode b_Lat_indexOf 17 = .ok (.arraylength, 1) := by decide +kernel
theorem d_Lat_indexOf_18 : decode b_Lat_indexOf 18 = .ok (.invokestatic 38, 3) := by decide +kernel
theorem d_Lat_indexOf_21 : decode b_Lat_indexOf 21 = .ok (.istore_n 3, 1) := by decide +kernel
theorem d_Lat_indexOf_22 : decode b_Lat_indexOf 22 = .ok (.iload_n 2, 1) := by decide +kernel
theorem d_Lat_indexOf_23 : decode b_Lat_indexOf 23 = .ok (.iload_n 3, 1) := by decide +kernel
theorem d_Lat_indexOf_24 : decode b_Lat_indexOf 24 = .ok (.if_icmp .lt 5, 3) := by decide +kernel
theorem d_Lat_indexOf_27 : decode b_Lat_indexOf 27 = .ok (.iconst (-1), 1) := by decide +kernel
theorem d_Lat_indexOf_28 : decode b_Lat_indexOf 28 = .ok (.ireturn, 1) := by decide +kernel
theorem d_Lat_indexOf_29 : decode b_Lat_indexOf 29 = .ok (.aload_n 0, 1) := by decide +kernel
theorem d_Lat_indexOf_30 : decode b_Lat_indexOf 30 = .ok (.iload_n 1, 1) := by decide +kernel
theorem d_Lat_indexOf_31 : decode b_Lat_indexOf 31 = .ok (.iload_n 2, 1) := by decide +kernel
theorem d_Lat_indexOf_32 : decode b_Lat_indexOf 32 = .ok (.iload_n 3, 1) := by decide +kernel
theorem d_Lat_indexOf_33 : decode b_Lat_indexOf 33 = .ok (.invokestatic 95, 3) := by decide +kernel
theorem d_Lat_indexOf_36 : decode b_Lat_indexOf 36 = .ok (.ireturn, 1) := by decide +kernel
abbrev b_Str_indexOf2 : ByteArray := prog_17_method_80_code
abbrev y_Str_indexOf2 : MethodName := ⟨"java/lang/String", "indexOf", "(II)I"⟩
theorem d_Str_indexOf2_0 : decode b_Str_indexOf2 0 = .ok (.aload_n 0, 1) := by decide +kernel
theorem d_Str_indexOf2_1 : decode b_Str_indexOf2 1 = .ok (.invokevirtual 492, 3) := by decide +kernel
theorem d_Str_indexOf2_4 : decode b_Str_indexOf2 4 = .ok (.ifCond .eq 19, 3) := by decide +kernel
theorem d_Str_indexOf2_7 : decode b_Str_indexOf2 7 = .ok (.aload_n 0, 1) := by decide +kernel
theorem d_Str_indexOf2_8 : decode b_Str_indexOf2 8 = .ok (.getfield 9, 3) := by decide +kernel
theorem d_Str_indexOf2_11 : decode b_Str_indexOf2 11 = .ok (.iload_n 1, 1) := by decide +kernel
theorem d_Str_indexOf2_12 : decode b_Str_indexOf2 12 = .ok (.iload_n 2, 1) := by decide +kernel
theorem d_Str_indexOf2_13 : decode b_Str_indexOf2 13 = .ok (.aload_n 0, 1) := by decide +kernel
theorem d_Str_indexOf2_14 : decode b_Str_indexOf2 14 = .ok (.invokevirtual 505, 3) := by decide +kernel
theorem d_Str_indexOf2_17 : decode b_Str_indexOf2 17 = .ok (.invokestatic 637, 3) := by decide +kernel
theorem d_Str_indexOf2_20 : decode b_Str_indexOf2 20 = .ok (.goto 16, 3) := by decide +kernel
theorem d_Str_indexOf2_23 : decode b_Str_indexOf2 23 = .ok (.aload_n 0, 1) := by decide +kernel
theorem d_Str_indexOf2_24 : decode b_Str_indexOf2 24 = .ok (.getfield 9, 3) := by decide +kernel
theorem d_Str_indexOf2_27 : decode b_Str_indexOf2 27 = .ok (.iload_n 1, 1) := by decide +kernel
theorem d_Str_indexOf2_28 : decode b_Str_indexOf2 28 = .ok (.iload_n 2, 1) := by decide +kernel
theorem d_Str_indexOf2_29 : decode b_Str_indexOf2 29 = .ok (.aload_n 0, 1) := by decide +kernel
theorem d_Str_indexOf2_30 : decode b_Str_indexOf2 30 = .ok (.invokevirtual 505, 3) := by decide +kernel
theorem d_Str_indexOf2_33 : decode b_Str_indexOf2 33 = .ok (.invokestatic 640, 3) := by decide +kernel
theorem d_Str_indexOf2_36 : decode b_Str_indexOf2 36 = .ok (.ireturn, 1) := by decide +kernel
abbrev b_Str_indexOf : ByteArray := prog_17_method_79_code
abbrev y_Str_indexOf : MethodName := ⟨"java/lang/String", "indexOf", "(I)I"⟩
theorem d_Str_indexOf_0 : decode b_Str_indexOf 0 = .ok (.aload_n 0, 1) := by decide +kernel
theorem d_Str_indexOf_1 : decode b_Str_indexOf 1 = .ok (.iload_n 1, 1) := by decide +kernel
theorem d_Str_indexOf_2 : decode b_Str_indexOf 2 = .ok (.iconst 0, 1) := by decide +kernel
theorem d_Str_indexOf_3 : decode b_Str_indexOf 3 = .ok (.invokevirtual 633, 3) := by decide +kernel
theorem d_Str_indexOf_6 : decode b_Str_indexOf 6 = .ok (.ireturn, 1) := by decide +kernel
