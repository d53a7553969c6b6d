theorem d_Mo_init_0 : decode b_Mo_init 0 = .ok (.aload_n 0, 1) := by decide +kernel
theorem d_Mo_init_1 : decode b_Mo_init 1 = .ok (.invokespecial 1, 3) := by decide +kernel
theorem d_Mo_init_4 : decode b_Mo_init 4 = .ok (.aload_n 0, 1) := by decide +kernel
theorem d_Mo_init_5 : decode b_Mo_init 5 = .ok (.bipush 64, 2) := by decide +kernel
theorem d_Mo_init_7 : decode b_Mo_init 7 = .ok (.newarray .int, 2) := by decide +kernel
theorem d_Mo_init_9 : decode b_Mo_init 9 = .ok (.putfield 7, 3) := by decide +kernel
theorem d_Mo_init_12 : decode b_Mo_init 12 = .ok (.aload_n 0, 1) := by decide +kernel
theorem d_Mo_init_13 : decode b_Mo_init 13 = .ok (.bipush 72, 2) := by decide +kernel
theorem d_Mo_init_15 : decode b_Mo_init 15 = .ok (.newarray .int, 2) := by decide +kernel
theorem d_Mo_init_17 : decode b_Mo_init 17 = .ok (.putfield 13, 3) := by decide +kernel
theorem d_Mo_init_20 : decode b_Mo_init 20 = .ok (.aload_n 0, 1) := by decide +kernel
theorem d_Mo_init_21 : decode b_Mo_init 21 = .ok (.bipush 8, 2) := by decide +kernel
theorem d_Mo_init_23 : decode b_Mo_init 23 = .ok (.newarray .int, 2) := by decide +kernel
theorem d_Mo_init_25 : decode b_Mo_init 25 = .ok (.putfield 16, 3) := by decide +kernel
theorem d_Mo_init_28 : decode b_Mo_init 28 = .ok (.aload_n 0, 1) := by decide +kernel
theorem d_Mo_init_29 : decode b_Mo_init 29 = .ok (.bipush 8, 2) := by decide +kernel
theorem d_Mo_init_31 : decode b_Mo_init 31 = .ok (.newarray .int, 2) := by decide +kernel
theorem d_Mo_init_33 : decode b_Mo_init 33 = .ok (.putfield 19, 3) := by decide +kernel
theorem d_Mo_init_36 : decode b_Mo_init 36 = .ok (.aload_n 0, 1) := by decide +kernel
theorem d_Mo_init_37 : decode b_Mo_init 37 = .ok (.bipush 72, 2) := by decide +kernel
theorem d_Mo_init_39 : decode b_Mo_init 39 = .ok (.newarray .int, 2) := by decide +kernel
theorem d_Mo_init_41 : decode b_Mo_init 41 = .ok (.putfield 22, 3) := by decide +kernel
theorem d_Mo_init_44 : decode b_Mo_init 44 = .ok (.aload_n 0, 1) := by decide +kernel
theorem d_Mo_init_45 : decode b_Mo_init 45 = .ok (.bipush 8, 2) := by decide +kernel
theorem d_Mo_init_47 : decode b_Mo_init 47 = .ok (.newarray .int, 2) := by decide +kernel
theorem d_Mo_init_49 : decode b_Mo_init 49 = .ok (.putfield 25, 3) := by decide +kernel
theorem d_Mo_init_52 : decode b_Mo_init 52 = .ok (.aload_n 0, 1) := by decide +kernel
theorem d_Mo_init_53 : decode b_Mo_init 53 = .ok (.bipush 8, 2) := by decide +kernel
theorem d_Mo_init_55 : decode b_Mo_init 55 = .ok (.newarray .int, 2) := by decide +kernel
theorem d_Mo_init_57 : decode b_Mo_init 57 = .ok (.putfield 28, 3) := by decide +kernel
theorem d_Mo_init_60 : decode b_Mo_init 60 = .ok (.aload_n 0, 1) := by decide +kernel
theorem d_Mo_init_61 : decode b_Mo_init 61 = .ok (.bipush 8, 2) := by decide +kernel
theorem d_Mo_init_63 : decode b_Mo_init 63 = .ok (.newarray .int, 2) := by decide +kernel
theorem d_Mo_init_65 : decode b_Mo_init 65 = .ok (.putfield 31, 3) := by decide +kernel
theorem d_Mo_init_68 : decode b_Mo_init 68 = .ok (.aload_n 0, 1) := by decide +kernel
theorem d_Mo_init_69 : decode b_Mo_init 69 = .ok (.bipush 8, 2) := by decide +kernel
theorem d_Mo_init_71 : decode b_Mo_init 71 = .ok (.newarray .int, 2) := by decide +kernel
theorem d_Mo_init_73 : decode b_Mo_init 73 = .ok (.putfield 34, 3) := by decide +kernel
theorem d_Mo_init_76 : decode b_Mo_init 76 = .ok (.aload_n 0, 1) := by decide +kernel
theorem d_Mo_init_77 : decode b_Mo_init 77 = .ok (.bipush 8, 2) := by decide +kernel
theorem d_Mo_init_79 : decode b_Mo_init 79 = .ok (.newarray .int, 2) := by decide +kernel
theorem d_Mo_init_81 : decode b_Mo_init 81 = .ok (.putfield 37, 3) := by decide +kernel
theorem d_Mo_init_84 : decode b_Mo_init 84 = .ok (.aload_n 0, 1) := by decide +kernel
theorem d_Mo_init_85 : decode b_Mo_init 85 = .ok (.bipush 8, 2) := by decide +kernel
theorem d_Mo_init_87 : decode b_Mo_init 87 = .ok (.newarray .int, 2) := by decide +kernel
theorem d_Mo_init_89 : decode b_Mo_init 89 = .ok (.putfield 40, 3) := by decide +kernel
theorem d_Mo_init_92 : decode b_Mo_init 92 = .ok (.aload_n 0, 1) := by decide +kernel
theorem d_Mo_init_93 : decode b_Mo_init 93 = .ok (.bipush 8, 2) := by decide +kernel
theorem d_Mo_init_95 : decode b_Mo_init 95 = .ok (.newarray .int, 2) := by decide +kernel
theorem d_Mo_init_97 : decode b_Mo_init 97 = .ok (.putfield 43, 3) := by decide +kernel
theorem d_Mo_init_100 : decode b_Mo_init 100 = .ok (.aload_n 0, 1) := by decide +kernel
theorem d_Mo_init_101 : decode b_Mo_init 101 = .ok (.bipush 8, 2) := by decide +kernel
theorem d_Mo_init_103 : decode b_Mo_init 103 = .ok (.newarray .int, 2) := by decide +kernel
theorem d_Mo_init_105 : decode b_Mo_init 105 = .ok (.putfield 46, 3) := by decide +kernel
theorem d_Mo_init_108 : decode b_Mo_init 108 = .ok (.aload_n 0, 1) := by decide +kernel
theorem d_Mo_init_109 : decode b_Mo_init 109 = .ok (.bipush 8, 2) := by decide +kernel
theorem d_Mo_init_111 : decode b_Mo_init 111 = .ok (.newarray .int, 2) := by decide +kernel
theorem d_Mo_init_113 : decode b_Mo_init 113 = .ok (.putfield 49, 3) := by decide +kernel
theorem d_Mo_init_116 : decode b_Mo_init 116 = .ok (.aload_n 0, 1) := by decide +kernel
theorem d_Mo_init_117 : decode b_Mo_init 117 = .ok (.bipush 8, 2) := by decide +kernel
theorem d_Mo_init_119 : decode b_Mo_init 119 = .ok (.newarray .int, 2) := by decide +kernel
theorem d_Mo_init_121 : decode b_Mo_init 121 = .ok (.putfield 52, 3) := by decide +kernel
theorem d_Mo_init_124 : decode b_Mo_init 124 = .ok (.aload_n 0, 1) := by decide +kernel
theorem d_Mo_init_125 : decode b_Mo_init 125 = .ok (.sipush 1000, 3) := by decide +kernel
theorem d_Mo_init_128 : decode b_Mo_init 128 = .ok (.putfield 55, 3) := by decide +kernel
theorem d_Mo_init_131 : decode b_Mo_init 131 = .ok (.aload_n 0, 1) := by decide +kernel
theorem d_Mo_init_132 : decode b_Mo_init 132 = .ok (.bipush 24, 2) := by decide +kernel
theorem d_Mo_init_134 : decode b_Mo_init 134 = .ok (.newarray .int, 2) := by decide +kernel
theorem d_Mo_init_136 : decode b_Mo_init 136 = .ok (.putfield 59, 3) := by decide +kernel
theorem d_Mo_init_139 : decode b_Mo_init 139 = .ok (.aload_n 0, 1) := by decide +kernel
theorem d_Mo_init_140 : decode b_Mo_init 140 = .ok (.iconst (-1), 1) := by decide +kernel
theorem d_Mo_init_141 : decode b_Mo_init 141 = .ok (.putfield 62, 3) := by decide +kernel
theorem d_Mo_init_144 : decode b_Mo_init 144 = .ok (.aload_n 0, 1) := by decide +kernel
theorem d_Mo_init_145 : decode b_Mo_init 145 = .ok (.iconst 5, 1) := by decide +kernel
theorem d_Mo_init_146 : decode b_Mo_init 146 = .ok (.putfield 65, 3) := by decide +kernel
theorem d_Mo_init_149 : decode b_Mo_init 149 = .ok (.aload_n 0, 1) := by decide +kernel
theorem d_Mo_init_150 : decode b_Mo_init 150 = .ok (.bipush 20, 2) := by decide +kernel
theorem d_Mo_init_152 : decode b_Mo_init 152 = .ok (.putfield 68, 3) := by decide +kernel
theorem d_Mo_init_155 : decode b_Mo_init 155 = .ok (.aload_n 0, 1) := by decide +kernel
theorem d_Mo_init_156 : decode b_Mo_init 156 = .ok (.iconst 0, 1) := by decide +kernel
theorem d_Mo_init_157 : decode b_Mo_init 157 = .ok (.putfield 71, 3) := by decide +kernel
theorem d_Mo_init_160 : decode b_Mo_init 160 = .ok (.return_, 1) := by decide +kernel
theorem d_Mo_thrown_0 : decode b_Mo_thrown 0 = .ok (.aload_n 0, 1) := by decide +kernel
theorem d_Mo_thrown_1 : decode b_Mo_thrown 1 = .ok (.getfield 74, 3) := by decide +kernel
theorem d_Mo_thrown_4 : decode b_Mo_thrown 4 = .ok (.ireturn, 1) := by decide +kernel
theorem d_Mo_refused_0 : decode b_Mo_refused 0 = .ok (.aload_n 0, 1) := by decide +kernel
theorem d_Mo_refused_1 : decode b_Mo_refused 1 = .ok (.iload_n 1, 1) := by decide +kernel
theorem d_Mo_refused_2 : decode b_Mo_refused 2 = .ok (.ifCond .eq 7, 3) := by decide +kernel
theorem d_Mo_refused_5 : decode b_Mo_refused 5 = .ok (.iconst 1, 1) := by decide +kernel
theorem d_Mo_refused_6 : decode b_Mo_refused 6 = .ok (.goto 12, 3) := by decide +kernel
theorem d_Mo_refused_9 : decode b_Mo_refused 9 = .ok (.iload_n 2, 1) := by decide +kernel
theorem d_Mo_refused_10 : decode b_Mo_refused 10 = .ok (.ifCond .eq 7, 3) := by decide +kernel
theorem d_Mo_refused_13 : decode b_Mo_refused 13 = .ok (.iconst 2, 1) := by decide +kernel
theorem d_Mo_refused_14 : decode b_Mo_refused 14 = .ok (.goto 4, 3) := by decide +kernel
theorem d_Mo_refused_17 : decode b_Mo_refused 17 = .ok (.iconst 0, 1) := by decide +kernel
theorem d_Mo_refused_18 : decode b_Mo_refused 18 = .ok (.putfield 74, 3) := by decide +kernel
theorem d_Mo_refused_21 : decode b_Mo_refused 21 = .ok (.aload_n 0, 1) := by decide +kernel
theorem d_Mo_refused_22 : decode b_Mo_refused 22 = .ok (.getfield 74, 3) := by decide +kernel
theorem d_Mo_refused_25 : decode b_Mo_refused 25 = .ok (.ifCond .le 7, 3) := by decide +kernel
theorem d_Mo_refused_28 : decode b_Mo_refused 28 = .ok (.iconst 1, 1) := by decide +kernel
theorem d_Mo_refused_29 : decode b_Mo_refused 29 = .ok (.goto 4, 3) := by decide +kernel
theorem d_Mo_refused_32 : decode b_Mo_refused 32 = .ok (.iconst 0, 1) := by decide +kernel
theorem d_Mo_refused_33 : decode b_Mo_refused 33 = .ok (.ireturn, 1) := by decide +kernel
theorem d_Mo_type_0 : decode b_Mo_type 0 = .ok (.iconst 0, 1) := by decide +kernel
theorem d_Mo_type_1 : decode b_Mo_type 1 = .ok (.istore_n 2, 1) := by decide +kernel
theorem d_Mo_type_2 : decode b_Mo_type 2 = .ok (.iconst 1, 1) := by decide +kernel
theorem d_Mo_type_3 : decode b_Mo_type 3 = .ok (.istore_n 3, 1) := by decide +kernel
theorem d_Mo_type_4 : decode b_Mo_type 4 = .ok (.iconst 0, 1) := by decide +kernel
theorem d_Mo_type_5 : decode b_Mo_type 5 = .ok (.istore 4, 2) := by decide +kernel
theorem d_Mo_type_7 : decode b_Mo_type 7 = .ok (.iconst 0, 1) := by decide +kernel
theorem d_Mo_type_8 : decode b_Mo_type 8 = .ok (.istore 5, 2) := by decide +kernel
theorem d_Mo_type_10 : decode b_Mo_type 10 = .ok (.iload 5, 2) := by decide +kernel
theorem d_Mo_type_12 : decode b_Mo_type 12 = .ok (.iconst 4, 1) := by decide +kernel
theorem d_Mo_type_13 : decode b_Mo_type 13 = .ok (.if_icmp .ge 79, 3) := by decide +kernel
theorem d_Mo_type_16 : decode b_Mo_type 16 = .ok (.iload_n 1, 1) := by decide +kernel
theorem d_Mo_type_17 : decode b_Mo_type 17 = .ok (.bipush 8, 2) := by decide +kernel
theorem d_Mo_type_19 : decode b_Mo_type 19 = .ok (.iload 5, 2) := by decide +kernel
theorem d_Mo_type_21 : decode b_Mo_type 21 = .ok (.imul, 1) := by decide +kernel
theorem d_Mo_type_22 : decode b_Mo_type 22 = .ok (.ishr, 1) := by decide +kernel
theorem d_Mo_type_23 : decode b_Mo_type 23 = .ok (.sipush 255, 3) := by decide +kernel
theorem d_Mo_type_26 : decode b_Mo_type 26 = .ok (.iand, 1) := by decide +kernel
theorem d_Mo_type_27 : decode b_Mo_type 27 = .ok (.istore 6, 2) := by decide +kernel
theorem d_Mo_type_29 : decode b_Mo_type 29 = .ok (.iload_n 3, 1) := by decide +kernel
theorem d_Mo_type_30 : decode b_Mo_type 30 = .ok (.ifCond .eq 12, 3) := by decide +kernel
theorem d_Mo_type_33 : decode b_Mo_type 33 = .ok (.iload 6, 2) := by decide +kernel
theorem d_Mo_type_35 : decode b_Mo_type 35 = .ok (.ifCond .eq 7, 3) := by decide +kernel
theorem d_Mo_type_38 : decode b_Mo_type 38 = .ok (.iconst 1, 1) := by decide +kernel
theorem d_Mo_type_39 : decode b_Mo_type 39 = .ok (.goto 4, 3) := by decide +kernel
theorem d_Mo_type_42 : decode b_Mo_type 42 = .ok (.iconst 0, 1) := by decide +kernel
theorem d_Mo_type_43 : decode b_Mo_type 43 = .ok (.istore_n 3, 1) := by decide +kernel
theorem d_Mo_type_44 : decode b_Mo_type 44 = .ok (.iload 4, 2) := by decide +kernel
theorem d_Mo_type_46 : decode b_Mo_type 46 = .ok (.ifCond .ne 21, 3) := by decide +kernel
theorem d_Mo_type_49 : decode b_Mo_type 49 = .ok (.iload_n 3, 1) := by decide +kernel
theorem d_Mo_type_50 : decode b_Mo_type 50 = .ok (.ifCond .eq 21, 3) := by decide +kernel
theorem d_Mo_type_53 : decode b_Mo_type 53 = .ok (.iload 6, 2) := by decide +kernel
theorem d_Mo_type_55 : decode b_Mo_type 55 = .ok (.bipush 32, 2) := by decide +kernel
theorem d_Mo_type_57 : decode b_Mo_type 57 = .ok (.if_icmp .lt 10, 3) := by decide +kernel
theorem d_Mo_type_60 : decode b_Mo_type 60 = .ok (.iload 6, 2) := by decide +kernel
theorem d_Mo_type_62 : decode b_Mo_type 62 = .ok (.bipush 126, 2) := by decide +kernel
theorem d_Mo_type_64 : decode b_Mo_type 64 = .ok (.if_icmp .le 7, 3) := by decide +kernel
theorem d_Mo_type_67 : decode b_Mo_type 67 = .ok (.iconst 1, 1) := by decide +kernel
theorem d_Mo_type_68 : decode b_Mo_type 68 = .ok (.goto 4, 3) := by decide +kernel
theorem d_Mo_type_71 : decode b_Mo_type 71 = .ok (.iconst 0, 1) := by decide +kernel
theorem d_Mo_type_72 : decode b_Mo_type 72 = .ok (.istore 4, 2) := by decide +kernel
theorem d_Mo_type_74 : decode b_Mo_type 74 = .ok (.iload_n 3, 1) := by decide +kernel
theorem d_Mo_type_75 : decode b_Mo_type 75 = .ok (.ifCond .eq 9, 3) := by decide +kernel
theorem d_Mo_type_78 : decode b_Mo_type 78 = .ok (.iload_n 2, 1) := by decide +kernel
theorem d_Mo_type_79 : decode b_Mo_type 79 = .ok (.iconst 1, 1) := by decide +kernel
theorem d_Mo_type_80 : decode b_Mo_type 80 = .ok (.iadd, 1) := by decide +kernel
theorem d_Mo_type_81 : decode b_Mo_type 81 = .ok (.goto 4, 3) := by decide +kernel
theorem d_Mo_type_84 : decode b_Mo_type 84 = .ok (.iload_n 2, 1) := by decide +kernel
theorem d_Mo_type_85 : decode b_Mo_type 85 = .ok (.istore_n 2, 1) := by decide +kernel
theorem d_Mo_type_86 : decode b_Mo_type 86 = .ok (.iinc 5 1, 3) := by decide +kernel
theorem d_Mo_type_89 : decode b_Mo_type 89 = .ok (.goto (-79), 3) := by decide +kernel
theorem d_Mo_type_92 : decode b_Mo_type 92 = .ok (.aload_n 0, 1) := by decide +kernel
theorem d_Mo_type_93 : decode b_Mo_type 93 = .ok (.iload 4, 2) := by decide +kernel
theorem d_Mo_type_95 : decode b_Mo_type 95 = .ok (.ifCond .eq 7, 3) := by decide +kernel
theorem d_Mo_type_98 : decode b_Mo_type 98 = .ok (.iconst 1, 1) := by decide +kernel
theorem d_Mo_type_99 : decode b_Mo_type 99 = .ok (.goto 4, 3) := by decide +kernel
theorem d_Mo_type_102 : decode b_Mo_type 102 = .ok (.iconst 0, 1) := by decide +kernel
theorem d_Mo_type_103 : decode b_Mo_type 103 = .ok (.putfield 74, 3) := by decide +kernel
theorem d_Mo_type_106 : decode b_Mo_type 106 = .ok (.iload 4, 2) := by decide +kernel
theorem d_Mo_type_108 : decode b_Mo_type 108 = .ok (.ifCond .ne 14, 3) := by decide +kernel
theorem d_Mo_type_111 : decode b_Mo_type 111 = .ok (.aload_n 0, 1) := by decide +kernel
theorem d_Mo_type_112 : decode b_Mo_type 112 = .ok (.getfield 71, 3) := by decide +kernel
theorem d_Mo_type_115 : decode b_Mo_type 115 = .ok (.iload_n 2, 1) := by decide +kernel
theorem d_Mo_type_116 : decode b_Mo_type 116 = .ok (.iadd, 1) := by decide +kernel
theorem d_Mo_type_117 : decode b_Mo_type 117 = .ok (.bipush 64, 2) := by decide +kernel
theorem d_Mo_type_119 : decode b_Mo_type 119 = .ok (.if_icmp .le 5, 3) := by decide +kernel
theorem d_Mo_type_122 : decode b_Mo_type 122 = .ok (.iconst 0, 1) := by decide +kernel
theorem d_Mo_type_123 : decode b_Mo_type 123 = .ok (.ireturn, 1) := by decide +kernel
theorem d_Mo_type_124 : decode b_Mo_type 124 = .ok (.iconst 0, 1) := by decide +kernel
theorem d_Mo_type_125 : decode b_Mo_type 125 = .ok (.istore 5, 2) := by decide +kernel
theorem d_Mo_type_127 : decode b_Mo_type 127 = .ok (.iload 5, 2) := by decide +kernel
theorem d_Mo_type_129 : decode b_Mo_type 129 = .ok (.iload_n 2, 1) := by decide +kernel
theorem d_Mo_type_130 : decode b_Mo_type 130 = .ok (.if_icmp .ge 39, 3) := by decide +kernel
theorem d_Mo_type_133 : decode b_Mo_type 133 = .ok (.aload_n 0, 1) := by decide +kernel
theorem d_Mo_type_134 : decode b_Mo_type 134 = .ok (.getfield 7, 3) := by decide +kernel
theorem d_Mo_type_137 : decode b_Mo_type 137 = .ok (.aload_n 0, 1) := by decide +kernel
theorem d_Mo_type_138 : decode b_Mo_type 138 = .ok (.getfield 71, 3) := by decide +kernel
theorem d_Mo_type_141 : decode b_Mo_type 141 = .ok (.iload_n 1, 1) := by decide +kernel
theorem d_Mo_type_142 : decode b_Mo_type 142 = .ok (.bipush 8, 2) := by decide +kernel
theorem d_Mo_type_144 : decode b_Mo_type 144 = .ok (.iload 5, 2) := by decide +kernel
theorem d_Mo_type_146 : decode b_Mo_type 146 = .ok (.imul, 1) := by decide +kernel
theorem d_Mo_type_147 : decode b_Mo_type 147 = .ok (.ishr, 1) := by decide +kernel
theorem d_Mo_type_148 : decode b_Mo_type 148 = .ok (.sipush 255, 3) := by decide +kernel
theorem d_Mo_type_151 : decode b_Mo_type 151 = .ok (.iand, 1) := by decide +kernel
theorem d_Mo_type_152 : decode b_Mo_type 152 = .ok (.iastore, 1) := by decide +kernel
theorem d_Mo_type_153 : decode b_Mo_type 153 = .ok (.aload_n 0, 1) := by decide +kernel
theorem d_Mo_type_154 : decode b_Mo_type 154 = .ok (.dup, 1) := by decide +kernel
theorem d_Mo_type_155 : decode b_Mo_type 155 = .ok (.getfield 71, 3) := by decide +kernel
theorem d_Mo_type_158 : decode b_Mo_type 158 = .ok (.iconst 1, 1) := by decide +kernel
theorem d_Mo_type_159 : decode b_Mo_type 159 = .ok (.iadd, 1) := by decide +kernel
theorem d_Mo_type_160 : decode b_Mo_type 160 = .ok (.putfield 71, 3) := by decide +kernel
theorem d_Mo_type_163 : decode b_Mo_type 163 = .ok (.iinc 5 1, 3) := by decide +kernel
theorem d_Mo_type_166 : decode b_Mo_type 166 = .ok (.goto (-39), 3) := by decide +kernel
theorem d_Mo_type_169 : decode b_Mo_type 169 = .ok (.iconst 1, 1) := by decide +kernel
theorem d_Mo_type_170 : decode b_Mo_type 170 = .ok (.ireturn, 1) := by decide +kernel
theorem d_Mo_look_0 : decode b_Mo_look 0 = .ok (.aload_n 0, 1) := by decide +kernel
theorem d_Mo_look_1 : decode b_Mo_look 1 = .ok (.getfield 77, 3) := by decide +kernel
theorem d_Mo_look_4 : decode b_Mo_look 4 = .ok (.aload_n 0, 1) := by decide +kernel
theorem d_Mo_look_5 : decode b_Mo_look 5 = .ok (.getfield 71, 3) := by decide +kernel
theorem d_Mo_look_8 : decode b_Mo_look 8 = .ok (.if_icmp .ge 15, 3) := by decide +kernel
theorem d_Mo_look_11 : decode b_Mo_look 11 = .ok (.aload_n 0, 1) := by decide +kernel
theorem d_Mo_look_12 : decode b_Mo_look 12 = .ok (.getfield 7, 3) := by decide +kernel
theorem d_Mo_look_15 : decode b_Mo_look 15 = .ok (.aload_n 0, 1) := by decide +kernel
theorem d_Mo_look_16 : decode b_Mo_look 16 = .ok (.getfield 77, 3) := by decide +kernel
theorem d_Mo_look_19 : decode b_Mo_look 19 = .ok (.iaload, 1) := by decide +kernel
theorem d_Mo_look_20 : decode b_Mo_look 20 = .ok (.goto 4, 3) := by decide +kernel
theorem d_Mo_look_23 : decode b_Mo_look 23 = .ok (.iconst 0, 1) := by decide +kernel
theorem d_Mo_look_24 : decode b_Mo_look 24 = .ok (.ireturn, 1) := by decide +kernel
theorem d_Mo_isDigit_0 : decode b_Mo_isDigit 0 = .ok (.aload_n 0, 1) := by decide +kernel
theorem d_Mo_isDigit_1 : decode b_Mo_isDigit 1 = .ok (.invokevirtual 80, 3) := by decide +kernel
theorem d_Mo_isDigit_4 : decode b_Mo_isDigit 4 = .ok (.bipush 48, 2) := by decide +kernel
theorem d_Mo_isDigit_6 : decode b_Mo_isDigit 6 = .ok (.if_icmp .lt 16, 3) := by decide +kernel
theorem d_Mo_isDigit_9 : decode b_Mo_isDigit 9 = .ok (.aload_n 0, 1) := by decide +kernel
theorem d_Mo_isDigit_10 : decode b_Mo_isDigit 10 = .ok (.invokevirtual 80, 3) := by decide +kernel
theorem d_Mo_isDigit_13 : decode b_Mo_isDigit 13 = .ok (.bipush 57, 2) := by decide +kernel
theorem d_Mo_isDigit_15 : decode b_Mo_isDigit 15 = .ok (.if_icmp .gt 7, 3) := by decide +kernel
theorem d_Mo_isDigit_18 : decode b_Mo_isDigit 18 = .ok (.iconst 1, 1) := by decide +kernel
theorem d_Mo_isDigit_19 : decode b_Mo_isDigit 19 = .ok (.goto 4, 3) := by decide +kernel
theorem d_Mo_isDigit_22 : decode b_Mo_isDigit 22 = .ok (.iconst 0, 1) := by decide +kernel
theorem d_Mo_isDigit_23 : decode b_Mo_isDigit 23 = .ok (.ireturn, 1) := by decide +kernel
theorem d_Mo_readNumber_0 : decode b_Mo_readNumber 0 = .ok (.aload_n 0, 1) := by decide +kernel
theorem d_Mo_readNumber_1 : decode b_Mo_readNumber 1 = .ok (.invokevirtual 84, 3) := by decide +kernel
theorem d_Mo_readNumber_4 : decode b_Mo_readNumber 4 = .ok (.ifCond .ne 5, 3) := by decide +kernel
theorem d_Mo_readNumber_7 : decode b_Mo_readNumber 7 = .ok (.iconst (-1), 1) := by decide +kernel
theorem d_Mo_readNumber_8 : decode b_Mo_readNumber 8 = .ok (.ireturn, 1) := by decide +kernel
theorem d_Mo_readNumber_9 : decode b_Mo_readNumber 9 = .ok (.aload_n 0, 1) := by decide +kernel
theorem d_Mo_readNumber_10 : decode b_Mo_readNumber 10 = .ok (.invokevirtual 80, 3) := by decide +kernel
theorem d_Mo_readNumber_13 : decode b_Mo_readNumber 13 = .ok (.bipush 48, 2) := by decide +kernel
theorem d_Mo_readNumber_15 : decode b_Mo_readNumber 15 = .ok (.isub, 1) := by decide +kernel
theorem d_Mo_readNumber_16 : decode b_Mo_readNumber 16 = .ok (.istore_n 1, 1) := by decide +kernel
theorem d_Mo_readNumber_17 : decode b_Mo_readNumber 17 = .ok (.aload_n 0, 1) := by decide +kernel
theorem d_Mo_readNumber_18 : decode b_Mo_readNumber 18 = .ok (.dup, 1) := by decide +kernel
theorem d_Mo_readNumber_19 : decode b_Mo_readNumber 19 = .ok (.getfield 77, 3) := by decide +kernel
theorem d_Mo_readNumber_22 : decode b_Mo_readNumber 22 = .ok (.iconst 1, 1) := by decide +kernel
theorem d_Mo_readNumber_23 : decode b_Mo_readNumber 23 = .ok (.iadd, 1) := by decide +kernel
theorem d_Mo_readNumber_24 : decode b_Mo_readNumber 24 = .ok (.putfield 77, 3) := by decide +kernel
theorem d_Mo_readNumber_27 : decode b_Mo_readNumber 27 = .ok (.iload_n 1, 1) := by decide +kernel
theorem d_Mo_readNumber_28 : decode b_Mo_readNumber 28 = .ok (.ifCond .le 33, 3) := by decide +kernel
theorem d_Mo_readNumber_31 : decode b_Mo_readNumber 31 = .ok (.aload_n 0, 1) := by decide +kernel
theorem d_Mo_readNumber_32 : decode b_Mo_readNumber 32 = .ok (.invokevirtual 84, 3) := by decide +kernel
theorem d_Mo_readNumber_35 : decode b_Mo_readNumber 35 = .ok (.ifCond .eq 26, 3) := by decide +kernel
theorem d_Mo_readNumber_38 : decode b_Mo_readNumber 38 = .ok (.bipush 10, 2) := by decide +kernel
theorem d_Mo_readNumber_40 : decode b_Mo_readNumber 40 = .ok (.iload_n 1, 1) := by decide +kernel
theorem d_Mo_readNumber_41 : decode b_Mo_readNumber 41 = .ok (.imul, 1) := by decide +kernel
theorem d_Mo_readNumber_42 : decode b_Mo_readNumber 42 = .ok (.aload_n 0, 1) := by decide +kernel
theorem d_Mo_readNumber_43 : decode b_Mo_readNumber 43 = .ok (.invokevirtual 80, 3) := by decide +kernel
theorem d_Mo_readNumber_46 : decode b_Mo_readNumber 46 = .ok (.iadd, 1) := by decide +kernel
theorem d_Mo_readNumber_47 : decode b_Mo_readNumber 47 = .ok (.bipush 48, 2) := by decide +kernel
theorem d_Mo_readNumber_49 : decode b_Mo_readNumber 49 = .ok (.isub, 1) := by decide +kernel
theorem d_Mo_readNumber_50 : decode b_Mo_readNumber 50 = .ok (.istore_n 1, 1) := by decide +kernel
theorem d_Mo_readNumber_51 : decode b_Mo_readNumber 51 = .ok (.aload_n 0, 1) := by decide +kernel
theorem d_Mo_readNumber_52 : decode b_Mo_readNumber 52 = .ok (.dup, 1) := by decide +kernel
theorem d_Mo_readNumber_53 : decode b_Mo_readNumber 53 = .ok (.getfield 77, 3) := by decide +kernel
theorem d_Mo_readNumber_56 : decode b_Mo_readNumber 56 = .ok (.iconst 1, 1) := by decide +kernel
theorem d_Mo_readNumber_57 : decode b_Mo_readNumber 57 = .ok (.iadd, 1) := by decide +kernel
theorem d_Mo_readNumber_58 : decode b_Mo_readNumber 58 = .ok (.putfield 77, 3) := by decide +kernel
theorem d_Mo_readNumber_61 : decode b_Mo_readNumber 61 = .ok (.iload_n 1, 1) := by decide +kernel
theorem d_Mo_readNumber_62 : decode b_Mo_readNumber 62 = .ok (.ireturn, 1) := by decide +kernel
theorem d_Mo_readInto_0 : decode b_Mo_readInto 0 = .ok (.aload_n 0, 1) := by decide +kernel
theorem d_Mo_readInto_1 : decode b_Mo_readInto 1 = .ok (.invokevirtual 88, 3) := by decide +kernel
theorem d_Mo_readInto_4 : decode b_Mo_readInto 4 = .ok (.istore_n 2, 1) := by decide +kernel
theorem d_Mo_readInto_5 : decode b_Mo_readInto 5 = .ok (.aload_n 0, 1) := by decide +kernel
theorem d_Mo_readInto_6 : decode b_Mo_readInto 6 = .ok (.getfield 13, 3) := by decide +kernel
theorem d_Mo_readInto_9 : decode b_Mo_readInto 9 = .ok (.bipush 8, 2) := by decide +kernel
theorem d_Mo_readInto_11 : decode b_Mo_readInto 11 = .ok (.iload_n 1, 1) := by decide +kernel
theorem d_Mo_readInto_12 : decode b_Mo_readInto 12 = .ok (.imul, 1) := by decide +kernel
theorem d_Mo_readInto_13 : decode b_Mo_readInto 13 = .ok (.aload_n 0, 1) := by decide +kernel
theorem d_Mo_readInto_14 : decode b_Mo_readInto 14 = .ok (.getfield 91, 3) := by decide +kernel
theorem d_Mo_readInto_17 : decode b_Mo_readInto 17 = .ok (.iadd, 1) := by decide +kernel
theorem d_Mo_readInto_18 : decode b_Mo_readInto 18 = .ok (.iload_n 2, 1) := by decide +kernel
theorem d_Mo_readInto_19 : decode b_Mo_readInto 19 = .ok (.iastore, 1) := by decide +kernel
theorem d_Mo_readInto_20 : decode b_Mo_readInto 20 = .ok (.iload_n 2, 1) := by decide +kernel
theorem d_Mo_readInto_21 : decode b_Mo_readInto 21 = .ok (.ifCond .lt 7, 3) := by decide +kernel
theorem d_Mo_readInto_24 : decode b_Mo_readInto 24 = .ok (.iconst 1, 1) := by decide +kernel
theorem d_Mo_readInto_25 : decode b_Mo_readInto 25 = .ok (.goto 4, 3) := by decide +kernel
theorem d_Mo_readInto_28 : decode b_Mo_readInto 28 = .ok (.iconst 0, 1) := by decide +kernel
theorem d_Mo_readInto_29 : decode b_Mo_readInto 29 = .ok (.ireturn, 1) := by decide +kernel
theorem d_Mo_rowOf_0 : decode b_Mo_rowOf 0 = .ok (.iload_n 0, 1) := by decide +kernel
theorem d_Mo_rowOf_1 : decode b_Mo_rowOf 1 = .ok (.bipush 69, 2) := by decide +kernel
theorem d_Mo_rowOf_3 : decode b_Mo_rowOf 3 = .ok (.if_icmp .ne 7, 3) := by decide +kernel
theorem d_Mo_rowOf_6 : decode b_Mo_rowOf 6 = .ok (.iconst 2, 1) := by decide +kernel
theorem d_Mo_rowOf_7 : decode b_Mo_rowOf 7 = .ok (.goto 45, 3) := by decide +kernel
theorem d_Mo_rowOf_10 : decode b_Mo_rowOf 10 = .ok (.iload_n 0, 1) := by decide +kernel
theorem d_Mo_rowOf_11 : decode b_Mo_rowOf 11 = .ok (.bipush 68, 2) := by decide +kernel
theorem d_Mo_rowOf_13 : decode b_Mo_rowOf 13 = .ok (.if_icmp .ne 7, 3) := by decide +kernel
theorem d_Mo_rowOf_16 : decode b_Mo_rowOf 16 = .ok (.iconst 3, 1) := by decide +kernel
theorem d_Mo_rowOf_17 : decode b_Mo_rowOf 17 = .ok (.goto 35, 3) := by decide +kernel
theorem d_Mo_rowOf_20 : decode b_Mo_rowOf 20 = .ok (.iload_n 0, 1) := by decide +kernel
theorem d_Mo_rowOf_21 : decode b_Mo_rowOf 21 = .ok (.bipush 72, 2) := by decide +kernel
theorem d_Mo_rowOf_23 : decode b_Mo_rowOf 23 = .ok (.if_icmp .ne 7, 3) := by decide +kernel
theorem d_Mo_rowOf_26 : decode b_Mo_rowOf 26 = .ok (.iconst 4, 1) := by decide +kernel
theorem d_Mo_rowOf_27 : decode b_Mo_rowOf 27 = .ok (.goto 25, 3) := by decide +kernel
theorem d_Mo_rowOf_30 : decode b_Mo_rowOf 30 = .ok (.iload_n 0, 1) := by decide +kernel
theorem d_Mo_rowOf_31 : decode b_Mo_rowOf 31 = .ok (.bipush 60, 2) := by decide +kernel
theorem d_Mo_rowOf_33 : decode b_Mo_rowOf 33 = .ok (.if_icmp .ne 7, 3) := by decide +kernel
theorem d_Mo_rowOf_36 : decode b_Mo_rowOf 36 = .ok (.iconst 5, 1) := by decide +kernel
theorem d_Mo_rowOf_37 : decode b_Mo_rowOf 37 = .ok (.goto 15, 3) := by decide +kernel
theorem d_Mo_rowOf_40 : decode b_Mo_rowOf 40 = .ok (.iload_n 0, 1) := by decide +kernel
theorem d_Mo_rowOf_41 : decode b_Mo_rowOf 41 = .ok (.bipush 42, 2) := by decide +kernel
theorem d_Mo_rowOf_43 : decode b_Mo_rowOf 43 = .ok (.if_icmp .ne 8, 3) := by decide +kernel
theorem d_Mo_rowOf_46 : decode b_Mo_rowOf 46 = .ok (.bipush 6, 2) := by decide +kernel
theorem d_Mo_rowOf_48 : decode b_Mo_rowOf 48 = .ok (.goto 4, 3) := by decide +kernel
theorem d_Mo_rowOf_51 : decode b_Mo_rowOf 51 = .ok (.iconst (-1), 1) := by decide +kernel
theorem d_Mo_rowOf_52 : decode b_Mo_rowOf 52 = .ok (.ireturn, 1) := by decide +kernel
theorem d_Mo_readOption_0 : decode b_Mo_readOption 0 = .ok (.aload_n 0, 1) := by decide +kernel
theorem d_Mo_readOption_1 : decode b_Mo_readOption 1 = .ok (.invokevirtual 80, 3) := by decide +kernel
theorem d_Mo_readOption_4 : decode b_Mo_readOption 4 = .ok (.istore_n 1, 1) := by decide +kernel
theorem d_Mo_readOption_5 : decode b_Mo_readOption 5 = .ok (.iload_n 1, 1) := by decide +kernel
theorem d_Mo_readOption_6 : decode b_Mo_readOption 6 = .ok (.invokestatic 94, 3) := by decide +kernel
theorem d_Mo_readOption_9 : decode b_Mo_readOption 9 = .ok (.istore_n 2, 1) := by decide +kernel
theorem d_Mo_readOption_10 : decode b_Mo_readOption 10 = .ok (.iload_n 2, 1) := by decide +kernel
theorem d_Mo_readOption_11 : decode b_Mo_readOption 11 = .ok (.ifCond .lt 53, 3) := by decide +kernel
theorem d_Mo_readOption_14 : decode b_Mo_readOption 14 = .ok (.aload_n 0, 1) := by decide +kernel
theorem d_Mo_readOption_15 : decode b_Mo_readOption 15 = .ok (.getfield 98, 3) := by decide +kernel
theorem d_Mo_readOption_18 : decode b_Mo_readOption 18 = .ok (.iload_n 2, 1) := by decide +kernel
theorem d_Mo_readOption_19 : decode b_Mo_readOption 19 = .ok (.ishr, 1) := by decide +kernel
theorem d_Mo_readOption_20 : decode b_Mo_readOption 20 = .ok (.iconst 1, 1) := by decide +kernel
theorem d_Mo_readOption_21 : decode b_Mo_readOption 21 = .ok (.iand, 1) := by decide +kernel
theorem d_Mo_readOption_22 : decode b_Mo_readOption 22 = .ok (.iconst 1, 1) := by decide +kernel
theorem d_Mo_readOption_23 : decode b_Mo_readOption 23 = .ok (.if_icmp .ne 5, 3) := by decide +kernel
theorem d_Mo_readOption_26 : decode b_Mo_readOption 26 = .ok (.iconst (-1), 1) := by decide +kernel
theorem d_Mo_readOption_27 : decode b_Mo_readOption 27 = .ok (.ireturn, 1) := by decide +kernel
theorem d_Mo_readOption_28 : decode b_Mo_readOption 28 = .ok (.aload_n 0, 1) := by decide +kernel
theorem d_Mo_readOption_29 : decode b_Mo_readOption 29 = .ok (.aload_n 0, 1) := by decide +kernel
theorem d_Mo_readOption_30 : decode b_Mo_readOption 30 = .ok (.getfield 98, 3) := by decide +kernel
theorem d_Mo_readOption_33 : decode b_Mo_readOption 33 = .ok (.iconst 1, 1) := by decide +kernel
theorem d_Mo_readOption_34 : decode b_Mo_readOption 34 = .ok (.iload_n 2, 1) := by decide +kernel
theorem d_Mo_readOption_35 : decode b_Mo_readOption 35 = .ok (.ishl, 1) := by decide +kernel
theorem d_Mo_readOption_36 : decode b_Mo_readOption 36 = .ok (.ior, 1) := by decide +kernel
theorem d_Mo_readOption_37 : decode b_Mo_readOption 37 = .ok (.putfield 98, 3) := by decide +kernel
theorem d_Mo_readOption_40 : decode b_Mo_readOption 40 = .ok (.aload_n 0, 1) := by decide +kernel
theorem d_Mo_readOption_41 : decode b_Mo_readOption 41 = .ok (.dup, 1) := by decide +kernel
theorem d_Mo_readOption_42 : decode b_Mo_readOption 42 = .ok (.getfield 77, 3) := by decide +kernel
theorem d_Mo_readOption_45 : decode b_Mo_readOption 45 = .ok (.iconst 1, 1) := by decide +kernel
theorem d_Mo_readOption_46 : decode b_Mo_readOption 46 = .ok (.iadd, 1) := by decide +kernel
theorem d_Mo_readOption_47 : decode b_Mo_readOption 47 = .ok (.putfield 77, 3) := by decide +kernel
theorem d_Mo_readOption_50 : decode b_Mo_readOption 50 = .ok (.aload_n 0, 1) := by decide +kernel
theorem d_Mo_readOption_51 : decode b_Mo_readOption 51 = .ok (.iload_n 2, 1) := by decide +kernel
theorem d_Mo_readOption_52 : decode b_Mo_readOption 52 = .ok (.invokevirtual 101, 3) := by decide +kernel
theorem d_Mo_readOption_55 : decode b_Mo_readOption 55 = .ok (.ifCond .eq 7, 3) := by decide +kernel
theorem d_Mo_readOption_58 : decode b_Mo_readOption 58 = .ok (.iconst 1, 1) := by decide +kernel
theorem d_Mo_readOption_59 : decode b_Mo_readOption 59 = .ok (.goto 4, 3) := by decide +kernel
theorem d_Mo_readOption_62 : decode b_Mo_readOption 62 = .ok (.iconst (-1), 1) := by decide +kernel
theorem d_Mo_readOption_63 : decode b_Mo_readOption 63 = .ok (.ireturn, 1) := by decide +kernel
theorem d_Mo_readOption_64 : decode b_Mo_readOption 64 = .ok (.iload_n 1, 1) := by decide +kernel
theorem d_Mo_readOption_65 : decode b_Mo_readOption 65 = .ok (.bipush 62, 2) := by decide +kernel
theorem d_Mo_readOption_67 : decode b_Mo_readOption 67 = .ok (.if_icmp .eq 11, 3) := by decide +kernel
theorem d_Mo_readOption_70 : decode b_Mo_readOption 70 = .ok (.iload_n 1, 1) := by decide +kernel
theorem d_Mo_readOption_71 : decode b_Mo_readOption 71 = .ok (.bipush 47, 2) := by decide +kernel
theorem d_Mo_readOption_73 : decode b_Mo_readOption 73 = .ok (.if_icmp .eq 5, 3) := by decide +kernel
theorem d_Mo_readOption_76 : decode b_Mo_readOption 76 = .ok (.iconst 0, 1) := by decide +kernel
theorem d_Mo_readOption_77 : decode b_Mo_readOption 77 = .ok (.ireturn, 1) := by decide +kernel
theorem d_Mo_readOption_78 : decode b_Mo_readOption 78 = .ok (.aload_n 0, 1) := by decide +kernel
theorem d_Mo_readOption_79 : decode b_Mo_readOption 79 = .ok (.dup, 1) := by decide +kernel
theorem d_Mo_readOption_80 : decode b_Mo_readOption 80 = .ok (.getfield 77, 3) := by decide +kernel
theorem d_Mo_readOption_83 : decode b_Mo_readOption 83 = .ok (.iconst 1, 1) := by decide +kernel
theorem d_Mo_readOption_84 : decode b_Mo_readOption 84 = .ok (.iadd, 1) := by decide +kernel
theorem d_Mo_readOption_85 : decode b_Mo_readOption 85 = .ok (.putfield 77, 3) := by decide +kernel
theorem d_Mo_readOption_88 : decode b_Mo_readOption 88 = .ok (.aload_n 0, 1) := by decide +kernel
theorem d_Mo_readOption_89 : decode b_Mo_readOption 89 = .ok (.invokevirtual 80, 3) := by decide +kernel
theorem d_Mo_readOption_92 : decode b_Mo_readOption 92 = .ok (.bipush 97, 2) := by decide +kernel
theorem d_Mo_readOption_94 : decode b_Mo_readOption 94 = .ok (.if_icmp .lt 12, 3) := by decide +kernel
theorem d_Mo_readOption_97 : decode b_Mo_readOption 97 = .ok (.aload_n 0, 1) := by decide +kernel
theorem d_Mo_readOption_98 : decode b_Mo_readOption 98 = .ok (.invokevirtual 80, 3) := by decide +kernel
theorem d_Mo_readOption_101 : decode b_Mo_readOption 101 = .ok (.bipush 122, 2) := by decide +kernel
theorem d_Mo_readOption_103 : decode b_Mo_readOption 103 = .ok (.if_icmp .le 5, 3) := by decide +kernel
theorem d_Mo_readOption_106 : decode b_Mo_readOption 106 = .ok (.iconst (-1), 1) := by decide +kernel
theorem d_Mo_readOption_107 : decode b_Mo_readOption 107 = .ok (.ireturn, 1) := by decide +kernel
theorem d_Mo_readOption_108 : decode b_Mo_readOption 108 = .ok (.iload_n 1, 1) := by decide +kernel
theorem d_Mo_readOption_109 : decode b_Mo_readOption 109 = .ok (.bipush 62, 2) := by decide +kernel
theorem d_Mo_readOption_111 : decode b_Mo_readOption 111 = .ok (.if_icmp .ne 8, 3) := by decide +kernel
theorem d_Mo_readOption_114 : decode b_Mo_readOption 114 = .ok (.bipush 56, 2) := by decide +kernel
theorem d_Mo_readOption_116 : decode b_Mo_readOption 116 = .ok (.goto 5, 3) := by decide +kernel
theorem d_Mo_readOption_119 : decode b_Mo_readOption 119 = .ok (.bipush 64, 2) := by decide +kernel
theorem d_Mo_readOption_121 : decode b_Mo_readOption 121 = .ok (.aload_n 0, 1) := by decide +kernel
theorem d_Mo_readOption_122 : decode b_Mo_readOption 122 = .ok (.getfield 91, 3) := by decide +kernel
theorem d_Mo_readOption_125 : decode b_Mo_readOption 125 = .ok (.iadd, 1) := by decide +kernel
theorem d_Mo_readOption_126 : decode b_Mo_readOption 126 = .ok (.istore_n 3, 1) := by decide +kernel
theorem d_Mo_readOption_127 : decode b_Mo_readOption 127 = .ok (.aload_n 0, 1) := by decide +kernel
theorem d_Mo_readOption_128 : decode b_Mo_readOption 128 = .ok (.getfield 13, 3) := by decide +kernel
theorem d_Mo_readOption_131 : decode b_Mo_readOption 131 = .ok (.iload_n 3, 1) := by decide +kernel
theorem d_Mo_readOption_132 : decode b_Mo_readOption 132 = .ok (.aload_n 0, 1) := by decide +kernel
theorem d_Mo_readOption_133 : decode b_Mo_readOption 133 = .ok (.getfield 13, 3) := by decide +kernel
theorem d_Mo_readOption_136 : decode b_Mo_readOption 136 = .ok (.iload_n 3, 1) := by decide +kernel
theorem d_Mo_readOption_137 : decode b_Mo_readOption 137 = .ok (.iaload, 1) := by decide +kernel
theorem d_Mo_readOption_138 : decode b_Mo_readOption 138 = .ok (.iconst 1, 1) := by decide +kernel
theorem d_Mo_readOption_139 : decode b_Mo_readOption 139 = .ok (.aload_n 0, 1) := by decide +kernel
theorem d_Mo_readOption_140 : decode b_Mo_readOption 140 = .ok (.invokevirtual 80, 3) := by decide +kernel
theorem d_Mo_readOption_143 : decode b_Mo_readOption 143 = .ok (.bipush 97, 2) := by decide +kernel
theorem d_Mo_readOption_145 : decode b_Mo_readOption 145 = .ok (.isub, 1) := by decide +kernel
theorem d_Mo_readOption_146 : decode b_Mo_readOption 146 = .ok (.ishl, 1) := by decide +kernel
theorem d_Mo_readOption_147 : decode b_Mo_readOption 147 = .ok (.ior, 1) := by decide +kernel
theorem d_Mo_readOption_148 : decode b_Mo_readOption 148 = .ok (.iastore, 1) := by decide +kernel
theorem d_Mo_readOption_149 : decode b_Mo_readOption 149 = .ok (.aload_n 0, 1) := by decide +kernel
theorem d_Mo_readOption_150 : decode b_Mo_readOption 150 = .ok (.dup, 1) := by decide +kernel
theorem d_Mo_readOption_151 : decode b_Mo_readOption 151 = .ok (.getfield 77, 3) := by decide +kernel
theorem d_Mo_readOption_154 : decode b_Mo_readOption 154 = .ok (.iconst 1, 1) := by decide +kernel
