theorem d_Mo_age_31 : decode b_Mo_age 31 = .ok (.aload_n 0, 1) := by decide +kernel
theorem d_Mo_age_32 : decode b_Mo_age 32 = .ok (.aload_n 0, 1) := by decide +kernel
theorem d_Mo_age_33 : decode b_Mo_age 33 = .ok (.getfield 151, 3) := by decide +kernel
theorem d_Mo_age_36 : decode b_Mo_age 36 = .ok (.aload_n 0, 1) := by decide +kernel
theorem d_Mo_age_37 : decode b_Mo_age 37 = .ok (.getfield 22, 3) := by decide +kernel
theorem d_Mo_age_40 : decode b_Mo_age 40 = .ok (.bipush 24, 2) := by decide +kernel
theorem d_Mo_age_42 : decode b_Mo_age 42 = .ok (.iload_n 2, 1) := by decide +kernel
theorem d_Mo_age_43 : decode b_Mo_age 43 = .ok (.iadd, 1) := by decide +kernel
theorem d_Mo_age_44 : decode b_Mo_age 44 = .ok (.iaload, 1) := by decide +kernel
theorem d_Mo_age_45 : decode b_Mo_age 45 = .ok (.iadd, 1) := by decide +kernel
theorem d_Mo_age_46 : decode b_Mo_age 46 = .ok (.putfield 151, 3) := by decide +kernel
theorem d_Mo_age_49 : decode b_Mo_age 49 = .ok (.iinc 2 1, 3) := by decide +kernel
theorem d_Mo_age_52 : decode b_Mo_age 52 = .ok (.goto (-48), 3) := by decide +kernel
theorem d_Mo_age_55 : decode b_Mo_age 55 = .ok (.aload_n 0, 1) := by decide +kernel
theorem d_Mo_age_56 : decode b_Mo_age 56 = .ok (.iload_n 1, 1) := by decide +kernel
theorem d_Mo_age_57 : decode b_Mo_age 57 = .ok (.invokevirtual 191, 3) := by decide +kernel
theorem d_Mo_age_60 : decode b_Mo_age 60 = .ok (.aload_n 0, 1) := by decide +kernel
theorem d_Mo_age_61 : decode b_Mo_age 61 = .ok (.aload_n 0, 1) := by decide +kernel
theorem d_Mo_age_62 : decode b_Mo_age 62 = .ok (.getfield 151, 3) := by decide +kernel
theorem d_Mo_age_65 : decode b_Mo_age 65 = .ok (.sipush 500, 3) := by decide +kernel
theorem d_Mo_age_68 : decode b_Mo_age 68 = .ok (.if_icmp .le 9, 3) := by decide +kernel
theorem d_Mo_age_71 : decode b_Mo_age 71 = .ok (.sipush 500, 3) := by decide +kernel
theorem d_Mo_age_74 : decode b_Mo_age 74 = .ok (.goto 7, 3) := by decide +kernel
theorem d_Mo_age_77 : decode b_Mo_age 77 = .ok (.aload_n 0, 1) := by decide +kernel
theorem d_Mo_age_78 : decode b_Mo_age 78 = .ok (.getfield 151, 3) := by decide +kernel
theorem d_Mo_age_81 : decode b_Mo_age 81 = .ok (.putfield 151, 3) := by decide +kernel
theorem d_Mo_age_84 : decode b_Mo_age 84 = .ok (.iconst 0, 1) := by decide +kernel
theorem d_Mo_age_85 : decode b_Mo_age 85 = .ok (.istore_n 2, 1) := by decide +kernel
theorem d_Mo_age_86 : decode b_Mo_age 86 = .ok (.iload_n 2, 1) := by decide +kernel
theorem d_Mo_age_87 : decode b_Mo_age 87 = .ok (.aload_n 0, 1) := by decide +kernel
theorem d_Mo_age_88 : decode b_Mo_age 88 = .ok (.getfield 120, 3) := by decide +kernel
theorem d_Mo_age_91 : decode b_Mo_age 91 = .ok (.if_icmp .ge 162, 3) := by decide +kernel
theorem d_Mo_age_94 : decode b_Mo_age 94 = .ok (.aload_n 0, 1) := by decide +kernel
theorem d_Mo_age_95 : decode b_Mo_age 95 = .ok (.getfield 28, 3) := by decide +kernel
theorem d_Mo_age_98 : decode b_Mo_age 98 = .ok (.iload_n 2, 1) := by decide +kernel
theorem d_Mo_age_99 : decode b_Mo_age 99 = .ok (.iaload, 1) := by decide +kernel
theorem d_Mo_age_100 : decode b_Mo_age 100 = .ok (.iconst 1, 1) := by decide +kernel
theorem d_Mo_age_101 : decode b_Mo_age 101 = .ok (.if_icmp .ne 146, 3) := by decide +kernel
theorem d_Mo_age_104 : decode b_Mo_age 104 = .ok (.aload_n 0, 1) := by decide +kernel
theorem d_Mo_age_105 : decode b_Mo_age 105 = .ok (.getfield 34, 3) := by decide +kernel
theorem d_Mo_age_108 : decode b_Mo_age 108 = .ok (.iload_n 2, 1) := by decide +kernel
theorem d_Mo_age_109 : decode b_Mo_age 109 = .ok (.dup2, 1) := by decide +kernel
theorem d_Mo_age_110 : decode b_Mo_age 110 = .ok (.iaload, 1) := by decide +kernel
theorem d_Mo_age_111 : decode b_Mo_age 111 = .ok (.iconst 1, 1) := by decide +kernel
theorem d_Mo_age_112 : decode b_Mo_age 112 = .ok (.iadd, 1) := by decide +kernel
theorem d_Mo_age_113 : decode b_Mo_age 113 = .ok (.iastore, 1) := by decide +kernel
theorem d_Mo_age_114 : decode b_Mo_age 114 = .ok (.aload_n 0, 1) := by decide +kernel
theorem d_Mo_age_115 : decode b_Mo_age 115 = .ok (.getfield 46, 3) := by decide +kernel
theorem d_Mo_age_118 : decode b_Mo_age 118 = .ok (.iload_n 2, 1) := by decide +kernel
theorem d_Mo_age_119 : decode b_Mo_age 119 = .ok (.iaload, 1) := by decide +kernel
theorem d_Mo_age_120 : decode b_Mo_age 120 = .ok (.aload_n 0, 1) := by decide +kernel
theorem d_Mo_age_121 : decode b_Mo_age 121 = .ok (.getfield 22, 3) := by decide +kernel
theorem d_Mo_age_124 : decode b_Mo_age 124 = .ok (.bipush 16, 2) := by decide +kernel
theorem d_Mo_age_126 : decode b_Mo_age 126 = .ok (.iload_n 2, 1) := by decide +kernel
theorem d_Mo_age_127 : decode b_Mo_age 127 = .ok (.iadd, 1) := by decide +kernel
theorem d_Mo_age_128 : decode b_Mo_age 128 = .ok (.iaload, 1) := by decide +kernel
theorem d_Mo_age_129 : decode b_Mo_age 129 = .ok (.if_icmp .gt 36, 3) := by decide +kernel
theorem d_Mo_age_132 : decode b_Mo_age 132 = .ok (.aload_n 0, 1) := by decide +kernel
theorem d_Mo_age_133 : decode b_Mo_age 133 = .ok (.getfield 34, 3) := by decide +kernel
theorem d_Mo_age_136 : decode b_Mo_age 136 = .ok (.iload_n 2, 1) := by decide +kernel
theorem d_Mo_age_137 : decode b_Mo_age 137 = .ok (.iaload, 1) := by decide +kernel
theorem d_Mo_age_138 : decode b_Mo_age 138 = .ok (.aload_n 0, 1) := by decide +kernel
theorem d_Mo_age_139 : decode b_Mo_age 139 = .ok (.getfield 22, 3) := by decide +kernel
theorem d_Mo_age_142 : decode b_Mo_age 142 = .ok (.bipush 8, 2) := by decide +kernel
theorem d_Mo_age_144 : decode b_Mo_age 144 = .ok (.iload_n 2, 1) := by decide +kernel
theorem d_Mo_age_145 : decode b_Mo_age 145 = .ok (.iadd, 1) := by decide +kernel
theorem d_Mo_age_146 : decode b_Mo_age 146 = .ok (.iaload, 1) := by decide +kernel
theorem d_Mo_age_147 : decode b_Mo_age 147 = .ok (.if_icmp .ne 22, 3) := by decide +kernel
theorem d_Mo_age_150 : decode b_Mo_age 150 = .ok (.aload_n 0, 1) := by decide +kernel
theorem d_Mo_age_151 : decode b_Mo_age 151 = .ok (.getfield 43, 3) := by decide +kernel
theorem d_Mo_age_154 : decode b_Mo_age 154 = .ok (.iload_n 2, 1) := by decide +kernel
theorem d_Mo_age_155 : decode b_Mo_age 155 = .ok (.iaload, 1) := by decide +kernel
theorem d_Mo_age_156 : decode b_Mo_age 156 = .ok (.aload_n 0, 1) := by decide +kernel
theorem d_Mo_age_157 : decode b_Mo_age 157 = .ok (.getfield 34, 3) := by decide +kernel
theorem d_Mo_age_160 : decode b_Mo_age 160 = .ok (.iload_n 2, 1) := by decide +kernel
theorem d_Mo_age_161 : decode b_Mo_age 161 = .ok (.iaload, 1) := by decide +kernel
theorem d_Mo_age_162 : decode b_Mo_age 162 = .ok (.if_icmp .le 7, 3) := by decide +kernel
theorem d_Mo_age_165 : decode b_Mo_age 165 = .ok (.iconst 1, 1) := by decide +kernel
theorem d_Mo_age_166 : decode b_Mo_age 166 = .ok (.goto 4, 3) := by decide +kernel
theorem d_Mo_age_169 : decode b_Mo_age 169 = .ok (.iconst 0, 1) := by decide +kernel
theorem d_Mo_age_170 : decode b_Mo_age 170 = .ok (.istore_n 3, 1) := by decide +kernel
theorem d_Mo_age_171 : decode b_Mo_age 171 = .ok (.iload_n 3, 1) := by decide +kernel
theorem d_Mo_age_172 : decode b_Mo_age 172 = .ok (.ifCond .eq 53, 3) := by decide +kernel
theorem d_Mo_age_175 : decode b_Mo_age 175 = .ok (.aload_n 0, 1) := by decide +kernel
theorem d_Mo_age_176 : decode b_Mo_age 176 = .ok (.getfield 28, 3) := by decide +kernel
theorem d_Mo_age_179 : decode b_Mo_age 179 = .ok (.iload_n 2, 1) := by decide +kernel
theorem d_Mo_age_180 : decode b_Mo_age 180 = .ok (.aload_n 0, 1) := by decide +kernel
theorem d_Mo_age_181 : decode b_Mo_age 181 = .ok (.getfield 37, 3) := by decide +kernel
theorem d_Mo_age_184 : decode b_Mo_age 184 = .ok (.iload_n 2, 1) := by decide +kernel
theorem d_Mo_age_185 : decode b_Mo_age 185 = .ok (.iaload, 1) := by decide +kernel
theorem d_Mo_age_186 : decode b_Mo_age 186 = .ok (.ifCond .le 7, 3) := by decide +kernel
theorem d_Mo_age_189 : decode b_Mo_age 189 = .ok (.iconst 0, 1) := by decide +kernel
theorem d_Mo_age_190 : decode b_Mo_age 190 = .ok (.goto 4, 3) := by decide +kernel
theorem d_Mo_age_193 : decode b_Mo_age 193 = .ok (.iconst 3, 1) := by decide +kernel
theorem d_Mo_age_194 : decode b_Mo_age 194 = .ok (.iastore, 1) := by decide +kernel
theorem d_Mo_age_195 : decode b_Mo_age 195 = .ok (.aload_n 0, 1) := by decide +kernel
theorem d_Mo_age_196 : decode b_Mo_age 196 = .ok (.getfield 37, 3) := by decide +kernel
theorem d_Mo_age_199 : decode b_Mo_age 199 = .ok (.iload_n 2, 1) := by decide +kernel
theorem d_Mo_age_200 : decode b_Mo_age 200 = .ok (.aload_n 0, 1) := by decide +kernel
theorem d_Mo_age_201 : decode b_Mo_age 201 = .ok (.getfield 37, 3) := by decide +kernel
theorem d_Mo_age_204 : decode b_Mo_age 204 = .ok (.iload_n 2, 1) := by decide +kernel
theorem d_Mo_age_205 : decode b_Mo_age 205 = .ok (.iaload, 1) := by decide +kernel
theorem d_Mo_age_206 : decode b_Mo_age 206 = .ok (.ifCond .le 14, 3) := by decide +kernel
theorem d_Mo_age_209 : decode b_Mo_age 209 = .ok (.aload_n 0, 1) := by decide +kernel
theorem d_Mo_age_210 : decode b_Mo_age 210 = .ok (.getfield 37, 3) := by decide +kernel
theorem d_Mo_age_213 : decode b_Mo_age 213 = .ok (.iload_n 2, 1) := by decide +kernel
theorem d_Mo_age_214 : decode b_Mo_age 214 = .ok (.iaload, 1) := by decide +kernel
theorem d_Mo_age_215 : decode b_Mo_age 215 = .ok (.iconst 1, 1) := by decide +kernel
theorem d_Mo_age_216 : decode b_Mo_age 216 = .ok (.isub, 1) := by decide +kernel
theorem d_Mo_age_217 : decode b_Mo_age 217 = .ok (.goto 4, 3) := by decide +kernel
theorem d_Mo_age_220 : decode b_Mo_age 220 = .ok (.iconst 0, 1) := by decide +kernel
theorem d_Mo_age_221 : decode b_Mo_age 221 = .ok (.iastore, 1) := by decide +kernel
theorem d_Mo_age_222 : decode b_Mo_age 222 = .ok (.goto 25, 3) := by decide +kernel
theorem d_Mo_age_225 : decode b_Mo_age 225 = .ok (.aload_n 0, 1) := by decide +kernel
theorem d_Mo_age_226 : decode b_Mo_age 226 = .ok (.getfield 34, 3) := by decide +kernel
theorem d_Mo_age_229 : decode b_Mo_age 229 = .ok (.iload_n 2, 1) := by decide +kernel
theorem d_Mo_age_230 : decode b_Mo_age 230 = .ok (.iaload, 1) := by decide +kernel
theorem d_Mo_age_231 : decode b_Mo_age 231 = .ok (.aload_n 0, 1) := by decide +kernel
theorem d_Mo_age_232 : decode b_Mo_age 232 = .ok (.getfield 43, 3) := by decide +kernel
theorem d_Mo_age_235 : decode b_Mo_age 235 = .ok (.iload_n 2, 1) := by decide +kernel
theorem d_Mo_age_236 : decode b_Mo_age 236 = .ok (.iaload, 1) := by decide +kernel
theorem d_Mo_age_237 : decode b_Mo_age 237 = .ok (.if_icmp .lt 10, 3) := by decide +kernel
theorem d_Mo_age_240 : decode b_Mo_age 240 = .ok (.aload_n 0, 1) := by decide +kernel
theorem d_Mo_age_241 : decode b_Mo_age 241 = .ok (.getfield 28, 3) := by decide +kernel
theorem d_Mo_age_244 : decode b_Mo_age 244 = .ok (.iload_n 2, 1) := by decide +kernel
theorem d_Mo_age_245 : decode b_Mo_age 245 = .ok (.iconst 2, 1) := by decide +kernel
theorem d_Mo_age_246 : decode b_Mo_age 246 = .ok (.iastore, 1) := by decide +kernel
theorem d_Mo_age_247 : decode b_Mo_age 247 = .ok (.iinc 2 1, 3) := by decide +kernel
theorem d_Mo_age_250 : decode b_Mo_age 250 = .ok (.goto (-164), 3) := by decide +kernel
theorem d_Mo_age_253 : decode b_Mo_age 253 = .ok (.return_, 1) := by decide +kernel
theorem d_Mo_minute_0 : decode b_Mo_minute 0 = .ok (.aload_n 0, 1) := by decide +kernel
theorem d_Mo_minute_1 : decode b_Mo_minute 1 = .ok (.dup, 1) := by decide +kernel
theorem d_Mo_minute_2 : decode b_Mo_minute 2 = .ok (.getfield 154, 3) := by decide +kernel
theorem d_Mo_minute_5 : decode b_Mo_minute 5 = .ok (.iconst 1, 1) := by decide +kernel
theorem d_Mo_minute_6 : decode b_Mo_minute 6 = .ok (.iadd, 1) := by decide +kernel
theorem d_Mo_minute_7 : decode b_Mo_minute 7 = .ok (.putfield 154, 3) := by decide +kernel
theorem d_Mo_minute_10 : decode b_Mo_minute 10 = .ok (.aload_n 0, 1) := by decide +kernel
theorem d_Mo_minute_11 : decode b_Mo_minute 11 = .ok (.getfield 123, 3) := by decide +kernel
theorem d_Mo_minute_14 : decode b_Mo_minute 14 = .ok (.ifCond .ne 10, 3) := by decide +kernel
theorem d_Mo_minute_17 : decode b_Mo_minute 17 = .ok (.aload_n 0, 1) := by decide +kernel
theorem d_Mo_minute_18 : decode b_Mo_minute 18 = .ok (.iconst 0, 1) := by decide +kernel
theorem d_Mo_minute_19 : decode b_Mo_minute 19 = .ok (.invokevirtual 191, 3) := by decide +kernel
theorem d_Mo_minute_22 : decode b_Mo_minute 22 = .ok (.iconst 0, 1) := by decide +kernel
theorem d_Mo_minute_23 : decode b_Mo_minute 23 = .ok (.ireturn, 1) := by decide +kernel
theorem d_Mo_minute_24 : decode b_Mo_minute 24 = .ok (.aload_n 0, 1) := by decide +kernel
theorem d_Mo_minute_25 : decode b_Mo_minute 25 = .ok (.getfield 123, 3) := by decide +kernel
theorem d_Mo_minute_28 : decode b_Mo_minute 28 = .ok (.iconst 2, 1) := by decide +kernel
theorem d_Mo_minute_29 : decode b_Mo_minute 29 = .ok (.if_icmp .ne 39, 3) := by decide +kernel
theorem d_Mo_minute_32 : decode b_Mo_minute 32 = .ok (.aload_n 0, 1) := by decide +kernel
theorem d_Mo_minute_33 : decode b_Mo_minute 33 = .ok (.aload_n 0, 1) := by decide +kernel
theorem d_Mo_minute_34 : decode b_Mo_minute 34 = .ok (.getfield 68, 3) := by decide +kernel
theorem d_Mo_minute_37 : decode b_Mo_minute 37 = .ok (.invokevirtual 191, 3) := by decide +kernel
theorem d_Mo_minute_40 : decode b_Mo_minute 40 = .ok (.aload_n 0, 1) := by decide +kernel
theorem d_Mo_minute_41 : decode b_Mo_minute 41 = .ok (.dup, 1) := by decide +kernel
theorem d_Mo_minute_42 : decode b_Mo_minute 42 = .ok (.getfield 179, 3) := by decide +kernel
theorem d_Mo_minute_45 : decode b_Mo_minute 45 = .ok (.iconst 1, 1) := by decide +kernel
theorem d_Mo_minute_46 : decode b_Mo_minute 46 = .ok (.isub, 1) := by decide +kernel
theorem d_Mo_minute_47 : decode b_Mo_minute 47 = .ok (.putfield 179, 3) := by decide +kernel
theorem d_Mo_minute_50 : decode b_Mo_minute 50 = .ok (.aload_n 0, 1) := by decide +kernel
theorem d_Mo_minute_51 : decode b_Mo_minute 51 = .ok (.aload_n 0, 1) := by decide +kernel
theorem d_Mo_minute_52 : decode b_Mo_minute 52 = .ok (.getfield 179, 3) := by decide +kernel
theorem d_Mo_minute_55 : decode b_Mo_minute 55 = .ok (.ifCond .ne 7, 3) := by decide +kernel
theorem d_Mo_minute_58 : decode b_Mo_minute 58 = .ok (.iconst 0, 1) := by decide +kernel
theorem d_Mo_minute_59 : decode b_Mo_minute 59 = .ok (.goto 4, 3) := by decide +kernel
theorem d_Mo_minute_62 : decode b_Mo_minute 62 = .ok (.iconst 2, 1) := by decide +kernel
theorem d_Mo_minute_63 : decode b_Mo_minute 63 = .ok (.putfield 123, 3) := by decide +kernel
theorem d_Mo_minute_66 : decode b_Mo_minute 66 = .ok (.iconst 0, 1) := by decide +kernel
theorem d_Mo_minute_67 : decode b_Mo_minute 67 = .ok (.ireturn, 1) := by decide +kernel
theorem d_Mo_minute_68 : decode b_Mo_minute 68 = .ok (.aload_n 0, 1) := by decide +kernel
theorem d_Mo_minute_69 : decode b_Mo_minute 69 = .ok (.invokevirtual 195, 3) := by decide +kernel
theorem d_Mo_minute_72 : decode b_Mo_minute 72 = .ok (.aload_n 0, 1) := by decide +kernel
theorem d_Mo_minute_73 : decode b_Mo_minute 73 = .ok (.invokevirtual 182, 3) := by decide +kernel
theorem d_Mo_minute_76 : decode b_Mo_minute 76 = .ok (.aload_n 0, 1) := by decide +kernel
theorem d_Mo_minute_77 : decode b_Mo_minute 77 = .ok (.aload_n 0, 1) := by decide +kernel
theorem d_Mo_minute_78 : decode b_Mo_minute 78 = .ok (.getfield 55, 3) := by decide +kernel
theorem d_Mo_minute_81 : decode b_Mo_minute 81 = .ok (.aload_n 0, 1) := by decide +kernel
theorem d_Mo_minute_82 : decode b_Mo_minute 82 = .ok (.getfield 154, 3) := by decide +kernel
theorem d_Mo_minute_85 : decode b_Mo_minute 85 = .ok (.invokevirtual 157, 3) := by decide +kernel
theorem d_Mo_minute_88 : decode b_Mo_minute 88 = .ok (.ifCond .ne 9, 3) := by decide +kernel
theorem d_Mo_minute_91 : decode b_Mo_minute 91 = .ok (.aload_n 0, 1) := by decide +kernel
theorem d_Mo_minute_92 : decode b_Mo_minute 92 = .ok (.invokevirtual 188, 3) := by decide +kernel
theorem d_Mo_minute_95 : decode b_Mo_minute 95 = .ok (.iconst 0, 1) := by decide +kernel
theorem d_Mo_minute_96 : decode b_Mo_minute 96 = .ok (.ireturn, 1) := by decide +kernel
theorem d_Mo_minute_97 : decode b_Mo_minute 97 = .ok (.aload_n 0, 1) := by decide +kernel
theorem d_Mo_minute_98 : decode b_Mo_minute 98 = .ok (.invokevirtual 185, 3) := by decide +kernel
theorem d_Mo_minute_101 : decode b_Mo_minute 101 = .ok (.ireturn, 1) := by decide +kernel
theorem d_Mo_minutes_0 : decode b_Mo_minutes 0 = .ok (.aload_n 0, 1) := by decide +kernel
theorem d_Mo_minutes_1 : decode b_Mo_minutes 1 = .ok (.iload_n 1, 1) := by decide +kernel
theorem d_Mo_minutes_2 : decode b_Mo_minutes 2 = .ok (.ifCond .lt 9, 3) := by decide +kernel
theorem d_Mo_minutes_5 : decode b_Mo_minutes 5 = .ok (.iload_n 1, 1) := by decide +kernel
theorem d_Mo_minutes_6 : decode b_Mo_minutes 6 = .ok (.bipush 60, 2) := by decide +kernel
theorem d_Mo_minutes_8 : decode b_Mo_minutes 8 = .ok (.if_icmp .le 7, 3) := by decide +kernel
theorem d_Mo_minutes_11 : decode b_Mo_minutes 11 = .ok (.iconst 1, 1) := by decide +kernel
theorem d_Mo_minutes_12 : decode b_Mo_minutes 12 = .ok (.goto 4, 3) := by decide +kernel
theorem d_Mo_minutes_15 : decode b_Mo_minutes 15 = .ok (.iconst 0, 1) := by decide +kernel
theorem d_Mo_minutes_16 : decode b_Mo_minutes 16 = .ok (.iconst 0, 1) := by decide +kernel
theorem d_Mo_minutes_17 : decode b_Mo_minutes 17 = .ok (.invokevirtual 126, 3) := by decide +kernel
theorem d_Mo_minutes_20 : decode b_Mo_minutes 20 = .ok (.ifCond .eq 5, 3) := by decide +kernel
theorem d_Mo_minutes_23 : decode b_Mo_minutes 23 = .ok (.iconst 0, 1) := by decide +kernel
theorem d_Mo_minutes_24 : decode b_Mo_minutes 24 = .ok (.ireturn, 1) := by decide +kernel
theorem d_Mo_minutes_25 : decode b_Mo_minutes 25 = .ok (.iconst 0, 1) := by decide +kernel
theorem d_Mo_minutes_26 : decode b_Mo_minutes 26 = .ok (.istore_n 2, 1) := by decide +kernel
theorem d_Mo_minutes_27 : decode b_Mo_minutes 27 = .ok (.iconst 0, 1) := by decide +kernel
theorem d_Mo_minutes_28 : decode b_Mo_minutes 28 = .ok (.istore_n 3, 1) := by decide +kernel
theorem d_Mo_minutes_29 : decode b_Mo_minutes 29 = .ok (.iload_n 3, 1) := by decide +kernel
theorem d_Mo_minutes_30 : decode b_Mo_minutes 30 = .ok (.iload_n 1, 1) := by decide +kernel
theorem d_Mo_minutes_31 : decode b_Mo_minutes 31 = .ok (.if_icmp .ge 16, 3) := by decide +kernel
theorem d_Mo_minutes_34 : decode b_Mo_minutes 34 = .ok (.iload_n 2, 1) := by decide +kernel
theorem d_Mo_minutes_35 : decode b_Mo_minutes 35 = .ok (.aload_n 0, 1) := by decide +kernel
theorem d_Mo_minutes_36 : decode b_Mo_minutes 36 = .ok (.invokevirtual 198, 3) := by decide +kernel
theorem d_Mo_minutes_39 : decode b_Mo_minutes 39 = .ok (.iadd, 1) := by decide +kernel
theorem d_Mo_minutes_40 : decode b_Mo_minutes 40 = .ok (.istore_n 2, 1) := by decide +kernel
theorem d_Mo_minutes_41 : decode b_Mo_minutes 41 = .ok (.iinc 3 1, 3) := by decide +kernel
theorem d_Mo_minutes_44 : decode b_Mo_minutes 44 = .ok (.goto (-15), 3) := by decide +kernel
theorem d_Mo_minutes_47 : decode b_Mo_minutes 47 = .ok (.iload_n 2, 1) := by decide +kernel
theorem d_Mo_minutes_48 : decode b_Mo_minutes 48 = .ok (.ireturn, 1) := by decide +kernel
theorem d_Mo_isActivity_0 : decode b_Mo_isActivity 0 = .ok (.iload_n 1, 1) := by decide +kernel
theorem d_Mo_isActivity_1 : decode b_Mo_isActivity 1 = .ok (.ifCond .lt 15, 3) := by decide +kernel
theorem d_Mo_isActivity_4 : decode b_Mo_isActivity 4 = .ok (.iload_n 1, 1) := by decide +kernel
theorem d_Mo_isActivity_5 : decode b_Mo_isActivity 5 = .ok (.aload_n 0, 1) := by decide +kernel
theorem d_Mo_isActivity_6 : decode b_Mo_isActivity 6 = .ok (.getfield 120, 3) := by decide +kernel
theorem d_Mo_isActivity_9 : decode b_Mo_isActivity 9 = .ok (.if_icmp .ge 7, 3) := by decide +kernel
theorem d_Mo_isActivity_12 : decode b_Mo_isActivity 12 = .ok (.iconst 1, 1) := by decide +kernel
theorem d_Mo_isActivity_13 : decode b_Mo_isActivity 13 = .ok (.goto 4, 3) := by decide +kernel
theorem d_Mo_isActivity_16 : decode b_Mo_isActivity 16 = .ok (.iconst 0, 1) := by decide +kernel
theorem d_Mo_isActivity_17 : decode b_Mo_isActivity 17 = .ok (.ireturn, 1) := by decide +kernel
theorem d_Mo_lasts_0 : decode b_Mo_lasts 0 = .ok (.aload_n 0, 1) := by decide +kernel
theorem d_Mo_lasts_1 : decode b_Mo_lasts 1 = .ok (.aload_n 0, 1) := by decide +kernel
theorem d_Mo_lasts_2 : decode b_Mo_lasts 2 = .ok (.iload_n 1, 1) := by decide +kernel
theorem d_Mo_lasts_3 : decode b_Mo_lasts 3 = .ok (.invokevirtual 201, 3) := by decide +kernel
theorem d_Mo_lasts_6 : decode b_Mo_lasts 6 = .ok (.ifCond .ne 7, 3) := by decide +kernel
theorem d_Mo_lasts_9 : decode b_Mo_lasts 9 = .ok (.iconst 1, 1) := by decide +kernel
theorem d_Mo_lasts_10 : decode b_Mo_lasts 10 = .ok (.goto 4, 3) := by decide +kernel
theorem d_Mo_lasts_13 : decode b_Mo_lasts 13 = .ok (.iconst 0, 1) := by decide +kernel
theorem d_Mo_lasts_14 : decode b_Mo_lasts 14 = .ok (.iload_n 2, 1) := by decide +kernel
theorem d_Mo_lasts_15 : decode b_Mo_lasts 15 = .ok (.iconst 1, 1) := by decide +kernel
theorem d_Mo_lasts_16 : decode b_Mo_lasts 16 = .ok (.if_icmp .lt 9, 3) := by decide +kernel
theorem d_Mo_lasts_19 : decode b_Mo_lasts 19 = .ok (.iload_n 2, 1) := by decide +kernel
theorem d_Mo_lasts_20 : decode b_Mo_lasts 20 = .ok (.bipush 40, 2) := by decide +kernel
theorem d_Mo_lasts_22 : decode b_Mo_lasts 22 = .ok (.if_icmp .le 7, 3) := by decide +kernel
theorem d_Mo_lasts_25 : decode b_Mo_lasts 25 = .ok (.iconst 1, 1) := by decide +kernel
theorem d_Mo_lasts_26 : decode b_Mo_lasts 26 = .ok (.goto 4, 3) := by decide +kernel
theorem d_Mo_lasts_29 : decode b_Mo_lasts 29 = .ok (.iconst 0, 1) := by decide +kernel
theorem d_Mo_lasts_30 : decode b_Mo_lasts 30 = .ok (.invokevirtual 126, 3) := by decide +kernel
theorem d_Mo_lasts_33 : decode b_Mo_lasts 33 = .ok (.ifCond .ne 10, 3) := by decide +kernel
theorem d_Mo_lasts_36 : decode b_Mo_lasts 36 = .ok (.aload_n 0, 1) := by decide +kernel
theorem d_Mo_lasts_37 : decode b_Mo_lasts 37 = .ok (.getfield 49, 3) := by decide +kernel
theorem d_Mo_lasts_40 : decode b_Mo_lasts 40 = .ok (.iload_n 1, 1) := by decide +kernel
theorem d_Mo_lasts_41 : decode b_Mo_lasts 41 = .ok (.iload_n 2, 1) := by decide +kernel
theorem d_Mo_lasts_42 : decode b_Mo_lasts 42 = .ok (.iastore, 1) := by decide +kernel
theorem d_Mo_lasts_43 : decode b_Mo_lasts 43 = .ok (.return_, 1) := by decide +kernel
theorem d_Mo_draws_0 : decode b_Mo_draws 0 = .ok (.aload_n 0, 1) := by decide +kernel
theorem d_Mo_draws_1 : decode b_Mo_draws 1 = .ok (.aload_n 0, 1) := by decide +kernel
theorem d_Mo_draws_2 : decode b_Mo_draws 2 = .ok (.iload_n 1, 1) := by decide +kernel
theorem d_Mo_draws_3 : decode b_Mo_draws 3 = .ok (.invokevirtual 201, 3) := by decide +kernel
theorem d_Mo_draws_6 : decode b_Mo_draws 6 = .ok (.ifCond .ne 7, 3) := by decide +kernel
theorem d_Mo_draws_9 : decode b_Mo_draws 9 = .ok (.iconst 1, 1) := by decide +kernel
theorem d_Mo_draws_10 : decode b_Mo_draws 10 = .ok (.goto 4, 3) := by decide +kernel
theorem d_Mo_draws_13 : decode b_Mo_draws 13 = .ok (.iconst 0, 1) := by decide +kernel
theorem d_Mo_draws_14 : decode b_Mo_draws 14 = .ok (.iload_n 2, 1) := by decide +kernel
theorem d_Mo_draws_15 : decode b_Mo_draws 15 = .ok (.ifCond .lt 10, 3) := by decide +kernel
theorem d_Mo_draws_18 : decode b_Mo_draws 18 = .ok (.iload_n 2, 1) := by decide +kernel
theorem d_Mo_draws_19 : decode b_Mo_draws 19 = .ok (.sipush 200, 3) := by decide +kernel
theorem d_Mo_draws_22 : decode b_Mo_draws 22 = .ok (.if_icmp .le 7, 3) := by decide +kernel
theorem d_Mo_draws_25 : decode b_Mo_draws 25 = .ok (.iconst 1, 1) := by decide +kernel
theorem d_Mo_draws_26 : decode b_Mo_draws 26 = .ok (.goto 4, 3) := by decide +kernel
theorem d_Mo_draws_29 : decode b_Mo_draws 29 = .ok (.iconst 0, 1) := by decide +kernel
theorem d_Mo_draws_30 : decode b_Mo_draws 30 = .ok (.invokevirtual 126, 3) := by decide +kernel
theorem d_Mo_draws_33 : decode b_Mo_draws 33 = .ok (.ifCond .ne 10, 3) := by decide +kernel
theorem d_Mo_draws_36 : decode b_Mo_draws 36 = .ok (.aload_n 0, 1) := by decide +kernel
theorem d_Mo_draws_37 : decode b_Mo_draws 37 = .ok (.getfield 52, 3) := by decide +kernel
theorem d_Mo_draws_40 : decode b_Mo_draws 40 = .ok (.iload_n 1, 1) := by decide +kernel
theorem d_Mo_draws_41 : decode b_Mo_draws 41 = .ok (.iload_n 2, 1) := by decide +kernel
theorem d_Mo_draws_42 : decode b_Mo_draws 42 = .ok (.iastore, 1) := by decide +kernel
theorem d_Mo_draws_43 : decode b_Mo_draws 43 = .ok (.return_, 1) := by decide +kernel
theorem d_Mo_curve_0 : decode b_Mo_curve 0 = .ok (.aload_n 0, 1) := by decide +kernel
theorem d_Mo_curve_1 : decode b_Mo_curve 1 = .ok (.iload_n 1, 1) := by decide +kernel
theorem d_Mo_curve_2 : decode b_Mo_curve 2 = .ok (.ifCond .lt 9, 3) := by decide +kernel
theorem d_Mo_curve_5 : decode b_Mo_curve 5 = .ok (.iload_n 1, 1) := by decide +kernel
theorem d_Mo_curve_6 : decode b_Mo_curve 6 = .ok (.bipush 23, 2) := by decide +kernel
theorem d_Mo_curve_8 : decode b_Mo_curve 8 = .ok (.if_icmp .le 7, 3) := by decide +kernel
theorem d_Mo_curve_11 : decode b_Mo_curve 11 = .ok (.iconst 1, 1) := by decide +kernel
theorem d_Mo_curve_12 : decode b_Mo_curve 12 = .ok (.goto 4, 3) := by decide +kernel
theorem d_Mo_curve_15 : decode b_Mo_curve 15 = .ok (.iconst 0, 1) := by decide +kernel
theorem d_Mo_curve_16 : decode b_Mo_curve 16 = .ok (.iload_n 2, 1) := by decide +kernel
theorem d_Mo_curve_17 : decode b_Mo_curve 17 = .ok (.ifCond .lt 9, 3) := by decide +kernel
theorem d_Mo_curve_20 : decode b_Mo_curve 20 = .ok (.iload_n 2, 1) := by decide +kernel
theorem d_Mo_curve_21 : decode b_Mo_curve 21 = .ok (.bipush 50, 2) := by decide +kernel
theorem d_Mo_curve_23 : decode b_Mo_curve 23 = .ok (.if_icmp .le 7, 3) := by decide +kernel
theorem d_Mo_curve_26 : decode b_Mo_curve 26 = .ok (.iconst 1, 1) := by decide +kernel
theorem d_Mo_curve_27 : decode b_Mo_curve 27 = .ok (.goto 4, 3) := by decide +kernel
theorem d_Mo_curve_30 : decode b_Mo_curve 30 = .ok (.iconst 0, 1) := by decide +kernel
theorem d_Mo_curve_31 : decode b_Mo_curve 31 = .ok (.invokevirtual 126, 3) := by decide +kernel
theorem d_Mo_curve_34 : decode b_Mo_curve 34 = .ok (.ifCond .ne 10, 3) := by decide +kernel
theorem d_Mo_curve_37 : decode b_Mo_curve 37 = .ok (.aload_n 0, 1) := by decide +kernel
theorem d_Mo_curve_38 : decode b_Mo_curve 38 = .ok (.getfield 59, 3) := by decide +kernel
theorem d_Mo_curve_41 : decode b_Mo_curve 41 = .ok (.iload_n 1, 1) := by decide +kernel
theorem d_Mo_curve_42 : decode b_Mo_curve 42 = .ok (.iload_n 2, 1) := by decide +kernel
theorem d_Mo_curve_43 : decode b_Mo_curve 43 = .ok (.iastore, 1) := by decide +kernel
theorem d_Mo_curve_44 : decode b_Mo_curve 44 = .ok (.return_, 1) := by decide +kernel
theorem d_Mo_gain_0 : decode b_Mo_gain 0 = .ok (.aload_n 0, 1) := by decide +kernel
theorem d_Mo_gain_1 : decode b_Mo_gain 1 = .ok (.iload_n 1, 1) := by decide +kernel
theorem d_Mo_gain_2 : decode b_Mo_gain 2 = .ok (.iconst (-1), 1) := by decide +kernel
theorem d_Mo_gain_3 : decode b_Mo_gain 3 = .ok (.if_icmp .lt 9, 3) := by decide +kernel
theorem d_Mo_gain_6 : decode b_Mo_gain 6 = .ok (.iload_n 1, 1) := by decide +kernel
theorem d_Mo_gain_7 : decode b_Mo_gain 7 = .ok (.bipush 100, 2) := by decide +kernel
theorem d_Mo_gain_9 : decode b_Mo_gain 9 = .ok (.if_icmp .le 7, 3) := by decide +kernel
theorem d_Mo_gain_12 : decode b_Mo_gain 12 = .ok (.iconst 1, 1) := by decide +kernel
theorem d_Mo_gain_13 : decode b_Mo_gain 13 = .ok (.goto 4, 3) := by decide +kernel
theorem d_Mo_gain_16 : decode b_Mo_gain 16 = .ok (.iconst 0, 1) := by decide +kernel
theorem d_Mo_gain_17 : decode b_Mo_gain 17 = .ok (.iconst 0, 1) := by decide +kernel
theorem d_Mo_gain_18 : decode b_Mo_gain 18 = .ok (.invokevirtual 126, 3) := by decide +kernel
theorem d_Mo_gain_21 : decode b_Mo_gain 21 = .ok (.ifCond .ne 8, 3) := by decide +kernel
theorem d_Mo_gain_24 : decode b_Mo_gain 24 = .ok (.aload_n 0, 1) := by decide +kernel
theorem d_Mo_gain_25 : decode b_Mo_gain 25 = .ok (.iload_n 1, 1) := by decide +kernel
theorem d_Mo_gain_26 : decode b_Mo_gain 26 = .ok (.putfield 62, 3) := by decide +kernel
theorem d_Mo_gain_29 : decode b_Mo_gain 29 = .ok (.return_, 1) := by decide +kernel
theorem d_Mo_home_0 : decode b_Mo_home 0 = .ok (.aload_n 0, 1) := by decide +kernel
theorem d_Mo_home_1 : decode b_Mo_home 1 = .ok (.iload_n 1, 1) := by decide +kernel
theorem d_Mo_home_2 : decode b_Mo_home 2 = .ok (.iconst 1, 1) := by decide +kernel
theorem d_Mo_home_3 : decode b_Mo_home 3 = .ok (.if_icmp .lt 19, 3) := by decide +kernel
theorem d_Mo_home_6 : decode b_Mo_home 6 = .ok (.iload_n 1, 1) := by decide +kernel
theorem d_Mo_home_7 : decode b_Mo_home 7 = .ok (.bipush 20, 2) := by decide +kernel
theorem d_Mo_home_9 : decode b_Mo_home 9 = .ok (.if_icmp .gt 13, 3) := by decide +kernel
theorem d_Mo_home_12 : decode b_Mo_home 12 = .ok (.iload_n 2, 1) := by decide +kernel
theorem d_Mo_home_13 : decode b_Mo_home 13 = .ok (.ifCond .lt 9, 3) := by decide +kernel
theorem d_Mo_home_16 : decode b_Mo_home 16 = .ok (.iload_n 2, 1) := by decide +kernel
theorem d_Mo_home_17 : decode b_Mo_home 17 = .ok (.bipush 99, 2) := by decide +kernel
theorem d_Mo_home_19 : decode b_Mo_home 19 = .ok (.if_icmp .le 7, 3) := by decide +kernel
theorem d_Mo_home_22 : decode b_Mo_home 22 = .ok (.iconst 1, 1) := by decide +kernel
theorem d_Mo_home_23 : decode b_Mo_home 23 = .ok (.goto 4, 3) := by decide +kernel
theorem d_Mo_home_26 : decode b_Mo_home 26 = .ok (.iconst 0, 1) := by decide +kernel
theorem d_Mo_home_27 : decode b_Mo_home 27 = .ok (.aload_n 0, 1) := by decide +kernel
theorem d_Mo_home_28 : decode b_Mo_home 28 = .ok (.getfield 123, 3) := by decide +kernel
theorem d_Mo_home_31 : decode b_Mo_home 31 = .ok (.ifCond .eq 7, 3) := by decide +kernel
theorem d_Mo_home_34 : decode b_Mo_home 34 = .ok (.iconst 1, 1) := by decide +kernel
theorem d_Mo_home_35 : decode b_Mo_home 35 = .ok (.goto 4, 3) := by decide +kernel
theorem d_Mo_home_38 : decode b_Mo_home 38 = .ok (.iconst 0, 1) := by decide +kernel
theorem d_Mo_home_39 : decode b_Mo_home 39 = .ok (.invokevirtual 126, 3) := by decide +kernel
theorem d_Mo_home_42 : decode b_Mo_home 42 = .ok (.ifCond .ne 13, 3) := by decide +kernel
theorem d_Mo_home_45 : decode b_Mo_home 45 = .ok (.aload_n 0, 1) := by decide +kernel
theorem d_Mo_home_46 : decode b_Mo_home 46 = .ok (.iload_n 1, 1) := by decide +kernel
theorem d_Mo_home_47 : decode b_Mo_home 47 = .ok (.putfield 65, 3) := by decide +kernel
theorem d_Mo_home_50 : decode b_Mo_home 50 = .ok (.aload_n 0, 1) := by decide +kernel
theorem d_Mo_home_51 : decode b_Mo_home 51 = .ok (.iload_n 2, 1) := by decide +kernel
theorem d_Mo_home_52 : decode b_Mo_home 52 = .ok (.putfield 68, 3) := by decide +kernel
theorem d_Mo_home_55 : decode b_Mo_home 55 = .ok (.return_, 1) := by decide +kernel
theorem d_Mo_fill_0 : decode b_Mo_fill 0 = .ok (.aload_n 0, 1) := by decide +kernel
theorem d_Mo_fill_1 : decode b_Mo_fill 1 = .ok (.iload_n 1, 1) := by decide +kernel
theorem d_Mo_fill_2 : decode b_Mo_fill 2 = .ok (.ifCond .lt 21, 3) := by decide +kernel
theorem d_Mo_fill_5 : decode b_Mo_fill 5 = .ok (.iload_n 1, 1) := by decide +kernel
theorem d_Mo_fill_6 : decode b_Mo_fill 6 = .ok (.sipush 1000, 3) := by decide +kernel
theorem d_Mo_fill_9 : decode b_Mo_fill 9 = .ok (.if_icmp .gt 14, 3) := by decide +kernel
theorem d_Mo_fill_12 : decode b_Mo_fill 12 = .ok (.iload_n 2, 1) := by decide +kernel
theorem d_Mo_fill_13 : decode b_Mo_fill 13 = .ok (.ifCond .lt 10, 3) := by decide +kernel
theorem d_Mo_fill_16 : decode b_Mo_fill 16 = .ok (.iload_n 2, 1) := by decide +kernel
theorem d_Mo_fill_17 : decode b_Mo_fill 17 = .ok (.sipush 500, 3) := by decide +kernel
theorem d_Mo_fill_20 : decode b_Mo_fill 20 = .ok (.if_icmp .le 7, 3) := by decide +kernel
theorem d_Mo_fill_23 : decode b_Mo_fill 23 = .ok (.iconst 1, 1) := by decide +kernel
theorem d_Mo_fill_24 : decode b_Mo_fill 24 = .ok (.goto 4, 3) := by decide +kernel
theorem d_Mo_fill_27 : decode b_Mo_fill 27 = .ok (.iconst 0, 1) := by decide +kernel
theorem d_Mo_fill_28 : decode b_Mo_fill 28 = .ok (.aload_n 0, 1) := by decide +kernel
theorem d_Mo_fill_29 : decode b_Mo_fill 29 = .ok (.getfield 123, 3) := by decide +kernel
theorem d_Mo_fill_32 : decode b_Mo_fill 32 = .ok (.ifCond .eq 7, 3) := by decide +kernel
theorem d_Mo_fill_35 : decode b_Mo_fill 35 = .ok (.iconst 1, 1) := by decide +kernel
theorem d_Mo_fill_36 : decode b_Mo_fill 36 = .ok (.goto 4, 3) := by decide +kernel
theorem d_Mo_fill_39 : decode b_Mo_fill 39 = .ok (.iconst 0, 1) := by decide +kernel
theorem d_Mo_fill_40 : decode b_Mo_fill 40 = .ok (.invokevirtual 126, 3) := by decide +kernel
theorem d_Mo_fill_43 : decode b_Mo_fill 43 = .ok (.ifCond .ne 13, 3) := by decide +kernel
theorem d_Mo_fill_46 : decode b_Mo_fill 46 = .ok (.aload_n 0, 1) := by decide +kernel
theorem d_Mo_fill_47 : decode b_Mo_fill 47 = .ok (.iload_n 1, 1) := by decide +kernel
theorem d_Mo_fill_48 : decode b_Mo_fill 48 = .ok (.putfield 55, 3) := by decide +kernel
theorem d_Mo_fill_51 : decode b_Mo_fill 51 = .ok (.aload_n 0, 1) := by decide +kernel
theorem d_Mo_fill_52 : decode b_Mo_fill 52 = .ok (.iload_n 2, 1) := by decide +kernel
theorem d_Mo_fill_53 : decode b_Mo_fill 53 = .ok (.putfield 151, 3) := by decide +kernel
theorem d_Mo_fill_56 : decode b_Mo_fill 56 = .ok (.return_, 1) := by decide +kernel
theorem d_Mo_now_0 : decode b_Mo_now 0 = .ok (.aload_n 0, 1) := by decide +kernel
theorem d_Mo_now_1 : decode b_Mo_now 1 = .ok (.iconst 0, 1) := by decide +kernel
theorem d_Mo_now_2 : decode b_Mo_now 2 = .ok (.putfield 74, 3) := by decide +kernel
theorem d_Mo_now_5 : decode b_Mo_now 5 = .ok (.aload_n 0, 1) := by decide +kernel
theorem d_Mo_now_6 : decode b_Mo_now 6 = .ok (.getfield 154, 3) := by decide +kernel
theorem d_Mo_now_9 : decode b_Mo_now 9 = .ok (.ireturn, 1) := by decide +kernel
theorem d_Mo_mode_0 : decode b_Mo_mode 0 = .ok (.aload_n 0, 1) := by decide +kernel
theorem d_Mo_mode_1 : decode b_Mo_mode 1 = .ok (.iconst 0, 1) := by decide +kernel
theorem d_Mo_mode_2 : decode b_Mo_mode 2 = .ok (.putfield 74, 3) := by decide +kernel
theorem d_Mo_mode_5 : decode b_Mo_mode 5 = .ok (.aload_n 0, 1) := by decide +kernel
theorem d_Mo_mode_6 : decode b_Mo_mode 6 = .ok (.getfield 123, 3) := by decide +kernel
theorem d_Mo_mode_9 : decode b_Mo_mode 9 = .ok (.ireturn, 1) := by decide +kernel
theorem d_Mo_heatNow_0 : decode b_Mo_heatNow 0 = .ok (.iconst 0, 1) := by decide +kernel
theorem d_Mo_heatNow_1 : decode b_Mo_heatNow 1 = .ok (.istore_n 1, 1) := by decide +kernel
theorem d_Mo_heatNow_2 : decode b_Mo_heatNow 2 = .ok (.iconst 0, 1) := by decide +kernel
theorem d_Mo_heatNow_3 : decode b_Mo_heatNow 3 = .ok (.istore_n 2, 1) := by decide +kernel
theorem d_Mo_heatNow_4 : decode b_Mo_heatNow 4 = .ok (.iload_n 2, 1) := by decide +kernel
theorem d_Mo_heatNow_5 : decode b_Mo_heatNow 5 = .ok (.aload_n 0, 1) := by decide +kernel
theorem d_Mo_heatNow_6 : decode b_Mo_heatNow 6 = .ok (.getfield 120, 3) := by decide +kernel
theorem d_Mo_heatNow_9 : decode b_Mo_heatNow 9 = .ok (.if_icmp .ge 35, 3) := by decide +kernel
theorem d_Mo_heatNow_12 : decode b_Mo_heatNow 12 = .ok (.aload_n 0, 1) := by decide +kernel
theorem d_Mo_heatNow_13 : decode b_Mo_heatNow 13 = .ok (.getfield 28, 3) := by decide +kernel
theorem d_Mo_heatNow_16 : decode b_Mo_heatNow 16 = .ok (.iload_n 2, 1) := by decide +kernel
theorem d_Mo_heatNow_17 : decode b_Mo_heatNow 17 = .ok (.iaload, 1) := by decide +kernel
