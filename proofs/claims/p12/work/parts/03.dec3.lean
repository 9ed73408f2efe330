theorem dX9_heats_30 : decode cX9_heats 30 = .ok (.isub, 1) := by decide +kernel
theorem dX9_heats_31 : decode cX9_heats 31 = .ok (.iastore, 1) := by decide +kernel
theorem dX9_heats_32 : decode cX9_heats 32 = .ok (.aload_n 0, 1) := by decide +kernel
theorem dX9_heats_33 : decode cX9_heats 33 = .ok (.dup, 1) := by decide +kernel
theorem dX9_heats_34 : decode cX9_heats 34 = .ok (.getfield 246, 3) := by decide +kernel
theorem dX9_heats_37 : decode cX9_heats 37 = .ok (.iload_n 3, 1) := by decide +kernel
theorem dX9_heats_38 : decode cX9_heats 38 = .ok (.iadd, 1) := by decide +kernel
theorem dX9_heats_39 : decode cX9_heats 39 = .ok (.putfield 246, 3) := by decide +kernel
theorem dX9_heats_42 : decode cX9_heats 42 = .ok (.return_, 1) := by decide +kernel
theorem dX9_heats_43 : decode cX9_heats 43 = .ok (.iconst 1, 1) := by decide +kernel
theorem dX9_heats_44 : decode cX9_heats 44 = .ok (.aload_n 0, 1) := by decide +kernel
theorem dX9_heats_45 : decode cX9_heats 45 = .ok (.getfield 31, 3) := by decide +kernel
theorem dX9_heats_48 : decode cX9_heats 48 = .ok (.iload_n 1, 1) := by decide +kernel
theorem dX9_heats_49 : decode cX9_heats 49 = .ok (.iaload, 1) := by decide +kernel
theorem dX9_heats_50 : decode cX9_heats 50 = .ok (.sipush 500, 3) := by decide +kernel
theorem dX9_heats_53 : decode cX9_heats 53 = .ok (.idiv, 1) := by decide +kernel
theorem dX9_heats_54 : decode cX9_heats 54 = .ok (.iadd, 1) := by decide +kernel
theorem dX9_heats_55 : decode cX9_heats 55 = .ok (.aload_n 0, 1) := by decide +kernel
theorem dX9_heats_56 : decode cX9_heats 56 = .ok (.getfield 34, 3) := by decide +kernel
theorem dX9_heats_59 : decode cX9_heats 59 = .ok (.iload_n 1, 1) := by decide +kernel
theorem dX9_heats_60 : decode cX9_heats 60 = .ok (.iaload, 1) := by decide +kernel
theorem dX9_heats_61 : decode cX9_heats 61 = .ok (.sipush 500, 3) := by decide +kernel
theorem dX9_heats_64 : decode cX9_heats 64 = .ok (.if_icmp .le 7, 3) := by decide +kernel
theorem dX9_heats_67 : decode cX9_heats 67 = .ok (.iconst 2, 1) := by decide +kernel
theorem dX9_heats_68 : decode cX9_heats 68 = .ok (.goto 4, 3) := by decide +kernel
theorem dX9_heats_71 : decode cX9_heats 71 = .ok (.iconst 0, 1) := by decide +kernel
theorem dX9_heats_72 : decode cX9_heats 72 = .ok (.iadd, 1) := by decide +kernel
theorem dX9_heats_73 : decode cX9_heats 73 = .ok (.iload_n 2, 1) := by decide +kernel
theorem dX9_heats_74 : decode cX9_heats 74 = .ok (.bipush 20, 2) := by decide +kernel
theorem dX9_heats_76 : decode cX9_heats 76 = .ok (.if_icmp .le 7, 3) := by decide +kernel
theorem dX9_heats_79 : decode cX9_heats 79 = .ok (.iconst 3, 1) := by decide +kernel
theorem dX9_heats_80 : decode cX9_heats 80 = .ok (.goto 4, 3) := by decide +kernel
theorem dX9_heats_83 : decode cX9_heats 83 = .ok (.iconst 0, 1) := by decide +kernel
theorem dX9_heats_84 : decode cX9_heats 84 = .ok (.isub, 1) := by decide +kernel
theorem dX9_heats_85 : decode cX9_heats 85 = .ok (.istore_n 3, 1) := by decide +kernel
theorem dX9_heats_86 : decode cX9_heats 86 = .ok (.aload_n 0, 1) := by decide +kernel
theorem dX9_heats_87 : decode cX9_heats 87 = .ok (.getfield 37, 3) := by decide +kernel
theorem dX9_heats_90 : decode cX9_heats 90 = .ok (.iload_n 1, 1) := by decide +kernel
theorem dX9_heats_91 : decode cX9_heats 91 = .ok (.bipush 10, 2) := by decide +kernel
theorem dX9_heats_93 : decode cX9_heats 93 = .ok (.bipush 100, 2) := by decide +kernel
theorem dX9_heats_95 : decode cX9_heats 95 = .ok (.aload_n 0, 1) := by decide +kernel
theorem dX9_heats_96 : decode cX9_heats 96 = .ok (.getfield 37, 3) := by decide +kernel
theorem dX9_heats_99 : decode cX9_heats 99 = .ok (.iload_n 1, 1) := by decide +kernel
theorem dX9_heats_100 : decode cX9_heats 100 = .ok (.iaload, 1) := by decide +kernel
theorem dX9_heats_101 : decode cX9_heats 101 = .ok (.iload_n 3, 1) := by decide +kernel
theorem dX9_heats_102 : decode cX9_heats 102 = .ok (.iadd, 1) := by decide +kernel
theorem dX9_heats_103 : decode cX9_heats 103 = .ok (.invokestatic 243, 3) := by decide +kernel
theorem dX9_heats_106 : decode cX9_heats 106 = .ok (.invokestatic 216, 3) := by decide +kernel
theorem dX9_heats_109 : decode cX9_heats 109 = .ok (.iastore, 1) := by decide +kernel
theorem dX9_heats_110 : decode cX9_heats 110 = .ok (.aload_n 0, 1) := by decide +kernel
theorem dX9_heats_111 : decode cX9_heats 111 = .ok (.getfield 37, 3) := by decide +kernel
theorem dX9_heats_114 : decode cX9_heats 114 = .ok (.iload_n 1, 1) := by decide +kernel
theorem dX9_heats_115 : decode cX9_heats 115 = .ok (.iaload, 1) := by decide +kernel
theorem dX9_heats_116 : decode cX9_heats 116 = .ok (.bipush 100, 2) := by decide +kernel
theorem dX9_heats_118 : decode cX9_heats 118 = .ok (.if_icmp .ne 13, 3) := by decide +kernel
theorem dX9_heats_121 : decode cX9_heats 121 = .ok (.aload_n 0, 1) := by decide +kernel
theorem dX9_heats_122 : decode cX9_heats 122 = .ok (.getfield 46, 3) := by decide +kernel
theorem dX9_heats_125 : decode cX9_heats 125 = .ok (.iload_n 1, 1) := by decide +kernel
theorem dX9_heats_126 : decode cX9_heats 126 = .ok (.aload_n 0, 1) := by decide +kernel
theorem dX9_heats_127 : decode cX9_heats 127 = .ok (.getfield 194, 3) := by decide +kernel
theorem dX9_heats_130 : decode cX9_heats 130 = .ok (.iastore, 1) := by decide +kernel
theorem dX9_heats_131 : decode cX9_heats 131 = .ok (.return_, 1) := by decide +kernel
theorem dX9_act_0 : decode cX9_act 0 = .ok (.aload_n 0, 1) := by decide +kernel
theorem dX9_act_1 : decode cX9_act 1 = .ok (.iload_n 2, 1) := by decide +kernel
theorem dX9_act_2 : decode cX9_act 2 = .ok (.invokevirtual 197, 3) := by decide +kernel
theorem dX9_act_5 : decode cX9_act 5 = .ok (.istore_n 3, 1) := by decide +kernel
theorem dX9_act_6 : decode cX9_act 6 = .ok (.bipush 16, 2) := by decide +kernel
theorem dX9_act_8 : decode cX9_act 8 = .ok (.iload_n 3, 1) := by decide +kernel
theorem dX9_act_9 : decode cX9_act 9 = .ok (.imul, 1) := by decide +kernel
theorem dX9_act_10 : decode cX9_act 10 = .ok (.istore 4, 2) := by decide +kernel
theorem dX9_act_12 : decode cX9_act 12 = .ok (.iload_n 3, 1) := by decide +kernel
theorem dX9_act_13 : decode cX9_act 13 = .ok (.iconst (-1), 1) := by decide +kernel
theorem dX9_act_14 : decode cX9_act 14 = .ok (.if_icmp .eq 221, 3) := by decide +kernel
theorem dX9_act_17 : decode cX9_act 17 = .ok (.iload 4, 2) := by decide +kernel
theorem dX9_act_19 : decode cX9_act 19 = .ok (.bipush 16, 2) := by decide +kernel
theorem dX9_act_21 : decode cX9_act 21 = .ok (.iload_n 3, 1) := by decide +kernel
theorem dX9_act_22 : decode cX9_act 22 = .ok (.imul, 1) := by decide +kernel
theorem dX9_act_23 : decode cX9_act 23 = .ok (.aload_n 0, 1) := by decide +kernel
theorem dX9_act_24 : decode cX9_act 24 = .ok (.getfield 67, 3) := by decide +kernel
theorem dX9_act_27 : decode cX9_act 27 = .ok (.iload_n 3, 1) := by decide +kernel
theorem dX9_act_28 : decode cX9_act 28 = .ok (.iaload, 1) := by decide +kernel
theorem dX9_act_29 : decode cX9_act 29 = .ok (.iadd, 1) := by decide +kernel
theorem dX9_act_30 : decode cX9_act 30 = .ok (.if_icmp .ge 205, 3) := by decide +kernel
theorem dX9_act_33 : decode cX9_act 33 = .ok (.aload_n 0, 1) := by decide +kernel
theorem dX9_act_34 : decode cX9_act 34 = .ok (.getfield 73, 3) := by decide +kernel
theorem dX9_act_37 : decode cX9_act 37 = .ok (.iload 4, 2) := by decide +kernel
theorem dX9_act_39 : decode cX9_act 39 = .ok (.iaload, 1) := by decide +kernel
theorem dX9_act_40 : decode cX9_act 40 = .ok (.iconst 2, 1) := by decide +kernel
theorem dX9_act_41 : decode cX9_act 41 = .ok (.if_icmp .le 7, 3) := by decide +kernel
theorem dX9_act_44 : decode cX9_act 44 = .ok (.iconst 1, 1) := by decide +kernel
theorem dX9_act_45 : decode cX9_act 45 = .ok (.goto 4, 3) := by decide +kernel
theorem dX9_act_48 : decode cX9_act 48 = .ok (.iconst 0, 1) := by decide +kernel
theorem dX9_act_49 : decode cX9_act 49 = .ok (.istore 5, 2) := by decide +kernel
theorem dX9_act_51 : decode cX9_act 51 = .ok (.iconst 3, 1) := by decide +kernel
theorem dX9_act_52 : decode cX9_act 52 = .ok (.iload 4, 2) := by decide +kernel
theorem dX9_act_54 : decode cX9_act 54 = .ok (.imul, 1) := by decide +kernel
theorem dX9_act_55 : decode cX9_act 55 = .ok (.istore 6, 2) := by decide +kernel
theorem dX9_act_57 : decode cX9_act 57 = .ok (.iload 6, 2) := by decide +kernel
theorem dX9_act_59 : decode cX9_act 59 = .ok (.iconst 3, 1) := by decide +kernel
theorem dX9_act_60 : decode cX9_act 60 = .ok (.iload 4, 2) := by decide +kernel
theorem dX9_act_62 : decode cX9_act 62 = .ok (.imul, 1) := by decide +kernel
theorem dX9_act_63 : decode cX9_act 63 = .ok (.aload_n 0, 1) := by decide +kernel
theorem dX9_act_64 : decode cX9_act 64 = .ok (.getfield 88, 3) := by decide +kernel
theorem dX9_act_67 : decode cX9_act 67 = .ok (.iload 4, 2) := by decide +kernel
theorem dX9_act_69 : decode cX9_act 69 = .ok (.iaload, 1) := by decide +kernel
theorem dX9_act_70 : decode cX9_act 70 = .ok (.iadd, 1) := by decide +kernel
theorem dX9_act_71 : decode cX9_act 71 = .ok (.if_icmp .ge 145, 3) := by decide +kernel
theorem dX9_act_74 : decode cX9_act 74 = .ok (.iload 5, 2) := by decide +kernel
theorem dX9_act_76 : decode cX9_act 76 = .ok (.ifCond .eq 140, 3) := by decide +kernel
theorem dX9_act_79 : decode cX9_act 79 = .ok (.aload_n 0, 1) := by decide +kernel
theorem dX9_act_80 : decode cX9_act 80 = .ok (.getfield 91, 3) := by decide +kernel
theorem dX9_act_83 : decode cX9_act 83 = .ok (.iload 6, 2) := by decide +kernel
theorem dX9_act_85 : decode cX9_act 85 = .ok (.iaload, 1) := by decide +kernel
theorem dX9_act_86 : decode cX9_act 86 = .ok (.ifCond .ne 12, 3) := by decide +kernel
theorem dX9_act_89 : decode cX9_act 89 = .ok (.aload_n 0, 1) := by decide +kernel
theorem dX9_act_90 : decode cX9_act 90 = .ok (.getfield 40, 3) := by decide +kernel
theorem dX9_act_93 : decode cX9_act 93 = .ok (.iload_n 1, 1) := by decide +kernel
theorem dX9_act_94 : decode cX9_act 94 = .ok (.iaload, 1) := by decide +kernel
theorem dX9_act_95 : decode cX9_act 95 = .ok (.goto 34, 3) := by decide +kernel
theorem dX9_act_98 : decode cX9_act 98 = .ok (.aload_n 0, 1) := by decide +kernel
theorem dX9_act_99 : decode cX9_act 99 = .ok (.getfield 91, 3) := by decide +kernel
theorem dX9_act_102 : decode cX9_act 102 = .ok (.iload 6, 2) := by decide +kernel
theorem dX9_act_104 : decode cX9_act 104 = .ok (.iaload, 1) := by decide +kernel
theorem dX9_act_105 : decode cX9_act 105 = .ok (.iconst 1, 1) := by decide +kernel
theorem dX9_act_106 : decode cX9_act 106 = .ok (.if_icmp .ne 17, 3) := by decide +kernel
theorem dX9_act_109 : decode cX9_act 109 = .ok (.iload_n 2, 1) := by decide +kernel
theorem dX9_act_110 : decode cX9_act 110 = .ok (.aload_n 0, 1) := by decide +kernel
theorem dX9_act_111 : decode cX9_act 111 = .ok (.getfield 43, 3) := by decide +kernel
theorem dX9_act_114 : decode cX9_act 114 = .ok (.iload_n 1, 1) := by decide +kernel
theorem dX9_act_115 : decode cX9_act 115 = .ok (.iaload, 1) := by decide +kernel
theorem dX9_act_116 : decode cX9_act 116 = .ok (.isub, 1) := by decide +kernel
theorem dX9_act_117 : decode cX9_act 117 = .ok (.bipush 7, 2) := by decide +kernel
theorem dX9_act_119 : decode cX9_act 119 = .ok (.idiv, 1) := by decide +kernel
theorem dX9_act_120 : decode cX9_act 120 = .ok (.goto 9, 3) := by decide +kernel
theorem dX9_act_123 : decode cX9_act 123 = .ok (.aload_n 0, 1) := by decide +kernel
theorem dX9_act_124 : decode cX9_act 124 = .ok (.getfield 31, 3) := by decide +kernel
theorem dX9_act_127 : decode cX9_act 127 = .ok (.iload_n 1, 1) := by decide +kernel
theorem dX9_act_128 : decode cX9_act 128 = .ok (.iaload, 1) := by decide +kernel
theorem dX9_act_129 : decode cX9_act 129 = .ok (.istore 7, 2) := by decide +kernel
theorem dX9_act_131 : decode cX9_act 131 = .ok (.iload 7, 2) := by decide +kernel
theorem dX9_act_133 : decode cX9_act 133 = .ok (.iconst (-1), 1) := by decide +kernel
theorem dX9_act_134 : decode cX9_act 134 = .ok (.if_icmp .eq 73, 3) := by decide +kernel
theorem dX9_act_137 : decode cX9_act 137 = .ok (.aload_n 0, 1) := by decide +kernel
theorem dX9_act_138 : decode cX9_act 138 = .ok (.getfield 94, 3) := by decide +kernel
theorem dX9_act_141 : decode cX9_act 141 = .ok (.iload 6, 2) := by decide +kernel
theorem dX9_act_143 : decode cX9_act 143 = .ok (.iaload, 1) := by decide +kernel
theorem dX9_act_144 : decode cX9_act 144 = .ok (.bipush 60, 2) := by decide +kernel
theorem dX9_act_146 : decode cX9_act 146 = .ok (.if_icmp .ne 18, 3) := by decide +kernel
theorem dX9_act_149 : decode cX9_act 149 = .ok (.iload 7, 2) := by decide +kernel
theorem dX9_act_151 : decode cX9_act 151 = .ok (.aload_n 0, 1) := by decide +kernel
theorem dX9_act_152 : decode cX9_act 152 = .ok (.getfield 97, 3) := by decide +kernel
theorem dX9_act_155 : decode cX9_act 155 = .ok (.iload 6, 2) := by decide +kernel
theorem dX9_act_157 : decode cX9_act 157 = .ok (.iaload, 1) := by decide +kernel
theorem dX9_act_158 : decode cX9_act 158 = .ok (.if_icmp .ge 49, 3) := by decide +kernel
theorem dX9_act_161 : decode cX9_act 161 = .ok (.goto 42, 3) := by decide +kernel
theorem dX9_act_164 : decode cX9_act 164 = .ok (.aload_n 0, 1) := by decide +kernel
theorem dX9_act_165 : decode cX9_act 165 = .ok (.getfield 94, 3) := by decide +kernel
theorem dX9_act_168 : decode cX9_act 168 = .ok (.iload 6, 2) := by decide +kernel
theorem dX9_act_170 : decode cX9_act 170 = .ok (.iaload, 1) := by decide +kernel
theorem dX9_act_171 : decode cX9_act 171 = .ok (.bipush 62, 2) := by decide +kernel
theorem dX9_act_173 : decode cX9_act 173 = .ok (.if_icmp .ne 18, 3) := by decide +kernel
theorem dX9_act_176 : decode cX9_act 176 = .ok (.iload 7, 2) := by decide +kernel
theorem dX9_act_178 : decode cX9_act 178 = .ok (.aload_n 0, 1) := by decide +kernel
theorem dX9_act_179 : decode cX9_act 179 = .ok (.getfield 97, 3) := by decide +kernel
theorem dX9_act_182 : decode cX9_act 182 = .ok (.iload 6, 2) := by decide +kernel
theorem dX9_act_184 : decode cX9_act 184 = .ok (.iaload, 1) := by decide +kernel
theorem dX9_act_185 : decode cX9_act 185 = .ok (.if_icmp .le 22, 3) := by decide +kernel
theorem dX9_act_188 : decode cX9_act 188 = .ok (.goto 15, 3) := by decide +kernel
theorem dX9_act_191 : decode cX9_act 191 = .ok (.iload 7, 2) := by decide +kernel
theorem dX9_act_193 : decode cX9_act 193 = .ok (.aload_n 0, 1) := by decide +kernel
theorem dX9_act_194 : decode cX9_act 194 = .ok (.getfield 97, 3) := by decide +kernel
theorem dX9_act_197 : decode cX9_act 197 = .ok (.iload 6, 2) := by decide +kernel
theorem dX9_act_199 : decode cX9_act 199 = .ok (.iaload, 1) := by decide +kernel
theorem dX9_act_200 : decode cX9_act 200 = .ok (.if_icmp .ne 7, 3) := by decide +kernel
theorem dX9_act_203 : decode cX9_act 203 = .ok (.iconst 1, 1) := by decide +kernel
theorem dX9_act_204 : decode cX9_act 204 = .ok (.goto 4, 3) := by decide +kernel
theorem dX9_act_207 : decode cX9_act 207 = .ok (.iconst 0, 1) := by decide +kernel
theorem dX9_act_208 : decode cX9_act 208 = .ok (.istore 5, 2) := by decide +kernel
theorem dX9_act_210 : decode cX9_act 210 = .ok (.iinc 6 1, 3) := by decide +kernel
theorem dX9_act_213 : decode cX9_act 213 = .ok (.goto (-156), 3) := by decide +kernel
theorem dX9_act_216 : decode cX9_act 216 = .ok (.iload 5, 2) := by decide +kernel
theorem dX9_act_218 : decode cX9_act 218 = .ok (.ifCond .eq 11, 3) := by decide +kernel
theorem dX9_act_221 : decode cX9_act 221 = .ok (.aload_n 0, 1) := by decide +kernel
theorem dX9_act_222 : decode cX9_act 222 = .ok (.getfield 73, 3) := by decide +kernel
theorem dX9_act_225 : decode cX9_act 225 = .ok (.iload 4, 2) := by decide +kernel
theorem dX9_act_227 : decode cX9_act 227 = .ok (.iaload, 1) := by decide +kernel
theorem dX9_act_228 : decode cX9_act 228 = .ok (.ireturn, 1) := by decide +kernel
theorem dX9_act_229 : decode cX9_act 229 = .ok (.iinc 4 1, 3) := by decide +kernel
theorem dX9_act_232 : decode cX9_act 232 = .ok (.goto (-220), 3) := by decide +kernel
theorem dX9_act_235 : decode cX9_act 235 = .ok (.iconst 5, 1) := by decide +kernel
theorem dX9_act_236 : decode cX9_act 236 = .ok (.ireturn, 1) := by decide +kernel
theorem dX9_day_0 : decode cX9_day 0 = .ok (.iload_n 1, 1) := by decide +kernel
theorem dX9_day_1 : decode cX9_day 1 = .ok (.iconst 0, 1) := by decide +kernel
theorem dX9_day_2 : decode cX9_day 2 = .ok (.bipush 10, 2) := by decide +kernel
theorem dX9_day_4 : decode cX9_day 4 = .ok (.invokestatic 109, 3) := by decide +kernel
theorem dX9_day_7 : decode cX9_day 7 = .ok (.ifCond .eq 33, 3) := by decide +kernel
theorem dX9_day_10 : decode cX9_day 10 = .ok (.iload_n 2, 1) := by decide +kernel
theorem dX9_day_11 : decode cX9_day 11 = .ok (.iconst 0, 1) := by decide +kernel
theorem dX9_day_12 : decode cX9_day 12 = .ok (.bipush 10, 2) := by decide +kernel
theorem dX9_day_14 : decode cX9_day 14 = .ok (.invokestatic 109, 3) := by decide +kernel
theorem dX9_day_17 : decode cX9_day 17 = .ok (.ifCond .eq 23, 3) := by decide +kernel
theorem dX9_day_20 : decode cX9_day 20 = .ok (.iload_n 3, 1) := by decide +kernel
theorem dX9_day_21 : decode cX9_day 21 = .ok (.iconst 0, 1) := by decide +kernel
theorem dX9_day_22 : decode cX9_day 22 = .ok (.bipush 50, 2) := by decide +kernel
theorem dX9_day_24 : decode cX9_day 24 = .ok (.invokestatic 109, 3) := by decide +kernel
theorem dX9_day_27 : decode cX9_day 27 = .ok (.ifCond .eq 13, 3) := by decide +kernel
theorem dX9_day_30 : decode cX9_day 30 = .ok (.aload_n 0, 1) := by decide +kernel
theorem dX9_day_31 : decode cX9_day 31 = .ok (.getfield 194, 3) := by decide +kernel
theorem dX9_day_34 : decode cX9_day 34 = .ok (.sipush 1000, 3) := by decide +kernel
theorem dX9_day_37 : decode cX9_day 37 = .ok (.if_icmp .ne 5, 3) := by decide +kernel
theorem dX9_day_40 : decode cX9_day 40 = .ok (.iconst (-1), 1) := by decide +kernel
theorem dX9_day_41 : decode cX9_day 41 = .ok (.ireturn, 1) := by decide +kernel
theorem dX9_day_42 : decode cX9_day 42 = .ok (.iconst 0, 1) := by decide +kernel
theorem dX9_day_43 : decode cX9_day 43 = .ok (.istore 4, 2) := by decide +kernel
theorem dX9_day_45 : decode cX9_day 45 = .ok (.iload 4, 2) := by decide +kernel
theorem dX9_day_47 : decode cX9_day 47 = .ok (.bipush 16, 2) := by decide +kernel
theorem dX9_day_49 : decode cX9_day 49 = .ok (.if_icmp .ge 18, 3) := by decide +kernel
theorem dX9_day_52 : decode cX9_day 52 = .ok (.aload_n 0, 1) := by decide +kernel
theorem dX9_day_53 : decode cX9_day 53 = .ok (.iload 4, 2) := by decide +kernel
theorem dX9_day_55 : decode cX9_day 55 = .ok (.iload_n 1, 1) := by decide +kernel
theorem dX9_day_56 : decode cX9_day 56 = .ok (.iload_n 2, 1) := by decide +kernel
theorem dX9_day_57 : decode cX9_day 57 = .ok (.iload_n 3, 1) := by decide +kernel
theorem dX9_day_58 : decode cX9_day 58 = .ok (.invokevirtual 249, 3) := by decide +kernel
theorem dX9_day_61 : decode cX9_day 61 = .ok (.iinc 4 1, 3) := by decide +kernel
theorem dX9_day_64 : decode cX9_day 64 = .ok (.goto (-19), 3) := by decide +kernel
theorem dX9_day_67 : decode cX9_day 67 = .ok (.iconst 0, 1) := by decide +kernel
theorem dX9_day_68 : decode cX9_day 68 = .ok (.istore 4, 2) := by decide +kernel
theorem dX9_day_70 : decode cX9_day 70 = .ok (.iload 4, 2) := by decide +kernel
theorem dX9_day_72 : decode cX9_day 72 = .ok (.aload_n 0, 1) := by decide +kernel
theorem dX9_day_73 : decode cX9_day 73 = .ok (.getfield 113, 3) := by decide +kernel
theorem dX9_day_76 : decode cX9_day 76 = .ok (.if_icmp .ge 26, 3) := by decide +kernel
theorem dX9_day_79 : decode cX9_day 79 = .ok (.aload_n 0, 1) := by decide +kernel
theorem dX9_day_80 : decode cX9_day 80 = .ok (.getfield 31, 3) := by decide +kernel
theorem dX9_day_83 : decode cX9_day 83 = .ok (.iload 4, 2) := by decide +kernel
theorem dX9_day_85 : decode cX9_day 85 = .ok (.iaload, 1) := by decide +kernel
theorem dX9_day_86 : decode cX9_day 86 = .ok (.ifCond .le 10, 3) := by decide +kernel
theorem dX9_day_89 : decode cX9_day 89 = .ok (.aload_n 0, 1) := by decide +kernel
theorem dX9_day_90 : decode cX9_day 90 = .ok (.iload 4, 2) := by decide +kernel
theorem dX9_day_92 : decode cX9_day 92 = .ok (.iload_n 3, 1) := by decide +kernel
theorem dX9_day_93 : decode cX9_day 93 = .ok (.invokevirtual 253, 3) := by decide +kernel
theorem dX9_day_96 : decode cX9_day 96 = .ok (.iinc 4 1, 3) := by decide +kernel
theorem dX9_day_99 : decode cX9_day 99 = .ok (.goto (-29), 3) := by decide +kernel
theorem dX9_day_102 : decode cX9_day 102 = .ok (.aload_n 0, 1) := by decide +kernel
theorem dX9_day_103 : decode cX9_day 103 = .ok (.getfield 240, 3) := by decide +kernel
theorem dX9_day_106 : decode cX9_day 106 = .ok (.istore 4, 2) := by decide +kernel
theorem dX9_day_108 : decode cX9_day 108 = .ok (.iload 4, 2) := by decide +kernel
theorem dX9_day_110 : decode cX9_day 110 = .ok (.aload_n 0, 1) := by decide +kernel
theorem dX9_day_111 : decode cX9_day 111 = .ok (.getfield 257, 3) := by decide +kernel
theorem dX9_day_114 : decode cX9_day 114 = .ok (.invokestatic 243, 3) := by decide +kernel
theorem dX9_day_117 : decode cX9_day 117 = .ok (.istore 5, 2) := by decide +kernel
theorem dX9_day_119 : decode cX9_day 119 = .ok (.aload_n 0, 1) := by decide +kernel
theorem dX9_day_120 : decode cX9_day 120 = .ok (.dup, 1) := by decide +kernel
theorem dX9_day_121 : decode cX9_day 121 = .ok (.getfield 257, 3) := by decide +kernel
theorem dX9_day_124 : decode cX9_day 124 = .ok (.iload 5, 2) := by decide +kernel
theorem dX9_day_126 : decode cX9_day 126 = .ok (.isub, 1) := by decide +kernel
theorem dX9_day_127 : decode cX9_day 127 = .ok (.putfield 257, 3) := by decide +kernel
theorem dX9_day_130 : decode cX9_day 130 = .ok (.iload 4, 2) := by decide +kernel
theorem dX9_day_132 : decode cX9_day 132 = .ok (.iload 5, 2) := by decide +kernel
theorem dX9_day_134 : decode cX9_day 134 = .ok (.isub, 1) := by decide +kernel
theorem dX9_day_135 : decode cX9_day 135 = .ok (.istore 4, 2) := by decide +kernel
theorem dX9_day_137 : decode cX9_day 137 = .ok (.iconst 0, 1) := by decide +kernel
theorem dX9_day_138 : decode cX9_day 138 = .ok (.istore 6, 2) := by decide +kernel
theorem dX9_day_140 : decode cX9_day 140 = .ok (.iload 6, 2) := by decide +kernel
theorem dX9_day_142 : decode cX9_day 142 = .ok (.aload_n 0, 1) := by decide +kernel
theorem dX9_day_143 : decode cX9_day 143 = .ok (.getfield 113, 3) := by decide +kernel
theorem dX9_day_146 : decode cX9_day 146 = .ok (.if_icmp .ge 54, 3) := by decide +kernel
theorem dX9_day_149 : decode cX9_day 149 = .ok (.aload_n 0, 1) := by decide +kernel
theorem dX9_day_150 : decode cX9_day 150 = .ok (.iload 6, 2) := by decide +kernel
theorem dX9_day_152 : decode cX9_day 152 = .ok (.invokevirtual 234, 3) := by decide +kernel
theorem dX9_day_155 : decode cX9_day 155 = .ok (.ifCond .eq 6, 3) := by decide +kernel
theorem dX9_day_158 : decode cX9_day 158 = .ok (.goto 36, 3) := by decide +kernel
theorem dX9_day_161 : decode cX9_day 161 = .ok (.iload 4, 2) := by decide +kernel
theorem dX9_day_163 : decode cX9_day 163 = .ok (.aload_n 0, 1) := by decide +kernel
theorem dX9_day_164 : decode cX9_day 164 = .ok (.getfield 31, 3) := by decide +kernel
theorem dX9_day_167 : decode cX9_day 167 = .ok (.iload 6, 2) := by decide +kernel
theorem dX9_day_169 : decode cX9_day 169 = .ok (.iaload, 1) := by decide +kernel
theorem dX9_day_170 : decode cX9_day 170 = .ok (.invokestatic 243, 3) := by decide +kernel
theorem dX9_day_173 : decode cX9_day 173 = .ok (.istore 5, 2) := by decide +kernel
theorem dX9_day_175 : decode cX9_day 175 = .ok (.aload_n 0, 1) := by decide +kernel
theorem dX9_day_176 : decode cX9_day 176 = .ok (.getfield 31, 3) := by decide +kernel
theorem dX9_day_179 : decode cX9_day 179 = .ok (.iload 6, 2) := by decide +kernel
theorem dX9_day_181 : decode cX9_day 181 = .ok (.dup2, 1) := by decide +kernel
theorem dX9_day_182 : decode cX9_day 182 = .ok (.iaload, 1) := by decide +kernel
theorem dX9_day_183 : decode cX9_day 183 = .ok (.iload 5, 2) := by decide +kernel
theorem dX9_day_185 : decode cX9_day 185 = .ok (.isub, 1) := by decide +kernel
theorem dX9_day_186 : decode cX9_day 186 = .ok (.iastore, 1) := by decide +kernel
theorem dX9_day_187 : decode cX9_day 187 = .ok (.iload 4, 2) := by decide +kernel
theorem dX9_day_189 : decode cX9_day 189 = .ok (.iload 5, 2) := by decide +kernel
theorem dX9_day_191 : decode cX9_day 191 = .ok (.isub, 1) := by decide +kernel
theorem dX9_day_192 : decode cX9_day 192 = .ok (.istore 4, 2) := by decide +kernel
theorem dX9_day_194 : decode cX9_day 194 = .ok (.iinc 6 1, 3) := by decide +kernel
theorem dX9_day_197 : decode cX9_day 197 = .ok (.goto (-57), 3) := by decide +kernel
theorem dX9_day_200 : decode cX9_day 200 = .ok (.aload_n 0, 1) := by decide +kernel
theorem dX9_day_201 : decode cX9_day 201 = .ok (.dup, 1) := by decide +kernel
theorem dX9_day_202 : decode cX9_day 202 = .ok (.getfield 260, 3) := by decide +kernel
theorem dX9_day_205 : decode cX9_day 205 = .ok (.aload_n 0, 1) := by decide +kernel
theorem dX9_day_206 : decode cX9_day 206 = .ok (.getfield 240, 3) := by decide +kernel
theorem dX9_day_209 : decode cX9_day 209 = .ok (.iload 4, 2) := by decide +kernel
theorem dX9_day_211 : decode cX9_day 211 = .ok (.isub, 1) := by decide +kernel
theorem dX9_day_212 : decode cX9_day 212 = .ok (.iadd, 1) := by decide +kernel
theorem dX9_day_213 : decode cX9_day 213 = .ok (.putfield 260, 3) := by decide +kernel
theorem dX9_day_216 : decode cX9_day 216 = .ok (.aload_n 0, 1) := by decide +kernel
theorem dX9_day_217 : decode cX9_day 217 = .ok (.dup, 1) := by decide +kernel
theorem dX9_day_218 : decode cX9_day 218 = .ok (.getfield 263, 3) := by decide +kernel
theorem dX9_day_221 : decode cX9_day 221 = .ok (.iload 4, 2) := by decide +kernel
theorem dX9_day_223 : decode cX9_day 223 = .ok (.iadd, 1) := by decide +kernel
theorem dX9_day_224 : decode cX9_day 224 = .ok (.putfield 263, 3) := by decide +kernel
theorem dX9_day_227 : decode cX9_day 227 = .ok (.aload_n 0, 1) := by decide +kernel
theorem dX9_day_228 : decode cX9_day 228 = .ok (.iload 4, 2) := by decide +kernel
theorem dX9_day_230 : decode cX9_day 230 = .ok (.putfield 266, 3) := by decide +kernel
theorem dX9_day_233 : decode cX9_day 233 = .ok (.aload_n 0, 1) := by decide +kernel
theorem dX9_day_234 : decode cX9_day 234 = .ok (.dup, 1) := by decide +kernel
theorem dX9_day_235 : decode cX9_day 235 = .ok (.getfield 194, 3) := by decide +kernel
theorem dX9_day_238 : decode cX9_day 238 = .ok (.iconst 1, 1) := by decide +kernel
theorem dX9_day_239 : decode cX9_day 239 = .ok (.iadd, 1) := by decide +kernel
theorem dX9_day_240 : decode cX9_day 240 = .ok (.putfield 194, 3) := by decide +kernel
theorem dX9_day_243 : decode cX9_day 243 = .ok (.iconst 0, 1) := by decide +kernel
theorem dX9_day_244 : decode cX9_day 244 = .ok (.istore 6, 2) := by decide +kernel
theorem dX9_day_246 : decode cX9_day 246 = .ok (.iload 6, 2) := by decide +kernel
theorem dX9_day_248 : decode cX9_day 248 = .ok (.aload_n 0, 1) := by decide +kernel
theorem dX9_day_249 : decode cX9_day 249 = .ok (.getfield 113, 3) := by decide +kernel
theorem dX9_day_252 : decode cX9_day 252 = .ok (.if_icmp .ge 132, 3) := by decide +kernel
theorem dX9_day_255 : decode cX9_day 255 = .ok (.aload_n 0, 1) := by decide +kernel
theorem dX9_day_256 : decode cX9_day 256 = .ok (.getfield 194, 3) := by decide +kernel
theorem dX9_day_259 : decode cX9_day 259 = .ok (.bipush 7, 2) := by decide +kernel
theorem dX9_day_261 : decode cX9_day 261 = .ok (.irem, 1) := by decide +kernel
theorem dX9_day_262 : decode cX9_day 262 = .ok (.ifCond .ne 122, 3) := by decide +kernel
theorem dX9_day_265 : decode cX9_day 265 = .ok (.aload_n 0, 1) := by decide +kernel
theorem dX9_day_266 : decode cX9_day 266 = .ok (.getfield 31, 3) := by decide +kernel
theorem dX9_day_269 : decode cX9_day 269 = .ok (.iload 6, 2) := by decide +kernel
theorem dX9_day_271 : decode cX9_day 271 = .ok (.iaload, 1) := by decide +kernel
theorem dX9_day_272 : decode cX9_day 272 = .ok (.ifCond .eq 106, 3) := by decide +kernel
theorem dX9_day_275 : decode cX9_day 275 = .ok (.aload_n 0, 1) := by decide +kernel
theorem dX9_day_276 : decode cX9_day 276 = .ok (.iload 6, 2) := by decide +kernel
theorem dX9_day_278 : decode cX9_day 278 = .ok (.invokevirtual 234, 3) := by decide +kernel
theorem dX9_day_281 : decode cX9_day 281 = .ok (.ifCond .eq 6, 3) := by decide +kernel
theorem dX9_day_284 : decode cX9_day 284 = .ok (.goto 94, 3) := by decide +kernel
theorem dX9_day_287 : decode cX9_day 287 = .ok (.aload_n 0, 1) := by decide +kernel
theorem dX9_day_288 : decode cX9_day 288 = .ok (.iload 6, 2) := by decide +kernel
theorem dX9_day_290 : decode cX9_day 290 = .ok (.aload_n 0, 1) := by decide +kernel
theorem dX9_day_291 : decode cX9_day 291 = .ok (.getfield 194, 3) := by decide +kernel
theorem dX9_day_294 : decode cX9_day 294 = .ok (.invokevirtual 269, 3) := by decide +kernel
theorem dX9_day_297 : decode cX9_day 297 = .ok (.istore 7, 2) := by decide +kernel
theorem dX9_day_299 : decode cX9_day 299 = .ok (.iload 7, 2) := by decide +kernel
theorem dX9_day_301 : decode cX9_day 301 = .ok (.iconst 3, 1) := by decide +kernel
theorem dX9_day_302 : decode cX9_day 302 = .ok (.if_icmp .ne 35, 3) := by decide +kernel
theorem dX9_day_305 : decode cX9_day 305 = .ok (.aload_n 0, 1) := by decide +kernel
theorem dX9_day_306 : decode cX9_day 306 = .ok (.getfield 37, 3) := by decide +kernel
theorem dX9_day_309 : decode cX9_day 309 = .ok (.iload 6, 2) := by decide +kernel
theorem dX9_day_311 : decode cX9_day 311 = .ok (.bipush 10, 2) := by decide +kernel
theorem dX9_day_313 : decode cX9_day 313 = .ok (.aload_n 0, 1) := by decide +kernel
theorem dX9_day_314 : decode cX9_day 314 = .ok (.getfield 37, 3) := by decide +kernel
theorem dX9_day_317 : decode cX9_day 317 = .ok (.iload 6, 2) := by decide +kernel
theorem dX9_day_319 : decode cX9_day 319 = .ok (.iaload, 1) := by decide +kernel
theorem dX9_day_320 : decode cX9_day 320 = .ok (.iconst 2, 1) := by decide +kernel
theorem dX9_day_321 : decode cX9_day 321 = .ok (.idiv, 1) := by decide +kernel
theorem dX9_day_322 : decode cX9_day 322 = .ok (.invokestatic 216, 3) := by decide +kernel
theorem dX9_day_325 : decode cX9_day 325 = .ok (.iastore, 1) := by decide +kernel
theorem dX9_day_326 : decode cX9_day 326 = .ok (.aload_n 0, 1) := by decide +kernel
theorem dX9_day_327 : decode cX9_day 327 = .ok (.getfield 49, 3) := by decide +kernel
theorem dX9_day_330 : decode cX9_day 330 = .ok (.iload 6, 2) := by decide +kernel
theorem dX9_day_332 : decode cX9_day 332 = .ok (.dup2, 1) := by decide +kernel
theorem dX9_day_333 : decode cX9_day 333 = .ok (.iaload, 1) := by decide +kernel
theorem dX9_day_334 : decode cX9_day 334 = .ok (.iconst 1, 1) := by decide +kernel
theorem dX9_day_335 : decode cX9_day 335 = .ok (.iadd, 1) := by decide +kernel
theorem dX9_day_336 : decode cX9_day 336 = .ok (.iastore, 1) := by decide +kernel
theorem dX9_day_337 : decode cX9_day 337 = .ok (.iload 7, 2) := by decide +kernel
theorem dX9_day_339 : decode cX9_day 339 = .ok (.iconst 4, 1) := by decide +kernel
theorem dX9_day_340 : decode cX9_day 340 = .ok (.if_icmp .eq 6, 3) := by decide +kernel
theorem dX9_day_343 : decode cX9_day 343 = .ok (.goto 35, 3) := by decide +kernel
theorem dX9_day_346 : decode cX9_day 346 = .ok (.aload_n 0, 1) := by decide +kernel
theorem dX9_day_347 : decode cX9_day 347 = .ok (.dup, 1) := by decide +kernel
theorem dX9_day_348 : decode cX9_day 348 = .ok (.getfield 257, 3) := by decide +kernel
theorem dX9_day_351 : decode cX9_day 351 = .ok (.aload_n 0, 1) := by decide +kernel
theorem dX9_day_352 : decode cX9_day 352 = .ok (.getfield 31, 3) := by decide +kernel
theorem dX9_day_355 : decode cX9_day 355 = .ok (.iload 6, 2) := by decide +kernel
theorem dX9_day_357 : decode cX9_day 357 = .ok (.iaload, 1) := by decide +kernel
theorem dX9_day_358 : decode cX9_day 358 = .ok (.iadd, 1) := by decide +kernel
theorem dX9_day_359 : decode cX9_day 359 = .ok (.putfield 257, 3) := by decide +kernel
theorem dX9_day_362 : decode cX9_day 362 = .ok (.aload_n 0, 1) := by decide +kernel
theorem dX9_day_363 : decode cX9_day 363 = .ok (.getfield 31, 3) := by decide +kernel
theorem dX9_day_366 : decode cX9_day 366 = .ok (.iload 6, 2) := by decide +kernel
theorem dX9_day_368 : decode cX9_day 368 = .ok (.iconst 0, 1) := by decide +kernel
theorem dX9_day_369 : decode cX9_day 369 = .ok (.iastore, 1) := by decide +kernel
theorem dX9_day_370 : decode cX9_day 370 = .ok (.aload_n 0, 1) := by decide +kernel
theorem dX9_day_371 : decode cX9_day 371 = .ok (.getfield 52, 3) := by decide +kernel
theorem dX9_day_374 : decode cX9_day 374 = .ok (.iload 6, 2) := by decide +kernel
theorem dX9_day_376 : decode cX9_day 376 = .ok (.iconst 1, 1) := by decide +kernel
theorem dX9_day_377 : decode cX9_day 377 = .ok (.bastore, 1) := by decide +kernel
theorem dX9_day_378 : decode cX9_day 378 = .ok (.iinc 6 1, 3) := by decide +kernel
theorem dX9_day_381 : decode cX9_day 381 = .ok (.goto (-135), 3) := by decide +kernel
theorem dX9_day_384 : decode cX9_day 384 = .ok (.aload_n 0, 1) := by decide +kernel
theorem dX9_day_385 : decode cX9_day 385 = .ok (.getfield 194, 3) := by decide +kernel
theorem dX9_day_388 : decode cX9_day 388 = .ok (.ireturn, 1) := by decide +kernel
theorem dX9_bay_0 : decode cX9_bay 0 = .ok (.iload_n 1, 1) := by decide +kernel
theorem dX9_bay_1 : decode cX9_bay 1 = .ok (.invokestatic 213, 3) := by decide +kernel
theorem dX9_bay_4 : decode cX9_bay 4 = .ok (.ifCond .ne 5, 3) := by decide +kernel
theorem dX9_bay_7 : decode cX9_bay 7 = .ok (.iconst (-1), 1) := by decide +kernel
theorem dX9_bay_8 : decode cX9_bay 8 = .ok (.ireturn, 1) := by decide +kernel
theorem dX9_bay_9 : decode cX9_bay 9 = .ok (.iload_n 2, 1) := by decide +kernel
theorem dX9_bay_10 : decode cX9_bay 10 = .ok (.tableswitch 104 0 6 #[42, 49, 56, 63, 70, 77, 97], 42) := by decide +kernel
theorem dX9_bay_52 : decode cX9_bay 52 = .ok (.aload_n 0, 1) := by decide +kernel
theorem dX9_bay_53 : decode cX9_bay 53 = .ok (.getfield 7, 3) := by decide +kernel
theorem dX9_bay_56 : decode cX9_bay 56 = .ok (.iload_n 1, 1) := by decide +kernel
theorem dX9_bay_57 : decode cX9_bay 57 = .ok (.iaload, 1) := by decide +kernel
theorem dX9_bay_58 : decode cX9_bay 58 = .ok (.ireturn, 1) := by decide +kernel
theorem dX9_bay_59 : decode cX9_bay 59 = .ok (.aload_n 0, 1) := by decide +kernel
theorem dX9_bay_60 : decode cX9_bay 60 = .ok (.getfield 13, 3) := by decide +kernel
theorem dX9_bay_63 : decode cX9_bay 63 = .ok (.iload_n 1, 1) := by decide +kernel
theorem dX9_bay_64 : decode cX9_bay 64 = .ok (.iaload, 1) := by decide +kernel
theorem dX9_bay_65 : decode cX9_bay 65 = .ok (.ireturn, 1) := by decide +kernel
theorem dX9_bay_66 : decode cX9_bay 66 = .ok (.aload_n 0, 1) := by decide +kernel
theorem dX9_bay_67 : decode cX9_bay 67 = .ok (.getfield 16, 3) := by decide +kernel
theorem dX9_bay_70 : decode cX9_bay 70 = .ok (.iload_n 1, 1) := by decide +kernel
theorem dX9_bay_71 : decode cX9_bay 71 = .ok (.iaload, 1) := by decide +kernel
theorem dX9_bay_72 : decode cX9_bay 72 = .ok (.ireturn, 1) := by decide +kernel
theorem dX9_bay_73 : decode cX9_bay 73 = .ok (.aload_n 0, 1) := by decide +kernel
theorem dX9_bay_74 : decode cX9_bay 74 = .ok (.getfield 19, 3) := by decide +kernel
theorem dX9_bay_77 : decode cX9_bay 77 = .ok (.iload_n 1, 1) := by decide +kernel
theorem dX9_bay_78 : decode cX9_bay 78 = .ok (.iaload, 1) := by decide +kernel
theorem dX9_bay_79 : decode cX9_bay 79 = .ok (.ireturn, 1) := by decide +kernel
theorem dX9_bay_80 : decode cX9_bay 80 = .ok (.aload_n 0, 1) := by decide +kernel
theorem dX9_bay_81 : decode cX9_bay 81 = .ok (.getfield 22, 3) := by decide +kernel
theorem dX9_bay_84 : decode cX9_bay 84 = .ok (.iload_n 1, 1) := by decide +kernel
theorem dX9_bay_85 : decode cX9_bay 85 = .ok (.iaload, 1) := by decide +kernel
theorem dX9_bay_86 : decode cX9_bay 86 = .ok (.ireturn, 1) := by decide +kernel
theorem dX9_bay_87 : decode cX9_bay 87 = .ok (.aload_n 0, 1) := by decide +kernel
theorem dX9_bay_88 : decode cX9_bay 88 = .ok (.getfield 22, 3) := by decide +kernel
theorem dX9_bay_91 : decode cX9_bay 91 = .ok (.iload_n 1, 1) := by decide +kernel
theorem dX9_bay_92 : decode cX9_bay 92 = .ok (.iaload, 1) := by decide +kernel
theorem dX9_bay_93 : decode cX9_bay 93 = .ok (.ifCond .ne 7, 3) := by decide +kernel
theorem dX9_bay_96 : decode cX9_bay 96 = .ok (.iconst (-1), 1) := by decide +kernel
theorem dX9_bay_97 : decode cX9_bay 97 = .ok (.goto 9, 3) := by decide +kernel
theorem dX9_bay_100 : decode cX9_bay 100 = .ok (.aload_n 0, 1) := by decide +kernel
theorem dX9_bay_101 : decode cX9_bay 101 = .ok (.getfield 25, 3) := by decide +kernel
theorem dX9_bay_104 : decode cX9_bay 104 = .ok (.iload_n 1, 1) := by decide +kernel
theorem dX9_bay_105 : decode cX9_bay 105 = .ok (.iaload, 1) := by decide +kernel
theorem dX9_bay_106 : decode cX9_bay 106 = .ok (.ireturn, 1) := by decide +kernel
theorem dX9_bay_107 : decode cX9_bay 107 = .ok (.aload_n 0, 1) := by decide +kernel
theorem dX9_bay_108 : decode cX9_bay 108 = .ok (.getfield 28, 3) := by decide +kernel
theorem dX9_bay_111 : decode cX9_bay 111 = .ok (.iload_n 1, 1) := by decide +kernel
theorem dX9_bay_112 : decode cX9_bay 112 = .ok (.iaload, 1) := by decide +kernel
theorem dX9_bay_113 : decode cX9_bay 113 = .ok (.ireturn, 1) := by decide +kernel
theorem dX9_bay_114 : decode cX9_bay 114 = .ok (.iconst (-1), 1) := by decide +kernel
theorem dX9_bay_115 : decode cX9_bay 115 = .ok (.ireturn, 1) := by decide +kernel
theorem dX9_stackOf_0 : decode cX9_stackOf 0 = .ok (.aload_n 0, 1) := by decide +kernel
theorem dX9_stackOf_1 : decode cX9_stackOf 1 = .ok (.iload_n 1, 1) := by decide +kernel
theorem dX9_stackOf_2 : decode cX9_stackOf 2 = .ok (.invokevirtual 231, 3) := by decide +kernel
theorem dX9_stackOf_5 : decode cX9_stackOf 5 = .ok (.ifCond .ne 5, 3) := by decide +kernel
theorem dX9_stackOf_8 : decode cX9_stackOf 8 = .ok (.iconst (-1), 1) := by decide +kernel
theorem dX9_stackOf_9 : decode cX9_stackOf 9 = .ok (.ireturn, 1) := by decide +kernel
theorem dX9_stackOf_10 : decode cX9_stackOf 10 = .ok (.iload_n 2, 1) := by decide +kernel
theorem dX9_stackOf_11 : decode cX9_stackOf 11 = .ok (.tableswitch 117 0 8 #[49, 56, 63, 70, 77, 86, 93, 100, 107], 49) := by decide +kernel
theorem dX9_stackOf_60 : decode cX9_stackOf 60 = .ok (.aload_n 0, 1) := by decide +kernel
theorem dX9_stackOf_61 : decode cX9_stackOf 61 = .ok (.getfield 31, 3) := by decide +kernel
theorem dX9_stackOf_64 : decode cX9_stackOf 64 = .ok (.iload_n 1, 1) := by decide +kernel
theorem dX9_stackOf_65 : decode cX9_stackOf 65 = .ok (.iaload, 1) := by decide +kernel
theorem dX9_stackOf_66 : decode cX9_stackOf 66 = .ok (.ireturn, 1) := by decide +kernel
theorem dX9_stackOf_67 : decode cX9_stackOf 67 = .ok (.aload_n 0, 1) := by decide +kernel
theorem dX9_stackOf_68 : decode cX9_stackOf 68 = .ok (.getfield 34, 3) := by decide +kernel
theorem dX9_stackOf_71 : decode cX9_stackOf 71 = .ok (.iload_n 1, 1) := by decide +kernel
theorem dX9_stackOf_72 : decode cX9_stackOf 72 = .ok (.iaload, 1) := by decide +kernel
theorem dX9_stackOf_73 : decode cX9_stackOf 73 = .ok (.ireturn, 1) := by decide +kernel
theorem dX9_stackOf_74 : decode cX9_stackOf 74 = .ok (.aload_n 0, 1) := by decide +kernel
theorem dX9_stackOf_75 : decode cX9_stackOf 75 = .ok (.getfield 37, 3) := by decide +kernel
theorem dX9_stackOf_78 : decode cX9_stackOf 78 = .ok (.iload_n 1, 1) := by decide +kernel
theorem dX9_stackOf_79 : decode cX9_stackOf 79 = .ok (.iaload, 1) := by decide +kernel
theorem dX9_stackOf_80 : decode cX9_stackOf 80 = .ok (.ireturn, 1) := by decide +kernel
theorem dX9_stackOf_81 : decode cX9_stackOf 81 = .ok (.aload_n 0, 1) := by decide +kernel
theorem dX9_stackOf_82 : decode cX9_stackOf 82 = .ok (.getfield 40, 3) := by decide +kernel
theorem dX9_stackOf_85 : decode cX9_stackOf 85 = .ok (.iload_n 1, 1) := by decide +kernel
theorem dX9_stackOf_86 : decode cX9_stackOf 86 = .ok (.iaload, 1) := by decide +kernel
theorem dX9_stackOf_87 : decode cX9_stackOf 87 = .ok (.ireturn, 1) := by decide +kernel
theorem dX9_stackOf_88 : decode cX9_stackOf 88 = .ok (.aload_n 0, 1) := by decide +kernel
theorem dX9_stackOf_89 : decode cX9_stackOf 89 = .ok (.iload_n 1, 1) := by decide +kernel
theorem dX9_stackOf_90 : decode cX9_stackOf 90 = .ok (.invokevirtual 234, 3) := by decide +kernel
theorem dX9_stackOf_93 : decode cX9_stackOf 93 = .ok (.invokestatic 205, 3) := by decide +kernel
theorem dX9_stackOf_96 : decode cX9_stackOf 96 = .ok (.ireturn, 1) := by decide +kernel
theorem dX9_stackOf_97 : decode cX9_stackOf 97 = .ok (.aload_n 0, 1) := by decide +kernel
theorem dX9_stackOf_98 : decode cX9_stackOf 98 = .ok (.getfield 43, 3) := by decide +kernel
theorem dX9_stackOf_101 : decode cX9_stackOf 101 = .ok (.iload_n 1, 1) := by decide +kernel
theorem dX9_stackOf_102 : decode cX9_stackOf 102 = .ok (.iaload, 1) := by decide +kernel
theorem dX9_stackOf_103 : decode cX9_stackOf 103 = .ok (.ireturn, 1) := by decide +kernel
theorem dX9_stackOf_104 : decode cX9_stackOf 104 = .ok (.aload_n 0, 1) := by decide +kernel
theorem dX9_stackOf_105 : decode cX9_stackOf 105 = .ok (.getfield 46, 3) := by decide +kernel
theorem dX9_stackOf_108 : decode cX9_stackOf 108 = .ok (.iload_n 1, 1) := by decide +kernel
theorem dX9_stackOf_109 : decode cX9_stackOf 109 = .ok (.iaload, 1) := by decide +kernel
theorem dX9_stackOf_110 : decode cX9_stackOf 110 = .ok (.ireturn, 1) := by decide +kernel
theorem dX9_stackOf_111 : decode cX9_stackOf 111 = .ok (.aload_n 0, 1) := by decide +kernel
theorem dX9_stackOf_112 : decode cX9_stackOf 112 = .ok (.getfield 49, 3) := by decide +kernel
theorem dX9_stackOf_115 : decode cX9_stackOf 115 = .ok (.iload_n 1, 1) := by decide +kernel
theorem dX9_stackOf_116 : decode cX9_stackOf 116 = .ok (.iaload, 1) := by decide +kernel
theorem dX9_stackOf_117 : decode cX9_stackOf 117 = .ok (.ireturn, 1) := by decide +kernel
theorem dX9_stackOf_118 : decode cX9_stackOf 118 = .ok (.aload_n 0, 1) := by decide +kernel
theorem dX9_stackOf_119 : decode cX9_stackOf 119 = .ok (.getfield 52, 3) := by decide +kernel
theorem dX9_stackOf_122 : decode cX9_stackOf 122 = .ok (.iload_n 1, 1) := by decide +kernel
theorem dX9_stackOf_123 : decode cX9_stackOf 123 = .ok (.baload, 1) := by decide +kernel
theorem dX9_stackOf_124 : decode cX9_stackOf 124 = .ok (.invokestatic 205, 3) := by decide +kernel
theorem dX9_stackOf_127 : decode cX9_stackOf 127 = .ok (.ireturn, 1) := by decide +kernel
theorem dX9_stackOf_128 : decode cX9_stackOf 128 = .ok (.iconst (-1), 1) := by decide +kernel
theorem dX9_stackOf_129 : decode cX9_stackOf 129 = .ok (.ireturn, 1) := by decide +kernel
theorem dX9_layingOf_0 : decode cX9_layingOf 0 = .ok (.iconst 0, 1) := by decide +kernel
theorem dX9_layingOf_1 : decode cX9_layingOf 1 = .ok (.istore_n 2, 1) := by decide +kernel
theorem dX9_layingOf_2 : decode cX9_layingOf 2 = .ok (.iload_n 2, 1) := by decide +kernel
theorem dX9_layingOf_3 : decode cX9_layingOf 3 = .ok (.bipush 16, 2) := by decide +kernel
theorem dX9_layingOf_5 : decode cX9_layingOf 5 = .ok (.if_icmp .ge 16, 3) := by decide +kernel
theorem dX9_layingOf_8 : decode cX9_layingOf 8 = .ok (.aload_n 0, 1) := by decide +kernel
theorem dX9_layingOf_9 : decode cX9_layingOf 9 = .ok (.getfield 106, 3) := by decide +kernel
theorem dX9_layingOf_12 : decode cX9_layingOf 12 = .ok (.iload_n 2, 1) := by decide +kernel
theorem dX9_layingOf_13 : decode cX9_layingOf 13 = .ok (.iconst 0, 1) := by decide +kernel
theorem dX9_layingOf_14 : decode cX9_layingOf 14 = .ok (.bastore, 1) := by decide +kernel
theorem dX9_layingOf_15 : decode cX9_layingOf 15 = .ok (.iinc 2 1, 3) := by decide +kernel
theorem dX9_layingOf_18 : decode cX9_layingOf 18 = .ok (.goto (-16), 3) := by decide +kernel
theorem dX9_layingOf_21 : decode cX9_layingOf 21 = .ok (.iconst 0, 1) := by decide +kernel
theorem dX9_layingOf_22 : decode cX9_layingOf 22 = .ok (.istore_n 2, 1) := by decide +kernel
theorem dX9_layingOf_23 : decode cX9_layingOf 23 = .ok (.aload_n 0, 1) := by decide +kernel
theorem dX9_layingOf_24 : decode cX9_layingOf 24 = .ok (.getfield 222, 3) := by decide +kernel
theorem dX9_layingOf_27 : decode cX9_layingOf 27 = .ok (.istore_n 3, 1) := by decide +kernel
theorem dX9_layingOf_28 : decode cX9_layingOf 28 = .ok (.iconst 0, 1) := by decide +kernel
theorem dX9_layingOf_29 : decode cX9_layingOf 29 = .ok (.istore 4, 2) := by decide +kernel
theorem dX9_layingOf_31 : decode cX9_layingOf 31 = .ok (.iload 4, 2) := by decide +kernel
theorem dX9_layingOf_33 : decode cX9_layingOf 33 = .ok (.iload_n 1, 1) := by decide +kernel
theorem dX9_layingOf_34 : decode cX9_layingOf 34 = .ok (.if_icmp .ge 94, 3) := by decide +kernel
theorem dX9_layingOf_37 : decode cX9_layingOf 37 = .ok (.iload_n 2, 1) := by decide +kernel
theorem dX9_layingOf_38 : decode cX9_layingOf 38 = .ok (.iconst 5, 1) := by decide +kernel
theorem dX9_layingOf_39 : decode cX9_layingOf 39 = .ok (.aload_n 0, 1) := by decide +kernel
theorem dX9_layingOf_40 : decode cX9_layingOf 40 = .ok (.getfield 100, 3) := by decide +kernel
theorem dX9_layingOf_43 : decode cX9_layingOf 43 = .ok (.iload 4, 2) := by decide +kernel
theorem dX9_layingOf_45 : decode cX9_layingOf 45 = .ok (.iaload, 1) := by decide +kernel
theorem dX9_layingOf_46 : decode cX9_layingOf 46 = .ok (.iload_n 3, 1) := by decide +kernel
theorem dX9_layingOf_47 : decode cX9_layingOf 47 = .ok (.isub, 1) := by decide +kernel
theorem dX9_layingOf_48 : decode cX9_layingOf 48 = .ok (.invokestatic 225, 3) := by decide +kernel
theorem dX9_layingOf_51 : decode cX9_layingOf 51 = .ok (.imul, 1) := by decide +kernel
theorem dX9_layingOf_52 : decode cX9_layingOf 52 = .ok (.isub, 1) := by decide +kernel
theorem dX9_layingOf_53 : decode cX9_layingOf 53 = .ok (.istore_n 2, 1) := by decide +kernel
theorem dX9_layingOf_54 : decode cX9_layingOf 54 = .ok (.aload_n 0, 1) := by decide +kernel
theorem dX9_layingOf_55 : decode cX9_layingOf 55 = .ok (.getfield 100, 3) := by decide +kernel
theorem dX9_layingOf_58 : decode cX9_layingOf 58 = .ok (.iload 4, 2) := by decide +kernel
theorem dX9_layingOf_60 : decode cX9_layingOf 60 = .ok (.iaload, 1) := by decide +kernel
theorem dX9_layingOf_61 : decode cX9_layingOf 61 = .ok (.istore_n 3, 1) := by decide +kernel
theorem dX9_layingOf_62 : decode cX9_layingOf 62 = .ok (.iconst 0, 1) := by decide +kernel
theorem dX9_layingOf_63 : decode cX9_layingOf 63 = .ok (.iload_n 3, 1) := by decide +kernel
theorem dX9_layingOf_64 : decode cX9_layingOf 64 = .ok (.iconst 1, 1) := by decide +kernel
theorem dX9_layingOf_65 : decode cX9_layingOf 65 = .ok (.isub, 1) := by decide +kernel
theorem dX9_layingOf_66 : decode cX9_layingOf 66 = .ok (.invokestatic 216, 3) := by decide +kernel
theorem dX9_layingOf_69 : decode cX9_layingOf 69 = .ok (.istore 5, 2) := by decide +kernel
theorem dX9_layingOf_71 : decode cX9_layingOf 71 = .ok (.iload 5, 2) := by decide +kernel
theorem dX9_layingOf_73 : decode cX9_layingOf 73 = .ok (.bipush 15, 2) := by decide +kernel
theorem dX9_layingOf_75 : decode cX9_layingOf 75 = .ok (.iload_n 3, 1) := by decide +kernel
theorem dX9_layingOf_76 : decode cX9_layingOf 76 = .ok (.iconst 1, 1) := by decide +kernel
theorem dX9_layingOf_77 : decode cX9_layingOf 77 = .ok (.iadd, 1) := by decide +kernel
theorem dX9_layingOf_78 : decode cX9_layingOf 78 = .ok (.invokestatic 243, 3) := by decide +kernel
theorem dX9_layingOf_81 : decode cX9_layingOf 81 = .ok (.if_icmp .gt 41, 3) := by decide +kernel
theorem dX9_layingOf_84 : decode cX9_layingOf 84 = .ok (.iload_n 2, 1) := by decide +kernel
theorem dX9_layingOf_85 : decode cX9_layingOf 85 = .ok (.aload_n 0, 1) := by decide +kernel
theorem dX9_layingOf_86 : decode cX9_layingOf 86 = .ok (.getfield 106, 3) := by decide +kernel
theorem dX9_layingOf_89 : decode cX9_layingOf 89 = .ok (.iload 5, 2) := by decide +kernel
theorem dX9_layingOf_91 : decode cX9_layingOf 91 = .ok (.baload, 1) := by decide +kernel
theorem dX9_layingOf_92 : decode cX9_layingOf 92 = .ok (.ifCond .eq 7, 3) := by decide +kernel
theorem dX9_layingOf_95 : decode cX9_layingOf 95 = .ok (.iconst 0, 1) := by decide +kernel
theorem dX9_layingOf_96 : decode cX9_layingOf 96 = .ok (.goto 10, 3) := by decide +kernel
theorem dX9_layingOf_99 : decode cX9_layingOf 99 = .ok (.aload_n 0, 1) := by decide +kernel
theorem dX9_layingOf_100 : decode cX9_layingOf 100 = .ok (.getfield 16, 3) := by decide +kernel
theorem dX9_layingOf_103 : decode cX9_layingOf 103 = .ok (.iload 5, 2) := by decide +kernel
theorem dX9_layingOf_105 : decode cX9_layingOf 105 = .ok (.iaload, 1) := by decide +kernel
theorem dX9_layingOf_106 : decode cX9_layingOf 106 = .ok (.iadd, 1) := by decide +kernel
theorem dX9_layingOf_107 : decode cX9_layingOf 107 = .ok (.istore_n 2, 1) := by decide +kernel
theorem dX9_layingOf_108 : decode cX9_layingOf 108 = .ok (.aload_n 0, 1) := by decide +kernel
theorem dX9_layingOf_109 : decode cX9_layingOf 109 = .ok (.getfield 106, 3) := by decide +kernel
theorem dX9_layingOf_112 : decode cX9_layingOf 112 = .ok (.iload 5, 2) := by decide +kernel
theorem dX9_layingOf_114 : decode cX9_layingOf 114 = .ok (.iconst 1, 1) := by decide +kernel
theorem dX9_layingOf_115 : decode cX9_layingOf 115 = .ok (.bastore, 1) := by decide +kernel
theorem dX9_layingOf_116 : decode cX9_layingOf 116 = .ok (.iinc 5 1, 3) := by decide +kernel
theorem dX9_layingOf_119 : decode cX9_layingOf 119 = .ok (.goto (-48), 3) := by decide +kernel
theorem dX9_layingOf_122 : decode cX9_layingOf 122 = .ok (.iinc 4 1, 3) := by decide +kernel
theorem dX9_layingOf_125 : decode cX9_layingOf 125 = .ok (.goto (-94), 3) := by decide +kernel
theorem dX9_layingOf_128 : decode cX9_layingOf 128 = .ok (.iload_n 2, 1) := by decide +kernel
theorem dX9_layingOf_129 : decode cX9_layingOf 129 = .ok (.ireturn, 1) := by decide +kernel
theorem dX9_best_0 : decode cX9_best 0 = .ok (.iload_n 1, 1) := by decide +kernel
theorem dX9_best_1 : decode cX9_best 1 = .ok (.iconst 1, 1) := by decide +kernel
theorem dX9_best_2 : decode cX9_best 2 = .ok (.iconst 3, 1) := by decide +kernel
theorem dX9_best_3 : decode cX9_best 3 = .ok (.invokestatic 109, 3) := by decide +kernel
theorem dX9_best_6 : decode cX9_best 6 = .ok (.ifCond .eq 14, 3) := by decide +kernel
theorem dX9_best_9 : decode cX9_best 9 = .ok (.iload_n 2, 1) := by decide +kernel
theorem dX9_best_10 : decode cX9_best 10 = .ok (.iconst (-1), 1) := by decide +kernel
theorem dX9_best_11 : decode cX9_best 11 = .ok (.iload_n 1, 1) := by decide +kernel
theorem dX9_best_12 : decode cX9_best 12 = .ok (.iconst 1, 1) := by decide +kernel
theorem dX9_best_13 : decode cX9_best 13 = .ok (.isub, 1) := by decide +kernel
theorem dX9_best_14 : decode cX9_best 14 = .ok (.invokestatic 109, 3) := by decide +kernel
theorem dX9_best_17 : decode cX9_best 17 = .ok (.ifCond .ne 5, 3) := by decide +kernel
theorem dX9_best_20 : decode cX9_best 20 = .ok (.iconst (-1), 1) := by decide +kernel
theorem dX9_best_21 : decode cX9_best 21 = .ok (.ireturn, 1) := by decide +kernel
theorem dX9_best_22 : decode cX9_best 22 = .ok (.iload_n 1, 1) := by decide +kernel
theorem dX9_best_23 : decode cX9_best 23 = .ok (.iconst 1, 1) := by decide +kernel
theorem dX9_best_24 : decode cX9_best 24 = .ok (.if_icmp .ne 8, 3) := by decide +kernel
theorem dX9_best_27 : decode cX9_best 27 = .ok (.bipush 16, 2) := by decide +kernel
theorem dX9_best_29 : decode cX9_best 29 = .ok (.goto 17, 3) := by decide +kernel
theorem dX9_best_32 : decode cX9_best 32 = .ok (.iload_n 1, 1) := by decide +kernel
theorem dX9_best_33 : decode cX9_best 33 = .ok (.iconst 2, 1) := by decide +kernel
theorem dX9_best_34 : decode cX9_best 34 = .ok (.if_icmp .ne 9, 3) := by decide +kernel
theorem dX9_best_37 : decode cX9_best 37 = .ok (.sipush 256, 3) := by decide +kernel
theorem dX9_best_40 : decode cX9_best 40 = .ok (.goto 6, 3) := by decide +kernel
theorem dX9_best_43 : decode cX9_best 43 = .ok (.sipush 4096, 3) := by decide +kernel
theorem dX9_best_46 : decode cX9_best 46 = .ok (.istore_n 3, 1) := by decide +kernel
theorem dX9_best_47 : decode cX9_best 47 = .ok (.iconst 0, 1) := by decide +kernel
theorem dX9_best_48 : decode cX9_best 48 = .ok (.istore 4, 2) := by decide +kernel
theorem dX9_best_50 : decode cX9_best 50 = .ok (.iconst 0, 1) := by decide +kernel
theorem dX9_best_51 : decode cX9_best 51 = .ok (.istore 5, 2) := by decide +kernel
theorem dX9_best_53 : decode cX9_best 53 = .ok (.iload 5, 2) := by decide +kernel
theorem dX9_best_55 : decode cX9_best 55 = .ok (.iload_n 3, 1) := by decide +kernel
theorem dX9_best_56 : decode cX9_best 56 = .ok (.if_icmp .ge 103, 3) := by decide +kernel
theorem dX9_best_59 : decode cX9_best 59 = .ok (.iload 5, 2) := by decide +kernel
theorem dX9_best_61 : decode cX9_best 61 = .ok (.istore 6, 2) := by decide +kernel
theorem dX9_best_63 : decode cX9_best 63 = .ok (.iload_n 1, 1) := by decide +kernel
theorem dX9_best_64 : decode cX9_best 64 = .ok (.iconst 1, 1) := by decide +kernel
theorem dX9_best_65 : decode cX9_best 65 = .ok (.isub, 1) := by decide +kernel
theorem dX9_best_66 : decode cX9_best 66 = .ok (.istore 7, 2) := by decide +kernel
theorem dX9_best_68 : decode cX9_best 68 = .ok (.iload 7, 2) := by decide +kernel
theorem dX9_best_70 : decode cX9_best 70 = .ok (.ifCond .lt 28, 3) := by decide +kernel
theorem dX9_best_73 : decode cX9_best 73 = .ok (.aload_n 0, 1) := by decide +kernel
theorem dX9_best_74 : decode cX9_best 74 = .ok (.getfield 100, 3) := by decide +kernel
theorem dX9_best_77 : decode cX9_best 77 = .ok (.iload 7, 2) := by decide +kernel
theorem dX9_best_79 : decode cX9_best 79 = .ok (.iload 6, 2) := by decide +kernel
theorem dX9_best_81 : decode cX9_best 81 = .ok (.bipush 16, 2) := by decide +kernel
theorem dX9_best_83 : decode cX9_best 83 = .ok (.irem, 1) := by decide +kernel
theorem dX9_best_84 : decode cX9_best 84 = .ok (.iastore, 1) := by decide +kernel
theorem dX9_best_85 : decode cX9_best 85 = .ok (.iload 6, 2) := by decide +kernel
theorem dX9_best_87 : decode cX9_best 87 = .ok (.bipush 16, 2) := by decide +kernel
theorem dX9_best_89 : decode cX9_best 89 = .ok (.idiv, 1) := by decide +kernel
theorem dX9_best_90 : decode cX9_best 90 = .ok (.istore 6, 2) := by decide +kernel
theorem dX9_best_92 : decode cX9_best 92 = .ok (.iinc 7 (-1), 3) := by decide +kernel
theorem dX9_best_95 : decode cX9_best 95 = .ok (.goto (-27), 3) := by decide +kernel
theorem dX9_best_98 : decode cX9_best 98 = .ok (.aload_n 0, 1) := by decide +kernel
theorem dX9_best_99 : decode cX9_best 99 = .ok (.iload_n 1, 1) := by decide +kernel
theorem dX9_best_100 : decode cX9_best 100 = .ok (.invokevirtual 272, 3) := by decide +kernel
theorem dX9_best_103 : decode cX9_best 103 = .ok (.istore 7, 2) := by decide +kernel
theorem dX9_best_105 : decode cX9_best 105 = .ok (.iload 5, 2) := by decide +kernel
theorem dX9_best_107 : decode cX9_best 107 = .ok (.ifCond .le 13, 3) := by decide +kernel
theorem dX9_best_110 : decode cX9_best 110 = .ok (.iload 7, 2) := by decide +kernel
theorem dX9_best_112 : decode cX9_best 112 = .ok (.iload 4, 2) := by decide +kernel
theorem dX9_best_114 : decode cX9_best 114 = .ok (.if_icmp .gt 6, 3) := by decide +kernel
theorem dX9_best_117 : decode cX9_best 117 = .ok (.goto 36, 3) := by decide +kernel
theorem dX9_best_120 : decode cX9_best 120 = .ok (.iload 7, 2) := by decide +kernel
theorem dX9_best_122 : decode cX9_best 122 = .ok (.istore 4, 2) := by decide +kernel
theorem dX9_best_124 : decode cX9_best 124 = .ok (.iconst 0, 1) := by decide +kernel
theorem dX9_best_125 : decode cX9_best 125 = .ok (.istore 8, 2) := by decide +kernel
theorem dX9_best_127 : decode cX9_best 127 = .ok (.iload 8, 2) := by decide +kernel
theorem dX9_best_129 : decode cX9_best 129 = .ok (.iload_n 1, 1) := by decide +kernel
theorem dX9_best_130 : decode cX9_best 130 = .ok (.if_icmp .ge 23, 3) := by decide +kernel
theorem dX9_best_133 : decode cX9_best 133 = .ok (.aload_n 0, 1) := by decide +kernel
theorem dX9_best_134 : decode cX9_best 134 = .ok (.getfield 103, 3) := by decide +kernel
theorem dX9_best_137 : decode cX9_best 137 = .ok (.iload 8, 2) := by decide +kernel
theorem dX9_best_139 : decode cX9_best 139 = .ok (.aload_n 0, 1) := by decide +kernel
theorem dX9_best_140 : decode cX9_best 140 = .ok (.getfield 100, 3) := by decide +kernel
theorem dX9_best_143 : decode cX9_best 143 = .ok (.iload 8, 2) := by decide +kernel
theorem dX9_best_145 : decode cX9_best 145 = .ok (.iaload, 1) := by decide +kernel
theorem dX9_best_146 : decode cX9_best 146 = .ok (.iastore, 1) := by decide +kernel
theorem dX9_best_147 : decode cX9_best 147 = .ok (.iinc 8 1, 3) := by decide +kernel
theorem dX9_best_150 : decode cX9_best 150 = .ok (.goto (-23), 3) := by decide +kernel
theorem dX9_best_153 : decode cX9_best 153 = .ok (.iinc 5 1, 3) := by decide +kernel
theorem dX9_best_156 : decode cX9_best 156 = .ok (.goto (-103), 3) := by decide +kernel
theorem dX9_best_159 : decode cX9_best 159 = .ok (.iload_n 2, 1) := by decide +kernel
theorem dX9_best_160 : decode cX9_best 160 = .ok (.iconst (-1), 1) := by decide +kernel
theorem dX9_best_161 : decode cX9_best 161 = .ok (.if_icmp .ne 8, 3) := by decide +kernel
theorem dX9_best_164 : decode cX9_best 164 = .ok (.iload 4, 2) := by decide +kernel
theorem dX9_best_166 : decode cX9_best 166 = .ok (.goto 9, 3) := by decide +kernel
theorem dX9_best_169 : decode cX9_best 169 = .ok (.aload_n 0, 1) := by decide +kernel
theorem dX9_best_170 : decode cX9_best 170 = .ok (.getfield 103, 3) := by decide +kernel
theorem dX9_best_173 : decode cX9_best 173 = .ok (.iload_n 2, 1) := by decide +kernel
theorem dX9_best_174 : decode cX9_best 174 = .ok (.iaload, 1) := by decide +kernel
theorem dX9_best_175 : decode cX9_best 175 = .ok (.ireturn, 1) := by decide +kernel
theorem dX9_lasts_0 : decode cX9_lasts 0 = .ok (.aload_n 0, 1) := by decide +kernel
theorem dX9_lasts_1 : decode cX9_lasts 1 = .ok (.getfield 257, 3) := by decide +kernel
theorem dX9_lasts_4 : decode cX9_lasts 4 = .ok (.istore_n 1, 1) := by decide +kernel
theorem dX9_lasts_5 : decode cX9_lasts 5 = .ok (.iconst 0, 1) := by decide +kernel
theorem dX9_lasts_6 : decode cX9_lasts 6 = .ok (.istore_n 2, 1) := by decide +kernel
theorem dX9_lasts_7 : decode cX9_lasts 7 = .ok (.iload_n 2, 1) := by decide +kernel
theorem dX9_lasts_8 : decode cX9_lasts 8 = .ok (.aload_n 0, 1) := by decide +kernel
theorem dX9_lasts_9 : decode cX9_lasts 9 = .ok (.getfield 113, 3) := by decide +kernel
theorem dX9_lasts_12 : decode cX9_lasts 12 = .ok (.if_icmp .ge 30, 3) := by decide +kernel
theorem dX9_lasts_15 : decode cX9_lasts 15 = .ok (.iload_n 1, 1) := by decide +kernel
theorem dX9_lasts_16 : decode cX9_lasts 16 = .ok (.aload_n 0, 1) := by decide +kernel
theorem dX9_lasts_17 : decode cX9_lasts 17 = .ok (.iload_n 2, 1) := by decide +kernel
theorem dX9_lasts_18 : decode cX9_lasts 18 = .ok (.invokevirtual 234, 3) := by decide +kernel
theorem dX9_lasts_21 : decode cX9_lasts 21 = .ok (.ifCond .eq 7, 3) := by decide +kernel
theorem dX9_lasts_24 : decode cX9_lasts 24 = .ok (.iconst 0, 1) := by decide +kernel
theorem dX9_lasts_25 : decode cX9_lasts 25 = .ok (.goto 9, 3) := by decide +kernel
theorem dX9_lasts_28 : decode cX9_lasts 28 = .ok (.aload_n 0, 1) := by decide +kernel
theorem dX9_lasts_29 : decode cX9_lasts 29 = .ok (.getfield 31, 3) := by decide +kernel
theorem dX9_lasts_32 : decode cX9_lasts 32 = .ok (.iload_n 2, 1) := by decide +kernel
theorem dX9_lasts_33 : decode cX9_lasts 33 = .ok (.iaload, 1) := by decide +kernel
theorem dX9_lasts_34 : decode cX9_lasts 34 = .ok (.iadd, 1) := by decide +kernel
theorem dX9_lasts_35 : decode cX9_lasts 35 = .ok (.istore_n 1, 1) := by decide +kernel
theorem dX9_lasts_36 : decode cX9_lasts 36 = .ok (.iinc 2 1, 3) := by decide +kernel
theorem dX9_lasts_39 : decode cX9_lasts 39 = .ok (.goto (-32), 3) := by decide +kernel
theorem dX9_lasts_42 : decode cX9_lasts 42 = .ok (.aload_n 0, 1) := by decide +kernel
theorem dX9_lasts_43 : decode cX9_lasts 43 = .ok (.getfield 240, 3) := by decide +kernel
theorem dX9_lasts_46 : decode cX9_lasts 46 = .ok (.ifCond .ne 7, 3) := by decide +kernel
theorem dX9_lasts_49 : decode cX9_lasts 49 = .ok (.iconst (-1), 1) := by decide +kernel
theorem dX9_lasts_50 : decode cX9_lasts 50 = .ok (.goto 9, 3) := by decide +kernel
theorem dX9_lasts_53 : decode cX9_lasts 53 = .ok (.iload_n 1, 1) := by decide +kernel
theorem dX9_lasts_54 : decode cX9_lasts 54 = .ok (.aload_n 0, 1) := by decide +kernel
theorem dX9_lasts_55 : decode cX9_lasts 55 = .ok (.getfield 240, 3) := by decide +kernel
theorem dX9_lasts_58 : decode cX9_lasts 58 = .ok (.idiv, 1) := by decide +kernel
theorem dX9_lasts_59 : decode cX9_lasts 59 = .ok (.ireturn, 1) := by decide +kernel
theorem dX9_count_0 : decode cX9_count 0 = .ok (.iconst 0, 1) := by decide +kernel
theorem dX9_count_1 : decode cX9_count 1 = .ok (.istore_n 2, 1) := by decide +kernel
theorem dX9_count_2 : decode cX9_count 2 = .ok (.iload_n 1, 1) := by decide +kernel
theorem dX9_count_3 : decode cX9_count 3 = .ok (.tableswitch 152 0 12 #[65, 70, 75, 80, 85, 90, 95, 100, 105, 110, 137, 142, 147], 65) := by decide +kernel
theorem dX9_count_68 : decode cX9_count 68 = .ok (.aload_n 0, 1) := by decide +kernel
theorem dX9_count_69 : decode cX9_count 69 = .ok (.getfield 194, 3) := by decide +kernel
theorem dX9_count_72 : decode cX9_count 72 = .ok (.ireturn, 1) := by decide +kernel
theorem dX9_count_73 : decode cX9_count 73 = .ok (.aload_n 0, 1) := by decide +kernel
theorem dX9_count_74 : decode cX9_count 74 = .ok (.getfield 222, 3) := by decide +kernel
theorem dX9_count_77 : decode cX9_count 77 = .ok (.ireturn, 1) := by decide +kernel
theorem dX9_count_78 : decode cX9_count 78 = .ok (.aload_n 0, 1) := by decide +kernel
theorem dX9_count_79 : decode cX9_count 79 = .ok (.getfield 237, 3) := by decide +kernel
theorem dX9_count_82 : decode cX9_count 82 = .ok (.ireturn, 1) := by decide +kernel
theorem dX9_count_83 : decode cX9_count 83 = .ok (.aload_n 0, 1) := by decide +kernel
theorem dX9_count_84 : decode cX9_count 84 = .ok (.getfield 240, 3) := by decide +kernel
theorem dX9_count_87 : decode cX9_count 87 = .ok (.ireturn, 1) := by decide +kernel
theorem dX9_count_88 : decode cX9_count 88 = .ok (.aload_n 0, 1) := by decide +kernel
theorem dX9_count_89 : decode cX9_count 89 = .ok (.getfield 257, 3) := by decide +kernel
theorem dX9_count_92 : decode cX9_count 92 = .ok (.ireturn, 1) := by decide +kernel
theorem dX9_count_93 : decode cX9_count 93 = .ok (.aload_n 0, 1) := by decide +kernel
theorem dX9_count_94 : decode cX9_count 94 = .ok (.getfield 260, 3) := by decide +kernel
theorem dX9_count_97 : decode cX9_count 97 = .ok (.ireturn, 1) := by decide +kernel
theorem dX9_count_98 : decode cX9_count 98 = .ok (.aload_n 0, 1) := by decide +kernel
theorem dX9_count_99 : decode cX9_count 99 = .ok (.getfield 263, 3) := by decide +kernel
theorem dX9_count_102 : decode cX9_count 102 = .ok (.ireturn, 1) := by decide +kernel
theorem dX9_count_103 : decode cX9_count 103 = .ok (.aload_n 0, 1) := by decide +kernel
theorem dX9_count_104 : decode cX9_count 104 = .ok (.getfield 266, 3) := by decide +kernel
theorem dX9_count_107 : decode cX9_count 107 = .ok (.ireturn, 1) := by decide +kernel
theorem dX9_count_108 : decode cX9_count 108 = .ok (.aload_n 0, 1) := by decide +kernel
theorem dX9_count_109 : decode cX9_count 109 = .ok (.getfield 246, 3) := by decide +kernel
theorem dX9_count_112 : decode cX9_count 112 = .ok (.ireturn, 1) := by decide +kernel
theorem dX9_count_113 : decode cX9_count 113 = .ok (.iconst 0, 1) := by decide +kernel
theorem dX9_count_114 : decode cX9_count 114 = .ok (.istore_n 3, 1) := by decide +kernel
theorem dX9_count_115 : decode cX9_count 115 = .ok (.iload_n 3, 1) := by decide +kernel
theorem dX9_count_116 : decode cX9_count 116 = .ok (.aload_n 0, 1) := by decide +kernel
theorem dX9_count_117 : decode cX9_count 117 = .ok (.getfield 113, 3) := by decide +kernel
theorem dX9_count_120 : decode cX9_count 120 = .ok (.if_icmp .ge 18, 3) := by decide +kernel
theorem dX9_count_123 : decode cX9_count 123 = .ok (.iload_n 2, 1) := by decide +kernel
theorem dX9_count_124 : decode cX9_count 124 = .ok (.aload_n 0, 1) := by decide +kernel
theorem dX9_count_125 : decode cX9_count 125 = .ok (.getfield 31, 3) := by decide +kernel
theorem dX9_count_128 : decode cX9_count 128 = .ok (.iload_n 3, 1) := by decide +kernel
theorem dX9_count_129 : decode cX9_count 129 = .ok (.iaload, 1) := by decide +kernel
theorem dX9_count_130 : decode cX9_count 130 = .ok (.iadd, 1) := by decide +kernel
theorem dX9_count_131 : decode cX9_count 131 = .ok (.istore_n 2, 1) := by decide +kernel
theorem dX9_count_132 : decode cX9_count 132 = .ok (.iinc 3 1, 3) := by decide +kernel
theorem dX9_count_135 : decode cX9_count 135 = .ok (.goto (-20), 3) := by decide +kernel
theorem dX9_count_138 : decode cX9_count 138 = .ok (.iload_n 2, 1) := by decide +kernel
theorem dX9_count_139 : decode cX9_count 139 = .ok (.ireturn, 1) := by decide +kernel
theorem dX9_count_140 : decode cX9_count 140 = .ok (.aload_n 0, 1) := by decide +kernel
theorem dX9_count_141 : decode cX9_count 141 = .ok (.getfield 113, 3) := by decide +kernel
theorem dX9_count_144 : decode cX9_count 144 = .ok (.ireturn, 1) := by decide +kernel
theorem dX9_count_145 : decode cX9_count 145 = .ok (.aload_n 0, 1) := by decide +kernel
theorem dX9_count_146 : decode cX9_count 146 = .ok (.getfield 188, 3) := by decide +kernel
theorem dX9_count_149 : decode cX9_count 149 = .ok (.ireturn, 1) := by decide +kernel
theorem dX9_count_150 : decode cX9_count 150 = .ok (.aload_n 0, 1) := by decide +kernel
theorem dX9_count_151 : decode cX9_count 151 = .ok (.getfield 116, 3) := by decide +kernel
theorem dX9_count_154 : decode cX9_count 154 = .ok (.ireturn, 1) := by decide +kernel
theorem dX9_count_155 : decode cX9_count 155 = .ok (.iconst (-1), 1) := by decide +kernel
theorem dX9_count_156 : decode cX9_count 156 = .ok (.ireturn, 1) := by decide +kernel
theorem dJ9_abs_0f7a4_0 : decode cJ9_abs_0f7a4 0 = .ok (.iload_n 0, 1) := by decide +kernel
theorem dJ9_abs_0f7a4_1 : decode cJ9_abs_0f7a4 1 = .ok (.ifCond .ge 8, 3) := by decide +kernel
theorem dJ9_abs_0f7a4_4 : decode cJ9_abs_0f7a4 4 = .ok (.iload_n 0, 1) := by decide +kernel
theorem dJ9_abs_0f7a4_5 : decode cJ9_abs_0f7a4 5 = .ok (.ineg, 1) := by decide +kernel
theorem dJ9_abs_0f7a4_6 : decode cJ9_abs_0f7a4 6 = .ok (.goto 4, 3) := by decide +kernel
theorem dJ9_abs_0f7a4_9 : decode cJ9_abs_0f7a4 9 = .ok (.iload_n 0, 1) := by decide +kernel
theorem dJ9_abs_0f7a4_10 : decode cJ9_abs_0f7a4 10 = .ok (.ireturn, 1) := by decide +kernel
theorem dJ9_max_7cf53_0 : decode cJ9_max_7cf53 0 = .ok (.iload_n 0, 1) := by decide +kernel
theorem dJ9_max_7cf53_1 : decode cJ9_max_7cf53 1 = .ok (.iload_n 1, 1) := by decide +kernel
theorem dJ9_max_7cf53_2 : decode cJ9_max_7cf53 2 = .ok (.if_icmp .lt 7, 3) := by decide +kernel
theorem dJ9_max_7cf53_5 : decode cJ9_max_7cf53 5 = .ok (.iload_n 0, 1) := by decide +kernel
theorem dJ9_max_7cf53_6 : decode cJ9_max_7cf53 6 = .ok (.goto 4, 3) := by decide +kernel
theorem dJ9_max_7cf53_9 : decode cJ9_max_7cf53 9 = .ok (.iload_n 1, 1) := by decide +kernel
theorem dJ9_max_7cf53_10 : decode cJ9_max_7cf53 10 = .ok (.ireturn, 1) := by decide +kernel
theorem dJ9_min_7cf53_0 : decode cJ9_min_7cf53 0 = .ok (.iload_n 0, 1) := by decide +kernel
theorem dJ9_min_7cf53_1 : decode cJ9_min_7cf53 1 = .ok (.iload_n 1, 1) := by decide +kernel
theorem dJ9_min_7cf53_2 : decode cJ9_min_7cf53 2 = .ok (.if_icmp .gt 7, 3) := by decide +kernel
theorem dJ9_min_7cf53_5 : decode cJ9_min_7cf53 5 = .ok (.iload_n 0, 1) := by decide +kernel
theorem dJ9_min_7cf53_6 : decode cJ9_min_7cf53 6 = .ok (.goto 4, 3) := by decide +kernel
theorem dJ9_min_7cf53_9 : decode cJ9_min_7cf53 9 = .ok (.iload_n 1, 1) := by decide +kernel
theorem dJ9_min_7cf53_10 : decode cJ9_min_7cf53 10 = .ok (.ireturn, 1) := by decide +kernel
theorem dJ0_length_8abf5_0 : decode cJ0_length_8abf5 0 = .ok (.aload_n 0, 1) := by decide +kernel
theorem dJ0_length_8abf5_1 : decode cJ0_length_8abf5 1 = .ok (.getfield 9, 3) := by decide +kernel
theorem dJ0_length_8abf5_4 : decode cJ0_length_8abf5 4 = .ok (.arraylength, 1) := by decide +kernel
theorem dJ0_length_8abf5_5 : decode cJ0_length_8abf5 5 = .ok (.aload_n 0, 1) := by decide +kernel
theorem dJ0_length_8abf5_6 : decode cJ0_length_8abf5 6 = .ok (.invokevirtual 335, 3) := by decide +kernel
theorem dJ0_length_8abf5_9 : decode cJ0_length_8abf5 9 = .ok (.ishr, 1) := by decide +kernel
theorem dJ0_length_8abf5_10 : decode cJ0_length_8abf5 10 = .ok (.ireturn, 1) := by decide +kernel
theorem dJ0_charAt_5068e_0 : decode cJ0_charAt_5068e 0 = .ok (.aload_n 0, 1) := by decide +kernel
theorem dJ0_charAt_5068e_1 : decode cJ0_charAt_5068e 1 = .ok (.invokevirtual 492, 3) := by decide +kernel
theorem dJ0_charAt_5068e_4 : decode cJ0_charAt_5068e 4 = .ok (.ifCond .eq 12, 3) := by decide +kernel
theorem dJ0_charAt_5068e_7 : decode cJ0_charAt_5068e 7 = .ok (.aload_n 0, 1) := by decide +kernel
theorem dJ0_charAt_5068e_8 : decode cJ0_charAt_5068e 8 = .ok (.getfield 9, 3) := by decide +kernel
theorem dJ0_charAt_5068e_11 : decode cJ0_charAt_5068e 11 = .ok (.iload_n 1, 1) := by decide +kernel
theorem dJ0_charAt_5068e_12 : decode cJ0_charAt_5068e 12 = .ok (.invokestatic 495, 3) := by decide +kernel
theorem dJ0_charAt_5068e_15 : decode cJ0_charAt_5068e 15 = .ok (.ireturn, 1) := by decide +kernel
theorem dJ0_charAt_5068e_16 : decode cJ0_charAt_5068e 16 = .ok (.aload_n 0, 1) := by decide +kernel
theorem dJ0_charAt_5068e_17 : decode cJ0_charAt_5068e 17 = .ok (.getfield 9, 3) := by decide +kernel
theorem dJ0_charAt_5068e_20 : decode cJ0_charAt_5068e 20 = .ok (.iload_n 1, 1) := by decide +kernel
theorem dJ0_charAt_5068e_21 : decode cJ0_charAt_5068e 21 = .ok (.invokestatic 498, 3) := by decide +kernel
theorem dJ0_charAt_5068e_24 : decode cJ0_charAt_5068e 24 = .ok (.ireturn, 1) := by decide +kernel
theorem dJ0_coder_7d493_0 : decode cJ0_coder_7d493 0 = .ok (.getstatic 38, 3) := by decide +kernel
theorem dJ0_coder_7d493_3 : decode cJ0_coder_7d493 3 = .ok (.ifCond .eq 10, 3) := by decide +kernel
theorem dJ0_coder_7d493_6 : decode cJ0_coder_7d493 6 = .ok (.aload_n 0, 1) := by decide +kernel
theorem dJ0_coder_7d493_7 : decode cJ0_coder_7d493 7 = .ok (.getfield 15, 3) := by decide +kernel
theorem dJ0_coder_7d493_10 : decode cJ0_coder_7d493 10 = .ok (.goto 4, 3) := by decide +kernel
theorem dJ0_coder_7d493_13 : decode cJ0_coder_7d493 13 = .ok (.iconst 1, 1) := by decide +kernel
theorem dJ0_coder_7d493_14 : decode cJ0_coder_7d493 14 = .ok (.ireturn, 1) := by decide +kernel
theorem dJ0_isLatin1_aae02_0 : decode cJ0_isLatin1_aae02 0 = .ok (.getstatic 38, 3) := by decide +kernel
theorem dJ0_isLatin1_aae02_3 : decode cJ0_isLatin1_aae02 3 = .ok (.ifCond .eq 14, 3) := by decide +kernel
theorem dJ0_isLatin1_aae02_6 : decode cJ0_isLatin1_aae02 6 = .ok (.aload_n 0, 1) := by decide +kernel
theorem dJ0_isLatin1_aae02_7 : decode cJ0_isLatin1_aae02 7 = .ok (.getfield 15, 3) := by decide +kernel
theorem dJ0_isLatin1_aae02_10 : decode cJ0_isLatin1_aae02 10 = .ok (.ifCond .ne 7, 3) := by decide +kernel
theorem dJ0_isLatin1_aae02_13 : decode cJ0_isLatin1_aae02 13 = .ok (.iconst 1, 1) := by decide +kernel
theorem dJ0_isLatin1_aae02_14 : decode cJ0_isLatin1_aae02 14 = .ok (.goto 4, 3) := by decide +kernel
theorem dJ0_isLatin1_aae02_17 : decode cJ0_isLatin1_aae02 17 = .ok (.iconst 0, 1) := by decide +kernel
theorem dJ0_isLatin1_aae02_18 : decode cJ0_isLatin1_aae02 18 = .ok (.ireturn, 1) := by decide +kernel
theorem dJ0_checkIndex_df160_0 : decode cJ0_checkIndex_df160 0 = .ok (.iload_n 0, 1) := by decide +kernel
theorem dJ0_checkIndex_df160_1 : decode cJ0_checkIndex_df160 1 = .ok (.iload_n 1, 1) := by decide +kernel
theorem dJ0_checkIndex_df160_2 : decode cJ0_checkIndex_df160 2 = .ok (.getstatic 1053, 3) := by decide +kernel
theorem dJ0_checkIndex_df160_5 : decode cJ0_checkIndex_df160 5 = .ok (.invokestatic 1059, 3) := by decide +kernel
theorem dJ0_checkIndex_df160_8 : decode cJ0_checkIndex_df160 8 = .ok (.pop, 1) := by decide +kernel
theorem dJ0_checkIndex_df160_9 : decode cJ0_checkIndex_df160 9 = .ok (.return_, 1) := by decide +kernel
theorem dJ1_charAt_3b067_0 : decode cJ1_charAt_3b067 0 = .ok (.iload_n 1, 1) := by decide +kernel
theorem dJ1_charAt_3b067_1 : decode cJ1_charAt_3b067 1 = .ok (.aload_n 0, 1) := by decide +kernel
theorem dJ1_charAt_3b067_2 : decode cJ1_charAt_3b067 2 = .ok (.arraylength, 1) := by decide +kernel
theorem dJ1_charAt_3b067_3 : decode cJ1_charAt_3b067 3 = .ok (.invokestatic 9, 3) := by decide +kernel
theorem dJ1_charAt_3b067_6 : decode cJ1_charAt_3b067 6 = .ok (.aload_n 0, 1) := by decide +kernel
theorem dJ1_charAt_3b067_7 : decode cJ1_charAt_3b067 7 = .ok (.iload_n 1, 1) := by decide +kernel
theorem dJ1_charAt_3b067_8 : decode cJ1_charAt_3b067 8 = .ok (.baload, 1) := by decide +kernel
theorem dJ1_charAt_3b067_9 : decode cJ1_charAt_3b067 9 = .ok (.sipush 255, 3) := by decide +kernel
theorem dJ1_charAt_3b067_12 : decode cJ1_charAt_3b067 12 = .ok (.iand, 1) := by decide +kernel
theorem dJ1_charAt_3b067_13 : decode cJ1_charAt_3b067 13 = .ok (.i2c, 1) := by decide +kernel
theorem dJ1_charAt_3b067_14 : decode cJ1_charAt_3b067 14 = .ok (.ireturn, 1) := by decide +kernel
theorem dJ2_getChar_3b067_0 : decode cJ2_getChar_3b067 0 = .ok (.getstatic 44, 3) := by decide +kernel
theorem dJ2_getChar_3b067_3 : decode cJ2_getChar_3b067 3 = .ok (.ifCond .ne 25, 3) := by decide +kernel
theorem dJ2_getChar_3b067_6 : decode cJ2_getChar_3b067 6 = .ok (.iload_n 1, 1) := by decide +kernel
theorem dJ2_getChar_3b067_7 : decode cJ2_getChar_3b067 7 = .ok (.ifCond .lt 11, 3) := by decide +kernel
theorem dJ2_getChar_3b067_10 : decode cJ2_getChar_3b067 10 = .ok (.iload_n 1, 1) := by decide +kernel
theorem dJ2_getChar_3b067_11 : decode cJ2_getChar_3b067 11 = .ok (.aload_n 0, 1) := by decide +kernel
theorem dJ2_getChar_3b067_12 : decode cJ2_getChar_3b067 12 = .ok (.invokestatic 48, 3) := by decide +kernel
theorem dJ2_getChar_3b067_15 : decode cJ2_getChar_3b067 15 = .ok (.if_icmp .lt 13, 3) := by decide +kernel
theorem dJ2_getChar_3b067_18 : decode cJ2_getChar_3b067 18 = .ok (.new 52, 3) := by decide +kernel
theorem dJ2_getChar_3b067_21 : decode cJ2_getChar_3b067 21 = .ok (.dup, 1) := by decide +kernel
theorem dJ2_getChar_3b067_22 : decode cJ2_getChar_3b067 22 = .ok (.ldc 54, 2) := by decide +kernel
theorem dJ2_getChar_3b067_24 : decode cJ2_getChar_3b067 24 = .ok (.invokespecial 56, 3) := by decide +kernel
theorem dJ2_getChar_3b067_27 : decode cJ2_getChar_3b067 27 = .ok (.athrow, 1) := by decide +kernel
theorem dJ2_getChar_3b067_28 : decode cJ2_getChar_3b067 28 = .ok (.iload_n 1, 1) := by decide +kernel
theorem dJ2_getChar_3b067_29 : decode cJ2_getChar_3b067 29 = .ok (.iconst 1, 1) := by decide +kernel
theorem dJ2_getChar_3b067_30 : decode cJ2_getChar_3b067 30 = .ok (.ishl, 1) := by decide +kernel
theorem dJ2_getChar_3b067_31 : decode cJ2_getChar_3b067 31 = .ok (.istore_n 1, 1) := by decide +kernel
theorem dJ2_getChar_3b067_32 : decode cJ2_getChar_3b067 32 = .ok (.aload_n 0, 1) := by decide +kernel
theorem dJ2_getChar_3b067_33 : decode cJ2_getChar_3b067 33 = .ok (.iload_n 1, 1) := by decide +kernel
theorem dJ2_getChar_3b067_34 : decode cJ2_getChar_3b067 34 = .ok (.iinc 1 1, 3) := by decide +kernel
theorem dJ2_getChar_3b067_37 : decode cJ2_getChar_3b067 37 = .ok (.baload, 1) := by decide +kernel
theorem dJ2_getChar_3b067_38 : decode cJ2_getChar_3b067 38 = .ok (.sipush 255, 3) := by decide +kernel
theorem dJ2_getChar_3b067_41 : decode cJ2_getChar_3b067 41 = .ok (.iand, 1) := by decide +kernel
theorem dJ2_getChar_3b067_42 : decode cJ2_getChar_3b067 42 = .ok (.getstatic 59, 3) := by decide +kernel
theorem dJ2_getChar_3b067_45 : decode cJ2_getChar_3b067 45 = .ok (.ishl, 1) := by decide +kernel
theorem dJ2_getChar_3b067_46 : decode cJ2_getChar_3b067 46 = .ok (.aload_n 0, 1) := by decide +kernel
theorem dJ2_getChar_3b067_47 : decode cJ2_getChar_3b067 47 = .ok (.iload_n 1, 1) := by decide +kernel
theorem dJ2_getChar_3b067_48 : decode cJ2_getChar_3b067 48 = .ok (.baload, 1) := by decide +kernel
theorem dJ2_getChar_3b067_49 : decode cJ2_getChar_3b067 49 = .ok (.sipush 255, 3) := by decide +kernel
theorem dJ2_getChar_3b067_52 : decode cJ2_getChar_3b067 52 = .ok (.iand, 1) := by decide +kernel
theorem dJ2_getChar_3b067_53 : decode cJ2_getChar_3b067 53 = .ok (.getstatic 63, 3) := by decide +kernel
theorem dJ2_getChar_3b067_56 : decode cJ2_getChar_3b067 56 = .ok (.ishl, 1) := by decide +kernel
theorem dJ2_getChar_3b067_57 : decode cJ2_getChar_3b067 57 = .ok (.ior, 1) := by decide +kernel
theorem dJ2_getChar_3b067_58 : decode cJ2_getChar_3b067 58 = .ok (.i2c, 1) := by decide +kernel
theorem dJ2_getChar_3b067_59 : decode cJ2_getChar_3b067 59 = .ok (.ireturn, 1) := by decide +kernel
theorem dJ2_length_9d52b_0 : decode cJ2_length_9d52b 0 = .ok (.aload_n 0, 1) := by decide +kernel
theorem dJ2_length_9d52b_1 : decode cJ2_length_9d52b 1 = .ok (.arraylength, 1) := by decide +kernel
theorem dJ2_length_9d52b_2 : decode cJ2_length_9d52b 2 = .ok (.iconst 1, 1) := by decide +kernel
theorem dJ2_length_9d52b_3 : decode cJ2_length_9d52b 3 = .ok (.ishr, 1) := by decide +kernel
theorem dJ2_length_9d52b_4 : decode cJ2_length_9d52b 4 = .ok (.ireturn, 1) := by decide +kernel
theorem dJ2_charAt_3b067_0 : decode cJ2_charAt_3b067 0 = .ok (.iload_n 1, 1) := by decide +kernel
theorem dJ2_charAt_3b067_1 : decode cJ2_charAt_3b067 1 = .ok (.aload_n 0, 1) := by decide +kernel
theorem dJ2_charAt_3b067_2 : decode cJ2_charAt_3b067 2 = .ok (.invokestatic 67, 3) := by decide +kernel
theorem dJ2_charAt_3b067_5 : decode cJ2_charAt_3b067 5 = .ok (.aload_n 0, 1) := by decide +kernel
theorem dJ2_charAt_3b067_6 : decode cJ2_charAt_3b067 6 = .ok (.iload_n 1, 1) := by decide +kernel
theorem dJ2_charAt_3b067_7 : decode cJ2_charAt_3b067 7 = .ok (.invokestatic 71, 3) := by decide +kernel
theorem dJ2_charAt_3b067_10 : decode cJ2_charAt_3b067 10 = .ok (.ireturn, 1) := by decide +kernel
theorem dJ2_checkIndex_2214a_0 : decode cJ2_checkIndex_2214a 0 = .ok (.iload_n 0, 1) := by decide +kernel
theorem dJ2_checkIndex_2214a_1 : decode cJ2_checkIndex_2214a 1 = .ok (.aload_n 1, 1) := by decide +kernel
theorem dJ2_checkIndex_2214a_2 : decode cJ2_checkIndex_2214a 2 = .ok (.invokestatic 48, 3) := by decide +kernel
theorem dJ2_checkIndex_2214a_5 : decode cJ2_checkIndex_2214a 5 = .ok (.invokestatic 414, 3) := by decide +kernel
theorem dJ2_checkIndex_2214a_8 : decode cJ2_checkIndex_2214a 8 = .ok (.return_, 1) := by decide +kernel
theorem dJ3_checkIndex_8e157_0 : decode cJ3_checkIndex_8e157 0 = .ok (.iload_n 0, 1) := by decide +kernel
theorem dJ3_checkIndex_8e157_1 : decode cJ3_checkIndex_8e157 1 = .ok (.ifCond .lt 8, 3) := by decide +kernel
theorem dJ3_checkIndex_8e157_4 : decode cJ3_checkIndex_8e157 4 = .ok (.iload_n 0, 1) := by decide +kernel
theorem dJ3_checkIndex_8e157_5 : decode cJ3_checkIndex_8e157 5 = .ok (.iload_n 1, 1) := by decide +kernel
theorem dJ3_checkIndex_8e157_6 : decode cJ3_checkIndex_8e157 6 = .ok (.if_icmp .lt 10, 3) := by decide +kernel
theorem dJ3_checkIndex_8e157_9 : decode cJ3_checkIndex_8e157 9 = .ok (.aload_n 2, 1) := by decide +kernel
theorem dJ3_checkIndex_8e157_10 : decode cJ3_checkIndex_8e157 10 = .ok (.iload_n 0, 1) := by decide +kernel
theorem dJ3_checkIndex_8e157_11 : decode cJ3_checkIndex_8e157 11 = .ok (.iload_n 1, 1) := by decide +kernel
theorem dJ3_checkIndex_8e157_12 : decode cJ3_checkIndex_8e157 12 = .ok (.invokestatic 95, 3) := by decide +kernel
theorem dJ3_checkIndex_8e157_15 : decode cJ3_checkIndex_8e157 15 = .ok (.athrow, 1) := by decide +kernel
theorem dJ3_checkIndex_8e157_16 : decode cJ3_checkIndex_8e157 16 = .ok (.iload_n 0, 1) := by decide +kernel
theorem dJ3_checkIndex_8e157_17 : decode cJ3_checkIndex_8e157 17 = .ok (.ireturn, 1) := by decide +kernel
theorem dL_law_0 : decode cL_law 0 = .ok (.new 7, 3) := by decide +kernel
theorem dL_law_3 : decode cL_law 3 = .ok (.dup, 1) := by decide +kernel
theorem dL_law_4 : decode cL_law 4 = .ok (.invokespecial 9, 3) := by decide +kernel
theorem dL_law_7 : decode cL_law 7 = .ok (.astore_n 1, 1) := by decide +kernel
theorem dL_law_8 : decode cL_law 8 = .ok (.new 10, 3) := by decide +kernel
theorem dL_law_11 : decode cL_law 11 = .ok (.dup, 1) := by decide +kernel
theorem dL_law_12 : decode cL_law 12 = .ok (.invokespecial 12, 3) := by decide +kernel
theorem dL_law_15 : decode cL_law 15 = .ok (.astore_n 2, 1) := by decide +kernel
theorem dL_law_16 : decode cL_law 16 = .ok (.iconst 0, 1) := by decide +kernel
theorem dL_law_17 : decode cL_law 17 = .ok (.istore_n 3, 1) := by decide +kernel
theorem dL_law_18 : decode cL_law 18 = .ok (.iload_n 3, 1) := by decide +kernel
theorem dL_law_19 : decode cL_law 19 = .ok (.aload_n 0, 1) := by decide +kernel
theorem dL_law_20 : decode cL_law 20 = .ok (.arraylength, 1) := by decide +kernel
theorem dL_law_21 : decode cL_law 21 = .ok (.bipush 6, 2) := by decide +kernel
theorem dL_law_23 : decode cL_law 23 = .ok (.isub, 1) := by decide +kernel
theorem dL_law_24 : decode cL_law 24 = .ok (.if_icmp .gt 690, 3) := by decide +kernel
theorem dL_law_27 : decode cL_law 27 = .ok (.aload_n 0, 1) := by decide +kernel
theorem dL_law_28 : decode cL_law 28 = .ok (.iload_n 3, 1) := by decide +kernel
theorem dL_law_29 : decode cL_law 29 = .ok (.iaload, 1) := by decide +kernel
theorem dL_law_30 : decode cL_law 30 = .ok (.bipush 31, 2) := by decide +kernel
theorem dL_law_32 : decode cL_law 32 = .ok (.iand, 1) := by decide +kernel
theorem dL_law_33 : decode cL_law 33 = .ok (.tableswitch 675 0 19 #[95, 128, 161, 184, 217, 230, 253, 286, 309, 332, 365, 408, 471, 494, 507, 540, 573, 606, 639, 652], 95) := by decide +kernel
theorem dL_law_128 : decode cL_law 128 = .ok (.aload_n 1, 1) := by decide +kernel
theorem dL_law_129 : decode cL_law 129 = .ok (.aload_n 0, 1) := by decide +kernel
theorem dL_law_130 : decode cL_law 130 = .ok (.iload_n 3, 1) := by decide +kernel
theorem dL_law_131 : decode cL_law 131 = .ok (.iconst 1, 1) := by decide +kernel
theorem dL_law_132 : decode cL_law 132 = .ok (.iadd, 1) := by decide +kernel
theorem dL_law_133 : decode cL_law 133 = .ok (.iaload, 1) := by decide +kernel
theorem dL_law_134 : decode cL_law 134 = .ok (.aload_n 0, 1) := by decide +kernel
theorem dL_law_135 : decode cL_law 135 = .ok (.iload_n 3, 1) := by decide +kernel
theorem dL_law_136 : decode cL_law 136 = .ok (.iconst 2, 1) := by decide +kernel
theorem dL_law_137 : decode cL_law 137 = .ok (.iadd, 1) := by decide +kernel
theorem dL_law_138 : decode cL_law 138 = .ok (.iaload, 1) := by decide +kernel
theorem dL_law_139 : decode cL_law 139 = .ok (.invokevirtual 13, 3) := by decide +kernel
theorem dL_law_142 : decode cL_law 142 = .ok (.pop, 1) := by decide +kernel
theorem dL_law_143 : decode cL_law 143 = .ok (.aload_n 2, 1) := by decide +kernel
theorem dL_law_144 : decode cL_law 144 = .ok (.aload_n 0, 1) := by decide +kernel
theorem dL_law_145 : decode cL_law 145 = .ok (.iload_n 3, 1) := by decide +kernel
theorem dL_law_146 : decode cL_law 146 = .ok (.iconst 1, 1) := by decide +kernel
theorem dL_law_147 : decode cL_law 147 = .ok (.iadd, 1) := by decide +kernel
theorem dL_law_148 : decode cL_law 148 = .ok (.iaload, 1) := by decide +kernel
theorem dL_law_149 : decode cL_law 149 = .ok (.aload_n 0, 1) := by decide +kernel
theorem dL_law_150 : decode cL_law 150 = .ok (.iload_n 3, 1) := by decide +kernel
theorem dL_law_151 : decode cL_law 151 = .ok (.iconst 2, 1) := by decide +kernel
theorem dL_law_152 : decode cL_law 152 = .ok (.iadd, 1) := by decide +kernel
theorem dL_law_153 : decode cL_law 153 = .ok (.iaload, 1) := by decide +kernel
theorem dL_law_154 : decode cL_law 154 = .ok (.invokevirtual 17, 3) := by decide +kernel
theorem dL_law_157 : decode cL_law 157 = .ok (.pop, 1) := by decide +kernel
theorem dL_law_158 : decode cL_law 158 = .ok (.goto 550, 3) := by decide +kernel
theorem dL_law_161 : decode cL_law 161 = .ok (.aload_n 1, 1) := by decide +kernel
theorem dL_law_162 : decode cL_law 162 = .ok (.aload_n 0, 1) := by decide +kernel
theorem dL_law_163 : decode cL_law 163 = .ok (.iload_n 3, 1) := by decide +kernel
theorem dL_law_164 : decode cL_law 164 = .ok (.iconst 1, 1) := by decide +kernel
theorem dL_law_165 : decode cL_law 165 = .ok (.iadd, 1) := by decide +kernel
theorem dL_law_166 : decode cL_law 166 = .ok (.iaload, 1) := by decide +kernel
theorem dL_law_167 : decode cL_law 167 = .ok (.aload_n 0, 1) := by decide +kernel
theorem dL_law_168 : decode cL_law 168 = .ok (.iload_n 3, 1) := by decide +kernel
theorem dL_law_169 : decode cL_law 169 = .ok (.iconst 2, 1) := by decide +kernel
theorem dL_law_170 : decode cL_law 170 = .ok (.iadd, 1) := by decide +kernel
theorem dL_law_171 : decode cL_law 171 = .ok (.iaload, 1) := by decide +kernel
theorem dL_law_172 : decode cL_law 172 = .ok (.invokevirtual 18, 3) := by decide +kernel
theorem dL_law_175 : decode cL_law 175 = .ok (.pop, 1) := by decide +kernel
theorem dL_law_176 : decode cL_law 176 = .ok (.aload_n 2, 1) := by decide +kernel
theorem dL_law_177 : decode cL_law 177 = .ok (.aload_n 0, 1) := by decide +kernel
theorem dL_law_178 : decode cL_law 178 = .ok (.iload_n 3, 1) := by decide +kernel
theorem dL_law_179 : decode cL_law 179 = .ok (.iconst 1, 1) := by decide +kernel
theorem dL_law_180 : decode cL_law 180 = .ok (.iadd, 1) := by decide +kernel
theorem dL_law_181 : decode cL_law 181 = .ok (.iaload, 1) := by decide +kernel
theorem dL_law_182 : decode cL_law 182 = .ok (.aload_n 0, 1) := by decide +kernel
theorem dL_law_183 : decode cL_law 183 = .ok (.iload_n 3, 1) := by decide +kernel
theorem dL_law_184 : decode cL_law 184 = .ok (.iconst 2, 1) := by decide +kernel
theorem dL_law_185 : decode cL_law 185 = .ok (.iadd, 1) := by decide +kernel
theorem dL_law_186 : decode cL_law 186 = .ok (.iaload, 1) := by decide +kernel
theorem dL_law_187 : decode cL_law 187 = .ok (.invokevirtual 22, 3) := by decide +kernel
theorem dL_law_190 : decode cL_law 190 = .ok (.pop, 1) := by decide +kernel
theorem dL_law_191 : decode cL_law 191 = .ok (.goto 517, 3) := by decide +kernel
theorem dL_law_194 : decode cL_law 194 = .ok (.aload_n 1, 1) := by decide +kernel
theorem dL_law_195 : decode cL_law 195 = .ok (.aload_n 0, 1) := by decide +kernel
theorem dL_law_196 : decode cL_law 196 = .ok (.iload_n 3, 1) := by decide +kernel
theorem dL_law_197 : decode cL_law 197 = .ok (.iconst 1, 1) := by decide +kernel
theorem dL_law_198 : decode cL_law 198 = .ok (.iadd, 1) := by decide +kernel
theorem dL_law_199 : decode cL_law 199 = .ok (.iaload, 1) := by decide +kernel
theorem dL_law_200 : decode cL_law 200 = .ok (.invokevirtual 23, 3) := by decide +kernel
theorem dL_law_203 : decode cL_law 203 = .ok (.pop, 1) := by decide +kernel
theorem dL_law_204 : decode cL_law 204 = .ok (.aload_n 2, 1) := by decide +kernel
theorem dL_law_205 : decode cL_law 205 = .ok (.aload_n 0, 1) := by decide +kernel
theorem dL_law_206 : decode cL_law 206 = .ok (.iload_n 3, 1) := by decide +kernel
theorem dL_law_207 : decode cL_law 207 = .ok (.iconst 1, 1) := by decide +kernel
theorem dL_law_208 : decode cL_law 208 = .ok (.iadd, 1) := by decide +kernel
theorem dL_law_209 : decode cL_law 209 = .ok (.iaload, 1) := by decide +kernel
theorem dL_law_210 : decode cL_law 210 = .ok (.invokevirtual 27, 3) := by decide +kernel
theorem dL_law_213 : decode cL_law 213 = .ok (.pop, 1) := by decide +kernel
theorem dL_law_214 : decode cL_law 214 = .ok (.goto 494, 3) := by decide +kernel
theorem dL_law_217 : decode cL_law 217 = .ok (.aload_n 1, 1) := by decide +kernel
theorem dL_law_218 : decode cL_law 218 = .ok (.aload_n 0, 1) := by decide +kernel
theorem dL_law_219 : decode cL_law 219 = .ok (.iload_n 3, 1) := by decide +kernel
theorem dL_law_220 : decode cL_law 220 = .ok (.iconst 1, 1) := by decide +kernel
theorem dL_law_221 : decode cL_law 221 = .ok (.iadd, 1) := by decide +kernel
theorem dL_law_222 : decode cL_law 222 = .ok (.iaload, 1) := by decide +kernel
theorem dL_law_223 : decode cL_law 223 = .ok (.aload_n 0, 1) := by decide +kernel
theorem dL_law_224 : decode cL_law 224 = .ok (.iload_n 3, 1) := by decide +kernel
theorem dL_law_225 : decode cL_law 225 = .ok (.iconst 2, 1) := by decide +kernel
theorem dL_law_226 : decode cL_law 226 = .ok (.iadd, 1) := by decide +kernel
theorem dL_law_227 : decode cL_law 227 = .ok (.iaload, 1) := by decide +kernel
theorem dL_law_228 : decode cL_law 228 = .ok (.invokevirtual 28, 3) := by decide +kernel
theorem dL_law_231 : decode cL_law 231 = .ok (.pop, 1) := by decide +kernel
theorem dL_law_232 : decode cL_law 232 = .ok (.aload_n 2, 1) := by decide +kernel
theorem dL_law_233 : decode cL_law 233 = .ok (.aload_n 0, 1) := by decide +kernel
theorem dL_law_234 : decode cL_law 234 = .ok (.iload_n 3, 1) := by decide +kernel
theorem dL_law_235 : decode cL_law 235 = .ok (.iconst 1, 1) := by decide +kernel
theorem dL_law_236 : decode cL_law 236 = .ok (.iadd, 1) := by decide +kernel
theorem dL_law_237 : decode cL_law 237 = .ok (.iaload, 1) := by decide +kernel
theorem dL_law_238 : decode cL_law 238 = .ok (.aload_n 0, 1) := by decide +kernel
theorem dL_law_239 : decode cL_law 239 = .ok (.iload_n 3, 1) := by decide +kernel
theorem dL_law_240 : decode cL_law 240 = .ok (.iconst 2, 1) := by decide +kernel
theorem dL_law_241 : decode cL_law 241 = .ok (.iadd, 1) := by decide +kernel
theorem dL_law_242 : decode cL_law 242 = .ok (.iaload, 1) := by decide +kernel
theorem dL_law_243 : decode cL_law 243 = .ok (.invokevirtual 31, 3) := by decide +kernel
theorem dL_law_246 : decode cL_law 246 = .ok (.pop, 1) := by decide +kernel
theorem dL_law_247 : decode cL_law 247 = .ok (.goto 461, 3) := by decide +kernel
theorem dL_law_250 : decode cL_law 250 = .ok (.aload_n 1, 1) := by decide +kernel
theorem dL_law_251 : decode cL_law 251 = .ok (.invokevirtual 32, 3) := by decide +kernel
theorem dL_law_254 : decode cL_law 254 = .ok (.pop, 1) := by decide +kernel
theorem dL_law_255 : decode cL_law 255 = .ok (.aload_n 2, 1) := by decide +kernel
theorem dL_law_256 : decode cL_law 256 = .ok (.invokevirtual 36, 3) := by decide +kernel
theorem dL_law_259 : decode cL_law 259 = .ok (.pop, 1) := by decide +kernel
theorem dL_law_260 : decode cL_law 260 = .ok (.goto 448, 3) := by decide +kernel
theorem dL_law_263 : decode cL_law 263 = .ok (.aload_n 1, 1) := by decide +kernel
theorem dL_law_264 : decode cL_law 264 = .ok (.aload_n 0, 1) := by decide +kernel
theorem dL_law_265 : decode cL_law 265 = .ok (.iload_n 3, 1) := by decide +kernel
theorem dL_law_266 : decode cL_law 266 = .ok (.iconst 1, 1) := by decide +kernel
theorem dL_law_267 : decode cL_law 267 = .ok (.iadd, 1) := by decide +kernel
theorem dL_law_268 : decode cL_law 268 = .ok (.iaload, 1) := by decide +kernel
theorem dL_law_269 : decode cL_law 269 = .ok (.invokevirtual 37, 3) := by decide +kernel
theorem dL_law_272 : decode cL_law 272 = .ok (.pop, 1) := by decide +kernel
theorem dL_law_273 : decode cL_law 273 = .ok (.aload_n 2, 1) := by decide +kernel
theorem dL_law_274 : decode cL_law 274 = .ok (.aload_n 0, 1) := by decide +kernel
theorem dL_law_275 : decode cL_law 275 = .ok (.iload_n 3, 1) := by decide +kernel
theorem dL_law_276 : decode cL_law 276 = .ok (.iconst 1, 1) := by decide +kernel
theorem dL_law_277 : decode cL_law 277 = .ok (.iadd, 1) := by decide +kernel
theorem dL_law_278 : decode cL_law 278 = .ok (.iaload, 1) := by decide +kernel
theorem dL_law_279 : decode cL_law 279 = .ok (.invokevirtual 41, 3) := by decide +kernel
theorem dL_law_282 : decode cL_law 282 = .ok (.pop, 1) := by decide +kernel
theorem dL_law_283 : decode cL_law 283 = .ok (.goto 425, 3) := by decide +kernel
theorem dL_law_286 : decode cL_law 286 = .ok (.aload_n 1, 1) := by decide +kernel
theorem dL_law_287 : decode cL_law 287 = .ok (.aload_n 0, 1) := by decide +kernel
theorem dL_law_288 : decode cL_law 288 = .ok (.iload_n 3, 1) := by decide +kernel
theorem dL_law_289 : decode cL_law 289 = .ok (.iconst 1, 1) := by decide +kernel
theorem dL_law_290 : decode cL_law 290 = .ok (.iadd, 1) := by decide +kernel
theorem dL_law_291 : decode cL_law 291 = .ok (.iaload, 1) := by decide +kernel
theorem dL_law_292 : decode cL_law 292 = .ok (.aload_n 0, 1) := by decide +kernel
theorem dL_law_293 : decode cL_law 293 = .ok (.iload_n 3, 1) := by decide +kernel
theorem dL_law_294 : decode cL_law 294 = .ok (.iconst 2, 1) := by decide +kernel
theorem dL_law_295 : decode cL_law 295 = .ok (.iadd, 1) := by decide +kernel
theorem dL_law_296 : decode cL_law 296 = .ok (.iaload, 1) := by decide +kernel
theorem dL_law_297 : decode cL_law 297 = .ok (.invokevirtual 42, 3) := by decide +kernel
theorem dL_law_300 : decode cL_law 300 = .ok (.pop, 1) := by decide +kernel
theorem dL_law_301 : decode cL_law 301 = .ok (.aload_n 2, 1) := by decide +kernel
theorem dL_law_302 : decode cL_law 302 = .ok (.aload_n 0, 1) := by decide +kernel
theorem dL_law_303 : decode cL_law 303 = .ok (.iload_n 3, 1) := by decide +kernel
theorem dL_law_304 : decode cL_law 304 = .ok (.iconst 1, 1) := by decide +kernel
theorem dL_law_305 : decode cL_law 305 = .ok (.iadd, 1) := by decide +kernel
theorem dL_law_306 : decode cL_law 306 = .ok (.iaload, 1) := by decide +kernel
theorem dL_law_307 : decode cL_law 307 = .ok (.aload_n 0, 1) := by decide +kernel
theorem dL_law_308 : decode cL_law 308 = .ok (.iload_n 3, 1) := by decide +kernel
theorem dL_law_309 : decode cL_law 309 = .ok (.iconst 2, 1) := by decide +kernel
theorem dL_law_310 : decode cL_law 310 = .ok (.iadd, 1) := by decide +kernel
theorem dL_law_311 : decode cL_law 311 = .ok (.iaload, 1) := by decide +kernel
theorem dL_law_312 : decode cL_law 312 = .ok (.invokevirtual 45, 3) := by decide +kernel
theorem dL_law_315 : decode cL_law 315 = .ok (.pop, 1) := by decide +kernel
theorem dL_law_316 : decode cL_law 316 = .ok (.goto 392, 3) := by decide +kernel
theorem dL_law_319 : decode cL_law 319 = .ok (.aload_n 1, 1) := by decide +kernel
theorem dL_law_320 : decode cL_law 320 = .ok (.aload_n 0, 1) := by decide +kernel
theorem dL_law_321 : decode cL_law 321 = .ok (.iload_n 3, 1) := by decide +kernel
theorem dL_law_322 : decode cL_law 322 = .ok (.iconst 1, 1) := by decide +kernel
theorem dL_law_323 : decode cL_law 323 = .ok (.iadd, 1) := by decide +kernel
theorem dL_law_324 : decode cL_law 324 = .ok (.iaload, 1) := by decide +kernel
theorem dL_law_325 : decode cL_law 325 = .ok (.invokevirtual 46, 3) := by decide +kernel
theorem dL_law_328 : decode cL_law 328 = .ok (.pop, 1) := by decide +kernel
theorem dL_law_329 : decode cL_law 329 = .ok (.aload_n 2, 1) := by decide +kernel
theorem dL_law_330 : decode cL_law 330 = .ok (.aload_n 0, 1) := by decide +kernel
theorem dL_law_331 : decode cL_law 331 = .ok (.iload_n 3, 1) := by decide +kernel
theorem dL_law_332 : decode cL_law 332 = .ok (.iconst 1, 1) := by decide +kernel
theorem dL_law_333 : decode cL_law 333 = .ok (.iadd, 1) := by decide +kernel
theorem dL_law_334 : decode cL_law 334 = .ok (.iaload, 1) := by decide +kernel
theorem dL_law_335 : decode cL_law 335 = .ok (.invokevirtual 49, 3) := by decide +kernel
theorem dL_law_338 : decode cL_law 338 = .ok (.pop, 1) := by decide +kernel
theorem dL_law_339 : decode cL_law 339 = .ok (.goto 369, 3) := by decide +kernel
theorem dL_law_342 : decode cL_law 342 = .ok (.aload_n 1, 1) := by decide +kernel
theorem dL_law_343 : decode cL_law 343 = .ok (.aload_n 0, 1) := by decide +kernel
theorem dL_law_344 : decode cL_law 344 = .ok (.iload_n 3, 1) := by decide +kernel
theorem dL_law_345 : decode cL_law 345 = .ok (.iconst 1, 1) := by decide +kernel
theorem dL_law_346 : decode cL_law 346 = .ok (.iadd, 1) := by decide +kernel
theorem dL_law_347 : decode cL_law 347 = .ok (.iaload, 1) := by decide +kernel
theorem dL_law_348 : decode cL_law 348 = .ok (.invokevirtual 50, 3) := by decide +kernel
theorem dL_law_351 : decode cL_law 351 = .ok (.pop, 1) := by decide +kernel
theorem dL_law_352 : decode cL_law 352 = .ok (.aload_n 2, 1) := by decide +kernel
theorem dL_law_353 : decode cL_law 353 = .ok (.aload_n 0, 1) := by decide +kernel
theorem dL_law_354 : decode cL_law 354 = .ok (.iload_n 3, 1) := by decide +kernel
theorem dL_law_355 : decode cL_law 355 = .ok (.iconst 1, 1) := by decide +kernel
theorem dL_law_356 : decode cL_law 356 = .ok (.iadd, 1) := by decide +kernel
theorem dL_law_357 : decode cL_law 357 = .ok (.iaload, 1) := by decide +kernel
theorem dL_law_358 : decode cL_law 358 = .ok (.invokevirtual 53, 3) := by decide +kernel
theorem dL_law_361 : decode cL_law 361 = .ok (.pop, 1) := by decide +kernel
theorem dL_law_362 : decode cL_law 362 = .ok (.goto 346, 3) := by decide +kernel
theorem dL_law_365 : decode cL_law 365 = .ok (.aload_n 1, 1) := by decide +kernel
theorem dL_law_366 : decode cL_law 366 = .ok (.aload_n 0, 1) := by decide +kernel
theorem dL_law_367 : decode cL_law 367 = .ok (.iload_n 3, 1) := by decide +kernel
theorem dL_law_368 : decode cL_law 368 = .ok (.iconst 1, 1) := by decide +kernel
theorem dL_law_369 : decode cL_law 369 = .ok (.iadd, 1) := by decide +kernel
theorem dL_law_370 : decode cL_law 370 = .ok (.iaload, 1) := by decide +kernel
theorem dL_law_371 : decode cL_law 371 = .ok (.aload_n 0, 1) := by decide +kernel
theorem dL_law_372 : decode cL_law 372 = .ok (.iload_n 3, 1) := by decide +kernel
theorem dL_law_373 : decode cL_law 373 = .ok (.iconst 2, 1) := by decide +kernel
theorem dL_law_374 : decode cL_law 374 = .ok (.iadd, 1) := by decide +kernel
theorem dL_law_375 : decode cL_law 375 = .ok (.iaload, 1) := by decide +kernel
theorem dL_law_376 : decode cL_law 376 = .ok (.invokevirtual 54, 3) := by decide +kernel
theorem dL_law_379 : decode cL_law 379 = .ok (.pop, 1) := by decide +kernel
theorem dL_law_380 : decode cL_law 380 = .ok (.aload_n 2, 1) := by decide +kernel
theorem dL_law_381 : decode cL_law 381 = .ok (.aload_n 0, 1) := by decide +kernel
theorem dL_law_382 : decode cL_law 382 = .ok (.iload_n 3, 1) := by decide +kernel
theorem dL_law_383 : decode cL_law 383 = .ok (.iconst 1, 1) := by decide +kernel
theorem dL_law_384 : decode cL_law 384 = .ok (.iadd, 1) := by decide +kernel
theorem dL_law_385 : decode cL_law 385 = .ok (.iaload, 1) := by decide +kernel
theorem dL_law_386 : decode cL_law 386 = .ok (.aload_n 0, 1) := by decide +kernel
theorem dL_law_387 : decode cL_law 387 = .ok (.iload_n 3, 1) := by decide +kernel
theorem dL_law_388 : decode cL_law 388 = .ok (.iconst 2, 1) := by decide +kernel
theorem dL_law_389 : decode cL_law 389 = .ok (.iadd, 1) := by decide +kernel
theorem dL_law_390 : decode cL_law 390 = .ok (.iaload, 1) := by decide +kernel
theorem dL_law_391 : decode cL_law 391 = .ok (.invokevirtual 57, 3) := by decide +kernel
theorem dL_law_394 : decode cL_law 394 = .ok (.pop, 1) := by decide +kernel
theorem dL_law_395 : decode cL_law 395 = .ok (.goto 313, 3) := by decide +kernel
theorem dL_law_398 : decode cL_law 398 = .ok (.aload_n 1, 1) := by decide +kernel
theorem dL_law_399 : decode cL_law 399 = .ok (.aload_n 0, 1) := by decide +kernel
theorem dL_law_400 : decode cL_law 400 = .ok (.iload_n 3, 1) := by decide +kernel
theorem dL_law_401 : decode cL_law 401 = .ok (.iconst 1, 1) := by decide +kernel
theorem dL_law_402 : decode cL_law 402 = .ok (.iadd, 1) := by decide +kernel
theorem dL_law_403 : decode cL_law 403 = .ok (.iaload, 1) := by decide +kernel
theorem dL_law_404 : decode cL_law 404 = .ok (.aload_n 0, 1) := by decide +kernel
theorem dL_law_405 : decode cL_law 405 = .ok (.iload_n 3, 1) := by decide +kernel
theorem dL_law_406 : decode cL_law 406 = .ok (.iconst 2, 1) := by decide +kernel
theorem dL_law_407 : decode cL_law 407 = .ok (.iadd, 1) := by decide +kernel
theorem dL_law_408 : decode cL_law 408 = .ok (.iaload, 1) := by decide +kernel
theorem dL_law_409 : decode cL_law 409 = .ok (.aload_n 0, 1) := by decide +kernel
theorem dL_law_410 : decode cL_law 410 = .ok (.iload_n 3, 1) := by decide +kernel
theorem dL_law_411 : decode cL_law 411 = .ok (.iconst 3, 1) := by decide +kernel
theorem dL_law_412 : decode cL_law 412 = .ok (.iadd, 1) := by decide +kernel
theorem dL_law_413 : decode cL_law 413 = .ok (.iaload, 1) := by decide +kernel
theorem dL_law_414 : decode cL_law 414 = .ok (.invokevirtual 58, 3) := by decide +kernel
theorem dL_law_417 : decode cL_law 417 = .ok (.aload_n 2, 1) := by decide +kernel
theorem dL_law_418 : decode cL_law 418 = .ok (.aload_n 0, 1) := by decide +kernel
theorem dL_law_419 : decode cL_law 419 = .ok (.iload_n 3, 1) := by decide +kernel
theorem dL_law_420 : decode cL_law 420 = .ok (.iconst 1, 1) := by decide +kernel
theorem dL_law_421 : decode cL_law 421 = .ok (.iadd, 1) := by decide +kernel
theorem dL_law_422 : decode cL_law 422 = .ok (.iaload, 1) := by decide +kernel
theorem dL_law_423 : decode cL_law 423 = .ok (.aload_n 0, 1) := by decide +kernel
theorem dL_law_424 : decode cL_law 424 = .ok (.iload_n 3, 1) := by decide +kernel
theorem dL_law_425 : decode cL_law 425 = .ok (.iconst 2, 1) := by decide +kernel
theorem dL_law_426 : decode cL_law 426 = .ok (.iadd, 1) := by decide +kernel
theorem dL_law_427 : decode cL_law 427 = .ok (.iaload, 1) := by decide +kernel
theorem dL_law_428 : decode cL_law 428 = .ok (.aload_n 0, 1) := by decide +kernel
theorem dL_law_429 : decode cL_law 429 = .ok (.iload_n 3, 1) := by decide +kernel
theorem dL_law_430 : decode cL_law 430 = .ok (.iconst 3, 1) := by decide +kernel
theorem dL_law_431 : decode cL_law 431 = .ok (.iadd, 1) := by decide +kernel
theorem dL_law_432 : decode cL_law 432 = .ok (.iaload, 1) := by decide +kernel
theorem dL_law_433 : decode cL_law 433 = .ok (.invokevirtual 62, 3) := by decide +kernel
theorem dL_law_436 : decode cL_law 436 = .ok (.if_icmp .eq 272, 3) := by decide +kernel
theorem dL_law_439 : decode cL_law 439 = .ok (.iconst 0, 1) := by decide +kernel
theorem dL_law_440 : decode cL_law 440 = .ok (.ireturn, 1) := by decide +kernel
theorem dL_law_441 : decode cL_law 441 = .ok (.aload_n 1, 1) := by decide +kernel
theorem dL_law_442 : decode cL_law 442 = .ok (.aload_n 0, 1) := by decide +kernel
theorem dL_law_443 : decode cL_law 443 = .ok (.iload_n 3, 1) := by decide +kernel
theorem dL_law_444 : decode cL_law 444 = .ok (.iconst 1, 1) := by decide +kernel
theorem dL_law_445 : decode cL_law 445 = .ok (.iadd, 1) := by decide +kernel
theorem dL_law_446 : decode cL_law 446 = .ok (.iaload, 1) := by decide +kernel
theorem dL_law_447 : decode cL_law 447 = .ok (.aload_n 0, 1) := by decide +kernel
theorem dL_law_448 : decode cL_law 448 = .ok (.iload_n 3, 1) := by decide +kernel
theorem dL_law_449 : decode cL_law 449 = .ok (.iconst 2, 1) := by decide +kernel
theorem dL_law_450 : decode cL_law 450 = .ok (.iadd, 1) := by decide +kernel
theorem dL_law_451 : decode cL_law 451 = .ok (.iaload, 1) := by decide +kernel
theorem dL_law_452 : decode cL_law 452 = .ok (.aload_n 0, 1) := by decide +kernel
theorem dL_law_453 : decode cL_law 453 = .ok (.iload_n 3, 1) := by decide +kernel
theorem dL_law_454 : decode cL_law 454 = .ok (.iconst 3, 1) := by decide +kernel
theorem dL_law_455 : decode cL_law 455 = .ok (.iadd, 1) := by decide +kernel
theorem dL_law_456 : decode cL_law 456 = .ok (.iaload, 1) := by decide +kernel
theorem dL_law_457 : decode cL_law 457 = .ok (.aload_n 0, 1) := by decide +kernel
theorem dL_law_458 : decode cL_law 458 = .ok (.iload_n 3, 1) := by decide +kernel
theorem dL_law_459 : decode cL_law 459 = .ok (.iconst 4, 1) := by decide +kernel
theorem dL_law_460 : decode cL_law 460 = .ok (.iadd, 1) := by decide +kernel
theorem dL_law_461 : decode cL_law 461 = .ok (.iaload, 1) := by decide +kernel
theorem dL_law_462 : decode cL_law 462 = .ok (.aload_n 0, 1) := by decide +kernel
theorem dL_law_463 : decode cL_law 463 = .ok (.iload_n 3, 1) := by decide +kernel
theorem dL_law_464 : decode cL_law 464 = .ok (.iconst 5, 1) := by decide +kernel
theorem dL_law_465 : decode cL_law 465 = .ok (.iadd, 1) := by decide +kernel
theorem dL_law_466 : decode cL_law 466 = .ok (.iaload, 1) := by decide +kernel
theorem dL_law_467 : decode cL_law 467 = .ok (.invokevirtual 63, 3) := by decide +kernel
theorem dL_law_470 : decode cL_law 470 = .ok (.pop, 1) := by decide +kernel
theorem dL_law_471 : decode cL_law 471 = .ok (.aload_n 2, 1) := by decide +kernel
theorem dL_law_472 : decode cL_law 472 = .ok (.aload_n 0, 1) := by decide +kernel
theorem dL_law_473 : decode cL_law 473 = .ok (.iload_n 3, 1) := by decide +kernel
theorem dL_law_474 : decode cL_law 474 = .ok (.iconst 1, 1) := by decide +kernel
theorem dL_law_475 : decode cL_law 475 = .ok (.iadd, 1) := by decide +kernel
theorem dL_law_476 : decode cL_law 476 = .ok (.iaload, 1) := by decide +kernel
theorem dL_law_477 : decode cL_law 477 = .ok (.aload_n 0, 1) := by decide +kernel
theorem dL_law_478 : decode cL_law 478 = .ok (.iload_n 3, 1) := by decide +kernel
theorem dL_law_479 : decode cL_law 479 = .ok (.iconst 2, 1) := by decide +kernel
theorem dL_law_480 : decode cL_law 480 = .ok (.iadd, 1) := by decide +kernel
theorem dL_law_481 : decode cL_law 481 = .ok (.iaload, 1) := by decide +kernel
theorem dL_law_482 : decode cL_law 482 = .ok (.aload_n 0, 1) := by decide +kernel
theorem dL_law_483 : decode cL_law 483 = .ok (.iload_n 3, 1) := by decide +kernel
theorem dL_law_484 : decode cL_law 484 = .ok (.iconst 3, 1) := by decide +kernel
theorem dL_law_485 : decode cL_law 485 = .ok (.iadd, 1) := by decide +kernel
theorem dL_law_486 : decode cL_law 486 = .ok (.iaload, 1) := by decide +kernel
theorem dL_law_487 : decode cL_law 487 = .ok (.aload_n 0, 1) := by decide +kernel
theorem dL_law_488 : decode cL_law 488 = .ok (.iload_n 3, 1) := by decide +kernel
theorem dL_law_489 : decode cL_law 489 = .ok (.iconst 4, 1) := by decide +kernel
theorem dL_law_490 : decode cL_law 490 = .ok (.iadd, 1) := by decide +kernel
theorem dL_law_491 : decode cL_law 491 = .ok (.iaload, 1) := by decide +kernel
theorem dL_law_492 : decode cL_law 492 = .ok (.aload_n 0, 1) := by decide +kernel
theorem dL_law_493 : decode cL_law 493 = .ok (.iload_n 3, 1) := by decide +kernel
theorem dL_law_494 : decode cL_law 494 = .ok (.iconst 5, 1) := by decide +kernel
theorem dL_law_495 : decode cL_law 495 = .ok (.iadd, 1) := by decide +kernel
theorem dL_law_496 : decode cL_law 496 = .ok (.iaload, 1) := by decide +kernel
theorem dL_law_497 : decode cL_law 497 = .ok (.invokevirtual 67, 3) := by decide +kernel
theorem dL_law_500 : decode cL_law 500 = .ok (.pop, 1) := by decide +kernel
theorem dL_law_501 : decode cL_law 501 = .ok (.goto 207, 3) := by decide +kernel
theorem dL_law_504 : decode cL_law 504 = .ok (.aload_n 1, 1) := by decide +kernel
theorem dL_law_505 : decode cL_law 505 = .ok (.aload_n 0, 1) := by decide +kernel
theorem dL_law_506 : decode cL_law 506 = .ok (.iload_n 3, 1) := by decide +kernel
theorem dL_law_507 : decode cL_law 507 = .ok (.iconst 1, 1) := by decide +kernel
theorem dL_law_508 : decode cL_law 508 = .ok (.iadd, 1) := by decide +kernel
theorem dL_law_509 : decode cL_law 509 = .ok (.iaload, 1) := by decide +kernel
theorem dL_law_510 : decode cL_law 510 = .ok (.invokevirtual 68, 3) := by decide +kernel
theorem dL_law_513 : decode cL_law 513 = .ok (.pop, 1) := by decide +kernel
theorem dL_law_514 : decode cL_law 514 = .ok (.aload_n 2, 1) := by decide +kernel
theorem dL_law_515 : decode cL_law 515 = .ok (.aload_n 0, 1) := by decide +kernel
theorem dL_law_516 : decode cL_law 516 = .ok (.iload_n 3, 1) := by decide +kernel
theorem dL_law_517 : decode cL_law 517 = .ok (.iconst 1, 1) := by decide +kernel
theorem dL_law_518 : decode cL_law 518 = .ok (.iadd, 1) := by decide +kernel
theorem dL_law_519 : decode cL_law 519 = .ok (.iaload, 1) := by decide +kernel
theorem dL_law_520 : decode cL_law 520 = .ok (.invokevirtual 71, 3) := by decide +kernel
theorem dL_law_523 : decode cL_law 523 = .ok (.pop, 1) := by decide +kernel
theorem dL_law_524 : decode cL_law 524 = .ok (.goto 184, 3) := by decide +kernel
theorem dL_law_527 : decode cL_law 527 = .ok (.aload_n 1, 1) := by decide +kernel
theorem dL_law_528 : decode cL_law 528 = .ok (.invokevirtual 72, 3) := by decide +kernel
theorem dL_law_531 : decode cL_law 531 = .ok (.pop, 1) := by decide +kernel
theorem dL_law_532 : decode cL_law 532 = .ok (.aload_n 2, 1) := by decide +kernel
theorem dL_law_533 : decode cL_law 533 = .ok (.invokevirtual 75, 3) := by decide +kernel
theorem dL_law_536 : decode cL_law 536 = .ok (.pop, 1) := by decide +kernel
theorem dL_law_537 : decode cL_law 537 = .ok (.goto 171, 3) := by decide +kernel
theorem dL_law_540 : decode cL_law 540 = .ok (.aload_n 1, 1) := by decide +kernel
theorem dL_law_541 : decode cL_law 541 = .ok (.aload_n 0, 1) := by decide +kernel
theorem dL_law_542 : decode cL_law 542 = .ok (.iload_n 3, 1) := by decide +kernel
theorem dL_law_543 : decode cL_law 543 = .ok (.iconst 1, 1) := by decide +kernel
theorem dL_law_544 : decode cL_law 544 = .ok (.iadd, 1) := by decide +kernel
theorem dL_law_545 : decode cL_law 545 = .ok (.iaload, 1) := by decide +kernel
theorem dL_law_546 : decode cL_law 546 = .ok (.aload_n 0, 1) := by decide +kernel
theorem dL_law_547 : decode cL_law 547 = .ok (.iload_n 3, 1) := by decide +kernel
theorem dL_law_548 : decode cL_law 548 = .ok (.iconst 2, 1) := by decide +kernel
theorem dL_law_549 : decode cL_law 549 = .ok (.iadd, 1) := by decide +kernel
theorem dL_law_550 : decode cL_law 550 = .ok (.iaload, 1) := by decide +kernel
theorem dL_law_551 : decode cL_law 551 = .ok (.invokevirtual 76, 3) := by decide +kernel
theorem dL_law_554 : decode cL_law 554 = .ok (.pop, 1) := by decide +kernel
theorem dL_law_555 : decode cL_law 555 = .ok (.aload_n 2, 1) := by decide +kernel
theorem dL_law_556 : decode cL_law 556 = .ok (.aload_n 0, 1) := by decide +kernel
theorem dL_law_557 : decode cL_law 557 = .ok (.iload_n 3, 1) := by decide +kernel
theorem dL_law_558 : decode cL_law 558 = .ok (.iconst 1, 1) := by decide +kernel
theorem dL_law_559 : decode cL_law 559 = .ok (.iadd, 1) := by decide +kernel
theorem dL_law_560 : decode cL_law 560 = .ok (.iaload, 1) := by decide +kernel
theorem dL_law_561 : decode cL_law 561 = .ok (.aload_n 0, 1) := by decide +kernel
theorem dL_law_562 : decode cL_law 562 = .ok (.iload_n 3, 1) := by decide +kernel
theorem dL_law_563 : decode cL_law 563 = .ok (.iconst 2, 1) := by decide +kernel
theorem dL_law_564 : decode cL_law 564 = .ok (.iadd, 1) := by decide +kernel
theorem dL_law_565 : decode cL_law 565 = .ok (.iaload, 1) := by decide +kernel
theorem dL_law_566 : decode cL_law 566 = .ok (.invokevirtual 79, 3) := by decide +kernel
theorem dL_law_569 : decode cL_law 569 = .ok (.pop, 1) := by decide +kernel
theorem dL_law_570 : decode cL_law 570 = .ok (.goto 138, 3) := by decide +kernel
theorem dL_law_573 : decode cL_law 573 = .ok (.aload_n 1, 1) := by decide +kernel
theorem dL_law_574 : decode cL_law 574 = .ok (.aload_n 0, 1) := by decide +kernel
theorem dL_law_575 : decode cL_law 575 = .ok (.iload_n 3, 1) := by decide +kernel
theorem dL_law_576 : decode cL_law 576 = .ok (.iconst 1, 1) := by decide +kernel
theorem dL_law_577 : decode cL_law 577 = .ok (.iadd, 1) := by decide +kernel
theorem dL_law_578 : decode cL_law 578 = .ok (.iaload, 1) := by decide +kernel
theorem dL_law_579 : decode cL_law 579 = .ok (.aload_n 0, 1) := by decide +kernel
theorem dL_law_580 : decode cL_law 580 = .ok (.iload_n 3, 1) := by decide +kernel
theorem dL_law_581 : decode cL_law 581 = .ok (.iconst 2, 1) := by decide +kernel
theorem dL_law_582 : decode cL_law 582 = .ok (.iadd, 1) := by decide +kernel
theorem dL_law_583 : decode cL_law 583 = .ok (.iaload, 1) := by decide +kernel
theorem dL_law_584 : decode cL_law 584 = .ok (.invokevirtual 80, 3) := by decide +kernel
theorem dL_law_587 : decode cL_law 587 = .ok (.pop, 1) := by decide +kernel
theorem dL_law_588 : decode cL_law 588 = .ok (.aload_n 2, 1) := by decide +kernel
theorem dL_law_589 : decode cL_law 589 = .ok (.aload_n 0, 1) := by decide +kernel
theorem dL_law_590 : decode cL_law 590 = .ok (.iload_n 3, 1) := by decide +kernel
theorem dL_law_591 : decode cL_law 591 = .ok (.iconst 1, 1) := by decide +kernel
theorem dL_law_592 : decode cL_law 592 = .ok (.iadd, 1) := by decide +kernel
theorem dL_law_593 : decode cL_law 593 = .ok (.iaload, 1) := by decide +kernel
theorem dL_law_594 : decode cL_law 594 = .ok (.aload_n 0, 1) := by decide +kernel
theorem dL_law_595 : decode cL_law 595 = .ok (.iload_n 3, 1) := by decide +kernel
theorem dL_law_596 : decode cL_law 596 = .ok (.iconst 2, 1) := by decide +kernel
theorem dL_law_597 : decode cL_law 597 = .ok (.iadd, 1) := by decide +kernel
theorem dL_law_598 : decode cL_law 598 = .ok (.iaload, 1) := by decide +kernel
theorem dL_law_599 : decode cL_law 599 = .ok (.invokevirtual 83, 3) := by decide +kernel
theorem dL_law_602 : decode cL_law 602 = .ok (.pop, 1) := by decide +kernel
theorem dL_law_603 : decode cL_law 603 = .ok (.goto 105, 3) := by decide +kernel
theorem dL_law_606 : decode cL_law 606 = .ok (.aload_n 1, 1) := by decide +kernel
theorem dL_law_607 : decode cL_law 607 = .ok (.aload_n 0, 1) := by decide +kernel
theorem dL_law_608 : decode cL_law 608 = .ok (.iload_n 3, 1) := by decide +kernel
theorem dL_law_609 : decode cL_law 609 = .ok (.iconst 1, 1) := by decide +kernel
theorem dL_law_610 : decode cL_law 610 = .ok (.iadd, 1) := by decide +kernel
theorem dL_law_611 : decode cL_law 611 = .ok (.iaload, 1) := by decide +kernel
theorem dL_law_612 : decode cL_law 612 = .ok (.aload_n 0, 1) := by decide +kernel
theorem dL_law_613 : decode cL_law 613 = .ok (.iload_n 3, 1) := by decide +kernel
theorem dL_law_614 : decode cL_law 614 = .ok (.iconst 2, 1) := by decide +kernel
theorem dL_law_615 : decode cL_law 615 = .ok (.iadd, 1) := by decide +kernel
theorem dL_law_616 : decode cL_law 616 = .ok (.iaload, 1) := by decide +kernel
theorem dL_law_617 : decode cL_law 617 = .ok (.invokevirtual 84, 3) := by decide +kernel
theorem dL_law_620 : decode cL_law 620 = .ok (.pop, 1) := by decide +kernel
theorem dL_law_621 : decode cL_law 621 = .ok (.aload_n 2, 1) := by decide +kernel
theorem dL_law_622 : decode cL_law 622 = .ok (.aload_n 0, 1) := by decide +kernel
theorem dL_law_623 : decode cL_law 623 = .ok (.iload_n 3, 1) := by decide +kernel
theorem dL_law_624 : decode cL_law 624 = .ok (.iconst 1, 1) := by decide +kernel
theorem dL_law_625 : decode cL_law 625 = .ok (.iadd, 1) := by decide +kernel
theorem dL_law_626 : decode cL_law 626 = .ok (.iaload, 1) := by decide +kernel
theorem dL_law_627 : decode cL_law 627 = .ok (.aload_n 0, 1) := by decide +kernel
theorem dL_law_628 : decode cL_law 628 = .ok (.iload_n 3, 1) := by decide +kernel
theorem dL_law_629 : decode cL_law 629 = .ok (.iconst 2, 1) := by decide +kernel
theorem dL_law_630 : decode cL_law 630 = .ok (.iadd, 1) := by decide +kernel
theorem dL_law_631 : decode cL_law 631 = .ok (.iaload, 1) := by decide +kernel
theorem dL_law_632 : decode cL_law 632 = .ok (.invokevirtual 87, 3) := by decide +kernel
theorem dL_law_635 : decode cL_law 635 = .ok (.pop, 1) := by decide +kernel
theorem dL_law_636 : decode cL_law 636 = .ok (.goto 72, 3) := by decide +kernel
theorem dL_law_639 : decode cL_law 639 = .ok (.aload_n 1, 1) := by decide +kernel
theorem dL_law_640 : decode cL_law 640 = .ok (.aload_n 0, 1) := by decide +kernel
theorem dL_law_641 : decode cL_law 641 = .ok (.iload_n 3, 1) := by decide +kernel
theorem dL_law_642 : decode cL_law 642 = .ok (.iconst 1, 1) := by decide +kernel
theorem dL_law_643 : decode cL_law 643 = .ok (.iadd, 1) := by decide +kernel
theorem dL_law_644 : decode cL_law 644 = .ok (.iaload, 1) := by decide +kernel
theorem dL_law_645 : decode cL_law 645 = .ok (.aload_n 0, 1) := by decide +kernel
theorem dL_law_646 : decode cL_law 646 = .ok (.iload_n 3, 1) := by decide +kernel
theorem dL_law_647 : decode cL_law 647 = .ok (.iconst 2, 1) := by decide +kernel
theorem dL_law_648 : decode cL_law 648 = .ok (.iadd, 1) := by decide +kernel
theorem dL_law_649 : decode cL_law 649 = .ok (.iaload, 1) := by decide +kernel
theorem dL_law_650 : decode cL_law 650 = .ok (.invokevirtual 88, 3) := by decide +kernel
theorem dL_law_653 : decode cL_law 653 = .ok (.pop, 1) := by decide +kernel
theorem dL_law_654 : decode cL_law 654 = .ok (.aload_n 2, 1) := by decide +kernel
theorem dL_law_655 : decode cL_law 655 = .ok (.aload_n 0, 1) := by decide +kernel
theorem dL_law_656 : decode cL_law 656 = .ok (.iload_n 3, 1) := by decide +kernel
theorem dL_law_657 : decode cL_law 657 = .ok (.iconst 1, 1) := by decide +kernel
theorem dL_law_658 : decode cL_law 658 = .ok (.iadd, 1) := by decide +kernel
theorem dL_law_659 : decode cL_law 659 = .ok (.iaload, 1) := by decide +kernel
theorem dL_law_660 : decode cL_law 660 = .ok (.aload_n 0, 1) := by decide +kernel
theorem dL_law_661 : decode cL_law 661 = .ok (.iload_n 3, 1) := by decide +kernel
theorem dL_law_662 : decode cL_law 662 = .ok (.iconst 2, 1) := by decide +kernel
theorem dL_law_663 : decode cL_law 663 = .ok (.iadd, 1) := by decide +kernel
theorem dL_law_664 : decode cL_law 664 = .ok (.iaload, 1) := by decide +kernel
theorem dL_law_665 : decode cL_law 665 = .ok (.invokevirtual 91, 3) := by decide +kernel
theorem dL_law_668 : decode cL_law 668 = .ok (.pop, 1) := by decide +kernel
theorem dL_law_669 : decode cL_law 669 = .ok (.goto 39, 3) := by decide +kernel
theorem dL_law_672 : decode cL_law 672 = .ok (.aload_n 1, 1) := by decide +kernel
theorem dL_law_673 : decode cL_law 673 = .ok (.invokevirtual 92, 3) := by decide +kernel
theorem dL_law_676 : decode cL_law 676 = .ok (.pop, 1) := by decide +kernel
theorem dL_law_677 : decode cL_law 677 = .ok (.aload_n 2, 1) := by decide +kernel
theorem dL_law_678 : decode cL_law 678 = .ok (.invokevirtual 95, 3) := by decide +kernel
theorem dL_law_681 : decode cL_law 681 = .ok (.pop, 1) := by decide +kernel
theorem dL_law_682 : decode cL_law 682 = .ok (.goto 26, 3) := by decide +kernel
theorem dL_law_685 : decode cL_law 685 = .ok (.aload_n 1, 1) := by decide +kernel
theorem dL_law_686 : decode cL_law 686 = .ok (.aload_n 0, 1) := by decide +kernel
theorem dL_law_687 : decode cL_law 687 = .ok (.iload_n 3, 1) := by decide +kernel
theorem dL_law_688 : decode cL_law 688 = .ok (.iconst 1, 1) := by decide +kernel
theorem dL_law_689 : decode cL_law 689 = .ok (.iadd, 1) := by decide +kernel
theorem dL_law_690 : decode cL_law 690 = .ok (.iaload, 1) := by decide +kernel
theorem dL_law_691 : decode cL_law 691 = .ok (.invokevirtual 96, 3) := by decide +kernel
theorem dL_law_694 : decode cL_law 694 = .ok (.pop, 1) := by decide +kernel
theorem dL_law_695 : decode cL_law 695 = .ok (.aload_n 2, 1) := by decide +kernel
theorem dL_law_696 : decode cL_law 696 = .ok (.aload_n 0, 1) := by decide +kernel
theorem dL_law_697 : decode cL_law 697 = .ok (.iload_n 3, 1) := by decide +kernel
theorem dL_law_698 : decode cL_law 698 = .ok (.iconst 1, 1) := by decide +kernel
theorem dL_law_699 : decode cL_law 699 = .ok (.iadd, 1) := by decide +kernel
theorem dL_law_700 : decode cL_law 700 = .ok (.iaload, 1) := by decide +kernel
theorem dL_law_701 : decode cL_law 701 = .ok (.invokevirtual 99, 3) := by decide +kernel
theorem dL_law_704 : decode cL_law 704 = .ok (.pop, 1) := by decide +kernel
theorem dL_law_705 : decode cL_law 705 = .ok (.goto 3, 3) := by decide +kernel
theorem dL_law_708 : decode cL_law 708 = .ok (.iinc 3 6, 3) := by decide +kernel
theorem dL_law_711 : decode cL_law 711 = .ok (.goto (-693), 3) := by decide +kernel
theorem dL_law_714 : decode cL_law 714 = .ok (.iconst 1, 1) := by decide +kernel
theorem dL_law_715 : decode cL_law 715 = .ok (.ireturn, 1) := by decide +kernel
