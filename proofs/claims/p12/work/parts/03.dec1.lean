theorem dX5_tellOf_85 : decode cX5_tellOf 85 = .ok (.aload_n 0, 1) := by decide +kernel
theorem dX5_tellOf_86 : decode cX5_tellOf 86 = .ok (.getfield 28, 3) := by decide +kernel
theorem dX5_tellOf_89 : decode cX5_tellOf 89 = .ok (.ireturn, 1) := by decide +kernel
theorem dX5_tellOf_90 : decode cX5_tellOf 90 = .ok (.aload_n 0, 1) := by decide +kernel
theorem dX5_tellOf_91 : decode cX5_tellOf 91 = .ok (.getfield 31, 3) := by decide +kernel
theorem dX5_tellOf_94 : decode cX5_tellOf 94 = .ok (.ireturn, 1) := by decide +kernel
theorem dX5_tellOf_95 : decode cX5_tellOf 95 = .ok (.aload_n 0, 1) := by decide +kernel
theorem dX5_tellOf_96 : decode cX5_tellOf 96 = .ok (.getfield 34, 3) := by decide +kernel
theorem dX5_tellOf_99 : decode cX5_tellOf 99 = .ok (.ireturn, 1) := by decide +kernel
theorem dX5_tellOf_100 : decode cX5_tellOf 100 = .ok (.aload_n 0, 1) := by decide +kernel
theorem dX5_tellOf_101 : decode cX5_tellOf 101 = .ok (.getfield 37, 3) := by decide +kernel
theorem dX5_tellOf_104 : decode cX5_tellOf 104 = .ok (.ifCond .eq 7, 3) := by decide +kernel
theorem dX5_tellOf_107 : decode cX5_tellOf 107 = .ok (.iconst 1, 1) := by decide +kernel
theorem dX5_tellOf_108 : decode cX5_tellOf 108 = .ok (.goto 4, 3) := by decide +kernel
theorem dX5_tellOf_111 : decode cX5_tellOf 111 = .ok (.iconst 0, 1) := by decide +kernel
theorem dX5_tellOf_112 : decode cX5_tellOf 112 = .ok (.ireturn, 1) := by decide +kernel
theorem dX5_tellOf_113 : decode cX5_tellOf 113 = .ok (.iconst (-1), 1) := by decide +kernel
theorem dX5_tellOf_114 : decode cX5_tellOf 114 = .ok (.ireturn, 1) := by decide +kernel
theorem dX6_init_0 : decode cX6_init 0 = .ok (.aload_n 0, 1) := by decide +kernel
theorem dX6_init_1 : decode cX6_init 1 = .ok (.invokespecial 1, 3) := by decide +kernel
theorem dX6_init_4 : decode cX6_init 4 = .ok (.aload_n 0, 1) := by decide +kernel
theorem dX6_init_5 : decode cX6_init 5 = .ok (.sipush 500, 3) := by decide +kernel
theorem dX6_init_8 : decode cX6_init 8 = .ok (.newarray .byte, 2) := by decide +kernel
theorem dX6_init_10 : decode cX6_init 10 = .ok (.putfield 9, 3) := by decide +kernel
theorem dX6_init_13 : decode cX6_init 13 = .ok (.aload_n 0, 1) := by decide +kernel
theorem dX6_init_14 : decode cX6_init 14 = .ok (.iconst 0, 1) := by decide +kernel
theorem dX6_init_15 : decode cX6_init 15 = .ok (.putfield 13, 3) := by decide +kernel
theorem dX6_init_18 : decode cX6_init 18 = .ok (.return_, 1) := by decide +kernel
theorem dX6_holdsMore_0 : decode cX6_holdsMore 0 = .ok (.aload_n 0, 1) := by decide +kernel
theorem dX6_holdsMore_1 : decode cX6_holdsMore 1 = .ok (.getfield 13, 3) := by decide +kernel
theorem dX6_holdsMore_4 : decode cX6_holdsMore 4 = .ok (.iload_n 1, 1) := by decide +kernel
theorem dX6_holdsMore_5 : decode cX6_holdsMore 5 = .ok (.iadd, 1) := by decide +kernel
theorem dX6_holdsMore_6 : decode cX6_holdsMore 6 = .ok (.sipush 500, 3) := by decide +kernel
theorem dX6_holdsMore_9 : decode cX6_holdsMore 9 = .ok (.if_icmp .gt 7, 3) := by decide +kernel
theorem dX6_holdsMore_12 : decode cX6_holdsMore 12 = .ok (.iconst 1, 1) := by decide +kernel
theorem dX6_holdsMore_13 : decode cX6_holdsMore 13 = .ok (.goto 4, 3) := by decide +kernel
theorem dX6_holdsMore_16 : decode cX6_holdsMore 16 = .ok (.iconst 0, 1) := by decide +kernel
theorem dX6_holdsMore_17 : decode cX6_holdsMore 17 = .ok (.ireturn, 1) := by decide +kernel
theorem dX6_add_0 : decode cX6_add 0 = .ok (.aload_n 0, 1) := by decide +kernel
theorem dX6_add_1 : decode cX6_add 1 = .ok (.iconst 4, 1) := by decide +kernel
theorem dX6_add_2 : decode cX6_add 2 = .ok (.invokevirtual 17, 3) := by decide +kernel
theorem dX6_add_5 : decode cX6_add 5 = .ok (.ifCond .ne 4, 3) := by decide +kernel
theorem dX6_add_8 : decode cX6_add 8 = .ok (.return_, 1) := by decide +kernel
theorem dX6_add_9 : decode cX6_add 9 = .ok (.bipush 24, 2) := by decide +kernel
theorem dX6_add_11 : decode cX6_add 11 = .ok (.istore_n 2, 1) := by decide +kernel
theorem dX6_add_12 : decode cX6_add 12 = .ok (.iload_n 2, 1) := by decide +kernel
theorem dX6_add_13 : decode cX6_add 13 = .ok (.ifCond .lt 32, 3) := by decide +kernel
theorem dX6_add_16 : decode cX6_add 16 = .ok (.aload_n 0, 1) := by decide +kernel
theorem dX6_add_17 : decode cX6_add 17 = .ok (.getfield 9, 3) := by decide +kernel
theorem dX6_add_20 : decode cX6_add 20 = .ok (.aload_n 0, 1) := by decide +kernel
theorem dX6_add_21 : decode cX6_add 21 = .ok (.getfield 13, 3) := by decide +kernel
theorem dX6_add_24 : decode cX6_add 24 = .ok (.iload_n 1, 1) := by decide +kernel
theorem dX6_add_25 : decode cX6_add 25 = .ok (.iload_n 2, 1) := by decide +kernel
theorem dX6_add_26 : decode cX6_add 26 = .ok (.ishr, 1) := by decide +kernel
theorem dX6_add_27 : decode cX6_add 27 = .ok (.i2b, 1) := by decide +kernel
theorem dX6_add_28 : decode cX6_add 28 = .ok (.bastore, 1) := by decide +kernel
theorem dX6_add_29 : decode cX6_add 29 = .ok (.aload_n 0, 1) := by decide +kernel
theorem dX6_add_30 : decode cX6_add 30 = .ok (.dup, 1) := by decide +kernel
theorem dX6_add_31 : decode cX6_add 31 = .ok (.getfield 13, 3) := by decide +kernel
theorem dX6_add_34 : decode cX6_add 34 = .ok (.iconst 1, 1) := by decide +kernel
theorem dX6_add_35 : decode cX6_add 35 = .ok (.iadd, 1) := by decide +kernel
theorem dX6_add_36 : decode cX6_add 36 = .ok (.putfield 13, 3) := by decide +kernel
theorem dX6_add_39 : decode cX6_add 39 = .ok (.iinc 2 (-8), 3) := by decide +kernel
theorem dX6_add_42 : decode cX6_add 42 = .ok (.goto (-30), 3) := by decide +kernel
theorem dX6_add_45 : decode cX6_add 45 = .ok (.return_, 1) := by decide +kernel
theorem dX6_at_0 : decode cX6_at 0 = .ok (.iload_n 1, 1) := by decide +kernel
theorem dX6_at_1 : decode cX6_at 1 = .ok (.ifCond .lt 24, 3) := by decide +kernel
theorem dX6_at_4 : decode cX6_at 4 = .ok (.iload_n 1, 1) := by decide +kernel
theorem dX6_at_5 : decode cX6_at 5 = .ok (.aload_n 0, 1) := by decide +kernel
theorem dX6_at_6 : decode cX6_at 6 = .ok (.getfield 13, 3) := by decide +kernel
theorem dX6_at_9 : decode cX6_at 9 = .ok (.if_icmp .ge 16, 3) := by decide +kernel
theorem dX6_at_12 : decode cX6_at 12 = .ok (.aload_n 0, 1) := by decide +kernel
theorem dX6_at_13 : decode cX6_at 13 = .ok (.getfield 9, 3) := by decide +kernel
theorem dX6_at_16 : decode cX6_at 16 = .ok (.iload_n 1, 1) := by decide +kernel
theorem dX6_at_17 : decode cX6_at 17 = .ok (.baload, 1) := by decide +kernel
theorem dX6_at_18 : decode cX6_at 18 = .ok (.sipush 255, 3) := by decide +kernel
theorem dX6_at_21 : decode cX6_at 21 = .ok (.iand, 1) := by decide +kernel
theorem dX6_at_22 : decode cX6_at 22 = .ok (.goto 4, 3) := by decide +kernel
theorem dX6_at_25 : decode cX6_at 25 = .ok (.iconst 0, 1) := by decide +kernel
theorem dX6_at_26 : decode cX6_at 26 = .ok (.ireturn, 1) := by decide +kernel
theorem dX7_init_0 : decode cX7_init 0 = .ok (.aload_n 0, 1) := by decide +kernel
theorem dX7_init_1 : decode cX7_init 1 = .ok (.invokespecial 1, 3) := by decide +kernel
theorem dX7_init_4 : decode cX7_init 4 = .ok (.aload_n 0, 1) := by decide +kernel
theorem dX7_init_5 : decode cX7_init 5 = .ok (.iconst 0, 1) := by decide +kernel
theorem dX7_init_6 : decode cX7_init 6 = .ok (.putfield 7, 3) := by decide +kernel
theorem dX7_init_9 : decode cX7_init 9 = .ok (.aload_n 0, 1) := by decide +kernel
theorem dX7_init_10 : decode cX7_init 10 = .ok (.sipush 500, 3) := by decide +kernel
theorem dX7_init_13 : decode cX7_init 13 = .ok (.newarray .int, 2) := by decide +kernel
theorem dX7_init_15 : decode cX7_init 15 = .ok (.putfield 15, 3) := by decide +kernel
theorem dX7_init_18 : decode cX7_init 18 = .ok (.aload_n 0, 1) := by decide +kernel
theorem dX7_init_19 : decode cX7_init 19 = .ok (.sipush 500, 3) := by decide +kernel
theorem dX7_init_22 : decode cX7_init 22 = .ok (.newarray .int, 2) := by decide +kernel
theorem dX7_init_24 : decode cX7_init 24 = .ok (.putfield 19, 3) := by decide +kernel
theorem dX7_init_27 : decode cX7_init 27 = .ok (.aload_n 0, 1) := by decide +kernel
theorem dX7_init_28 : decode cX7_init 28 = .ok (.sipush 500, 3) := by decide +kernel
theorem dX7_init_31 : decode cX7_init 31 = .ok (.newarray .int, 2) := by decide +kernel
theorem dX7_init_33 : decode cX7_init 33 = .ok (.putfield 22, 3) := by decide +kernel
theorem dX7_init_36 : decode cX7_init 36 = .ok (.aload_n 0, 1) := by decide +kernel
theorem dX7_init_37 : decode cX7_init 37 = .ok (.iconst 0, 1) := by decide +kernel
theorem dX7_init_38 : decode cX7_init 38 = .ok (.putfield 25, 3) := by decide +kernel
theorem dX7_init_41 : decode cX7_init 41 = .ok (.aload_n 0, 1) := by decide +kernel
theorem dX7_init_42 : decode cX7_init 42 = .ok (.aload_n 1, 1) := by decide +kernel
theorem dX7_init_43 : decode cX7_init 43 = .ok (.putfield 28, 3) := by decide +kernel
theorem dX7_init_46 : decode cX7_init 46 = .ok (.return_, 1) := by decide +kernel
theorem dX7_cut_0 : decode cX7_cut 0 = .ok (.aload_n 0, 1) := by decide +kernel
theorem dX7_cut_1 : decode cX7_cut 1 = .ok (.iconst 0, 1) := by decide +kernel
theorem dX7_cut_2 : decode cX7_cut 2 = .ok (.putfield 7, 3) := by decide +kernel
theorem dX7_cut_5 : decode cX7_cut 5 = .ok (.aload_n 0, 1) := by decide +kernel
theorem dX7_cut_6 : decode cX7_cut 6 = .ok (.iload_n 1, 1) := by decide +kernel
theorem dX7_cut_7 : decode cX7_cut 7 = .ok (.putfield 25, 3) := by decide +kernel
theorem dX7_cut_10 : decode cX7_cut 10 = .ok (.iconst 0, 1) := by decide +kernel
theorem dX7_cut_11 : decode cX7_cut 11 = .ok (.istore_n 2, 1) := by decide +kernel
theorem dX7_cut_12 : decode cX7_cut 12 = .ok (.iload_n 2, 1) := by decide +kernel
theorem dX7_cut_13 : decode cX7_cut 13 = .ok (.iload_n 1, 1) := by decide +kernel
theorem dX7_cut_14 : decode cX7_cut 14 = .ok (.if_icmp .ge 145, 3) := by decide +kernel
theorem dX7_cut_17 : decode cX7_cut 17 = .ok (.iload_n 2, 1) := by decide +kernel
theorem dX7_cut_18 : decode cX7_cut 18 = .ok (.iconst 1, 1) := by decide +kernel
theorem dX7_cut_19 : decode cX7_cut 19 = .ok (.iadd, 1) := by decide +kernel
theorem dX7_cut_20 : decode cX7_cut 20 = .ok (.istore_n 3, 1) := by decide +kernel
theorem dX7_cut_21 : decode cX7_cut 21 = .ok (.aload_n 0, 1) := by decide +kernel
theorem dX7_cut_22 : decode cX7_cut 22 = .ok (.getfield 28, 3) := by decide +kernel
theorem dX7_cut_25 : decode cX7_cut 25 = .ok (.iload_n 2, 1) := by decide +kernel
theorem dX7_cut_26 : decode cX7_cut 26 = .ok (.invokevirtual 32, 3) := by decide +kernel
theorem dX7_cut_29 : decode cX7_cut 29 = .ok (.invokestatic 36, 3) := by decide +kernel
theorem dX7_cut_32 : decode cX7_cut 32 = .ok (.ifCond .eq 43, 3) := by decide +kernel
theorem dX7_cut_35 : decode cX7_cut 35 = .ok (.iload_n 3, 1) := by decide +kernel
theorem dX7_cut_36 : decode cX7_cut 36 = .ok (.iload_n 1, 1) := by decide +kernel
theorem dX7_cut_37 : decode cX7_cut 37 = .ok (.if_icmp .ge 23, 3) := by decide +kernel
theorem dX7_cut_40 : decode cX7_cut 40 = .ok (.aload_n 0, 1) := by decide +kernel
theorem dX7_cut_41 : decode cX7_cut 41 = .ok (.getfield 28, 3) := by decide +kernel
theorem dX7_cut_44 : decode cX7_cut 44 = .ok (.iload_n 3, 1) := by decide +kernel
theorem dX7_cut_45 : decode cX7_cut 45 = .ok (.invokevirtual 32, 3) := by decide +kernel
theorem dX7_cut_48 : decode cX7_cut 48 = .ok (.invokestatic 36, 3) := by decide +kernel
theorem dX7_cut_51 : decode cX7_cut 51 = .ok (.ifCond .eq 9, 3) := by decide +kernel
theorem dX7_cut_54 : decode cX7_cut 54 = .ok (.iinc 3 1, 3) := by decide +kernel
theorem dX7_cut_57 : decode cX7_cut 57 = .ok (.goto (-22), 3) := by decide +kernel
theorem dX7_cut_60 : decode cX7_cut 60 = .ok (.aload_n 0, 1) := by decide +kernel
theorem dX7_cut_61 : decode cX7_cut 61 = .ok (.aload_n 0, 1) := by decide +kernel
theorem dX7_cut_62 : decode cX7_cut 62 = .ok (.iload_n 2, 1) := by decide +kernel
theorem dX7_cut_63 : decode cX7_cut 63 = .ok (.iload_n 3, 1) := by decide +kernel
theorem dX7_cut_64 : decode cX7_cut 64 = .ok (.invokevirtual 40, 3) := by decide +kernel
theorem dX7_cut_67 : decode cX7_cut 67 = .ok (.iload_n 2, 1) := by decide +kernel
theorem dX7_cut_68 : decode cX7_cut 68 = .ok (.iconst 0, 1) := by decide +kernel
theorem dX7_cut_69 : decode cX7_cut 69 = .ok (.invokevirtual 44, 3) := by decide +kernel
theorem dX7_cut_72 : decode cX7_cut 72 = .ok (.goto 82, 3) := by decide +kernel
theorem dX7_cut_75 : decode cX7_cut 75 = .ok (.aload_n 0, 1) := by decide +kernel
theorem dX7_cut_76 : decode cX7_cut 76 = .ok (.getfield 28, 3) := by decide +kernel
theorem dX7_cut_79 : decode cX7_cut 79 = .ok (.iload_n 2, 1) := by decide +kernel
theorem dX7_cut_80 : decode cX7_cut 80 = .ok (.invokevirtual 32, 3) := by decide +kernel
theorem dX7_cut_83 : decode cX7_cut 83 = .ok (.invokestatic 48, 3) := by decide +kernel
theorem dX7_cut_86 : decode cX7_cut 86 = .ok (.ifCond .eq 37, 3) := by decide +kernel
theorem dX7_cut_89 : decode cX7_cut 89 = .ok (.iload_n 3, 1) := by decide +kernel
theorem dX7_cut_90 : decode cX7_cut 90 = .ok (.iload_n 1, 1) := by decide +kernel
theorem dX7_cut_91 : decode cX7_cut 91 = .ok (.if_icmp .ge 23, 3) := by decide +kernel
theorem dX7_cut_94 : decode cX7_cut 94 = .ok (.aload_n 0, 1) := by decide +kernel
theorem dX7_cut_95 : decode cX7_cut 95 = .ok (.getfield 28, 3) := by decide +kernel
theorem dX7_cut_98 : decode cX7_cut 98 = .ok (.iload_n 3, 1) := by decide +kernel
theorem dX7_cut_99 : decode cX7_cut 99 = .ok (.invokevirtual 32, 3) := by decide +kernel
theorem dX7_cut_102 : decode cX7_cut 102 = .ok (.invokestatic 48, 3) := by decide +kernel
theorem dX7_cut_105 : decode cX7_cut 105 = .ok (.ifCond .eq 9, 3) := by decide +kernel
theorem dX7_cut_108 : decode cX7_cut 108 = .ok (.iinc 3 1, 3) := by decide +kernel
theorem dX7_cut_111 : decode cX7_cut 111 = .ok (.goto (-22), 3) := by decide +kernel
theorem dX7_cut_114 : decode cX7_cut 114 = .ok (.aload_n 0, 1) := by decide +kernel
theorem dX7_cut_115 : decode cX7_cut 115 = .ok (.iload_n 2, 1) := by decide +kernel
theorem dX7_cut_116 : decode cX7_cut 116 = .ok (.iload_n 3, 1) := by decide +kernel
theorem dX7_cut_117 : decode cX7_cut 117 = .ok (.invokevirtual 51, 3) := by decide +kernel
theorem dX7_cut_120 : decode cX7_cut 120 = .ok (.goto 34, 3) := by decide +kernel
theorem dX7_cut_123 : decode cX7_cut 123 = .ok (.aload_n 0, 1) := by decide +kernel
theorem dX7_cut_124 : decode cX7_cut 124 = .ok (.getfield 28, 3) := by decide +kernel
theorem dX7_cut_127 : decode cX7_cut 127 = .ok (.iload_n 2, 1) := by decide +kernel
theorem dX7_cut_128 : decode cX7_cut 128 = .ok (.invokevirtual 32, 3) := by decide +kernel
theorem dX7_cut_131 : decode cX7_cut 131 = .ok (.invokestatic 55, 3) := by decide +kernel
theorem dX7_cut_134 : decode cX7_cut 134 = .ok (.ifCond .ne 20, 3) := by decide +kernel
theorem dX7_cut_137 : decode cX7_cut 137 = .ok (.aload_n 0, 1) := by decide +kernel
theorem dX7_cut_138 : decode cX7_cut 138 = .ok (.aload_n 0, 1) := by decide +kernel
theorem dX7_cut_139 : decode cX7_cut 139 = .ok (.getfield 28, 3) := by decide +kernel
theorem dX7_cut_142 : decode cX7_cut 142 = .ok (.iload_n 2, 1) := by decide +kernel
theorem dX7_cut_143 : decode cX7_cut 143 = .ok (.invokevirtual 32, 3) := by decide +kernel
theorem dX7_cut_146 : decode cX7_cut 146 = .ok (.invokestatic 58, 3) := by decide +kernel
theorem dX7_cut_149 : decode cX7_cut 149 = .ok (.iload_n 2, 1) := by decide +kernel
theorem dX7_cut_150 : decode cX7_cut 150 = .ok (.iconst 0, 1) := by decide +kernel
theorem dX7_cut_151 : decode cX7_cut 151 = .ok (.invokevirtual 44, 3) := by decide +kernel
theorem dX7_cut_154 : decode cX7_cut 154 = .ok (.iload_n 3, 1) := by decide +kernel
theorem dX7_cut_155 : decode cX7_cut 155 = .ok (.istore_n 2, 1) := by decide +kernel
theorem dX7_cut_156 : decode cX7_cut 156 = .ok (.goto (-144), 3) := by decide +kernel
theorem dX7_cut_159 : decode cX7_cut 159 = .ok (.return_, 1) := by decide +kernel
theorem dX7_codeAt_0 : decode cX7_codeAt 0 = .ok (.iload_n 1, 1) := by decide +kernel
theorem dX7_codeAt_1 : decode cX7_codeAt 1 = .ok (.ifCond .lt 20, 3) := by decide +kernel
theorem dX7_codeAt_4 : decode cX7_codeAt 4 = .ok (.iload_n 1, 1) := by decide +kernel
theorem dX7_codeAt_5 : decode cX7_codeAt 5 = .ok (.aload_n 0, 1) := by decide +kernel
theorem dX7_codeAt_6 : decode cX7_codeAt 6 = .ok (.getfield 7, 3) := by decide +kernel
theorem dX7_codeAt_9 : decode cX7_codeAt 9 = .ok (.if_icmp .ge 12, 3) := by decide +kernel
theorem dX7_codeAt_12 : decode cX7_codeAt 12 = .ok (.aload_n 0, 1) := by decide +kernel
theorem dX7_codeAt_13 : decode cX7_codeAt 13 = .ok (.getfield 15, 3) := by decide +kernel
theorem dX7_codeAt_16 : decode cX7_codeAt 16 = .ok (.iload_n 1, 1) := by decide +kernel
theorem dX7_codeAt_17 : decode cX7_codeAt 17 = .ok (.iaload, 1) := by decide +kernel
theorem dX7_codeAt_18 : decode cX7_codeAt 18 = .ok (.goto 4, 3) := by decide +kernel
theorem dX7_codeAt_21 : decode cX7_codeAt 21 = .ok (.iconst 0, 1) := by decide +kernel
theorem dX7_codeAt_22 : decode cX7_codeAt 22 = .ok (.ireturn, 1) := by decide +kernel
theorem dX7_placeAt_0 : decode cX7_placeAt 0 = .ok (.iload_n 1, 1) := by decide +kernel
theorem dX7_placeAt_1 : decode cX7_placeAt 1 = .ok (.ifCond .lt 20, 3) := by decide +kernel
theorem dX7_placeAt_4 : decode cX7_placeAt 4 = .ok (.iload_n 1, 1) := by decide +kernel
theorem dX7_placeAt_5 : decode cX7_placeAt 5 = .ok (.aload_n 0, 1) := by decide +kernel
theorem dX7_placeAt_6 : decode cX7_placeAt 6 = .ok (.getfield 7, 3) := by decide +kernel
theorem dX7_placeAt_9 : decode cX7_placeAt 9 = .ok (.if_icmp .ge 12, 3) := by decide +kernel
theorem dX7_placeAt_12 : decode cX7_placeAt 12 = .ok (.aload_n 0, 1) := by decide +kernel
theorem dX7_placeAt_13 : decode cX7_placeAt 13 = .ok (.getfield 19, 3) := by decide +kernel
theorem dX7_placeAt_16 : decode cX7_placeAt 16 = .ok (.iload_n 1, 1) := by decide +kernel
theorem dX7_placeAt_17 : decode cX7_placeAt 17 = .ok (.iaload, 1) := by decide +kernel
theorem dX7_placeAt_18 : decode cX7_placeAt 18 = .ok (.goto 7, 3) := by decide +kernel
theorem dX7_placeAt_21 : decode cX7_placeAt 21 = .ok (.aload_n 0, 1) := by decide +kernel
theorem dX7_placeAt_22 : decode cX7_placeAt 22 = .ok (.getfield 25, 3) := by decide +kernel
theorem dX7_placeAt_25 : decode cX7_placeAt 25 = .ok (.ireturn, 1) := by decide +kernel
theorem dX7_valueAt_0 : decode cX7_valueAt 0 = .ok (.iload_n 1, 1) := by decide +kernel
theorem dX7_valueAt_1 : decode cX7_valueAt 1 = .ok (.ifCond .lt 20, 3) := by decide +kernel
theorem dX7_valueAt_4 : decode cX7_valueAt 4 = .ok (.iload_n 1, 1) := by decide +kernel
theorem dX7_valueAt_5 : decode cX7_valueAt 5 = .ok (.aload_n 0, 1) := by decide +kernel
theorem dX7_valueAt_6 : decode cX7_valueAt 6 = .ok (.getfield 7, 3) := by decide +kernel
theorem dX7_valueAt_9 : decode cX7_valueAt 9 = .ok (.if_icmp .ge 12, 3) := by decide +kernel
theorem dX7_valueAt_12 : decode cX7_valueAt 12 = .ok (.aload_n 0, 1) := by decide +kernel
theorem dX7_valueAt_13 : decode cX7_valueAt 13 = .ok (.getfield 22, 3) := by decide +kernel
theorem dX7_valueAt_16 : decode cX7_valueAt 16 = .ok (.iload_n 1, 1) := by decide +kernel
theorem dX7_valueAt_17 : decode cX7_valueAt 17 = .ok (.iaload, 1) := by decide +kernel
theorem dX7_valueAt_18 : decode cX7_valueAt 18 = .ok (.goto 4, 3) := by decide +kernel
theorem dX7_valueAt_21 : decode cX7_valueAt 21 = .ok (.iconst 0, 1) := by decide +kernel
theorem dX7_valueAt_22 : decode cX7_valueAt 22 = .ok (.ireturn, 1) := by decide +kernel
theorem dX7_keep_0 : decode cX7_keep 0 = .ok (.aload_n 0, 1) := by decide +kernel
theorem dX7_keep_1 : decode cX7_keep 1 = .ok (.getfield 7, 3) := by decide +kernel
theorem dX7_keep_4 : decode cX7_keep 4 = .ok (.sipush 500, 3) := by decide +kernel
theorem dX7_keep_7 : decode cX7_keep 7 = .ok (.if_icmp .lt 4, 3) := by decide +kernel
theorem dX7_keep_10 : decode cX7_keep 10 = .ok (.return_, 1) := by decide +kernel
theorem dX7_keep_11 : decode cX7_keep 11 = .ok (.aload_n 0, 1) := by decide +kernel
theorem dX7_keep_12 : decode cX7_keep 12 = .ok (.getfield 15, 3) := by decide +kernel
theorem dX7_keep_15 : decode cX7_keep 15 = .ok (.aload_n 0, 1) := by decide +kernel
theorem dX7_keep_16 : decode cX7_keep 16 = .ok (.getfield 7, 3) := by decide +kernel
theorem dX7_keep_19 : decode cX7_keep 19 = .ok (.iload_n 1, 1) := by decide +kernel
theorem dX7_keep_20 : decode cX7_keep 20 = .ok (.iastore, 1) := by decide +kernel
theorem dX7_keep_21 : decode cX7_keep 21 = .ok (.aload_n 0, 1) := by decide +kernel
theorem dX7_keep_22 : decode cX7_keep 22 = .ok (.getfield 19, 3) := by decide +kernel
theorem dX7_keep_25 : decode cX7_keep 25 = .ok (.aload_n 0, 1) := by decide +kernel
theorem dX7_keep_26 : decode cX7_keep 26 = .ok (.getfield 7, 3) := by decide +kernel
theorem dX7_keep_29 : decode cX7_keep 29 = .ok (.iload_n 2, 1) := by decide +kernel
theorem dX7_keep_30 : decode cX7_keep 30 = .ok (.iastore, 1) := by decide +kernel
theorem dX7_keep_31 : decode cX7_keep 31 = .ok (.aload_n 0, 1) := by decide +kernel
theorem dX7_keep_32 : decode cX7_keep 32 = .ok (.getfield 22, 3) := by decide +kernel
theorem dX7_keep_35 : decode cX7_keep 35 = .ok (.aload_n 0, 1) := by decide +kernel
theorem dX7_keep_36 : decode cX7_keep 36 = .ok (.getfield 7, 3) := by decide +kernel
theorem dX7_keep_39 : decode cX7_keep 39 = .ok (.iload_n 3, 1) := by decide +kernel
theorem dX7_keep_40 : decode cX7_keep 40 = .ok (.iastore, 1) := by decide +kernel
theorem dX7_keep_41 : decode cX7_keep 41 = .ok (.aload_n 0, 1) := by decide +kernel
theorem dX7_keep_42 : decode cX7_keep 42 = .ok (.dup, 1) := by decide +kernel
theorem dX7_keep_43 : decode cX7_keep 43 = .ok (.getfield 7, 3) := by decide +kernel
theorem dX7_keep_46 : decode cX7_keep 46 = .ok (.iconst 1, 1) := by decide +kernel
theorem dX7_keep_47 : decode cX7_keep 47 = .ok (.iadd, 1) := by decide +kernel
theorem dX7_keep_48 : decode cX7_keep 48 = .ok (.putfield 7, 3) := by decide +kernel
theorem dX7_keep_51 : decode cX7_keep 51 = .ok (.return_, 1) := by decide +kernel
theorem dX7_keepNumber_0 : decode cX7_keepNumber 0 = .ok (.iload_n 2, 1) := by decide +kernel
theorem dX7_keepNumber_1 : decode cX7_keepNumber 1 = .ok (.iload_n 1, 1) := by decide +kernel
theorem dX7_keepNumber_2 : decode cX7_keepNumber 2 = .ok (.isub, 1) := by decide +kernel
theorem dX7_keepNumber_3 : decode cX7_keepNumber 3 = .ok (.iconst 4, 1) := by decide +kernel
theorem dX7_keepNumber_4 : decode cX7_keepNumber 4 = .ok (.if_icmp .le 12, 3) := by decide +kernel
theorem dX7_keepNumber_7 : decode cX7_keepNumber 7 = .ok (.aload_n 0, 1) := by decide +kernel
theorem dX7_keepNumber_8 : decode cX7_keepNumber 8 = .ok (.bipush 16, 2) := by decide +kernel
theorem dX7_keepNumber_10 : decode cX7_keepNumber 10 = .ok (.iload_n 1, 1) := by decide +kernel
theorem dX7_keepNumber_11 : decode cX7_keepNumber 11 = .ok (.iconst 0, 1) := by decide +kernel
theorem dX7_keepNumber_12 : decode cX7_keepNumber 12 = .ok (.invokevirtual 44, 3) := by decide +kernel
theorem dX7_keepNumber_15 : decode cX7_keepNumber 15 = .ok (.return_, 1) := by decide +kernel
theorem dX7_keepNumber_16 : decode cX7_keepNumber 16 = .ok (.iconst 0, 1) := by decide +kernel
theorem dX7_keepNumber_17 : decode cX7_keepNumber 17 = .ok (.istore_n 3, 1) := by decide +kernel
theorem dX7_keepNumber_18 : decode cX7_keepNumber 18 = .ok (.iload_n 1, 1) := by decide +kernel
theorem dX7_keepNumber_19 : decode cX7_keepNumber 19 = .ok (.istore 4, 2) := by decide +kernel
theorem dX7_keepNumber_21 : decode cX7_keepNumber 21 = .ok (.iload 4, 2) := by decide +kernel
theorem dX7_keepNumber_23 : decode cX7_keepNumber 23 = .ok (.iload_n 2, 1) := by decide +kernel
theorem dX7_keepNumber_24 : decode cX7_keepNumber 24 = .ok (.if_icmp .ge 27, 3) := by decide +kernel
theorem dX7_keepNumber_27 : decode cX7_keepNumber 27 = .ok (.bipush 10, 2) := by decide +kernel
theorem dX7_keepNumber_29 : decode cX7_keepNumber 29 = .ok (.iload_n 3, 1) := by decide +kernel
theorem dX7_keepNumber_30 : decode cX7_keepNumber 30 = .ok (.imul, 1) := by decide +kernel
theorem dX7_keepNumber_31 : decode cX7_keepNumber 31 = .ok (.aload_n 0, 1) := by decide +kernel
theorem dX7_keepNumber_32 : decode cX7_keepNumber 32 = .ok (.getfield 28, 3) := by decide +kernel
theorem dX7_keepNumber_35 : decode cX7_keepNumber 35 = .ok (.iload 4, 2) := by decide +kernel
theorem dX7_keepNumber_37 : decode cX7_keepNumber 37 = .ok (.invokevirtual 32, 3) := by decide +kernel
theorem dX7_keepNumber_40 : decode cX7_keepNumber 40 = .ok (.iadd, 1) := by decide +kernel
theorem dX7_keepNumber_41 : decode cX7_keepNumber 41 = .ok (.bipush 48, 2) := by decide +kernel
theorem dX7_keepNumber_43 : decode cX7_keepNumber 43 = .ok (.isub, 1) := by decide +kernel
theorem dX7_keepNumber_44 : decode cX7_keepNumber 44 = .ok (.istore_n 3, 1) := by decide +kernel
theorem dX7_keepNumber_45 : decode cX7_keepNumber 45 = .ok (.iinc 4 1, 3) := by decide +kernel
theorem dX7_keepNumber_48 : decode cX7_keepNumber 48 = .ok (.goto (-27), 3) := by decide +kernel
theorem dX7_keepNumber_51 : decode cX7_keepNumber 51 = .ok (.aload_n 0, 1) := by decide +kernel
theorem dX7_keepNumber_52 : decode cX7_keepNumber 52 = .ok (.bipush 15, 2) := by decide +kernel
theorem dX7_keepNumber_54 : decode cX7_keepNumber 54 = .ok (.iload_n 1, 1) := by decide +kernel
theorem dX7_keepNumber_55 : decode cX7_keepNumber 55 = .ok (.iload_n 3, 1) := by decide +kernel
theorem dX7_keepNumber_56 : decode cX7_keepNumber 56 = .ok (.invokevirtual 44, 3) := by decide +kernel
theorem dX7_keepNumber_59 : decode cX7_keepNumber 59 = .ok (.return_, 1) := by decide +kernel
theorem dX7_wordCode_0 : decode cX7_wordCode 0 = .ok (.iconst 1, 1) := by decide +kernel
theorem dX7_wordCode_1 : decode cX7_wordCode 1 = .ok (.istore_n 3, 1) := by decide +kernel
theorem dX7_wordCode_2 : decode cX7_wordCode 2 = .ok (.iload_n 3, 1) := by decide +kernel
theorem dX7_wordCode_3 : decode cX7_wordCode 3 = .ok (.bipush 14, 2) := by decide +kernel
theorem dX7_wordCode_5 : decode cX7_wordCode 5 = .ok (.if_icmp .gt 24, 3) := by decide +kernel
theorem dX7_wordCode_8 : decode cX7_wordCode 8 = .ok (.aload_n 0, 1) := by decide +kernel
theorem dX7_wordCode_9 : decode cX7_wordCode 9 = .ok (.iload_n 3, 1) := by decide +kernel
theorem dX7_wordCode_10 : decode cX7_wordCode 10 = .ok (.invokestatic 61, 3) := by decide +kernel
theorem dX7_wordCode_13 : decode cX7_wordCode 13 = .ok (.iload_n 1, 1) := by decide +kernel
theorem dX7_wordCode_14 : decode cX7_wordCode 14 = .ok (.iload_n 2, 1) := by decide +kernel
theorem dX7_wordCode_15 : decode cX7_wordCode 15 = .ok (.invokevirtual 65, 3) := by decide +kernel
theorem dX7_wordCode_18 : decode cX7_wordCode 18 = .ok (.ifCond .eq 5, 3) := by decide +kernel
theorem dX7_wordCode_21 : decode cX7_wordCode 21 = .ok (.iload_n 3, 1) := by decide +kernel
theorem dX7_wordCode_22 : decode cX7_wordCode 22 = .ok (.ireturn, 1) := by decide +kernel
theorem dX7_wordCode_23 : decode cX7_wordCode 23 = .ok (.iinc 3 1, 3) := by decide +kernel
theorem dX7_wordCode_26 : decode cX7_wordCode 26 = .ok (.goto (-24), 3) := by decide +kernel
theorem dX7_wordCode_29 : decode cX7_wordCode 29 = .ok (.bipush 16, 2) := by decide +kernel
theorem dX7_wordCode_31 : decode cX7_wordCode 31 = .ok (.ireturn, 1) := by decide +kernel
theorem dX7_spells_0 : decode cX7_spells 0 = .ok (.iload_n 3, 1) := by decide +kernel
theorem dX7_spells_1 : decode cX7_spells 1 = .ok (.iload_n 2, 1) := by decide +kernel
theorem dX7_spells_2 : decode cX7_spells 2 = .ok (.isub, 1) := by decide +kernel
theorem dX7_spells_3 : decode cX7_spells 3 = .ok (.aload_n 1, 1) := by decide +kernel
theorem dX7_spells_4 : decode cX7_spells 4 = .ok (.invokevirtual 69, 3) := by decide +kernel
theorem dX7_spells_7 : decode cX7_spells 7 = .ok (.if_icmp .eq 5, 3) := by decide +kernel
theorem dX7_spells_10 : decode cX7_spells 10 = .ok (.iconst 0, 1) := by decide +kernel
theorem dX7_spells_11 : decode cX7_spells 11 = .ok (.ireturn, 1) := by decide +kernel
theorem dX7_spells_12 : decode cX7_spells 12 = .ok (.iconst 0, 1) := by decide +kernel
theorem dX7_spells_13 : decode cX7_spells 13 = .ok (.istore 4, 2) := by decide +kernel
theorem dX7_spells_15 : decode cX7_spells 15 = .ok (.iload 4, 2) := by decide +kernel
theorem dX7_spells_17 : decode cX7_spells 17 = .ok (.aload_n 1, 1) := by decide +kernel
theorem dX7_spells_18 : decode cX7_spells 18 = .ok (.invokevirtual 69, 3) := by decide +kernel
theorem dX7_spells_21 : decode cX7_spells 21 = .ok (.if_icmp .ge 31, 3) := by decide +kernel
theorem dX7_spells_24 : decode cX7_spells 24 = .ok (.aload_n 0, 1) := by decide +kernel
theorem dX7_spells_25 : decode cX7_spells 25 = .ok (.getfield 28, 3) := by decide +kernel
theorem dX7_spells_28 : decode cX7_spells 28 = .ok (.iload_n 2, 1) := by decide +kernel
theorem dX7_spells_29 : decode cX7_spells 29 = .ok (.iload 4, 2) := by decide +kernel
theorem dX7_spells_31 : decode cX7_spells 31 = .ok (.iadd, 1) := by decide +kernel
theorem dX7_spells_32 : decode cX7_spells 32 = .ok (.invokevirtual 32, 3) := by decide +kernel
theorem dX7_spells_35 : decode cX7_spells 35 = .ok (.aload_n 1, 1) := by decide +kernel
theorem dX7_spells_36 : decode cX7_spells 36 = .ok (.iload 4, 2) := by decide +kernel
theorem dX7_spells_38 : decode cX7_spells 38 = .ok (.invokevirtual 75, 3) := by decide +kernel
theorem dX7_spells_41 : decode cX7_spells 41 = .ok (.if_icmp .eq 5, 3) := by decide +kernel
theorem dX7_spells_44 : decode cX7_spells 44 = .ok (.iconst 0, 1) := by decide +kernel
theorem dX7_spells_45 : decode cX7_spells 45 = .ok (.ireturn, 1) := by decide +kernel
theorem dX7_spells_46 : decode cX7_spells 46 = .ok (.iinc 4 1, 3) := by decide +kernel
theorem dX7_spells_49 : decode cX7_spells 49 = .ok (.goto (-34), 3) := by decide +kernel
theorem dX7_spells_52 : decode cX7_spells 52 = .ok (.iconst 1, 1) := by decide +kernel
theorem dX7_spells_53 : decode cX7_spells 53 = .ok (.ireturn, 1) := by decide +kernel
theorem dX7_wordOf_0 : decode cX7_wordOf 0 = .ok (.iload_n 0, 1) := by decide +kernel
theorem dX7_wordOf_1 : decode cX7_wordOf 1 = .ok (.tableswitch 113 1 14 #[71, 74, 77, 80, 83, 86, 89, 92, 95, 98, 101, 104, 107, 110], 71) := by decide +kernel
theorem dX7_wordOf_72 : decode cX7_wordOf 72 = .ok (.ldc 79, 2) := by decide +kernel
theorem dX7_wordOf_74 : decode cX7_wordOf 74 = .ok (.areturn, 1) := by decide +kernel
theorem dX7_wordOf_75 : decode cX7_wordOf 75 = .ok (.ldc 81, 2) := by decide +kernel
theorem dX7_wordOf_77 : decode cX7_wordOf 77 = .ok (.areturn, 1) := by decide +kernel
theorem dX7_wordOf_78 : decode cX7_wordOf 78 = .ok (.ldc 83, 2) := by decide +kernel
theorem dX7_wordOf_80 : decode cX7_wordOf 80 = .ok (.areturn, 1) := by decide +kernel
theorem dX7_wordOf_81 : decode cX7_wordOf 81 = .ok (.ldc 85, 2) := by decide +kernel
theorem dX7_wordOf_83 : decode cX7_wordOf 83 = .ok (.areturn, 1) := by decide +kernel
theorem dX7_wordOf_84 : decode cX7_wordOf 84 = .ok (.ldc 87, 2) := by decide +kernel
theorem dX7_wordOf_86 : decode cX7_wordOf 86 = .ok (.areturn, 1) := by decide +kernel
theorem dX7_wordOf_87 : decode cX7_wordOf 87 = .ok (.ldc 89, 2) := by decide +kernel
theorem dX7_wordOf_89 : decode cX7_wordOf 89 = .ok (.areturn, 1) := by decide +kernel
theorem dX7_wordOf_90 : decode cX7_wordOf 90 = .ok (.ldc 91, 2) := by decide +kernel
theorem dX7_wordOf_92 : decode cX7_wordOf 92 = .ok (.areturn, 1) := by decide +kernel
theorem dX7_wordOf_93 : decode cX7_wordOf 93 = .ok (.ldc 93, 2) := by decide +kernel
theorem dX7_wordOf_95 : decode cX7_wordOf 95 = .ok (.areturn, 1) := by decide +kernel
theorem dX7_wordOf_96 : decode cX7_wordOf 96 = .ok (.ldc 95, 2) := by decide +kernel
theorem dX7_wordOf_98 : decode cX7_wordOf 98 = .ok (.areturn, 1) := by decide +kernel
theorem dX7_wordOf_99 : decode cX7_wordOf 99 = .ok (.ldc 97, 2) := by decide +kernel
theorem dX7_wordOf_101 : decode cX7_wordOf 101 = .ok (.areturn, 1) := by decide +kernel
theorem dX7_wordOf_102 : decode cX7_wordOf 102 = .ok (.ldc 99, 2) := by decide +kernel
theorem dX7_wordOf_104 : decode cX7_wordOf 104 = .ok (.areturn, 1) := by decide +kernel
theorem dX7_wordOf_105 : decode cX7_wordOf 105 = .ok (.ldc 100, 2) := by decide +kernel
theorem dX7_wordOf_107 : decode cX7_wordOf 107 = .ok (.areturn, 1) := by decide +kernel
theorem dX7_wordOf_108 : decode cX7_wordOf 108 = .ok (.ldc 102, 2) := by decide +kernel
theorem dX7_wordOf_110 : decode cX7_wordOf 110 = .ok (.areturn, 1) := by decide +kernel
theorem dX7_wordOf_111 : decode cX7_wordOf 111 = .ok (.ldc 104, 2) := by decide +kernel
theorem dX7_wordOf_113 : decode cX7_wordOf 113 = .ok (.areturn, 1) := by decide +kernel
theorem dX7_wordOf_114 : decode cX7_wordOf 114 = .ok (.ldc 106, 2) := by decide +kernel
theorem dX7_wordOf_116 : decode cX7_wordOf 116 = .ok (.areturn, 1) := by decide +kernel
theorem dX7_signCode_0 : decode cX7_signCode 0 = .ok (.iload_n 0, 1) := by decide +kernel
theorem dX7_signCode_1 : decode cX7_signCode 1 = .ok (.bipush 59, 2) := by decide +kernel
theorem dX7_signCode_3 : decode cX7_signCode 3 = .ok (.if_icmp .eq 21, 3) := by decide +kernel
theorem dX7_signCode_6 : decode cX7_signCode 6 = .ok (.iload_n 0, 1) := by decide +kernel
theorem dX7_signCode_7 : decode cX7_signCode 7 = .ok (.bipush 60, 2) := by decide +kernel
theorem dX7_signCode_9 : decode cX7_signCode 9 = .ok (.if_icmp .eq 15, 3) := by decide +kernel
theorem dX7_signCode_12 : decode cX7_signCode 12 = .ok (.iload_n 0, 1) := by decide +kernel
theorem dX7_signCode_13 : decode cX7_signCode 13 = .ok (.bipush 61, 2) := by decide +kernel
theorem dX7_signCode_15 : decode cX7_signCode 15 = .ok (.if_icmp .eq 9, 3) := by decide +kernel
theorem dX7_signCode_18 : decode cX7_signCode 18 = .ok (.iload_n 0, 1) := by decide +kernel
theorem dX7_signCode_19 : decode cX7_signCode 19 = .ok (.bipush 62, 2) := by decide +kernel
theorem dX7_signCode_21 : decode cX7_signCode 21 = .ok (.if_icmp .ne 7, 3) := by decide +kernel
theorem dX7_signCode_24 : decode cX7_signCode 24 = .ok (.iload_n 0, 1) := by decide +kernel
theorem dX7_signCode_25 : decode cX7_signCode 25 = .ok (.goto 5, 3) := by decide +kernel
theorem dX7_signCode_28 : decode cX7_signCode 28 = .ok (.bipush 16, 2) := by decide +kernel
theorem dX7_signCode_30 : decode cX7_signCode 30 = .ok (.ireturn, 1) := by decide +kernel
theorem dX7_isLetter_0 : decode cX7_isLetter 0 = .ok (.iload_n 0, 1) := by decide +kernel
theorem dX7_isLetter_1 : decode cX7_isLetter 1 = .ok (.bipush 97, 2) := by decide +kernel
theorem dX7_isLetter_3 : decode cX7_isLetter 3 = .ok (.if_icmp .lt 13, 3) := by decide +kernel
theorem dX7_isLetter_6 : decode cX7_isLetter 6 = .ok (.iload_n 0, 1) := by decide +kernel
theorem dX7_isLetter_7 : decode cX7_isLetter 7 = .ok (.bipush 122, 2) := by decide +kernel
theorem dX7_isLetter_9 : decode cX7_isLetter 9 = .ok (.if_icmp .gt 7, 3) := by decide +kernel
theorem dX7_isLetter_12 : decode cX7_isLetter 12 = .ok (.iconst 1, 1) := by decide +kernel
theorem dX7_isLetter_13 : decode cX7_isLetter 13 = .ok (.goto 4, 3) := by decide +kernel
theorem dX7_isLetter_16 : decode cX7_isLetter 16 = .ok (.iconst 0, 1) := by decide +kernel
theorem dX7_isLetter_17 : decode cX7_isLetter 17 = .ok (.ireturn, 1) := by decide +kernel
theorem dX7_isDigit_0 : decode cX7_isDigit 0 = .ok (.iload_n 0, 1) := by decide +kernel
theorem dX7_isDigit_1 : decode cX7_isDigit 1 = .ok (.bipush 48, 2) := by decide +kernel
theorem dX7_isDigit_3 : decode cX7_isDigit 3 = .ok (.if_icmp .lt 13, 3) := by decide +kernel
theorem dX7_isDigit_6 : decode cX7_isDigit 6 = .ok (.iload_n 0, 1) := by decide +kernel
theorem dX7_isDigit_7 : decode cX7_isDigit 7 = .ok (.bipush 57, 2) := by decide +kernel
theorem dX7_isDigit_9 : decode cX7_isDigit 9 = .ok (.if_icmp .gt 7, 3) := by decide +kernel
theorem dX7_isDigit_12 : decode cX7_isDigit 12 = .ok (.iconst 1, 1) := by decide +kernel
theorem dX7_isDigit_13 : decode cX7_isDigit 13 = .ok (.goto 4, 3) := by decide +kernel
theorem dX7_isDigit_16 : decode cX7_isDigit 16 = .ok (.iconst 0, 1) := by decide +kernel
theorem dX7_isDigit_17 : decode cX7_isDigit 17 = .ok (.ireturn, 1) := by decide +kernel
theorem dX7_isBlank_0 : decode cX7_isBlank 0 = .ok (.iload_n 0, 1) := by decide +kernel
theorem dX7_isBlank_1 : decode cX7_isBlank 1 = .ok (.bipush 32, 2) := by decide +kernel
theorem dX7_isBlank_3 : decode cX7_isBlank 3 = .ok (.if_icmp .eq 9, 3) := by decide +kernel
theorem dX7_isBlank_6 : decode cX7_isBlank 6 = .ok (.iload_n 0, 1) := by decide +kernel
theorem dX7_isBlank_7 : decode cX7_isBlank 7 = .ok (.bipush 10, 2) := by decide +kernel
theorem dX7_isBlank_9 : decode cX7_isBlank 9 = .ok (.if_icmp .ne 7, 3) := by decide +kernel
theorem dX7_isBlank_12 : decode cX7_isBlank 12 = .ok (.iconst 1, 1) := by decide +kernel
theorem dX7_isBlank_13 : decode cX7_isBlank 13 = .ok (.goto 4, 3) := by decide +kernel
theorem dX7_isBlank_16 : decode cX7_isBlank 16 = .ok (.iconst 0, 1) := by decide +kernel
theorem dX7_isBlank_17 : decode cX7_isBlank 17 = .ok (.ireturn, 1) := by decide +kernel
theorem dX8_init_0 : decode cX8_init 0 = .ok (.aload_n 0, 1) := by decide +kernel
theorem dX8_init_1 : decode cX8_init 1 = .ok (.invokespecial 1, 3) := by decide +kernel
theorem dX8_init_4 : decode cX8_init 4 = .ok (.aload_n 0, 1) := by decide +kernel
theorem dX8_init_5 : decode cX8_init 5 = .ok (.bipush 16, 2) := by decide +kernel
theorem dX8_init_7 : decode cX8_init 7 = .ok (.anewarray 9, 3) := by decide +kernel
theorem dX8_init_10 : decode cX8_init 10 = .ok (.putfield 11, 3) := by decide +kernel
theorem dX8_init_13 : decode cX8_init 13 = .ok (.aload_n 0, 1) := by decide +kernel
theorem dX8_init_14 : decode cX8_init 14 = .ok (.bipush 10, 2) := by decide +kernel
theorem dX8_init_16 : decode cX8_init 16 = .ok (.anewarray 15, 3) := by decide +kernel
theorem dX8_init_19 : decode cX8_init 19 = .ok (.putfield 17, 3) := by decide +kernel
theorem dX8_init_22 : decode cX8_init 22 = .ok (.aload_n 0, 1) := by decide +kernel
theorem dX8_init_23 : decode cX8_init 23 = .ok (.bipush 8, 2) := by decide +kernel
theorem dX8_init_25 : decode cX8_init 25 = .ok (.anewarray 21, 3) := by decide +kernel
theorem dX8_init_28 : decode cX8_init 28 = .ok (.putfield 23, 3) := by decide +kernel
theorem dX8_init_31 : decode cX8_init 31 = .ok (.aload_n 0, 1) := by decide +kernel
theorem dX8_init_32 : decode cX8_init 32 = .ok (.new 21, 3) := by decide +kernel
theorem dX8_init_35 : decode cX8_init 35 = .ok (.dup, 1) := by decide +kernel
theorem dX8_init_36 : decode cX8_init 36 = .ok (.invokespecial 27, 3) := by decide +kernel
theorem dX8_init_39 : decode cX8_init 39 = .ok (.putfield 28, 3) := by decide +kernel
theorem dX8_init_42 : decode cX8_init 42 = .ok (.aload_n 0, 1) := by decide +kernel
theorem dX8_init_43 : decode cX8_init 43 = .ok (.new 32, 3) := by decide +kernel
theorem dX8_init_46 : decode cX8_init 46 = .ok (.dup, 1) := by decide +kernel
theorem dX8_init_47 : decode cX8_init 47 = .ok (.invokespecial 34, 3) := by decide +kernel
theorem dX8_init_50 : decode cX8_init 50 = .ok (.putfield 35, 3) := by decide +kernel
theorem dX8_init_53 : decode cX8_init 53 = .ok (.aload_n 0, 1) := by decide +kernel
theorem dX8_init_54 : decode cX8_init 54 = .ok (.new 39, 3) := by decide +kernel
theorem dX8_init_57 : decode cX8_init 57 = .ok (.dup, 1) := by decide +kernel
theorem dX8_init_58 : decode cX8_init 58 = .ok (.invokespecial 41, 3) := by decide +kernel
theorem dX8_init_61 : decode cX8_init 61 = .ok (.putfield 42, 3) := by decide +kernel
theorem dX8_init_64 : decode cX8_init 64 = .ok (.aload_n 0, 1) := by decide +kernel
theorem dX8_init_65 : decode cX8_init 65 = .ok (.new 46, 3) := by decide +kernel
theorem dX8_init_68 : decode cX8_init 68 = .ok (.dup, 1) := by decide +kernel
theorem dX8_init_69 : decode cX8_init 69 = .ok (.aload_n 0, 1) := by decide +kernel
theorem dX8_init_70 : decode cX8_init 70 = .ok (.getfield 42, 3) := by decide +kernel
theorem dX8_init_73 : decode cX8_init 73 = .ok (.invokespecial 48, 3) := by decide +kernel
theorem dX8_init_76 : decode cX8_init 76 = .ok (.putfield 51, 3) := by decide +kernel
theorem dX8_init_79 : decode cX8_init 79 = .ok (.aload_n 0, 1) := by decide +kernel
theorem dX8_init_80 : decode cX8_init 80 = .ok (.new 55, 3) := by decide +kernel
theorem dX8_init_83 : decode cX8_init 83 = .ok (.dup, 1) := by decide +kernel
theorem dX8_init_84 : decode cX8_init 84 = .ok (.invokespecial 57, 3) := by decide +kernel
theorem dX8_init_87 : decode cX8_init 87 = .ok (.putfield 58, 3) := by decide +kernel
theorem dX8_init_90 : decode cX8_init 90 = .ok (.aload_n 0, 1) := by decide +kernel
theorem dX8_init_91 : decode cX8_init 91 = .ok (.iconst 0, 1) := by decide +kernel
theorem dX8_init_92 : decode cX8_init 92 = .ok (.putfield 62, 3) := by decide +kernel
theorem dX8_init_95 : decode cX8_init 95 = .ok (.aload_n 0, 1) := by decide +kernel
theorem dX8_init_96 : decode cX8_init 96 = .ok (.iconst 0, 1) := by decide +kernel
theorem dX8_init_97 : decode cX8_init 97 = .ok (.putfield 66, 3) := by decide +kernel
theorem dX8_init_100 : decode cX8_init 100 = .ok (.aload_n 0, 1) := by decide +kernel
theorem dX8_init_101 : decode cX8_init 101 = .ok (.iconst 0, 1) := by decide +kernel
theorem dX8_init_102 : decode cX8_init 102 = .ok (.putfield 69, 3) := by decide +kernel
theorem dX8_init_105 : decode cX8_init 105 = .ok (.aload_n 0, 1) := by decide +kernel
theorem dX8_init_106 : decode cX8_init 106 = .ok (.iconst 0, 1) := by decide +kernel
theorem dX8_init_107 : decode cX8_init 107 = .ok (.putfield 72, 3) := by decide +kernel
theorem dX8_init_110 : decode cX8_init 110 = .ok (.aload_n 0, 1) := by decide +kernel
theorem dX8_init_111 : decode cX8_init 111 = .ok (.iconst 0, 1) := by decide +kernel
theorem dX8_init_112 : decode cX8_init 112 = .ok (.putfield 75, 3) := by decide +kernel
theorem dX8_init_115 : decode cX8_init 115 = .ok (.aload_n 0, 1) := by decide +kernel
theorem dX8_init_116 : decode cX8_init 116 = .ok (.iconst 0, 1) := by decide +kernel
theorem dX8_init_117 : decode cX8_init 117 = .ok (.putfield 78, 3) := by decide +kernel
theorem dX8_init_120 : decode cX8_init 120 = .ok (.aload_n 0, 1) := by decide +kernel
theorem dX8_init_121 : decode cX8_init 121 = .ok (.iconst (-1), 1) := by decide +kernel
theorem dX8_init_122 : decode cX8_init 122 = .ok (.putfield 81, 3) := by decide +kernel
theorem dX8_init_125 : decode cX8_init 125 = .ok (.iconst 0, 1) := by decide +kernel
theorem dX8_init_126 : decode cX8_init 126 = .ok (.istore_n 1, 1) := by decide +kernel
theorem dX8_init_127 : decode cX8_init 127 = .ok (.iload_n 1, 1) := by decide +kernel
theorem dX8_init_128 : decode cX8_init 128 = .ok (.bipush 16, 2) := by decide +kernel
theorem dX8_init_130 : decode cX8_init 130 = .ok (.if_icmp .ge 22, 3) := by decide +kernel
theorem dX8_init_133 : decode cX8_init 133 = .ok (.aload_n 0, 1) := by decide +kernel
theorem dX8_init_134 : decode cX8_init 134 = .ok (.getfield 11, 3) := by decide +kernel
theorem dX8_init_137 : decode cX8_init 137 = .ok (.iload_n 1, 1) := by decide +kernel
theorem dX8_init_138 : decode cX8_init 138 = .ok (.new 9, 3) := by decide +kernel
theorem dX8_init_141 : decode cX8_init 141 = .ok (.dup, 1) := by decide +kernel
theorem dX8_init_142 : decode cX8_init 142 = .ok (.invokespecial 84, 3) := by decide +kernel
theorem dX8_init_145 : decode cX8_init 145 = .ok (.aastore, 1) := by decide +kernel
theorem dX8_init_146 : decode cX8_init 146 = .ok (.iinc 1 1, 3) := by decide +kernel
theorem dX8_init_149 : decode cX8_init 149 = .ok (.goto (-22), 3) := by decide +kernel
theorem dX8_init_152 : decode cX8_init 152 = .ok (.iconst 0, 1) := by decide +kernel
theorem dX8_init_153 : decode cX8_init 153 = .ok (.istore_n 1, 1) := by decide +kernel
theorem dX8_init_154 : decode cX8_init 154 = .ok (.iload_n 1, 1) := by decide +kernel
theorem dX8_init_155 : decode cX8_init 155 = .ok (.bipush 10, 2) := by decide +kernel
theorem dX8_init_157 : decode cX8_init 157 = .ok (.if_icmp .ge 22, 3) := by decide +kernel
theorem dX8_init_160 : decode cX8_init 160 = .ok (.aload_n 0, 1) := by decide +kernel
theorem dX8_init_161 : decode cX8_init 161 = .ok (.getfield 17, 3) := by decide +kernel
theorem dX8_init_164 : decode cX8_init 164 = .ok (.iload_n 1, 1) := by decide +kernel
theorem dX8_init_165 : decode cX8_init 165 = .ok (.new 15, 3) := by decide +kernel
theorem dX8_init_168 : decode cX8_init 168 = .ok (.dup, 1) := by decide +kernel
theorem dX8_init_169 : decode cX8_init 169 = .ok (.invokespecial 85, 3) := by decide +kernel
theorem dX8_init_172 : decode cX8_init 172 = .ok (.aastore, 1) := by decide +kernel
theorem dX8_init_173 : decode cX8_init 173 = .ok (.iinc 1 1, 3) := by decide +kernel
theorem dX8_init_176 : decode cX8_init 176 = .ok (.goto (-22), 3) := by decide +kernel
theorem dX8_init_179 : decode cX8_init 179 = .ok (.iconst 0, 1) := by decide +kernel
theorem dX8_init_180 : decode cX8_init 180 = .ok (.istore_n 1, 1) := by decide +kernel
theorem dX8_init_181 : decode cX8_init 181 = .ok (.iload_n 1, 1) := by decide +kernel
theorem dX8_init_182 : decode cX8_init 182 = .ok (.bipush 8, 2) := by decide +kernel
theorem dX8_init_184 : decode cX8_init 184 = .ok (.if_icmp .ge 22, 3) := by decide +kernel
theorem dX8_init_187 : decode cX8_init 187 = .ok (.aload_n 0, 1) := by decide +kernel
theorem dX8_init_188 : decode cX8_init 188 = .ok (.getfield 23, 3) := by decide +kernel
theorem dX8_init_191 : decode cX8_init 191 = .ok (.iload_n 1, 1) := by decide +kernel
theorem dX8_init_192 : decode cX8_init 192 = .ok (.new 21, 3) := by decide +kernel
theorem dX8_init_195 : decode cX8_init 195 = .ok (.dup, 1) := by decide +kernel
theorem dX8_init_196 : decode cX8_init 196 = .ok (.invokespecial 27, 3) := by decide +kernel
theorem dX8_init_199 : decode cX8_init 199 = .ok (.aastore, 1) := by decide +kernel
theorem dX8_init_200 : decode cX8_init 200 = .ok (.iinc 1 1, 3) := by decide +kernel
theorem dX8_init_203 : decode cX8_init 203 = .ok (.goto (-22), 3) := by decide +kernel
theorem dX8_init_206 : decode cX8_init 206 = .ok (.return_, 1) := by decide +kernel
theorem dX8_depth_0 : decode cX8_depth 0 = .ok (.iload_n 1, 1) := by decide +kernel
theorem dX8_depth_1 : decode cX8_depth 1 = .ok (.invokestatic 86, 3) := by decide +kernel
theorem dX8_depth_4 : decode cX8_depth 4 = .ok (.ifCond .eq 26, 3) := by decide +kernel
theorem dX8_depth_7 : decode cX8_depth 7 = .ok (.iload_n 2, 1) := by decide +kernel
theorem dX8_depth_8 : decode cX8_depth 8 = .ok (.iconst 0, 1) := by decide +kernel
theorem dX8_depth_9 : decode cX8_depth 9 = .ok (.sipush 3000, 3) := by decide +kernel
theorem dX8_depth_12 : decode cX8_depth 12 = .ok (.invokestatic 90, 3) := by decide +kernel
theorem dX8_depth_15 : decode cX8_depth 15 = .ok (.ifCond .eq 15, 3) := by decide +kernel
theorem dX8_depth_18 : decode cX8_depth 18 = .ok (.aload_n 0, 1) := by decide +kernel
theorem dX8_depth_19 : decode cX8_depth 19 = .ok (.getfield 11, 3) := by decide +kernel
theorem dX8_depth_22 : decode cX8_depth 22 = .ok (.iload_n 1, 1) := by decide +kernel
theorem dX8_depth_23 : decode cX8_depth 23 = .ok (.aaload, 1) := by decide +kernel
theorem dX8_depth_24 : decode cX8_depth 24 = .ok (.invokevirtual 94, 3) := by decide +kernel
theorem dX8_depth_27 : decode cX8_depth 27 = .ok (.ifCond .eq 5, 3) := by decide +kernel
theorem dX8_depth_30 : decode cX8_depth 30 = .ok (.iconst 0, 1) := by decide +kernel
theorem dX8_depth_31 : decode cX8_depth 31 = .ok (.ireturn, 1) := by decide +kernel
theorem dX8_depth_32 : decode cX8_depth 32 = .ok (.aload_n 0, 1) := by decide +kernel
theorem dX8_depth_33 : decode cX8_depth 33 = .ok (.getfield 11, 3) := by decide +kernel
theorem dX8_depth_36 : decode cX8_depth 36 = .ok (.iload_n 1, 1) := by decide +kernel
theorem dX8_depth_37 : decode cX8_depth 37 = .ok (.aaload, 1) := by decide +kernel
theorem dX8_depth_38 : decode cX8_depth 38 = .ok (.iload_n 2, 1) := by decide +kernel
theorem dX8_depth_39 : decode cX8_depth 39 = .ok (.putfield 98, 3) := by decide +kernel
theorem dX8_depth_42 : decode cX8_depth 42 = .ok (.iconst 1, 1) := by decide +kernel
theorem dX8_depth_43 : decode cX8_depth 43 = .ok (.ireturn, 1) := by decide +kernel
theorem dX8_mill_0 : decode cX8_mill 0 = .ok (.iload_n 1, 1) := by decide +kernel
theorem dX8_mill_1 : decode cX8_mill 1 = .ok (.invokestatic 86, 3) := by decide +kernel
theorem dX8_mill_4 : decode cX8_mill 4 = .ok (.ifCond .eq 13, 3) := by decide +kernel
theorem dX8_mill_7 : decode cX8_mill 7 = .ok (.iload_n 2, 1) := by decide +kernel
theorem dX8_mill_8 : decode cX8_mill 8 = .ok (.iconst 1, 1) := by decide +kernel
theorem dX8_mill_9 : decode cX8_mill 9 = .ok (.bipush 20, 2) := by decide +kernel
theorem dX8_mill_11 : decode cX8_mill 11 = .ok (.invokestatic 90, 3) := by decide +kernel
theorem dX8_mill_14 : decode cX8_mill 14 = .ok (.ifCond .ne 6, 3) := by decide +kernel
theorem dX8_mill_17 : decode cX8_mill 17 = .ok (.bipush (-2), 2) := by decide +kernel
theorem dX8_mill_19 : decode cX8_mill 19 = .ok (.ireturn, 1) := by decide +kernel
theorem dX8_mill_20 : decode cX8_mill 20 = .ok (.aload_n 0, 1) := by decide +kernel
theorem dX8_mill_21 : decode cX8_mill 21 = .ok (.getfield 11, 3) := by decide +kernel
theorem dX8_mill_24 : decode cX8_mill 24 = .ok (.iload_n 1, 1) := by decide +kernel
theorem dX8_mill_25 : decode cX8_mill 25 = .ok (.aaload, 1) := by decide +kernel
theorem dX8_mill_26 : decode cX8_mill 26 = .ok (.invokevirtual 94, 3) := by decide +kernel
theorem dX8_mill_29 : decode cX8_mill 29 = .ok (.ifCond .eq 6, 3) := by decide +kernel
theorem dX8_mill_32 : decode cX8_mill 32 = .ok (.bipush (-3), 2) := by decide +kernel
theorem dX8_mill_34 : decode cX8_mill 34 = .ok (.ireturn, 1) := by decide +kernel
theorem dX8_mill_35 : decode cX8_mill 35 = .ok (.aload_n 0, 1) := by decide +kernel
theorem dX8_mill_36 : decode cX8_mill 36 = .ok (.aload_n 0, 1) := by decide +kernel
theorem dX8_mill_37 : decode cX8_mill 37 = .ok (.getfield 69, 3) := by decide +kernel
theorem dX8_mill_40 : decode cX8_mill 40 = .ok (.invokevirtual 101, 3) := by decide +kernel
theorem dX8_mill_43 : decode cX8_mill 43 = .ok (.astore_n 3, 1) := by decide +kernel
theorem dX8_mill_44 : decode cX8_mill 44 = .ok (.aload_n 3, 1) := by decide +kernel
theorem dX8_mill_45 : decode cX8_mill 45 = .ok (.iload_n 1, 1) := by decide +kernel
theorem dX8_mill_46 : decode cX8_mill 46 = .ok (.aload_n 0, 1) := by decide +kernel
theorem dX8_mill_47 : decode cX8_mill 47 = .ok (.getfield 69, 3) := by decide +kernel
theorem dX8_mill_50 : decode cX8_mill 50 = .ok (.invokevirtual 105, 3) := by decide +kernel
theorem dX8_mill_53 : decode cX8_mill 53 = .ok (.ifCond .eq 6, 3) := by decide +kernel
theorem dX8_mill_56 : decode cX8_mill 56 = .ok (.bipush (-4), 2) := by decide +kernel
theorem dX8_mill_58 : decode cX8_mill 58 = .ok (.ireturn, 1) := by decide +kernel
theorem dX8_mill_59 : decode cX8_mill 59 = .ok (.aload_n 0, 1) := by decide +kernel
theorem dX8_mill_60 : decode cX8_mill 60 = .ok (.getfield 11, 3) := by decide +kernel
theorem dX8_mill_63 : decode cX8_mill 63 = .ok (.iload_n 1, 1) := by decide +kernel
theorem dX8_mill_64 : decode cX8_mill 64 = .ok (.aaload, 1) := by decide +kernel
theorem dX8_mill_65 : decode cX8_mill 65 = .ok (.getfield 98, 3) := by decide +kernel
theorem dX8_mill_68 : decode cX8_mill 68 = .ok (.iload_n 2, 1) := by decide +kernel
theorem dX8_mill_69 : decode cX8_mill 69 = .ok (.isub, 1) := by decide +kernel
theorem dX8_mill_70 : decode cX8_mill 70 = .ok (.aload_n 3, 1) := by decide +kernel
theorem dX8_mill_71 : decode cX8_mill 71 = .ok (.getfield 109, 3) := by decide +kernel
theorem dX8_mill_74 : decode cX8_mill 74 = .ok (.if_icmp .ge 6, 3) := by decide +kernel
theorem dX8_mill_77 : decode cX8_mill 77 = .ok (.bipush (-5), 2) := by decide +kernel
theorem dX8_mill_79 : decode cX8_mill 79 = .ok (.ireturn, 1) := by decide +kernel
theorem dX8_mill_80 : decode cX8_mill 80 = .ok (.aload_n 0, 1) := by decide +kernel
theorem dX8_mill_81 : decode cX8_mill 81 = .ok (.getfield 11, 3) := by decide +kernel
theorem dX8_mill_84 : decode cX8_mill 84 = .ok (.iload_n 1, 1) := by decide +kernel
theorem dX8_mill_85 : decode cX8_mill 85 = .ok (.aaload, 1) := by decide +kernel
theorem dX8_mill_86 : decode cX8_mill 86 = .ok (.iload_n 2, 1) := by decide +kernel
theorem dX8_mill_87 : decode cX8_mill 87 = .ok (.invokevirtual 112, 3) := by decide +kernel
theorem dX8_mill_90 : decode cX8_mill 90 = .ok (.iconst 0, 1) := by decide +kernel
theorem dX8_mill_91 : decode cX8_mill 91 = .ok (.ireturn, 1) := by decide +kernel
theorem dX8_ridge_0 : decode cX8_ridge 0 = .ok (.iload_n 1, 1) := by decide +kernel
theorem dX8_ridge_1 : decode cX8_ridge 1 = .ok (.invokestatic 86, 3) := by decide +kernel
theorem dX8_ridge_4 : decode cX8_ridge 4 = .ok (.ifCond .eq 16, 3) := by decide +kernel
theorem dX8_ridge_7 : decode cX8_ridge 7 = .ok (.aload_n 0, 1) := by decide +kernel
theorem dX8_ridge_8 : decode cX8_ridge 8 = .ok (.getfield 11, 3) := by decide +kernel
theorem dX8_ridge_11 : decode cX8_ridge 11 = .ok (.iload_n 1, 1) := by decide +kernel
theorem dX8_ridge_12 : decode cX8_ridge 12 = .ok (.aaload, 1) := by decide +kernel
theorem dX8_ridge_13 : decode cX8_ridge 13 = .ok (.getfield 116, 3) := by decide +kernel
theorem dX8_ridge_16 : decode cX8_ridge 16 = .ok (.iconst 1, 1) := by decide +kernel
theorem dX8_ridge_17 : decode cX8_ridge 17 = .ok (.if_icmp .eq 5, 3) := by decide +kernel
theorem dX8_ridge_20 : decode cX8_ridge 20 = .ok (.iconst 0, 1) := by decide +kernel
theorem dX8_ridge_21 : decode cX8_ridge 21 = .ok (.ireturn, 1) := by decide +kernel
theorem dX8_ridge_22 : decode cX8_ridge 22 = .ok (.aload_n 0, 1) := by decide +kernel
theorem dX8_ridge_23 : decode cX8_ridge 23 = .ok (.getfield 11, 3) := by decide +kernel
theorem dX8_ridge_26 : decode cX8_ridge 26 = .ok (.iload_n 1, 1) := by decide +kernel
theorem dX8_ridge_27 : decode cX8_ridge 27 = .ok (.aaload, 1) := by decide +kernel
theorem dX8_ridge_28 : decode cX8_ridge 28 = .ok (.iconst 2, 1) := by decide +kernel
theorem dX8_ridge_29 : decode cX8_ridge 29 = .ok (.putfield 116, 3) := by decide +kernel
theorem dX8_ridge_32 : decode cX8_ridge 32 = .ok (.iconst 1, 1) := by decide +kernel
theorem dX8_ridge_33 : decode cX8_ridge 33 = .ok (.ireturn, 1) := by decide +kernel
theorem dX8_probe_0 : decode cX8_probe 0 = .ok (.iload_n 1, 1) := by decide +kernel
theorem dX8_probe_1 : decode cX8_probe 1 = .ok (.invokestatic 86, 3) := by decide +kernel
theorem dX8_probe_4 : decode cX8_probe 4 = .ok (.ifCond .eq 26, 3) := by decide +kernel
theorem dX8_probe_7 : decode cX8_probe 7 = .ok (.iload_n 2, 1) := by decide +kernel
theorem dX8_probe_8 : decode cX8_probe 8 = .ok (.iconst 0, 1) := by decide +kernel
theorem dX8_probe_9 : decode cX8_probe 9 = .ok (.sipush 900, 3) := by decide +kernel
theorem dX8_probe_12 : decode cX8_probe 12 = .ok (.invokestatic 90, 3) := by decide +kernel
theorem dX8_probe_15 : decode cX8_probe 15 = .ok (.ifCond .eq 15, 3) := by decide +kernel
theorem dX8_probe_18 : decode cX8_probe 18 = .ok (.aload_n 0, 1) := by decide +kernel
theorem dX8_probe_19 : decode cX8_probe 19 = .ok (.getfield 11, 3) := by decide +kernel
theorem dX8_probe_22 : decode cX8_probe 22 = .ok (.iload_n 1, 1) := by decide +kernel
theorem dX8_probe_23 : decode cX8_probe 23 = .ok (.aaload, 1) := by decide +kernel
theorem dX8_probe_24 : decode cX8_probe 24 = .ok (.invokevirtual 119, 3) := by decide +kernel
theorem dX8_probe_27 : decode cX8_probe 27 = .ok (.ifCond .ne 5, 3) := by decide +kernel
theorem dX8_probe_30 : decode cX8_probe 30 = .ok (.iconst (-1), 1) := by decide +kernel
theorem dX8_probe_31 : decode cX8_probe 31 = .ok (.ireturn, 1) := by decide +kernel
theorem dX8_probe_32 : decode cX8_probe 32 = .ok (.aload_n 0, 1) := by decide +kernel
theorem dX8_probe_33 : decode cX8_probe 33 = .ok (.getfield 11, 3) := by decide +kernel
theorem dX8_probe_36 : decode cX8_probe 36 = .ok (.iload_n 1, 1) := by decide +kernel
theorem dX8_probe_37 : decode cX8_probe 37 = .ok (.aaload, 1) := by decide +kernel
theorem dX8_probe_38 : decode cX8_probe 38 = .ok (.iload_n 2, 1) := by decide +kernel
theorem dX8_probe_39 : decode cX8_probe 39 = .ok (.invokevirtual 122, 3) := by decide +kernel
theorem dX8_probe_42 : decode cX8_probe 42 = .ok (.ireturn, 1) := by decide +kernel
theorem dX8_stack_0 : decode cX8_stack 0 = .ok (.aload_n 0, 1) := by decide +kernel
theorem dX8_stack_1 : decode cX8_stack 1 = .ok (.getfield 62, 3) := by decide +kernel
theorem dX8_stack_4 : decode cX8_stack 4 = .ok (.bipush 10, 2) := by decide +kernel
theorem dX8_stack_6 : decode cX8_stack 6 = .ok (.if_icmp .lt 5, 3) := by decide +kernel
theorem dX8_stack_9 : decode cX8_stack 9 = .ok (.iconst (-1), 1) := by decide +kernel
theorem dX8_stack_10 : decode cX8_stack 10 = .ok (.ireturn, 1) := by decide +kernel
theorem dX8_stack_11 : decode cX8_stack 11 = .ok (.aload_n 0, 1) := by decide +kernel
theorem dX8_stack_12 : decode cX8_stack 12 = .ok (.getfield 17, 3) := by decide +kernel
theorem dX8_stack_15 : decode cX8_stack 15 = .ok (.aload_n 0, 1) := by decide +kernel
theorem dX8_stack_16 : decode cX8_stack 16 = .ok (.getfield 62, 3) := by decide +kernel
theorem dX8_stack_19 : decode cX8_stack 19 = .ok (.aaload, 1) := by decide +kernel
theorem dX8_stack_20 : decode cX8_stack 20 = .ok (.aload_n 0, 1) := by decide +kernel
theorem dX8_stack_21 : decode cX8_stack 21 = .ok (.getfield 69, 3) := by decide +kernel
theorem dX8_stack_24 : decode cX8_stack 24 = .ok (.putfield 126, 3) := by decide +kernel
theorem dX8_stack_27 : decode cX8_stack 27 = .ok (.aload_n 0, 1) := by decide +kernel
theorem dX8_stack_28 : decode cX8_stack 28 = .ok (.dup, 1) := by decide +kernel
theorem dX8_stack_29 : decode cX8_stack 29 = .ok (.getfield 62, 3) := by decide +kernel
theorem dX8_stack_32 : decode cX8_stack 32 = .ok (.iconst 1, 1) := by decide +kernel
theorem dX8_stack_33 : decode cX8_stack 33 = .ok (.iadd, 1) := by decide +kernel
theorem dX8_stack_34 : decode cX8_stack 34 = .ok (.putfield 62, 3) := by decide +kernel
theorem dX8_stack_37 : decode cX8_stack 37 = .ok (.aload_n 0, 1) := by decide +kernel
theorem dX8_stack_38 : decode cX8_stack 38 = .ok (.getfield 62, 3) := by decide +kernel
theorem dX8_stack_41 : decode cX8_stack 41 = .ok (.iconst 1, 1) := by decide +kernel
theorem dX8_stack_42 : decode cX8_stack 42 = .ok (.isub, 1) := by decide +kernel
theorem dX8_stack_43 : decode cX8_stack 43 = .ok (.ireturn, 1) := by decide +kernel
theorem dX8_bars_0 : decode cX8_bars 0 = .ok (.iload_n 1, 1) := by decide +kernel
theorem dX8_bars_1 : decode cX8_bars 1 = .ok (.invokestatic 86, 3) := by decide +kernel
theorem dX8_bars_4 : decode cX8_bars 4 = .ok (.ifCond .eq 15, 3) := by decide +kernel
theorem dX8_bars_7 : decode cX8_bars 7 = .ok (.aload_n 0, 1) := by decide +kernel
theorem dX8_bars_8 : decode cX8_bars 8 = .ok (.getfield 11, 3) := by decide +kernel
theorem dX8_bars_11 : decode cX8_bars 11 = .ok (.iload_n 1, 1) := by decide +kernel
theorem dX8_bars_12 : decode cX8_bars 12 = .ok (.aaload, 1) := by decide +kernel
theorem dX8_bars_13 : decode cX8_bars 13 = .ok (.invokevirtual 94, 3) := by decide +kernel
theorem dX8_bars_16 : decode cX8_bars 16 = .ok (.ifCond .ne 5, 3) := by decide +kernel
theorem dX8_bars_19 : decode cX8_bars 19 = .ok (.iconst 1, 1) := by decide +kernel
theorem dX8_bars_20 : decode cX8_bars 20 = .ok (.ireturn, 1) := by decide +kernel
theorem dX8_bars_21 : decode cX8_bars 21 = .ok (.aload_n 0, 1) := by decide +kernel
theorem dX8_bars_22 : decode cX8_bars 22 = .ok (.aload_n 0, 1) := by decide +kernel
theorem dX8_bars_23 : decode cX8_bars 23 = .ok (.getfield 69, 3) := by decide +kernel
theorem dX8_bars_26 : decode cX8_bars 26 = .ok (.invokevirtual 101, 3) := by decide +kernel
theorem dX8_bars_29 : decode cX8_bars 29 = .ok (.astore_n 2, 1) := by decide +kernel
theorem dX8_bars_30 : decode cX8_bars 30 = .ok (.aload_n 2, 1) := by decide +kernel
theorem dX8_bars_31 : decode cX8_bars 31 = .ok (.iload_n 1, 1) := by decide +kernel
theorem dX8_bars_32 : decode cX8_bars 32 = .ok (.aload_n 0, 1) := by decide +kernel
theorem dX8_bars_33 : decode cX8_bars 33 = .ok (.getfield 69, 3) := by decide +kernel
theorem dX8_bars_36 : decode cX8_bars 36 = .ok (.invokevirtual 105, 3) := by decide +kernel
theorem dX8_bars_39 : decode cX8_bars 39 = .ok (.ifCond .eq 5, 3) := by decide +kernel
theorem dX8_bars_42 : decode cX8_bars 42 = .ok (.iconst 2, 1) := by decide +kernel
theorem dX8_bars_43 : decode cX8_bars 43 = .ok (.ireturn, 1) := by decide +kernel
theorem dX8_bars_44 : decode cX8_bars 44 = .ok (.iload_n 1, 1) := by decide +kernel
theorem dX8_bars_45 : decode cX8_bars 45 = .ok (.aload_n 0, 1) := by decide +kernel
theorem dX8_bars_46 : decode cX8_bars 46 = .ok (.getfield 72, 3) := by decide +kernel
theorem dX8_bars_49 : decode cX8_bars 49 = .ok (.isub, 1) := by decide +kernel
theorem dX8_bars_50 : decode cX8_bars 50 = .ok (.invokestatic 129, 3) := by decide +kernel
theorem dX8_bars_53 : decode cX8_bars 53 = .ok (.iconst 1, 1) := by decide +kernel
theorem dX8_bars_54 : decode cX8_bars 54 = .ok (.if_icmp .le 5, 3) := by decide +kernel
theorem dX8_bars_57 : decode cX8_bars 57 = .ok (.iconst 3, 1) := by decide +kernel
theorem dX8_bars_58 : decode cX8_bars 58 = .ok (.ireturn, 1) := by decide +kernel
theorem dX8_bars_59 : decode cX8_bars 59 = .ok (.aload_n 0, 1) := by decide +kernel
theorem dX8_bars_60 : decode cX8_bars 60 = .ok (.getfield 11, 3) := by decide +kernel
theorem dX8_bars_63 : decode cX8_bars 63 = .ok (.iload_n 1, 1) := by decide +kernel
theorem dX8_bars_64 : decode cX8_bars 64 = .ok (.aaload, 1) := by decide +kernel
theorem dX8_bars_65 : decode cX8_bars 65 = .ok (.getfield 134, 3) := by decide +kernel
theorem dX8_bars_68 : decode cX8_bars 68 = .ok (.iconst 3, 1) := by decide +kernel
theorem dX8_bars_69 : decode cX8_bars 69 = .ok (.if_icmp .ge 5, 3) := by decide +kernel
theorem dX8_bars_72 : decode cX8_bars 72 = .ok (.iconst 4, 1) := by decide +kernel
theorem dX8_bars_73 : decode cX8_bars 73 = .ok (.ireturn, 1) := by decide +kernel
theorem dX8_bars_74 : decode cX8_bars 74 = .ok (.aload_n 0, 1) := by decide +kernel
theorem dX8_bars_75 : decode cX8_bars 75 = .ok (.getfield 11, 3) := by decide +kernel
theorem dX8_bars_78 : decode cX8_bars 78 = .ok (.iload_n 1, 1) := by decide +kernel
theorem dX8_bars_79 : decode cX8_bars 79 = .ok (.aaload, 1) := by decide +kernel
theorem dX8_bars_80 : decode cX8_bars 80 = .ok (.getfield 137, 3) := by decide +kernel
theorem dX8_bars_83 : decode cX8_bars 83 = .ok (.aload_n 2, 1) := by decide +kernel
theorem dX8_bars_84 : decode cX8_bars 84 = .ok (.getfield 140, 3) := by decide +kernel
theorem dX8_bars_87 : decode cX8_bars 87 = .ok (.if_icmp .le 7, 3) := by decide +kernel
theorem dX8_bars_90 : decode cX8_bars 90 = .ok (.iconst 5, 1) := by decide +kernel
theorem dX8_bars_91 : decode cX8_bars 91 = .ok (.goto 4, 3) := by decide +kernel
theorem dX8_bars_94 : decode cX8_bars 94 = .ok (.iconst 0, 1) := by decide +kernel
theorem dX8_bars_95 : decode cX8_bars 95 = .ok (.ireturn, 1) := by decide +kernel
theorem dX8_gather_0 : decode cX8_gather 0 = .ok (.iload_n 1, 1) := by decide +kernel
theorem dX8_gather_1 : decode cX8_gather 1 = .ok (.invokestatic 86, 3) := by decide +kernel
theorem dX8_gather_4 : decode cX8_gather 4 = .ok (.ifCond .eq 31, 3) := by decide +kernel
theorem dX8_gather_7 : decode cX8_gather 7 = .ok (.aload_n 0, 1) := by decide +kernel
theorem dX8_gather_8 : decode cX8_gather 8 = .ok (.iload_n 1, 1) := by decide +kernel
theorem dX8_gather_9 : decode cX8_gather 9 = .ok (.invokevirtual 143, 3) := by decide +kernel
theorem dX8_gather_12 : decode cX8_gather 12 = .ok (.ifCond .ne 23, 3) := by decide +kernel
theorem dX8_gather_15 : decode cX8_gather 15 = .ok (.aload_n 0, 1) := by decide +kernel
theorem dX8_gather_16 : decode cX8_gather 16 = .ok (.iload_n 2, 1) := by decide +kernel
theorem dX8_gather_17 : decode cX8_gather 17 = .ok (.invokevirtual 146, 3) := by decide +kernel
theorem dX8_gather_20 : decode cX8_gather 20 = .ok (.ifCond .eq 15, 3) := by decide +kernel
theorem dX8_gather_23 : decode cX8_gather 23 = .ok (.aload_n 0, 1) := by decide +kernel
theorem dX8_gather_24 : decode cX8_gather 24 = .ok (.getfield 17, 3) := by decide +kernel
theorem dX8_gather_27 : decode cX8_gather 27 = .ok (.iload_n 2, 1) := by decide +kernel
theorem dX8_gather_28 : decode cX8_gather 28 = .ok (.aaload, 1) := by decide +kernel
theorem dX8_gather_29 : decode cX8_gather 29 = .ok (.invokevirtual 149, 3) := by decide +kernel
theorem dX8_gather_32 : decode cX8_gather 32 = .ok (.ifCond .ne 5, 3) := by decide +kernel
theorem dX8_gather_35 : decode cX8_gather 35 = .ok (.iconst (-1), 1) := by decide +kernel
theorem dX8_gather_36 : decode cX8_gather 36 = .ok (.ireturn, 1) := by decide +kernel
theorem dX8_gather_37 : decode cX8_gather 37 = .ok (.aload_n 0, 1) := by decide +kernel
theorem dX8_gather_38 : decode cX8_gather 38 = .ok (.getfield 11, 3) := by decide +kernel
theorem dX8_gather_41 : decode cX8_gather 41 = .ok (.iload_n 1, 1) := by decide +kernel
theorem dX8_gather_42 : decode cX8_gather 42 = .ok (.aaload, 1) := by decide +kernel
theorem dX8_gather_43 : decode cX8_gather 43 = .ok (.getfield 152, 3) := by decide +kernel
theorem dX8_gather_46 : decode cX8_gather 46 = .ok (.istore_n 3, 1) := by decide +kernel
theorem dX8_gather_47 : decode cX8_gather 47 = .ok (.aload_n 0, 1) := by decide +kernel
theorem dX8_gather_48 : decode cX8_gather 48 = .ok (.getfield 17, 3) := by decide +kernel
theorem dX8_gather_51 : decode cX8_gather 51 = .ok (.iload_n 2, 1) := by decide +kernel
theorem dX8_gather_52 : decode cX8_gather 52 = .ok (.aaload, 1) := by decide +kernel
theorem dX8_gather_53 : decode cX8_gather 53 = .ok (.iload_n 3, 1) := by decide +kernel
theorem dX8_gather_54 : decode cX8_gather 54 = .ok (.aload_n 0, 1) := by decide +kernel
theorem dX8_gather_55 : decode cX8_gather 55 = .ok (.getfield 11, 3) := by decide +kernel
theorem dX8_gather_58 : decode cX8_gather 58 = .ok (.iload_n 1, 1) := by decide +kernel
theorem dX8_gather_59 : decode cX8_gather 59 = .ok (.aaload, 1) := by decide +kernel
theorem dX8_gather_60 : decode cX8_gather 60 = .ok (.getfield 155, 3) := by decide +kernel
theorem dX8_gather_63 : decode cX8_gather 63 = .ok (.invokevirtual 158, 3) := by decide +kernel
theorem dX8_gather_66 : decode cX8_gather 66 = .ok (.aload_n 0, 1) := by decide +kernel
theorem dX8_gather_67 : decode cX8_gather 67 = .ok (.getfield 11, 3) := by decide +kernel
theorem dX8_gather_70 : decode cX8_gather 70 = .ok (.iload_n 1, 1) := by decide +kernel
theorem dX8_gather_71 : decode cX8_gather 71 = .ok (.aaload, 1) := by decide +kernel
theorem dX8_gather_72 : decode cX8_gather 72 = .ok (.invokevirtual 162, 3) := by decide +kernel
theorem dX8_gather_75 : decode cX8_gather 75 = .ok (.iload_n 3, 1) := by decide +kernel
theorem dX8_gather_76 : decode cX8_gather 76 = .ok (.ireturn, 1) := by decide +kernel
theorem dX8_track_0 : decode cX8_track 0 = .ok (.iload_n 1, 1) := by decide +kernel
theorem dX8_track_1 : decode cX8_track 1 = .ok (.invokestatic 86, 3) := by decide +kernel
theorem dX8_track_4 : decode cX8_track 4 = .ok (.ifCond .ne 5, 3) := by decide +kernel
theorem dX8_track_7 : decode cX8_track 7 = .ok (.iconst (-1), 1) := by decide +kernel
theorem dX8_track_8 : decode cX8_track 8 = .ok (.ireturn, 1) := by decide +kernel
theorem dX8_track_9 : decode cX8_track 9 = .ok (.iload_n 1, 1) := by decide +kernel
theorem dX8_track_10 : decode cX8_track 10 = .ok (.aload_n 0, 1) := by decide +kernel
theorem dX8_track_11 : decode cX8_track 11 = .ok (.getfield 72, 3) := by decide +kernel
theorem dX8_track_14 : decode cX8_track 14 = .ok (.isub, 1) := by decide +kernel
theorem dX8_track_15 : decode cX8_track 15 = .ok (.invokestatic 129, 3) := by decide +kernel
theorem dX8_track_18 : decode cX8_track 18 = .ok (.istore_n 2, 1) := by decide +kernel
theorem dX8_track_19 : decode cX8_track 19 = .ok (.aload_n 0, 1) := by decide +kernel
theorem dX8_track_20 : decode cX8_track 20 = .ok (.iload_n 1, 1) := by decide +kernel
theorem dX8_track_21 : decode cX8_track 21 = .ok (.putfield 72, 3) := by decide +kernel
theorem dX8_track_24 : decode cX8_track 24 = .ok (.aload_n 0, 1) := by decide +kernel
theorem dX8_track_25 : decode cX8_track 25 = .ok (.dup, 1) := by decide +kernel
theorem dX8_track_26 : decode cX8_track 26 = .ok (.getfield 75, 3) := by decide +kernel
theorem dX8_track_29 : decode cX8_track 29 = .ok (.iload_n 2, 1) := by decide +kernel
theorem dX8_track_30 : decode cX8_track 30 = .ok (.iadd, 1) := by decide +kernel
theorem dX8_track_31 : decode cX8_track 31 = .ok (.putfield 75, 3) := by decide +kernel
theorem dX8_track_34 : decode cX8_track 34 = .ok (.iload_n 2, 1) := by decide +kernel
theorem dX8_track_35 : decode cX8_track 35 = .ok (.ireturn, 1) := by decide +kernel
theorem dX8_want_0 : decode cX8_want 0 = .ok (.iload_n 1, 1) := by decide +kernel
theorem dX8_want_1 : decode cX8_want 1 = .ok (.iconst 0, 1) := by decide +kernel
theorem dX8_want_2 : decode cX8_want 2 = .ok (.sipush 1000, 3) := by decide +kernel
theorem dX8_want_5 : decode cX8_want 5 = .ok (.invokestatic 90, 3) := by decide +kernel
theorem dX8_want_8 : decode cX8_want 8 = .ok (.ifCond .ne 5, 3) := by decide +kernel
theorem dX8_want_11 : decode cX8_want 11 = .ok (.iconst 0, 1) := by decide +kernel
theorem dX8_want_12 : decode cX8_want 12 = .ok (.ireturn, 1) := by decide +kernel
theorem dX8_want_13 : decode cX8_want 13 = .ok (.aload_n 0, 1) := by decide +kernel
theorem dX8_want_14 : decode cX8_want 14 = .ok (.getfield 35, 3) := by decide +kernel
theorem dX8_want_17 : decode cX8_want 17 = .ok (.iload_n 1, 1) := by decide +kernel
theorem dX8_want_18 : decode cX8_want 18 = .ok (.putfield 165, 3) := by decide +kernel
theorem dX8_want_21 : decode cX8_want 21 = .ok (.iconst 1, 1) := by decide +kernel
theorem dX8_want_22 : decode cX8_want 22 = .ok (.ireturn, 1) := by decide +kernel
theorem dX8_read_0 : decode cX8_read 0 = .ok (.aload_n 0, 1) := by decide +kernel
theorem dX8_read_1 : decode cX8_read 1 = .ok (.iload_n 1, 1) := by decide +kernel
theorem dX8_read_2 : decode cX8_read 2 = .ok (.invokevirtual 146, 3) := by decide +kernel
theorem dX8_read_5 : decode cX8_read 5 = .ok (.ifCond .eq 13, 3) := by decide +kernel
theorem dX8_read_8 : decode cX8_read 8 = .ok (.iload_n 2, 1) := by decide +kernel
theorem dX8_read_9 : decode cX8_read 9 = .ok (.iconst 0, 1) := by decide +kernel
theorem dX8_read_10 : decode cX8_read 10 = .ok (.bipush 100, 2) := by decide +kernel
theorem dX8_read_12 : decode cX8_read 12 = .ok (.invokestatic 90, 3) := by decide +kernel
theorem dX8_read_15 : decode cX8_read 15 = .ok (.ifCond .ne 5, 3) := by decide +kernel
theorem dX8_read_18 : decode cX8_read 18 = .ok (.iconst 0, 1) := by decide +kernel
theorem dX8_read_19 : decode cX8_read 19 = .ok (.ireturn, 1) := by decide +kernel
theorem dX8_read_20 : decode cX8_read 20 = .ok (.aload_n 0, 1) := by decide +kernel
theorem dX8_read_21 : decode cX8_read 21 = .ok (.getfield 17, 3) := by decide +kernel
theorem dX8_read_24 : decode cX8_read 24 = .ok (.iload_n 1, 1) := by decide +kernel
theorem dX8_read_25 : decode cX8_read 25 = .ok (.aaload, 1) := by decide +kernel
theorem dX8_read_26 : decode cX8_read 26 = .ok (.iload_n 2, 1) := by decide +kernel
theorem dX8_read_27 : decode cX8_read 27 = .ok (.putfield 168, 3) := by decide +kernel
theorem dX8_read_30 : decode cX8_read 30 = .ok (.iconst 1, 1) := by decide +kernel
theorem dX8_read_31 : decode cX8_read 31 = .ok (.ireturn, 1) := by decide +kernel
theorem dX8_day_0 : decode cX8_day 0 = .ok (.iload_n 1, 1) := by decide +kernel
theorem dX8_day_1 : decode cX8_day 1 = .ok (.iconst 0, 1) := by decide +kernel
theorem dX8_day_2 : decode cX8_day 2 = .ok (.bipush 10, 2) := by decide +kernel
theorem dX8_day_4 : decode cX8_day 4 = .ok (.invokestatic 90, 3) := by decide +kernel
theorem dX8_day_7 : decode cX8_day 7 = .ok (.ifCond .eq 33, 3) := by decide +kernel
theorem dX8_day_10 : decode cX8_day 10 = .ok (.iload_n 2, 1) := by decide +kernel
theorem dX8_day_11 : decode cX8_day 11 = .ok (.iconst 0, 1) := by decide +kernel
theorem dX8_day_12 : decode cX8_day 12 = .ok (.bipush 10, 2) := by decide +kernel
theorem dX8_day_14 : decode cX8_day 14 = .ok (.invokestatic 90, 3) := by decide +kernel
theorem dX8_day_17 : decode cX8_day 17 = .ok (.ifCond .eq 23, 3) := by decide +kernel
theorem dX8_day_20 : decode cX8_day 20 = .ok (.iload_n 3, 1) := by decide +kernel
theorem dX8_day_21 : decode cX8_day 21 = .ok (.iconst 0, 1) := by decide +kernel
theorem dX8_day_22 : decode cX8_day 22 = .ok (.bipush 50, 2) := by decide +kernel
theorem dX8_day_24 : decode cX8_day 24 = .ok (.invokestatic 90, 3) := by decide +kernel
theorem dX8_day_27 : decode cX8_day 27 = .ok (.ifCond .eq 13, 3) := by decide +kernel
theorem dX8_day_30 : decode cX8_day 30 = .ok (.aload_n 0, 1) := by decide +kernel
theorem dX8_day_31 : decode cX8_day 31 = .ok (.getfield 69, 3) := by decide +kernel
theorem dX8_day_34 : decode cX8_day 34 = .ok (.sipush 1000, 3) := by decide +kernel
theorem dX8_day_37 : decode cX8_day 37 = .ok (.if_icmp .lt 5, 3) := by decide +kernel
theorem dX8_day_40 : decode cX8_day 40 = .ok (.iconst (-1), 1) := by decide +kernel
theorem dX8_day_41 : decode cX8_day 41 = .ok (.ireturn, 1) := by decide +kernel
theorem dX8_day_42 : decode cX8_day 42 = .ok (.iconst 0, 1) := by decide +kernel
theorem dX8_day_43 : decode cX8_day 43 = .ok (.istore 4, 2) := by decide +kernel
theorem dX8_day_45 : decode cX8_day 45 = .ok (.iload 4, 2) := by decide +kernel
theorem dX8_day_47 : decode cX8_day 47 = .ok (.bipush 16, 2) := by decide +kernel
theorem dX8_day_49 : decode cX8_day 49 = .ok (.if_icmp .ge 22, 3) := by decide +kernel
theorem dX8_day_52 : decode cX8_day 52 = .ok (.aload_n 0, 1) := by decide +kernel
theorem dX8_day_53 : decode cX8_day 53 = .ok (.getfield 11, 3) := by decide +kernel
theorem dX8_day_56 : decode cX8_day 56 = .ok (.iload 4, 2) := by decide +kernel
theorem dX8_day_58 : decode cX8_day 58 = .ok (.aaload, 1) := by decide +kernel
theorem dX8_day_59 : decode cX8_day 59 = .ok (.iload_n 1, 1) := by decide +kernel
theorem dX8_day_60 : decode cX8_day 60 = .ok (.iload_n 2, 1) := by decide +kernel
theorem dX8_day_61 : decode cX8_day 61 = .ok (.iload_n 3, 1) := by decide +kernel
theorem dX8_day_62 : decode cX8_day 62 = .ok (.invokevirtual 171, 3) := by decide +kernel
theorem dX8_day_65 : decode cX8_day 65 = .ok (.iinc 4 1, 3) := by decide +kernel
theorem dX8_day_68 : decode cX8_day 68 = .ok (.goto (-23), 3) := by decide +kernel
theorem dX8_day_71 : decode cX8_day 71 = .ok (.iconst 0, 1) := by decide +kernel
theorem dX8_day_72 : decode cX8_day 72 = .ok (.istore 4, 2) := by decide +kernel
theorem dX8_day_74 : decode cX8_day 74 = .ok (.iload 4, 2) := by decide +kernel
theorem dX8_day_76 : decode cX8_day 76 = .ok (.aload_n 0, 1) := by decide +kernel
theorem dX8_day_77 : decode cX8_day 77 = .ok (.getfield 62, 3) := by decide +kernel
theorem dX8_day_80 : decode cX8_day 80 = .ok (.if_icmp .ge 33, 3) := by decide +kernel
theorem dX8_day_83 : decode cX8_day 83 = .ok (.aload_n 0, 1) := by decide +kernel
theorem dX8_day_84 : decode cX8_day 84 = .ok (.dup, 1) := by decide +kernel
theorem dX8_day_85 : decode cX8_day 85 = .ok (.getfield 78, 3) := by decide +kernel
theorem dX8_day_88 : decode cX8_day 88 = .ok (.aload_n 0, 1) := by decide +kernel
theorem dX8_day_89 : decode cX8_day 89 = .ok (.getfield 17, 3) := by decide +kernel
theorem dX8_day_92 : decode cX8_day 92 = .ok (.iload 4, 2) := by decide +kernel
theorem dX8_day_94 : decode cX8_day 94 = .ok (.aaload, 1) := by decide +kernel
theorem dX8_day_95 : decode cX8_day 95 = .ok (.iload_n 3, 1) := by decide +kernel
theorem dX8_day_96 : decode cX8_day 96 = .ok (.aload_n 0, 1) := by decide +kernel
theorem dX8_day_97 : decode cX8_day 97 = .ok (.getfield 69, 3) := by decide +kernel
theorem dX8_day_100 : decode cX8_day 100 = .ok (.invokevirtual 175, 3) := by decide +kernel
theorem dX8_day_103 : decode cX8_day 103 = .ok (.iadd, 1) := by decide +kernel
theorem dX8_day_104 : decode cX8_day 104 = .ok (.putfield 78, 3) := by decide +kernel
theorem dX8_day_107 : decode cX8_day 107 = .ok (.iinc 4 1, 3) := by decide +kernel
theorem dX8_day_110 : decode cX8_day 110 = .ok (.goto (-36), 3) := by decide +kernel
theorem dX8_day_113 : decode cX8_day 113 = .ok (.aload_n 0, 1) := by decide +kernel
theorem dX8_day_114 : decode cX8_day 114 = .ok (.getfield 35, 3) := by decide +kernel
theorem dX8_day_117 : decode cX8_day 117 = .ok (.aload_n 0, 1) := by decide +kernel
theorem dX8_day_118 : decode cX8_day 118 = .ok (.getfield 17, 3) := by decide +kernel
theorem dX8_day_121 : decode cX8_day 121 = .ok (.aload_n 0, 1) := by decide +kernel
theorem dX8_day_122 : decode cX8_day 122 = .ok (.getfield 62, 3) := by decide +kernel
theorem dX8_day_125 : decode cX8_day 125 = .ok (.invokevirtual 179, 3) := by decide +kernel
theorem dX8_day_128 : decode cX8_day 128 = .ok (.aload_n 0, 1) := by decide +kernel
theorem dX8_day_129 : decode cX8_day 129 = .ok (.dup, 1) := by decide +kernel
theorem dX8_day_130 : decode cX8_day 130 = .ok (.getfield 69, 3) := by decide +kernel
theorem dX8_day_133 : decode cX8_day 133 = .ok (.iconst 1, 1) := by decide +kernel
theorem dX8_day_134 : decode cX8_day 134 = .ok (.iadd, 1) := by decide +kernel
theorem dX8_day_135 : decode cX8_day 135 = .ok (.putfield 69, 3) := by decide +kernel
theorem dX8_day_138 : decode cX8_day 138 = .ok (.aload_n 0, 1) := by decide +kernel
theorem dX8_day_139 : decode cX8_day 139 = .ok (.getfield 69, 3) := by decide +kernel
theorem dX8_day_142 : decode cX8_day 142 = .ok (.bipush 7, 2) := by decide +kernel
theorem dX8_day_144 : decode cX8_day 144 = .ok (.irem, 1) := by decide +kernel
theorem dX8_day_145 : decode cX8_day 145 = .ok (.ifCond .ne 15, 3) := by decide +kernel
theorem dX8_day_148 : decode cX8_day 148 = .ok (.aload_n 0, 1) := by decide +kernel
theorem dX8_day_149 : decode cX8_day 149 = .ok (.aload_n 0, 1) := by decide +kernel
theorem dX8_day_150 : decode cX8_day 150 = .ok (.aload_n 0, 1) := by decide +kernel
theorem dX8_day_151 : decode cX8_day 151 = .ok (.getfield 69, 3) := by decide +kernel
theorem dX8_day_154 : decode cX8_day 154 = .ok (.invokevirtual 101, 3) := by decide +kernel
theorem dX8_day_157 : decode cX8_day 157 = .ok (.invokevirtual 183, 3) := by decide +kernel
theorem dX8_day_160 : decode cX8_day 160 = .ok (.aload_n 0, 1) := by decide +kernel
theorem dX8_day_161 : decode cX8_day 161 = .ok (.getfield 69, 3) := by decide +kernel
theorem dX8_day_164 : decode cX8_day 164 = .ok (.ireturn, 1) := by decide +kernel
theorem dX8_feed_0 : decode cX8_feed 0 = .ok (.aload_n 0, 1) := by decide +kernel
theorem dX8_feed_1 : decode cX8_feed 1 = .ok (.getfield 42, 3) := by decide +kernel
theorem dX8_feed_4 : decode cX8_feed 4 = .ok (.bipush 20, 2) := by decide +kernel
theorem dX8_feed_6 : decode cX8_feed 6 = .ok (.invokevirtual 187, 3) := by decide +kernel
theorem dX8_feed_9 : decode cX8_feed 9 = .ok (.ifCond .ne 5, 3) := by decide +kernel
theorem dX8_feed_12 : decode cX8_feed 12 = .ok (.iconst (-1), 1) := by decide +kernel
theorem dX8_feed_13 : decode cX8_feed 13 = .ok (.ireturn, 1) := by decide +kernel
theorem dX8_feed_14 : decode cX8_feed 14 = .ok (.aload_n 0, 1) := by decide +kernel
theorem dX8_feed_15 : decode cX8_feed 15 = .ok (.getfield 42, 3) := by decide +kernel
theorem dX8_feed_18 : decode cX8_feed 18 = .ok (.iload_n 1, 1) := by decide +kernel
theorem dX8_feed_19 : decode cX8_feed 19 = .ok (.invokevirtual 190, 3) := by decide +kernel
theorem dX8_feed_22 : decode cX8_feed 22 = .ok (.aload_n 0, 1) := by decide +kernel
theorem dX8_feed_23 : decode cX8_feed 23 = .ok (.getfield 42, 3) := by decide +kernel
theorem dX8_feed_26 : decode cX8_feed 26 = .ok (.iload_n 2, 1) := by decide +kernel
theorem dX8_feed_27 : decode cX8_feed 27 = .ok (.invokevirtual 190, 3) := by decide +kernel
theorem dX8_feed_30 : decode cX8_feed 30 = .ok (.aload_n 0, 1) := by decide +kernel
theorem dX8_feed_31 : decode cX8_feed 31 = .ok (.getfield 42, 3) := by decide +kernel
theorem dX8_feed_34 : decode cX8_feed 34 = .ok (.iload_n 3, 1) := by decide +kernel
theorem dX8_feed_35 : decode cX8_feed 35 = .ok (.invokevirtual 190, 3) := by decide +kernel
theorem dX8_feed_38 : decode cX8_feed 38 = .ok (.aload_n 0, 1) := by decide +kernel
theorem dX8_feed_39 : decode cX8_feed 39 = .ok (.getfield 42, 3) := by decide +kernel
theorem dX8_feed_42 : decode cX8_feed 42 = .ok (.iload 4, 2) := by decide +kernel
theorem dX8_feed_44 : decode cX8_feed 44 = .ok (.invokevirtual 190, 3) := by decide +kernel
theorem dX8_feed_47 : decode cX8_feed 47 = .ok (.aload_n 0, 1) := by decide +kernel
theorem dX8_feed_48 : decode cX8_feed 48 = .ok (.getfield 42, 3) := by decide +kernel
theorem dX8_feed_51 : decode cX8_feed 51 = .ok (.iload 5, 2) := by decide +kernel
theorem dX8_feed_53 : decode cX8_feed 53 = .ok (.invokevirtual 190, 3) := by decide +kernel
theorem dX8_feed_56 : decode cX8_feed 56 = .ok (.aload_n 0, 1) := by decide +kernel
theorem dX8_feed_57 : decode cX8_feed 57 = .ok (.getfield 42, 3) := by decide +kernel
theorem dX8_feed_60 : decode cX8_feed 60 = .ok (.getfield 192, 3) := by decide +kernel
theorem dX8_feed_63 : decode cX8_feed 63 = .ok (.ireturn, 1) := by decide +kernel
theorem dX8_law_0 : decode cX8_law 0 = .ok (.iload_n 1, 1) := by decide +kernel
theorem dX8_law_1 : decode cX8_law 1 = .ok (.iconst 0, 1) := by decide +kernel
theorem dX8_law_2 : decode cX8_law 2 = .ok (.aload_n 0, 1) := by decide +kernel
theorem dX8_law_3 : decode cX8_law 3 = .ok (.getfield 42, 3) := by decide +kernel
theorem dX8_law_6 : decode cX8_law 6 = .ok (.getfield 192, 3) := by decide +kernel
theorem dX8_law_9 : decode cX8_law 9 = .ok (.invokestatic 90, 3) := by decide +kernel
theorem dX8_law_12 : decode cX8_law 12 = .ok (.ifCond .ne 6, 3) := by decide +kernel
theorem dX8_law_15 : decode cX8_law 15 = .ok (.bipush (-2), 2) := by decide +kernel
theorem dX8_law_17 : decode cX8_law 17 = .ok (.ireturn, 1) := by decide +kernel
theorem dX8_law_18 : decode cX8_law 18 = .ok (.aload_n 0, 1) := by decide +kernel
theorem dX8_law_19 : decode cX8_law 19 = .ok (.getfield 66, 3) := by decide +kernel
theorem dX8_law_22 : decode cX8_law 22 = .ok (.bipush 8, 2) := by decide +kernel
theorem dX8_law_24 : decode cX8_law 24 = .ok (.if_icmp .lt 6, 3) := by decide +kernel
theorem dX8_law_27 : decode cX8_law 27 = .ok (.bipush (-3), 2) := by decide +kernel
theorem dX8_law_29 : decode cX8_law 29 = .ok (.ireturn, 1) := by decide +kernel
theorem dX8_law_30 : decode cX8_law 30 = .ok (.aload_n 0, 1) := by decide +kernel
theorem dX8_law_31 : decode cX8_law 31 = .ok (.getfield 23, 3) := by decide +kernel
theorem dX8_law_34 : decode cX8_law 34 = .ok (.aload_n 0, 1) := by decide +kernel
theorem dX8_law_35 : decode cX8_law 35 = .ok (.getfield 66, 3) := by decide +kernel
theorem dX8_law_38 : decode cX8_law 38 = .ok (.aaload, 1) := by decide +kernel
theorem dX8_law_39 : decode cX8_law 39 = .ok (.astore_n 2, 1) := by decide +kernel
theorem dX8_law_40 : decode cX8_law 40 = .ok (.aload_n 2, 1) := by decide +kernel
theorem dX8_law_41 : decode cX8_law 41 = .ok (.aload_n 0, 1) := by decide +kernel
theorem dX8_law_42 : decode cX8_law 42 = .ok (.getfield 66, 3) := by decide +kernel
theorem dX8_law_45 : decode cX8_law 45 = .ok (.aload_n 0, 1) := by decide +kernel
theorem dX8_law_46 : decode cX8_law 46 = .ok (.getfield 69, 3) := by decide +kernel
theorem dX8_law_49 : decode cX8_law 49 = .ok (.invokevirtual 195, 3) := by decide +kernel
theorem dX8_law_52 : decode cX8_law 52 = .ok (.aload_n 0, 1) := by decide +kernel
theorem dX8_law_53 : decode cX8_law 53 = .ok (.aload_n 0, 1) := by decide +kernel
theorem dX8_law_54 : decode cX8_law 54 = .ok (.getfield 51, 3) := by decide +kernel
theorem dX8_law_57 : decode cX8_law 57 = .ok (.iload_n 1, 1) := by decide +kernel
theorem dX8_law_58 : decode cX8_law 58 = .ok (.aload_n 2, 1) := by decide +kernel
theorem dX8_law_59 : decode cX8_law 59 = .ok (.invokevirtual 198, 3) := by decide +kernel
theorem dX8_law_62 : decode cX8_law 62 = .ok (.putfield 81, 3) := by decide +kernel
theorem dX8_law_65 : decode cX8_law 65 = .ok (.aload_n 0, 1) := by decide +kernel
theorem dX8_law_66 : decode cX8_law 66 = .ok (.getfield 42, 3) := by decide +kernel
theorem dX8_law_69 : decode cX8_law 69 = .ok (.iconst 0, 1) := by decide +kernel
theorem dX8_law_70 : decode cX8_law 70 = .ok (.putfield 192, 3) := by decide +kernel
theorem dX8_law_73 : decode cX8_law 73 = .ok (.aload_n 0, 1) := by decide +kernel
theorem dX8_law_74 : decode cX8_law 74 = .ok (.getfield 81, 3) := by decide +kernel
theorem dX8_law_77 : decode cX8_law 77 = .ok (.iconst (-1), 1) := by decide +kernel
theorem dX8_law_78 : decode cX8_law 78 = .ok (.if_icmp .eq 5, 3) := by decide +kernel
theorem dX8_law_81 : decode cX8_law 81 = .ok (.iconst (-1), 1) := by decide +kernel
theorem dX8_law_82 : decode cX8_law 82 = .ok (.ireturn, 1) := by decide +kernel
theorem dX8_law_83 : decode cX8_law 83 = .ok (.aload_n 0, 1) := by decide +kernel
theorem dX8_law_84 : decode cX8_law 84 = .ok (.dup, 1) := by decide +kernel
theorem dX8_law_85 : decode cX8_law 85 = .ok (.getfield 66, 3) := by decide +kernel
theorem dX8_law_88 : decode cX8_law 88 = .ok (.iconst 1, 1) := by decide +kernel
theorem dX8_law_89 : decode cX8_law 89 = .ok (.iadd, 1) := by decide +kernel
theorem dX8_law_90 : decode cX8_law 90 = .ok (.putfield 66, 3) := by decide +kernel
theorem dX8_law_93 : decode cX8_law 93 = .ok (.aload_n 2, 1) := by decide +kernel
theorem dX8_law_94 : decode cX8_law 94 = .ok (.getfield 202, 3) := by decide +kernel
theorem dX8_law_97 : decode cX8_law 97 = .ok (.ireturn, 1) := by decide +kernel
theorem dX8_fault_0 : decode cX8_fault 0 = .ok (.aload_n 0, 1) := by decide +kernel
theorem dX8_fault_1 : decode cX8_fault 1 = .ok (.getfield 81, 3) := by decide +kernel
theorem dX8_fault_4 : decode cX8_fault 4 = .ok (.ireturn, 1) := by decide +kernel
theorem dX8_tells_0 : decode cX8_tells 0 = .ok (.iload_n 1, 1) := by decide +kernel
theorem dX8_tells_1 : decode cX8_tells 1 = .ok (.iconst 0, 1) := by decide +kernel
theorem dX8_tells_2 : decode cX8_tells 2 = .ok (.sipush 1000, 3) := by decide +kernel
theorem dX8_tells_5 : decode cX8_tells 5 = .ok (.invokestatic 90, 3) := by decide +kernel
theorem dX8_tells_8 : decode cX8_tells 8 = .ok (.ifCond .ne 5, 3) := by decide +kernel
theorem dX8_tells_11 : decode cX8_tells 11 = .ok (.iconst (-1), 1) := by decide +kernel
theorem dX8_tells_12 : decode cX8_tells 12 = .ok (.ireturn, 1) := by decide +kernel
theorem dX8_tells_13 : decode cX8_tells 13 = .ok (.aload_n 0, 1) := by decide +kernel
theorem dX8_tells_14 : decode cX8_tells 14 = .ok (.iload_n 1, 1) := by decide +kernel
theorem dX8_tells_15 : decode cX8_tells 15 = .ok (.invokevirtual 101, 3) := by decide +kernel
theorem dX8_tells_18 : decode cX8_tells 18 = .ok (.astore_n 3, 1) := by decide +kernel
theorem dX8_tells_19 : decode cX8_tells 19 = .ok (.iload_n 2, 1) := by decide +kernel
theorem dX8_tells_20 : decode cX8_tells 20 = .ok (.bipush 10, 2) := by decide +kernel
theorem dX8_tells_22 : decode cX8_tells 22 = .ok (.bipush 25, 2) := by decide +kernel
theorem dX8_tells_24 : decode cX8_tells 24 = .ok (.invokestatic 90, 3) := by decide +kernel
theorem dX8_tells_27 : decode cX8_tells 27 = .ok (.ifCond .eq 21, 3) := by decide +kernel
theorem dX8_tells_30 : decode cX8_tells 30 = .ok (.aload_n 3, 1) := by decide +kernel
theorem dX8_tells_31 : decode cX8_tells 31 = .ok (.iload_n 2, 1) := by decide +kernel
theorem dX8_tells_32 : decode cX8_tells 32 = .ok (.bipush 10, 2) := by decide +kernel
theorem dX8_tells_34 : decode cX8_tells 34 = .ok (.isub, 1) := by decide +kernel
theorem dX8_tells_35 : decode cX8_tells 35 = .ok (.iload_n 1, 1) := by decide +kernel
theorem dX8_tells_36 : decode cX8_tells 36 = .ok (.invokevirtual 105, 3) := by decide +kernel
theorem dX8_tells_39 : decode cX8_tells 39 = .ok (.ifCond .eq 7, 3) := by decide +kernel
theorem dX8_tells_42 : decode cX8_tells 42 = .ok (.iconst 1, 1) := by decide +kernel
theorem dX8_tells_43 : decode cX8_tells 43 = .ok (.goto 4, 3) := by decide +kernel
theorem dX8_tells_46 : decode cX8_tells 46 = .ok (.iconst 0, 1) := by decide +kernel
theorem dX8_tells_47 : decode cX8_tells 47 = .ok (.ireturn, 1) := by decide +kernel
theorem dX8_tells_48 : decode cX8_tells 48 = .ok (.iload_n 2, 1) := by decide +kernel
theorem dX8_tells_49 : decode cX8_tells 49 = .ok (.tableswitch 42 0 2 #[27, 32, 37], 27) := by decide +kernel
theorem dX8_tells_76 : decode cX8_tells 76 = .ok (.aload_n 3, 1) := by decide +kernel
theorem dX8_tells_77 : decode cX8_tells 77 = .ok (.getfield 140, 3) := by decide +kernel
theorem dX8_tells_80 : decode cX8_tells 80 = .ok (.ireturn, 1) := by decide +kernel
theorem dX8_tells_81 : decode cX8_tells 81 = .ok (.aload_n 3, 1) := by decide +kernel
theorem dX8_tells_82 : decode cX8_tells 82 = .ok (.getfield 109, 3) := by decide +kernel
theorem dX8_tells_85 : decode cX8_tells 85 = .ok (.ireturn, 1) := by decide +kernel
theorem dX8_tells_86 : decode cX8_tells 86 = .ok (.aload_n 3, 1) := by decide +kernel
theorem dX8_tells_87 : decode cX8_tells 87 = .ok (.getfield 202, 3) := by decide +kernel
theorem dX8_tells_90 : decode cX8_tells 90 = .ok (.ireturn, 1) := by decide +kernel
theorem dX8_tells_91 : decode cX8_tells 91 = .ok (.iconst (-1), 1) := by decide +kernel
theorem dX8_tells_92 : decode cX8_tells 92 = .ok (.ireturn, 1) := by decide +kernel
theorem dX8_bay_0 : decode cX8_bay 0 = .ok (.iload_n 1, 1) := by decide +kernel
theorem dX8_bay_1 : decode cX8_bay 1 = .ok (.invokestatic 86, 3) := by decide +kernel
theorem dX8_bay_4 : decode cX8_bay 4 = .ok (.ifCond .eq 16, 3) := by decide +kernel
theorem dX8_bay_7 : decode cX8_bay 7 = .ok (.aload_n 0, 1) := by decide +kernel
theorem dX8_bay_8 : decode cX8_bay 8 = .ok (.getfield 11, 3) := by decide +kernel
theorem dX8_bay_11 : decode cX8_bay 11 = .ok (.iload_n 1, 1) := by decide +kernel
theorem dX8_bay_12 : decode cX8_bay 12 = .ok (.aaload, 1) := by decide +kernel
theorem dX8_bay_13 : decode cX8_bay 13 = .ok (.iload_n 2, 1) := by decide +kernel
theorem dX8_bay_14 : decode cX8_bay 14 = .ok (.invokevirtual 205, 3) := by decide +kernel
theorem dX8_bay_17 : decode cX8_bay 17 = .ok (.goto 4, 3) := by decide +kernel
theorem dX8_bay_20 : decode cX8_bay 20 = .ok (.iconst (-1), 1) := by decide +kernel
theorem dX8_bay_21 : decode cX8_bay 21 = .ok (.ireturn, 1) := by decide +kernel
theorem dX8_stackOf_0 : decode cX8_stackOf 0 = .ok (.aload_n 0, 1) := by decide +kernel
theorem dX8_stackOf_1 : decode cX8_stackOf 1 = .ok (.iload_n 1, 1) := by decide +kernel
theorem dX8_stackOf_2 : decode cX8_stackOf 2 = .ok (.invokevirtual 146, 3) := by decide +kernel
theorem dX8_stackOf_5 : decode cX8_stackOf 5 = .ok (.ifCond .eq 16, 3) := by decide +kernel
theorem dX8_stackOf_8 : decode cX8_stackOf 8 = .ok (.aload_n 0, 1) := by decide +kernel
theorem dX8_stackOf_9 : decode cX8_stackOf 9 = .ok (.getfield 17, 3) := by decide +kernel
theorem dX8_stackOf_12 : decode cX8_stackOf 12 = .ok (.iload_n 1, 1) := by decide +kernel
theorem dX8_stackOf_13 : decode cX8_stackOf 13 = .ok (.aaload, 1) := by decide +kernel
theorem dX8_stackOf_14 : decode cX8_stackOf 14 = .ok (.iload_n 2, 1) := by decide +kernel
theorem dX8_stackOf_15 : decode cX8_stackOf 15 = .ok (.invokevirtual 208, 3) := by decide +kernel
theorem dX8_stackOf_18 : decode cX8_stackOf 18 = .ok (.goto 4, 3) := by decide +kernel
theorem dX8_stackOf_21 : decode cX8_stackOf 21 = .ok (.iconst (-1), 1) := by decide +kernel
theorem dX8_stackOf_22 : decode cX8_stackOf 22 = .ok (.ireturn, 1) := by decide +kernel
theorem dX8_best_0 : decode cX8_best 0 = .ok (.iload_n 1, 1) := by decide +kernel
theorem dX8_best_1 : decode cX8_best 1 = .ok (.iconst 1, 1) := by decide +kernel
theorem dX8_best_2 : decode cX8_best 2 = .ok (.iconst 3, 1) := by decide +kernel
theorem dX8_best_3 : decode cX8_best 3 = .ok (.invokestatic 90, 3) := by decide +kernel
theorem dX8_best_6 : decode cX8_best 6 = .ok (.ifCond .eq 14, 3) := by decide +kernel
theorem dX8_best_9 : decode cX8_best 9 = .ok (.iload_n 2, 1) := by decide +kernel
theorem dX8_best_10 : decode cX8_best 10 = .ok (.iconst (-1), 1) := by decide +kernel
theorem dX8_best_11 : decode cX8_best 11 = .ok (.iload_n 1, 1) := by decide +kernel
theorem dX8_best_12 : decode cX8_best 12 = .ok (.iconst 1, 1) := by decide +kernel
theorem dX8_best_13 : decode cX8_best 13 = .ok (.isub, 1) := by decide +kernel
theorem dX8_best_14 : decode cX8_best 14 = .ok (.invokestatic 90, 3) := by decide +kernel
theorem dX8_best_17 : decode cX8_best 17 = .ok (.ifCond .ne 5, 3) := by decide +kernel
theorem dX8_best_20 : decode cX8_best 20 = .ok (.iconst (-1), 1) := by decide +kernel
theorem dX8_best_21 : decode cX8_best 21 = .ok (.ireturn, 1) := by decide +kernel
theorem dX8_best_22 : decode cX8_best 22 = .ok (.aload_n 0, 1) := by decide +kernel
theorem dX8_best_23 : decode cX8_best 23 = .ok (.getfield 58, 3) := by decide +kernel
theorem dX8_best_26 : decode cX8_best 26 = .ok (.aload_n 0, 1) := by decide +kernel
theorem dX8_best_27 : decode cX8_best 27 = .ok (.getfield 11, 3) := by decide +kernel
theorem dX8_best_30 : decode cX8_best 30 = .ok (.aload_n 0, 1) := by decide +kernel
theorem dX8_best_31 : decode cX8_best 31 = .ok (.getfield 72, 3) := by decide +kernel
theorem dX8_best_34 : decode cX8_best 34 = .ok (.iload_n 1, 1) := by decide +kernel
theorem dX8_best_35 : decode cX8_best 35 = .ok (.invokevirtual 209, 3) := by decide +kernel
theorem dX8_best_38 : decode cX8_best 38 = .ok (.iload_n 2, 1) := by decide +kernel
theorem dX8_best_39 : decode cX8_best 39 = .ok (.iconst (-1), 1) := by decide +kernel
theorem dX8_best_40 : decode cX8_best 40 = .ok (.if_icmp .ne 13, 3) := by decide +kernel
theorem dX8_best_43 : decode cX8_best 43 = .ok (.aload_n 0, 1) := by decide +kernel
theorem dX8_best_44 : decode cX8_best 44 = .ok (.getfield 58, 3) := by decide +kernel
theorem dX8_best_47 : decode cX8_best 47 = .ok (.getfield 213, 3) := by decide +kernel
theorem dX8_best_50 : decode cX8_best 50 = .ok (.goto 11, 3) := by decide +kernel
theorem dX8_best_53 : decode cX8_best 53 = .ok (.aload_n 0, 1) := by decide +kernel
theorem dX8_best_54 : decode cX8_best 54 = .ok (.getfield 58, 3) := by decide +kernel
theorem dX8_best_57 : decode cX8_best 57 = .ok (.iload_n 2, 1) := by decide +kernel
theorem dX8_best_58 : decode cX8_best 58 = .ok (.invokevirtual 216, 3) := by decide +kernel
theorem dX8_best_61 : decode cX8_best 61 = .ok (.ireturn, 1) := by decide +kernel
theorem dX8_lasts_0 : decode cX8_lasts 0 = .ok (.aload_n 0, 1) := by decide +kernel
theorem dX8_lasts_1 : decode cX8_lasts 1 = .ok (.getfield 35, 3) := by decide +kernel
theorem dX8_lasts_4 : decode cX8_lasts 4 = .ok (.getfield 165, 3) := by decide +kernel
theorem dX8_lasts_7 : decode cX8_lasts 7 = .ok (.ifCond .gt 5, 3) := by decide +kernel
theorem dX8_lasts_10 : decode cX8_lasts 10 = .ok (.iconst (-1), 1) := by decide +kernel
theorem dX8_lasts_11 : decode cX8_lasts 11 = .ok (.ireturn, 1) := by decide +kernel
theorem dX8_lasts_12 : decode cX8_lasts 12 = .ok (.aload_n 0, 1) := by decide +kernel
theorem dX8_lasts_13 : decode cX8_lasts 13 = .ok (.getfield 35, 3) := by decide +kernel
theorem dX8_lasts_16 : decode cX8_lasts 16 = .ok (.getfield 219, 3) := by decide +kernel
theorem dX8_lasts_19 : decode cX8_lasts 19 = .ok (.istore_n 1, 1) := by decide +kernel
theorem dX8_lasts_20 : decode cX8_lasts 20 = .ok (.iconst 0, 1) := by decide +kernel
theorem dX8_lasts_21 : decode cX8_lasts 21 = .ok (.istore_n 2, 1) := by decide +kernel
theorem dX8_lasts_22 : decode cX8_lasts 22 = .ok (.iload_n 2, 1) := by decide +kernel
theorem dX8_lasts_23 : decode cX8_lasts 23 = .ok (.aload_n 0, 1) := by decide +kernel
theorem dX8_lasts_24 : decode cX8_lasts 24 = .ok (.getfield 62, 3) := by decide +kernel
theorem dX8_lasts_27 : decode cX8_lasts 27 = .ok (.if_icmp .ge 33, 3) := by decide +kernel
theorem dX8_lasts_30 : decode cX8_lasts 30 = .ok (.aload_n 0, 1) := by decide +kernel
theorem dX8_lasts_31 : decode cX8_lasts 31 = .ok (.getfield 17, 3) := by decide +kernel
theorem dX8_lasts_34 : decode cX8_lasts 34 = .ok (.iload_n 2, 1) := by decide +kernel
theorem dX8_lasts_35 : decode cX8_lasts 35 = .ok (.aaload, 1) := by decide +kernel
theorem dX8_lasts_36 : decode cX8_lasts 36 = .ok (.getfield 222, 3) := by decide +kernel
theorem dX8_lasts_39 : decode cX8_lasts 39 = .ok (.ifCond .ne 15, 3) := by decide +kernel
theorem dX8_lasts_42 : decode cX8_lasts 42 = .ok (.iload_n 1, 1) := by decide +kernel
theorem dX8_lasts_43 : decode cX8_lasts 43 = .ok (.aload_n 0, 1) := by decide +kernel
theorem dX8_lasts_44 : decode cX8_lasts 44 = .ok (.getfield 17, 3) := by decide +kernel
theorem dX8_lasts_47 : decode cX8_lasts 47 = .ok (.iload_n 2, 1) := by decide +kernel
theorem dX8_lasts_48 : decode cX8_lasts 48 = .ok (.aaload, 1) := by decide +kernel
theorem dX8_lasts_49 : decode cX8_lasts 49 = .ok (.getfield 226, 3) := by decide +kernel
theorem dX8_lasts_52 : decode cX8_lasts 52 = .ok (.iadd, 1) := by decide +kernel
theorem dX8_lasts_53 : decode cX8_lasts 53 = .ok (.istore_n 1, 1) := by decide +kernel
theorem dX8_lasts_54 : decode cX8_lasts 54 = .ok (.iinc 2 1, 3) := by decide +kernel
theorem dX8_lasts_57 : decode cX8_lasts 57 = .ok (.goto (-35), 3) := by decide +kernel
theorem dX8_lasts_60 : decode cX8_lasts 60 = .ok (.iload_n 1, 1) := by decide +kernel
theorem dX8_lasts_61 : decode cX8_lasts 61 = .ok (.aload_n 0, 1) := by decide +kernel
theorem dX8_lasts_62 : decode cX8_lasts 62 = .ok (.getfield 35, 3) := by decide +kernel
theorem dX8_lasts_65 : decode cX8_lasts 65 = .ok (.getfield 165, 3) := by decide +kernel
theorem dX8_lasts_68 : decode cX8_lasts 68 = .ok (.idiv, 1) := by decide +kernel
theorem dX8_lasts_69 : decode cX8_lasts 69 = .ok (.ireturn, 1) := by decide +kernel
theorem dX8_count_0 : decode cX8_count 0 = .ok (.iload_n 1, 1) := by decide +kernel
theorem dX8_count_1 : decode cX8_count 1 = .ok (.tableswitch 150 0 12 #[67, 72, 77, 82, 90, 98, 106, 114, 122, 127, 132, 137, 142], 67) := by decide +kernel
theorem dX8_count_68 : decode cX8_count 68 = .ok (.aload_n 0, 1) := by decide +kernel
theorem dX8_count_69 : decode cX8_count 69 = .ok (.getfield 69, 3) := by decide +kernel
theorem dX8_count_72 : decode cX8_count 72 = .ok (.ireturn, 1) := by decide +kernel
theorem dX8_count_73 : decode cX8_count 73 = .ok (.aload_n 0, 1) := by decide +kernel
theorem dX8_count_74 : decode cX8_count 74 = .ok (.getfield 72, 3) := by decide +kernel
theorem dX8_count_77 : decode cX8_count 77 = .ok (.ireturn, 1) := by decide +kernel
theorem dX8_count_78 : decode cX8_count 78 = .ok (.aload_n 0, 1) := by decide +kernel
theorem dX8_count_79 : decode cX8_count 79 = .ok (.getfield 75, 3) := by decide +kernel
theorem dX8_count_82 : decode cX8_count 82 = .ok (.ireturn, 1) := by decide +kernel
theorem dX8_count_83 : decode cX8_count 83 = .ok (.aload_n 0, 1) := by decide +kernel
theorem dX8_count_84 : decode cX8_count 84 = .ok (.getfield 35, 3) := by decide +kernel
theorem dX8_count_87 : decode cX8_count 87 = .ok (.getfield 165, 3) := by decide +kernel
theorem dX8_count_90 : decode cX8_count 90 = .ok (.ireturn, 1) := by decide +kernel
theorem dX8_count_91 : decode cX8_count 91 = .ok (.aload_n 0, 1) := by decide +kernel
theorem dX8_count_92 : decode cX8_count 92 = .ok (.getfield 35, 3) := by decide +kernel
theorem dX8_count_95 : decode cX8_count 95 = .ok (.getfield 219, 3) := by decide +kernel
theorem dX8_count_98 : decode cX8_count 98 = .ok (.ireturn, 1) := by decide +kernel
theorem dX8_count_99 : decode cX8_count 99 = .ok (.aload_n 0, 1) := by decide +kernel
theorem dX8_count_100 : decode cX8_count 100 = .ok (.getfield 35, 3) := by decide +kernel
theorem dX8_count_103 : decode cX8_count 103 = .ok (.getfield 227, 3) := by decide +kernel
theorem dX8_count_106 : decode cX8_count 106 = .ok (.ireturn, 1) := by decide +kernel
theorem dX8_count_107 : decode cX8_count 107 = .ok (.aload_n 0, 1) := by decide +kernel
theorem dX8_count_108 : decode cX8_count 108 = .ok (.getfield 35, 3) := by decide +kernel
theorem dX8_count_111 : decode cX8_count 111 = .ok (.getfield 230, 3) := by decide +kernel
theorem dX8_count_114 : decode cX8_count 114 = .ok (.ireturn, 1) := by decide +kernel
theorem dX8_count_115 : decode cX8_count 115 = .ok (.aload_n 0, 1) := by decide +kernel
theorem dX8_count_116 : decode cX8_count 116 = .ok (.getfield 35, 3) := by decide +kernel
theorem dX8_count_119 : decode cX8_count 119 = .ok (.getfield 233, 3) := by decide +kernel
theorem dX8_count_122 : decode cX8_count 122 = .ok (.ireturn, 1) := by decide +kernel
theorem dX8_count_123 : decode cX8_count 123 = .ok (.aload_n 0, 1) := by decide +kernel
theorem dX8_count_124 : decode cX8_count 124 = .ok (.getfield 78, 3) := by decide +kernel
theorem dX8_count_127 : decode cX8_count 127 = .ok (.ireturn, 1) := by decide +kernel
theorem dX8_count_128 : decode cX8_count 128 = .ok (.aload_n 0, 1) := by decide +kernel
theorem dX8_count_129 : decode cX8_count 129 = .ok (.invokevirtual 236, 3) := by decide +kernel
theorem dX8_count_132 : decode cX8_count 132 = .ok (.ireturn, 1) := by decide +kernel
theorem dX8_count_133 : decode cX8_count 133 = .ok (.aload_n 0, 1) := by decide +kernel
theorem dX8_count_134 : decode cX8_count 134 = .ok (.getfield 62, 3) := by decide +kernel
theorem dX8_count_137 : decode cX8_count 137 = .ok (.ireturn, 1) := by decide +kernel
theorem dX8_count_138 : decode cX8_count 138 = .ok (.aload_n 0, 1) := by decide +kernel
theorem dX8_count_139 : decode cX8_count 139 = .ok (.getfield 66, 3) := by decide +kernel
theorem dX8_count_142 : decode cX8_count 142 = .ok (.ireturn, 1) := by decide +kernel
theorem dX8_count_143 : decode cX8_count 143 = .ok (.aload_n 0, 1) := by decide +kernel
theorem dX8_count_144 : decode cX8_count 144 = .ok (.getfield 42, 3) := by decide +kernel
theorem dX8_count_147 : decode cX8_count 147 = .ok (.getfield 192, 3) := by decide +kernel
theorem dX8_count_150 : decode cX8_count 150 = .ok (.ireturn, 1) := by decide +kernel
theorem dX8_count_151 : decode cX8_count 151 = .ok (.iconst (-1), 1) := by decide +kernel
theorem dX8_count_152 : decode cX8_count 152 = .ok (.ireturn, 1) := by decide +kernel
theorem dX8_within_0 : decode cX8_within 0 = .ok (.iload_n 0, 1) := by decide +kernel
theorem dX8_within_1 : decode cX8_within 1 = .ok (.iload_n 1, 1) := by decide +kernel
theorem dX8_within_2 : decode cX8_within 2 = .ok (.if_icmp .lt 12, 3) := by decide +kernel
theorem dX8_within_5 : decode cX8_within 5 = .ok (.iload_n 0, 1) := by decide +kernel
theorem dX8_within_6 : decode cX8_within 6 = .ok (.iload_n 2, 1) := by decide +kernel
theorem dX8_within_7 : decode cX8_within 7 = .ok (.if_icmp .gt 7, 3) := by decide +kernel
theorem dX8_within_10 : decode cX8_within 10 = .ok (.iconst 1, 1) := by decide +kernel
theorem dX8_within_11 : decode cX8_within 11 = .ok (.goto 4, 3) := by decide +kernel
theorem dX8_within_14 : decode cX8_within 14 = .ok (.iconst 0, 1) := by decide +kernel
theorem dX8_within_15 : decode cX8_within 15 = .ok (.ireturn, 1) := by decide +kernel
theorem dX8_isBay_0 : decode cX8_isBay 0 = .ok (.iload_n 0, 1) := by decide +kernel
theorem dX8_isBay_1 : decode cX8_isBay 1 = .ok (.iconst 0, 1) := by decide +kernel
theorem dX8_isBay_2 : decode cX8_isBay 2 = .ok (.bipush 15, 2) := by decide +kernel
theorem dX8_isBay_4 : decode cX8_isBay 4 = .ok (.invokestatic 90, 3) := by decide +kernel
theorem dX8_isBay_7 : decode cX8_isBay 7 = .ok (.ireturn, 1) := by decide +kernel
theorem dX8_isStack_0 : decode cX8_isStack 0 = .ok (.iload_n 1, 1) := by decide +kernel
theorem dX8_isStack_1 : decode cX8_isStack 1 = .ok (.iconst 0, 1) := by decide +kernel
theorem dX8_isStack_2 : decode cX8_isStack 2 = .ok (.aload_n 0, 1) := by decide +kernel
theorem dX8_isStack_3 : decode cX8_isStack 3 = .ok (.getfield 62, 3) := by decide +kernel
theorem dX8_isStack_6 : decode cX8_isStack 6 = .ok (.iconst 1, 1) := by decide +kernel
theorem dX8_isStack_7 : decode cX8_isStack 7 = .ok (.isub, 1) := by decide +kernel
theorem dX8_isStack_8 : decode cX8_isStack 8 = .ok (.invokestatic 90, 3) := by decide +kernel
theorem dX8_isStack_11 : decode cX8_isStack 11 = .ok (.ireturn, 1) := by decide +kernel
theorem dX8_lawOn_0 : decode cX8_lawOn 0 = .ok (.aload_n 0, 1) := by decide +kernel
theorem dX8_lawOn_1 : decode cX8_lawOn 1 = .ok (.getfield 66, 3) := by decide +kernel
theorem dX8_lawOn_4 : decode cX8_lawOn 4 = .ok (.iconst 1, 1) := by decide +kernel
theorem dX8_lawOn_5 : decode cX8_lawOn 5 = .ok (.isub, 1) := by decide +kernel
theorem dX8_lawOn_6 : decode cX8_lawOn 6 = .ok (.istore_n 2, 1) := by decide +kernel
theorem dX8_lawOn_7 : decode cX8_lawOn 7 = .ok (.iload_n 2, 1) := by decide +kernel
theorem dX8_lawOn_8 : decode cX8_lawOn 8 = .ok (.ifCond .lt 29, 3) := by decide +kernel
theorem dX8_lawOn_11 : decode cX8_lawOn 11 = .ok (.aload_n 0, 1) := by decide +kernel
theorem dX8_lawOn_12 : decode cX8_lawOn 12 = .ok (.getfield 23, 3) := by decide +kernel
theorem dX8_lawOn_15 : decode cX8_lawOn 15 = .ok (.iload_n 2, 1) := by decide +kernel
theorem dX8_lawOn_16 : decode cX8_lawOn 16 = .ok (.aaload, 1) := by decide +kernel
theorem dX8_lawOn_17 : decode cX8_lawOn 17 = .ok (.getfield 240, 3) := by decide +kernel
theorem dX8_lawOn_20 : decode cX8_lawOn 20 = .ok (.iload_n 1, 1) := by decide +kernel
theorem dX8_lawOn_21 : decode cX8_lawOn 21 = .ok (.if_icmp .gt 10, 3) := by decide +kernel
theorem dX8_lawOn_24 : decode cX8_lawOn 24 = .ok (.aload_n 0, 1) := by decide +kernel
theorem dX8_lawOn_25 : decode cX8_lawOn 25 = .ok (.getfield 23, 3) := by decide +kernel
theorem dX8_lawOn_28 : decode cX8_lawOn 28 = .ok (.iload_n 2, 1) := by decide +kernel
theorem dX8_lawOn_29 : decode cX8_lawOn 29 = .ok (.aaload, 1) := by decide +kernel
theorem dX8_lawOn_30 : decode cX8_lawOn 30 = .ok (.areturn, 1) := by decide +kernel
theorem dX8_lawOn_31 : decode cX8_lawOn 31 = .ok (.iinc 2 (-1), 3) := by decide +kernel
theorem dX8_lawOn_34 : decode cX8_lawOn 34 = .ok (.goto (-27), 3) := by decide +kernel
theorem dX8_lawOn_37 : decode cX8_lawOn 37 = .ok (.aload_n 0, 1) := by decide +kernel
theorem dX8_lawOn_38 : decode cX8_lawOn 38 = .ok (.getfield 28, 3) := by decide +kernel
theorem dX8_lawOn_41 : decode cX8_lawOn 41 = .ok (.areturn, 1) := by decide +kernel
theorem dX8_applyLaw_0 : decode cX8_applyLaw 0 = .ok (.iconst 0, 1) := by decide +kernel
theorem dX8_applyLaw_1 : decode cX8_applyLaw 1 = .ok (.istore_n 2, 1) := by decide +kernel
theorem dX8_applyLaw_2 : decode cX8_applyLaw 2 = .ok (.iload_n 2, 1) := by decide +kernel
theorem dX8_applyLaw_3 : decode cX8_applyLaw 3 = .ok (.aload_n 0, 1) := by decide +kernel
theorem dX8_applyLaw_4 : decode cX8_applyLaw 4 = .ok (.getfield 62, 3) := by decide +kernel
theorem dX8_applyLaw_7 : decode cX8_applyLaw 7 = .ok (.if_icmp .ge 89, 3) := by decide +kernel
theorem dX8_applyLaw_10 : decode cX8_applyLaw 10 = .ok (.aload_n 0, 1) := by decide +kernel
theorem dX8_applyLaw_11 : decode cX8_applyLaw 11 = .ok (.getfield 17, 3) := by decide +kernel
theorem dX8_applyLaw_14 : decode cX8_applyLaw 14 = .ok (.iload_n 2, 1) := by decide +kernel
theorem dX8_applyLaw_15 : decode cX8_applyLaw 15 = .ok (.aaload, 1) := by decide +kernel
theorem dX8_applyLaw_16 : decode cX8_applyLaw 16 = .ok (.astore_n 3, 1) := by decide +kernel
theorem dX8_applyLaw_17 : decode cX8_applyLaw 17 = .ok (.aload_n 3, 1) := by decide +kernel
theorem dX8_applyLaw_18 : decode cX8_applyLaw 18 = .ok (.getfield 226, 3) := by decide +kernel
theorem dX8_applyLaw_21 : decode cX8_applyLaw 21 = .ok (.ifCond .le 69, 3) := by decide +kernel
theorem dX8_applyLaw_24 : decode cX8_applyLaw 24 = .ok (.aload_n 3, 1) := by decide +kernel
theorem dX8_applyLaw_25 : decode cX8_applyLaw 25 = .ok (.getfield 222, 3) := by decide +kernel
theorem dX8_applyLaw_28 : decode cX8_applyLaw 28 = .ok (.ifCond .eq 6, 3) := by decide +kernel
theorem dX8_applyLaw_31 : decode cX8_applyLaw 31 = .ok (.goto 59, 3) := by decide +kernel
theorem dX8_applyLaw_34 : decode cX8_applyLaw 34 = .ok (.aload_n 1, 1) := by decide +kernel
theorem dX8_applyLaw_35 : decode cX8_applyLaw 35 = .ok (.aload_n 3, 1) := by decide +kernel
theorem dX8_applyLaw_36 : decode cX8_applyLaw 36 = .ok (.aload_n 0, 1) := by decide +kernel
theorem dX8_applyLaw_37 : decode cX8_applyLaw 37 = .ok (.getfield 69, 3) := by decide +kernel
theorem dX8_applyLaw_40 : decode cX8_applyLaw 40 = .ok (.aload_n 3, 1) := by decide +kernel
theorem dX8_applyLaw_41 : decode cX8_applyLaw 41 = .ok (.getfield 126, 3) := by decide +kernel
theorem dX8_applyLaw_44 : decode cX8_applyLaw 44 = .ok (.isub, 1) := by decide +kernel
theorem dX8_applyLaw_45 : decode cX8_applyLaw 45 = .ok (.bipush 7, 2) := by decide +kernel
theorem dX8_applyLaw_47 : decode cX8_applyLaw 47 = .ok (.idiv, 1) := by decide +kernel
theorem dX8_applyLaw_48 : decode cX8_applyLaw 48 = .ok (.invokevirtual 243, 3) := by decide +kernel
theorem dX8_applyLaw_51 : decode cX8_applyLaw 51 = .ok (.istore 4, 2) := by decide +kernel
theorem dX8_applyLaw_53 : decode cX8_applyLaw 53 = .ok (.iload 4, 2) := by decide +kernel
theorem dX8_applyLaw_55 : decode cX8_applyLaw 55 = .ok (.bipush 9, 2) := by decide +kernel
theorem dX8_applyLaw_57 : decode cX8_applyLaw 57 = .ok (.if_icmp .ne 10, 3) := by decide +kernel
theorem dX8_applyLaw_60 : decode cX8_applyLaw 60 = .ok (.aload_n 3, 1) := by decide +kernel
theorem dX8_applyLaw_61 : decode cX8_applyLaw 61 = .ok (.invokevirtual 249, 3) := by decide +kernel
theorem dX8_applyLaw_64 : decode cX8_applyLaw 64 = .ok (.goto 26, 3) := by decide +kernel
theorem dX8_applyLaw_67 : decode cX8_applyLaw 67 = .ok (.iload 4, 2) := by decide +kernel
theorem dX8_applyLaw_69 : decode cX8_applyLaw 69 = .ok (.bipush 10, 2) := by decide +kernel
theorem dX8_applyLaw_71 : decode cX8_applyLaw 71 = .ok (.if_icmp .ne 19, 3) := by decide +kernel
theorem dX8_applyLaw_74 : decode cX8_applyLaw 74 = .ok (.aload_n 0, 1) := by decide +kernel
theorem dX8_applyLaw_75 : decode cX8_applyLaw 75 = .ok (.getfield 35, 3) := by decide +kernel
theorem dX8_applyLaw_78 : decode cX8_applyLaw 78 = .ok (.dup, 1) := by decide +kernel
theorem dX8_applyLaw_79 : decode cX8_applyLaw 79 = .ok (.getfield 219, 3) := by decide +kernel
theorem dX8_applyLaw_82 : decode cX8_applyLaw 82 = .ok (.aload_n 3, 1) := by decide +kernel
theorem dX8_applyLaw_83 : decode cX8_applyLaw 83 = .ok (.invokevirtual 252, 3) := by decide +kernel
theorem dX8_applyLaw_86 : decode cX8_applyLaw 86 = .ok (.iadd, 1) := by decide +kernel
theorem dX8_applyLaw_87 : decode cX8_applyLaw 87 = .ok (.putfield 219, 3) := by decide +kernel
theorem dX8_applyLaw_90 : decode cX8_applyLaw 90 = .ok (.iinc 2 1, 3) := by decide +kernel
theorem dX8_applyLaw_93 : decode cX8_applyLaw 93 = .ok (.goto (-91), 3) := by decide +kernel
theorem dX8_applyLaw_96 : decode cX8_applyLaw 96 = .ok (.return_, 1) := by decide +kernel
theorem dX8_weightInStacks_0 : decode cX8_weightInStacks 0 = .ok (.iconst 0, 1) := by decide +kernel
theorem dX8_weightInStacks_1 : decode cX8_weightInStacks 1 = .ok (.istore_n 1, 1) := by decide +kernel
theorem dX8_weightInStacks_2 : decode cX8_weightInStacks 2 = .ok (.iconst 0, 1) := by decide +kernel
theorem dX8_weightInStacks_3 : decode cX8_weightInStacks 3 = .ok (.istore_n 2, 1) := by decide +kernel
theorem dX8_weightInStacks_4 : decode cX8_weightInStacks 4 = .ok (.iload_n 2, 1) := by decide +kernel
theorem dX8_weightInStacks_5 : decode cX8_weightInStacks 5 = .ok (.aload_n 0, 1) := by decide +kernel
theorem dX8_weightInStacks_6 : decode cX8_weightInStacks 6 = .ok (.getfield 62, 3) := by decide +kernel
theorem dX8_weightInStacks_9 : decode cX8_weightInStacks 9 = .ok (.if_icmp .ge 21, 3) := by decide +kernel
theorem dX8_weightInStacks_12 : decode cX8_weightInStacks 12 = .ok (.iload_n 1, 1) := by decide +kernel
theorem dX8_weightInStacks_13 : decode cX8_weightInStacks 13 = .ok (.aload_n 0, 1) := by decide +kernel
theorem dX8_weightInStacks_14 : decode cX8_weightInStacks 14 = .ok (.getfield 17, 3) := by decide +kernel
theorem dX8_weightInStacks_17 : decode cX8_weightInStacks 17 = .ok (.iload_n 2, 1) := by decide +kernel
theorem dX8_weightInStacks_18 : decode cX8_weightInStacks 18 = .ok (.aaload, 1) := by decide +kernel
theorem dX8_weightInStacks_19 : decode cX8_weightInStacks 19 = .ok (.getfield 226, 3) := by decide +kernel
theorem dX8_weightInStacks_22 : decode cX8_weightInStacks 22 = .ok (.iadd, 1) := by decide +kernel
theorem dX8_weightInStacks_23 : decode cX8_weightInStacks 23 = .ok (.istore_n 1, 1) := by decide +kernel
theorem dX8_weightInStacks_24 : decode cX8_weightInStacks 24 = .ok (.iinc 2 1, 3) := by decide +kernel
theorem dX8_weightInStacks_27 : decode cX8_weightInStacks 27 = .ok (.goto (-23), 3) := by decide +kernel
theorem dX8_weightInStacks_30 : decode cX8_weightInStacks 30 = .ok (.iload_n 1, 1) := by decide +kernel
theorem dX8_weightInStacks_31 : decode cX8_weightInStacks 31 = .ok (.ireturn, 1) := by decide +kernel
theorem dX9_init_0 : decode cX9_init 0 = .ok (.aload_n 0, 1) := by decide +kernel
theorem dX9_init_1 : decode cX9_init 1 = .ok (.invokespecial 1, 3) := by decide +kernel
theorem dX9_init_4 : decode cX9_init 4 = .ok (.aload_n 0, 1) := by decide +kernel
theorem dX9_init_5 : decode cX9_init 5 = .ok (.bipush 16, 2) := by decide +kernel
theorem dX9_init_7 : decode cX9_init 7 = .ok (.newarray .int, 2) := by decide +kernel
theorem dX9_init_9 : decode cX9_init 9 = .ok (.putfield 7, 3) := by decide +kernel
theorem dX9_init_12 : decode cX9_init 12 = .ok (.aload_n 0, 1) := by decide +kernel
theorem dX9_init_13 : decode cX9_init 13 = .ok (.bipush 16, 2) := by decide +kernel
theorem dX9_init_15 : decode cX9_init 15 = .ok (.newarray .int, 2) := by decide +kernel
theorem dX9_init_17 : decode cX9_init 17 = .ok (.putfield 13, 3) := by decide +kernel
theorem dX9_init_20 : decode cX9_init 20 = .ok (.aload_n 0, 1) := by decide +kernel
theorem dX9_init_21 : decode cX9_init 21 = .ok (.bipush 16, 2) := by decide +kernel
theorem dX9_init_23 : decode cX9_init 23 = .ok (.newarray .int, 2) := by decide +kernel
theorem dX9_init_25 : decode cX9_init 25 = .ok (.putfield 16, 3) := by decide +kernel
theorem dX9_init_28 : decode cX9_init 28 = .ok (.aload_n 0, 1) := by decide +kernel
theorem dX9_init_29 : decode cX9_init 29 = .ok (.bipush 16, 2) := by decide +kernel
theorem dX9_init_31 : decode cX9_init 31 = .ok (.newarray .int, 2) := by decide +kernel
theorem dX9_init_33 : decode cX9_init 33 = .ok (.putfield 19, 3) := by decide +kernel
theorem dX9_init_36 : decode cX9_init 36 = .ok (.aload_n 0, 1) := by decide +kernel
theorem dX9_init_37 : decode cX9_init 37 = .ok (.bipush 16, 2) := by decide +kernel
theorem dX9_init_39 : decode cX9_init 39 = .ok (.newarray .int, 2) := by decide +kernel
theorem dX9_init_41 : decode cX9_init 41 = .ok (.putfield 22, 3) := by decide +kernel
theorem dX9_init_44 : decode cX9_init 44 = .ok (.aload_n 0, 1) := by decide +kernel
theorem dX9_init_45 : decode cX9_init 45 = .ok (.bipush 16, 2) := by decide +kernel
theorem dX9_init_47 : decode cX9_init 47 = .ok (.newarray .int, 2) := by decide +kernel
theorem dX9_init_49 : decode cX9_init 49 = .ok (.putfield 25, 3) := by decide +kernel
theorem dX9_init_52 : decode cX9_init 52 = .ok (.aload_n 0, 1) := by decide +kernel
theorem dX9_init_53 : decode cX9_init 53 = .ok (.bipush 16, 2) := by decide +kernel
theorem dX9_init_55 : decode cX9_init 55 = .ok (.newarray .int, 2) := by decide +kernel
theorem dX9_init_57 : decode cX9_init 57 = .ok (.putfield 28, 3) := by decide +kernel
theorem dX9_init_60 : decode cX9_init 60 = .ok (.aload_n 0, 1) := by decide +kernel
theorem dX9_init_61 : decode cX9_init 61 = .ok (.bipush 10, 2) := by decide +kernel
theorem dX9_init_63 : decode cX9_init 63 = .ok (.newarray .int, 2) := by decide +kernel
theorem dX9_init_65 : decode cX9_init 65 = .ok (.putfield 31, 3) := by decide +kernel
theorem dX9_init_68 : decode cX9_init 68 = .ok (.aload_n 0, 1) := by decide +kernel
theorem dX9_init_69 : decode cX9_init 69 = .ok (.bipush 10, 2) := by decide +kernel
theorem dX9_init_71 : decode cX9_init 71 = .ok (.newarray .int, 2) := by decide +kernel
theorem dX9_init_73 : decode cX9_init 73 = .ok (.putfield 34, 3) := by decide +kernel
theorem dX9_init_76 : decode cX9_init 76 = .ok (.aload_n 0, 1) := by decide +kernel
theorem dX9_init_77 : decode cX9_init 77 = .ok (.bipush 10, 2) := by decide +kernel
theorem dX9_init_79 : decode cX9_init 79 = .ok (.newarray .int, 2) := by decide +kernel
theorem dX9_init_81 : decode cX9_init 81 = .ok (.putfield 37, 3) := by decide +kernel
theorem dX9_init_84 : decode cX9_init 84 = .ok (.aload_n 0, 1) := by decide +kernel
theorem dX9_init_85 : decode cX9_init 85 = .ok (.bipush 10, 2) := by decide +kernel
theorem dX9_init_87 : decode cX9_init 87 = .ok (.newarray .int, 2) := by decide +kernel
theorem dX9_init_89 : decode cX9_init 89 = .ok (.putfield 40, 3) := by decide +kernel
theorem dX9_init_92 : decode cX9_init 92 = .ok (.aload_n 0, 1) := by decide +kernel
theorem dX9_init_93 : decode cX9_init 93 = .ok (.bipush 10, 2) := by decide +kernel
theorem dX9_init_95 : decode cX9_init 95 = .ok (.newarray .int, 2) := by decide +kernel
theorem dX9_init_97 : decode cX9_init 97 = .ok (.putfield 43, 3) := by decide +kernel
theorem dX9_init_100 : decode cX9_init 100 = .ok (.aload_n 0, 1) := by decide +kernel
theorem dX9_init_101 : decode cX9_init 101 = .ok (.bipush 10, 2) := by decide +kernel
theorem dX9_init_103 : decode cX9_init 103 = .ok (.newarray .int, 2) := by decide +kernel
theorem dX9_init_105 : decode cX9_init 105 = .ok (.putfield 46, 3) := by decide +kernel
theorem dX9_init_108 : decode cX9_init 108 = .ok (.aload_n 0, 1) := by decide +kernel
theorem dX9_init_109 : decode cX9_init 109 = .ok (.bipush 10, 2) := by decide +kernel
theorem dX9_init_111 : decode cX9_init 111 = .ok (.newarray .int, 2) := by decide +kernel
theorem dX9_init_113 : decode cX9_init 113 = .ok (.putfield 49, 3) := by decide +kernel
theorem dX9_init_116 : decode cX9_init 116 = .ok (.aload_n 0, 1) := by decide +kernel
theorem dX9_init_117 : decode cX9_init 117 = .ok (.bipush 10, 2) := by decide +kernel
theorem dX9_init_119 : decode cX9_init 119 = .ok (.newarray .boolean, 2) := by decide +kernel
theorem dX9_init_121 : decode cX9_init 121 = .ok (.putfield 52, 3) := by decide +kernel
theorem dX9_init_124 : decode cX9_init 124 = .ok (.aload_n 0, 1) := by decide +kernel
theorem dX9_init_125 : decode cX9_init 125 = .ok (.sipush 500, 3) := by decide +kernel
theorem dX9_init_128 : decode cX9_init 128 = .ok (.newarray .byte, 2) := by decide +kernel
theorem dX9_init_130 : decode cX9_init 130 = .ok (.putfield 56, 3) := by decide +kernel
theorem dX9_init_133 : decode cX9_init 133 = .ok (.aload_n 0, 1) := by decide +kernel
theorem dX9_init_134 : decode cX9_init 134 = .ok (.sipush 500, 3) := by decide +kernel
theorem dX9_init_137 : decode cX9_init 137 = .ok (.newarray .byte, 2) := by decide +kernel
theorem dX9_init_139 : decode cX9_init 139 = .ok (.putfield 60, 3) := by decide +kernel
theorem dX9_init_142 : decode cX9_init 142 = .ok (.aload_n 0, 1) := by decide +kernel
theorem dX9_init_143 : decode cX9_init 143 = .ok (.iconst (-1), 1) := by decide +kernel
theorem dX9_init_144 : decode cX9_init 144 = .ok (.putfield 63, 3) := by decide +kernel
theorem dX9_init_147 : decode cX9_init 147 = .ok (.aload_n 0, 1) := by decide +kernel
theorem dX9_init_148 : decode cX9_init 148 = .ok (.bipush 9, 2) := by decide +kernel
theorem dX9_init_150 : decode cX9_init 150 = .ok (.newarray .int, 2) := by decide +kernel
theorem dX9_init_152 : decode cX9_init 152 = .ok (.putfield 67, 3) := by decide +kernel
theorem dX9_init_155 : decode cX9_init 155 = .ok (.aload_n 0, 1) := by decide +kernel
theorem dX9_init_156 : decode cX9_init 156 = .ok (.bipush 9, 2) := by decide +kernel
theorem dX9_init_158 : decode cX9_init 158 = .ok (.newarray .int, 2) := by decide +kernel
theorem dX9_init_160 : decode cX9_init 160 = .ok (.putfield 70, 3) := by decide +kernel
theorem dX9_init_163 : decode cX9_init 163 = .ok (.aload_n 0, 1) := by decide +kernel
theorem dX9_init_164 : decode cX9_init 164 = .ok (.sipush 144, 3) := by decide +kernel
theorem dX9_init_167 : decode cX9_init 167 = .ok (.newarray .int, 2) := by decide +kernel
theorem dX9_init_169 : decode cX9_init 169 = .ok (.putfield 73, 3) := by decide +kernel
theorem dX9_init_172 : decode cX9_init 172 = .ok (.aload_n 0, 1) := by decide +kernel
theorem dX9_init_173 : decode cX9_init 173 = .ok (.sipush 144, 3) := by decide +kernel
theorem dX9_init_176 : decode cX9_init 176 = .ok (.newarray .int, 2) := by decide +kernel
theorem dX9_init_178 : decode cX9_init 178 = .ok (.putfield 76, 3) := by decide +kernel
theorem dX9_init_181 : decode cX9_init 181 = .ok (.aload_n 0, 1) := by decide +kernel
theorem dX9_init_182 : decode cX9_init 182 = .ok (.sipush 144, 3) := by decide +kernel
theorem dX9_init_185 : decode cX9_init 185 = .ok (.newarray .int, 2) := by decide +kernel
theorem dX9_init_187 : decode cX9_init 187 = .ok (.putfield 79, 3) := by decide +kernel
theorem dX9_init_190 : decode cX9_init 190 = .ok (.aload_n 0, 1) := by decide +kernel
theorem dX9_init_191 : decode cX9_init 191 = .ok (.sipush 144, 3) := by decide +kernel
theorem dX9_init_194 : decode cX9_init 194 = .ok (.newarray .int, 2) := by decide +kernel
theorem dX9_init_196 : decode cX9_init 196 = .ok (.putfield 82, 3) := by decide +kernel
theorem dX9_init_199 : decode cX9_init 199 = .ok (.aload_n 0, 1) := by decide +kernel
theorem dX9_init_200 : decode cX9_init 200 = .ok (.sipush 144, 3) := by decide +kernel
theorem dX9_init_203 : decode cX9_init 203 = .ok (.newarray .int, 2) := by decide +kernel
theorem dX9_init_205 : decode cX9_init 205 = .ok (.putfield 85, 3) := by decide +kernel
theorem dX9_init_208 : decode cX9_init 208 = .ok (.aload_n 0, 1) := by decide +kernel
theorem dX9_init_209 : decode cX9_init 209 = .ok (.sipush 144, 3) := by decide +kernel
theorem dX9_init_212 : decode cX9_init 212 = .ok (.newarray .int, 2) := by decide +kernel
theorem dX9_init_214 : decode cX9_init 214 = .ok (.putfield 88, 3) := by decide +kernel
theorem dX9_init_217 : decode cX9_init 217 = .ok (.aload_n 0, 1) := by decide +kernel
theorem dX9_init_218 : decode cX9_init 218 = .ok (.sipush 432, 3) := by decide +kernel
theorem dX9_init_221 : decode cX9_init 221 = .ok (.newarray .int, 2) := by decide +kernel
theorem dX9_init_223 : decode cX9_init 223 = .ok (.putfield 91, 3) := by decide +kernel
