theorem dX9_init_226 : decode cX9_init 226 = .ok (.aload_n 0, 1) := by decide +kernel
theorem dX9_init_227 : decode cX9_init 227 = .ok (.sipush 432, 3) := by decide +kernel
theorem dX9_init_230 : decode cX9_init 230 = .ok (.newarray .int, 2) := by decide +kernel
theorem dX9_init_232 : decode cX9_init 232 = .ok (.putfield 94, 3) := by decide +kernel
theorem dX9_init_235 : decode cX9_init 235 = .ok (.aload_n 0, 1) := by decide +kernel
theorem dX9_init_236 : decode cX9_init 236 = .ok (.sipush 432, 3) := by decide +kernel
theorem dX9_init_239 : decode cX9_init 239 = .ok (.newarray .int, 2) := by decide +kernel
theorem dX9_init_241 : decode cX9_init 241 = .ok (.putfield 97, 3) := by decide +kernel
theorem dX9_init_244 : decode cX9_init 244 = .ok (.aload_n 0, 1) := by decide +kernel
theorem dX9_init_245 : decode cX9_init 245 = .ok (.iconst 3, 1) := by decide +kernel
theorem dX9_init_246 : decode cX9_init 246 = .ok (.newarray .int, 2) := by decide +kernel
theorem dX9_init_248 : decode cX9_init 248 = .ok (.putfield 100, 3) := by decide +kernel
theorem dX9_init_251 : decode cX9_init 251 = .ok (.aload_n 0, 1) := by decide +kernel
theorem dX9_init_252 : decode cX9_init 252 = .ok (.iconst 3, 1) := by decide +kernel
theorem dX9_init_253 : decode cX9_init 253 = .ok (.newarray .int, 2) := by decide +kernel
theorem dX9_init_255 : decode cX9_init 255 = .ok (.putfield 103, 3) := by decide +kernel
theorem dX9_init_258 : decode cX9_init 258 = .ok (.aload_n 0, 1) := by decide +kernel
theorem dX9_init_259 : decode cX9_init 259 = .ok (.bipush 16, 2) := by decide +kernel
theorem dX9_init_261 : decode cX9_init 261 = .ok (.newarray .boolean, 2) := by decide +kernel
theorem dX9_init_263 : decode cX9_init 263 = .ok (.putfield 106, 3) := by decide +kernel
theorem dX9_init_266 : decode cX9_init 266 = .ok (.iconst 0, 1) := by decide +kernel
theorem dX9_init_267 : decode cX9_init 267 = .ok (.istore_n 1, 1) := by decide +kernel
theorem dX9_init_268 : decode cX9_init 268 = .ok (.iload_n 1, 1) := by decide +kernel
theorem dX9_init_269 : decode cX9_init 269 = .ok (.bipush 16, 2) := by decide +kernel
theorem dX9_init_271 : decode cX9_init 271 = .ok (.if_icmp .ge 18, 3) := by decide +kernel
theorem dX9_init_274 : decode cX9_init 274 = .ok (.aload_n 0, 1) := by decide +kernel
theorem dX9_init_275 : decode cX9_init 275 = .ok (.getfield 7, 3) := by decide +kernel
theorem dX9_init_278 : decode cX9_init 278 = .ok (.iload_n 1, 1) := by decide +kernel
theorem dX9_init_279 : decode cX9_init 279 = .ok (.sipush 1000, 3) := by decide +kernel
theorem dX9_init_282 : decode cX9_init 282 = .ok (.iastore, 1) := by decide +kernel
theorem dX9_init_283 : decode cX9_init 283 = .ok (.iinc 1 1, 3) := by decide +kernel
theorem dX9_init_286 : decode cX9_init 286 = .ok (.goto (-18), 3) := by decide +kernel
theorem dX9_init_289 : decode cX9_init 289 = .ok (.return_, 1) := by decide +kernel
theorem dX9_isIn_0 : decode cX9_isIn 0 = .ok (.iload_n 0, 1) := by decide +kernel
theorem dX9_isIn_1 : decode cX9_isIn 1 = .ok (.iload_n 1, 1) := by decide +kernel
theorem dX9_isIn_2 : decode cX9_isIn 2 = .ok (.if_icmp .lt 12, 3) := by decide +kernel
theorem dX9_isIn_5 : decode cX9_isIn 5 = .ok (.iload_n 0, 1) := by decide +kernel
theorem dX9_isIn_6 : decode cX9_isIn 6 = .ok (.iload_n 2, 1) := by decide +kernel
theorem dX9_isIn_7 : decode cX9_isIn 7 = .ok (.if_icmp .gt 7, 3) := by decide +kernel
theorem dX9_isIn_10 : decode cX9_isIn 10 = .ok (.iconst 1, 1) := by decide +kernel
theorem dX9_isIn_11 : decode cX9_isIn 11 = .ok (.goto 4, 3) := by decide +kernel
theorem dX9_isIn_14 : decode cX9_isIn 14 = .ok (.iconst 0, 1) := by decide +kernel
theorem dX9_isIn_15 : decode cX9_isIn 15 = .ok (.ireturn, 1) := by decide +kernel
theorem dX9_one_0 : decode cX9_one 0 = .ok (.iload_n 0, 1) := by decide +kernel
theorem dX9_one_1 : decode cX9_one 1 = .ok (.ifCond .eq 7, 3) := by decide +kernel
theorem dX9_one_4 : decode cX9_one 4 = .ok (.iconst 1, 1) := by decide +kernel
theorem dX9_one_5 : decode cX9_one 5 = .ok (.goto 4, 3) := by decide +kernel
theorem dX9_one_8 : decode cX9_one 8 = .ok (.iconst 0, 1) := by decide +kernel
theorem dX9_one_9 : decode cX9_one 9 = .ok (.ireturn, 1) := by decide +kernel
theorem dX9_isBay_0 : decode cX9_isBay 0 = .ok (.iload_n 0, 1) := by decide +kernel
theorem dX9_isBay_1 : decode cX9_isBay 1 = .ok (.iconst 0, 1) := by decide +kernel
theorem dX9_isBay_2 : decode cX9_isBay 2 = .ok (.bipush 15, 2) := by decide +kernel
theorem dX9_isBay_4 : decode cX9_isBay 4 = .ok (.invokestatic 109, 3) := by decide +kernel
theorem dX9_isBay_7 : decode cX9_isBay 7 = .ok (.ireturn, 1) := by decide +kernel
theorem dX9_isStack_0 : decode cX9_isStack 0 = .ok (.iload_n 1, 1) := by decide +kernel
theorem dX9_isStack_1 : decode cX9_isStack 1 = .ok (.iconst 0, 1) := by decide +kernel
theorem dX9_isStack_2 : decode cX9_isStack 2 = .ok (.aload_n 0, 1) := by decide +kernel
theorem dX9_isStack_3 : decode cX9_isStack 3 = .ok (.getfield 113, 3) := by decide +kernel
theorem dX9_isStack_6 : decode cX9_isStack 6 = .ok (.iconst 1, 1) := by decide +kernel
theorem dX9_isStack_7 : decode cX9_isStack 7 = .ok (.isub, 1) := by decide +kernel
theorem dX9_isStack_8 : decode cX9_isStack 8 = .ok (.invokestatic 109, 3) := by decide +kernel
theorem dX9_isStack_11 : decode cX9_isStack 11 = .ok (.ireturn, 1) := by decide +kernel
theorem dX9_feed_0 : decode cX9_feed 0 = .ok (.aload_n 0, 1) := by decide +kernel
theorem dX9_feed_1 : decode cX9_feed 1 = .ok (.getfield 116, 3) := by decide +kernel
theorem dX9_feed_4 : decode cX9_feed 4 = .ok (.bipush 20, 2) := by decide +kernel
theorem dX9_feed_6 : decode cX9_feed 6 = .ok (.iadd, 1) := by decide +kernel
theorem dX9_feed_7 : decode cX9_feed 7 = .ok (.sipush 500, 3) := by decide +kernel
theorem dX9_feed_10 : decode cX9_feed 10 = .ok (.if_icmp .le 5, 3) := by decide +kernel
theorem dX9_feed_13 : decode cX9_feed 13 = .ok (.iconst (-1), 1) := by decide +kernel
theorem dX9_feed_14 : decode cX9_feed 14 = .ok (.ireturn, 1) := by decide +kernel
theorem dX9_feed_15 : decode cX9_feed 15 = .ok (.aload_n 0, 1) := by decide +kernel
theorem dX9_feed_16 : decode cX9_feed 16 = .ok (.iload_n 1, 1) := by decide +kernel
theorem dX9_feed_17 : decode cX9_feed 17 = .ok (.invokevirtual 119, 3) := by decide +kernel
theorem dX9_feed_20 : decode cX9_feed 20 = .ok (.aload_n 0, 1) := by decide +kernel
theorem dX9_feed_21 : decode cX9_feed 21 = .ok (.iload_n 2, 1) := by decide +kernel
theorem dX9_feed_22 : decode cX9_feed 22 = .ok (.invokevirtual 119, 3) := by decide +kernel
theorem dX9_feed_25 : decode cX9_feed 25 = .ok (.aload_n 0, 1) := by decide +kernel
theorem dX9_feed_26 : decode cX9_feed 26 = .ok (.iload_n 3, 1) := by decide +kernel
theorem dX9_feed_27 : decode cX9_feed 27 = .ok (.invokevirtual 119, 3) := by decide +kernel
theorem dX9_feed_30 : decode cX9_feed 30 = .ok (.aload_n 0, 1) := by decide +kernel
theorem dX9_feed_31 : decode cX9_feed 31 = .ok (.iload 4, 2) := by decide +kernel
theorem dX9_feed_33 : decode cX9_feed 33 = .ok (.invokevirtual 119, 3) := by decide +kernel
theorem dX9_feed_36 : decode cX9_feed 36 = .ok (.aload_n 0, 1) := by decide +kernel
theorem dX9_feed_37 : decode cX9_feed 37 = .ok (.iload 5, 2) := by decide +kernel
theorem dX9_feed_39 : decode cX9_feed 39 = .ok (.invokevirtual 119, 3) := by decide +kernel
theorem dX9_feed_42 : decode cX9_feed 42 = .ok (.aload_n 0, 1) := by decide +kernel
theorem dX9_feed_43 : decode cX9_feed 43 = .ok (.getfield 116, 3) := by decide +kernel
theorem dX9_feed_46 : decode cX9_feed 46 = .ok (.ireturn, 1) := by decide +kernel
theorem dX9_four_0 : decode cX9_four 0 = .ok (.bipush 24, 2) := by decide +kernel
theorem dX9_four_2 : decode cX9_four 2 = .ok (.istore_n 2, 1) := by decide +kernel
theorem dX9_four_3 : decode cX9_four 3 = .ok (.iload_n 2, 1) := by decide +kernel
theorem dX9_four_4 : decode cX9_four 4 = .ok (.ifCond .lt 32, 3) := by decide +kernel
theorem dX9_four_7 : decode cX9_four 7 = .ok (.aload_n 0, 1) := by decide +kernel
theorem dX9_four_8 : decode cX9_four 8 = .ok (.getfield 56, 3) := by decide +kernel
theorem dX9_four_11 : decode cX9_four 11 = .ok (.aload_n 0, 1) := by decide +kernel
theorem dX9_four_12 : decode cX9_four 12 = .ok (.getfield 116, 3) := by decide +kernel
theorem dX9_four_15 : decode cX9_four 15 = .ok (.iload_n 1, 1) := by decide +kernel
theorem dX9_four_16 : decode cX9_four 16 = .ok (.iload_n 2, 1) := by decide +kernel
theorem dX9_four_17 : decode cX9_four 17 = .ok (.ishr, 1) := by decide +kernel
theorem dX9_four_18 : decode cX9_four 18 = .ok (.i2b, 1) := by decide +kernel
theorem dX9_four_19 : decode cX9_four 19 = .ok (.bastore, 1) := by decide +kernel
theorem dX9_four_20 : decode cX9_four 20 = .ok (.aload_n 0, 1) := by decide +kernel
theorem dX9_four_21 : decode cX9_four 21 = .ok (.dup, 1) := by decide +kernel
theorem dX9_four_22 : decode cX9_four 22 = .ok (.getfield 116, 3) := by decide +kernel
theorem dX9_four_25 : decode cX9_four 25 = .ok (.iconst 1, 1) := by decide +kernel
theorem dX9_four_26 : decode cX9_four 26 = .ok (.iadd, 1) := by decide +kernel
theorem dX9_four_27 : decode cX9_four 27 = .ok (.putfield 116, 3) := by decide +kernel
theorem dX9_four_30 : decode cX9_four 30 = .ok (.iinc 2 (-8), 3) := by decide +kernel
theorem dX9_four_33 : decode cX9_four 33 = .ok (.goto (-30), 3) := by decide +kernel
theorem dX9_four_36 : decode cX9_four 36 = .ok (.return_, 1) := by decide +kernel
theorem dX9_blanks_0 : decode cX9_blanks 0 = .ok (.aload_n 0, 1) := by decide +kernel
theorem dX9_blanks_1 : decode cX9_blanks 1 = .ok (.getfield 123, 3) := by decide +kernel
theorem dX9_blanks_4 : decode cX9_blanks 4 = .ok (.aload_n 0, 1) := by decide +kernel
theorem dX9_blanks_5 : decode cX9_blanks 5 = .ok (.getfield 126, 3) := by decide +kernel
theorem dX9_blanks_8 : decode cX9_blanks 8 = .ok (.if_icmp .ge 44, 3) := by decide +kernel
theorem dX9_blanks_11 : decode cX9_blanks 11 = .ok (.aload_n 0, 1) := by decide +kernel
theorem dX9_blanks_12 : decode cX9_blanks 12 = .ok (.getfield 60, 3) := by decide +kernel
theorem dX9_blanks_15 : decode cX9_blanks 15 = .ok (.aload_n 0, 1) := by decide +kernel
theorem dX9_blanks_16 : decode cX9_blanks 16 = .ok (.getfield 123, 3) := by decide +kernel
theorem dX9_blanks_19 : decode cX9_blanks 19 = .ok (.baload, 1) := by decide +kernel
theorem dX9_blanks_20 : decode cX9_blanks 20 = .ok (.bipush 32, 2) := by decide +kernel
theorem dX9_blanks_22 : decode cX9_blanks 22 = .ok (.if_icmp .eq 17, 3) := by decide +kernel
theorem dX9_blanks_25 : decode cX9_blanks 25 = .ok (.aload_n 0, 1) := by decide +kernel
theorem dX9_blanks_26 : decode cX9_blanks 26 = .ok (.getfield 60, 3) := by decide +kernel
theorem dX9_blanks_29 : decode cX9_blanks 29 = .ok (.aload_n 0, 1) := by decide +kernel
theorem dX9_blanks_30 : decode cX9_blanks 30 = .ok (.getfield 123, 3) := by decide +kernel
theorem dX9_blanks_33 : decode cX9_blanks 33 = .ok (.baload, 1) := by decide +kernel
theorem dX9_blanks_34 : decode cX9_blanks 34 = .ok (.bipush 10, 2) := by decide +kernel
theorem dX9_blanks_36 : decode cX9_blanks 36 = .ok (.if_icmp .ne 16, 3) := by decide +kernel
theorem dX9_blanks_39 : decode cX9_blanks 39 = .ok (.aload_n 0, 1) := by decide +kernel
theorem dX9_blanks_40 : decode cX9_blanks 40 = .ok (.dup, 1) := by decide +kernel
theorem dX9_blanks_41 : decode cX9_blanks 41 = .ok (.getfield 123, 3) := by decide +kernel
theorem dX9_blanks_44 : decode cX9_blanks 44 = .ok (.iconst 1, 1) := by decide +kernel
theorem dX9_blanks_45 : decode cX9_blanks 45 = .ok (.iadd, 1) := by decide +kernel
theorem dX9_blanks_46 : decode cX9_blanks 46 = .ok (.putfield 123, 3) := by decide +kernel
theorem dX9_blanks_49 : decode cX9_blanks 49 = .ok (.goto (-49), 3) := by decide +kernel
theorem dX9_blanks_52 : decode cX9_blanks 52 = .ok (.return_, 1) := by decide +kernel
theorem dX9_word_0 : decode cX9_word 0 = .ok (.aload_n 0, 1) := by decide +kernel
theorem dX9_word_1 : decode cX9_word 1 = .ok (.invokevirtual 129, 3) := by decide +kernel
theorem dX9_word_4 : decode cX9_word 4 = .ok (.aload_n 0, 1) := by decide +kernel
theorem dX9_word_5 : decode cX9_word 5 = .ok (.aload_n 0, 1) := by decide +kernel
theorem dX9_word_6 : decode cX9_word 6 = .ok (.getfield 123, 3) := by decide +kernel
theorem dX9_word_9 : decode cX9_word 9 = .ok (.putfield 132, 3) := by decide +kernel
theorem dX9_word_12 : decode cX9_word 12 = .ok (.lconst 0, 1) := by decide +kernel
theorem dX9_word_13 : decode cX9_word 13 = .ok (.lstore_n 1, 1) := by decide +kernel
theorem dX9_word_14 : decode cX9_word 14 = .ok (.aload_n 0, 1) := by decide +kernel
theorem dX9_word_15 : decode cX9_word 15 = .ok (.getfield 132, 3) := by decide +kernel
theorem dX9_word_18 : decode cX9_word 18 = .ok (.aload_n 0, 1) := by decide +kernel
theorem dX9_word_19 : decode cX9_word 19 = .ok (.getfield 126, 3) := by decide +kernel
theorem dX9_word_22 : decode cX9_word 22 = .ok (.if_icmp .ge 78, 3) := by decide +kernel
theorem dX9_word_25 : decode cX9_word 25 = .ok (.aload_n 0, 1) := by decide +kernel
theorem dX9_word_26 : decode cX9_word 26 = .ok (.getfield 60, 3) := by decide +kernel
theorem dX9_word_29 : decode cX9_word 29 = .ok (.aload_n 0, 1) := by decide +kernel
theorem dX9_word_30 : decode cX9_word 30 = .ok (.getfield 132, 3) := by decide +kernel
theorem dX9_word_33 : decode cX9_word 33 = .ok (.baload, 1) := by decide +kernel
theorem dX9_word_34 : decode cX9_word 34 = .ok (.bipush 97, 2) := by decide +kernel
theorem dX9_word_36 : decode cX9_word 36 = .ok (.if_icmp .lt 64, 3) := by decide +kernel
theorem dX9_word_39 : decode cX9_word 39 = .ok (.aload_n 0, 1) := by decide +kernel
theorem dX9_word_40 : decode cX9_word 40 = .ok (.getfield 60, 3) := by decide +kernel
theorem dX9_word_43 : decode cX9_word 43 = .ok (.aload_n 0, 1) := by decide +kernel
theorem dX9_word_44 : decode cX9_word 44 = .ok (.getfield 132, 3) := by decide +kernel
theorem dX9_word_47 : decode cX9_word 47 = .ok (.baload, 1) := by decide +kernel
theorem dX9_word_48 : decode cX9_word 48 = .ok (.bipush 122, 2) := by decide +kernel
theorem dX9_word_50 : decode cX9_word 50 = .ok (.if_icmp .gt 50, 3) := by decide +kernel
theorem dX9_word_53 : decode cX9_word 53 = .ok (.aload_n 0, 1) := by decide +kernel
theorem dX9_word_54 : decode cX9_word 54 = .ok (.getfield 132, 3) := by decide +kernel
theorem dX9_word_57 : decode cX9_word 57 = .ok (.aload_n 0, 1) := by decide +kernel
theorem dX9_word_58 : decode cX9_word 58 = .ok (.getfield 123, 3) := by decide +kernel
theorem dX9_word_61 : decode cX9_word 61 = .ok (.isub, 1) := by decide +kernel
theorem dX9_word_62 : decode cX9_word 62 = .ok (.bipush 7, 2) := by decide +kernel
theorem dX9_word_64 : decode cX9_word 64 = .ok (.if_icmp .ge 21, 3) := by decide +kernel
theorem dX9_word_67 : decode cX9_word 67 = .ok (.lload_n 1, 1) := by decide +kernel
theorem dX9_word_68 : decode cX9_word 68 = .ok (.bipush 8, 2) := by decide +kernel
theorem dX9_word_70 : decode cX9_word 70 = .ok (.lshl, 1) := by decide +kernel
theorem dX9_word_71 : decode cX9_word 71 = .ok (.aload_n 0, 1) := by decide +kernel
theorem dX9_word_72 : decode cX9_word 72 = .ok (.getfield 60, 3) := by decide +kernel
theorem dX9_word_75 : decode cX9_word 75 = .ok (.aload_n 0, 1) := by decide +kernel
theorem dX9_word_76 : decode cX9_word 76 = .ok (.getfield 132, 3) := by decide +kernel
theorem dX9_word_79 : decode cX9_word 79 = .ok (.baload, 1) := by decide +kernel
theorem dX9_word_80 : decode cX9_word 80 = .ok (.i2l, 1) := by decide +kernel
theorem dX9_word_81 : decode cX9_word 81 = .ok (.lor, 1) := by decide +kernel
theorem dX9_word_82 : decode cX9_word 82 = .ok (.goto 4, 3) := by decide +kernel
theorem dX9_word_85 : decode cX9_word 85 = .ok (.lconst 0, 1) := by decide +kernel
theorem dX9_word_86 : decode cX9_word 86 = .ok (.lstore_n 1, 1) := by decide +kernel
theorem dX9_word_87 : decode cX9_word 87 = .ok (.aload_n 0, 1) := by decide +kernel
theorem dX9_word_88 : decode cX9_word 88 = .ok (.dup, 1) := by decide +kernel
theorem dX9_word_89 : decode cX9_word 89 = .ok (.getfield 132, 3) := by decide +kernel
theorem dX9_word_92 : decode cX9_word 92 = .ok (.iconst 1, 1) := by decide +kernel
theorem dX9_word_93 : decode cX9_word 93 = .ok (.iadd, 1) := by decide +kernel
theorem dX9_word_94 : decode cX9_word 94 = .ok (.putfield 132, 3) := by decide +kernel
theorem dX9_word_97 : decode cX9_word 97 = .ok (.goto (-83), 3) := by decide +kernel
theorem dX9_word_100 : decode cX9_word 100 = .ok (.aload_n 0, 1) := by decide +kernel
theorem dX9_word_101 : decode cX9_word 101 = .ok (.getfield 132, 3) := by decide +kernel
theorem dX9_word_104 : decode cX9_word 104 = .ok (.aload_n 0, 1) := by decide +kernel
theorem dX9_word_105 : decode cX9_word 105 = .ok (.getfield 123, 3) := by decide +kernel
theorem dX9_word_108 : decode cX9_word 108 = .ok (.isub, 1) := by decide +kernel
theorem dX9_word_109 : decode cX9_word 109 = .ok (.bipush 7, 2) := by decide +kernel
theorem dX9_word_111 : decode cX9_word 111 = .ok (.if_icmp .le 7, 3) := by decide +kernel
theorem dX9_word_114 : decode cX9_word 114 = .ok (.lconst 0, 1) := by decide +kernel
theorem dX9_word_115 : decode cX9_word 115 = .ok (.goto 4, 3) := by decide +kernel
theorem dX9_word_118 : decode cX9_word 118 = .ok (.lload_n 1, 1) := by decide +kernel
theorem dX9_word_119 : decode cX9_word 119 = .ok (.lreturn, 1) := by decide +kernel
theorem dX9_takes_0 : decode cX9_takes 0 = .ok (.aload_n 0, 1) := by decide +kernel
theorem dX9_takes_1 : decode cX9_takes 1 = .ok (.invokevirtual 135, 3) := by decide +kernel
theorem dX9_takes_4 : decode cX9_takes 4 = .ok (.lload_n 1, 1) := by decide +kernel
theorem dX9_takes_5 : decode cX9_takes 5 = .ok (.lcmp, 1) := by decide +kernel
theorem dX9_takes_6 : decode cX9_takes 6 = .ok (.ifCond .eq 5, 3) := by decide +kernel
theorem dX9_takes_9 : decode cX9_takes 9 = .ok (.iconst 0, 1) := by decide +kernel
theorem dX9_takes_10 : decode cX9_takes 10 = .ok (.ireturn, 1) := by decide +kernel
theorem dX9_takes_11 : decode cX9_takes 11 = .ok (.aload_n 0, 1) := by decide +kernel
theorem dX9_takes_12 : decode cX9_takes 12 = .ok (.aload_n 0, 1) := by decide +kernel
theorem dX9_takes_13 : decode cX9_takes 13 = .ok (.getfield 132, 3) := by decide +kernel
theorem dX9_takes_16 : decode cX9_takes 16 = .ok (.putfield 123, 3) := by decide +kernel
theorem dX9_takes_19 : decode cX9_takes 19 = .ok (.iconst 1, 1) := by decide +kernel
theorem dX9_takes_20 : decode cX9_takes 20 = .ok (.ireturn, 1) := by decide +kernel
theorem dX9_takesNumber_0 : decode cX9_takesNumber 0 = .ok (.aload_n 0, 1) := by decide +kernel
theorem dX9_takesNumber_1 : decode cX9_takesNumber 1 = .ok (.invokevirtual 129, 3) := by decide +kernel
theorem dX9_takesNumber_4 : decode cX9_takesNumber 4 = .ok (.aload_n 0, 1) := by decide +kernel
theorem dX9_takesNumber_5 : decode cX9_takesNumber 5 = .ok (.getfield 123, 3) := by decide +kernel
theorem dX9_takesNumber_8 : decode cX9_takesNumber 8 = .ok (.istore_n 1, 1) := by decide +kernel
theorem dX9_takesNumber_9 : decode cX9_takesNumber 9 = .ok (.aload_n 0, 1) := by decide +kernel
theorem dX9_takesNumber_10 : decode cX9_takesNumber 10 = .ok (.iconst 0, 1) := by decide +kernel
theorem dX9_takesNumber_11 : decode cX9_takesNumber 11 = .ok (.putfield 139, 3) := by decide +kernel
theorem dX9_takesNumber_14 : decode cX9_takesNumber 14 = .ok (.iload_n 1, 1) := by decide +kernel
theorem dX9_takesNumber_15 : decode cX9_takesNumber 15 = .ok (.aload_n 0, 1) := by decide +kernel
theorem dX9_takesNumber_16 : decode cX9_takesNumber 16 = .ok (.getfield 126, 3) := by decide +kernel
theorem dX9_takesNumber_19 : decode cX9_takesNumber 19 = .ok (.if_icmp .ge 62, 3) := by decide +kernel
theorem dX9_takesNumber_22 : decode cX9_takesNumber 22 = .ok (.aload_n 0, 1) := by decide +kernel
theorem dX9_takesNumber_23 : decode cX9_takesNumber 23 = .ok (.getfield 60, 3) := by decide +kernel
theorem dX9_takesNumber_26 : decode cX9_takesNumber 26 = .ok (.iload_n 1, 1) := by decide +kernel
theorem dX9_takesNumber_27 : decode cX9_takesNumber 27 = .ok (.baload, 1) := by decide +kernel
theorem dX9_takesNumber_28 : decode cX9_takesNumber 28 = .ok (.bipush 48, 2) := by decide +kernel
theorem dX9_takesNumber_30 : decode cX9_takesNumber 30 = .ok (.if_icmp .lt 51, 3) := by decide +kernel
theorem dX9_takesNumber_33 : decode cX9_takesNumber 33 = .ok (.aload_n 0, 1) := by decide +kernel
theorem dX9_takesNumber_34 : decode cX9_takesNumber 34 = .ok (.getfield 60, 3) := by decide +kernel
theorem dX9_takesNumber_37 : decode cX9_takesNumber 37 = .ok (.iload_n 1, 1) := by decide +kernel
theorem dX9_takesNumber_38 : decode cX9_takesNumber 38 = .ok (.baload, 1) := by decide +kernel
theorem dX9_takesNumber_39 : decode cX9_takesNumber 39 = .ok (.bipush 57, 2) := by decide +kernel
theorem dX9_takesNumber_41 : decode cX9_takesNumber 41 = .ok (.if_icmp .gt 40, 3) := by decide +kernel
theorem dX9_takesNumber_44 : decode cX9_takesNumber 44 = .ok (.iload_n 1, 1) := by decide +kernel
theorem dX9_takesNumber_45 : decode cX9_takesNumber 45 = .ok (.aload_n 0, 1) := by decide +kernel
theorem dX9_takesNumber_46 : decode cX9_takesNumber 46 = .ok (.getfield 123, 3) := by decide +kernel
theorem dX9_takesNumber_49 : decode cX9_takesNumber 49 = .ok (.isub, 1) := by decide +kernel
theorem dX9_takesNumber_50 : decode cX9_takesNumber 50 = .ok (.iconst 4, 1) := by decide +kernel
theorem dX9_takesNumber_51 : decode cX9_takesNumber 51 = .ok (.if_icmp .ge 24, 3) := by decide +kernel
theorem dX9_takesNumber_54 : decode cX9_takesNumber 54 = .ok (.aload_n 0, 1) := by decide +kernel
theorem dX9_takesNumber_55 : decode cX9_takesNumber 55 = .ok (.bipush 10, 2) := by decide +kernel
theorem dX9_takesNumber_57 : decode cX9_takesNumber 57 = .ok (.aload_n 0, 1) := by decide +kernel
theorem dX9_takesNumber_58 : decode cX9_takesNumber 58 = .ok (.getfield 139, 3) := by decide +kernel
theorem dX9_takesNumber_61 : decode cX9_takesNumber 61 = .ok (.imul, 1) := by decide +kernel
theorem dX9_takesNumber_62 : decode cX9_takesNumber 62 = .ok (.aload_n 0, 1) := by decide +kernel
theorem dX9_takesNumber_63 : decode cX9_takesNumber 63 = .ok (.getfield 60, 3) := by decide +kernel
theorem dX9_takesNumber_66 : decode cX9_takesNumber 66 = .ok (.iload_n 1, 1) := by decide +kernel
theorem dX9_takesNumber_67 : decode cX9_takesNumber 67 = .ok (.baload, 1) := by decide +kernel
theorem dX9_takesNumber_68 : decode cX9_takesNumber 68 = .ok (.iadd, 1) := by decide +kernel
theorem dX9_takesNumber_69 : decode cX9_takesNumber 69 = .ok (.bipush 48, 2) := by decide +kernel
theorem dX9_takesNumber_71 : decode cX9_takesNumber 71 = .ok (.isub, 1) := by decide +kernel
theorem dX9_takesNumber_72 : decode cX9_takesNumber 72 = .ok (.putfield 139, 3) := by decide +kernel
theorem dX9_takesNumber_75 : decode cX9_takesNumber 75 = .ok (.iinc 1 1, 3) := by decide +kernel
theorem dX9_takesNumber_78 : decode cX9_takesNumber 78 = .ok (.goto (-64), 3) := by decide +kernel
theorem dX9_takesNumber_81 : decode cX9_takesNumber 81 = .ok (.iload_n 1, 1) := by decide +kernel
theorem dX9_takesNumber_82 : decode cX9_takesNumber 82 = .ok (.aload_n 0, 1) := by decide +kernel
theorem dX9_takesNumber_83 : decode cX9_takesNumber 83 = .ok (.getfield 123, 3) := by decide +kernel
theorem dX9_takesNumber_86 : decode cX9_takesNumber 86 = .ok (.if_icmp .eq 13, 3) := by decide +kernel
theorem dX9_takesNumber_89 : decode cX9_takesNumber 89 = .ok (.iload_n 1, 1) := by decide +kernel
theorem dX9_takesNumber_90 : decode cX9_takesNumber 90 = .ok (.aload_n 0, 1) := by decide +kernel
theorem dX9_takesNumber_91 : decode cX9_takesNumber 91 = .ok (.getfield 123, 3) := by decide +kernel
theorem dX9_takesNumber_94 : decode cX9_takesNumber 94 = .ok (.isub, 1) := by decide +kernel
theorem dX9_takesNumber_95 : decode cX9_takesNumber 95 = .ok (.iconst 4, 1) := by decide +kernel
theorem dX9_takesNumber_96 : decode cX9_takesNumber 96 = .ok (.if_icmp .le 5, 3) := by decide +kernel
theorem dX9_takesNumber_99 : decode cX9_takesNumber 99 = .ok (.iconst 0, 1) := by decide +kernel
theorem dX9_takesNumber_100 : decode cX9_takesNumber 100 = .ok (.ireturn, 1) := by decide +kernel
theorem dX9_takesNumber_101 : decode cX9_takesNumber 101 = .ok (.aload_n 0, 1) := by decide +kernel
theorem dX9_takesNumber_102 : decode cX9_takesNumber 102 = .ok (.iload_n 1, 1) := by decide +kernel
theorem dX9_takesNumber_103 : decode cX9_takesNumber 103 = .ok (.putfield 123, 3) := by decide +kernel
theorem dX9_takesNumber_106 : decode cX9_takesNumber 106 = .ok (.iconst 1, 1) := by decide +kernel
theorem dX9_takesNumber_107 : decode cX9_takesNumber 107 = .ok (.ireturn, 1) := by decide +kernel
theorem dX9_test_0 : decode cX9_test 0 = .ok (.aload_n 0, 1) := by decide +kernel
theorem dX9_test_1 : decode cX9_test 1 = .ok (.invokevirtual 135, 3) := by decide +kernel
theorem dX9_test_4 : decode cX9_test 4 = .ok (.lstore_n 2, 1) := by decide +kernel
theorem dX9_test_5 : decode cX9_test 5 = .ok (.aload_n 0, 1) := by decide +kernel
theorem dX9_test_6 : decode cX9_test 6 = .ok (.getfield 91, 3) := by decide +kernel
theorem dX9_test_9 : decode cX9_test 9 = .ok (.iload_n 1, 1) := by decide +kernel
theorem dX9_test_10 : decode cX9_test 10 = .ok (.lload_n 2, 1) := by decide +kernel
theorem dX9_test_11 : decode cX9_test 11 = .ok (.ldc2_w 142, 3) := by decide +kernel
theorem dX9_test_14 : decode cX9_test 14 = .ok (.lcmp, 1) := by decide +kernel
theorem dX9_test_15 : decode cX9_test 15 = .ok (.ifCond .ne 7, 3) := by decide +kernel
theorem dX9_test_18 : decode cX9_test 18 = .ok (.iconst 0, 1) := by decide +kernel
theorem dX9_test_19 : decode cX9_test 19 = .ok (.goto 28, 3) := by decide +kernel
theorem dX9_test_22 : decode cX9_test 22 = .ok (.lload_n 2, 1) := by decide +kernel
theorem dX9_test_23 : decode cX9_test 23 = .ok (.ldc2_w 144, 3) := by decide +kernel
theorem dX9_test_26 : decode cX9_test 26 = .ok (.lcmp, 1) := by decide +kernel
theorem dX9_test_27 : decode cX9_test 27 = .ok (.ifCond .ne 7, 3) := by decide +kernel
theorem dX9_test_30 : decode cX9_test 30 = .ok (.iconst 1, 1) := by decide +kernel
theorem dX9_test_31 : decode cX9_test 31 = .ok (.goto 16, 3) := by decide +kernel
theorem dX9_test_34 : decode cX9_test 34 = .ok (.lload_n 2, 1) := by decide +kernel
theorem dX9_test_35 : decode cX9_test 35 = .ok (.ldc2_w 146, 3) := by decide +kernel
theorem dX9_test_38 : decode cX9_test 38 = .ok (.lcmp, 1) := by decide +kernel
theorem dX9_test_39 : decode cX9_test 39 = .ok (.ifCond .ne 7, 3) := by decide +kernel
theorem dX9_test_42 : decode cX9_test 42 = .ok (.iconst 2, 1) := by decide +kernel
theorem dX9_test_43 : decode cX9_test 43 = .ok (.goto 4, 3) := by decide +kernel
theorem dX9_test_46 : decode cX9_test 46 = .ok (.iconst (-1), 1) := by decide +kernel
theorem dX9_test_47 : decode cX9_test 47 = .ok (.iastore, 1) := by decide +kernel
theorem dX9_test_48 : decode cX9_test 48 = .ok (.aload_n 0, 1) := by decide +kernel
theorem dX9_test_49 : decode cX9_test 49 = .ok (.getfield 91, 3) := by decide +kernel
theorem dX9_test_52 : decode cX9_test 52 = .ok (.iload_n 1, 1) := by decide +kernel
theorem dX9_test_53 : decode cX9_test 53 = .ok (.iaload, 1) := by decide +kernel
theorem dX9_test_54 : decode cX9_test 54 = .ok (.iconst (-1), 1) := by decide +kernel
theorem dX9_test_55 : decode cX9_test 55 = .ok (.if_icmp .ne 5, 3) := by decide +kernel
theorem dX9_test_58 : decode cX9_test 58 = .ok (.iconst 0, 1) := by decide +kernel
theorem dX9_test_59 : decode cX9_test 59 = .ok (.ireturn, 1) := by decide +kernel
theorem dX9_test_60 : decode cX9_test 60 = .ok (.aload_n 0, 1) := by decide +kernel
theorem dX9_test_61 : decode cX9_test 61 = .ok (.aload_n 0, 1) := by decide +kernel
theorem dX9_test_62 : decode cX9_test 62 = .ok (.getfield 132, 3) := by decide +kernel
theorem dX9_test_65 : decode cX9_test 65 = .ok (.putfield 123, 3) := by decide +kernel
theorem dX9_test_68 : decode cX9_test 68 = .ok (.aload_n 0, 1) := by decide +kernel
theorem dX9_test_69 : decode cX9_test 69 = .ok (.invokevirtual 129, 3) := by decide +kernel
theorem dX9_test_72 : decode cX9_test 72 = .ok (.aload_n 0, 1) := by decide +kernel
theorem dX9_test_73 : decode cX9_test 73 = .ok (.getfield 123, 3) := by decide +kernel
theorem dX9_test_76 : decode cX9_test 76 = .ok (.aload_n 0, 1) := by decide +kernel
theorem dX9_test_77 : decode cX9_test 77 = .ok (.getfield 126, 3) := by decide +kernel
theorem dX9_test_80 : decode cX9_test 80 = .ok (.if_icmp .eq 45, 3) := by decide +kernel
theorem dX9_test_83 : decode cX9_test 83 = .ok (.aload_n 0, 1) := by decide +kernel
theorem dX9_test_84 : decode cX9_test 84 = .ok (.getfield 60, 3) := by decide +kernel
theorem dX9_test_87 : decode cX9_test 87 = .ok (.aload_n 0, 1) := by decide +kernel
theorem dX9_test_88 : decode cX9_test 88 = .ok (.getfield 123, 3) := by decide +kernel
theorem dX9_test_91 : decode cX9_test 91 = .ok (.baload, 1) := by decide +kernel
theorem dX9_test_92 : decode cX9_test 92 = .ok (.bipush 60, 2) := by decide +kernel
theorem dX9_test_94 : decode cX9_test 94 = .ok (.if_icmp .eq 33, 3) := by decide +kernel
theorem dX9_test_97 : decode cX9_test 97 = .ok (.aload_n 0, 1) := by decide +kernel
theorem dX9_test_98 : decode cX9_test 98 = .ok (.getfield 60, 3) := by decide +kernel
theorem dX9_test_101 : decode cX9_test 101 = .ok (.aload_n 0, 1) := by decide +kernel
theorem dX9_test_102 : decode cX9_test 102 = .ok (.getfield 123, 3) := by decide +kernel
theorem dX9_test_105 : decode cX9_test 105 = .ok (.baload, 1) := by decide +kernel
theorem dX9_test_106 : decode cX9_test 106 = .ok (.bipush 62, 2) := by decide +kernel
theorem dX9_test_108 : decode cX9_test 108 = .ok (.if_icmp .eq 19, 3) := by decide +kernel
theorem dX9_test_111 : decode cX9_test 111 = .ok (.aload_n 0, 1) := by decide +kernel
theorem dX9_test_112 : decode cX9_test 112 = .ok (.getfield 60, 3) := by decide +kernel
theorem dX9_test_115 : decode cX9_test 115 = .ok (.aload_n 0, 1) := by decide +kernel
theorem dX9_test_116 : decode cX9_test 116 = .ok (.getfield 123, 3) := by decide +kernel
theorem dX9_test_119 : decode cX9_test 119 = .ok (.baload, 1) := by decide +kernel
theorem dX9_test_120 : decode cX9_test 120 = .ok (.bipush 61, 2) := by decide +kernel
theorem dX9_test_122 : decode cX9_test 122 = .ok (.if_icmp .eq 5, 3) := by decide +kernel
theorem dX9_test_125 : decode cX9_test 125 = .ok (.iconst 0, 1) := by decide +kernel
theorem dX9_test_126 : decode cX9_test 126 = .ok (.ireturn, 1) := by decide +kernel
theorem dX9_test_127 : decode cX9_test 127 = .ok (.aload_n 0, 1) := by decide +kernel
theorem dX9_test_128 : decode cX9_test 128 = .ok (.getfield 94, 3) := by decide +kernel
theorem dX9_test_131 : decode cX9_test 131 = .ok (.iload_n 1, 1) := by decide +kernel
theorem dX9_test_132 : decode cX9_test 132 = .ok (.aload_n 0, 1) := by decide +kernel
theorem dX9_test_133 : decode cX9_test 133 = .ok (.getfield 60, 3) := by decide +kernel
theorem dX9_test_136 : decode cX9_test 136 = .ok (.aload_n 0, 1) := by decide +kernel
theorem dX9_test_137 : decode cX9_test 137 = .ok (.getfield 123, 3) := by decide +kernel
theorem dX9_test_140 : decode cX9_test 140 = .ok (.baload, 1) := by decide +kernel
theorem dX9_test_141 : decode cX9_test 141 = .ok (.iastore, 1) := by decide +kernel
theorem dX9_test_142 : decode cX9_test 142 = .ok (.aload_n 0, 1) := by decide +kernel
theorem dX9_test_143 : decode cX9_test 143 = .ok (.dup, 1) := by decide +kernel
theorem dX9_test_144 : decode cX9_test 144 = .ok (.getfield 123, 3) := by decide +kernel
theorem dX9_test_147 : decode cX9_test 147 = .ok (.iconst 1, 1) := by decide +kernel
theorem dX9_test_148 : decode cX9_test 148 = .ok (.iadd, 1) := by decide +kernel
theorem dX9_test_149 : decode cX9_test 149 = .ok (.putfield 123, 3) := by decide +kernel
theorem dX9_test_152 : decode cX9_test 152 = .ok (.aload_n 0, 1) := by decide +kernel
theorem dX9_test_153 : decode cX9_test 153 = .ok (.invokevirtual 148, 3) := by decide +kernel
theorem dX9_test_156 : decode cX9_test 156 = .ok (.ifCond .ne 5, 3) := by decide +kernel
theorem dX9_test_159 : decode cX9_test 159 = .ok (.iconst 0, 1) := by decide +kernel
theorem dX9_test_160 : decode cX9_test 160 = .ok (.ireturn, 1) := by decide +kernel
theorem dX9_test_161 : decode cX9_test 161 = .ok (.aload_n 0, 1) := by decide +kernel
theorem dX9_test_162 : decode cX9_test 162 = .ok (.getfield 97, 3) := by decide +kernel
theorem dX9_test_165 : decode cX9_test 165 = .ok (.iload_n 1, 1) := by decide +kernel
theorem dX9_test_166 : decode cX9_test 166 = .ok (.aload_n 0, 1) := by decide +kernel
theorem dX9_test_167 : decode cX9_test 167 = .ok (.getfield 139, 3) := by decide +kernel
theorem dX9_test_170 : decode cX9_test 170 = .ok (.iastore, 1) := by decide +kernel
theorem dX9_test_171 : decode cX9_test 171 = .ok (.iconst 1, 1) := by decide +kernel
theorem dX9_test_172 : decode cX9_test 172 = .ok (.ireturn, 1) := by decide +kernel
theorem dX9_closing_0 : decode cX9_closing 0 = .ok (.aload_n 0, 1) := by decide +kernel
theorem dX9_closing_1 : decode cX9_closing 1 = .ok (.getfield 73, 3) := by decide +kernel
theorem dX9_closing_4 : decode cX9_closing 4 = .ok (.iload_n 1, 1) := by decide +kernel
theorem dX9_closing_5 : decode cX9_closing 5 = .ok (.iconst 2, 1) := by decide +kernel
theorem dX9_closing_6 : decode cX9_closing 6 = .ok (.iastore, 1) := by decide +kernel
theorem dX9_closing_7 : decode cX9_closing 7 = .ok (.aload_n 0, 1) := by decide +kernel
theorem dX9_closing_8 : decode cX9_closing 8 = .ok (.invokevirtual 148, 3) := by decide +kernel
theorem dX9_closing_11 : decode cX9_closing 11 = .ok (.ifCond .ne 5, 3) := by decide +kernel
theorem dX9_closing_14 : decode cX9_closing 14 = .ok (.iconst 0, 1) := by decide +kernel
theorem dX9_closing_15 : decode cX9_closing 15 = .ok (.ireturn, 1) := by decide +kernel
theorem dX9_closing_16 : decode cX9_closing 16 = .ok (.aload_n 0, 1) := by decide +kernel
theorem dX9_closing_17 : decode cX9_closing 17 = .ok (.getfield 76, 3) := by decide +kernel
theorem dX9_closing_20 : decode cX9_closing 20 = .ok (.iload_n 1, 1) := by decide +kernel
theorem dX9_closing_21 : decode cX9_closing 21 = .ok (.aload_n 0, 1) := by decide +kernel
theorem dX9_closing_22 : decode cX9_closing 22 = .ok (.getfield 139, 3) := by decide +kernel
theorem dX9_closing_25 : decode cX9_closing 25 = .ok (.iastore, 1) := by decide +kernel
theorem dX9_closing_26 : decode cX9_closing 26 = .ok (.aload_n 0, 1) := by decide +kernel
theorem dX9_closing_27 : decode cX9_closing 27 = .ok (.ldc2_w 152, 3) := by decide +kernel
theorem dX9_closing_30 : decode cX9_closing 30 = .ok (.invokevirtual 154, 3) := by decide +kernel
theorem dX9_closing_33 : decode cX9_closing 33 = .ok (.ifCond .eq 10, 3) := by decide +kernel
theorem dX9_closing_36 : decode cX9_closing 36 = .ok (.aload_n 0, 1) := by decide +kernel
theorem dX9_closing_37 : decode cX9_closing 37 = .ok (.invokevirtual 148, 3) := by decide +kernel
theorem dX9_closing_40 : decode cX9_closing 40 = .ok (.ifCond .ne 5, 3) := by decide +kernel
theorem dX9_closing_43 : decode cX9_closing 43 = .ok (.iconst 0, 1) := by decide +kernel
theorem dX9_closing_44 : decode cX9_closing 44 = .ok (.ireturn, 1) := by decide +kernel
theorem dX9_closing_45 : decode cX9_closing 45 = .ok (.aload_n 0, 1) := by decide +kernel
theorem dX9_closing_46 : decode cX9_closing 46 = .ok (.getfield 79, 3) := by decide +kernel
theorem dX9_closing_49 : decode cX9_closing 49 = .ok (.iload_n 1, 1) := by decide +kernel
theorem dX9_closing_50 : decode cX9_closing 50 = .ok (.aload_n 0, 1) := by decide +kernel
theorem dX9_closing_51 : decode cX9_closing 51 = .ok (.getfield 139, 3) := by decide +kernel
theorem dX9_closing_54 : decode cX9_closing 54 = .ok (.iastore, 1) := by decide +kernel
theorem dX9_closing_55 : decode cX9_closing 55 = .ok (.aload_n 0, 1) := by decide +kernel
theorem dX9_closing_56 : decode cX9_closing 56 = .ok (.ldc2_w 158, 3) := by decide +kernel
theorem dX9_closing_59 : decode cX9_closing 59 = .ok (.invokevirtual 154, 3) := by decide +kernel
theorem dX9_closing_62 : decode cX9_closing 62 = .ok (.ifCond .eq 10, 3) := by decide +kernel
theorem dX9_closing_65 : decode cX9_closing 65 = .ok (.aload_n 0, 1) := by decide +kernel
theorem dX9_closing_66 : decode cX9_closing 66 = .ok (.invokevirtual 148, 3) := by decide +kernel
theorem dX9_closing_69 : decode cX9_closing 69 = .ok (.ifCond .ne 5, 3) := by decide +kernel
theorem dX9_closing_72 : decode cX9_closing 72 = .ok (.iconst 0, 1) := by decide +kernel
theorem dX9_closing_73 : decode cX9_closing 73 = .ok (.ireturn, 1) := by decide +kernel
theorem dX9_closing_74 : decode cX9_closing 74 = .ok (.aload_n 0, 1) := by decide +kernel
theorem dX9_closing_75 : decode cX9_closing 75 = .ok (.getfield 82, 3) := by decide +kernel
theorem dX9_closing_78 : decode cX9_closing 78 = .ok (.iload_n 1, 1) := by decide +kernel
theorem dX9_closing_79 : decode cX9_closing 79 = .ok (.aload_n 0, 1) := by decide +kernel
theorem dX9_closing_80 : decode cX9_closing 80 = .ok (.getfield 139, 3) := by decide +kernel
theorem dX9_closing_83 : decode cX9_closing 83 = .ok (.iastore, 1) := by decide +kernel
theorem dX9_closing_84 : decode cX9_closing 84 = .ok (.aload_n 0, 1) := by decide +kernel
theorem dX9_closing_85 : decode cX9_closing 85 = .ok (.ldc2_w 152, 3) := by decide +kernel
theorem dX9_closing_88 : decode cX9_closing 88 = .ok (.invokevirtual 154, 3) := by decide +kernel
theorem dX9_closing_91 : decode cX9_closing 91 = .ok (.ifCond .eq 10, 3) := by decide +kernel
theorem dX9_closing_94 : decode cX9_closing 94 = .ok (.aload_n 0, 1) := by decide +kernel
theorem dX9_closing_95 : decode cX9_closing 95 = .ok (.invokevirtual 148, 3) := by decide +kernel
theorem dX9_closing_98 : decode cX9_closing 98 = .ok (.ifCond .ne 5, 3) := by decide +kernel
theorem dX9_closing_101 : decode cX9_closing 101 = .ok (.iconst 0, 1) := by decide +kernel
theorem dX9_closing_102 : decode cX9_closing 102 = .ok (.ireturn, 1) := by decide +kernel
theorem dX9_closing_103 : decode cX9_closing 103 = .ok (.aload_n 0, 1) := by decide +kernel
theorem dX9_closing_104 : decode cX9_closing 104 = .ok (.getfield 85, 3) := by decide +kernel
theorem dX9_closing_107 : decode cX9_closing 107 = .ok (.iload_n 1, 1) := by decide +kernel
theorem dX9_closing_108 : decode cX9_closing 108 = .ok (.aload_n 0, 1) := by decide +kernel
theorem dX9_closing_109 : decode cX9_closing 109 = .ok (.getfield 139, 3) := by decide +kernel
theorem dX9_closing_112 : decode cX9_closing 112 = .ok (.iastore, 1) := by decide +kernel
theorem dX9_closing_113 : decode cX9_closing 113 = .ok (.iconst 1, 1) := by decide +kernel
theorem dX9_closing_114 : decode cX9_closing 114 = .ok (.ireturn, 1) := by decide +kernel
theorem dX9_acting_0 : decode cX9_acting 0 = .ok (.aload_n 0, 1) := by decide +kernel
theorem dX9_acting_1 : decode cX9_acting 1 = .ok (.getfield 88, 3) := by decide +kernel
theorem dX9_acting_4 : decode cX9_acting 4 = .ok (.iload_n 1, 1) := by decide +kernel
theorem dX9_acting_5 : decode cX9_acting 5 = .ok (.iconst 0, 1) := by decide +kernel
theorem dX9_acting_6 : decode cX9_acting 6 = .ok (.iastore, 1) := by decide +kernel
theorem dX9_acting_7 : decode cX9_acting 7 = .ok (.aload_n 0, 1) := by decide +kernel
theorem dX9_acting_8 : decode cX9_acting 8 = .ok (.invokevirtual 129, 3) := by decide +kernel
theorem dX9_acting_11 : decode cX9_acting 11 = .ok (.aload_n 0, 1) := by decide +kernel
theorem dX9_acting_12 : decode cX9_acting 12 = .ok (.getfield 88, 3) := by decide +kernel
theorem dX9_acting_15 : decode cX9_acting 15 = .ok (.iload_n 1, 1) := by decide +kernel
theorem dX9_acting_16 : decode cX9_acting 16 = .ok (.iaload, 1) := by decide +kernel
theorem dX9_acting_17 : decode cX9_acting 17 = .ok (.iconst 3, 1) := by decide +kernel
theorem dX9_acting_18 : decode cX9_acting 18 = .ok (.if_icmp .eq 20, 3) := by decide +kernel
theorem dX9_acting_21 : decode cX9_acting 21 = .ok (.aload_n 0, 1) := by decide +kernel
theorem dX9_acting_22 : decode cX9_acting 22 = .ok (.iconst 3, 1) := by decide +kernel
theorem dX9_acting_23 : decode cX9_acting 23 = .ok (.iload_n 1, 1) := by decide +kernel
theorem dX9_acting_24 : decode cX9_acting 24 = .ok (.imul, 1) := by decide +kernel
theorem dX9_acting_25 : decode cX9_acting 25 = .ok (.aload_n 0, 1) := by decide +kernel
theorem dX9_acting_26 : decode cX9_acting 26 = .ok (.getfield 88, 3) := by decide +kernel
theorem dX9_acting_29 : decode cX9_acting 29 = .ok (.iload_n 1, 1) := by decide +kernel
theorem dX9_acting_30 : decode cX9_acting 30 = .ok (.iaload, 1) := by decide +kernel
theorem dX9_acting_31 : decode cX9_acting 31 = .ok (.iadd, 1) := by decide +kernel
theorem dX9_acting_32 : decode cX9_acting 32 = .ok (.invokevirtual 160, 3) := by decide +kernel
theorem dX9_acting_35 : decode cX9_acting 35 = .ok (.ifCond .ne 5, 3) := by decide +kernel
theorem dX9_acting_38 : decode cX9_acting 38 = .ok (.iconst 0, 1) := by decide +kernel
theorem dX9_acting_39 : decode cX9_acting 39 = .ok (.ireturn, 1) := by decide +kernel
theorem dX9_acting_40 : decode cX9_acting 40 = .ok (.aload_n 0, 1) := by decide +kernel
theorem dX9_acting_41 : decode cX9_acting 41 = .ok (.getfield 88, 3) := by decide +kernel
theorem dX9_acting_44 : decode cX9_acting 44 = .ok (.iload_n 1, 1) := by decide +kernel
theorem dX9_acting_45 : decode cX9_acting 45 = .ok (.dup2, 1) := by decide +kernel
theorem dX9_acting_46 : decode cX9_acting 46 = .ok (.iaload, 1) := by decide +kernel
theorem dX9_acting_47 : decode cX9_acting 47 = .ok (.iconst 1, 1) := by decide +kernel
theorem dX9_acting_48 : decode cX9_acting 48 = .ok (.iadd, 1) := by decide +kernel
theorem dX9_acting_49 : decode cX9_acting 49 = .ok (.iastore, 1) := by decide +kernel
theorem dX9_acting_50 : decode cX9_acting 50 = .ok (.aload_n 0, 1) := by decide +kernel
theorem dX9_acting_51 : decode cX9_acting 51 = .ok (.ldc2_w 164, 3) := by decide +kernel
theorem dX9_acting_54 : decode cX9_acting 54 = .ok (.invokevirtual 154, 3) := by decide +kernel
theorem dX9_acting_57 : decode cX9_acting 57 = .ok (.ifCond .ne (-50), 3) := by decide +kernel
theorem dX9_acting_60 : decode cX9_acting 60 = .ok (.aload_n 0, 1) := by decide +kernel
theorem dX9_acting_61 : decode cX9_acting 61 = .ok (.ldc2_w 166, 3) := by decide +kernel
theorem dX9_acting_64 : decode cX9_acting 64 = .ok (.invokevirtual 154, 3) := by decide +kernel
theorem dX9_acting_67 : decode cX9_acting 67 = .ok (.ifCond .ne 5, 3) := by decide +kernel
theorem dX9_acting_70 : decode cX9_acting 70 = .ok (.iconst 0, 1) := by decide +kernel
theorem dX9_acting_71 : decode cX9_acting 71 = .ok (.ireturn, 1) := by decide +kernel
theorem dX9_acting_72 : decode cX9_acting 72 = .ok (.aload_n 0, 1) := by decide +kernel
theorem dX9_acting_73 : decode cX9_acting 73 = .ok (.getfield 73, 3) := by decide +kernel
theorem dX9_acting_76 : decode cX9_acting 76 = .ok (.iload_n 1, 1) := by decide +kernel
theorem dX9_acting_77 : decode cX9_acting 77 = .ok (.aload_n 0, 1) := by decide +kernel
theorem dX9_acting_78 : decode cX9_acting 78 = .ok (.ldc2_w 168, 3) := by decide +kernel
theorem dX9_acting_81 : decode cX9_acting 81 = .ok (.invokevirtual 154, 3) := by decide +kernel
theorem dX9_acting_84 : decode cX9_acting 84 = .ok (.ifCond .eq 7, 3) := by decide +kernel
theorem dX9_acting_87 : decode cX9_acting 87 = .ok (.iconst 3, 1) := by decide +kernel
theorem dX9_acting_88 : decode cX9_acting 88 = .ok (.goto 32, 3) := by decide +kernel
theorem dX9_acting_91 : decode cX9_acting 91 = .ok (.aload_n 0, 1) := by decide +kernel
theorem dX9_acting_92 : decode cX9_acting 92 = .ok (.ldc2_w 170, 3) := by decide +kernel
theorem dX9_acting_95 : decode cX9_acting 95 = .ok (.invokevirtual 154, 3) := by decide +kernel
theorem dX9_acting_98 : decode cX9_acting 98 = .ok (.ifCond .eq 7, 3) := by decide +kernel
theorem dX9_acting_101 : decode cX9_acting 101 = .ok (.iconst 4, 1) := by decide +kernel
theorem dX9_acting_102 : decode cX9_acting 102 = .ok (.goto 18, 3) := by decide +kernel
theorem dX9_acting_105 : decode cX9_acting 105 = .ok (.aload_n 0, 1) := by decide +kernel
theorem dX9_acting_106 : decode cX9_acting 106 = .ok (.ldc2_w 172, 3) := by decide +kernel
theorem dX9_acting_109 : decode cX9_acting 109 = .ok (.invokevirtual 154, 3) := by decide +kernel
theorem dX9_acting_112 : decode cX9_acting 112 = .ok (.ifCond .eq 7, 3) := by decide +kernel
theorem dX9_acting_115 : decode cX9_acting 115 = .ok (.iconst 5, 1) := by decide +kernel
theorem dX9_acting_116 : decode cX9_acting 116 = .ok (.goto 4, 3) := by decide +kernel
theorem dX9_acting_119 : decode cX9_acting 119 = .ok (.iconst (-1), 1) := by decide +kernel
theorem dX9_acting_120 : decode cX9_acting 120 = .ok (.iastore, 1) := by decide +kernel
theorem dX9_acting_121 : decode cX9_acting 121 = .ok (.aload_n 0, 1) := by decide +kernel
theorem dX9_acting_122 : decode cX9_acting 122 = .ok (.getfield 73, 3) := by decide +kernel
theorem dX9_acting_125 : decode cX9_acting 125 = .ok (.iload_n 1, 1) := by decide +kernel
theorem dX9_acting_126 : decode cX9_acting 126 = .ok (.iaload, 1) := by decide +kernel
theorem dX9_acting_127 : decode cX9_acting 127 = .ok (.iconst (-1), 1) := by decide +kernel
theorem dX9_acting_128 : decode cX9_acting 128 = .ok (.if_icmp .eq 7, 3) := by decide +kernel
theorem dX9_acting_131 : decode cX9_acting 131 = .ok (.iconst 1, 1) := by decide +kernel
theorem dX9_acting_132 : decode cX9_acting 132 = .ok (.goto 4, 3) := by decide +kernel
theorem dX9_acting_135 : decode cX9_acting 135 = .ok (.iconst 0, 1) := by decide +kernel
theorem dX9_acting_136 : decode cX9_acting 136 = .ok (.ireturn, 1) := by decide +kernel
theorem dX9_statement_0 : decode cX9_statement 0 = .ok (.aload_n 0, 1) := by decide +kernel
theorem dX9_statement_1 : decode cX9_statement 1 = .ok (.ldc2_w 174, 3) := by decide +kernel
theorem dX9_statement_4 : decode cX9_statement 4 = .ok (.invokevirtual 154, 3) := by decide +kernel
theorem dX9_statement_7 : decode cX9_statement 7 = .ok (.ifCond .eq 13, 3) := by decide +kernel
theorem dX9_statement_10 : decode cX9_statement 10 = .ok (.aload_n 0, 1) := by decide +kernel
theorem dX9_statement_11 : decode cX9_statement 11 = .ok (.iload_n 1, 1) := by decide +kernel
theorem dX9_statement_12 : decode cX9_statement 12 = .ok (.invokevirtual 176, 3) := by decide +kernel
theorem dX9_statement_15 : decode cX9_statement 15 = .ok (.ifCond .ne 89, 3) := by decide +kernel
theorem dX9_statement_18 : decode cX9_statement 18 = .ok (.iconst 0, 1) := by decide +kernel
theorem dX9_statement_19 : decode cX9_statement 19 = .ok (.ireturn, 1) := by decide +kernel
theorem dX9_statement_20 : decode cX9_statement 20 = .ok (.aload_n 0, 1) := by decide +kernel
theorem dX9_statement_21 : decode cX9_statement 21 = .ok (.ldc2_w 179, 3) := by decide +kernel
theorem dX9_statement_24 : decode cX9_statement 24 = .ok (.invokevirtual 154, 3) := by decide +kernel
theorem dX9_statement_27 : decode cX9_statement 27 = .ok (.ifCond .eq 13, 3) := by decide +kernel
theorem dX9_statement_30 : decode cX9_statement 30 = .ok (.aload_n 0, 1) := by decide +kernel
theorem dX9_statement_31 : decode cX9_statement 31 = .ok (.iload_n 1, 1) := by decide +kernel
theorem dX9_statement_32 : decode cX9_statement 32 = .ok (.invokevirtual 181, 3) := by decide +kernel
theorem dX9_statement_35 : decode cX9_statement 35 = .ok (.ifCond .ne 69, 3) := by decide +kernel
theorem dX9_statement_38 : decode cX9_statement 38 = .ok (.iconst 0, 1) := by decide +kernel
theorem dX9_statement_39 : decode cX9_statement 39 = .ok (.ireturn, 1) := by decide +kernel
theorem dX9_statement_40 : decode cX9_statement 40 = .ok (.aload_n 0, 1) := by decide +kernel
theorem dX9_statement_41 : decode cX9_statement 41 = .ok (.getfield 73, 3) := by decide +kernel
theorem dX9_statement_44 : decode cX9_statement 44 = .ok (.iload_n 1, 1) := by decide +kernel
theorem dX9_statement_45 : decode cX9_statement 45 = .ok (.aload_n 0, 1) := by decide +kernel
theorem dX9_statement_46 : decode cX9_statement 46 = .ok (.ldc2_w 184, 3) := by decide +kernel
theorem dX9_statement_49 : decode cX9_statement 49 = .ok (.invokevirtual 154, 3) := by decide +kernel
theorem dX9_statement_52 : decode cX9_statement 52 = .ok (.ifCond .eq 7, 3) := by decide +kernel
theorem dX9_statement_55 : decode cX9_statement 55 = .ok (.iconst 0, 1) := by decide +kernel
theorem dX9_statement_56 : decode cX9_statement 56 = .ok (.goto 18, 3) := by decide +kernel
theorem dX9_statement_59 : decode cX9_statement 59 = .ok (.aload_n 0, 1) := by decide +kernel
theorem dX9_statement_60 : decode cX9_statement 60 = .ok (.ldc2_w 186, 3) := by decide +kernel
theorem dX9_statement_63 : decode cX9_statement 63 = .ok (.invokevirtual 154, 3) := by decide +kernel
theorem dX9_statement_66 : decode cX9_statement 66 = .ok (.ifCond .eq 7, 3) := by decide +kernel
theorem dX9_statement_69 : decode cX9_statement 69 = .ok (.iconst 1, 1) := by decide +kernel
theorem dX9_statement_70 : decode cX9_statement 70 = .ok (.goto 4, 3) := by decide +kernel
theorem dX9_statement_73 : decode cX9_statement 73 = .ok (.iconst (-1), 1) := by decide +kernel
theorem dX9_statement_74 : decode cX9_statement 74 = .ok (.iastore, 1) := by decide +kernel
theorem dX9_statement_75 : decode cX9_statement 75 = .ok (.aload_n 0, 1) := by decide +kernel
theorem dX9_statement_76 : decode cX9_statement 76 = .ok (.getfield 73, 3) := by decide +kernel
theorem dX9_statement_79 : decode cX9_statement 79 = .ok (.iload_n 1, 1) := by decide +kernel
theorem dX9_statement_80 : decode cX9_statement 80 = .ok (.iaload, 1) := by decide +kernel
theorem dX9_statement_81 : decode cX9_statement 81 = .ok (.iconst (-1), 1) := by decide +kernel
theorem dX9_statement_82 : decode cX9_statement 82 = .ok (.if_icmp .eq 10, 3) := by decide +kernel
theorem dX9_statement_85 : decode cX9_statement 85 = .ok (.aload_n 0, 1) := by decide +kernel
theorem dX9_statement_86 : decode cX9_statement 86 = .ok (.invokevirtual 148, 3) := by decide +kernel
theorem dX9_statement_89 : decode cX9_statement 89 = .ok (.ifCond .ne 5, 3) := by decide +kernel
theorem dX9_statement_92 : decode cX9_statement 92 = .ok (.iconst 0, 1) := by decide +kernel
theorem dX9_statement_93 : decode cX9_statement 93 = .ok (.ireturn, 1) := by decide +kernel
theorem dX9_statement_94 : decode cX9_statement 94 = .ok (.aload_n 0, 1) := by decide +kernel
theorem dX9_statement_95 : decode cX9_statement 95 = .ok (.getfield 76, 3) := by decide +kernel
theorem dX9_statement_98 : decode cX9_statement 98 = .ok (.iload_n 1, 1) := by decide +kernel
theorem dX9_statement_99 : decode cX9_statement 99 = .ok (.aload_n 0, 1) := by decide +kernel
theorem dX9_statement_100 : decode cX9_statement 100 = .ok (.getfield 139, 3) := by decide +kernel
theorem dX9_statement_103 : decode cX9_statement 103 = .ok (.iastore, 1) := by decide +kernel
theorem dX9_statement_104 : decode cX9_statement 104 = .ok (.aload_n 0, 1) := by decide +kernel
theorem dX9_statement_105 : decode cX9_statement 105 = .ok (.invokevirtual 129, 3) := by decide +kernel
theorem dX9_statement_108 : decode cX9_statement 108 = .ok (.aload_n 0, 1) := by decide +kernel
theorem dX9_statement_109 : decode cX9_statement 109 = .ok (.getfield 123, 3) := by decide +kernel
theorem dX9_statement_112 : decode cX9_statement 112 = .ok (.aload_n 0, 1) := by decide +kernel
theorem dX9_statement_113 : decode cX9_statement 113 = .ok (.getfield 126, 3) := by decide +kernel
theorem dX9_statement_116 : decode cX9_statement 116 = .ok (.if_icmp .eq 17, 3) := by decide +kernel
theorem dX9_statement_119 : decode cX9_statement 119 = .ok (.aload_n 0, 1) := by decide +kernel
theorem dX9_statement_120 : decode cX9_statement 120 = .ok (.getfield 60, 3) := by decide +kernel
theorem dX9_statement_123 : decode cX9_statement 123 = .ok (.aload_n 0, 1) := by decide +kernel
theorem dX9_statement_124 : decode cX9_statement 124 = .ok (.getfield 123, 3) := by decide +kernel
theorem dX9_statement_127 : decode cX9_statement 127 = .ok (.baload, 1) := by decide +kernel
theorem dX9_statement_128 : decode cX9_statement 128 = .ok (.bipush 59, 2) := by decide +kernel
theorem dX9_statement_130 : decode cX9_statement 130 = .ok (.if_icmp .eq 5, 3) := by decide +kernel
theorem dX9_statement_133 : decode cX9_statement 133 = .ok (.iconst 0, 1) := by decide +kernel
theorem dX9_statement_134 : decode cX9_statement 134 = .ok (.ireturn, 1) := by decide +kernel
theorem dX9_statement_135 : decode cX9_statement 135 = .ok (.aload_n 0, 1) := by decide +kernel
theorem dX9_statement_136 : decode cX9_statement 136 = .ok (.dup, 1) := by decide +kernel
theorem dX9_statement_137 : decode cX9_statement 137 = .ok (.getfield 123, 3) := by decide +kernel
theorem dX9_statement_140 : decode cX9_statement 140 = .ok (.iconst 1, 1) := by decide +kernel
theorem dX9_statement_141 : decode cX9_statement 141 = .ok (.iadd, 1) := by decide +kernel
theorem dX9_statement_142 : decode cX9_statement 142 = .ok (.putfield 123, 3) := by decide +kernel
theorem dX9_statement_145 : decode cX9_statement 145 = .ok (.iconst 1, 1) := by decide +kernel
theorem dX9_statement_146 : decode cX9_statement 146 = .ok (.ireturn, 1) := by decide +kernel
theorem dX9_law_0 : decode cX9_law 0 = .ok (.iload_n 1, 1) := by decide +kernel
theorem dX9_law_1 : decode cX9_law 1 = .ok (.iconst 0, 1) := by decide +kernel
theorem dX9_law_2 : decode cX9_law 2 = .ok (.aload_n 0, 1) := by decide +kernel
theorem dX9_law_3 : decode cX9_law 3 = .ok (.getfield 116, 3) := by decide +kernel
theorem dX9_law_6 : decode cX9_law 6 = .ok (.invokestatic 109, 3) := by decide +kernel
theorem dX9_law_9 : decode cX9_law 9 = .ok (.ifCond .ne 6, 3) := by decide +kernel
theorem dX9_law_12 : decode cX9_law 12 = .ok (.bipush (-2), 2) := by decide +kernel
theorem dX9_law_14 : decode cX9_law 14 = .ok (.ireturn, 1) := by decide +kernel
theorem dX9_law_15 : decode cX9_law 15 = .ok (.aload_n 0, 1) := by decide +kernel
theorem dX9_law_16 : decode cX9_law 16 = .ok (.getfield 188, 3) := by decide +kernel
theorem dX9_law_19 : decode cX9_law 19 = .ok (.bipush 8, 2) := by decide +kernel
theorem dX9_law_21 : decode cX9_law 21 = .ok (.if_icmp .ne 6, 3) := by decide +kernel
theorem dX9_law_24 : decode cX9_law 24 = .ok (.bipush (-3), 2) := by decide +kernel
theorem dX9_law_26 : decode cX9_law 26 = .ok (.ireturn, 1) := by decide +kernel
theorem dX9_law_27 : decode cX9_law 27 = .ok (.iconst 0, 1) := by decide +kernel
theorem dX9_law_28 : decode cX9_law 28 = .ok (.istore_n 2, 1) := by decide +kernel
theorem dX9_law_29 : decode cX9_law 29 = .ok (.iload_n 2, 1) := by decide +kernel
theorem dX9_law_30 : decode cX9_law 30 = .ok (.iload_n 1, 1) := by decide +kernel
theorem dX9_law_31 : decode cX9_law 31 = .ok (.if_icmp .ge 21, 3) := by decide +kernel
theorem dX9_law_34 : decode cX9_law 34 = .ok (.aload_n 0, 1) := by decide +kernel
theorem dX9_law_35 : decode cX9_law 35 = .ok (.getfield 60, 3) := by decide +kernel
theorem dX9_law_38 : decode cX9_law 38 = .ok (.iload_n 2, 1) := by decide +kernel
theorem dX9_law_39 : decode cX9_law 39 = .ok (.aload_n 0, 1) := by decide +kernel
theorem dX9_law_40 : decode cX9_law 40 = .ok (.getfield 56, 3) := by decide +kernel
theorem dX9_law_43 : decode cX9_law 43 = .ok (.iload_n 2, 1) := by decide +kernel
theorem dX9_law_44 : decode cX9_law 44 = .ok (.baload, 1) := by decide +kernel
theorem dX9_law_45 : decode cX9_law 45 = .ok (.bastore, 1) := by decide +kernel
theorem dX9_law_46 : decode cX9_law 46 = .ok (.iinc 2 1, 3) := by decide +kernel
theorem dX9_law_49 : decode cX9_law 49 = .ok (.goto (-20), 3) := by decide +kernel
theorem dX9_law_52 : decode cX9_law 52 = .ok (.aload_n 0, 1) := by decide +kernel
theorem dX9_law_53 : decode cX9_law 53 = .ok (.iload_n 1, 1) := by decide +kernel
theorem dX9_law_54 : decode cX9_law 54 = .ok (.putfield 126, 3) := by decide +kernel
theorem dX9_law_57 : decode cX9_law 57 = .ok (.aload_n 0, 1) := by decide +kernel
theorem dX9_law_58 : decode cX9_law 58 = .ok (.iconst 0, 1) := by decide +kernel
theorem dX9_law_59 : decode cX9_law 59 = .ok (.putfield 116, 3) := by decide +kernel
theorem dX9_law_62 : decode cX9_law 62 = .ok (.aload_n 0, 1) := by decide +kernel
theorem dX9_law_63 : decode cX9_law 63 = .ok (.iconst 0, 1) := by decide +kernel
theorem dX9_law_64 : decode cX9_law 64 = .ok (.putfield 123, 3) := by decide +kernel
theorem dX9_law_67 : decode cX9_law 67 = .ok (.aload_n 0, 1) := by decide +kernel
theorem dX9_law_68 : decode cX9_law 68 = .ok (.getfield 67, 3) := by decide +kernel
theorem dX9_law_71 : decode cX9_law 71 = .ok (.aload_n 0, 1) := by decide +kernel
theorem dX9_law_72 : decode cX9_law 72 = .ok (.getfield 188, 3) := by decide +kernel
theorem dX9_law_75 : decode cX9_law 75 = .ok (.iconst 0, 1) := by decide +kernel
theorem dX9_law_76 : decode cX9_law 76 = .ok (.iastore, 1) := by decide +kernel
theorem dX9_law_77 : decode cX9_law 77 = .ok (.iconst 1, 1) := by decide +kernel
theorem dX9_law_78 : decode cX9_law 78 = .ok (.istore_n 2, 1) := by decide +kernel
theorem dX9_law_79 : decode cX9_law 79 = .ok (.aload_n 0, 1) := by decide +kernel
theorem dX9_law_80 : decode cX9_law 80 = .ok (.invokevirtual 129, 3) := by decide +kernel
theorem dX9_law_83 : decode cX9_law 83 = .ok (.iload_n 2, 1) := by decide +kernel
theorem dX9_law_84 : decode cX9_law 84 = .ok (.ifCond .eq 85, 3) := by decide +kernel
theorem dX9_law_87 : decode cX9_law 87 = .ok (.aload_n 0, 1) := by decide +kernel
theorem dX9_law_88 : decode cX9_law 88 = .ok (.getfield 123, 3) := by decide +kernel
theorem dX9_law_91 : decode cX9_law 91 = .ok (.aload_n 0, 1) := by decide +kernel
theorem dX9_law_92 : decode cX9_law 92 = .ok (.getfield 126, 3) := by decide +kernel
theorem dX9_law_95 : decode cX9_law 95 = .ok (.if_icmp .ge 74, 3) := by decide +kernel
theorem dX9_law_98 : decode cX9_law 98 = .ok (.aload_n 0, 1) := by decide +kernel
theorem dX9_law_99 : decode cX9_law 99 = .ok (.getfield 67, 3) := by decide +kernel
theorem dX9_law_102 : decode cX9_law 102 = .ok (.aload_n 0, 1) := by decide +kernel
theorem dX9_law_103 : decode cX9_law 103 = .ok (.getfield 188, 3) := by decide +kernel
theorem dX9_law_106 : decode cX9_law 106 = .ok (.iaload, 1) := by decide +kernel
theorem dX9_law_107 : decode cX9_law 107 = .ok (.bipush 16, 2) := by decide +kernel
theorem dX9_law_109 : decode cX9_law 109 = .ok (.if_icmp .ge 31, 3) := by decide +kernel
theorem dX9_law_112 : decode cX9_law 112 = .ok (.aload_n 0, 1) := by decide +kernel
theorem dX9_law_113 : decode cX9_law 113 = .ok (.bipush 16, 2) := by decide +kernel
theorem dX9_law_115 : decode cX9_law 115 = .ok (.aload_n 0, 1) := by decide +kernel
theorem dX9_law_116 : decode cX9_law 116 = .ok (.getfield 188, 3) := by decide +kernel
theorem dX9_law_119 : decode cX9_law 119 = .ok (.imul, 1) := by decide +kernel
theorem dX9_law_120 : decode cX9_law 120 = .ok (.aload_n 0, 1) := by decide +kernel
theorem dX9_law_121 : decode cX9_law 121 = .ok (.getfield 67, 3) := by decide +kernel
theorem dX9_law_124 : decode cX9_law 124 = .ok (.aload_n 0, 1) := by decide +kernel
theorem dX9_law_125 : decode cX9_law 125 = .ok (.getfield 188, 3) := by decide +kernel
theorem dX9_law_128 : decode cX9_law 128 = .ok (.iaload, 1) := by decide +kernel
theorem dX9_law_129 : decode cX9_law 129 = .ok (.iadd, 1) := by decide +kernel
theorem dX9_law_130 : decode cX9_law 130 = .ok (.invokevirtual 191, 3) := by decide +kernel
theorem dX9_law_133 : decode cX9_law 133 = .ok (.ifCond .eq 7, 3) := by decide +kernel
theorem dX9_law_136 : decode cX9_law 136 = .ok (.iconst 1, 1) := by decide +kernel
theorem dX9_law_137 : decode cX9_law 137 = .ok (.goto 4, 3) := by decide +kernel
theorem dX9_law_140 : decode cX9_law 140 = .ok (.iconst 0, 1) := by decide +kernel
theorem dX9_law_141 : decode cX9_law 141 = .ok (.istore_n 2, 1) := by decide +kernel
theorem dX9_law_142 : decode cX9_law 142 = .ok (.iload_n 2, 1) := by decide +kernel
theorem dX9_law_143 : decode cX9_law 143 = .ok (.ifCond .ne 6, 3) := by decide +kernel
theorem dX9_law_146 : decode cX9_law 146 = .ok (.goto (-63), 3) := by decide +kernel
theorem dX9_law_149 : decode cX9_law 149 = .ok (.aload_n 0, 1) := by decide +kernel
theorem dX9_law_150 : decode cX9_law 150 = .ok (.getfield 67, 3) := by decide +kernel
theorem dX9_law_153 : decode cX9_law 153 = .ok (.aload_n 0, 1) := by decide +kernel
theorem dX9_law_154 : decode cX9_law 154 = .ok (.getfield 188, 3) := by decide +kernel
theorem dX9_law_157 : decode cX9_law 157 = .ok (.dup2, 1) := by decide +kernel
theorem dX9_law_158 : decode cX9_law 158 = .ok (.iaload, 1) := by decide +kernel
theorem dX9_law_159 : decode cX9_law 159 = .ok (.iconst 1, 1) := by decide +kernel
theorem dX9_law_160 : decode cX9_law 160 = .ok (.iadd, 1) := by decide +kernel
theorem dX9_law_161 : decode cX9_law 161 = .ok (.iastore, 1) := by decide +kernel
theorem dX9_law_162 : decode cX9_law 162 = .ok (.aload_n 0, 1) := by decide +kernel
theorem dX9_law_163 : decode cX9_law 163 = .ok (.invokevirtual 129, 3) := by decide +kernel
theorem dX9_law_166 : decode cX9_law 166 = .ok (.goto (-83), 3) := by decide +kernel
theorem dX9_law_169 : decode cX9_law 169 = .ok (.aload_n 0, 1) := by decide +kernel
theorem dX9_law_170 : decode cX9_law 170 = .ok (.iload_n 2, 1) := by decide +kernel
theorem dX9_law_171 : decode cX9_law 171 = .ok (.ifCond .eq 7, 3) := by decide +kernel
theorem dX9_law_174 : decode cX9_law 174 = .ok (.iconst (-1), 1) := by decide +kernel
theorem dX9_law_175 : decode cX9_law 175 = .ok (.goto 7, 3) := by decide +kernel
theorem dX9_law_178 : decode cX9_law 178 = .ok (.aload_n 0, 1) := by decide +kernel
theorem dX9_law_179 : decode cX9_law 179 = .ok (.getfield 123, 3) := by decide +kernel
theorem dX9_law_182 : decode cX9_law 182 = .ok (.putfield 63, 3) := by decide +kernel
theorem dX9_law_185 : decode cX9_law 185 = .ok (.iload_n 2, 1) := by decide +kernel
theorem dX9_law_186 : decode cX9_law 186 = .ok (.ifCond .ne 5, 3) := by decide +kernel
theorem dX9_law_189 : decode cX9_law 189 = .ok (.iconst (-1), 1) := by decide +kernel
theorem dX9_law_190 : decode cX9_law 190 = .ok (.ireturn, 1) := by decide +kernel
theorem dX9_law_191 : decode cX9_law 191 = .ok (.aload_n 0, 1) := by decide +kernel
theorem dX9_law_192 : decode cX9_law 192 = .ok (.getfield 70, 3) := by decide +kernel
theorem dX9_law_195 : decode cX9_law 195 = .ok (.aload_n 0, 1) := by decide +kernel
theorem dX9_law_196 : decode cX9_law 196 = .ok (.getfield 188, 3) := by decide +kernel
theorem dX9_law_199 : decode cX9_law 199 = .ok (.aload_n 0, 1) := by decide +kernel
theorem dX9_law_200 : decode cX9_law 200 = .ok (.getfield 194, 3) := by decide +kernel
theorem dX9_law_203 : decode cX9_law 203 = .ok (.iastore, 1) := by decide +kernel
theorem dX9_law_204 : decode cX9_law 204 = .ok (.aload_n 0, 1) := by decide +kernel
theorem dX9_law_205 : decode cX9_law 205 = .ok (.dup, 1) := by decide +kernel
theorem dX9_law_206 : decode cX9_law 206 = .ok (.getfield 188, 3) := by decide +kernel
theorem dX9_law_209 : decode cX9_law 209 = .ok (.iconst 1, 1) := by decide +kernel
theorem dX9_law_210 : decode cX9_law 210 = .ok (.iadd, 1) := by decide +kernel
theorem dX9_law_211 : decode cX9_law 211 = .ok (.putfield 188, 3) := by decide +kernel
theorem dX9_law_214 : decode cX9_law 214 = .ok (.aload_n 0, 1) := by decide +kernel
theorem dX9_law_215 : decode cX9_law 215 = .ok (.getfield 188, 3) := by decide +kernel
theorem dX9_law_218 : decode cX9_law 218 = .ok (.iconst 1, 1) := by decide +kernel
theorem dX9_law_219 : decode cX9_law 219 = .ok (.isub, 1) := by decide +kernel
theorem dX9_law_220 : decode cX9_law 220 = .ok (.ireturn, 1) := by decide +kernel
theorem dX9_fault_0 : decode cX9_fault 0 = .ok (.aload_n 0, 1) := by decide +kernel
theorem dX9_fault_1 : decode cX9_fault 1 = .ok (.getfield 63, 3) := by decide +kernel
theorem dX9_fault_4 : decode cX9_fault 4 = .ok (.ireturn, 1) := by decide +kernel
theorem dX9_inForce_0 : decode cX9_inForce 0 = .ok (.iconst (-1), 1) := by decide +kernel
theorem dX9_inForce_1 : decode cX9_inForce 1 = .ok (.istore_n 2, 1) := by decide +kernel
theorem dX9_inForce_2 : decode cX9_inForce 2 = .ok (.iconst 0, 1) := by decide +kernel
theorem dX9_inForce_3 : decode cX9_inForce 3 = .ok (.istore_n 3, 1) := by decide +kernel
theorem dX9_inForce_4 : decode cX9_inForce 4 = .ok (.iload_n 3, 1) := by decide +kernel
theorem dX9_inForce_5 : decode cX9_inForce 5 = .ok (.aload_n 0, 1) := by decide +kernel
theorem dX9_inForce_6 : decode cX9_inForce 6 = .ok (.getfield 188, 3) := by decide +kernel
theorem dX9_inForce_9 : decode cX9_inForce 9 = .ok (.if_icmp .ge 21, 3) := by decide +kernel
theorem dX9_inForce_12 : decode cX9_inForce 12 = .ok (.aload_n 0, 1) := by decide +kernel
theorem dX9_inForce_13 : decode cX9_inForce 13 = .ok (.getfield 70, 3) := by decide +kernel
theorem dX9_inForce_16 : decode cX9_inForce 16 = .ok (.iload_n 3, 1) := by decide +kernel
theorem dX9_inForce_17 : decode cX9_inForce 17 = .ok (.iaload, 1) := by decide +kernel
theorem dX9_inForce_18 : decode cX9_inForce 18 = .ok (.iload_n 1, 1) := by decide +kernel
theorem dX9_inForce_19 : decode cX9_inForce 19 = .ok (.if_icmp .gt 5, 3) := by decide +kernel
theorem dX9_inForce_22 : decode cX9_inForce 22 = .ok (.iload_n 3, 1) := by decide +kernel
theorem dX9_inForce_23 : decode cX9_inForce 23 = .ok (.istore_n 2, 1) := by decide +kernel
theorem dX9_inForce_24 : decode cX9_inForce 24 = .ok (.iinc 3 1, 3) := by decide +kernel
theorem dX9_inForce_27 : decode cX9_inForce 27 = .ok (.goto (-23), 3) := by decide +kernel
theorem dX9_inForce_30 : decode cX9_inForce 30 = .ok (.iload_n 2, 1) := by decide +kernel
theorem dX9_inForce_31 : decode cX9_inForce 31 = .ok (.ireturn, 1) := by decide +kernel
theorem dX9_lastOf_0 : decode cX9_lastOf 0 = .ok (.aload_n 0, 1) := by decide +kernel
theorem dX9_lastOf_1 : decode cX9_lastOf 1 = .ok (.iload_n 1, 1) := by decide +kernel
theorem dX9_lastOf_2 : decode cX9_lastOf 2 = .ok (.invokevirtual 197, 3) := by decide +kernel
theorem dX9_lastOf_5 : decode cX9_lastOf 5 = .ok (.istore 4, 2) := by decide +kernel
theorem dX9_lastOf_7 : decode cX9_lastOf 7 = .ok (.iload_n 3, 1) := by decide +kernel
theorem dX9_lastOf_8 : decode cX9_lastOf 8 = .ok (.istore 5, 2) := by decide +kernel
theorem dX9_lastOf_10 : decode cX9_lastOf 10 = .ok (.bipush 16, 2) := by decide +kernel
theorem dX9_lastOf_12 : decode cX9_lastOf 12 = .ok (.iload 4, 2) := by decide +kernel
theorem dX9_lastOf_14 : decode cX9_lastOf 14 = .ok (.imul, 1) := by decide +kernel
theorem dX9_lastOf_15 : decode cX9_lastOf 15 = .ok (.istore 6, 2) := by decide +kernel
theorem dX9_lastOf_17 : decode cX9_lastOf 17 = .ok (.iload 4, 2) := by decide +kernel
theorem dX9_lastOf_19 : decode cX9_lastOf 19 = .ok (.iconst (-1), 1) := by decide +kernel
theorem dX9_lastOf_20 : decode cX9_lastOf 20 = .ok (.if_icmp .eq 47, 3) := by decide +kernel
theorem dX9_lastOf_23 : decode cX9_lastOf 23 = .ok (.iload 6, 2) := by decide +kernel
theorem dX9_lastOf_25 : decode cX9_lastOf 25 = .ok (.bipush 16, 2) := by decide +kernel
theorem dX9_lastOf_27 : decode cX9_lastOf 27 = .ok (.iload 4, 2) := by decide +kernel
theorem dX9_lastOf_29 : decode cX9_lastOf 29 = .ok (.imul, 1) := by decide +kernel
theorem dX9_lastOf_30 : decode cX9_lastOf 30 = .ok (.aload_n 0, 1) := by decide +kernel
theorem dX9_lastOf_31 : decode cX9_lastOf 31 = .ok (.getfield 67, 3) := by decide +kernel
theorem dX9_lastOf_34 : decode cX9_lastOf 34 = .ok (.iload 4, 2) := by decide +kernel
theorem dX9_lastOf_36 : decode cX9_lastOf 36 = .ok (.iaload, 1) := by decide +kernel
theorem dX9_lastOf_37 : decode cX9_lastOf 37 = .ok (.iadd, 1) := by decide +kernel
theorem dX9_lastOf_38 : decode cX9_lastOf 38 = .ok (.if_icmp .ge 29, 3) := by decide +kernel
theorem dX9_lastOf_41 : decode cX9_lastOf 41 = .ok (.aload_n 0, 1) := by decide +kernel
theorem dX9_lastOf_42 : decode cX9_lastOf 42 = .ok (.getfield 73, 3) := by decide +kernel
theorem dX9_lastOf_45 : decode cX9_lastOf 45 = .ok (.iload 6, 2) := by decide +kernel
theorem dX9_lastOf_47 : decode cX9_lastOf 47 = .ok (.iaload, 1) := by decide +kernel
theorem dX9_lastOf_48 : decode cX9_lastOf 48 = .ok (.iload_n 2, 1) := by decide +kernel
theorem dX9_lastOf_49 : decode cX9_lastOf 49 = .ok (.if_icmp .ne 12, 3) := by decide +kernel
theorem dX9_lastOf_52 : decode cX9_lastOf 52 = .ok (.aload_n 0, 1) := by decide +kernel
theorem dX9_lastOf_53 : decode cX9_lastOf 53 = .ok (.getfield 76, 3) := by decide +kernel
theorem dX9_lastOf_56 : decode cX9_lastOf 56 = .ok (.iload 6, 2) := by decide +kernel
theorem dX9_lastOf_58 : decode cX9_lastOf 58 = .ok (.iaload, 1) := by decide +kernel
theorem dX9_lastOf_59 : decode cX9_lastOf 59 = .ok (.istore 5, 2) := by decide +kernel
theorem dX9_lastOf_61 : decode cX9_lastOf 61 = .ok (.iinc 6 1, 3) := by decide +kernel
theorem dX9_lastOf_64 : decode cX9_lastOf 64 = .ok (.goto (-47), 3) := by decide +kernel
theorem dX9_lastOf_67 : decode cX9_lastOf 67 = .ok (.iload 5, 2) := by decide +kernel
theorem dX9_lastOf_69 : decode cX9_lastOf 69 = .ok (.ireturn, 1) := by decide +kernel
theorem dX9_isClosed_0 : decode cX9_isClosed 0 = .ok (.aload_n 0, 1) := by decide +kernel
theorem dX9_isClosed_1 : decode cX9_isClosed 1 = .ok (.iload_n 1, 1) := by decide +kernel
theorem dX9_isClosed_2 : decode cX9_isClosed 2 = .ok (.invokevirtual 197, 3) := by decide +kernel
theorem dX9_isClosed_5 : decode cX9_isClosed 5 = .ok (.istore_n 3, 1) := by decide +kernel
theorem dX9_isClosed_6 : decode cX9_isClosed 6 = .ok (.iload_n 1, 1) := by decide +kernel
theorem dX9_isClosed_7 : decode cX9_isClosed 7 = .ok (.sipush 365, 3) := by decide +kernel
theorem dX9_isClosed_10 : decode cX9_isClosed 10 = .ok (.irem, 1) := by decide +kernel
theorem dX9_isClosed_11 : decode cX9_isClosed 11 = .ok (.istore 4, 2) := by decide +kernel
theorem dX9_isClosed_13 : decode cX9_isClosed 13 = .ok (.iconst 0, 1) := by decide +kernel
theorem dX9_isClosed_14 : decode cX9_isClosed 14 = .ok (.istore 5, 2) := by decide +kernel
theorem dX9_isClosed_16 : decode cX9_isClosed 16 = .ok (.bipush 16, 2) := by decide +kernel
theorem dX9_isClosed_18 : decode cX9_isClosed 18 = .ok (.iload_n 3, 1) := by decide +kernel
theorem dX9_isClosed_19 : decode cX9_isClosed 19 = .ok (.imul, 1) := by decide +kernel
theorem dX9_isClosed_20 : decode cX9_isClosed 20 = .ok (.istore 6, 2) := by decide +kernel
theorem dX9_isClosed_22 : decode cX9_isClosed 22 = .ok (.iload_n 3, 1) := by decide +kernel
theorem dX9_isClosed_23 : decode cX9_isClosed 23 = .ok (.iconst (-1), 1) := by decide +kernel
theorem dX9_isClosed_24 : decode cX9_isClosed 24 = .ok (.if_icmp .eq 138, 3) := by decide +kernel
theorem dX9_isClosed_27 : decode cX9_isClosed 27 = .ok (.iload 6, 2) := by decide +kernel
theorem dX9_isClosed_29 : decode cX9_isClosed 29 = .ok (.bipush 16, 2) := by decide +kernel
theorem dX9_isClosed_31 : decode cX9_isClosed 31 = .ok (.iload_n 3, 1) := by decide +kernel
theorem dX9_isClosed_32 : decode cX9_isClosed 32 = .ok (.imul, 1) := by decide +kernel
theorem dX9_isClosed_33 : decode cX9_isClosed 33 = .ok (.aload_n 0, 1) := by decide +kernel
theorem dX9_isClosed_34 : decode cX9_isClosed 34 = .ok (.getfield 67, 3) := by decide +kernel
theorem dX9_isClosed_37 : decode cX9_isClosed 37 = .ok (.iload_n 3, 1) := by decide +kernel
theorem dX9_isClosed_38 : decode cX9_isClosed 38 = .ok (.iaload, 1) := by decide +kernel
theorem dX9_isClosed_39 : decode cX9_isClosed 39 = .ok (.iadd, 1) := by decide +kernel
theorem dX9_isClosed_40 : decode cX9_isClosed 40 = .ok (.if_icmp .ge 122, 3) := by decide +kernel
theorem dX9_isClosed_43 : decode cX9_isClosed 43 = .ok (.aload_n 0, 1) := by decide +kernel
theorem dX9_isClosed_44 : decode cX9_isClosed 44 = .ok (.getfield 73, 3) := by decide +kernel
theorem dX9_isClosed_47 : decode cX9_isClosed 47 = .ok (.iload 6, 2) := by decide +kernel
theorem dX9_isClosed_49 : decode cX9_isClosed 49 = .ok (.iaload, 1) := by decide +kernel
theorem dX9_isClosed_50 : decode cX9_isClosed 50 = .ok (.iconst 2, 1) := by decide +kernel
theorem dX9_isClosed_51 : decode cX9_isClosed 51 = .ok (.if_icmp .ne 105, 3) := by decide +kernel
theorem dX9_isClosed_54 : decode cX9_isClosed 54 = .ok (.iload_n 2, 1) := by decide +kernel
theorem dX9_isClosed_55 : decode cX9_isClosed 55 = .ok (.aload_n 0, 1) := by decide +kernel
theorem dX9_isClosed_56 : decode cX9_isClosed 56 = .ok (.getfield 76, 3) := by decide +kernel
theorem dX9_isClosed_59 : decode cX9_isClosed 59 = .ok (.iload 6, 2) := by decide +kernel
theorem dX9_isClosed_61 : decode cX9_isClosed 61 = .ok (.iaload, 1) := by decide +kernel
theorem dX9_isClosed_62 : decode cX9_isClosed 62 = .ok (.aload_n 0, 1) := by decide +kernel
theorem dX9_isClosed_63 : decode cX9_isClosed 63 = .ok (.getfield 79, 3) := by decide +kernel
theorem dX9_isClosed_66 : decode cX9_isClosed 66 = .ok (.iload 6, 2) := by decide +kernel
theorem dX9_isClosed_68 : decode cX9_isClosed 68 = .ok (.iaload, 1) := by decide +kernel
theorem dX9_isClosed_69 : decode cX9_isClosed 69 = .ok (.invokestatic 109, 3) := by decide +kernel
theorem dX9_isClosed_72 : decode cX9_isClosed 72 = .ok (.ifCond .ne 6, 3) := by decide +kernel
theorem dX9_isClosed_75 : decode cX9_isClosed 75 = .ok (.goto 81, 3) := by decide +kernel
theorem dX9_isClosed_78 : decode cX9_isClosed 78 = .ok (.iload 5, 2) := by decide +kernel
theorem dX9_isClosed_80 : decode cX9_isClosed 80 = .ok (.ifCond .ne 69, 3) := by decide +kernel
theorem dX9_isClosed_83 : decode cX9_isClosed 83 = .ok (.aload_n 0, 1) := by decide +kernel
theorem dX9_isClosed_84 : decode cX9_isClosed 84 = .ok (.getfield 82, 3) := by decide +kernel
theorem dX9_isClosed_87 : decode cX9_isClosed 87 = .ok (.iload 6, 2) := by decide +kernel
theorem dX9_isClosed_89 : decode cX9_isClosed 89 = .ok (.iaload, 1) := by decide +kernel
theorem dX9_isClosed_90 : decode cX9_isClosed 90 = .ok (.aload_n 0, 1) := by decide +kernel
theorem dX9_isClosed_91 : decode cX9_isClosed 91 = .ok (.getfield 85, 3) := by decide +kernel
theorem dX9_isClosed_94 : decode cX9_isClosed 94 = .ok (.iload 6, 2) := by decide +kernel
theorem dX9_isClosed_96 : decode cX9_isClosed 96 = .ok (.iaload, 1) := by decide +kernel
theorem dX9_isClosed_97 : decode cX9_isClosed 97 = .ok (.if_icmp .gt 28, 3) := by decide +kernel
theorem dX9_isClosed_100 : decode cX9_isClosed 100 = .ok (.iload 4, 2) := by decide +kernel
theorem dX9_isClosed_102 : decode cX9_isClosed 102 = .ok (.aload_n 0, 1) := by decide +kernel
theorem dX9_isClosed_103 : decode cX9_isClosed 103 = .ok (.getfield 82, 3) := by decide +kernel
theorem dX9_isClosed_106 : decode cX9_isClosed 106 = .ok (.iload 6, 2) := by decide +kernel
theorem dX9_isClosed_108 : decode cX9_isClosed 108 = .ok (.iaload, 1) := by decide +kernel
theorem dX9_isClosed_109 : decode cX9_isClosed 109 = .ok (.aload_n 0, 1) := by decide +kernel
theorem dX9_isClosed_110 : decode cX9_isClosed 110 = .ok (.getfield 85, 3) := by decide +kernel
theorem dX9_isClosed_113 : decode cX9_isClosed 113 = .ok (.iload 6, 2) := by decide +kernel
theorem dX9_isClosed_115 : decode cX9_isClosed 115 = .ok (.iaload, 1) := by decide +kernel
theorem dX9_isClosed_116 : decode cX9_isClosed 116 = .ok (.invokestatic 109, 3) := by decide +kernel
theorem dX9_isClosed_119 : decode cX9_isClosed 119 = .ok (.ifCond .eq 34, 3) := by decide +kernel
theorem dX9_isClosed_122 : decode cX9_isClosed 122 = .ok (.goto 27, 3) := by decide +kernel
theorem dX9_isClosed_125 : decode cX9_isClosed 125 = .ok (.iload 4, 2) := by decide +kernel
theorem dX9_isClosed_127 : decode cX9_isClosed 127 = .ok (.aload_n 0, 1) := by decide +kernel
theorem dX9_isClosed_128 : decode cX9_isClosed 128 = .ok (.getfield 82, 3) := by decide +kernel
theorem dX9_isClosed_131 : decode cX9_isClosed 131 = .ok (.iload 6, 2) := by decide +kernel
theorem dX9_isClosed_133 : decode cX9_isClosed 133 = .ok (.iaload, 1) := by decide +kernel
theorem dX9_isClosed_134 : decode cX9_isClosed 134 = .ok (.if_icmp .ge 15, 3) := by decide +kernel
theorem dX9_isClosed_137 : decode cX9_isClosed 137 = .ok (.iload 4, 2) := by decide +kernel
theorem dX9_isClosed_139 : decode cX9_isClosed 139 = .ok (.aload_n 0, 1) := by decide +kernel
theorem dX9_isClosed_140 : decode cX9_isClosed 140 = .ok (.getfield 85, 3) := by decide +kernel
theorem dX9_isClosed_143 : decode cX9_isClosed 143 = .ok (.iload 6, 2) := by decide +kernel
theorem dX9_isClosed_145 : decode cX9_isClosed 145 = .ok (.iaload, 1) := by decide +kernel
theorem dX9_isClosed_146 : decode cX9_isClosed 146 = .ok (.if_icmp .gt 7, 3) := by decide +kernel
theorem dX9_isClosed_149 : decode cX9_isClosed 149 = .ok (.iconst 1, 1) := by decide +kernel
theorem dX9_isClosed_150 : decode cX9_isClosed 150 = .ok (.goto 4, 3) := by decide +kernel
theorem dX9_isClosed_153 : decode cX9_isClosed 153 = .ok (.iconst 0, 1) := by decide +kernel
theorem dX9_isClosed_154 : decode cX9_isClosed 154 = .ok (.istore 5, 2) := by decide +kernel
theorem dX9_isClosed_156 : decode cX9_isClosed 156 = .ok (.iinc 6 1, 3) := by decide +kernel
theorem dX9_isClosed_159 : decode cX9_isClosed 159 = .ok (.goto (-137), 3) := by decide +kernel
theorem dX9_isClosed_162 : decode cX9_isClosed 162 = .ok (.iload 5, 2) := by decide +kernel
theorem dX9_isClosed_164 : decode cX9_isClosed 164 = .ok (.ireturn, 1) := by decide +kernel
theorem dX9_tells_0 : decode cX9_tells 0 = .ok (.iload_n 1, 1) := by decide +kernel
theorem dX9_tells_1 : decode cX9_tells 1 = .ok (.iconst 0, 1) := by decide +kernel
theorem dX9_tells_2 : decode cX9_tells 2 = .ok (.sipush 1000, 3) := by decide +kernel
theorem dX9_tells_5 : decode cX9_tells 5 = .ok (.invokestatic 109, 3) := by decide +kernel
theorem dX9_tells_8 : decode cX9_tells 8 = .ok (.ifCond .ne 5, 3) := by decide +kernel
theorem dX9_tells_11 : decode cX9_tells 11 = .ok (.iconst (-1), 1) := by decide +kernel
theorem dX9_tells_12 : decode cX9_tells 12 = .ok (.ireturn, 1) := by decide +kernel
theorem dX9_tells_13 : decode cX9_tells 13 = .ok (.iload_n 2, 1) := by decide +kernel
theorem dX9_tells_14 : decode cX9_tells 14 = .ok (.bipush 10, 2) := by decide +kernel
theorem dX9_tells_16 : decode cX9_tells 16 = .ok (.bipush 25, 2) := by decide +kernel
theorem dX9_tells_18 : decode cX9_tells 18 = .ok (.invokestatic 109, 3) := by decide +kernel
theorem dX9_tells_21 : decode cX9_tells 21 = .ok (.ifCond .eq 16, 3) := by decide +kernel
theorem dX9_tells_24 : decode cX9_tells 24 = .ok (.aload_n 0, 1) := by decide +kernel
theorem dX9_tells_25 : decode cX9_tells 25 = .ok (.iload_n 1, 1) := by decide +kernel
theorem dX9_tells_26 : decode cX9_tells 26 = .ok (.iload_n 2, 1) := by decide +kernel
theorem dX9_tells_27 : decode cX9_tells 27 = .ok (.bipush 10, 2) := by decide +kernel
theorem dX9_tells_29 : decode cX9_tells 29 = .ok (.isub, 1) := by decide +kernel
theorem dX9_tells_30 : decode cX9_tells 30 = .ok (.invokevirtual 201, 3) := by decide +kernel
theorem dX9_tells_33 : decode cX9_tells 33 = .ok (.invokestatic 205, 3) := by decide +kernel
theorem dX9_tells_36 : decode cX9_tells 36 = .ok (.ireturn, 1) := by decide +kernel
theorem dX9_tells_37 : decode cX9_tells 37 = .ok (.iload_n 2, 1) := by decide +kernel
theorem dX9_tells_38 : decode cX9_tells 38 = .ok (.ifCond .ne 15, 3) := by decide +kernel
theorem dX9_tells_41 : decode cX9_tells 41 = .ok (.aload_n 0, 1) := by decide +kernel
theorem dX9_tells_42 : decode cX9_tells 42 = .ok (.iload_n 1, 1) := by decide +kernel
theorem dX9_tells_43 : decode cX9_tells 43 = .ok (.iconst 0, 1) := by decide +kernel
theorem dX9_tells_44 : decode cX9_tells 44 = .ok (.sipush 550, 3) := by decide +kernel
theorem dX9_tells_47 : decode cX9_tells 47 = .ok (.invokevirtual 209, 3) := by decide +kernel
theorem dX9_tells_50 : decode cX9_tells 50 = .ok (.goto 32, 3) := by decide +kernel
theorem dX9_tells_53 : decode cX9_tells 53 = .ok (.iload_n 2, 1) := by decide +kernel
theorem dX9_tells_54 : decode cX9_tells 54 = .ok (.iconst 1, 1) := by decide +kernel
theorem dX9_tells_55 : decode cX9_tells 55 = .ok (.if_icmp .ne 13, 3) := by decide +kernel
theorem dX9_tells_58 : decode cX9_tells 58 = .ok (.aload_n 0, 1) := by decide +kernel
theorem dX9_tells_59 : decode cX9_tells 59 = .ok (.iload_n 1, 1) := by decide +kernel
theorem dX9_tells_60 : decode cX9_tells 60 = .ok (.iconst 1, 1) := by decide +kernel
theorem dX9_tells_61 : decode cX9_tells 61 = .ok (.iconst 0, 1) := by decide +kernel
theorem dX9_tells_62 : decode cX9_tells 62 = .ok (.invokevirtual 209, 3) := by decide +kernel
theorem dX9_tells_65 : decode cX9_tells 65 = .ok (.goto 17, 3) := by decide +kernel
theorem dX9_tells_68 : decode cX9_tells 68 = .ok (.iload_n 2, 1) := by decide +kernel
theorem dX9_tells_69 : decode cX9_tells 69 = .ok (.iconst 2, 1) := by decide +kernel
theorem dX9_tells_70 : decode cX9_tells 70 = .ok (.if_icmp .ne 11, 3) := by decide +kernel
theorem dX9_tells_73 : decode cX9_tells 73 = .ok (.aload_n 0, 1) := by decide +kernel
theorem dX9_tells_74 : decode cX9_tells 74 = .ok (.iload_n 1, 1) := by decide +kernel
theorem dX9_tells_75 : decode cX9_tells 75 = .ok (.invokevirtual 197, 3) := by decide +kernel
theorem dX9_tells_78 : decode cX9_tells 78 = .ok (.goto 4, 3) := by decide +kernel
theorem dX9_tells_81 : decode cX9_tells 81 = .ok (.iconst (-1), 1) := by decide +kernel
theorem dX9_tells_82 : decode cX9_tells 82 = .ok (.ireturn, 1) := by decide +kernel
theorem dX9_depth_0 : decode cX9_depth 0 = .ok (.iload_n 1, 1) := by decide +kernel
theorem dX9_depth_1 : decode cX9_depth 1 = .ok (.invokestatic 213, 3) := by decide +kernel
theorem dX9_depth_4 : decode cX9_depth 4 = .ok (.ifCond .eq 23, 3) := by decide +kernel
theorem dX9_depth_7 : decode cX9_depth 7 = .ok (.iload_n 2, 1) := by decide +kernel
theorem dX9_depth_8 : decode cX9_depth 8 = .ok (.iconst 0, 1) := by decide +kernel
theorem dX9_depth_9 : decode cX9_depth 9 = .ok (.sipush 3000, 3) := by decide +kernel
theorem dX9_depth_12 : decode cX9_depth 12 = .ok (.invokestatic 109, 3) := by decide +kernel
theorem dX9_depth_15 : decode cX9_depth 15 = .ok (.ifCond .eq 12, 3) := by decide +kernel
theorem dX9_depth_18 : decode cX9_depth 18 = .ok (.aload_n 0, 1) := by decide +kernel
theorem dX9_depth_19 : decode cX9_depth 19 = .ok (.getfield 13, 3) := by decide +kernel
theorem dX9_depth_22 : decode cX9_depth 22 = .ok (.iload_n 1, 1) := by decide +kernel
theorem dX9_depth_23 : decode cX9_depth 23 = .ok (.iaload, 1) := by decide +kernel
theorem dX9_depth_24 : decode cX9_depth 24 = .ok (.ifCond .eq 5, 3) := by decide +kernel
theorem dX9_depth_27 : decode cX9_depth 27 = .ok (.iconst 0, 1) := by decide +kernel
theorem dX9_depth_28 : decode cX9_depth 28 = .ok (.ireturn, 1) := by decide +kernel
theorem dX9_depth_29 : decode cX9_depth 29 = .ok (.aload_n 0, 1) := by decide +kernel
theorem dX9_depth_30 : decode cX9_depth 30 = .ok (.getfield 7, 3) := by decide +kernel
theorem dX9_depth_33 : decode cX9_depth 33 = .ok (.iload_n 1, 1) := by decide +kernel
theorem dX9_depth_34 : decode cX9_depth 34 = .ok (.iload_n 2, 1) := by decide +kernel
theorem dX9_depth_35 : decode cX9_depth 35 = .ok (.iastore, 1) := by decide +kernel
theorem dX9_depth_36 : decode cX9_depth 36 = .ok (.iconst 1, 1) := by decide +kernel
theorem dX9_depth_37 : decode cX9_depth 37 = .ok (.ireturn, 1) := by decide +kernel
theorem dX9_mill_0 : decode cX9_mill 0 = .ok (.iload_n 1, 1) := by decide +kernel
theorem dX9_mill_1 : decode cX9_mill 1 = .ok (.invokestatic 213, 3) := by decide +kernel
theorem dX9_mill_4 : decode cX9_mill 4 = .ok (.ifCond .eq 13, 3) := by decide +kernel
theorem dX9_mill_7 : decode cX9_mill 7 = .ok (.iload_n 2, 1) := by decide +kernel
theorem dX9_mill_8 : decode cX9_mill 8 = .ok (.iconst 1, 1) := by decide +kernel
theorem dX9_mill_9 : decode cX9_mill 9 = .ok (.bipush 20, 2) := by decide +kernel
theorem dX9_mill_11 : decode cX9_mill 11 = .ok (.invokestatic 109, 3) := by decide +kernel
theorem dX9_mill_14 : decode cX9_mill 14 = .ok (.ifCond .ne 6, 3) := by decide +kernel
theorem dX9_mill_17 : decode cX9_mill 17 = .ok (.bipush (-2), 2) := by decide +kernel
theorem dX9_mill_19 : decode cX9_mill 19 = .ok (.ireturn, 1) := by decide +kernel
theorem dX9_mill_20 : decode cX9_mill 20 = .ok (.aload_n 0, 1) := by decide +kernel
theorem dX9_mill_21 : decode cX9_mill 21 = .ok (.getfield 13, 3) := by decide +kernel
theorem dX9_mill_24 : decode cX9_mill 24 = .ok (.iload_n 1, 1) := by decide +kernel
theorem dX9_mill_25 : decode cX9_mill 25 = .ok (.iaload, 1) := by decide +kernel
theorem dX9_mill_26 : decode cX9_mill 26 = .ok (.ifCond .eq 6, 3) := by decide +kernel
theorem dX9_mill_29 : decode cX9_mill 29 = .ok (.bipush (-3), 2) := by decide +kernel
theorem dX9_mill_31 : decode cX9_mill 31 = .ok (.ireturn, 1) := by decide +kernel
theorem dX9_mill_32 : decode cX9_mill 32 = .ok (.aload_n 0, 1) := by decide +kernel
theorem dX9_mill_33 : decode cX9_mill 33 = .ok (.aload_n 0, 1) := by decide +kernel
theorem dX9_mill_34 : decode cX9_mill 34 = .ok (.getfield 194, 3) := by decide +kernel
theorem dX9_mill_37 : decode cX9_mill 37 = .ok (.iload_n 1, 1) := by decide +kernel
theorem dX9_mill_38 : decode cX9_mill 38 = .ok (.invokevirtual 201, 3) := by decide +kernel
theorem dX9_mill_41 : decode cX9_mill 41 = .ok (.ifCond .eq 6, 3) := by decide +kernel
theorem dX9_mill_44 : decode cX9_mill 44 = .ok (.bipush (-4), 2) := by decide +kernel
theorem dX9_mill_46 : decode cX9_mill 46 = .ok (.ireturn, 1) := by decide +kernel
theorem dX9_mill_47 : decode cX9_mill 47 = .ok (.aload_n 0, 1) := by decide +kernel
theorem dX9_mill_48 : decode cX9_mill 48 = .ok (.getfield 7, 3) := by decide +kernel
theorem dX9_mill_51 : decode cX9_mill 51 = .ok (.iload_n 1, 1) := by decide +kernel
theorem dX9_mill_52 : decode cX9_mill 52 = .ok (.iaload, 1) := by decide +kernel
theorem dX9_mill_53 : decode cX9_mill 53 = .ok (.iload_n 2, 1) := by decide +kernel
theorem dX9_mill_54 : decode cX9_mill 54 = .ok (.isub, 1) := by decide +kernel
theorem dX9_mill_55 : decode cX9_mill 55 = .ok (.aload_n 0, 1) := by decide +kernel
theorem dX9_mill_56 : decode cX9_mill 56 = .ok (.aload_n 0, 1) := by decide +kernel
theorem dX9_mill_57 : decode cX9_mill 57 = .ok (.getfield 194, 3) := by decide +kernel
theorem dX9_mill_60 : decode cX9_mill 60 = .ok (.iconst 1, 1) := by decide +kernel
theorem dX9_mill_61 : decode cX9_mill 61 = .ok (.iconst 0, 1) := by decide +kernel
theorem dX9_mill_62 : decode cX9_mill 62 = .ok (.invokevirtual 209, 3) := by decide +kernel
theorem dX9_mill_65 : decode cX9_mill 65 = .ok (.if_icmp .ge 6, 3) := by decide +kernel
theorem dX9_mill_68 : decode cX9_mill 68 = .ok (.bipush (-5), 2) := by decide +kernel
theorem dX9_mill_70 : decode cX9_mill 70 = .ok (.ireturn, 1) := by decide +kernel
theorem dX9_mill_71 : decode cX9_mill 71 = .ok (.aload_n 0, 1) := by decide +kernel
theorem dX9_mill_72 : decode cX9_mill 72 = .ok (.getfield 7, 3) := by decide +kernel
theorem dX9_mill_75 : decode cX9_mill 75 = .ok (.iload_n 1, 1) := by decide +kernel
theorem dX9_mill_76 : decode cX9_mill 76 = .ok (.dup2, 1) := by decide +kernel
theorem dX9_mill_77 : decode cX9_mill 77 = .ok (.iaload, 1) := by decide +kernel
theorem dX9_mill_78 : decode cX9_mill 78 = .ok (.iload_n 2, 1) := by decide +kernel
theorem dX9_mill_79 : decode cX9_mill 79 = .ok (.isub, 1) := by decide +kernel
theorem dX9_mill_80 : decode cX9_mill 80 = .ok (.iastore, 1) := by decide +kernel
theorem dX9_mill_81 : decode cX9_mill 81 = .ok (.aload_n 0, 1) := by decide +kernel
theorem dX9_mill_82 : decode cX9_mill 82 = .ok (.getfield 13, 3) := by decide +kernel
theorem dX9_mill_85 : decode cX9_mill 85 = .ok (.iload_n 1, 1) := by decide +kernel
theorem dX9_mill_86 : decode cX9_mill 86 = .ok (.iconst 1, 1) := by decide +kernel
theorem dX9_mill_87 : decode cX9_mill 87 = .ok (.iastore, 1) := by decide +kernel
theorem dX9_mill_88 : decode cX9_mill 88 = .ok (.aload_n 0, 1) := by decide +kernel
theorem dX9_mill_89 : decode cX9_mill 89 = .ok (.getfield 16, 3) := by decide +kernel
theorem dX9_mill_92 : decode cX9_mill 92 = .ok (.iload_n 1, 1) := by decide +kernel
theorem dX9_mill_93 : decode cX9_mill 93 = .ok (.bipush 10, 2) := by decide +kernel
theorem dX9_mill_95 : decode cX9_mill 95 = .ok (.iload_n 2, 1) := by decide +kernel
theorem dX9_mill_96 : decode cX9_mill 96 = .ok (.imul, 1) := by decide +kernel
theorem dX9_mill_97 : decode cX9_mill 97 = .ok (.iastore, 1) := by decide +kernel
theorem dX9_mill_98 : decode cX9_mill 98 = .ok (.aload_n 0, 1) := by decide +kernel
theorem dX9_mill_99 : decode cX9_mill 99 = .ok (.getfield 19, 3) := by decide +kernel
theorem dX9_mill_102 : decode cX9_mill 102 = .ok (.iload_n 1, 1) := by decide +kernel
theorem dX9_mill_103 : decode cX9_mill 103 = .ok (.sipush 800, 3) := by decide +kernel
theorem dX9_mill_106 : decode cX9_mill 106 = .ok (.iastore, 1) := by decide +kernel
theorem dX9_mill_107 : decode cX9_mill 107 = .ok (.iconst 0, 1) := by decide +kernel
theorem dX9_mill_108 : decode cX9_mill 108 = .ok (.ireturn, 1) := by decide +kernel
theorem dX9_ridge_0 : decode cX9_ridge 0 = .ok (.iload_n 1, 1) := by decide +kernel
theorem dX9_ridge_1 : decode cX9_ridge 1 = .ok (.invokestatic 213, 3) := by decide +kernel
theorem dX9_ridge_4 : decode cX9_ridge 4 = .ok (.ifCond .eq 13, 3) := by decide +kernel
theorem dX9_ridge_7 : decode cX9_ridge 7 = .ok (.aload_n 0, 1) := by decide +kernel
theorem dX9_ridge_8 : decode cX9_ridge 8 = .ok (.getfield 13, 3) := by decide +kernel
theorem dX9_ridge_11 : decode cX9_ridge 11 = .ok (.iload_n 1, 1) := by decide +kernel
theorem dX9_ridge_12 : decode cX9_ridge 12 = .ok (.iaload, 1) := by decide +kernel
theorem dX9_ridge_13 : decode cX9_ridge 13 = .ok (.iconst 1, 1) := by decide +kernel
theorem dX9_ridge_14 : decode cX9_ridge 14 = .ok (.if_icmp .eq 5, 3) := by decide +kernel
theorem dX9_ridge_17 : decode cX9_ridge 17 = .ok (.iconst 0, 1) := by decide +kernel
theorem dX9_ridge_18 : decode cX9_ridge 18 = .ok (.ireturn, 1) := by decide +kernel
theorem dX9_ridge_19 : decode cX9_ridge 19 = .ok (.aload_n 0, 1) := by decide +kernel
theorem dX9_ridge_20 : decode cX9_ridge 20 = .ok (.getfield 13, 3) := by decide +kernel
theorem dX9_ridge_23 : decode cX9_ridge 23 = .ok (.iload_n 1, 1) := by decide +kernel
theorem dX9_ridge_24 : decode cX9_ridge 24 = .ok (.iconst 2, 1) := by decide +kernel
theorem dX9_ridge_25 : decode cX9_ridge 25 = .ok (.iastore, 1) := by decide +kernel
theorem dX9_ridge_26 : decode cX9_ridge 26 = .ok (.iconst 1, 1) := by decide +kernel
theorem dX9_ridge_27 : decode cX9_ridge 27 = .ok (.ireturn, 1) := by decide +kernel
theorem dX9_probe_0 : decode cX9_probe 0 = .ok (.iload_n 1, 1) := by decide +kernel
theorem dX9_probe_1 : decode cX9_probe 1 = .ok (.invokestatic 213, 3) := by decide +kernel
theorem dX9_probe_4 : decode cX9_probe 4 = .ok (.ifCond .eq 34, 3) := by decide +kernel
theorem dX9_probe_7 : decode cX9_probe 7 = .ok (.aload_n 0, 1) := by decide +kernel
theorem dX9_probe_8 : decode cX9_probe 8 = .ok (.getfield 13, 3) := by decide +kernel
theorem dX9_probe_11 : decode cX9_probe 11 = .ok (.iload_n 1, 1) := by decide +kernel
theorem dX9_probe_12 : decode cX9_probe 12 = .ok (.iaload, 1) := by decide +kernel
theorem dX9_probe_13 : decode cX9_probe 13 = .ok (.ifCond .eq 25, 3) := by decide +kernel
theorem dX9_probe_16 : decode cX9_probe 16 = .ok (.iload_n 2, 1) := by decide +kernel
theorem dX9_probe_17 : decode cX9_probe 17 = .ok (.iconst 0, 1) := by decide +kernel
theorem dX9_probe_18 : decode cX9_probe 18 = .ok (.sipush 900, 3) := by decide +kernel
theorem dX9_probe_21 : decode cX9_probe 21 = .ok (.invokestatic 109, 3) := by decide +kernel
theorem dX9_probe_24 : decode cX9_probe 24 = .ok (.ifCond .eq 14, 3) := by decide +kernel
theorem dX9_probe_27 : decode cX9_probe 27 = .ok (.aload_n 0, 1) := by decide +kernel
theorem dX9_probe_28 : decode cX9_probe 28 = .ok (.getfield 22, 3) := by decide +kernel
theorem dX9_probe_31 : decode cX9_probe 31 = .ok (.iload_n 1, 1) := by decide +kernel
theorem dX9_probe_32 : decode cX9_probe 32 = .ok (.iaload, 1) := by decide +kernel
theorem dX9_probe_33 : decode cX9_probe 33 = .ok (.bipush 8, 2) := by decide +kernel
theorem dX9_probe_35 : decode cX9_probe 35 = .ok (.if_icmp .ne 5, 3) := by decide +kernel
theorem dX9_probe_38 : decode cX9_probe 38 = .ok (.iconst (-1), 1) := by decide +kernel
theorem dX9_probe_39 : decode cX9_probe 39 = .ok (.ireturn, 1) := by decide +kernel
theorem dX9_probe_40 : decode cX9_probe 40 = .ok (.aload_n 0, 1) := by decide +kernel
theorem dX9_probe_41 : decode cX9_probe 41 = .ok (.getfield 25, 3) := by decide +kernel
theorem dX9_probe_44 : decode cX9_probe 44 = .ok (.iload_n 1, 1) := by decide +kernel
theorem dX9_probe_45 : decode cX9_probe 45 = .ok (.aload_n 0, 1) := by decide +kernel
theorem dX9_probe_46 : decode cX9_probe 46 = .ok (.getfield 22, 3) := by decide +kernel
theorem dX9_probe_49 : decode cX9_probe 49 = .ok (.iload_n 1, 1) := by decide +kernel
theorem dX9_probe_50 : decode cX9_probe 50 = .ok (.iaload, 1) := by decide +kernel
theorem dX9_probe_51 : decode cX9_probe 51 = .ok (.ifCond .ne 7, 3) := by decide +kernel
theorem dX9_probe_54 : decode cX9_probe 54 = .ok (.iload_n 2, 1) := by decide +kernel
theorem dX9_probe_55 : decode cX9_probe 55 = .ok (.goto 13, 3) := by decide +kernel
theorem dX9_probe_58 : decode cX9_probe 58 = .ok (.aload_n 0, 1) := by decide +kernel
theorem dX9_probe_59 : decode cX9_probe 59 = .ok (.getfield 25, 3) := by decide +kernel
theorem dX9_probe_62 : decode cX9_probe 62 = .ok (.iload_n 1, 1) := by decide +kernel
theorem dX9_probe_63 : decode cX9_probe 63 = .ok (.iaload, 1) := by decide +kernel
theorem dX9_probe_64 : decode cX9_probe 64 = .ok (.iload_n 2, 1) := by decide +kernel
theorem dX9_probe_65 : decode cX9_probe 65 = .ok (.invokestatic 216, 3) := by decide +kernel
theorem dX9_probe_68 : decode cX9_probe 68 = .ok (.iastore, 1) := by decide +kernel
theorem dX9_probe_69 : decode cX9_probe 69 = .ok (.aload_n 0, 1) := by decide +kernel
theorem dX9_probe_70 : decode cX9_probe 70 = .ok (.getfield 22, 3) := by decide +kernel
theorem dX9_probe_73 : decode cX9_probe 73 = .ok (.iload_n 1, 1) := by decide +kernel
theorem dX9_probe_74 : decode cX9_probe 74 = .ok (.dup2, 1) := by decide +kernel
theorem dX9_probe_75 : decode cX9_probe 75 = .ok (.iaload, 1) := by decide +kernel
theorem dX9_probe_76 : decode cX9_probe 76 = .ok (.iconst 1, 1) := by decide +kernel
theorem dX9_probe_77 : decode cX9_probe 77 = .ok (.iadd, 1) := by decide +kernel
theorem dX9_probe_78 : decode cX9_probe 78 = .ok (.iastore, 1) := by decide +kernel
theorem dX9_probe_79 : decode cX9_probe 79 = .ok (.aload_n 0, 1) := by decide +kernel
theorem dX9_probe_80 : decode cX9_probe 80 = .ok (.getfield 22, 3) := by decide +kernel
theorem dX9_probe_83 : decode cX9_probe 83 = .ok (.iload_n 1, 1) := by decide +kernel
theorem dX9_probe_84 : decode cX9_probe 84 = .ok (.iaload, 1) := by decide +kernel
theorem dX9_probe_85 : decode cX9_probe 85 = .ok (.ireturn, 1) := by decide +kernel
theorem dX9_stack_0 : decode cX9_stack 0 = .ok (.aload_n 0, 1) := by decide +kernel
theorem dX9_stack_1 : decode cX9_stack 1 = .ok (.getfield 113, 3) := by decide +kernel
theorem dX9_stack_4 : decode cX9_stack 4 = .ok (.bipush 10, 2) := by decide +kernel
theorem dX9_stack_6 : decode cX9_stack 6 = .ok (.if_icmp .ne 5, 3) := by decide +kernel
theorem dX9_stack_9 : decode cX9_stack 9 = .ok (.iconst (-1), 1) := by decide +kernel
theorem dX9_stack_10 : decode cX9_stack 10 = .ok (.ireturn, 1) := by decide +kernel
theorem dX9_stack_11 : decode cX9_stack 11 = .ok (.aload_n 0, 1) := by decide +kernel
theorem dX9_stack_12 : decode cX9_stack 12 = .ok (.getfield 37, 3) := by decide +kernel
theorem dX9_stack_15 : decode cX9_stack 15 = .ok (.aload_n 0, 1) := by decide +kernel
theorem dX9_stack_16 : decode cX9_stack 16 = .ok (.getfield 113, 3) := by decide +kernel
theorem dX9_stack_19 : decode cX9_stack 19 = .ok (.bipush 10, 2) := by decide +kernel
theorem dX9_stack_21 : decode cX9_stack 21 = .ok (.iastore, 1) := by decide +kernel
theorem dX9_stack_22 : decode cX9_stack 22 = .ok (.aload_n 0, 1) := by decide +kernel
theorem dX9_stack_23 : decode cX9_stack 23 = .ok (.getfield 40, 3) := by decide +kernel
theorem dX9_stack_26 : decode cX9_stack 26 = .ok (.aload_n 0, 1) := by decide +kernel
theorem dX9_stack_27 : decode cX9_stack 27 = .ok (.getfield 113, 3) := by decide +kernel
theorem dX9_stack_30 : decode cX9_stack 30 = .ok (.iconst (-1), 1) := by decide +kernel
theorem dX9_stack_31 : decode cX9_stack 31 = .ok (.iastore, 1) := by decide +kernel
theorem dX9_stack_32 : decode cX9_stack 32 = .ok (.aload_n 0, 1) := by decide +kernel
theorem dX9_stack_33 : decode cX9_stack 33 = .ok (.getfield 43, 3) := by decide +kernel
theorem dX9_stack_36 : decode cX9_stack 36 = .ok (.aload_n 0, 1) := by decide +kernel
theorem dX9_stack_37 : decode cX9_stack 37 = .ok (.getfield 113, 3) := by decide +kernel
theorem dX9_stack_40 : decode cX9_stack 40 = .ok (.aload_n 0, 1) := by decide +kernel
theorem dX9_stack_41 : decode cX9_stack 41 = .ok (.getfield 194, 3) := by decide +kernel
theorem dX9_stack_44 : decode cX9_stack 44 = .ok (.iastore, 1) := by decide +kernel
theorem dX9_stack_45 : decode cX9_stack 45 = .ok (.aload_n 0, 1) := by decide +kernel
theorem dX9_stack_46 : decode cX9_stack 46 = .ok (.getfield 46, 3) := by decide +kernel
theorem dX9_stack_49 : decode cX9_stack 49 = .ok (.aload_n 0, 1) := by decide +kernel
theorem dX9_stack_50 : decode cX9_stack 50 = .ok (.getfield 113, 3) := by decide +kernel
theorem dX9_stack_53 : decode cX9_stack 53 = .ok (.iconst (-1), 1) := by decide +kernel
theorem dX9_stack_54 : decode cX9_stack 54 = .ok (.iastore, 1) := by decide +kernel
theorem dX9_stack_55 : decode cX9_stack 55 = .ok (.aload_n 0, 1) := by decide +kernel
theorem dX9_stack_56 : decode cX9_stack 56 = .ok (.dup, 1) := by decide +kernel
theorem dX9_stack_57 : decode cX9_stack 57 = .ok (.getfield 113, 3) := by decide +kernel
theorem dX9_stack_60 : decode cX9_stack 60 = .ok (.iconst 1, 1) := by decide +kernel
theorem dX9_stack_61 : decode cX9_stack 61 = .ok (.iadd, 1) := by decide +kernel
theorem dX9_stack_62 : decode cX9_stack 62 = .ok (.putfield 113, 3) := by decide +kernel
theorem dX9_stack_65 : decode cX9_stack 65 = .ok (.aload_n 0, 1) := by decide +kernel
theorem dX9_stack_66 : decode cX9_stack 66 = .ok (.getfield 113, 3) := by decide +kernel
theorem dX9_stack_69 : decode cX9_stack 69 = .ok (.iconst 1, 1) := by decide +kernel
theorem dX9_stack_70 : decode cX9_stack 70 = .ok (.isub, 1) := by decide +kernel
theorem dX9_stack_71 : decode cX9_stack 71 = .ok (.ireturn, 1) := by decide +kernel
theorem dX9_bars_0 : decode cX9_bars 0 = .ok (.iload_n 1, 1) := by decide +kernel
theorem dX9_bars_1 : decode cX9_bars 1 = .ok (.invokestatic 213, 3) := by decide +kernel
theorem dX9_bars_4 : decode cX9_bars 4 = .ok (.ifCond .eq 12, 3) := by decide +kernel
theorem dX9_bars_7 : decode cX9_bars 7 = .ok (.aload_n 0, 1) := by decide +kernel
theorem dX9_bars_8 : decode cX9_bars 8 = .ok (.getfield 13, 3) := by decide +kernel
theorem dX9_bars_11 : decode cX9_bars 11 = .ok (.iload_n 1, 1) := by decide +kernel
theorem dX9_bars_12 : decode cX9_bars 12 = .ok (.iaload, 1) := by decide +kernel
theorem dX9_bars_13 : decode cX9_bars 13 = .ok (.ifCond .ne 5, 3) := by decide +kernel
theorem dX9_bars_16 : decode cX9_bars 16 = .ok (.iconst 1, 1) := by decide +kernel
theorem dX9_bars_17 : decode cX9_bars 17 = .ok (.ireturn, 1) := by decide +kernel
theorem dX9_bars_18 : decode cX9_bars 18 = .ok (.aload_n 0, 1) := by decide +kernel
theorem dX9_bars_19 : decode cX9_bars 19 = .ok (.aload_n 0, 1) := by decide +kernel
theorem dX9_bars_20 : decode cX9_bars 20 = .ok (.getfield 194, 3) := by decide +kernel
theorem dX9_bars_23 : decode cX9_bars 23 = .ok (.iload_n 1, 1) := by decide +kernel
theorem dX9_bars_24 : decode cX9_bars 24 = .ok (.invokevirtual 201, 3) := by decide +kernel
theorem dX9_bars_27 : decode cX9_bars 27 = .ok (.ifCond .eq 5, 3) := by decide +kernel
theorem dX9_bars_30 : decode cX9_bars 30 = .ok (.iconst 2, 1) := by decide +kernel
theorem dX9_bars_31 : decode cX9_bars 31 = .ok (.ireturn, 1) := by decide +kernel
theorem dX9_bars_32 : decode cX9_bars 32 = .ok (.aload_n 0, 1) := by decide +kernel
theorem dX9_bars_33 : decode cX9_bars 33 = .ok (.getfield 222, 3) := by decide +kernel
theorem dX9_bars_36 : decode cX9_bars 36 = .ok (.iload_n 1, 1) := by decide +kernel
theorem dX9_bars_37 : decode cX9_bars 37 = .ok (.isub, 1) := by decide +kernel
theorem dX9_bars_38 : decode cX9_bars 38 = .ok (.invokestatic 225, 3) := by decide +kernel
theorem dX9_bars_41 : decode cX9_bars 41 = .ok (.iconst 1, 1) := by decide +kernel
theorem dX9_bars_42 : decode cX9_bars 42 = .ok (.if_icmp .le 5, 3) := by decide +kernel
theorem dX9_bars_45 : decode cX9_bars 45 = .ok (.iconst 3, 1) := by decide +kernel
theorem dX9_bars_46 : decode cX9_bars 46 = .ok (.ireturn, 1) := by decide +kernel
theorem dX9_bars_47 : decode cX9_bars 47 = .ok (.aload_n 0, 1) := by decide +kernel
theorem dX9_bars_48 : decode cX9_bars 48 = .ok (.getfield 22, 3) := by decide +kernel
theorem dX9_bars_51 : decode cX9_bars 51 = .ok (.iload_n 1, 1) := by decide +kernel
theorem dX9_bars_52 : decode cX9_bars 52 = .ok (.iaload, 1) := by decide +kernel
theorem dX9_bars_53 : decode cX9_bars 53 = .ok (.iconst 3, 1) := by decide +kernel
theorem dX9_bars_54 : decode cX9_bars 54 = .ok (.if_icmp .ge 5, 3) := by decide +kernel
theorem dX9_bars_57 : decode cX9_bars 57 = .ok (.iconst 4, 1) := by decide +kernel
theorem dX9_bars_58 : decode cX9_bars 58 = .ok (.ireturn, 1) := by decide +kernel
theorem dX9_bars_59 : decode cX9_bars 59 = .ok (.aload_n 0, 1) := by decide +kernel
theorem dX9_bars_60 : decode cX9_bars 60 = .ok (.getfield 25, 3) := by decide +kernel
theorem dX9_bars_63 : decode cX9_bars 63 = .ok (.iload_n 1, 1) := by decide +kernel
theorem dX9_bars_64 : decode cX9_bars 64 = .ok (.iaload, 1) := by decide +kernel
theorem dX9_bars_65 : decode cX9_bars 65 = .ok (.aload_n 0, 1) := by decide +kernel
theorem dX9_bars_66 : decode cX9_bars 66 = .ok (.aload_n 0, 1) := by decide +kernel
theorem dX9_bars_67 : decode cX9_bars 67 = .ok (.getfield 194, 3) := by decide +kernel
theorem dX9_bars_70 : decode cX9_bars 70 = .ok (.iconst 0, 1) := by decide +kernel
theorem dX9_bars_71 : decode cX9_bars 71 = .ok (.sipush 550, 3) := by decide +kernel
theorem dX9_bars_74 : decode cX9_bars 74 = .ok (.invokevirtual 209, 3) := by decide +kernel
theorem dX9_bars_77 : decode cX9_bars 77 = .ok (.if_icmp .le 7, 3) := by decide +kernel
theorem dX9_bars_80 : decode cX9_bars 80 = .ok (.iconst 5, 1) := by decide +kernel
theorem dX9_bars_81 : decode cX9_bars 81 = .ok (.goto 4, 3) := by decide +kernel
theorem dX9_bars_84 : decode cX9_bars 84 = .ok (.iconst 0, 1) := by decide +kernel
theorem dX9_bars_85 : decode cX9_bars 85 = .ok (.ireturn, 1) := by decide +kernel
theorem dX9_burns_0 : decode cX9_burns 0 = .ok (.aload_n 0, 1) := by decide +kernel
theorem dX9_burns_1 : decode cX9_burns 1 = .ok (.getfield 46, 3) := by decide +kernel
theorem dX9_burns_4 : decode cX9_burns 4 = .ok (.iload_n 1, 1) := by decide +kernel
theorem dX9_burns_5 : decode cX9_burns 5 = .ok (.iaload, 1) := by decide +kernel
theorem dX9_burns_6 : decode cX9_burns 6 = .ok (.iconst (-1), 1) := by decide +kernel
theorem dX9_burns_7 : decode cX9_burns 7 = .ok (.if_icmp .eq 7, 3) := by decide +kernel
theorem dX9_burns_10 : decode cX9_burns 10 = .ok (.iconst 1, 1) := by decide +kernel
theorem dX9_burns_11 : decode cX9_burns 11 = .ok (.goto 4, 3) := by decide +kernel
theorem dX9_burns_14 : decode cX9_burns 14 = .ok (.iconst 0, 1) := by decide +kernel
theorem dX9_burns_15 : decode cX9_burns 15 = .ok (.ireturn, 1) := by decide +kernel
theorem dX9_gather_0 : decode cX9_gather 0 = .ok (.aload_n 0, 1) := by decide +kernel
theorem dX9_gather_1 : decode cX9_gather 1 = .ok (.iload_n 1, 1) := by decide +kernel
theorem dX9_gather_2 : decode cX9_gather 2 = .ok (.invokevirtual 228, 3) := by decide +kernel
theorem dX9_gather_5 : decode cX9_gather 5 = .ok (.ifCond .ne 28, 3) := by decide +kernel
theorem dX9_gather_8 : decode cX9_gather 8 = .ok (.aload_n 0, 1) := by decide +kernel
theorem dX9_gather_9 : decode cX9_gather 9 = .ok (.iload_n 2, 1) := by decide +kernel
theorem dX9_gather_10 : decode cX9_gather 10 = .ok (.invokevirtual 231, 3) := by decide +kernel
theorem dX9_gather_13 : decode cX9_gather 13 = .ok (.ifCond .eq 20, 3) := by decide +kernel
theorem dX9_gather_16 : decode cX9_gather 16 = .ok (.aload_n 0, 1) := by decide +kernel
theorem dX9_gather_17 : decode cX9_gather 17 = .ok (.iload_n 2, 1) := by decide +kernel
theorem dX9_gather_18 : decode cX9_gather 18 = .ok (.invokevirtual 234, 3) := by decide +kernel
theorem dX9_gather_21 : decode cX9_gather 21 = .ok (.ifCond .ne 12, 3) := by decide +kernel
theorem dX9_gather_24 : decode cX9_gather 24 = .ok (.aload_n 0, 1) := by decide +kernel
theorem dX9_gather_25 : decode cX9_gather 25 = .ok (.getfield 52, 3) := by decide +kernel
theorem dX9_gather_28 : decode cX9_gather 28 = .ok (.iload_n 2, 1) := by decide +kernel
theorem dX9_gather_29 : decode cX9_gather 29 = .ok (.baload, 1) := by decide +kernel
theorem dX9_gather_30 : decode cX9_gather 30 = .ok (.ifCond .eq 5, 3) := by decide +kernel
theorem dX9_gather_33 : decode cX9_gather 33 = .ok (.iconst (-1), 1) := by decide +kernel
theorem dX9_gather_34 : decode cX9_gather 34 = .ok (.ireturn, 1) := by decide +kernel
theorem dX9_gather_35 : decode cX9_gather 35 = .ok (.aload_n 0, 1) := by decide +kernel
theorem dX9_gather_36 : decode cX9_gather 36 = .ok (.getfield 16, 3) := by decide +kernel
theorem dX9_gather_39 : decode cX9_gather 39 = .ok (.iload_n 1, 1) := by decide +kernel
theorem dX9_gather_40 : decode cX9_gather 40 = .ok (.iaload, 1) := by decide +kernel
theorem dX9_gather_41 : decode cX9_gather 41 = .ok (.istore_n 3, 1) := by decide +kernel
theorem dX9_gather_42 : decode cX9_gather 42 = .ok (.aload_n 0, 1) := by decide +kernel
theorem dX9_gather_43 : decode cX9_gather 43 = .ok (.getfield 34, 3) := by decide +kernel
theorem dX9_gather_46 : decode cX9_gather 46 = .ok (.iload_n 2, 1) := by decide +kernel
theorem dX9_gather_47 : decode cX9_gather 47 = .ok (.aload_n 0, 1) := by decide +kernel
theorem dX9_gather_48 : decode cX9_gather 48 = .ok (.getfield 31, 3) := by decide +kernel
theorem dX9_gather_51 : decode cX9_gather 51 = .ok (.iload_n 2, 1) := by decide +kernel
theorem dX9_gather_52 : decode cX9_gather 52 = .ok (.iaload, 1) := by decide +kernel
theorem dX9_gather_53 : decode cX9_gather 53 = .ok (.aload_n 0, 1) := by decide +kernel
theorem dX9_gather_54 : decode cX9_gather 54 = .ok (.getfield 34, 3) := by decide +kernel
theorem dX9_gather_57 : decode cX9_gather 57 = .ok (.iload_n 2, 1) := by decide +kernel
theorem dX9_gather_58 : decode cX9_gather 58 = .ok (.iaload, 1) := by decide +kernel
theorem dX9_gather_59 : decode cX9_gather 59 = .ok (.imul, 1) := by decide +kernel
theorem dX9_gather_60 : decode cX9_gather 60 = .ok (.iload_n 3, 1) := by decide +kernel
theorem dX9_gather_61 : decode cX9_gather 61 = .ok (.aload_n 0, 1) := by decide +kernel
theorem dX9_gather_62 : decode cX9_gather 62 = .ok (.getfield 19, 3) := by decide +kernel
theorem dX9_gather_65 : decode cX9_gather 65 = .ok (.iload_n 1, 1) := by decide +kernel
theorem dX9_gather_66 : decode cX9_gather 66 = .ok (.iaload, 1) := by decide +kernel
theorem dX9_gather_67 : decode cX9_gather 67 = .ok (.imul, 1) := by decide +kernel
theorem dX9_gather_68 : decode cX9_gather 68 = .ok (.iadd, 1) := by decide +kernel
theorem dX9_gather_69 : decode cX9_gather 69 = .ok (.aload_n 0, 1) := by decide +kernel
theorem dX9_gather_70 : decode cX9_gather 70 = .ok (.getfield 31, 3) := by decide +kernel
theorem dX9_gather_73 : decode cX9_gather 73 = .ok (.iload_n 2, 1) := by decide +kernel
theorem dX9_gather_74 : decode cX9_gather 74 = .ok (.iaload, 1) := by decide +kernel
theorem dX9_gather_75 : decode cX9_gather 75 = .ok (.iload_n 3, 1) := by decide +kernel
theorem dX9_gather_76 : decode cX9_gather 76 = .ok (.iadd, 1) := by decide +kernel
theorem dX9_gather_77 : decode cX9_gather 77 = .ok (.idiv, 1) := by decide +kernel
theorem dX9_gather_78 : decode cX9_gather 78 = .ok (.iastore, 1) := by decide +kernel
theorem dX9_gather_79 : decode cX9_gather 79 = .ok (.aload_n 0, 1) := by decide +kernel
theorem dX9_gather_80 : decode cX9_gather 80 = .ok (.getfield 31, 3) := by decide +kernel
theorem dX9_gather_83 : decode cX9_gather 83 = .ok (.iload_n 2, 1) := by decide +kernel
theorem dX9_gather_84 : decode cX9_gather 84 = .ok (.dup2, 1) := by decide +kernel
theorem dX9_gather_85 : decode cX9_gather 85 = .ok (.iaload, 1) := by decide +kernel
theorem dX9_gather_86 : decode cX9_gather 86 = .ok (.iload_n 3, 1) := by decide +kernel
theorem dX9_gather_87 : decode cX9_gather 87 = .ok (.iadd, 1) := by decide +kernel
theorem dX9_gather_88 : decode cX9_gather 88 = .ok (.iastore, 1) := by decide +kernel
theorem dX9_gather_89 : decode cX9_gather 89 = .ok (.aload_n 0, 1) := by decide +kernel
theorem dX9_gather_90 : decode cX9_gather 90 = .ok (.getfield 28, 3) := by decide +kernel
theorem dX9_gather_93 : decode cX9_gather 93 = .ok (.iload_n 1, 1) := by decide +kernel
theorem dX9_gather_94 : decode cX9_gather 94 = .ok (.dup2, 1) := by decide +kernel
theorem dX9_gather_95 : decode cX9_gather 95 = .ok (.iaload, 1) := by decide +kernel
theorem dX9_gather_96 : decode cX9_gather 96 = .ok (.iload_n 3, 1) := by decide +kernel
theorem dX9_gather_97 : decode cX9_gather 97 = .ok (.iadd, 1) := by decide +kernel
theorem dX9_gather_98 : decode cX9_gather 98 = .ok (.iastore, 1) := by decide +kernel
theorem dX9_gather_99 : decode cX9_gather 99 = .ok (.aload_n 0, 1) := by decide +kernel
theorem dX9_gather_100 : decode cX9_gather 100 = .ok (.getfield 13, 3) := by decide +kernel
theorem dX9_gather_103 : decode cX9_gather 103 = .ok (.iload_n 1, 1) := by decide +kernel
theorem dX9_gather_104 : decode cX9_gather 104 = .ok (.iconst 0, 1) := by decide +kernel
theorem dX9_gather_105 : decode cX9_gather 105 = .ok (.iastore, 1) := by decide +kernel
theorem dX9_gather_106 : decode cX9_gather 106 = .ok (.aload_n 0, 1) := by decide +kernel
theorem dX9_gather_107 : decode cX9_gather 107 = .ok (.getfield 16, 3) := by decide +kernel
theorem dX9_gather_110 : decode cX9_gather 110 = .ok (.iload_n 1, 1) := by decide +kernel
theorem dX9_gather_111 : decode cX9_gather 111 = .ok (.iconst 0, 1) := by decide +kernel
theorem dX9_gather_112 : decode cX9_gather 112 = .ok (.iastore, 1) := by decide +kernel
theorem dX9_gather_113 : decode cX9_gather 113 = .ok (.aload_n 0, 1) := by decide +kernel
theorem dX9_gather_114 : decode cX9_gather 114 = .ok (.getfield 19, 3) := by decide +kernel
theorem dX9_gather_117 : decode cX9_gather 117 = .ok (.iload_n 1, 1) := by decide +kernel
theorem dX9_gather_118 : decode cX9_gather 118 = .ok (.iconst 0, 1) := by decide +kernel
theorem dX9_gather_119 : decode cX9_gather 119 = .ok (.iastore, 1) := by decide +kernel
theorem dX9_gather_120 : decode cX9_gather 120 = .ok (.aload_n 0, 1) := by decide +kernel
theorem dX9_gather_121 : decode cX9_gather 121 = .ok (.getfield 22, 3) := by decide +kernel
theorem dX9_gather_124 : decode cX9_gather 124 = .ok (.iload_n 1, 1) := by decide +kernel
theorem dX9_gather_125 : decode cX9_gather 125 = .ok (.iconst 0, 1) := by decide +kernel
theorem dX9_gather_126 : decode cX9_gather 126 = .ok (.iastore, 1) := by decide +kernel
theorem dX9_gather_127 : decode cX9_gather 127 = .ok (.iload_n 3, 1) := by decide +kernel
theorem dX9_gather_128 : decode cX9_gather 128 = .ok (.ireturn, 1) := by decide +kernel
theorem dX9_track_0 : decode cX9_track 0 = .ok (.iload_n 1, 1) := by decide +kernel
theorem dX9_track_1 : decode cX9_track 1 = .ok (.invokestatic 213, 3) := by decide +kernel
theorem dX9_track_4 : decode cX9_track 4 = .ok (.ifCond .ne 5, 3) := by decide +kernel
theorem dX9_track_7 : decode cX9_track 7 = .ok (.iconst (-1), 1) := by decide +kernel
theorem dX9_track_8 : decode cX9_track 8 = .ok (.ireturn, 1) := by decide +kernel
theorem dX9_track_9 : decode cX9_track 9 = .ok (.iload_n 1, 1) := by decide +kernel
theorem dX9_track_10 : decode cX9_track 10 = .ok (.aload_n 0, 1) := by decide +kernel
theorem dX9_track_11 : decode cX9_track 11 = .ok (.getfield 222, 3) := by decide +kernel
theorem dX9_track_14 : decode cX9_track 14 = .ok (.isub, 1) := by decide +kernel
theorem dX9_track_15 : decode cX9_track 15 = .ok (.invokestatic 225, 3) := by decide +kernel
theorem dX9_track_18 : decode cX9_track 18 = .ok (.istore_n 2, 1) := by decide +kernel
theorem dX9_track_19 : decode cX9_track 19 = .ok (.aload_n 0, 1) := by decide +kernel
theorem dX9_track_20 : decode cX9_track 20 = .ok (.iload_n 1, 1) := by decide +kernel
theorem dX9_track_21 : decode cX9_track 21 = .ok (.putfield 222, 3) := by decide +kernel
theorem dX9_track_24 : decode cX9_track 24 = .ok (.aload_n 0, 1) := by decide +kernel
theorem dX9_track_25 : decode cX9_track 25 = .ok (.dup, 1) := by decide +kernel
theorem dX9_track_26 : decode cX9_track 26 = .ok (.getfield 237, 3) := by decide +kernel
theorem dX9_track_29 : decode cX9_track 29 = .ok (.iload_n 2, 1) := by decide +kernel
theorem dX9_track_30 : decode cX9_track 30 = .ok (.iadd, 1) := by decide +kernel
theorem dX9_track_31 : decode cX9_track 31 = .ok (.putfield 237, 3) := by decide +kernel
theorem dX9_track_34 : decode cX9_track 34 = .ok (.iload_n 2, 1) := by decide +kernel
theorem dX9_track_35 : decode cX9_track 35 = .ok (.ireturn, 1) := by decide +kernel
theorem dX9_want_0 : decode cX9_want 0 = .ok (.iload_n 1, 1) := by decide +kernel
theorem dX9_want_1 : decode cX9_want 1 = .ok (.iconst 0, 1) := by decide +kernel
theorem dX9_want_2 : decode cX9_want 2 = .ok (.sipush 1000, 3) := by decide +kernel
theorem dX9_want_5 : decode cX9_want 5 = .ok (.invokestatic 109, 3) := by decide +kernel
theorem dX9_want_8 : decode cX9_want 8 = .ok (.ifCond .ne 5, 3) := by decide +kernel
theorem dX9_want_11 : decode cX9_want 11 = .ok (.iconst 0, 1) := by decide +kernel
theorem dX9_want_12 : decode cX9_want 12 = .ok (.ireturn, 1) := by decide +kernel
theorem dX9_want_13 : decode cX9_want 13 = .ok (.aload_n 0, 1) := by decide +kernel
theorem dX9_want_14 : decode cX9_want 14 = .ok (.iload_n 1, 1) := by decide +kernel
theorem dX9_want_15 : decode cX9_want 15 = .ok (.putfield 240, 3) := by decide +kernel
theorem dX9_want_18 : decode cX9_want 18 = .ok (.iconst 1, 1) := by decide +kernel
theorem dX9_want_19 : decode cX9_want 19 = .ok (.ireturn, 1) := by decide +kernel
theorem dX9_read_0 : decode cX9_read 0 = .ok (.aload_n 0, 1) := by decide +kernel
theorem dX9_read_1 : decode cX9_read 1 = .ok (.iload_n 1, 1) := by decide +kernel
theorem dX9_read_2 : decode cX9_read 2 = .ok (.invokevirtual 231, 3) := by decide +kernel
theorem dX9_read_5 : decode cX9_read 5 = .ok (.ifCond .eq 13, 3) := by decide +kernel
theorem dX9_read_8 : decode cX9_read 8 = .ok (.iload_n 2, 1) := by decide +kernel
theorem dX9_read_9 : decode cX9_read 9 = .ok (.iconst 0, 1) := by decide +kernel
theorem dX9_read_10 : decode cX9_read 10 = .ok (.bipush 100, 2) := by decide +kernel
theorem dX9_read_12 : decode cX9_read 12 = .ok (.invokestatic 109, 3) := by decide +kernel
theorem dX9_read_15 : decode cX9_read 15 = .ok (.ifCond .ne 5, 3) := by decide +kernel
theorem dX9_read_18 : decode cX9_read 18 = .ok (.iconst 0, 1) := by decide +kernel
theorem dX9_read_19 : decode cX9_read 19 = .ok (.ireturn, 1) := by decide +kernel
theorem dX9_read_20 : decode cX9_read 20 = .ok (.aload_n 0, 1) := by decide +kernel
theorem dX9_read_21 : decode cX9_read 21 = .ok (.getfield 40, 3) := by decide +kernel
theorem dX9_read_24 : decode cX9_read 24 = .ok (.iload_n 1, 1) := by decide +kernel
theorem dX9_read_25 : decode cX9_read 25 = .ok (.iload_n 2, 1) := by decide +kernel
theorem dX9_read_26 : decode cX9_read 26 = .ok (.iastore, 1) := by decide +kernel
theorem dX9_read_27 : decode cX9_read 27 = .ok (.iconst 1, 1) := by decide +kernel
theorem dX9_read_28 : decode cX9_read 28 = .ok (.ireturn, 1) := by decide +kernel
theorem dX9_dries_0 : decode cX9_dries 0 = .ok (.aload_n 0, 1) := by decide +kernel
theorem dX9_dries_1 : decode cX9_dries 1 = .ok (.getfield 22, 3) := by decide +kernel
theorem dX9_dries_4 : decode cX9_dries 4 = .ok (.iload_n 1, 1) := by decide +kernel
theorem dX9_dries_5 : decode cX9_dries 5 = .ok (.iconst 0, 1) := by decide +kernel
theorem dX9_dries_6 : decode cX9_dries 6 = .ok (.iastore, 1) := by decide +kernel
theorem dX9_dries_7 : decode cX9_dries 7 = .ok (.aload_n 0, 1) := by decide +kernel
theorem dX9_dries_8 : decode cX9_dries 8 = .ok (.getfield 13, 3) := by decide +kernel
theorem dX9_dries_11 : decode cX9_dries 11 = .ok (.iload_n 1, 1) := by decide +kernel
theorem dX9_dries_12 : decode cX9_dries 12 = .ok (.iaload, 1) := by decide +kernel
theorem dX9_dries_13 : decode cX9_dries 13 = .ok (.ifCond .ne 4, 3) := by decide +kernel
theorem dX9_dries_16 : decode cX9_dries 16 = .ok (.return_, 1) := by decide +kernel
theorem dX9_dries_17 : decode cX9_dries 17 = .ok (.aload_n 0, 1) := by decide +kernel
theorem dX9_dries_18 : decode cX9_dries 18 = .ok (.getfield 13, 3) := by decide +kernel
theorem dX9_dries_21 : decode cX9_dries 21 = .ok (.iload_n 1, 1) := by decide +kernel
theorem dX9_dries_22 : decode cX9_dries 22 = .ok (.iaload, 1) := by decide +kernel
theorem dX9_dries_23 : decode cX9_dries 23 = .ok (.iconst 2, 1) := by decide +kernel
theorem dX9_dries_24 : decode cX9_dries 24 = .ok (.if_icmp .ne 7, 3) := by decide +kernel
theorem dX9_dries_27 : decode cX9_dries 27 = .ok (.iconst 1, 1) := by decide +kernel
theorem dX9_dries_28 : decode cX9_dries 28 = .ok (.goto 4, 3) := by decide +kernel
theorem dX9_dries_31 : decode cX9_dries 31 = .ok (.iconst 0, 1) := by decide +kernel
theorem dX9_dries_32 : decode cX9_dries 32 = .ok (.istore 5, 2) := by decide +kernel
theorem dX9_dries_34 : decode cX9_dries 34 = .ok (.bipush 12, 2) := by decide +kernel
theorem dX9_dries_36 : decode cX9_dries 36 = .ok (.iload_n 2, 1) := by decide +kernel
theorem dX9_dries_37 : decode cX9_dries 37 = .ok (.imul, 1) := by decide +kernel
theorem dX9_dries_38 : decode cX9_dries 38 = .ok (.bipush 6, 2) := by decide +kernel
theorem dX9_dries_40 : decode cX9_dries 40 = .ok (.iload_n 3, 1) := by decide +kernel
theorem dX9_dries_41 : decode cX9_dries 41 = .ok (.imul, 1) := by decide +kernel
theorem dX9_dries_42 : decode cX9_dries 42 = .ok (.iadd, 1) := by decide +kernel
theorem dX9_dries_43 : decode cX9_dries 43 = .ok (.istore 6, 2) := by decide +kernel
theorem dX9_dries_45 : decode cX9_dries 45 = .ok (.aload_n 0, 1) := by decide +kernel
theorem dX9_dries_46 : decode cX9_dries 46 = .ok (.getfield 19, 3) := by decide +kernel
theorem dX9_dries_49 : decode cX9_dries 49 = .ok (.iload_n 1, 1) := by decide +kernel
theorem dX9_dries_50 : decode cX9_dries 50 = .ok (.iconst 0, 1) := by decide +kernel
theorem dX9_dries_51 : decode cX9_dries 51 = .ok (.aload_n 0, 1) := by decide +kernel
theorem dX9_dries_52 : decode cX9_dries 52 = .ok (.getfield 19, 3) := by decide +kernel
theorem dX9_dries_55 : decode cX9_dries 55 = .ok (.iload_n 1, 1) := by decide +kernel
theorem dX9_dries_56 : decode cX9_dries 56 = .ok (.iaload, 1) := by decide +kernel
theorem dX9_dries_57 : decode cX9_dries 57 = .ok (.iload 5, 2) := by decide +kernel
theorem dX9_dries_59 : decode cX9_dries 59 = .ok (.ifCond .eq 10, 3) := by decide +kernel
theorem dX9_dries_62 : decode cX9_dries 62 = .ok (.iload 6, 2) := by decide +kernel
theorem dX9_dries_64 : decode cX9_dries 64 = .ok (.iconst 2, 1) := by decide +kernel
theorem dX9_dries_65 : decode cX9_dries 65 = .ok (.idiv, 1) := by decide +kernel
theorem dX9_dries_66 : decode cX9_dries 66 = .ok (.goto 5, 3) := by decide +kernel
theorem dX9_dries_69 : decode cX9_dries 69 = .ok (.iload 6, 2) := by decide +kernel
theorem dX9_dries_71 : decode cX9_dries 71 = .ok (.isub, 1) := by decide +kernel
theorem dX9_dries_72 : decode cX9_dries 72 = .ok (.invokestatic 216, 3) := by decide +kernel
theorem dX9_dries_75 : decode cX9_dries 75 = .ok (.iastore, 1) := by decide +kernel
theorem dX9_dries_76 : decode cX9_dries 76 = .ok (.aload_n 0, 1) := by decide +kernel
theorem dX9_dries_77 : decode cX9_dries 77 = .ok (.getfield 19, 3) := by decide +kernel
theorem dX9_dries_80 : decode cX9_dries 80 = .ok (.iload_n 1, 1) := by decide +kernel
theorem dX9_dries_81 : decode cX9_dries 81 = .ok (.sipush 900, 3) := by decide +kernel
theorem dX9_dries_84 : decode cX9_dries 84 = .ok (.aload_n 0, 1) := by decide +kernel
theorem dX9_dries_85 : decode cX9_dries 85 = .ok (.getfield 19, 3) := by decide +kernel
theorem dX9_dries_88 : decode cX9_dries 88 = .ok (.iload_n 1, 1) := by decide +kernel
theorem dX9_dries_89 : decode cX9_dries 89 = .ok (.iaload, 1) := by decide +kernel
theorem dX9_dries_90 : decode cX9_dries 90 = .ok (.iload 5, 2) := by decide +kernel
theorem dX9_dries_92 : decode cX9_dries 92 = .ok (.ifCond .eq 13, 3) := by decide +kernel
theorem dX9_dries_95 : decode cX9_dries 95 = .ok (.bipush 10, 2) := by decide +kernel
theorem dX9_dries_97 : decode cX9_dries 97 = .ok (.iload 4, 2) := by decide +kernel
theorem dX9_dries_99 : decode cX9_dries 99 = .ok (.imul, 1) := by decide +kernel
theorem dX9_dries_100 : decode cX9_dries 100 = .ok (.iconst 4, 1) := by decide +kernel
theorem dX9_dries_101 : decode cX9_dries 101 = .ok (.idiv, 1) := by decide +kernel
theorem dX9_dries_102 : decode cX9_dries 102 = .ok (.goto 8, 3) := by decide +kernel
theorem dX9_dries_105 : decode cX9_dries 105 = .ok (.bipush 10, 2) := by decide +kernel
theorem dX9_dries_107 : decode cX9_dries 107 = .ok (.iload 4, 2) := by decide +kernel
theorem dX9_dries_109 : decode cX9_dries 109 = .ok (.imul, 1) := by decide +kernel
theorem dX9_dries_110 : decode cX9_dries 110 = .ok (.iadd, 1) := by decide +kernel
theorem dX9_dries_111 : decode cX9_dries 111 = .ok (.invokestatic 243, 3) := by decide +kernel
theorem dX9_dries_114 : decode cX9_dries 114 = .ok (.iastore, 1) := by decide +kernel
theorem dX9_dries_115 : decode cX9_dries 115 = .ok (.return_, 1) := by decide +kernel
theorem dX9_heats_0 : decode cX9_heats 0 = .ok (.aload_n 0, 1) := by decide +kernel
theorem dX9_heats_1 : decode cX9_heats 1 = .ok (.iload_n 1, 1) := by decide +kernel
theorem dX9_heats_2 : decode cX9_heats 2 = .ok (.invokevirtual 234, 3) := by decide +kernel
theorem dX9_heats_5 : decode cX9_heats 5 = .ok (.ifCond .eq 38, 3) := by decide +kernel
theorem dX9_heats_8 : decode cX9_heats 8 = .ok (.iconst 1, 1) := by decide +kernel
theorem dX9_heats_9 : decode cX9_heats 9 = .ok (.aload_n 0, 1) := by decide +kernel
theorem dX9_heats_10 : decode cX9_heats 10 = .ok (.getfield 31, 3) := by decide +kernel
theorem dX9_heats_13 : decode cX9_heats 13 = .ok (.iload_n 1, 1) := by decide +kernel
theorem dX9_heats_14 : decode cX9_heats 14 = .ok (.iaload, 1) := by decide +kernel
theorem dX9_heats_15 : decode cX9_heats 15 = .ok (.bipush 10, 2) := by decide +kernel
theorem dX9_heats_17 : decode cX9_heats 17 = .ok (.idiv, 1) := by decide +kernel
theorem dX9_heats_18 : decode cX9_heats 18 = .ok (.invokestatic 216, 3) := by decide +kernel
theorem dX9_heats_21 : decode cX9_heats 21 = .ok (.istore_n 3, 1) := by decide +kernel
theorem dX9_heats_22 : decode cX9_heats 22 = .ok (.aload_n 0, 1) := by decide +kernel
theorem dX9_heats_23 : decode cX9_heats 23 = .ok (.getfield 31, 3) := by decide +kernel
theorem dX9_heats_26 : decode cX9_heats 26 = .ok (.iload_n 1, 1) := by decide +kernel
theorem dX9_heats_27 : decode cX9_heats 27 = .ok (.dup2, 1) := by decide +kernel
theorem dX9_heats_28 : decode cX9_heats 28 = .ok (.iaload, 1) := by decide +kernel
theorem dX9_heats_29 : decode cX9_heats 29 = .ok (.iload_n 3, 1) := by decide +kernel
