theorem dX0_init_0 : decode cX0_init 0 = .ok (.aload_n 0, 1) := by decide +kernel
theorem dX0_init_1 : decode cX0_init 1 = .ok (.invokespecial 3, 3) := by decide +kernel
theorem dX0_init_4 : decode cX0_init 4 = .ok (.aload_n 0, 1) := by decide +kernel
theorem dX0_init_5 : decode cX0_init 5 = .ok (.sipush 1000, 3) := by decide +kernel
theorem dX0_init_8 : decode cX0_init 8 = .ok (.putfield 9, 3) := by decide +kernel
theorem dX0_init_11 : decode cX0_init 11 = .ok (.aload_n 0, 1) := by decide +kernel
theorem dX0_init_12 : decode cX0_init 12 = .ok (.iconst 0, 1) := by decide +kernel
theorem dX0_init_13 : decode cX0_init 13 = .ok (.putfield 15, 3) := by decide +kernel
theorem dX0_init_16 : decode cX0_init 16 = .ok (.aload_n 0, 1) := by decide +kernel
theorem dX0_init_17 : decode cX0_init 17 = .ok (.iconst 0, 1) := by decide +kernel
theorem dX0_init_18 : decode cX0_init 18 = .ok (.putfield 18, 3) := by decide +kernel
theorem dX0_init_21 : decode cX0_init 21 = .ok (.aload_n 0, 1) := by decide +kernel
theorem dX0_init_22 : decode cX0_init 22 = .ok (.iconst 0, 1) := by decide +kernel
theorem dX0_init_23 : decode cX0_init 23 = .ok (.putfield 21, 3) := by decide +kernel
theorem dX0_init_26 : decode cX0_init 26 = .ok (.aload_n 0, 1) := by decide +kernel
theorem dX0_init_27 : decode cX0_init 27 = .ok (.iconst 0, 1) := by decide +kernel
theorem dX0_init_28 : decode cX0_init 28 = .ok (.putfield 24, 3) := by decide +kernel
theorem dX0_init_31 : decode cX0_init 31 = .ok (.aload_n 0, 1) := by decide +kernel
theorem dX0_init_32 : decode cX0_init 32 = .ok (.iconst (-1), 1) := by decide +kernel
theorem dX0_init_33 : decode cX0_init 33 = .ok (.putfield 27, 3) := by decide +kernel
theorem dX0_init_36 : decode cX0_init 36 = .ok (.aload_n 0, 1) := by decide +kernel
theorem dX0_init_37 : decode cX0_init 37 = .ok (.iconst 0, 1) := by decide +kernel
theorem dX0_init_38 : decode cX0_init 38 = .ok (.putfield 30, 3) := by decide +kernel
theorem dX0_init_41 : decode cX0_init 41 = .ok (.return_, 1) := by decide +kernel
theorem dX0_lies_0 : decode cX0_lies 0 = .ok (.aload_n 0, 1) := by decide +kernel
theorem dX0_lies_1 : decode cX0_lies 1 = .ok (.getfield 15, 3) := by decide +kernel
theorem dX0_lies_4 : decode cX0_lies 4 = .ok (.ifCond .eq 7, 3) := by decide +kernel
theorem dX0_lies_7 : decode cX0_lies 7 = .ok (.iconst 1, 1) := by decide +kernel
theorem dX0_lies_8 : decode cX0_lies 8 = .ok (.goto 4, 3) := by decide +kernel
theorem dX0_lies_11 : decode cX0_lies 11 = .ok (.iconst 0, 1) := by decide +kernel
theorem dX0_lies_12 : decode cX0_lies 12 = .ok (.ireturn, 1) := by decide +kernel
theorem dX0_loosen_0 : decode cX0_loosen 0 = .ok (.aload_n 0, 1) := by decide +kernel
theorem dX0_loosen_1 : decode cX0_loosen 1 = .ok (.dup, 1) := by decide +kernel
theorem dX0_loosen_2 : decode cX0_loosen 2 = .ok (.getfield 9, 3) := by decide +kernel
theorem dX0_loosen_5 : decode cX0_loosen 5 = .ok (.iload_n 1, 1) := by decide +kernel
theorem dX0_loosen_6 : decode cX0_loosen 6 = .ok (.isub, 1) := by decide +kernel
theorem dX0_loosen_7 : decode cX0_loosen 7 = .ok (.putfield 9, 3) := by decide +kernel
theorem dX0_loosen_10 : decode cX0_loosen 10 = .ok (.aload_n 0, 1) := by decide +kernel
theorem dX0_loosen_11 : decode cX0_loosen 11 = .ok (.bipush 10, 2) := by decide +kernel
theorem dX0_loosen_13 : decode cX0_loosen 13 = .ok (.iload_n 1, 1) := by decide +kernel
theorem dX0_loosen_14 : decode cX0_loosen 14 = .ok (.imul, 1) := by decide +kernel
theorem dX0_loosen_15 : decode cX0_loosen 15 = .ok (.putfield 18, 3) := by decide +kernel
theorem dX0_loosen_18 : decode cX0_loosen 18 = .ok (.aload_n 0, 1) := by decide +kernel
theorem dX0_loosen_19 : decode cX0_loosen 19 = .ok (.sipush 800, 3) := by decide +kernel
theorem dX0_loosen_22 : decode cX0_loosen 22 = .ok (.putfield 21, 3) := by decide +kernel
theorem dX0_loosen_25 : decode cX0_loosen 25 = .ok (.aload_n 0, 1) := by decide +kernel
theorem dX0_loosen_26 : decode cX0_loosen 26 = .ok (.iconst 1, 1) := by decide +kernel
theorem dX0_loosen_27 : decode cX0_loosen 27 = .ok (.putfield 15, 3) := by decide +kernel
theorem dX0_loosen_30 : decode cX0_loosen 30 = .ok (.return_, 1) := by decide +kernel
theorem dX0_takesProbe_0 : decode cX0_takesProbe 0 = .ok (.aload_n 0, 1) := by decide +kernel
theorem dX0_takesProbe_1 : decode cX0_takesProbe 1 = .ok (.invokevirtual 33, 3) := by decide +kernel
theorem dX0_takesProbe_4 : decode cX0_takesProbe 4 = .ok (.ifCond .eq 16, 3) := by decide +kernel
theorem dX0_takesProbe_7 : decode cX0_takesProbe 7 = .ok (.aload_n 0, 1) := by decide +kernel
theorem dX0_takesProbe_8 : decode cX0_takesProbe 8 = .ok (.getfield 24, 3) := by decide +kernel
theorem dX0_takesProbe_11 : decode cX0_takesProbe 11 = .ok (.bipush 8, 2) := by decide +kernel
theorem dX0_takesProbe_13 : decode cX0_takesProbe 13 = .ok (.if_icmp .ge 7, 3) := by decide +kernel
theorem dX0_takesProbe_16 : decode cX0_takesProbe 16 = .ok (.iconst 1, 1) := by decide +kernel
theorem dX0_takesProbe_17 : decode cX0_takesProbe 17 = .ok (.goto 4, 3) := by decide +kernel
theorem dX0_takesProbe_20 : decode cX0_takesProbe 20 = .ok (.iconst 0, 1) := by decide +kernel
theorem dX0_takesProbe_21 : decode cX0_takesProbe 21 = .ok (.ireturn, 1) := by decide +kernel
theorem dX0_addProbe_0 : decode cX0_addProbe 0 = .ok (.aload_n 0, 1) := by decide +kernel
theorem dX0_addProbe_1 : decode cX0_addProbe 1 = .ok (.aload_n 0, 1) := by decide +kernel
theorem dX0_addProbe_2 : decode cX0_addProbe 2 = .ok (.getfield 27, 3) := by decide +kernel
theorem dX0_addProbe_5 : decode cX0_addProbe 5 = .ok (.iload_n 1, 1) := by decide +kernel
theorem dX0_addProbe_6 : decode cX0_addProbe 6 = .ok (.invokestatic 37, 3) := by decide +kernel
theorem dX0_addProbe_9 : decode cX0_addProbe 9 = .ok (.putfield 27, 3) := by decide +kernel
theorem dX0_addProbe_12 : decode cX0_addProbe 12 = .ok (.aload_n 0, 1) := by decide +kernel
theorem dX0_addProbe_13 : decode cX0_addProbe 13 = .ok (.dup, 1) := by decide +kernel
theorem dX0_addProbe_14 : decode cX0_addProbe 14 = .ok (.getfield 24, 3) := by decide +kernel
theorem dX0_addProbe_17 : decode cX0_addProbe 17 = .ok (.iconst 1, 1) := by decide +kernel
theorem dX0_addProbe_18 : decode cX0_addProbe 18 = .ok (.iadd, 1) := by decide +kernel
theorem dX0_addProbe_19 : decode cX0_addProbe 19 = .ok (.putfield 24, 3) := by decide +kernel
theorem dX0_addProbe_22 : decode cX0_addProbe 22 = .ok (.aload_n 0, 1) := by decide +kernel
theorem dX0_addProbe_23 : decode cX0_addProbe 23 = .ok (.getfield 24, 3) := by decide +kernel
theorem dX0_addProbe_26 : decode cX0_addProbe 26 = .ok (.ireturn, 1) := by decide +kernel
theorem dX0_clear_0 : decode cX0_clear 0 = .ok (.aload_n 0, 1) := by decide +kernel
theorem dX0_clear_1 : decode cX0_clear 1 = .ok (.dup, 1) := by decide +kernel
theorem dX0_clear_2 : decode cX0_clear 2 = .ok (.getfield 30, 3) := by decide +kernel
theorem dX0_clear_5 : decode cX0_clear 5 = .ok (.aload_n 0, 1) := by decide +kernel
theorem dX0_clear_6 : decode cX0_clear 6 = .ok (.getfield 18, 3) := by decide +kernel
theorem dX0_clear_9 : decode cX0_clear 9 = .ok (.iadd, 1) := by decide +kernel
theorem dX0_clear_10 : decode cX0_clear 10 = .ok (.putfield 30, 3) := by decide +kernel
theorem dX0_clear_13 : decode cX0_clear 13 = .ok (.aload_n 0, 1) := by decide +kernel
theorem dX0_clear_14 : decode cX0_clear 14 = .ok (.iconst 0, 1) := by decide +kernel
theorem dX0_clear_15 : decode cX0_clear 15 = .ok (.putfield 15, 3) := by decide +kernel
theorem dX0_clear_18 : decode cX0_clear 18 = .ok (.aload_n 0, 1) := by decide +kernel
theorem dX0_clear_19 : decode cX0_clear 19 = .ok (.iconst 0, 1) := by decide +kernel
theorem dX0_clear_20 : decode cX0_clear 20 = .ok (.putfield 18, 3) := by decide +kernel
theorem dX0_clear_23 : decode cX0_clear 23 = .ok (.aload_n 0, 1) := by decide +kernel
theorem dX0_clear_24 : decode cX0_clear 24 = .ok (.iconst 0, 1) := by decide +kernel
theorem dX0_clear_25 : decode cX0_clear 25 = .ok (.putfield 21, 3) := by decide +kernel
theorem dX0_clear_28 : decode cX0_clear 28 = .ok (.return_, 1) := by decide +kernel
theorem dX0_weather_0 : decode cX0_weather 0 = .ok (.aload_n 0, 1) := by decide +kernel
theorem dX0_weather_1 : decode cX0_weather 1 = .ok (.iconst 0, 1) := by decide +kernel
theorem dX0_weather_2 : decode cX0_weather 2 = .ok (.putfield 24, 3) := by decide +kernel
theorem dX0_weather_5 : decode cX0_weather 5 = .ok (.aload_n 0, 1) := by decide +kernel
theorem dX0_weather_6 : decode cX0_weather 6 = .ok (.iconst (-1), 1) := by decide +kernel
theorem dX0_weather_7 : decode cX0_weather 7 = .ok (.putfield 27, 3) := by decide +kernel
theorem dX0_weather_10 : decode cX0_weather 10 = .ok (.aload_n 0, 1) := by decide +kernel
theorem dX0_weather_11 : decode cX0_weather 11 = .ok (.invokevirtual 33, 3) := by decide +kernel
theorem dX0_weather_14 : decode cX0_weather 14 = .ok (.ifCond .ne 4, 3) := by decide +kernel
theorem dX0_weather_17 : decode cX0_weather 17 = .ok (.return_, 1) := by decide +kernel
theorem dX0_weather_18 : decode cX0_weather 18 = .ok (.bipush 12, 2) := by decide +kernel
theorem dX0_weather_20 : decode cX0_weather 20 = .ok (.iload_n 1, 1) := by decide +kernel
theorem dX0_weather_21 : decode cX0_weather 21 = .ok (.imul, 1) := by decide +kernel
theorem dX0_weather_22 : decode cX0_weather 22 = .ok (.bipush 6, 2) := by decide +kernel
theorem dX0_weather_24 : decode cX0_weather 24 = .ok (.iload_n 2, 1) := by decide +kernel
theorem dX0_weather_25 : decode cX0_weather 25 = .ok (.imul, 1) := by decide +kernel
theorem dX0_weather_26 : decode cX0_weather 26 = .ok (.iadd, 1) := by decide +kernel
theorem dX0_weather_27 : decode cX0_weather 27 = .ok (.istore 4, 2) := by decide +kernel
theorem dX0_weather_29 : decode cX0_weather 29 = .ok (.bipush 10, 2) := by decide +kernel
theorem dX0_weather_31 : decode cX0_weather 31 = .ok (.iload_n 3, 1) := by decide +kernel
theorem dX0_weather_32 : decode cX0_weather 32 = .ok (.imul, 1) := by decide +kernel
theorem dX0_weather_33 : decode cX0_weather 33 = .ok (.istore 5, 2) := by decide +kernel
theorem dX0_weather_35 : decode cX0_weather 35 = .ok (.aload_n 0, 1) := by decide +kernel
theorem dX0_weather_36 : decode cX0_weather 36 = .ok (.getfield 15, 3) := by decide +kernel
theorem dX0_weather_39 : decode cX0_weather 39 = .ok (.iconst 2, 1) := by decide +kernel
theorem dX0_weather_40 : decode cX0_weather 40 = .ok (.if_icmp .ne 15, 3) := by decide +kernel
theorem dX0_weather_43 : decode cX0_weather 43 = .ok (.iload 4, 2) := by decide +kernel
theorem dX0_weather_45 : decode cX0_weather 45 = .ok (.iconst 2, 1) := by decide +kernel
theorem dX0_weather_46 : decode cX0_weather 46 = .ok (.idiv, 1) := by decide +kernel
theorem dX0_weather_47 : decode cX0_weather 47 = .ok (.istore 4, 2) := by decide +kernel
theorem dX0_weather_49 : decode cX0_weather 49 = .ok (.iload 5, 2) := by decide +kernel
theorem dX0_weather_51 : decode cX0_weather 51 = .ok (.iconst 4, 1) := by decide +kernel
theorem dX0_weather_52 : decode cX0_weather 52 = .ok (.idiv, 1) := by decide +kernel
theorem dX0_weather_53 : decode cX0_weather 53 = .ok (.istore 5, 2) := by decide +kernel
theorem dX0_weather_55 : decode cX0_weather 55 = .ok (.aload_n 0, 1) := by decide +kernel
theorem dX0_weather_56 : decode cX0_weather 56 = .ok (.sipush 900, 3) := by decide +kernel
theorem dX0_weather_59 : decode cX0_weather 59 = .ok (.iconst 0, 1) := by decide +kernel
theorem dX0_weather_60 : decode cX0_weather 60 = .ok (.aload_n 0, 1) := by decide +kernel
theorem dX0_weather_61 : decode cX0_weather 61 = .ok (.getfield 21, 3) := by decide +kernel
theorem dX0_weather_64 : decode cX0_weather 64 = .ok (.iload 4, 2) := by decide +kernel
theorem dX0_weather_66 : decode cX0_weather 66 = .ok (.isub, 1) := by decide +kernel
theorem dX0_weather_67 : decode cX0_weather 67 = .ok (.invokestatic 37, 3) := by decide +kernel
theorem dX0_weather_70 : decode cX0_weather 70 = .ok (.iload 5, 2) := by decide +kernel
theorem dX0_weather_72 : decode cX0_weather 72 = .ok (.iadd, 1) := by decide +kernel
theorem dX0_weather_73 : decode cX0_weather 73 = .ok (.invokestatic 43, 3) := by decide +kernel
theorem dX0_weather_76 : decode cX0_weather 76 = .ok (.putfield 21, 3) := by decide +kernel
theorem dX0_weather_79 : decode cX0_weather 79 = .ok (.return_, 1) := by decide +kernel
theorem dX0_tellOf_0 : decode cX0_tellOf 0 = .ok (.iload_n 1, 1) := by decide +kernel
theorem dX0_tellOf_1 : decode cX0_tellOf 1 = .ok (.tableswitch 78 0 6 #[43, 48, 53, 58, 63, 68, 73], 43) := by decide +kernel
theorem dX0_tellOf_44 : decode cX0_tellOf 44 = .ok (.aload_n 0, 1) := by decide +kernel
theorem dX0_tellOf_45 : decode cX0_tellOf 45 = .ok (.getfield 9, 3) := by decide +kernel
theorem dX0_tellOf_48 : decode cX0_tellOf 48 = .ok (.ireturn, 1) := by decide +kernel
theorem dX0_tellOf_49 : decode cX0_tellOf 49 = .ok (.aload_n 0, 1) := by decide +kernel
theorem dX0_tellOf_50 : decode cX0_tellOf 50 = .ok (.getfield 15, 3) := by decide +kernel
theorem dX0_tellOf_53 : decode cX0_tellOf 53 = .ok (.ireturn, 1) := by decide +kernel
theorem dX0_tellOf_54 : decode cX0_tellOf 54 = .ok (.aload_n 0, 1) := by decide +kernel
theorem dX0_tellOf_55 : decode cX0_tellOf 55 = .ok (.getfield 18, 3) := by decide +kernel
theorem dX0_tellOf_58 : decode cX0_tellOf 58 = .ok (.ireturn, 1) := by decide +kernel
theorem dX0_tellOf_59 : decode cX0_tellOf 59 = .ok (.aload_n 0, 1) := by decide +kernel
theorem dX0_tellOf_60 : decode cX0_tellOf 60 = .ok (.getfield 21, 3) := by decide +kernel
theorem dX0_tellOf_63 : decode cX0_tellOf 63 = .ok (.ireturn, 1) := by decide +kernel
theorem dX0_tellOf_64 : decode cX0_tellOf 64 = .ok (.aload_n 0, 1) := by decide +kernel
theorem dX0_tellOf_65 : decode cX0_tellOf 65 = .ok (.getfield 24, 3) := by decide +kernel
theorem dX0_tellOf_68 : decode cX0_tellOf 68 = .ok (.ireturn, 1) := by decide +kernel
theorem dX0_tellOf_69 : decode cX0_tellOf 69 = .ok (.aload_n 0, 1) := by decide +kernel
theorem dX0_tellOf_70 : decode cX0_tellOf 70 = .ok (.getfield 27, 3) := by decide +kernel
theorem dX0_tellOf_73 : decode cX0_tellOf 73 = .ok (.ireturn, 1) := by decide +kernel
theorem dX0_tellOf_74 : decode cX0_tellOf 74 = .ok (.aload_n 0, 1) := by decide +kernel
theorem dX0_tellOf_75 : decode cX0_tellOf 75 = .ok (.getfield 30, 3) := by decide +kernel
theorem dX0_tellOf_78 : decode cX0_tellOf 78 = .ok (.ireturn, 1) := by decide +kernel
theorem dX0_tellOf_79 : decode cX0_tellOf 79 = .ok (.iconst (-1), 1) := by decide +kernel
theorem dX0_tellOf_80 : decode cX0_tellOf 80 = .ok (.ireturn, 1) := by decide +kernel
theorem dX1_init_0 : decode cX1_init 0 = .ok (.aload_n 0, 1) := by decide +kernel
theorem dX1_init_1 : decode cX1_init 1 = .ok (.invokespecial 3, 3) := by decide +kernel
theorem dX1_init_4 : decode cX1_init 4 = .ok (.aload_n 0, 1) := by decide +kernel
theorem dX1_init_5 : decode cX1_init 5 = .ok (.iconst (-1), 1) := by decide +kernel
theorem dX1_init_6 : decode cX1_init 6 = .ok (.putfield 9, 3) := by decide +kernel
theorem dX1_init_9 : decode cX1_init 9 = .ok (.aload_n 0, 1) := by decide +kernel
theorem dX1_init_10 : decode cX1_init 10 = .ok (.iconst 0, 1) := by decide +kernel
theorem dX1_init_11 : decode cX1_init 11 = .ok (.putfield 15, 3) := by decide +kernel
theorem dX1_init_14 : decode cX1_init 14 = .ok (.aload_n 0, 1) := by decide +kernel
theorem dX1_init_15 : decode cX1_init 15 = .ok (.sipush 550, 3) := by decide +kernel
theorem dX1_init_18 : decode cX1_init 18 = .ok (.putfield 18, 3) := by decide +kernel
theorem dX1_init_21 : decode cX1_init 21 = .ok (.aload_n 0, 1) := by decide +kernel
theorem dX1_init_22 : decode cX1_init 22 = .ok (.iconst 0, 1) := by decide +kernel
theorem dX1_init_23 : decode cX1_init 23 = .ok (.putfield 21, 3) := by decide +kernel
theorem dX1_init_26 : decode cX1_init 26 = .ok (.aload_n 0, 1) := by decide +kernel
theorem dX1_init_27 : decode cX1_init 27 = .ok (.iconst 0, 1) := by decide +kernel
theorem dX1_init_28 : decode cX1_init 28 = .ok (.putfield 24, 3) := by decide +kernel
theorem dX1_init_31 : decode cX1_init 31 = .ok (.aload_n 0, 1) := by decide +kernel
theorem dX1_init_32 : decode cX1_init 32 = .ok (.bipush 16, 2) := by decide +kernel
theorem dX1_init_34 : decode cX1_init 34 = .ok (.newarray .int, 2) := by decide +kernel
theorem dX1_init_36 : decode cX1_init 36 = .ok (.putfield 27, 3) := by decide +kernel
theorem dX1_init_39 : decode cX1_init 39 = .ok (.aload_n 0, 1) := by decide +kernel
theorem dX1_init_40 : decode cX1_init 40 = .ok (.bipush 16, 2) := by decide +kernel
theorem dX1_init_42 : decode cX1_init 42 = .ok (.newarray .int, 2) := by decide +kernel
theorem dX1_init_44 : decode cX1_init 44 = .ok (.putfield 31, 3) := by decide +kernel
theorem dX1_init_47 : decode cX1_init 47 = .ok (.aload_n 0, 1) := by decide +kernel
theorem dX1_init_48 : decode cX1_init 48 = .ok (.bipush 16, 2) := by decide +kernel
theorem dX1_init_50 : decode cX1_init 50 = .ok (.newarray .int, 2) := by decide +kernel
theorem dX1_init_52 : decode cX1_init 52 = .ok (.putfield 34, 3) := by decide +kernel
theorem dX1_init_55 : decode cX1_init 55 = .ok (.aload_n 0, 1) := by decide +kernel
theorem dX1_init_56 : decode cX1_init 56 = .ok (.bipush 16, 2) := by decide +kernel
theorem dX1_init_58 : decode cX1_init 58 = .ok (.newarray .int, 2) := by decide +kernel
theorem dX1_init_60 : decode cX1_init 60 = .ok (.putfield 37, 3) := by decide +kernel
theorem dX1_init_63 : decode cX1_init 63 = .ok (.aload_n 0, 1) := by decide +kernel
theorem dX1_init_64 : decode cX1_init 64 = .ok (.iconst 0, 1) := by decide +kernel
theorem dX1_init_65 : decode cX1_init 65 = .ok (.putfield 40, 3) := by decide +kernel
theorem dX1_init_68 : decode cX1_init 68 = .ok (.aload_n 0, 1) := by decide +kernel
theorem dX1_init_69 : decode cX1_init 69 = .ok (.bipush 16, 2) := by decide +kernel
theorem dX1_init_71 : decode cX1_init 71 = .ok (.newarray .int, 2) := by decide +kernel
theorem dX1_init_73 : decode cX1_init 73 = .ok (.putfield 43, 3) := by decide +kernel
theorem dX1_init_76 : decode cX1_init 76 = .ok (.aload_n 0, 1) := by decide +kernel
theorem dX1_init_77 : decode cX1_init 77 = .ok (.bipush 16, 2) := by decide +kernel
theorem dX1_init_79 : decode cX1_init 79 = .ok (.newarray .int, 2) := by decide +kernel
theorem dX1_init_81 : decode cX1_init 81 = .ok (.putfield 46, 3) := by decide +kernel
theorem dX1_init_84 : decode cX1_init 84 = .ok (.aload_n 0, 1) := by decide +kernel
theorem dX1_init_85 : decode cX1_init 85 = .ok (.bipush 48, 2) := by decide +kernel
theorem dX1_init_87 : decode cX1_init 87 = .ok (.newarray .int, 2) := by decide +kernel
theorem dX1_init_89 : decode cX1_init 89 = .ok (.putfield 49, 3) := by decide +kernel
theorem dX1_init_92 : decode cX1_init 92 = .ok (.aload_n 0, 1) := by decide +kernel
theorem dX1_init_93 : decode cX1_init 93 = .ok (.bipush 48, 2) := by decide +kernel
theorem dX1_init_95 : decode cX1_init 95 = .ok (.newarray .int, 2) := by decide +kernel
theorem dX1_init_97 : decode cX1_init 97 = .ok (.putfield 52, 3) := by decide +kernel
theorem dX1_init_100 : decode cX1_init 100 = .ok (.aload_n 0, 1) := by decide +kernel
theorem dX1_init_101 : decode cX1_init 101 = .ok (.bipush 48, 2) := by decide +kernel
theorem dX1_init_103 : decode cX1_init 103 = .ok (.newarray .int, 2) := by decide +kernel
theorem dX1_init_105 : decode cX1_init 105 = .ok (.putfield 55, 3) := by decide +kernel
theorem dX1_init_108 : decode cX1_init 108 = .ok (.return_, 1) := by decide +kernel
theorem dX1_begin_0 : decode cX1_begin 0 = .ok (.aload_n 0, 1) := by decide +kernel
theorem dX1_begin_1 : decode cX1_begin 1 = .ok (.iload_n 1, 1) := by decide +kernel
theorem dX1_begin_2 : decode cX1_begin 2 = .ok (.putfield 9, 3) := by decide +kernel
theorem dX1_begin_5 : decode cX1_begin 5 = .ok (.aload_n 0, 1) := by decide +kernel
theorem dX1_begin_6 : decode cX1_begin 6 = .ok (.iload_n 2, 1) := by decide +kernel
theorem dX1_begin_7 : decode cX1_begin 7 = .ok (.putfield 15, 3) := by decide +kernel
theorem dX1_begin_10 : decode cX1_begin 10 = .ok (.aload_n 0, 1) := by decide +kernel
theorem dX1_begin_11 : decode cX1_begin 11 = .ok (.sipush 550, 3) := by decide +kernel
theorem dX1_begin_14 : decode cX1_begin 14 = .ok (.putfield 18, 3) := by decide +kernel
theorem dX1_begin_17 : decode cX1_begin 17 = .ok (.aload_n 0, 1) := by decide +kernel
theorem dX1_begin_18 : decode cX1_begin 18 = .ok (.iconst 0, 1) := by decide +kernel
theorem dX1_begin_19 : decode cX1_begin 19 = .ok (.putfield 21, 3) := by decide +kernel
theorem dX1_begin_22 : decode cX1_begin 22 = .ok (.aload_n 0, 1) := by decide +kernel
theorem dX1_begin_23 : decode cX1_begin 23 = .ok (.iconst 0, 1) := by decide +kernel
theorem dX1_begin_24 : decode cX1_begin 24 = .ok (.putfield 24, 3) := by decide +kernel
theorem dX1_begin_27 : decode cX1_begin 27 = .ok (.aload_n 0, 1) := by decide +kernel
theorem dX1_begin_28 : decode cX1_begin 28 = .ok (.iconst 0, 1) := by decide +kernel
theorem dX1_begin_29 : decode cX1_begin 29 = .ok (.putfield 40, 3) := by decide +kernel
theorem dX1_begin_32 : decode cX1_begin 32 = .ok (.return_, 1) := by decide +kernel
theorem dX1_addClosing_0 : decode cX1_addClosing 0 = .ok (.aload_n 0, 1) := by decide +kernel
theorem dX1_addClosing_1 : decode cX1_addClosing 1 = .ok (.getfield 24, 3) := by decide +kernel
theorem dX1_addClosing_4 : decode cX1_addClosing 4 = .ok (.bipush 16, 2) := by decide +kernel
theorem dX1_addClosing_6 : decode cX1_addClosing 6 = .ok (.if_icmp .lt 4, 3) := by decide +kernel
theorem dX1_addClosing_9 : decode cX1_addClosing 9 = .ok (.return_, 1) := by decide +kernel
theorem dX1_addClosing_10 : decode cX1_addClosing 10 = .ok (.aload_n 0, 1) := by decide +kernel
theorem dX1_addClosing_11 : decode cX1_addClosing 11 = .ok (.getfield 27, 3) := by decide +kernel
theorem dX1_addClosing_14 : decode cX1_addClosing 14 = .ok (.aload_n 0, 1) := by decide +kernel
theorem dX1_addClosing_15 : decode cX1_addClosing 15 = .ok (.getfield 24, 3) := by decide +kernel
theorem dX1_addClosing_18 : decode cX1_addClosing 18 = .ok (.iload_n 1, 1) := by decide +kernel
theorem dX1_addClosing_19 : decode cX1_addClosing 19 = .ok (.iastore, 1) := by decide +kernel
theorem dX1_addClosing_20 : decode cX1_addClosing 20 = .ok (.aload_n 0, 1) := by decide +kernel
theorem dX1_addClosing_21 : decode cX1_addClosing 21 = .ok (.getfield 31, 3) := by decide +kernel
theorem dX1_addClosing_24 : decode cX1_addClosing 24 = .ok (.aload_n 0, 1) := by decide +kernel
theorem dX1_addClosing_25 : decode cX1_addClosing 25 = .ok (.getfield 24, 3) := by decide +kernel
theorem dX1_addClosing_28 : decode cX1_addClosing 28 = .ok (.iload_n 2, 1) := by decide +kernel
theorem dX1_addClosing_29 : decode cX1_addClosing 29 = .ok (.iastore, 1) := by decide +kernel
theorem dX1_addClosing_30 : decode cX1_addClosing 30 = .ok (.aload_n 0, 1) := by decide +kernel
theorem dX1_addClosing_31 : decode cX1_addClosing 31 = .ok (.getfield 34, 3) := by decide +kernel
theorem dX1_addClosing_34 : decode cX1_addClosing 34 = .ok (.aload_n 0, 1) := by decide +kernel
theorem dX1_addClosing_35 : decode cX1_addClosing 35 = .ok (.getfield 24, 3) := by decide +kernel
theorem dX1_addClosing_38 : decode cX1_addClosing 38 = .ok (.iload_n 3, 1) := by decide +kernel
theorem dX1_addClosing_39 : decode cX1_addClosing 39 = .ok (.iastore, 1) := by decide +kernel
theorem dX1_addClosing_40 : decode cX1_addClosing 40 = .ok (.aload_n 0, 1) := by decide +kernel
theorem dX1_addClosing_41 : decode cX1_addClosing 41 = .ok (.getfield 37, 3) := by decide +kernel
theorem dX1_addClosing_44 : decode cX1_addClosing 44 = .ok (.aload_n 0, 1) := by decide +kernel
theorem dX1_addClosing_45 : decode cX1_addClosing 45 = .ok (.getfield 24, 3) := by decide +kernel
theorem dX1_addClosing_48 : decode cX1_addClosing 48 = .ok (.iload 4, 2) := by decide +kernel
theorem dX1_addClosing_50 : decode cX1_addClosing 50 = .ok (.iastore, 1) := by decide +kernel
theorem dX1_addClosing_51 : decode cX1_addClosing 51 = .ok (.aload_n 0, 1) := by decide +kernel
theorem dX1_addClosing_52 : decode cX1_addClosing 52 = .ok (.dup, 1) := by decide +kernel
theorem dX1_addClosing_53 : decode cX1_addClosing 53 = .ok (.getfield 24, 3) := by decide +kernel
theorem dX1_addClosing_56 : decode cX1_addClosing 56 = .ok (.iconst 1, 1) := by decide +kernel
theorem dX1_addClosing_57 : decode cX1_addClosing 57 = .ok (.iadd, 1) := by decide +kernel
theorem dX1_addClosing_58 : decode cX1_addClosing 58 = .ok (.putfield 24, 3) := by decide +kernel
theorem dX1_addClosing_61 : decode cX1_addClosing 61 = .ok (.return_, 1) := by decide +kernel
theorem dX1_putTest_0 : decode cX1_putTest 0 = .ok (.aload_n 0, 1) := by decide +kernel
theorem dX1_putTest_1 : decode cX1_putTest 1 = .ok (.getfield 40, 3) := by decide +kernel
theorem dX1_putTest_4 : decode cX1_putTest 4 = .ok (.bipush 16, 2) := by decide +kernel
theorem dX1_putTest_6 : decode cX1_putTest 6 = .ok (.if_icmp .ge 12, 3) := by decide +kernel
theorem dX1_putTest_9 : decode cX1_putTest 9 = .ok (.iload_n 1, 1) := by decide +kernel
theorem dX1_putTest_10 : decode cX1_putTest 10 = .ok (.iconst 0, 1) := by decide +kernel
theorem dX1_putTest_11 : decode cX1_putTest 11 = .ok (.iconst 2, 1) := by decide +kernel
theorem dX1_putTest_12 : decode cX1_putTest 12 = .ok (.invokestatic 58, 3) := by decide +kernel
theorem dX1_putTest_15 : decode cX1_putTest 15 = .ok (.ifCond .ne 4, 3) := by decide +kernel
theorem dX1_putTest_18 : decode cX1_putTest 18 = .ok (.return_, 1) := by decide +kernel
theorem dX1_putTest_19 : decode cX1_putTest 19 = .ok (.aload_n 0, 1) := by decide +kernel
theorem dX1_putTest_20 : decode cX1_putTest 20 = .ok (.getfield 40, 3) := by decide +kernel
theorem dX1_putTest_23 : decode cX1_putTest 23 = .ok (.iconst 3, 1) := by decide +kernel
theorem dX1_putTest_24 : decode cX1_putTest 24 = .ok (.imul, 1) := by decide +kernel
theorem dX1_putTest_25 : decode cX1_putTest 25 = .ok (.iload_n 1, 1) := by decide +kernel
theorem dX1_putTest_26 : decode cX1_putTest 26 = .ok (.iadd, 1) := by decide +kernel
theorem dX1_putTest_27 : decode cX1_putTest 27 = .ok (.istore 5, 2) := by decide +kernel
theorem dX1_putTest_29 : decode cX1_putTest 29 = .ok (.aload_n 0, 1) := by decide +kernel
theorem dX1_putTest_30 : decode cX1_putTest 30 = .ok (.getfield 49, 3) := by decide +kernel
theorem dX1_putTest_33 : decode cX1_putTest 33 = .ok (.iload 5, 2) := by decide +kernel
theorem dX1_putTest_35 : decode cX1_putTest 35 = .ok (.iload_n 2, 1) := by decide +kernel
theorem dX1_putTest_36 : decode cX1_putTest 36 = .ok (.iastore, 1) := by decide +kernel
theorem dX1_putTest_37 : decode cX1_putTest 37 = .ok (.aload_n 0, 1) := by decide +kernel
theorem dX1_putTest_38 : decode cX1_putTest 38 = .ok (.getfield 52, 3) := by decide +kernel
theorem dX1_putTest_41 : decode cX1_putTest 41 = .ok (.iload 5, 2) := by decide +kernel
theorem dX1_putTest_43 : decode cX1_putTest 43 = .ok (.iload_n 3, 1) := by decide +kernel
theorem dX1_putTest_44 : decode cX1_putTest 44 = .ok (.iastore, 1) := by decide +kernel
theorem dX1_putTest_45 : decode cX1_putTest 45 = .ok (.aload_n 0, 1) := by decide +kernel
theorem dX1_putTest_46 : decode cX1_putTest 46 = .ok (.getfield 55, 3) := by decide +kernel
theorem dX1_putTest_49 : decode cX1_putTest 49 = .ok (.iload 5, 2) := by decide +kernel
theorem dX1_putTest_51 : decode cX1_putTest 51 = .ok (.iload 4, 2) := by decide +kernel
theorem dX1_putTest_53 : decode cX1_putTest 53 = .ok (.iastore, 1) := by decide +kernel
theorem dX1_putTest_54 : decode cX1_putTest 54 = .ok (.return_, 1) := by decide +kernel
theorem dX1_addRule_0 : decode cX1_addRule 0 = .ok (.aload_n 0, 1) := by decide +kernel
theorem dX1_addRule_1 : decode cX1_addRule 1 = .ok (.getfield 40, 3) := by decide +kernel
theorem dX1_addRule_4 : decode cX1_addRule 4 = .ok (.bipush 16, 2) := by decide +kernel
theorem dX1_addRule_6 : decode cX1_addRule 6 = .ok (.if_icmp .ge 12, 3) := by decide +kernel
theorem dX1_addRule_9 : decode cX1_addRule 9 = .ok (.iload_n 1, 1) := by decide +kernel
theorem dX1_addRule_10 : decode cX1_addRule 10 = .ok (.iconst 1, 1) := by decide +kernel
theorem dX1_addRule_11 : decode cX1_addRule 11 = .ok (.iconst 3, 1) := by decide +kernel
theorem dX1_addRule_12 : decode cX1_addRule 12 = .ok (.invokestatic 58, 3) := by decide +kernel
theorem dX1_addRule_15 : decode cX1_addRule 15 = .ok (.ifCond .ne 4, 3) := by decide +kernel
theorem dX1_addRule_18 : decode cX1_addRule 18 = .ok (.return_, 1) := by decide +kernel
theorem dX1_addRule_19 : decode cX1_addRule 19 = .ok (.aload_n 0, 1) := by decide +kernel
theorem dX1_addRule_20 : decode cX1_addRule 20 = .ok (.getfield 43, 3) := by decide +kernel
theorem dX1_addRule_23 : decode cX1_addRule 23 = .ok (.aload_n 0, 1) := by decide +kernel
theorem dX1_addRule_24 : decode cX1_addRule 24 = .ok (.getfield 40, 3) := by decide +kernel
theorem dX1_addRule_27 : decode cX1_addRule 27 = .ok (.iload_n 1, 1) := by decide +kernel
theorem dX1_addRule_28 : decode cX1_addRule 28 = .ok (.iastore, 1) := by decide +kernel
theorem dX1_addRule_29 : decode cX1_addRule 29 = .ok (.aload_n 0, 1) := by decide +kernel
theorem dX1_addRule_30 : decode cX1_addRule 30 = .ok (.getfield 46, 3) := by decide +kernel
theorem dX1_addRule_33 : decode cX1_addRule 33 = .ok (.aload_n 0, 1) := by decide +kernel
theorem dX1_addRule_34 : decode cX1_addRule 34 = .ok (.getfield 40, 3) := by decide +kernel
theorem dX1_addRule_37 : decode cX1_addRule 37 = .ok (.iload_n 2, 1) := by decide +kernel
theorem dX1_addRule_38 : decode cX1_addRule 38 = .ok (.iastore, 1) := by decide +kernel
theorem dX1_addRule_39 : decode cX1_addRule 39 = .ok (.aload_n 0, 1) := by decide +kernel
theorem dX1_addRule_40 : decode cX1_addRule 40 = .ok (.dup, 1) := by decide +kernel
theorem dX1_addRule_41 : decode cX1_addRule 41 = .ok (.getfield 40, 3) := by decide +kernel
theorem dX1_addRule_44 : decode cX1_addRule 44 = .ok (.iconst 1, 1) := by decide +kernel
theorem dX1_addRule_45 : decode cX1_addRule 45 = .ok (.iadd, 1) := by decide +kernel
theorem dX1_addRule_46 : decode cX1_addRule 46 = .ok (.putfield 40, 3) := by decide +kernel
theorem dX1_addRule_49 : decode cX1_addRule 49 = .ok (.return_, 1) := by decide +kernel
theorem dX1_closes_0 : decode cX1_closes 0 = .ok (.iload_n 2, 1) := by decide +kernel
theorem dX1_closes_1 : decode cX1_closes 1 = .ok (.sipush 365, 3) := by decide +kernel
theorem dX1_closes_4 : decode cX1_closes 4 = .ok (.irem, 1) := by decide +kernel
theorem dX1_closes_5 : decode cX1_closes 5 = .ok (.istore_n 3, 1) := by decide +kernel
theorem dX1_closes_6 : decode cX1_closes 6 = .ok (.iconst 0, 1) := by decide +kernel
theorem dX1_closes_7 : decode cX1_closes 7 = .ok (.istore 4, 2) := by decide +kernel
theorem dX1_closes_9 : decode cX1_closes 9 = .ok (.iload 4, 2) := by decide +kernel
theorem dX1_closes_11 : decode cX1_closes 11 = .ok (.aload_n 0, 1) := by decide +kernel
theorem dX1_closes_12 : decode cX1_closes 12 = .ok (.getfield 24, 3) := by decide +kernel
theorem dX1_closes_15 : decode cX1_closes 15 = .ok (.if_icmp .ge 42, 3) := by decide +kernel
theorem dX1_closes_18 : decode cX1_closes 18 = .ok (.iload_n 1, 1) := by decide +kernel
theorem dX1_closes_19 : decode cX1_closes 19 = .ok (.aload_n 0, 1) := by decide +kernel
theorem dX1_closes_20 : decode cX1_closes 20 = .ok (.getfield 27, 3) := by decide +kernel
theorem dX1_closes_23 : decode cX1_closes 23 = .ok (.iload 4, 2) := by decide +kernel
theorem dX1_closes_25 : decode cX1_closes 25 = .ok (.iaload, 1) := by decide +kernel
theorem dX1_closes_26 : decode cX1_closes 26 = .ok (.aload_n 0, 1) := by decide +kernel
theorem dX1_closes_27 : decode cX1_closes 27 = .ok (.getfield 31, 3) := by decide +kernel
theorem dX1_closes_30 : decode cX1_closes 30 = .ok (.iload 4, 2) := by decide +kernel
theorem dX1_closes_32 : decode cX1_closes 32 = .ok (.iaload, 1) := by decide +kernel
theorem dX1_closes_33 : decode cX1_closes 33 = .ok (.invokestatic 58, 3) := by decide +kernel
theorem dX1_closes_36 : decode cX1_closes 36 = .ok (.ifCond .eq 15, 3) := by decide +kernel
theorem dX1_closes_39 : decode cX1_closes 39 = .ok (.aload_n 0, 1) := by decide +kernel
theorem dX1_closes_40 : decode cX1_closes 40 = .ok (.iload 4, 2) := by decide +kernel
theorem dX1_closes_42 : decode cX1_closes 42 = .ok (.iload_n 3, 1) := by decide +kernel
theorem dX1_closes_43 : decode cX1_closes 43 = .ok (.invokevirtual 62, 3) := by decide +kernel
theorem dX1_closes_46 : decode cX1_closes 46 = .ok (.ifCond .eq 5, 3) := by decide +kernel
theorem dX1_closes_49 : decode cX1_closes 49 = .ok (.iconst 1, 1) := by decide +kernel
theorem dX1_closes_50 : decode cX1_closes 50 = .ok (.ireturn, 1) := by decide +kernel
theorem dX1_closes_51 : decode cX1_closes 51 = .ok (.iinc 4 1, 3) := by decide +kernel
theorem dX1_closes_54 : decode cX1_closes 54 = .ok (.goto (-45), 3) := by decide +kernel
theorem dX1_closes_57 : decode cX1_closes 57 = .ok (.iconst 0, 1) := by decide +kernel
theorem dX1_closes_58 : decode cX1_closes 58 = .ok (.ireturn, 1) := by decide +kernel
theorem dX1_runsOn_0 : decode cX1_runsOn 0 = .ok (.aload_n 0, 1) := by decide +kernel
theorem dX1_runsOn_1 : decode cX1_runsOn 1 = .ok (.getfield 37, 3) := by decide +kernel
theorem dX1_runsOn_4 : decode cX1_runsOn 4 = .ok (.iload_n 1, 1) := by decide +kernel
theorem dX1_runsOn_5 : decode cX1_runsOn 5 = .ok (.iaload, 1) := by decide +kernel
theorem dX1_runsOn_6 : decode cX1_runsOn 6 = .ok (.aload_n 0, 1) := by decide +kernel
theorem dX1_runsOn_7 : decode cX1_runsOn 7 = .ok (.getfield 34, 3) := by decide +kernel
theorem dX1_runsOn_10 : decode cX1_runsOn 10 = .ok (.iload_n 1, 1) := by decide +kernel
theorem dX1_runsOn_11 : decode cX1_runsOn 11 = .ok (.iaload, 1) := by decide +kernel
theorem dX1_runsOn_12 : decode cX1_runsOn 12 = .ok (.if_icmp .ge 29, 3) := by decide +kernel
theorem dX1_runsOn_15 : decode cX1_runsOn 15 = .ok (.iload_n 2, 1) := by decide +kernel
theorem dX1_runsOn_16 : decode cX1_runsOn 16 = .ok (.aload_n 0, 1) := by decide +kernel
theorem dX1_runsOn_17 : decode cX1_runsOn 17 = .ok (.getfield 34, 3) := by decide +kernel
theorem dX1_runsOn_20 : decode cX1_runsOn 20 = .ok (.iload_n 1, 1) := by decide +kernel
theorem dX1_runsOn_21 : decode cX1_runsOn 21 = .ok (.iaload, 1) := by decide +kernel
theorem dX1_runsOn_22 : decode cX1_runsOn 22 = .ok (.if_icmp .ge 13, 3) := by decide +kernel
theorem dX1_runsOn_25 : decode cX1_runsOn 25 = .ok (.iload_n 2, 1) := by decide +kernel
theorem dX1_runsOn_26 : decode cX1_runsOn 26 = .ok (.aload_n 0, 1) := by decide +kernel
theorem dX1_runsOn_27 : decode cX1_runsOn 27 = .ok (.getfield 37, 3) := by decide +kernel
theorem dX1_runsOn_30 : decode cX1_runsOn 30 = .ok (.iload_n 1, 1) := by decide +kernel
theorem dX1_runsOn_31 : decode cX1_runsOn 31 = .ok (.iaload, 1) := by decide +kernel
theorem dX1_runsOn_32 : decode cX1_runsOn 32 = .ok (.if_icmp .gt 7, 3) := by decide +kernel
theorem dX1_runsOn_35 : decode cX1_runsOn 35 = .ok (.iconst 1, 1) := by decide +kernel
theorem dX1_runsOn_36 : decode cX1_runsOn 36 = .ok (.goto 4, 3) := by decide +kernel
theorem dX1_runsOn_39 : decode cX1_runsOn 39 = .ok (.iconst 0, 1) := by decide +kernel
theorem dX1_runsOn_40 : decode cX1_runsOn 40 = .ok (.ireturn, 1) := by decide +kernel
theorem dX1_runsOn_41 : decode cX1_runsOn 41 = .ok (.iload_n 2, 1) := by decide +kernel
theorem dX1_runsOn_42 : decode cX1_runsOn 42 = .ok (.aload_n 0, 1) := by decide +kernel
theorem dX1_runsOn_43 : decode cX1_runsOn 43 = .ok (.getfield 34, 3) := by decide +kernel
theorem dX1_runsOn_46 : decode cX1_runsOn 46 = .ok (.iload_n 1, 1) := by decide +kernel
theorem dX1_runsOn_47 : decode cX1_runsOn 47 = .ok (.iaload, 1) := by decide +kernel
theorem dX1_runsOn_48 : decode cX1_runsOn 48 = .ok (.aload_n 0, 1) := by decide +kernel
theorem dX1_runsOn_49 : decode cX1_runsOn 49 = .ok (.getfield 37, 3) := by decide +kernel
theorem dX1_runsOn_52 : decode cX1_runsOn 52 = .ok (.iload_n 1, 1) := by decide +kernel
theorem dX1_runsOn_53 : decode cX1_runsOn 53 = .ok (.iaload, 1) := by decide +kernel
theorem dX1_runsOn_54 : decode cX1_runsOn 54 = .ok (.invokestatic 58, 3) := by decide +kernel
theorem dX1_runsOn_57 : decode cX1_runsOn 57 = .ok (.ireturn, 1) := by decide +kernel
theorem dX1_deedFor_0 : decode cX1_deedFor 0 = .ok (.iconst 0, 1) := by decide +kernel
theorem dX1_deedFor_1 : decode cX1_deedFor 1 = .ok (.istore_n 3, 1) := by decide +kernel
theorem dX1_deedFor_2 : decode cX1_deedFor 2 = .ok (.iload_n 3, 1) := by decide +kernel
theorem dX1_deedFor_3 : decode cX1_deedFor 3 = .ok (.aload_n 0, 1) := by decide +kernel
theorem dX1_deedFor_4 : decode cX1_deedFor 4 = .ok (.getfield 40, 3) := by decide +kernel
theorem dX1_deedFor_7 : decode cX1_deedFor 7 = .ok (.if_icmp .ge 26, 3) := by decide +kernel
theorem dX1_deedFor_10 : decode cX1_deedFor 10 = .ok (.aload_n 0, 1) := by decide +kernel
theorem dX1_deedFor_11 : decode cX1_deedFor 11 = .ok (.iload_n 3, 1) := by decide +kernel
theorem dX1_deedFor_12 : decode cX1_deedFor 12 = .ok (.aload_n 1, 1) := by decide +kernel
theorem dX1_deedFor_13 : decode cX1_deedFor 13 = .ok (.iload_n 2, 1) := by decide +kernel
theorem dX1_deedFor_14 : decode cX1_deedFor 14 = .ok (.invokevirtual 66, 3) := by decide +kernel
theorem dX1_deedFor_17 : decode cX1_deedFor 17 = .ok (.ifCond .eq 10, 3) := by decide +kernel
theorem dX1_deedFor_20 : decode cX1_deedFor 20 = .ok (.aload_n 0, 1) := by decide +kernel
theorem dX1_deedFor_21 : decode cX1_deedFor 21 = .ok (.getfield 46, 3) := by decide +kernel
theorem dX1_deedFor_24 : decode cX1_deedFor 24 = .ok (.iload_n 3, 1) := by decide +kernel
theorem dX1_deedFor_25 : decode cX1_deedFor 25 = .ok (.iaload, 1) := by decide +kernel
theorem dX1_deedFor_26 : decode cX1_deedFor 26 = .ok (.ireturn, 1) := by decide +kernel
theorem dX1_deedFor_27 : decode cX1_deedFor 27 = .ok (.iinc 3 1, 3) := by decide +kernel
theorem dX1_deedFor_30 : decode cX1_deedFor 30 = .ok (.goto (-28), 3) := by decide +kernel
theorem dX1_deedFor_33 : decode cX1_deedFor 33 = .ok (.bipush 11, 2) := by decide +kernel
theorem dX1_deedFor_35 : decode cX1_deedFor 35 = .ok (.ireturn, 1) := by decide +kernel
theorem dX1_allHold_0 : decode cX1_allHold 0 = .ok (.iload_n 1, 1) := by decide +kernel
theorem dX1_allHold_1 : decode cX1_allHold 1 = .ok (.iconst 3, 1) := by decide +kernel
theorem dX1_allHold_2 : decode cX1_allHold 2 = .ok (.imul, 1) := by decide +kernel
theorem dX1_allHold_3 : decode cX1_allHold 3 = .ok (.istore 4, 2) := by decide +kernel
theorem dX1_allHold_5 : decode cX1_allHold 5 = .ok (.iload 4, 2) := by decide +kernel
theorem dX1_allHold_7 : decode cX1_allHold 7 = .ok (.istore 5, 2) := by decide +kernel
theorem dX1_allHold_9 : decode cX1_allHold 9 = .ok (.iload 5, 2) := by decide +kernel
theorem dX1_allHold_11 : decode cX1_allHold 11 = .ok (.iload 4, 2) := by decide +kernel
theorem dX1_allHold_13 : decode cX1_allHold 13 = .ok (.aload_n 0, 1) := by decide +kernel
theorem dX1_allHold_14 : decode cX1_allHold 14 = .ok (.getfield 43, 3) := by decide +kernel
theorem dX1_allHold_17 : decode cX1_allHold 17 = .ok (.iload_n 1, 1) := by decide +kernel
theorem dX1_allHold_18 : decode cX1_allHold 18 = .ok (.iaload, 1) := by decide +kernel
theorem dX1_allHold_19 : decode cX1_allHold 19 = .ok (.iadd, 1) := by decide +kernel
theorem dX1_allHold_20 : decode cX1_allHold 20 = .ok (.if_icmp .ge 22, 3) := by decide +kernel
theorem dX1_allHold_23 : decode cX1_allHold 23 = .ok (.aload_n 0, 1) := by decide +kernel
theorem dX1_allHold_24 : decode cX1_allHold 24 = .ok (.iload 5, 2) := by decide +kernel
theorem dX1_allHold_26 : decode cX1_allHold 26 = .ok (.aload_n 2, 1) := by decide +kernel
theorem dX1_allHold_27 : decode cX1_allHold 27 = .ok (.iload_n 3, 1) := by decide +kernel
theorem dX1_allHold_28 : decode cX1_allHold 28 = .ok (.invokevirtual 72, 3) := by decide +kernel
theorem dX1_allHold_31 : decode cX1_allHold 31 = .ok (.ifCond .ne 5, 3) := by decide +kernel
theorem dX1_allHold_34 : decode cX1_allHold 34 = .ok (.iconst 0, 1) := by decide +kernel
theorem dX1_allHold_35 : decode cX1_allHold 35 = .ok (.ireturn, 1) := by decide +kernel
theorem dX1_allHold_36 : decode cX1_allHold 36 = .ok (.iinc 5 1, 3) := by decide +kernel
theorem dX1_allHold_39 : decode cX1_allHold 39 = .ok (.goto (-30), 3) := by decide +kernel
theorem dX1_allHold_42 : decode cX1_allHold 42 = .ok (.iconst 1, 1) := by decide +kernel
theorem dX1_allHold_43 : decode cX1_allHold 43 = .ok (.ireturn, 1) := by decide +kernel
theorem dX1_holds_0 : decode cX1_holds 0 = .ok (.aload_n 0, 1) := by decide +kernel
theorem dX1_holds_1 : decode cX1_holds 1 = .ok (.getfield 49, 3) := by decide +kernel
theorem dX1_holds_4 : decode cX1_holds 4 = .ok (.iload_n 1, 1) := by decide +kernel
theorem dX1_holds_5 : decode cX1_holds 5 = .ok (.iaload, 1) := by decide +kernel
theorem dX1_holds_6 : decode cX1_holds 6 = .ok (.bipush 12, 2) := by decide +kernel
theorem dX1_holds_8 : decode cX1_holds 8 = .ok (.if_icmp .ne 13, 3) := by decide +kernel
theorem dX1_holds_11 : decode cX1_holds 11 = .ok (.aload_n 2, 1) := by decide +kernel
theorem dX1_holds_12 : decode cX1_holds 12 = .ok (.getfield 75, 3) := by decide +kernel
theorem dX1_holds_15 : decode cX1_holds 15 = .ok (.iconst (-1), 1) := by decide +kernel
theorem dX1_holds_16 : decode cX1_holds 16 = .ok (.if_icmp .ne 5, 3) := by decide +kernel
theorem dX1_holds_19 : decode cX1_holds 19 = .ok (.iconst 0, 1) := by decide +kernel
theorem dX1_holds_20 : decode cX1_holds 20 = .ok (.ireturn, 1) := by decide +kernel
theorem dX1_holds_21 : decode cX1_holds 21 = .ok (.aload_n 0, 1) := by decide +kernel
theorem dX1_holds_22 : decode cX1_holds 22 = .ok (.getfield 49, 3) := by decide +kernel
theorem dX1_holds_25 : decode cX1_holds 25 = .ok (.iload_n 1, 1) := by decide +kernel
theorem dX1_holds_26 : decode cX1_holds 26 = .ok (.iaload, 1) := by decide +kernel
theorem dX1_holds_27 : decode cX1_holds 27 = .ok (.aload_n 2, 1) := by decide +kernel
theorem dX1_holds_28 : decode cX1_holds 28 = .ok (.iload_n 3, 1) := by decide +kernel
theorem dX1_holds_29 : decode cX1_holds 29 = .ok (.invokestatic 80, 3) := by decide +kernel
theorem dX1_holds_32 : decode cX1_holds 32 = .ok (.istore 4, 2) := by decide +kernel
theorem dX1_holds_34 : decode cX1_holds 34 = .ok (.aload_n 0, 1) := by decide +kernel
theorem dX1_holds_35 : decode cX1_holds 35 = .ok (.getfield 52, 3) := by decide +kernel
theorem dX1_holds_38 : decode cX1_holds 38 = .ok (.iload_n 1, 1) := by decide +kernel
theorem dX1_holds_39 : decode cX1_holds 39 = .ok (.iaload, 1) := by decide +kernel
theorem dX1_holds_40 : decode cX1_holds 40 = .ok (.lookupswitch 62 #[(60, 28), (62, 45)], 28) := by decide +kernel
theorem dX1_holds_68 : decode cX1_holds 68 = .ok (.iload 4, 2) := by decide +kernel
theorem dX1_holds_70 : decode cX1_holds 70 = .ok (.aload_n 0, 1) := by decide +kernel
theorem dX1_holds_71 : decode cX1_holds 71 = .ok (.getfield 55, 3) := by decide +kernel
theorem dX1_holds_74 : decode cX1_holds 74 = .ok (.iload_n 1, 1) := by decide +kernel
theorem dX1_holds_75 : decode cX1_holds 75 = .ok (.iaload, 1) := by decide +kernel
theorem dX1_holds_76 : decode cX1_holds 76 = .ok (.if_icmp .ge 7, 3) := by decide +kernel
theorem dX1_holds_79 : decode cX1_holds 79 = .ok (.iconst 1, 1) := by decide +kernel
theorem dX1_holds_80 : decode cX1_holds 80 = .ok (.goto 4, 3) := by decide +kernel
theorem dX1_holds_83 : decode cX1_holds 83 = .ok (.iconst 0, 1) := by decide +kernel
theorem dX1_holds_84 : decode cX1_holds 84 = .ok (.ireturn, 1) := by decide +kernel
theorem dX1_holds_85 : decode cX1_holds 85 = .ok (.iload 4, 2) := by decide +kernel
theorem dX1_holds_87 : decode cX1_holds 87 = .ok (.aload_n 0, 1) := by decide +kernel
theorem dX1_holds_88 : decode cX1_holds 88 = .ok (.getfield 55, 3) := by decide +kernel
theorem dX1_holds_91 : decode cX1_holds 91 = .ok (.iload_n 1, 1) := by decide +kernel
theorem dX1_holds_92 : decode cX1_holds 92 = .ok (.iaload, 1) := by decide +kernel
theorem dX1_holds_93 : decode cX1_holds 93 = .ok (.if_icmp .le 7, 3) := by decide +kernel
theorem dX1_holds_96 : decode cX1_holds 96 = .ok (.iconst 1, 1) := by decide +kernel
theorem dX1_holds_97 : decode cX1_holds 97 = .ok (.goto 4, 3) := by decide +kernel
theorem dX1_holds_100 : decode cX1_holds 100 = .ok (.iconst 0, 1) := by decide +kernel
theorem dX1_holds_101 : decode cX1_holds 101 = .ok (.ireturn, 1) := by decide +kernel
theorem dX1_holds_102 : decode cX1_holds 102 = .ok (.iload 4, 2) := by decide +kernel
theorem dX1_holds_104 : decode cX1_holds 104 = .ok (.aload_n 0, 1) := by decide +kernel
theorem dX1_holds_105 : decode cX1_holds 105 = .ok (.getfield 55, 3) := by decide +kernel
theorem dX1_holds_108 : decode cX1_holds 108 = .ok (.iload_n 1, 1) := by decide +kernel
theorem dX1_holds_109 : decode cX1_holds 109 = .ok (.iaload, 1) := by decide +kernel
theorem dX1_holds_110 : decode cX1_holds 110 = .ok (.if_icmp .ne 7, 3) := by decide +kernel
theorem dX1_holds_113 : decode cX1_holds 113 = .ok (.iconst 1, 1) := by decide +kernel
theorem dX1_holds_114 : decode cX1_holds 114 = .ok (.goto 4, 3) := by decide +kernel
theorem dX1_holds_117 : decode cX1_holds 117 = .ok (.iconst 0, 1) := by decide +kernel
theorem dX1_holds_118 : decode cX1_holds 118 = .ok (.ireturn, 1) := by decide +kernel
theorem dX1_valueOf_0 : decode cX1_valueOf 0 = .ok (.iload_n 0, 1) := by decide +kernel
theorem dX1_valueOf_1 : decode cX1_valueOf 1 = .ok (.lookupswitch 34 #[(12, 27), (13, 32)], 27) := by decide +kernel
theorem dX1_valueOf_28 : decode cX1_valueOf 28 = .ok (.aload_n 1, 1) := by decide +kernel
theorem dX1_valueOf_29 : decode cX1_valueOf 29 = .ok (.getfield 75, 3) := by decide +kernel
theorem dX1_valueOf_32 : decode cX1_valueOf 32 = .ok (.ireturn, 1) := by decide +kernel
theorem dX1_valueOf_33 : decode cX1_valueOf 33 = .ok (.iload_n 2, 1) := by decide +kernel
theorem dX1_valueOf_34 : decode cX1_valueOf 34 = .ok (.ireturn, 1) := by decide +kernel
theorem dX1_valueOf_35 : decode cX1_valueOf 35 = .ok (.aload_n 1, 1) := by decide +kernel
theorem dX1_valueOf_36 : decode cX1_valueOf 36 = .ok (.getfield 84, 3) := by decide +kernel
theorem dX1_valueOf_39 : decode cX1_valueOf 39 = .ok (.ireturn, 1) := by decide +kernel
theorem dX2_init_0 : decode cX2_init 0 = .ok (.aload_n 0, 1) := by decide +kernel
theorem dX2_init_1 : decode cX2_init 1 = .ok (.invokespecial 3, 3) := by decide +kernel
theorem dX2_init_4 : decode cX2_init 4 = .ok (.aload_n 0, 1) := by decide +kernel
theorem dX2_init_5 : decode cX2_init 5 = .ok (.iconst 0, 1) := by decide +kernel
theorem dX2_init_6 : decode cX2_init 6 = .ok (.putfield 9, 3) := by decide +kernel
theorem dX2_init_9 : decode cX2_init 9 = .ok (.aload_n 0, 1) := by decide +kernel
theorem dX2_init_10 : decode cX2_init 10 = .ok (.new 15, 3) := by decide +kernel
theorem dX2_init_13 : decode cX2_init 13 = .ok (.dup, 1) := by decide +kernel
theorem dX2_init_14 : decode cX2_init 14 = .ok (.aload_n 1, 1) := by decide +kernel
theorem dX2_init_15 : decode cX2_init 15 = .ok (.invokespecial 17, 3) := by decide +kernel
theorem dX2_init_18 : decode cX2_init 18 = .ok (.putfield 20, 3) := by decide +kernel
theorem dX2_init_21 : decode cX2_init 21 = .ok (.return_, 1) := by decide +kernel
theorem dX2_readText_0 : decode cX2_readText 0 = .ok (.aload_n 0, 1) := by decide +kernel
theorem dX2_readText_1 : decode cX2_readText 1 = .ok (.getfield 20, 3) := by decide +kernel
theorem dX2_readText_4 : decode cX2_readText 4 = .ok (.iload_n 1, 1) := by decide +kernel
theorem dX2_readText_5 : decode cX2_readText 5 = .ok (.invokevirtual 24, 3) := by decide +kernel
theorem dX2_readText_8 : decode cX2_readText 8 = .ok (.aload_n 0, 1) := by decide +kernel
theorem dX2_readText_9 : decode cX2_readText 9 = .ok (.iconst 0, 1) := by decide +kernel
theorem dX2_readText_10 : decode cX2_readText 10 = .ok (.putfield 9, 3) := by decide +kernel
theorem dX2_readText_13 : decode cX2_readText 13 = .ok (.iconst 0, 1) := by decide +kernel
theorem dX2_readText_14 : decode cX2_readText 14 = .ok (.istore_n 3, 1) := by decide +kernel
theorem dX2_readText_15 : decode cX2_readText 15 = .ok (.iload_n 3, 1) := by decide +kernel
theorem dX2_readText_16 : decode cX2_readText 16 = .ok (.bipush 16, 2) := by decide +kernel
theorem dX2_readText_18 : decode cX2_readText 18 = .ok (.if_icmp .ge 45, 3) := by decide +kernel
theorem dX2_readText_21 : decode cX2_readText 21 = .ok (.aload_n 0, 1) := by decide +kernel
theorem dX2_readText_22 : decode cX2_readText 22 = .ok (.getfield 20, 3) := by decide +kernel
theorem dX2_readText_25 : decode cX2_readText 25 = .ok (.aload_n 0, 1) := by decide +kernel
theorem dX2_readText_26 : decode cX2_readText 26 = .ok (.getfield 9, 3) := by decide +kernel
theorem dX2_readText_29 : decode cX2_readText 29 = .ok (.invokevirtual 30, 3) := by decide +kernel
theorem dX2_readText_32 : decode cX2_readText 32 = .ok (.ifCond .ne 5, 3) := by decide +kernel
theorem dX2_readText_35 : decode cX2_readText 35 = .ok (.iconst (-1), 1) := by decide +kernel
theorem dX2_readText_36 : decode cX2_readText 36 = .ok (.ireturn, 1) := by decide +kernel
theorem dX2_readText_37 : decode cX2_readText 37 = .ok (.aload_n 0, 1) := by decide +kernel
theorem dX2_readText_38 : decode cX2_readText 38 = .ok (.aload_n 2, 1) := by decide +kernel
theorem dX2_readText_39 : decode cX2_readText 39 = .ok (.invokevirtual 34, 3) := by decide +kernel
theorem dX2_readText_42 : decode cX2_readText 42 = .ok (.ifCond .ne 15, 3) := by decide +kernel
theorem dX2_readText_45 : decode cX2_readText 45 = .ok (.aload_n 0, 1) := by decide +kernel
theorem dX2_readText_46 : decode cX2_readText 46 = .ok (.getfield 20, 3) := by decide +kernel
theorem dX2_readText_49 : decode cX2_readText 49 = .ok (.aload_n 0, 1) := by decide +kernel
theorem dX2_readText_50 : decode cX2_readText 50 = .ok (.getfield 9, 3) := by decide +kernel
theorem dX2_readText_53 : decode cX2_readText 53 = .ok (.invokevirtual 38, 3) := by decide +kernel
theorem dX2_readText_56 : decode cX2_readText 56 = .ok (.ireturn, 1) := by decide +kernel
theorem dX2_readText_57 : decode cX2_readText 57 = .ok (.iinc 3 1, 3) := by decide +kernel
theorem dX2_readText_60 : decode cX2_readText 60 = .ok (.goto (-45), 3) := by decide +kernel
theorem dX2_readText_63 : decode cX2_readText 63 = .ok (.aload_n 0, 1) := by decide +kernel
theorem dX2_readText_64 : decode cX2_readText 64 = .ok (.getfield 20, 3) := by decide +kernel
theorem dX2_readText_67 : decode cX2_readText 67 = .ok (.aload_n 0, 1) := by decide +kernel
theorem dX2_readText_68 : decode cX2_readText 68 = .ok (.getfield 9, 3) := by decide +kernel
theorem dX2_readText_71 : decode cX2_readText 71 = .ok (.invokevirtual 30, 3) := by decide +kernel
theorem dX2_readText_74 : decode cX2_readText 74 = .ok (.ifCond .ne 7, 3) := by decide +kernel
theorem dX2_readText_77 : decode cX2_readText 77 = .ok (.iconst (-1), 1) := by decide +kernel
theorem dX2_readText_78 : decode cX2_readText 78 = .ok (.goto 14, 3) := by decide +kernel
theorem dX2_readText_81 : decode cX2_readText 81 = .ok (.aload_n 0, 1) := by decide +kernel
theorem dX2_readText_82 : decode cX2_readText 82 = .ok (.getfield 20, 3) := by decide +kernel
theorem dX2_readText_85 : decode cX2_readText 85 = .ok (.aload_n 0, 1) := by decide +kernel
theorem dX2_readText_86 : decode cX2_readText 86 = .ok (.getfield 9, 3) := by decide +kernel
theorem dX2_readText_89 : decode cX2_readText 89 = .ok (.invokevirtual 38, 3) := by decide +kernel
theorem dX2_readText_92 : decode cX2_readText 92 = .ok (.ireturn, 1) := by decide +kernel
theorem dX2_readStatement_0 : decode cX2_readStatement 0 = .ok (.aload_n 0, 1) := by decide +kernel
theorem dX2_readStatement_1 : decode cX2_readStatement 1 = .ok (.iconst 1, 1) := by decide +kernel
theorem dX2_readStatement_2 : decode cX2_readStatement 2 = .ok (.invokevirtual 41, 3) := by decide +kernel
theorem dX2_readStatement_5 : decode cX2_readStatement 5 = .ok (.ifCond .eq 34, 3) := by decide +kernel
theorem dX2_readStatement_8 : decode cX2_readStatement 8 = .ok (.aload_n 1, 1) := by decide +kernel
theorem dX2_readStatement_9 : decode cX2_readStatement 9 = .ok (.aload_n 0, 1) := by decide +kernel
theorem dX2_readStatement_10 : decode cX2_readStatement 10 = .ok (.invokevirtual 45, 3) := by decide +kernel
theorem dX2_readStatement_13 : decode cX2_readStatement 13 = .ok (.putfield 49, 3) := by decide +kernel
theorem dX2_readStatement_16 : decode cX2_readStatement 16 = .ok (.aload_n 1, 1) := by decide +kernel
theorem dX2_readStatement_17 : decode cX2_readStatement 17 = .ok (.getfield 49, 3) := by decide +kernel
theorem dX2_readStatement_20 : decode cX2_readStatement 20 = .ok (.iconst (-1), 1) := by decide +kernel
theorem dX2_readStatement_21 : decode cX2_readStatement 21 = .ok (.if_icmp .eq 16, 3) := by decide +kernel
theorem dX2_readStatement_24 : decode cX2_readStatement 24 = .ok (.aload_n 0, 1) := by decide +kernel
theorem dX2_readStatement_25 : decode cX2_readStatement 25 = .ok (.bipush 59, 2) := by decide +kernel
theorem dX2_readStatement_27 : decode cX2_readStatement 27 = .ok (.invokevirtual 41, 3) := by decide +kernel
theorem dX2_readStatement_30 : decode cX2_readStatement 30 = .ok (.ifCond .eq 7, 3) := by decide +kernel
theorem dX2_readStatement_33 : decode cX2_readStatement 33 = .ok (.iconst 1, 1) := by decide +kernel
theorem dX2_readStatement_34 : decode cX2_readStatement 34 = .ok (.goto 4, 3) := by decide +kernel
theorem dX2_readStatement_37 : decode cX2_readStatement 37 = .ok (.iconst 0, 1) := by decide +kernel
theorem dX2_readStatement_38 : decode cX2_readStatement 38 = .ok (.ireturn, 1) := by decide +kernel
theorem dX2_readStatement_39 : decode cX2_readStatement 39 = .ok (.aload_n 0, 1) := by decide +kernel
theorem dX2_readStatement_40 : decode cX2_readStatement 40 = .ok (.iconst 2, 1) := by decide +kernel
theorem dX2_readStatement_41 : decode cX2_readStatement 41 = .ok (.invokevirtual 41, 3) := by decide +kernel
theorem dX2_readStatement_44 : decode cX2_readStatement 44 = .ok (.ifCond .eq 34, 3) := by decide +kernel
theorem dX2_readStatement_47 : decode cX2_readStatement 47 = .ok (.aload_n 1, 1) := by decide +kernel
theorem dX2_readStatement_48 : decode cX2_readStatement 48 = .ok (.aload_n 0, 1) := by decide +kernel
theorem dX2_readStatement_49 : decode cX2_readStatement 49 = .ok (.invokevirtual 45, 3) := by decide +kernel
theorem dX2_readStatement_52 : decode cX2_readStatement 52 = .ok (.putfield 52, 3) := by decide +kernel
theorem dX2_readStatement_55 : decode cX2_readStatement 55 = .ok (.aload_n 1, 1) := by decide +kernel
theorem dX2_readStatement_56 : decode cX2_readStatement 56 = .ok (.getfield 52, 3) := by decide +kernel
theorem dX2_readStatement_59 : decode cX2_readStatement 59 = .ok (.iconst (-1), 1) := by decide +kernel
theorem dX2_readStatement_60 : decode cX2_readStatement 60 = .ok (.if_icmp .eq 16, 3) := by decide +kernel
theorem dX2_readStatement_63 : decode cX2_readStatement 63 = .ok (.aload_n 0, 1) := by decide +kernel
theorem dX2_readStatement_64 : decode cX2_readStatement 64 = .ok (.bipush 59, 2) := by decide +kernel
theorem dX2_readStatement_66 : decode cX2_readStatement 66 = .ok (.invokevirtual 41, 3) := by decide +kernel
theorem dX2_readStatement_69 : decode cX2_readStatement 69 = .ok (.ifCond .eq 7, 3) := by decide +kernel
theorem dX2_readStatement_72 : decode cX2_readStatement 72 = .ok (.iconst 1, 1) := by decide +kernel
theorem dX2_readStatement_73 : decode cX2_readStatement 73 = .ok (.goto 4, 3) := by decide +kernel
theorem dX2_readStatement_76 : decode cX2_readStatement 76 = .ok (.iconst 0, 1) := by decide +kernel
theorem dX2_readStatement_77 : decode cX2_readStatement 77 = .ok (.ireturn, 1) := by decide +kernel
theorem dX2_readStatement_78 : decode cX2_readStatement 78 = .ok (.aload_n 0, 1) := by decide +kernel
theorem dX2_readStatement_79 : decode cX2_readStatement 79 = .ok (.iconst 3, 1) := by decide +kernel
theorem dX2_readStatement_80 : decode cX2_readStatement 80 = .ok (.invokevirtual 41, 3) := by decide +kernel
theorem dX2_readStatement_83 : decode cX2_readStatement 83 = .ok (.ifCond .eq 9, 3) := by decide +kernel
theorem dX2_readStatement_86 : decode cX2_readStatement 86 = .ok (.aload_n 0, 1) := by decide +kernel
theorem dX2_readStatement_87 : decode cX2_readStatement 87 = .ok (.aload_n 1, 1) := by decide +kernel
theorem dX2_readStatement_88 : decode cX2_readStatement 88 = .ok (.invokevirtual 55, 3) := by decide +kernel
theorem dX2_readStatement_91 : decode cX2_readStatement 91 = .ok (.ireturn, 1) := by decide +kernel
theorem dX2_readStatement_92 : decode cX2_readStatement 92 = .ok (.aload_n 0, 1) := by decide +kernel
theorem dX2_readStatement_93 : decode cX2_readStatement 93 = .ok (.bipush 6, 2) := by decide +kernel
theorem dX2_readStatement_95 : decode cX2_readStatement 95 = .ok (.invokevirtual 41, 3) := by decide +kernel
theorem dX2_readStatement_98 : decode cX2_readStatement 98 = .ok (.ifCond .eq 15, 3) := by decide +kernel
theorem dX2_readStatement_101 : decode cX2_readStatement 101 = .ok (.aload_n 0, 1) := by decide +kernel
theorem dX2_readStatement_102 : decode cX2_readStatement 102 = .ok (.aload_n 1, 1) := by decide +kernel
theorem dX2_readStatement_103 : decode cX2_readStatement 103 = .ok (.invokevirtual 58, 3) := by decide +kernel
theorem dX2_readStatement_106 : decode cX2_readStatement 106 = .ok (.ifCond .eq 7, 3) := by decide +kernel
theorem dX2_readStatement_109 : decode cX2_readStatement 109 = .ok (.iconst 1, 1) := by decide +kernel
theorem dX2_readStatement_110 : decode cX2_readStatement 110 = .ok (.goto 4, 3) := by decide +kernel
theorem dX2_readStatement_113 : decode cX2_readStatement 113 = .ok (.iconst 0, 1) := by decide +kernel
theorem dX2_readStatement_114 : decode cX2_readStatement 114 = .ok (.ireturn, 1) := by decide +kernel
theorem dX2_readClosing_0 : decode cX2_readClosing 0 = .ok (.aload_n 0, 1) := by decide +kernel
theorem dX2_readClosing_1 : decode cX2_readClosing 1 = .ok (.invokevirtual 45, 3) := by decide +kernel
theorem dX2_readClosing_4 : decode cX2_readClosing 4 = .ok (.istore_n 2, 1) := by decide +kernel
theorem dX2_readClosing_5 : decode cX2_readClosing 5 = .ok (.iload_n 2, 1) := by decide +kernel
theorem dX2_readClosing_6 : decode cX2_readClosing 6 = .ok (.iconst (-1), 1) := by decide +kernel
theorem dX2_readClosing_7 : decode cX2_readClosing 7 = .ok (.if_icmp .eq 11, 3) := by decide +kernel
theorem dX2_readClosing_10 : decode cX2_readClosing 10 = .ok (.aload_n 0, 1) := by decide +kernel
theorem dX2_readClosing_11 : decode cX2_readClosing 11 = .ok (.iconst 4, 1) := by decide +kernel
theorem dX2_readClosing_12 : decode cX2_readClosing 12 = .ok (.invokevirtual 41, 3) := by decide +kernel
theorem dX2_readClosing_15 : decode cX2_readClosing 15 = .ok (.ifCond .ne 5, 3) := by decide +kernel
theorem dX2_readClosing_18 : decode cX2_readClosing 18 = .ok (.iconst 0, 1) := by decide +kernel
theorem dX2_readClosing_19 : decode cX2_readClosing 19 = .ok (.ireturn, 1) := by decide +kernel
theorem dX2_readClosing_20 : decode cX2_readClosing 20 = .ok (.aload_n 0, 1) := by decide +kernel
theorem dX2_readClosing_21 : decode cX2_readClosing 21 = .ok (.invokevirtual 45, 3) := by decide +kernel
theorem dX2_readClosing_24 : decode cX2_readClosing 24 = .ok (.istore_n 3, 1) := by decide +kernel
theorem dX2_readClosing_25 : decode cX2_readClosing 25 = .ok (.iload_n 3, 1) := by decide +kernel
theorem dX2_readClosing_26 : decode cX2_readClosing 26 = .ok (.iconst (-1), 1) := by decide +kernel
theorem dX2_readClosing_27 : decode cX2_readClosing 27 = .ok (.if_icmp .eq 11, 3) := by decide +kernel
theorem dX2_readClosing_30 : decode cX2_readClosing 30 = .ok (.aload_n 0, 1) := by decide +kernel
theorem dX2_readClosing_31 : decode cX2_readClosing 31 = .ok (.iconst 5, 1) := by decide +kernel
theorem dX2_readClosing_32 : decode cX2_readClosing 32 = .ok (.invokevirtual 41, 3) := by decide +kernel
theorem dX2_readClosing_35 : decode cX2_readClosing 35 = .ok (.ifCond .ne 5, 3) := by decide +kernel
theorem dX2_readClosing_38 : decode cX2_readClosing 38 = .ok (.iconst 0, 1) := by decide +kernel
theorem dX2_readClosing_39 : decode cX2_readClosing 39 = .ok (.ireturn, 1) := by decide +kernel
theorem dX2_readClosing_40 : decode cX2_readClosing 40 = .ok (.aload_n 0, 1) := by decide +kernel
theorem dX2_readClosing_41 : decode cX2_readClosing 41 = .ok (.invokevirtual 45, 3) := by decide +kernel
theorem dX2_readClosing_44 : decode cX2_readClosing 44 = .ok (.istore 4, 2) := by decide +kernel
theorem dX2_readClosing_46 : decode cX2_readClosing 46 = .ok (.iload 4, 2) := by decide +kernel
theorem dX2_readClosing_48 : decode cX2_readClosing 48 = .ok (.iconst (-1), 1) := by decide +kernel
theorem dX2_readClosing_49 : decode cX2_readClosing 49 = .ok (.if_icmp .eq 11, 3) := by decide +kernel
theorem dX2_readClosing_52 : decode cX2_readClosing 52 = .ok (.aload_n 0, 1) := by decide +kernel
theorem dX2_readClosing_53 : decode cX2_readClosing 53 = .ok (.iconst 4, 1) := by decide +kernel
theorem dX2_readClosing_54 : decode cX2_readClosing 54 = .ok (.invokevirtual 41, 3) := by decide +kernel
theorem dX2_readClosing_57 : decode cX2_readClosing 57 = .ok (.ifCond .ne 5, 3) := by decide +kernel
theorem dX2_readClosing_60 : decode cX2_readClosing 60 = .ok (.iconst 0, 1) := by decide +kernel
theorem dX2_readClosing_61 : decode cX2_readClosing 61 = .ok (.ireturn, 1) := by decide +kernel
theorem dX2_readClosing_62 : decode cX2_readClosing 62 = .ok (.aload_n 0, 1) := by decide +kernel
theorem dX2_readClosing_63 : decode cX2_readClosing 63 = .ok (.invokevirtual 45, 3) := by decide +kernel
theorem dX2_readClosing_66 : decode cX2_readClosing 66 = .ok (.istore 5, 2) := by decide +kernel
theorem dX2_readClosing_68 : decode cX2_readClosing 68 = .ok (.iload 5, 2) := by decide +kernel
theorem dX2_readClosing_70 : decode cX2_readClosing 70 = .ok (.iconst (-1), 1) := by decide +kernel
theorem dX2_readClosing_71 : decode cX2_readClosing 71 = .ok (.if_icmp .eq 12, 3) := by decide +kernel
theorem dX2_readClosing_74 : decode cX2_readClosing 74 = .ok (.aload_n 0, 1) := by decide +kernel
theorem dX2_readClosing_75 : decode cX2_readClosing 75 = .ok (.bipush 59, 2) := by decide +kernel
theorem dX2_readClosing_77 : decode cX2_readClosing 77 = .ok (.invokevirtual 41, 3) := by decide +kernel
theorem dX2_readClosing_80 : decode cX2_readClosing 80 = .ok (.ifCond .ne 5, 3) := by decide +kernel
theorem dX2_readClosing_83 : decode cX2_readClosing 83 = .ok (.iconst 0, 1) := by decide +kernel
theorem dX2_readClosing_84 : decode cX2_readClosing 84 = .ok (.ireturn, 1) := by decide +kernel
theorem dX2_readClosing_85 : decode cX2_readClosing 85 = .ok (.aload_n 1, 1) := by decide +kernel
theorem dX2_readClosing_86 : decode cX2_readClosing 86 = .ok (.iload_n 2, 1) := by decide +kernel
theorem dX2_readClosing_87 : decode cX2_readClosing 87 = .ok (.iload_n 3, 1) := by decide +kernel
theorem dX2_readClosing_88 : decode cX2_readClosing 88 = .ok (.iload 4, 2) := by decide +kernel
theorem dX2_readClosing_90 : decode cX2_readClosing 90 = .ok (.iload 5, 2) := by decide +kernel
theorem dX2_readClosing_92 : decode cX2_readClosing 92 = .ok (.invokevirtual 61, 3) := by decide +kernel
theorem dX2_readClosing_95 : decode cX2_readClosing 95 = .ok (.iconst 1, 1) := by decide +kernel
theorem dX2_readClosing_96 : decode cX2_readClosing 96 = .ok (.ireturn, 1) := by decide +kernel
theorem dX2_readRule_0 : decode cX2_readRule 0 = .ok (.iconst 0, 1) := by decide +kernel
theorem dX2_readRule_1 : decode cX2_readRule 1 = .ok (.istore_n 2, 1) := by decide +kernel
theorem dX2_readRule_2 : decode cX2_readRule 2 = .ok (.iload_n 2, 1) := by decide +kernel
theorem dX2_readRule_3 : decode cX2_readRule 3 = .ok (.iconst 3, 1) := by decide +kernel
theorem dX2_readRule_4 : decode cX2_readRule 4 = .ok (.if_icmp .ge 12, 3) := by decide +kernel
theorem dX2_readRule_7 : decode cX2_readRule 7 = .ok (.aload_n 0, 1) := by decide +kernel
theorem dX2_readRule_8 : decode cX2_readRule 8 = .ok (.aload_n 1, 1) := by decide +kernel
theorem dX2_readRule_9 : decode cX2_readRule 9 = .ok (.iload_n 2, 1) := by decide +kernel
theorem dX2_readRule_10 : decode cX2_readRule 10 = .ok (.invokevirtual 65, 3) := by decide +kernel
theorem dX2_readRule_13 : decode cX2_readRule 13 = .ok (.ifCond .ne 5, 3) := by decide +kernel
theorem dX2_readRule_16 : decode cX2_readRule 16 = .ok (.iconst 0, 1) := by decide +kernel
theorem dX2_readRule_17 : decode cX2_readRule 17 = .ok (.ireturn, 1) := by decide +kernel
theorem dX2_readRule_18 : decode cX2_readRule 18 = .ok (.iinc 2 1, 3) := by decide +kernel
theorem dX2_readRule_21 : decode cX2_readRule 21 = .ok (.aload_n 0, 1) := by decide +kernel
theorem dX2_readRule_22 : decode cX2_readRule 22 = .ok (.bipush 7, 2) := by decide +kernel
theorem dX2_readRule_24 : decode cX2_readRule 24 = .ok (.invokevirtual 41, 3) := by decide +kernel
theorem dX2_readRule_27 : decode cX2_readRule 27 = .ok (.ifCond .ne (-25), 3) := by decide +kernel
theorem dX2_readRule_30 : decode cX2_readRule 30 = .ok (.aload_n 0, 1) := by decide +kernel
theorem dX2_readRule_31 : decode cX2_readRule 31 = .ok (.bipush 8, 2) := by decide +kernel
theorem dX2_readRule_33 : decode cX2_readRule 33 = .ok (.invokevirtual 41, 3) := by decide +kernel
theorem dX2_readRule_36 : decode cX2_readRule 36 = .ok (.ifCond .ne 5, 3) := by decide +kernel
theorem dX2_readRule_39 : decode cX2_readRule 39 = .ok (.iconst 0, 1) := by decide +kernel
theorem dX2_readRule_40 : decode cX2_readRule 40 = .ok (.ireturn, 1) := by decide +kernel
theorem dX2_readRule_41 : decode cX2_readRule 41 = .ok (.aload_n 0, 1) := by decide +kernel
theorem dX2_readRule_42 : decode cX2_readRule 42 = .ok (.bipush 9, 2) := by decide +kernel
theorem dX2_readRule_44 : decode cX2_readRule 44 = .ok (.bipush 10, 2) := by decide +kernel
theorem dX2_readRule_46 : decode cX2_readRule 46 = .ok (.bipush 11, 2) := by decide +kernel
theorem dX2_readRule_48 : decode cX2_readRule 48 = .ok (.invokevirtual 69, 3) := by decide +kernel
theorem dX2_readRule_51 : decode cX2_readRule 51 = .ok (.istore_n 3, 1) := by decide +kernel
theorem dX2_readRule_52 : decode cX2_readRule 52 = .ok (.iload_n 3, 1) := by decide +kernel
theorem dX2_readRule_53 : decode cX2_readRule 53 = .ok (.iconst (-1), 1) := by decide +kernel
theorem dX2_readRule_54 : decode cX2_readRule 54 = .ok (.if_icmp .eq 12, 3) := by decide +kernel
theorem dX2_readRule_57 : decode cX2_readRule 57 = .ok (.aload_n 0, 1) := by decide +kernel
theorem dX2_readRule_58 : decode cX2_readRule 58 = .ok (.bipush 59, 2) := by decide +kernel
theorem dX2_readRule_60 : decode cX2_readRule 60 = .ok (.invokevirtual 41, 3) := by decide +kernel
theorem dX2_readRule_63 : decode cX2_readRule 63 = .ok (.ifCond .ne 5, 3) := by decide +kernel
theorem dX2_readRule_66 : decode cX2_readRule 66 = .ok (.iconst 0, 1) := by decide +kernel
theorem dX2_readRule_67 : decode cX2_readRule 67 = .ok (.ireturn, 1) := by decide +kernel
theorem dX2_readRule_68 : decode cX2_readRule 68 = .ok (.aload_n 1, 1) := by decide +kernel
theorem dX2_readRule_69 : decode cX2_readRule 69 = .ok (.iload_n 2, 1) := by decide +kernel
theorem dX2_readRule_70 : decode cX2_readRule 70 = .ok (.iload_n 3, 1) := by decide +kernel
theorem dX2_readRule_71 : decode cX2_readRule 71 = .ok (.invokevirtual 73, 3) := by decide +kernel
theorem dX2_readRule_74 : decode cX2_readRule 74 = .ok (.iconst 1, 1) := by decide +kernel
theorem dX2_readRule_75 : decode cX2_readRule 75 = .ok (.ireturn, 1) := by decide +kernel
theorem dX2_readTest_0 : decode cX2_readTest 0 = .ok (.aload_n 0, 1) := by decide +kernel
theorem dX2_readTest_1 : decode cX2_readTest 1 = .ok (.bipush 12, 2) := by decide +kernel
theorem dX2_readTest_3 : decode cX2_readTest 3 = .ok (.bipush 13, 2) := by decide +kernel
theorem dX2_readTest_5 : decode cX2_readTest 5 = .ok (.bipush 14, 2) := by decide +kernel
theorem dX2_readTest_7 : decode cX2_readTest 7 = .ok (.invokevirtual 69, 3) := by decide +kernel
theorem dX2_readTest_10 : decode cX2_readTest 10 = .ok (.istore_n 3, 1) := by decide +kernel
theorem dX2_readTest_11 : decode cX2_readTest 11 = .ok (.iload_n 3, 1) := by decide +kernel
theorem dX2_readTest_12 : decode cX2_readTest 12 = .ok (.iconst (-1), 1) := by decide +kernel
theorem dX2_readTest_13 : decode cX2_readTest 13 = .ok (.if_icmp .ne 5, 3) := by decide +kernel
theorem dX2_readTest_16 : decode cX2_readTest 16 = .ok (.iconst 0, 1) := by decide +kernel
theorem dX2_readTest_17 : decode cX2_readTest 17 = .ok (.ireturn, 1) := by decide +kernel
theorem dX2_readTest_18 : decode cX2_readTest 18 = .ok (.aload_n 0, 1) := by decide +kernel
theorem dX2_readTest_19 : decode cX2_readTest 19 = .ok (.bipush 60, 2) := by decide +kernel
theorem dX2_readTest_21 : decode cX2_readTest 21 = .ok (.bipush 62, 2) := by decide +kernel
theorem dX2_readTest_23 : decode cX2_readTest 23 = .ok (.bipush 61, 2) := by decide +kernel
theorem dX2_readTest_25 : decode cX2_readTest 25 = .ok (.invokevirtual 69, 3) := by decide +kernel
theorem dX2_readTest_28 : decode cX2_readTest 28 = .ok (.istore 4, 2) := by decide +kernel
theorem dX2_readTest_30 : decode cX2_readTest 30 = .ok (.iload 4, 2) := by decide +kernel
theorem dX2_readTest_32 : decode cX2_readTest 32 = .ok (.iconst (-1), 1) := by decide +kernel
theorem dX2_readTest_33 : decode cX2_readTest 33 = .ok (.if_icmp .ne 5, 3) := by decide +kernel
theorem dX2_readTest_36 : decode cX2_readTest 36 = .ok (.iconst 0, 1) := by decide +kernel
theorem dX2_readTest_37 : decode cX2_readTest 37 = .ok (.ireturn, 1) := by decide +kernel
theorem dX2_readTest_38 : decode cX2_readTest 38 = .ok (.aload_n 0, 1) := by decide +kernel
theorem dX2_readTest_39 : decode cX2_readTest 39 = .ok (.invokevirtual 45, 3) := by decide +kernel
theorem dX2_readTest_42 : decode cX2_readTest 42 = .ok (.istore 5, 2) := by decide +kernel
theorem dX2_readTest_44 : decode cX2_readTest 44 = .ok (.iload 5, 2) := by decide +kernel
theorem dX2_readTest_46 : decode cX2_readTest 46 = .ok (.iconst (-1), 1) := by decide +kernel
theorem dX2_readTest_47 : decode cX2_readTest 47 = .ok (.if_icmp .ne 5, 3) := by decide +kernel
theorem dX2_readTest_50 : decode cX2_readTest 50 = .ok (.iconst 0, 1) := by decide +kernel
theorem dX2_readTest_51 : decode cX2_readTest 51 = .ok (.ireturn, 1) := by decide +kernel
theorem dX2_readTest_52 : decode cX2_readTest 52 = .ok (.aload_n 1, 1) := by decide +kernel
theorem dX2_readTest_53 : decode cX2_readTest 53 = .ok (.iload_n 2, 1) := by decide +kernel
theorem dX2_readTest_54 : decode cX2_readTest 54 = .ok (.iload_n 3, 1) := by decide +kernel
theorem dX2_readTest_55 : decode cX2_readTest 55 = .ok (.iload 4, 2) := by decide +kernel
theorem dX2_readTest_57 : decode cX2_readTest 57 = .ok (.iload 5, 2) := by decide +kernel
theorem dX2_readTest_59 : decode cX2_readTest 59 = .ok (.invokevirtual 77, 3) := by decide +kernel
theorem dX2_readTest_62 : decode cX2_readTest 62 = .ok (.iconst 1, 1) := by decide +kernel
theorem dX2_readTest_63 : decode cX2_readTest 63 = .ok (.ireturn, 1) := by decide +kernel
theorem dX2_take_0 : decode cX2_take 0 = .ok (.aload_n 0, 1) := by decide +kernel
theorem dX2_take_1 : decode cX2_take 1 = .ok (.getfield 20, 3) := by decide +kernel
theorem dX2_take_4 : decode cX2_take 4 = .ok (.aload_n 0, 1) := by decide +kernel
theorem dX2_take_5 : decode cX2_take 5 = .ok (.getfield 9, 3) := by decide +kernel
theorem dX2_take_8 : decode cX2_take 8 = .ok (.invokevirtual 30, 3) := by decide +kernel
theorem dX2_take_11 : decode cX2_take 11 = .ok (.iload_n 1, 1) := by decide +kernel
theorem dX2_take_12 : decode cX2_take 12 = .ok (.if_icmp .eq 5, 3) := by decide +kernel
theorem dX2_take_15 : decode cX2_take 15 = .ok (.iconst 0, 1) := by decide +kernel
theorem dX2_take_16 : decode cX2_take 16 = .ok (.ireturn, 1) := by decide +kernel
theorem dX2_take_17 : decode cX2_take 17 = .ok (.aload_n 0, 1) := by decide +kernel
theorem dX2_take_18 : decode cX2_take 18 = .ok (.dup, 1) := by decide +kernel
theorem dX2_take_19 : decode cX2_take 19 = .ok (.getfield 9, 3) := by decide +kernel
theorem dX2_take_22 : decode cX2_take 22 = .ok (.iconst 1, 1) := by decide +kernel
theorem dX2_take_23 : decode cX2_take 23 = .ok (.iadd, 1) := by decide +kernel
theorem dX2_take_24 : decode cX2_take 24 = .ok (.putfield 9, 3) := by decide +kernel
theorem dX2_take_27 : decode cX2_take 27 = .ok (.iconst 1, 1) := by decide +kernel
theorem dX2_take_28 : decode cX2_take 28 = .ok (.ireturn, 1) := by decide +kernel
theorem dX2_takeOneOf_0 : decode cX2_takeOneOf 0 = .ok (.aload_n 0, 1) := by decide +kernel
theorem dX2_takeOneOf_1 : decode cX2_takeOneOf 1 = .ok (.getfield 20, 3) := by decide +kernel
theorem dX2_takeOneOf_4 : decode cX2_takeOneOf 4 = .ok (.aload_n 0, 1) := by decide +kernel
theorem dX2_takeOneOf_5 : decode cX2_takeOneOf 5 = .ok (.getfield 9, 3) := by decide +kernel
theorem dX2_takeOneOf_8 : decode cX2_takeOneOf 8 = .ok (.invokevirtual 30, 3) := by decide +kernel
theorem dX2_takeOneOf_11 : decode cX2_takeOneOf 11 = .ok (.istore 4, 2) := by decide +kernel
theorem dX2_takeOneOf_13 : decode cX2_takeOneOf 13 = .ok (.iload 4, 2) := by decide +kernel
theorem dX2_takeOneOf_15 : decode cX2_takeOneOf 15 = .ok (.iload_n 1, 1) := by decide +kernel
theorem dX2_takeOneOf_16 : decode cX2_takeOneOf 16 = .ok (.if_icmp .eq 17, 3) := by decide +kernel
theorem dX2_takeOneOf_19 : decode cX2_takeOneOf 19 = .ok (.iload 4, 2) := by decide +kernel
theorem dX2_takeOneOf_21 : decode cX2_takeOneOf 21 = .ok (.iload_n 2, 1) := by decide +kernel
theorem dX2_takeOneOf_22 : decode cX2_takeOneOf 22 = .ok (.if_icmp .eq 11, 3) := by decide +kernel
theorem dX2_takeOneOf_25 : decode cX2_takeOneOf 25 = .ok (.iload 4, 2) := by decide +kernel
theorem dX2_takeOneOf_27 : decode cX2_takeOneOf 27 = .ok (.iload_n 3, 1) := by decide +kernel
theorem dX2_takeOneOf_28 : decode cX2_takeOneOf 28 = .ok (.if_icmp .eq 5, 3) := by decide +kernel
theorem dX2_takeOneOf_31 : decode cX2_takeOneOf 31 = .ok (.iconst (-1), 1) := by decide +kernel
theorem dX2_takeOneOf_32 : decode cX2_takeOneOf 32 = .ok (.ireturn, 1) := by decide +kernel
theorem dX2_takeOneOf_33 : decode cX2_takeOneOf 33 = .ok (.aload_n 0, 1) := by decide +kernel
theorem dX2_takeOneOf_34 : decode cX2_takeOneOf 34 = .ok (.dup, 1) := by decide +kernel
theorem dX2_takeOneOf_35 : decode cX2_takeOneOf 35 = .ok (.getfield 9, 3) := by decide +kernel
theorem dX2_takeOneOf_38 : decode cX2_takeOneOf 38 = .ok (.iconst 1, 1) := by decide +kernel
theorem dX2_takeOneOf_39 : decode cX2_takeOneOf 39 = .ok (.iadd, 1) := by decide +kernel
theorem dX2_takeOneOf_40 : decode cX2_takeOneOf 40 = .ok (.putfield 9, 3) := by decide +kernel
theorem dX2_takeOneOf_43 : decode cX2_takeOneOf 43 = .ok (.iload 4, 2) := by decide +kernel
theorem dX2_takeOneOf_45 : decode cX2_takeOneOf 45 = .ok (.ireturn, 1) := by decide +kernel
theorem dX2_takeNumber_0 : decode cX2_takeNumber 0 = .ok (.aload_n 0, 1) := by decide +kernel
theorem dX2_takeNumber_1 : decode cX2_takeNumber 1 = .ok (.getfield 20, 3) := by decide +kernel
theorem dX2_takeNumber_4 : decode cX2_takeNumber 4 = .ok (.aload_n 0, 1) := by decide +kernel
theorem dX2_takeNumber_5 : decode cX2_takeNumber 5 = .ok (.getfield 9, 3) := by decide +kernel
theorem dX2_takeNumber_8 : decode cX2_takeNumber 8 = .ok (.invokevirtual 30, 3) := by decide +kernel
theorem dX2_takeNumber_11 : decode cX2_takeNumber 11 = .ok (.bipush 15, 2) := by decide +kernel
theorem dX2_takeNumber_13 : decode cX2_takeNumber 13 = .ok (.if_icmp .eq 5, 3) := by decide +kernel
theorem dX2_takeNumber_16 : decode cX2_takeNumber 16 = .ok (.iconst (-1), 1) := by decide +kernel
theorem dX2_takeNumber_17 : decode cX2_takeNumber 17 = .ok (.ireturn, 1) := by decide +kernel
theorem dX2_takeNumber_18 : decode cX2_takeNumber 18 = .ok (.aload_n 0, 1) := by decide +kernel
theorem dX2_takeNumber_19 : decode cX2_takeNumber 19 = .ok (.dup, 1) := by decide +kernel
theorem dX2_takeNumber_20 : decode cX2_takeNumber 20 = .ok (.getfield 9, 3) := by decide +kernel
theorem dX2_takeNumber_23 : decode cX2_takeNumber 23 = .ok (.iconst 1, 1) := by decide +kernel
theorem dX2_takeNumber_24 : decode cX2_takeNumber 24 = .ok (.iadd, 1) := by decide +kernel
theorem dX2_takeNumber_25 : decode cX2_takeNumber 25 = .ok (.putfield 9, 3) := by decide +kernel
theorem dX2_takeNumber_28 : decode cX2_takeNumber 28 = .ok (.aload_n 0, 1) := by decide +kernel
theorem dX2_takeNumber_29 : decode cX2_takeNumber 29 = .ok (.getfield 20, 3) := by decide +kernel
theorem dX2_takeNumber_32 : decode cX2_takeNumber 32 = .ok (.aload_n 0, 1) := by decide +kernel
theorem dX2_takeNumber_33 : decode cX2_takeNumber 33 = .ok (.getfield 9, 3) := by decide +kernel
theorem dX2_takeNumber_36 : decode cX2_takeNumber 36 = .ok (.iconst 1, 1) := by decide +kernel
theorem dX2_takeNumber_37 : decode cX2_takeNumber 37 = .ok (.isub, 1) := by decide +kernel
theorem dX2_takeNumber_38 : decode cX2_takeNumber 38 = .ok (.invokevirtual 80, 3) := by decide +kernel
theorem dX2_takeNumber_41 : decode cX2_takeNumber 41 = .ok (.ireturn, 1) := by decide +kernel
theorem dX3_init_0 : decode cX3_init 0 = .ok (.aload_n 0, 1) := by decide +kernel
theorem dX3_init_1 : decode cX3_init 1 = .ok (.invokespecial 3, 3) := by decide +kernel
theorem dX3_init_4 : decode cX3_init 4 = .ok (.aload_n 0, 1) := by decide +kernel
theorem dX3_init_5 : decode cX3_init 5 = .ok (.bipush 16, 2) := by decide +kernel
theorem dX3_init_7 : decode cX3_init 7 = .ok (.newarray .int, 2) := by decide +kernel
theorem dX3_init_9 : decode cX3_init 9 = .ok (.putfield 9, 3) := by decide +kernel
theorem dX3_init_12 : decode cX3_init 12 = .ok (.aload_n 0, 1) := by decide +kernel
theorem dX3_init_13 : decode cX3_init 13 = .ok (.bipush 16, 2) := by decide +kernel
theorem dX3_init_15 : decode cX3_init 15 = .ok (.newarray .int, 2) := by decide +kernel
theorem dX3_init_17 : decode cX3_init 17 = .ok (.putfield 15, 3) := by decide +kernel
theorem dX3_init_20 : decode cX3_init 20 = .ok (.aload_n 0, 1) := by decide +kernel
theorem dX3_init_21 : decode cX3_init 21 = .ok (.iconst 4, 1) := by decide +kernel
theorem dX3_init_22 : decode cX3_init 22 = .ok (.newarray .int, 2) := by decide +kernel
theorem dX3_init_24 : decode cX3_init 24 = .ok (.putfield 18, 3) := by decide +kernel
theorem dX3_init_27 : decode cX3_init 27 = .ok (.aload_n 0, 1) := by decide +kernel
theorem dX3_init_28 : decode cX3_init 28 = .ok (.iconst 4, 1) := by decide +kernel
theorem dX3_init_29 : decode cX3_init 29 = .ok (.newarray .int, 2) := by decide +kernel
theorem dX3_init_31 : decode cX3_init 31 = .ok (.putfield 21, 3) := by decide +kernel
theorem dX3_init_34 : decode cX3_init 34 = .ok (.aload_n 0, 1) := by decide +kernel
theorem dX3_init_35 : decode cX3_init 35 = .ok (.iconst 4, 1) := by decide +kernel
theorem dX3_init_36 : decode cX3_init 36 = .ok (.newarray .int, 2) := by decide +kernel
theorem dX3_init_38 : decode cX3_init 38 = .ok (.putfield 24, 3) := by decide +kernel
theorem dX3_init_41 : decode cX3_init 41 = .ok (.aload_n 0, 1) := by decide +kernel
theorem dX3_init_42 : decode cX3_init 42 = .ok (.iconst 1, 1) := by decide +kernel
theorem dX3_init_43 : decode cX3_init 43 = .ok (.putfield 27, 3) := by decide +kernel
theorem dX3_init_46 : decode cX3_init 46 = .ok (.aload_n 0, 1) := by decide +kernel
theorem dX3_init_47 : decode cX3_init 47 = .ok (.iconst 0, 1) := by decide +kernel
theorem dX3_init_48 : decode cX3_init 48 = .ok (.putfield 31, 3) := by decide +kernel
theorem dX3_init_51 : decode cX3_init 51 = .ok (.aload_n 0, 1) := by decide +kernel
theorem dX3_init_52 : decode cX3_init 52 = .ok (.iconst 0, 1) := by decide +kernel
theorem dX3_init_53 : decode cX3_init 53 = .ok (.putfield 34, 3) := by decide +kernel
theorem dX3_init_56 : decode cX3_init 56 = .ok (.return_, 1) := by decide +kernel
theorem dX3_search_0 : decode cX3_search 0 = .ok (.iload_n 3, 1) := by decide +kernel
theorem dX3_search_1 : decode cX3_search 1 = .ok (.iconst 1, 1) := by decide +kernel
theorem dX3_search_2 : decode cX3_search 2 = .ok (.iconst 3, 1) := by decide +kernel
theorem dX3_search_3 : decode cX3_search 3 = .ok (.invokestatic 37, 3) := by decide +kernel
theorem dX3_search_6 : decode cX3_search 6 = .ok (.ifCond .ne 4, 3) := by decide +kernel
theorem dX3_search_9 : decode cX3_search 9 = .ok (.return_, 1) := by decide +kernel
theorem dX3_search_10 : decode cX3_search 10 = .ok (.aload_n 0, 1) := by decide +kernel
theorem dX3_search_11 : decode cX3_search 11 = .ok (.iload_n 3, 1) := by decide +kernel
theorem dX3_search_12 : decode cX3_search 12 = .ok (.putfield 27, 3) := by decide +kernel
theorem dX3_search_15 : decode cX3_search 15 = .ok (.aload_n 0, 1) := by decide +kernel
theorem dX3_search_16 : decode cX3_search 16 = .ok (.aload_n 1, 1) := by decide +kernel
theorem dX3_search_17 : decode cX3_search 17 = .ok (.invokevirtual 41, 3) := by decide +kernel
theorem dX3_search_20 : decode cX3_search 20 = .ok (.aload_n 0, 1) := by decide +kernel
theorem dX3_search_21 : decode cX3_search 21 = .ok (.getfield 18, 3) := by decide +kernel
theorem dX3_search_24 : decode cX3_search 24 = .ok (.iconst 0, 1) := by decide +kernel
theorem dX3_search_25 : decode cX3_search 25 = .ok (.iload_n 2, 1) := by decide +kernel
theorem dX3_search_26 : decode cX3_search 26 = .ok (.iastore, 1) := by decide +kernel
theorem dX3_search_27 : decode cX3_search 27 = .ok (.iconst 1, 1) := by decide +kernel
theorem dX3_search_28 : decode cX3_search 28 = .ok (.iconst 4, 1) := by decide +kernel
theorem dX3_search_29 : decode cX3_search 29 = .ok (.aload_n 0, 1) := by decide +kernel
theorem dX3_search_30 : decode cX3_search 30 = .ok (.getfield 27, 3) := by decide +kernel
theorem dX3_search_33 : decode cX3_search 33 = .ok (.imul, 1) := by decide +kernel
theorem dX3_search_34 : decode cX3_search 34 = .ok (.ishl, 1) := by decide +kernel
theorem dX3_search_35 : decode cX3_search 35 = .ok (.istore 4, 2) := by decide +kernel
theorem dX3_search_37 : decode cX3_search 37 = .ok (.iconst 0, 1) := by decide +kernel
theorem dX3_search_38 : decode cX3_search 38 = .ok (.istore 5, 2) := by decide +kernel
theorem dX3_search_40 : decode cX3_search 40 = .ok (.iload 5, 2) := by decide +kernel
theorem dX3_search_42 : decode cX3_search 42 = .ok (.iload 4, 2) := by decide +kernel
theorem dX3_search_44 : decode cX3_search 44 = .ok (.if_icmp .ge 86, 3) := by decide +kernel
theorem dX3_search_47 : decode cX3_search 47 = .ok (.aload_n 0, 1) := by decide +kernel
theorem dX3_search_48 : decode cX3_search 48 = .ok (.iload 5, 2) := by decide +kernel
theorem dX3_search_50 : decode cX3_search 50 = .ok (.invokevirtual 45, 3) := by decide +kernel
theorem dX3_search_53 : decode cX3_search 53 = .ok (.istore 6, 2) := by decide +kernel
theorem dX3_search_55 : decode cX3_search 55 = .ok (.iload 6, 2) := by decide +kernel
theorem dX3_search_57 : decode cX3_search 57 = .ok (.aload_n 0, 1) := by decide +kernel
theorem dX3_search_58 : decode cX3_search 58 = .ok (.getfield 27, 3) := by decide +kernel
theorem dX3_search_61 : decode cX3_search 61 = .ok (.if_icmp .ge 23, 3) := by decide +kernel
theorem dX3_search_64 : decode cX3_search 64 = .ok (.aload_n 0, 1) := by decide +kernel
theorem dX3_search_65 : decode cX3_search 65 = .ok (.iload 6, 2) := by decide +kernel
theorem dX3_search_67 : decode cX3_search 67 = .ok (.aload_n 0, 1) := by decide +kernel
theorem dX3_search_68 : decode cX3_search 68 = .ok (.iload 5, 2) := by decide +kernel
theorem dX3_search_70 : decode cX3_search 70 = .ok (.iload 6, 2) := by decide +kernel
theorem dX3_search_72 : decode cX3_search 72 = .ok (.invokevirtual 49, 3) := by decide +kernel
theorem dX3_search_75 : decode cX3_search 75 = .ok (.invokevirtual 53, 3) := by decide +kernel
theorem dX3_search_78 : decode cX3_search 78 = .ok (.iinc 6 1, 3) := by decide +kernel
theorem dX3_search_81 : decode cX3_search 81 = .ok (.goto (-26), 3) := by decide +kernel
theorem dX3_search_84 : decode cX3_search 84 = .ok (.iload 5, 2) := by decide +kernel
theorem dX3_search_86 : decode cX3_search 86 = .ok (.ifCond .eq 19, 3) := by decide +kernel
theorem dX3_search_89 : decode cX3_search 89 = .ok (.aload_n 0, 1) := by decide +kernel
theorem dX3_search_90 : decode cX3_search 90 = .ok (.getfield 24, 3) := by decide +kernel
theorem dX3_search_93 : decode cX3_search 93 = .ok (.aload_n 0, 1) := by decide +kernel
theorem dX3_search_94 : decode cX3_search 94 = .ok (.getfield 27, 3) := by decide +kernel
theorem dX3_search_97 : decode cX3_search 97 = .ok (.iaload, 1) := by decide +kernel
theorem dX3_search_98 : decode cX3_search 98 = .ok (.aload_n 0, 1) := by decide +kernel
theorem dX3_search_99 : decode cX3_search 99 = .ok (.getfield 34, 3) := by decide +kernel
theorem dX3_search_102 : decode cX3_search 102 = .ok (.if_icmp .le 22, 3) := by decide +kernel
theorem dX3_search_105 : decode cX3_search 105 = .ok (.aload_n 0, 1) := by decide +kernel
theorem dX3_search_106 : decode cX3_search 106 = .ok (.aload_n 0, 1) := by decide +kernel
theorem dX3_search_107 : decode cX3_search 107 = .ok (.getfield 24, 3) := by decide +kernel
theorem dX3_search_110 : decode cX3_search 110 = .ok (.aload_n 0, 1) := by decide +kernel
theorem dX3_search_111 : decode cX3_search 111 = .ok (.getfield 27, 3) := by decide +kernel
theorem dX3_search_114 : decode cX3_search 114 = .ok (.iaload, 1) := by decide +kernel
theorem dX3_search_115 : decode cX3_search 115 = .ok (.putfield 34, 3) := by decide +kernel
theorem dX3_search_118 : decode cX3_search 118 = .ok (.aload_n 0, 1) := by decide +kernel
theorem dX3_search_119 : decode cX3_search 119 = .ok (.iload 5, 2) := by decide +kernel
theorem dX3_search_121 : decode cX3_search 121 = .ok (.putfield 31, 3) := by decide +kernel
theorem dX3_search_124 : decode cX3_search 124 = .ok (.iinc 5 1, 3) := by decide +kernel
theorem dX3_search_127 : decode cX3_search 127 = .ok (.goto (-87), 3) := by decide +kernel
theorem dX3_search_130 : decode cX3_search 130 = .ok (.return_, 1) := by decide +kernel
theorem dX3_bestBay_0 : decode cX3_bestBay 0 = .ok (.iload_n 1, 1) := by decide +kernel
theorem dX3_bestBay_1 : decode cX3_bestBay 1 = .ok (.iconst 0, 1) := by decide +kernel
theorem dX3_bestBay_2 : decode cX3_bestBay 2 = .ok (.aload_n 0, 1) := by decide +kernel
theorem dX3_bestBay_3 : decode cX3_bestBay 3 = .ok (.getfield 27, 3) := by decide +kernel
theorem dX3_bestBay_6 : decode cX3_bestBay 6 = .ok (.iconst 1, 1) := by decide +kernel
theorem dX3_bestBay_7 : decode cX3_bestBay 7 = .ok (.isub, 1) := by decide +kernel
theorem dX3_bestBay_8 : decode cX3_bestBay 8 = .ok (.invokestatic 37, 3) := by decide +kernel
theorem dX3_bestBay_11 : decode cX3_bestBay 11 = .ok (.ifCond .eq 15, 3) := by decide +kernel
theorem dX3_bestBay_14 : decode cX3_bestBay 14 = .ok (.aload_n 0, 1) := by decide +kernel
theorem dX3_bestBay_15 : decode cX3_bestBay 15 = .ok (.aload_n 0, 1) := by decide +kernel
theorem dX3_bestBay_16 : decode cX3_bestBay 16 = .ok (.getfield 31, 3) := by decide +kernel
theorem dX3_bestBay_19 : decode cX3_bestBay 19 = .ok (.iload_n 1, 1) := by decide +kernel
theorem dX3_bestBay_20 : decode cX3_bestBay 20 = .ok (.invokevirtual 49, 3) := by decide +kernel
theorem dX3_bestBay_23 : decode cX3_bestBay 23 = .ok (.goto 4, 3) := by decide +kernel
theorem dX3_bestBay_26 : decode cX3_bestBay 26 = .ok (.iconst (-1), 1) := by decide +kernel
theorem dX3_bestBay_27 : decode cX3_bestBay 27 = .ok (.ireturn, 1) := by decide +kernel
theorem dX3_weigh_0 : decode cX3_weigh 0 = .ok (.iconst 0, 1) := by decide +kernel
theorem dX3_weigh_1 : decode cX3_weigh 1 = .ok (.istore_n 2, 1) := by decide +kernel
theorem dX3_weigh_2 : decode cX3_weigh 2 = .ok (.iload_n 2, 1) := by decide +kernel
theorem dX3_weigh_3 : decode cX3_weigh 3 = .ok (.bipush 16, 2) := by decide +kernel
theorem dX3_weigh_5 : decode cX3_weigh 5 = .ok (.if_icmp .ge 27, 3) := by decide +kernel
theorem dX3_weigh_8 : decode cX3_weigh 8 = .ok (.iload_n 2, 1) := by decide +kernel
theorem dX3_weigh_9 : decode cX3_weigh 9 = .ok (.aload_n 1, 1) := by decide +kernel
theorem dX3_weigh_10 : decode cX3_weigh 10 = .ok (.arraylength, 1) := by decide +kernel
theorem dX3_weigh_11 : decode cX3_weigh 11 = .ok (.if_icmp .ge 21, 3) := by decide +kernel
theorem dX3_weigh_14 : decode cX3_weigh 14 = .ok (.aload_n 0, 1) := by decide +kernel
theorem dX3_weigh_15 : decode cX3_weigh 15 = .ok (.getfield 15, 3) := by decide +kernel
theorem dX3_weigh_18 : decode cX3_weigh 18 = .ok (.iload_n 2, 1) := by decide +kernel
theorem dX3_weigh_19 : decode cX3_weigh 19 = .ok (.aload_n 1, 1) := by decide +kernel
theorem dX3_weigh_20 : decode cX3_weigh 20 = .ok (.iload_n 2, 1) := by decide +kernel
theorem dX3_weigh_21 : decode cX3_weigh 21 = .ok (.aaload, 1) := by decide +kernel
theorem dX3_weigh_22 : decode cX3_weigh 22 = .ok (.getfield 57, 3) := by decide +kernel
theorem dX3_weigh_25 : decode cX3_weigh 25 = .ok (.iastore, 1) := by decide +kernel
theorem dX3_weigh_26 : decode cX3_weigh 26 = .ok (.iinc 2 1, 3) := by decide +kernel
theorem dX3_weigh_29 : decode cX3_weigh 29 = .ok (.goto (-27), 3) := by decide +kernel
theorem dX3_weigh_32 : decode cX3_weigh 32 = .ok (.iconst 0, 1) := by decide +kernel
theorem dX3_weigh_33 : decode cX3_weigh 33 = .ok (.istore_n 2, 1) := by decide +kernel
theorem dX3_weigh_34 : decode cX3_weigh 34 = .ok (.iload_n 2, 1) := by decide +kernel
theorem dX3_weigh_35 : decode cX3_weigh 35 = .ok (.bipush 16, 2) := by decide +kernel
theorem dX3_weigh_37 : decode cX3_weigh 37 = .ok (.if_icmp .ge 21, 3) := by decide +kernel
theorem dX3_weigh_40 : decode cX3_weigh 40 = .ok (.aload_n 0, 1) := by decide +kernel
theorem dX3_weigh_41 : decode cX3_weigh 41 = .ok (.getfield 9, 3) := by decide +kernel
theorem dX3_weigh_44 : decode cX3_weigh 44 = .ok (.iload_n 2, 1) := by decide +kernel
theorem dX3_weigh_45 : decode cX3_weigh 45 = .ok (.aload_n 0, 1) := by decide +kernel
theorem dX3_weigh_46 : decode cX3_weigh 46 = .ok (.iload_n 2, 1) := by decide +kernel
theorem dX3_weigh_47 : decode cX3_weigh 47 = .ok (.iconst 0, 1) := by decide +kernel
theorem dX3_weigh_48 : decode cX3_weigh 48 = .ok (.invokevirtual 61, 3) := by decide +kernel
theorem dX3_weigh_51 : decode cX3_weigh 51 = .ok (.iastore, 1) := by decide +kernel
theorem dX3_weigh_52 : decode cX3_weigh 52 = .ok (.iinc 2 1, 3) := by decide +kernel
theorem dX3_weigh_55 : decode cX3_weigh 55 = .ok (.goto (-21), 3) := by decide +kernel
theorem dX3_weigh_58 : decode cX3_weigh 58 = .ok (.return_, 1) := by decide +kernel
theorem dX3_bayIn_0 : decode cX3_bayIn 0 = .ok (.iload_n 1, 1) := by decide +kernel
theorem dX3_bayIn_1 : decode cX3_bayIn 1 = .ok (.iconst 4, 1) := by decide +kernel
theorem dX3_bayIn_2 : decode cX3_bayIn 2 = .ok (.aload_n 0, 1) := by decide +kernel
theorem dX3_bayIn_3 : decode cX3_bayIn 3 = .ok (.getfield 27, 3) := by decide +kernel
theorem dX3_bayIn_6 : decode cX3_bayIn 6 = .ok (.iconst 1, 1) := by decide +kernel
theorem dX3_bayIn_7 : decode cX3_bayIn 7 = .ok (.isub, 1) := by decide +kernel
theorem dX3_bayIn_8 : decode cX3_bayIn 8 = .ok (.iload_n 2, 1) := by decide +kernel
theorem dX3_bayIn_9 : decode cX3_bayIn 9 = .ok (.isub, 1) := by decide +kernel
theorem dX3_bayIn_10 : decode cX3_bayIn 10 = .ok (.imul, 1) := by decide +kernel
theorem dX3_bayIn_11 : decode cX3_bayIn 11 = .ok (.ishr, 1) := by decide +kernel
theorem dX3_bayIn_12 : decode cX3_bayIn 12 = .ok (.bipush 15, 2) := by decide +kernel
theorem dX3_bayIn_14 : decode cX3_bayIn 14 = .ok (.iand, 1) := by decide +kernel
theorem dX3_bayIn_15 : decode cX3_bayIn 15 = .ok (.ireturn, 1) := by decide +kernel
theorem dX3_firstChanged_0 : decode cX3_firstChanged 0 = .ok (.aload_n 0, 1) := by decide +kernel
theorem dX3_firstChanged_1 : decode cX3_firstChanged 1 = .ok (.getfield 27, 3) := by decide +kernel
theorem dX3_firstChanged_4 : decode cX3_firstChanged 4 = .ok (.iconst 1, 1) := by decide +kernel
theorem dX3_firstChanged_5 : decode cX3_firstChanged 5 = .ok (.isub, 1) := by decide +kernel
theorem dX3_firstChanged_6 : decode cX3_firstChanged 6 = .ok (.istore_n 2, 1) := by decide +kernel
theorem dX3_firstChanged_7 : decode cX3_firstChanged 7 = .ok (.iload_n 2, 1) := by decide +kernel
theorem dX3_firstChanged_8 : decode cX3_firstChanged 8 = .ok (.ifCond .le 18, 3) := by decide +kernel
theorem dX3_firstChanged_11 : decode cX3_firstChanged 11 = .ok (.aload_n 0, 1) := by decide +kernel
theorem dX3_firstChanged_12 : decode cX3_firstChanged 12 = .ok (.iload_n 1, 1) := by decide +kernel
theorem dX3_firstChanged_13 : decode cX3_firstChanged 13 = .ok (.iload_n 2, 1) := by decide +kernel
theorem dX3_firstChanged_14 : decode cX3_firstChanged 14 = .ok (.invokevirtual 49, 3) := by decide +kernel
theorem dX3_firstChanged_17 : decode cX3_firstChanged 17 = .ok (.ifCond .ne 9, 3) := by decide +kernel
theorem dX3_firstChanged_20 : decode cX3_firstChanged 20 = .ok (.iinc 2 (-1), 3) := by decide +kernel
theorem dX3_firstChanged_23 : decode cX3_firstChanged 23 = .ok (.goto (-16), 3) := by decide +kernel
theorem dX3_firstChanged_26 : decode cX3_firstChanged 26 = .ok (.iload_n 2, 1) := by decide +kernel
theorem dX3_firstChanged_27 : decode cX3_firstChanged 27 = .ok (.ireturn, 1) := by decide +kernel
theorem dX3_layDay_0 : decode cX3_layDay 0 = .ok (.iload_n 1, 1) := by decide +kernel
theorem dX3_layDay_1 : decode cX3_layDay 1 = .ok (.iconst 0, 1) := by decide +kernel
theorem dX3_layDay_2 : decode cX3_layDay 2 = .ok (.iconst 2, 1) := by decide +kernel
theorem dX3_layDay_3 : decode cX3_layDay 3 = .ok (.invokestatic 37, 3) := by decide +kernel
theorem dX3_layDay_6 : decode cX3_layDay 6 = .ok (.ifCond .eq 10, 3) := by decide +kernel
theorem dX3_layDay_9 : decode cX3_layDay 9 = .ok (.iload_n 2, 1) := by decide +kernel
theorem dX3_layDay_10 : decode cX3_layDay 10 = .ok (.invokestatic 64, 3) := by decide +kernel
theorem dX3_layDay_13 : decode cX3_layDay 13 = .ok (.ifCond .ne 4, 3) := by decide +kernel
theorem dX3_layDay_16 : decode cX3_layDay 16 = .ok (.return_, 1) := by decide +kernel
theorem dX3_layDay_17 : decode cX3_layDay 17 = .ok (.iload_n 2, 1) := by decide +kernel
theorem dX3_layDay_18 : decode cX3_layDay 18 = .ok (.invokestatic 68, 3) := by decide +kernel
theorem dX3_layDay_21 : decode cX3_layDay 21 = .ok (.istore_n 3, 1) := by decide +kernel
theorem dX3_layDay_22 : decode cX3_layDay 22 = .ok (.aload_n 0, 1) := by decide +kernel
theorem dX3_layDay_23 : decode cX3_layDay 23 = .ok (.getfield 21, 3) := by decide +kernel
theorem dX3_layDay_26 : decode cX3_layDay 26 = .ok (.iload_n 1, 1) := by decide +kernel
theorem dX3_layDay_27 : decode cX3_layDay 27 = .ok (.iaload, 1) := by decide +kernel
theorem dX3_layDay_28 : decode cX3_layDay 28 = .ok (.iload_n 3, 1) := by decide +kernel
theorem dX3_layDay_29 : decode cX3_layDay 29 = .ok (.iand, 1) := by decide +kernel
theorem dX3_layDay_30 : decode cX3_layDay 30 = .ok (.ifCond .ne 12, 3) := by decide +kernel
theorem dX3_layDay_33 : decode cX3_layDay 33 = .ok (.aload_n 0, 1) := by decide +kernel
theorem dX3_layDay_34 : decode cX3_layDay 34 = .ok (.getfield 9, 3) := by decide +kernel
theorem dX3_layDay_37 : decode cX3_layDay 37 = .ok (.iload_n 2, 1) := by decide +kernel
theorem dX3_layDay_38 : decode cX3_layDay 38 = .ok (.iaload, 1) := by decide +kernel
theorem dX3_layDay_39 : decode cX3_layDay 39 = .ok (.goto 14, 3) := by decide +kernel
theorem dX3_layDay_42 : decode cX3_layDay 42 = .ok (.aload_n 0, 1) := by decide +kernel
theorem dX3_layDay_43 : decode cX3_layDay 43 = .ok (.iload_n 2, 1) := by decide +kernel
theorem dX3_layDay_44 : decode cX3_layDay 44 = .ok (.aload_n 0, 1) := by decide +kernel
theorem dX3_layDay_45 : decode cX3_layDay 45 = .ok (.getfield 21, 3) := by decide +kernel
theorem dX3_layDay_48 : decode cX3_layDay 48 = .ok (.iload_n 1, 1) := by decide +kernel
theorem dX3_layDay_49 : decode cX3_layDay 49 = .ok (.iaload, 1) := by decide +kernel
theorem dX3_layDay_50 : decode cX3_layDay 50 = .ok (.invokevirtual 61, 3) := by decide +kernel
theorem dX3_layDay_53 : decode cX3_layDay 53 = .ok (.istore 4, 2) := by decide +kernel
theorem dX3_layDay_55 : decode cX3_layDay 55 = .ok (.aload_n 0, 1) := by decide +kernel
theorem dX3_layDay_56 : decode cX3_layDay 56 = .ok (.getfield 24, 3) := by decide +kernel
theorem dX3_layDay_59 : decode cX3_layDay 59 = .ok (.iload_n 1, 1) := by decide +kernel
theorem dX3_layDay_60 : decode cX3_layDay 60 = .ok (.iconst 1, 1) := by decide +kernel
theorem dX3_layDay_61 : decode cX3_layDay 61 = .ok (.iadd, 1) := by decide +kernel
theorem dX3_layDay_62 : decode cX3_layDay 62 = .ok (.aload_n 0, 1) := by decide +kernel
theorem dX3_layDay_63 : decode cX3_layDay 63 = .ok (.getfield 24, 3) := by decide +kernel
theorem dX3_layDay_66 : decode cX3_layDay 66 = .ok (.iload_n 1, 1) := by decide +kernel
theorem dX3_layDay_67 : decode cX3_layDay 67 = .ok (.iaload, 1) := by decide +kernel
theorem dX3_layDay_68 : decode cX3_layDay 68 = .ok (.iload 4, 2) := by decide +kernel
theorem dX3_layDay_70 : decode cX3_layDay 70 = .ok (.iadd, 1) := by decide +kernel
theorem dX3_layDay_71 : decode cX3_layDay 71 = .ok (.iconst 5, 1) := by decide +kernel
theorem dX3_layDay_72 : decode cX3_layDay 72 = .ok (.iload_n 2, 1) := by decide +kernel
theorem dX3_layDay_73 : decode cX3_layDay 73 = .ok (.aload_n 0, 1) := by decide +kernel
theorem dX3_layDay_74 : decode cX3_layDay 74 = .ok (.getfield 18, 3) := by decide +kernel
theorem dX3_layDay_77 : decode cX3_layDay 77 = .ok (.iload_n 1, 1) := by decide +kernel
theorem dX3_layDay_78 : decode cX3_layDay 78 = .ok (.iaload, 1) := by decide +kernel
theorem dX3_layDay_79 : decode cX3_layDay 79 = .ok (.isub, 1) := by decide +kernel
theorem dX3_layDay_80 : decode cX3_layDay 80 = .ok (.invokestatic 71, 3) := by decide +kernel
theorem dX3_layDay_83 : decode cX3_layDay 83 = .ok (.imul, 1) := by decide +kernel
theorem dX3_layDay_84 : decode cX3_layDay 84 = .ok (.isub, 1) := by decide +kernel
theorem dX3_layDay_85 : decode cX3_layDay 85 = .ok (.iastore, 1) := by decide +kernel
theorem dX3_layDay_86 : decode cX3_layDay 86 = .ok (.aload_n 0, 1) := by decide +kernel
theorem dX3_layDay_87 : decode cX3_layDay 87 = .ok (.getfield 21, 3) := by decide +kernel
theorem dX3_layDay_90 : decode cX3_layDay 90 = .ok (.iload_n 1, 1) := by decide +kernel
theorem dX3_layDay_91 : decode cX3_layDay 91 = .ok (.iconst 1, 1) := by decide +kernel
theorem dX3_layDay_92 : decode cX3_layDay 92 = .ok (.iadd, 1) := by decide +kernel
theorem dX3_layDay_93 : decode cX3_layDay 93 = .ok (.aload_n 0, 1) := by decide +kernel
theorem dX3_layDay_94 : decode cX3_layDay 94 = .ok (.getfield 21, 3) := by decide +kernel
theorem dX3_layDay_97 : decode cX3_layDay 97 = .ok (.iload_n 1, 1) := by decide +kernel
theorem dX3_layDay_98 : decode cX3_layDay 98 = .ok (.iaload, 1) := by decide +kernel
theorem dX3_layDay_99 : decode cX3_layDay 99 = .ok (.iload_n 3, 1) := by decide +kernel
theorem dX3_layDay_100 : decode cX3_layDay 100 = .ok (.ior, 1) := by decide +kernel
theorem dX3_layDay_101 : decode cX3_layDay 101 = .ok (.iastore, 1) := by decide +kernel
theorem dX3_layDay_102 : decode cX3_layDay 102 = .ok (.aload_n 0, 1) := by decide +kernel
theorem dX3_layDay_103 : decode cX3_layDay 103 = .ok (.getfield 18, 3) := by decide +kernel
theorem dX3_layDay_106 : decode cX3_layDay 106 = .ok (.iload_n 1, 1) := by decide +kernel
theorem dX3_layDay_107 : decode cX3_layDay 107 = .ok (.iconst 1, 1) := by decide +kernel
theorem dX3_layDay_108 : decode cX3_layDay 108 = .ok (.iadd, 1) := by decide +kernel
theorem dX3_layDay_109 : decode cX3_layDay 109 = .ok (.iload_n 2, 1) := by decide +kernel
theorem dX3_layDay_110 : decode cX3_layDay 110 = .ok (.iastore, 1) := by decide +kernel
theorem dX3_layDay_111 : decode cX3_layDay 111 = .ok (.return_, 1) := by decide +kernel
theorem dX3_freshWeight_0 : decode cX3_freshWeight 0 = .ok (.iconst 0, 1) := by decide +kernel
theorem dX3_freshWeight_1 : decode cX3_freshWeight 1 = .ok (.istore_n 3, 1) := by decide +kernel
theorem dX3_freshWeight_2 : decode cX3_freshWeight 2 = .ok (.iconst 0, 1) := by decide +kernel
theorem dX3_freshWeight_3 : decode cX3_freshWeight 3 = .ok (.iload_n 1, 1) := by decide +kernel
theorem dX3_freshWeight_4 : decode cX3_freshWeight 4 = .ok (.iconst 1, 1) := by decide +kernel
theorem dX3_freshWeight_5 : decode cX3_freshWeight 5 = .ok (.isub, 1) := by decide +kernel
theorem dX3_freshWeight_6 : decode cX3_freshWeight 6 = .ok (.invokestatic 76, 3) := by decide +kernel
theorem dX3_freshWeight_9 : decode cX3_freshWeight 9 = .ok (.istore 4, 2) := by decide +kernel
theorem dX3_freshWeight_11 : decode cX3_freshWeight 11 = .ok (.iload 4, 2) := by decide +kernel
theorem dX3_freshWeight_13 : decode cX3_freshWeight 13 = .ok (.bipush 15, 2) := by decide +kernel
theorem dX3_freshWeight_15 : decode cX3_freshWeight 15 = .ok (.iload_n 1, 1) := by decide +kernel
theorem dX3_freshWeight_16 : decode cX3_freshWeight 16 = .ok (.iconst 1, 1) := by decide +kernel
theorem dX3_freshWeight_17 : decode cX3_freshWeight 17 = .ok (.iadd, 1) := by decide +kernel
theorem dX3_freshWeight_18 : decode cX3_freshWeight 18 = .ok (.invokestatic 79, 3) := by decide +kernel
theorem dX3_freshWeight_21 : decode cX3_freshWeight 21 = .ok (.if_icmp .gt 28, 3) := by decide +kernel
theorem dX3_freshWeight_24 : decode cX3_freshWeight 24 = .ok (.iload_n 2, 1) := by decide +kernel
theorem dX3_freshWeight_25 : decode cX3_freshWeight 25 = .ok (.iconst 1, 1) := by decide +kernel
theorem dX3_freshWeight_26 : decode cX3_freshWeight 26 = .ok (.iload 4, 2) := by decide +kernel
theorem dX3_freshWeight_28 : decode cX3_freshWeight 28 = .ok (.ishl, 1) := by decide +kernel
theorem dX3_freshWeight_29 : decode cX3_freshWeight 29 = .ok (.iand, 1) := by decide +kernel
theorem dX3_freshWeight_30 : decode cX3_freshWeight 30 = .ok (.ifCond .ne 13, 3) := by decide +kernel
theorem dX3_freshWeight_33 : decode cX3_freshWeight 33 = .ok (.iload_n 3, 1) := by decide +kernel
theorem dX3_freshWeight_34 : decode cX3_freshWeight 34 = .ok (.aload_n 0, 1) := by decide +kernel
theorem dX3_freshWeight_35 : decode cX3_freshWeight 35 = .ok (.getfield 15, 3) := by decide +kernel
theorem dX3_freshWeight_38 : decode cX3_freshWeight 38 = .ok (.iload 4, 2) := by decide +kernel
theorem dX3_freshWeight_40 : decode cX3_freshWeight 40 = .ok (.iaload, 1) := by decide +kernel
theorem dX3_freshWeight_41 : decode cX3_freshWeight 41 = .ok (.iadd, 1) := by decide +kernel
theorem dX3_freshWeight_42 : decode cX3_freshWeight 42 = .ok (.istore_n 3, 1) := by decide +kernel
theorem dX3_freshWeight_43 : decode cX3_freshWeight 43 = .ok (.iinc 4 1, 3) := by decide +kernel
theorem dX3_freshWeight_46 : decode cX3_freshWeight 46 = .ok (.goto (-35), 3) := by decide +kernel
theorem dX3_freshWeight_49 : decode cX3_freshWeight 49 = .ok (.iload_n 3, 1) := by decide +kernel
theorem dX3_freshWeight_50 : decode cX3_freshWeight 50 = .ok (.ireturn, 1) := by decide +kernel
theorem dX3_nearBits_0 : decode cX3_nearBits 0 = .ok (.bipush 7, 2) := by decide +kernel
theorem dX3_nearBits_2 : decode cX3_nearBits 2 = .ok (.iload_n 0, 1) := by decide +kernel
theorem dX3_nearBits_3 : decode cX3_nearBits 3 = .ok (.ishl, 1) := by decide +kernel
theorem dX3_nearBits_4 : decode cX3_nearBits 4 = .ok (.iconst 1, 1) := by decide +kernel
theorem dX3_nearBits_5 : decode cX3_nearBits 5 = .ok (.ishr, 1) := by decide +kernel
theorem dX3_nearBits_6 : decode cX3_nearBits 6 = .ok (.ireturn, 1) := by decide +kernel
theorem dX4_init_0 : decode cX4_init 0 = .ok (.aload_n 0, 1) := by decide +kernel
theorem dX4_init_1 : decode cX4_init 1 = .ok (.invokespecial 1, 3) := by decide +kernel
theorem dX4_init_4 : decode cX4_init 4 = .ok (.aload_n 0, 1) := by decide +kernel
theorem dX4_init_5 : decode cX4_init 5 = .ok (.iconst 0, 1) := by decide +kernel
theorem dX4_init_6 : decode cX4_init 6 = .ok (.putfield 7, 3) := by decide +kernel
theorem dX4_init_9 : decode cX4_init 9 = .ok (.aload_n 0, 1) := by decide +kernel
theorem dX4_init_10 : decode cX4_init 10 = .ok (.iconst 0, 1) := by decide +kernel
theorem dX4_init_11 : decode cX4_init 11 = .ok (.putfield 13, 3) := by decide +kernel
theorem dX4_init_14 : decode cX4_init 14 = .ok (.aload_n 0, 1) := by decide +kernel
theorem dX4_init_15 : decode cX4_init 15 = .ok (.iconst 0, 1) := by decide +kernel
theorem dX4_init_16 : decode cX4_init 16 = .ok (.putfield 16, 3) := by decide +kernel
theorem dX4_init_19 : decode cX4_init 19 = .ok (.aload_n 0, 1) := by decide +kernel
theorem dX4_init_20 : decode cX4_init 20 = .ok (.iconst 0, 1) := by decide +kernel
theorem dX4_init_21 : decode cX4_init 21 = .ok (.putfield 19, 3) := by decide +kernel
theorem dX4_init_24 : decode cX4_init 24 = .ok (.aload_n 0, 1) := by decide +kernel
theorem dX4_init_25 : decode cX4_init 25 = .ok (.iconst 0, 1) := by decide +kernel
theorem dX4_init_26 : decode cX4_init 26 = .ok (.putfield 22, 3) := by decide +kernel
theorem dX4_init_29 : decode cX4_init 29 = .ok (.return_, 1) := by decide +kernel
theorem dX4_takeWanted_0 : decode cX4_takeWanted 0 = .ok (.aload_n 0, 1) := by decide +kernel
theorem dX4_takeWanted_1 : decode cX4_takeWanted 1 = .ok (.getfield 7, 3) := by decide +kernel
theorem dX4_takeWanted_4 : decode cX4_takeWanted 4 = .ok (.istore_n 3, 1) := by decide +kernel
theorem dX4_takeWanted_5 : decode cX4_takeWanted 5 = .ok (.iload_n 3, 1) := by decide +kernel
theorem dX4_takeWanted_6 : decode cX4_takeWanted 6 = .ok (.aload_n 0, 1) := by decide +kernel
theorem dX4_takeWanted_7 : decode cX4_takeWanted 7 = .ok (.getfield 13, 3) := by decide +kernel
theorem dX4_takeWanted_10 : decode cX4_takeWanted 10 = .ok (.invokestatic 25, 3) := by decide +kernel
theorem dX4_takeWanted_13 : decode cX4_takeWanted 13 = .ok (.istore 4, 2) := by decide +kernel
theorem dX4_takeWanted_15 : decode cX4_takeWanted 15 = .ok (.aload_n 0, 1) := by decide +kernel
theorem dX4_takeWanted_16 : decode cX4_takeWanted 16 = .ok (.dup, 1) := by decide +kernel
theorem dX4_takeWanted_17 : decode cX4_takeWanted 17 = .ok (.getfield 13, 3) := by decide +kernel
theorem dX4_takeWanted_20 : decode cX4_takeWanted 20 = .ok (.iload 4, 2) := by decide +kernel
theorem dX4_takeWanted_22 : decode cX4_takeWanted 22 = .ok (.isub, 1) := by decide +kernel
theorem dX4_takeWanted_23 : decode cX4_takeWanted 23 = .ok (.putfield 13, 3) := by decide +kernel
theorem dX4_takeWanted_26 : decode cX4_takeWanted 26 = .ok (.iload_n 3, 1) := by decide +kernel
theorem dX4_takeWanted_27 : decode cX4_takeWanted 27 = .ok (.iload 4, 2) := by decide +kernel
theorem dX4_takeWanted_29 : decode cX4_takeWanted 29 = .ok (.isub, 1) := by decide +kernel
theorem dX4_takeWanted_30 : decode cX4_takeWanted 30 = .ok (.istore_n 3, 1) := by decide +kernel
theorem dX4_takeWanted_31 : decode cX4_takeWanted 31 = .ok (.iconst 0, 1) := by decide +kernel
theorem dX4_takeWanted_32 : decode cX4_takeWanted 32 = .ok (.istore 5, 2) := by decide +kernel
theorem dX4_takeWanted_34 : decode cX4_takeWanted 34 = .ok (.iload 5, 2) := by decide +kernel
theorem dX4_takeWanted_36 : decode cX4_takeWanted 36 = .ok (.iload_n 2, 1) := by decide +kernel
theorem dX4_takeWanted_37 : decode cX4_takeWanted 37 = .ok (.if_icmp .ge 58, 3) := by decide +kernel
theorem dX4_takeWanted_40 : decode cX4_takeWanted 40 = .ok (.iload 5, 2) := by decide +kernel
theorem dX4_takeWanted_42 : decode cX4_takeWanted 42 = .ok (.aload_n 1, 1) := by decide +kernel
theorem dX4_takeWanted_43 : decode cX4_takeWanted 43 = .ok (.arraylength, 1) := by decide +kernel
theorem dX4_takeWanted_44 : decode cX4_takeWanted 44 = .ok (.if_icmp .ge 51, 3) := by decide +kernel
theorem dX4_takeWanted_47 : decode cX4_takeWanted 47 = .ok (.aload_n 1, 1) := by decide +kernel
theorem dX4_takeWanted_48 : decode cX4_takeWanted 48 = .ok (.iload 5, 2) := by decide +kernel
theorem dX4_takeWanted_50 : decode cX4_takeWanted 50 = .ok (.aaload, 1) := by decide +kernel
theorem dX4_takeWanted_51 : decode cX4_takeWanted 51 = .ok (.getfield 31, 3) := by decide +kernel
theorem dX4_takeWanted_54 : decode cX4_takeWanted 54 = .ok (.ifCond .ne 35, 3) := by decide +kernel
theorem dX4_takeWanted_57 : decode cX4_takeWanted 57 = .ok (.iload_n 3, 1) := by decide +kernel
theorem dX4_takeWanted_58 : decode cX4_takeWanted 58 = .ok (.aload_n 1, 1) := by decide +kernel
theorem dX4_takeWanted_59 : decode cX4_takeWanted 59 = .ok (.iload 5, 2) := by decide +kernel
theorem dX4_takeWanted_61 : decode cX4_takeWanted 61 = .ok (.aaload, 1) := by decide +kernel
theorem dX4_takeWanted_62 : decode cX4_takeWanted 62 = .ok (.getfield 37, 3) := by decide +kernel
theorem dX4_takeWanted_65 : decode cX4_takeWanted 65 = .ok (.invokestatic 25, 3) := by decide +kernel
theorem dX4_takeWanted_68 : decode cX4_takeWanted 68 = .ok (.istore 4, 2) := by decide +kernel
theorem dX4_takeWanted_70 : decode cX4_takeWanted 70 = .ok (.aload_n 1, 1) := by decide +kernel
theorem dX4_takeWanted_71 : decode cX4_takeWanted 71 = .ok (.iload 5, 2) := by decide +kernel
theorem dX4_takeWanted_73 : decode cX4_takeWanted 73 = .ok (.aaload, 1) := by decide +kernel
theorem dX4_takeWanted_74 : decode cX4_takeWanted 74 = .ok (.dup, 1) := by decide +kernel
theorem dX4_takeWanted_75 : decode cX4_takeWanted 75 = .ok (.getfield 37, 3) := by decide +kernel
theorem dX4_takeWanted_78 : decode cX4_takeWanted 78 = .ok (.iload 4, 2) := by decide +kernel
theorem dX4_takeWanted_80 : decode cX4_takeWanted 80 = .ok (.isub, 1) := by decide +kernel
theorem dX4_takeWanted_81 : decode cX4_takeWanted 81 = .ok (.putfield 37, 3) := by decide +kernel
theorem dX4_takeWanted_84 : decode cX4_takeWanted 84 = .ok (.iload_n 3, 1) := by decide +kernel
theorem dX4_takeWanted_85 : decode cX4_takeWanted 85 = .ok (.iload 4, 2) := by decide +kernel
theorem dX4_takeWanted_87 : decode cX4_takeWanted 87 = .ok (.isub, 1) := by decide +kernel
theorem dX4_takeWanted_88 : decode cX4_takeWanted 88 = .ok (.istore_n 3, 1) := by decide +kernel
theorem dX4_takeWanted_89 : decode cX4_takeWanted 89 = .ok (.iinc 5 1, 3) := by decide +kernel
theorem dX4_takeWanted_92 : decode cX4_takeWanted 92 = .ok (.goto (-58), 3) := by decide +kernel
theorem dX4_takeWanted_95 : decode cX4_takeWanted 95 = .ok (.aload_n 0, 1) := by decide +kernel
theorem dX4_takeWanted_96 : decode cX4_takeWanted 96 = .ok (.dup, 1) := by decide +kernel
theorem dX4_takeWanted_97 : decode cX4_takeWanted 97 = .ok (.getfield 16, 3) := by decide +kernel
theorem dX4_takeWanted_100 : decode cX4_takeWanted 100 = .ok (.aload_n 0, 1) := by decide +kernel
theorem dX4_takeWanted_101 : decode cX4_takeWanted 101 = .ok (.getfield 7, 3) := by decide +kernel
theorem dX4_takeWanted_104 : decode cX4_takeWanted 104 = .ok (.iload_n 3, 1) := by decide +kernel
theorem dX4_takeWanted_105 : decode cX4_takeWanted 105 = .ok (.isub, 1) := by decide +kernel
theorem dX4_takeWanted_106 : decode cX4_takeWanted 106 = .ok (.iadd, 1) := by decide +kernel
theorem dX4_takeWanted_107 : decode cX4_takeWanted 107 = .ok (.putfield 16, 3) := by decide +kernel
theorem dX4_takeWanted_110 : decode cX4_takeWanted 110 = .ok (.aload_n 0, 1) := by decide +kernel
theorem dX4_takeWanted_111 : decode cX4_takeWanted 111 = .ok (.dup, 1) := by decide +kernel
theorem dX4_takeWanted_112 : decode cX4_takeWanted 112 = .ok (.getfield 19, 3) := by decide +kernel
theorem dX4_takeWanted_115 : decode cX4_takeWanted 115 = .ok (.iload_n 3, 1) := by decide +kernel
theorem dX4_takeWanted_116 : decode cX4_takeWanted 116 = .ok (.iadd, 1) := by decide +kernel
theorem dX4_takeWanted_117 : decode cX4_takeWanted 117 = .ok (.putfield 19, 3) := by decide +kernel
theorem dX4_takeWanted_120 : decode cX4_takeWanted 120 = .ok (.aload_n 0, 1) := by decide +kernel
theorem dX4_takeWanted_121 : decode cX4_takeWanted 121 = .ok (.iload_n 3, 1) := by decide +kernel
theorem dX4_takeWanted_122 : decode cX4_takeWanted 122 = .ok (.putfield 22, 3) := by decide +kernel
theorem dX4_takeWanted_125 : decode cX4_takeWanted 125 = .ok (.return_, 1) := by decide +kernel
theorem dX5_init_0 : decode cX5_init 0 = .ok (.aload_n 0, 1) := by decide +kernel
theorem dX5_init_1 : decode cX5_init 1 = .ok (.invokespecial 3, 3) := by decide +kernel
theorem dX5_init_4 : decode cX5_init 4 = .ok (.aload_n 0, 1) := by decide +kernel
theorem dX5_init_5 : decode cX5_init 5 = .ok (.iconst 0, 1) := by decide +kernel
theorem dX5_init_6 : decode cX5_init 6 = .ok (.putfield 9, 3) := by decide +kernel
theorem dX5_init_9 : decode cX5_init 9 = .ok (.aload_n 0, 1) := by decide +kernel
theorem dX5_init_10 : decode cX5_init 10 = .ok (.iconst 0, 1) := by decide +kernel
theorem dX5_init_11 : decode cX5_init 11 = .ok (.putfield 15, 3) := by decide +kernel
theorem dX5_init_14 : decode cX5_init 14 = .ok (.aload_n 0, 1) := by decide +kernel
theorem dX5_init_15 : decode cX5_init 15 = .ok (.bipush 10, 2) := by decide +kernel
theorem dX5_init_17 : decode cX5_init 17 = .ok (.putfield 18, 3) := by decide +kernel
theorem dX5_init_20 : decode cX5_init 20 = .ok (.aload_n 0, 1) := by decide +kernel
theorem dX5_init_21 : decode cX5_init 21 = .ok (.iconst (-1), 1) := by decide +kernel
theorem dX5_init_22 : decode cX5_init 22 = .ok (.putfield 21, 3) := by decide +kernel
theorem dX5_init_25 : decode cX5_init 25 = .ok (.aload_n 0, 1) := by decide +kernel
theorem dX5_init_26 : decode cX5_init 26 = .ok (.iconst 0, 1) := by decide +kernel
theorem dX5_init_27 : decode cX5_init 27 = .ok (.putfield 24, 3) := by decide +kernel
theorem dX5_init_30 : decode cX5_init 30 = .ok (.aload_n 0, 1) := by decide +kernel
theorem dX5_init_31 : decode cX5_init 31 = .ok (.iconst 0, 1) := by decide +kernel
theorem dX5_init_32 : decode cX5_init 32 = .ok (.putfield 28, 3) := by decide +kernel
theorem dX5_init_35 : decode cX5_init 35 = .ok (.aload_n 0, 1) := by decide +kernel
theorem dX5_init_36 : decode cX5_init 36 = .ok (.iconst (-1), 1) := by decide +kernel
theorem dX5_init_37 : decode cX5_init 37 = .ok (.putfield 31, 3) := by decide +kernel
theorem dX5_init_40 : decode cX5_init 40 = .ok (.aload_n 0, 1) := by decide +kernel
theorem dX5_init_41 : decode cX5_init 41 = .ok (.iconst 0, 1) := by decide +kernel
theorem dX5_init_42 : decode cX5_init 42 = .ok (.putfield 34, 3) := by decide +kernel
theorem dX5_init_45 : decode cX5_init 45 = .ok (.aload_n 0, 1) := by decide +kernel
theorem dX5_init_46 : decode cX5_init 46 = .ok (.iconst 0, 1) := by decide +kernel
theorem dX5_init_47 : decode cX5_init 47 = .ok (.putfield 37, 3) := by decide +kernel
theorem dX5_init_50 : decode cX5_init 50 = .ok (.return_, 1) := by decide +kernel
theorem dX5_takesPeat_0 : decode cX5_takesPeat 0 = .ok (.aload_n 0, 1) := by decide +kernel
theorem dX5_takesPeat_1 : decode cX5_takesPeat 1 = .ok (.getfield 24, 3) := by decide +kernel
theorem dX5_takesPeat_4 : decode cX5_takesPeat 4 = .ok (.ifCond .ne 14, 3) := by decide +kernel
theorem dX5_takesPeat_7 : decode cX5_takesPeat 7 = .ok (.aload_n 0, 1) := by decide +kernel
theorem dX5_takesPeat_8 : decode cX5_takesPeat 8 = .ok (.getfield 37, 3) := by decide +kernel
theorem dX5_takesPeat_11 : decode cX5_takesPeat 11 = .ok (.ifCond .ne 7, 3) := by decide +kernel
theorem dX5_takesPeat_14 : decode cX5_takesPeat 14 = .ok (.iconst 1, 1) := by decide +kernel
theorem dX5_takesPeat_15 : decode cX5_takesPeat 15 = .ok (.goto 4, 3) := by decide +kernel
theorem dX5_takesPeat_18 : decode cX5_takesPeat 18 = .ok (.iconst 0, 1) := by decide +kernel
theorem dX5_takesPeat_19 : decode cX5_takesPeat 19 = .ok (.ireturn, 1) := by decide +kernel
theorem dX5_add_0 : decode cX5_add 0 = .ok (.aload_n 0, 1) := by decide +kernel
theorem dX5_add_1 : decode cX5_add 1 = .ok (.getfield 9, 3) := by decide +kernel
theorem dX5_add_4 : decode cX5_add 4 = .ok (.iload_n 1, 1) := by decide +kernel
theorem dX5_add_5 : decode cX5_add 5 = .ok (.iadd, 1) := by decide +kernel
theorem dX5_add_6 : decode cX5_add 6 = .ok (.istore_n 3, 1) := by decide +kernel
theorem dX5_add_7 : decode cX5_add 7 = .ok (.iload_n 3, 1) := by decide +kernel
theorem dX5_add_8 : decode cX5_add 8 = .ok (.ifCond .le 22, 3) := by decide +kernel
theorem dX5_add_11 : decode cX5_add 11 = .ok (.aload_n 0, 1) := by decide +kernel
theorem dX5_add_12 : decode cX5_add 12 = .ok (.aload_n 0, 1) := by decide +kernel
theorem dX5_add_13 : decode cX5_add 13 = .ok (.getfield 9, 3) := by decide +kernel
theorem dX5_add_16 : decode cX5_add 16 = .ok (.aload_n 0, 1) := by decide +kernel
theorem dX5_add_17 : decode cX5_add 17 = .ok (.getfield 15, 3) := by decide +kernel
theorem dX5_add_20 : decode cX5_add 20 = .ok (.imul, 1) := by decide +kernel
theorem dX5_add_21 : decode cX5_add 21 = .ok (.iload_n 1, 1) := by decide +kernel
theorem dX5_add_22 : decode cX5_add 22 = .ok (.iload_n 2, 1) := by decide +kernel
theorem dX5_add_23 : decode cX5_add 23 = .ok (.imul, 1) := by decide +kernel
theorem dX5_add_24 : decode cX5_add 24 = .ok (.iadd, 1) := by decide +kernel
theorem dX5_add_25 : decode cX5_add 25 = .ok (.iload_n 3, 1) := by decide +kernel
theorem dX5_add_26 : decode cX5_add 26 = .ok (.idiv, 1) := by decide +kernel
theorem dX5_add_27 : decode cX5_add 27 = .ok (.putfield 15, 3) := by decide +kernel
theorem dX5_add_30 : decode cX5_add 30 = .ok (.aload_n 0, 1) := by decide +kernel
theorem dX5_add_31 : decode cX5_add 31 = .ok (.iload_n 3, 1) := by decide +kernel
theorem dX5_add_32 : decode cX5_add 32 = .ok (.putfield 9, 3) := by decide +kernel
theorem dX5_add_35 : decode cX5_add 35 = .ok (.return_, 1) := by decide +kernel
theorem dX5_glow_0 : decode cX5_glow 0 = .ok (.aload_n 0, 1) := by decide +kernel
theorem dX5_glow_1 : decode cX5_glow 1 = .ok (.getfield 9, 3) := by decide +kernel
theorem dX5_glow_4 : decode cX5_glow 4 = .ok (.ifCond .gt 5, 3) := by decide +kernel
theorem dX5_glow_7 : decode cX5_glow 7 = .ok (.iconst 0, 1) := by decide +kernel
theorem dX5_glow_8 : decode cX5_glow 8 = .ok (.ireturn, 1) := by decide +kernel
theorem dX5_glow_9 : decode cX5_glow 9 = .ok (.aload_n 0, 1) := by decide +kernel
theorem dX5_glow_10 : decode cX5_glow 10 = .ok (.getfield 24, 3) := by decide +kernel
theorem dX5_glow_13 : decode cX5_glow 13 = .ok (.ifCond .eq 27, 3) := by decide +kernel
theorem dX5_glow_16 : decode cX5_glow 16 = .ok (.iconst 1, 1) := by decide +kernel
theorem dX5_glow_17 : decode cX5_glow 17 = .ok (.aload_n 0, 1) := by decide +kernel
theorem dX5_glow_18 : decode cX5_glow 18 = .ok (.getfield 9, 3) := by decide +kernel
theorem dX5_glow_21 : decode cX5_glow 21 = .ok (.bipush 10, 2) := by decide +kernel
theorem dX5_glow_23 : decode cX5_glow 23 = .ok (.idiv, 1) := by decide +kernel
theorem dX5_glow_24 : decode cX5_glow 24 = .ok (.invokestatic 40, 3) := by decide +kernel
theorem dX5_glow_27 : decode cX5_glow 27 = .ok (.istore_n 3, 1) := by decide +kernel
theorem dX5_glow_28 : decode cX5_glow 28 = .ok (.aload_n 0, 1) := by decide +kernel
theorem dX5_glow_29 : decode cX5_glow 29 = .ok (.dup, 1) := by decide +kernel
theorem dX5_glow_30 : decode cX5_glow 30 = .ok (.getfield 9, 3) := by decide +kernel
theorem dX5_glow_33 : decode cX5_glow 33 = .ok (.iload_n 3, 1) := by decide +kernel
theorem dX5_glow_34 : decode cX5_glow 34 = .ok (.isub, 1) := by decide +kernel
theorem dX5_glow_35 : decode cX5_glow 35 = .ok (.putfield 9, 3) := by decide +kernel
theorem dX5_glow_38 : decode cX5_glow 38 = .ok (.iload_n 3, 1) := by decide +kernel
theorem dX5_glow_39 : decode cX5_glow 39 = .ok (.ireturn, 1) := by decide +kernel
theorem dX5_glow_40 : decode cX5_glow 40 = .ok (.aload_n 0, 1) := by decide +kernel
theorem dX5_glow_41 : decode cX5_glow 41 = .ok (.getfield 18, 3) := by decide +kernel
theorem dX5_glow_44 : decode cX5_glow 44 = .ok (.iconst 1, 1) := by decide +kernel
theorem dX5_glow_45 : decode cX5_glow 45 = .ok (.iadd, 1) := by decide +kernel
theorem dX5_glow_46 : decode cX5_glow 46 = .ok (.aload_n 0, 1) := by decide +kernel
theorem dX5_glow_47 : decode cX5_glow 47 = .ok (.getfield 9, 3) := by decide +kernel
theorem dX5_glow_50 : decode cX5_glow 50 = .ok (.sipush 500, 3) := by decide +kernel
theorem dX5_glow_53 : decode cX5_glow 53 = .ok (.idiv, 1) := by decide +kernel
theorem dX5_glow_54 : decode cX5_glow 54 = .ok (.iadd, 1) := by decide +kernel
theorem dX5_glow_55 : decode cX5_glow 55 = .ok (.aload_n 0, 1) := by decide +kernel
theorem dX5_glow_56 : decode cX5_glow 56 = .ok (.getfield 15, 3) := by decide +kernel
theorem dX5_glow_59 : decode cX5_glow 59 = .ok (.sipush 500, 3) := by decide +kernel
theorem dX5_glow_62 : decode cX5_glow 62 = .ok (.if_icmp .le 7, 3) := by decide +kernel
theorem dX5_glow_65 : decode cX5_glow 65 = .ok (.iconst 2, 1) := by decide +kernel
theorem dX5_glow_66 : decode cX5_glow 66 = .ok (.goto 4, 3) := by decide +kernel
theorem dX5_glow_69 : decode cX5_glow 69 = .ok (.iconst 0, 1) := by decide +kernel
theorem dX5_glow_70 : decode cX5_glow 70 = .ok (.iadd, 1) := by decide +kernel
theorem dX5_glow_71 : decode cX5_glow 71 = .ok (.iload_n 1, 1) := by decide +kernel
theorem dX5_glow_72 : decode cX5_glow 72 = .ok (.bipush 20, 2) := by decide +kernel
theorem dX5_glow_74 : decode cX5_glow 74 = .ok (.if_icmp .le 7, 3) := by decide +kernel
theorem dX5_glow_77 : decode cX5_glow 77 = .ok (.iconst 3, 1) := by decide +kernel
theorem dX5_glow_78 : decode cX5_glow 78 = .ok (.goto 4, 3) := by decide +kernel
theorem dX5_glow_81 : decode cX5_glow 81 = .ok (.iconst 0, 1) := by decide +kernel
theorem dX5_glow_82 : decode cX5_glow 82 = .ok (.isub, 1) := by decide +kernel
theorem dX5_glow_83 : decode cX5_glow 83 = .ok (.istore_n 3, 1) := by decide +kernel
theorem dX5_glow_84 : decode cX5_glow 84 = .ok (.aload_n 0, 1) := by decide +kernel
theorem dX5_glow_85 : decode cX5_glow 85 = .ok (.bipush 100, 2) := by decide +kernel
theorem dX5_glow_87 : decode cX5_glow 87 = .ok (.bipush 10, 2) := by decide +kernel
theorem dX5_glow_89 : decode cX5_glow 89 = .ok (.iload_n 3, 1) := by decide +kernel
theorem dX5_glow_90 : decode cX5_glow 90 = .ok (.invokestatic 40, 3) := by decide +kernel
theorem dX5_glow_93 : decode cX5_glow 93 = .ok (.invokestatic 46, 3) := by decide +kernel
theorem dX5_glow_96 : decode cX5_glow 96 = .ok (.putfield 18, 3) := by decide +kernel
theorem dX5_glow_99 : decode cX5_glow 99 = .ok (.aload_n 0, 1) := by decide +kernel
theorem dX5_glow_100 : decode cX5_glow 100 = .ok (.getfield 18, 3) := by decide +kernel
theorem dX5_glow_103 : decode cX5_glow 103 = .ok (.bipush 100, 2) := by decide +kernel
theorem dX5_glow_105 : decode cX5_glow 105 = .ok (.if_icmp .ne 13, 3) := by decide +kernel
theorem dX5_glow_108 : decode cX5_glow 108 = .ok (.aload_n 0, 1) := by decide +kernel
theorem dX5_glow_109 : decode cX5_glow 109 = .ok (.iconst 1, 1) := by decide +kernel
theorem dX5_glow_110 : decode cX5_glow 110 = .ok (.putfield 24, 3) := by decide +kernel
theorem dX5_glow_113 : decode cX5_glow 113 = .ok (.aload_n 0, 1) := by decide +kernel
theorem dX5_glow_114 : decode cX5_glow 114 = .ok (.iload_n 2, 1) := by decide +kernel
theorem dX5_glow_115 : decode cX5_glow 115 = .ok (.putfield 31, 3) := by decide +kernel
theorem dX5_glow_118 : decode cX5_glow 118 = .ok (.iconst 0, 1) := by decide +kernel
theorem dX5_glow_119 : decode cX5_glow 119 = .ok (.ireturn, 1) := by decide +kernel
theorem dX5_turnOver_0 : decode cX5_turnOver 0 = .ok (.aload_n 0, 1) := by decide +kernel
theorem dX5_turnOver_1 : decode cX5_turnOver 1 = .ok (.bipush 10, 2) := by decide +kernel
theorem dX5_turnOver_3 : decode cX5_turnOver 3 = .ok (.aload_n 0, 1) := by decide +kernel
theorem dX5_turnOver_4 : decode cX5_turnOver 4 = .ok (.getfield 18, 3) := by decide +kernel
theorem dX5_turnOver_7 : decode cX5_turnOver 7 = .ok (.iconst 2, 1) := by decide +kernel
theorem dX5_turnOver_8 : decode cX5_turnOver 8 = .ok (.idiv, 1) := by decide +kernel
theorem dX5_turnOver_9 : decode cX5_turnOver 9 = .ok (.invokestatic 40, 3) := by decide +kernel
theorem dX5_turnOver_12 : decode cX5_turnOver 12 = .ok (.putfield 18, 3) := by decide +kernel
theorem dX5_turnOver_15 : decode cX5_turnOver 15 = .ok (.aload_n 0, 1) := by decide +kernel
theorem dX5_turnOver_16 : decode cX5_turnOver 16 = .ok (.dup, 1) := by decide +kernel
theorem dX5_turnOver_17 : decode cX5_turnOver 17 = .ok (.getfield 34, 3) := by decide +kernel
theorem dX5_turnOver_20 : decode cX5_turnOver 20 = .ok (.iconst 1, 1) := by decide +kernel
theorem dX5_turnOver_21 : decode cX5_turnOver 21 = .ok (.iadd, 1) := by decide +kernel
theorem dX5_turnOver_22 : decode cX5_turnOver 22 = .ok (.putfield 34, 3) := by decide +kernel
theorem dX5_turnOver_25 : decode cX5_turnOver 25 = .ok (.return_, 1) := by decide +kernel
theorem dX5_sendAway_0 : decode cX5_sendAway 0 = .ok (.aload_n 0, 1) := by decide +kernel
theorem dX5_sendAway_1 : decode cX5_sendAway 1 = .ok (.getfield 9, 3) := by decide +kernel
theorem dX5_sendAway_4 : decode cX5_sendAway 4 = .ok (.istore_n 1, 1) := by decide +kernel
theorem dX5_sendAway_5 : decode cX5_sendAway 5 = .ok (.aload_n 0, 1) := by decide +kernel
theorem dX5_sendAway_6 : decode cX5_sendAway 6 = .ok (.iconst 0, 1) := by decide +kernel
theorem dX5_sendAway_7 : decode cX5_sendAway 7 = .ok (.putfield 9, 3) := by decide +kernel
theorem dX5_sendAway_10 : decode cX5_sendAway 10 = .ok (.aload_n 0, 1) := by decide +kernel
theorem dX5_sendAway_11 : decode cX5_sendAway 11 = .ok (.iconst 1, 1) := by decide +kernel
theorem dX5_sendAway_12 : decode cX5_sendAway 12 = .ok (.putfield 37, 3) := by decide +kernel
theorem dX5_sendAway_15 : decode cX5_sendAway 15 = .ok (.iload_n 1, 1) := by decide +kernel
theorem dX5_sendAway_16 : decode cX5_sendAway 16 = .ok (.ireturn, 1) := by decide +kernel
theorem dX5_tellOf_0 : decode cX5_tellOf 0 = .ok (.iload_n 1, 1) := by decide +kernel
theorem dX5_tellOf_1 : decode cX5_tellOf 1 = .ok (.tableswitch 112 0 8 #[51, 56, 61, 66, 71, 84, 89, 94, 99], 51) := by decide +kernel
theorem dX5_tellOf_52 : decode cX5_tellOf 52 = .ok (.aload_n 0, 1) := by decide +kernel
theorem dX5_tellOf_53 : decode cX5_tellOf 53 = .ok (.getfield 9, 3) := by decide +kernel
theorem dX5_tellOf_56 : decode cX5_tellOf 56 = .ok (.ireturn, 1) := by decide +kernel
theorem dX5_tellOf_57 : decode cX5_tellOf 57 = .ok (.aload_n 0, 1) := by decide +kernel
theorem dX5_tellOf_58 : decode cX5_tellOf 58 = .ok (.getfield 15, 3) := by decide +kernel
theorem dX5_tellOf_61 : decode cX5_tellOf 61 = .ok (.ireturn, 1) := by decide +kernel
theorem dX5_tellOf_62 : decode cX5_tellOf 62 = .ok (.aload_n 0, 1) := by decide +kernel
theorem dX5_tellOf_63 : decode cX5_tellOf 63 = .ok (.getfield 18, 3) := by decide +kernel
theorem dX5_tellOf_66 : decode cX5_tellOf 66 = .ok (.ireturn, 1) := by decide +kernel
theorem dX5_tellOf_67 : decode cX5_tellOf 67 = .ok (.aload_n 0, 1) := by decide +kernel
theorem dX5_tellOf_68 : decode cX5_tellOf 68 = .ok (.getfield 21, 3) := by decide +kernel
theorem dX5_tellOf_71 : decode cX5_tellOf 71 = .ok (.ireturn, 1) := by decide +kernel
theorem dX5_tellOf_72 : decode cX5_tellOf 72 = .ok (.aload_n 0, 1) := by decide +kernel
theorem dX5_tellOf_73 : decode cX5_tellOf 73 = .ok (.getfield 24, 3) := by decide +kernel
theorem dX5_tellOf_76 : decode cX5_tellOf 76 = .ok (.ifCond .eq 7, 3) := by decide +kernel
theorem dX5_tellOf_79 : decode cX5_tellOf 79 = .ok (.iconst 1, 1) := by decide +kernel
theorem dX5_tellOf_80 : decode cX5_tellOf 80 = .ok (.goto 4, 3) := by decide +kernel
theorem dX5_tellOf_83 : decode cX5_tellOf 83 = .ok (.iconst 0, 1) := by decide +kernel
theorem dX5_tellOf_84 : decode cX5_tellOf 84 = .ok (.ireturn, 1) := by decide +kernel
