theorem dX0_init_0 : decode cX0_init 0 = .ok (.aload_n 0, 1) := by decide +kernel
theorem dX0_init_1 : decode cX0_init 1 = .ok (.invokespecial 3, 3) := by decide +kernel
theorem dX0_init_4 : decode cX0_init 4 = .ok (.aload_n 0, 1) := by decide +kernel
theorem dX0_init_5 : decode cX0_init 5 = .ok (.new 9, 3) := by decide +kernel
theorem dX0_init_8 : decode cX0_init 8 = .ok (.dup, 1) := by decide +kernel
theorem dX0_init_9 : decode cX0_init 9 = .ok (.sipush 200, 3) := by decide +kernel
theorem dX0_init_12 : decode cX0_init 12 = .ok (.invokespecial 11, 3) := by decide +kernel
theorem dX0_init_15 : decode cX0_init 15 = .ok (.putfield 14, 3) := by decide +kernel
theorem dX0_init_18 : decode cX0_init 18 = .ok (.return_, 1) := by decide +kernel
theorem dX0_take_0 : decode cX0_take 0 = .ok (.aload_n 0, 1) := by decide +kernel
theorem dX0_take_1 : decode cX0_take 1 = .ok (.getfield 14, 3) := by decide +kernel
theorem dX0_take_4 : decode cX0_take 4 = .ok (.invokevirtual 20, 3) := by decide +kernel
theorem dX0_take_7 : decode cX0_take 7 = .ok (.aload_n 0, 1) := by decide +kernel
theorem dX0_take_8 : decode cX0_take 8 = .ok (.iconst 1, 1) := by decide +kernel
theorem dX0_take_9 : decode cX0_take 9 = .ok (.putfield 23, 3) := by decide +kernel
theorem dX0_take_12 : decode cX0_take 12 = .ok (.iconst 0, 1) := by decide +kernel
theorem dX0_take_13 : decode cX0_take 13 = .ok (.istore 4, 2) := by decide +kernel
theorem dX0_take_15 : decode cX0_take 15 = .ok (.iload 4, 2) := by decide +kernel
theorem dX0_take_17 : decode cX0_take 17 = .ok (.aload_n 1, 1) := by decide +kernel
theorem dX0_take_18 : decode cX0_take 18 = .ok (.getfield 27, 3) := by decide +kernel
theorem dX0_take_21 : decode cX0_take 21 = .ok (.if_icmp .ge 47, 3) := by decide +kernel
theorem dX0_take_24 : decode cX0_take 24 = .ok (.aload_n 1, 1) := by decide +kernel
theorem dX0_take_25 : decode cX0_take 25 = .ok (.iload 4, 2) := by decide +kernel
theorem dX0_take_27 : decode cX0_take 27 = .ok (.invokevirtual 30, 3) := by decide +kernel
theorem dX0_take_30 : decode cX0_take 30 = .ok (.istore 5, 2) := by decide +kernel
theorem dX0_take_32 : decode cX0_take 32 = .ok (.aload_n 0, 1) := by decide +kernel
theorem dX0_take_33 : decode cX0_take 33 = .ok (.getfield 14, 3) := by decide +kernel
theorem dX0_take_36 : decode cX0_take 36 = .ok (.iload 5, 2) := by decide +kernel
theorem dX0_take_38 : decode cX0_take 38 = .ok (.invokevirtual 34, 3) := by decide +kernel
theorem dX0_take_41 : decode cX0_take 41 = .ok (.aload_n 0, 1) := by decide +kernel
theorem dX0_take_42 : decode cX0_take 42 = .ok (.dup, 1) := by decide +kernel
theorem dX0_take_43 : decode cX0_take 43 = .ok (.getfield 23, 3) := by decide +kernel
theorem dX0_take_46 : decode cX0_take 46 = .ok (.iload 5, 2) := by decide +kernel
theorem dX0_take_48 : decode cX0_take 48 = .ok (.bipush 47, 2) := by decide +kernel
theorem dX0_take_50 : decode cX0_take 50 = .ok (.if_icmp .ne 7, 3) := by decide +kernel
theorem dX0_take_53 : decode cX0_take 53 = .ok (.iconst 1, 1) := by decide +kernel
theorem dX0_take_54 : decode cX0_take 54 = .ok (.goto 4, 3) := by decide +kernel
theorem dX0_take_57 : decode cX0_take 57 = .ok (.iconst 0, 1) := by decide +kernel
theorem dX0_take_58 : decode cX0_take 58 = .ok (.iadd, 1) := by decide +kernel
theorem dX0_take_59 : decode cX0_take 59 = .ok (.putfield 23, 3) := by decide +kernel
theorem dX0_take_62 : decode cX0_take 62 = .ok (.iinc 4 1, 3) := by decide +kernel
theorem dX0_take_65 : decode cX0_take 65 = .ok (.goto (-50), 3) := by decide +kernel
theorem dX0_take_68 : decode cX0_take 68 = .ok (.aload_n 0, 1) := by decide +kernel
theorem dX0_take_69 : decode cX0_take 69 = .ok (.iload_n 2, 1) := by decide +kernel
theorem dX0_take_70 : decode cX0_take 70 = .ok (.putfield 37, 3) := by decide +kernel
theorem dX0_take_73 : decode cX0_take 73 = .ok (.aload_n 0, 1) := by decide +kernel
theorem dX0_take_74 : decode cX0_take 74 = .ok (.iload_n 3, 1) := by decide +kernel
theorem dX0_take_75 : decode cX0_take 75 = .ok (.putfield 40, 3) := by decide +kernel
theorem dX0_take_78 : decode cX0_take 78 = .ok (.return_, 1) := by decide +kernel
theorem dX0_goesLeftOf_0 : decode cX0_goesLeftOf 0 = .ok (.aload_n 0, 1) := by decide +kernel
theorem dX0_goesLeftOf_1 : decode cX0_goesLeftOf 1 = .ok (.getfield 40, 3) := by decide +kernel
theorem dX0_goesLeftOf_4 : decode cX0_goesLeftOf 4 = .ok (.ifCond .eq 39, 3) := by decide +kernel
theorem dX0_goesLeftOf_7 : decode cX0_goesLeftOf 7 = .ok (.aload_n 1, 1) := by decide +kernel
theorem dX0_goesLeftOf_8 : decode cX0_goesLeftOf 8 = .ok (.getfield 37, 3) := by decide +kernel
theorem dX0_goesLeftOf_11 : decode cX0_goesLeftOf 11 = .ok (.ifCond .eq 32, 3) := by decide +kernel
theorem dX0_goesLeftOf_14 : decode cX0_goesLeftOf 14 = .ok (.aload_n 0, 1) := by decide +kernel
theorem dX0_goesLeftOf_15 : decode cX0_goesLeftOf 15 = .ok (.getfield 40, 3) := by decide +kernel
theorem dX0_goesLeftOf_18 : decode cX0_goesLeftOf 18 = .ok (.aload_n 1, 1) := by decide +kernel
theorem dX0_goesLeftOf_19 : decode cX0_goesLeftOf 19 = .ok (.getfield 37, 3) := by decide +kernel
theorem dX0_goesLeftOf_22 : decode cX0_goesLeftOf 22 = .ok (.iadd, 1) := by decide +kernel
theorem dX0_goesLeftOf_23 : decode cX0_goesLeftOf 23 = .ok (.ldc 43, 2) := by decide +kernel
theorem dX0_goesLeftOf_25 : decode cX0_goesLeftOf 25 = .ok (.if_icmp .ne 18, 3) := by decide +kernel
theorem dX0_goesLeftOf_28 : decode cX0_goesLeftOf 28 = .ok (.aload_n 0, 1) := by decide +kernel
theorem dX0_goesLeftOf_29 : decode cX0_goesLeftOf 29 = .ok (.getfield 23, 3) := by decide +kernel
theorem dX0_goesLeftOf_32 : decode cX0_goesLeftOf 32 = .ok (.aload_n 1, 1) := by decide +kernel
theorem dX0_goesLeftOf_33 : decode cX0_goesLeftOf 33 = .ok (.getfield 23, 3) := by decide +kernel
theorem dX0_goesLeftOf_36 : decode cX0_goesLeftOf 36 = .ok (.if_icmp .ne 7, 3) := by decide +kernel
theorem dX0_goesLeftOf_39 : decode cX0_goesLeftOf 39 = .ok (.iconst 1, 1) := by decide +kernel
theorem dX0_goesLeftOf_40 : decode cX0_goesLeftOf 40 = .ok (.goto 4, 3) := by decide +kernel
theorem dX0_goesLeftOf_43 : decode cX0_goesLeftOf 43 = .ok (.iconst 0, 1) := by decide +kernel
theorem dX0_goesLeftOf_44 : decode cX0_goesLeftOf 44 = .ok (.ireturn, 1) := by decide +kernel
theorem dX0_sayWith_0 : decode cX0_sayWith 0 = .ok (.aload_n 2, 1) := by decide +kernel
theorem dX0_sayWith_1 : decode cX0_sayWith 1 = .ok (.invokevirtual 20, 3) := by decide +kernel
theorem dX0_sayWith_4 : decode cX0_sayWith 4 = .ok (.iconst 0, 1) := by decide +kernel
theorem dX0_sayWith_5 : decode cX0_sayWith 5 = .ok (.istore_n 3, 1) := by decide +kernel
theorem dX0_sayWith_6 : decode cX0_sayWith 6 = .ok (.iconst 0, 1) := by decide +kernel
theorem dX0_sayWith_7 : decode cX0_sayWith 7 = .ok (.istore 4, 2) := by decide +kernel
theorem dX0_sayWith_9 : decode cX0_sayWith 9 = .ok (.iconst 0, 1) := by decide +kernel
theorem dX0_sayWith_10 : decode cX0_sayWith 10 = .ok (.istore 5, 2) := by decide +kernel
theorem dX0_sayWith_12 : decode cX0_sayWith 12 = .ok (.iload 5, 2) := by decide +kernel
theorem dX0_sayWith_14 : decode cX0_sayWith 14 = .ok (.aload_n 0, 1) := by decide +kernel
theorem dX0_sayWith_15 : decode cX0_sayWith 15 = .ok (.getfield 23, 3) := by decide +kernel
theorem dX0_sayWith_18 : decode cX0_sayWith 18 = .ok (.if_icmp .ge 25, 3) := by decide +kernel
theorem dX0_sayWith_21 : decode cX0_sayWith 21 = .ok (.aload_n 0, 1) := by decide +kernel
theorem dX0_sayWith_22 : decode cX0_sayWith 22 = .ok (.iload_n 3, 1) := by decide +kernel
theorem dX0_sayWith_23 : decode cX0_sayWith 23 = .ok (.aload_n 2, 1) := by decide +kernel
theorem dX0_sayWith_24 : decode cX0_sayWith 24 = .ok (.invokevirtual 44, 3) := by decide +kernel
theorem dX0_sayWith_27 : decode cX0_sayWith 27 = .ok (.istore_n 3, 1) := by decide +kernel
theorem dX0_sayWith_28 : decode cX0_sayWith 28 = .ok (.aload_n 1, 1) := by decide +kernel
theorem dX0_sayWith_29 : decode cX0_sayWith 29 = .ok (.iload 4, 2) := by decide +kernel
theorem dX0_sayWith_31 : decode cX0_sayWith 31 = .ok (.aload_n 2, 1) := by decide +kernel
theorem dX0_sayWith_32 : decode cX0_sayWith 32 = .ok (.invokevirtual 44, 3) := by decide +kernel
theorem dX0_sayWith_35 : decode cX0_sayWith 35 = .ok (.istore 4, 2) := by decide +kernel
theorem dX0_sayWith_37 : decode cX0_sayWith 37 = .ok (.iinc 5 1, 3) := by decide +kernel
theorem dX0_sayWith_40 : decode cX0_sayWith 40 = .ok (.goto (-28), 3) := by decide +kernel
theorem dX0_sayWith_43 : decode cX0_sayWith 43 = .ok (.return_, 1) := by decide +kernel
theorem dX0_sayRow_0 : decode cX0_sayRow 0 = .ok (.iload_n 1, 1) := by decide +kernel
theorem dX0_sayRow_1 : decode cX0_sayRow 1 = .ok (.istore_n 3, 1) := by decide +kernel
theorem dX0_sayRow_2 : decode cX0_sayRow 2 = .ok (.iload_n 3, 1) := by decide +kernel
theorem dX0_sayRow_3 : decode cX0_sayRow 3 = .ok (.aload_n 0, 1) := by decide +kernel
theorem dX0_sayRow_4 : decode cX0_sayRow 4 = .ok (.getfield 14, 3) := by decide +kernel
theorem dX0_sayRow_7 : decode cX0_sayRow 7 = .ok (.getfield 27, 3) := by decide +kernel
theorem dX0_sayRow_10 : decode cX0_sayRow 10 = .ok (.if_icmp .ge 34, 3) := by decide +kernel
theorem dX0_sayRow_13 : decode cX0_sayRow 13 = .ok (.aload_n 0, 1) := by decide +kernel
theorem dX0_sayRow_14 : decode cX0_sayRow 14 = .ok (.getfield 14, 3) := by decide +kernel
theorem dX0_sayRow_17 : decode cX0_sayRow 17 = .ok (.iload_n 3, 1) := by decide +kernel
theorem dX0_sayRow_18 : decode cX0_sayRow 18 = .ok (.invokevirtual 30, 3) := by decide +kernel
theorem dX0_sayRow_21 : decode cX0_sayRow 21 = .ok (.bipush 47, 2) := by decide +kernel
theorem dX0_sayRow_23 : decode cX0_sayRow 23 = .ok (.if_icmp .eq 21, 3) := by decide +kernel
theorem dX0_sayRow_26 : decode cX0_sayRow 26 = .ok (.aload_n 2, 1) := by decide +kernel
theorem dX0_sayRow_27 : decode cX0_sayRow 27 = .ok (.aload_n 0, 1) := by decide +kernel
theorem dX0_sayRow_28 : decode cX0_sayRow 28 = .ok (.getfield 14, 3) := by decide +kernel
theorem dX0_sayRow_31 : decode cX0_sayRow 31 = .ok (.iload_n 3, 1) := by decide +kernel
theorem dX0_sayRow_32 : decode cX0_sayRow 32 = .ok (.invokevirtual 30, 3) := by decide +kernel
theorem dX0_sayRow_35 : decode cX0_sayRow 35 = .ok (.invokevirtual 34, 3) := by decide +kernel
theorem dX0_sayRow_38 : decode cX0_sayRow 38 = .ok (.iinc 3 1, 3) := by decide +kernel
theorem dX0_sayRow_41 : decode cX0_sayRow 41 = .ok (.goto (-39), 3) := by decide +kernel
theorem dX0_sayRow_44 : decode cX0_sayRow 44 = .ok (.aload_n 2, 1) := by decide +kernel
theorem dX0_sayRow_45 : decode cX0_sayRow 45 = .ok (.bipush 32, 2) := by decide +kernel
theorem dX0_sayRow_47 : decode cX0_sayRow 47 = .ok (.invokevirtual 34, 3) := by decide +kernel
theorem dX0_sayRow_50 : decode cX0_sayRow 50 = .ok (.iload_n 3, 1) := by decide +kernel
theorem dX0_sayRow_51 : decode cX0_sayRow 51 = .ok (.iconst 1, 1) := by decide +kernel
theorem dX0_sayRow_52 : decode cX0_sayRow 52 = .ok (.iadd, 1) := by decide +kernel
theorem dX0_sayRow_53 : decode cX0_sayRow 53 = .ok (.ireturn, 1) := by decide +kernel
theorem dX1_init_0 : decode cX1_init 0 = .ok (.aload_n 0, 1) := by decide +kernel
theorem dX1_init_1 : decode cX1_init 1 = .ok (.invokespecial 3, 3) := by decide +kernel
theorem dX1_init_4 : decode cX1_init 4 = .ok (.return_, 1) := by decide +kernel
theorem dX1_limit_0 : decode cX1_limit 0 = .ok (.aload_n 0, 1) := by decide +kernel
theorem dX1_limit_1 : decode cX1_limit 1 = .ok (.iload_n 1, 1) := by decide +kernel
theorem dX1_limit_2 : decode cX1_limit 2 = .ok (.putfield 9, 3) := by decide +kernel
theorem dX1_limit_5 : decode cX1_limit 5 = .ok (.aload_n 0, 1) := by decide +kernel
theorem dX1_limit_6 : decode cX1_limit 6 = .ok (.iload_n 2, 1) := by decide +kernel
theorem dX1_limit_7 : decode cX1_limit 7 = .ok (.putfield 15, 3) := by decide +kernel
theorem dX1_limit_10 : decode cX1_limit 10 = .ok (.aload_n 0, 1) := by decide +kernel
theorem dX1_limit_11 : decode cX1_limit 11 = .ok (.iload_n 3, 1) := by decide +kernel
theorem dX1_limit_12 : decode cX1_limit 12 = .ok (.putfield 18, 3) := by decide +kernel
theorem dX1_limit_15 : decode cX1_limit 15 = .ok (.return_, 1) := by decide +kernel
theorem dX1_noteDigit_0 : decode cX1_noteDigit 0 = .ok (.aload_n 0, 1) := by decide +kernel
theorem dX1_noteDigit_1 : decode cX1_noteDigit 1 = .ok (.getfield 22, 3) := by decide +kernel
theorem dX1_noteDigit_4 : decode cX1_noteDigit 4 = .ok (.bipush (-2), 2) := by decide +kernel
theorem dX1_noteDigit_6 : decode cX1_noteDigit 6 = .ok (.if_icmp .ne 11, 3) := by decide +kernel
theorem dX1_noteDigit_9 : decode cX1_noteDigit 9 = .ok (.aload_n 0, 1) := by decide +kernel
theorem dX1_noteDigit_10 : decode cX1_noteDigit 10 = .ok (.iload_n 1, 1) := by decide +kernel
theorem dX1_noteDigit_11 : decode cX1_noteDigit 11 = .ok (.putfield 22, 3) := by decide +kernel
theorem dX1_noteDigit_14 : decode cX1_noteDigit 14 = .ok (.goto 16, 3) := by decide +kernel
theorem dX1_noteDigit_17 : decode cX1_noteDigit 17 = .ok (.aload_n 0, 1) := by decide +kernel
theorem dX1_noteDigit_18 : decode cX1_noteDigit 18 = .ok (.getfield 22, 3) := by decide +kernel
theorem dX1_noteDigit_21 : decode cX1_noteDigit 21 = .ok (.iload_n 1, 1) := by decide +kernel
theorem dX1_noteDigit_22 : decode cX1_noteDigit 22 = .ok (.if_icmp .eq 8, 3) := by decide +kernel
theorem dX1_noteDigit_25 : decode cX1_noteDigit 25 = .ok (.aload_n 0, 1) := by decide +kernel
theorem dX1_noteDigit_26 : decode cX1_noteDigit 26 = .ok (.iconst (-1), 1) := by decide +kernel
theorem dX1_noteDigit_27 : decode cX1_noteDigit 27 = .ok (.putfield 22, 3) := by decide +kernel
theorem dX1_noteDigit_30 : decode cX1_noteDigit 30 = .ok (.return_, 1) := by decide +kernel
theorem dX2_init_0 : decode cX2_init 0 = .ok (.aload_n 0, 1) := by decide +kernel
theorem dX2_init_1 : decode cX2_init 1 = .ok (.invokespecial 3, 3) := by decide +kernel
theorem dX2_init_4 : decode cX2_init 4 = .ok (.return_, 1) := by decide +kernel
theorem dX2_begin_0 : decode cX2_begin 0 = .ok (.aload_n 0, 1) := by decide +kernel
theorem dX2_begin_1 : decode cX2_begin 1 = .ok (.iload_n 1, 1) := by decide +kernel
theorem dX2_begin_2 : decode cX2_begin 2 = .ok (.putfield 9, 3) := by decide +kernel
theorem dX2_begin_5 : decode cX2_begin 5 = .ok (.aload_n 0, 1) := by decide +kernel
theorem dX2_begin_6 : decode cX2_begin 6 = .ok (.iconst (-1), 1) := by decide +kernel
theorem dX2_begin_7 : decode cX2_begin 7 = .ok (.putfield 15, 3) := by decide +kernel
theorem dX2_begin_10 : decode cX2_begin 10 = .ok (.aload_n 0, 1) := by decide +kernel
theorem dX2_begin_11 : decode cX2_begin 11 = .ok (.iconst 0, 1) := by decide +kernel
theorem dX2_begin_12 : decode cX2_begin 12 = .ok (.putfield 18, 3) := by decide +kernel
theorem dX2_begin_15 : decode cX2_begin 15 = .ok (.aload_n 0, 1) := by decide +kernel
theorem dX2_begin_16 : decode cX2_begin 16 = .ok (.iconst 0, 1) := by decide +kernel
theorem dX2_begin_17 : decode cX2_begin 17 = .ok (.putfield 21, 3) := by decide +kernel
theorem dX2_begin_20 : decode cX2_begin 20 = .ok (.aload_n 0, 1) := by decide +kernel
theorem dX2_begin_21 : decode cX2_begin 21 = .ok (.iconst (-1), 1) := by decide +kernel
theorem dX2_begin_22 : decode cX2_begin 22 = .ok (.putfield 24, 3) := by decide +kernel
theorem dX2_begin_25 : decode cX2_begin 25 = .ok (.aload_n 0, 1) := by decide +kernel
theorem dX2_begin_26 : decode cX2_begin 26 = .ok (.iconst (-1), 1) := by decide +kernel
theorem dX2_begin_27 : decode cX2_begin 27 = .ok (.putfield 27, 3) := by decide +kernel
theorem dX2_begin_30 : decode cX2_begin 30 = .ok (.return_, 1) := by decide +kernel
theorem dX2_noteValue_0 : decode cX2_noteValue 0 = .ok (.aload_n 0, 1) := by decide +kernel
theorem dX2_noteValue_1 : decode cX2_noteValue 1 = .ok (.aload_n 0, 1) := by decide +kernel
theorem dX2_noteValue_2 : decode cX2_noteValue 2 = .ok (.getfield 24, 3) := by decide +kernel
theorem dX2_noteValue_5 : decode cX2_noteValue 5 = .ok (.iconst (-1), 1) := by decide +kernel
theorem dX2_noteValue_6 : decode cX2_noteValue 6 = .ok (.if_icmp .ne 7, 3) := by decide +kernel
theorem dX2_noteValue_9 : decode cX2_noteValue 9 = .ok (.iload_n 1, 1) := by decide +kernel
theorem dX2_noteValue_10 : decode cX2_noteValue 10 = .ok (.goto 11, 3) := by decide +kernel
theorem dX2_noteValue_13 : decode cX2_noteValue 13 = .ok (.aload_n 0, 1) := by decide +kernel
theorem dX2_noteValue_14 : decode cX2_noteValue 14 = .ok (.getfield 24, 3) := by decide +kernel
theorem dX2_noteValue_17 : decode cX2_noteValue 17 = .ok (.iload_n 1, 1) := by decide +kernel
theorem dX2_noteValue_18 : decode cX2_noteValue 18 = .ok (.invokestatic 30, 3) := by decide +kernel
theorem dX2_noteValue_21 : decode cX2_noteValue 21 = .ok (.putfield 24, 3) := by decide +kernel
theorem dX2_noteValue_24 : decode cX2_noteValue 24 = .ok (.aload_n 0, 1) := by decide +kernel
theorem dX2_noteValue_25 : decode cX2_noteValue 25 = .ok (.aload_n 0, 1) := by decide +kernel
theorem dX2_noteValue_26 : decode cX2_noteValue 26 = .ok (.getfield 27, 3) := by decide +kernel
theorem dX2_noteValue_29 : decode cX2_noteValue 29 = .ok (.iload_n 1, 1) := by decide +kernel
theorem dX2_noteValue_30 : decode cX2_noteValue 30 = .ok (.invokestatic 36, 3) := by decide +kernel
theorem dX2_noteValue_33 : decode cX2_noteValue 33 = .ok (.putfield 27, 3) := by decide +kernel
theorem dX2_noteValue_36 : decode cX2_noteValue 36 = .ok (.return_, 1) := by decide +kernel
theorem dX2_valueBound_0 : decode cX2_valueBound 0 = .ok (.aload_n 0, 1) := by decide +kernel
theorem dX2_valueBound_1 : decode cX2_valueBound 1 = .ok (.getfield 18, 3) := by decide +kernel
theorem dX2_valueBound_4 : decode cX2_valueBound 4 = .ok (.ifCond .ne 8, 3) := by decide +kernel
theorem dX2_valueBound_7 : decode cX2_valueBound 7 = .ok (.aload_n 0, 1) := by decide +kernel
theorem dX2_valueBound_8 : decode cX2_valueBound 8 = .ok (.getfield 21, 3) := by decide +kernel
theorem dX2_valueBound_11 : decode cX2_valueBound 11 = .ok (.ireturn, 1) := by decide +kernel
theorem dX2_valueBound_12 : decode cX2_valueBound 12 = .ok (.iload_n 1, 1) := by decide +kernel
theorem dX2_valueBound_13 : decode cX2_valueBound 13 = .ok (.ifCond .eq 10, 3) := by decide +kernel
theorem dX2_valueBound_16 : decode cX2_valueBound 16 = .ok (.aload_n 0, 1) := by decide +kernel
theorem dX2_valueBound_17 : decode cX2_valueBound 17 = .ok (.getfield 27, 3) := by decide +kernel
theorem dX2_valueBound_20 : decode cX2_valueBound 20 = .ok (.goto 7, 3) := by decide +kernel
theorem dX2_valueBound_23 : decode cX2_valueBound 23 = .ok (.aload_n 0, 1) := by decide +kernel
theorem dX2_valueBound_24 : decode cX2_valueBound 24 = .ok (.getfield 24, 3) := by decide +kernel
theorem dX2_valueBound_27 : decode cX2_valueBound 27 = .ok (.ireturn, 1) := by decide +kernel
theorem dX3_init_0 : decode cX3_init 0 = .ok (.aload_n 0, 1) := by decide +kernel
theorem dX3_init_1 : decode cX3_init 1 = .ok (.invokespecial 3, 3) := by decide +kernel
theorem dX3_init_4 : decode cX3_init 4 = .ok (.aload_n 0, 1) := by decide +kernel
theorem dX3_init_5 : decode cX3_init 5 = .ok (.bipush 12, 2) := by decide +kernel
theorem dX3_init_7 : decode cX3_init 7 = .ok (.newarray .int, 2) := by decide +kernel
theorem dX3_init_9 : decode cX3_init 9 = .ok (.putfield 9, 3) := by decide +kernel
theorem dX3_init_12 : decode cX3_init 12 = .ok (.aload_n 0, 1) := by decide +kernel
theorem dX3_init_13 : decode cX3_init 13 = .ok (.sipush 144, 3) := by decide +kernel
theorem dX3_init_16 : decode cX3_init 16 = .ok (.newarray .int, 2) := by decide +kernel
theorem dX3_init_18 : decode cX3_init 18 = .ok (.putfield 15, 3) := by decide +kernel
theorem dX3_init_21 : decode cX3_init 21 = .ok (.aload_n 0, 1) := by decide +kernel
theorem dX3_init_22 : decode cX3_init 22 = .ok (.sipush 4096, 3) := by decide +kernel
theorem dX3_init_25 : decode cX3_init 25 = .ok (.newarray .int, 2) := by decide +kernel
theorem dX3_init_27 : decode cX3_init 27 = .ok (.putfield 18, 3) := by decide +kernel
theorem dX3_init_30 : decode cX3_init 30 = .ok (.aload_n 0, 1) := by decide +kernel
theorem dX3_init_31 : decode cX3_init 31 = .ok (.getfield 9, 3) := by decide +kernel
theorem dX3_init_34 : decode cX3_init 34 = .ok (.iconst (-1), 1) := by decide +kernel
theorem dX3_init_35 : decode cX3_init 35 = .ok (.invokestatic 21, 3) := by decide +kernel
theorem dX3_init_38 : decode cX3_init 38 = .ok (.return_, 1) := by decide +kernel
theorem dX3_forget_0 : decode cX3_forget 0 = .ok (.aload_n 0, 1) := by decide +kernel
theorem dX3_forget_1 : decode cX3_forget 1 = .ok (.getfield 9, 3) := by decide +kernel
theorem dX3_forget_4 : decode cX3_forget 4 = .ok (.iconst (-1), 1) := by decide +kernel
theorem dX3_forget_5 : decode cX3_forget 5 = .ok (.invokestatic 21, 3) := by decide +kernel
theorem dX3_forget_8 : decode cX3_forget 8 = .ok (.aload_n 0, 1) := by decide +kernel
theorem dX3_forget_9 : decode cX3_forget 9 = .ok (.iconst 0, 1) := by decide +kernel
theorem dX3_forget_10 : decode cX3_forget 10 = .ok (.putfield 27, 3) := by decide +kernel
theorem dX3_forget_13 : decode cX3_forget 13 = .ok (.aload_n 0, 1) := by decide +kernel
theorem dX3_forget_14 : decode cX3_forget 14 = .ok (.iconst 0, 1) := by decide +kernel
theorem dX3_forget_15 : decode cX3_forget 15 = .ok (.putfield 31, 3) := by decide +kernel
theorem dX3_forget_18 : decode cX3_forget 18 = .ok (.return_, 1) := by decide +kernel
theorem dX3_tell_0 : decode cX3_tell 0 = .ok (.iload_n 3, 1) := by decide +kernel
theorem dX3_tell_1 : decode cX3_tell 1 = .ok (.iconst 2, 1) := by decide +kernel
theorem dX3_tell_2 : decode cX3_tell 2 = .ok (.if_icmp .ne 8, 3) := by decide +kernel
theorem dX3_tell_5 : decode cX3_tell 5 = .ok (.bipush 17, 2) := by decide +kernel
theorem dX3_tell_7 : decode cX3_tell 7 = .ok (.goto 4, 3) := by decide +kernel
theorem dX3_tell_10 : decode cX3_tell 10 = .ok (.iload_n 3, 1) := by decide +kernel
theorem dX3_tell_11 : decode cX3_tell 11 = .ok (.istore 4, 2) := by decide +kernel
theorem dX3_tell_13 : decode cX3_tell 13 = .ok (.aload_n 0, 1) := by decide +kernel
theorem dX3_tell_14 : decode cX3_tell 14 = .ok (.getfield 15, 3) := by decide +kernel
theorem dX3_tell_17 : decode cX3_tell 17 = .ok (.iload_n 1, 1) := by decide +kernel
theorem dX3_tell_18 : decode cX3_tell 18 = .ok (.bipush 12, 2) := by decide +kernel
theorem dX3_tell_20 : decode cX3_tell 20 = .ok (.imul, 1) := by decide +kernel
theorem dX3_tell_21 : decode cX3_tell 21 = .ok (.iload_n 2, 1) := by decide +kernel
theorem dX3_tell_22 : decode cX3_tell 22 = .ok (.iadd, 1) := by decide +kernel
theorem dX3_tell_23 : decode cX3_tell 23 = .ok (.iload 4, 2) := by decide +kernel
theorem dX3_tell_25 : decode cX3_tell 25 = .ok (.iastore, 1) := by decide +kernel
theorem dX3_tell_26 : decode cX3_tell 26 = .ok (.return_, 1) := by decide +kernel
theorem dX3_pairUp_0 : decode cX3_pairUp 0 = .ok (.aload_n 0, 1) := by decide +kernel
theorem dX3_pairUp_1 : decode cX3_pairUp 1 = .ok (.invokevirtual 34, 3) := by decide +kernel
theorem dX3_pairUp_4 : decode cX3_pairUp 4 = .ok (.iload_n 1, 1) := by decide +kernel
theorem dX3_pairUp_5 : decode cX3_pairUp 5 = .ok (.bipush 12, 2) := by decide +kernel
theorem dX3_pairUp_7 : decode cX3_pairUp 7 = .ok (.invokestatic 37, 3) := by decide +kernel
theorem dX3_pairUp_10 : decode cX3_pairUp 10 = .ok (.istore_n 2, 1) := by decide +kernel
theorem dX3_pairUp_11 : decode cX3_pairUp 11 = .ok (.iconst 1, 1) := by decide +kernel
theorem dX3_pairUp_12 : decode cX3_pairUp 12 = .ok (.iload_n 2, 1) := by decide +kernel
theorem dX3_pairUp_13 : decode cX3_pairUp 13 = .ok (.ishl, 1) := by decide +kernel
theorem dX3_pairUp_14 : decode cX3_pairUp 14 = .ok (.istore_n 3, 1) := by decide +kernel
theorem dX3_pairUp_15 : decode cX3_pairUp 15 = .ok (.aload_n 0, 1) := by decide +kernel
theorem dX3_pairUp_16 : decode cX3_pairUp 16 = .ok (.getfield 18, 3) := by decide +kernel
theorem dX3_pairUp_19 : decode cX3_pairUp 19 = .ok (.iconst 0, 1) := by decide +kernel
theorem dX3_pairUp_20 : decode cX3_pairUp 20 = .ok (.iconst 0, 1) := by decide +kernel
theorem dX3_pairUp_21 : decode cX3_pairUp 21 = .ok (.iastore, 1) := by decide +kernel
theorem dX3_pairUp_22 : decode cX3_pairUp 22 = .ok (.iload_n 2, 1) := by decide +kernel
theorem dX3_pairUp_23 : decode cX3_pairUp 23 = .ok (.iconst 1, 1) := by decide +kernel
theorem dX3_pairUp_24 : decode cX3_pairUp 24 = .ok (.isub, 1) := by decide +kernel
theorem dX3_pairUp_25 : decode cX3_pairUp 25 = .ok (.istore 4, 2) := by decide +kernel
theorem dX3_pairUp_27 : decode cX3_pairUp 27 = .ok (.iload 4, 2) := by decide +kernel
theorem dX3_pairUp_29 : decode cX3_pairUp 29 = .ok (.ifCond .lt 49, 3) := by decide +kernel
theorem dX3_pairUp_32 : decode cX3_pairUp 32 = .ok (.iconst 1, 1) := by decide +kernel
theorem dX3_pairUp_33 : decode cX3_pairUp 33 = .ok (.iload 4, 2) := by decide +kernel
theorem dX3_pairUp_35 : decode cX3_pairUp 35 = .ok (.ishl, 1) := by decide +kernel
theorem dX3_pairUp_36 : decode cX3_pairUp 36 = .ok (.istore 5, 2) := by decide +kernel
theorem dX3_pairUp_38 : decode cX3_pairUp 38 = .ok (.iload 5, 2) := by decide +kernel
theorem dX3_pairUp_40 : decode cX3_pairUp 40 = .ok (.iload_n 3, 1) := by decide +kernel
theorem dX3_pairUp_41 : decode cX3_pairUp 41 = .ok (.if_icmp .ge 31, 3) := by decide +kernel
theorem dX3_pairUp_44 : decode cX3_pairUp 44 = .ok (.aload_n 0, 1) := by decide +kernel
theorem dX3_pairUp_45 : decode cX3_pairUp 45 = .ok (.getfield 18, 3) := by decide +kernel
theorem dX3_pairUp_48 : decode cX3_pairUp 48 = .ok (.iload 5, 2) := by decide +kernel
theorem dX3_pairUp_50 : decode cX3_pairUp 50 = .ok (.aload_n 0, 1) := by decide +kernel
theorem dX3_pairUp_51 : decode cX3_pairUp 51 = .ok (.iload 5, 2) := by decide +kernel
theorem dX3_pairUp_53 : decode cX3_pairUp 53 = .ok (.iload 4, 2) := by decide +kernel
theorem dX3_pairUp_55 : decode cX3_pairUp 55 = .ok (.iload_n 2, 1) := by decide +kernel
theorem dX3_pairUp_56 : decode cX3_pairUp 56 = .ok (.invokevirtual 43, 3) := by decide +kernel
theorem dX3_pairUp_59 : decode cX3_pairUp 59 = .ok (.iastore, 1) := by decide +kernel
theorem dX3_pairUp_60 : decode cX3_pairUp 60 = .ok (.iload 5, 2) := by decide +kernel
theorem dX3_pairUp_62 : decode cX3_pairUp 62 = .ok (.iconst 2, 1) := by decide +kernel
theorem dX3_pairUp_63 : decode cX3_pairUp 63 = .ok (.iload 4, 2) := by decide +kernel
theorem dX3_pairUp_65 : decode cX3_pairUp 65 = .ok (.ishl, 1) := by decide +kernel
theorem dX3_pairUp_66 : decode cX3_pairUp 66 = .ok (.iadd, 1) := by decide +kernel
theorem dX3_pairUp_67 : decode cX3_pairUp 67 = .ok (.istore 5, 2) := by decide +kernel
theorem dX3_pairUp_69 : decode cX3_pairUp 69 = .ok (.goto (-31), 3) := by decide +kernel
theorem dX3_pairUp_72 : decode cX3_pairUp 72 = .ok (.iinc 4 (-1), 3) := by decide +kernel
theorem dX3_pairUp_75 : decode cX3_pairUp 75 = .ok (.goto (-48), 3) := by decide +kernel
theorem dX3_pairUp_78 : decode cX3_pairUp 78 = .ok (.iload_n 3, 1) := by decide +kernel
theorem dX3_pairUp_79 : decode cX3_pairUp 79 = .ok (.iconst 1, 1) := by decide +kernel
theorem dX3_pairUp_80 : decode cX3_pairUp 80 = .ok (.isub, 1) := by decide +kernel
theorem dX3_pairUp_81 : decode cX3_pairUp 81 = .ok (.istore 4, 2) := by decide +kernel
theorem dX3_pairUp_83 : decode cX3_pairUp 83 = .ok (.iconst 0, 1) := by decide +kernel
theorem dX3_pairUp_84 : decode cX3_pairUp 84 = .ok (.istore 5, 2) := by decide +kernel
theorem dX3_pairUp_86 : decode cX3_pairUp 86 = .ok (.iload 5, 2) := by decide +kernel
theorem dX3_pairUp_88 : decode cX3_pairUp 88 = .ok (.iload_n 2, 1) := by decide +kernel
theorem dX3_pairUp_89 : decode cX3_pairUp 89 = .ok (.if_icmp .ge 30, 3) := by decide +kernel
theorem dX3_pairUp_92 : decode cX3_pairUp 92 = .ok (.iload 4, 2) := by decide +kernel
theorem dX3_pairUp_94 : decode cX3_pairUp 94 = .ok (.iload 5, 2) := by decide +kernel
theorem dX3_pairUp_96 : decode cX3_pairUp 96 = .ok (.ishr, 1) := by decide +kernel
theorem dX3_pairUp_97 : decode cX3_pairUp 97 = .ok (.iconst 1, 1) := by decide +kernel
theorem dX3_pairUp_98 : decode cX3_pairUp 98 = .ok (.iand, 1) := by decide +kernel
theorem dX3_pairUp_99 : decode cX3_pairUp 99 = .ok (.ifCond .eq 14, 3) := by decide +kernel
theorem dX3_pairUp_102 : decode cX3_pairUp 102 = .ok (.aload_n 0, 1) := by decide +kernel
theorem dX3_pairUp_103 : decode cX3_pairUp 103 = .ok (.iload 4, 2) := by decide +kernel
theorem dX3_pairUp_105 : decode cX3_pairUp 105 = .ok (.iload 5, 2) := by decide +kernel
theorem dX3_pairUp_107 : decode cX3_pairUp 107 = .ok (.iload_n 2, 1) := by decide +kernel
theorem dX3_pairUp_108 : decode cX3_pairUp 108 = .ok (.invokevirtual 47, 3) := by decide +kernel
theorem dX3_pairUp_111 : decode cX3_pairUp 111 = .ok (.istore 4, 2) := by decide +kernel
theorem dX3_pairUp_113 : decode cX3_pairUp 113 = .ok (.iinc 5 1, 3) := by decide +kernel
theorem dX3_pairUp_116 : decode cX3_pairUp 116 = .ok (.goto (-30), 3) := by decide +kernel
theorem dX3_pairUp_119 : decode cX3_pairUp 119 = .ok (.return_, 1) := by decide +kernel
theorem dX3_bestOf_0 : decode cX3_bestOf 0 = .ok (.iload_n 1, 1) := by decide +kernel
theorem dX3_bestOf_1 : decode cX3_bestOf 1 = .ok (.iconst 1, 1) := by decide +kernel
theorem dX3_bestOf_2 : decode cX3_bestOf 2 = .ok (.iload_n 2, 1) := by decide +kernel
theorem dX3_bestOf_3 : decode cX3_bestOf 3 = .ok (.ishl, 1) := by decide +kernel
theorem dX3_bestOf_4 : decode cX3_bestOf 4 = .ok (.iconst (-1), 1) := by decide +kernel
theorem dX3_bestOf_5 : decode cX3_bestOf 5 = .ok (.ixor, 1) := by decide +kernel
theorem dX3_bestOf_6 : decode cX3_bestOf 6 = .ok (.iand, 1) := by decide +kernel
theorem dX3_bestOf_7 : decode cX3_bestOf 7 = .ok (.istore 4, 2) := by decide +kernel
theorem dX3_bestOf_9 : decode cX3_bestOf 9 = .ok (.aload_n 0, 1) := by decide +kernel
theorem dX3_bestOf_10 : decode cX3_bestOf 10 = .ok (.getfield 18, 3) := by decide +kernel
theorem dX3_bestOf_13 : decode cX3_bestOf 13 = .ok (.iload 4, 2) := by decide +kernel
theorem dX3_bestOf_15 : decode cX3_bestOf 15 = .ok (.iaload, 1) := by decide +kernel
theorem dX3_bestOf_16 : decode cX3_bestOf 16 = .ok (.istore 5, 2) := by decide +kernel
theorem dX3_bestOf_18 : decode cX3_bestOf 18 = .ok (.iload_n 2, 1) := by decide +kernel
theorem dX3_bestOf_19 : decode cX3_bestOf 19 = .ok (.iconst 1, 1) := by decide +kernel
theorem dX3_bestOf_20 : decode cX3_bestOf 20 = .ok (.iadd, 1) := by decide +kernel
theorem dX3_bestOf_21 : decode cX3_bestOf 21 = .ok (.istore 6, 2) := by decide +kernel
theorem dX3_bestOf_23 : decode cX3_bestOf 23 = .ok (.iload 6, 2) := by decide +kernel
theorem dX3_bestOf_25 : decode cX3_bestOf 25 = .ok (.iload_n 3, 1) := by decide +kernel
theorem dX3_bestOf_26 : decode cX3_bestOf 26 = .ok (.if_icmp .ge 61, 3) := by decide +kernel
theorem dX3_bestOf_29 : decode cX3_bestOf 29 = .ok (.aload_n 0, 1) := by decide +kernel
theorem dX3_bestOf_30 : decode cX3_bestOf 30 = .ok (.getfield 15, 3) := by decide +kernel
theorem dX3_bestOf_33 : decode cX3_bestOf 33 = .ok (.iload_n 2, 1) := by decide +kernel
theorem dX3_bestOf_34 : decode cX3_bestOf 34 = .ok (.bipush 12, 2) := by decide +kernel
theorem dX3_bestOf_36 : decode cX3_bestOf 36 = .ok (.imul, 1) := by decide +kernel
theorem dX3_bestOf_37 : decode cX3_bestOf 37 = .ok (.iload 6, 2) := by decide +kernel
theorem dX3_bestOf_39 : decode cX3_bestOf 39 = .ok (.iadd, 1) := by decide +kernel
theorem dX3_bestOf_40 : decode cX3_bestOf 40 = .ok (.iaload, 1) := by decide +kernel
theorem dX3_bestOf_41 : decode cX3_bestOf 41 = .ok (.istore 7, 2) := by decide +kernel
theorem dX3_bestOf_43 : decode cX3_bestOf 43 = .ok (.iload_n 1, 1) := by decide +kernel
theorem dX3_bestOf_44 : decode cX3_bestOf 44 = .ok (.iload 6, 2) := by decide +kernel
theorem dX3_bestOf_46 : decode cX3_bestOf 46 = .ok (.ishr, 1) := by decide +kernel
theorem dX3_bestOf_47 : decode cX3_bestOf 47 = .ok (.iconst 1, 1) := by decide +kernel
theorem dX3_bestOf_48 : decode cX3_bestOf 48 = .ok (.iand, 1) := by decide +kernel
theorem dX3_bestOf_49 : decode cX3_bestOf 49 = .ok (.ifCond .eq 32, 3) := by decide +kernel
theorem dX3_bestOf_52 : decode cX3_bestOf 52 = .ok (.iload 7, 2) := by decide +kernel
theorem dX3_bestOf_54 : decode cX3_bestOf 54 = .ok (.ifCond .le 27, 3) := by decide +kernel
theorem dX3_bestOf_57 : decode cX3_bestOf 57 = .ok (.iload 5, 2) := by decide +kernel
theorem dX3_bestOf_59 : decode cX3_bestOf 59 = .ok (.iload 7, 2) := by decide +kernel
theorem dX3_bestOf_61 : decode cX3_bestOf 61 = .ok (.aload_n 0, 1) := by decide +kernel
theorem dX3_bestOf_62 : decode cX3_bestOf 62 = .ok (.getfield 18, 3) := by decide +kernel
theorem dX3_bestOf_65 : decode cX3_bestOf 65 = .ok (.iload 4, 2) := by decide +kernel
theorem dX3_bestOf_67 : decode cX3_bestOf 67 = .ok (.iconst 1, 1) := by decide +kernel
theorem dX3_bestOf_68 : decode cX3_bestOf 68 = .ok (.iload 6, 2) := by decide +kernel
theorem dX3_bestOf_70 : decode cX3_bestOf 70 = .ok (.ishl, 1) := by decide +kernel
theorem dX3_bestOf_71 : decode cX3_bestOf 71 = .ok (.iconst (-1), 1) := by decide +kernel
theorem dX3_bestOf_72 : decode cX3_bestOf 72 = .ok (.ixor, 1) := by decide +kernel
theorem dX3_bestOf_73 : decode cX3_bestOf 73 = .ok (.iand, 1) := by decide +kernel
theorem dX3_bestOf_74 : decode cX3_bestOf 74 = .ok (.iaload, 1) := by decide +kernel
theorem dX3_bestOf_75 : decode cX3_bestOf 75 = .ok (.iadd, 1) := by decide +kernel
theorem dX3_bestOf_76 : decode cX3_bestOf 76 = .ok (.invokestatic 50, 3) := by decide +kernel
theorem dX3_bestOf_79 : decode cX3_bestOf 79 = .ok (.istore 5, 2) := by decide +kernel
theorem dX3_bestOf_81 : decode cX3_bestOf 81 = .ok (.iinc 6 1, 3) := by decide +kernel
theorem dX3_bestOf_84 : decode cX3_bestOf 84 = .ok (.goto (-61), 3) := by decide +kernel
theorem dX3_bestOf_87 : decode cX3_bestOf 87 = .ok (.iload 5, 2) := by decide +kernel
theorem dX3_bestOf_89 : decode cX3_bestOf 89 = .ok (.ireturn, 1) := by decide +kernel
theorem dX3_pairOff_0 : decode cX3_pairOff 0 = .ok (.iload_n 1, 1) := by decide +kernel
theorem dX3_pairOff_1 : decode cX3_pairOff 1 = .ok (.iconst 1, 1) := by decide +kernel
theorem dX3_pairOff_2 : decode cX3_pairOff 2 = .ok (.iload_n 2, 1) := by decide +kernel
theorem dX3_pairOff_3 : decode cX3_pairOff 3 = .ok (.ishl, 1) := by decide +kernel
theorem dX3_pairOff_4 : decode cX3_pairOff 4 = .ok (.iconst (-1), 1) := by decide +kernel
theorem dX3_pairOff_5 : decode cX3_pairOff 5 = .ok (.ixor, 1) := by decide +kernel
theorem dX3_pairOff_6 : decode cX3_pairOff 6 = .ok (.iand, 1) := by decide +kernel
theorem dX3_pairOff_7 : decode cX3_pairOff 7 = .ok (.istore 4, 2) := by decide +kernel
theorem dX3_pairOff_9 : decode cX3_pairOff 9 = .ok (.iload_n 2, 1) := by decide +kernel
theorem dX3_pairOff_10 : decode cX3_pairOff 10 = .ok (.iconst 1, 1) := by decide +kernel
theorem dX3_pairOff_11 : decode cX3_pairOff 11 = .ok (.iadd, 1) := by decide +kernel
theorem dX3_pairOff_12 : decode cX3_pairOff 12 = .ok (.istore 5, 2) := by decide +kernel
theorem dX3_pairOff_14 : decode cX3_pairOff 14 = .ok (.iload 5, 2) := by decide +kernel
theorem dX3_pairOff_16 : decode cX3_pairOff 16 = .ok (.iload_n 3, 1) := by decide +kernel
theorem dX3_pairOff_17 : decode cX3_pairOff 17 = .ok (.if_icmp .ge 115, 3) := by decide +kernel
theorem dX3_pairOff_20 : decode cX3_pairOff 20 = .ok (.aload_n 0, 1) := by decide +kernel
theorem dX3_pairOff_21 : decode cX3_pairOff 21 = .ok (.getfield 15, 3) := by decide +kernel
theorem dX3_pairOff_24 : decode cX3_pairOff 24 = .ok (.iload_n 2, 1) := by decide +kernel
theorem dX3_pairOff_25 : decode cX3_pairOff 25 = .ok (.bipush 12, 2) := by decide +kernel
theorem dX3_pairOff_27 : decode cX3_pairOff 27 = .ok (.imul, 1) := by decide +kernel
theorem dX3_pairOff_28 : decode cX3_pairOff 28 = .ok (.iload 5, 2) := by decide +kernel
theorem dX3_pairOff_30 : decode cX3_pairOff 30 = .ok (.iadd, 1) := by decide +kernel
theorem dX3_pairOff_31 : decode cX3_pairOff 31 = .ok (.iaload, 1) := by decide +kernel
theorem dX3_pairOff_32 : decode cX3_pairOff 32 = .ok (.istore 6, 2) := by decide +kernel
theorem dX3_pairOff_34 : decode cX3_pairOff 34 = .ok (.iload 4, 2) := by decide +kernel
theorem dX3_pairOff_36 : decode cX3_pairOff 36 = .ok (.iconst 1, 1) := by decide +kernel
theorem dX3_pairOff_37 : decode cX3_pairOff 37 = .ok (.iload 5, 2) := by decide +kernel
theorem dX3_pairOff_39 : decode cX3_pairOff 39 = .ok (.ishl, 1) := by decide +kernel
theorem dX3_pairOff_40 : decode cX3_pairOff 40 = .ok (.iconst (-1), 1) := by decide +kernel
theorem dX3_pairOff_41 : decode cX3_pairOff 41 = .ok (.ixor, 1) := by decide +kernel
theorem dX3_pairOff_42 : decode cX3_pairOff 42 = .ok (.iand, 1) := by decide +kernel
theorem dX3_pairOff_43 : decode cX3_pairOff 43 = .ok (.istore 7, 2) := by decide +kernel
theorem dX3_pairOff_45 : decode cX3_pairOff 45 = .ok (.iload 7, 2) := by decide +kernel
theorem dX3_pairOff_47 : decode cX3_pairOff 47 = .ok (.iload 4, 2) := by decide +kernel
theorem dX3_pairOff_49 : decode cX3_pairOff 49 = .ok (.if_icmp .eq 77, 3) := by decide +kernel
theorem dX3_pairOff_52 : decode cX3_pairOff 52 = .ok (.iload 6, 2) := by decide +kernel
theorem dX3_pairOff_54 : decode cX3_pairOff 54 = .ok (.ifCond .le 72, 3) := by decide +kernel
theorem dX3_pairOff_57 : decode cX3_pairOff 57 = .ok (.iload 6, 2) := by decide +kernel
theorem dX3_pairOff_59 : decode cX3_pairOff 59 = .ok (.aload_n 0, 1) := by decide +kernel
theorem dX3_pairOff_60 : decode cX3_pairOff 60 = .ok (.getfield 18, 3) := by decide +kernel
theorem dX3_pairOff_63 : decode cX3_pairOff 63 = .ok (.iload 7, 2) := by decide +kernel
theorem dX3_pairOff_65 : decode cX3_pairOff 65 = .ok (.iaload, 1) := by decide +kernel
theorem dX3_pairOff_66 : decode cX3_pairOff 66 = .ok (.iadd, 1) := by decide +kernel
theorem dX3_pairOff_67 : decode cX3_pairOff 67 = .ok (.aload_n 0, 1) := by decide +kernel
theorem dX3_pairOff_68 : decode cX3_pairOff 68 = .ok (.getfield 18, 3) := by decide +kernel
theorem dX3_pairOff_71 : decode cX3_pairOff 71 = .ok (.iload_n 1, 1) := by decide +kernel
theorem dX3_pairOff_72 : decode cX3_pairOff 72 = .ok (.iaload, 1) := by decide +kernel
theorem dX3_pairOff_73 : decode cX3_pairOff 73 = .ok (.if_icmp .ne 53, 3) := by decide +kernel
theorem dX3_pairOff_76 : decode cX3_pairOff 76 = .ok (.aload_n 0, 1) := by decide +kernel
theorem dX3_pairOff_77 : decode cX3_pairOff 77 = .ok (.getfield 9, 3) := by decide +kernel
theorem dX3_pairOff_80 : decode cX3_pairOff 80 = .ok (.iload_n 2, 1) := by decide +kernel
theorem dX3_pairOff_81 : decode cX3_pairOff 81 = .ok (.iload 5, 2) := by decide +kernel
theorem dX3_pairOff_83 : decode cX3_pairOff 83 = .ok (.iastore, 1) := by decide +kernel
theorem dX3_pairOff_84 : decode cX3_pairOff 84 = .ok (.aload_n 0, 1) := by decide +kernel
theorem dX3_pairOff_85 : decode cX3_pairOff 85 = .ok (.getfield 9, 3) := by decide +kernel
theorem dX3_pairOff_88 : decode cX3_pairOff 88 = .ok (.iload 5, 2) := by decide +kernel
theorem dX3_pairOff_90 : decode cX3_pairOff 90 = .ok (.iload_n 2, 1) := by decide +kernel
theorem dX3_pairOff_91 : decode cX3_pairOff 91 = .ok (.iastore, 1) := by decide +kernel
theorem dX3_pairOff_92 : decode cX3_pairOff 92 = .ok (.aload_n 0, 1) := by decide +kernel
theorem dX3_pairOff_93 : decode cX3_pairOff 93 = .ok (.dup, 1) := by decide +kernel
theorem dX3_pairOff_94 : decode cX3_pairOff 94 = .ok (.getfield 27, 3) := by decide +kernel
theorem dX3_pairOff_97 : decode cX3_pairOff 97 = .ok (.iconst 1, 1) := by decide +kernel
theorem dX3_pairOff_98 : decode cX3_pairOff 98 = .ok (.iadd, 1) := by decide +kernel
theorem dX3_pairOff_99 : decode cX3_pairOff 99 = .ok (.putfield 27, 3) := by decide +kernel
theorem dX3_pairOff_102 : decode cX3_pairOff 102 = .ok (.aload_n 0, 1) := by decide +kernel
theorem dX3_pairOff_103 : decode cX3_pairOff 103 = .ok (.dup, 1) := by decide +kernel
theorem dX3_pairOff_104 : decode cX3_pairOff 104 = .ok (.getfield 31, 3) := by decide +kernel
theorem dX3_pairOff_107 : decode cX3_pairOff 107 = .ok (.iload 6, 2) := by decide +kernel
theorem dX3_pairOff_109 : decode cX3_pairOff 109 = .ok (.bipush 16, 2) := by decide +kernel
theorem dX3_pairOff_111 : decode cX3_pairOff 111 = .ok (.if_icmp .le 7, 3) := by decide +kernel
theorem dX3_pairOff_114 : decode cX3_pairOff 114 = .ok (.iconst 1, 1) := by decide +kernel
theorem dX3_pairOff_115 : decode cX3_pairOff 115 = .ok (.goto 4, 3) := by decide +kernel
theorem dX3_pairOff_118 : decode cX3_pairOff 118 = .ok (.iconst 0, 1) := by decide +kernel
theorem dX3_pairOff_119 : decode cX3_pairOff 119 = .ok (.iadd, 1) := by decide +kernel
theorem dX3_pairOff_120 : decode cX3_pairOff 120 = .ok (.putfield 31, 3) := by decide +kernel
theorem dX3_pairOff_123 : decode cX3_pairOff 123 = .ok (.iload 7, 2) := by decide +kernel
theorem dX3_pairOff_125 : decode cX3_pairOff 125 = .ok (.ireturn, 1) := by decide +kernel
theorem dX3_pairOff_126 : decode cX3_pairOff 126 = .ok (.iinc 5 1, 3) := by decide +kernel
theorem dX3_pairOff_129 : decode cX3_pairOff 129 = .ok (.goto (-115), 3) := by decide +kernel
theorem dX3_pairOff_132 : decode cX3_pairOff 132 = .ok (.iload 4, 2) := by decide +kernel
theorem dX3_pairOff_134 : decode cX3_pairOff 134 = .ok (.ireturn, 1) := by decide +kernel
theorem dX4_init_0 : decode cX4_init 0 = .ok (.aload_n 0, 1) := by decide +kernel
theorem dX4_init_1 : decode cX4_init 1 = .ok (.invokespecial 3, 3) := by decide +kernel
theorem dX4_init_4 : decode cX4_init 4 = .ok (.aload_n 0, 1) := by decide +kernel
theorem dX4_init_5 : decode cX4_init 5 = .ok (.iconst 5, 1) := by decide +kernel
theorem dX4_init_6 : decode cX4_init 6 = .ok (.bipush 12, 2) := by decide +kernel
theorem dX4_init_8 : decode cX4_init 8 = .ok (.multianewarray 9 2, 4) := by decide +kernel
theorem dX4_init_12 : decode cX4_init 12 = .ok (.putfield 11, 3) := by decide +kernel
theorem dX4_init_15 : decode cX4_init 15 = .ok (.aload_n 0, 1) := by decide +kernel
theorem dX4_init_16 : decode cX4_init 16 = .ok (.iconst 4, 1) := by decide +kernel
theorem dX4_init_17 : decode cX4_init 17 = .ok (.bipush 12, 2) := by decide +kernel
theorem dX4_init_19 : decode cX4_init 19 = .ok (.multianewarray 9 2, 4) := by decide +kernel
theorem dX4_init_23 : decode cX4_init 23 = .ok (.putfield 16, 3) := by decide +kernel
theorem dX4_init_26 : decode cX4_init 26 = .ok (.aload_n 0, 1) := by decide +kernel
theorem dX4_init_27 : decode cX4_init 27 = .ok (.iconst 5, 1) := by decide +kernel
theorem dX4_init_28 : decode cX4_init 28 = .ok (.bipush 12, 2) := by decide +kernel
theorem dX4_init_30 : decode cX4_init 30 = .ok (.multianewarray 9 2, 4) := by decide +kernel
theorem dX4_init_34 : decode cX4_init 34 = .ok (.putfield 19, 3) := by decide +kernel
theorem dX4_init_37 : decode cX4_init 37 = .ok (.aload_n 0, 1) := by decide +kernel
theorem dX4_init_38 : decode cX4_init 38 = .ok (.iconst 5, 1) := by decide +kernel
theorem dX4_init_39 : decode cX4_init 39 = .ok (.bipush 12, 2) := by decide +kernel
theorem dX4_init_41 : decode cX4_init 41 = .ok (.multianewarray 9 2, 4) := by decide +kernel
theorem dX4_init_45 : decode cX4_init 45 = .ok (.putfield 22, 3) := by decide +kernel
theorem dX4_init_48 : decode cX4_init 48 = .ok (.aload_n 0, 1) := by decide +kernel
theorem dX4_init_49 : decode cX4_init 49 = .ok (.iconst 4, 1) := by decide +kernel
theorem dX4_init_50 : decode cX4_init 50 = .ok (.newarray .int, 2) := by decide +kernel
theorem dX4_init_52 : decode cX4_init 52 = .ok (.putfield 25, 3) := by decide +kernel
theorem dX4_init_55 : decode cX4_init 55 = .ok (.return_, 1) := by decide +kernel
theorem dX4_solve_0 : decode cX4_solve 0 = .ok (.aload_n 0, 1) := by decide +kernel
theorem dX4_solve_1 : decode cX4_solve 1 = .ok (.iload_n 2, 1) := by decide +kernel
theorem dX4_solve_2 : decode cX4_solve 2 = .ok (.putfield 29, 3) := by decide +kernel
theorem dX4_solve_5 : decode cX4_solve 5 = .ok (.aload_n 0, 1) := by decide +kernel
theorem dX4_solve_6 : decode cX4_solve 6 = .ok (.iconst 0, 1) := by decide +kernel
theorem dX4_solve_7 : decode cX4_solve 7 = .ok (.putfield 33, 3) := by decide +kernel
theorem dX4_solve_10 : decode cX4_solve 10 = .ok (.iconst 0, 1) := by decide +kernel
theorem dX4_solve_11 : decode cX4_solve 11 = .ok (.istore_n 3, 1) := by decide +kernel
theorem dX4_solve_12 : decode cX4_solve 12 = .ok (.iload_n 3, 1) := by decide +kernel
theorem dX4_solve_13 : decode cX4_solve 13 = .ok (.aload_n 1, 1) := by decide +kernel
theorem dX4_solve_14 : decode cX4_solve 14 = .ok (.getfield 37, 3) := by decide +kernel
theorem dX4_solve_17 : decode cX4_solve 17 = .ok (.if_icmp .ge 49, 3) := by decide +kernel
theorem dX4_solve_20 : decode cX4_solve 20 = .ok (.aload_n 1, 1) := by decide +kernel
theorem dX4_solve_21 : decode cX4_solve 21 = .ok (.getfield 42, 3) := by decide +kernel
theorem dX4_solve_24 : decode cX4_solve 24 = .ok (.iload_n 3, 1) := by decide +kernel
theorem dX4_solve_25 : decode cX4_solve 25 = .ok (.aaload, 1) := by decide +kernel
theorem dX4_solve_26 : decode cX4_solve 26 = .ok (.getfield 46, 3) := by decide +kernel
theorem dX4_solve_29 : decode cX4_solve 29 = .ok (.ifCond .eq 31, 3) := by decide +kernel
theorem dX4_solve_32 : decode cX4_solve 32 = .ok (.aload_n 0, 1) := by decide +kernel
theorem dX4_solve_33 : decode cX4_solve 33 = .ok (.aload_n 1, 1) := by decide +kernel
theorem dX4_solve_34 : decode cX4_solve 34 = .ok (.iload_n 3, 1) := by decide +kernel
theorem dX4_solve_35 : decode cX4_solve 35 = .ok (.aload_n 0, 1) := by decide +kernel
theorem dX4_solve_36 : decode cX4_solve 36 = .ok (.getfield 33, 3) := by decide +kernel
theorem dX4_solve_39 : decode cX4_solve 39 = .ok (.invokevirtual 51, 3) := by decide +kernel
theorem dX4_solve_42 : decode cX4_solve 42 = .ok (.aload_n 0, 1) := by decide +kernel
theorem dX4_solve_43 : decode cX4_solve 43 = .ok (.aload_n 0, 1) := by decide +kernel
theorem dX4_solve_44 : decode cX4_solve 44 = .ok (.getfield 33, 3) := by decide +kernel
theorem dX4_solve_47 : decode cX4_solve 47 = .ok (.invokevirtual 55, 3) := by decide +kernel
theorem dX4_solve_50 : decode cX4_solve 50 = .ok (.aload_n 0, 1) := by decide +kernel
theorem dX4_solve_51 : decode cX4_solve 51 = .ok (.dup, 1) := by decide +kernel
theorem dX4_solve_52 : decode cX4_solve 52 = .ok (.getfield 33, 3) := by decide +kernel
theorem dX4_solve_55 : decode cX4_solve 55 = .ok (.iconst 1, 1) := by decide +kernel
theorem dX4_solve_56 : decode cX4_solve 56 = .ok (.iadd, 1) := by decide +kernel
theorem dX4_solve_57 : decode cX4_solve 57 = .ok (.putfield 33, 3) := by decide +kernel
theorem dX4_solve_60 : decode cX4_solve 60 = .ok (.iinc 3 1, 3) := by decide +kernel
theorem dX4_solve_63 : decode cX4_solve 63 = .ok (.goto (-51), 3) := by decide +kernel
theorem dX4_solve_66 : decode cX4_solve 66 = .ok (.aload_n 0, 1) := by decide +kernel
theorem dX4_solve_67 : decode cX4_solve 67 = .ok (.iconst 0, 1) := by decide +kernel
theorem dX4_solve_68 : decode cX4_solve 68 = .ok (.invokevirtual 59, 3) := by decide +kernel
theorem dX4_solve_71 : decode cX4_solve 71 = .ok (.istore_n 3, 1) := by decide +kernel
theorem dX4_solve_72 : decode cX4_solve 72 = .ok (.aload_n 0, 1) := by decide +kernel
theorem dX4_solve_73 : decode cX4_solve 73 = .ok (.aload_n 1, 1) := by decide +kernel
theorem dX4_solve_74 : decode cX4_solve 74 = .ok (.iload_n 3, 1) := by decide +kernel
theorem dX4_solve_75 : decode cX4_solve 75 = .ok (.invokevirtual 63, 3) := by decide +kernel
theorem dX4_solve_78 : decode cX4_solve 78 = .ok (.ifCond .eq 10, 3) := by decide +kernel
theorem dX4_solve_81 : decode cX4_solve 81 = .ok (.aload_n 0, 1) := by decide +kernel
theorem dX4_solve_82 : decode cX4_solve 82 = .ok (.aload_n 1, 1) := by decide +kernel
theorem dX4_solve_83 : decode cX4_solve 83 = .ok (.iconst 0, 1) := by decide +kernel
theorem dX4_solve_84 : decode cX4_solve 84 = .ok (.iload_n 3, 1) := by decide +kernel
theorem dX4_solve_85 : decode cX4_solve 85 = .ok (.invokevirtual 67, 3) := by decide +kernel
theorem dX4_solve_88 : decode cX4_solve 88 = .ok (.return_, 1) := by decide +kernel
theorem dX4_weigh_0 : decode cX4_weigh 0 = .ok (.aload_n 0, 1) := by decide +kernel
theorem dX4_weigh_1 : decode cX4_weigh 1 = .ok (.getfield 11, 3) := by decide +kernel
theorem dX4_weigh_4 : decode cX4_weigh 4 = .ok (.iconst 0, 1) := by decide +kernel
theorem dX4_weigh_5 : decode cX4_weigh 5 = .ok (.aaload, 1) := by decide +kernel
theorem dX4_weigh_6 : decode cX4_weigh 6 = .ok (.iload_n 3, 1) := by decide +kernel
theorem dX4_weigh_7 : decode cX4_weigh 7 = .ok (.lconst 0, 1) := by decide +kernel
theorem dX4_weigh_8 : decode cX4_weigh 8 = .ok (.lastore, 1) := by decide +kernel
theorem dX4_weigh_9 : decode cX4_weigh 9 = .ok (.iconst 0, 1) := by decide +kernel
theorem dX4_weigh_10 : decode cX4_weigh 10 = .ok (.istore 4, 2) := by decide +kernel
theorem dX4_weigh_12 : decode cX4_weigh 12 = .ok (.iload 4, 2) := by decide +kernel
theorem dX4_weigh_14 : decode cX4_weigh 14 = .ok (.iconst 4, 1) := by decide +kernel
theorem dX4_weigh_15 : decode cX4_weigh 15 = .ok (.if_icmp .ge 19, 3) := by decide +kernel
theorem dX4_weigh_18 : decode cX4_weigh 18 = .ok (.aload_n 0, 1) := by decide +kernel
theorem dX4_weigh_19 : decode cX4_weigh 19 = .ok (.getfield 16, 3) := by decide +kernel
theorem dX4_weigh_22 : decode cX4_weigh 22 = .ok (.iload 4, 2) := by decide +kernel
theorem dX4_weigh_24 : decode cX4_weigh 24 = .ok (.aaload, 1) := by decide +kernel
theorem dX4_weigh_25 : decode cX4_weigh 25 = .ok (.iload_n 3, 1) := by decide +kernel
theorem dX4_weigh_26 : decode cX4_weigh 26 = .ok (.lconst 0, 1) := by decide +kernel
theorem dX4_weigh_27 : decode cX4_weigh 27 = .ok (.lastore, 1) := by decide +kernel
theorem dX4_weigh_28 : decode cX4_weigh 28 = .ok (.iinc 4 1, 3) := by decide +kernel
theorem dX4_weigh_31 : decode cX4_weigh 31 = .ok (.goto (-19), 3) := by decide +kernel
theorem dX4_weigh_34 : decode cX4_weigh 34 = .ok (.aload_n 1, 1) := by decide +kernel
theorem dX4_weigh_35 : decode cX4_weigh 35 = .ok (.getfield 42, 3) := by decide +kernel
theorem dX4_weigh_38 : decode cX4_weigh 38 = .ok (.iload_n 2, 1) := by decide +kernel
theorem dX4_weigh_39 : decode cX4_weigh 39 = .ok (.aaload, 1) := by decide +kernel
theorem dX4_weigh_40 : decode cX4_weigh 40 = .ok (.astore 4, 2) := by decide +kernel
theorem dX4_weigh_42 : decode cX4_weigh 42 = .ok (.aload_n 0, 1) := by decide +kernel
theorem dX4_weigh_43 : decode cX4_weigh 43 = .ok (.aload_n 1, 1) := by decide +kernel
theorem dX4_weigh_44 : decode cX4_weigh 44 = .ok (.iload_n 2, 1) := by decide +kernel
theorem dX4_weigh_45 : decode cX4_weigh 45 = .ok (.iload_n 3, 1) := by decide +kernel
theorem dX4_weigh_46 : decode cX4_weigh 46 = .ok (.iconst 1, 1) := by decide +kernel
theorem dX4_weigh_47 : decode cX4_weigh 47 = .ok (.invokevirtual 70, 3) := by decide +kernel
theorem dX4_weigh_50 : decode cX4_weigh 50 = .ok (.iload_n 2, 1) := by decide +kernel
theorem dX4_weigh_51 : decode cX4_weigh 51 = .ok (.iconst 1, 1) := by decide +kernel
theorem dX4_weigh_52 : decode cX4_weigh 52 = .ok (.isub, 1) := by decide +kernel
theorem dX4_weigh_53 : decode cX4_weigh 53 = .ok (.istore 5, 2) := by decide +kernel
theorem dX4_weigh_55 : decode cX4_weigh 55 = .ok (.iload 5, 2) := by decide +kernel
theorem dX4_weigh_57 : decode cX4_weigh 57 = .ok (.ifCond .lt 89, 3) := by decide +kernel
theorem dX4_weigh_60 : decode cX4_weigh 60 = .ok (.aload_n 1, 1) := by decide +kernel
theorem dX4_weigh_61 : decode cX4_weigh 61 = .ok (.getfield 42, 3) := by decide +kernel
theorem dX4_weigh_64 : decode cX4_weigh 64 = .ok (.iload 5, 2) := by decide +kernel
theorem dX4_weigh_66 : decode cX4_weigh 66 = .ok (.aaload, 1) := by decide +kernel
theorem dX4_weigh_67 : decode cX4_weigh 67 = .ok (.astore 6, 2) := by decide +kernel
theorem dX4_weigh_69 : decode cX4_weigh 69 = .ok (.aload 6, 2) := by decide +kernel
theorem dX4_weigh_71 : decode cX4_weigh 71 = .ok (.getfield 74, 3) := by decide +kernel
theorem dX4_weigh_74 : decode cX4_weigh 74 = .ok (.aload 4, 2) := by decide +kernel
theorem dX4_weigh_76 : decode cX4_weigh 76 = .ok (.getfield 74, 3) := by decide +kernel
theorem dX4_weigh_79 : decode cX4_weigh 79 = .ok (.if_icmp .ne 27, 3) := by decide +kernel
theorem dX4_weigh_82 : decode cX4_weigh 82 = .ok (.aload 6, 2) := by decide +kernel
theorem dX4_weigh_84 : decode cX4_weigh 84 = .ok (.getfield 46, 3) := by decide +kernel
theorem dX4_weigh_87 : decode cX4_weigh 87 = .ok (.aload 4, 2) := by decide +kernel
theorem dX4_weigh_89 : decode cX4_weigh 89 = .ok (.getfield 46, 3) := by decide +kernel
theorem dX4_weigh_92 : decode cX4_weigh 92 = .ok (.iconst 1, 1) := by decide +kernel
theorem dX4_weigh_93 : decode cX4_weigh 93 = .ok (.isub, 1) := by decide +kernel
theorem dX4_weigh_94 : decode cX4_weigh 94 = .ok (.if_icmp .ne 12, 3) := by decide +kernel
theorem dX4_weigh_97 : decode cX4_weigh 97 = .ok (.aload_n 0, 1) := by decide +kernel
theorem dX4_weigh_98 : decode cX4_weigh 98 = .ok (.aload_n 1, 1) := by decide +kernel
theorem dX4_weigh_99 : decode cX4_weigh 99 = .ok (.iload 5, 2) := by decide +kernel
theorem dX4_weigh_101 : decode cX4_weigh 101 = .ok (.iload_n 3, 1) := by decide +kernel
theorem dX4_weigh_102 : decode cX4_weigh 102 = .ok (.iconst (-1), 1) := by decide +kernel
theorem dX4_weigh_103 : decode cX4_weigh 103 = .ok (.invokevirtual 70, 3) := by decide +kernel
theorem dX4_weigh_106 : decode cX4_weigh 106 = .ok (.aload 6, 2) := by decide +kernel
theorem dX4_weigh_108 : decode cX4_weigh 108 = .ok (.getfield 74, 3) := by decide +kernel
theorem dX4_weigh_111 : decode cX4_weigh 111 = .ok (.aload 4, 2) := by decide +kernel
theorem dX4_weigh_113 : decode cX4_weigh 113 = .ok (.getfield 74, 3) := by decide +kernel
theorem dX4_weigh_116 : decode cX4_weigh 116 = .ok (.if_icmp .ne 24, 3) := by decide +kernel
theorem dX4_weigh_119 : decode cX4_weigh 119 = .ok (.aload 6, 2) := by decide +kernel
theorem dX4_weigh_121 : decode cX4_weigh 121 = .ok (.getfield 46, 3) := by decide +kernel
theorem dX4_weigh_124 : decode cX4_weigh 124 = .ok (.iconst 1, 1) := by decide +kernel
theorem dX4_weigh_125 : decode cX4_weigh 125 = .ok (.if_icmp .ne 15, 3) := by decide +kernel
theorem dX4_weigh_128 : decode cX4_weigh 128 = .ok (.aload 4, 2) := by decide +kernel
theorem dX4_weigh_130 : decode cX4_weigh 130 = .ok (.getfield 46, 3) := by decide +kernel
theorem dX4_weigh_133 : decode cX4_weigh 133 = .ok (.iconst 1, 1) := by decide +kernel
theorem dX4_weigh_134 : decode cX4_weigh 134 = .ok (.if_icmp .ne 6, 3) := by decide +kernel
theorem dX4_weigh_137 : decode cX4_weigh 137 = .ok (.goto 9, 3) := by decide +kernel
theorem dX4_weigh_140 : decode cX4_weigh 140 = .ok (.iinc 5 (-1), 3) := by decide +kernel
theorem dX4_weigh_143 : decode cX4_weigh 143 = .ok (.goto (-88), 3) := by decide +kernel
theorem dX4_weigh_146 : decode cX4_weigh 146 = .ok (.return_, 1) := by decide +kernel
theorem dX4_addPart_0 : decode cX4_addPart 0 = .ok (.aload_n 0, 1) := by decide +kernel
theorem dX4_addPart_1 : decode cX4_addPart 1 = .ok (.getfield 11, 3) := by decide +kernel
theorem dX4_addPart_4 : decode cX4_addPart 4 = .ok (.iconst 0, 1) := by decide +kernel
theorem dX4_addPart_5 : decode cX4_addPart 5 = .ok (.aaload, 1) := by decide +kernel
theorem dX4_addPart_6 : decode cX4_addPart 6 = .ok (.iload_n 3, 1) := by decide +kernel
theorem dX4_addPart_7 : decode cX4_addPart 7 = .ok (.dup2, 1) := by decide +kernel
theorem dX4_addPart_8 : decode cX4_addPart 8 = .ok (.laload, 1) := by decide +kernel
theorem dX4_addPart_9 : decode cX4_addPart 9 = .ok (.iload 4, 2) := by decide +kernel
theorem dX4_addPart_11 : decode cX4_addPart 11 = .ok (.i2l, 1) := by decide +kernel
theorem dX4_addPart_12 : decode cX4_addPart 12 = .ok (.aload_n 1, 1) := by decide +kernel
theorem dX4_addPart_13 : decode cX4_addPart 13 = .ok (.getfield 42, 3) := by decide +kernel
theorem dX4_addPart_16 : decode cX4_addPart 16 = .ok (.iload_n 2, 1) := by decide +kernel
theorem dX4_addPart_17 : decode cX4_addPart 17 = .ok (.aaload, 1) := by decide +kernel
theorem dX4_addPart_18 : decode cX4_addPart 18 = .ok (.getfield 77, 3) := by decide +kernel
theorem dX4_addPart_21 : decode cX4_addPart 21 = .ok (.i2l, 1) := by decide +kernel
theorem dX4_addPart_22 : decode cX4_addPart 22 = .ok (.lmul, 1) := by decide +kernel
theorem dX4_addPart_23 : decode cX4_addPart 23 = .ok (.ladd, 1) := by decide +kernel
theorem dX4_addPart_24 : decode cX4_addPart 24 = .ok (.lastore, 1) := by decide +kernel
theorem dX4_addPart_25 : decode cX4_addPart 25 = .ok (.iconst 0, 1) := by decide +kernel
theorem dX4_addPart_26 : decode cX4_addPart 26 = .ok (.istore 5, 2) := by decide +kernel
theorem dX4_addPart_28 : decode cX4_addPart 28 = .ok (.iload 5, 2) := by decide +kernel
theorem dX4_addPart_30 : decode cX4_addPart 30 = .ok (.aload_n 1, 1) := by decide +kernel
theorem dX4_addPart_31 : decode cX4_addPart 31 = .ok (.getfield 80, 3) := by decide +kernel
theorem dX4_addPart_34 : decode cX4_addPart 34 = .ok (.if_icmp .ge 47, 3) := by decide +kernel
theorem dX4_addPart_37 : decode cX4_addPart 37 = .ok (.aload_n 1, 1) := by decide +kernel
theorem dX4_addPart_38 : decode cX4_addPart 38 = .ok (.getfield 83, 3) := by decide +kernel
theorem dX4_addPart_41 : decode cX4_addPart 41 = .ok (.iload 5, 2) := by decide +kernel
theorem dX4_addPart_43 : decode cX4_addPart 43 = .ok (.aaload, 1) := by decide +kernel
theorem dX4_addPart_44 : decode cX4_addPart 44 = .ok (.getfield 87, 3) := by decide +kernel
theorem dX4_addPart_47 : decode cX4_addPart 47 = .ok (.iload_n 2, 1) := by decide +kernel
theorem dX4_addPart_48 : decode cX4_addPart 48 = .ok (.if_icmp .ne 27, 3) := by decide +kernel
theorem dX4_addPart_51 : decode cX4_addPart 51 = .ok (.aload_n 0, 1) := by decide +kernel
theorem dX4_addPart_52 : decode cX4_addPart 52 = .ok (.getfield 16, 3) := by decide +kernel
theorem dX4_addPart_55 : decode cX4_addPart 55 = .ok (.iload 5, 2) := by decide +kernel
theorem dX4_addPart_57 : decode cX4_addPart 57 = .ok (.aaload, 1) := by decide +kernel
theorem dX4_addPart_58 : decode cX4_addPart 58 = .ok (.iload_n 3, 1) := by decide +kernel
theorem dX4_addPart_59 : decode cX4_addPart 59 = .ok (.iload 4, 2) := by decide +kernel
theorem dX4_addPart_61 : decode cX4_addPart 61 = .ok (.i2l, 1) := by decide +kernel
theorem dX4_addPart_62 : decode cX4_addPart 62 = .ok (.aload_n 1, 1) := by decide +kernel
theorem dX4_addPart_63 : decode cX4_addPart 63 = .ok (.getfield 83, 3) := by decide +kernel
theorem dX4_addPart_66 : decode cX4_addPart 66 = .ok (.iload 5, 2) := by decide +kernel
theorem dX4_addPart_68 : decode cX4_addPart 68 = .ok (.aaload, 1) := by decide +kernel
theorem dX4_addPart_69 : decode cX4_addPart 69 = .ok (.getfield 92, 3) := by decide +kernel
theorem dX4_addPart_72 : decode cX4_addPart 72 = .ok (.i2l, 1) := by decide +kernel
theorem dX4_addPart_73 : decode cX4_addPart 73 = .ok (.lmul, 1) := by decide +kernel
theorem dX4_addPart_74 : decode cX4_addPart 74 = .ok (.lastore, 1) := by decide +kernel
theorem dX4_addPart_75 : decode cX4_addPart 75 = .ok (.iinc 5 1, 3) := by decide +kernel
theorem dX4_addPart_78 : decode cX4_addPart 78 = .ok (.goto (-50), 3) := by decide +kernel
theorem dX4_addPart_81 : decode cX4_addPart 81 = .ok (.return_, 1) := by decide +kernel
theorem dX4_measure_0 : decode cX4_measure 0 = .ok (.aload_n 0, 1) := by decide +kernel
theorem dX4_measure_1 : decode cX4_measure 1 = .ok (.getfield 19, 3) := by decide +kernel
theorem dX4_measure_4 : decode cX4_measure 4 = .ok (.iconst 4, 1) := by decide +kernel
theorem dX4_measure_5 : decode cX4_measure 5 = .ok (.aaload, 1) := by decide +kernel
theorem dX4_measure_6 : decode cX4_measure 6 = .ok (.iload_n 1, 1) := by decide +kernel
theorem dX4_measure_7 : decode cX4_measure 7 = .ok (.lconst 0, 1) := by decide +kernel
theorem dX4_measure_8 : decode cX4_measure 8 = .ok (.lastore, 1) := by decide +kernel
theorem dX4_measure_9 : decode cX4_measure 9 = .ok (.aload_n 0, 1) := by decide +kernel
theorem dX4_measure_10 : decode cX4_measure 10 = .ok (.getfield 22, 3) := by decide +kernel
theorem dX4_measure_13 : decode cX4_measure 13 = .ok (.iconst 4, 1) := by decide +kernel
theorem dX4_measure_14 : decode cX4_measure 14 = .ok (.aaload, 1) := by decide +kernel
theorem dX4_measure_15 : decode cX4_measure 15 = .ok (.iload_n 1, 1) := by decide +kernel
theorem dX4_measure_16 : decode cX4_measure 16 = .ok (.lconst 0, 1) := by decide +kernel
theorem dX4_measure_17 : decode cX4_measure 17 = .ok (.lastore, 1) := by decide +kernel
theorem dX4_measure_18 : decode cX4_measure 18 = .ok (.iconst 3, 1) := by decide +kernel
theorem dX4_measure_19 : decode cX4_measure 19 = .ok (.istore_n 2, 1) := by decide +kernel
theorem dX4_measure_20 : decode cX4_measure 20 = .ok (.iload_n 2, 1) := by decide +kernel
theorem dX4_measure_21 : decode cX4_measure 21 = .ok (.ifCond .lt 70, 3) := by decide +kernel
theorem dX4_measure_24 : decode cX4_measure 24 = .ok (.ldc2_w 95, 3) := by decide +kernel
theorem dX4_measure_27 : decode cX4_measure 27 = .ok (.aload_n 0, 1) := by decide +kernel
theorem dX4_measure_28 : decode cX4_measure 28 = .ok (.getfield 16, 3) := by decide +kernel
theorem dX4_measure_31 : decode cX4_measure 31 = .ok (.iload_n 2, 1) := by decide +kernel
theorem dX4_measure_32 : decode cX4_measure 32 = .ok (.aaload, 1) := by decide +kernel
theorem dX4_measure_33 : decode cX4_measure 33 = .ok (.iload_n 1, 1) := by decide +kernel
theorem dX4_measure_34 : decode cX4_measure 34 = .ok (.laload, 1) := by decide +kernel
theorem dX4_measure_35 : decode cX4_measure 35 = .ok (.lmul, 1) := by decide +kernel
theorem dX4_measure_36 : decode cX4_measure 36 = .ok (.lstore_n 3, 1) := by decide +kernel
theorem dX4_measure_37 : decode cX4_measure 37 = .ok (.aload_n 0, 1) := by decide +kernel
theorem dX4_measure_38 : decode cX4_measure 38 = .ok (.getfield 19, 3) := by decide +kernel
theorem dX4_measure_41 : decode cX4_measure 41 = .ok (.iload_n 2, 1) := by decide +kernel
theorem dX4_measure_42 : decode cX4_measure 42 = .ok (.aaload, 1) := by decide +kernel
theorem dX4_measure_43 : decode cX4_measure 43 = .ok (.iload_n 1, 1) := by decide +kernel
theorem dX4_measure_44 : decode cX4_measure 44 = .ok (.aload_n 0, 1) := by decide +kernel
theorem dX4_measure_45 : decode cX4_measure 45 = .ok (.getfield 19, 3) := by decide +kernel
theorem dX4_measure_48 : decode cX4_measure 48 = .ok (.iload_n 2, 1) := by decide +kernel
theorem dX4_measure_49 : decode cX4_measure 49 = .ok (.iconst 1, 1) := by decide +kernel
theorem dX4_measure_50 : decode cX4_measure 50 = .ok (.iadd, 1) := by decide +kernel
theorem dX4_measure_51 : decode cX4_measure 51 = .ok (.aaload, 1) := by decide +kernel
theorem dX4_measure_52 : decode cX4_measure 52 = .ok (.iload_n 1, 1) := by decide +kernel
theorem dX4_measure_53 : decode cX4_measure 53 = .ok (.laload, 1) := by decide +kernel
theorem dX4_measure_54 : decode cX4_measure 54 = .ok (.lconst 0, 1) := by decide +kernel
theorem dX4_measure_55 : decode cX4_measure 55 = .ok (.lload_n 3, 1) := by decide +kernel
theorem dX4_measure_56 : decode cX4_measure 56 = .ok (.invokestatic 97, 3) := by decide +kernel
theorem dX4_measure_59 : decode cX4_measure 59 = .ok (.ladd, 1) := by decide +kernel
theorem dX4_measure_60 : decode cX4_measure 60 = .ok (.lastore, 1) := by decide +kernel
theorem dX4_measure_61 : decode cX4_measure 61 = .ok (.aload_n 0, 1) := by decide +kernel
theorem dX4_measure_62 : decode cX4_measure 62 = .ok (.getfield 22, 3) := by decide +kernel
theorem dX4_measure_65 : decode cX4_measure 65 = .ok (.iload_n 2, 1) := by decide +kernel
theorem dX4_measure_66 : decode cX4_measure 66 = .ok (.aaload, 1) := by decide +kernel
theorem dX4_measure_67 : decode cX4_measure 67 = .ok (.iload_n 1, 1) := by decide +kernel
theorem dX4_measure_68 : decode cX4_measure 68 = .ok (.aload_n 0, 1) := by decide +kernel
theorem dX4_measure_69 : decode cX4_measure 69 = .ok (.getfield 22, 3) := by decide +kernel
theorem dX4_measure_72 : decode cX4_measure 72 = .ok (.iload_n 2, 1) := by decide +kernel
theorem dX4_measure_73 : decode cX4_measure 73 = .ok (.iconst 1, 1) := by decide +kernel
theorem dX4_measure_74 : decode cX4_measure 74 = .ok (.iadd, 1) := by decide +kernel
theorem dX4_measure_75 : decode cX4_measure 75 = .ok (.aaload, 1) := by decide +kernel
theorem dX4_measure_76 : decode cX4_measure 76 = .ok (.iload_n 1, 1) := by decide +kernel
theorem dX4_measure_77 : decode cX4_measure 77 = .ok (.laload, 1) := by decide +kernel
theorem dX4_measure_78 : decode cX4_measure 78 = .ok (.lconst 0, 1) := by decide +kernel
theorem dX4_measure_79 : decode cX4_measure 79 = .ok (.lload_n 3, 1) := by decide +kernel
theorem dX4_measure_80 : decode cX4_measure 80 = .ok (.invokestatic 103, 3) := by decide +kernel
theorem dX4_measure_83 : decode cX4_measure 83 = .ok (.ladd, 1) := by decide +kernel
theorem dX4_measure_84 : decode cX4_measure 84 = .ok (.lastore, 1) := by decide +kernel
theorem dX4_measure_85 : decode cX4_measure 85 = .ok (.iinc 2 (-1), 3) := by decide +kernel
theorem dX4_measure_88 : decode cX4_measure 88 = .ok (.goto (-68), 3) := by decide +kernel
theorem dX4_measure_91 : decode cX4_measure 91 = .ok (.return_, 1) := by decide +kernel
theorem dX4_missedWith_0 : decode cX4_missedWith 0 = .ok (.iconst 0, 1) := by decide +kernel
theorem dX4_missedWith_1 : decode cX4_missedWith 1 = .ok (.istore_n 2, 1) := by decide +kernel
theorem dX4_missedWith_2 : decode cX4_missedWith 2 = .ok (.iconst 0, 1) := by decide +kernel
theorem dX4_missedWith_3 : decode cX4_missedWith 3 = .ok (.istore_n 3, 1) := by decide +kernel
theorem dX4_missedWith_4 : decode cX4_missedWith 4 = .ok (.iload_n 3, 1) := by decide +kernel
theorem dX4_missedWith_5 : decode cX4_missedWith 5 = .ok (.aload_n 0, 1) := by decide +kernel
theorem dX4_missedWith_6 : decode cX4_missedWith 6 = .ok (.getfield 33, 3) := by decide +kernel
theorem dX4_missedWith_9 : decode cX4_missedWith 9 = .ok (.if_icmp .ge 54, 3) := by decide +kernel
theorem dX4_missedWith_12 : decode cX4_missedWith 12 = .ok (.aload_n 0, 1) := by decide +kernel
theorem dX4_missedWith_13 : decode cX4_missedWith 13 = .ok (.getfield 11, 3) := by decide +kernel
theorem dX4_missedWith_16 : decode cX4_missedWith 16 = .ok (.iload_n 1, 1) := by decide +kernel
theorem dX4_missedWith_17 : decode cX4_missedWith 17 = .ok (.aaload, 1) := by decide +kernel
theorem dX4_missedWith_18 : decode cX4_missedWith 18 = .ok (.iload_n 3, 1) := by decide +kernel
theorem dX4_missedWith_19 : decode cX4_missedWith 19 = .ok (.laload, 1) := by decide +kernel
theorem dX4_missedWith_20 : decode cX4_missedWith 20 = .ok (.lstore 4, 2) := by decide +kernel
theorem dX4_missedWith_22 : decode cX4_missedWith 22 = .ok (.lload 4, 2) := by decide +kernel
theorem dX4_missedWith_24 : decode cX4_missedWith 24 = .ok (.aload_n 0, 1) := by decide +kernel
theorem dX4_missedWith_25 : decode cX4_missedWith 25 = .ok (.getfield 19, 3) := by decide +kernel
theorem dX4_missedWith_28 : decode cX4_missedWith 28 = .ok (.iload_n 1, 1) := by decide +kernel
theorem dX4_missedWith_29 : decode cX4_missedWith 29 = .ok (.aaload, 1) := by decide +kernel
theorem dX4_missedWith_30 : decode cX4_missedWith 30 = .ok (.iload_n 3, 1) := by decide +kernel
theorem dX4_missedWith_31 : decode cX4_missedWith 31 = .ok (.laload, 1) := by decide +kernel
theorem dX4_missedWith_32 : decode cX4_missedWith 32 = .ok (.ladd, 1) := by decide +kernel
theorem dX4_missedWith_33 : decode cX4_missedWith 33 = .ok (.lconst 0, 1) := by decide +kernel
theorem dX4_missedWith_34 : decode cX4_missedWith 34 = .ok (.lcmp, 1) := by decide +kernel
theorem dX4_missedWith_35 : decode cX4_missedWith 35 = .ok (.ifCond .gt 19, 3) := by decide +kernel
theorem dX4_missedWith_38 : decode cX4_missedWith 38 = .ok (.lload 4, 2) := by decide +kernel
theorem dX4_missedWith_40 : decode cX4_missedWith 40 = .ok (.aload_n 0, 1) := by decide +kernel
theorem dX4_missedWith_41 : decode cX4_missedWith 41 = .ok (.getfield 22, 3) := by decide +kernel
theorem dX4_missedWith_44 : decode cX4_missedWith 44 = .ok (.iload_n 1, 1) := by decide +kernel
theorem dX4_missedWith_45 : decode cX4_missedWith 45 = .ok (.aaload, 1) := by decide +kernel
theorem dX4_missedWith_46 : decode cX4_missedWith 46 = .ok (.iload_n 3, 1) := by decide +kernel
theorem dX4_missedWith_47 : decode cX4_missedWith 47 = .ok (.laload, 1) := by decide +kernel
theorem dX4_missedWith_48 : decode cX4_missedWith 48 = .ok (.ladd, 1) := by decide +kernel
theorem dX4_missedWith_49 : decode cX4_missedWith 49 = .ok (.lconst 0, 1) := by decide +kernel
theorem dX4_missedWith_50 : decode cX4_missedWith 50 = .ok (.lcmp, 1) := by decide +kernel
theorem dX4_missedWith_51 : decode cX4_missedWith 51 = .ok (.ifCond .ge 6, 3) := by decide +kernel
theorem dX4_missedWith_54 : decode cX4_missedWith 54 = .ok (.iinc 2 1, 3) := by decide +kernel
theorem dX4_missedWith_57 : decode cX4_missedWith 57 = .ok (.iinc 3 1, 3) := by decide +kernel
theorem dX4_missedWith_60 : decode cX4_missedWith 60 = .ok (.goto (-56), 3) := by decide +kernel
theorem dX4_missedWith_63 : decode cX4_missedWith 63 = .ok (.iload_n 2, 1) := by decide +kernel
theorem dX4_missedWith_64 : decode cX4_missedWith 64 = .ok (.ireturn, 1) := by decide +kernel
theorem dX4_isWorthwhile_0 : decode cX4_isWorthwhile 0 = .ok (.aload_n 0, 1) := by decide +kernel
theorem dX4_isWorthwhile_1 : decode cX4_isWorthwhile 1 = .ok (.getfield 29, 3) := by decide +kernel
theorem dX4_isWorthwhile_4 : decode cX4_isWorthwhile 4 = .ok (.ifCond .eq 20, 3) := by decide +kernel
theorem dX4_isWorthwhile_7 : decode cX4_isWorthwhile 7 = .ok (.iload_n 2, 1) := by decide +kernel
theorem dX4_isWorthwhile_8 : decode cX4_isWorthwhile 8 = .ok (.ifCond .ne 14, 3) := by decide +kernel
theorem dX4_isWorthwhile_11 : decode cX4_isWorthwhile 11 = .ok (.aload_n 1, 1) := by decide +kernel
theorem dX4_isWorthwhile_12 : decode cX4_isWorthwhile 12 = .ok (.getfield 106, 3) := by decide +kernel
theorem dX4_isWorthwhile_15 : decode cX4_isWorthwhile 15 = .ok (.ifCond .ne 7, 3) := by decide +kernel
theorem dX4_isWorthwhile_18 : decode cX4_isWorthwhile 18 = .ok (.iconst 1, 1) := by decide +kernel
theorem dX4_isWorthwhile_19 : decode cX4_isWorthwhile 19 = .ok (.goto 4, 3) := by decide +kernel
theorem dX4_isWorthwhile_22 : decode cX4_isWorthwhile 22 = .ok (.iconst 0, 1) := by decide +kernel
theorem dX4_isWorthwhile_23 : decode cX4_isWorthwhile 23 = .ok (.ireturn, 1) := by decide +kernel
theorem dX4_isWorthwhile_24 : decode cX4_isWorthwhile 24 = .ok (.iload_n 2, 1) := by decide +kernel
theorem dX4_isWorthwhile_25 : decode cX4_isWorthwhile 25 = .ok (.ifCond .eq 11, 3) := by decide +kernel
theorem dX4_isWorthwhile_28 : decode cX4_isWorthwhile 28 = .ok (.iload_n 2, 1) := by decide +kernel
theorem dX4_isWorthwhile_29 : decode cX4_isWorthwhile 29 = .ok (.aload_n 1, 1) := by decide +kernel
theorem dX4_isWorthwhile_30 : decode cX4_isWorthwhile 30 = .ok (.getfield 109, 3) := by decide +kernel
theorem dX4_isWorthwhile_33 : decode cX4_isWorthwhile 33 = .ok (.if_icmp .ge 7, 3) := by decide +kernel
theorem dX4_isWorthwhile_36 : decode cX4_isWorthwhile 36 = .ok (.iconst 1, 1) := by decide +kernel
theorem dX4_isWorthwhile_37 : decode cX4_isWorthwhile 37 = .ok (.goto 4, 3) := by decide +kernel
theorem dX4_isWorthwhile_40 : decode cX4_isWorthwhile 40 = .ok (.iconst 0, 1) := by decide +kernel
theorem dX4_isWorthwhile_41 : decode cX4_isWorthwhile 41 = .ok (.ireturn, 1) := by decide +kernel
theorem dX4_fill_0 : decode cX4_fill 0 = .ok (.iload_n 2, 1) := by decide +kernel
theorem dX4_fill_1 : decode cX4_fill 1 = .ok (.aload_n 1, 1) := by decide +kernel
theorem dX4_fill_2 : decode cX4_fill 2 = .ok (.getfield 80, 3) := by decide +kernel
theorem dX4_fill_5 : decode cX4_fill 5 = .ok (.if_icmp .ge 8, 3) := by decide +kernel
theorem dX4_fill_8 : decode cX4_fill 8 = .ok (.iload_n 2, 1) := by decide +kernel
theorem dX4_fill_9 : decode cX4_fill 9 = .ok (.iconst 4, 1) := by decide +kernel
theorem dX4_fill_10 : decode cX4_fill 10 = .ok (.if_icmp .lt 25, 3) := by decide +kernel
theorem dX4_fill_13 : decode cX4_fill 13 = .ok (.aload_n 1, 1) := by decide +kernel
theorem dX4_fill_14 : decode cX4_fill 14 = .ok (.aload_n 1, 1) := by decide +kernel
theorem dX4_fill_15 : decode cX4_fill 15 = .ok (.getfield 109, 3) := by decide +kernel
theorem dX4_fill_18 : decode cX4_fill 18 = .ok (.iload_n 3, 1) := by decide +kernel
theorem dX4_fill_19 : decode cX4_fill 19 = .ok (.invokestatic 112, 3) := by decide +kernel
theorem dX4_fill_22 : decode cX4_fill 22 = .ok (.putfield 109, 3) := by decide +kernel
theorem dX4_fill_25 : decode cX4_fill 25 = .ok (.iload_n 3, 1) := by decide +kernel
theorem dX4_fill_26 : decode cX4_fill 26 = .ok (.ifCond .ne 8, 3) := by decide +kernel
theorem dX4_fill_29 : decode cX4_fill 29 = .ok (.aload_n 0, 1) := by decide +kernel
theorem dX4_fill_30 : decode cX4_fill 30 = .ok (.aload_n 1, 1) := by decide +kernel
theorem dX4_fill_31 : decode cX4_fill 31 = .ok (.invokevirtual 115, 3) := by decide +kernel
theorem dX4_fill_34 : decode cX4_fill 34 = .ok (.return_, 1) := by decide +kernel
theorem dX4_fill_35 : decode cX4_fill 35 = .ok (.aload_n 1, 1) := by decide +kernel
theorem dX4_fill_36 : decode cX4_fill 36 = .ok (.getfield 83, 3) := by decide +kernel
theorem dX4_fill_39 : decode cX4_fill 39 = .ok (.iload_n 2, 1) := by decide +kernel
theorem dX4_fill_40 : decode cX4_fill 40 = .ok (.aaload, 1) := by decide +kernel
theorem dX4_fill_41 : decode cX4_fill 41 = .ok (.astore 4, 2) := by decide +kernel
theorem dX4_fill_43 : decode cX4_fill 43 = .ok (.aload 4, 2) := by decide +kernel
theorem dX4_fill_45 : decode cX4_fill 45 = .ok (.getfield 119, 3) := by decide +kernel
theorem dX4_fill_48 : decode cX4_fill 48 = .ok (.ifCond .eq 27, 3) := by decide +kernel
theorem dX4_fill_51 : decode cX4_fill 51 = .ok (.iload_n 2, 1) := by decide +kernel
theorem dX4_fill_52 : decode cX4_fill 52 = .ok (.ifCond .le 23, 3) := by decide +kernel
theorem dX4_fill_55 : decode cX4_fill 55 = .ok (.aload 4, 2) := by decide +kernel
theorem dX4_fill_57 : decode cX4_fill 57 = .ok (.getfield 122, 3) := by decide +kernel
theorem dX4_fill_60 : decode cX4_fill 60 = .ok (.bipush 10, 2) := by decide +kernel
theorem dX4_fill_62 : decode cX4_fill 62 = .ok (.aload_n 0, 1) := by decide +kernel
theorem dX4_fill_63 : decode cX4_fill 63 = .ok (.getfield 25, 3) := by decide +kernel
theorem dX4_fill_66 : decode cX4_fill 66 = .ok (.iload_n 2, 1) := by decide +kernel
theorem dX4_fill_67 : decode cX4_fill 67 = .ok (.iconst 1, 1) := by decide +kernel
theorem dX4_fill_68 : decode cX4_fill 68 = .ok (.isub, 1) := by decide +kernel
theorem dX4_fill_69 : decode cX4_fill 69 = .ok (.iaload, 1) := by decide +kernel
theorem dX4_fill_70 : decode cX4_fill 70 = .ok (.imul, 1) := by decide +kernel
theorem dX4_fill_71 : decode cX4_fill 71 = .ok (.isub, 1) := by decide +kernel
theorem dX4_fill_72 : decode cX4_fill 72 = .ok (.goto 8, 3) := by decide +kernel
theorem dX4_fill_75 : decode cX4_fill 75 = .ok (.aload 4, 2) := by decide +kernel
theorem dX4_fill_77 : decode cX4_fill 77 = .ok (.getfield 122, 3) := by decide +kernel
theorem dX4_fill_80 : decode cX4_fill 80 = .ok (.istore 5, 2) := by decide +kernel
theorem dX4_fill_82 : decode cX4_fill 82 = .ok (.aload 4, 2) := by decide +kernel
theorem dX4_fill_84 : decode cX4_fill 84 = .ok (.getfield 125, 3) := by decide +kernel
theorem dX4_fill_87 : decode cX4_fill 87 = .ok (.istore 6, 2) := by decide +kernel
theorem dX4_fill_89 : decode cX4_fill 89 = .ok (.iload 6, 2) := by decide +kernel
theorem dX4_fill_91 : decode cX4_fill 91 = .ok (.bipush 9, 2) := by decide +kernel
theorem dX4_fill_93 : decode cX4_fill 93 = .ok (.if_icmp .gt 111, 3) := by decide +kernel
theorem dX4_fill_96 : decode cX4_fill 96 = .ok (.iload 6, 2) := by decide +kernel
theorem dX4_fill_98 : decode cX4_fill 98 = .ok (.aload 4, 2) := by decide +kernel
theorem dX4_fill_100 : decode cX4_fill 100 = .ok (.getfield 128, 3) := by decide +kernel
theorem dX4_fill_103 : decode cX4_fill 103 = .ok (.imul, 1) := by decide +kernel
theorem dX4_fill_104 : decode cX4_fill 104 = .ok (.iload 5, 2) := by decide +kernel
theorem dX4_fill_106 : decode cX4_fill 106 = .ok (.if_icmp .gt 98, 3) := by decide +kernel
theorem dX4_fill_109 : decode cX4_fill 109 = .ok (.aload_n 0, 1) := by decide +kernel
theorem dX4_fill_110 : decode cX4_fill 110 = .ok (.getfield 25, 3) := by decide +kernel
theorem dX4_fill_113 : decode cX4_fill 113 = .ok (.iload_n 2, 1) := by decide +kernel
theorem dX4_fill_114 : decode cX4_fill 114 = .ok (.iload 6, 2) := by decide +kernel
theorem dX4_fill_116 : decode cX4_fill 116 = .ok (.iastore, 1) := by decide +kernel
theorem dX4_fill_117 : decode cX4_fill 117 = .ok (.iconst 0, 1) := by decide +kernel
theorem dX4_fill_118 : decode cX4_fill 118 = .ok (.istore 7, 2) := by decide +kernel
theorem dX4_fill_120 : decode cX4_fill 120 = .ok (.iload 7, 2) := by decide +kernel
theorem dX4_fill_122 : decode cX4_fill 122 = .ok (.aload_n 0, 1) := by decide +kernel
theorem dX4_fill_123 : decode cX4_fill 123 = .ok (.getfield 33, 3) := by decide +kernel
theorem dX4_fill_126 : decode cX4_fill 126 = .ok (.if_icmp .ge 43, 3) := by decide +kernel
theorem dX4_fill_129 : decode cX4_fill 129 = .ok (.aload_n 0, 1) := by decide +kernel
theorem dX4_fill_130 : decode cX4_fill 130 = .ok (.getfield 11, 3) := by decide +kernel
theorem dX4_fill_133 : decode cX4_fill 133 = .ok (.iload_n 2, 1) := by decide +kernel
theorem dX4_fill_134 : decode cX4_fill 134 = .ok (.iconst 1, 1) := by decide +kernel
theorem dX4_fill_135 : decode cX4_fill 135 = .ok (.iadd, 1) := by decide +kernel
theorem dX4_fill_136 : decode cX4_fill 136 = .ok (.aaload, 1) := by decide +kernel
theorem dX4_fill_137 : decode cX4_fill 137 = .ok (.iload 7, 2) := by decide +kernel
theorem dX4_fill_139 : decode cX4_fill 139 = .ok (.aload_n 0, 1) := by decide +kernel
theorem dX4_fill_140 : decode cX4_fill 140 = .ok (.getfield 11, 3) := by decide +kernel
theorem dX4_fill_143 : decode cX4_fill 143 = .ok (.iload_n 2, 1) := by decide +kernel
theorem dX4_fill_144 : decode cX4_fill 144 = .ok (.aaload, 1) := by decide +kernel
theorem dX4_fill_145 : decode cX4_fill 145 = .ok (.iload 7, 2) := by decide +kernel
theorem dX4_fill_147 : decode cX4_fill 147 = .ok (.laload, 1) := by decide +kernel
theorem dX4_fill_148 : decode cX4_fill 148 = .ok (.iload 6, 2) := by decide +kernel
theorem dX4_fill_150 : decode cX4_fill 150 = .ok (.i2l, 1) := by decide +kernel
theorem dX4_fill_151 : decode cX4_fill 151 = .ok (.aload_n 0, 1) := by decide +kernel
theorem dX4_fill_152 : decode cX4_fill 152 = .ok (.getfield 16, 3) := by decide +kernel
theorem dX4_fill_155 : decode cX4_fill 155 = .ok (.iload_n 2, 1) := by decide +kernel
theorem dX4_fill_156 : decode cX4_fill 156 = .ok (.aaload, 1) := by decide +kernel
theorem dX4_fill_157 : decode cX4_fill 157 = .ok (.iload 7, 2) := by decide +kernel
theorem dX4_fill_159 : decode cX4_fill 159 = .ok (.laload, 1) := by decide +kernel
theorem dX4_fill_160 : decode cX4_fill 160 = .ok (.lmul, 1) := by decide +kernel
theorem dX4_fill_161 : decode cX4_fill 161 = .ok (.ladd, 1) := by decide +kernel
theorem dX4_fill_162 : decode cX4_fill 162 = .ok (.lastore, 1) := by decide +kernel
theorem dX4_fill_163 : decode cX4_fill 163 = .ok (.iinc 7 1, 3) := by decide +kernel
theorem dX4_fill_166 : decode cX4_fill 166 = .ok (.goto (-46), 3) := by decide +kernel
theorem dX4_fill_169 : decode cX4_fill 169 = .ok (.aload_n 0, 1) := by decide +kernel
theorem dX4_fill_170 : decode cX4_fill 170 = .ok (.iload_n 2, 1) := by decide +kernel
theorem dX4_fill_171 : decode cX4_fill 171 = .ok (.iconst 1, 1) := by decide +kernel
theorem dX4_fill_172 : decode cX4_fill 172 = .ok (.iadd, 1) := by decide +kernel
theorem dX4_fill_173 : decode cX4_fill 173 = .ok (.invokevirtual 59, 3) := by decide +kernel
theorem dX4_fill_176 : decode cX4_fill 176 = .ok (.istore 7, 2) := by decide +kernel
theorem dX4_fill_178 : decode cX4_fill 178 = .ok (.aload_n 0, 1) := by decide +kernel
theorem dX4_fill_179 : decode cX4_fill 179 = .ok (.aload_n 1, 1) := by decide +kernel
theorem dX4_fill_180 : decode cX4_fill 180 = .ok (.iload 7, 2) := by decide +kernel
theorem dX4_fill_182 : decode cX4_fill 182 = .ok (.invokevirtual 63, 3) := by decide +kernel
theorem dX4_fill_185 : decode cX4_fill 185 = .ok (.ifCond .eq 13, 3) := by decide +kernel
theorem dX4_fill_188 : decode cX4_fill 188 = .ok (.aload_n 0, 1) := by decide +kernel
theorem dX4_fill_189 : decode cX4_fill 189 = .ok (.aload_n 1, 1) := by decide +kernel
theorem dX4_fill_190 : decode cX4_fill 190 = .ok (.iload_n 2, 1) := by decide +kernel
theorem dX4_fill_191 : decode cX4_fill 191 = .ok (.iconst 1, 1) := by decide +kernel
theorem dX4_fill_192 : decode cX4_fill 192 = .ok (.iadd, 1) := by decide +kernel
theorem dX4_fill_193 : decode cX4_fill 193 = .ok (.iload 7, 2) := by decide +kernel
theorem dX4_fill_195 : decode cX4_fill 195 = .ok (.invokevirtual 67, 3) := by decide +kernel
theorem dX4_fill_198 : decode cX4_fill 198 = .ok (.iinc 6 1, 3) := by decide +kernel
theorem dX4_fill_201 : decode cX4_fill 201 = .ok (.goto (-112), 3) := by decide +kernel
theorem dX4_fill_204 : decode cX4_fill 204 = .ok (.return_, 1) := by decide +kernel
theorem dX4_noteReading_0 : decode cX4_noteReading 0 = .ok (.aload_n 1, 1) := by decide +kernel
theorem dX4_noteReading_1 : decode cX4_noteReading 1 = .ok (.dup, 1) := by decide +kernel
theorem dX4_noteReading_2 : decode cX4_noteReading 2 = .ok (.getfield 106, 3) := by decide +kernel
theorem dX4_noteReading_5 : decode cX4_noteReading 5 = .ok (.iconst 1, 1) := by decide +kernel
theorem dX4_noteReading_6 : decode cX4_noteReading 6 = .ok (.iadd, 1) := by decide +kernel
theorem dX4_noteReading_7 : decode cX4_noteReading 7 = .ok (.putfield 106, 3) := by decide +kernel
theorem dX4_noteReading_10 : decode cX4_noteReading 10 = .ok (.iconst 0, 1) := by decide +kernel
theorem dX4_noteReading_11 : decode cX4_noteReading 11 = .ok (.istore_n 2, 1) := by decide +kernel
theorem dX4_noteReading_12 : decode cX4_noteReading 12 = .ok (.iconst (-1), 1) := by decide +kernel
theorem dX4_noteReading_13 : decode cX4_noteReading 13 = .ok (.istore_n 3, 1) := by decide +kernel
theorem dX4_noteReading_14 : decode cX4_noteReading 14 = .ok (.iconst 0, 1) := by decide +kernel
theorem dX4_noteReading_15 : decode cX4_noteReading 15 = .ok (.istore 4, 2) := by decide +kernel
theorem dX4_noteReading_17 : decode cX4_noteReading 17 = .ok (.iload 4, 2) := by decide +kernel
theorem dX4_noteReading_19 : decode cX4_noteReading 19 = .ok (.aload_n 1, 1) := by decide +kernel
theorem dX4_noteReading_20 : decode cX4_noteReading 20 = .ok (.getfield 80, 3) := by decide +kernel
theorem dX4_noteReading_23 : decode cX4_noteReading 23 = .ok (.if_icmp .ge 108, 3) := by decide +kernel
theorem dX4_noteReading_26 : decode cX4_noteReading 26 = .ok (.aload_n 1, 1) := by decide +kernel
theorem dX4_noteReading_27 : decode cX4_noteReading 27 = .ok (.getfield 83, 3) := by decide +kernel
theorem dX4_noteReading_30 : decode cX4_noteReading 30 = .ok (.iload 4, 2) := by decide +kernel
theorem dX4_noteReading_32 : decode cX4_noteReading 32 = .ok (.aaload, 1) := by decide +kernel
theorem dX4_noteReading_33 : decode cX4_noteReading 33 = .ok (.astore 5, 2) := by decide +kernel
theorem dX4_noteReading_35 : decode cX4_noteReading 35 = .ok (.aload 5, 2) := by decide +kernel
theorem dX4_noteReading_37 : decode cX4_noteReading 37 = .ok (.aload_n 0, 1) := by decide +kernel
theorem dX4_noteReading_38 : decode cX4_noteReading 38 = .ok (.getfield 25, 3) := by decide +kernel
theorem dX4_noteReading_41 : decode cX4_noteReading 41 = .ok (.iload 4, 2) := by decide +kernel
theorem dX4_noteReading_43 : decode cX4_noteReading 43 = .ok (.iaload, 1) := by decide +kernel
theorem dX4_noteReading_44 : decode cX4_noteReading 44 = .ok (.invokevirtual 131, 3) := by decide +kernel
theorem dX4_noteReading_47 : decode cX4_noteReading 47 = .ok (.aload 5, 2) := by decide +kernel
theorem dX4_noteReading_49 : decode cX4_noteReading 49 = .ok (.getfield 87, 3) := by decide +kernel
theorem dX4_noteReading_52 : decode cX4_noteReading 52 = .ok (.iload_n 3, 1) := by decide +kernel
theorem dX4_noteReading_53 : decode cX4_noteReading 53 = .ok (.if_icmp .eq 19, 3) := by decide +kernel
theorem dX4_noteReading_56 : decode cX4_noteReading 56 = .ok (.aload 5, 2) := by decide +kernel
theorem dX4_noteReading_58 : decode cX4_noteReading 58 = .ok (.getfield 87, 3) := by decide +kernel
theorem dX4_noteReading_61 : decode cX4_noteReading 61 = .ok (.istore_n 3, 1) := by decide +kernel
theorem dX4_noteReading_62 : decode cX4_noteReading 62 = .ok (.aload_n 1, 1) := by decide +kernel
theorem dX4_noteReading_63 : decode cX4_noteReading 63 = .ok (.getfield 42, 3) := by decide +kernel
theorem dX4_noteReading_66 : decode cX4_noteReading 66 = .ok (.iload_n 3, 1) := by decide +kernel
theorem dX4_noteReading_67 : decode cX4_noteReading 67 = .ok (.aaload, 1) := by decide +kernel
theorem dX4_noteReading_68 : decode cX4_noteReading 68 = .ok (.getfield 77, 3) := by decide +kernel
theorem dX4_noteReading_71 : decode cX4_noteReading 71 = .ok (.istore_n 2, 1) := by decide +kernel
theorem dX4_noteReading_72 : decode cX4_noteReading 72 = .ok (.iload_n 2, 1) := by decide +kernel
theorem dX4_noteReading_73 : decode cX4_noteReading 73 = .ok (.aload_n 0, 1) := by decide +kernel
theorem dX4_noteReading_74 : decode cX4_noteReading 74 = .ok (.getfield 25, 3) := by decide +kernel
theorem dX4_noteReading_77 : decode cX4_noteReading 77 = .ok (.iload 4, 2) := by decide +kernel
theorem dX4_noteReading_79 : decode cX4_noteReading 79 = .ok (.iaload, 1) := by decide +kernel
theorem dX4_noteReading_80 : decode cX4_noteReading 80 = .ok (.aload 5, 2) := by decide +kernel
theorem dX4_noteReading_82 : decode cX4_noteReading 82 = .ok (.getfield 92, 3) := by decide +kernel
theorem dX4_noteReading_85 : decode cX4_noteReading 85 = .ok (.imul, 1) := by decide +kernel
theorem dX4_noteReading_86 : decode cX4_noteReading 86 = .ok (.iadd, 1) := by decide +kernel
theorem dX4_noteReading_87 : decode cX4_noteReading 87 = .ok (.istore_n 2, 1) := by decide +kernel
theorem dX4_noteReading_88 : decode cX4_noteReading 88 = .ok (.iload 4, 2) := by decide +kernel
theorem dX4_noteReading_90 : decode cX4_noteReading 90 = .ok (.iconst 1, 1) := by decide +kernel
theorem dX4_noteReading_91 : decode cX4_noteReading 91 = .ok (.iadd, 1) := by decide +kernel
theorem dX4_noteReading_92 : decode cX4_noteReading 92 = .ok (.aload_n 1, 1) := by decide +kernel
theorem dX4_noteReading_93 : decode cX4_noteReading 93 = .ok (.getfield 80, 3) := by decide +kernel
theorem dX4_noteReading_96 : decode cX4_noteReading 96 = .ok (.if_icmp .ge 19, 3) := by decide +kernel
theorem dX4_noteReading_99 : decode cX4_noteReading 99 = .ok (.aload_n 1, 1) := by decide +kernel
theorem dX4_noteReading_100 : decode cX4_noteReading 100 = .ok (.getfield 83, 3) := by decide +kernel
theorem dX4_noteReading_103 : decode cX4_noteReading 103 = .ok (.iload 4, 2) := by decide +kernel
theorem dX4_noteReading_105 : decode cX4_noteReading 105 = .ok (.iconst 1, 1) := by decide +kernel
theorem dX4_noteReading_106 : decode cX4_noteReading 106 = .ok (.iadd, 1) := by decide +kernel
theorem dX4_noteReading_107 : decode cX4_noteReading 107 = .ok (.aaload, 1) := by decide +kernel
theorem dX4_noteReading_108 : decode cX4_noteReading 108 = .ok (.getfield 87, 3) := by decide +kernel
theorem dX4_noteReading_111 : decode cX4_noteReading 111 = .ok (.iload_n 3, 1) := by decide +kernel
theorem dX4_noteReading_112 : decode cX4_noteReading 112 = .ok (.if_icmp .eq 13, 3) := by decide +kernel
theorem dX4_noteReading_115 : decode cX4_noteReading 115 = .ok (.aload_n 1, 1) := by decide +kernel
theorem dX4_noteReading_116 : decode cX4_noteReading 116 = .ok (.getfield 42, 3) := by decide +kernel
theorem dX4_noteReading_119 : decode cX4_noteReading 119 = .ok (.iload_n 3, 1) := by decide +kernel
theorem dX4_noteReading_120 : decode cX4_noteReading 120 = .ok (.aaload, 1) := by decide +kernel
theorem dX4_noteReading_121 : decode cX4_noteReading 121 = .ok (.iload_n 2, 1) := by decide +kernel
theorem dX4_noteReading_122 : decode cX4_noteReading 122 = .ok (.invokevirtual 134, 3) := by decide +kernel
theorem dX4_noteReading_125 : decode cX4_noteReading 125 = .ok (.iinc 4 1, 3) := by decide +kernel
theorem dX4_noteReading_128 : decode cX4_noteReading 128 = .ok (.goto (-111), 3) := by decide +kernel
theorem dX4_noteReading_131 : decode cX4_noteReading 131 = .ok (.return_, 1) := by decide +kernel
theorem dX5_init_0 : decode cX5_init 0 = .ok (.aload_n 0, 1) := by decide +kernel
theorem dX5_init_1 : decode cX5_init 1 = .ok (.invokespecial 3, 3) := by decide +kernel
theorem dX5_init_4 : decode cX5_init 4 = .ok (.aload_n 0, 1) := by decide +kernel
theorem dX5_init_5 : decode cX5_init 5 = .ok (.bipush 12, 2) := by decide +kernel
theorem dX5_init_7 : decode cX5_init 7 = .ok (.anewarray 9, 3) := by decide +kernel
theorem dX5_init_10 : decode cX5_init 10 = .ok (.putfield 11, 3) := by decide +kernel
theorem dX5_init_13 : decode cX5_init 13 = .ok (.aload_n 0, 1) := by decide +kernel
theorem dX5_init_14 : decode cX5_init 14 = .ok (.iconst 4, 1) := by decide +kernel
theorem dX5_init_15 : decode cX5_init 15 = .ok (.anewarray 17, 3) := by decide +kernel
theorem dX5_init_18 : decode cX5_init 18 = .ok (.putfield 19, 3) := by decide +kernel
theorem dX5_init_21 : decode cX5_init 21 = .ok (.iconst 0, 1) := by decide +kernel
theorem dX5_init_22 : decode cX5_init 22 = .ok (.istore_n 1, 1) := by decide +kernel
theorem dX5_init_23 : decode cX5_init 23 = .ok (.iload_n 1, 1) := by decide +kernel
theorem dX5_init_24 : decode cX5_init 24 = .ok (.bipush 12, 2) := by decide +kernel
theorem dX5_init_26 : decode cX5_init 26 = .ok (.if_icmp .ge 22, 3) := by decide +kernel
theorem dX5_init_29 : decode cX5_init 29 = .ok (.aload_n 0, 1) := by decide +kernel
theorem dX5_init_30 : decode cX5_init 30 = .ok (.getfield 11, 3) := by decide +kernel
theorem dX5_init_33 : decode cX5_init 33 = .ok (.iload_n 1, 1) := by decide +kernel
theorem dX5_init_34 : decode cX5_init 34 = .ok (.new 9, 3) := by decide +kernel
theorem dX5_init_37 : decode cX5_init 37 = .ok (.dup, 1) := by decide +kernel
theorem dX5_init_38 : decode cX5_init 38 = .ok (.invokespecial 23, 3) := by decide +kernel
theorem dX5_init_41 : decode cX5_init 41 = .ok (.aastore, 1) := by decide +kernel
theorem dX5_init_42 : decode cX5_init 42 = .ok (.iinc 1 1, 3) := by decide +kernel
theorem dX5_init_45 : decode cX5_init 45 = .ok (.goto (-22), 3) := by decide +kernel
theorem dX5_init_48 : decode cX5_init 48 = .ok (.iconst 0, 1) := by decide +kernel
theorem dX5_init_49 : decode cX5_init 49 = .ok (.istore_n 1, 1) := by decide +kernel
theorem dX5_init_50 : decode cX5_init 50 = .ok (.iload_n 1, 1) := by decide +kernel
theorem dX5_init_51 : decode cX5_init 51 = .ok (.iconst 4, 1) := by decide +kernel
theorem dX5_init_52 : decode cX5_init 52 = .ok (.if_icmp .ge 22, 3) := by decide +kernel
theorem dX5_init_55 : decode cX5_init 55 = .ok (.aload_n 0, 1) := by decide +kernel
theorem dX5_init_56 : decode cX5_init 56 = .ok (.getfield 19, 3) := by decide +kernel
theorem dX5_init_59 : decode cX5_init 59 = .ok (.iload_n 1, 1) := by decide +kernel
theorem dX5_init_60 : decode cX5_init 60 = .ok (.new 17, 3) := by decide +kernel
theorem dX5_init_63 : decode cX5_init 63 = .ok (.dup, 1) := by decide +kernel
theorem dX5_init_64 : decode cX5_init 64 = .ok (.invokespecial 24, 3) := by decide +kernel
theorem dX5_init_67 : decode cX5_init 67 = .ok (.aastore, 1) := by decide +kernel
theorem dX5_init_68 : decode cX5_init 68 = .ok (.iinc 1 1, 3) := by decide +kernel
theorem dX5_init_71 : decode cX5_init 71 = .ok (.goto (-21), 3) := by decide +kernel
theorem dX5_init_74 : decode cX5_init 74 = .ok (.return_, 1) := by decide +kernel
theorem dX5_clear_0 : decode cX5_clear 0 = .ok (.aload_n 0, 1) := by decide +kernel
theorem dX5_clear_1 : decode cX5_clear 1 = .ok (.iconst 0, 1) := by decide +kernel
theorem dX5_clear_2 : decode cX5_clear 2 = .ok (.putfield 25, 3) := by decide +kernel
theorem dX5_clear_5 : decode cX5_clear 5 = .ok (.aload_n 0, 1) := by decide +kernel
theorem dX5_clear_6 : decode cX5_clear 6 = .ok (.iconst 0, 1) := by decide +kernel
theorem dX5_clear_7 : decode cX5_clear 7 = .ok (.putfield 29, 3) := by decide +kernel
theorem dX5_clear_10 : decode cX5_clear 10 = .ok (.aload_n 0, 1) := by decide +kernel
theorem dX5_clear_11 : decode cX5_clear 11 = .ok (.iconst 0, 1) := by decide +kernel
theorem dX5_clear_12 : decode cX5_clear 12 = .ok (.putfield 32, 3) := by decide +kernel
theorem dX5_clear_15 : decode cX5_clear 15 = .ok (.aload_n 0, 1) := by decide +kernel
theorem dX5_clear_16 : decode cX5_clear 16 = .ok (.iconst 0, 1) := by decide +kernel
theorem dX5_clear_17 : decode cX5_clear 17 = .ok (.putfield 36, 3) := by decide +kernel
theorem dX5_clear_20 : decode cX5_clear 20 = .ok (.aload_n 0, 1) := by decide +kernel
theorem dX5_clear_21 : decode cX5_clear 21 = .ok (.bipush 13, 2) := by decide +kernel
theorem dX5_clear_23 : decode cX5_clear 23 = .ok (.putfield 39, 3) := by decide +kernel
theorem dX5_clear_26 : decode cX5_clear 26 = .ok (.return_, 1) := by decide +kernel
theorem dX5_isFull_0 : decode cX5_isFull 0 = .ok (.aload_n 0, 1) := by decide +kernel
theorem dX5_isFull_1 : decode cX5_isFull 1 = .ok (.getfield 25, 3) := by decide +kernel
theorem dX5_isFull_4 : decode cX5_isFull 4 = .ok (.bipush 12, 2) := by decide +kernel
theorem dX5_isFull_6 : decode cX5_isFull 6 = .ok (.if_icmp .lt 7, 3) := by decide +kernel
theorem dX5_isFull_9 : decode cX5_isFull 9 = .ok (.iconst 1, 1) := by decide +kernel
theorem dX5_isFull_10 : decode cX5_isFull 10 = .ok (.goto 4, 3) := by decide +kernel
theorem dX5_isFull_13 : decode cX5_isFull 13 = .ok (.iconst 0, 1) := by decide +kernel
theorem dX5_isFull_14 : decode cX5_isFull 14 = .ok (.ireturn, 1) := by decide +kernel
theorem dX5_addLine_0 : decode cX5_addLine 0 = .ok (.aload_n 0, 1) := by decide +kernel
theorem dX5_addLine_1 : decode cX5_addLine 1 = .ok (.invokevirtual 42, 3) := by decide +kernel
theorem dX5_addLine_4 : decode cX5_addLine 4 = .ok (.ifCond .ne 26, 3) := by decide +kernel
theorem dX5_addLine_7 : decode cX5_addLine 7 = .ok (.aload_n 0, 1) := by decide +kernel
theorem dX5_addLine_8 : decode cX5_addLine 8 = .ok (.getfield 11, 3) := by decide +kernel
theorem dX5_addLine_11 : decode cX5_addLine 11 = .ok (.aload_n 0, 1) := by decide +kernel
theorem dX5_addLine_12 : decode cX5_addLine 12 = .ok (.getfield 25, 3) := by decide +kernel
theorem dX5_addLine_15 : decode cX5_addLine 15 = .ok (.aaload, 1) := by decide +kernel
theorem dX5_addLine_16 : decode cX5_addLine 16 = .ok (.iload_n 1, 1) := by decide +kernel
theorem dX5_addLine_17 : decode cX5_addLine 17 = .ok (.invokevirtual 46, 3) := by decide +kernel
theorem dX5_addLine_20 : decode cX5_addLine 20 = .ok (.aload_n 0, 1) := by decide +kernel
theorem dX5_addLine_21 : decode cX5_addLine 21 = .ok (.dup, 1) := by decide +kernel
theorem dX5_addLine_22 : decode cX5_addLine 22 = .ok (.getfield 25, 3) := by decide +kernel
theorem dX5_addLine_25 : decode cX5_addLine 25 = .ok (.iconst 1, 1) := by decide +kernel
theorem dX5_addLine_26 : decode cX5_addLine 26 = .ok (.iadd, 1) := by decide +kernel
theorem dX5_addLine_27 : decode cX5_addLine 27 = .ok (.putfield 25, 3) := by decide +kernel
theorem dX5_addLine_30 : decode cX5_addLine 30 = .ok (.return_, 1) := by decide +kernel
theorem dX5_addKnown_0 : decode cX5_addKnown 0 = .ok (.aload_n 0, 1) := by decide +kernel
theorem dX5_addKnown_1 : decode cX5_addKnown 1 = .ok (.getfield 25, 3) := by decide +kernel
theorem dX5_addKnown_4 : decode cX5_addKnown 4 = .ok (.iconst 1, 1) := by decide +kernel
theorem dX5_addKnown_5 : decode cX5_addKnown 5 = .ok (.isub, 1) := by decide +kernel
theorem dX5_addKnown_6 : decode cX5_addKnown 6 = .ok (.istore_n 3, 1) := by decide +kernel
theorem dX5_addKnown_7 : decode cX5_addKnown 7 = .ok (.iload_n 3, 1) := by decide +kernel
theorem dX5_addKnown_8 : decode cX5_addKnown 8 = .ok (.ifCond .lt 28, 3) := by decide +kernel
theorem dX5_addKnown_11 : decode cX5_addKnown 11 = .ok (.aload_n 0, 1) := by decide +kernel
theorem dX5_addKnown_12 : decode cX5_addKnown 12 = .ok (.getfield 11, 3) := by decide +kernel
theorem dX5_addKnown_15 : decode cX5_addKnown 15 = .ok (.iload_n 3, 1) := by decide +kernel
theorem dX5_addKnown_16 : decode cX5_addKnown 16 = .ok (.aaload, 1) := by decide +kernel
theorem dX5_addKnown_17 : decode cX5_addKnown 17 = .ok (.iload_n 1, 1) := by decide +kernel
theorem dX5_addKnown_18 : decode cX5_addKnown 18 = .ok (.putfield 50, 3) := by decide +kernel
theorem dX5_addKnown_21 : decode cX5_addKnown 21 = .ok (.aload_n 0, 1) := by decide +kernel
theorem dX5_addKnown_22 : decode cX5_addKnown 22 = .ok (.getfield 11, 3) := by decide +kernel
theorem dX5_addKnown_25 : decode cX5_addKnown 25 = .ok (.iload_n 3, 1) := by decide +kernel
theorem dX5_addKnown_26 : decode cX5_addKnown 26 = .ok (.aaload, 1) := by decide +kernel
theorem dX5_addKnown_27 : decode cX5_addKnown 27 = .ok (.dup, 1) := by decide +kernel
theorem dX5_addKnown_28 : decode cX5_addKnown 28 = .ok (.getfield 53, 3) := by decide +kernel
theorem dX5_addKnown_31 : decode cX5_addKnown 31 = .ok (.iload_n 2, 1) := by decide +kernel
theorem dX5_addKnown_32 : decode cX5_addKnown 32 = .ok (.iadd, 1) := by decide +kernel
theorem dX5_addKnown_33 : decode cX5_addKnown 33 = .ok (.putfield 53, 3) := by decide +kernel
theorem dX5_addKnown_36 : decode cX5_addKnown 36 = .ok (.return_, 1) := by decide +kernel
theorem dX5_addHole_0 : decode cX5_addHole 0 = .ok (.aload_n 0, 1) := by decide +kernel
theorem dX5_addHole_1 : decode cX5_addHole 1 = .ok (.getfield 19, 3) := by decide +kernel
theorem dX5_addHole_4 : decode cX5_addHole 4 = .ok (.aload_n 0, 1) := by decide +kernel
theorem dX5_addHole_5 : decode cX5_addHole 5 = .ok (.getfield 29, 3) := by decide +kernel
theorem dX5_addHole_8 : decode cX5_addHole 8 = .ok (.iconst 4, 1) := by decide +kernel
theorem dX5_addHole_9 : decode cX5_addHole 9 = .ok (.if_icmp .ge 10, 3) := by decide +kernel
theorem dX5_addHole_12 : decode cX5_addHole 12 = .ok (.aload_n 0, 1) := by decide +kernel
theorem dX5_addHole_13 : decode cX5_addHole 13 = .ok (.getfield 29, 3) := by decide +kernel
theorem dX5_addHole_16 : decode cX5_addHole 16 = .ok (.goto 4, 3) := by decide +kernel
theorem dX5_addHole_19 : decode cX5_addHole 19 = .ok (.iconst 3, 1) := by decide +kernel
theorem dX5_addHole_20 : decode cX5_addHole 20 = .ok (.aaload, 1) := by decide +kernel
theorem dX5_addHole_21 : decode cX5_addHole 21 = .ok (.astore_n 3, 1) := by decide +kernel
theorem dX5_addHole_22 : decode cX5_addHole 22 = .ok (.aload_n 0, 1) := by decide +kernel
theorem dX5_addHole_23 : decode cX5_addHole 23 = .ok (.getfield 25, 3) := by decide +kernel
theorem dX5_addHole_26 : decode cX5_addHole 26 = .ok (.iconst 1, 1) := by decide +kernel
theorem dX5_addHole_27 : decode cX5_addHole 27 = .ok (.isub, 1) := by decide +kernel
theorem dX5_addHole_28 : decode cX5_addHole 28 = .ok (.istore 4, 2) := by decide +kernel
theorem dX5_addHole_30 : decode cX5_addHole 30 = .ok (.iload 4, 2) := by decide +kernel
theorem dX5_addHole_32 : decode cX5_addHole 32 = .ok (.ifCond .lt 61, 3) := by decide +kernel
theorem dX5_addHole_35 : decode cX5_addHole 35 = .ok (.aload_n 0, 1) := by decide +kernel
theorem dX5_addHole_36 : decode cX5_addHole 36 = .ok (.getfield 29, 3) := by decide +kernel
theorem dX5_addHole_39 : decode cX5_addHole 39 = .ok (.iconst 4, 1) := by decide +kernel
theorem dX5_addHole_40 : decode cX5_addHole 40 = .ok (.if_icmp .ge 53, 3) := by decide +kernel
theorem dX5_addHole_43 : decode cX5_addHole 43 = .ok (.aload_n 3, 1) := by decide +kernel
theorem dX5_addHole_44 : decode cX5_addHole 44 = .ok (.iload 4, 2) := by decide +kernel
theorem dX5_addHole_46 : decode cX5_addHole 46 = .ok (.putfield 56, 3) := by decide +kernel
theorem dX5_addHole_49 : decode cX5_addHole 49 = .ok (.aload_n 3, 1) := by decide +kernel
theorem dX5_addHole_50 : decode cX5_addHole 50 = .ok (.iload_n 1, 1) := by decide +kernel
theorem dX5_addHole_51 : decode cX5_addHole 51 = .ok (.putfield 59, 3) := by decide +kernel
theorem dX5_addHole_54 : decode cX5_addHole 54 = .ok (.aload_n 3, 1) := by decide +kernel
theorem dX5_addHole_55 : decode cX5_addHole 55 = .ok (.iload_n 1, 1) := by decide +kernel
theorem dX5_addHole_56 : decode cX5_addHole 56 = .ok (.iload_n 2, 1) := by decide +kernel
theorem dX5_addHole_57 : decode cX5_addHole 57 = .ok (.imul, 1) := by decide +kernel
theorem dX5_addHole_58 : decode cX5_addHole 58 = .ok (.putfield 62, 3) := by decide +kernel
theorem dX5_addHole_61 : decode cX5_addHole 61 = .ok (.aload_n 3, 1) := by decide +kernel
theorem dX5_addHole_62 : decode cX5_addHole 62 = .ok (.bipush (-2), 2) := by decide +kernel
theorem dX5_addHole_64 : decode cX5_addHole 64 = .ok (.putfield 65, 3) := by decide +kernel
theorem dX5_addHole_67 : decode cX5_addHole 67 = .ok (.aload_n 0, 1) := by decide +kernel
theorem dX5_addHole_68 : decode cX5_addHole 68 = .ok (.getfield 11, 3) := by decide +kernel
theorem dX5_addHole_71 : decode cX5_addHole 71 = .ok (.iload 4, 2) := by decide +kernel
theorem dX5_addHole_73 : decode cX5_addHole 73 = .ok (.aaload, 1) := by decide +kernel
theorem dX5_addHole_74 : decode cX5_addHole 74 = .ok (.dup, 1) := by decide +kernel
theorem dX5_addHole_75 : decode cX5_addHole 75 = .ok (.getfield 68, 3) := by decide +kernel
theorem dX5_addHole_78 : decode cX5_addHole 78 = .ok (.iconst 1, 1) := by decide +kernel
theorem dX5_addHole_79 : decode cX5_addHole 79 = .ok (.iadd, 1) := by decide +kernel
theorem dX5_addHole_80 : decode cX5_addHole 80 = .ok (.putfield 68, 3) := by decide +kernel
theorem dX5_addHole_83 : decode cX5_addHole 83 = .ok (.aload_n 0, 1) := by decide +kernel
theorem dX5_addHole_84 : decode cX5_addHole 84 = .ok (.dup, 1) := by decide +kernel
theorem dX5_addHole_85 : decode cX5_addHole 85 = .ok (.getfield 29, 3) := by decide +kernel
theorem dX5_addHole_88 : decode cX5_addHole 88 = .ok (.iconst 1, 1) := by decide +kernel
theorem dX5_addHole_89 : decode cX5_addHole 89 = .ok (.iadd, 1) := by decide +kernel
theorem dX5_addHole_90 : decode cX5_addHole 90 = .ok (.putfield 29, 3) := by decide +kernel
theorem dX5_addHole_93 : decode cX5_addHole 93 = .ok (.aload_n 3, 1) := by decide +kernel
theorem dX5_addHole_94 : decode cX5_addHole 94 = .ok (.areturn, 1) := by decide +kernel
theorem dX6_init_0 : decode cX6_init 0 = .ok (.aload_n 0, 1) := by decide +kernel
theorem dX6_init_1 : decode cX6_init 1 = .ok (.invokespecial 3, 3) := by decide +kernel
theorem dX6_init_4 : decode cX6_init 4 = .ok (.aload_n 0, 1) := by decide +kernel
theorem dX6_init_5 : decode cX6_init 5 = .ok (.new 9, 3) := by decide +kernel
theorem dX6_init_8 : decode cX6_init 8 = .ok (.dup, 1) := by decide +kernel
theorem dX6_init_9 : decode cX6_init 9 = .ok (.invokespecial 11, 3) := by decide +kernel
theorem dX6_init_12 : decode cX6_init 12 = .ok (.putfield 12, 3) := by decide +kernel
theorem dX6_init_15 : decode cX6_init 15 = .ok (.return_, 1) := by decide +kernel
theorem dX6_read_0 : decode cX6_read 0 = .ok (.aload_n 3, 1) := by decide +kernel
theorem dX6_read_1 : decode cX6_read 1 = .ok (.invokevirtual 18, 3) := by decide +kernel
theorem dX6_read_4 : decode cX6_read 4 = .ok (.aload_n 0, 1) := by decide +kernel
theorem dX6_read_5 : decode cX6_read 5 = .ok (.getfield 12, 3) := by decide +kernel
theorem dX6_read_8 : decode cX6_read 8 = .ok (.aload_n 1, 1) := by decide +kernel
theorem dX6_read_9 : decode cX6_read 9 = .ok (.sipush 300, 3) := by decide +kernel
theorem dX6_read_12 : decode cX6_read 12 = .ok (.iconst 1, 1) := by decide +kernel
theorem dX6_read_13 : decode cX6_read 13 = .ok (.invokevirtual 23, 3) := by decide +kernel
theorem dX6_read_16 : decode cX6_read 16 = .ok (.aload_n 0, 1) := by decide +kernel
theorem dX6_read_17 : decode cX6_read 17 = .ok (.iconst 0, 1) := by decide +kernel
theorem dX6_read_18 : decode cX6_read 18 = .ok (.putfield 27, 3) := by decide +kernel
theorem dX6_read_21 : decode cX6_read 21 = .ok (.iconst 0, 1) := by decide +kernel
theorem dX6_read_22 : decode cX6_read 22 = .ok (.istore 4, 2) := by decide +kernel
theorem dX6_read_24 : decode cX6_read 24 = .ok (.iload 4, 2) := by decide +kernel
theorem dX6_read_26 : decode cX6_read 26 = .ok (.sipush 300, 3) := by decide +kernel
theorem dX6_read_29 : decode cX6_read 29 = .ok (.if_icmp .gt 56, 3) := by decide +kernel
theorem dX6_read_32 : decode cX6_read 32 = .ok (.aload_n 0, 1) := by decide +kernel
theorem dX6_read_33 : decode cX6_read 33 = .ok (.getfield 12, 3) := by decide +kernel
theorem dX6_read_36 : decode cX6_read 36 = .ok (.invokevirtual 31, 3) := by decide +kernel
theorem dX6_read_39 : decode cX6_read 39 = .ok (.aload_n 0, 1) := by decide +kernel
theorem dX6_read_40 : decode cX6_read 40 = .ok (.getfield 27, 3) := by decide +kernel
theorem dX6_read_43 : decode cX6_read 43 = .ok (.ifCond .ne 25, 3) := by decide +kernel
theorem dX6_read_46 : decode cX6_read 46 = .ok (.aload_n 0, 1) := by decide +kernel
theorem dX6_read_47 : decode cX6_read 47 = .ok (.getfield 12, 3) := by decide +kernel
theorem dX6_read_50 : decode cX6_read 50 = .ok (.getfield 34, 3) := by decide +kernel
theorem dX6_read_53 : decode cX6_read 53 = .ok (.ifCond .ne 15, 3) := by decide +kernel
theorem dX6_read_56 : decode cX6_read 56 = .ok (.aload_n 0, 1) := by decide +kernel
theorem dX6_read_57 : decode cX6_read 57 = .ok (.getfield 12, 3) := by decide +kernel
theorem dX6_read_60 : decode cX6_read 60 = .ok (.aload_n 3, 1) := by decide +kernel
theorem dX6_read_61 : decode cX6_read 61 = .ok (.getfield 37, 3) := by decide +kernel
theorem dX6_read_64 : decode cX6_read 64 = .ok (.invokevirtual 40, 3) := by decide +kernel
theorem dX6_read_67 : decode cX6_read 67 = .ok (.ireturn, 1) := by decide +kernel
theorem dX6_read_68 : decode cX6_read 68 = .ok (.aload_n 0, 1) := by decide +kernel
theorem dX6_read_69 : decode cX6_read 69 = .ok (.aload_n 2, 1) := by decide +kernel
theorem dX6_read_70 : decode cX6_read 70 = .ok (.aload_n 3, 1) := by decide +kernel
theorem dX6_read_71 : decode cX6_read 71 = .ok (.invokevirtual 44, 3) := by decide +kernel
theorem dX6_read_74 : decode cX6_read 74 = .ok (.ifCond .ne 5, 3) := by decide +kernel
theorem dX6_read_77 : decode cX6_read 77 = .ok (.iconst 0, 1) := by decide +kernel
theorem dX6_read_78 : decode cX6_read 78 = .ok (.ireturn, 1) := by decide +kernel
theorem dX6_read_79 : decode cX6_read 79 = .ok (.iinc 4 1, 3) := by decide +kernel
theorem dX6_read_82 : decode cX6_read 82 = .ok (.goto (-58), 3) := by decide +kernel
theorem dX6_read_85 : decode cX6_read 85 = .ok (.iconst 0, 1) := by decide +kernel
theorem dX6_read_86 : decode cX6_read 86 = .ok (.ireturn, 1) := by decide +kernel
theorem dX6_takeToken_0 : decode cX6_takeToken 0 = .ok (.aload_n 0, 1) := by decide +kernel
theorem dX6_takeToken_1 : decode cX6_takeToken 1 = .ok (.getfield 27, 3) := by decide +kernel
theorem dX6_takeToken_4 : decode cX6_takeToken 4 = .ok (.tableswitch 74 0 3 #[32, 38, 43, 50], 32) := by decide +kernel
theorem dX6_takeToken_36 : decode cX6_takeToken 36 = .ok (.aload_n 0, 1) := by decide +kernel
theorem dX6_takeToken_37 : decode cX6_takeToken 37 = .ok (.aload_n 2, 1) := by decide +kernel
theorem dX6_takeToken_38 : decode cX6_takeToken 38 = .ok (.invokevirtual 48, 3) := by decide +kernel
theorem dX6_takeToken_41 : decode cX6_takeToken 41 = .ok (.ireturn, 1) := by decide +kernel
theorem dX6_takeToken_42 : decode cX6_takeToken 42 = .ok (.aload_n 0, 1) := by decide +kernel
theorem dX6_takeToken_43 : decode cX6_takeToken 43 = .ok (.invokevirtual 52, 3) := by decide +kernel
theorem dX6_takeToken_46 : decode cX6_takeToken 46 = .ok (.ireturn, 1) := by decide +kernel
theorem dX6_takeToken_47 : decode cX6_takeToken 47 = .ok (.aload_n 0, 1) := by decide +kernel
theorem dX6_takeToken_48 : decode cX6_takeToken 48 = .ok (.aload_n 1, 1) := by decide +kernel
theorem dX6_takeToken_49 : decode cX6_takeToken 49 = .ok (.aload_n 2, 1) := by decide +kernel
theorem dX6_takeToken_50 : decode cX6_takeToken 50 = .ok (.invokevirtual 56, 3) := by decide +kernel
theorem dX6_takeToken_53 : decode cX6_takeToken 53 = .ok (.ireturn, 1) := by decide +kernel
theorem dX6_takeToken_54 : decode cX6_takeToken 54 = .ok (.aload_n 0, 1) := by decide +kernel
theorem dX6_takeToken_55 : decode cX6_takeToken 55 = .ok (.getfield 12, 3) := by decide +kernel
theorem dX6_takeToken_58 : decode cX6_takeToken 58 = .ok (.getfield 34, 3) := by decide +kernel
theorem dX6_takeToken_61 : decode cX6_takeToken 61 = .ok (.iconst 3, 1) := by decide +kernel
theorem dX6_takeToken_62 : decode cX6_takeToken 62 = .ok (.if_icmp .ne 10, 3) := by decide +kernel
theorem dX6_takeToken_65 : decode cX6_takeToken 65 = .ok (.aload_n 0, 1) := by decide +kernel
theorem dX6_takeToken_66 : decode cX6_takeToken 66 = .ok (.invokevirtual 52, 3) := by decide +kernel
theorem dX6_takeToken_69 : decode cX6_takeToken 69 = .ok (.goto 8, 3) := by decide +kernel
theorem dX6_takeToken_72 : decode cX6_takeToken 72 = .ok (.aload_n 0, 1) := by decide +kernel
theorem dX6_takeToken_73 : decode cX6_takeToken 73 = .ok (.aload_n 1, 1) := by decide +kernel
theorem dX6_takeToken_74 : decode cX6_takeToken 74 = .ok (.invokevirtual 59, 3) := by decide +kernel
theorem dX6_takeToken_77 : decode cX6_takeToken 77 = .ok (.ireturn, 1) := by decide +kernel
theorem dX6_takeToken_78 : decode cX6_takeToken 78 = .ok (.aload_n 0, 1) := by decide +kernel
theorem dX6_takeToken_79 : decode cX6_takeToken 79 = .ok (.invokevirtual 63, 3) := by decide +kernel
theorem dX6_takeToken_82 : decode cX6_takeToken 82 = .ok (.ireturn, 1) := by decide +kernel
theorem dX6_beginLine_0 : decode cX6_beginLine 0 = .ok (.aload_n 0, 1) := by decide +kernel
theorem dX6_beginLine_1 : decode cX6_beginLine 1 = .ok (.aload_n 1, 1) := by decide +kernel
theorem dX6_beginLine_2 : decode cX6_beginLine 2 = .ok (.invokevirtual 66, 3) := by decide +kernel
theorem dX6_beginLine_5 : decode cX6_beginLine 5 = .ok (.putfield 69, 3) := by decide +kernel
theorem dX6_beginLine_8 : decode cX6_beginLine 8 = .ok (.aload_n 0, 1) := by decide +kernel
theorem dX6_beginLine_9 : decode cX6_beginLine 9 = .ok (.iconst (-1), 1) := by decide +kernel
theorem dX6_beginLine_10 : decode cX6_beginLine 10 = .ok (.putfield 73, 3) := by decide +kernel
theorem dX6_beginLine_13 : decode cX6_beginLine 13 = .ok (.aload_n 0, 1) := by decide +kernel
theorem dX6_beginLine_14 : decode cX6_beginLine 14 = .ok (.getfield 12, 3) := by decide +kernel
theorem dX6_beginLine_17 : decode cX6_beginLine 17 = .ok (.getfield 34, 3) := by decide +kernel
theorem dX6_beginLine_20 : decode cX6_beginLine 20 = .ok (.bipush 7, 2) := by decide +kernel
theorem dX6_beginLine_22 : decode cX6_beginLine 22 = .ok (.if_icmp .eq 15, 3) := by decide +kernel
theorem dX6_beginLine_25 : decode cX6_beginLine 25 = .ok (.aload_n 0, 1) := by decide +kernel
theorem dX6_beginLine_26 : decode cX6_beginLine 26 = .ok (.getfield 12, 3) := by decide +kernel
theorem dX6_beginLine_29 : decode cX6_beginLine 29 = .ok (.getfield 34, 3) := by decide +kernel
theorem dX6_beginLine_32 : decode cX6_beginLine 32 = .ok (.bipush 8, 2) := by decide +kernel
theorem dX6_beginLine_34 : decode cX6_beginLine 34 = .ok (.if_icmp .ne 68, 3) := by decide +kernel
theorem dX6_beginLine_37 : decode cX6_beginLine 37 = .ok (.aload_n 0, 1) := by decide +kernel
theorem dX6_beginLine_38 : decode cX6_beginLine 38 = .ok (.aload_n 0, 1) := by decide +kernel
theorem dX6_beginLine_39 : decode cX6_beginLine 39 = .ok (.getfield 12, 3) := by decide +kernel
theorem dX6_beginLine_42 : decode cX6_beginLine 42 = .ok (.getfield 34, 3) := by decide +kernel
theorem dX6_beginLine_45 : decode cX6_beginLine 45 = .ok (.bipush 7, 2) := by decide +kernel
theorem dX6_beginLine_47 : decode cX6_beginLine 47 = .ok (.if_icmp .ne 7, 3) := by decide +kernel
theorem dX6_beginLine_50 : decode cX6_beginLine 50 = .ok (.iconst 1, 1) := by decide +kernel
theorem dX6_beginLine_51 : decode cX6_beginLine 51 = .ok (.goto 4, 3) := by decide +kernel
theorem dX6_beginLine_54 : decode cX6_beginLine 54 = .ok (.iconst 2, 1) := by decide +kernel
theorem dX6_beginLine_55 : decode cX6_beginLine 55 = .ok (.putfield 76, 3) := by decide +kernel
theorem dX6_beginLine_58 : decode cX6_beginLine 58 = .ok (.aload_n 1, 1) := by decide +kernel
theorem dX6_beginLine_59 : decode cX6_beginLine 59 = .ok (.aload_n 0, 1) := by decide +kernel
theorem dX6_beginLine_60 : decode cX6_beginLine 60 = .ok (.getfield 76, 3) := by decide +kernel
theorem dX6_beginLine_63 : decode cX6_beginLine 63 = .ok (.invokevirtual 79, 3) := by decide +kernel
theorem dX6_beginLine_66 : decode cX6_beginLine 66 = .ok (.aload_n 0, 1) := by decide +kernel
theorem dX6_beginLine_67 : decode cX6_beginLine 67 = .ok (.iconst 1, 1) := by decide +kernel
theorem dX6_beginLine_68 : decode cX6_beginLine 68 = .ok (.putfield 27, 3) := by decide +kernel
theorem dX6_beginLine_71 : decode cX6_beginLine 71 = .ok (.aload_n 0, 1) := by decide +kernel
theorem dX6_beginLine_72 : decode cX6_beginLine 72 = .ok (.getfield 69, 3) := by decide +kernel
theorem dX6_beginLine_75 : decode cX6_beginLine 75 = .ok (.ifCond .eq 21, 3) := by decide +kernel
theorem dX6_beginLine_78 : decode cX6_beginLine 78 = .ok (.aload_n 0, 1) := by decide +kernel
theorem dX6_beginLine_79 : decode cX6_beginLine 79 = .ok (.getfield 12, 3) := by decide +kernel
theorem dX6_beginLine_82 : decode cX6_beginLine 82 = .ok (.iconst 4, 1) := by decide +kernel
theorem dX6_beginLine_83 : decode cX6_beginLine 83 = .ok (.aload_n 0, 1) := by decide +kernel
theorem dX6_beginLine_84 : decode cX6_beginLine 84 = .ok (.getfield 12, 3) := by decide +kernel
theorem dX6_beginLine_87 : decode cX6_beginLine 87 = .ok (.getfield 83, 3) := by decide +kernel
theorem dX6_beginLine_90 : decode cX6_beginLine 90 = .ok (.invokevirtual 86, 3) := by decide +kernel
theorem dX6_beginLine_93 : decode cX6_beginLine 93 = .ok (.ifCond .eq 7, 3) := by decide +kernel
theorem dX6_beginLine_96 : decode cX6_beginLine 96 = .ok (.iconst 1, 1) := by decide +kernel
theorem dX6_beginLine_97 : decode cX6_beginLine 97 = .ok (.goto 4, 3) := by decide +kernel
theorem dX6_beginLine_100 : decode cX6_beginLine 100 = .ok (.iconst 0, 1) := by decide +kernel
theorem dX6_beginLine_101 : decode cX6_beginLine 101 = .ok (.ireturn, 1) := by decide +kernel
theorem dX6_beginLine_102 : decode cX6_beginLine 102 = .ok (.aload_n 0, 1) := by decide +kernel
theorem dX6_beginLine_103 : decode cX6_beginLine 103 = .ok (.iconst 0, 1) := by decide +kernel
theorem dX6_beginLine_104 : decode cX6_beginLine 104 = .ok (.putfield 76, 3) := by decide +kernel
theorem dX6_beginLine_107 : decode cX6_beginLine 107 = .ok (.aload_n 1, 1) := by decide +kernel
theorem dX6_beginLine_108 : decode cX6_beginLine 108 = .ok (.aload_n 0, 1) := by decide +kernel
theorem dX6_beginLine_109 : decode cX6_beginLine 109 = .ok (.getfield 76, 3) := by decide +kernel
theorem dX6_beginLine_112 : decode cX6_beginLine 112 = .ok (.invokevirtual 79, 3) := by decide +kernel
theorem dX6_beginLine_115 : decode cX6_beginLine 115 = .ok (.aload_n 0, 1) := by decide +kernel
theorem dX6_beginLine_116 : decode cX6_beginLine 116 = .ok (.invokevirtual 52, 3) := by decide +kernel
theorem dX6_beginLine_119 : decode cX6_beginLine 119 = .ok (.ireturn, 1) := by decide +kernel
theorem dX6_takeCount_0 : decode cX6_takeCount 0 = .ok (.aload_n 0, 1) := by decide +kernel
theorem dX6_takeCount_1 : decode cX6_takeCount 1 = .ok (.aload_n 0, 1) := by decide +kernel
theorem dX6_takeCount_2 : decode cX6_takeCount 2 = .ok (.getfield 12, 3) := by decide +kernel
theorem dX6_takeCount_5 : decode cX6_takeCount 5 = .ok (.getfield 83, 3) := by decide +kernel
theorem dX6_takeCount_8 : decode cX6_takeCount 8 = .ok (.putfield 90, 3) := by decide +kernel
theorem dX6_takeCount_11 : decode cX6_takeCount 11 = .ok (.aload_n 0, 1) := by decide +kernel
theorem dX6_takeCount_12 : decode cX6_takeCount 12 = .ok (.aload_n 0, 1) := by decide +kernel
theorem dX6_takeCount_13 : decode cX6_takeCount 13 = .ok (.getfield 12, 3) := by decide +kernel
theorem dX6_takeCount_16 : decode cX6_takeCount 16 = .ok (.getfield 93, 3) := by decide +kernel
theorem dX6_takeCount_19 : decode cX6_takeCount 19 = .ok (.putfield 96, 3) := by decide +kernel
theorem dX6_takeCount_22 : decode cX6_takeCount 22 = .ok (.aload_n 0, 1) := by decide +kernel
theorem dX6_takeCount_23 : decode cX6_takeCount 23 = .ok (.aload_n 0, 1) := by decide +kernel
theorem dX6_takeCount_24 : decode cX6_takeCount 24 = .ok (.getfield 12, 3) := by decide +kernel
theorem dX6_takeCount_27 : decode cX6_takeCount 27 = .ok (.getfield 97, 3) := by decide +kernel
theorem dX6_takeCount_30 : decode cX6_takeCount 30 = .ok (.putfield 100, 3) := by decide +kernel
theorem dX6_takeCount_33 : decode cX6_takeCount 33 = .ok (.aload_n 0, 1) := by decide +kernel
theorem dX6_takeCount_34 : decode cX6_takeCount 34 = .ok (.iconst 2, 1) := by decide +kernel
theorem dX6_takeCount_35 : decode cX6_takeCount 35 = .ok (.putfield 27, 3) := by decide +kernel
theorem dX6_takeCount_38 : decode cX6_takeCount 38 = .ok (.aload_n 0, 1) := by decide +kernel
theorem dX6_takeCount_39 : decode cX6_takeCount 39 = .ok (.getfield 12, 3) := by decide +kernel
theorem dX6_takeCount_42 : decode cX6_takeCount 42 = .ok (.iconst 3, 1) := by decide +kernel
theorem dX6_takeCount_43 : decode cX6_takeCount 43 = .ok (.invokevirtual 101, 3) := by decide +kernel
theorem dX6_takeCount_46 : decode cX6_takeCount 46 = .ok (.ireturn, 1) := by decide +kernel
theorem dX6_takeAmount_0 : decode cX6_takeAmount 0 = .ok (.aload_n 0, 1) := by decide +kernel
theorem dX6_takeAmount_1 : decode cX6_takeAmount 1 = .ok (.getfield 12, 3) := by decide +kernel
theorem dX6_takeAmount_4 : decode cX6_takeAmount 4 = .ok (.getfield 34, 3) := by decide +kernel
theorem dX6_takeAmount_7 : decode cX6_takeAmount 7 = .ok (.iconst 2, 1) := by decide +kernel
theorem dX6_takeAmount_8 : decode cX6_takeAmount 8 = .ok (.if_icmp .ne 17, 3) := by decide +kernel
theorem dX6_takeAmount_11 : decode cX6_takeAmount 11 = .ok (.aload_n 1, 1) := by decide +kernel
theorem dX6_takeAmount_12 : decode cX6_takeAmount 12 = .ok (.aload_n 0, 1) := by decide +kernel
theorem dX6_takeAmount_13 : decode cX6_takeAmount 13 = .ok (.getfield 12, 3) := by decide +kernel
theorem dX6_takeAmount_16 : decode cX6_takeAmount 16 = .ok (.getfield 104, 3) := by decide +kernel
theorem dX6_takeAmount_19 : decode cX6_takeAmount 19 = .ok (.invokevirtual 108, 3) := by decide +kernel
theorem dX6_takeAmount_22 : decode cX6_takeAmount 22 = .ok (.goto 4, 3) := by decide +kernel
theorem dX6_takeAmount_25 : decode cX6_takeAmount 25 = .ok (.iconst (-1), 1) := by decide +kernel
theorem dX6_takeAmount_26 : decode cX6_takeAmount 26 = .ok (.istore_n 3, 1) := by decide +kernel
theorem dX6_takeAmount_27 : decode cX6_takeAmount 27 = .ok (.aload_n 0, 1) := by decide +kernel
theorem dX6_takeAmount_28 : decode cX6_takeAmount 28 = .ok (.iload_n 3, 1) := by decide +kernel
theorem dX6_takeAmount_29 : decode cX6_takeAmount 29 = .ok (.iconst (-1), 1) := by decide +kernel
theorem dX6_takeAmount_30 : decode cX6_takeAmount 30 = .ok (.if_icmp .ne 8, 3) := by decide +kernel
theorem dX6_takeAmount_33 : decode cX6_takeAmount 33 = .ok (.bipush 99, 2) := by decide +kernel
theorem dX6_takeAmount_35 : decode cX6_takeAmount 35 = .ok (.goto 9, 3) := by decide +kernel
theorem dX6_takeAmount_38 : decode cX6_takeAmount 38 = .ok (.aload_n 1, 1) := by decide +kernel
theorem dX6_takeAmount_39 : decode cX6_takeAmount 39 = .ok (.getfield 114, 3) := by decide +kernel
theorem dX6_takeAmount_42 : decode cX6_takeAmount 42 = .ok (.iload_n 3, 1) := by decide +kernel
theorem dX6_takeAmount_43 : decode cX6_takeAmount 43 = .ok (.iaload, 1) := by decide +kernel
theorem dX6_takeAmount_44 : decode cX6_takeAmount 44 = .ok (.invokevirtual 118, 3) := by decide +kernel
theorem dX6_takeAmount_47 : decode cX6_takeAmount 47 = .ok (.ifCond .ne 16, 3) := by decide +kernel
theorem dX6_takeAmount_50 : decode cX6_takeAmount 50 = .ok (.aload_n 0, 1) := by decide +kernel
theorem dX6_takeAmount_51 : decode cX6_takeAmount 51 = .ok (.getfield 12, 3) := by decide +kernel
theorem dX6_takeAmount_54 : decode cX6_takeAmount 54 = .ok (.iconst 2, 1) := by decide +kernel
theorem dX6_takeAmount_55 : decode cX6_takeAmount 55 = .ok (.aload_n 0, 1) := by decide +kernel
theorem dX6_takeAmount_56 : decode cX6_takeAmount 56 = .ok (.getfield 90, 3) := by decide +kernel
theorem dX6_takeAmount_59 : decode cX6_takeAmount 59 = .ok (.invokevirtual 86, 3) := by decide +kernel
theorem dX6_takeAmount_62 : decode cX6_takeAmount 62 = .ok (.ireturn, 1) := by decide +kernel
theorem dX6_takeAmount_63 : decode cX6_takeAmount 63 = .ok (.aload_n 0, 1) := by decide +kernel
theorem dX6_takeAmount_64 : decode cX6_takeAmount 64 = .ok (.getfield 69, 3) := by decide +kernel
theorem dX6_takeAmount_67 : decode cX6_takeAmount 67 = .ok (.ifCond .ne 16, 3) := by decide +kernel
theorem dX6_takeAmount_70 : decode cX6_takeAmount 70 = .ok (.aload_n 2, 1) := by decide +kernel
theorem dX6_takeAmount_71 : decode cX6_takeAmount 71 = .ok (.getfield 121, 3) := by decide +kernel
theorem dX6_takeAmount_74 : decode cX6_takeAmount 74 = .ok (.aload_n 0, 1) := by decide +kernel
theorem dX6_takeAmount_75 : decode cX6_takeAmount 75 = .ok (.invokevirtual 124, 3) := by decide +kernel
theorem dX6_takeAmount_78 : decode cX6_takeAmount 78 = .ok (.iadd, 1) := by decide +kernel
theorem dX6_takeAmount_79 : decode cX6_takeAmount 79 = .ok (.iconst 4, 1) := by decide +kernel
theorem dX6_takeAmount_80 : decode cX6_takeAmount 80 = .ok (.if_icmp .le 16, 3) := by decide +kernel
theorem dX6_takeAmount_83 : decode cX6_takeAmount 83 = .ok (.aload_n 0, 1) := by decide +kernel
theorem dX6_takeAmount_84 : decode cX6_takeAmount 84 = .ok (.getfield 12, 3) := by decide +kernel
theorem dX6_takeAmount_87 : decode cX6_takeAmount 87 = .ok (.iconst 4, 1) := by decide +kernel
theorem dX6_takeAmount_88 : decode cX6_takeAmount 88 = .ok (.aload_n 0, 1) := by decide +kernel
theorem dX6_takeAmount_89 : decode cX6_takeAmount 89 = .ok (.getfield 90, 3) := by decide +kernel
theorem dX6_takeAmount_92 : decode cX6_takeAmount 92 = .ok (.invokevirtual 86, 3) := by decide +kernel
theorem dX6_takeAmount_95 : decode cX6_takeAmount 95 = .ok (.ireturn, 1) := by decide +kernel
theorem dX6_takeAmount_96 : decode cX6_takeAmount 96 = .ok (.aload_n 0, 1) := by decide +kernel
theorem dX6_takeAmount_97 : decode cX6_takeAmount 97 = .ok (.getfield 12, 3) := by decide +kernel
theorem dX6_takeAmount_100 : decode cX6_takeAmount 100 = .ok (.iconst 2, 1) := by decide +kernel
theorem dX6_takeAmount_101 : decode cX6_takeAmount 101 = .ok (.invokevirtual 101, 3) := by decide +kernel
theorem dX6_takeAmount_104 : decode cX6_takeAmount 104 = .ok (.ifCond .ne 5, 3) := by decide +kernel
theorem dX6_takeAmount_107 : decode cX6_takeAmount 107 = .ok (.iconst 0, 1) := by decide +kernel
theorem dX6_takeAmount_108 : decode cX6_takeAmount 108 = .ok (.ireturn, 1) := by decide +kernel
theorem dX6_takeAmount_109 : decode cX6_takeAmount 109 = .ok (.iload_n 3, 1) := by decide +kernel
theorem dX6_takeAmount_110 : decode cX6_takeAmount 110 = .ok (.iconst (-1), 1) := by decide +kernel
theorem dX6_takeAmount_111 : decode cX6_takeAmount 111 = .ok (.if_icmp .eq 22, 3) := by decide +kernel
theorem dX6_takeAmount_114 : decode cX6_takeAmount 114 = .ok (.aload_n 0, 1) := by decide +kernel
theorem dX6_takeAmount_115 : decode cX6_takeAmount 115 = .ok (.getfield 73, 3) := by decide +kernel
theorem dX6_takeAmount_118 : decode cX6_takeAmount 118 = .ok (.iconst (-1), 1) := by decide +kernel
theorem dX6_takeAmount_119 : decode cX6_takeAmount 119 = .ok (.if_icmp .eq 30, 3) := by decide +kernel
theorem dX6_takeAmount_122 : decode cX6_takeAmount 122 = .ok (.iload_n 3, 1) := by decide +kernel
theorem dX6_takeAmount_123 : decode cX6_takeAmount 123 = .ok (.aload_n 0, 1) := by decide +kernel
theorem dX6_takeAmount_124 : decode cX6_takeAmount 124 = .ok (.getfield 73, 3) := by decide +kernel
theorem dX6_takeAmount_127 : decode cX6_takeAmount 127 = .ok (.invokestatic 128, 3) := by decide +kernel
theorem dX6_takeAmount_130 : decode cX6_takeAmount 130 = .ok (.ifCond .ne 19, 3) := by decide +kernel
theorem dX6_takeAmount_133 : decode cX6_takeAmount 133 = .ok (.aload_n 0, 1) := by decide +kernel
theorem dX6_takeAmount_134 : decode cX6_takeAmount 134 = .ok (.getfield 12, 3) := by decide +kernel
theorem dX6_takeAmount_137 : decode cX6_takeAmount 137 = .ok (.iconst 3, 1) := by decide +kernel
theorem dX6_takeAmount_138 : decode cX6_takeAmount 138 = .ok (.aload_n 0, 1) := by decide +kernel
theorem dX6_takeAmount_139 : decode cX6_takeAmount 139 = .ok (.getfield 12, 3) := by decide +kernel
theorem dX6_takeAmount_142 : decode cX6_takeAmount 142 = .ok (.getfield 83, 3) := by decide +kernel
theorem dX6_takeAmount_145 : decode cX6_takeAmount 145 = .ok (.invokevirtual 86, 3) := by decide +kernel
theorem dX6_takeAmount_148 : decode cX6_takeAmount 148 = .ok (.ireturn, 1) := by decide +kernel
theorem dX6_takeAmount_149 : decode cX6_takeAmount 149 = .ok (.aload_n 0, 1) := by decide +kernel
theorem dX6_takeAmount_150 : decode cX6_takeAmount 150 = .ok (.aload_n 1, 1) := by decide +kernel
theorem dX6_takeAmount_151 : decode cX6_takeAmount 151 = .ok (.iload_n 3, 1) := by decide +kernel
theorem dX6_takeAmount_152 : decode cX6_takeAmount 152 = .ok (.aload_n 2, 1) := by decide +kernel
theorem dX6_takeAmount_153 : decode cX6_takeAmount 153 = .ok (.invokevirtual 131, 3) := by decide +kernel
theorem dX6_takeAmount_156 : decode cX6_takeAmount 156 = .ok (.aload_n 0, 1) := by decide +kernel
theorem dX6_takeAmount_157 : decode cX6_takeAmount 157 = .ok (.iload_n 3, 1) := by decide +kernel
theorem dX6_takeAmount_158 : decode cX6_takeAmount 158 = .ok (.putfield 73, 3) := by decide +kernel
theorem dX6_takeAmount_161 : decode cX6_takeAmount 161 = .ok (.aload_n 0, 1) := by decide +kernel
theorem dX6_takeAmount_162 : decode cX6_takeAmount 162 = .ok (.iconst 3, 1) := by decide +kernel
theorem dX6_takeAmount_163 : decode cX6_takeAmount 163 = .ok (.putfield 27, 3) := by decide +kernel
theorem dX6_takeAmount_166 : decode cX6_takeAmount 166 = .ok (.iconst 1, 1) := by decide +kernel
theorem dX6_takeAmount_167 : decode cX6_takeAmount 167 = .ok (.ireturn, 1) := by decide +kernel
theorem dX6_canCountBe_0 : decode cX6_canCountBe 0 = .ok (.aload_n 0, 1) := by decide +kernel
theorem dX6_canCountBe_1 : decode cX6_canCountBe 1 = .ok (.getfield 96, 3) := by decide +kernel
theorem dX6_canCountBe_4 : decode cX6_canCountBe 4 = .ok (.iconst (-1), 1) := by decide +kernel
theorem dX6_canCountBe_5 : decode cX6_canCountBe 5 = .ok (.if_icmp .ne 34, 3) := by decide +kernel
theorem dX6_canCountBe_8 : decode cX6_canCountBe 8 = .ok (.aload_n 0, 1) := by decide +kernel
theorem dX6_canCountBe_9 : decode cX6_canCountBe 9 = .ok (.getfield 100, 3) := by decide +kernel
theorem dX6_canCountBe_12 : decode cX6_canCountBe 12 = .ok (.bipush 10, 2) := by decide +kernel
theorem dX6_canCountBe_14 : decode cX6_canCountBe 14 = .ok (.if_icmp .eq 19, 3) := by decide +kernel
theorem dX6_canCountBe_17 : decode cX6_canCountBe 17 = .ok (.aload_n 0, 1) := by decide +kernel
theorem dX6_canCountBe_18 : decode cX6_canCountBe 18 = .ok (.getfield 100, 3) := by decide +kernel
theorem dX6_canCountBe_21 : decode cX6_canCountBe 21 = .ok (.iconst 1, 1) := by decide +kernel
theorem dX6_canCountBe_22 : decode cX6_canCountBe 22 = .ok (.if_icmp .lt 15, 3) := by decide +kernel
theorem dX6_canCountBe_25 : decode cX6_canCountBe 25 = .ok (.aload_n 0, 1) := by decide +kernel
theorem dX6_canCountBe_26 : decode cX6_canCountBe 26 = .ok (.getfield 100, 3) := by decide +kernel
theorem dX6_canCountBe_29 : decode cX6_canCountBe 29 = .ok (.iload_n 1, 1) := by decide +kernel
theorem dX6_canCountBe_30 : decode cX6_canCountBe 30 = .ok (.if_icmp .gt 7, 3) := by decide +kernel
theorem dX6_canCountBe_33 : decode cX6_canCountBe 33 = .ok (.iconst 1, 1) := by decide +kernel
theorem dX6_canCountBe_34 : decode cX6_canCountBe 34 = .ok (.goto 4, 3) := by decide +kernel
theorem dX6_canCountBe_37 : decode cX6_canCountBe 37 = .ok (.iconst 0, 1) := by decide +kernel
theorem dX6_canCountBe_38 : decode cX6_canCountBe 38 = .ok (.ireturn, 1) := by decide +kernel
theorem dX6_canCountBe_39 : decode cX6_canCountBe 39 = .ok (.aload_n 0, 1) := by decide +kernel
theorem dX6_canCountBe_40 : decode cX6_canCountBe 40 = .ok (.getfield 96, 3) := by decide +kernel
theorem dX6_canCountBe_43 : decode cX6_canCountBe 43 = .ok (.bipush 10, 2) := by decide +kernel
theorem dX6_canCountBe_45 : decode cX6_canCountBe 45 = .ok (.if_icmp .ne 7, 3) := by decide +kernel
theorem dX6_canCountBe_48 : decode cX6_canCountBe 48 = .ok (.iconst 1, 1) := by decide +kernel
theorem dX6_canCountBe_49 : decode cX6_canCountBe 49 = .ok (.goto 7, 3) := by decide +kernel
theorem dX6_canCountBe_52 : decode cX6_canCountBe 52 = .ok (.aload_n 0, 1) := by decide +kernel
theorem dX6_canCountBe_53 : decode cX6_canCountBe 53 = .ok (.getfield 96, 3) := by decide +kernel
theorem dX6_canCountBe_56 : decode cX6_canCountBe 56 = .ok (.istore_n 2, 1) := by decide +kernel
theorem dX6_canCountBe_57 : decode cX6_canCountBe 57 = .ok (.aload_n 0, 1) := by decide +kernel
theorem dX6_canCountBe_58 : decode cX6_canCountBe 58 = .ok (.getfield 100, 3) := by decide +kernel
theorem dX6_canCountBe_61 : decode cX6_canCountBe 61 = .ok (.bipush 10, 2) := by decide +kernel
theorem dX6_canCountBe_63 : decode cX6_canCountBe 63 = .ok (.if_icmp .ne 7, 3) := by decide +kernel
theorem dX6_canCountBe_66 : decode cX6_canCountBe 66 = .ok (.iconst 0, 1) := by decide +kernel
theorem dX6_canCountBe_67 : decode cX6_canCountBe 67 = .ok (.goto 7, 3) := by decide +kernel
theorem dX6_canCountBe_70 : decode cX6_canCountBe 70 = .ok (.aload_n 0, 1) := by decide +kernel
theorem dX6_canCountBe_71 : decode cX6_canCountBe 71 = .ok (.getfield 100, 3) := by decide +kernel
theorem dX6_canCountBe_74 : decode cX6_canCountBe 74 = .ok (.istore_n 3, 1) := by decide +kernel
theorem dX6_canCountBe_75 : decode cX6_canCountBe 75 = .ok (.iload_n 2, 1) := by decide +kernel
theorem dX6_canCountBe_76 : decode cX6_canCountBe 76 = .ok (.iconst 1, 1) := by decide +kernel
theorem dX6_canCountBe_77 : decode cX6_canCountBe 77 = .ok (.if_icmp .lt 17, 3) := by decide +kernel
theorem dX6_canCountBe_80 : decode cX6_canCountBe 80 = .ok (.bipush 10, 2) := by decide +kernel
theorem dX6_canCountBe_82 : decode cX6_canCountBe 82 = .ok (.iload_n 2, 1) := by decide +kernel
theorem dX6_canCountBe_83 : decode cX6_canCountBe 83 = .ok (.imul, 1) := by decide +kernel
theorem dX6_canCountBe_84 : decode cX6_canCountBe 84 = .ok (.iload_n 3, 1) := by decide +kernel
theorem dX6_canCountBe_85 : decode cX6_canCountBe 85 = .ok (.iadd, 1) := by decide +kernel
theorem dX6_canCountBe_86 : decode cX6_canCountBe 86 = .ok (.iload_n 1, 1) := by decide +kernel
theorem dX6_canCountBe_87 : decode cX6_canCountBe 87 = .ok (.if_icmp .gt 7, 3) := by decide +kernel
theorem dX6_canCountBe_90 : decode cX6_canCountBe 90 = .ok (.iconst 1, 1) := by decide +kernel
theorem dX6_canCountBe_91 : decode cX6_canCountBe 91 = .ok (.goto 4, 3) := by decide +kernel
theorem dX6_canCountBe_94 : decode cX6_canCountBe 94 = .ok (.iconst 0, 1) := by decide +kernel
theorem dX6_canCountBe_95 : decode cX6_canCountBe 95 = .ok (.ireturn, 1) := by decide +kernel
theorem dX6_brokenDigits_0 : decode cX6_brokenDigits 0 = .ok (.aload_n 0, 1) := by decide +kernel
theorem dX6_brokenDigits_1 : decode cX6_brokenDigits 1 = .ok (.getfield 96, 3) := by decide +kernel
theorem dX6_brokenDigits_4 : decode cX6_brokenDigits 4 = .ok (.bipush 10, 2) := by decide +kernel
theorem dX6_brokenDigits_6 : decode cX6_brokenDigits 6 = .ok (.if_icmp .ne 7, 3) := by decide +kernel
theorem dX6_brokenDigits_9 : decode cX6_brokenDigits 9 = .ok (.iconst 1, 1) := by decide +kernel
theorem dX6_brokenDigits_10 : decode cX6_brokenDigits 10 = .ok (.goto 4, 3) := by decide +kernel
theorem dX6_brokenDigits_13 : decode cX6_brokenDigits 13 = .ok (.iconst 0, 1) := by decide +kernel
theorem dX6_brokenDigits_14 : decode cX6_brokenDigits 14 = .ok (.aload_n 0, 1) := by decide +kernel
theorem dX6_brokenDigits_15 : decode cX6_brokenDigits 15 = .ok (.getfield 100, 3) := by decide +kernel
theorem dX6_brokenDigits_18 : decode cX6_brokenDigits 18 = .ok (.bipush 10, 2) := by decide +kernel
theorem dX6_brokenDigits_20 : decode cX6_brokenDigits 20 = .ok (.if_icmp .ne 7, 3) := by decide +kernel
theorem dX6_brokenDigits_23 : decode cX6_brokenDigits 23 = .ok (.iconst 1, 1) := by decide +kernel
theorem dX6_brokenDigits_24 : decode cX6_brokenDigits 24 = .ok (.goto 4, 3) := by decide +kernel
theorem dX6_brokenDigits_27 : decode cX6_brokenDigits 27 = .ok (.iconst 0, 1) := by decide +kernel
theorem dX6_brokenDigits_28 : decode cX6_brokenDigits 28 = .ok (.iadd, 1) := by decide +kernel
theorem dX6_brokenDigits_29 : decode cX6_brokenDigits 29 = .ok (.ireturn, 1) := by decide +kernel
theorem dX6_isLesser_0 : decode cX6_isLesser 0 = .ok (.iload_n 0, 1) := by decide +kernel
theorem dX6_isLesser_1 : decode cX6_isLesser 1 = .ok (.iload_n 1, 1) := by decide +kernel
theorem dX6_isLesser_2 : decode cX6_isLesser 2 = .ok (.if_icmp .ge 18, 3) := by decide +kernel
theorem dX6_isLesser_5 : decode cX6_isLesser 5 = .ok (.iload_n 0, 1) := by decide +kernel
theorem dX6_isLesser_6 : decode cX6_isLesser 6 = .ok (.invokestatic 135, 3) := by decide +kernel
theorem dX6_isLesser_9 : decode cX6_isLesser 9 = .ok (.iload_n 1, 1) := by decide +kernel
theorem dX6_isLesser_10 : decode cX6_isLesser 10 = .ok (.invokestatic 135, 3) := by decide +kernel
theorem dX6_isLesser_13 : decode cX6_isLesser 13 = .ok (.if_icmp .ne 7, 3) := by decide +kernel
theorem dX6_isLesser_16 : decode cX6_isLesser 16 = .ok (.iconst 1, 1) := by decide +kernel
theorem dX6_isLesser_17 : decode cX6_isLesser 17 = .ok (.goto 4, 3) := by decide +kernel
theorem dX6_isLesser_20 : decode cX6_isLesser 20 = .ok (.iconst 0, 1) := by decide +kernel
theorem dX6_isLesser_21 : decode cX6_isLesser 21 = .ok (.ireturn, 1) := by decide +kernel
theorem dX6_addAmount_0 : decode cX6_addAmount 0 = .ok (.aload_n 1, 1) := by decide +kernel
theorem dX6_addAmount_1 : decode cX6_addAmount 1 = .ok (.getfield 139, 3) := by decide +kernel
theorem dX6_addAmount_4 : decode cX6_addAmount 4 = .ok (.iload_n 2, 1) := by decide +kernel
theorem dX6_addAmount_5 : decode cX6_addAmount 5 = .ok (.iaload, 1) := by decide +kernel
theorem dX6_addAmount_6 : decode cX6_addAmount 6 = .ok (.istore 4, 2) := by decide +kernel
theorem dX6_addAmount_8 : decode cX6_addAmount 8 = .ok (.aload_n 1, 1) := by decide +kernel
theorem dX6_addAmount_9 : decode cX6_addAmount 9 = .ok (.getfield 114, 3) := by decide +kernel
theorem dX6_addAmount_12 : decode cX6_addAmount 12 = .ok (.iload_n 2, 1) := by decide +kernel
theorem dX6_addAmount_13 : decode cX6_addAmount 13 = .ok (.iaload, 1) := by decide +kernel
theorem dX6_addAmount_14 : decode cX6_addAmount 14 = .ok (.istore 5, 2) := by decide +kernel
theorem dX6_addAmount_16 : decode cX6_addAmount 16 = .ok (.aload_n 0, 1) := by decide +kernel
theorem dX6_addAmount_17 : decode cX6_addAmount 17 = .ok (.getfield 96, 3) := by decide +kernel
theorem dX6_addAmount_20 : decode cX6_addAmount 20 = .ok (.iconst (-1), 1) := by decide +kernel
theorem dX6_addAmount_21 : decode cX6_addAmount 21 = .ok (.if_icmp .eq 12, 3) := by decide +kernel
theorem dX6_addAmount_24 : decode cX6_addAmount 24 = .ok (.aload_n 0, 1) := by decide +kernel
theorem dX6_addAmount_25 : decode cX6_addAmount 25 = .ok (.getfield 96, 3) := by decide +kernel
theorem dX6_addAmount_28 : decode cX6_addAmount 28 = .ok (.bipush 10, 2) := by decide +kernel
theorem dX6_addAmount_30 : decode cX6_addAmount 30 = .ok (.if_icmp .ne 7, 3) := by decide +kernel
theorem dX6_addAmount_33 : decode cX6_addAmount 33 = .ok (.iconst 0, 1) := by decide +kernel
theorem dX6_addAmount_34 : decode cX6_addAmount 34 = .ok (.goto 10, 3) := by decide +kernel
theorem dX6_addAmount_37 : decode cX6_addAmount 37 = .ok (.bipush 10, 2) := by decide +kernel
theorem dX6_addAmount_39 : decode cX6_addAmount 39 = .ok (.aload_n 0, 1) := by decide +kernel
theorem dX6_addAmount_40 : decode cX6_addAmount 40 = .ok (.getfield 96, 3) := by decide +kernel
theorem dX6_addAmount_43 : decode cX6_addAmount 43 = .ok (.imul, 1) := by decide +kernel
theorem dX6_addAmount_44 : decode cX6_addAmount 44 = .ok (.istore 6, 2) := by decide +kernel
theorem dX6_addAmount_46 : decode cX6_addAmount 46 = .ok (.aload_n 0, 1) := by decide +kernel
theorem dX6_addAmount_47 : decode cX6_addAmount 47 = .ok (.getfield 100, 3) := by decide +kernel
theorem dX6_addAmount_50 : decode cX6_addAmount 50 = .ok (.bipush 10, 2) := by decide +kernel
theorem dX6_addAmount_52 : decode cX6_addAmount 52 = .ok (.if_icmp .ne 7, 3) := by decide +kernel
theorem dX6_addAmount_55 : decode cX6_addAmount 55 = .ok (.iconst 0, 1) := by decide +kernel
theorem dX6_addAmount_56 : decode cX6_addAmount 56 = .ok (.goto 7, 3) := by decide +kernel
theorem dX6_addAmount_59 : decode cX6_addAmount 59 = .ok (.aload_n 0, 1) := by decide +kernel
theorem dX6_addAmount_60 : decode cX6_addAmount 60 = .ok (.getfield 100, 3) := by decide +kernel
theorem dX6_addAmount_63 : decode cX6_addAmount 63 = .ok (.istore 7, 2) := by decide +kernel
theorem dX6_addAmount_65 : decode cX6_addAmount 65 = .ok (.aload_n 3, 1) := by decide +kernel
theorem dX6_addAmount_66 : decode cX6_addAmount 66 = .ok (.iload_n 2, 1) := by decide +kernel
theorem dX6_addAmount_67 : decode cX6_addAmount 67 = .ok (.invokestatic 135, 3) := by decide +kernel
theorem dX6_addAmount_70 : decode cX6_addAmount 70 = .ok (.iload 6, 2) := by decide +kernel
theorem dX6_addAmount_72 : decode cX6_addAmount 72 = .ok (.iload 7, 2) := by decide +kernel
theorem dX6_addAmount_74 : decode cX6_addAmount 74 = .ok (.iadd, 1) := by decide +kernel
theorem dX6_addAmount_75 : decode cX6_addAmount 75 = .ok (.iload 4, 2) := by decide +kernel
theorem dX6_addAmount_77 : decode cX6_addAmount 77 = .ok (.imul, 1) := by decide +kernel
theorem dX6_addAmount_78 : decode cX6_addAmount 78 = .ok (.invokevirtual 142, 3) := by decide +kernel
theorem dX6_addAmount_81 : decode cX6_addAmount 81 = .ok (.aload_n 0, 1) := by decide +kernel
theorem dX6_addAmount_82 : decode cX6_addAmount 82 = .ok (.getfield 96, 3) := by decide +kernel
theorem dX6_addAmount_85 : decode cX6_addAmount 85 = .ok (.bipush 10, 2) := by decide +kernel
theorem dX6_addAmount_87 : decode cX6_addAmount 87 = .ok (.if_icmp .ne 21, 3) := by decide +kernel
theorem dX6_addAmount_90 : decode cX6_addAmount 90 = .ok (.aload_n 3, 1) := by decide +kernel
theorem dX6_addAmount_91 : decode cX6_addAmount 91 = .ok (.bipush 10, 2) := by decide +kernel
theorem dX6_addAmount_93 : decode cX6_addAmount 93 = .ok (.iload 4, 2) := by decide +kernel
theorem dX6_addAmount_95 : decode cX6_addAmount 95 = .ok (.invokevirtual 146, 3) := by decide +kernel
theorem dX6_addAmount_98 : decode cX6_addAmount 98 = .ok (.iconst 1, 1) := by decide +kernel
theorem dX6_addAmount_99 : decode cX6_addAmount 99 = .ok (.iload 5, 2) := by decide +kernel
theorem dX6_addAmount_101 : decode cX6_addAmount 101 = .ok (.iload 7, 2) := by decide +kernel
theorem dX6_addAmount_103 : decode cX6_addAmount 103 = .ok (.isub, 1) := by decide +kernel
theorem dX6_addAmount_104 : decode cX6_addAmount 104 = .ok (.iconst 0, 1) := by decide +kernel
theorem dX6_addAmount_105 : decode cX6_addAmount 105 = .ok (.invokevirtual 150, 3) := by decide +kernel
theorem dX6_addAmount_108 : decode cX6_addAmount 108 = .ok (.aload_n 0, 1) := by decide +kernel
theorem dX6_addAmount_109 : decode cX6_addAmount 109 = .ok (.getfield 100, 3) := by decide +kernel
theorem dX6_addAmount_112 : decode cX6_addAmount 112 = .ok (.bipush 10, 2) := by decide +kernel
theorem dX6_addAmount_114 : decode cX6_addAmount 114 = .ok (.if_icmp .ne 49, 3) := by decide +kernel
theorem dX6_addAmount_117 : decode cX6_addAmount 117 = .ok (.aload_n 0, 1) := by decide +kernel
theorem dX6_addAmount_118 : decode cX6_addAmount 118 = .ok (.getfield 96, 3) := by decide +kernel
theorem dX6_addAmount_121 : decode cX6_addAmount 121 = .ok (.iconst (-1), 1) := by decide +kernel
theorem dX6_addAmount_122 : decode cX6_addAmount 122 = .ok (.if_icmp .ne 7, 3) := by decide +kernel
theorem dX6_addAmount_125 : decode cX6_addAmount 125 = .ok (.iconst 1, 1) := by decide +kernel
theorem dX6_addAmount_126 : decode cX6_addAmount 126 = .ok (.goto 4, 3) := by decide +kernel
theorem dX6_addAmount_129 : decode cX6_addAmount 129 = .ok (.iconst 0, 1) := by decide +kernel
theorem dX6_addAmount_130 : decode cX6_addAmount 130 = .ok (.istore 8, 2) := by decide +kernel
theorem dX6_addAmount_132 : decode cX6_addAmount 132 = .ok (.aload_n 3, 1) := by decide +kernel
theorem dX6_addAmount_133 : decode cX6_addAmount 133 = .ok (.iconst 1, 1) := by decide +kernel
theorem dX6_addAmount_134 : decode cX6_addAmount 134 = .ok (.iload 4, 2) := by decide +kernel
theorem dX6_addAmount_136 : decode cX6_addAmount 136 = .ok (.invokevirtual 146, 3) := by decide +kernel
theorem dX6_addAmount_139 : decode cX6_addAmount 139 = .ok (.iload 8, 2) := by decide +kernel
theorem dX6_addAmount_141 : decode cX6_addAmount 141 = .ok (.iload 5, 2) := by decide +kernel
theorem dX6_addAmount_143 : decode cX6_addAmount 143 = .ok (.iload 6, 2) := by decide +kernel
theorem dX6_addAmount_145 : decode cX6_addAmount 145 = .ok (.isub, 1) := by decide +kernel
theorem dX6_addAmount_146 : decode cX6_addAmount 146 = .ok (.aload_n 0, 1) := by decide +kernel
theorem dX6_addAmount_147 : decode cX6_addAmount 147 = .ok (.getfield 96, 3) := by decide +kernel
theorem dX6_addAmount_150 : decode cX6_addAmount 150 = .ok (.bipush 10, 2) := by decide +kernel
theorem dX6_addAmount_152 : decode cX6_addAmount 152 = .ok (.if_icmp .ne 7, 3) := by decide +kernel
theorem dX6_addAmount_155 : decode cX6_addAmount 155 = .ok (.iconst 1, 1) := by decide +kernel
theorem dX6_addAmount_156 : decode cX6_addAmount 156 = .ok (.goto 4, 3) := by decide +kernel
theorem dX6_addAmount_159 : decode cX6_addAmount 159 = .ok (.iconst 0, 1) := by decide +kernel
theorem dX6_addAmount_160 : decode cX6_addAmount 160 = .ok (.invokevirtual 150, 3) := by decide +kernel
theorem dX6_addAmount_163 : decode cX6_addAmount 163 = .ok (.return_, 1) := by decide +kernel
theorem dX6_takeNameOrEnd_0 : decode cX6_takeNameOrEnd 0 = .ok (.aload_n 0, 1) := by decide +kernel
theorem dX6_takeNameOrEnd_1 : decode cX6_takeNameOrEnd 1 = .ok (.getfield 76, 3) := by decide +kernel
theorem dX6_takeNameOrEnd_4 : decode cX6_takeNameOrEnd 4 = .ok (.ifCond .ne 14, 3) := by decide +kernel
theorem dX6_takeNameOrEnd_7 : decode cX6_takeNameOrEnd 7 = .ok (.aload_n 0, 1) := by decide +kernel
theorem dX6_takeNameOrEnd_8 : decode cX6_takeNameOrEnd 8 = .ok (.getfield 12, 3) := by decide +kernel
theorem dX6_takeNameOrEnd_11 : decode cX6_takeNameOrEnd 11 = .ok (.getfield 34, 3) := by decide +kernel
theorem dX6_takeNameOrEnd_14 : decode cX6_takeNameOrEnd 14 = .ok (.iconst 2, 1) := by decide +kernel
theorem dX6_takeNameOrEnd_15 : decode cX6_takeNameOrEnd 15 = .ok (.if_icmp .eq 8, 3) := by decide +kernel
theorem dX6_takeNameOrEnd_18 : decode cX6_takeNameOrEnd 18 = .ok (.aload_n 0, 1) := by decide +kernel
theorem dX6_takeNameOrEnd_19 : decode cX6_takeNameOrEnd 19 = .ok (.invokevirtual 63, 3) := by decide +kernel
theorem dX6_takeNameOrEnd_22 : decode cX6_takeNameOrEnd 22 = .ok (.ireturn, 1) := by decide +kernel
theorem dX6_takeNameOrEnd_23 : decode cX6_takeNameOrEnd 23 = .ok (.aload_n 0, 1) := by decide +kernel
theorem dX6_takeNameOrEnd_24 : decode cX6_takeNameOrEnd 24 = .ok (.iconst 4, 1) := by decide +kernel
theorem dX6_takeNameOrEnd_25 : decode cX6_takeNameOrEnd 25 = .ok (.putfield 27, 3) := by decide +kernel
theorem dX6_takeNameOrEnd_28 : decode cX6_takeNameOrEnd 28 = .ok (.aload_n 1, 1) := by decide +kernel
theorem dX6_takeNameOrEnd_29 : decode cX6_takeNameOrEnd 29 = .ok (.aload_n 0, 1) := by decide +kernel
theorem dX6_takeNameOrEnd_30 : decode cX6_takeNameOrEnd 30 = .ok (.getfield 12, 3) := by decide +kernel
theorem dX6_takeNameOrEnd_33 : decode cX6_takeNameOrEnd 33 = .ok (.getfield 104, 3) := by decide +kernel
theorem dX6_takeNameOrEnd_36 : decode cX6_takeNameOrEnd 36 = .ok (.invokevirtual 108, 3) := by decide +kernel
theorem dX6_takeNameOrEnd_39 : decode cX6_takeNameOrEnd 39 = .ok (.iconst (-1), 1) := by decide +kernel
theorem dX6_takeNameOrEnd_40 : decode cX6_takeNameOrEnd 40 = .ok (.if_icmp .eq 21, 3) := by decide +kernel
theorem dX6_takeNameOrEnd_43 : decode cX6_takeNameOrEnd 43 = .ok (.aload_n 0, 1) := by decide +kernel
theorem dX6_takeNameOrEnd_44 : decode cX6_takeNameOrEnd 44 = .ok (.getfield 12, 3) := by decide +kernel
theorem dX6_takeNameOrEnd_47 : decode cX6_takeNameOrEnd 47 = .ok (.iconst 1, 1) := by decide +kernel
theorem dX6_takeNameOrEnd_48 : decode cX6_takeNameOrEnd 48 = .ok (.aload_n 0, 1) := by decide +kernel
theorem dX6_takeNameOrEnd_49 : decode cX6_takeNameOrEnd 49 = .ok (.getfield 12, 3) := by decide +kernel
theorem dX6_takeNameOrEnd_52 : decode cX6_takeNameOrEnd 52 = .ok (.getfield 83, 3) := by decide +kernel
theorem dX6_takeNameOrEnd_55 : decode cX6_takeNameOrEnd 55 = .ok (.invokevirtual 86, 3) := by decide +kernel
theorem dX6_takeNameOrEnd_58 : decode cX6_takeNameOrEnd 58 = .ok (.ifCond .eq 7, 3) := by decide +kernel
theorem dX6_takeNameOrEnd_61 : decode cX6_takeNameOrEnd 61 = .ok (.iconst 1, 1) := by decide +kernel
theorem dX6_takeNameOrEnd_62 : decode cX6_takeNameOrEnd 62 = .ok (.goto 4, 3) := by decide +kernel
theorem dX6_takeNameOrEnd_65 : decode cX6_takeNameOrEnd 65 = .ok (.iconst 0, 1) := by decide +kernel
theorem dX6_takeNameOrEnd_66 : decode cX6_takeNameOrEnd 66 = .ok (.ireturn, 1) := by decide +kernel
theorem dX6_endLine_0 : decode cX6_endLine 0 = .ok (.aload_n 0, 1) := by decide +kernel
theorem dX6_endLine_1 : decode cX6_endLine 1 = .ok (.iconst 0, 1) := by decide +kernel
theorem dX6_endLine_2 : decode cX6_endLine 2 = .ok (.putfield 27, 3) := by decide +kernel
theorem dX6_endLine_5 : decode cX6_endLine 5 = .ok (.aload_n 0, 1) := by decide +kernel
theorem dX6_endLine_6 : decode cX6_endLine 6 = .ok (.getfield 12, 3) := by decide +kernel
theorem dX6_endLine_9 : decode cX6_endLine 9 = .ok (.iconst 5, 1) := by decide +kernel
theorem dX6_endLine_10 : decode cX6_endLine 10 = .ok (.invokevirtual 101, 3) := by decide +kernel
theorem dX6_endLine_13 : decode cX6_endLine 13 = .ok (.ireturn, 1) := by decide +kernel
theorem dX7_init_0 : decode cX7_init 0 = .ok (.aload_n 0, 1) := by decide +kernel
theorem dX7_init_1 : decode cX7_init 1 = .ok (.invokespecial 3, 3) := by decide +kernel
theorem dX7_init_4 : decode cX7_init 4 = .ok (.aload_n 0, 1) := by decide +kernel
theorem dX7_init_5 : decode cX7_init 5 = .ok (.iconst 0, 1) := by decide +kernel
theorem dX7_init_6 : decode cX7_init 6 = .ok (.iload_n 1, 1) := by decide +kernel
theorem dX7_init_7 : decode cX7_init 7 = .ok (.invokestatic 9, 3) := by decide +kernel
theorem dX7_init_10 : decode cX7_init 10 = .ok (.newarray .byte, 2) := by decide +kernel
theorem dX7_init_12 : decode cX7_init 12 = .ok (.putfield 15, 3) := by decide +kernel
theorem dX7_init_15 : decode cX7_init 15 = .ok (.aload_n 0, 1) := by decide +kernel
theorem dX7_init_16 : decode cX7_init 16 = .ok (.iconst 0, 1) := by decide +kernel
theorem dX7_init_17 : decode cX7_init 17 = .ok (.putfield 21, 3) := by decide +kernel
theorem dX7_init_20 : decode cX7_init 20 = .ok (.return_, 1) := by decide +kernel
theorem dX7_clear_0 : decode cX7_clear 0 = .ok (.aload_n 0, 1) := by decide +kernel
theorem dX7_clear_1 : decode cX7_clear 1 = .ok (.iconst 0, 1) := by decide +kernel
theorem dX7_clear_2 : decode cX7_clear 2 = .ok (.putfield 21, 3) := by decide +kernel
theorem dX7_clear_5 : decode cX7_clear 5 = .ok (.return_, 1) := by decide +kernel
theorem dX7_put_0 : decode cX7_put 0 = .ok (.aload_n 0, 1) := by decide +kernel
theorem dX7_put_1 : decode cX7_put 1 = .ok (.getfield 21, 3) := by decide +kernel
theorem dX7_put_4 : decode cX7_put 4 = .ok (.aload_n 0, 1) := by decide +kernel
theorem dX7_put_5 : decode cX7_put 5 = .ok (.getfield 15, 3) := by decide +kernel
theorem dX7_put_8 : decode cX7_put 8 = .ok (.arraylength, 1) := by decide +kernel
theorem dX7_put_9 : decode cX7_put 9 = .ok (.if_icmp .ge 24, 3) := by decide +kernel
theorem dX7_put_12 : decode cX7_put 12 = .ok (.aload_n 0, 1) := by decide +kernel
theorem dX7_put_13 : decode cX7_put 13 = .ok (.getfield 15, 3) := by decide +kernel
theorem dX7_put_16 : decode cX7_put 16 = .ok (.aload_n 0, 1) := by decide +kernel
theorem dX7_put_17 : decode cX7_put 17 = .ok (.getfield 21, 3) := by decide +kernel
theorem dX7_put_20 : decode cX7_put 20 = .ok (.iload_n 1, 1) := by decide +kernel
theorem dX7_put_21 : decode cX7_put 21 = .ok (.i2b, 1) := by decide +kernel
theorem dX7_put_22 : decode cX7_put 22 = .ok (.bastore, 1) := by decide +kernel
theorem dX7_put_23 : decode cX7_put 23 = .ok (.aload_n 0, 1) := by decide +kernel
theorem dX7_put_24 : decode cX7_put 24 = .ok (.dup, 1) := by decide +kernel
theorem dX7_put_25 : decode cX7_put 25 = .ok (.getfield 21, 3) := by decide +kernel
theorem dX7_put_28 : decode cX7_put 28 = .ok (.iconst 1, 1) := by decide +kernel
theorem dX7_put_29 : decode cX7_put 29 = .ok (.iadd, 1) := by decide +kernel
theorem dX7_put_30 : decode cX7_put 30 = .ok (.putfield 21, 3) := by decide +kernel
theorem dX7_put_33 : decode cX7_put 33 = .ok (.return_, 1) := by decide +kernel
theorem dX7_putFour_0 : decode cX7_putFour 0 = .ok (.aload_n 0, 1) := by decide +kernel
theorem dX7_putFour_1 : decode cX7_putFour 1 = .ok (.iload_n 1, 1) := by decide +kernel
theorem dX7_putFour_2 : decode cX7_putFour 2 = .ok (.bipush 24, 2) := by decide +kernel
theorem dX7_putFour_4 : decode cX7_putFour 4 = .ok (.iushr, 1) := by decide +kernel
theorem dX7_putFour_5 : decode cX7_putFour 5 = .ok (.invokevirtual 25, 3) := by decide +kernel
theorem dX7_putFour_8 : decode cX7_putFour 8 = .ok (.aload_n 0, 1) := by decide +kernel
theorem dX7_putFour_9 : decode cX7_putFour 9 = .ok (.iload_n 1, 1) := by decide +kernel
theorem dX7_putFour_10 : decode cX7_putFour 10 = .ok (.bipush 16, 2) := by decide +kernel
theorem dX7_putFour_12 : decode cX7_putFour 12 = .ok (.iushr, 1) := by decide +kernel
theorem dX7_putFour_13 : decode cX7_putFour 13 = .ok (.invokevirtual 25, 3) := by decide +kernel
theorem dX7_putFour_16 : decode cX7_putFour 16 = .ok (.aload_n 0, 1) := by decide +kernel
theorem dX7_putFour_17 : decode cX7_putFour 17 = .ok (.iload_n 1, 1) := by decide +kernel
theorem dX7_putFour_18 : decode cX7_putFour 18 = .ok (.bipush 8, 2) := by decide +kernel
theorem dX7_putFour_20 : decode cX7_putFour 20 = .ok (.iushr, 1) := by decide +kernel
theorem dX7_putFour_21 : decode cX7_putFour 21 = .ok (.invokevirtual 25, 3) := by decide +kernel
theorem dX7_putFour_24 : decode cX7_putFour 24 = .ok (.aload_n 0, 1) := by decide +kernel
theorem dX7_putFour_25 : decode cX7_putFour 25 = .ok (.iload_n 1, 1) := by decide +kernel
theorem dX7_putFour_26 : decode cX7_putFour 26 = .ok (.invokevirtual 25, 3) := by decide +kernel
theorem dX7_putFour_29 : decode cX7_putFour 29 = .ok (.return_, 1) := by decide +kernel
theorem dX7_byteAt_0 : decode cX7_byteAt 0 = .ok (.iload_n 1, 1) := by decide +kernel
theorem dX7_byteAt_1 : decode cX7_byteAt 1 = .ok (.ifCond .lt 24, 3) := by decide +kernel
theorem dX7_byteAt_4 : decode cX7_byteAt 4 = .ok (.iload_n 1, 1) := by decide +kernel
theorem dX7_byteAt_5 : decode cX7_byteAt 5 = .ok (.aload_n 0, 1) := by decide +kernel
theorem dX7_byteAt_6 : decode cX7_byteAt 6 = .ok (.getfield 21, 3) := by decide +kernel
theorem dX7_byteAt_9 : decode cX7_byteAt 9 = .ok (.if_icmp .ge 16, 3) := by decide +kernel
theorem dX7_byteAt_12 : decode cX7_byteAt 12 = .ok (.aload_n 0, 1) := by decide +kernel
theorem dX7_byteAt_13 : decode cX7_byteAt 13 = .ok (.getfield 15, 3) := by decide +kernel
theorem dX7_byteAt_16 : decode cX7_byteAt 16 = .ok (.iload_n 1, 1) := by decide +kernel
theorem dX7_byteAt_17 : decode cX7_byteAt 17 = .ok (.baload, 1) := by decide +kernel
theorem dX7_byteAt_18 : decode cX7_byteAt 18 = .ok (.sipush 255, 3) := by decide +kernel
theorem dX7_byteAt_21 : decode cX7_byteAt 21 = .ok (.iand, 1) := by decide +kernel
theorem dX7_byteAt_22 : decode cX7_byteAt 22 = .ok (.goto 4, 3) := by decide +kernel
theorem dX7_byteAt_25 : decode cX7_byteAt 25 = .ok (.iconst (-1), 1) := by decide +kernel
theorem dX7_byteAt_26 : decode cX7_byteAt 26 = .ok (.ireturn, 1) := by decide +kernel
theorem dX8_init_0 : decode cX8_init 0 = .ok (.aload_n 0, 1) := by decide +kernel
theorem dX8_init_1 : decode cX8_init 1 = .ok (.invokespecial 3, 3) := by decide +kernel
theorem dX8_init_4 : decode cX8_init 4 = .ok (.aload_n 0, 1) := by decide +kernel
theorem dX8_init_5 : decode cX8_init 5 = .ok (.new 9, 3) := by decide +kernel
theorem dX8_init_8 : decode cX8_init 8 = .ok (.dup, 1) := by decide +kernel
theorem dX8_init_9 : decode cX8_init 9 = .ok (.iconst 0, 1) := by decide +kernel
theorem dX8_init_10 : decode cX8_init 10 = .ok (.invokespecial 11, 3) := by decide +kernel
theorem dX8_init_13 : decode cX8_init 13 = .ok (.putfield 14, 3) := by decide +kernel
theorem dX8_init_16 : decode cX8_init 16 = .ok (.return_, 1) := by decide +kernel
theorem dX8_begin_0 : decode cX8_begin 0 = .ok (.aload_n 0, 1) := by decide +kernel
theorem dX8_begin_1 : decode cX8_begin 1 = .ok (.aload_n 1, 1) := by decide +kernel
theorem dX8_begin_2 : decode cX8_begin 2 = .ok (.putfield 14, 3) := by decide +kernel
theorem dX8_begin_5 : decode cX8_begin 5 = .ok (.aload_n 0, 1) := by decide +kernel
theorem dX8_begin_6 : decode cX8_begin 6 = .ok (.iload_n 2, 1) := by decide +kernel
theorem dX8_begin_7 : decode cX8_begin 7 = .ok (.putfield 20, 3) := by decide +kernel
theorem dX8_begin_10 : decode cX8_begin 10 = .ok (.aload_n 0, 1) := by decide +kernel
theorem dX8_begin_11 : decode cX8_begin 11 = .ok (.iload_n 3, 1) := by decide +kernel
theorem dX8_begin_12 : decode cX8_begin 12 = .ok (.putfield 24, 3) := by decide +kernel
theorem dX8_begin_15 : decode cX8_begin 15 = .ok (.aload_n 0, 1) := by decide +kernel
theorem dX8_begin_16 : decode cX8_begin 16 = .ok (.iconst 0, 1) := by decide +kernel
theorem dX8_begin_17 : decode cX8_begin 17 = .ok (.putfield 28, 3) := by decide +kernel
theorem dX8_begin_20 : decode cX8_begin 20 = .ok (.aload_n 0, 1) := by decide +kernel
theorem dX8_begin_21 : decode cX8_begin 21 = .ok (.iconst 0, 1) := by decide +kernel
theorem dX8_begin_22 : decode cX8_begin 22 = .ok (.putfield 31, 3) := by decide +kernel
theorem dX8_begin_25 : decode cX8_begin 25 = .ok (.aload_n 0, 1) := by decide +kernel
theorem dX8_begin_26 : decode cX8_begin 26 = .ok (.iconst 0, 1) := by decide +kernel
theorem dX8_begin_27 : decode cX8_begin 27 = .ok (.putfield 34, 3) := by decide +kernel
theorem dX8_begin_30 : decode cX8_begin 30 = .ok (.return_, 1) := by decide +kernel
theorem dX8_refuse_0 : decode cX8_refuse 0 = .ok (.aload_n 0, 1) := by decide +kernel
theorem dX8_refuse_1 : decode cX8_refuse 1 = .ok (.iload_n 1, 1) := by decide +kernel
theorem dX8_refuse_2 : decode cX8_refuse 2 = .ok (.putfield 31, 3) := by decide +kernel
theorem dX8_refuse_5 : decode cX8_refuse 5 = .ok (.aload_n 0, 1) := by decide +kernel
theorem dX8_refuse_6 : decode cX8_refuse 6 = .ok (.iload_n 2, 1) := by decide +kernel
theorem dX8_refuse_7 : decode cX8_refuse 7 = .ok (.putfield 34, 3) := by decide +kernel
theorem dX8_refuse_10 : decode cX8_refuse 10 = .ok (.iconst 0, 1) := by decide +kernel
theorem dX8_refuse_11 : decode cX8_refuse 11 = .ok (.ireturn, 1) := by decide +kernel
theorem dX8_demand_0 : decode cX8_demand 0 = .ok (.aload_n 0, 1) := by decide +kernel
theorem dX8_demand_1 : decode cX8_demand 1 = .ok (.getfield 37, 3) := by decide +kernel
theorem dX8_demand_4 : decode cX8_demand 4 = .ok (.iload_n 1, 1) := by decide +kernel
theorem dX8_demand_5 : decode cX8_demand 5 = .ok (.if_icmp .eq 16, 3) := by decide +kernel
theorem dX8_demand_8 : decode cX8_demand 8 = .ok (.aload_n 0, 1) := by decide +kernel
theorem dX8_demand_9 : decode cX8_demand 9 = .ok (.iconst 1, 1) := by decide +kernel
theorem dX8_demand_10 : decode cX8_demand 10 = .ok (.putfield 31, 3) := by decide +kernel
theorem dX8_demand_13 : decode cX8_demand 13 = .ok (.aload_n 0, 1) := by decide +kernel
theorem dX8_demand_14 : decode cX8_demand 14 = .ok (.aload_n 0, 1) := by decide +kernel
theorem dX8_demand_15 : decode cX8_demand 15 = .ok (.getfield 40, 3) := by decide +kernel
theorem dX8_demand_18 : decode cX8_demand 18 = .ok (.putfield 34, 3) := by decide +kernel
theorem dX8_demand_21 : decode cX8_demand 21 = .ok (.aload_n 0, 1) := by decide +kernel
theorem dX8_demand_22 : decode cX8_demand 22 = .ok (.getfield 37, 3) := by decide +kernel
theorem dX8_demand_25 : decode cX8_demand 25 = .ok (.iload_n 1, 1) := by decide +kernel
theorem dX8_demand_26 : decode cX8_demand 26 = .ok (.if_icmp .ne 7, 3) := by decide +kernel
theorem dX8_demand_29 : decode cX8_demand 29 = .ok (.iconst 1, 1) := by decide +kernel
theorem dX8_demand_30 : decode cX8_demand 30 = .ok (.goto 4, 3) := by decide +kernel
theorem dX8_demand_33 : decode cX8_demand 33 = .ok (.iconst 0, 1) := by decide +kernel
theorem dX8_demand_34 : decode cX8_demand 34 = .ok (.ireturn, 1) := by decide +kernel
theorem dX8_endsWell_0 : decode cX8_endsWell 0 = .ok (.iload_n 1, 1) := by decide +kernel
theorem dX8_endsWell_1 : decode cX8_endsWell 1 = .ok (.ifCond .le 17, 3) := by decide +kernel
theorem dX8_endsWell_4 : decode cX8_endsWell 4 = .ok (.aload_n 0, 1) := by decide +kernel
theorem dX8_endsWell_5 : decode cX8_endsWell 5 = .ok (.getfield 14, 3) := by decide +kernel
theorem dX8_endsWell_8 : decode cX8_endsWell 8 = .ok (.getfield 43, 3) := by decide +kernel
theorem dX8_endsWell_11 : decode cX8_endsWell 11 = .ok (.aload_n 0, 1) := by decide +kernel
theorem dX8_endsWell_12 : decode cX8_endsWell 12 = .ok (.getfield 20, 3) := by decide +kernel
theorem dX8_endsWell_15 : decode cX8_endsWell 15 = .ok (.if_icmp .le 15, 3) := by decide +kernel
theorem dX8_endsWell_18 : decode cX8_endsWell 18 = .ok (.aload_n 0, 1) := by decide +kernel
theorem dX8_endsWell_19 : decode cX8_endsWell 19 = .ok (.iconst 1, 1) := by decide +kernel
theorem dX8_endsWell_20 : decode cX8_endsWell 20 = .ok (.aload_n 0, 1) := by decide +kernel
theorem dX8_endsWell_21 : decode cX8_endsWell 21 = .ok (.getfield 40, 3) := by decide +kernel
theorem dX8_endsWell_24 : decode cX8_endsWell 24 = .ok (.invokevirtual 46, 3) := by decide +kernel
theorem dX8_endsWell_27 : decode cX8_endsWell 27 = .ok (.ifCond .eq 7, 3) := by decide +kernel
theorem dX8_endsWell_30 : decode cX8_endsWell 30 = .ok (.iconst 1, 1) := by decide +kernel
theorem dX8_endsWell_31 : decode cX8_endsWell 31 = .ok (.goto 4, 3) := by decide +kernel
theorem dX8_endsWell_34 : decode cX8_endsWell 34 = .ok (.iconst 0, 1) := by decide +kernel
theorem dX8_endsWell_35 : decode cX8_endsWell 35 = .ok (.ireturn, 1) := by decide +kernel
theorem dX8_advance_0 : decode cX8_advance 0 = .ok (.aload_n 0, 1) := by decide +kernel
theorem dX8_advance_1 : decode cX8_advance 1 = .ok (.getfield 14, 3) := by decide +kernel
theorem dX8_advance_4 : decode cX8_advance 4 = .ok (.getfield 43, 3) := by decide +kernel
theorem dX8_advance_7 : decode cX8_advance 7 = .ok (.aload_n 0, 1) := by decide +kernel
theorem dX8_advance_8 : decode cX8_advance 8 = .ok (.getfield 20, 3) := by decide +kernel
theorem dX8_advance_11 : decode cX8_advance 11 = .ok (.invokestatic 50, 3) := by decide +kernel
theorem dX8_advance_14 : decode cX8_advance 14 = .ok (.istore_n 1, 1) := by decide +kernel
theorem dX8_advance_15 : decode cX8_advance 15 = .ok (.aload_n 0, 1) := by decide +kernel
theorem dX8_advance_16 : decode cX8_advance 16 = .ok (.getfield 28, 3) := by decide +kernel
theorem dX8_advance_19 : decode cX8_advance 19 = .ok (.iload_n 1, 1) := by decide +kernel
theorem dX8_advance_20 : decode cX8_advance 20 = .ok (.if_icmp .ge 33, 3) := by decide +kernel
theorem dX8_advance_23 : decode cX8_advance 23 = .ok (.aload_n 0, 1) := by decide +kernel
theorem dX8_advance_24 : decode cX8_advance 24 = .ok (.getfield 14, 3) := by decide +kernel
theorem dX8_advance_27 : decode cX8_advance 27 = .ok (.aload_n 0, 1) := by decide +kernel
theorem dX8_advance_28 : decode cX8_advance 28 = .ok (.getfield 28, 3) := by decide +kernel
theorem dX8_advance_31 : decode cX8_advance 31 = .ok (.invokevirtual 56, 3) := by decide +kernel
theorem dX8_advance_34 : decode cX8_advance 34 = .ok (.invokestatic 60, 3) := by decide +kernel
theorem dX8_advance_37 : decode cX8_advance 37 = .ok (.ifCond .eq 16, 3) := by decide +kernel
theorem dX8_advance_40 : decode cX8_advance 40 = .ok (.aload_n 0, 1) := by decide +kernel
theorem dX8_advance_41 : decode cX8_advance 41 = .ok (.dup, 1) := by decide +kernel
theorem dX8_advance_42 : decode cX8_advance 42 = .ok (.getfield 28, 3) := by decide +kernel
theorem dX8_advance_45 : decode cX8_advance 45 = .ok (.iconst 1, 1) := by decide +kernel
theorem dX8_advance_46 : decode cX8_advance 46 = .ok (.iadd, 1) := by decide +kernel
theorem dX8_advance_47 : decode cX8_advance 47 = .ok (.putfield 28, 3) := by decide +kernel
theorem dX8_advance_50 : decode cX8_advance 50 = .ok (.goto (-35), 3) := by decide +kernel
theorem dX8_advance_53 : decode cX8_advance 53 = .ok (.aload_n 0, 1) := by decide +kernel
theorem dX8_advance_54 : decode cX8_advance 54 = .ok (.getfield 28, 3) := by decide +kernel
theorem dX8_advance_57 : decode cX8_advance 57 = .ok (.iload_n 1, 1) := by decide +kernel
theorem dX8_advance_58 : decode cX8_advance 58 = .ok (.if_icmp .lt 14, 3) := by decide +kernel
theorem dX8_advance_61 : decode cX8_advance 61 = .ok (.aload_n 0, 1) := by decide +kernel
theorem dX8_advance_62 : decode cX8_advance 62 = .ok (.iconst 0, 1) := by decide +kernel
theorem dX8_advance_63 : decode cX8_advance 63 = .ok (.putfield 37, 3) := by decide +kernel
theorem dX8_advance_66 : decode cX8_advance 66 = .ok (.aload_n 0, 1) := by decide +kernel
theorem dX8_advance_67 : decode cX8_advance 67 = .ok (.iload_n 1, 1) := by decide +kernel
theorem dX8_advance_68 : decode cX8_advance 68 = .ok (.putfield 40, 3) := by decide +kernel
theorem dX8_advance_71 : decode cX8_advance 71 = .ok (.return_, 1) := by decide +kernel
theorem dX8_advance_72 : decode cX8_advance 72 = .ok (.aload_n 0, 1) := by decide +kernel
theorem dX8_advance_73 : decode cX8_advance 73 = .ok (.aload_n 0, 1) := by decide +kernel
theorem dX8_advance_74 : decode cX8_advance 74 = .ok (.getfield 28, 3) := by decide +kernel
theorem dX8_advance_77 : decode cX8_advance 77 = .ok (.putfield 40, 3) := by decide +kernel
theorem dX8_advance_80 : decode cX8_advance 80 = .ok (.aload_n 0, 1) := by decide +kernel
theorem dX8_advance_81 : decode cX8_advance 81 = .ok (.getfield 14, 3) := by decide +kernel
theorem dX8_advance_84 : decode cX8_advance 84 = .ok (.aload_n 0, 1) := by decide +kernel
theorem dX8_advance_85 : decode cX8_advance 85 = .ok (.getfield 28, 3) := by decide +kernel
theorem dX8_advance_88 : decode cX8_advance 88 = .ok (.invokevirtual 56, 3) := by decide +kernel
theorem dX8_advance_91 : decode cX8_advance 91 = .ok (.istore_n 2, 1) := by decide +kernel
theorem dX8_advance_92 : decode cX8_advance 92 = .ok (.iload_n 2, 1) := by decide +kernel
theorem dX8_advance_93 : decode cX8_advance 93 = .ok (.invokestatic 64, 3) := by decide +kernel
theorem dX8_advance_96 : decode cX8_advance 96 = .ok (.ifCond .eq 10, 3) := by decide +kernel
theorem dX8_advance_99 : decode cX8_advance 99 = .ok (.aload_n 0, 1) := by decide +kernel
theorem dX8_advance_100 : decode cX8_advance 100 = .ok (.invokevirtual 67, 3) := by decide +kernel
theorem dX8_advance_103 : decode cX8_advance 103 = .ok (.goto 23, 3) := by decide +kernel
theorem dX8_advance_106 : decode cX8_advance 106 = .ok (.aload_n 0, 1) := by decide +kernel
theorem dX8_advance_107 : decode cX8_advance 107 = .ok (.iload_n 2, 1) := by decide +kernel
theorem dX8_advance_108 : decode cX8_advance 108 = .ok (.invokevirtual 70, 3) := by decide +kernel
theorem dX8_advance_111 : decode cX8_advance 111 = .ok (.ifCond .eq 10, 3) := by decide +kernel
theorem dX8_advance_114 : decode cX8_advance 114 = .ok (.aload_n 0, 1) := by decide +kernel
theorem dX8_advance_115 : decode cX8_advance 115 = .ok (.invokevirtual 73, 3) := by decide +kernel
theorem dX8_advance_118 : decode cX8_advance 118 = .ok (.goto 8, 3) := by decide +kernel
theorem dX8_advance_121 : decode cX8_advance 121 = .ok (.aload_n 0, 1) := by decide +kernel
theorem dX8_advance_122 : decode cX8_advance 122 = .ok (.iload_n 2, 1) := by decide +kernel
theorem dX8_advance_123 : decode cX8_advance 123 = .ok (.invokevirtual 76, 3) := by decide +kernel
theorem dX8_advance_126 : decode cX8_advance 126 = .ok (.return_, 1) := by decide +kernel
theorem dX8_number_0 : decode cX8_number 0 = .ok (.aload_n 0, 1) := by decide +kernel
theorem dX8_number_1 : decode cX8_number 1 = .ok (.getfield 79, 3) := by decide +kernel
theorem dX8_number_4 : decode cX8_number 4 = .ok (.iconst (-1), 1) := by decide +kernel
theorem dX8_number_5 : decode cX8_number 5 = .ok (.if_icmp .ne 10, 3) := by decide +kernel
theorem dX8_number_8 : decode cX8_number 8 = .ok (.aload_n 0, 1) := by decide +kernel
theorem dX8_number_9 : decode cX8_number 9 = .ok (.getfield 82, 3) := by decide +kernel
theorem dX8_number_12 : decode cX8_number 12 = .ok (.goto 15, 3) := by decide +kernel
theorem dX8_number_15 : decode cX8_number 15 = .ok (.bipush 10, 2) := by decide +kernel
theorem dX8_number_17 : decode cX8_number 17 = .ok (.aload_n 0, 1) := by decide +kernel
theorem dX8_number_18 : decode cX8_number 18 = .ok (.getfield 79, 3) := by decide +kernel
theorem dX8_number_21 : decode cX8_number 21 = .ok (.imul, 1) := by decide +kernel
theorem dX8_number_22 : decode cX8_number 22 = .ok (.aload_n 0, 1) := by decide +kernel
theorem dX8_number_23 : decode cX8_number 23 = .ok (.getfield 82, 3) := by decide +kernel
theorem dX8_number_26 : decode cX8_number 26 = .ok (.iadd, 1) := by decide +kernel
theorem dX8_number_27 : decode cX8_number 27 = .ok (.ireturn, 1) := by decide +kernel
theorem dX8_takeName_0 : decode cX8_takeName 0 = .ok (.iconst 1, 1) := by decide +kernel
theorem dX8_takeName_1 : decode cX8_takeName 1 = .ok (.istore_n 1, 1) := by decide +kernel
theorem dX8_takeName_2 : decode cX8_takeName 2 = .ok (.aload_n 0, 1) := by decide +kernel
theorem dX8_takeName_3 : decode cX8_takeName 3 = .ok (.lconst 0, 1) := by decide +kernel
theorem dX8_takeName_4 : decode cX8_takeName 4 = .ok (.putfield 85, 3) := by decide +kernel
theorem dX8_takeName_7 : decode cX8_takeName 7 = .ok (.aload_n 0, 1) := by decide +kernel
theorem dX8_takeName_8 : decode cX8_takeName 8 = .ok (.getfield 14, 3) := by decide +kernel
theorem dX8_takeName_11 : decode cX8_takeName 11 = .ok (.aload_n 0, 1) := by decide +kernel
theorem dX8_takeName_12 : decode cX8_takeName 12 = .ok (.getfield 28, 3) := by decide +kernel
theorem dX8_takeName_15 : decode cX8_takeName 15 = .ok (.invokevirtual 56, 3) := by decide +kernel
theorem dX8_takeName_18 : decode cX8_takeName 18 = .ok (.istore_n 2, 1) := by decide +kernel
theorem dX8_takeName_19 : decode cX8_takeName 19 = .ok (.aload_n 0, 1) := by decide +kernel
theorem dX8_takeName_20 : decode cX8_takeName 20 = .ok (.getfield 28, 3) := by decide +kernel
theorem dX8_takeName_23 : decode cX8_takeName 23 = .ok (.aload_n 0, 1) := by decide +kernel
theorem dX8_takeName_24 : decode cX8_takeName 24 = .ok (.getfield 14, 3) := by decide +kernel
theorem dX8_takeName_27 : decode cX8_takeName 27 = .ok (.getfield 43, 3) := by decide +kernel
theorem dX8_takeName_30 : decode cX8_takeName 30 = .ok (.if_icmp .ge 78, 3) := by decide +kernel
theorem dX8_takeName_33 : decode cX8_takeName 33 = .ok (.iload_n 2, 1) := by decide +kernel
theorem dX8_takeName_34 : decode cX8_takeName 34 = .ok (.invokestatic 64, 3) := by decide +kernel
theorem dX8_takeName_37 : decode cX8_takeName 37 = .ok (.ifCond .ne 15, 3) := by decide +kernel
theorem dX8_takeName_40 : decode cX8_takeName 40 = .ok (.iload_n 2, 1) := by decide +kernel
theorem dX8_takeName_41 : decode cX8_takeName 41 = .ok (.bipush 48, 2) := by decide +kernel
theorem dX8_takeName_43 : decode cX8_takeName 43 = .ok (.if_icmp .lt 65, 3) := by decide +kernel
theorem dX8_takeName_46 : decode cX8_takeName 46 = .ok (.iload_n 2, 1) := by decide +kernel
theorem dX8_takeName_47 : decode cX8_takeName 47 = .ok (.bipush 57, 2) := by decide +kernel
theorem dX8_takeName_49 : decode cX8_takeName 49 = .ok (.if_icmp .gt 59, 3) := by decide +kernel
theorem dX8_takeName_52 : decode cX8_takeName 52 = .ok (.iload_n 1, 1) := by decide +kernel
theorem dX8_takeName_53 : decode cX8_takeName 53 = .ok (.ifCond .eq 14, 3) := by decide +kernel
theorem dX8_takeName_56 : decode cX8_takeName 56 = .ok (.iload_n 2, 1) := by decide +kernel
theorem dX8_takeName_57 : decode cX8_takeName 57 = .ok (.invokestatic 64, 3) := by decide +kernel
theorem dX8_takeName_60 : decode cX8_takeName 60 = .ok (.ifCond .eq 7, 3) := by decide +kernel
theorem dX8_takeName_63 : decode cX8_takeName 63 = .ok (.iconst 1, 1) := by decide +kernel
theorem dX8_takeName_64 : decode cX8_takeName 64 = .ok (.goto 4, 3) := by decide +kernel
theorem dX8_takeName_67 : decode cX8_takeName 67 = .ok (.iconst 0, 1) := by decide +kernel
theorem dX8_takeName_68 : decode cX8_takeName 68 = .ok (.istore_n 1, 1) := by decide +kernel
theorem dX8_takeName_69 : decode cX8_takeName 69 = .ok (.aload_n 0, 1) := by decide +kernel
theorem dX8_takeName_70 : decode cX8_takeName 70 = .ok (.aload_n 0, 1) := by decide +kernel
theorem dX8_takeName_71 : decode cX8_takeName 71 = .ok (.getfield 85, 3) := by decide +kernel
theorem dX8_takeName_74 : decode cX8_takeName 74 = .ok (.bipush 8, 2) := by decide +kernel
theorem dX8_takeName_76 : decode cX8_takeName 76 = .ok (.lshl, 1) := by decide +kernel
theorem dX8_takeName_77 : decode cX8_takeName 77 = .ok (.iload_n 2, 1) := by decide +kernel
theorem dX8_takeName_78 : decode cX8_takeName 78 = .ok (.i2l, 1) := by decide +kernel
theorem dX8_takeName_79 : decode cX8_takeName 79 = .ok (.lor, 1) := by decide +kernel
theorem dX8_takeName_80 : decode cX8_takeName 80 = .ok (.putfield 85, 3) := by decide +kernel
theorem dX8_takeName_83 : decode cX8_takeName 83 = .ok (.aload_n 0, 1) := by decide +kernel
theorem dX8_takeName_84 : decode cX8_takeName 84 = .ok (.dup, 1) := by decide +kernel
theorem dX8_takeName_85 : decode cX8_takeName 85 = .ok (.getfield 28, 3) := by decide +kernel
theorem dX8_takeName_88 : decode cX8_takeName 88 = .ok (.iconst 1, 1) := by decide +kernel
theorem dX8_takeName_89 : decode cX8_takeName 89 = .ok (.iadd, 1) := by decide +kernel
theorem dX8_takeName_90 : decode cX8_takeName 90 = .ok (.putfield 28, 3) := by decide +kernel
theorem dX8_takeName_93 : decode cX8_takeName 93 = .ok (.aload_n 0, 1) := by decide +kernel
theorem dX8_takeName_94 : decode cX8_takeName 94 = .ok (.getfield 14, 3) := by decide +kernel
theorem dX8_takeName_97 : decode cX8_takeName 97 = .ok (.aload_n 0, 1) := by decide +kernel
theorem dX8_takeName_98 : decode cX8_takeName 98 = .ok (.getfield 28, 3) := by decide +kernel
theorem dX8_takeName_101 : decode cX8_takeName 101 = .ok (.invokevirtual 56, 3) := by decide +kernel
theorem dX8_takeName_104 : decode cX8_takeName 104 = .ok (.istore_n 2, 1) := by decide +kernel
theorem dX8_takeName_105 : decode cX8_takeName 105 = .ok (.goto (-86), 3) := by decide +kernel
theorem dX8_takeName_108 : decode cX8_takeName 108 = .ok (.aload_n 0, 1) := by decide +kernel
theorem dX8_takeName_109 : decode cX8_takeName 109 = .ok (.iload_n 1, 1) := by decide +kernel
theorem dX8_takeName_110 : decode cX8_takeName 110 = .ok (.ifCond .eq 24, 3) := by decide +kernel
theorem dX8_takeName_113 : decode cX8_takeName 113 = .ok (.aload_n 0, 1) := by decide +kernel
theorem dX8_takeName_114 : decode cX8_takeName 114 = .ok (.getfield 28, 3) := by decide +kernel
theorem dX8_takeName_117 : decode cX8_takeName 117 = .ok (.aload_n 0, 1) := by decide +kernel
theorem dX8_takeName_118 : decode cX8_takeName 118 = .ok (.getfield 40, 3) := by decide +kernel
theorem dX8_takeName_121 : decode cX8_takeName 121 = .ok (.isub, 1) := by decide +kernel
theorem dX8_takeName_122 : decode cX8_takeName 122 = .ok (.bipush 8, 2) := by decide +kernel
theorem dX8_takeName_124 : decode cX8_takeName 124 = .ok (.if_icmp .gt 10, 3) := by decide +kernel
theorem dX8_takeName_127 : decode cX8_takeName 127 = .ok (.aload_n 0, 1) := by decide +kernel
theorem dX8_takeName_128 : decode cX8_takeName 128 = .ok (.invokevirtual 89, 3) := by decide +kernel
theorem dX8_takeName_131 : decode cX8_takeName 131 = .ok (.goto 4, 3) := by decide +kernel
theorem dX8_takeName_134 : decode cX8_takeName 134 = .ok (.iconst 1, 1) := by decide +kernel
theorem dX8_takeName_135 : decode cX8_takeName 135 = .ok (.putfield 37, 3) := by decide +kernel
theorem dX8_takeName_138 : decode cX8_takeName 138 = .ok (.return_, 1) := by decide +kernel
theorem dX8_kindOfName_0 : decode cX8_kindOfName 0 = .ok (.aload_n 0, 1) := by decide +kernel
theorem dX8_kindOfName_1 : decode cX8_kindOfName 1 = .ok (.getfield 85, 3) := by decide +kernel
theorem dX8_kindOfName_4 : decode cX8_kindOfName 4 = .ok (.ldc2_w 93, 3) := by decide +kernel
theorem dX8_kindOfName_7 : decode cX8_kindOfName 7 = .ok (.lcmp, 1) := by decide +kernel
theorem dX8_kindOfName_8 : decode cX8_kindOfName 8 = .ok (.ifCond .ne 6, 3) := by decide +kernel
theorem dX8_kindOfName_11 : decode cX8_kindOfName 11 = .ok (.bipush 6, 2) := by decide +kernel
theorem dX8_kindOfName_13 : decode cX8_kindOfName 13 = .ok (.ireturn, 1) := by decide +kernel
theorem dX8_kindOfName_14 : decode cX8_kindOfName 14 = .ok (.aload_n 0, 1) := by decide +kernel
theorem dX8_kindOfName_15 : decode cX8_kindOfName 15 = .ok (.getfield 85, 3) := by decide +kernel
theorem dX8_kindOfName_18 : decode cX8_kindOfName 18 = .ok (.ldc2_w 95, 3) := by decide +kernel
theorem dX8_kindOfName_21 : decode cX8_kindOfName 21 = .ok (.lcmp, 1) := by decide +kernel
theorem dX8_kindOfName_22 : decode cX8_kindOfName 22 = .ok (.ifCond .ne 6, 3) := by decide +kernel
theorem dX8_kindOfName_25 : decode cX8_kindOfName 25 = .ok (.bipush 7, 2) := by decide +kernel
theorem dX8_kindOfName_27 : decode cX8_kindOfName 27 = .ok (.ireturn, 1) := by decide +kernel
theorem dX8_kindOfName_28 : decode cX8_kindOfName 28 = .ok (.aload_n 0, 1) := by decide +kernel
theorem dX8_kindOfName_29 : decode cX8_kindOfName 29 = .ok (.getfield 85, 3) := by decide +kernel
theorem dX8_kindOfName_32 : decode cX8_kindOfName 32 = .ok (.ldc2_w 97, 3) := by decide +kernel
theorem dX8_kindOfName_35 : decode cX8_kindOfName 35 = .ok (.lcmp, 1) := by decide +kernel
theorem dX8_kindOfName_36 : decode cX8_kindOfName 36 = .ok (.ifCond .ne 8, 3) := by decide +kernel
theorem dX8_kindOfName_39 : decode cX8_kindOfName 39 = .ok (.bipush 8, 2) := by decide +kernel
theorem dX8_kindOfName_41 : decode cX8_kindOfName 41 = .ok (.goto 4, 3) := by decide +kernel
theorem dX8_kindOfName_44 : decode cX8_kindOfName 44 = .ok (.iconst 2, 1) := by decide +kernel
theorem dX8_kindOfName_45 : decode cX8_kindOfName 45 = .ok (.ireturn, 1) := by decide +kernel
theorem dX8_takeNumber_0 : decode cX8_takeNumber 0 = .ok (.iconst 1, 1) := by decide +kernel
theorem dX8_takeNumber_1 : decode cX8_takeNumber 1 = .ok (.istore_n 1, 1) := by decide +kernel
theorem dX8_takeNumber_2 : decode cX8_takeNumber 2 = .ok (.aload_n 0, 1) := by decide +kernel
theorem dX8_takeNumber_3 : decode cX8_takeNumber 3 = .ok (.iconst (-1), 1) := by decide +kernel
theorem dX8_takeNumber_4 : decode cX8_takeNumber 4 = .ok (.putfield 79, 3) := by decide +kernel
theorem dX8_takeNumber_7 : decode cX8_takeNumber 7 = .ok (.aload_n 0, 1) := by decide +kernel
theorem dX8_takeNumber_8 : decode cX8_takeNumber 8 = .ok (.iconst (-1), 1) := by decide +kernel
theorem dX8_takeNumber_9 : decode cX8_takeNumber 9 = .ok (.putfield 82, 3) := by decide +kernel
theorem dX8_takeNumber_12 : decode cX8_takeNumber 12 = .ok (.aload_n 0, 1) := by decide +kernel
theorem dX8_takeNumber_13 : decode cX8_takeNumber 13 = .ok (.getfield 14, 3) := by decide +kernel
theorem dX8_takeNumber_16 : decode cX8_takeNumber 16 = .ok (.aload_n 0, 1) := by decide +kernel
theorem dX8_takeNumber_17 : decode cX8_takeNumber 17 = .ok (.getfield 28, 3) := by decide +kernel
theorem dX8_takeNumber_20 : decode cX8_takeNumber 20 = .ok (.invokevirtual 56, 3) := by decide +kernel
theorem dX8_takeNumber_23 : decode cX8_takeNumber 23 = .ok (.istore_n 2, 1) := by decide +kernel
theorem dX8_takeNumber_24 : decode cX8_takeNumber 24 = .ok (.aload_n 0, 1) := by decide +kernel
theorem dX8_takeNumber_25 : decode cX8_takeNumber 25 = .ok (.getfield 28, 3) := by decide +kernel
theorem dX8_takeNumber_28 : decode cX8_takeNumber 28 = .ok (.aload_n 0, 1) := by decide +kernel
theorem dX8_takeNumber_29 : decode cX8_takeNumber 29 = .ok (.getfield 14, 3) := by decide +kernel
theorem dX8_takeNumber_32 : decode cX8_takeNumber 32 = .ok (.getfield 43, 3) := by decide +kernel
theorem dX8_takeNumber_35 : decode cX8_takeNumber 35 = .ok (.if_icmp .ge 88, 3) := by decide +kernel
theorem dX8_takeNumber_38 : decode cX8_takeNumber 38 = .ok (.aload_n 0, 1) := by decide +kernel
theorem dX8_takeNumber_39 : decode cX8_takeNumber 39 = .ok (.iload_n 2, 1) := by decide +kernel
theorem dX8_takeNumber_40 : decode cX8_takeNumber 40 = .ok (.invokevirtual 70, 3) := by decide +kernel
theorem dX8_takeNumber_43 : decode cX8_takeNumber 43 = .ok (.ifCond .ne 10, 3) := by decide +kernel
theorem dX8_takeNumber_46 : decode cX8_takeNumber 46 = .ok (.iload_n 2, 1) := by decide +kernel
theorem dX8_takeNumber_47 : decode cX8_takeNumber 47 = .ok (.invokestatic 64, 3) := by decide +kernel
theorem dX8_takeNumber_50 : decode cX8_takeNumber 50 = .ok (.ifCond .eq 73, 3) := by decide +kernel
theorem dX8_takeNumber_53 : decode cX8_takeNumber 53 = .ok (.iload_n 1, 1) := by decide +kernel
theorem dX8_takeNumber_54 : decode cX8_takeNumber 54 = .ok (.ifCond .eq 15, 3) := by decide +kernel
theorem dX8_takeNumber_57 : decode cX8_takeNumber 57 = .ok (.aload_n 0, 1) := by decide +kernel
theorem dX8_takeNumber_58 : decode cX8_takeNumber 58 = .ok (.iload_n 2, 1) := by decide +kernel
theorem dX8_takeNumber_59 : decode cX8_takeNumber 59 = .ok (.invokevirtual 70, 3) := by decide +kernel
theorem dX8_takeNumber_62 : decode cX8_takeNumber 62 = .ok (.ifCond .eq 7, 3) := by decide +kernel
theorem dX8_takeNumber_65 : decode cX8_takeNumber 65 = .ok (.iconst 1, 1) := by decide +kernel
theorem dX8_takeNumber_66 : decode cX8_takeNumber 66 = .ok (.goto 4, 3) := by decide +kernel
theorem dX8_takeNumber_69 : decode cX8_takeNumber 69 = .ok (.iconst 0, 1) := by decide +kernel
theorem dX8_takeNumber_70 : decode cX8_takeNumber 70 = .ok (.istore_n 1, 1) := by decide +kernel
theorem dX8_takeNumber_71 : decode cX8_takeNumber 71 = .ok (.aload_n 0, 1) := by decide +kernel
theorem dX8_takeNumber_72 : decode cX8_takeNumber 72 = .ok (.aload_n 0, 1) := by decide +kernel
theorem dX8_takeNumber_73 : decode cX8_takeNumber 73 = .ok (.getfield 82, 3) := by decide +kernel
theorem dX8_takeNumber_76 : decode cX8_takeNumber 76 = .ok (.putfield 79, 3) := by decide +kernel
theorem dX8_takeNumber_79 : decode cX8_takeNumber 79 = .ok (.aload_n 0, 1) := by decide +kernel
theorem dX8_takeNumber_80 : decode cX8_takeNumber 80 = .ok (.iload_n 2, 1) := by decide +kernel
theorem dX8_takeNumber_81 : decode cX8_takeNumber 81 = .ok (.bipush 63, 2) := by decide +kernel
theorem dX8_takeNumber_83 : decode cX8_takeNumber 83 = .ok (.if_icmp .ne 8, 3) := by decide +kernel
theorem dX8_takeNumber_86 : decode cX8_takeNumber 86 = .ok (.bipush 10, 2) := by decide +kernel
theorem dX8_takeNumber_88 : decode cX8_takeNumber 88 = .ok (.goto 7, 3) := by decide +kernel
theorem dX8_takeNumber_91 : decode cX8_takeNumber 91 = .ok (.iload_n 2, 1) := by decide +kernel
theorem dX8_takeNumber_92 : decode cX8_takeNumber 92 = .ok (.bipush 48, 2) := by decide +kernel
theorem dX8_takeNumber_94 : decode cX8_takeNumber 94 = .ok (.isub, 1) := by decide +kernel
theorem dX8_takeNumber_95 : decode cX8_takeNumber 95 = .ok (.putfield 82, 3) := by decide +kernel
theorem dX8_takeNumber_98 : decode cX8_takeNumber 98 = .ok (.aload_n 0, 1) := by decide +kernel
theorem dX8_takeNumber_99 : decode cX8_takeNumber 99 = .ok (.dup, 1) := by decide +kernel
theorem dX8_takeNumber_100 : decode cX8_takeNumber 100 = .ok (.getfield 28, 3) := by decide +kernel
theorem dX8_takeNumber_103 : decode cX8_takeNumber 103 = .ok (.iconst 1, 1) := by decide +kernel
theorem dX8_takeNumber_104 : decode cX8_takeNumber 104 = .ok (.iadd, 1) := by decide +kernel
theorem dX8_takeNumber_105 : decode cX8_takeNumber 105 = .ok (.putfield 28, 3) := by decide +kernel
theorem dX8_takeNumber_108 : decode cX8_takeNumber 108 = .ok (.aload_n 0, 1) := by decide +kernel
theorem dX8_takeNumber_109 : decode cX8_takeNumber 109 = .ok (.getfield 14, 3) := by decide +kernel
theorem dX8_takeNumber_112 : decode cX8_takeNumber 112 = .ok (.aload_n 0, 1) := by decide +kernel
theorem dX8_takeNumber_113 : decode cX8_takeNumber 113 = .ok (.getfield 28, 3) := by decide +kernel
theorem dX8_takeNumber_116 : decode cX8_takeNumber 116 = .ok (.invokevirtual 56, 3) := by decide +kernel
theorem dX8_takeNumber_119 : decode cX8_takeNumber 119 = .ok (.istore_n 2, 1) := by decide +kernel
theorem dX8_takeNumber_120 : decode cX8_takeNumber 120 = .ok (.goto (-96), 3) := by decide +kernel
theorem dX8_takeNumber_123 : decode cX8_takeNumber 123 = .ok (.aload_n 0, 1) := by decide +kernel
theorem dX8_takeNumber_124 : decode cX8_takeNumber 124 = .ok (.iload_n 1, 1) := by decide +kernel
theorem dX8_takeNumber_125 : decode cX8_takeNumber 125 = .ok (.ifCond .eq 20, 3) := by decide +kernel
theorem dX8_takeNumber_128 : decode cX8_takeNumber 128 = .ok (.aload_n 0, 1) := by decide +kernel
theorem dX8_takeNumber_129 : decode cX8_takeNumber 129 = .ok (.getfield 28, 3) := by decide +kernel
theorem dX8_takeNumber_132 : decode cX8_takeNumber 132 = .ok (.aload_n 0, 1) := by decide +kernel
theorem dX8_takeNumber_133 : decode cX8_takeNumber 133 = .ok (.getfield 40, 3) := by decide +kernel
theorem dX8_takeNumber_136 : decode cX8_takeNumber 136 = .ok (.isub, 1) := by decide +kernel
theorem dX8_takeNumber_137 : decode cX8_takeNumber 137 = .ok (.iconst 2, 1) := by decide +kernel
theorem dX8_takeNumber_138 : decode cX8_takeNumber 138 = .ok (.if_icmp .gt 7, 3) := by decide +kernel
theorem dX8_takeNumber_141 : decode cX8_takeNumber 141 = .ok (.iconst 3, 1) := by decide +kernel
theorem dX8_takeNumber_142 : decode cX8_takeNumber 142 = .ok (.goto 4, 3) := by decide +kernel
theorem dX8_takeNumber_145 : decode cX8_takeNumber 145 = .ok (.iconst 1, 1) := by decide +kernel
theorem dX8_takeNumber_146 : decode cX8_takeNumber 146 = .ok (.putfield 37, 3) := by decide +kernel
theorem dX8_takeNumber_149 : decode cX8_takeNumber 149 = .ok (.return_, 1) := by decide +kernel
theorem dX8_takeSign_0 : decode cX8_takeSign 0 = .ok (.aload_n 0, 1) := by decide +kernel
theorem dX8_takeSign_1 : decode cX8_takeSign 1 = .ok (.dup, 1) := by decide +kernel
theorem dX8_takeSign_2 : decode cX8_takeSign 2 = .ok (.getfield 28, 3) := by decide +kernel
theorem dX8_takeSign_5 : decode cX8_takeSign 5 = .ok (.iconst 1, 1) := by decide +kernel
theorem dX8_takeSign_6 : decode cX8_takeSign 6 = .ok (.iadd, 1) := by decide +kernel
theorem dX8_takeSign_7 : decode cX8_takeSign 7 = .ok (.putfield 28, 3) := by decide +kernel
theorem dX8_takeSign_10 : decode cX8_takeSign 10 = .ok (.iload_n 1, 1) := by decide +kernel
theorem dX8_takeSign_11 : decode cX8_takeSign 11 = .ok (.bipush 58, 2) := by decide +kernel
theorem dX8_takeSign_13 : decode cX8_takeSign 13 = .ok (.if_icmp .ne 11, 3) := by decide +kernel
theorem dX8_takeSign_16 : decode cX8_takeSign 16 = .ok (.aload_n 0, 1) := by decide +kernel
theorem dX8_takeSign_17 : decode cX8_takeSign 17 = .ok (.iconst 4, 1) := by decide +kernel
theorem dX8_takeSign_18 : decode cX8_takeSign 18 = .ok (.putfield 37, 3) := by decide +kernel
theorem dX8_takeSign_21 : decode cX8_takeSign 21 = .ok (.goto 18, 3) := by decide +kernel
theorem dX8_takeSign_24 : decode cX8_takeSign 24 = .ok (.aload_n 0, 1) := by decide +kernel
theorem dX8_takeSign_25 : decode cX8_takeSign 25 = .ok (.iload_n 1, 1) := by decide +kernel
theorem dX8_takeSign_26 : decode cX8_takeSign 26 = .ok (.bipush 59, 2) := by decide +kernel
theorem dX8_takeSign_28 : decode cX8_takeSign 28 = .ok (.if_icmp .ne 7, 3) := by decide +kernel
theorem dX8_takeSign_31 : decode cX8_takeSign 31 = .ok (.iconst 5, 1) := by decide +kernel
theorem dX8_takeSign_32 : decode cX8_takeSign 32 = .ok (.goto 4, 3) := by decide +kernel
theorem dX8_takeSign_35 : decode cX8_takeSign 35 = .ok (.iconst 1, 1) := by decide +kernel
theorem dX8_takeSign_36 : decode cX8_takeSign 36 = .ok (.putfield 37, 3) := by decide +kernel
theorem dX8_takeSign_39 : decode cX8_takeSign 39 = .ok (.return_, 1) := by decide +kernel
theorem dX8_isDigit_0 : decode cX8_isDigit 0 = .ok (.iload_n 1, 1) := by decide +kernel
theorem dX8_isDigit_1 : decode cX8_isDigit 1 = .ok (.bipush 48, 2) := by decide +kernel
theorem dX8_isDigit_3 : decode cX8_isDigit 3 = .ok (.if_icmp .lt 9, 3) := by decide +kernel
theorem dX8_isDigit_6 : decode cX8_isDigit 6 = .ok (.iload_n 1, 1) := by decide +kernel
theorem dX8_isDigit_7 : decode cX8_isDigit 7 = .ok (.bipush 57, 2) := by decide +kernel
theorem dX8_isDigit_9 : decode cX8_isDigit 9 = .ok (.if_icmp .le 16, 3) := by decide +kernel
theorem dX8_isDigit_12 : decode cX8_isDigit 12 = .ok (.aload_n 0, 1) := by decide +kernel
theorem dX8_isDigit_13 : decode cX8_isDigit 13 = .ok (.getfield 24, 3) := by decide +kernel
theorem dX8_isDigit_16 : decode cX8_isDigit 16 = .ok (.ifCond .eq 13, 3) := by decide +kernel
theorem dX8_isDigit_19 : decode cX8_isDigit 19 = .ok (.iload_n 1, 1) := by decide +kernel
theorem dX8_isDigit_20 : decode cX8_isDigit 20 = .ok (.bipush 63, 2) := by decide +kernel
theorem dX8_isDigit_22 : decode cX8_isDigit 22 = .ok (.if_icmp .ne 7, 3) := by decide +kernel
theorem dX8_isDigit_25 : decode cX8_isDigit 25 = .ok (.iconst 1, 1) := by decide +kernel
theorem dX8_isDigit_26 : decode cX8_isDigit 26 = .ok (.goto 4, 3) := by decide +kernel
theorem dX8_isDigit_29 : decode cX8_isDigit 29 = .ok (.iconst 0, 1) := by decide +kernel
theorem dX8_isDigit_30 : decode cX8_isDigit 30 = .ok (.ireturn, 1) := by decide +kernel
theorem dX8_isSmallLetter_0 : decode cX8_isSmallLetter 0 = .ok (.iload_n 0, 1) := by decide +kernel
theorem dX8_isSmallLetter_1 : decode cX8_isSmallLetter 1 = .ok (.bipush 97, 2) := by decide +kernel
theorem dX8_isSmallLetter_3 : decode cX8_isSmallLetter 3 = .ok (.if_icmp .lt 13, 3) := by decide +kernel
theorem dX8_isSmallLetter_6 : decode cX8_isSmallLetter 6 = .ok (.iload_n 0, 1) := by decide +kernel
theorem dX8_isSmallLetter_7 : decode cX8_isSmallLetter 7 = .ok (.bipush 122, 2) := by decide +kernel
theorem dX8_isSmallLetter_9 : decode cX8_isSmallLetter 9 = .ok (.if_icmp .gt 7, 3) := by decide +kernel
theorem dX8_isSmallLetter_12 : decode cX8_isSmallLetter 12 = .ok (.iconst 1, 1) := by decide +kernel
theorem dX8_isSmallLetter_13 : decode cX8_isSmallLetter 13 = .ok (.goto 4, 3) := by decide +kernel
theorem dX8_isSmallLetter_16 : decode cX8_isSmallLetter 16 = .ok (.iconst 0, 1) := by decide +kernel
theorem dX8_isSmallLetter_17 : decode cX8_isSmallLetter 17 = .ok (.ireturn, 1) := by decide +kernel
theorem dX8_isBlank_0 : decode cX8_isBlank 0 = .ok (.iload_n 0, 1) := by decide +kernel
theorem dX8_isBlank_1 : decode cX8_isBlank 1 = .ok (.bipush 32, 2) := by decide +kernel
theorem dX8_isBlank_3 : decode cX8_isBlank 3 = .ok (.if_icmp .eq 9, 3) := by decide +kernel
theorem dX8_isBlank_6 : decode cX8_isBlank 6 = .ok (.iload_n 0, 1) := by decide +kernel
theorem dX8_isBlank_7 : decode cX8_isBlank 7 = .ok (.bipush 10, 2) := by decide +kernel
theorem dX8_isBlank_9 : decode cX8_isBlank 9 = .ok (.if_icmp .ne 7, 3) := by decide +kernel
theorem dX8_isBlank_12 : decode cX8_isBlank 12 = .ok (.iconst 1, 1) := by decide +kernel
theorem dX8_isBlank_13 : decode cX8_isBlank 13 = .ok (.goto 4, 3) := by decide +kernel
theorem dX8_isBlank_16 : decode cX8_isBlank 16 = .ok (.iconst 0, 1) := by decide +kernel
theorem dX8_isBlank_17 : decode cX8_isBlank 17 = .ok (.ireturn, 1) := by decide +kernel
theorem dX9_init_0 : decode cX9_init 0 = .ok (.aload_n 0, 1) := by decide +kernel
theorem dX9_init_1 : decode cX9_init 1 = .ok (.invokespecial 3, 3) := by decide +kernel
theorem dX9_init_4 : decode cX9_init 4 = .ok (.aload_n 0, 1) := by decide +kernel
theorem dX9_init_5 : decode cX9_init 5 = .ok (.iconst 3, 1) := by decide +kernel
theorem dX9_init_6 : decode cX9_init 6 = .ok (.newarray .long, 2) := by decide +kernel
theorem dX9_init_8 : decode cX9_init 8 = .ok (.putfield 9, 3) := by decide +kernel
theorem dX9_init_11 : decode cX9_init 11 = .ok (.aload_n 0, 1) := by decide +kernel
theorem dX9_init_12 : decode cX9_init 12 = .ok (.iconst 3, 1) := by decide +kernel
theorem dX9_init_13 : decode cX9_init 13 = .ok (.newarray .int, 2) := by decide +kernel
theorem dX9_init_15 : decode cX9_init 15 = .ok (.putfield 15, 3) := by decide +kernel
theorem dX9_init_18 : decode cX9_init 18 = .ok (.aload_n 0, 1) := by decide +kernel
theorem dX9_init_19 : decode cX9_init 19 = .ok (.bipush 15, 2) := by decide +kernel
theorem dX9_init_21 : decode cX9_init 21 = .ok (.newarray .long, 2) := by decide +kernel
theorem dX9_init_23 : decode cX9_init 23 = .ok (.putfield 19, 3) := by decide +kernel
theorem dX9_init_26 : decode cX9_init 26 = .ok (.aload_n 0, 1) := by decide +kernel
theorem dX9_init_27 : decode cX9_init 27 = .ok (.bipush 15, 2) := by decide +kernel
theorem dX9_init_29 : decode cX9_init 29 = .ok (.newarray .int, 2) := by decide +kernel
theorem dX9_init_31 : decode cX9_init 31 = .ok (.putfield 22, 3) := by decide +kernel
theorem dX9_init_34 : decode cX9_init 34 = .ok (.aload_n 0, 1) := by decide +kernel
theorem dX9_init_35 : decode cX9_init 35 = .ok (.bipush 15, 2) := by decide +kernel
theorem dX9_init_37 : decode cX9_init 37 = .ok (.newarray .int, 2) := by decide +kernel
theorem dX9_init_39 : decode cX9_init 39 = .ok (.putfield 25, 3) := by decide +kernel
theorem dX9_init_42 : decode cX9_init 42 = .ok (.aload_n 0, 1) := by decide +kernel
theorem dX9_init_43 : decode cX9_init 43 = .ok (.bipush 15, 2) := by decide +kernel
theorem dX9_init_45 : decode cX9_init 45 = .ok (.newarray .int, 2) := by decide +kernel
theorem dX9_init_47 : decode cX9_init 47 = .ok (.putfield 28, 3) := by decide +kernel
theorem dX9_init_50 : decode cX9_init 50 = .ok (.return_, 1) := by decide +kernel
theorem dX9_slot_0 : decode cX9_slot 0 = .ok (.iload_n 0, 1) := by decide +kernel
theorem dX9_slot_1 : decode cX9_slot 1 = .ok (.iconst 5, 1) := by decide +kernel
theorem dX9_slot_2 : decode cX9_slot 2 = .ok (.imul, 1) := by decide +kernel
theorem dX9_slot_3 : decode cX9_slot 3 = .ok (.iload_n 1, 1) := by decide +kernel
theorem dX9_slot_4 : decode cX9_slot 4 = .ok (.iadd, 1) := by decide +kernel
theorem dX9_slot_5 : decode cX9_slot 5 = .ok (.ireturn, 1) := by decide +kernel
theorem dX9_systemOf_0 : decode cX9_systemOf 0 = .ok (.iload_n 0, 1) := by decide +kernel
theorem dX9_systemOf_1 : decode cX9_systemOf 1 = .ok (.iconst 5, 1) := by decide +kernel
theorem dX9_systemOf_2 : decode cX9_systemOf 2 = .ok (.idiv, 1) := by decide +kernel
theorem dX9_systemOf_3 : decode cX9_systemOf 3 = .ok (.ireturn, 1) := by decide +kernel
theorem dX9_clear_0 : decode cX9_clear 0 = .ok (.aload_n 0, 1) := by decide +kernel
theorem dX9_clear_1 : decode cX9_clear 1 = .ok (.iconst 0, 1) := by decide +kernel
theorem dX9_clear_2 : decode cX9_clear 2 = .ok (.putfield 31, 3) := by decide +kernel
theorem dX9_clear_5 : decode cX9_clear 5 = .ok (.aload_n 0, 1) := by decide +kernel
theorem dX9_clear_6 : decode cX9_clear 6 = .ok (.getfield 9, 3) := by decide +kernel
theorem dX9_clear_9 : decode cX9_clear 9 = .ok (.lconst 0, 1) := by decide +kernel
theorem dX9_clear_10 : decode cX9_clear 10 = .ok (.invokestatic 35, 3) := by decide +kernel
theorem dX9_clear_13 : decode cX9_clear 13 = .ok (.aload_n 0, 1) := by decide +kernel
theorem dX9_clear_14 : decode cX9_clear 14 = .ok (.getfield 15, 3) := by decide +kernel
theorem dX9_clear_17 : decode cX9_clear 17 = .ok (.iconst 0, 1) := by decide +kernel
theorem dX9_clear_18 : decode cX9_clear 18 = .ok (.invokestatic 41, 3) := by decide +kernel
theorem dX9_clear_21 : decode cX9_clear 21 = .ok (.aload_n 0, 1) := by decide +kernel
theorem dX9_clear_22 : decode cX9_clear 22 = .ok (.getfield 19, 3) := by decide +kernel
theorem dX9_clear_25 : decode cX9_clear 25 = .ok (.lconst 0, 1) := by decide +kernel
theorem dX9_clear_26 : decode cX9_clear 26 = .ok (.invokestatic 35, 3) := by decide +kernel
theorem dX9_clear_29 : decode cX9_clear 29 = .ok (.return_, 1) := by decide +kernel
theorem dX9_addSystem_0 : decode cX9_addSystem 0 = .ok (.aload_n 0, 1) := by decide +kernel
theorem dX9_addSystem_1 : decode cX9_addSystem 1 = .ok (.getfield 31, 3) := by decide +kernel
theorem dX9_addSystem_4 : decode cX9_addSystem 4 = .ok (.iconst 3, 1) := by decide +kernel
theorem dX9_addSystem_5 : decode cX9_addSystem 5 = .ok (.if_icmp .ge 23, 3) := by decide +kernel
theorem dX9_addSystem_8 : decode cX9_addSystem 8 = .ok (.aload_n 0, 1) := by decide +kernel
theorem dX9_addSystem_9 : decode cX9_addSystem 9 = .ok (.getfield 9, 3) := by decide +kernel
theorem dX9_addSystem_12 : decode cX9_addSystem 12 = .ok (.aload_n 0, 1) := by decide +kernel
theorem dX9_addSystem_13 : decode cX9_addSystem 13 = .ok (.getfield 31, 3) := by decide +kernel
theorem dX9_addSystem_16 : decode cX9_addSystem 16 = .ok (.lload_n 1, 1) := by decide +kernel
theorem dX9_addSystem_17 : decode cX9_addSystem 17 = .ok (.lastore, 1) := by decide +kernel
theorem dX9_addSystem_18 : decode cX9_addSystem 18 = .ok (.aload_n 0, 1) := by decide +kernel
theorem dX9_addSystem_19 : decode cX9_addSystem 19 = .ok (.dup, 1) := by decide +kernel
theorem dX9_addSystem_20 : decode cX9_addSystem 20 = .ok (.getfield 31, 3) := by decide +kernel
theorem dX9_addSystem_23 : decode cX9_addSystem 23 = .ok (.iconst 1, 1) := by decide +kernel
theorem dX9_addSystem_24 : decode cX9_addSystem 24 = .ok (.iadd, 1) := by decide +kernel
theorem dX9_addSystem_25 : decode cX9_addSystem 25 = .ok (.putfield 31, 3) := by decide +kernel
theorem dX9_addSystem_28 : decode cX9_addSystem 28 = .ok (.return_, 1) := by decide +kernel
theorem dX9_isFull_0 : decode cX9_isFull 0 = .ok (.aload_n 0, 1) := by decide +kernel
theorem dX9_isFull_1 : decode cX9_isFull 1 = .ok (.getfield 31, 3) := by decide +kernel
theorem dX9_isFull_4 : decode cX9_isFull 4 = .ok (.iconst 1, 1) := by decide +kernel
theorem dX9_isFull_5 : decode cX9_isFull 5 = .ok (.if_icmp .lt 18, 3) := by decide +kernel
theorem dX9_isFull_8 : decode cX9_isFull 8 = .ok (.aload_n 0, 1) := by decide +kernel
theorem dX9_isFull_9 : decode cX9_isFull 9 = .ok (.getfield 15, 3) := by decide +kernel
theorem dX9_isFull_12 : decode cX9_isFull 12 = .ok (.aload_n 0, 1) := by decide +kernel
theorem dX9_isFull_13 : decode cX9_isFull 13 = .ok (.getfield 31, 3) := by decide +kernel
theorem dX9_isFull_16 : decode cX9_isFull 16 = .ok (.iconst 1, 1) := by decide +kernel
theorem dX9_isFull_17 : decode cX9_isFull 17 = .ok (.isub, 1) := by decide +kernel
theorem dX9_isFull_18 : decode cX9_isFull 18 = .ok (.iaload, 1) := by decide +kernel
theorem dX9_isFull_19 : decode cX9_isFull 19 = .ok (.iconst 5, 1) := by decide +kernel
theorem dX9_isFull_20 : decode cX9_isFull 20 = .ok (.if_icmp .lt 7, 3) := by decide +kernel
theorem dX9_isFull_23 : decode cX9_isFull 23 = .ok (.iconst 1, 1) := by decide +kernel
theorem dX9_isFull_24 : decode cX9_isFull 24 = .ok (.goto 4, 3) := by decide +kernel
theorem dX9_isFull_27 : decode cX9_isFull 27 = .ok (.iconst 0, 1) := by decide +kernel
theorem dX9_isFull_28 : decode cX9_isFull 28 = .ok (.ireturn, 1) := by decide +kernel
theorem dX9_addUnit_0 : decode cX9_addUnit 0 = .ok (.aload_n 0, 1) := by decide +kernel
theorem dX9_addUnit_1 : decode cX9_addUnit 1 = .ok (.invokevirtual 44, 3) := by decide +kernel
theorem dX9_addUnit_4 : decode cX9_addUnit 4 = .ok (.ifCond .eq 4, 3) := by decide +kernel
theorem dX9_addUnit_7 : decode cX9_addUnit 7 = .ok (.return_, 1) := by decide +kernel
theorem dX9_addUnit_8 : decode cX9_addUnit 8 = .ok (.aload_n 0, 1) := by decide +kernel
theorem dX9_addUnit_9 : decode cX9_addUnit 9 = .ok (.getfield 31, 3) := by decide +kernel
theorem dX9_addUnit_12 : decode cX9_addUnit 12 = .ok (.iconst 1, 1) := by decide +kernel
theorem dX9_addUnit_13 : decode cX9_addUnit 13 = .ok (.isub, 1) := by decide +kernel
theorem dX9_addUnit_14 : decode cX9_addUnit 14 = .ok (.istore 4, 2) := by decide +kernel
theorem dX9_addUnit_16 : decode cX9_addUnit 16 = .ok (.iload 4, 2) := by decide +kernel
theorem dX9_addUnit_18 : decode cX9_addUnit 18 = .ok (.aload_n 0, 1) := by decide +kernel
theorem dX9_addUnit_19 : decode cX9_addUnit 19 = .ok (.getfield 15, 3) := by decide +kernel
theorem dX9_addUnit_22 : decode cX9_addUnit 22 = .ok (.iload 4, 2) := by decide +kernel
theorem dX9_addUnit_24 : decode cX9_addUnit 24 = .ok (.iaload, 1) := by decide +kernel
theorem dX9_addUnit_25 : decode cX9_addUnit 25 = .ok (.invokestatic 48, 3) := by decide +kernel
theorem dX9_addUnit_28 : decode cX9_addUnit 28 = .ok (.istore 5, 2) := by decide +kernel
theorem dX9_addUnit_30 : decode cX9_addUnit 30 = .ok (.aload_n 0, 1) := by decide +kernel
theorem dX9_addUnit_31 : decode cX9_addUnit 31 = .ok (.getfield 19, 3) := by decide +kernel
theorem dX9_addUnit_34 : decode cX9_addUnit 34 = .ok (.iload 5, 2) := by decide +kernel
theorem dX9_addUnit_36 : decode cX9_addUnit 36 = .ok (.lload_n 1, 1) := by decide +kernel
theorem dX9_addUnit_37 : decode cX9_addUnit 37 = .ok (.lastore, 1) := by decide +kernel
theorem dX9_addUnit_38 : decode cX9_addUnit 38 = .ok (.aload_n 0, 1) := by decide +kernel
theorem dX9_addUnit_39 : decode cX9_addUnit 39 = .ok (.getfield 22, 3) := by decide +kernel
theorem dX9_addUnit_42 : decode cX9_addUnit 42 = .ok (.iload 5, 2) := by decide +kernel
theorem dX9_addUnit_44 : decode cX9_addUnit 44 = .ok (.iload_n 3, 1) := by decide +kernel
theorem dX9_addUnit_45 : decode cX9_addUnit 45 = .ok (.iastore, 1) := by decide +kernel
theorem dX9_addUnit_46 : decode cX9_addUnit 46 = .ok (.aload_n 0, 1) := by decide +kernel
theorem dX9_addUnit_47 : decode cX9_addUnit 47 = .ok (.getfield 25, 3) := by decide +kernel
theorem dX9_addUnit_50 : decode cX9_addUnit 50 = .ok (.iload 5, 2) := by decide +kernel
theorem dX9_addUnit_52 : decode cX9_addUnit 52 = .ok (.iconst 1, 1) := by decide +kernel
theorem dX9_addUnit_53 : decode cX9_addUnit 53 = .ok (.iastore, 1) := by decide +kernel
theorem dX9_addUnit_54 : decode cX9_addUnit 54 = .ok (.aload_n 0, 1) := by decide +kernel
theorem dX9_addUnit_55 : decode cX9_addUnit 55 = .ok (.getfield 28, 3) := by decide +kernel
theorem dX9_addUnit_58 : decode cX9_addUnit 58 = .ok (.iload 5, 2) := by decide +kernel
theorem dX9_addUnit_60 : decode cX9_addUnit 60 = .ok (.bipush 99, 2) := by decide +kernel
theorem dX9_addUnit_62 : decode cX9_addUnit 62 = .ok (.iastore, 1) := by decide +kernel
theorem dX9_addUnit_63 : decode cX9_addUnit 63 = .ok (.aload_n 0, 1) := by decide +kernel
theorem dX9_addUnit_64 : decode cX9_addUnit 64 = .ok (.getfield 15, 3) := by decide +kernel
theorem dX9_addUnit_67 : decode cX9_addUnit 67 = .ok (.iload 4, 2) := by decide +kernel
theorem dX9_addUnit_69 : decode cX9_addUnit 69 = .ok (.iaload, 1) := by decide +kernel
theorem dX9_addUnit_70 : decode cX9_addUnit 70 = .ok (.ifCond .le 33, 3) := by decide +kernel
theorem dX9_addUnit_73 : decode cX9_addUnit 73 = .ok (.aload_n 0, 1) := by decide +kernel
theorem dX9_addUnit_74 : decode cX9_addUnit 74 = .ok (.getfield 25, 3) := by decide +kernel
theorem dX9_addUnit_77 : decode cX9_addUnit 77 = .ok (.iload 5, 2) := by decide +kernel
theorem dX9_addUnit_79 : decode cX9_addUnit 79 = .ok (.iload_n 3, 1) := by decide +kernel
theorem dX9_addUnit_80 : decode cX9_addUnit 80 = .ok (.aload_n 0, 1) := by decide +kernel
theorem dX9_addUnit_81 : decode cX9_addUnit 81 = .ok (.getfield 25, 3) := by decide +kernel
theorem dX9_addUnit_84 : decode cX9_addUnit 84 = .ok (.iload 5, 2) := by decide +kernel
theorem dX9_addUnit_86 : decode cX9_addUnit 86 = .ok (.iconst 1, 1) := by decide +kernel
theorem dX9_addUnit_87 : decode cX9_addUnit 87 = .ok (.isub, 1) := by decide +kernel
theorem dX9_addUnit_88 : decode cX9_addUnit 88 = .ok (.iaload, 1) := by decide +kernel
theorem dX9_addUnit_89 : decode cX9_addUnit 89 = .ok (.imul, 1) := by decide +kernel
theorem dX9_addUnit_90 : decode cX9_addUnit 90 = .ok (.iastore, 1) := by decide +kernel
theorem dX9_addUnit_91 : decode cX9_addUnit 91 = .ok (.aload_n 0, 1) := by decide +kernel
theorem dX9_addUnit_92 : decode cX9_addUnit 92 = .ok (.getfield 28, 3) := by decide +kernel
theorem dX9_addUnit_95 : decode cX9_addUnit 95 = .ok (.iload 5, 2) := by decide +kernel
theorem dX9_addUnit_97 : decode cX9_addUnit 97 = .ok (.iconst 1, 1) := by decide +kernel
theorem dX9_addUnit_98 : decode cX9_addUnit 98 = .ok (.isub, 1) := by decide +kernel
theorem dX9_addUnit_99 : decode cX9_addUnit 99 = .ok (.iload_n 3, 1) := by decide +kernel
theorem dX9_addUnit_100 : decode cX9_addUnit 100 = .ok (.iconst 1, 1) := by decide +kernel
theorem dX9_addUnit_101 : decode cX9_addUnit 101 = .ok (.isub, 1) := by decide +kernel
theorem dX9_addUnit_102 : decode cX9_addUnit 102 = .ok (.iastore, 1) := by decide +kernel
theorem dX9_addUnit_103 : decode cX9_addUnit 103 = .ok (.aload_n 0, 1) := by decide +kernel
theorem dX9_addUnit_104 : decode cX9_addUnit 104 = .ok (.getfield 15, 3) := by decide +kernel
theorem dX9_addUnit_107 : decode cX9_addUnit 107 = .ok (.iload 4, 2) := by decide +kernel
theorem dX9_addUnit_109 : decode cX9_addUnit 109 = .ok (.dup2, 1) := by decide +kernel
theorem dX9_addUnit_110 : decode cX9_addUnit 110 = .ok (.iaload, 1) := by decide +kernel
theorem dX9_addUnit_111 : decode cX9_addUnit 111 = .ok (.iconst 1, 1) := by decide +kernel
theorem dX9_addUnit_112 : decode cX9_addUnit 112 = .ok (.iadd, 1) := by decide +kernel
theorem dX9_addUnit_113 : decode cX9_addUnit 113 = .ok (.iastore, 1) := by decide +kernel
theorem dX9_addUnit_114 : decode cX9_addUnit 114 = .ok (.return_, 1) := by decide +kernel
theorem dX9_find_0 : decode cX9_find 0 = .ok (.iconst 0, 1) := by decide +kernel
theorem dX9_find_1 : decode cX9_find 1 = .ok (.istore_n 3, 1) := by decide +kernel
theorem dX9_find_2 : decode cX9_find 2 = .ok (.iload_n 3, 1) := by decide +kernel
theorem dX9_find_3 : decode cX9_find 3 = .ok (.bipush 15, 2) := by decide +kernel
theorem dX9_find_5 : decode cX9_find 5 = .ok (.if_icmp .ge 22, 3) := by decide +kernel
theorem dX9_find_8 : decode cX9_find 8 = .ok (.aload_n 0, 1) := by decide +kernel
theorem dX9_find_9 : decode cX9_find 9 = .ok (.getfield 19, 3) := by decide +kernel
theorem dX9_find_12 : decode cX9_find 12 = .ok (.iload_n 3, 1) := by decide +kernel
theorem dX9_find_13 : decode cX9_find 13 = .ok (.laload, 1) := by decide +kernel
theorem dX9_find_14 : decode cX9_find 14 = .ok (.lload_n 1, 1) := by decide +kernel
theorem dX9_find_15 : decode cX9_find 15 = .ok (.lcmp, 1) := by decide +kernel
theorem dX9_find_16 : decode cX9_find 16 = .ok (.ifCond .ne 5, 3) := by decide +kernel
theorem dX9_find_19 : decode cX9_find 19 = .ok (.iload_n 3, 1) := by decide +kernel
theorem dX9_find_20 : decode cX9_find 20 = .ok (.ireturn, 1) := by decide +kernel
theorem dX9_find_21 : decode cX9_find 21 = .ok (.iinc 3 1, 3) := by decide +kernel
theorem dX9_find_24 : decode cX9_find 24 = .ok (.goto (-22), 3) := by decide +kernel
theorem dX9_find_27 : decode cX9_find 27 = .ok (.iconst (-1), 1) := by decide +kernel
theorem dX9_find_28 : decode cX9_find 28 = .ok (.ireturn, 1) := by decide +kernel
theorem dX9_isTaken_0 : decode cX9_isTaken 0 = .ok (.iconst 0, 1) := by decide +kernel
theorem dX9_isTaken_1 : decode cX9_isTaken 1 = .ok (.istore_n 3, 1) := by decide +kernel
theorem dX9_isTaken_2 : decode cX9_isTaken 2 = .ok (.iload_n 3, 1) := by decide +kernel
theorem dX9_isTaken_3 : decode cX9_isTaken 3 = .ok (.iconst 3, 1) := by decide +kernel
theorem dX9_isTaken_4 : decode cX9_isTaken 4 = .ok (.if_icmp .ge 22, 3) := by decide +kernel
theorem dX9_isTaken_7 : decode cX9_isTaken 7 = .ok (.aload_n 0, 1) := by decide +kernel
theorem dX9_isTaken_8 : decode cX9_isTaken 8 = .ok (.getfield 9, 3) := by decide +kernel
theorem dX9_isTaken_11 : decode cX9_isTaken 11 = .ok (.iload_n 3, 1) := by decide +kernel
theorem dX9_isTaken_12 : decode cX9_isTaken 12 = .ok (.laload, 1) := by decide +kernel
theorem dX9_isTaken_13 : decode cX9_isTaken 13 = .ok (.lload_n 1, 1) := by decide +kernel
theorem dX9_isTaken_14 : decode cX9_isTaken 14 = .ok (.lcmp, 1) := by decide +kernel
theorem dX9_isTaken_15 : decode cX9_isTaken 15 = .ok (.ifCond .ne 5, 3) := by decide +kernel
theorem dX9_isTaken_18 : decode cX9_isTaken 18 = .ok (.iconst 1, 1) := by decide +kernel
theorem dX9_isTaken_19 : decode cX9_isTaken 19 = .ok (.ireturn, 1) := by decide +kernel
theorem dX9_isTaken_20 : decode cX9_isTaken 20 = .ok (.iinc 3 1, 3) := by decide +kernel
theorem dX9_isTaken_23 : decode cX9_isTaken 23 = .ok (.goto (-21), 3) := by decide +kernel
theorem dX9_isTaken_26 : decode cX9_isTaken 26 = .ok (.aload_n 0, 1) := by decide +kernel
theorem dX9_isTaken_27 : decode cX9_isTaken 27 = .ok (.lload_n 1, 1) := by decide +kernel
theorem dX9_isTaken_28 : decode cX9_isTaken 28 = .ok (.invokevirtual 52, 3) := by decide +kernel
theorem dX9_isTaken_31 : decode cX9_isTaken 31 = .ok (.iconst (-1), 1) := by decide +kernel
theorem dX9_isTaken_32 : decode cX9_isTaken 32 = .ok (.if_icmp .eq 7, 3) := by decide +kernel
theorem dX9_isTaken_35 : decode cX9_isTaken 35 = .ok (.iconst 1, 1) := by decide +kernel
theorem dX9_isTaken_36 : decode cX9_isTaken 36 = .ok (.goto 4, 3) := by decide +kernel
theorem dX9_isTaken_39 : decode cX9_isTaken 39 = .ok (.iconst 0, 1) := by decide +kernel
theorem dX9_isTaken_40 : decode cX9_isTaken 40 = .ok (.ireturn, 1) := by decide +kernel
theorem dX9_canWrite_0 : decode cX9_canWrite 0 = .ok (.aload_n 0, 1) := by decide +kernel
theorem dX9_canWrite_1 : decode cX9_canWrite 1 = .ok (.getfield 15, 3) := by decide +kernel
theorem dX9_canWrite_4 : decode cX9_canWrite 4 = .ok (.iload_n 1, 1) := by decide +kernel
theorem dX9_canWrite_5 : decode cX9_canWrite 5 = .ok (.iaload, 1) := by decide +kernel
theorem dX9_canWrite_6 : decode cX9_canWrite 6 = .ok (.iconst 1, 1) := by decide +kernel
theorem dX9_canWrite_7 : decode cX9_canWrite 7 = .ok (.isub, 1) := by decide +kernel
theorem dX9_canWrite_8 : decode cX9_canWrite 8 = .ok (.istore_n 3, 1) := by decide +kernel
theorem dX9_canWrite_9 : decode cX9_canWrite 9 = .ok (.iload_n 3, 1) := by decide +kernel
theorem dX9_canWrite_10 : decode cX9_canWrite 10 = .ok (.ifCond .lt 16, 3) := by decide +kernel
theorem dX9_canWrite_13 : decode cX9_canWrite 13 = .ok (.aload_n 0, 1) := by decide +kernel
theorem dX9_canWrite_14 : decode cX9_canWrite 14 = .ok (.getfield 25, 3) := by decide +kernel
theorem dX9_canWrite_17 : decode cX9_canWrite 17 = .ok (.iload_n 1, 1) := by decide +kernel
theorem dX9_canWrite_18 : decode cX9_canWrite 18 = .ok (.iload_n 3, 1) := by decide +kernel
theorem dX9_canWrite_19 : decode cX9_canWrite 19 = .ok (.invokestatic 48, 3) := by decide +kernel
theorem dX9_canWrite_22 : decode cX9_canWrite 22 = .ok (.iaload, 1) := by decide +kernel
theorem dX9_canWrite_23 : decode cX9_canWrite 23 = .ok (.goto 4, 3) := by decide +kernel
theorem dX9_canWrite_26 : decode cX9_canWrite 26 = .ok (.iconst 0, 1) := by decide +kernel
theorem dX9_canWrite_27 : decode cX9_canWrite 27 = .ok (.istore 4, 2) := by decide +kernel
theorem dX9_canWrite_29 : decode cX9_canWrite 29 = .ok (.iload 4, 2) := by decide +kernel
theorem dX9_canWrite_31 : decode cX9_canWrite 31 = .ok (.ifCond .le 16, 3) := by decide +kernel
theorem dX9_canWrite_34 : decode cX9_canWrite 34 = .ok (.iload_n 2, 1) := by decide +kernel
theorem dX9_canWrite_35 : decode cX9_canWrite 35 = .ok (.iload 4, 2) := by decide +kernel
theorem dX9_canWrite_37 : decode cX9_canWrite 37 = .ok (.idiv, 1) := by decide +kernel
theorem dX9_canWrite_38 : decode cX9_canWrite 38 = .ok (.bipush 99, 2) := by decide +kernel
theorem dX9_canWrite_40 : decode cX9_canWrite 40 = .ok (.if_icmp .gt 7, 3) := by decide +kernel
theorem dX9_canWrite_43 : decode cX9_canWrite 43 = .ok (.iconst 1, 1) := by decide +kernel
theorem dX9_canWrite_44 : decode cX9_canWrite 44 = .ok (.goto 4, 3) := by decide +kernel
theorem dX9_canWrite_47 : decode cX9_canWrite 47 = .ok (.iconst 0, 1) := by decide +kernel
theorem dX9_canWrite_48 : decode cX9_canWrite 48 = .ok (.ireturn, 1) := by decide +kernel
theorem dX9_writeTo_0 : decode cX9_writeTo 0 = .ok (.iload_n 3, 1) := by decide +kernel
theorem dX9_writeTo_1 : decode cX9_writeTo 1 = .ok (.istore 4, 2) := by decide +kernel
theorem dX9_writeTo_3 : decode cX9_writeTo 3 = .ok (.aload_n 0, 1) := by decide +kernel
theorem dX9_writeTo_4 : decode cX9_writeTo 4 = .ok (.getfield 15, 3) := by decide +kernel
theorem dX9_writeTo_7 : decode cX9_writeTo 7 = .ok (.iload_n 2, 1) := by decide +kernel
theorem dX9_writeTo_8 : decode cX9_writeTo 8 = .ok (.iaload, 1) := by decide +kernel
theorem dX9_writeTo_9 : decode cX9_writeTo 9 = .ok (.iconst 1, 1) := by decide +kernel
theorem dX9_writeTo_10 : decode cX9_writeTo 10 = .ok (.isub, 1) := by decide +kernel
theorem dX9_writeTo_11 : decode cX9_writeTo 11 = .ok (.istore 5, 2) := by decide +kernel
theorem dX9_writeTo_13 : decode cX9_writeTo 13 = .ok (.iload 5, 2) := by decide +kernel
theorem dX9_writeTo_15 : decode cX9_writeTo 15 = .ok (.ifCond .lt 70, 3) := by decide +kernel
theorem dX9_writeTo_18 : decode cX9_writeTo 18 = .ok (.iload_n 2, 1) := by decide +kernel
theorem dX9_writeTo_19 : decode cX9_writeTo 19 = .ok (.iload 5, 2) := by decide +kernel
theorem dX9_writeTo_21 : decode cX9_writeTo 21 = .ok (.invokestatic 48, 3) := by decide +kernel
theorem dX9_writeTo_24 : decode cX9_writeTo 24 = .ok (.istore 6, 2) := by decide +kernel
theorem dX9_writeTo_26 : decode cX9_writeTo 26 = .ok (.aload_n 0, 1) := by decide +kernel
theorem dX9_writeTo_27 : decode cX9_writeTo 27 = .ok (.getfield 25, 3) := by decide +kernel
theorem dX9_writeTo_30 : decode cX9_writeTo 30 = .ok (.iload 6, 2) := by decide +kernel
theorem dX9_writeTo_32 : decode cX9_writeTo 32 = .ok (.iaload, 1) := by decide +kernel
theorem dX9_writeTo_33 : decode cX9_writeTo 33 = .ok (.istore 7, 2) := by decide +kernel
theorem dX9_writeTo_35 : decode cX9_writeTo 35 = .ok (.iload 7, 2) := by decide +kernel
theorem dX9_writeTo_37 : decode cX9_writeTo 37 = .ok (.ifCond .le 11, 3) := by decide +kernel
theorem dX9_writeTo_40 : decode cX9_writeTo 40 = .ok (.iload 4, 2) := by decide +kernel
theorem dX9_writeTo_42 : decode cX9_writeTo 42 = .ok (.iload 7, 2) := by decide +kernel
theorem dX9_writeTo_44 : decode cX9_writeTo 44 = .ok (.idiv, 1) := by decide +kernel
theorem dX9_writeTo_45 : decode cX9_writeTo 45 = .ok (.goto 4, 3) := by decide +kernel
theorem dX9_writeTo_48 : decode cX9_writeTo 48 = .ok (.iconst 0, 1) := by decide +kernel
theorem dX9_writeTo_49 : decode cX9_writeTo 49 = .ok (.istore 8, 2) := by decide +kernel
theorem dX9_writeTo_51 : decode cX9_writeTo 51 = .ok (.iload 4, 2) := by decide +kernel
theorem dX9_writeTo_53 : decode cX9_writeTo 53 = .ok (.iload 8, 2) := by decide +kernel
theorem dX9_writeTo_55 : decode cX9_writeTo 55 = .ok (.iload 7, 2) := by decide +kernel
theorem dX9_writeTo_57 : decode cX9_writeTo 57 = .ok (.imul, 1) := by decide +kernel
theorem dX9_writeTo_58 : decode cX9_writeTo 58 = .ok (.isub, 1) := by decide +kernel
theorem dX9_writeTo_59 : decode cX9_writeTo 59 = .ok (.istore 4, 2) := by decide +kernel
theorem dX9_writeTo_61 : decode cX9_writeTo 61 = .ok (.iload 8, 2) := by decide +kernel
theorem dX9_writeTo_63 : decode cX9_writeTo 63 = .ok (.ifCond .le 16, 3) := by decide +kernel
theorem dX9_writeTo_66 : decode cX9_writeTo 66 = .ok (.aload_n 1, 1) := by decide +kernel
theorem dX9_writeTo_67 : decode cX9_writeTo 67 = .ok (.iload 8, 2) := by decide +kernel
theorem dX9_writeTo_69 : decode cX9_writeTo 69 = .ok (.aload_n 0, 1) := by decide +kernel
theorem dX9_writeTo_70 : decode cX9_writeTo 70 = .ok (.getfield 19, 3) := by decide +kernel
theorem dX9_writeTo_73 : decode cX9_writeTo 73 = .ok (.iload 6, 2) := by decide +kernel
theorem dX9_writeTo_75 : decode cX9_writeTo 75 = .ok (.laload, 1) := by decide +kernel
theorem dX9_writeTo_76 : decode cX9_writeTo 76 = .ok (.invokestatic 56, 3) := by decide +kernel
theorem dX9_writeTo_79 : decode cX9_writeTo 79 = .ok (.iinc 5 (-1), 3) := by decide +kernel
theorem dX9_writeTo_82 : decode cX9_writeTo 82 = .ok (.goto (-69), 3) := by decide +kernel
theorem dX9_writeTo_85 : decode cX9_writeTo 85 = .ok (.return_, 1) := by decide +kernel
theorem dX9_writeAmount_0 : decode cX9_writeAmount 0 = .ok (.aload_n 0, 1) := by decide +kernel
theorem dX9_writeAmount_1 : decode cX9_writeAmount 1 = .ok (.getfield 60, 3) := by decide +kernel
theorem dX9_writeAmount_4 : decode cX9_writeAmount 4 = .ok (.ifCond .le 9, 3) := by decide +kernel
theorem dX9_writeAmount_7 : decode cX9_writeAmount 7 = .ok (.aload_n 0, 1) := by decide +kernel
theorem dX9_writeAmount_8 : decode cX9_writeAmount 8 = .ok (.bipush 32, 2) := by decide +kernel
theorem dX9_writeAmount_10 : decode cX9_writeAmount 10 = .ok (.invokevirtual 65, 3) := by decide +kernel
theorem dX9_writeAmount_13 : decode cX9_writeAmount 13 = .ok (.iload_n 1, 1) := by decide +kernel
theorem dX9_writeAmount_14 : decode cX9_writeAmount 14 = .ok (.bipush 10, 2) := by decide +kernel
theorem dX9_writeAmount_16 : decode cX9_writeAmount 16 = .ok (.if_icmp .lt 14, 3) := by decide +kernel
theorem dX9_writeAmount_19 : decode cX9_writeAmount 19 = .ok (.aload_n 0, 1) := by decide +kernel
theorem dX9_writeAmount_20 : decode cX9_writeAmount 20 = .ok (.bipush 48, 2) := by decide +kernel
theorem dX9_writeAmount_22 : decode cX9_writeAmount 22 = .ok (.iload_n 1, 1) := by decide +kernel
theorem dX9_writeAmount_23 : decode cX9_writeAmount 23 = .ok (.bipush 10, 2) := by decide +kernel
theorem dX9_writeAmount_25 : decode cX9_writeAmount 25 = .ok (.idiv, 1) := by decide +kernel
theorem dX9_writeAmount_26 : decode cX9_writeAmount 26 = .ok (.iadd, 1) := by decide +kernel
theorem dX9_writeAmount_27 : decode cX9_writeAmount 27 = .ok (.invokevirtual 65, 3) := by decide +kernel
theorem dX9_writeAmount_30 : decode cX9_writeAmount 30 = .ok (.aload_n 0, 1) := by decide +kernel
theorem dX9_writeAmount_31 : decode cX9_writeAmount 31 = .ok (.bipush 48, 2) := by decide +kernel
theorem dX9_writeAmount_33 : decode cX9_writeAmount 33 = .ok (.iload_n 1, 1) := by decide +kernel
theorem dX9_writeAmount_34 : decode cX9_writeAmount 34 = .ok (.bipush 10, 2) := by decide +kernel
theorem dX9_writeAmount_36 : decode cX9_writeAmount 36 = .ok (.irem, 1) := by decide +kernel
theorem dX9_writeAmount_37 : decode cX9_writeAmount 37 = .ok (.iadd, 1) := by decide +kernel
theorem dX9_writeAmount_38 : decode cX9_writeAmount 38 = .ok (.invokevirtual 65, 3) := by decide +kernel
theorem dX9_writeAmount_41 : decode cX9_writeAmount 41 = .ok (.aload_n 0, 1) := by decide +kernel
theorem dX9_writeAmount_42 : decode cX9_writeAmount 42 = .ok (.bipush 32, 2) := by decide +kernel
theorem dX9_writeAmount_44 : decode cX9_writeAmount 44 = .ok (.invokevirtual 65, 3) := by decide +kernel
theorem dX9_writeAmount_47 : decode cX9_writeAmount 47 = .ok (.bipush 56, 2) := by decide +kernel
theorem dX9_writeAmount_49 : decode cX9_writeAmount 49 = .ok (.istore 4, 2) := by decide +kernel
theorem dX9_writeAmount_51 : decode cX9_writeAmount 51 = .ok (.iload 4, 2) := by decide +kernel
theorem dX9_writeAmount_53 : decode cX9_writeAmount 53 = .ok (.ifCond .lt 31, 3) := by decide +kernel
theorem dX9_writeAmount_56 : decode cX9_writeAmount 56 = .ok (.lload_n 2, 1) := by decide +kernel
theorem dX9_writeAmount_57 : decode cX9_writeAmount 57 = .ok (.iload 4, 2) := by decide +kernel
theorem dX9_writeAmount_59 : decode cX9_writeAmount 59 = .ok (.lushr, 1) := by decide +kernel
theorem dX9_writeAmount_60 : decode cX9_writeAmount 60 = .ok (.l2i, 1) := by decide +kernel
theorem dX9_writeAmount_61 : decode cX9_writeAmount 61 = .ok (.sipush 255, 3) := by decide +kernel
theorem dX9_writeAmount_64 : decode cX9_writeAmount 64 = .ok (.iand, 1) := by decide +kernel
theorem dX9_writeAmount_65 : decode cX9_writeAmount 65 = .ok (.istore 5, 2) := by decide +kernel
theorem dX9_writeAmount_67 : decode cX9_writeAmount 67 = .ok (.iload 5, 2) := by decide +kernel
theorem dX9_writeAmount_69 : decode cX9_writeAmount 69 = .ok (.ifCond .eq 9, 3) := by decide +kernel
theorem dX9_writeAmount_72 : decode cX9_writeAmount 72 = .ok (.aload_n 0, 1) := by decide +kernel
theorem dX9_writeAmount_73 : decode cX9_writeAmount 73 = .ok (.iload 5, 2) := by decide +kernel
theorem dX9_writeAmount_75 : decode cX9_writeAmount 75 = .ok (.invokevirtual 65, 3) := by decide +kernel
theorem dX9_writeAmount_78 : decode cX9_writeAmount 78 = .ok (.iinc 4 (-8), 3) := by decide +kernel
theorem dX9_writeAmount_81 : decode cX9_writeAmount 81 = .ok (.goto (-30), 3) := by decide +kernel
theorem dX9_writeAmount_84 : decode cX9_writeAmount 84 = .ok (.return_, 1) := by decide +kernel
theorem dX10_init_0 : decode cX10_init 0 = .ok (.aload_n 0, 1) := by decide +kernel
theorem dX10_init_1 : decode cX10_init 1 = .ok (.invokespecial 3, 3) := by decide +kernel
theorem dX10_init_4 : decode cX10_init 4 = .ok (.aload_n 0, 1) := by decide +kernel
theorem dX10_init_5 : decode cX10_init 5 = .ok (.new 9, 3) := by decide +kernel
theorem dX10_init_8 : decode cX10_init 8 = .ok (.dup, 1) := by decide +kernel
theorem dX10_init_9 : decode cX10_init 9 = .ok (.invokespecial 11, 3) := by decide +kernel
theorem dX10_init_12 : decode cX10_init 12 = .ok (.putfield 12, 3) := by decide +kernel
theorem dX10_init_15 : decode cX10_init 15 = .ok (.return_, 1) := by decide +kernel
theorem dX10_read_0 : decode cX10_read 0 = .ok (.aload_n 2, 1) := by decide +kernel
theorem dX10_read_1 : decode cX10_read 1 = .ok (.invokevirtual 18, 3) := by decide +kernel
theorem dX10_read_4 : decode cX10_read 4 = .ok (.aload_n 0, 1) := by decide +kernel
theorem dX10_read_5 : decode cX10_read 5 = .ok (.getfield 12, 3) := by decide +kernel
theorem dX10_read_8 : decode cX10_read 8 = .ok (.aload_n 1, 1) := by decide +kernel
theorem dX10_read_9 : decode cX10_read 9 = .ok (.sipush 400, 3) := by decide +kernel
theorem dX10_read_12 : decode cX10_read 12 = .ok (.iconst 0, 1) := by decide +kernel
theorem dX10_read_13 : decode cX10_read 13 = .ok (.invokevirtual 23, 3) := by decide +kernel
theorem dX10_read_16 : decode cX10_read 16 = .ok (.aload_n 0, 1) := by decide +kernel
theorem dX10_read_17 : decode cX10_read 17 = .ok (.iconst 0, 1) := by decide +kernel
theorem dX10_read_18 : decode cX10_read 18 = .ok (.putfield 27, 3) := by decide +kernel
theorem dX10_read_21 : decode cX10_read 21 = .ok (.iconst 0, 1) := by decide +kernel
theorem dX10_read_22 : decode cX10_read 22 = .ok (.istore_n 3, 1) := by decide +kernel
theorem dX10_read_23 : decode cX10_read 23 = .ok (.iload_n 3, 1) := by decide +kernel
theorem dX10_read_24 : decode cX10_read 24 = .ok (.sipush 400, 3) := by decide +kernel
theorem dX10_read_27 : decode cX10_read 27 = .ok (.if_icmp .gt 55, 3) := by decide +kernel
theorem dX10_read_30 : decode cX10_read 30 = .ok (.aload_n 0, 1) := by decide +kernel
theorem dX10_read_31 : decode cX10_read 31 = .ok (.getfield 12, 3) := by decide +kernel
theorem dX10_read_34 : decode cX10_read 34 = .ok (.invokevirtual 31, 3) := by decide +kernel
theorem dX10_read_37 : decode cX10_read 37 = .ok (.aload_n 0, 1) := by decide +kernel
theorem dX10_read_38 : decode cX10_read 38 = .ok (.getfield 27, 3) := by decide +kernel
theorem dX10_read_41 : decode cX10_read 41 = .ok (.ifCond .ne 25, 3) := by decide +kernel
theorem dX10_read_44 : decode cX10_read 44 = .ok (.aload_n 0, 1) := by decide +kernel
theorem dX10_read_45 : decode cX10_read 45 = .ok (.getfield 12, 3) := by decide +kernel
theorem dX10_read_48 : decode cX10_read 48 = .ok (.getfield 34, 3) := by decide +kernel
theorem dX10_read_51 : decode cX10_read 51 = .ok (.ifCond .ne 15, 3) := by decide +kernel
theorem dX10_read_54 : decode cX10_read 54 = .ok (.aload_n 0, 1) := by decide +kernel
theorem dX10_read_55 : decode cX10_read 55 = .ok (.getfield 12, 3) := by decide +kernel
theorem dX10_read_58 : decode cX10_read 58 = .ok (.aload_n 2, 1) := by decide +kernel
theorem dX10_read_59 : decode cX10_read 59 = .ok (.getfield 37, 3) := by decide +kernel
theorem dX10_read_62 : decode cX10_read 62 = .ok (.invokevirtual 40, 3) := by decide +kernel
theorem dX10_read_65 : decode cX10_read 65 = .ok (.ireturn, 1) := by decide +kernel
theorem dX10_read_66 : decode cX10_read 66 = .ok (.aload_n 0, 1) := by decide +kernel
theorem dX10_read_67 : decode cX10_read 67 = .ok (.aload_n 2, 1) := by decide +kernel
theorem dX10_read_68 : decode cX10_read 68 = .ok (.invokevirtual 44, 3) := by decide +kernel
theorem dX10_read_71 : decode cX10_read 71 = .ok (.ifCond .ne 5, 3) := by decide +kernel
theorem dX10_read_74 : decode cX10_read 74 = .ok (.iconst 0, 1) := by decide +kernel
theorem dX10_read_75 : decode cX10_read 75 = .ok (.ireturn, 1) := by decide +kernel
theorem dX10_read_76 : decode cX10_read 76 = .ok (.iinc 3 1, 3) := by decide +kernel
theorem dX10_read_79 : decode cX10_read 79 = .ok (.goto (-56), 3) := by decide +kernel
theorem dX10_read_82 : decode cX10_read 82 = .ok (.iconst 0, 1) := by decide +kernel
theorem dX10_read_83 : decode cX10_read 83 = .ok (.ireturn, 1) := by decide +kernel
theorem dX10_takeToken_0 : decode cX10_takeToken 0 = .ok (.aload_n 0, 1) := by decide +kernel
theorem dX10_takeToken_1 : decode cX10_takeToken 1 = .ok (.getfield 27, 3) := by decide +kernel
theorem dX10_takeToken_4 : decode cX10_takeToken 4 = .ok (.tableswitch 69 0 3 #[32, 38, 44, 63], 32) := by decide +kernel
theorem dX10_takeToken_36 : decode cX10_takeToken 36 = .ok (.aload_n 0, 1) := by decide +kernel
theorem dX10_takeToken_37 : decode cX10_takeToken 37 = .ok (.aload_n 1, 1) := by decide +kernel
theorem dX10_takeToken_38 : decode cX10_takeToken 38 = .ok (.invokevirtual 48, 3) := by decide +kernel
theorem dX10_takeToken_41 : decode cX10_takeToken 41 = .ok (.ireturn, 1) := by decide +kernel
theorem dX10_takeToken_42 : decode cX10_takeToken 42 = .ok (.aload_n 0, 1) := by decide +kernel
theorem dX10_takeToken_43 : decode cX10_takeToken 43 = .ok (.aload_n 1, 1) := by decide +kernel
theorem dX10_takeToken_44 : decode cX10_takeToken 44 = .ok (.invokevirtual 51, 3) := by decide +kernel
theorem dX10_takeToken_47 : decode cX10_takeToken 47 = .ok (.ireturn, 1) := by decide +kernel
theorem dX10_takeToken_48 : decode cX10_takeToken 48 = .ok (.aload_n 0, 1) := by decide +kernel
theorem dX10_takeToken_49 : decode cX10_takeToken 49 = .ok (.iconst 1, 1) := by decide +kernel
theorem dX10_takeToken_50 : decode cX10_takeToken 50 = .ok (.putfield 54, 3) := by decide +kernel
theorem dX10_takeToken_53 : decode cX10_takeToken 53 = .ok (.aload_n 0, 1) := by decide +kernel
theorem dX10_takeToken_54 : decode cX10_takeToken 54 = .ok (.iconst 3, 1) := by decide +kernel
theorem dX10_takeToken_55 : decode cX10_takeToken 55 = .ok (.putfield 27, 3) := by decide +kernel
theorem dX10_takeToken_58 : decode cX10_takeToken 58 = .ok (.aload_n 0, 1) := by decide +kernel
theorem dX10_takeToken_59 : decode cX10_takeToken 59 = .ok (.getfield 12, 3) := by decide +kernel
theorem dX10_takeToken_62 : decode cX10_takeToken 62 = .ok (.iconst 4, 1) := by decide +kernel
theorem dX10_takeToken_63 : decode cX10_takeToken 63 = .ok (.invokevirtual 57, 3) := by decide +kernel
theorem dX10_takeToken_66 : decode cX10_takeToken 66 = .ok (.ireturn, 1) := by decide +kernel
theorem dX10_takeToken_67 : decode cX10_takeToken 67 = .ok (.aload_n 0, 1) := by decide +kernel
theorem dX10_takeToken_68 : decode cX10_takeToken 68 = .ok (.aload_n 1, 1) := by decide +kernel
theorem dX10_takeToken_69 : decode cX10_takeToken 69 = .ok (.invokevirtual 60, 3) := by decide +kernel
theorem dX10_takeToken_72 : decode cX10_takeToken 72 = .ok (.ireturn, 1) := by decide +kernel
theorem dX10_takeToken_73 : decode cX10_takeToken 73 = .ok (.aload_n 0, 1) := by decide +kernel
theorem dX10_takeToken_74 : decode cX10_takeToken 74 = .ok (.getfield 12, 3) := by decide +kernel
theorem dX10_takeToken_77 : decode cX10_takeToken 77 = .ok (.getfield 34, 3) := by decide +kernel
theorem dX10_takeToken_80 : decode cX10_takeToken 80 = .ok (.iconst 3, 1) := by decide +kernel
theorem dX10_takeToken_81 : decode cX10_takeToken 81 = .ok (.if_icmp .ne 11, 3) := by decide +kernel
theorem dX10_takeToken_84 : decode cX10_takeToken 84 = .ok (.aload_n 0, 1) := by decide +kernel
theorem dX10_takeToken_85 : decode cX10_takeToken 85 = .ok (.aload_n 1, 1) := by decide +kernel
theorem dX10_takeToken_86 : decode cX10_takeToken 86 = .ok (.invokevirtual 63, 3) := by decide +kernel
theorem dX10_takeToken_89 : decode cX10_takeToken 89 = .ok (.goto 7, 3) := by decide +kernel
theorem dX10_takeToken_92 : decode cX10_takeToken 92 = .ok (.aload_n 0, 1) := by decide +kernel
theorem dX10_takeToken_93 : decode cX10_takeToken 93 = .ok (.invokevirtual 66, 3) := by decide +kernel
theorem dX10_takeToken_96 : decode cX10_takeToken 96 = .ok (.ireturn, 1) := by decide +kernel
theorem dX10_beginSystem_0 : decode cX10_beginSystem 0 = .ok (.aload_n 0, 1) := by decide +kernel
theorem dX10_beginSystem_1 : decode cX10_beginSystem 1 = .ok (.getfield 12, 3) := by decide +kernel
theorem dX10_beginSystem_4 : decode cX10_beginSystem 4 = .ok (.bipush 6, 2) := by decide +kernel
theorem dX10_beginSystem_6 : decode cX10_beginSystem 6 = .ok (.invokevirtual 57, 3) := by decide +kernel
theorem dX10_beginSystem_9 : decode cX10_beginSystem 9 = .ok (.ifCond .ne 5, 3) := by decide +kernel
theorem dX10_beginSystem_12 : decode cX10_beginSystem 12 = .ok (.iconst 0, 1) := by decide +kernel
theorem dX10_beginSystem_13 : decode cX10_beginSystem 13 = .ok (.ireturn, 1) := by decide +kernel
theorem dX10_beginSystem_14 : decode cX10_beginSystem 14 = .ok (.aload_n 0, 1) := by decide +kernel
theorem dX10_beginSystem_15 : decode cX10_beginSystem 15 = .ok (.iconst 1, 1) := by decide +kernel
theorem dX10_beginSystem_16 : decode cX10_beginSystem 16 = .ok (.putfield 27, 3) := by decide +kernel
theorem dX10_beginSystem_19 : decode cX10_beginSystem 19 = .ok (.aload_n 1, 1) := by decide +kernel
theorem dX10_beginSystem_20 : decode cX10_beginSystem 20 = .ok (.getfield 37, 3) := by decide +kernel
theorem dX10_beginSystem_23 : decode cX10_beginSystem 23 = .ok (.iconst 3, 1) := by decide +kernel
theorem dX10_beginSystem_24 : decode cX10_beginSystem 24 = .ok (.if_icmp .lt 21, 3) := by decide +kernel
theorem dX10_beginSystem_27 : decode cX10_beginSystem 27 = .ok (.aload_n 0, 1) := by decide +kernel
theorem dX10_beginSystem_28 : decode cX10_beginSystem 28 = .ok (.getfield 12, 3) := by decide +kernel
theorem dX10_beginSystem_31 : decode cX10_beginSystem 31 = .ok (.iconst 4, 1) := by decide +kernel
theorem dX10_beginSystem_32 : decode cX10_beginSystem 32 = .ok (.aload_n 0, 1) := by decide +kernel
theorem dX10_beginSystem_33 : decode cX10_beginSystem 33 = .ok (.getfield 12, 3) := by decide +kernel
theorem dX10_beginSystem_36 : decode cX10_beginSystem 36 = .ok (.getfield 70, 3) := by decide +kernel
theorem dX10_beginSystem_39 : decode cX10_beginSystem 39 = .ok (.invokevirtual 73, 3) := by decide +kernel
theorem dX10_beginSystem_42 : decode cX10_beginSystem 42 = .ok (.ifCond .eq 7, 3) := by decide +kernel
theorem dX10_beginSystem_45 : decode cX10_beginSystem 45 = .ok (.iconst 1, 1) := by decide +kernel
theorem dX10_beginSystem_46 : decode cX10_beginSystem 46 = .ok (.goto 4, 3) := by decide +kernel
theorem dX10_beginSystem_49 : decode cX10_beginSystem 49 = .ok (.iconst 0, 1) := by decide +kernel
theorem dX10_beginSystem_50 : decode cX10_beginSystem 50 = .ok (.ireturn, 1) := by decide +kernel
theorem dX10_takeSystemName_0 : decode cX10_takeSystemName 0 = .ok (.aload_n 0, 1) := by decide +kernel
theorem dX10_takeSystemName_1 : decode cX10_takeSystemName 1 = .ok (.aload_n 1, 1) := by decide +kernel
theorem dX10_takeSystemName_2 : decode cX10_takeSystemName 2 = .ok (.invokevirtual 77, 3) := by decide +kernel
theorem dX10_takeSystemName_5 : decode cX10_takeSystemName 5 = .ok (.ifCond .ne 5, 3) := by decide +kernel
theorem dX10_takeSystemName_8 : decode cX10_takeSystemName 8 = .ok (.iconst 0, 1) := by decide +kernel
theorem dX10_takeSystemName_9 : decode cX10_takeSystemName 9 = .ok (.ireturn, 1) := by decide +kernel
theorem dX10_takeSystemName_10 : decode cX10_takeSystemName 10 = .ok (.aload_n 1, 1) := by decide +kernel
theorem dX10_takeSystemName_11 : decode cX10_takeSystemName 11 = .ok (.aload_n 0, 1) := by decide +kernel
theorem dX10_takeSystemName_12 : decode cX10_takeSystemName 12 = .ok (.getfield 12, 3) := by decide +kernel
theorem dX10_takeSystemName_15 : decode cX10_takeSystemName 15 = .ok (.getfield 80, 3) := by decide +kernel
theorem dX10_takeSystemName_18 : decode cX10_takeSystemName 18 = .ok (.invokevirtual 84, 3) := by decide +kernel
theorem dX10_takeSystemName_21 : decode cX10_takeSystemName 21 = .ok (.aload_n 0, 1) := by decide +kernel
theorem dX10_takeSystemName_22 : decode cX10_takeSystemName 22 = .ok (.iconst 2, 1) := by decide +kernel
theorem dX10_takeSystemName_23 : decode cX10_takeSystemName 23 = .ok (.putfield 27, 3) := by decide +kernel
theorem dX10_takeSystemName_26 : decode cX10_takeSystemName 26 = .ok (.iconst 1, 1) := by decide +kernel
theorem dX10_takeSystemName_27 : decode cX10_takeSystemName 27 = .ok (.ireturn, 1) := by decide +kernel
theorem dX10_takeUnitName_0 : decode cX10_takeUnitName 0 = .ok (.aload_n 0, 1) := by decide +kernel
theorem dX10_takeUnitName_1 : decode cX10_takeUnitName 1 = .ok (.aload_n 1, 1) := by decide +kernel
theorem dX10_takeUnitName_2 : decode cX10_takeUnitName 2 = .ok (.invokevirtual 77, 3) := by decide +kernel
theorem dX10_takeUnitName_5 : decode cX10_takeUnitName 5 = .ok (.ifCond .ne 5, 3) := by decide +kernel
theorem dX10_takeUnitName_8 : decode cX10_takeUnitName 8 = .ok (.iconst 0, 1) := by decide +kernel
theorem dX10_takeUnitName_9 : decode cX10_takeUnitName 9 = .ok (.ireturn, 1) := by decide +kernel
theorem dX10_takeUnitName_10 : decode cX10_takeUnitName 10 = .ok (.aload_n 1, 1) := by decide +kernel
theorem dX10_takeUnitName_11 : decode cX10_takeUnitName 11 = .ok (.aload_n 0, 1) := by decide +kernel
theorem dX10_takeUnitName_12 : decode cX10_takeUnitName 12 = .ok (.getfield 12, 3) := by decide +kernel
theorem dX10_takeUnitName_15 : decode cX10_takeUnitName 15 = .ok (.getfield 80, 3) := by decide +kernel
theorem dX10_takeUnitName_18 : decode cX10_takeUnitName 18 = .ok (.aload_n 0, 1) := by decide +kernel
theorem dX10_takeUnitName_19 : decode cX10_takeUnitName 19 = .ok (.getfield 54, 3) := by decide +kernel
theorem dX10_takeUnitName_22 : decode cX10_takeUnitName 22 = .ok (.invokevirtual 88, 3) := by decide +kernel
theorem dX10_takeUnitName_25 : decode cX10_takeUnitName 25 = .ok (.aload_n 0, 1) := by decide +kernel
theorem dX10_takeUnitName_26 : decode cX10_takeUnitName 26 = .ok (.iconst 4, 1) := by decide +kernel
theorem dX10_takeUnitName_27 : decode cX10_takeUnitName 27 = .ok (.putfield 27, 3) := by decide +kernel
theorem dX10_takeUnitName_30 : decode cX10_takeUnitName 30 = .ok (.iconst 1, 1) := by decide +kernel
theorem dX10_takeUnitName_31 : decode cX10_takeUnitName 31 = .ok (.ireturn, 1) := by decide +kernel
theorem dX10_isNewName_0 : decode cX10_isNewName 0 = .ok (.aload_n 0, 1) := by decide +kernel
theorem dX10_isNewName_1 : decode cX10_isNewName 1 = .ok (.getfield 12, 3) := by decide +kernel
theorem dX10_isNewName_4 : decode cX10_isNewName 4 = .ok (.iconst 2, 1) := by decide +kernel
theorem dX10_isNewName_5 : decode cX10_isNewName 5 = .ok (.invokevirtual 57, 3) := by decide +kernel
theorem dX10_isNewName_8 : decode cX10_isNewName 8 = .ok (.ifCond .ne 5, 3) := by decide +kernel
theorem dX10_isNewName_11 : decode cX10_isNewName 11 = .ok (.iconst 0, 1) := by decide +kernel
theorem dX10_isNewName_12 : decode cX10_isNewName 12 = .ok (.ireturn, 1) := by decide +kernel
theorem dX10_isNewName_13 : decode cX10_isNewName 13 = .ok (.aload_n 1, 1) := by decide +kernel
theorem dX10_isNewName_14 : decode cX10_isNewName 14 = .ok (.aload_n 0, 1) := by decide +kernel
theorem dX10_isNewName_15 : decode cX10_isNewName 15 = .ok (.getfield 12, 3) := by decide +kernel
theorem dX10_isNewName_18 : decode cX10_isNewName 18 = .ok (.getfield 80, 3) := by decide +kernel
theorem dX10_isNewName_21 : decode cX10_isNewName 21 = .ok (.invokevirtual 92, 3) := by decide +kernel
theorem dX10_isNewName_24 : decode cX10_isNewName 24 = .ok (.ifCond .eq 21, 3) := by decide +kernel
theorem dX10_isNewName_27 : decode cX10_isNewName 27 = .ok (.aload_n 0, 1) := by decide +kernel
theorem dX10_isNewName_28 : decode cX10_isNewName 28 = .ok (.getfield 12, 3) := by decide +kernel
theorem dX10_isNewName_31 : decode cX10_isNewName 31 = .ok (.iconst 3, 1) := by decide +kernel
theorem dX10_isNewName_32 : decode cX10_isNewName 32 = .ok (.aload_n 0, 1) := by decide +kernel
theorem dX10_isNewName_33 : decode cX10_isNewName 33 = .ok (.getfield 12, 3) := by decide +kernel
theorem dX10_isNewName_36 : decode cX10_isNewName 36 = .ok (.getfield 70, 3) := by decide +kernel
theorem dX10_isNewName_39 : decode cX10_isNewName 39 = .ok (.invokevirtual 73, 3) := by decide +kernel
theorem dX10_isNewName_42 : decode cX10_isNewName 42 = .ok (.ifCond .eq 7, 3) := by decide +kernel
theorem dX10_isNewName_45 : decode cX10_isNewName 45 = .ok (.iconst 1, 1) := by decide +kernel
theorem dX10_isNewName_46 : decode cX10_isNewName 46 = .ok (.goto 4, 3) := by decide +kernel
theorem dX10_isNewName_49 : decode cX10_isNewName 49 = .ok (.iconst 0, 1) := by decide +kernel
theorem dX10_isNewName_50 : decode cX10_isNewName 50 = .ok (.ireturn, 1) := by decide +kernel
theorem dX10_takeFactor_0 : decode cX10_takeFactor 0 = .ok (.aload_n 0, 1) := by decide +kernel
theorem dX10_takeFactor_1 : decode cX10_takeFactor 1 = .ok (.aload_n 0, 1) := by decide +kernel
theorem dX10_takeFactor_2 : decode cX10_takeFactor 2 = .ok (.getfield 12, 3) := by decide +kernel
theorem dX10_takeFactor_5 : decode cX10_takeFactor 5 = .ok (.invokevirtual 96, 3) := by decide +kernel
theorem dX10_takeFactor_8 : decode cX10_takeFactor 8 = .ok (.putfield 54, 3) := by decide +kernel
theorem dX10_takeFactor_11 : decode cX10_takeFactor 11 = .ok (.aload_n 0, 1) := by decide +kernel
theorem dX10_takeFactor_12 : decode cX10_takeFactor 12 = .ok (.getfield 54, 3) := by decide +kernel
theorem dX10_takeFactor_15 : decode cX10_takeFactor 15 = .ok (.iconst 2, 1) := by decide +kernel
theorem dX10_takeFactor_16 : decode cX10_takeFactor 16 = .ok (.if_icmp .lt 12, 3) := by decide +kernel
theorem dX10_takeFactor_19 : decode cX10_takeFactor 19 = .ok (.aload_n 0, 1) := by decide +kernel
theorem dX10_takeFactor_20 : decode cX10_takeFactor 20 = .ok (.getfield 54, 3) := by decide +kernel
theorem dX10_takeFactor_23 : decode cX10_takeFactor 23 = .ok (.bipush 60, 2) := by decide +kernel
theorem dX10_takeFactor_25 : decode cX10_takeFactor 25 = .ok (.if_icmp .le 19, 3) := by decide +kernel
theorem dX10_takeFactor_28 : decode cX10_takeFactor 28 = .ok (.aload_n 0, 1) := by decide +kernel
theorem dX10_takeFactor_29 : decode cX10_takeFactor 29 = .ok (.getfield 12, 3) := by decide +kernel
theorem dX10_takeFactor_32 : decode cX10_takeFactor 32 = .ok (.iconst 2, 1) := by decide +kernel
theorem dX10_takeFactor_33 : decode cX10_takeFactor 33 = .ok (.aload_n 0, 1) := by decide +kernel
theorem dX10_takeFactor_34 : decode cX10_takeFactor 34 = .ok (.getfield 12, 3) := by decide +kernel
theorem dX10_takeFactor_37 : decode cX10_takeFactor 37 = .ok (.getfield 70, 3) := by decide +kernel
theorem dX10_takeFactor_40 : decode cX10_takeFactor 40 = .ok (.invokevirtual 73, 3) := by decide +kernel
theorem dX10_takeFactor_43 : decode cX10_takeFactor 43 = .ok (.ireturn, 1) := by decide +kernel
theorem dX10_takeFactor_44 : decode cX10_takeFactor 44 = .ok (.aload_n 0, 1) := by decide +kernel
theorem dX10_takeFactor_45 : decode cX10_takeFactor 45 = .ok (.iconst 3, 1) := by decide +kernel
theorem dX10_takeFactor_46 : decode cX10_takeFactor 46 = .ok (.putfield 27, 3) := by decide +kernel
theorem dX10_takeFactor_49 : decode cX10_takeFactor 49 = .ok (.aload_n 1, 1) := by decide +kernel
theorem dX10_takeFactor_50 : decode cX10_takeFactor 50 = .ok (.invokevirtual 100, 3) := by decide +kernel
theorem dX10_takeFactor_53 : decode cX10_takeFactor 53 = .ok (.ifCond .eq 21, 3) := by decide +kernel
theorem dX10_takeFactor_56 : decode cX10_takeFactor 56 = .ok (.aload_n 0, 1) := by decide +kernel
theorem dX10_takeFactor_57 : decode cX10_takeFactor 57 = .ok (.getfield 12, 3) := by decide +kernel
theorem dX10_takeFactor_60 : decode cX10_takeFactor 60 = .ok (.iconst 4, 1) := by decide +kernel
theorem dX10_takeFactor_61 : decode cX10_takeFactor 61 = .ok (.aload_n 0, 1) := by decide +kernel
theorem dX10_takeFactor_62 : decode cX10_takeFactor 62 = .ok (.getfield 12, 3) := by decide +kernel
theorem dX10_takeFactor_65 : decode cX10_takeFactor 65 = .ok (.getfield 70, 3) := by decide +kernel
theorem dX10_takeFactor_68 : decode cX10_takeFactor 68 = .ok (.invokevirtual 73, 3) := by decide +kernel
theorem dX10_takeFactor_71 : decode cX10_takeFactor 71 = .ok (.ifCond .eq 7, 3) := by decide +kernel
theorem dX10_takeFactor_74 : decode cX10_takeFactor 74 = .ok (.iconst 1, 1) := by decide +kernel
theorem dX10_takeFactor_75 : decode cX10_takeFactor 75 = .ok (.goto 4, 3) := by decide +kernel
theorem dX10_takeFactor_78 : decode cX10_takeFactor 78 = .ok (.iconst 0, 1) := by decide +kernel
theorem dX10_takeFactor_79 : decode cX10_takeFactor 79 = .ok (.ireturn, 1) := by decide +kernel
theorem dX10_endSystem_0 : decode cX10_endSystem 0 = .ok (.aload_n 0, 1) := by decide +kernel
theorem dX10_endSystem_1 : decode cX10_endSystem 1 = .ok (.iconst 0, 1) := by decide +kernel
theorem dX10_endSystem_2 : decode cX10_endSystem 2 = .ok (.putfield 27, 3) := by decide +kernel
theorem dX10_endSystem_5 : decode cX10_endSystem 5 = .ok (.aload_n 0, 1) := by decide +kernel
theorem dX10_endSystem_6 : decode cX10_endSystem 6 = .ok (.getfield 12, 3) := by decide +kernel
theorem dX10_endSystem_9 : decode cX10_endSystem 9 = .ok (.iconst 5, 1) := by decide +kernel
theorem dX10_endSystem_10 : decode cX10_endSystem 10 = .ok (.invokevirtual 57, 3) := by decide +kernel
theorem dX10_endSystem_13 : decode cX10_endSystem 13 = .ok (.ireturn, 1) := by decide +kernel
theorem dJ9_max_7cf53_0 : decode cJ9_max_7cf53 0 = .ok (.iload_n 0, 1) := by decide +kernel
theorem dJ9_max_7cf53_1 : decode cJ9_max_7cf53 1 = .ok (.iload_n 1, 1) := by decide +kernel
theorem dJ9_max_7cf53_2 : decode cJ9_max_7cf53 2 = .ok (.if_icmp .lt 7, 3) := by decide +kernel
theorem dJ9_max_7cf53_5 : decode cJ9_max_7cf53 5 = .ok (.iload_n 0, 1) := by decide +kernel
theorem dJ9_max_7cf53_6 : decode cJ9_max_7cf53 6 = .ok (.goto 4, 3) := by decide +kernel
theorem dJ9_max_7cf53_9 : decode cJ9_max_7cf53 9 = .ok (.iload_n 1, 1) := by decide +kernel
theorem dJ9_max_7cf53_10 : decode cJ9_max_7cf53 10 = .ok (.ireturn, 1) := by decide +kernel
theorem dJ9_max_f86c9_0 : decode cJ9_max_f86c9 0 = .ok (.lload_n 0, 1) := by decide +kernel
theorem dJ9_max_f86c9_1 : decode cJ9_max_f86c9 1 = .ok (.lload_n 2, 1) := by decide +kernel
theorem dJ9_max_f86c9_2 : decode cJ9_max_f86c9 2 = .ok (.lcmp, 1) := by decide +kernel
theorem dJ9_max_f86c9_3 : decode cJ9_max_f86c9 3 = .ok (.ifCond .lt 7, 3) := by decide +kernel
theorem dJ9_max_f86c9_6 : decode cJ9_max_f86c9 6 = .ok (.lload_n 0, 1) := by decide +kernel
theorem dJ9_max_f86c9_7 : decode cJ9_max_f86c9 7 = .ok (.goto 4, 3) := by decide +kernel
theorem dJ9_max_f86c9_10 : decode cJ9_max_f86c9 10 = .ok (.lload_n 2, 1) := by decide +kernel
theorem dJ9_max_f86c9_11 : decode cJ9_max_f86c9 11 = .ok (.lreturn, 1) := by decide +kernel
theorem dJ9_min_7cf53_0 : decode cJ9_min_7cf53 0 = .ok (.iload_n 0, 1) := by decide +kernel
theorem dJ9_min_7cf53_1 : decode cJ9_min_7cf53 1 = .ok (.iload_n 1, 1) := by decide +kernel
theorem dJ9_min_7cf53_2 : decode cJ9_min_7cf53 2 = .ok (.if_icmp .gt 7, 3) := by decide +kernel
theorem dJ9_min_7cf53_5 : decode cJ9_min_7cf53 5 = .ok (.iload_n 0, 1) := by decide +kernel
theorem dJ9_min_7cf53_6 : decode cJ9_min_7cf53 6 = .ok (.goto 4, 3) := by decide +kernel
theorem dJ9_min_7cf53_9 : decode cJ9_min_7cf53 9 = .ok (.iload_n 1, 1) := by decide +kernel
theorem dJ9_min_7cf53_10 : decode cJ9_min_7cf53 10 = .ok (.ireturn, 1) := by decide +kernel
theorem dJ9_min_f86c9_0 : decode cJ9_min_f86c9 0 = .ok (.lload_n 0, 1) := by decide +kernel
theorem dJ9_min_f86c9_1 : decode cJ9_min_f86c9 1 = .ok (.lload_n 2, 1) := by decide +kernel
theorem dJ9_min_f86c9_2 : decode cJ9_min_f86c9 2 = .ok (.lcmp, 1) := by decide +kernel
theorem dJ9_min_f86c9_3 : decode cJ9_min_f86c9 3 = .ok (.ifCond .gt 7, 3) := by decide +kernel
theorem dJ9_min_f86c9_6 : decode cJ9_min_f86c9 6 = .ok (.lload_n 0, 1) := by decide +kernel
theorem dJ9_min_f86c9_7 : decode cJ9_min_f86c9 7 = .ok (.goto 4, 3) := by decide +kernel
theorem dJ9_min_f86c9_10 : decode cJ9_min_f86c9 10 = .ok (.lload_n 2, 1) := by decide +kernel
theorem dJ9_min_f86c9_11 : decode cJ9_min_f86c9 11 = .ok (.lreturn, 1) := by decide +kernel
theorem dJ7_fill_d0a16_0 : decode cJ7_fill_d0a16 0 = .ok (.iconst 0, 1) := by decide +kernel
theorem dJ7_fill_d0a16_1 : decode cJ7_fill_d0a16 1 = .ok (.istore_n 3, 1) := by decide +kernel
theorem dJ7_fill_d0a16_2 : decode cJ7_fill_d0a16 2 = .ok (.aload_n 0, 1) := by decide +kernel
theorem dJ7_fill_d0a16_3 : decode cJ7_fill_d0a16 3 = .ok (.arraylength, 1) := by decide +kernel
theorem dJ7_fill_d0a16_4 : decode cJ7_fill_d0a16 4 = .ok (.istore 4, 2) := by decide +kernel
theorem dJ7_fill_d0a16_6 : decode cJ7_fill_d0a16 6 = .ok (.iload_n 3, 1) := by decide +kernel
theorem dJ7_fill_d0a16_7 : decode cJ7_fill_d0a16 7 = .ok (.iload 4, 2) := by decide +kernel
theorem dJ7_fill_d0a16_9 : decode cJ7_fill_d0a16 9 = .ok (.if_icmp .ge 13, 3) := by decide +kernel
theorem dJ7_fill_d0a16_12 : decode cJ7_fill_d0a16 12 = .ok (.aload_n 0, 1) := by decide +kernel
theorem dJ7_fill_d0a16_13 : decode cJ7_fill_d0a16 13 = .ok (.iload_n 3, 1) := by decide +kernel
theorem dJ7_fill_d0a16_14 : decode cJ7_fill_d0a16 14 = .ok (.lload_n 1, 1) := by decide +kernel
theorem dJ7_fill_d0a16_15 : decode cJ7_fill_d0a16 15 = .ok (.lastore, 1) := by decide +kernel
theorem dJ7_fill_d0a16_16 : decode cJ7_fill_d0a16 16 = .ok (.iinc 3 1, 3) := by decide +kernel
theorem dJ7_fill_d0a16_19 : decode cJ7_fill_d0a16 19 = .ok (.goto (-13), 3) := by decide +kernel
theorem dJ7_fill_d0a16_22 : decode cJ7_fill_d0a16 22 = .ok (.return_, 1) := by decide +kernel
theorem dJ7_fill_53178_0 : decode cJ7_fill_53178 0 = .ok (.iconst 0, 1) := by decide +kernel
theorem dJ7_fill_53178_1 : decode cJ7_fill_53178 1 = .ok (.istore_n 2, 1) := by decide +kernel
theorem dJ7_fill_53178_2 : decode cJ7_fill_53178 2 = .ok (.aload_n 0, 1) := by decide +kernel
theorem dJ7_fill_53178_3 : decode cJ7_fill_53178 3 = .ok (.arraylength, 1) := by decide +kernel
theorem dJ7_fill_53178_4 : decode cJ7_fill_53178 4 = .ok (.istore_n 3, 1) := by decide +kernel
theorem dJ7_fill_53178_5 : decode cJ7_fill_53178 5 = .ok (.iload_n 2, 1) := by decide +kernel
theorem dJ7_fill_53178_6 : decode cJ7_fill_53178 6 = .ok (.iload_n 3, 1) := by decide +kernel
theorem dJ7_fill_53178_7 : decode cJ7_fill_53178 7 = .ok (.if_icmp .ge 13, 3) := by decide +kernel
theorem dJ7_fill_53178_10 : decode cJ7_fill_53178 10 = .ok (.aload_n 0, 1) := by decide +kernel
theorem dJ7_fill_53178_11 : decode cJ7_fill_53178 11 = .ok (.iload_n 2, 1) := by decide +kernel
theorem dJ7_fill_53178_12 : decode cJ7_fill_53178 12 = .ok (.iload_n 1, 1) := by decide +kernel
theorem dJ7_fill_53178_13 : decode cJ7_fill_53178 13 = .ok (.iastore, 1) := by decide +kernel
theorem dJ7_fill_53178_14 : decode cJ7_fill_53178 14 = .ok (.iinc 2 1, 3) := by decide +kernel
theorem dJ7_fill_53178_17 : decode cJ7_fill_53178 17 = .ok (.goto (-12), 3) := by decide +kernel
theorem dJ7_fill_53178_20 : decode cJ7_fill_53178 20 = .ok (.return_, 1) := by decide +kernel
