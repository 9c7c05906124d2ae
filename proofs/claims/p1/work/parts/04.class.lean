set_option maxRecDepth 20000 in
theorem ggX0_init_X7_init : GoodIn wsX0_init wsX7_init := goodIn_r _ [10, 11, 2, 3, 12, 13, 14, 15, 16, 17, 18, 19, 20] (by decide +kernel) (by decide +kernel)
set_option maxRecDepth 20000 in
theorem gX0_init_X7_init : GoodIn wsX0_init (wsX7_init) := ggX0_init_X7_init
theorem dX0_init_0 : decode cX0_init 0 = .ok (.aload_n 0, 1) := by decide +kernel
theorem dX0_init_1 : decode cX0_init 1 = .ok (.invokespecial 3, 3) := by decide +kernel
theorem dX0_init_4 : decode cX0_init 4 = .ok (.aload_n 0, 1) := by decide +kernel
theorem dX0_init_5 : decode cX0_init 5 = .ok (.new 9, 3) := by decide +kernel
theorem dX0_init_8 : decode cX0_init 8 = .ok (.dup, 1) := by decide +kernel
theorem dX0_init_9 : decode cX0_init 9 = .ok (.sipush 200, 3) := by decide +kernel
theorem dX0_init_12 : decode cX0_init 12 = .ok (.invokespecial 11, 3) := by decide +kernel
theorem dX0_init_15 : decode cX0_init 15 = .ok (.putfield 14, 3) := by decide +kernel
theorem dX0_init_18 : decode cX0_init 18 = .ok (.return_, 1) := by decide +kernel
set_option maxRecDepth 20000 in
theorem ggX0_take_X7_clear : GoodIn wsX0_take wsX7_clear := goodIn_r _ [10, 11, 25, 26] (by decide +kernel) (by decide +kernel)
set_option maxRecDepth 20000 in
theorem gX0_take_X7_clear : GoodIn wsX0_take (wsV RX0 20 RX7 yX7_clear wsX7_clear) := goodIn_app (goodIn_of _ (by decide +kernel)) ggX0_take_X7_clear
set_option maxRecDepth 20000 in
theorem ggX0_take_X7_put : GoodIn wsX0_take wsX7_put := goodIn_r _ [20, 11, 16, 25, 26] (by decide +kernel) (by decide +kernel)
set_option maxRecDepth 20000 in
theorem gX0_take_X7_put : GoodIn wsX0_take (wsV RX0 34 RX7 yX7_put wsX7_put) := goodIn_app (goodIn_of _ (by decide +kernel)) ggX0_take_X7_put
theorem dX0_take_0 : decode cX0_take 0 = .ok (.aload_n 0, 1) := by decide +kernel
theorem dX0_take_1 : decode cX0_take 1 = .ok (.getfield 14, 3) := by decide +kernel
theorem dX0_take_4 : decode cX0_take 4 = .ok (.invokevirtual 20, 3) := by decide +kernel
theorem dX0_take_7 : decode cX0_take 7 = .ok (.aload_n 0, 1) := by decide +kernel
theorem dX0_take_8 : decode cX0_take 8 = .ok (.iconst 1, 1) := by decide +kernel
theorem dX0_take_9 : decode cX0_take 9 = .ok (.putfield 23, 3) := by decide +kernel
theorem dX0_take_12 : decode cX0_take 12 = .ok (.iconst 0, 1) := by decide +kernel
theorem dX0_take_13 : decode cX0_take 13 = .ok (.istore 4, 2) := by decide +kernel
theorem dX0_take_15 : decode cX0_take 15 = .ok (.iload 4, 2) := by decide +kernel
theorem dX0_take_17 : decode cX0_take 17 = .ok (.aload_n 1, 1) := by decide +kernel
theorem dX0_take_18 : decode cX0_take 18 = .ok (.getfield 27, 3) := by decide +kernel
theorem dX0_take_21 : decode cX0_take 21 = .ok (.if_icmp .ge 47, 3) := by decide +kernel
theorem dX0_take_24 : decode cX0_take 24 = .ok (.aload_n 1, 1) := by decide +kernel
theorem dX0_take_25 : decode cX0_take 25 = .ok (.iload 4, 2) := by decide +kernel
theorem dX0_take_27 : decode cX0_take 27 = .ok (.invokevirtual 30, 3) := by decide +kernel
theorem dX0_take_30 : decode cX0_take 30 = .ok (.istore 5, 2) := by decide +kernel
theorem dX0_take_32 : decode cX0_take 32 = .ok (.aload_n 0, 1) := by decide +kernel
theorem dX0_take_33 : decode cX0_take 33 = .ok (.getfield 14, 3) := by decide +kernel
theorem dX0_take_36 : decode cX0_take 36 = .ok (.iload 5, 2) := by decide +kernel
theorem dX0_take_38 : decode cX0_take 38 = .ok (.invokevirtual 34, 3) := by decide +kernel
theorem dX0_take_41 : decode cX0_take 41 = .ok (.aload_n 0, 1) := by decide +kernel
theorem dX0_take_42 : decode cX0_take 42 = .ok (.dup, 1) := by decide +kernel
theorem dX0_take_43 : decode cX0_take 43 = .ok (.getfield 23, 3) := by decide +kernel
theorem dX0_take_46 : decode cX0_take 46 = .ok (.iload 5, 2) := by decide +kernel
theorem dX0_take_48 : decode cX0_take 48 = .ok (.bipush 47, 2) := by decide +kernel
theorem dX0_take_50 : decode cX0_take 50 = .ok (.if_icmp .ne 7, 3) := by decide +kernel
theorem dX0_take_53 : decode cX0_take 53 = .ok (.iconst 1, 1) := by decide +kernel
theorem dX0_take_54 : decode cX0_take 54 = .ok (.goto 4, 3) := by decide +kernel
theorem dX0_take_57 : decode cX0_take 57 = .ok (.iconst 0, 1) := by decide +kernel
theorem dX0_take_58 : decode cX0_take 58 = .ok (.iadd, 1) := by decide +kernel
theorem dX0_take_59 : decode cX0_take 59 = .ok (.putfield 23, 3) := by decide +kernel
theorem dX0_take_62 : decode cX0_take 62 = .ok (.iinc 4 1, 3) := by decide +kernel
theorem dX0_take_65 : decode cX0_take 65 = .ok (.goto (-50), 3) := by decide +kernel
theorem dX0_take_68 : decode cX0_take 68 = .ok (.aload_n 0, 1) := by decide +kernel
theorem dX0_take_69 : decode cX0_take 69 = .ok (.iload_n 2, 1) := by decide +kernel
theorem dX0_take_70 : decode cX0_take 70 = .ok (.putfield 37, 3) := by decide +kernel
theorem dX0_take_73 : decode cX0_take 73 = .ok (.aload_n 0, 1) := by decide +kernel
theorem dX0_take_74 : decode cX0_take 74 = .ok (.iload_n 3, 1) := by decide +kernel
theorem dX0_take_75 : decode cX0_take 75 = .ok (.putfield 40, 3) := by decide +kernel
theorem dX0_take_78 : decode cX0_take 78 = .ok (.return_, 1) := by decide +kernel
theorem dX1_init_0 : decode cX1_init 0 = .ok (.aload_n 0, 1) := by decide +kernel
theorem dX1_init_1 : decode cX1_init 1 = .ok (.invokespecial 3, 3) := by decide +kernel
theorem dX1_init_4 : decode cX1_init 4 = .ok (.return_, 1) := by decide +kernel
theorem dX2_init_0 : decode cX2_init 0 = .ok (.aload_n 0, 1) := by decide +kernel
theorem dX2_init_1 : decode cX2_init 1 = .ok (.invokespecial 3, 3) := by decide +kernel
theorem dX2_init_4 : decode cX2_init 4 = .ok (.return_, 1) := by decide +kernel
set_option maxRecDepth 20000 in
theorem ggX3_init_J7_fill_53178 : GoodIn wsX3_init wsJ7_fill_53178 := goodIn_r _ [11] (by decide +kernel) (by decide +kernel)
set_option maxRecDepth 20000 in
theorem gX3_init_J7_fill_53178 : GoodIn wsX3_init (va_wsS RX3 21 yJ7_fill_53178 wsJ7_fill_53178) := goodIn_app (goodIn_of _ (by decide +kernel)) ggX3_init_J7_fill_53178
theorem dX3_init_0 : decode cX3_init 0 = .ok (.aload_n 0, 1) := by decide +kernel
theorem dX3_init_1 : decode cX3_init 1 = .ok (.invokespecial 3, 3) := by decide +kernel
theorem dX3_init_4 : decode cX3_init 4 = .ok (.aload_n 0, 1) := by decide +kernel
theorem dX3_init_5 : decode cX3_init 5 = .ok (.bipush 12, 2) := by decide +kernel
theorem dX3_init_7 : decode cX3_init 7 = .ok (.newarray .int, 2) := by decide +kernel
theorem dX3_init_9 : decode cX3_init 9 = .ok (.putfield 9, 3) := by decide +kernel
theorem dX3_init_12 : decode cX3_init 12 = .ok (.aload_n 0, 1) := by decide +kernel
theorem dX3_init_13 : decode cX3_init 13 = .ok (.sipush 144, 3) := by decide +kernel
theorem dX3_init_16 : decode cX3_init 16 = .ok (.newarray .int, 2) := by decide +kernel
theorem dX3_init_18 : decode cX3_init 18 = .ok (.putfield 15, 3) := by decide +kernel
theorem dX3_init_21 : decode cX3_init 21 = .ok (.aload_n 0, 1) := by decide +kernel
theorem dX3_init_22 : decode cX3_init 22 = .ok (.sipush 4096, 3) := by decide +kernel
theorem dX3_init_25 : decode cX3_init 25 = .ok (.newarray .int, 2) := by decide +kernel
theorem dX3_init_27 : decode cX3_init 27 = .ok (.putfield 18, 3) := by decide +kernel
theorem dX3_init_30 : decode cX3_init 30 = .ok (.aload_n 0, 1) := by decide +kernel
theorem dX3_init_31 : decode cX3_init 31 = .ok (.getfield 9, 3) := by decide +kernel
theorem dX3_init_34 : decode cX3_init 34 = .ok (.iconst (-1), 1) := by decide +kernel
theorem dX3_init_35 : decode cX3_init 35 = .ok (.invokestatic 21, 3) := by decide +kernel
theorem dX3_init_38 : decode cX3_init 38 = .ok (.return_, 1) := by decide +kernel
set_option maxRecDepth 20000 in
theorem ggX3_forget_J7_fill_53178 : GoodIn wsX3_forget wsJ7_fill_53178 := goodIn_r _ [7] (by decide +kernel) (by decide +kernel)
set_option maxRecDepth 20000 in
theorem gX3_forget_J7_fill_53178 : GoodIn wsX3_forget (va_wsS RX3 21 yJ7_fill_53178 wsJ7_fill_53178) := goodIn_app (goodIn_of _ (by decide +kernel)) ggX3_forget_J7_fill_53178
theorem dX3_forget_0 : decode cX3_forget 0 = .ok (.aload_n 0, 1) := by decide +kernel
theorem dX3_forget_1 : decode cX3_forget 1 = .ok (.getfield 9, 3) := by decide +kernel
theorem dX3_forget_4 : decode cX3_forget 4 = .ok (.iconst (-1), 1) := by decide +kernel
theorem dX3_forget_5 : decode cX3_forget 5 = .ok (.invokestatic 21, 3) := by decide +kernel
theorem dX3_forget_8 : decode cX3_forget 8 = .ok (.aload_n 0, 1) := by decide +kernel
theorem dX3_forget_9 : decode cX3_forget 9 = .ok (.iconst 0, 1) := by decide +kernel
theorem dX3_forget_10 : decode cX3_forget 10 = .ok (.putfield 27, 3) := by decide +kernel
theorem dX3_forget_13 : decode cX3_forget 13 = .ok (.aload_n 0, 1) := by decide +kernel
theorem dX3_forget_14 : decode cX3_forget 14 = .ok (.iconst 0, 1) := by decide +kernel
theorem dX3_forget_15 : decode cX3_forget 15 = .ok (.putfield 31, 3) := by decide +kernel
theorem dX3_forget_18 : decode cX3_forget 18 = .ok (.return_, 1) := by decide +kernel
set_option maxRecDepth 20000 in
theorem ggX3_pairUp_X3_forget : GoodIn wsX3_pairUp wsX3_forget := goodIn_r _ [10, 11, 12, 13, 14, 15, 16, 17, 30, 31, 32, 33, 34] (by decide +kernel) (by decide +kernel)
set_option maxRecDepth 20000 in
theorem gX3_pairUp_X3_forget : GoodIn wsX3_pairUp (wsV RX3 34 RX3 yX3_forget wsX3_forget) := goodIn_app (goodIn_of _ (by decide +kernel)) ggX3_pairUp_X3_forget
theorem dX3_pairUp_0 : decode cX3_pairUp 0 = .ok (.aload_n 0, 1) := by decide +kernel
theorem dX3_pairUp_1 : decode cX3_pairUp 1 = .ok (.invokevirtual 34, 3) := by decide +kernel
theorem dX3_pairUp_4 : decode cX3_pairUp 4 = .ok (.iload_n 1, 1) := by decide +kernel
theorem dX3_pairUp_5 : decode cX3_pairUp 5 = .ok (.bipush 12, 2) := by decide +kernel
theorem dX3_pairUp_7 : decode cX3_pairUp 7 = .ok (.invokestatic 37, 3) := by decide +kernel
theorem dX3_pairUp_10 : decode cX3_pairUp 10 = .ok (.istore_n 2, 1) := by decide +kernel
theorem dX3_pairUp_11 : decode cX3_pairUp 11 = .ok (.iconst 1, 1) := by decide +kernel
theorem dX3_pairUp_12 : decode cX3_pairUp 12 = .ok (.iload_n 2, 1) := by decide +kernel
theorem dX3_pairUp_13 : decode cX3_pairUp 13 = .ok (.ishl, 1) := by decide +kernel
theorem dX3_pairUp_14 : decode cX3_pairUp 14 = .ok (.istore_n 3, 1) := by decide +kernel
theorem dX3_pairUp_15 : decode cX3_pairUp 15 = .ok (.aload_n 0, 1) := by decide +kernel
theorem dX3_pairUp_16 : decode cX3_pairUp 16 = .ok (.getfield 18, 3) := by decide +kernel
theorem dX3_pairUp_19 : decode cX3_pairUp 19 = .ok (.iconst 0, 1) := by decide +kernel
theorem dX3_pairUp_20 : decode cX3_pairUp 20 = .ok (.iconst 0, 1) := by decide +kernel
theorem dX3_pairUp_21 : decode cX3_pairUp 21 = .ok (.iastore, 1) := by decide +kernel
theorem dX3_pairUp_22 : decode cX3_pairUp 22 = .ok (.iload_n 2, 1) := by decide +kernel
theorem dX3_pairUp_23 : decode cX3_pairUp 23 = .ok (.iconst 1, 1) := by decide +kernel
theorem dX3_pairUp_24 : decode cX3_pairUp 24 = .ok (.isub, 1) := by decide +kernel
theorem dX3_pairUp_25 : decode cX3_pairUp 25 = .ok (.istore 4, 2) := by decide +kernel
theorem dX3_pairUp_27 : decode cX3_pairUp 27 = .ok (.iload 4, 2) := by decide +kernel
theorem dX3_pairUp_29 : decode cX3_pairUp 29 = .ok (.ifCond .lt 49, 3) := by decide +kernel
theorem dX3_pairUp_32 : decode cX3_pairUp 32 = .ok (.iconst 1, 1) := by decide +kernel
theorem dX3_pairUp_33 : decode cX3_pairUp 33 = .ok (.iload 4, 2) := by decide +kernel
theorem dX3_pairUp_35 : decode cX3_pairUp 35 = .ok (.ishl, 1) := by decide +kernel
theorem dX3_pairUp_36 : decode cX3_pairUp 36 = .ok (.istore 5, 2) := by decide +kernel
theorem dX3_pairUp_38 : decode cX3_pairUp 38 = .ok (.iload 5, 2) := by decide +kernel
theorem dX3_pairUp_40 : decode cX3_pairUp 40 = .ok (.iload_n 3, 1) := by decide +kernel
theorem dX3_pairUp_41 : decode cX3_pairUp 41 = .ok (.if_icmp .ge 31, 3) := by decide +kernel
theorem dX3_pairUp_44 : decode cX3_pairUp 44 = .ok (.aload_n 0, 1) := by decide +kernel
theorem dX3_pairUp_45 : decode cX3_pairUp 45 = .ok (.getfield 18, 3) := by decide +kernel
theorem dX3_pairUp_48 : decode cX3_pairUp 48 = .ok (.iload 5, 2) := by decide +kernel
theorem dX3_pairUp_50 : decode cX3_pairUp 50 = .ok (.aload_n 0, 1) := by decide +kernel
theorem dX3_pairUp_51 : decode cX3_pairUp 51 = .ok (.iload 5, 2) := by decide +kernel
theorem dX3_pairUp_53 : decode cX3_pairUp 53 = .ok (.iload 4, 2) := by decide +kernel
theorem dX3_pairUp_55 : decode cX3_pairUp 55 = .ok (.iload_n 2, 1) := by decide +kernel
theorem dX3_pairUp_56 : decode cX3_pairUp 56 = .ok (.invokevirtual 43, 3) := by decide +kernel
theorem dX3_pairUp_59 : decode cX3_pairUp 59 = .ok (.iastore, 1) := by decide +kernel
theorem dX3_pairUp_60 : decode cX3_pairUp 60 = .ok (.iload 5, 2) := by decide +kernel
theorem dX3_pairUp_62 : decode cX3_pairUp 62 = .ok (.iconst 2, 1) := by decide +kernel
theorem dX3_pairUp_63 : decode cX3_pairUp 63 = .ok (.iload 4, 2) := by decide +kernel
theorem dX3_pairUp_65 : decode cX3_pairUp 65 = .ok (.ishl, 1) := by decide +kernel
theorem dX3_pairUp_66 : decode cX3_pairUp 66 = .ok (.iadd, 1) := by decide +kernel
theorem dX3_pairUp_67 : decode cX3_pairUp 67 = .ok (.istore 5, 2) := by decide +kernel
theorem dX3_pairUp_69 : decode cX3_pairUp 69 = .ok (.goto (-31), 3) := by decide +kernel
theorem dX3_pairUp_72 : decode cX3_pairUp 72 = .ok (.iinc 4 (-1), 3) := by decide +kernel
theorem dX3_pairUp_75 : decode cX3_pairUp 75 = .ok (.goto (-48), 3) := by decide +kernel
theorem dX3_pairUp_78 : decode cX3_pairUp 78 = .ok (.iload_n 3, 1) := by decide +kernel
theorem dX3_pairUp_79 : decode cX3_pairUp 79 = .ok (.iconst 1, 1) := by decide +kernel
theorem dX3_pairUp_80 : decode cX3_pairUp 80 = .ok (.isub, 1) := by decide +kernel
theorem dX3_pairUp_81 : decode cX3_pairUp 81 = .ok (.istore 4, 2) := by decide +kernel
theorem dX3_pairUp_83 : decode cX3_pairUp 83 = .ok (.iconst 0, 1) := by decide +kernel
theorem dX3_pairUp_84 : decode cX3_pairUp 84 = .ok (.istore 5, 2) := by decide +kernel
theorem dX3_pairUp_86 : decode cX3_pairUp 86 = .ok (.iload 5, 2) := by decide +kernel
theorem dX3_pairUp_88 : decode cX3_pairUp 88 = .ok (.iload_n 2, 1) := by decide +kernel
theorem dX3_pairUp_89 : decode cX3_pairUp 89 = .ok (.if_icmp .ge 30, 3) := by decide +kernel
theorem dX3_pairUp_92 : decode cX3_pairUp 92 = .ok (.iload 4, 2) := by decide +kernel
theorem dX3_pairUp_94 : decode cX3_pairUp 94 = .ok (.iload 5, 2) := by decide +kernel
theorem dX3_pairUp_96 : decode cX3_pairUp 96 = .ok (.ishr, 1) := by decide +kernel
theorem dX3_pairUp_97 : decode cX3_pairUp 97 = .ok (.iconst 1, 1) := by decide +kernel
theorem dX3_pairUp_98 : decode cX3_pairUp 98 = .ok (.iand, 1) := by decide +kernel
theorem dX3_pairUp_99 : decode cX3_pairUp 99 = .ok (.ifCond .eq 14, 3) := by decide +kernel
theorem dX3_pairUp_102 : decode cX3_pairUp 102 = .ok (.aload_n 0, 1) := by decide +kernel
theorem dX3_pairUp_103 : decode cX3_pairUp 103 = .ok (.iload 4, 2) := by decide +kernel
theorem dX3_pairUp_105 : decode cX3_pairUp 105 = .ok (.iload 5, 2) := by decide +kernel
theorem dX3_pairUp_107 : decode cX3_pairUp 107 = .ok (.iload_n 2, 1) := by decide +kernel
theorem dX3_pairUp_108 : decode cX3_pairUp 108 = .ok (.invokevirtual 47, 3) := by decide +kernel
theorem dX3_pairUp_111 : decode cX3_pairUp 111 = .ok (.istore 4, 2) := by decide +kernel
theorem dX3_pairUp_113 : decode cX3_pairUp 113 = .ok (.iinc 5 1, 3) := by decide +kernel
theorem dX3_pairUp_116 : decode cX3_pairUp 116 = .ok (.goto (-30), 3) := by decide +kernel
theorem dX3_pairUp_119 : decode cX3_pairUp 119 = .ok (.return_, 1) := by decide +kernel
theorem dX4_init_0 : decode cX4_init 0 = .ok (.aload_n 0, 1) := by decide +kernel
theorem dX4_init_1 : decode cX4_init 1 = .ok (.invokespecial 3, 3) := by decide +kernel
theorem dX4_init_4 : decode cX4_init 4 = .ok (.aload_n 0, 1) := by decide +kernel
theorem dX4_init_5 : decode cX4_init 5 = .ok (.iconst 5, 1) := by decide +kernel
theorem dX4_init_6 : decode cX4_init 6 = .ok (.bipush 12, 2) := by decide +kernel
theorem dX4_init_8 : decode cX4_init 8 = .ok (.multianewarray 9 2, 4) := by decide +kernel
theorem dX4_init_12 : decode cX4_init 12 = .ok (.putfield 11, 3) := by decide +kernel
theorem dX4_init_15 : decode cX4_init 15 = .ok (.aload_n 0, 1) := by decide +kernel
theorem dX4_init_16 : decode cX4_init 16 = .ok (.iconst 4, 1) := by decide +kernel
theorem dX4_init_17 : decode cX4_init 17 = .ok (.bipush 12, 2) := by decide +kernel
theorem dX4_init_19 : decode cX4_init 19 = .ok (.multianewarray 9 2, 4) := by decide +kernel
theorem dX4_init_23 : decode cX4_init 23 = .ok (.putfield 16, 3) := by decide +kernel
theorem dX4_init_26 : decode cX4_init 26 = .ok (.aload_n 0, 1) := by decide +kernel
theorem dX4_init_27 : decode cX4_init 27 = .ok (.iconst 5, 1) := by decide +kernel
theorem dX4_init_28 : decode cX4_init 28 = .ok (.bipush 12, 2) := by decide +kernel
theorem dX4_init_30 : decode cX4_init 30 = .ok (.multianewarray 9 2, 4) := by decide +kernel
theorem dX4_init_34 : decode cX4_init 34 = .ok (.putfield 19, 3) := by decide +kernel
theorem dX4_init_37 : decode cX4_init 37 = .ok (.aload_n 0, 1) := by decide +kernel
theorem dX4_init_38 : decode cX4_init 38 = .ok (.iconst 5, 1) := by decide +kernel
theorem dX4_init_39 : decode cX4_init 39 = .ok (.bipush 12, 2) := by decide +kernel
theorem dX4_init_41 : decode cX4_init 41 = .ok (.multianewarray 9 2, 4) := by decide +kernel
theorem dX4_init_45 : decode cX4_init 45 = .ok (.putfield 22, 3) := by decide +kernel
theorem dX4_init_48 : decode cX4_init 48 = .ok (.aload_n 0, 1) := by decide +kernel
theorem dX4_init_49 : decode cX4_init 49 = .ok (.iconst 4, 1) := by decide +kernel
theorem dX4_init_50 : decode cX4_init 50 = .ok (.newarray .int, 2) := by decide +kernel
theorem dX4_init_52 : decode cX4_init 52 = .ok (.putfield 25, 3) := by decide +kernel
theorem dX4_init_55 : decode cX4_init 55 = .ok (.return_, 1) := by decide +kernel
set_option maxRecDepth 20000 in
theorem ggX5_init_X2_init : GoodIn wsX5_init wsX2_init := goodIn_r _ [13, 14, 2, 3] (by decide +kernel) (by decide +kernel)
set_option maxRecDepth 20000 in
theorem gX5_init_X2_init_n23 : GoodIn wsX5_init (wsX2_init) := ggX5_init_X2_init
set_option maxRecDepth 20000 in
theorem ggX5_init_X1_init : GoodIn wsX5_init wsX1_init := goodIn_r _ [16, 17, 2, 3] (by decide +kernel) (by decide +kernel)
set_option maxRecDepth 20000 in
theorem gX5_init_X1_init_n24 : GoodIn wsX5_init (wsX1_init) := ggX5_init_X1_init
theorem dX5_init_0 : decode cX5_init 0 = .ok (.aload_n 0, 1) := by decide +kernel
theorem dX5_init_1 : decode cX5_init 1 = .ok (.invokespecial 3, 3) := by decide +kernel
theorem dX5_init_4 : decode cX5_init 4 = .ok (.aload_n 0, 1) := by decide +kernel
theorem dX5_init_5 : decode cX5_init 5 = .ok (.bipush 12, 2) := by decide +kernel
theorem dX5_init_7 : decode cX5_init 7 = .ok (.anewarray 9, 3) := by decide +kernel
theorem dX5_init_10 : decode cX5_init 10 = .ok (.putfield 11, 3) := by decide +kernel
theorem dX5_init_13 : decode cX5_init 13 = .ok (.aload_n 0, 1) := by decide +kernel
theorem dX5_init_14 : decode cX5_init 14 = .ok (.iconst 4, 1) := by decide +kernel
theorem dX5_init_15 : decode cX5_init 15 = .ok (.anewarray 17, 3) := by decide +kernel
theorem dX5_init_18 : decode cX5_init 18 = .ok (.putfield 19, 3) := by decide +kernel
theorem dX5_init_21 : decode cX5_init 21 = .ok (.iconst 0, 1) := by decide +kernel
theorem dX5_init_22 : decode cX5_init 22 = .ok (.istore_n 1, 1) := by decide +kernel
theorem dX5_init_23 : decode cX5_init 23 = .ok (.iload_n 1, 1) := by decide +kernel
theorem dX5_init_24 : decode cX5_init 24 = .ok (.bipush 12, 2) := by decide +kernel
theorem dX5_init_26 : decode cX5_init 26 = .ok (.if_icmp .ge 22, 3) := by decide +kernel
theorem dX5_init_29 : decode cX5_init 29 = .ok (.aload_n 0, 1) := by decide +kernel
theorem dX5_init_30 : decode cX5_init 30 = .ok (.getfield 11, 3) := by decide +kernel
theorem dX5_init_33 : decode cX5_init 33 = .ok (.iload_n 1, 1) := by decide +kernel
theorem dX5_init_34 : decode cX5_init 34 = .ok (.new 9, 3) := by decide +kernel
theorem dX5_init_37 : decode cX5_init 37 = .ok (.dup, 1) := by decide +kernel
theorem dX5_init_38 : decode cX5_init 38 = .ok (.invokespecial 23, 3) := by decide +kernel
theorem dX5_init_41 : decode cX5_init 41 = .ok (.aastore, 1) := by decide +kernel
theorem dX5_init_42 : decode cX5_init 42 = .ok (.iinc 1 1, 3) := by decide +kernel
theorem dX5_init_45 : decode cX5_init 45 = .ok (.goto (-22), 3) := by decide +kernel
theorem dX5_init_48 : decode cX5_init 48 = .ok (.iconst 0, 1) := by decide +kernel
theorem dX5_init_49 : decode cX5_init 49 = .ok (.istore_n 1, 1) := by decide +kernel
theorem dX5_init_50 : decode cX5_init 50 = .ok (.iload_n 1, 1) := by decide +kernel
theorem dX5_init_51 : decode cX5_init 51 = .ok (.iconst 4, 1) := by decide +kernel
theorem dX5_init_52 : decode cX5_init 52 = .ok (.if_icmp .ge 22, 3) := by decide +kernel
theorem dX5_init_55 : decode cX5_init 55 = .ok (.aload_n 0, 1) := by decide +kernel
theorem dX5_init_56 : decode cX5_init 56 = .ok (.getfield 19, 3) := by decide +kernel
theorem dX5_init_59 : decode cX5_init 59 = .ok (.iload_n 1, 1) := by decide +kernel
theorem dX5_init_60 : decode cX5_init 60 = .ok (.new 17, 3) := by decide +kernel
theorem dX5_init_63 : decode cX5_init 63 = .ok (.dup, 1) := by decide +kernel
theorem dX5_init_64 : decode cX5_init 64 = .ok (.invokespecial 24, 3) := by decide +kernel
theorem dX5_init_67 : decode cX5_init 67 = .ok (.aastore, 1) := by decide +kernel
theorem dX5_init_68 : decode cX5_init 68 = .ok (.iinc 1 1, 3) := by decide +kernel
theorem dX5_init_71 : decode cX5_init 71 = .ok (.goto (-21), 3) := by decide +kernel
theorem dX5_init_74 : decode cX5_init 74 = .ok (.return_, 1) := by decide +kernel
set_option maxRecDepth 20000 in
theorem ggX6_init_X8_init : GoodIn wsX6_init wsX8_init := goodIn_r _ [9, 10, 2, 3, 11, 12, 13, 14, 15, 16, 17, 18, 19, 20, 21, 22, 23, 24, 25, 45, 46, 26, 27, 28, 29, 30, 31, 32, 33, 34, 35, 36] (by decide +kernel) (by decide +kernel)
set_option maxRecDepth 20000 in
theorem gX6_init_X8_init_n11 : GoodIn wsX6_init (wsX8_init) := ggX6_init_X8_init
theorem dX6_init_0 : decode cX6_init 0 = .ok (.aload_n 0, 1) := by decide +kernel
theorem dX6_init_1 : decode cX6_init 1 = .ok (.invokespecial 3, 3) := by decide +kernel
theorem dX6_init_4 : decode cX6_init 4 = .ok (.aload_n 0, 1) := by decide +kernel
theorem dX6_init_5 : decode cX6_init 5 = .ok (.new 9, 3) := by decide +kernel
theorem dX6_init_8 : decode cX6_init 8 = .ok (.dup, 1) := by decide +kernel
theorem dX6_init_9 : decode cX6_init 9 = .ok (.invokespecial 11, 3) := by decide +kernel
theorem dX6_init_12 : decode cX6_init 12 = .ok (.putfield 12, 3) := by decide +kernel
theorem dX6_init_15 : decode cX6_init 15 = .ok (.return_, 1) := by decide +kernel
theorem dX7_init_0 : decode cX7_init 0 = .ok (.aload_n 0, 1) := by decide +kernel
theorem dX7_init_1 : decode cX7_init 1 = .ok (.invokespecial 3, 3) := by decide +kernel
theorem dX7_init_4 : decode cX7_init 4 = .ok (.aload_n 0, 1) := by decide +kernel
theorem dX7_init_5 : decode cX7_init 5 = .ok (.iconst 0, 1) := by decide +kernel
theorem dX7_init_6 : decode cX7_init 6 = .ok (.iload_n 1, 1) := by decide +kernel
theorem dX7_init_7 : decode cX7_init 7 = .ok (.invokestatic 9, 3) := by decide +kernel
theorem dX7_init_10 : decode cX7_init 10 = .ok (.newarray .byte, 2) := by decide +kernel
theorem dX7_init_12 : decode cX7_init 12 = .ok (.putfield 15, 3) := by decide +kernel
theorem dX7_init_15 : decode cX7_init 15 = .ok (.aload_n 0, 1) := by decide +kernel
theorem dX7_init_16 : decode cX7_init 16 = .ok (.iconst 0, 1) := by decide +kernel
theorem dX7_init_17 : decode cX7_init 17 = .ok (.putfield 21, 3) := by decide +kernel
theorem dX7_init_20 : decode cX7_init 20 = .ok (.return_, 1) := by decide +kernel
theorem dX7_clear_0 : decode cX7_clear 0 = .ok (.aload_n 0, 1) := by decide +kernel
theorem dX7_clear_1 : decode cX7_clear 1 = .ok (.iconst 0, 1) := by decide +kernel
theorem dX7_clear_2 : decode cX7_clear 2 = .ok (.putfield 21, 3) := by decide +kernel
theorem dX7_clear_5 : decode cX7_clear 5 = .ok (.return_, 1) := by decide +kernel
theorem dX7_put_0 : decode cX7_put 0 = .ok (.aload_n 0, 1) := by decide +kernel
theorem dX7_put_1 : decode cX7_put 1 = .ok (.getfield 21, 3) := by decide +kernel
theorem dX7_put_4 : decode cX7_put 4 = .ok (.aload_n 0, 1) := by decide +kernel
theorem dX7_put_5 : decode cX7_put 5 = .ok (.getfield 15, 3) := by decide +kernel
theorem dX7_put_8 : decode cX7_put 8 = .ok (.arraylength, 1) := by decide +kernel
theorem dX7_put_9 : decode cX7_put 9 = .ok (.if_icmp .ge 24, 3) := by decide +kernel
theorem dX7_put_12 : decode cX7_put 12 = .ok (.aload_n 0, 1) := by decide +kernel
theorem dX7_put_13 : decode cX7_put 13 = .ok (.getfield 15, 3) := by decide +kernel
theorem dX7_put_16 : decode cX7_put 16 = .ok (.aload_n 0, 1) := by decide +kernel
theorem dX7_put_17 : decode cX7_put 17 = .ok (.getfield 21, 3) := by decide +kernel
theorem dX7_put_20 : decode cX7_put 20 = .ok (.iload_n 1, 1) := by decide +kernel
theorem dX7_put_21 : decode cX7_put 21 = .ok (.i2b, 1) := by decide +kernel
theorem dX7_put_22 : decode cX7_put 22 = .ok (.bastore, 1) := by decide +kernel
theorem dX7_put_23 : decode cX7_put 23 = .ok (.aload_n 0, 1) := by decide +kernel
theorem dX7_put_24 : decode cX7_put 24 = .ok (.dup, 1) := by decide +kernel
theorem dX7_put_25 : decode cX7_put 25 = .ok (.getfield 21, 3) := by decide +kernel
theorem dX7_put_28 : decode cX7_put 28 = .ok (.iconst 1, 1) := by decide +kernel
theorem dX7_put_29 : decode cX7_put 29 = .ok (.iadd, 1) := by decide +kernel
theorem dX7_put_30 : decode cX7_put 30 = .ok (.putfield 21, 3) := by decide +kernel
theorem dX7_put_33 : decode cX7_put 33 = .ok (.return_, 1) := by decide +kernel
set_option maxRecDepth 20000 in
theorem ggX7_putFour_X7_put : GoodIn wsX7_putFour wsX7_put := goodIn_r _ [5, 6, 7, 8, 9] (by decide +kernel) (by decide +kernel)
set_option maxRecDepth 20000 in
theorem gX7_putFour_X7_put : GoodIn wsX7_putFour (wsV RX7 25 RX7 yX7_put wsX7_put) := goodIn_app (goodIn_of _ (by decide +kernel)) ggX7_putFour_X7_put
theorem dX7_putFour_0 : decode cX7_putFour 0 = .ok (.aload_n 0, 1) := by decide +kernel
theorem dX7_putFour_1 : decode cX7_putFour 1 = .ok (.iload_n 1, 1) := by decide +kernel
theorem dX7_putFour_2 : decode cX7_putFour 2 = .ok (.bipush 24, 2) := by decide +kernel
theorem dX7_putFour_4 : decode cX7_putFour 4 = .ok (.iushr, 1) := by decide +kernel
theorem dX7_putFour_5 : decode cX7_putFour 5 = .ok (.invokevirtual 25, 3) := by decide +kernel
theorem dX7_putFour_8 : decode cX7_putFour 8 = .ok (.aload_n 0, 1) := by decide +kernel
theorem dX7_putFour_9 : decode cX7_putFour 9 = .ok (.iload_n 1, 1) := by decide +kernel
theorem dX7_putFour_10 : decode cX7_putFour 10 = .ok (.bipush 16, 2) := by decide +kernel
theorem dX7_putFour_12 : decode cX7_putFour 12 = .ok (.iushr, 1) := by decide +kernel
theorem dX7_putFour_13 : decode cX7_putFour 13 = .ok (.invokevirtual 25, 3) := by decide +kernel
theorem dX7_putFour_16 : decode cX7_putFour 16 = .ok (.aload_n 0, 1) := by decide +kernel
theorem dX7_putFour_17 : decode cX7_putFour 17 = .ok (.iload_n 1, 1) := by decide +kernel
theorem dX7_putFour_18 : decode cX7_putFour 18 = .ok (.bipush 8, 2) := by decide +kernel
theorem dX7_putFour_20 : decode cX7_putFour 20 = .ok (.iushr, 1) := by decide +kernel
theorem dX7_putFour_21 : decode cX7_putFour 21 = .ok (.invokevirtual 25, 3) := by decide +kernel
theorem dX7_putFour_24 : decode cX7_putFour 24 = .ok (.aload_n 0, 1) := by decide +kernel
theorem dX7_putFour_25 : decode cX7_putFour 25 = .ok (.iload_n 1, 1) := by decide +kernel
theorem dX7_putFour_26 : decode cX7_putFour 26 = .ok (.invokevirtual 25, 3) := by decide +kernel
theorem dX7_putFour_29 : decode cX7_putFour 29 = .ok (.return_, 1) := by decide +kernel
set_option maxRecDepth 20000 in
theorem ggX8_init_X7_init : GoodIn wsX8_init wsX7_init := goodIn_r _ [10, 11, 2, 3, 12, 13, 14, 15, 16, 17, 18, 19, 20] (by decide +kernel) (by decide +kernel)
set_option maxRecDepth 20000 in
theorem gX8_init_X7_init : GoodIn wsX8_init (wsX7_init) := ggX8_init_X7_init
theorem dX8_init_0 : decode cX8_init 0 = .ok (.aload_n 0, 1) := by decide +kernel
theorem dX8_init_1 : decode cX8_init 1 = .ok (.invokespecial 3, 3) := by decide +kernel
theorem dX8_init_4 : decode cX8_init 4 = .ok (.aload_n 0, 1) := by decide +kernel
theorem dX8_init_5 : decode cX8_init 5 = .ok (.new 9, 3) := by decide +kernel
theorem dX8_init_8 : decode cX8_init 8 = .ok (.dup, 1) := by decide +kernel
theorem dX8_init_9 : decode cX8_init 9 = .ok (.iconst 0, 1) := by decide +kernel
theorem dX8_init_10 : decode cX8_init 10 = .ok (.invokespecial 11, 3) := by decide +kernel
theorem dX8_init_13 : decode cX8_init 13 = .ok (.putfield 14, 3) := by decide +kernel
theorem dX8_init_16 : decode cX8_init 16 = .ok (.return_, 1) := by decide +kernel
theorem dX8_begin_0 : decode cX8_begin 0 = .ok (.aload_n 0, 1) := by decide +kernel
theorem dX8_begin_1 : decode cX8_begin 1 = .ok (.aload_n 1, 1) := by decide +kernel
theorem dX8_begin_2 : decode cX8_begin 2 = .ok (.putfield 14, 3) := by decide +kernel
theorem dX8_begin_5 : decode cX8_begin 5 = .ok (.aload_n 0, 1) := by decide +kernel
theorem dX8_begin_6 : decode cX8_begin 6 = .ok (.iload_n 2, 1) := by decide +kernel
theorem dX8_begin_7 : decode cX8_begin 7 = .ok (.putfield 20, 3) := by decide +kernel
theorem dX8_begin_10 : decode cX8_begin 10 = .ok (.aload_n 0, 1) := by decide +kernel
theorem dX8_begin_11 : decode cX8_begin 11 = .ok (.iload_n 3, 1) := by decide +kernel
theorem dX8_begin_12 : decode cX8_begin 12 = .ok (.putfield 24, 3) := by decide +kernel
theorem dX8_begin_15 : decode cX8_begin 15 = .ok (.aload_n 0, 1) := by decide +kernel
theorem dX8_begin_16 : decode cX8_begin 16 = .ok (.iconst 0, 1) := by decide +kernel
theorem dX8_begin_17 : decode cX8_begin 17 = .ok (.putfield 28, 3) := by decide +kernel
theorem dX8_begin_20 : decode cX8_begin 20 = .ok (.aload_n 0, 1) := by decide +kernel
theorem dX8_begin_21 : decode cX8_begin 21 = .ok (.iconst 0, 1) := by decide +kernel
theorem dX8_begin_22 : decode cX8_begin 22 = .ok (.putfield 31, 3) := by decide +kernel
theorem dX8_begin_25 : decode cX8_begin 25 = .ok (.aload_n 0, 1) := by decide +kernel
theorem dX8_begin_26 : decode cX8_begin 26 = .ok (.iconst 0, 1) := by decide +kernel
theorem dX8_begin_27 : decode cX8_begin 27 = .ok (.putfield 34, 3) := by decide +kernel
theorem dX8_begin_30 : decode cX8_begin 30 = .ok (.return_, 1) := by decide +kernel
theorem dX8_refuse_0 : decode cX8_refuse 0 = .ok (.aload_n 0, 1) := by decide +kernel
theorem dX8_refuse_1 : decode cX8_refuse 1 = .ok (.iload_n 1, 1) := by decide +kernel
theorem dX8_refuse_2 : decode cX8_refuse 2 = .ok (.putfield 31, 3) := by decide +kernel
theorem dX8_refuse_5 : decode cX8_refuse 5 = .ok (.aload_n 0, 1) := by decide +kernel
theorem dX8_refuse_6 : decode cX8_refuse 6 = .ok (.iload_n 2, 1) := by decide +kernel
theorem dX8_refuse_7 : decode cX8_refuse 7 = .ok (.putfield 34, 3) := by decide +kernel
theorem dX8_refuse_10 : decode cX8_refuse 10 = .ok (.iconst 0, 1) := by decide +kernel
theorem dX8_refuse_11 : decode cX8_refuse 11 = .ok (.ireturn, 1) := by decide +kernel
set_option maxRecDepth 20000 in
theorem ggX8_endsWell_X8_refuse : GoodIn wsX8_endsWell wsX8_refuse := goodIn_r _ [9, 10, 11, 12, 13, 14, 15, 16, 17, 18, 19, 20, 21, 22] (by decide +kernel) (by decide +kernel)
set_option maxRecDepth 20000 in
theorem gX8_endsWell_X8_refuse : GoodIn wsX8_endsWell (wsV RX8 46 RX8 yX8_refuse wsX8_refuse) := goodIn_app (goodIn_of _ (by decide +kernel)) ggX8_endsWell_X8_refuse
theorem dX8_endsWell_0 : decode cX8_endsWell 0 = .ok (.iload_n 1, 1) := by decide +kernel
theorem dX8_endsWell_1 : decode cX8_endsWell 1 = .ok (.ifCond .le 17, 3) := by decide +kernel
theorem dX8_endsWell_4 : decode cX8_endsWell 4 = .ok (.aload_n 0, 1) := by decide +kernel
theorem dX8_endsWell_5 : decode cX8_endsWell 5 = .ok (.getfield 14, 3) := by decide +kernel
theorem dX8_endsWell_8 : decode cX8_endsWell 8 = .ok (.getfield 43, 3) := by decide +kernel
theorem dX8_endsWell_11 : decode cX8_endsWell 11 = .ok (.aload_n 0, 1) := by decide +kernel
theorem dX8_endsWell_12 : decode cX8_endsWell 12 = .ok (.getfield 20, 3) := by decide +kernel
theorem dX8_endsWell_15 : decode cX8_endsWell 15 = .ok (.if_icmp .le 15, 3) := by decide +kernel
theorem dX8_endsWell_18 : decode cX8_endsWell 18 = .ok (.aload_n 0, 1) := by decide +kernel
theorem dX8_endsWell_19 : decode cX8_endsWell 19 = .ok (.iconst 1, 1) := by decide +kernel
theorem dX8_endsWell_20 : decode cX8_endsWell 20 = .ok (.aload_n 0, 1) := by decide +kernel
theorem dX8_endsWell_21 : decode cX8_endsWell 21 = .ok (.getfield 40, 3) := by decide +kernel
theorem dX8_endsWell_24 : decode cX8_endsWell 24 = .ok (.invokevirtual 46, 3) := by decide +kernel
theorem dX8_endsWell_27 : decode cX8_endsWell 27 = .ok (.ifCond .eq 7, 3) := by decide +kernel
theorem dX8_endsWell_30 : decode cX8_endsWell 30 = .ok (.iconst 1, 1) := by decide +kernel
theorem dX8_endsWell_31 : decode cX8_endsWell 31 = .ok (.goto 4, 3) := by decide +kernel
theorem dX8_endsWell_34 : decode cX8_endsWell 34 = .ok (.iconst 0, 1) := by decide +kernel
theorem dX8_endsWell_35 : decode cX8_endsWell 35 = .ok (.ireturn, 1) := by decide +kernel
theorem dX8_advance_0 : decode cX8_advance 0 = .ok (.aload_n 0, 1) := by decide +kernel
theorem dX8_advance_1 : decode cX8_advance 1 = .ok (.getfield 14, 3) := by decide +kernel
theorem dX8_advance_4 : decode cX8_advance 4 = .ok (.getfield 43, 3) := by decide +kernel
theorem dX8_advance_7 : decode cX8_advance 7 = .ok (.aload_n 0, 1) := by decide +kernel
theorem dX8_advance_8 : decode cX8_advance 8 = .ok (.getfield 20, 3) := by decide +kernel
theorem dX8_advance_11 : decode cX8_advance 11 = .ok (.invokestatic 50, 3) := by decide +kernel
theorem dX8_advance_14 : decode cX8_advance 14 = .ok (.istore_n 1, 1) := by decide +kernel
theorem dX8_advance_15 : decode cX8_advance 15 = .ok (.aload_n 0, 1) := by decide +kernel
theorem dX8_advance_16 : decode cX8_advance 16 = .ok (.getfield 28, 3) := by decide +kernel
theorem dX8_advance_19 : decode cX8_advance 19 = .ok (.iload_n 1, 1) := by decide +kernel
theorem dX8_advance_20 : decode cX8_advance 20 = .ok (.if_icmp .ge 33, 3) := by decide +kernel
theorem dX8_advance_23 : decode cX8_advance 23 = .ok (.aload_n 0, 1) := by decide +kernel
theorem dX8_advance_24 : decode cX8_advance 24 = .ok (.getfield 14, 3) := by decide +kernel
theorem dX8_advance_27 : decode cX8_advance 27 = .ok (.aload_n 0, 1) := by decide +kernel
theorem dX8_advance_28 : decode cX8_advance 28 = .ok (.getfield 28, 3) := by decide +kernel
theorem dX8_advance_31 : decode cX8_advance 31 = .ok (.invokevirtual 56, 3) := by decide +kernel
theorem dX8_advance_34 : decode cX8_advance 34 = .ok (.invokestatic 60, 3) := by decide +kernel
theorem dX8_advance_37 : decode cX8_advance 37 = .ok (.ifCond .eq 16, 3) := by decide +kernel
theorem dX8_advance_40 : decode cX8_advance 40 = .ok (.aload_n 0, 1) := by decide +kernel
theorem dX8_advance_41 : decode cX8_advance 41 = .ok (.dup, 1) := by decide +kernel
theorem dX8_advance_42 : decode cX8_advance 42 = .ok (.getfield 28, 3) := by decide +kernel
theorem dX8_advance_45 : decode cX8_advance 45 = .ok (.iconst 1, 1) := by decide +kernel
theorem dX8_advance_46 : decode cX8_advance 46 = .ok (.iadd, 1) := by decide +kernel
theorem dX8_advance_47 : decode cX8_advance 47 = .ok (.putfield 28, 3) := by decide +kernel
theorem dX8_advance_50 : decode cX8_advance 50 = .ok (.goto (-35), 3) := by decide +kernel
theorem dX8_advance_53 : decode cX8_advance 53 = .ok (.aload_n 0, 1) := by decide +kernel
theorem dX8_advance_54 : decode cX8_advance 54 = .ok (.getfield 28, 3) := by decide +kernel
theorem dX8_advance_57 : decode cX8_advance 57 = .ok (.iload_n 1, 1) := by decide +kernel
theorem dX8_advance_58 : decode cX8_advance 58 = .ok (.if_icmp .lt 14, 3) := by decide +kernel
theorem dX8_advance_61 : decode cX8_advance 61 = .ok (.aload_n 0, 1) := by decide +kernel
theorem dX8_advance_62 : decode cX8_advance 62 = .ok (.iconst 0, 1) := by decide +kernel
theorem dX8_advance_63 : decode cX8_advance 63 = .ok (.putfield 37, 3) := by decide +kernel
theorem dX8_advance_66 : decode cX8_advance 66 = .ok (.aload_n 0, 1) := by decide +kernel
theorem dX8_advance_67 : decode cX8_advance 67 = .ok (.iload_n 1, 1) := by decide +kernel
theorem dX8_advance_68 : decode cX8_advance 68 = .ok (.putfield 40, 3) := by decide +kernel
theorem dX8_advance_71 : decode cX8_advance 71 = .ok (.return_, 1) := by decide +kernel
theorem dX8_advance_72 : decode cX8_advance 72 = .ok (.aload_n 0, 1) := by decide +kernel
theorem dX8_advance_73 : decode cX8_advance 73 = .ok (.aload_n 0, 1) := by decide +kernel
theorem dX8_advance_74 : decode cX8_advance 74 = .ok (.getfield 28, 3) := by decide +kernel
theorem dX8_advance_77 : decode cX8_advance 77 = .ok (.putfield 40, 3) := by decide +kernel
theorem dX8_advance_80 : decode cX8_advance 80 = .ok (.aload_n 0, 1) := by decide +kernel
theorem dX8_advance_81 : decode cX8_advance 81 = .ok (.getfield 14, 3) := by decide +kernel
theorem dX8_advance_84 : decode cX8_advance 84 = .ok (.aload_n 0, 1) := by decide +kernel
theorem dX8_advance_85 : decode cX8_advance 85 = .ok (.getfield 28, 3) := by decide +kernel
theorem dX8_advance_88 : decode cX8_advance 88 = .ok (.invokevirtual 56, 3) := by decide +kernel
theorem dX8_advance_91 : decode cX8_advance 91 = .ok (.istore_n 2, 1) := by decide +kernel
theorem dX8_advance_92 : decode cX8_advance 92 = .ok (.iload_n 2, 1) := by decide +kernel
theorem dX8_advance_93 : decode cX8_advance 93 = .ok (.invokestatic 64, 3) := by decide +kernel
theorem dX8_advance_96 : decode cX8_advance 96 = .ok (.ifCond .eq 10, 3) := by decide +kernel
theorem dX8_advance_99 : decode cX8_advance 99 = .ok (.aload_n 0, 1) := by decide +kernel
theorem dX8_advance_100 : decode cX8_advance 100 = .ok (.invokevirtual 67, 3) := by decide +kernel
theorem dX8_advance_103 : decode cX8_advance 103 = .ok (.goto 23, 3) := by decide +kernel
theorem dX8_advance_106 : decode cX8_advance 106 = .ok (.aload_n 0, 1) := by decide +kernel
theorem dX8_advance_107 : decode cX8_advance 107 = .ok (.iload_n 2, 1) := by decide +kernel
theorem dX8_advance_108 : decode cX8_advance 108 = .ok (.invokevirtual 70, 3) := by decide +kernel
theorem dX8_advance_111 : decode cX8_advance 111 = .ok (.ifCond .eq 10, 3) := by decide +kernel
theorem dX8_advance_114 : decode cX8_advance 114 = .ok (.aload_n 0, 1) := by decide +kernel
theorem dX8_advance_115 : decode cX8_advance 115 = .ok (.invokevirtual 73, 3) := by decide +kernel
theorem dX8_advance_118 : decode cX8_advance 118 = .ok (.goto 8, 3) := by decide +kernel
theorem dX8_advance_121 : decode cX8_advance 121 = .ok (.aload_n 0, 1) := by decide +kernel
theorem dX8_advance_122 : decode cX8_advance 122 = .ok (.iload_n 2, 1) := by decide +kernel
theorem dX8_advance_123 : decode cX8_advance 123 = .ok (.invokevirtual 76, 3) := by decide +kernel
theorem dX8_advance_126 : decode cX8_advance 126 = .ok (.return_, 1) := by decide +kernel
theorem dX9_init_0 : decode cX9_init 0 = .ok (.aload_n 0, 1) := by decide +kernel
theorem dX9_init_1 : decode cX9_init 1 = .ok (.invokespecial 3, 3) := by decide +kernel
theorem dX9_init_4 : decode cX9_init 4 = .ok (.aload_n 0, 1) := by decide +kernel
theorem dX9_init_5 : decode cX9_init 5 = .ok (.iconst 3, 1) := by decide +kernel
theorem dX9_init_6 : decode cX9_init 6 = .ok (.newarray .long, 2) := by decide +kernel
theorem dX9_init_8 : decode cX9_init 8 = .ok (.putfield 9, 3) := by decide +kernel
theorem dX9_init_11 : decode cX9_init 11 = .ok (.aload_n 0, 1) := by decide +kernel
theorem dX9_init_12 : decode cX9_init 12 = .ok (.iconst 3, 1) := by decide +kernel
theorem dX9_init_13 : decode cX9_init 13 = .ok (.newarray .int, 2) := by decide +kernel
theorem dX9_init_15 : decode cX9_init 15 = .ok (.putfield 15, 3) := by decide +kernel
theorem dX9_init_18 : decode cX9_init 18 = .ok (.aload_n 0, 1) := by decide +kernel
theorem dX9_init_19 : decode cX9_init 19 = .ok (.bipush 15, 2) := by decide +kernel
theorem dX9_init_21 : decode cX9_init 21 = .ok (.newarray .long, 2) := by decide +kernel
theorem dX9_init_23 : decode cX9_init 23 = .ok (.putfield 19, 3) := by decide +kernel
theorem dX9_init_26 : decode cX9_init 26 = .ok (.aload_n 0, 1) := by decide +kernel
theorem dX9_init_27 : decode cX9_init 27 = .ok (.bipush 15, 2) := by decide +kernel
theorem dX9_init_29 : decode cX9_init 29 = .ok (.newarray .int, 2) := by decide +kernel
theorem dX9_init_31 : decode cX9_init 31 = .ok (.putfield 22, 3) := by decide +kernel
theorem dX9_init_34 : decode cX9_init 34 = .ok (.aload_n 0, 1) := by decide +kernel
theorem dX9_init_35 : decode cX9_init 35 = .ok (.bipush 15, 2) := by decide +kernel
theorem dX9_init_37 : decode cX9_init 37 = .ok (.newarray .int, 2) := by decide +kernel
theorem dX9_init_39 : decode cX9_init 39 = .ok (.putfield 25, 3) := by decide +kernel
theorem dX9_init_42 : decode cX9_init 42 = .ok (.aload_n 0, 1) := by decide +kernel
theorem dX9_init_43 : decode cX9_init 43 = .ok (.bipush 15, 2) := by decide +kernel
theorem dX9_init_45 : decode cX9_init 45 = .ok (.newarray .int, 2) := by decide +kernel
theorem dX9_init_47 : decode cX9_init 47 = .ok (.putfield 28, 3) := by decide +kernel
theorem dX9_init_50 : decode cX9_init 50 = .ok (.return_, 1) := by decide +kernel
set_option maxRecDepth 20000 in
theorem ggX9_clear_J7_fill_d0a16 : GoodIn wsX9_clear wsJ7_fill_d0a16 := goodIn_r _ [8] (by decide +kernel) (by decide +kernel)
set_option maxRecDepth 20000 in
theorem gX9_clear_J7_fill_d0a16 : GoodIn wsX9_clear (va_wsS RX9 35 yJ7_fill_d0a16 wsJ7_fill_d0a16) := goodIn_app (goodIn_of _ (by decide +kernel)) ggX9_clear_J7_fill_d0a16
set_option maxRecDepth 20000 in
theorem ggX9_clear_J7_fill_53178 : GoodIn wsX9_clear wsJ7_fill_53178 := goodIn_r _ [11] (by decide +kernel) (by decide +kernel)
set_option maxRecDepth 20000 in
theorem gX9_clear_J7_fill_53178 : GoodIn wsX9_clear (va_wsS RX9 41 yJ7_fill_53178 wsJ7_fill_53178) := goodIn_app (goodIn_of _ (by decide +kernel)) ggX9_clear_J7_fill_53178
theorem dX9_clear_0 : decode cX9_clear 0 = .ok (.aload_n 0, 1) := by decide +kernel
theorem dX9_clear_1 : decode cX9_clear 1 = .ok (.iconst 0, 1) := by decide +kernel
theorem dX9_clear_2 : decode cX9_clear 2 = .ok (.putfield 31, 3) := by decide +kernel
theorem dX9_clear_5 : decode cX9_clear 5 = .ok (.aload_n 0, 1) := by decide +kernel
theorem dX9_clear_6 : decode cX9_clear 6 = .ok (.getfield 9, 3) := by decide +kernel
theorem dX9_clear_9 : decode cX9_clear 9 = .ok (.lconst 0, 1) := by decide +kernel
theorem dX9_clear_10 : decode cX9_clear 10 = .ok (.invokestatic 35, 3) := by decide +kernel
theorem dX9_clear_13 : decode cX9_clear 13 = .ok (.aload_n 0, 1) := by decide +kernel
theorem dX9_clear_14 : decode cX9_clear 14 = .ok (.getfield 15, 3) := by decide +kernel
theorem dX9_clear_17 : decode cX9_clear 17 = .ok (.iconst 0, 1) := by decide +kernel
theorem dX9_clear_18 : decode cX9_clear 18 = .ok (.invokestatic 41, 3) := by decide +kernel
theorem dX9_clear_21 : decode cX9_clear 21 = .ok (.aload_n 0, 1) := by decide +kernel
theorem dX9_clear_22 : decode cX9_clear 22 = .ok (.getfield 19, 3) := by decide +kernel
theorem dX9_clear_25 : decode cX9_clear 25 = .ok (.lconst 0, 1) := by decide +kernel
theorem dX9_clear_26 : decode cX9_clear 26 = .ok (.invokestatic 35, 3) := by decide +kernel
theorem dX9_clear_29 : decode cX9_clear 29 = .ok (.return_, 1) := by decide +kernel
set_option maxRecDepth 20000 in
theorem ggX10_init_X8_init : GoodIn wsX10_init wsX8_init := goodIn_r _ [9, 10, 2, 3, 11, 12, 13, 14, 15, 16, 17, 18, 19, 20, 21, 22, 23, 24, 25, 40, 41, 26, 27, 28, 29, 30, 31, 32, 33, 34, 35, 36] (by decide +kernel) (by decide +kernel)
set_option maxRecDepth 20000 in
theorem gX10_init_X8_init_n11 : GoodIn wsX10_init (wsX8_init) := ggX10_init_X8_init
theorem dX10_init_0 : decode cX10_init 0 = .ok (.aload_n 0, 1) := by decide +kernel
theorem dX10_init_1 : decode cX10_init 1 = .ok (.invokespecial 3, 3) := by decide +kernel
theorem dX10_init_4 : decode cX10_init 4 = .ok (.aload_n 0, 1) := by decide +kernel
theorem dX10_init_5 : decode cX10_init 5 = .ok (.new 9, 3) := by decide +kernel
theorem dX10_init_8 : decode cX10_init 8 = .ok (.dup, 1) := by decide +kernel
theorem dX10_init_9 : decode cX10_init 9 = .ok (.invokespecial 11, 3) := by decide +kernel
theorem dX10_init_12 : decode cX10_init 12 = .ok (.putfield 12, 3) := by decide +kernel
theorem dX10_init_15 : decode cX10_init 15 = .ok (.return_, 1) := by decide +kernel
set_option maxRecDepth 20000 in
theorem ggX10_read_X9_clear : GoodIn wsX10_read wsX9_clear := goodIn_r _ [9, 10, 11, 12, 13, 14, 15, 16, 17, 18, 19, 20, 172, 173, 174, 175, 176, 177, 178] (by decide +kernel) (by decide +kernel)
set_option maxRecDepth 20000 in
theorem gX10_read_X9_clear : GoodIn wsX10_read (wsV RX10 18 RX9 yX9_clear wsX9_clear) := goodIn_app (goodIn_of _ (by decide +kernel)) ggX10_read_X9_clear
set_option maxRecDepth 20000 in
theorem ggX10_read_X8_begin : GoodIn wsX10_read wsX8_begin := goodIn_r _ [25, 26, 27, 28, 29, 30, 31, 161, 162, 163, 164, 165, 166, 167, 168, 169, 170, 171] (by decide +kernel) (by decide +kernel)
set_option maxRecDepth 20000 in
theorem gX10_read_X8_begin : GoodIn wsX10_read (wsV RX10 23 RX8 yX8_begin wsX8_begin) := goodIn_app (goodIn_of _ (by decide +kernel)) ggX10_read_X8_begin
set_option maxRecDepth 20000 in
theorem ggX10_read_X8_advance : GoodIn wsX10_read wsX8_advance := goodIn_r _ [35, 26, 36, 27, 37, 38, 39, 40, 29, 41, 42, 43, 44, 45, 46, 47, 48, 49, 50, 51, 24, 52, 53, 54, 55, 56, 57, 58, 59, 60, 61, 62, 63, 64, 65, 66, 67, 68, 69, 70, 71, 28, 72, 73, 74, 75, 76, 77, 78, 79, 80, 81, 161, 162, 163, 164, 165, 166, 167, 168, 169, 170, 171, 179, 180] (by decide +kernel) (by decide +kernel)
set_option maxRecDepth 20000 in
theorem gX10_read_X8_advance : GoodIn wsX10_read (wsV RX10 31 RX8 yX8_advance wsX8_advance) := goodIn_app (goodIn_of _ (by decide +kernel)) ggX10_read_X8_advance
set_option maxRecDepth 20000 in
theorem ggX10_read_X8_endsWell : GoodIn wsX10_read wsX8_endsWell := goodIn_r _ [85, 26, 36, 27, 42, 86, 87, 88, 24, 89, 30, 31, 161, 162, 163, 164, 165, 166, 167, 168, 169, 170, 171, 179, 180] (by decide +kernel) (by decide +kernel)
set_option maxRecDepth 20000 in
theorem gX10_read_X8_endsWell : GoodIn wsX10_read (wsV RX10 40 RX8 yX8_endsWell wsX8_endsWell) := goodIn_app (goodIn_of _ (by decide +kernel)) ggX10_read_X8_endsWell
theorem dX10_read_0 : decode cX10_read 0 = .ok (.aload_n 2, 1) := by decide +kernel
theorem dX10_read_1 : decode cX10_read 1 = .ok (.invokevirtual 18, 3) := by decide +kernel
theorem dX10_read_4 : decode cX10_read 4 = .ok (.aload_n 0, 1) := by decide +kernel
theorem dX10_read_5 : decode cX10_read 5 = .ok (.getfield 12, 3) := by decide +kernel
theorem dX10_read_8 : decode cX10_read 8 = .ok (.aload_n 1, 1) := by decide +kernel
theorem dX10_read_9 : decode cX10_read 9 = .ok (.sipush 400, 3) := by decide +kernel
theorem dX10_read_12 : decode cX10_read 12 = .ok (.iconst 0, 1) := by decide +kernel
theorem dX10_read_13 : decode cX10_read 13 = .ok (.invokevirtual 23, 3) := by decide +kernel
theorem dX10_read_16 : decode cX10_read 16 = .ok (.aload_n 0, 1) := by decide +kernel
theorem dX10_read_17 : decode cX10_read 17 = .ok (.iconst 0, 1) := by decide +kernel
theorem dX10_read_18 : decode cX10_read 18 = .ok (.putfield 27, 3) := by decide +kernel
theorem dX10_read_21 : decode cX10_read 21 = .ok (.iconst 0, 1) := by decide +kernel
theorem dX10_read_22 : decode cX10_read 22 = .ok (.istore_n 3, 1) := by decide +kernel
theorem dX10_read_23 : decode cX10_read 23 = .ok (.iload_n 3, 1) := by decide +kernel
theorem dX10_read_24 : decode cX10_read 24 = .ok (.sipush 400, 3) := by decide +kernel
theorem dX10_read_27 : decode cX10_read 27 = .ok (.if_icmp .gt 55, 3) := by decide +kernel
theorem dX10_read_30 : decode cX10_read 30 = .ok (.aload_n 0, 1) := by decide +kernel
theorem dX10_read_31 : decode cX10_read 31 = .ok (.getfield 12, 3) := by decide +kernel
theorem dX10_read_34 : decode cX10_read 34 = .ok (.invokevirtual 31, 3) := by decide +kernel
theorem dX10_read_37 : decode cX10_read 37 = .ok (.aload_n 0, 1) := by decide +kernel
theorem dX10_read_38 : decode cX10_read 38 = .ok (.getfield 27, 3) := by decide +kernel
theorem dX10_read_41 : decode cX10_read 41 = .ok (.ifCond .ne 25, 3) := by decide +kernel
theorem dX10_read_44 : decode cX10_read 44 = .ok (.aload_n 0, 1) := by decide +kernel
theorem dX10_read_45 : decode cX10_read 45 = .ok (.getfield 12, 3) := by decide +kernel
theorem dX10_read_48 : decode cX10_read 48 = .ok (.getfield 34, 3) := by decide +kernel
theorem dX10_read_51 : decode cX10_read 51 = .ok (.ifCond .ne 15, 3) := by decide +kernel
theorem dX10_read_54 : decode cX10_read 54 = .ok (.aload_n 0, 1) := by decide +kernel
theorem dX10_read_55 : decode cX10_read 55 = .ok (.getfield 12, 3) := by decide +kernel
theorem dX10_read_58 : decode cX10_read 58 = .ok (.aload_n 2, 1) := by decide +kernel
theorem dX10_read_59 : decode cX10_read 59 = .ok (.getfield 37, 3) := by decide +kernel
theorem dX10_read_62 : decode cX10_read 62 = .ok (.invokevirtual 40, 3) := by decide +kernel
theorem dX10_read_65 : decode cX10_read 65 = .ok (.ireturn, 1) := by decide +kernel
theorem dX10_read_66 : decode cX10_read 66 = .ok (.aload_n 0, 1) := by decide +kernel
theorem dX10_read_67 : decode cX10_read 67 = .ok (.aload_n 2, 1) := by decide +kernel
theorem dX10_read_68 : decode cX10_read 68 = .ok (.invokevirtual 44, 3) := by decide +kernel
theorem dX10_read_71 : decode cX10_read 71 = .ok (.ifCond .ne 5, 3) := by decide +kernel
theorem dX10_read_74 : decode cX10_read 74 = .ok (.iconst 0, 1) := by decide +kernel
theorem dX10_read_75 : decode cX10_read 75 = .ok (.ireturn, 1) := by decide +kernel
theorem dX10_read_76 : decode cX10_read 76 = .ok (.iinc 3 1, 3) := by decide +kernel
theorem dX10_read_79 : decode cX10_read 79 = .ok (.goto (-56), 3) := by decide +kernel
theorem dX10_read_82 : decode cX10_read 82 = .ok (.iconst 0, 1) := by decide +kernel
theorem dX10_read_83 : decode cX10_read 83 = .ok (.ireturn, 1) := by decide +kernel
set_option maxRecDepth 20000 in
theorem ggX11_init_X7_init : GoodIn wsX11_init wsX7_init := goodIn_r _ [47, 48, 2, 3, 49, 50, 51, 52, 53, 54, 55, 129, 130] (by decide +kernel) (by decide +kernel)
set_option maxRecDepth 20000 in
theorem gX11_init_X7_init : GoodIn wsX11_init (wsX7_init) := ggX11_init_X7_init
set_option maxRecDepth 20000 in
theorem ggX11_init_X10_init : GoodIn wsX11_init wsX10_init := goodIn_r _ [57, 58, 2, 3, 59, 60, 61, 62, 63, 64, 65, 66, 5, 6, 67, 68, 46, 47, 48, 49, 50, 51, 52, 53, 54, 55, 188, 189, 190, 191, 192, 193, 194, 195, 196, 197, 198, 147, 148, 149, 129, 130] (by decide +kernel) (by decide +kernel)
set_option maxRecDepth 20000 in
theorem gX11_init_X10_init_n26 : GoodIn wsX11_init (wsX10_init) := ggX11_init_X10_init
set_option maxRecDepth 20000 in
theorem ggX11_init_X6_init : GoodIn wsX11_init wsX6_init := goodIn_r _ [70, 71, 2, 3, 72, 60, 61, 73, 63, 64, 65, 66, 5, 6, 67, 68, 46, 47, 48, 49, 50, 51, 52, 53, 54, 55, 188, 189, 190, 191, 192, 193, 194, 195, 196, 197, 198, 150, 151, 152, 153, 154, 155, 156, 157, 129, 130] (by decide +kernel) (by decide +kernel)
set_option maxRecDepth 20000 in
theorem gX11_init_X6_init_n33 : GoodIn wsX11_init (wsX6_init) := ggX11_init_X6_init
set_option maxRecDepth 20000 in
theorem ggX11_init_X4_init : GoodIn wsX11_init wsX4_init := goodIn_r _ [75, 76, 2, 3, 77, 78, 79, 80, 81, 82, 33, 83, 158, 159, 160, 161, 162, 163, 164] (by decide +kernel) (by decide +kernel)
set_option maxRecDepth 20000 in
theorem gX11_init_X4_init_n40 : GoodIn wsX11_init (wsX4_init) := ggX11_init_X4_init
set_option maxRecDepth 20000 in
theorem ggX11_init_X3_init : GoodIn wsX11_init wsX3_init := goodIn_r _ [86, 87, 2, 3, 33, 88, 89, 90, 91, 92, 93, 94, 165, 166, 167, 168, 169] (by decide +kernel) (by decide +kernel)
set_option maxRecDepth 20000 in
theorem gX11_init_X3_init : GoodIn wsX11_init (wsX3_init) := ggX11_init_X3_init
set_option maxRecDepth 20000 in
theorem ggX11_init_X5_init : GoodIn wsX11_init wsX5_init := goodIn_r _ [97, 98, 2, 3, 99, 100, 101, 102, 103, 104, 105, 106, 107, 108, 109, 110, 111, 112, 170, 171, 172, 173, 174, 175, 176, 199, 200, 201, 202, 203, 204, 205, 206, 207, 208, 209, 210, 211] (by decide +kernel) (by decide +kernel)
set_option maxRecDepth 20000 in
theorem gX11_init_X5_init : GoodIn wsX11_init (wsX5_init) := ggX11_init_X5_init
set_option maxRecDepth 20000 in
theorem ggX11_init_X9_init : GoodIn wsX11_init wsX9_init := goodIn_r _ [114, 115, 2, 3, 78, 116, 33, 117, 118, 119, 120, 121, 177, 178, 179, 180, 181, 182, 183] (by decide +kernel) (by decide +kernel)
set_option maxRecDepth 20000 in
theorem gX11_init_X9_init_n75 : GoodIn wsX11_init (wsX9_init) := ggX11_init_X9_init
set_option maxRecDepth 20000 in
theorem ggX11_init_X0_init : GoodIn wsX11_init wsX0_init := goodIn_r _ [123, 124, 2, 3, 125, 5, 6, 126, 127, 46, 47, 48, 49, 50, 51, 52, 53, 54, 55, 129, 130, 184, 185, 186, 187] (by decide +kernel) (by decide +kernel)
set_option maxRecDepth 20000 in
theorem gX11_init_X0_init_n83 : GoodIn wsX11_init (wsX0_init) := ggX11_init_X0_init
set_option maxRecDepth 20000 in
theorem ggX11_init_J7_fill_53178 : GoodIn wsX11_init wsJ7_fill_53178 := goodIn_r _ [94] (by decide +kernel) (by decide +kernel)
set_option maxRecDepth 20000 in
theorem gX11_init_J7_fill_53178 : GoodIn wsX11_init (va_wsS RX11 84 yJ7_fill_53178 wsJ7_fill_53178) := goodIn_app (goodIn_of _ (by decide +kernel)) ggX11_init_J7_fill_53178
theorem dX11_init_0 : decode cX11_init 0 = .ok (.aload_n 0, 1) := by decide +kernel
theorem dX11_init_1 : decode cX11_init 1 = .ok (.invokespecial 3, 3) := by decide +kernel
theorem dX11_init_4 : decode cX11_init 4 = .ok (.aload_n 0, 1) := by decide +kernel
theorem dX11_init_5 : decode cX11_init 5 = .ok (.new 9, 3) := by decide +kernel
theorem dX11_init_8 : decode cX11_init 8 = .ok (.dup, 1) := by decide +kernel
theorem dX11_init_9 : decode cX11_init 9 = .ok (.sipush 440, 3) := by decide +kernel
theorem dX11_init_12 : decode cX11_init 12 = .ok (.invokespecial 11, 3) := by decide +kernel
theorem dX11_init_15 : decode cX11_init 15 = .ok (.putfield 14, 3) := by decide +kernel
theorem dX11_init_18 : decode cX11_init 18 = .ok (.aload_n 0, 1) := by decide +kernel
theorem dX11_init_19 : decode cX11_init 19 = .ok (.new 9, 3) := by decide +kernel
theorem dX11_init_22 : decode cX11_init 22 = .ok (.dup, 1) := by decide +kernel
theorem dX11_init_23 : decode cX11_init 23 = .ok (.bipush 59, 2) := by decide +kernel
theorem dX11_init_25 : decode cX11_init 25 = .ok (.invokespecial 11, 3) := by decide +kernel
theorem dX11_init_28 : decode cX11_init 28 = .ok (.putfield 18, 3) := by decide +kernel
theorem dX11_init_31 : decode cX11_init 31 = .ok (.aload_n 0, 1) := by decide +kernel
theorem dX11_init_32 : decode cX11_init 32 = .ok (.new 9, 3) := by decide +kernel
theorem dX11_init_35 : decode cX11_init 35 = .ok (.dup, 1) := by decide +kernel
theorem dX11_init_36 : decode cX11_init 36 = .ok (.sipush 402, 3) := by decide +kernel
theorem dX11_init_39 : decode cX11_init 39 = .ok (.invokespecial 11, 3) := by decide +kernel
theorem dX11_init_42 : decode cX11_init 42 = .ok (.putfield 21, 3) := by decide +kernel
theorem dX11_init_45 : decode cX11_init 45 = .ok (.aload_n 0, 1) := by decide +kernel
theorem dX11_init_46 : decode cX11_init 46 = .ok (.new 24, 3) := by decide +kernel
theorem dX11_init_49 : decode cX11_init 49 = .ok (.dup, 1) := by decide +kernel
theorem dX11_init_50 : decode cX11_init 50 = .ok (.invokespecial 26, 3) := by decide +kernel
theorem dX11_init_53 : decode cX11_init 53 = .ok (.putfield 27, 3) := by decide +kernel
theorem dX11_init_56 : decode cX11_init 56 = .ok (.aload_n 0, 1) := by decide +kernel
theorem dX11_init_57 : decode cX11_init 57 = .ok (.new 31, 3) := by decide +kernel
theorem dX11_init_60 : decode cX11_init 60 = .ok (.dup, 1) := by decide +kernel
theorem dX11_init_61 : decode cX11_init 61 = .ok (.invokespecial 33, 3) := by decide +kernel
theorem dX11_init_64 : decode cX11_init 64 = .ok (.putfield 34, 3) := by decide +kernel
theorem dX11_init_67 : decode cX11_init 67 = .ok (.aload_n 0, 1) := by decide +kernel
theorem dX11_init_68 : decode cX11_init 68 = .ok (.new 38, 3) := by decide +kernel
theorem dX11_init_71 : decode cX11_init 71 = .ok (.dup, 1) := by decide +kernel
theorem dX11_init_72 : decode cX11_init 72 = .ok (.invokespecial 40, 3) := by decide +kernel
theorem dX11_init_75 : decode cX11_init 75 = .ok (.putfield 41, 3) := by decide +kernel
theorem dX11_init_78 : decode cX11_init 78 = .ok (.aload_n 0, 1) := by decide +kernel
theorem dX11_init_79 : decode cX11_init 79 = .ok (.new 45, 3) := by decide +kernel
theorem dX11_init_82 : decode cX11_init 82 = .ok (.dup, 1) := by decide +kernel
theorem dX11_init_83 : decode cX11_init 83 = .ok (.invokespecial 47, 3) := by decide +kernel
theorem dX11_init_86 : decode cX11_init 86 = .ok (.putfield 48, 3) := by decide +kernel
theorem dX11_init_89 : decode cX11_init 89 = .ok (.aload_n 0, 1) := by decide +kernel
theorem dX11_init_90 : decode cX11_init 90 = .ok (.bipush 8, 2) := by decide +kernel
theorem dX11_init_92 : decode cX11_init 92 = .ok (.anewarray 52, 3) := by decide +kernel
theorem dX11_init_95 : decode cX11_init 95 = .ok (.putfield 54, 3) := by decide +kernel
theorem dX11_init_98 : decode cX11_init 98 = .ok (.aload_n 0, 1) := by decide +kernel
theorem dX11_init_99 : decode cX11_init 99 = .ok (.new 52, 3) := by decide +kernel
theorem dX11_init_102 : decode cX11_init 102 = .ok (.dup, 1) := by decide +kernel
theorem dX11_init_103 : decode cX11_init 103 = .ok (.invokespecial 58, 3) := by decide +kernel
theorem dX11_init_106 : decode cX11_init 106 = .ok (.putfield 59, 3) := by decide +kernel
theorem dX11_init_109 : decode cX11_init 109 = .ok (.aload_n 0, 1) := by decide +kernel
theorem dX11_init_110 : decode cX11_init 110 = .ok (.bipush 12, 2) := by decide +kernel
theorem dX11_init_112 : decode cX11_init 112 = .ok (.anewarray 63, 3) := by decide +kernel
theorem dX11_init_115 : decode cX11_init 115 = .ok (.putfield 65, 3) := by decide +kernel
theorem dX11_init_118 : decode cX11_init 118 = .ok (.aload_n 0, 1) := by decide +kernel
theorem dX11_init_119 : decode cX11_init 119 = .ok (.sipush 144, 3) := by decide +kernel
theorem dX11_init_122 : decode cX11_init 122 = .ok (.newarray .int, 2) := by decide +kernel
theorem dX11_init_124 : decode cX11_init 124 = .ok (.putfield 69, 3) := by decide +kernel
theorem dX11_init_127 : decode cX11_init 127 = .ok (.aload_n 0, 1) := by decide +kernel
theorem dX11_init_128 : decode cX11_init 128 = .ok (.new 73, 3) := by decide +kernel
theorem dX11_init_131 : decode cX11_init 131 = .ok (.dup, 1) := by decide +kernel
theorem dX11_init_132 : decode cX11_init 132 = .ok (.invokespecial 75, 3) := by decide +kernel
theorem dX11_init_135 : decode cX11_init 135 = .ok (.putfield 76, 3) := by decide +kernel
theorem dX11_init_138 : decode cX11_init 138 = .ok (.aload_n 0, 1) := by decide +kernel
theorem dX11_init_139 : decode cX11_init 139 = .ok (.new 73, 3) := by decide +kernel
theorem dX11_init_142 : decode cX11_init 142 = .ok (.dup, 1) := by decide +kernel
theorem dX11_init_143 : decode cX11_init 143 = .ok (.invokespecial 75, 3) := by decide +kernel
theorem dX11_init_146 : decode cX11_init 146 = .ok (.putfield 80, 3) := by decide +kernel
theorem dX11_init_149 : decode cX11_init 149 = .ok (.iconst 0, 1) := by decide +kernel
theorem dX11_init_150 : decode cX11_init 150 = .ok (.istore_n 1, 1) := by decide +kernel
theorem dX11_init_151 : decode cX11_init 151 = .ok (.iload_n 1, 1) := by decide +kernel
theorem dX11_init_152 : decode cX11_init 152 = .ok (.bipush 8, 2) := by decide +kernel
theorem dX11_init_154 : decode cX11_init 154 = .ok (.if_icmp .ge 22, 3) := by decide +kernel
theorem dX11_init_157 : decode cX11_init 157 = .ok (.aload_n 0, 1) := by decide +kernel
theorem dX11_init_158 : decode cX11_init 158 = .ok (.getfield 54, 3) := by decide +kernel
theorem dX11_init_161 : decode cX11_init 161 = .ok (.iload_n 1, 1) := by decide +kernel
theorem dX11_init_162 : decode cX11_init 162 = .ok (.new 52, 3) := by decide +kernel
theorem dX11_init_165 : decode cX11_init 165 = .ok (.dup, 1) := by decide +kernel
theorem dX11_init_166 : decode cX11_init 166 = .ok (.invokespecial 58, 3) := by decide +kernel
theorem dX11_init_169 : decode cX11_init 169 = .ok (.aastore, 1) := by decide +kernel
theorem dX11_init_170 : decode cX11_init 170 = .ok (.iinc 1 1, 3) := by decide +kernel
theorem dX11_init_173 : decode cX11_init 173 = .ok (.goto (-22), 3) := by decide +kernel
theorem dX11_init_176 : decode cX11_init 176 = .ok (.iconst 0, 1) := by decide +kernel
theorem dX11_init_177 : decode cX11_init 177 = .ok (.istore_n 1, 1) := by decide +kernel
theorem dX11_init_178 : decode cX11_init 178 = .ok (.iload_n 1, 1) := by decide +kernel
theorem dX11_init_179 : decode cX11_init 179 = .ok (.bipush 12, 2) := by decide +kernel
theorem dX11_init_181 : decode cX11_init 181 = .ok (.if_icmp .ge 22, 3) := by decide +kernel
theorem dX11_init_184 : decode cX11_init 184 = .ok (.aload_n 0, 1) := by decide +kernel
theorem dX11_init_185 : decode cX11_init 185 = .ok (.getfield 65, 3) := by decide +kernel
theorem dX11_init_188 : decode cX11_init 188 = .ok (.iload_n 1, 1) := by decide +kernel
theorem dX11_init_189 : decode cX11_init 189 = .ok (.new 63, 3) := by decide +kernel
theorem dX11_init_192 : decode cX11_init 192 = .ok (.dup, 1) := by decide +kernel
theorem dX11_init_193 : decode cX11_init 193 = .ok (.invokespecial 83, 3) := by decide +kernel
theorem dX11_init_196 : decode cX11_init 196 = .ok (.aastore, 1) := by decide +kernel
theorem dX11_init_197 : decode cX11_init 197 = .ok (.iinc 1 1, 3) := by decide +kernel
theorem dX11_init_200 : decode cX11_init 200 = .ok (.goto (-22), 3) := by decide +kernel
theorem dX11_init_203 : decode cX11_init 203 = .ok (.aload_n 0, 1) := by decide +kernel
theorem dX11_init_204 : decode cX11_init 204 = .ok (.getfield 69, 3) := by decide +kernel
theorem dX11_init_207 : decode cX11_init 207 = .ok (.iconst (-1), 1) := by decide +kernel
theorem dX11_init_208 : decode cX11_init 208 = .ok (.invokestatic 84, 3) := by decide +kernel
theorem dX11_init_211 : decode cX11_init 211 = .ok (.aload_n 0, 1) := by decide +kernel
theorem dX11_init_212 : decode cX11_init 212 = .ok (.iconst 0, 1) := by decide +kernel
theorem dX11_init_213 : decode cX11_init 213 = .ok (.putfield 90, 3) := by decide +kernel
theorem dX11_init_216 : decode cX11_init 216 = .ok (.aload_n 0, 1) := by decide +kernel
theorem dX11_init_217 : decode cX11_init 217 = .ok (.iconst 0, 1) := by decide +kernel
theorem dX11_init_218 : decode cX11_init 218 = .ok (.putfield 94, 3) := by decide +kernel
theorem dX11_init_221 : decode cX11_init 221 = .ok (.aload_n 0, 1) := by decide +kernel
theorem dX11_init_222 : decode cX11_init 222 = .ok (.iconst 0, 1) := by decide +kernel
theorem dX11_init_223 : decode cX11_init 223 = .ok (.putfield 97, 3) := by decide +kernel
theorem dX11_init_226 : decode cX11_init 226 = .ok (.return_, 1) := by decide +kernel
set_option maxRecDepth 20000 in
theorem ggX11_feed_X7_putFour : GoodIn wsX11_feed wsX7_putFour := goodIn_r _ [7, 8, 9, 10, 6, 11, 12, 13, 30, 31] (by decide +kernel) (by decide +kernel)
set_option maxRecDepth 20000 in
theorem gX11_feed_X7_putFour : GoodIn wsX11_feed (wsV RX11 103 RX7 yX7_putFour wsX7_putFour) := goodIn_app (goodIn_of _ (by decide +kernel)) ggX11_feed_X7_putFour
theorem dX11_feed_0 : decode cX11_feed 0 = .ok (.aload_n 0, 1) := by decide +kernel
theorem dX11_feed_1 : decode cX11_feed 1 = .ok (.getfield 14, 3) := by decide +kernel
theorem dX11_feed_4 : decode cX11_feed 4 = .ok (.getfield 100, 3) := by decide +kernel
theorem dX11_feed_7 : decode cX11_feed 7 = .ok (.bipush 20, 2) := by decide +kernel
theorem dX11_feed_9 : decode cX11_feed 9 = .ok (.iadd, 1) := by decide +kernel
theorem dX11_feed_10 : decode cX11_feed 10 = .ok (.sipush 440, 3) := by decide +kernel
theorem dX11_feed_13 : decode cX11_feed 13 = .ok (.if_icmp .le 5, 3) := by decide +kernel
theorem dX11_feed_16 : decode cX11_feed 16 = .ok (.iconst (-1), 1) := by decide +kernel
theorem dX11_feed_17 : decode cX11_feed 17 = .ok (.ireturn, 1) := by decide +kernel
theorem dX11_feed_18 : decode cX11_feed 18 = .ok (.aload_n 0, 1) := by decide +kernel
theorem dX11_feed_19 : decode cX11_feed 19 = .ok (.getfield 14, 3) := by decide +kernel
theorem dX11_feed_22 : decode cX11_feed 22 = .ok (.iload_n 1, 1) := by decide +kernel
theorem dX11_feed_23 : decode cX11_feed 23 = .ok (.invokevirtual 103, 3) := by decide +kernel
theorem dX11_feed_26 : decode cX11_feed 26 = .ok (.aload_n 0, 1) := by decide +kernel
theorem dX11_feed_27 : decode cX11_feed 27 = .ok (.getfield 14, 3) := by decide +kernel
theorem dX11_feed_30 : decode cX11_feed 30 = .ok (.iload_n 2, 1) := by decide +kernel
theorem dX11_feed_31 : decode cX11_feed 31 = .ok (.invokevirtual 103, 3) := by decide +kernel
theorem dX11_feed_34 : decode cX11_feed 34 = .ok (.aload_n 0, 1) := by decide +kernel
theorem dX11_feed_35 : decode cX11_feed 35 = .ok (.getfield 14, 3) := by decide +kernel
theorem dX11_feed_38 : decode cX11_feed 38 = .ok (.iload_n 3, 1) := by decide +kernel
theorem dX11_feed_39 : decode cX11_feed 39 = .ok (.invokevirtual 103, 3) := by decide +kernel
theorem dX11_feed_42 : decode cX11_feed 42 = .ok (.aload_n 0, 1) := by decide +kernel
theorem dX11_feed_43 : decode cX11_feed 43 = .ok (.getfield 14, 3) := by decide +kernel
theorem dX11_feed_46 : decode cX11_feed 46 = .ok (.iload 4, 2) := by decide +kernel
theorem dX11_feed_48 : decode cX11_feed 48 = .ok (.invokevirtual 103, 3) := by decide +kernel
theorem dX11_feed_51 : decode cX11_feed 51 = .ok (.aload_n 0, 1) := by decide +kernel
theorem dX11_feed_52 : decode cX11_feed 52 = .ok (.getfield 14, 3) := by decide +kernel
theorem dX11_feed_55 : decode cX11_feed 55 = .ok (.iload 5, 2) := by decide +kernel
theorem dX11_feed_57 : decode cX11_feed 57 = .ok (.invokevirtual 103, 3) := by decide +kernel
theorem dX11_feed_60 : decode cX11_feed 60 = .ok (.aload_n 0, 1) := by decide +kernel
theorem dX11_feed_61 : decode cX11_feed 61 = .ok (.getfield 14, 3) := by decide +kernel
theorem dX11_feed_64 : decode cX11_feed 64 = .ok (.getfield 100, 3) := by decide +kernel
theorem dX11_feed_67 : decode cX11_feed 67 = .ok (.ireturn, 1) := by decide +kernel
theorem dX11_end_0 : decode cX11_end 0 = .ok (.iload_n 1, 1) := by decide +kernel
theorem dX11_end_1 : decode cX11_end 1 = .ok (.ifCond .lt 14, 3) := by decide +kernel
theorem dX11_end_4 : decode cX11_end 4 = .ok (.iload_n 1, 1) := by decide +kernel
theorem dX11_end_5 : decode cX11_end 5 = .ok (.aload_n 0, 1) := by decide +kernel
theorem dX11_end_6 : decode cX11_end 6 = .ok (.getfield 14, 3) := by decide +kernel
theorem dX11_end_9 : decode cX11_end 9 = .ok (.getfield 100, 3) := by decide +kernel
theorem dX11_end_12 : decode cX11_end 12 = .ok (.if_icmp .le 5, 3) := by decide +kernel
theorem dX11_end_15 : decode cX11_end 15 = .ok (.iconst 0, 1) := by decide +kernel
theorem dX11_end_16 : decode cX11_end 16 = .ok (.ireturn, 1) := by decide +kernel
theorem dX11_end_17 : decode cX11_end 17 = .ok (.aload_n 0, 1) := by decide +kernel
theorem dX11_end_18 : decode cX11_end 18 = .ok (.getfield 14, 3) := by decide +kernel
theorem dX11_end_21 : decode cX11_end 21 = .ok (.iload_n 1, 1) := by decide +kernel
theorem dX11_end_22 : decode cX11_end 22 = .ok (.putfield 100, 3) := by decide +kernel
theorem dX11_end_25 : decode cX11_end 25 = .ok (.iconst 1, 1) := by decide +kernel
theorem dX11_end_26 : decode cX11_end 26 = .ok (.ireturn, 1) := by decide +kernel
set_option maxRecDepth 20000 in
theorem ggX11_systems_X10_read : GoodIn wsX11_systems wsX10_read := goodIn_r _ [17, 18, 19, 20, 21, 22, 23, 24, 25, 26, 27, 28, 29, 30, 31, 32, 33, 34, 35, 36, 37, 38, 39, 40, 41, 42, 43, 44, 45, 46, 47, 48, 49, 50, 51, 52, 53, 54, 55, 56, 57, 58, 59, 60, 61, 62, 63, 64, 65, 66, 67, 68, 69, 70, 71, 72, 73, 74, 75, 76, 77, 78, 79, 80, 81, 82, 83, 84, 85, 86, 87, 88, 89, 90, 91, 92, 93, 94, 95, 96, 97, 98, 99, 100, 101, 102, 103, 104, 105, 106, 107, 108, 109, 16, 110, 111, 112, 113, 114, 115, 116, 117, 118, 119, 120, 121, 122, 123, 124, 125, 126, 127, 128, 129, 130, 131, 132, 133, 134, 135, 136, 137, 138, 139, 140, 141, 142, 143, 144, 145, 146, 147, 148, 149, 150, 151, 152, 153, 154, 155, 156, 157, 158, 159, 160, 161, 162, 163, 164, 165, 166, 167, 168, 169, 170, 171, 172, 173, 204, 205, 206, 207, 208, 209, 210, 211, 212, 213, 214, 215, 216, 217, 218, 219, 220, 221, 222, 223, 224, 225, 226] (by decide +kernel) (by decide +kernel)
set_option maxRecDepth 20000 in
theorem gX11_systems_X10_read : GoodIn wsX11_systems (wsV RX11 106 RX10 yX10_read wsX10_read) := goodIn_app (goodIn_of _ (by decide +kernel)) ggX11_systems_X10_read
set_option maxRecDepth 20000 in
theorem ggX11_systems_X7_clear : GoodIn wsX11_systems wsX7_clear := goodIn_r _ [177, 65, 225, 226] (by decide +kernel) (by decide +kernel)
set_option maxRecDepth 20000 in
theorem gX11_systems_X7_clear : GoodIn wsX11_systems (wsV RX11 110 RX7 yX7_clear wsX7_clear) := goodIn_app (goodIn_of _ (by decide +kernel)) ggX11_systems_X7_clear
set_option maxRecDepth 20000 in
theorem ggX11_systems_X3_forget : GoodIn wsX11_systems wsX3_forget := goodIn_r _ [182, 183, 184, 185, 186, 36, 33, 37, 227, 228, 229, 230, 231] (by decide +kernel) (by decide +kernel)
set_option maxRecDepth 20000 in
theorem gX11_systems_X3_forget : GoodIn wsX11_systems (wsV RX11 125 RX3 yX3_forget wsX3_forget) := goodIn_app (goodIn_of _ (by decide +kernel)) ggX11_systems_X3_forget
set_option maxRecDepth 20000 in
theorem ggX11_systems_J7_fill_53178 : GoodIn wsX11_systems wsJ7_fill_53178 := goodIn_r _ [37] (by decide +kernel) (by decide +kernel)
set_option maxRecDepth 20000 in
theorem gX11_systems_J7_fill_53178 : GoodIn wsX11_systems (va_wsS RX11 84 yJ7_fill_53178 wsJ7_fill_53178) := goodIn_app (goodIn_of _ (by decide +kernel)) ggX11_systems_J7_fill_53178
theorem dX11_systems_0 : decode cX11_systems 0 = .ok (.aload_n 0, 1) := by decide +kernel
theorem dX11_systems_1 : decode cX11_systems 1 = .ok (.getfield 27, 3) := by decide +kernel
theorem dX11_systems_4 : decode cX11_systems 4 = .ok (.aload_n 0, 1) := by decide +kernel
theorem dX11_systems_5 : decode cX11_systems 5 = .ok (.getfield 14, 3) := by decide +kernel
theorem dX11_systems_8 : decode cX11_systems 8 = .ok (.aload_n 0, 1) := by decide +kernel
theorem dX11_systems_9 : decode cX11_systems 9 = .ok (.getfield 80, 3) := by decide +kernel
theorem dX11_systems_12 : decode cX11_systems 12 = .ok (.invokevirtual 106, 3) := by decide +kernel
theorem dX11_systems_15 : decode cX11_systems 15 = .ok (.istore_n 1, 1) := by decide +kernel
theorem dX11_systems_16 : decode cX11_systems 16 = .ok (.aload_n 0, 1) := by decide +kernel
theorem dX11_systems_17 : decode cX11_systems 17 = .ok (.getfield 14, 3) := by decide +kernel
theorem dX11_systems_20 : decode cX11_systems 20 = .ok (.invokevirtual 110, 3) := by decide +kernel
theorem dX11_systems_23 : decode cX11_systems 23 = .ok (.aload_n 0, 1) := by decide +kernel
theorem dX11_systems_24 : decode cX11_systems 24 = .ok (.aload_n 0, 1) := by decide +kernel
theorem dX11_systems_25 : decode cX11_systems 25 = .ok (.getfield 27, 3) := by decide +kernel
theorem dX11_systems_28 : decode cX11_systems 28 = .ok (.getfield 113, 3) := by decide +kernel
theorem dX11_systems_31 : decode cX11_systems 31 = .ok (.getfield 117, 3) := by decide +kernel
theorem dX11_systems_34 : decode cX11_systems 34 = .ok (.putfield 97, 3) := by decide +kernel
theorem dX11_systems_37 : decode cX11_systems 37 = .ok (.iload_n 1, 1) := by decide +kernel
theorem dX11_systems_38 : decode cX11_systems 38 = .ok (.ifCond .ne 16, 3) := by decide +kernel
theorem dX11_systems_41 : decode cX11_systems 41 = .ok (.iconst (-1), 1) := by decide +kernel
theorem dX11_systems_42 : decode cX11_systems 42 = .ok (.aload_n 0, 1) := by decide +kernel
theorem dX11_systems_43 : decode cX11_systems 43 = .ok (.getfield 27, 3) := by decide +kernel
theorem dX11_systems_46 : decode cX11_systems 46 = .ok (.getfield 113, 3) := by decide +kernel
theorem dX11_systems_49 : decode cX11_systems 49 = .ok (.getfield 122, 3) := by decide +kernel
theorem dX11_systems_52 : decode cX11_systems 52 = .ok (.isub, 1) := by decide +kernel
theorem dX11_systems_53 : decode cX11_systems 53 = .ok (.ireturn, 1) := by decide +kernel
theorem dX11_systems_54 : decode cX11_systems 54 = .ok (.aload_n 0, 1) := by decide +kernel
theorem dX11_systems_55 : decode cX11_systems 55 = .ok (.getfield 76, 3) := by decide +kernel
theorem dX11_systems_58 : decode cX11_systems 58 = .ok (.astore_n 2, 1) := by decide +kernel
theorem dX11_systems_59 : decode cX11_systems 59 = .ok (.aload_n 0, 1) := by decide +kernel
theorem dX11_systems_60 : decode cX11_systems 60 = .ok (.aload_n 0, 1) := by decide +kernel
theorem dX11_systems_61 : decode cX11_systems 61 = .ok (.getfield 80, 3) := by decide +kernel
theorem dX11_systems_64 : decode cX11_systems 64 = .ok (.putfield 76, 3) := by decide +kernel
theorem dX11_systems_67 : decode cX11_systems 67 = .ok (.aload_n 0, 1) := by decide +kernel
theorem dX11_systems_68 : decode cX11_systems 68 = .ok (.aload_n 2, 1) := by decide +kernel
theorem dX11_systems_69 : decode cX11_systems 69 = .ok (.putfield 80, 3) := by decide +kernel
theorem dX11_systems_72 : decode cX11_systems 72 = .ok (.aload_n 0, 1) := by decide +kernel
theorem dX11_systems_73 : decode cX11_systems 73 = .ok (.iconst 0, 1) := by decide +kernel
theorem dX11_systems_74 : decode cX11_systems 74 = .ok (.putfield 90, 3) := by decide +kernel
theorem dX11_systems_77 : decode cX11_systems 77 = .ok (.aload_n 0, 1) := by decide +kernel
theorem dX11_systems_78 : decode cX11_systems 78 = .ok (.getfield 48, 3) := by decide +kernel
theorem dX11_systems_81 : decode cX11_systems 81 = .ok (.invokevirtual 125, 3) := by decide +kernel
theorem dX11_systems_84 : decode cX11_systems 84 = .ok (.aload_n 0, 1) := by decide +kernel
theorem dX11_systems_85 : decode cX11_systems 85 = .ok (.getfield 69, 3) := by decide +kernel
theorem dX11_systems_88 : decode cX11_systems 88 = .ok (.iconst (-1), 1) := by decide +kernel
theorem dX11_systems_89 : decode cX11_systems 89 = .ok (.invokestatic 84, 3) := by decide +kernel
theorem dX11_systems_92 : decode cX11_systems 92 = .ok (.aload_n 0, 1) := by decide +kernel
theorem dX11_systems_93 : decode cX11_systems 93 = .ok (.getfield 76, 3) := by decide +kernel
theorem dX11_systems_96 : decode cX11_systems 96 = .ok (.getfield 128, 3) := by decide +kernel
theorem dX11_systems_99 : decode cX11_systems 99 = .ok (.ireturn, 1) := by decide +kernel
theorem dX11_fault_0 : decode cX11_fault 0 = .ok (.aload_n 0, 1) := by decide +kernel
theorem dX11_fault_1 : decode cX11_fault 1 = .ok (.getfield 97, 3) := by decide +kernel
theorem dX11_fault_4 : decode cX11_fault 4 = .ok (.ireturn, 1) := by decide +kernel
set_option maxRecDepth 20000 in
theorem ggX11_system_X11_isSystem : GoodIn wsX11_system wsX11_isSystem := goodIn_r _ [10, 3, 11, 16, 17, 18, 19, 20, 21, 22, 23, 24, 25, 26, 27, 28, 29, 30, 31, 32, 33, 34, 35, 36, 37, 38] (by decide +kernel) (by decide +kernel)
set_option maxRecDepth 20000 in
theorem gX11_system_X11_isSystem : GoodIn wsX11_system (wsV RX11 131 RX11 yX11_isSystem wsX11_isSystem) := goodIn_app (goodIn_of _ (by decide +kernel)) ggX11_system_X11_isSystem
theorem dX11_system_0 : decode cX11_system 0 = .ok (.aload_n 0, 1) := by decide +kernel
theorem dX11_system_1 : decode cX11_system 1 = .ok (.iload_n 1, 1) := by decide +kernel
theorem dX11_system_2 : decode cX11_system 2 = .ok (.invokevirtual 131, 3) := by decide +kernel
theorem dX11_system_5 : decode cX11_system 5 = .ok (.ifCond .eq 12, 3) := by decide +kernel
theorem dX11_system_8 : decode cX11_system 8 = .ok (.iload_n 2, 1) := by decide +kernel
theorem dX11_system_9 : decode cX11_system 9 = .ok (.ifCond .lt 8, 3) := by decide +kernel
theorem dX11_system_12 : decode cX11_system 12 = .ok (.iload_n 2, 1) := by decide +kernel
theorem dX11_system_13 : decode cX11_system 13 = .ok (.iconst 5, 1) := by decide +kernel
theorem dX11_system_14 : decode cX11_system 14 = .ok (.if_icmp .lt 13, 3) := by decide +kernel
theorem dX11_system_17 : decode cX11_system 17 = .ok (.new 135, 3) := by decide +kernel
theorem dX11_system_20 : decode cX11_system 20 = .ok (.dup, 1) := by decide +kernel
theorem dX11_system_21 : decode cX11_system 21 = .ok (.ldc 137, 2) := by decide +kernel
theorem dX11_system_23 : decode cX11_system 23 = .ok (.invokespecial 139, 3) := by decide +kernel
theorem dX11_system_26 : decode cX11_system 26 = .ok (.athrow, 1) := by decide +kernel
theorem dX11_system_27 : decode cX11_system 27 = .ok (.iload_n 2, 1) := by decide +kernel
theorem dX11_system_28 : decode cX11_system 28 = .ok (.ifCond .ne 13, 3) := by decide +kernel
theorem dX11_system_31 : decode cX11_system 31 = .ok (.aload_n 0, 1) := by decide +kernel
theorem dX11_system_32 : decode cX11_system 32 = .ok (.getfield 76, 3) := by decide +kernel
theorem dX11_system_35 : decode cX11_system 35 = .ok (.getfield 142, 3) := by decide +kernel
theorem dX11_system_38 : decode cX11_system 38 = .ok (.iload_n 1, 1) := by decide +kernel
theorem dX11_system_39 : decode cX11_system 39 = .ok (.iaload, 1) := by decide +kernel
theorem dX11_system_40 : decode cX11_system 40 = .ok (.ireturn, 1) := by decide +kernel
theorem dX11_system_41 : decode cX11_system 41 = .ok (.iload_n 2, 1) := by decide +kernel
theorem dX11_system_42 : decode cX11_system 42 = .ok (.aload_n 0, 1) := by decide +kernel
theorem dX11_system_43 : decode cX11_system 43 = .ok (.getfield 76, 3) := by decide +kernel
theorem dX11_system_46 : decode cX11_system 46 = .ok (.getfield 142, 3) := by decide +kernel
theorem dX11_system_49 : decode cX11_system 49 = .ok (.iload_n 1, 1) := by decide +kernel
theorem dX11_system_50 : decode cX11_system 50 = .ok (.iaload, 1) := by decide +kernel
theorem dX11_system_51 : decode cX11_system 51 = .ok (.if_icmp .ge 19, 3) := by decide +kernel
theorem dX11_system_54 : decode cX11_system 54 = .ok (.aload_n 0, 1) := by decide +kernel
theorem dX11_system_55 : decode cX11_system 55 = .ok (.getfield 76, 3) := by decide +kernel
theorem dX11_system_58 : decode cX11_system 58 = .ok (.getfield 145, 3) := by decide +kernel
theorem dX11_system_61 : decode cX11_system 61 = .ok (.iload_n 1, 1) := by decide +kernel
theorem dX11_system_62 : decode cX11_system 62 = .ok (.iload_n 2, 1) := by decide +kernel
theorem dX11_system_63 : decode cX11_system 63 = .ok (.invokestatic 148, 3) := by decide +kernel
theorem dX11_system_66 : decode cX11_system 66 = .ok (.iaload, 1) := by decide +kernel
theorem dX11_system_67 : decode cX11_system 67 = .ok (.goto 4, 3) := by decide +kernel
theorem dX11_system_70 : decode cX11_system 70 = .ok (.iconst (-1), 1) := by decide +kernel
theorem dX11_system_71 : decode cX11_system 71 = .ok (.ireturn, 1) := by decide +kernel
set_option maxRecDepth 20000 in
theorem ggX11_write_X11_isSystem : GoodIn wsX11_write wsX11_isSystem := goodIn_r _ [8, 1, 9, 40, 41, 42, 43, 44, 45, 46, 47, 48, 49, 50, 51, 52, 53, 54, 55, 58, 59, 60, 61, 62, 63, 64] (by decide +kernel) (by decide +kernel)
set_option maxRecDepth 20000 in
theorem gX11_write_X11_isSystem : GoodIn wsX11_write (wsV RX11 131 RX11 yX11_isSystem wsX11_isSystem) := goodIn_app (goodIn_of _ (by decide +kernel)) ggX11_write_X11_isSystem
set_option maxRecDepth 20000 in
theorem ggX11_write_X7_clear : GoodIn wsX11_write wsX7_clear := goodIn_r _ [24, 25, 56, 57] (by decide +kernel) (by decide +kernel)
set_option maxRecDepth 20000 in
theorem gX11_write_X7_clear : GoodIn wsX11_write (wsV RX11 110 RX7 yX7_clear wsX7_clear) := goodIn_app (goodIn_of _ (by decide +kernel)) ggX11_write_X7_clear
theorem dX11_write_0 : decode cX11_write 0 = .ok (.aload_n 0, 1) := by decide +kernel
theorem dX11_write_1 : decode cX11_write 1 = .ok (.iload_n 1, 1) := by decide +kernel
theorem dX11_write_2 : decode cX11_write 2 = .ok (.invokevirtual 131, 3) := by decide +kernel
theorem dX11_write_5 : decode cX11_write 5 = .ok (.ifCond .eq 20, 3) := by decide +kernel
theorem dX11_write_8 : decode cX11_write 8 = .ok (.iload_n 2, 1) := by decide +kernel
theorem dX11_write_9 : decode cX11_write 9 = .ok (.iconst 1, 1) := by decide +kernel
theorem dX11_write_10 : decode cX11_write 10 = .ok (.if_icmp .lt 15, 3) := by decide +kernel
theorem dX11_write_13 : decode cX11_write 13 = .ok (.aload_n 0, 1) := by decide +kernel
theorem dX11_write_14 : decode cX11_write 14 = .ok (.getfield 76, 3) := by decide +kernel
theorem dX11_write_17 : decode cX11_write 17 = .ok (.iload_n 1, 1) := by decide +kernel
theorem dX11_write_18 : decode cX11_write 18 = .ok (.iload_n 2, 1) := by decide +kernel
theorem dX11_write_19 : decode cX11_write 19 = .ok (.invokevirtual 152, 3) := by decide +kernel
theorem dX11_write_22 : decode cX11_write 22 = .ok (.ifCond .ne 5, 3) := by decide +kernel
theorem dX11_write_25 : decode cX11_write 25 = .ok (.iconst (-1), 1) := by decide +kernel
theorem dX11_write_26 : decode cX11_write 26 = .ok (.ireturn, 1) := by decide +kernel
theorem dX11_write_27 : decode cX11_write 27 = .ok (.aload_n 0, 1) := by decide +kernel
theorem dX11_write_28 : decode cX11_write 28 = .ok (.getfield 18, 3) := by decide +kernel
theorem dX11_write_31 : decode cX11_write 31 = .ok (.invokevirtual 110, 3) := by decide +kernel
theorem dX11_write_34 : decode cX11_write 34 = .ok (.aload_n 0, 1) := by decide +kernel
theorem dX11_write_35 : decode cX11_write 35 = .ok (.getfield 76, 3) := by decide +kernel
theorem dX11_write_38 : decode cX11_write 38 = .ok (.aload_n 0, 1) := by decide +kernel
theorem dX11_write_39 : decode cX11_write 39 = .ok (.getfield 18, 3) := by decide +kernel
theorem dX11_write_42 : decode cX11_write 42 = .ok (.iload_n 1, 1) := by decide +kernel
theorem dX11_write_43 : decode cX11_write 43 = .ok (.iload_n 2, 1) := by decide +kernel
theorem dX11_write_44 : decode cX11_write 44 = .ok (.invokevirtual 156, 3) := by decide +kernel
theorem dX11_write_47 : decode cX11_write 47 = .ok (.aload_n 0, 1) := by decide +kernel
theorem dX11_write_48 : decode cX11_write 48 = .ok (.getfield 18, 3) := by decide +kernel
theorem dX11_write_51 : decode cX11_write 51 = .ok (.getfield 100, 3) := by decide +kernel
theorem dX11_write_54 : decode cX11_write 54 = .ok (.ireturn, 1) := by decide +kernel
theorem dX11_octet_0 : decode cX11_octet 0 = .ok (.iload_n 1, 1) := by decide +kernel
theorem dX11_octet_1 : decode cX11_octet 1 = .ok (.ifCond .lt 14, 3) := by decide +kernel
theorem dX11_octet_4 : decode cX11_octet 4 = .ok (.iload_n 1, 1) := by decide +kernel
theorem dX11_octet_5 : decode cX11_octet 5 = .ok (.aload_n 0, 1) := by decide +kernel
theorem dX11_octet_6 : decode cX11_octet 6 = .ok (.getfield 18, 3) := by decide +kernel
theorem dX11_octet_9 : decode cX11_octet 9 = .ok (.getfield 100, 3) := by decide +kernel
theorem dX11_octet_12 : decode cX11_octet 12 = .ok (.if_icmp .lt 13, 3) := by decide +kernel
theorem dX11_octet_15 : decode cX11_octet 15 = .ok (.new 135, 3) := by decide +kernel
theorem dX11_octet_18 : decode cX11_octet 18 = .ok (.dup, 1) := by decide +kernel
theorem dX11_octet_19 : decode cX11_octet 19 = .ok (.ldc 160, 2) := by decide +kernel
theorem dX11_octet_21 : decode cX11_octet 21 = .ok (.invokespecial 139, 3) := by decide +kernel
theorem dX11_octet_24 : decode cX11_octet 24 = .ok (.athrow, 1) := by decide +kernel
theorem dX11_octet_25 : decode cX11_octet 25 = .ok (.aload_n 0, 1) := by decide +kernel
theorem dX11_octet_26 : decode cX11_octet 26 = .ok (.getfield 18, 3) := by decide +kernel
theorem dX11_octet_29 : decode cX11_octet 29 = .ok (.iload_n 1, 1) := by decide +kernel
theorem dX11_octet_30 : decode cX11_octet 30 = .ok (.invokevirtual 162, 3) := by decide +kernel
theorem dX11_octet_33 : decode cX11_octet 33 = .ok (.ireturn, 1) := by decide +kernel
set_option maxRecDepth 20000 in
theorem ggX11_tablet_X7_clear : GoodIn wsX11_tablet wsX7_clear := goodIn_r _ [213, 57, 263, 264] (by decide +kernel) (by decide +kernel)
set_option maxRecDepth 20000 in
theorem gX11_tablet_X7_clear : GoodIn wsX11_tablet (wsV RX11 110 RX7 yX7_clear wsX7_clear) := goodIn_app (goodIn_of _ (by decide +kernel)) ggX11_tablet_X7_clear
theorem dX11_tablet_0 : decode cX11_tablet 0 = .ok (.aload_n 0, 1) := by decide +kernel
theorem dX11_tablet_1 : decode cX11_tablet 1 = .ok (.getfield 90, 3) := by decide +kernel
theorem dX11_tablet_4 : decode cX11_tablet 4 = .ok (.bipush 8, 2) := by decide +kernel
theorem dX11_tablet_6 : decode cX11_tablet 6 = .ok (.if_icmp .ge 17, 3) := by decide +kernel
theorem dX11_tablet_9 : decode cX11_tablet 9 = .ok (.aload_n 0, 1) := by decide +kernel
theorem dX11_tablet_10 : decode cX11_tablet 10 = .ok (.getfield 76, 3) := by decide +kernel
theorem dX11_tablet_13 : decode cX11_tablet 13 = .ok (.getfield 128, 3) := by decide +kernel
theorem dX11_tablet_16 : decode cX11_tablet 16 = .ok (.ifCond .le 7, 3) := by decide +kernel
theorem dX11_tablet_19 : decode cX11_tablet 19 = .ok (.iconst 1, 1) := by decide +kernel
theorem dX11_tablet_20 : decode cX11_tablet 20 = .ok (.goto 4, 3) := by decide +kernel
theorem dX11_tablet_23 : decode cX11_tablet 23 = .ok (.iconst 0, 1) := by decide +kernel
theorem dX11_tablet_24 : decode cX11_tablet 24 = .ok (.istore_n 1, 1) := by decide +kernel
theorem dX11_tablet_25 : decode cX11_tablet 25 = .ok (.iload_n 1, 1) := by decide +kernel
theorem dX11_tablet_26 : decode cX11_tablet 26 = .ok (.ifCond .eq 34, 3) := by decide +kernel
theorem dX11_tablet_29 : decode cX11_tablet 29 = .ok (.aload_n 0, 1) := by decide +kernel
theorem dX11_tablet_30 : decode cX11_tablet 30 = .ok (.getfield 34, 3) := by decide +kernel
theorem dX11_tablet_33 : decode cX11_tablet 33 = .ok (.aload_n 0, 1) := by decide +kernel
theorem dX11_tablet_34 : decode cX11_tablet 34 = .ok (.getfield 14, 3) := by decide +kernel
theorem dX11_tablet_37 : decode cX11_tablet 37 = .ok (.aload_n 0, 1) := by decide +kernel
theorem dX11_tablet_38 : decode cX11_tablet 38 = .ok (.getfield 76, 3) := by decide +kernel
theorem dX11_tablet_41 : decode cX11_tablet 41 = .ok (.aload_n 0, 1) := by decide +kernel
theorem dX11_tablet_42 : decode cX11_tablet 42 = .ok (.getfield 54, 3) := by decide +kernel
theorem dX11_tablet_45 : decode cX11_tablet 45 = .ok (.aload_n 0, 1) := by decide +kernel
theorem dX11_tablet_46 : decode cX11_tablet 46 = .ok (.getfield 90, 3) := by decide +kernel
theorem dX11_tablet_49 : decode cX11_tablet 49 = .ok (.aaload, 1) := by decide +kernel
theorem dX11_tablet_50 : decode cX11_tablet 50 = .ok (.invokevirtual 166, 3) := by decide +kernel
theorem dX11_tablet_53 : decode cX11_tablet 53 = .ok (.ifCond .eq 7, 3) := by decide +kernel
theorem dX11_tablet_56 : decode cX11_tablet 56 = .ok (.iconst 1, 1) := by decide +kernel
theorem dX11_tablet_57 : decode cX11_tablet 57 = .ok (.goto 4, 3) := by decide +kernel
theorem dX11_tablet_60 : decode cX11_tablet 60 = .ok (.iconst 0, 1) := by decide +kernel
theorem dX11_tablet_61 : decode cX11_tablet 61 = .ok (.istore_n 2, 1) := by decide +kernel
theorem dX11_tablet_62 : decode cX11_tablet 62 = .ok (.aload_n 0, 1) := by decide +kernel
theorem dX11_tablet_63 : decode cX11_tablet 63 = .ok (.getfield 14, 3) := by decide +kernel
theorem dX11_tablet_66 : decode cX11_tablet 66 = .ok (.invokevirtual 110, 3) := by decide +kernel
theorem dX11_tablet_69 : decode cX11_tablet 69 = .ok (.iload_n 1, 1) := by decide +kernel
theorem dX11_tablet_70 : decode cX11_tablet 70 = .ok (.ifCond .ne 7, 3) := by decide +kernel
theorem dX11_tablet_73 : decode cX11_tablet 73 = .ok (.sipush (-400), 3) := by decide +kernel
theorem dX11_tablet_76 : decode cX11_tablet 76 = .ok (.ireturn, 1) := by decide +kernel
theorem dX11_tablet_77 : decode cX11_tablet 77 = .ok (.aload_n 0, 1) := by decide +kernel
theorem dX11_tablet_78 : decode cX11_tablet 78 = .ok (.aload_n 0, 1) := by decide +kernel
theorem dX11_tablet_79 : decode cX11_tablet 79 = .ok (.getfield 34, 3) := by decide +kernel
theorem dX11_tablet_82 : decode cX11_tablet 82 = .ok (.getfield 169, 3) := by decide +kernel
theorem dX11_tablet_85 : decode cX11_tablet 85 = .ok (.getfield 117, 3) := by decide +kernel
theorem dX11_tablet_88 : decode cX11_tablet 88 = .ok (.putfield 97, 3) := by decide +kernel
theorem dX11_tablet_91 : decode cX11_tablet 91 = .ok (.iload_n 2, 1) := by decide +kernel
theorem dX11_tablet_92 : decode cX11_tablet 92 = .ok (.ifCond .ne 16, 3) := by decide +kernel
theorem dX11_tablet_95 : decode cX11_tablet 95 = .ok (.iconst (-1), 1) := by decide +kernel
theorem dX11_tablet_96 : decode cX11_tablet 96 = .ok (.aload_n 0, 1) := by decide +kernel
theorem dX11_tablet_97 : decode cX11_tablet 97 = .ok (.getfield 34, 3) := by decide +kernel
theorem dX11_tablet_100 : decode cX11_tablet 100 = .ok (.getfield 169, 3) := by decide +kernel
theorem dX11_tablet_103 : decode cX11_tablet 103 = .ok (.getfield 122, 3) := by decide +kernel
theorem dX11_tablet_106 : decode cX11_tablet 106 = .ok (.isub, 1) := by decide +kernel
theorem dX11_tablet_107 : decode cX11_tablet 107 = .ok (.ireturn, 1) := by decide +kernel
theorem dX11_tablet_108 : decode cX11_tablet 108 = .ok (.aload_n 0, 1) := by decide +kernel
theorem dX11_tablet_109 : decode cX11_tablet 109 = .ok (.dup, 1) := by decide +kernel
theorem dX11_tablet_110 : decode cX11_tablet 110 = .ok (.getfield 90, 3) := by decide +kernel
theorem dX11_tablet_113 : decode cX11_tablet 113 = .ok (.iconst 1, 1) := by decide +kernel
theorem dX11_tablet_114 : decode cX11_tablet 114 = .ok (.iadd, 1) := by decide +kernel
theorem dX11_tablet_115 : decode cX11_tablet 115 = .ok (.putfield 90, 3) := by decide +kernel
theorem dX11_tablet_118 : decode cX11_tablet 118 = .ok (.aload_n 0, 1) := by decide +kernel
theorem dX11_tablet_119 : decode cX11_tablet 119 = .ok (.getfield 90, 3) := by decide +kernel
theorem dX11_tablet_122 : decode cX11_tablet 122 = .ok (.iconst 1, 1) := by decide +kernel
theorem dX11_tablet_123 : decode cX11_tablet 123 = .ok (.isub, 1) := by decide +kernel
theorem dX11_tablet_124 : decode cX11_tablet 124 = .ok (.ireturn, 1) := by decide +kernel
set_option maxRecDepth 20000 in
theorem ggX11_line_X11_isLine : GoodIn wsX11_line wsX11_isLine := goodIn_r _ [13, 3, 14, 15, 16, 17, 12, 18, 19, 20, 21, 22, 23, 24, 25, 26, 27, 28, 29, 30, 31, 32, 33, 34, 35, 36, 37, 38, 39, 40, 41, 42] (by decide +kernel) (by decide +kernel)
set_option maxRecDepth 20000 in
theorem gX11_line_X11_isLine : GoodIn wsX11_line (wsV RX11 170 RX11 yX11_isLine wsX11_isLine) := goodIn_app (goodIn_of _ (by decide +kernel)) ggX11_line_X11_isLine
theorem dX11_line_0 : decode cX11_line 0 = .ok (.aload_n 0, 1) := by decide +kernel
theorem dX11_line_1 : decode cX11_line 1 = .ok (.iload_n 1, 1) := by decide +kernel
theorem dX11_line_2 : decode cX11_line 2 = .ok (.iload_n 2, 1) := by decide +kernel
theorem dX11_line_3 : decode cX11_line 3 = .ok (.invokevirtual 170, 3) := by decide +kernel
theorem dX11_line_6 : decode cX11_line 6 = .ok (.ifCond .eq 12, 3) := by decide +kernel
theorem dX11_line_9 : decode cX11_line 9 = .ok (.iload_n 3, 1) := by decide +kernel
theorem dX11_line_10 : decode cX11_line 10 = .ok (.ifCond .lt 8, 3) := by decide +kernel
theorem dX11_line_13 : decode cX11_line 13 = .ok (.iload_n 3, 1) := by decide +kernel
theorem dX11_line_14 : decode cX11_line 14 = .ok (.iconst 3, 1) := by decide +kernel
theorem dX11_line_15 : decode cX11_line 15 = .ok (.if_icmp .le 13, 3) := by decide +kernel
theorem dX11_line_18 : decode cX11_line 18 = .ok (.new 135, 3) := by decide +kernel
theorem dX11_line_21 : decode cX11_line 21 = .ok (.dup, 1) := by decide +kernel
theorem dX11_line_22 : decode cX11_line 22 = .ok (.ldc 173, 2) := by decide +kernel
theorem dX11_line_24 : decode cX11_line 24 = .ok (.invokespecial 139, 3) := by decide +kernel
theorem dX11_line_27 : decode cX11_line 27 = .ok (.athrow, 1) := by decide +kernel
theorem dX11_line_28 : decode cX11_line 28 = .ok (.aload_n 0, 1) := by decide +kernel
theorem dX11_line_29 : decode cX11_line 29 = .ok (.getfield 54, 3) := by decide +kernel
theorem dX11_line_32 : decode cX11_line 32 = .ok (.iload_n 1, 1) := by decide +kernel
theorem dX11_line_33 : decode cX11_line 33 = .ok (.aaload, 1) := by decide +kernel
theorem dX11_line_34 : decode cX11_line 34 = .ok (.getfield 175, 3) := by decide +kernel
theorem dX11_line_37 : decode cX11_line 37 = .ok (.iload_n 2, 1) := by decide +kernel
theorem dX11_line_38 : decode cX11_line 38 = .ok (.aaload, 1) := by decide +kernel
theorem dX11_line_39 : decode cX11_line 39 = .ok (.astore 4, 2) := by decide +kernel
theorem dX11_line_41 : decode cX11_line 41 = .ok (.iload_n 3, 1) := by decide +kernel
theorem dX11_line_42 : decode cX11_line 42 = .ok (.tableswitch 44 0 2 #[26, 32, 38], 26) := by decide +kernel
theorem dX11_line_68 : decode cX11_line 68 = .ok (.aload 4, 2) := by decide +kernel
theorem dX11_line_70 : decode cX11_line 70 = .ok (.getfield 179, 3) := by decide +kernel
theorem dX11_line_73 : decode cX11_line 73 = .ok (.ireturn, 1) := by decide +kernel
theorem dX11_line_74 : decode cX11_line 74 = .ok (.aload 4, 2) := by decide +kernel
theorem dX11_line_76 : decode cX11_line 76 = .ok (.getfield 184, 3) := by decide +kernel
theorem dX11_line_79 : decode cX11_line 79 = .ok (.ireturn, 1) := by decide +kernel
theorem dX11_line_80 : decode cX11_line 80 = .ok (.aload 4, 2) := by decide +kernel
theorem dX11_line_82 : decode cX11_line 82 = .ok (.getfield 187, 3) := by decide +kernel
theorem dX11_line_85 : decode cX11_line 85 = .ok (.ireturn, 1) := by decide +kernel
theorem dX11_line_86 : decode cX11_line 86 = .ok (.aload 4, 2) := by decide +kernel
theorem dX11_line_88 : decode cX11_line 88 = .ok (.getfield 187, 3) := by decide +kernel
theorem dX11_line_91 : decode cX11_line 91 = .ok (.ifCond .ne 11, 3) := by decide +kernel
theorem dX11_line_94 : decode cX11_line 94 = .ok (.aload 4, 2) := by decide +kernel
theorem dX11_line_96 : decode cX11_line 96 = .ok (.getfield 190, 3) := by decide +kernel
theorem dX11_line_99 : decode cX11_line 99 = .ok (.goto 4, 3) := by decide +kernel
theorem dX11_line_102 : decode cX11_line 102 = .ok (.iconst (-1), 1) := by decide +kernel
theorem dX11_line_103 : decode cX11_line 103 = .ok (.ireturn, 1) := by decide +kernel
set_option maxRecDepth 20000 in
theorem ggX11_lines_X11_isTablet : GoodIn wsX11_lines wsX11_isTablet := goodIn_r _ [7, 8, 9, 10, 11, 12, 13, 14, 15, 16, 17, 18, 19, 20, 21, 22, 23, 24] (by decide +kernel) (by decide +kernel)
set_option maxRecDepth 20000 in
theorem gX11_lines_X11_isTablet : GoodIn wsX11_lines (wsV RX11 193 RX11 yX11_isTablet wsX11_isTablet) := goodIn_app (goodIn_of _ (by decide +kernel)) ggX11_lines_X11_isTablet
theorem dX11_lines_0 : decode cX11_lines 0 = .ok (.aload_n 0, 1) := by decide +kernel
theorem dX11_lines_1 : decode cX11_lines 1 = .ok (.iload_n 1, 1) := by decide +kernel
theorem dX11_lines_2 : decode cX11_lines 2 = .ok (.invokevirtual 193, 3) := by decide +kernel
theorem dX11_lines_5 : decode cX11_lines 5 = .ok (.ifCond .eq 15, 3) := by decide +kernel
theorem dX11_lines_8 : decode cX11_lines 8 = .ok (.aload_n 0, 1) := by decide +kernel
theorem dX11_lines_9 : decode cX11_lines 9 = .ok (.getfield 54, 3) := by decide +kernel
theorem dX11_lines_12 : decode cX11_lines 12 = .ok (.iload_n 1, 1) := by decide +kernel
theorem dX11_lines_13 : decode cX11_lines 13 = .ok (.aaload, 1) := by decide +kernel
theorem dX11_lines_14 : decode cX11_lines 14 = .ok (.getfield 196, 3) := by decide +kernel
theorem dX11_lines_17 : decode cX11_lines 17 = .ok (.goto 4, 3) := by decide +kernel
theorem dX11_lines_20 : decode cX11_lines 20 = .ok (.iconst (-1), 1) := by decide +kernel
theorem dX11_lines_21 : decode cX11_lines 21 = .ok (.ireturn, 1) := by decide +kernel
set_option maxRecDepth 20000 in
theorem ggX11_readings_X11_isTablet : GoodIn wsX11_readings wsX11_isTablet := goodIn_r _ [6, 7, 105, 106, 107, 108, 109, 110, 111, 112, 113, 114, 115, 116, 117, 118, 119, 120] (by decide +kernel) (by decide +kernel)
set_option maxRecDepth 20000 in
theorem gX11_readings_X11_isTablet : GoodIn wsX11_readings (wsV RX11 193 RX11 yX11_isTablet wsX11_isTablet) := goodIn_app (goodIn_of _ (by decide +kernel)) ggX11_readings_X11_isTablet
theorem dX11_readings_0 : decode cX11_readings 0 = .ok (.aload_n 0, 1) := by decide +kernel
theorem dX11_readings_1 : decode cX11_readings 1 = .ok (.iload_n 1, 1) := by decide +kernel
theorem dX11_readings_2 : decode cX11_readings 2 = .ok (.invokevirtual 193, 3) := by decide +kernel
theorem dX11_readings_5 : decode cX11_readings 5 = .ok (.ifCond .eq 14, 3) := by decide +kernel
theorem dX11_readings_8 : decode cX11_readings 8 = .ok (.aload_n 0, 1) := by decide +kernel
theorem dX11_readings_9 : decode cX11_readings 9 = .ok (.iload_n 1, 1) := by decide +kernel
theorem dX11_readings_10 : decode cX11_readings 10 = .ok (.invokevirtual 199, 3) := by decide +kernel
theorem dX11_readings_13 : decode cX11_readings 13 = .ok (.getfield 203, 3) := by decide +kernel
theorem dX11_readings_16 : decode cX11_readings 16 = .ok (.goto 4, 3) := by decide +kernel
theorem dX11_readings_19 : decode cX11_readings 19 = .ok (.iconst (-1), 1) := by decide +kernel
theorem dX11_readings_20 : decode cX11_readings 20 = .ok (.ireturn, 1) := by decide +kernel
set_option maxRecDepth 20000 in
theorem ggX11_bound_X11_isLine : GoodIn wsX11_bound wsX11_isLine := goodIn_r _ [9, 10, 11, 12, 13, 14, 8, 15, 16, 119, 120, 121, 122, 123, 124, 125, 126, 127, 128, 129, 130, 131, 132, 133, 134, 112, 113, 114, 115, 116, 117, 118] (by decide +kernel) (by decide +kernel)
set_option maxRecDepth 20000 in
theorem gX11_bound_X11_isLine : GoodIn wsX11_bound (wsV RX11 170 RX11 yX11_isLine wsX11_isLine) := goodIn_app (goodIn_of _ (by decide +kernel)) ggX11_bound_X11_isLine
theorem dX11_bound_0 : decode cX11_bound 0 = .ok (.aload_n 0, 1) := by decide +kernel
theorem dX11_bound_1 : decode cX11_bound 1 = .ok (.iload_n 1, 1) := by decide +kernel
theorem dX11_bound_2 : decode cX11_bound 2 = .ok (.iload_n 2, 1) := by decide +kernel
theorem dX11_bound_3 : decode cX11_bound 3 = .ok (.invokevirtual 170, 3) := by decide +kernel
theorem dX11_bound_6 : decode cX11_bound 6 = .ok (.ifCond .ne 13, 3) := by decide +kernel
theorem dX11_bound_9 : decode cX11_bound 9 = .ok (.new 135, 3) := by decide +kernel
theorem dX11_bound_12 : decode cX11_bound 12 = .ok (.dup, 1) := by decide +kernel
theorem dX11_bound_13 : decode cX11_bound 13 = .ok (.ldc 206, 2) := by decide +kernel
theorem dX11_bound_15 : decode cX11_bound 15 = .ok (.invokespecial 139, 3) := by decide +kernel
theorem dX11_bound_18 : decode cX11_bound 18 = .ok (.athrow, 1) := by decide +kernel
theorem dX11_bound_19 : decode cX11_bound 19 = .ok (.aload_n 0, 1) := by decide +kernel
theorem dX11_bound_20 : decode cX11_bound 20 = .ok (.iload_n 1, 1) := by decide +kernel
theorem dX11_bound_21 : decode cX11_bound 21 = .ok (.invokevirtual 199, 3) := by decide +kernel
theorem dX11_bound_24 : decode cX11_bound 24 = .ok (.astore 4, 2) := by decide +kernel
theorem dX11_bound_26 : decode cX11_bound 26 = .ok (.aload 4, 2) := by decide +kernel
theorem dX11_bound_28 : decode cX11_bound 28 = .ok (.getfield 203, 3) := by decide +kernel
theorem dX11_bound_31 : decode cX11_bound 31 = .ok (.ifCond .ne 7, 3) := by decide +kernel
theorem dX11_bound_34 : decode cX11_bound 34 = .ok (.iconst (-1), 1) := by decide +kernel
theorem dX11_bound_35 : decode cX11_bound 35 = .ok (.goto 14, 3) := by decide +kernel
theorem dX11_bound_38 : decode cX11_bound 38 = .ok (.aload 4, 2) := by decide +kernel
theorem dX11_bound_40 : decode cX11_bound 40 = .ok (.getfield 175, 3) := by decide +kernel
theorem dX11_bound_43 : decode cX11_bound 43 = .ok (.iload_n 2, 1) := by decide +kernel
theorem dX11_bound_44 : decode cX11_bound 44 = .ok (.aaload, 1) := by decide +kernel
theorem dX11_bound_45 : decode cX11_bound 45 = .ok (.iload_n 3, 1) := by decide +kernel
theorem dX11_bound_46 : decode cX11_bound 46 = .ok (.invokevirtual 208, 3) := by decide +kernel
theorem dX11_bound_49 : decode cX11_bound 49 = .ok (.ireturn, 1) := by decide +kernel
set_option maxRecDepth 20000 in
theorem ggX11_digit_X11_isTablet : GoodIn wsX11_digit wsX11_isTablet := goodIn_r _ [12, 13, 103, 104, 105, 106, 107, 108, 109, 110, 111, 112, 113, 114, 115, 116, 117, 118] (by decide +kernel) (by decide +kernel)
set_option maxRecDepth 20000 in
theorem gX11_digit_X11_isTablet : GoodIn wsX11_digit (wsV RX11 193 RX11 yX11_isTablet wsX11_isTablet) := goodIn_app (goodIn_of _ (by decide +kernel)) ggX11_digit_X11_isTablet
theorem dX11_digit_0 : decode cX11_digit 0 = .ok (.aload_n 0, 1) := by decide +kernel
theorem dX11_digit_1 : decode cX11_digit 1 = .ok (.iload_n 1, 1) := by decide +kernel
theorem dX11_digit_2 : decode cX11_digit 2 = .ok (.invokevirtual 193, 3) := by decide +kernel
theorem dX11_digit_5 : decode cX11_digit 5 = .ok (.ifCond .eq 20, 3) := by decide +kernel
theorem dX11_digit_8 : decode cX11_digit 8 = .ok (.iload_n 2, 1) := by decide +kernel
theorem dX11_digit_9 : decode cX11_digit 9 = .ok (.ifCond .lt 16, 3) := by decide +kernel
theorem dX11_digit_12 : decode cX11_digit 12 = .ok (.iload_n 2, 1) := by decide +kernel
theorem dX11_digit_13 : decode cX11_digit 13 = .ok (.aload_n 0, 1) := by decide +kernel
theorem dX11_digit_14 : decode cX11_digit 14 = .ok (.getfield 54, 3) := by decide +kernel
theorem dX11_digit_17 : decode cX11_digit 17 = .ok (.iload_n 1, 1) := by decide +kernel
theorem dX11_digit_18 : decode cX11_digit 18 = .ok (.aaload, 1) := by decide +kernel
theorem dX11_digit_19 : decode cX11_digit 19 = .ok (.getfield 212, 3) := by decide +kernel
theorem dX11_digit_22 : decode cX11_digit 22 = .ok (.if_icmp .lt 13, 3) := by decide +kernel
theorem dX11_digit_25 : decode cX11_digit 25 = .ok (.new 135, 3) := by decide +kernel
theorem dX11_digit_28 : decode cX11_digit 28 = .ok (.dup, 1) := by decide +kernel
theorem dX11_digit_29 : decode cX11_digit 29 = .ok (.ldc 213, 2) := by decide +kernel
theorem dX11_digit_31 : decode cX11_digit 31 = .ok (.invokespecial 139, 3) := by decide +kernel
theorem dX11_digit_34 : decode cX11_digit 34 = .ok (.athrow, 1) := by decide +kernel
theorem dX11_digit_35 : decode cX11_digit 35 = .ok (.aload_n 0, 1) := by decide +kernel
theorem dX11_digit_36 : decode cX11_digit 36 = .ok (.iload_n 1, 1) := by decide +kernel
theorem dX11_digit_37 : decode cX11_digit 37 = .ok (.invokevirtual 199, 3) := by decide +kernel
theorem dX11_digit_40 : decode cX11_digit 40 = .ok (.astore_n 3, 1) := by decide +kernel
theorem dX11_digit_41 : decode cX11_digit 41 = .ok (.aload_n 3, 1) := by decide +kernel
theorem dX11_digit_42 : decode cX11_digit 42 = .ok (.getfield 203, 3) := by decide +kernel
theorem dX11_digit_45 : decode cX11_digit 45 = .ok (.ifCond .ne 7, 3) := by decide +kernel
theorem dX11_digit_48 : decode cX11_digit 48 = .ok (.iconst (-1), 1) := by decide +kernel
theorem dX11_digit_49 : decode cX11_digit 49 = .ok (.goto 12, 3) := by decide +kernel
theorem dX11_digit_52 : decode cX11_digit 52 = .ok (.aload_n 3, 1) := by decide +kernel
theorem dX11_digit_53 : decode cX11_digit 53 = .ok (.getfield 215, 3) := by decide +kernel
theorem dX11_digit_56 : decode cX11_digit 56 = .ok (.iload_n 2, 1) := by decide +kernel
theorem dX11_digit_57 : decode cX11_digit 57 = .ok (.aaload, 1) := by decide +kernel
theorem dX11_digit_58 : decode cX11_digit 58 = .ok (.getfield 219, 3) := by decide +kernel
theorem dX11_digit_61 : decode cX11_digit 61 = .ok (.ireturn, 1) := by decide +kernel
set_option maxRecDepth 20000 in
theorem ggX11_wrong_X11_isTablet : GoodIn wsX11_wrong wsX11_isTablet := goodIn_r _ [6, 7, 105, 106, 107, 108, 109, 110, 111, 112, 113, 114, 115, 116, 117, 118, 119, 120] (by decide +kernel) (by decide +kernel)
set_option maxRecDepth 20000 in
theorem gX11_wrong_X11_isTablet : GoodIn wsX11_wrong (wsV RX11 193 RX11 yX11_isTablet wsX11_isTablet) := goodIn_app (goodIn_of _ (by decide +kernel)) ggX11_wrong_X11_isTablet
theorem dX11_wrong_0 : decode cX11_wrong 0 = .ok (.aload_n 0, 1) := by decide +kernel
theorem dX11_wrong_1 : decode cX11_wrong 1 = .ok (.iload_n 1, 1) := by decide +kernel
theorem dX11_wrong_2 : decode cX11_wrong 2 = .ok (.invokevirtual 193, 3) := by decide +kernel
theorem dX11_wrong_5 : decode cX11_wrong 5 = .ok (.ifCond .eq 14, 3) := by decide +kernel
theorem dX11_wrong_8 : decode cX11_wrong 8 = .ok (.aload_n 0, 1) := by decide +kernel
theorem dX11_wrong_9 : decode cX11_wrong 9 = .ok (.iload_n 1, 1) := by decide +kernel
theorem dX11_wrong_10 : decode cX11_wrong 10 = .ok (.invokevirtual 199, 3) := by decide +kernel
theorem dX11_wrong_13 : decode cX11_wrong 13 = .ok (.getfield 224, 3) := by decide +kernel
theorem dX11_wrong_16 : decode cX11_wrong 16 = .ok (.goto 4, 3) := by decide +kernel
theorem dX11_wrong_19 : decode cX11_wrong 19 = .ok (.iconst (-1), 1) := by decide +kernel
theorem dX11_wrong_20 : decode cX11_wrong 20 = .ok (.ireturn, 1) := by decide +kernel
set_option maxRecDepth 20000 in
theorem ggX11_fragment_X11_isEdge : GoodIn wsX11_fragment wsX11_isEdge := goodIn_r _ [8, 9] (by decide +kernel) (by decide +kernel)
set_option maxRecDepth 20000 in
theorem gX11_fragment_X11_isEdge : GoodIn wsX11_fragment (va_wsS RX11 227 yX11_isEdge wsX11_isEdge) := goodIn_app (goodIn_of _ (by decide +kernel)) ggX11_fragment_X11_isEdge
set_option maxRecDepth 20000 in
theorem ggX11_fragment_X0_take : GoodIn wsX11_fragment wsX0_take := goodIn_r _ [14, 15, 16, 17, 18, 19, 20, 21, 22, 23, 24, 25, 26, 27, 28, 29, 30, 31, 32, 33, 34, 54, 55, 56, 57, 52, 53] (by decide +kernel) (by decide +kernel)
set_option maxRecDepth 20000 in
theorem gX11_fragment_X0_take : GoodIn wsX11_fragment (wsV RX11 230 RX0 yX0_take wsX0_take) := goodIn_app (goodIn_of _ (by decide +kernel)) ggX11_fragment_X0_take
set_option maxRecDepth 20000 in
theorem ggX11_fragment_X7_clear : GoodIn wsX11_fragment wsX7_clear := goodIn_r _ [24, 25, 52, 53] (by decide +kernel) (by decide +kernel)
set_option maxRecDepth 20000 in
theorem gX11_fragment_X7_clear : GoodIn wsX11_fragment (wsV RX11 110 RX7 yX7_clear wsX7_clear) := goodIn_app (goodIn_of _ (by decide +kernel)) ggX11_fragment_X7_clear
theorem dX11_fragment_0 : decode cX11_fragment 0 = .ok (.aload_n 0, 1) := by decide +kernel
theorem dX11_fragment_1 : decode cX11_fragment 1 = .ok (.getfield 94, 3) := by decide +kernel
theorem dX11_fragment_4 : decode cX11_fragment 4 = .ok (.bipush 12, 2) := by decide +kernel
theorem dX11_fragment_6 : decode cX11_fragment 6 = .ok (.if_icmp .ge 34, 3) := by decide +kernel
theorem dX11_fragment_9 : decode cX11_fragment 9 = .ok (.iload_n 1, 1) := by decide +kernel
theorem dX11_fragment_10 : decode cX11_fragment 10 = .ok (.invokestatic 227, 3) := by decide +kernel
theorem dX11_fragment_13 : decode cX11_fragment 13 = .ok (.ifCond .eq 27, 3) := by decide +kernel
theorem dX11_fragment_16 : decode cX11_fragment 16 = .ok (.iload_n 2, 1) := by decide +kernel
theorem dX11_fragment_17 : decode cX11_fragment 17 = .ok (.invokestatic 227, 3) := by decide +kernel
theorem dX11_fragment_20 : decode cX11_fragment 20 = .ok (.ifCond .eq 20, 3) := by decide +kernel
theorem dX11_fragment_23 : decode cX11_fragment 23 = .ok (.aload_n 0, 1) := by decide +kernel
theorem dX11_fragment_24 : decode cX11_fragment 24 = .ok (.getfield 14, 3) := by decide +kernel
theorem dX11_fragment_27 : decode cX11_fragment 27 = .ok (.getfield 100, 3) := by decide +kernel
theorem dX11_fragment_30 : decode cX11_fragment 30 = .ok (.sipush 200, 3) := by decide +kernel
theorem dX11_fragment_33 : decode cX11_fragment 33 = .ok (.if_icmp .gt 7, 3) := by decide +kernel
theorem dX11_fragment_36 : decode cX11_fragment 36 = .ok (.iconst 1, 1) := by decide +kernel
theorem dX11_fragment_37 : decode cX11_fragment 37 = .ok (.goto 4, 3) := by decide +kernel
theorem dX11_fragment_40 : decode cX11_fragment 40 = .ok (.iconst 0, 1) := by decide +kernel
theorem dX11_fragment_41 : decode cX11_fragment 41 = .ok (.istore_n 3, 1) := by decide +kernel
theorem dX11_fragment_42 : decode cX11_fragment 42 = .ok (.iload_n 3, 1) := by decide +kernel
theorem dX11_fragment_43 : decode cX11_fragment 43 = .ok (.ifCond .eq 31, 3) := by decide +kernel
theorem dX11_fragment_46 : decode cX11_fragment 46 = .ok (.aload_n 0, 1) := by decide +kernel
theorem dX11_fragment_47 : decode cX11_fragment 47 = .ok (.getfield 65, 3) := by decide +kernel
theorem dX11_fragment_50 : decode cX11_fragment 50 = .ok (.aload_n 0, 1) := by decide +kernel
theorem dX11_fragment_51 : decode cX11_fragment 51 = .ok (.getfield 94, 3) := by decide +kernel
theorem dX11_fragment_54 : decode cX11_fragment 54 = .ok (.aaload, 1) := by decide +kernel
theorem dX11_fragment_55 : decode cX11_fragment 55 = .ok (.aload_n 0, 1) := by decide +kernel
theorem dX11_fragment_56 : decode cX11_fragment 56 = .ok (.getfield 14, 3) := by decide +kernel
theorem dX11_fragment_59 : decode cX11_fragment 59 = .ok (.iload_n 1, 1) := by decide +kernel
theorem dX11_fragment_60 : decode cX11_fragment 60 = .ok (.iload_n 2, 1) := by decide +kernel
theorem dX11_fragment_61 : decode cX11_fragment 61 = .ok (.invokevirtual 230, 3) := by decide +kernel
theorem dX11_fragment_64 : decode cX11_fragment 64 = .ok (.aload_n 0, 1) := by decide +kernel
theorem dX11_fragment_65 : decode cX11_fragment 65 = .ok (.dup, 1) := by decide +kernel
theorem dX11_fragment_66 : decode cX11_fragment 66 = .ok (.getfield 94, 3) := by decide +kernel
theorem dX11_fragment_69 : decode cX11_fragment 69 = .ok (.iconst 1, 1) := by decide +kernel
theorem dX11_fragment_70 : decode cX11_fragment 70 = .ok (.iadd, 1) := by decide +kernel
theorem dX11_fragment_71 : decode cX11_fragment 71 = .ok (.putfield 94, 3) := by decide +kernel
theorem dX11_fragment_74 : decode cX11_fragment 74 = .ok (.aload_n 0, 1) := by decide +kernel
theorem dX11_fragment_75 : decode cX11_fragment 75 = .ok (.getfield 14, 3) := by decide +kernel
theorem dX11_fragment_78 : decode cX11_fragment 78 = .ok (.invokevirtual 110, 3) := by decide +kernel
theorem dX11_fragment_81 : decode cX11_fragment 81 = .ok (.iload_n 3, 1) := by decide +kernel
theorem dX11_fragment_82 : decode cX11_fragment 82 = .ok (.ifCond .eq 12, 3) := by decide +kernel
theorem dX11_fragment_85 : decode cX11_fragment 85 = .ok (.aload_n 0, 1) := by decide +kernel
theorem dX11_fragment_86 : decode cX11_fragment 86 = .ok (.getfield 94, 3) := by decide +kernel
theorem dX11_fragment_89 : decode cX11_fragment 89 = .ok (.iconst 1, 1) := by decide +kernel
theorem dX11_fragment_90 : decode cX11_fragment 90 = .ok (.isub, 1) := by decide +kernel
theorem dX11_fragment_91 : decode cX11_fragment 91 = .ok (.goto 4, 3) := by decide +kernel
theorem dX11_fragment_94 : decode cX11_fragment 94 = .ok (.iconst (-1), 1) := by decide +kernel
theorem dX11_fragment_95 : decode cX11_fragment 95 = .ok (.ireturn, 1) := by decide +kernel
set_option maxRecDepth 20000 in
theorem ggX11_rows_X11_isFragment : GoodIn wsX11_rows wsX11_isFragment := goodIn_r _ [7, 8, 9, 10, 11, 12, 13, 14, 15, 16, 17, 18, 19, 20, 21, 22, 23, 24] (by decide +kernel) (by decide +kernel)
set_option maxRecDepth 20000 in
theorem gX11_rows_X11_isFragment : GoodIn wsX11_rows (wsV RX11 233 RX11 yX11_isFragment wsX11_isFragment) := goodIn_app (goodIn_of _ (by decide +kernel)) ggX11_rows_X11_isFragment
theorem dX11_rows_0 : decode cX11_rows 0 = .ok (.aload_n 0, 1) := by decide +kernel
theorem dX11_rows_1 : decode cX11_rows 1 = .ok (.iload_n 1, 1) := by decide +kernel
theorem dX11_rows_2 : decode cX11_rows 2 = .ok (.invokevirtual 233, 3) := by decide +kernel
theorem dX11_rows_5 : decode cX11_rows 5 = .ok (.ifCond .eq 15, 3) := by decide +kernel
theorem dX11_rows_8 : decode cX11_rows 8 = .ok (.aload_n 0, 1) := by decide +kernel
theorem dX11_rows_9 : decode cX11_rows 9 = .ok (.getfield 65, 3) := by decide +kernel
theorem dX11_rows_12 : decode cX11_rows 12 = .ok (.iload_n 1, 1) := by decide +kernel
theorem dX11_rows_13 : decode cX11_rows 13 = .ok (.aaload, 1) := by decide +kernel
theorem dX11_rows_14 : decode cX11_rows 14 = .ok (.getfield 236, 3) := by decide +kernel
theorem dX11_rows_17 : decode cX11_rows 17 = .ok (.goto 4, 3) := by decide +kernel
theorem dX11_rows_20 : decode cX11_rows 20 = .ok (.iconst (-1), 1) := by decide +kernel
theorem dX11_rows_21 : decode cX11_rows 21 = .ok (.ireturn, 1) := by decide +kernel
set_option maxRecDepth 20000 in
theorem ggX11_join_X11_isFragment : GoodIn wsX11_join wsX11_isFragment := goodIn_r _ [5, 6, 322, 323, 324, 325, 326, 327, 328, 329, 330, 331, 332, 333, 334, 335, 336, 337] (by decide +kernel) (by decide +kernel)
set_option maxRecDepth 20000 in
theorem gX11_join_X11_isFragment : GoodIn wsX11_join (wsV RX11 233 RX11 yX11_isFragment wsX11_isFragment) := goodIn_app (goodIn_of _ (by decide +kernel)) ggX11_join_X11_isFragment
theorem dX11_join_0 : decode cX11_join 0 = .ok (.aload_n 0, 1) := by decide +kernel
theorem dX11_join_1 : decode cX11_join 1 = .ok (.iload_n 1, 1) := by decide +kernel
theorem dX11_join_2 : decode cX11_join 2 = .ok (.invokevirtual 233, 3) := by decide +kernel
theorem dX11_join_5 : decode cX11_join 5 = .ok (.ifCond .eq 16, 3) := by decide +kernel
theorem dX11_join_8 : decode cX11_join 8 = .ok (.aload_n 0, 1) := by decide +kernel
theorem dX11_join_9 : decode cX11_join 9 = .ok (.iload_n 2, 1) := by decide +kernel
theorem dX11_join_10 : decode cX11_join 10 = .ok (.invokevirtual 233, 3) := by decide +kernel
theorem dX11_join_13 : decode cX11_join 13 = .ok (.ifCond .eq 8, 3) := by decide +kernel
theorem dX11_join_16 : decode cX11_join 16 = .ok (.iload_n 1, 1) := by decide +kernel
theorem dX11_join_17 : decode cX11_join 17 = .ok (.iload_n 2, 1) := by decide +kernel
theorem dX11_join_18 : decode cX11_join 18 = .ok (.if_icmp .ne 5, 3) := by decide +kernel
theorem dX11_join_21 : decode cX11_join 21 = .ok (.iconst (-1), 1) := by decide +kernel
theorem dX11_join_22 : decode cX11_join 22 = .ok (.ireturn, 1) := by decide +kernel
theorem dX11_join_23 : decode cX11_join 23 = .ok (.aload_n 0, 1) := by decide +kernel
theorem dX11_join_24 : decode cX11_join 24 = .ok (.iload_n 1, 1) := by decide +kernel
theorem dX11_join_25 : decode cX11_join 25 = .ok (.iload_n 2, 1) := by decide +kernel
theorem dX11_join_26 : decode cX11_join 26 = .ok (.invokevirtual 239, 3) := by decide +kernel
theorem dX11_join_29 : decode cX11_join 29 = .ok (.ireturn, 1) := by decide +kernel
set_option maxRecDepth 20000 in
theorem ggX11_match_X3_pairUp : GoodIn wsX11_match wsX3_pairUp := goodIn_r _ [330, 331, 91, 5, 92, 332, 333, 334, 335, 324, 336, 337, 338, 339, 340, 341, 342, 343, 344, 345, 346, 347, 326, 348, 4, 6, 349, 350, 351, 352, 369, 370, 371, 372, 373] (by decide +kernel) (by decide +kernel)
set_option maxRecDepth 20000 in
theorem gX11_match_X3_pairUp : GoodIn wsX11_match (wsV RX11 251 RX3 yX3_pairUp wsX3_pairUp) := goodIn_app (goodIn_of _ (by decide +kernel)) ggX11_match_X3_pairUp
theorem dX11_match_0 : decode cX11_match 0 = .ok (.iconst 0, 1) := by decide +kernel
theorem dX11_match_1 : decode cX11_match 1 = .ok (.istore_n 1, 1) := by decide +kernel
theorem dX11_match_2 : decode cX11_match 2 = .ok (.iload_n 1, 1) := by decide +kernel
theorem dX11_match_3 : decode cX11_match 3 = .ok (.aload_n 0, 1) := by decide +kernel
theorem dX11_match_4 : decode cX11_match 4 = .ok (.getfield 94, 3) := by decide +kernel
theorem dX11_match_7 : decode cX11_match 7 = .ok (.if_icmp .ge 51, 3) := by decide +kernel
theorem dX11_match_10 : decode cX11_match 10 = .ok (.iload_n 1, 1) := by decide +kernel
theorem dX11_match_11 : decode cX11_match 11 = .ok (.iconst 1, 1) := by decide +kernel
theorem dX11_match_12 : decode cX11_match 12 = .ok (.iadd, 1) := by decide +kernel
theorem dX11_match_13 : decode cX11_match 13 = .ok (.istore_n 2, 1) := by decide +kernel
theorem dX11_match_14 : decode cX11_match 14 = .ok (.iload_n 2, 1) := by decide +kernel
theorem dX11_match_15 : decode cX11_match 15 = .ok (.aload_n 0, 1) := by decide +kernel
theorem dX11_match_16 : decode cX11_match 16 = .ok (.getfield 94, 3) := by decide +kernel
theorem dX11_match_19 : decode cX11_match 19 = .ok (.if_icmp .ge 33, 3) := by decide +kernel
theorem dX11_match_22 : decode cX11_match 22 = .ok (.aload_n 0, 1) := by decide +kernel
theorem dX11_match_23 : decode cX11_match 23 = .ok (.getfield 48, 3) := by decide +kernel
theorem dX11_match_26 : decode cX11_match 26 = .ok (.iload_n 1, 1) := by decide +kernel
theorem dX11_match_27 : decode cX11_match 27 = .ok (.iload_n 2, 1) := by decide +kernel
theorem dX11_match_28 : decode cX11_match 28 = .ok (.aload_n 0, 1) := by decide +kernel
theorem dX11_match_29 : decode cX11_match 29 = .ok (.iload_n 1, 1) := by decide +kernel
theorem dX11_match_30 : decode cX11_match 30 = .ok (.iload_n 2, 1) := by decide +kernel
theorem dX11_match_31 : decode cX11_match 31 = .ok (.invokevirtual 239, 3) := by decide +kernel
theorem dX11_match_34 : decode cX11_match 34 = .ok (.aload_n 0, 1) := by decide +kernel
theorem dX11_match_35 : decode cX11_match 35 = .ok (.iload_n 2, 1) := by decide +kernel
theorem dX11_match_36 : decode cX11_match 36 = .ok (.iload_n 1, 1) := by decide +kernel
theorem dX11_match_37 : decode cX11_match 37 = .ok (.invokevirtual 239, 3) := by decide +kernel
theorem dX11_match_40 : decode cX11_match 40 = .ok (.invokestatic 242, 3) := by decide +kernel
theorem dX11_match_43 : decode cX11_match 43 = .ok (.invokevirtual 247, 3) := by decide +kernel
theorem dX11_match_46 : decode cX11_match 46 = .ok (.iinc 2 1, 3) := by decide +kernel
theorem dX11_match_49 : decode cX11_match 49 = .ok (.goto (-35), 3) := by decide +kernel
theorem dX11_match_52 : decode cX11_match 52 = .ok (.iinc 1 1, 3) := by decide +kernel
theorem dX11_match_55 : decode cX11_match 55 = .ok (.goto (-53), 3) := by decide +kernel
theorem dX11_match_58 : decode cX11_match 58 = .ok (.aload_n 0, 1) := by decide +kernel
theorem dX11_match_59 : decode cX11_match 59 = .ok (.getfield 48, 3) := by decide +kernel
theorem dX11_match_62 : decode cX11_match 62 = .ok (.aload_n 0, 1) := by decide +kernel
theorem dX11_match_63 : decode cX11_match 63 = .ok (.getfield 94, 3) := by decide +kernel
theorem dX11_match_66 : decode cX11_match 66 = .ok (.invokevirtual 251, 3) := by decide +kernel
theorem dX11_match_69 : decode cX11_match 69 = .ok (.aload_n 0, 1) := by decide +kernel
theorem dX11_match_70 : decode cX11_match 70 = .ok (.getfield 48, 3) := by decide +kernel
theorem dX11_match_73 : decode cX11_match 73 = .ok (.getfield 254, 3) := by decide +kernel
theorem dX11_match_76 : decode cX11_match 76 = .ok (.ireturn, 1) := by decide +kernel
set_option maxRecDepth 20000 in
theorem ggX11_matched_X11_isFragment : GoodIn wsX11_matched wsX11_isFragment := goodIn_r _ [7, 8, 9, 10, 11, 12, 13, 14, 15, 16, 17, 18, 19, 20, 21, 22, 23, 24] (by decide +kernel) (by decide +kernel)
set_option maxRecDepth 20000 in
theorem gX11_matched_X11_isFragment : GoodIn wsX11_matched (wsV RX11 233 RX11 yX11_isFragment wsX11_isFragment) := goodIn_app (goodIn_of _ (by decide +kernel)) ggX11_matched_X11_isFragment
theorem dX11_matched_0 : decode cX11_matched 0 = .ok (.aload_n 0, 1) := by decide +kernel
theorem dX11_matched_1 : decode cX11_matched 1 = .ok (.iload_n 1, 1) := by decide +kernel
theorem dX11_matched_2 : decode cX11_matched 2 = .ok (.invokevirtual 233, 3) := by decide +kernel
theorem dX11_matched_5 : decode cX11_matched 5 = .ok (.ifCond .eq 15, 3) := by decide +kernel
theorem dX11_matched_8 : decode cX11_matched 8 = .ok (.aload_n 0, 1) := by decide +kernel
theorem dX11_matched_9 : decode cX11_matched 9 = .ok (.getfield 48, 3) := by decide +kernel
theorem dX11_matched_12 : decode cX11_matched 12 = .ok (.getfield 257, 3) := by decide +kernel
theorem dX11_matched_15 : decode cX11_matched 15 = .ok (.iload_n 1, 1) := by decide +kernel
theorem dX11_matched_16 : decode cX11_matched 16 = .ok (.iaload, 1) := by decide +kernel
theorem dX11_matched_17 : decode cX11_matched 17 = .ok (.goto 4, 3) := by decide +kernel
theorem dX11_matched_20 : decode cX11_matched 20 = .ok (.iconst (-1), 1) := by decide +kernel
theorem dX11_matched_21 : decode cX11_matched 21 = .ok (.ireturn, 1) := by decide +kernel
theorem dX11_count_0 : decode cX11_count 0 = .ok (.iload_n 1, 1) := by decide +kernel
theorem dX11_count_1 : decode cX11_count 1 = .ok (.tableswitch 81 0 5 #[39, 47, 52, 57, 65, 73], 39) := by decide +kernel
theorem dX11_count_40 : decode cX11_count 40 = .ok (.aload_n 0, 1) := by decide +kernel
theorem dX11_count_41 : decode cX11_count 41 = .ok (.getfield 76, 3) := by decide +kernel
theorem dX11_count_44 : decode cX11_count 44 = .ok (.getfield 128, 3) := by decide +kernel
theorem dX11_count_47 : decode cX11_count 47 = .ok (.ireturn, 1) := by decide +kernel
theorem dX11_count_48 : decode cX11_count 48 = .ok (.aload_n 0, 1) := by decide +kernel
theorem dX11_count_49 : decode cX11_count 49 = .ok (.getfield 90, 3) := by decide +kernel
theorem dX11_count_52 : decode cX11_count 52 = .ok (.ireturn, 1) := by decide +kernel
theorem dX11_count_53 : decode cX11_count 53 = .ok (.aload_n 0, 1) := by decide +kernel
theorem dX11_count_54 : decode cX11_count 54 = .ok (.getfield 94, 3) := by decide +kernel
theorem dX11_count_57 : decode cX11_count 57 = .ok (.ireturn, 1) := by decide +kernel
theorem dX11_count_58 : decode cX11_count 58 = .ok (.aload_n 0, 1) := by decide +kernel
theorem dX11_count_59 : decode cX11_count 59 = .ok (.getfield 48, 3) := by decide +kernel
theorem dX11_count_62 : decode cX11_count 62 = .ok (.getfield 260, 3) := by decide +kernel
theorem dX11_count_65 : decode cX11_count 65 = .ok (.ireturn, 1) := by decide +kernel
theorem dX11_count_66 : decode cX11_count 66 = .ok (.aload_n 0, 1) := by decide +kernel
theorem dX11_count_67 : decode cX11_count 67 = .ok (.getfield 14, 3) := by decide +kernel
theorem dX11_count_70 : decode cX11_count 70 = .ok (.getfield 100, 3) := by decide +kernel
theorem dX11_count_73 : decode cX11_count 73 = .ok (.ireturn, 1) := by decide +kernel
theorem dX11_count_74 : decode cX11_count 74 = .ok (.aload_n 0, 1) := by decide +kernel
theorem dX11_count_75 : decode cX11_count 75 = .ok (.getfield 18, 3) := by decide +kernel
theorem dX11_count_78 : decode cX11_count 78 = .ok (.getfield 100, 3) := by decide +kernel
theorem dX11_count_81 : decode cX11_count 81 = .ok (.ireturn, 1) := by decide +kernel
theorem dX11_count_82 : decode cX11_count 82 = .ok (.iconst (-1), 1) := by decide +kernel
theorem dX11_count_83 : decode cX11_count 83 = .ok (.ireturn, 1) := by decide +kernel
theorem dX11_isSystem_0 : decode cX11_isSystem 0 = .ok (.iload_n 1, 1) := by decide +kernel
theorem dX11_isSystem_1 : decode cX11_isSystem 1 = .ok (.ifCond .lt 18, 3) := by decide +kernel
theorem dX11_isSystem_4 : decode cX11_isSystem 4 = .ok (.iload_n 1, 1) := by decide +kernel
theorem dX11_isSystem_5 : decode cX11_isSystem 5 = .ok (.aload_n 0, 1) := by decide +kernel
theorem dX11_isSystem_6 : decode cX11_isSystem 6 = .ok (.getfield 76, 3) := by decide +kernel
theorem dX11_isSystem_9 : decode cX11_isSystem 9 = .ok (.getfield 128, 3) := by decide +kernel
theorem dX11_isSystem_12 : decode cX11_isSystem 12 = .ok (.if_icmp .ge 7, 3) := by decide +kernel
theorem dX11_isSystem_15 : decode cX11_isSystem 15 = .ok (.iconst 1, 1) := by decide +kernel
theorem dX11_isSystem_16 : decode cX11_isSystem 16 = .ok (.goto 4, 3) := by decide +kernel
theorem dX11_isSystem_19 : decode cX11_isSystem 19 = .ok (.iconst 0, 1) := by decide +kernel
theorem dX11_isSystem_20 : decode cX11_isSystem 20 = .ok (.ireturn, 1) := by decide +kernel
theorem dX11_isTablet_0 : decode cX11_isTablet 0 = .ok (.iload_n 1, 1) := by decide +kernel
theorem dX11_isTablet_1 : decode cX11_isTablet 1 = .ok (.ifCond .lt 15, 3) := by decide +kernel
theorem dX11_isTablet_4 : decode cX11_isTablet 4 = .ok (.iload_n 1, 1) := by decide +kernel
theorem dX11_isTablet_5 : decode cX11_isTablet 5 = .ok (.aload_n 0, 1) := by decide +kernel
theorem dX11_isTablet_6 : decode cX11_isTablet 6 = .ok (.getfield 90, 3) := by decide +kernel
theorem dX11_isTablet_9 : decode cX11_isTablet 9 = .ok (.if_icmp .ge 7, 3) := by decide +kernel
theorem dX11_isTablet_12 : decode cX11_isTablet 12 = .ok (.iconst 1, 1) := by decide +kernel
theorem dX11_isTablet_13 : decode cX11_isTablet 13 = .ok (.goto 4, 3) := by decide +kernel
theorem dX11_isTablet_16 : decode cX11_isTablet 16 = .ok (.iconst 0, 1) := by decide +kernel
theorem dX11_isTablet_17 : decode cX11_isTablet 17 = .ok (.ireturn, 1) := by decide +kernel
set_option maxRecDepth 20000 in
theorem ggX11_isLine_X11_isTablet : GoodIn wsX11_isLine wsX11_isTablet := goodIn_r _ [7, 8, 9, 10, 11, 12, 13, 14, 15, 16, 17, 18, 19, 20, 21, 22, 23, 24] (by decide +kernel) (by decide +kernel)
set_option maxRecDepth 20000 in
theorem gX11_isLine_X11_isTablet : GoodIn wsX11_isLine (wsV RX11 193 RX11 yX11_isTablet wsX11_isTablet) := goodIn_app (goodIn_of _ (by decide +kernel)) ggX11_isLine_X11_isTablet
theorem dX11_isLine_0 : decode cX11_isLine 0 = .ok (.aload_n 0, 1) := by decide +kernel
theorem dX11_isLine_1 : decode cX11_isLine 1 = .ok (.iload_n 1, 1) := by decide +kernel
theorem dX11_isLine_2 : decode cX11_isLine 2 = .ok (.invokevirtual 193, 3) := by decide +kernel
theorem dX11_isLine_5 : decode cX11_isLine 5 = .ok (.ifCond .eq 24, 3) := by decide +kernel
theorem dX11_isLine_8 : decode cX11_isLine 8 = .ok (.iload_n 2, 1) := by decide +kernel
theorem dX11_isLine_9 : decode cX11_isLine 9 = .ok (.ifCond .lt 20, 3) := by decide +kernel
theorem dX11_isLine_12 : decode cX11_isLine 12 = .ok (.iload_n 2, 1) := by decide +kernel
theorem dX11_isLine_13 : decode cX11_isLine 13 = .ok (.aload_n 0, 1) := by decide +kernel
theorem dX11_isLine_14 : decode cX11_isLine 14 = .ok (.getfield 54, 3) := by decide +kernel
theorem dX11_isLine_17 : decode cX11_isLine 17 = .ok (.iload_n 1, 1) := by decide +kernel
theorem dX11_isLine_18 : decode cX11_isLine 18 = .ok (.aaload, 1) := by decide +kernel
theorem dX11_isLine_19 : decode cX11_isLine 19 = .ok (.getfield 196, 3) := by decide +kernel
theorem dX11_isLine_22 : decode cX11_isLine 22 = .ok (.if_icmp .ge 7, 3) := by decide +kernel
theorem dX11_isLine_25 : decode cX11_isLine 25 = .ok (.iconst 1, 1) := by decide +kernel
theorem dX11_isLine_26 : decode cX11_isLine 26 = .ok (.goto 4, 3) := by decide +kernel
theorem dX11_isLine_29 : decode cX11_isLine 29 = .ok (.iconst 0, 1) := by decide +kernel
theorem dX11_isLine_30 : decode cX11_isLine 30 = .ok (.ireturn, 1) := by decide +kernel
theorem dX11_isFragment_0 : decode cX11_isFragment 0 = .ok (.iload_n 1, 1) := by decide +kernel
theorem dX11_isFragment_1 : decode cX11_isFragment 1 = .ok (.ifCond .lt 15, 3) := by decide +kernel
theorem dX11_isFragment_4 : decode cX11_isFragment 4 = .ok (.iload_n 1, 1) := by decide +kernel
theorem dX11_isFragment_5 : decode cX11_isFragment 5 = .ok (.aload_n 0, 1) := by decide +kernel
theorem dX11_isFragment_6 : decode cX11_isFragment 6 = .ok (.getfield 94, 3) := by decide +kernel
theorem dX11_isFragment_9 : decode cX11_isFragment 9 = .ok (.if_icmp .ge 7, 3) := by decide +kernel
theorem dX11_isFragment_12 : decode cX11_isFragment 12 = .ok (.iconst 1, 1) := by decide +kernel
theorem dX11_isFragment_13 : decode cX11_isFragment 13 = .ok (.goto 4, 3) := by decide +kernel
theorem dX11_isFragment_16 : decode cX11_isFragment 16 = .ok (.iconst 0, 1) := by decide +kernel
theorem dX11_isFragment_17 : decode cX11_isFragment 17 = .ok (.ireturn, 1) := by decide +kernel
theorem dX11_isEdge_0 : decode cX11_isEdge 0 = .ok (.iload_n 0, 1) := by decide +kernel
theorem dX11_isEdge_1 : decode cX11_isEdge 1 = .ok (.ifCond .lt 14, 3) := by decide +kernel
theorem dX11_isEdge_4 : decode cX11_isEdge 4 = .ok (.iload_n 0, 1) := by decide +kernel
theorem dX11_isEdge_5 : decode cX11_isEdge 5 = .ok (.ldc_w 263, 3) := by decide +kernel
theorem dX11_isEdge_8 : decode cX11_isEdge 8 = .ok (.if_icmp .gt 7, 3) := by decide +kernel
theorem dX11_isEdge_11 : decode cX11_isEdge 11 = .ok (.iconst 1, 1) := by decide +kernel
theorem dX11_isEdge_12 : decode cX11_isEdge 12 = .ok (.goto 4, 3) := by decide +kernel
theorem dX11_isEdge_15 : decode cX11_isEdge 15 = .ok (.iconst 0, 1) := by decide +kernel
theorem dX11_isEdge_16 : decode cX11_isEdge 16 = .ok (.ireturn, 1) := by decide +kernel
theorem dJ7_fill_d0a16_0 : decode cJ7_fill_d0a16 0 = .ok (.iconst 0, 1) := by decide +kernel
theorem dJ7_fill_d0a16_1 : decode cJ7_fill_d0a16 1 = .ok (.istore_n 3, 1) := by decide +kernel
theorem dJ7_fill_d0a16_2 : decode cJ7_fill_d0a16 2 = .ok (.aload_n 0, 1) := by decide +kernel
theorem dJ7_fill_d0a16_3 : decode cJ7_fill_d0a16 3 = .ok (.arraylength, 1) := by decide +kernel
theorem dJ7_fill_d0a16_4 : decode cJ7_fill_d0a16 4 = .ok (.istore 4, 2) := by decide +kernel
theorem dJ7_fill_d0a16_6 : decode cJ7_fill_d0a16 6 = .ok (.iload_n 3, 1) := by decide +kernel
theorem dJ7_fill_d0a16_7 : decode cJ7_fill_d0a16 7 = .ok (.iload 4, 2) := by decide +kernel
theorem dJ7_fill_d0a16_9 : decode cJ7_fill_d0a16 9 = .ok (.if_icmp .ge 13, 3) := by decide +kernel
theorem dJ7_fill_d0a16_12 : decode cJ7_fill_d0a16 12 = .ok (.aload_n 0, 1) := by decide +kernel
theorem dJ7_fill_d0a16_13 : decode cJ7_fill_d0a16 13 = .ok (.iload_n 3, 1) := by decide +kernel
theorem dJ7_fill_d0a16_14 : decode cJ7_fill_d0a16 14 = .ok (.lload_n 1, 1) := by decide +kernel
theorem dJ7_fill_d0a16_15 : decode cJ7_fill_d0a16 15 = .ok (.lastore, 1) := by decide +kernel
theorem dJ7_fill_d0a16_16 : decode cJ7_fill_d0a16 16 = .ok (.iinc 3 1, 3) := by decide +kernel
theorem dJ7_fill_d0a16_19 : decode cJ7_fill_d0a16 19 = .ok (.goto (-13), 3) := by decide +kernel
theorem dJ7_fill_d0a16_22 : decode cJ7_fill_d0a16 22 = .ok (.return_, 1) := by decide +kernel
theorem dJ7_fill_53178_0 : decode cJ7_fill_53178 0 = .ok (.iconst 0, 1) := by decide +kernel
theorem dJ7_fill_53178_1 : decode cJ7_fill_53178 1 = .ok (.istore_n 2, 1) := by decide +kernel
theorem dJ7_fill_53178_2 : decode cJ7_fill_53178 2 = .ok (.aload_n 0, 1) := by decide +kernel
theorem dJ7_fill_53178_3 : decode cJ7_fill_53178 3 = .ok (.arraylength, 1) := by decide +kernel
theorem dJ7_fill_53178_4 : decode cJ7_fill_53178 4 = .ok (.istore_n 3, 1) := by decide +kernel
theorem dJ7_fill_53178_5 : decode cJ7_fill_53178 5 = .ok (.iload_n 2, 1) := by decide +kernel
theorem dJ7_fill_53178_6 : decode cJ7_fill_53178 6 = .ok (.iload_n 3, 1) := by decide +kernel
theorem dJ7_fill_53178_7 : decode cJ7_fill_53178 7 = .ok (.if_icmp .ge 13, 3) := by decide +kernel
theorem dJ7_fill_53178_10 : decode cJ7_fill_53178 10 = .ok (.aload_n 0, 1) := by decide +kernel
theorem dJ7_fill_53178_11 : decode cJ7_fill_53178 11 = .ok (.iload_n 2, 1) := by decide +kernel
theorem dJ7_fill_53178_12 : decode cJ7_fill_53178 12 = .ok (.iload_n 1, 1) := by decide +kernel
theorem dJ7_fill_53178_13 : decode cJ7_fill_53178 13 = .ok (.iastore, 1) := by decide +kernel
theorem dJ7_fill_53178_14 : decode cJ7_fill_53178 14 = .ok (.iinc 2 1, 3) := by decide +kernel
theorem dJ7_fill_53178_17 : decode cJ7_fill_53178 17 = .ok (.goto (-12), 3) := by decide +kernel
theorem dJ7_fill_53178_20 : decode cJ7_fill_53178 20 = .ok (.return_, 1) := by decide +kernel
