theorem dX12_init_0 : decode cX12_init 0 = .ok (.aload_n 0, 1) := by decide +kernel
theorem dX12_init_1 : decode cX12_init 1 = .ok (.invokespecial 1, 3) := by decide +kernel
theorem dX12_init_4 : decode cX12_init 4 = .ok (.aload_n 0, 1) := by decide +kernel
theorem dX12_init_5 : decode cX12_init 5 = .ok (.sipush 440, 3) := by decide +kernel
theorem dX12_init_8 : decode cX12_init 8 = .ok (.newarray .int, 2) := by decide +kernel
theorem dX12_init_10 : decode cX12_init 10 = .ok (.putfield 7, 3) := by decide +kernel
theorem dX12_init_13 : decode cX12_init 13 = .ok (.aload_n 0, 1) := by decide +kernel
theorem dX12_init_14 : decode cX12_init 14 = .ok (.sipush 500, 3) := by decide +kernel
theorem dX12_init_17 : decode cX12_init 17 = .ok (.newarray .int, 2) := by decide +kernel
theorem dX12_init_19 : decode cX12_init 19 = .ok (.putfield 13, 3) := by decide +kernel
theorem dX12_init_22 : decode cX12_init 22 = .ok (.aload_n 0, 1) := by decide +kernel
theorem dX12_init_23 : decode cX12_init 23 = .ok (.bipush 6, 2) := by decide +kernel
theorem dX12_init_25 : decode cX12_init 25 = .ok (.newarray .long, 2) := by decide +kernel
theorem dX12_init_27 : decode cX12_init 27 = .ok (.putfield 16, 3) := by decide +kernel
theorem dX12_init_30 : decode cX12_init 30 = .ok (.aload_n 0, 1) := by decide +kernel
theorem dX12_init_31 : decode cX12_init 31 = .ok (.bipush 30, 2) := by decide +kernel
theorem dX12_init_33 : decode cX12_init 33 = .ok (.newarray .long, 2) := by decide +kernel
theorem dX12_init_35 : decode cX12_init 35 = .ok (.putfield 20, 3) := by decide +kernel
theorem dX12_init_38 : decode cX12_init 38 = .ok (.aload_n 0, 1) := by decide +kernel
theorem dX12_init_39 : decode cX12_init 39 = .ok (.bipush 6, 2) := by decide +kernel
theorem dX12_init_41 : decode cX12_init 41 = .ok (.newarray .int, 2) := by decide +kernel
theorem dX12_init_43 : decode cX12_init 43 = .ok (.putfield 23, 3) := by decide +kernel
theorem dX12_init_46 : decode cX12_init 46 = .ok (.aload_n 0, 1) := by decide +kernel
theorem dX12_init_47 : decode cX12_init 47 = .ok (.bipush 30, 2) := by decide +kernel
theorem dX12_init_49 : decode cX12_init 49 = .ok (.newarray .int, 2) := by decide +kernel
theorem dX12_init_51 : decode cX12_init 51 = .ok (.putfield 26, 3) := by decide +kernel
theorem dX12_init_54 : decode cX12_init 54 = .ok (.aload_n 0, 1) := by decide +kernel
theorem dX12_init_55 : decode cX12_init 55 = .ok (.bipush 80, 2) := by decide +kernel
theorem dX12_init_57 : decode cX12_init 57 = .ok (.newarray .int, 2) := by decide +kernel
theorem dX12_init_59 : decode cX12_init 59 = .ok (.putfield 29, 3) := by decide +kernel
theorem dX12_init_62 : decode cX12_init 62 = .ok (.aload_n 0, 1) := by decide +kernel
theorem dX12_init_63 : decode cX12_init 63 = .ok (.bipush 9, 2) := by decide +kernel
theorem dX12_init_65 : decode cX12_init 65 = .ok (.newarray .int, 2) := by decide +kernel
theorem dX12_init_67 : decode cX12_init 67 = .ok (.putfield 32, 3) := by decide +kernel
theorem dX12_init_70 : decode cX12_init 70 = .ok (.aload_n 0, 1) := by decide +kernel
theorem dX12_init_71 : decode cX12_init 71 = .ok (.bipush 108, 2) := by decide +kernel
theorem dX12_init_73 : decode cX12_init 73 = .ok (.newarray .int, 2) := by decide +kernel
theorem dX12_init_75 : decode cX12_init 75 = .ok (.putfield 35, 3) := by decide +kernel
theorem dX12_init_78 : decode cX12_init 78 = .ok (.aload_n 0, 1) := by decide +kernel
theorem dX12_init_79 : decode cX12_init 79 = .ok (.bipush 108, 2) := by decide +kernel
theorem dX12_init_81 : decode cX12_init 81 = .ok (.newarray .int, 2) := by decide +kernel
theorem dX12_init_83 : decode cX12_init 83 = .ok (.putfield 38, 3) := by decide +kernel
theorem dX12_init_86 : decode cX12_init 86 = .ok (.aload_n 0, 1) := by decide +kernel
theorem dX12_init_87 : decode cX12_init 87 = .ok (.bipush 108, 2) := by decide +kernel
theorem dX12_init_89 : decode cX12_init 89 = .ok (.newarray .int, 2) := by decide +kernel
theorem dX12_init_91 : decode cX12_init 91 = .ok (.putfield 41, 3) := by decide +kernel
theorem dX12_init_94 : decode cX12_init 94 = .ok (.aload_n 0, 1) := by decide +kernel
theorem dX12_init_95 : decode cX12_init 95 = .ok (.bipush 9, 2) := by decide +kernel
theorem dX12_init_97 : decode cX12_init 97 = .ok (.newarray .int, 2) := by decide +kernel
theorem dX12_init_99 : decode cX12_init 99 = .ok (.putfield 44, 3) := by decide +kernel
theorem dX12_init_102 : decode cX12_init 102 = .ok (.aload_n 0, 1) := by decide +kernel
theorem dX12_init_103 : decode cX12_init 103 = .ok (.sipush 540, 3) := by decide +kernel
theorem dX12_init_106 : decode cX12_init 106 = .ok (.newarray .int, 2) := by decide +kernel
theorem dX12_init_108 : decode cX12_init 108 = .ok (.putfield 47, 3) := by decide +kernel
theorem dX12_init_111 : decode cX12_init 111 = .ok (.aload_n 0, 1) := by decide +kernel
theorem dX12_init_112 : decode cX12_init 112 = .ok (.sipush 540, 3) := by decide +kernel
theorem dX12_init_115 : decode cX12_init 115 = .ok (.newarray .int, 2) := by decide +kernel
theorem dX12_init_117 : decode cX12_init 117 = .ok (.putfield 50, 3) := by decide +kernel
theorem dX12_init_120 : decode cX12_init 120 = .ok (.aload_n 0, 1) := by decide +kernel
theorem dX12_init_121 : decode cX12_init 121 = .ok (.sipush 540, 3) := by decide +kernel
theorem dX12_init_124 : decode cX12_init 124 = .ok (.newarray .int, 2) := by decide +kernel
theorem dX12_init_126 : decode cX12_init 126 = .ok (.putfield 53, 3) := by decide +kernel
theorem dX12_init_129 : decode cX12_init 129 = .ok (.aload_n 0, 1) := by decide +kernel
theorem dX12_init_130 : decode cX12_init 130 = .ok (.iconst 4, 1) := by decide +kernel
theorem dX12_init_131 : decode cX12_init 131 = .ok (.newarray .int, 2) := by decide +kernel
theorem dX12_init_133 : decode cX12_init 133 = .ok (.putfield 56, 3) := by decide +kernel
theorem dX12_init_136 : decode cX12_init 136 = .ok (.aload_n 0, 1) := by decide +kernel
theorem dX12_init_137 : decode cX12_init 137 = .ok (.bipush 12, 2) := by decide +kernel
theorem dX12_init_139 : decode cX12_init 139 = .ok (.newarray .long, 2) := by decide +kernel
theorem dX12_init_141 : decode cX12_init 141 = .ok (.putfield 59, 3) := by decide +kernel
theorem dX12_init_144 : decode cX12_init 144 = .ok (.aload_n 0, 1) := by decide +kernel
theorem dX12_init_145 : decode cX12_init 145 = .ok (.sipush 2400, 3) := by decide +kernel
theorem dX12_init_148 : decode cX12_init 148 = .ok (.newarray .int, 2) := by decide +kernel
theorem dX12_init_150 : decode cX12_init 150 = .ok (.putfield 62, 3) := by decide +kernel
theorem dX12_init_153 : decode cX12_init 153 = .ok (.aload_n 0, 1) := by decide +kernel
theorem dX12_init_154 : decode cX12_init 154 = .ok (.bipush 12, 2) := by decide +kernel
theorem dX12_init_156 : decode cX12_init 156 = .ok (.newarray .int, 2) := by decide +kernel
theorem dX12_init_158 : decode cX12_init 158 = .ok (.putfield 65, 3) := by decide +kernel
theorem dX12_init_161 : decode cX12_init 161 = .ok (.aload_n 0, 1) := by decide +kernel
theorem dX12_init_162 : decode cX12_init 162 = .ok (.bipush 12, 2) := by decide +kernel
theorem dX12_init_164 : decode cX12_init 164 = .ok (.newarray .int, 2) := by decide +kernel
theorem dX12_init_166 : decode cX12_init 166 = .ok (.putfield 68, 3) := by decide +kernel
theorem dX12_init_169 : decode cX12_init 169 = .ok (.aload_n 0, 1) := by decide +kernel
theorem dX12_init_170 : decode cX12_init 170 = .ok (.bipush 12, 2) := by decide +kernel
theorem dX12_init_172 : decode cX12_init 172 = .ok (.newarray .int, 2) := by decide +kernel
theorem dX12_init_174 : decode cX12_init 174 = .ok (.putfield 71, 3) := by decide +kernel
theorem dX12_init_177 : decode cX12_init 177 = .ok (.aload_n 0, 1) := by decide +kernel
theorem dX12_init_178 : decode cX12_init 178 = .ok (.bipush 12, 2) := by decide +kernel
theorem dX12_init_180 : decode cX12_init 180 = .ok (.newarray .int, 2) := by decide +kernel
theorem dX12_init_182 : decode cX12_init 182 = .ok (.putfield 74, 3) := by decide +kernel
theorem dX12_init_185 : decode cX12_init 185 = .ok (.aload_n 0, 1) := by decide +kernel
theorem dX12_init_186 : decode cX12_init 186 = .ok (.sipush 144, 3) := by decide +kernel
theorem dX12_init_189 : decode cX12_init 189 = .ok (.newarray .int, 2) := by decide +kernel
theorem dX12_init_191 : decode cX12_init 191 = .ok (.putfield 77, 3) := by decide +kernel
theorem dX12_init_194 : decode cX12_init 194 = .ok (.aload_n 0, 1) := by decide +kernel
theorem dX12_init_195 : decode cX12_init 195 = .ok (.sipush 4096, 3) := by decide +kernel
theorem dX12_init_198 : decode cX12_init 198 = .ok (.newarray .int, 2) := by decide +kernel
theorem dX12_init_200 : decode cX12_init 200 = .ok (.putfield 80, 3) := by decide +kernel
theorem dX12_init_203 : decode cX12_init 203 = .ok (.aload_n 0, 1) := by decide +kernel
theorem dX12_init_204 : decode cX12_init 204 = .ok (.bipush 12, 2) := by decide +kernel
theorem dX12_init_206 : decode cX12_init 206 = .ok (.newarray .int, 2) := by decide +kernel
theorem dX12_init_208 : decode cX12_init 208 = .ok (.putfield 83, 3) := by decide +kernel
theorem dX12_init_211 : decode cX12_init 211 = .ok (.return_, 1) := by decide +kernel
theorem dX12_thrown_0 : decode cX12_thrown 0 = .ok (.aload_n 0, 1) := by decide +kernel
theorem dX12_thrown_1 : decode cX12_thrown 1 = .ok (.getfield 86, 3) := by decide +kernel
theorem dX12_thrown_4 : decode cX12_thrown 4 = .ok (.ireturn, 1) := by decide +kernel
theorem dX12_refuse_0 : decode cX12_refuse 0 = .ok (.aload_n 0, 1) := by decide +kernel
theorem dX12_refuse_1 : decode cX12_refuse 1 = .ok (.iconst 1, 1) := by decide +kernel
theorem dX12_refuse_2 : decode cX12_refuse 2 = .ok (.putfield 86, 3) := by decide +kernel
theorem dX12_refuse_5 : decode cX12_refuse 5 = .ok (.iconst 0, 1) := by decide +kernel
theorem dX12_refuse_6 : decode cX12_refuse 6 = .ok (.ireturn, 1) := by decide +kernel
theorem dX12_come_0 : decode cX12_come 0 = .ok (.bipush 24, 2) := by decide +kernel
theorem dX12_come_2 : decode cX12_come 2 = .ok (.istore_n 2, 1) := by decide +kernel
theorem dX12_come_3 : decode cX12_come 3 = .ok (.iload_n 2, 1) := by decide +kernel
theorem dX12_come_4 : decode cX12_come 4 = .ok (.ifCond .lt 35, 3) := by decide +kernel
theorem dX12_come_7 : decode cX12_come 7 = .ok (.aload_n 0, 1) := by decide +kernel
theorem dX12_come_8 : decode cX12_come 8 = .ok (.getfield 7, 3) := by decide +kernel
theorem dX12_come_11 : decode cX12_come 11 = .ok (.aload_n 0, 1) := by decide +kernel
theorem dX12_come_12 : decode cX12_come 12 = .ok (.getfield 90, 3) := by decide +kernel
theorem dX12_come_15 : decode cX12_come 15 = .ok (.iload_n 1, 1) := by decide +kernel
theorem dX12_come_16 : decode cX12_come 16 = .ok (.iload_n 2, 1) := by decide +kernel
theorem dX12_come_17 : decode cX12_come 17 = .ok (.iushr, 1) := by decide +kernel
theorem dX12_come_18 : decode cX12_come 18 = .ok (.sipush 255, 3) := by decide +kernel
theorem dX12_come_21 : decode cX12_come 21 = .ok (.iand, 1) := by decide +kernel
theorem dX12_come_22 : decode cX12_come 22 = .ok (.iastore, 1) := by decide +kernel
theorem dX12_come_23 : decode cX12_come 23 = .ok (.aload_n 0, 1) := by decide +kernel
theorem dX12_come_24 : decode cX12_come 24 = .ok (.dup, 1) := by decide +kernel
theorem dX12_come_25 : decode cX12_come 25 = .ok (.getfield 90, 3) := by decide +kernel
theorem dX12_come_28 : decode cX12_come 28 = .ok (.iconst 1, 1) := by decide +kernel
theorem dX12_come_29 : decode cX12_come 29 = .ok (.iadd, 1) := by decide +kernel
theorem dX12_come_30 : decode cX12_come 30 = .ok (.putfield 90, 3) := by decide +kernel
theorem dX12_come_33 : decode cX12_come 33 = .ok (.iinc 2 (-8), 3) := by decide +kernel
theorem dX12_come_36 : decode cX12_come 36 = .ok (.goto (-33), 3) := by decide +kernel
theorem dX12_come_39 : decode cX12_come 39 = .ok (.return_, 1) := by decide +kernel
set_option maxRecDepth 20000 in
theorem ggX12_feed_X12_come : GoodIn wsX12_feed wsX12_come := goodIn_r _ [7, 8, 2, 9, 10, 11, 12, 13, 14, 15, 16, 17, 18, 19, 20, 21, 22, 23, 24, 25, 26, 27, 28, 29, 30, 31, 32, 33, 34, 35, 36, 37, 38, 39, 40, 41, 42, 43, 44, 45, 46, 47, 48, 49, 50, 51, 52, 53, 54, 55, 56, 57, 58, 59] (by decide +kernel) (by decide +kernel)
set_option maxRecDepth 20000 in
theorem gX12_feed_X12_come : GoodIn wsX12_feed (wsV RX12 93 RX12 yX12_come wsX12_come) := goodIn_app (goodIn_of _ (by decide +kernel)) ggX12_feed_X12_come
theorem dX12_feed_0 : decode cX12_feed 0 = .ok (.aload_n 0, 1) := by decide +kernel
theorem dX12_feed_1 : decode cX12_feed 1 = .ok (.iconst 0, 1) := by decide +kernel
theorem dX12_feed_2 : decode cX12_feed 2 = .ok (.putfield 86, 3) := by decide +kernel
theorem dX12_feed_5 : decode cX12_feed 5 = .ok (.aload_n 0, 1) := by decide +kernel
theorem dX12_feed_6 : decode cX12_feed 6 = .ok (.getfield 90, 3) := by decide +kernel
theorem dX12_feed_9 : decode cX12_feed 9 = .ok (.bipush 20, 2) := by decide +kernel
theorem dX12_feed_11 : decode cX12_feed 11 = .ok (.iadd, 1) := by decide +kernel
theorem dX12_feed_12 : decode cX12_feed 12 = .ok (.sipush 440, 3) := by decide +kernel
theorem dX12_feed_15 : decode cX12_feed 15 = .ok (.if_icmp .le 5, 3) := by decide +kernel
theorem dX12_feed_18 : decode cX12_feed 18 = .ok (.iconst (-1), 1) := by decide +kernel
theorem dX12_feed_19 : decode cX12_feed 19 = .ok (.ireturn, 1) := by decide +kernel
theorem dX12_feed_20 : decode cX12_feed 20 = .ok (.aload_n 0, 1) := by decide +kernel
theorem dX12_feed_21 : decode cX12_feed 21 = .ok (.iload_n 1, 1) := by decide +kernel
theorem dX12_feed_22 : decode cX12_feed 22 = .ok (.invokevirtual 93, 3) := by decide +kernel
theorem dX12_feed_25 : decode cX12_feed 25 = .ok (.aload_n 0, 1) := by decide +kernel
theorem dX12_feed_26 : decode cX12_feed 26 = .ok (.iload_n 2, 1) := by decide +kernel
theorem dX12_feed_27 : decode cX12_feed 27 = .ok (.invokevirtual 93, 3) := by decide +kernel
theorem dX12_feed_30 : decode cX12_feed 30 = .ok (.aload_n 0, 1) := by decide +kernel
theorem dX12_feed_31 : decode cX12_feed 31 = .ok (.iload_n 3, 1) := by decide +kernel
theorem dX12_feed_32 : decode cX12_feed 32 = .ok (.invokevirtual 93, 3) := by decide +kernel
theorem dX12_feed_35 : decode cX12_feed 35 = .ok (.aload_n 0, 1) := by decide +kernel
theorem dX12_feed_36 : decode cX12_feed 36 = .ok (.iload 4, 2) := by decide +kernel
theorem dX12_feed_38 : decode cX12_feed 38 = .ok (.invokevirtual 93, 3) := by decide +kernel
theorem dX12_feed_41 : decode cX12_feed 41 = .ok (.aload_n 0, 1) := by decide +kernel
theorem dX12_feed_42 : decode cX12_feed 42 = .ok (.iload 5, 2) := by decide +kernel
theorem dX12_feed_44 : decode cX12_feed 44 = .ok (.invokevirtual 93, 3) := by decide +kernel
theorem dX12_feed_47 : decode cX12_feed 47 = .ok (.aload_n 0, 1) := by decide +kernel
theorem dX12_feed_48 : decode cX12_feed 48 = .ok (.getfield 90, 3) := by decide +kernel
theorem dX12_feed_51 : decode cX12_feed 51 = .ok (.ireturn, 1) := by decide +kernel
theorem dX12_end_0 : decode cX12_end 0 = .ok (.aload_n 0, 1) := by decide +kernel
theorem dX12_end_1 : decode cX12_end 1 = .ok (.iconst 0, 1) := by decide +kernel
theorem dX12_end_2 : decode cX12_end 2 = .ok (.putfield 86, 3) := by decide +kernel
theorem dX12_end_5 : decode cX12_end 5 = .ok (.iload_n 1, 1) := by decide +kernel
theorem dX12_end_6 : decode cX12_end 6 = .ok (.ifCond .lt 11, 3) := by decide +kernel
theorem dX12_end_9 : decode cX12_end 9 = .ok (.iload_n 1, 1) := by decide +kernel
theorem dX12_end_10 : decode cX12_end 10 = .ok (.aload_n 0, 1) := by decide +kernel
theorem dX12_end_11 : decode cX12_end 11 = .ok (.getfield 90, 3) := by decide +kernel
theorem dX12_end_14 : decode cX12_end 14 = .ok (.if_icmp .le 5, 3) := by decide +kernel
theorem dX12_end_17 : decode cX12_end 17 = .ok (.iconst 0, 1) := by decide +kernel
theorem dX12_end_18 : decode cX12_end 18 = .ok (.ireturn, 1) := by decide +kernel
theorem dX12_end_19 : decode cX12_end 19 = .ok (.aload_n 0, 1) := by decide +kernel
theorem dX12_end_20 : decode cX12_end 20 = .ok (.iload_n 1, 1) := by decide +kernel
theorem dX12_end_21 : decode cX12_end 21 = .ok (.putfield 90, 3) := by decide +kernel
theorem dX12_end_24 : decode cX12_end 24 = .ok (.iconst 1, 1) := by decide +kernel
theorem dX12_end_25 : decode cX12_end 25 = .ok (.ireturn, 1) := by decide +kernel
theorem dX12_go_0 : decode cX12_go 0 = .ok (.aload_n 0, 1) := by decide +kernel
theorem dX12_go_1 : decode cX12_go 1 = .ok (.getfield 108, 3) := by decide +kernel
theorem dX12_go_4 : decode cX12_go 4 = .ok (.aload_n 0, 1) := by decide +kernel
theorem dX12_go_5 : decode cX12_go 5 = .ok (.getfield 97, 3) := by decide +kernel
theorem dX12_go_8 : decode cX12_go 8 = .ok (.if_icmp .ge 44, 3) := by decide +kernel
theorem dX12_go_11 : decode cX12_go 11 = .ok (.aload_n 0, 1) := by decide +kernel
theorem dX12_go_12 : decode cX12_go 12 = .ok (.getfield 13, 3) := by decide +kernel
theorem dX12_go_15 : decode cX12_go 15 = .ok (.aload_n 0, 1) := by decide +kernel
theorem dX12_go_16 : decode cX12_go 16 = .ok (.getfield 108, 3) := by decide +kernel
theorem dX12_go_19 : decode cX12_go 19 = .ok (.iaload, 1) := by decide +kernel
theorem dX12_go_20 : decode cX12_go 20 = .ok (.bipush 32, 2) := by decide +kernel
theorem dX12_go_22 : decode cX12_go 22 = .ok (.if_icmp .eq 17, 3) := by decide +kernel
theorem dX12_go_25 : decode cX12_go 25 = .ok (.aload_n 0, 1) := by decide +kernel
theorem dX12_go_26 : decode cX12_go 26 = .ok (.getfield 13, 3) := by decide +kernel
theorem dX12_go_29 : decode cX12_go 29 = .ok (.aload_n 0, 1) := by decide +kernel
theorem dX12_go_30 : decode cX12_go 30 = .ok (.getfield 108, 3) := by decide +kernel
theorem dX12_go_33 : decode cX12_go 33 = .ok (.iaload, 1) := by decide +kernel
theorem dX12_go_34 : decode cX12_go 34 = .ok (.bipush 10, 2) := by decide +kernel
theorem dX12_go_36 : decode cX12_go 36 = .ok (.if_icmp .ne 16, 3) := by decide +kernel
theorem dX12_go_39 : decode cX12_go 39 = .ok (.aload_n 0, 1) := by decide +kernel
theorem dX12_go_40 : decode cX12_go 40 = .ok (.dup, 1) := by decide +kernel
theorem dX12_go_41 : decode cX12_go 41 = .ok (.getfield 108, 3) := by decide +kernel
theorem dX12_go_44 : decode cX12_go 44 = .ok (.iconst 1, 1) := by decide +kernel
theorem dX12_go_45 : decode cX12_go 45 = .ok (.iadd, 1) := by decide +kernel
theorem dX12_go_46 : decode cX12_go 46 = .ok (.putfield 108, 3) := by decide +kernel
theorem dX12_go_49 : decode cX12_go 49 = .ok (.goto (-49), 3) := by decide +kernel
theorem dX12_go_52 : decode cX12_go 52 = .ok (.aload_n 0, 1) := by decide +kernel
theorem dX12_go_53 : decode cX12_go 53 = .ok (.aload_n 0, 1) := by decide +kernel
theorem dX12_go_54 : decode cX12_go 54 = .ok (.getfield 108, 3) := by decide +kernel
theorem dX12_go_57 : decode cX12_go 57 = .ok (.putfield 111, 3) := by decide +kernel
theorem dX12_go_60 : decode cX12_go 60 = .ok (.aload_n 0, 1) := by decide +kernel
theorem dX12_go_61 : decode cX12_go 61 = .ok (.getfield 97, 3) := by decide +kernel
theorem dX12_go_64 : decode cX12_go 64 = .ok (.aload_n 0, 1) := by decide +kernel
theorem dX12_go_65 : decode cX12_go 65 = .ok (.getfield 114, 3) := by decide +kernel
theorem dX12_go_68 : decode cX12_go 68 = .ok (.if_icmp .le 28, 3) := by decide +kernel
theorem dX12_go_71 : decode cX12_go 71 = .ok (.aload_n 0, 1) := by decide +kernel
theorem dX12_go_72 : decode cX12_go 72 = .ok (.getfield 111, 3) := by decide +kernel
theorem dX12_go_75 : decode cX12_go 75 = .ok (.aload_n 0, 1) := by decide +kernel
theorem dX12_go_76 : decode cX12_go 76 = .ok (.getfield 114, 3) := by decide +kernel
theorem dX12_go_79 : decode cX12_go 79 = .ok (.if_icmp .lt 17, 3) := by decide +kernel
theorem dX12_go_82 : decode cX12_go 82 = .ok (.aload_n 0, 1) := by decide +kernel
theorem dX12_go_83 : decode cX12_go 83 = .ok (.aload_n 0, 1) := by decide +kernel
theorem dX12_go_84 : decode cX12_go 84 = .ok (.getfield 114, 3) := by decide +kernel
theorem dX12_go_87 : decode cX12_go 87 = .ok (.putfield 111, 3) := by decide +kernel
theorem dX12_go_90 : decode cX12_go 90 = .ok (.aload_n 0, 1) := by decide +kernel
theorem dX12_go_91 : decode cX12_go 91 = .ok (.iconst 1, 1) := by decide +kernel
theorem dX12_go_92 : decode cX12_go 92 = .ok (.putfield 117, 3) := by decide +kernel
theorem dX12_go_95 : decode cX12_go 95 = .ok (.return_, 1) := by decide +kernel
theorem dX12_go_96 : decode cX12_go 96 = .ok (.aload_n 0, 1) := by decide +kernel
theorem dX12_go_97 : decode cX12_go 97 = .ok (.getfield 108, 3) := by decide +kernel
theorem dX12_go_100 : decode cX12_go 100 = .ok (.aload_n 0, 1) := by decide +kernel
theorem dX12_go_101 : decode cX12_go 101 = .ok (.getfield 97, 3) := by decide +kernel
theorem dX12_go_104 : decode cX12_go 104 = .ok (.if_icmp .lt 9, 3) := by decide +kernel
theorem dX12_go_107 : decode cX12_go 107 = .ok (.aload_n 0, 1) := by decide +kernel
theorem dX12_go_108 : decode cX12_go 108 = .ok (.iconst 0, 1) := by decide +kernel
theorem dX12_go_109 : decode cX12_go 109 = .ok (.putfield 117, 3) := by decide +kernel
theorem dX12_go_112 : decode cX12_go 112 = .ok (.return_, 1) := by decide +kernel
theorem dX12_go_113 : decode cX12_go 113 = .ok (.aload_n 0, 1) := by decide +kernel
theorem dX12_go_114 : decode cX12_go 114 = .ok (.getfield 13, 3) := by decide +kernel
theorem dX12_go_117 : decode cX12_go 117 = .ok (.aload_n 0, 1) := by decide +kernel
theorem dX12_go_118 : decode cX12_go 118 = .ok (.getfield 108, 3) := by decide +kernel
theorem dX12_go_121 : decode cX12_go 121 = .ok (.iaload, 1) := by decide +kernel
theorem dX12_go_122 : decode cX12_go 122 = .ok (.istore_n 1, 1) := by decide +kernel
theorem dX12_go_123 : decode cX12_go 123 = .ok (.iload_n 1, 1) := by decide +kernel
theorem dX12_go_124 : decode cX12_go 124 = .ok (.invokestatic 120, 3) := by decide +kernel
theorem dX12_go_127 : decode cX12_go 127 = .ok (.ifCond .ne 48, 3) := by decide +kernel
theorem dX12_go_130 : decode cX12_go 130 = .ok (.aload_n 0, 1) := by decide +kernel
theorem dX12_go_131 : decode cX12_go 131 = .ok (.iload_n 1, 1) := by decide +kernel
theorem dX12_go_132 : decode cX12_go 132 = .ok (.invokevirtual 123, 3) := by decide +kernel
theorem dX12_go_135 : decode cX12_go 135 = .ok (.ifCond .ne 40, 3) := by decide +kernel
theorem dX12_go_138 : decode cX12_go 138 = .ok (.aload_n 0, 1) := by decide +kernel
theorem dX12_go_139 : decode cX12_go 139 = .ok (.iload_n 1, 1) := by decide +kernel
theorem dX12_go_140 : decode cX12_go 140 = .ok (.bipush 58, 2) := by decide +kernel
theorem dX12_go_142 : decode cX12_go 142 = .ok (.if_icmp .eq 9, 3) := by decide +kernel
theorem dX12_go_145 : decode cX12_go 145 = .ok (.iload_n 1, 1) := by decide +kernel
theorem dX12_go_146 : decode cX12_go 146 = .ok (.bipush 59, 2) := by decide +kernel
theorem dX12_go_148 : decode cX12_go 148 = .ok (.if_icmp .ne 7, 3) := by decide +kernel
theorem dX12_go_151 : decode cX12_go 151 = .ok (.iconst 4, 1) := by decide +kernel
theorem dX12_go_152 : decode cX12_go 152 = .ok (.goto 4, 3) := by decide +kernel
theorem dX12_go_155 : decode cX12_go 155 = .ok (.iconst 1, 1) := by decide +kernel
theorem dX12_go_156 : decode cX12_go 156 = .ok (.putfield 117, 3) := by decide +kernel
theorem dX12_go_159 : decode cX12_go 159 = .ok (.aload_n 0, 1) := by decide +kernel
theorem dX12_go_160 : decode cX12_go 160 = .ok (.iload_n 1, 1) := by decide +kernel
theorem dX12_go_161 : decode cX12_go 161 = .ok (.putfield 126, 3) := by decide +kernel
theorem dX12_go_164 : decode cX12_go 164 = .ok (.aload_n 0, 1) := by decide +kernel
theorem dX12_go_165 : decode cX12_go 165 = .ok (.dup, 1) := by decide +kernel
theorem dX12_go_166 : decode cX12_go 166 = .ok (.getfield 108, 3) := by decide +kernel
theorem dX12_go_169 : decode cX12_go 169 = .ok (.iconst 1, 1) := by decide +kernel
theorem dX12_go_170 : decode cX12_go 170 = .ok (.iadd, 1) := by decide +kernel
theorem dX12_go_171 : decode cX12_go 171 = .ok (.putfield 108, 3) := by decide +kernel
theorem dX12_go_174 : decode cX12_go 174 = .ok (.return_, 1) := by decide +kernel
theorem dX12_go_175 : decode cX12_go 175 = .ok (.iload_n 1, 1) := by decide +kernel
theorem dX12_go_176 : decode cX12_go 176 = .ok (.invokestatic 120, 3) := by decide +kernel
theorem dX12_go_179 : decode cX12_go 179 = .ok (.istore_n 2, 1) := by decide +kernel
theorem dX12_go_180 : decode cX12_go 180 = .ok (.iconst 1, 1) := by decide +kernel
theorem dX12_go_181 : decode cX12_go 181 = .ok (.istore_n 3, 1) := by decide +kernel
theorem dX12_go_182 : decode cX12_go 182 = .ok (.aload_n 0, 1) := by decide +kernel
theorem dX12_go_183 : decode cX12_go 183 = .ok (.lconst 0, 1) := by decide +kernel
theorem dX12_go_184 : decode cX12_go 184 = .ok (.putfield 129, 3) := by decide +kernel
theorem dX12_go_187 : decode cX12_go 187 = .ok (.aload_n 0, 1) := by decide +kernel
theorem dX12_go_188 : decode cX12_go 188 = .ok (.aload_n 0, 1) := by decide +kernel
theorem dX12_go_189 : decode cX12_go 189 = .ok (.getfield 108, 3) := by decide +kernel
theorem dX12_go_192 : decode cX12_go 192 = .ok (.invokevirtual 133, 3) := by decide +kernel
theorem dX12_go_195 : decode cX12_go 195 = .ok (.invokestatic 120, 3) := by decide +kernel
theorem dX12_go_198 : decode cX12_go 198 = .ok (.ifCond .ne 18, 3) := by decide +kernel
theorem dX12_go_201 : decode cX12_go 201 = .ok (.aload_n 0, 1) := by decide +kernel
theorem dX12_go_202 : decode cX12_go 202 = .ok (.aload_n 0, 1) := by decide +kernel
theorem dX12_go_203 : decode cX12_go 203 = .ok (.aload_n 0, 1) := by decide +kernel
theorem dX12_go_204 : decode cX12_go 204 = .ok (.getfield 108, 3) := by decide +kernel
theorem dX12_go_207 : decode cX12_go 207 = .ok (.invokevirtual 133, 3) := by decide +kernel
theorem dX12_go_210 : decode cX12_go 210 = .ok (.invokevirtual 123, 3) := by decide +kernel
theorem dX12_go_213 : decode cX12_go 213 = .ok (.ifCond .eq 80, 3) := by decide +kernel
theorem dX12_go_216 : decode cX12_go 216 = .ok (.aload_n 0, 1) := by decide +kernel
theorem dX12_go_217 : decode cX12_go 217 = .ok (.getfield 13, 3) := by decide +kernel
theorem dX12_go_220 : decode cX12_go 220 = .ok (.aload_n 0, 1) := by decide +kernel
theorem dX12_go_221 : decode cX12_go 221 = .ok (.getfield 108, 3) := by decide +kernel
theorem dX12_go_224 : decode cX12_go 224 = .ok (.iaload, 1) := by decide +kernel
theorem dX12_go_225 : decode cX12_go 225 = .ok (.istore 4, 2) := by decide +kernel
theorem dX12_go_227 : decode cX12_go 227 = .ok (.iload_n 3, 1) := by decide +kernel
theorem dX12_go_228 : decode cX12_go 228 = .ok (.ifCond .eq 16, 3) := by decide +kernel
theorem dX12_go_231 : decode cX12_go 231 = .ok (.iload 4, 2) := by decide +kernel
theorem dX12_go_233 : decode cX12_go 233 = .ok (.invokestatic 120, 3) := by decide +kernel
theorem dX12_go_236 : decode cX12_go 236 = .ok (.iload_n 2, 1) := by decide +kernel
theorem dX12_go_237 : decode cX12_go 237 = .ok (.if_icmp .ne 7, 3) := by decide +kernel
theorem dX12_go_240 : decode cX12_go 240 = .ok (.iconst 1, 1) := by decide +kernel
theorem dX12_go_241 : decode cX12_go 241 = .ok (.goto 4, 3) := by decide +kernel
theorem dX12_go_244 : decode cX12_go 244 = .ok (.iconst 0, 1) := by decide +kernel
theorem dX12_go_245 : decode cX12_go 245 = .ok (.istore_n 3, 1) := by decide +kernel
theorem dX12_go_246 : decode cX12_go 246 = .ok (.aload_n 0, 1) := by decide +kernel
theorem dX12_go_247 : decode cX12_go 247 = .ok (.getfield 108, 3) := by decide +kernel
theorem dX12_go_250 : decode cX12_go 250 = .ok (.aload_n 0, 1) := by decide +kernel
theorem dX12_go_251 : decode cX12_go 251 = .ok (.getfield 111, 3) := by decide +kernel
theorem dX12_go_254 : decode cX12_go 254 = .ok (.isub, 1) := by decide +kernel
theorem dX12_go_255 : decode cX12_go 255 = .ok (.bipush 8, 2) := by decide +kernel
theorem dX12_go_257 : decode cX12_go 257 = .ok (.if_icmp .ge 23, 3) := by decide +kernel
theorem dX12_go_260 : decode cX12_go 260 = .ok (.aload_n 0, 1) := by decide +kernel
theorem dX12_go_261 : decode cX12_go 261 = .ok (.ldc2_w 137, 3) := by decide +kernel
theorem dX12_go_264 : decode cX12_go 264 = .ok (.aload_n 0, 1) := by decide +kernel
theorem dX12_go_265 : decode cX12_go 265 = .ok (.getfield 129, 3) := by decide +kernel
theorem dX12_go_268 : decode cX12_go 268 = .ok (.lmul, 1) := by decide +kernel
theorem dX12_go_269 : decode cX12_go 269 = .ok (.iload 4, 2) := by decide +kernel
theorem dX12_go_271 : decode cX12_go 271 = .ok (.i2l, 1) := by decide +kernel
theorem dX12_go_272 : decode cX12_go 272 = .ok (.ladd, 1) := by decide +kernel
theorem dX12_go_273 : decode cX12_go 273 = .ok (.ldc2_w 139, 3) := by decide +kernel
theorem dX12_go_276 : decode cX12_go 276 = .ok (.lsub, 1) := by decide +kernel
theorem dX12_go_277 : decode cX12_go 277 = .ok (.putfield 129, 3) := by decide +kernel
theorem dX12_go_280 : decode cX12_go 280 = .ok (.aload_n 0, 1) := by decide +kernel
theorem dX12_go_281 : decode cX12_go 281 = .ok (.dup, 1) := by decide +kernel
theorem dX12_go_282 : decode cX12_go 282 = .ok (.getfield 108, 3) := by decide +kernel
theorem dX12_go_285 : decode cX12_go 285 = .ok (.iconst 1, 1) := by decide +kernel
theorem dX12_go_286 : decode cX12_go 286 = .ok (.iadd, 1) := by decide +kernel
theorem dX12_go_287 : decode cX12_go 287 = .ok (.putfield 108, 3) := by decide +kernel
theorem dX12_go_290 : decode cX12_go 290 = .ok (.goto (-103), 3) := by decide +kernel
theorem dX12_go_293 : decode cX12_go 293 = .ok (.aload_n 0, 1) := by decide +kernel
theorem dX12_go_294 : decode cX12_go 294 = .ok (.getfield 108, 3) := by decide +kernel
theorem dX12_go_297 : decode cX12_go 297 = .ok (.aload_n 0, 1) := by decide +kernel
theorem dX12_go_298 : decode cX12_go 298 = .ok (.getfield 111, 3) := by decide +kernel
theorem dX12_go_301 : decode cX12_go 301 = .ok (.isub, 1) := by decide +kernel
theorem dX12_go_302 : decode cX12_go 302 = .ok (.istore 4, 2) := by decide +kernel
theorem dX12_go_304 : decode cX12_go 304 = .ok (.aload_n 0, 1) := by decide +kernel
theorem dX12_go_305 : decode cX12_go 305 = .ok (.aload_n 0, 1) := by decide +kernel
theorem dX12_go_306 : decode cX12_go 306 = .ok (.getfield 13, 3) := by decide +kernel
theorem dX12_go_309 : decode cX12_go 309 = .ok (.aload_n 0, 1) := by decide +kernel
theorem dX12_go_310 : decode cX12_go 310 = .ok (.getfield 111, 3) := by decide +kernel
theorem dX12_go_313 : decode cX12_go 313 = .ok (.iaload, 1) := by decide +kernel
theorem dX12_go_314 : decode cX12_go 314 = .ok (.invokestatic 141, 3) := by decide +kernel
theorem dX12_go_317 : decode cX12_go 317 = .ok (.putfield 144, 3) := by decide +kernel
theorem dX12_go_320 : decode cX12_go 320 = .ok (.aload_n 0, 1) := by decide +kernel
theorem dX12_go_321 : decode cX12_go 321 = .ok (.iload 4, 2) := by decide +kernel
theorem dX12_go_323 : decode cX12_go 323 = .ok (.iconst 1, 1) := by decide +kernel
theorem dX12_go_324 : decode cX12_go 324 = .ok (.if_icmp .le 20, 3) := by decide +kernel
theorem dX12_go_327 : decode cX12_go 327 = .ok (.aload_n 0, 1) := by decide +kernel
theorem dX12_go_328 : decode cX12_go 328 = .ok (.getfield 13, 3) := by decide +kernel
theorem dX12_go_331 : decode cX12_go 331 = .ok (.aload_n 0, 1) := by decide +kernel
theorem dX12_go_332 : decode cX12_go 332 = .ok (.getfield 111, 3) := by decide +kernel
theorem dX12_go_335 : decode cX12_go 335 = .ok (.iconst 1, 1) := by decide +kernel
theorem dX12_go_336 : decode cX12_go 336 = .ok (.iadd, 1) := by decide +kernel
theorem dX12_go_337 : decode cX12_go 337 = .ok (.iaload, 1) := by decide +kernel
theorem dX12_go_338 : decode cX12_go 338 = .ok (.invokestatic 141, 3) := by decide +kernel
theorem dX12_go_341 : decode cX12_go 341 = .ok (.goto 4, 3) := by decide +kernel
theorem dX12_go_344 : decode cX12_go 344 = .ok (.iconst (-1), 1) := by decide +kernel
theorem dX12_go_345 : decode cX12_go 345 = .ok (.putfield 147, 3) := by decide +kernel
theorem dX12_go_348 : decode cX12_go 348 = .ok (.aload_n 0, 1) := by decide +kernel
theorem dX12_go_349 : decode cX12_go 349 = .ok (.iload_n 3, 1) := by decide +kernel
theorem dX12_go_350 : decode cX12_go 350 = .ok (.ifCond .eq 18, 3) := by decide +kernel
theorem dX12_go_353 : decode cX12_go 353 = .ok (.iload 4, 2) := by decide +kernel
theorem dX12_go_355 : decode cX12_go 355 = .ok (.iload_n 2, 1) := by decide +kernel
theorem dX12_go_356 : decode cX12_go 356 = .ok (.ifCond .eq 8, 3) := by decide +kernel
theorem dX12_go_359 : decode cX12_go 359 = .ok (.bipush 8, 2) := by decide +kernel
theorem dX12_go_361 : decode cX12_go 361 = .ok (.goto 4, 3) := by decide +kernel
theorem dX12_go_364 : decode cX12_go 364 = .ok (.iconst 2, 1) := by decide +kernel
theorem dX12_go_365 : decode cX12_go 365 = .ok (.if_icmp .le 7, 3) := by decide +kernel
theorem dX12_go_368 : decode cX12_go 368 = .ok (.iconst 1, 1) := by decide +kernel
theorem dX12_go_369 : decode cX12_go 369 = .ok (.goto 12, 3) := by decide +kernel
theorem dX12_go_372 : decode cX12_go 372 = .ok (.iload_n 2, 1) := by decide +kernel
theorem dX12_go_373 : decode cX12_go 373 = .ok (.ifCond .eq 7, 3) := by decide +kernel
theorem dX12_go_376 : decode cX12_go 376 = .ok (.iconst 2, 1) := by decide +kernel
theorem dX12_go_377 : decode cX12_go 377 = .ok (.goto 4, 3) := by decide +kernel
theorem dX12_go_380 : decode cX12_go 380 = .ok (.iconst 3, 1) := by decide +kernel
theorem dX12_go_381 : decode cX12_go 381 = .ok (.putfield 117, 3) := by decide +kernel
theorem dX12_go_384 : decode cX12_go 384 = .ok (.return_, 1) := by decide +kernel
theorem dX12_bad_0 : decode cX12_bad 0 = .ok (.aload_n 0, 1) := by decide +kernel
theorem dX12_bad_1 : decode cX12_bad 1 = .ok (.aload_n 0, 1) := by decide +kernel
theorem dX12_bad_2 : decode cX12_bad 2 = .ok (.getfield 117, 3) := by decide +kernel
theorem dX12_bad_5 : decode cX12_bad 5 = .ok (.iconst 1, 1) := by decide +kernel
theorem dX12_bad_6 : decode cX12_bad 6 = .ok (.if_icmp .ne 7, 3) := by decide +kernel
theorem dX12_bad_9 : decode cX12_bad 9 = .ok (.iconst 1, 1) := by decide +kernel
theorem dX12_bad_10 : decode cX12_bad 10 = .ok (.goto 4, 3) := by decide +kernel
theorem dX12_bad_13 : decode cX12_bad 13 = .ok (.iload_n 1, 1) := by decide +kernel
theorem dX12_bad_14 : decode cX12_bad 14 = .ok (.putfield 150, 3) := by decide +kernel
theorem dX12_bad_17 : decode cX12_bad 17 = .ok (.aload_n 0, 1) := by decide +kernel
theorem dX12_bad_18 : decode cX12_bad 18 = .ok (.aload_n 0, 1) := by decide +kernel
theorem dX12_bad_19 : decode cX12_bad 19 = .ok (.getfield 111, 3) := by decide +kernel
theorem dX12_bad_22 : decode cX12_bad 22 = .ok (.putfield 153, 3) := by decide +kernel
theorem dX12_bad_25 : decode cX12_bad 25 = .ok (.iconst 0, 1) := by decide +kernel
theorem dX12_bad_26 : decode cX12_bad 26 = .ok (.ireturn, 1) := by decide +kernel
theorem dX12_isKey_0 : decode cX12_isKey 0 = .ok (.aload_n 0, 1) := by decide +kernel
theorem dX12_isKey_1 : decode cX12_isKey 1 = .ok (.getfield 117, 3) := by decide +kernel
theorem dX12_isKey_4 : decode cX12_isKey 4 = .ok (.iconst 2, 1) := by decide +kernel
theorem dX12_isKey_5 : decode cX12_isKey 5 = .ok (.if_icmp .ne 16, 3) := by decide +kernel
theorem dX12_isKey_8 : decode cX12_isKey 8 = .ok (.aload_n 0, 1) := by decide +kernel
theorem dX12_isKey_9 : decode cX12_isKey 9 = .ok (.getfield 129, 3) := by decide +kernel
theorem dX12_isKey_12 : decode cX12_isKey 12 = .ok (.lload_n 1, 1) := by decide +kernel
theorem dX12_isKey_13 : decode cX12_isKey 13 = .ok (.lcmp, 1) := by decide +kernel
theorem dX12_isKey_14 : decode cX12_isKey 14 = .ok (.ifCond .ne 7, 3) := by decide +kernel
theorem dX12_isKey_17 : decode cX12_isKey 17 = .ok (.iconst 1, 1) := by decide +kernel
theorem dX12_isKey_18 : decode cX12_isKey 18 = .ok (.goto 4, 3) := by decide +kernel
theorem dX12_isKey_21 : decode cX12_isKey 21 = .ok (.iconst 0, 1) := by decide +kernel
theorem dX12_isKey_22 : decode cX12_isKey 22 = .ok (.ireturn, 1) := by decide +kernel
set_option maxRecDepth 20000 in
theorem ggX12_takes_X12_begins : GoodIn wsX12_takes wsX12_begins := goodIn_r _ [9, 10, 11, 12, 13, 14, 15, 8, 16, 2, 3, 17, 18, 19, 20, 21, 22, 23, 24, 25, 26, 27, 28, 29, 30, 31, 32, 33, 34, 35, 36, 37, 38, 39, 40, 41, 42, 43, 44, 45, 46, 47, 48, 49, 50, 51, 52, 53, 54, 55, 56, 57, 58, 59, 60, 61, 62, 63, 64, 65, 66, 67, 68, 69, 70, 71, 72, 73, 74, 75, 76, 77, 78, 79, 80, 81, 82, 83, 84, 85, 86, 87, 88, 89, 90, 91, 92] (by decide +kernel) (by decide +kernel)
set_option maxRecDepth 20000 in
theorem gX12_takes_X12_begins : GoodIn wsX12_takes (wsV RX12 165 RX12 yX12_begins wsX12_begins) := goodIn_app (goodIn_of _ (by decide +kernel)) ggX12_takes_X12_begins
theorem dX12_takes_0 : decode cX12_takes 0 = .ok (.aload_n 0, 1) := by decide +kernel
theorem dX12_takes_1 : decode cX12_takes 1 = .ok (.aload_n 0, 1) := by decide +kernel
theorem dX12_takes_2 : decode cX12_takes 2 = .ok (.getfield 90, 3) := by decide +kernel
theorem dX12_takes_5 : decode cX12_takes 5 = .ok (.putfield 97, 3) := by decide +kernel
theorem dX12_takes_8 : decode cX12_takes 8 = .ok (.aload_n 0, 1) := by decide +kernel
theorem dX12_takes_9 : decode cX12_takes 9 = .ok (.iconst 0, 1) := by decide +kernel
theorem dX12_takes_10 : decode cX12_takes 10 = .ok (.putfield 90, 3) := by decide +kernel
theorem dX12_takes_13 : decode cX12_takes 13 = .ok (.iconst 0, 1) := by decide +kernel
theorem dX12_takes_14 : decode cX12_takes 14 = .ok (.istore_n 3, 1) := by decide +kernel
theorem dX12_takes_15 : decode cX12_takes 15 = .ok (.iload_n 3, 1) := by decide +kernel
theorem dX12_takes_16 : decode cX12_takes 16 = .ok (.aload_n 0, 1) := by decide +kernel
theorem dX12_takes_17 : decode cX12_takes 17 = .ok (.getfield 97, 3) := by decide +kernel
theorem dX12_takes_20 : decode cX12_takes 20 = .ok (.if_icmp .ge 21, 3) := by decide +kernel
theorem dX12_takes_23 : decode cX12_takes 23 = .ok (.aload_n 0, 1) := by decide +kernel
theorem dX12_takes_24 : decode cX12_takes 24 = .ok (.getfield 13, 3) := by decide +kernel
theorem dX12_takes_27 : decode cX12_takes 27 = .ok (.iload_n 3, 1) := by decide +kernel
theorem dX12_takes_28 : decode cX12_takes 28 = .ok (.aload_n 0, 1) := by decide +kernel
theorem dX12_takes_29 : decode cX12_takes 29 = .ok (.getfield 7, 3) := by decide +kernel
theorem dX12_takes_32 : decode cX12_takes 32 = .ok (.iload_n 3, 1) := by decide +kernel
theorem dX12_takes_33 : decode cX12_takes 33 = .ok (.iaload, 1) := by decide +kernel
theorem dX12_takes_34 : decode cX12_takes 34 = .ok (.iastore, 1) := by decide +kernel
theorem dX12_takes_35 : decode cX12_takes 35 = .ok (.iinc 3 1, 3) := by decide +kernel
theorem dX12_takes_38 : decode cX12_takes 38 = .ok (.goto (-23), 3) := by decide +kernel
theorem dX12_takes_41 : decode cX12_takes 41 = .ok (.aload_n 0, 1) := by decide +kernel
theorem dX12_takes_42 : decode cX12_takes 42 = .ok (.iload_n 1, 1) := by decide +kernel
theorem dX12_takes_43 : decode cX12_takes 43 = .ok (.iload_n 2, 1) := by decide +kernel
theorem dX12_takes_44 : decode cX12_takes 44 = .ok (.invokevirtual 165, 3) := by decide +kernel
theorem dX12_takes_47 : decode cX12_takes 47 = .ok (.return_, 1) := by decide +kernel
set_option maxRecDepth 20000 in
theorem ggX12_begins_X12_go : GoodIn wsX12_begins wsX12_go := goodIn_r _ [8, 3, 9, 10, 11, 1, 12, 13, 14, 15, 16, 17, 18, 19, 20, 7, 21, 22, 23, 24, 25, 2, 26, 27, 28, 29, 30, 31, 32, 33, 34, 35, 36, 37, 38, 39, 40, 41, 42, 43, 44, 45, 46, 47, 48, 49, 50, 51, 52, 53, 54, 55, 56, 57, 58, 59, 60, 61, 62, 63, 64, 65, 66, 67, 68, 69, 70, 71, 72, 73, 74, 75, 76, 77, 78, 79, 80, 81, 82, 83, 84, 85, 86] (by decide +kernel) (by decide +kernel)
set_option maxRecDepth 20000 in
theorem gX12_begins_X12_go : GoodIn wsX12_begins (wsV RX12 169 RX12 yX12_go wsX12_go) := goodIn_app (goodIn_of _ (by decide +kernel)) ggX12_begins_X12_go
theorem dX12_begins_0 : decode cX12_begins 0 = .ok (.aload_n 0, 1) := by decide +kernel
theorem dX12_begins_1 : decode cX12_begins 1 = .ok (.iload_n 1, 1) := by decide +kernel
theorem dX12_begins_2 : decode cX12_begins 2 = .ok (.putfield 114, 3) := by decide +kernel
theorem dX12_begins_5 : decode cX12_begins 5 = .ok (.aload_n 0, 1) := by decide +kernel
theorem dX12_begins_6 : decode cX12_begins 6 = .ok (.iload_n 2, 1) := by decide +kernel
theorem dX12_begins_7 : decode cX12_begins 7 = .ok (.putfield 104, 3) := by decide +kernel
theorem dX12_begins_10 : decode cX12_begins 10 = .ok (.aload_n 0, 1) := by decide +kernel
theorem dX12_begins_11 : decode cX12_begins 11 = .ok (.iconst 0, 1) := by decide +kernel
theorem dX12_begins_12 : decode cX12_begins 12 = .ok (.putfield 108, 3) := by decide +kernel
theorem dX12_begins_15 : decode cX12_begins 15 = .ok (.aload_n 0, 1) := by decide +kernel
theorem dX12_begins_16 : decode cX12_begins 16 = .ok (.invokevirtual 169, 3) := by decide +kernel
theorem dX12_begins_19 : decode cX12_begins 19 = .ok (.return_, 1) := by decide +kernel
set_option maxRecDepth 20000 in
theorem ggX12_systems_X12_takes : GoodIn wsX12_systems wsX12_takes := goodIn_r _ [15, 16, 17, 18, 19, 20, 21, 22, 14, 23, 24, 25, 26, 27, 28, 29, 30, 31, 5, 32, 33, 34, 35, 36, 37, 38, 39, 40, 41, 42, 43, 44, 45, 46, 47, 48, 49, 50, 51, 52, 53, 54, 96, 97, 98, 99, 100, 101, 102, 103, 104, 105, 106, 107, 108, 109, 110, 111, 112, 113, 114, 115, 116, 117, 118, 119, 120, 121, 122, 123, 124, 125, 126, 127, 128, 129, 130, 131, 132, 133, 134, 135, 136, 137, 138, 139, 140, 141, 142, 143, 144, 145, 146] (by decide +kernel) (by decide +kernel)
set_option maxRecDepth 20000 in
theorem gX12_systems_X12_takes : GoodIn wsX12_systems (wsV RX12 191 RX12 yX12_takes wsX12_takes) := goodIn_app (goodIn_of _ (by decide +kernel)) ggX12_systems_X12_takes
set_option maxRecDepth 20000 in
theorem ggX12_systems_X12_isKey : GoodIn wsX12_systems wsX12_isKey := goodIn_r _ [58, 5, 33, 96, 97, 98, 99, 100, 101, 102, 103, 104, 105, 106, 107, 108, 109, 110, 111, 112, 113, 114, 115, 116, 117, 118, 119, 120, 121, 122, 123, 124, 125, 126, 127, 128, 129, 130, 131, 132, 133, 134, 135, 136, 137, 138, 139, 140, 141, 142, 143, 144, 145, 146] (by decide +kernel) (by decide +kernel)
set_option maxRecDepth 20000 in
theorem gX12_systems_X12_isKey : GoodIn wsX12_systems (wsV RX12 194 RX12 yX12_isKey wsX12_isKey) := goodIn_app (goodIn_of _ (by decide +kernel)) ggX12_systems_X12_isKey
set_option maxRecDepth 20000 in
theorem ggX12_systems_X12_bad : GoodIn wsX12_systems wsX12_bad := goodIn_r _ [62, 5, 2, 31, 4, 96, 97, 98, 99, 100, 101, 102, 103, 104, 105, 106, 107, 108, 109, 110, 111, 112, 113, 114, 115, 116, 117, 118, 119, 120, 121, 122, 123, 124, 125, 126, 127, 128, 129, 130, 131, 132, 133, 134, 135, 136, 137, 138, 139, 140, 141, 142, 143, 144, 145, 146] (by decide +kernel) (by decide +kernel)
set_option maxRecDepth 20000 in
theorem gX12_systems_X12_bad : GoodIn wsX12_systems (wsV RX12 176 RX12 yX12_bad wsX12_bad) := goodIn_app (goodIn_of _ (by decide +kernel)) ggX12_systems_X12_bad
set_option maxRecDepth 20000 in
theorem ggX12_systems_X12_go : GoodIn wsX12_systems wsX12_go := goodIn_r _ [30, 26, 17, 18, 31, 24, 5, 32, 33, 34, 35, 36, 37, 38, 39, 14, 40, 41, 42, 43, 44, 25, 45, 46, 47, 48, 49, 50, 51, 52, 53, 54, 96, 97, 98, 99, 100, 101, 102, 103, 104, 105, 106, 107, 108, 109, 110, 111, 112, 113, 114, 115, 116, 117, 118, 119, 120, 121, 122, 123, 124, 125, 126, 127, 128, 129, 130, 131, 132, 133, 134, 135, 136, 137, 138, 139, 140, 141, 142, 143, 144, 145, 146] (by decide +kernel) (by decide +kernel)
set_option maxRecDepth 20000 in
theorem gX12_systems_X12_go : GoodIn wsX12_systems (wsV RX12 169 RX12 yX12_go wsX12_go) := goodIn_app (goodIn_of _ (by decide +kernel)) ggX12_systems_X12_go
theorem dX12_systems_0 : decode cX12_systems 0 = .ok (.aload_n 0, 1) := by decide +kernel
theorem dX12_systems_1 : decode cX12_systems 1 = .ok (.iconst 0, 1) := by decide +kernel
theorem dX12_systems_2 : decode cX12_systems 2 = .ok (.putfield 86, 3) := by decide +kernel
theorem dX12_systems_5 : decode cX12_systems 5 = .ok (.aload_n 0, 1) := by decide +kernel
theorem dX12_systems_6 : decode cX12_systems 6 = .ok (.iconst 0, 1) := by decide +kernel
theorem dX12_systems_7 : decode cX12_systems 7 = .ok (.putfield 150, 3) := by decide +kernel
theorem dX12_systems_10 : decode cX12_systems 10 = .ok (.aload_n 0, 1) := by decide +kernel
theorem dX12_systems_11 : decode cX12_systems 11 = .ok (.sipush 400, 3) := by decide +kernel
theorem dX12_systems_14 : decode cX12_systems 14 = .ok (.iconst 0, 1) := by decide +kernel
theorem dX12_systems_15 : decode cX12_systems 15 = .ok (.invokevirtual 191, 3) := by decide +kernel
theorem dX12_systems_18 : decode cX12_systems 18 = .ok (.iconst 0, 1) := by decide +kernel
theorem dX12_systems_19 : decode cX12_systems 19 = .ok (.istore_n 1, 1) := by decide +kernel
theorem dX12_systems_20 : decode cX12_systems 20 = .ok (.aload_n 0, 1) := by decide +kernel
theorem dX12_systems_21 : decode cX12_systems 21 = .ok (.getstatic 156, 3) := by decide +kernel
theorem dX12_systems_24 : decode cX12_systems 24 = .ok (.invokevirtual 194, 3) := by decide +kernel
theorem dX12_systems_27 : decode cX12_systems 27 = .ok (.ifCond .ne 16, 3) := by decide +kernel
theorem dX12_systems_30 : decode cX12_systems 30 = .ok (.aload_n 0, 1) := by decide +kernel
theorem dX12_systems_31 : decode cX12_systems 31 = .ok (.iconst 1, 1) := by decide +kernel
theorem dX12_systems_32 : decode cX12_systems 32 = .ok (.invokevirtual 176, 3) := by decide +kernel
theorem dX12_systems_35 : decode cX12_systems 35 = .ok (.pop, 1) := by decide +kernel
theorem dX12_systems_36 : decode cX12_systems 36 = .ok (.iconst (-1), 1) := by decide +kernel
theorem dX12_systems_37 : decode cX12_systems 37 = .ok (.aload_n 0, 1) := by decide +kernel
theorem dX12_systems_38 : decode cX12_systems 38 = .ok (.getfield 153, 3) := by decide +kernel
theorem dX12_systems_41 : decode cX12_systems 41 = .ok (.isub, 1) := by decide +kernel
theorem dX12_systems_42 : decode cX12_systems 42 = .ok (.ireturn, 1) := by decide +kernel
theorem dX12_systems_43 : decode cX12_systems 43 = .ok (.iload_n 1, 1) := by decide +kernel
theorem dX12_systems_44 : decode cX12_systems 44 = .ok (.iconst 3, 1) := by decide +kernel
theorem dX12_systems_45 : decode cX12_systems 45 = .ok (.if_icmp .ne 16, 3) := by decide +kernel
theorem dX12_systems_48 : decode cX12_systems 48 = .ok (.aload_n 0, 1) := by decide +kernel
theorem dX12_systems_49 : decode cX12_systems 49 = .ok (.iconst 4, 1) := by decide +kernel
theorem dX12_systems_50 : decode cX12_systems 50 = .ok (.invokevirtual 176, 3) := by decide +kernel
theorem dX12_systems_53 : decode cX12_systems 53 = .ok (.pop, 1) := by decide +kernel
theorem dX12_systems_54 : decode cX12_systems 54 = .ok (.iconst (-1), 1) := by decide +kernel
theorem dX12_systems_55 : decode cX12_systems 55 = .ok (.aload_n 0, 1) := by decide +kernel
theorem dX12_systems_56 : decode cX12_systems 56 = .ok (.getfield 153, 3) := by decide +kernel
theorem dX12_systems_59 : decode cX12_systems 59 = .ok (.isub, 1) := by decide +kernel
theorem dX12_systems_60 : decode cX12_systems 60 = .ok (.ireturn, 1) := by decide +kernel
theorem dX12_systems_61 : decode cX12_systems 61 = .ok (.aload_n 0, 1) := by decide +kernel
theorem dX12_systems_62 : decode cX12_systems 62 = .ok (.invokevirtual 169, 3) := by decide +kernel
theorem dX12_systems_65 : decode cX12_systems 65 = .ok (.aload_n 0, 1) := by decide +kernel
theorem dX12_systems_66 : decode cX12_systems 66 = .ok (.iload_n 1, 1) := by decide +kernel
theorem dX12_systems_67 : decode cX12_systems 67 = .ok (.invokevirtual 198, 3) := by decide +kernel
theorem dX12_systems_70 : decode cX12_systems 70 = .ok (.ifCond .ne 10, 3) := by decide +kernel
theorem dX12_systems_73 : decode cX12_systems 73 = .ok (.iconst (-1), 1) := by decide +kernel
theorem dX12_systems_74 : decode cX12_systems 74 = .ok (.aload_n 0, 1) := by decide +kernel
theorem dX12_systems_75 : decode cX12_systems 75 = .ok (.getfield 153, 3) := by decide +kernel
theorem dX12_systems_78 : decode cX12_systems 78 = .ok (.isub, 1) := by decide +kernel
theorem dX12_systems_79 : decode cX12_systems 79 = .ok (.ireturn, 1) := by decide +kernel
theorem dX12_systems_80 : decode cX12_systems 80 = .ok (.iinc 1 1, 3) := by decide +kernel
theorem dX12_systems_83 : decode cX12_systems 83 = .ok (.aload_n 0, 1) := by decide +kernel
theorem dX12_systems_84 : decode cX12_systems 84 = .ok (.getfield 117, 3) := by decide +kernel
theorem dX12_systems_87 : decode cX12_systems 87 = .ok (.ifCond .ne (-67), 3) := by decide +kernel
theorem dX12_systems_90 : decode cX12_systems 90 = .ok (.aload_n 0, 1) := by decide +kernel
theorem dX12_systems_91 : decode cX12_systems 91 = .ok (.iload_n 1, 1) := by decide +kernel
theorem dX12_systems_92 : decode cX12_systems 92 = .ok (.putfield 201, 3) := by decide +kernel
theorem dX12_systems_95 : decode cX12_systems 95 = .ok (.iconst 0, 1) := by decide +kernel
theorem dX12_systems_96 : decode cX12_systems 96 = .ok (.istore_n 2, 1) := by decide +kernel
theorem dX12_systems_97 : decode cX12_systems 97 = .ok (.iload_n 2, 1) := by decide +kernel
theorem dX12_systems_98 : decode cX12_systems 98 = .ok (.iload_n 1, 1) := by decide +kernel
theorem dX12_systems_99 : decode cX12_systems 99 = .ok (.if_icmp .ge 80, 3) := by decide +kernel
theorem dX12_systems_102 : decode cX12_systems 102 = .ok (.aload_n 0, 1) := by decide +kernel
theorem dX12_systems_103 : decode cX12_systems 103 = .ok (.getfield 23, 3) := by decide +kernel
theorem dX12_systems_106 : decode cX12_systems 106 = .ok (.iload_n 2, 1) := by decide +kernel
theorem dX12_systems_107 : decode cX12_systems 107 = .ok (.aload_n 0, 1) := by decide +kernel
theorem dX12_systems_108 : decode cX12_systems 108 = .ok (.getfield 23, 3) := by decide +kernel
theorem dX12_systems_111 : decode cX12_systems 111 = .ok (.iconst 3, 1) := by decide +kernel
theorem dX12_systems_112 : decode cX12_systems 112 = .ok (.iload_n 2, 1) := by decide +kernel
theorem dX12_systems_113 : decode cX12_systems 113 = .ok (.iadd, 1) := by decide +kernel
theorem dX12_systems_114 : decode cX12_systems 114 = .ok (.iaload, 1) := by decide +kernel
theorem dX12_systems_115 : decode cX12_systems 115 = .ok (.iastore, 1) := by decide +kernel
theorem dX12_systems_116 : decode cX12_systems 116 = .ok (.iconst 0, 1) := by decide +kernel
theorem dX12_systems_117 : decode cX12_systems 117 = .ok (.istore_n 3, 1) := by decide +kernel
theorem dX12_systems_118 : decode cX12_systems 118 = .ok (.iload_n 3, 1) := by decide +kernel
theorem dX12_systems_119 : decode cX12_systems 119 = .ok (.iconst 5, 1) := by decide +kernel
theorem dX12_systems_120 : decode cX12_systems 120 = .ok (.if_icmp .ge 53, 3) := by decide +kernel
theorem dX12_systems_123 : decode cX12_systems 123 = .ok (.aload_n 0, 1) := by decide +kernel
theorem dX12_systems_124 : decode cX12_systems 124 = .ok (.getfield 20, 3) := by decide +kernel
theorem dX12_systems_127 : decode cX12_systems 127 = .ok (.iconst 5, 1) := by decide +kernel
theorem dX12_systems_128 : decode cX12_systems 128 = .ok (.iload_n 2, 1) := by decide +kernel
theorem dX12_systems_129 : decode cX12_systems 129 = .ok (.imul, 1) := by decide +kernel
theorem dX12_systems_130 : decode cX12_systems 130 = .ok (.iload_n 3, 1) := by decide +kernel
theorem dX12_systems_131 : decode cX12_systems 131 = .ok (.iadd, 1) := by decide +kernel
theorem dX12_systems_132 : decode cX12_systems 132 = .ok (.aload_n 0, 1) := by decide +kernel
theorem dX12_systems_133 : decode cX12_systems 133 = .ok (.getfield 20, 3) := by decide +kernel
theorem dX12_systems_136 : decode cX12_systems 136 = .ok (.iconst 5, 1) := by decide +kernel
theorem dX12_systems_137 : decode cX12_systems 137 = .ok (.iconst 3, 1) := by decide +kernel
theorem dX12_systems_138 : decode cX12_systems 138 = .ok (.iload_n 2, 1) := by decide +kernel
theorem dX12_systems_139 : decode cX12_systems 139 = .ok (.iadd, 1) := by decide +kernel
theorem dX12_systems_140 : decode cX12_systems 140 = .ok (.imul, 1) := by decide +kernel
theorem dX12_systems_141 : decode cX12_systems 141 = .ok (.iload_n 3, 1) := by decide +kernel
theorem dX12_systems_142 : decode cX12_systems 142 = .ok (.iadd, 1) := by decide +kernel
theorem dX12_systems_143 : decode cX12_systems 143 = .ok (.laload, 1) := by decide +kernel
theorem dX12_systems_144 : decode cX12_systems 144 = .ok (.lastore, 1) := by decide +kernel
theorem dX12_systems_145 : decode cX12_systems 145 = .ok (.aload_n 0, 1) := by decide +kernel
theorem dX12_systems_146 : decode cX12_systems 146 = .ok (.getfield 26, 3) := by decide +kernel
theorem dX12_systems_149 : decode cX12_systems 149 = .ok (.iconst 5, 1) := by decide +kernel
theorem dX12_systems_150 : decode cX12_systems 150 = .ok (.iload_n 2, 1) := by decide +kernel
theorem dX12_systems_151 : decode cX12_systems 151 = .ok (.imul, 1) := by decide +kernel
theorem dX12_systems_152 : decode cX12_systems 152 = .ok (.iload_n 3, 1) := by decide +kernel
theorem dX12_systems_153 : decode cX12_systems 153 = .ok (.iadd, 1) := by decide +kernel
theorem dX12_systems_154 : decode cX12_systems 154 = .ok (.aload_n 0, 1) := by decide +kernel
theorem dX12_systems_155 : decode cX12_systems 155 = .ok (.getfield 26, 3) := by decide +kernel
theorem dX12_systems_158 : decode cX12_systems 158 = .ok (.iconst 5, 1) := by decide +kernel
theorem dX12_systems_159 : decode cX12_systems 159 = .ok (.iconst 3, 1) := by decide +kernel
theorem dX12_systems_160 : decode cX12_systems 160 = .ok (.iload_n 2, 1) := by decide +kernel
theorem dX12_systems_161 : decode cX12_systems 161 = .ok (.iadd, 1) := by decide +kernel
theorem dX12_systems_162 : decode cX12_systems 162 = .ok (.imul, 1) := by decide +kernel
theorem dX12_systems_163 : decode cX12_systems 163 = .ok (.iload_n 3, 1) := by decide +kernel
theorem dX12_systems_164 : decode cX12_systems 164 = .ok (.iadd, 1) := by decide +kernel
theorem dX12_systems_165 : decode cX12_systems 165 = .ok (.iaload, 1) := by decide +kernel
theorem dX12_systems_166 : decode cX12_systems 166 = .ok (.iastore, 1) := by decide +kernel
theorem dX12_systems_167 : decode cX12_systems 167 = .ok (.iinc 3 1, 3) := by decide +kernel
theorem dX12_systems_170 : decode cX12_systems 170 = .ok (.goto (-52), 3) := by decide +kernel
theorem dX12_systems_173 : decode cX12_systems 173 = .ok (.iinc 2 1, 3) := by decide +kernel
theorem dX12_systems_176 : decode cX12_systems 176 = .ok (.goto (-79), 3) := by decide +kernel
theorem dX12_systems_179 : decode cX12_systems 179 = .ok (.aload_n 0, 1) := by decide +kernel
theorem dX12_systems_180 : decode cX12_systems 180 = .ok (.iconst 0, 1) := by decide +kernel
theorem dX12_systems_181 : decode cX12_systems 181 = .ok (.putfield 204, 3) := by decide +kernel
theorem dX12_systems_184 : decode cX12_systems 184 = .ok (.aload_n 0, 1) := by decide +kernel
theorem dX12_systems_185 : decode cX12_systems 185 = .ok (.invokevirtual 207, 3) := by decide +kernel
theorem dX12_systems_188 : decode cX12_systems 188 = .ok (.iload_n 1, 1) := by decide +kernel
theorem dX12_systems_189 : decode cX12_systems 189 = .ok (.ireturn, 1) := by decide +kernel
theorem dX12_fault_0 : decode cX12_fault 0 = .ok (.aload_n 0, 1) := by decide +kernel
theorem dX12_fault_1 : decode cX12_fault 1 = .ok (.iconst 0, 1) := by decide +kernel
theorem dX12_fault_2 : decode cX12_fault 2 = .ok (.putfield 86, 3) := by decide +kernel
theorem dX12_fault_5 : decode cX12_fault 5 = .ok (.aload_n 0, 1) := by decide +kernel
theorem dX12_fault_6 : decode cX12_fault 6 = .ok (.getfield 150, 3) := by decide +kernel
theorem dX12_fault_9 : decode cX12_fault 9 = .ok (.ireturn, 1) := by decide +kernel
set_option maxRecDepth 20000 in
theorem ggX12_system_X12_refuse : GoodIn wsX12_system wsX12_refuse := goodIn_r _ [9, 2, 10, 11, 12, 13, 14, 15, 16, 17, 18, 19, 20, 21, 22, 23, 24, 25, 26, 27, 28, 29, 30, 31, 32, 33, 34, 35, 36, 37, 38, 39, 40, 41, 42, 43, 44, 45, 46, 47, 48, 49, 50, 51, 52, 53, 54, 55, 56, 57, 58, 59, 60] (by decide +kernel) (by decide +kernel)
set_option maxRecDepth 20000 in
theorem gX12_system_X12_refuse : GoodIn wsX12_system (wsV RX12 210 RX12 yX12_refuse wsX12_refuse) := goodIn_app (goodIn_of _ (by decide +kernel)) ggX12_system_X12_refuse
theorem dX12_system_0 : decode cX12_system 0 = .ok (.iload_n 1, 1) := by decide +kernel
theorem dX12_system_1 : decode cX12_system 1 = .ok (.ifCond .lt 20, 3) := by decide +kernel
theorem dX12_system_4 : decode cX12_system 4 = .ok (.iload_n 1, 1) := by decide +kernel
theorem dX12_system_5 : decode cX12_system 5 = .ok (.aload_n 0, 1) := by decide +kernel
theorem dX12_system_6 : decode cX12_system 6 = .ok (.getfield 201, 3) := by decide +kernel
theorem dX12_system_9 : decode cX12_system 9 = .ok (.if_icmp .ge 12, 3) := by decide +kernel
theorem dX12_system_12 : decode cX12_system 12 = .ok (.iload_n 2, 1) := by decide +kernel
theorem dX12_system_13 : decode cX12_system 13 = .ok (.ifCond .lt 8, 3) := by decide +kernel
theorem dX12_system_16 : decode cX12_system 16 = .ok (.iload_n 2, 1) := by decide +kernel
theorem dX12_system_17 : decode cX12_system 17 = .ok (.iconst 4, 1) := by decide +kernel
theorem dX12_system_18 : decode cX12_system 18 = .ok (.if_icmp .le 8, 3) := by decide +kernel
theorem dX12_system_21 : decode cX12_system 21 = .ok (.aload_n 0, 1) := by decide +kernel
theorem dX12_system_22 : decode cX12_system 22 = .ok (.invokevirtual 210, 3) := by decide +kernel
theorem dX12_system_25 : decode cX12_system 25 = .ok (.ireturn, 1) := by decide +kernel
theorem dX12_system_26 : decode cX12_system 26 = .ok (.aload_n 0, 1) := by decide +kernel
theorem dX12_system_27 : decode cX12_system 27 = .ok (.iconst 0, 1) := by decide +kernel
theorem dX12_system_28 : decode cX12_system 28 = .ok (.putfield 86, 3) := by decide +kernel
theorem dX12_system_31 : decode cX12_system 31 = .ok (.iload_n 2, 1) := by decide +kernel
theorem dX12_system_32 : decode cX12_system 32 = .ok (.ifCond .ne 12, 3) := by decide +kernel
theorem dX12_system_35 : decode cX12_system 35 = .ok (.aload_n 0, 1) := by decide +kernel
theorem dX12_system_36 : decode cX12_system 36 = .ok (.getfield 23, 3) := by decide +kernel
theorem dX12_system_39 : decode cX12_system 39 = .ok (.iload_n 1, 1) := by decide +kernel
theorem dX12_system_40 : decode cX12_system 40 = .ok (.iaload, 1) := by decide +kernel
theorem dX12_system_41 : decode cX12_system 41 = .ok (.goto 27, 3) := by decide +kernel
theorem dX12_system_44 : decode cX12_system 44 = .ok (.iload_n 2, 1) := by decide +kernel
theorem dX12_system_45 : decode cX12_system 45 = .ok (.aload_n 0, 1) := by decide +kernel
theorem dX12_system_46 : decode cX12_system 46 = .ok (.getfield 23, 3) := by decide +kernel
theorem dX12_system_49 : decode cX12_system 49 = .ok (.iload_n 1, 1) := by decide +kernel
theorem dX12_system_50 : decode cX12_system 50 = .ok (.iaload, 1) := by decide +kernel
theorem dX12_system_51 : decode cX12_system 51 = .ok (.if_icmp .ge 16, 3) := by decide +kernel
theorem dX12_system_54 : decode cX12_system 54 = .ok (.aload_n 0, 1) := by decide +kernel
theorem dX12_system_55 : decode cX12_system 55 = .ok (.getfield 26, 3) := by decide +kernel
theorem dX12_system_58 : decode cX12_system 58 = .ok (.iconst 5, 1) := by decide +kernel
theorem dX12_system_59 : decode cX12_system 59 = .ok (.iload_n 1, 1) := by decide +kernel
theorem dX12_system_60 : decode cX12_system 60 = .ok (.imul, 1) := by decide +kernel
theorem dX12_system_61 : decode cX12_system 61 = .ok (.iload_n 2, 1) := by decide +kernel
theorem dX12_system_62 : decode cX12_system 62 = .ok (.iadd, 1) := by decide +kernel
theorem dX12_system_63 : decode cX12_system 63 = .ok (.iaload, 1) := by decide +kernel
theorem dX12_system_64 : decode cX12_system 64 = .ok (.goto 4, 3) := by decide +kernel
theorem dX12_system_67 : decode cX12_system 67 = .ok (.iconst (-1), 1) := by decide +kernel
theorem dX12_system_68 : decode cX12_system 68 = .ok (.ireturn, 1) := by decide +kernel
theorem dX12_write_0 : decode cX12_write 0 = .ok (.aload_n 0, 1) := by decide +kernel
theorem dX12_write_1 : decode cX12_write 1 = .ok (.iconst 0, 1) := by decide +kernel
theorem dX12_write_2 : decode cX12_write 2 = .ok (.putfield 86, 3) := by decide +kernel
theorem dX12_write_5 : decode cX12_write 5 = .ok (.iload_n 1, 1) := by decide +kernel
theorem dX12_write_6 : decode cX12_write 6 = .ok (.ifCond .lt 36, 3) := by decide +kernel
theorem dX12_write_9 : decode cX12_write 9 = .ok (.iload_n 1, 1) := by decide +kernel
theorem dX12_write_10 : decode cX12_write 10 = .ok (.aload_n 0, 1) := by decide +kernel
theorem dX12_write_11 : decode cX12_write 11 = .ok (.getfield 201, 3) := by decide +kernel
theorem dX12_write_14 : decode cX12_write 14 = .ok (.if_icmp .ge 28, 3) := by decide +kernel
theorem dX12_write_17 : decode cX12_write 17 = .ok (.iload_n 2, 1) := by decide +kernel
theorem dX12_write_18 : decode cX12_write 18 = .ok (.iconst 1, 1) := by decide +kernel
theorem dX12_write_19 : decode cX12_write 19 = .ok (.if_icmp .lt 23, 3) := by decide +kernel
theorem dX12_write_22 : decode cX12_write 22 = .ok (.iload_n 2, 1) := by decide +kernel
theorem dX12_write_23 : decode cX12_write 23 = .ok (.aload_n 0, 1) := by decide +kernel
theorem dX12_write_24 : decode cX12_write 24 = .ok (.iload_n 1, 1) := by decide +kernel
theorem dX12_write_25 : decode cX12_write 25 = .ok (.aload_n 0, 1) := by decide +kernel
theorem dX12_write_26 : decode cX12_write 26 = .ok (.getfield 23, 3) := by decide +kernel
theorem dX12_write_29 : decode cX12_write 29 = .ok (.iload_n 1, 1) := by decide +kernel
theorem dX12_write_30 : decode cX12_write 30 = .ok (.iaload, 1) := by decide +kernel
theorem dX12_write_31 : decode cX12_write 31 = .ok (.iconst 1, 1) := by decide +kernel
theorem dX12_write_32 : decode cX12_write 32 = .ok (.isub, 1) := by decide +kernel
theorem dX12_write_33 : decode cX12_write 33 = .ok (.invokevirtual 220, 3) := by decide +kernel
theorem dX12_write_36 : decode cX12_write 36 = .ok (.idiv, 1) := by decide +kernel
theorem dX12_write_37 : decode cX12_write 37 = .ok (.bipush 99, 2) := by decide +kernel
theorem dX12_write_39 : decode cX12_write 39 = .ok (.if_icmp .le 5, 3) := by decide +kernel
theorem dX12_write_42 : decode cX12_write 42 = .ok (.iconst (-1), 1) := by decide +kernel
theorem dX12_write_43 : decode cX12_write 43 = .ok (.ireturn, 1) := by decide +kernel
theorem dX12_write_44 : decode cX12_write 44 = .ok (.aload_n 0, 1) := by decide +kernel
theorem dX12_write_45 : decode cX12_write 45 = .ok (.iconst 0, 1) := by decide +kernel
theorem dX12_write_46 : decode cX12_write 46 = .ok (.putfield 214, 3) := by decide +kernel
theorem dX12_write_49 : decode cX12_write 49 = .ok (.iload_n 2, 1) := by decide +kernel
theorem dX12_write_50 : decode cX12_write 50 = .ok (.istore_n 3, 1) := by decide +kernel
theorem dX12_write_51 : decode cX12_write 51 = .ok (.aload_n 0, 1) := by decide +kernel
theorem dX12_write_52 : decode cX12_write 52 = .ok (.getfield 23, 3) := by decide +kernel
theorem dX12_write_55 : decode cX12_write 55 = .ok (.iload_n 1, 1) := by decide +kernel
theorem dX12_write_56 : decode cX12_write 56 = .ok (.iaload, 1) := by decide +kernel
theorem dX12_write_57 : decode cX12_write 57 = .ok (.iconst 1, 1) := by decide +kernel
theorem dX12_write_58 : decode cX12_write 58 = .ok (.isub, 1) := by decide +kernel
theorem dX12_write_59 : decode cX12_write 59 = .ok (.istore 4, 2) := by decide +kernel
theorem dX12_write_61 : decode cX12_write 61 = .ok (.iload 4, 2) := by decide +kernel
theorem dX12_write_63 : decode cX12_write 63 = .ok (.ifCond .lt 103, 3) := by decide +kernel
theorem dX12_write_66 : decode cX12_write 66 = .ok (.iload_n 3, 1) := by decide +kernel
theorem dX12_write_67 : decode cX12_write 67 = .ok (.aload_n 0, 1) := by decide +kernel
theorem dX12_write_68 : decode cX12_write 68 = .ok (.iload_n 1, 1) := by decide +kernel
theorem dX12_write_69 : decode cX12_write 69 = .ok (.iload 4, 2) := by decide +kernel
theorem dX12_write_71 : decode cX12_write 71 = .ok (.invokevirtual 220, 3) := by decide +kernel
theorem dX12_write_74 : decode cX12_write 74 = .ok (.idiv, 1) := by decide +kernel
theorem dX12_write_75 : decode cX12_write 75 = .ok (.istore 5, 2) := by decide +kernel
theorem dX12_write_77 : decode cX12_write 77 = .ok (.iload_n 3, 1) := by decide +kernel
theorem dX12_write_78 : decode cX12_write 78 = .ok (.aload_n 0, 1) := by decide +kernel
theorem dX12_write_79 : decode cX12_write 79 = .ok (.iload_n 1, 1) := by decide +kernel
theorem dX12_write_80 : decode cX12_write 80 = .ok (.iload 4, 2) := by decide +kernel
theorem dX12_write_82 : decode cX12_write 82 = .ok (.invokevirtual 220, 3) := by decide +kernel
theorem dX12_write_85 : decode cX12_write 85 = .ok (.irem, 1) := by decide +kernel
theorem dX12_write_86 : decode cX12_write 86 = .ok (.istore_n 3, 1) := by decide +kernel
theorem dX12_write_87 : decode cX12_write 87 = .ok (.iload 5, 2) := by decide +kernel
theorem dX12_write_89 : decode cX12_write 89 = .ok (.ifCond .ne 6, 3) := by decide +kernel
theorem dX12_write_92 : decode cX12_write 92 = .ok (.goto 68, 3) := by decide +kernel
theorem dX12_write_95 : decode cX12_write 95 = .ok (.aload_n 0, 1) := by decide +kernel
theorem dX12_write_96 : decode cX12_write 96 = .ok (.getfield 214, 3) := by decide +kernel
theorem dX12_write_99 : decode cX12_write 99 = .ok (.ifCond .le 9, 3) := by decide +kernel
theorem dX12_write_102 : decode cX12_write 102 = .ok (.aload_n 0, 1) := by decide +kernel
theorem dX12_write_103 : decode cX12_write 103 = .ok (.bipush 32, 2) := by decide +kernel
theorem dX12_write_105 : decode cX12_write 105 = .ok (.invokevirtual 217, 3) := by decide +kernel
theorem dX12_write_108 : decode cX12_write 108 = .ok (.iload 5, 2) := by decide +kernel
theorem dX12_write_110 : decode cX12_write 110 = .ok (.bipush 9, 2) := by decide +kernel
theorem dX12_write_112 : decode cX12_write 112 = .ok (.if_icmp .le 15, 3) := by decide +kernel
theorem dX12_write_115 : decode cX12_write 115 = .ok (.aload_n 0, 1) := by decide +kernel
theorem dX12_write_116 : decode cX12_write 116 = .ok (.bipush 48, 2) := by decide +kernel
theorem dX12_write_118 : decode cX12_write 118 = .ok (.iload 5, 2) := by decide +kernel
theorem dX12_write_120 : decode cX12_write 120 = .ok (.bipush 10, 2) := by decide +kernel
theorem dX12_write_122 : decode cX12_write 122 = .ok (.idiv, 1) := by decide +kernel
theorem dX12_write_123 : decode cX12_write 123 = .ok (.iadd, 1) := by decide +kernel
theorem dX12_write_124 : decode cX12_write 124 = .ok (.invokevirtual 217, 3) := by decide +kernel
theorem dX12_write_127 : decode cX12_write 127 = .ok (.aload_n 0, 1) := by decide +kernel
theorem dX12_write_128 : decode cX12_write 128 = .ok (.bipush 48, 2) := by decide +kernel
theorem dX12_write_130 : decode cX12_write 130 = .ok (.iload 5, 2) := by decide +kernel
theorem dX12_write_132 : decode cX12_write 132 = .ok (.bipush 10, 2) := by decide +kernel
theorem dX12_write_134 : decode cX12_write 134 = .ok (.irem, 1) := by decide +kernel
theorem dX12_write_135 : decode cX12_write 135 = .ok (.iadd, 1) := by decide +kernel
theorem dX12_write_136 : decode cX12_write 136 = .ok (.invokevirtual 217, 3) := by decide +kernel
theorem dX12_write_139 : decode cX12_write 139 = .ok (.aload_n 0, 1) := by decide +kernel
theorem dX12_write_140 : decode cX12_write 140 = .ok (.bipush 32, 2) := by decide +kernel
theorem dX12_write_142 : decode cX12_write 142 = .ok (.invokevirtual 217, 3) := by decide +kernel
theorem dX12_write_145 : decode cX12_write 145 = .ok (.aload_n 0, 1) := by decide +kernel
theorem dX12_write_146 : decode cX12_write 146 = .ok (.aload_n 0, 1) := by decide +kernel
theorem dX12_write_147 : decode cX12_write 147 = .ok (.getfield 20, 3) := by decide +kernel
theorem dX12_write_150 : decode cX12_write 150 = .ok (.iconst 5, 1) := by decide +kernel
theorem dX12_write_151 : decode cX12_write 151 = .ok (.iload_n 1, 1) := by decide +kernel
theorem dX12_write_152 : decode cX12_write 152 = .ok (.imul, 1) := by decide +kernel
theorem dX12_write_153 : decode cX12_write 153 = .ok (.iload 4, 2) := by decide +kernel
theorem dX12_write_155 : decode cX12_write 155 = .ok (.iadd, 1) := by decide +kernel
theorem dX12_write_156 : decode cX12_write 156 = .ok (.laload, 1) := by decide +kernel
theorem dX12_write_157 : decode cX12_write 157 = .ok (.invokevirtual 224, 3) := by decide +kernel
theorem dX12_write_160 : decode cX12_write 160 = .ok (.iinc 4 (-1), 3) := by decide +kernel
theorem dX12_write_163 : decode cX12_write 163 = .ok (.goto (-102), 3) := by decide +kernel
theorem dX12_write_166 : decode cX12_write 166 = .ok (.aload_n 0, 1) := by decide +kernel
theorem dX12_write_167 : decode cX12_write 167 = .ok (.getfield 214, 3) := by decide +kernel
theorem dX12_write_170 : decode cX12_write 170 = .ok (.ireturn, 1) := by decide +kernel
set_option maxRecDepth 20000 in
theorem ggX12_octet_X12_refuse : GoodIn wsX12_octet wsX12_refuse := goodIn_r _ [8, 2, 9, 10, 11, 12, 13, 14, 15, 16, 17, 18, 19, 20, 21, 22, 23, 24, 25, 26, 27, 28, 29, 30, 31, 32, 33, 34, 35, 36, 37, 38, 39, 40, 41, 42, 43, 44, 45, 46, 47, 48, 49, 50, 51, 52, 53, 54, 55, 56, 57, 58, 59] (by decide +kernel) (by decide +kernel)
set_option maxRecDepth 20000 in
theorem gX12_octet_X12_refuse : GoodIn wsX12_octet (wsV RX12 210 RX12 yX12_refuse wsX12_refuse) := goodIn_app (goodIn_of _ (by decide +kernel)) ggX12_octet_X12_refuse
theorem dX12_octet_0 : decode cX12_octet 0 = .ok (.iload_n 1, 1) := by decide +kernel
theorem dX12_octet_1 : decode cX12_octet 1 = .ok (.ifCond .lt 11, 3) := by decide +kernel
theorem dX12_octet_4 : decode cX12_octet 4 = .ok (.iload_n 1, 1) := by decide +kernel
theorem dX12_octet_5 : decode cX12_octet 5 = .ok (.aload_n 0, 1) := by decide +kernel
theorem dX12_octet_6 : decode cX12_octet 6 = .ok (.getfield 214, 3) := by decide +kernel
theorem dX12_octet_9 : decode cX12_octet 9 = .ok (.if_icmp .lt 8, 3) := by decide +kernel
theorem dX12_octet_12 : decode cX12_octet 12 = .ok (.aload_n 0, 1) := by decide +kernel
theorem dX12_octet_13 : decode cX12_octet 13 = .ok (.invokevirtual 210, 3) := by decide +kernel
theorem dX12_octet_16 : decode cX12_octet 16 = .ok (.ireturn, 1) := by decide +kernel
theorem dX12_octet_17 : decode cX12_octet 17 = .ok (.aload_n 0, 1) := by decide +kernel
theorem dX12_octet_18 : decode cX12_octet 18 = .ok (.iconst 0, 1) := by decide +kernel
theorem dX12_octet_19 : decode cX12_octet 19 = .ok (.putfield 86, 3) := by decide +kernel
theorem dX12_octet_22 : decode cX12_octet 22 = .ok (.aload_n 0, 1) := by decide +kernel
theorem dX12_octet_23 : decode cX12_octet 23 = .ok (.getfield 29, 3) := by decide +kernel
theorem dX12_octet_26 : decode cX12_octet 26 = .ok (.iload_n 1, 1) := by decide +kernel
theorem dX12_octet_27 : decode cX12_octet 27 = .ok (.iaload, 1) := by decide +kernel
theorem dX12_octet_28 : decode cX12_octet 28 = .ok (.ireturn, 1) := by decide +kernel
set_option maxRecDepth 20000 in
theorem ggX12_tablet_X12_takes : GoodIn wsX12_tablet wsX12_takes := goodIn_r _ [11, 4, 12, 13, 14, 15, 16, 17, 10, 18, 19, 20, 21, 22, 23, 24, 25, 26, 27, 28, 29, 30, 31, 32, 33, 34, 35, 36, 37, 38, 39, 40, 41, 42, 43, 44, 45, 46, 47, 48, 49, 50, 111, 112, 113, 114, 115, 116, 117, 118, 119, 120, 121, 122, 123, 124, 125, 126, 127, 128, 129, 130, 131, 132, 133, 134, 135, 136, 137, 138, 139, 140, 141, 142, 143, 144, 145, 146, 147, 148, 149, 150, 151, 152, 153, 154, 155, 156, 157, 158, 159, 160, 161] (by decide +kernel) (by decide +kernel)
set_option maxRecDepth 20000 in
theorem gX12_tablet_X12_takes : GoodIn wsX12_tablet (wsV RX12 191 RX12 yX12_takes wsX12_takes) := goodIn_app (goodIn_of _ (by decide +kernel)) ggX12_tablet_X12_takes
theorem dX12_tablet_0 : decode cX12_tablet 0 = .ok (.aload_n 0, 1) := by decide +kernel
theorem dX12_tablet_1 : decode cX12_tablet 1 = .ok (.iconst 0, 1) := by decide +kernel
theorem dX12_tablet_2 : decode cX12_tablet 2 = .ok (.putfield 86, 3) := by decide +kernel
theorem dX12_tablet_5 : decode cX12_tablet 5 = .ok (.aload_n 0, 1) := by decide +kernel
theorem dX12_tablet_6 : decode cX12_tablet 6 = .ok (.getfield 204, 3) := by decide +kernel
theorem dX12_tablet_9 : decode cX12_tablet 9 = .ok (.bipush 8, 2) := by decide +kernel
theorem dX12_tablet_11 : decode cX12_tablet 11 = .ok (.if_icmp .eq 10, 3) := by decide +kernel
theorem dX12_tablet_14 : decode cX12_tablet 14 = .ok (.aload_n 0, 1) := by decide +kernel
theorem dX12_tablet_15 : decode cX12_tablet 15 = .ok (.getfield 201, 3) := by decide +kernel
theorem dX12_tablet_18 : decode cX12_tablet 18 = .ok (.ifCond .ne 12, 3) := by decide +kernel
theorem dX12_tablet_21 : decode cX12_tablet 21 = .ok (.aload_n 0, 1) := by decide +kernel
theorem dX12_tablet_22 : decode cX12_tablet 22 = .ok (.iconst 0, 1) := by decide +kernel
theorem dX12_tablet_23 : decode cX12_tablet 23 = .ok (.putfield 90, 3) := by decide +kernel
theorem dX12_tablet_26 : decode cX12_tablet 26 = .ok (.sipush (-400), 3) := by decide +kernel
theorem dX12_tablet_29 : decode cX12_tablet 29 = .ok (.ireturn, 1) := by decide +kernel
theorem dX12_tablet_30 : decode cX12_tablet 30 = .ok (.aload_n 0, 1) := by decide +kernel
theorem dX12_tablet_31 : decode cX12_tablet 31 = .ok (.iconst 0, 1) := by decide +kernel
theorem dX12_tablet_32 : decode cX12_tablet 32 = .ok (.putfield 150, 3) := by decide +kernel
theorem dX12_tablet_35 : decode cX12_tablet 35 = .ok (.aload_n 0, 1) := by decide +kernel
theorem dX12_tablet_36 : decode cX12_tablet 36 = .ok (.sipush 300, 3) := by decide +kernel
theorem dX12_tablet_39 : decode cX12_tablet 39 = .ok (.iconst 1, 1) := by decide +kernel
theorem dX12_tablet_40 : decode cX12_tablet 40 = .ok (.invokevirtual 191, 3) := by decide +kernel
theorem dX12_tablet_43 : decode cX12_tablet 43 = .ok (.aload_n 0, 1) := by decide +kernel
theorem dX12_tablet_44 : decode cX12_tablet 44 = .ok (.aload_n 0, 1) := by decide +kernel
theorem dX12_tablet_45 : decode cX12_tablet 45 = .ok (.getfield 204, 3) := by decide +kernel
theorem dX12_tablet_48 : decode cX12_tablet 48 = .ok (.invokevirtual 254, 3) := by decide +kernel
theorem dX12_tablet_51 : decode cX12_tablet 51 = .ok (.ifCond .ne 10, 3) := by decide +kernel
theorem dX12_tablet_54 : decode cX12_tablet 54 = .ok (.iconst (-1), 1) := by decide +kernel
theorem dX12_tablet_55 : decode cX12_tablet 55 = .ok (.aload_n 0, 1) := by decide +kernel
theorem dX12_tablet_56 : decode cX12_tablet 56 = .ok (.getfield 153, 3) := by decide +kernel
theorem dX12_tablet_59 : decode cX12_tablet 59 = .ok (.isub, 1) := by decide +kernel
theorem dX12_tablet_60 : decode cX12_tablet 60 = .ok (.ireturn, 1) := by decide +kernel
theorem dX12_tablet_61 : decode cX12_tablet 61 = .ok (.aload_n 0, 1) := by decide +kernel
theorem dX12_tablet_62 : decode cX12_tablet 62 = .ok (.dup, 1) := by decide +kernel
theorem dX12_tablet_63 : decode cX12_tablet 63 = .ok (.getfield 204, 3) := by decide +kernel
theorem dX12_tablet_66 : decode cX12_tablet 66 = .ok (.iconst 1, 1) := by decide +kernel
theorem dX12_tablet_67 : decode cX12_tablet 67 = .ok (.iadd, 1) := by decide +kernel
theorem dX12_tablet_68 : decode cX12_tablet 68 = .ok (.putfield 204, 3) := by decide +kernel
theorem dX12_tablet_71 : decode cX12_tablet 71 = .ok (.aload_n 0, 1) := by decide +kernel
theorem dX12_tablet_72 : decode cX12_tablet 72 = .ok (.getfield 204, 3) := by decide +kernel
theorem dX12_tablet_75 : decode cX12_tablet 75 = .ok (.iconst 1, 1) := by decide +kernel
theorem dX12_tablet_76 : decode cX12_tablet 76 = .ok (.isub, 1) := by decide +kernel
theorem dX12_tablet_77 : decode cX12_tablet 77 = .ok (.ireturn, 1) := by decide +kernel
theorem dX12_isTablet_0 : decode cX12_isTablet 0 = .ok (.iload_n 1, 1) := by decide +kernel
theorem dX12_isTablet_1 : decode cX12_isTablet 1 = .ok (.ifCond .lt 15, 3) := by decide +kernel
theorem dX12_isTablet_4 : decode cX12_isTablet 4 = .ok (.iload_n 1, 1) := by decide +kernel
theorem dX12_isTablet_5 : decode cX12_isTablet 5 = .ok (.aload_n 0, 1) := by decide +kernel
theorem dX12_isTablet_6 : decode cX12_isTablet 6 = .ok (.getfield 204, 3) := by decide +kernel
theorem dX12_isTablet_9 : decode cX12_isTablet 9 = .ok (.if_icmp .ge 7, 3) := by decide +kernel
theorem dX12_isTablet_12 : decode cX12_isTablet 12 = .ok (.iconst 1, 1) := by decide +kernel
theorem dX12_isTablet_13 : decode cX12_isTablet 13 = .ok (.goto 4, 3) := by decide +kernel
theorem dX12_isTablet_16 : decode cX12_isTablet 16 = .ok (.iconst 0, 1) := by decide +kernel
theorem dX12_isTablet_17 : decode cX12_isTablet 17 = .ok (.ireturn, 1) := by decide +kernel
set_option maxRecDepth 20000 in
theorem ggX12_isLine_X12_isTablet : GoodIn wsX12_isLine wsX12_isTablet := goodIn_r _ [6, 7, 8, 9, 10, 11, 12, 13, 14, 15, 16, 17, 18, 19, 20, 21, 22, 23, 24, 25, 26, 27, 28, 29, 30, 31, 32, 33, 34, 35, 36, 37, 38, 39, 40, 41, 42, 43, 44, 45, 46, 47, 48, 49, 50, 51, 52, 53, 54, 55, 56, 57, 58] (by decide +kernel) (by decide +kernel)
set_option maxRecDepth 20000 in
theorem gX12_isLine_X12_isTablet : GoodIn wsX12_isLine (wsV RX12 257 RX12 yX12_isTablet wsX12_isTablet) := goodIn_app (goodIn_of _ (by decide +kernel)) ggX12_isLine_X12_isTablet
theorem dX12_isLine_0 : decode cX12_isLine 0 = .ok (.aload_n 0, 1) := by decide +kernel
theorem dX12_isLine_1 : decode cX12_isLine 1 = .ok (.iload_n 1, 1) := by decide +kernel
theorem dX12_isLine_2 : decode cX12_isLine 2 = .ok (.invokevirtual 257, 3) := by decide +kernel
theorem dX12_isLine_5 : decode cX12_isLine 5 = .ok (.ifCond .eq 21, 3) := by decide +kernel
theorem dX12_isLine_8 : decode cX12_isLine 8 = .ok (.iload_n 2, 1) := by decide +kernel
theorem dX12_isLine_9 : decode cX12_isLine 9 = .ok (.ifCond .lt 17, 3) := by decide +kernel
theorem dX12_isLine_12 : decode cX12_isLine 12 = .ok (.iload_n 2, 1) := by decide +kernel
theorem dX12_isLine_13 : decode cX12_isLine 13 = .ok (.aload_n 0, 1) := by decide +kernel
theorem dX12_isLine_14 : decode cX12_isLine 14 = .ok (.getfield 32, 3) := by decide +kernel
theorem dX12_isLine_17 : decode cX12_isLine 17 = .ok (.iload_n 1, 1) := by decide +kernel
theorem dX12_isLine_18 : decode cX12_isLine 18 = .ok (.iaload, 1) := by decide +kernel
theorem dX12_isLine_19 : decode cX12_isLine 19 = .ok (.if_icmp .ge 7, 3) := by decide +kernel
theorem dX12_isLine_22 : decode cX12_isLine 22 = .ok (.iconst 1, 1) := by decide +kernel
theorem dX12_isLine_23 : decode cX12_isLine 23 = .ok (.goto 4, 3) := by decide +kernel
theorem dX12_isLine_26 : decode cX12_isLine 26 = .ok (.iconst 0, 1) := by decide +kernel
theorem dX12_isLine_27 : decode cX12_isLine 27 = .ok (.ireturn, 1) := by decide +kernel
set_option maxRecDepth 20000 in
theorem ggX12_line_X12_isLine : GoodIn wsX12_line wsX12_isLine := goodIn_r _ [12, 13, 14, 15, 16, 11, 17, 18, 28, 29, 30, 31, 32, 33, 34, 35, 36, 37, 38, 39, 40, 41, 42, 43, 44, 45, 46, 47, 48, 49, 50, 51, 52, 53, 54, 55, 56, 57, 58, 59, 60, 61, 62, 63, 64, 65, 66, 67, 68, 69, 70, 71, 72, 73, 74, 75, 76, 77, 78] (by decide +kernel) (by decide +kernel)
set_option maxRecDepth 20000 in
theorem gX12_line_X12_isLine : GoodIn wsX12_line (wsV RX12 281 RX12 yX12_isLine wsX12_isLine) := goodIn_app (goodIn_of _ (by decide +kernel)) ggX12_line_X12_isLine
set_option maxRecDepth 20000 in
theorem ggX12_line_X12_refuse : GoodIn wsX12_line wsX12_refuse := goodIn_r _ [22, 1, 28, 29, 30, 31, 32, 33, 34, 35, 36, 37, 38, 39, 40, 41, 42, 43, 44, 45, 46, 47, 48, 49, 50, 51, 52, 53, 54, 55, 56, 57, 58, 59, 60, 61, 62, 63, 64, 65, 66, 67, 68, 69, 70, 71, 72, 73, 74, 75, 76, 77, 78] (by decide +kernel) (by decide +kernel)
set_option maxRecDepth 20000 in
theorem gX12_line_X12_refuse : GoodIn wsX12_line (wsV RX12 210 RX12 yX12_refuse wsX12_refuse) := goodIn_app (goodIn_of _ (by decide +kernel)) ggX12_line_X12_refuse
theorem dX12_line_0 : decode cX12_line 0 = .ok (.aload_n 0, 1) := by decide +kernel
theorem dX12_line_1 : decode cX12_line 1 = .ok (.iload_n 1, 1) := by decide +kernel
theorem dX12_line_2 : decode cX12_line 2 = .ok (.iload_n 2, 1) := by decide +kernel
theorem dX12_line_3 : decode cX12_line 3 = .ok (.invokevirtual 281, 3) := by decide +kernel
theorem dX12_line_6 : decode cX12_line 6 = .ok (.ifCond .eq 12, 3) := by decide +kernel
theorem dX12_line_9 : decode cX12_line 9 = .ok (.iload_n 3, 1) := by decide +kernel
theorem dX12_line_10 : decode cX12_line 10 = .ok (.ifCond .lt 8, 3) := by decide +kernel
theorem dX12_line_13 : decode cX12_line 13 = .ok (.iload_n 3, 1) := by decide +kernel
theorem dX12_line_14 : decode cX12_line 14 = .ok (.iconst 3, 1) := by decide +kernel
theorem dX12_line_15 : decode cX12_line 15 = .ok (.if_icmp .le 8, 3) := by decide +kernel
theorem dX12_line_18 : decode cX12_line 18 = .ok (.aload_n 0, 1) := by decide +kernel
theorem dX12_line_19 : decode cX12_line 19 = .ok (.invokevirtual 210, 3) := by decide +kernel
theorem dX12_line_22 : decode cX12_line 22 = .ok (.ireturn, 1) := by decide +kernel
theorem dX12_line_23 : decode cX12_line 23 = .ok (.aload_n 0, 1) := by decide +kernel
theorem dX12_line_24 : decode cX12_line 24 = .ok (.iconst 0, 1) := by decide +kernel
theorem dX12_line_25 : decode cX12_line 25 = .ok (.putfield 86, 3) := by decide +kernel
theorem dX12_line_28 : decode cX12_line 28 = .ok (.bipush 12, 2) := by decide +kernel
theorem dX12_line_30 : decode cX12_line 30 = .ok (.iload_n 1, 1) := by decide +kernel
theorem dX12_line_31 : decode cX12_line 31 = .ok (.imul, 1) := by decide +kernel
theorem dX12_line_32 : decode cX12_line 32 = .ok (.iload_n 2, 1) := by decide +kernel
theorem dX12_line_33 : decode cX12_line 33 = .ok (.iadd, 1) := by decide +kernel
theorem dX12_line_34 : decode cX12_line 34 = .ok (.istore 4, 2) := by decide +kernel
theorem dX12_line_36 : decode cX12_line 36 = .ok (.iconst 0, 1) := by decide +kernel
theorem dX12_line_37 : decode cX12_line 37 = .ok (.istore 5, 2) := by decide +kernel
theorem dX12_line_39 : decode cX12_line 39 = .ok (.iconst 0, 1) := by decide +kernel
theorem dX12_line_40 : decode cX12_line 40 = .ok (.istore 6, 2) := by decide +kernel
theorem dX12_line_42 : decode cX12_line 42 = .ok (.iload 6, 2) := by decide +kernel
theorem dX12_line_44 : decode cX12_line 44 = .ok (.aload_n 0, 1) := by decide +kernel
theorem dX12_line_45 : decode cX12_line 45 = .ok (.getfield 41, 3) := by decide +kernel
theorem dX12_line_48 : decode cX12_line 48 = .ok (.iload 4, 2) := by decide +kernel
theorem dX12_line_50 : decode cX12_line 50 = .ok (.iaload, 1) := by decide +kernel
theorem dX12_line_51 : decode cX12_line 51 = .ok (.if_icmp .ge 59, 3) := by decide +kernel
theorem dX12_line_54 : decode cX12_line 54 = .ok (.iload 5, 2) := by decide +kernel
theorem dX12_line_56 : decode cX12_line 56 = .ok (.aload_n 0, 1) := by decide +kernel
theorem dX12_line_57 : decode cX12_line 57 = .ok (.getfield 47, 3) := by decide +kernel
theorem dX12_line_60 : decode cX12_line 60 = .ok (.iconst 5, 1) := by decide +kernel
theorem dX12_line_61 : decode cX12_line 61 = .ok (.iload 4, 2) := by decide +kernel
theorem dX12_line_63 : decode cX12_line 63 = .ok (.imul, 1) := by decide +kernel
theorem dX12_line_64 : decode cX12_line 64 = .ok (.iload 6, 2) := by decide +kernel
theorem dX12_line_66 : decode cX12_line 66 = .ok (.iadd, 1) := by decide +kernel
theorem dX12_line_67 : decode cX12_line 67 = .ok (.iaload, 1) := by decide +kernel
theorem dX12_line_68 : decode cX12_line 68 = .ok (.bipush 10, 2) := by decide +kernel
theorem dX12_line_70 : decode cX12_line 70 = .ok (.if_icmp .ne 7, 3) := by decide +kernel
theorem dX12_line_73 : decode cX12_line 73 = .ok (.iconst 1, 1) := by decide +kernel
theorem dX12_line_74 : decode cX12_line 74 = .ok (.goto 4, 3) := by decide +kernel
theorem dX12_line_77 : decode cX12_line 77 = .ok (.iconst 0, 1) := by decide +kernel
theorem dX12_line_78 : decode cX12_line 78 = .ok (.aload_n 0, 1) := by decide +kernel
theorem dX12_line_79 : decode cX12_line 79 = .ok (.getfield 50, 3) := by decide +kernel
theorem dX12_line_82 : decode cX12_line 82 = .ok (.iconst 5, 1) := by decide +kernel
theorem dX12_line_83 : decode cX12_line 83 = .ok (.iload 4, 2) := by decide +kernel
theorem dX12_line_85 : decode cX12_line 85 = .ok (.imul, 1) := by decide +kernel
theorem dX12_line_86 : decode cX12_line 86 = .ok (.iload 6, 2) := by decide +kernel
theorem dX12_line_88 : decode cX12_line 88 = .ok (.iadd, 1) := by decide +kernel
theorem dX12_line_89 : decode cX12_line 89 = .ok (.iaload, 1) := by decide +kernel
theorem dX12_line_90 : decode cX12_line 90 = .ok (.bipush 10, 2) := by decide +kernel
theorem dX12_line_92 : decode cX12_line 92 = .ok (.if_icmp .ne 7, 3) := by decide +kernel
theorem dX12_line_95 : decode cX12_line 95 = .ok (.iconst 1, 1) := by decide +kernel
theorem dX12_line_96 : decode cX12_line 96 = .ok (.goto 4, 3) := by decide +kernel
theorem dX12_line_99 : decode cX12_line 99 = .ok (.iconst 0, 1) := by decide +kernel
theorem dX12_line_100 : decode cX12_line 100 = .ok (.iadd, 1) := by decide +kernel
theorem dX12_line_101 : decode cX12_line 101 = .ok (.iadd, 1) := by decide +kernel
theorem dX12_line_102 : decode cX12_line 102 = .ok (.istore 5, 2) := by decide +kernel
theorem dX12_line_104 : decode cX12_line 104 = .ok (.iinc 6 1, 3) := by decide +kernel
theorem dX12_line_107 : decode cX12_line 107 = .ok (.goto (-65), 3) := by decide +kernel
theorem dX12_line_110 : decode cX12_line 110 = .ok (.iload_n 3, 1) := by decide +kernel
theorem dX12_line_111 : decode cX12_line 111 = .ok (.iconst 3, 1) := by decide +kernel
theorem dX12_line_112 : decode cX12_line 112 = .ok (.if_icmp .ge 35, 3) := by decide +kernel
theorem dX12_line_115 : decode cX12_line 115 = .ok (.iload_n 3, 1) := by decide +kernel
theorem dX12_line_116 : decode cX12_line 116 = .ok (.ifCond .ne 13, 3) := by decide +kernel
theorem dX12_line_119 : decode cX12_line 119 = .ok (.aload_n 0, 1) := by decide +kernel
theorem dX12_line_120 : decode cX12_line 120 = .ok (.getfield 35, 3) := by decide +kernel
theorem dX12_line_123 : decode cX12_line 123 = .ok (.iload 4, 2) := by decide +kernel
theorem dX12_line_125 : decode cX12_line 125 = .ok (.iaload, 1) := by decide +kernel
theorem dX12_line_126 : decode cX12_line 126 = .ok (.goto 20, 3) := by decide +kernel
theorem dX12_line_129 : decode cX12_line 129 = .ok (.iload_n 3, 1) := by decide +kernel
theorem dX12_line_130 : decode cX12_line 130 = .ok (.iconst 1, 1) := by decide +kernel
theorem dX12_line_131 : decode cX12_line 131 = .ok (.if_icmp .ne 13, 3) := by decide +kernel
theorem dX12_line_134 : decode cX12_line 134 = .ok (.aload_n 0, 1) := by decide +kernel
theorem dX12_line_135 : decode cX12_line 135 = .ok (.getfield 38, 3) := by decide +kernel
theorem dX12_line_138 : decode cX12_line 138 = .ok (.iload 4, 2) := by decide +kernel
theorem dX12_line_140 : decode cX12_line 140 = .ok (.iaload, 1) := by decide +kernel
theorem dX12_line_141 : decode cX12_line 141 = .ok (.goto 5, 3) := by decide +kernel
theorem dX12_line_144 : decode cX12_line 144 = .ok (.iload 5, 2) := by decide +kernel
theorem dX12_line_146 : decode cX12_line 146 = .ok (.ireturn, 1) := by decide +kernel
theorem dX12_line_147 : decode cX12_line 147 = .ok (.iload 5, 2) := by decide +kernel
theorem dX12_line_149 : decode cX12_line 149 = .ok (.ifCond .le 5, 3) := by decide +kernel
theorem dX12_line_152 : decode cX12_line 152 = .ok (.iconst (-1), 1) := by decide +kernel
theorem dX12_line_153 : decode cX12_line 153 = .ok (.ireturn, 1) := by decide +kernel
theorem dX12_line_154 : decode cX12_line 154 = .ok (.iconst 0, 1) := by decide +kernel
theorem dX12_line_155 : decode cX12_line 155 = .ok (.istore 6, 2) := by decide +kernel
theorem dX12_line_157 : decode cX12_line 157 = .ok (.iconst 0, 1) := by decide +kernel
theorem dX12_line_158 : decode cX12_line 158 = .ok (.istore 7, 2) := by decide +kernel
theorem dX12_line_160 : decode cX12_line 160 = .ok (.iload 7, 2) := by decide +kernel
theorem dX12_line_162 : decode cX12_line 162 = .ok (.aload_n 0, 1) := by decide +kernel
theorem dX12_line_163 : decode cX12_line 163 = .ok (.getfield 41, 3) := by decide +kernel
theorem dX12_line_166 : decode cX12_line 166 = .ok (.iload 4, 2) := by decide +kernel
theorem dX12_line_168 : decode cX12_line 168 = .ok (.iaload, 1) := by decide +kernel
theorem dX12_line_169 : decode cX12_line 169 = .ok (.if_icmp .ge 81, 3) := by decide +kernel
theorem dX12_line_172 : decode cX12_line 172 = .ok (.iconst 5, 1) := by decide +kernel
theorem dX12_line_173 : decode cX12_line 173 = .ok (.iload 4, 2) := by decide +kernel
theorem dX12_line_175 : decode cX12_line 175 = .ok (.imul, 1) := by decide +kernel
theorem dX12_line_176 : decode cX12_line 176 = .ok (.iload 7, 2) := by decide +kernel
theorem dX12_line_178 : decode cX12_line 178 = .ok (.iadd, 1) := by decide +kernel
theorem dX12_line_179 : decode cX12_line 179 = .ok (.istore 8, 2) := by decide +kernel
theorem dX12_line_181 : decode cX12_line 181 = .ok (.iload 6, 2) := by decide +kernel
theorem dX12_line_183 : decode cX12_line 183 = .ok (.aload_n 0, 1) := by decide +kernel
theorem dX12_line_184 : decode cX12_line 184 = .ok (.getfield 50, 3) := by decide +kernel
theorem dX12_line_187 : decode cX12_line 187 = .ok (.iload 8, 2) := by decide +kernel
theorem dX12_line_189 : decode cX12_line 189 = .ok (.iaload, 1) := by decide +kernel
theorem dX12_line_190 : decode cX12_line 190 = .ok (.iconst (-1), 1) := by decide +kernel
theorem dX12_line_191 : decode cX12_line 191 = .ok (.if_icmp .ne 13, 3) := by decide +kernel
theorem dX12_line_194 : decode cX12_line 194 = .ok (.aload_n 0, 1) := by decide +kernel
theorem dX12_line_195 : decode cX12_line 195 = .ok (.getfield 47, 3) := by decide +kernel
theorem dX12_line_198 : decode cX12_line 198 = .ok (.iload 8, 2) := by decide +kernel
theorem dX12_line_200 : decode cX12_line 200 = .ok (.iaload, 1) := by decide +kernel
theorem dX12_line_201 : decode cX12_line 201 = .ok (.goto 21, 3) := by decide +kernel
theorem dX12_line_204 : decode cX12_line 204 = .ok (.bipush 10, 2) := by decide +kernel
theorem dX12_line_206 : decode cX12_line 206 = .ok (.aload_n 0, 1) := by decide +kernel
theorem dX12_line_207 : decode cX12_line 207 = .ok (.getfield 47, 3) := by decide +kernel
theorem dX12_line_210 : decode cX12_line 210 = .ok (.iload 8, 2) := by decide +kernel
theorem dX12_line_212 : decode cX12_line 212 = .ok (.iaload, 1) := by decide +kernel
theorem dX12_line_213 : decode cX12_line 213 = .ok (.imul, 1) := by decide +kernel
theorem dX12_line_214 : decode cX12_line 214 = .ok (.aload_n 0, 1) := by decide +kernel
theorem dX12_line_215 : decode cX12_line 215 = .ok (.getfield 50, 3) := by decide +kernel
theorem dX12_line_218 : decode cX12_line 218 = .ok (.iload 8, 2) := by decide +kernel
theorem dX12_line_220 : decode cX12_line 220 = .ok (.iaload, 1) := by decide +kernel
theorem dX12_line_221 : decode cX12_line 221 = .ok (.iadd, 1) := by decide +kernel
theorem dX12_line_222 : decode cX12_line 222 = .ok (.aload_n 0, 1) := by decide +kernel
theorem dX12_line_223 : decode cX12_line 223 = .ok (.aload_n 0, 1) := by decide +kernel
theorem dX12_line_224 : decode cX12_line 224 = .ok (.getfield 38, 3) := by decide +kernel
theorem dX12_line_227 : decode cX12_line 227 = .ok (.iload 4, 2) := by decide +kernel
theorem dX12_line_229 : decode cX12_line 229 = .ok (.iaload, 1) := by decide +kernel
theorem dX12_line_230 : decode cX12_line 230 = .ok (.aload_n 0, 1) := by decide +kernel
theorem dX12_line_231 : decode cX12_line 231 = .ok (.getfield 53, 3) := by decide +kernel
theorem dX12_line_234 : decode cX12_line 234 = .ok (.iload 8, 2) := by decide +kernel
theorem dX12_line_236 : decode cX12_line 236 = .ok (.iaload, 1) := by decide +kernel
theorem dX12_line_237 : decode cX12_line 237 = .ok (.invokevirtual 220, 3) := by decide +kernel
theorem dX12_line_240 : decode cX12_line 240 = .ok (.imul, 1) := by decide +kernel
theorem dX12_line_241 : decode cX12_line 241 = .ok (.iadd, 1) := by decide +kernel
theorem dX12_line_242 : decode cX12_line 242 = .ok (.istore 6, 2) := by decide +kernel
theorem dX12_line_244 : decode cX12_line 244 = .ok (.iinc 7 1, 3) := by decide +kernel
theorem dX12_line_247 : decode cX12_line 247 = .ok (.goto (-87), 3) := by decide +kernel
theorem dX12_line_250 : decode cX12_line 250 = .ok (.iload 6, 2) := by decide +kernel
theorem dX12_line_252 : decode cX12_line 252 = .ok (.ireturn, 1) := by decide +kernel
set_option maxRecDepth 20000 in
theorem ggX12_lines_X12_isTablet : GoodIn wsX12_lines wsX12_isTablet := goodIn_r _ [7, 8, 9, 10, 11, 12, 13, 14, 15, 16, 17, 18, 19, 20, 21, 22, 23, 24, 25, 26, 27, 28, 29, 30, 31, 32, 33, 34, 35, 36, 37, 38, 39, 40, 41, 42, 43, 44, 45, 46, 47, 48, 49, 50, 51, 52, 53, 54, 55, 56, 57, 58, 59] (by decide +kernel) (by decide +kernel)
set_option maxRecDepth 20000 in
theorem gX12_lines_X12_isTablet : GoodIn wsX12_lines (wsV RX12 257 RX12 yX12_isTablet wsX12_isTablet) := goodIn_app (goodIn_of _ (by decide +kernel)) ggX12_lines_X12_isTablet
theorem dX12_lines_0 : decode cX12_lines 0 = .ok (.aload_n 0, 1) := by decide +kernel
theorem dX12_lines_1 : decode cX12_lines 1 = .ok (.iconst 0, 1) := by decide +kernel
theorem dX12_lines_2 : decode cX12_lines 2 = .ok (.putfield 86, 3) := by decide +kernel
theorem dX12_lines_5 : decode cX12_lines 5 = .ok (.aload_n 0, 1) := by decide +kernel
theorem dX12_lines_6 : decode cX12_lines 6 = .ok (.iload_n 1, 1) := by decide +kernel
theorem dX12_lines_7 : decode cX12_lines 7 = .ok (.invokevirtual 257, 3) := by decide +kernel
theorem dX12_lines_10 : decode cX12_lines 10 = .ok (.ifCond .eq 12, 3) := by decide +kernel
theorem dX12_lines_13 : decode cX12_lines 13 = .ok (.aload_n 0, 1) := by decide +kernel
theorem dX12_lines_14 : decode cX12_lines 14 = .ok (.getfield 32, 3) := by decide +kernel
theorem dX12_lines_17 : decode cX12_lines 17 = .ok (.iload_n 1, 1) := by decide +kernel
theorem dX12_lines_18 : decode cX12_lines 18 = .ok (.iaload, 1) := by decide +kernel
theorem dX12_lines_19 : decode cX12_lines 19 = .ok (.goto 4, 3) := by decide +kernel
theorem dX12_lines_22 : decode cX12_lines 22 = .ok (.iconst (-1), 1) := by decide +kernel
theorem dX12_lines_23 : decode cX12_lines 23 = .ok (.ireturn, 1) := by decide +kernel
set_option maxRecDepth 20000 in
theorem ggX12_readings_X12_isTablet : GoodIn wsX12_readings wsX12_isTablet := goodIn_r _ [7, 8, 52, 53, 54, 55, 56, 57, 58, 59, 60, 61, 62, 63, 64, 65, 66, 67, 68, 69, 70, 71, 72, 73, 74, 75, 76, 77, 78, 79, 80, 81, 82, 83, 84, 85, 86, 87, 88, 89, 90, 91, 92, 93, 94, 95, 96, 97, 98, 99, 100, 101, 102] (by decide +kernel) (by decide +kernel)
set_option maxRecDepth 20000 in
theorem gX12_readings_X12_isTablet : GoodIn wsX12_readings (wsV RX12 257 RX12 yX12_isTablet wsX12_isTablet) := goodIn_app (goodIn_of _ (by decide +kernel)) ggX12_readings_X12_isTablet
theorem dX12_readings_0 : decode cX12_readings 0 = .ok (.aload_n 0, 1) := by decide +kernel
theorem dX12_readings_1 : decode cX12_readings 1 = .ok (.iconst 0, 1) := by decide +kernel
theorem dX12_readings_2 : decode cX12_readings 2 = .ok (.putfield 86, 3) := by decide +kernel
theorem dX12_readings_5 : decode cX12_readings 5 = .ok (.aload_n 0, 1) := by decide +kernel
theorem dX12_readings_6 : decode cX12_readings 6 = .ok (.iload_n 1, 1) := by decide +kernel
theorem dX12_readings_7 : decode cX12_readings 7 = .ok (.invokevirtual 257, 3) := by decide +kernel
theorem dX12_readings_10 : decode cX12_readings 10 = .ok (.ifCond .ne 5, 3) := by decide +kernel
theorem dX12_readings_13 : decode cX12_readings 13 = .ok (.iconst (-1), 1) := by decide +kernel
theorem dX12_readings_14 : decode cX12_readings 14 = .ok (.ireturn, 1) := by decide +kernel
theorem dX12_readings_15 : decode cX12_readings 15 = .ok (.aload_n 0, 1) := by decide +kernel
theorem dX12_readings_16 : decode cX12_readings 16 = .ok (.iload_n 1, 1) := by decide +kernel
theorem dX12_readings_17 : decode cX12_readings 17 = .ok (.iconst (-1), 1) := by decide +kernel
theorem dX12_readings_18 : decode cX12_readings 18 = .ok (.iconst (-1), 1) := by decide +kernel
theorem dX12_readings_19 : decode cX12_readings 19 = .ok (.invokevirtual 284, 3) := by decide +kernel
theorem dX12_readings_22 : decode cX12_readings 22 = .ok (.aload_n 0, 1) := by decide +kernel
theorem dX12_readings_23 : decode cX12_readings 23 = .ok (.getfield 260, 3) := by decide +kernel
theorem dX12_readings_26 : decode cX12_readings 26 = .ok (.ireturn, 1) := by decide +kernel
set_option maxRecDepth 20000 in
theorem ggX12_bound_X12_isLine : GoodIn wsX12_bound wsX12_isLine := goodIn_r _ [9, 10, 11, 12, 13, 8, 14, 15, 60, 61, 62, 63, 64, 65, 66, 67, 68, 69, 70, 71, 72, 73, 74, 75, 76, 77, 78, 79, 80, 81, 82, 83, 84, 85, 86, 87, 88, 89, 90, 91, 92, 93, 94, 95, 96, 97, 98, 99, 100, 101, 102, 103, 104, 105, 106, 107, 108, 109, 110] (by decide +kernel) (by decide +kernel)
set_option maxRecDepth 20000 in
theorem gX12_bound_X12_isLine : GoodIn wsX12_bound (wsV RX12 281 RX12 yX12_isLine wsX12_isLine) := goodIn_app (goodIn_of _ (by decide +kernel)) ggX12_bound_X12_isLine
set_option maxRecDepth 20000 in
theorem ggX12_bound_X12_refuse : GoodIn wsX12_bound wsX12_refuse := goodIn_r _ [19, 1, 60, 61, 62, 63, 64, 65, 66, 67, 68, 69, 70, 71, 72, 73, 74, 75, 76, 77, 78, 79, 80, 81, 82, 83, 84, 85, 86, 87, 88, 89, 90, 91, 92, 93, 94, 95, 96, 97, 98, 99, 100, 101, 102, 103, 104, 105, 106, 107, 108, 109, 110] (by decide +kernel) (by decide +kernel)
set_option maxRecDepth 20000 in
theorem gX12_bound_X12_refuse : GoodIn wsX12_bound (wsV RX12 210 RX12 yX12_refuse wsX12_refuse) := goodIn_app (goodIn_of _ (by decide +kernel)) ggX12_bound_X12_refuse
theorem dX12_bound_0 : decode cX12_bound 0 = .ok (.aload_n 0, 1) := by decide +kernel
theorem dX12_bound_1 : decode cX12_bound 1 = .ok (.iload_n 1, 1) := by decide +kernel
theorem dX12_bound_2 : decode cX12_bound 2 = .ok (.iload_n 2, 1) := by decide +kernel
theorem dX12_bound_3 : decode cX12_bound 3 = .ok (.invokevirtual 281, 3) := by decide +kernel
theorem dX12_bound_6 : decode cX12_bound 6 = .ok (.ifCond .ne 8, 3) := by decide +kernel
theorem dX12_bound_9 : decode cX12_bound 9 = .ok (.aload_n 0, 1) := by decide +kernel
theorem dX12_bound_10 : decode cX12_bound 10 = .ok (.invokevirtual 210, 3) := by decide +kernel
theorem dX12_bound_13 : decode cX12_bound 13 = .ok (.ireturn, 1) := by decide +kernel
theorem dX12_bound_14 : decode cX12_bound 14 = .ok (.aload_n 0, 1) := by decide +kernel
theorem dX12_bound_15 : decode cX12_bound 15 = .ok (.iconst 0, 1) := by decide +kernel
theorem dX12_bound_16 : decode cX12_bound 16 = .ok (.putfield 86, 3) := by decide +kernel
theorem dX12_bound_19 : decode cX12_bound 19 = .ok (.aload_n 0, 1) := by decide +kernel
theorem dX12_bound_20 : decode cX12_bound 20 = .ok (.iload_n 1, 1) := by decide +kernel
theorem dX12_bound_21 : decode cX12_bound 21 = .ok (.iload_n 2, 1) := by decide +kernel
theorem dX12_bound_22 : decode cX12_bound 22 = .ok (.iconst (-1), 1) := by decide +kernel
theorem dX12_bound_23 : decode cX12_bound 23 = .ok (.invokevirtual 284, 3) := by decide +kernel
theorem dX12_bound_26 : decode cX12_bound 26 = .ok (.aload_n 0, 1) := by decide +kernel
theorem dX12_bound_27 : decode cX12_bound 27 = .ok (.getfield 260, 3) := by decide +kernel
theorem dX12_bound_30 : decode cX12_bound 30 = .ok (.ifCond .ne 7, 3) := by decide +kernel
theorem dX12_bound_33 : decode cX12_bound 33 = .ok (.iconst (-1), 1) := by decide +kernel
theorem dX12_bound_34 : decode cX12_bound 34 = .ok (.goto 19, 3) := by decide +kernel
theorem dX12_bound_37 : decode cX12_bound 37 = .ok (.iload_n 3, 1) := by decide +kernel
theorem dX12_bound_38 : decode cX12_bound 38 = .ok (.ifCond .eq 10, 3) := by decide +kernel
theorem dX12_bound_41 : decode cX12_bound 41 = .ok (.aload_n 0, 1) := by decide +kernel
theorem dX12_bound_42 : decode cX12_bound 42 = .ok (.getfield 278, 3) := by decide +kernel
theorem dX12_bound_45 : decode cX12_bound 45 = .ok (.goto 7, 3) := by decide +kernel
theorem dX12_bound_48 : decode cX12_bound 48 = .ok (.aload_n 0, 1) := by decide +kernel
theorem dX12_bound_49 : decode cX12_bound 49 = .ok (.getfield 275, 3) := by decide +kernel
theorem dX12_bound_52 : decode cX12_bound 52 = .ok (.l2i, 1) := by decide +kernel
theorem dX12_bound_53 : decode cX12_bound 53 = .ok (.ireturn, 1) := by decide +kernel
set_option maxRecDepth 20000 in
theorem ggX12_digit_X12_isTablet : GoodIn wsX12_digit wsX12_isTablet := goodIn_r _ [9, 10, 56, 57, 58, 59, 60, 61, 62, 63, 64, 65, 66, 67, 68, 69, 70, 71, 72, 73, 74, 75, 76, 77, 78, 79, 80, 81, 82, 83, 84, 85, 86, 87, 88, 89, 90, 91, 92, 93, 94, 95, 96, 97, 98, 99, 100, 101, 102, 103, 104, 105, 106] (by decide +kernel) (by decide +kernel)
set_option maxRecDepth 20000 in
theorem gX12_digit_X12_isTablet : GoodIn wsX12_digit (wsV RX12 257 RX12 yX12_isTablet wsX12_isTablet) := goodIn_app (goodIn_of _ (by decide +kernel)) ggX12_digit_X12_isTablet
set_option maxRecDepth 20000 in
theorem ggX12_digit_X12_refuse : GoodIn wsX12_digit wsX12_refuse := goodIn_r _ [14, 2, 56, 57, 58, 59, 60, 61, 62, 63, 64, 65, 66, 67, 68, 69, 70, 71, 72, 73, 74, 75, 76, 77, 78, 79, 80, 81, 82, 83, 84, 85, 86, 87, 88, 89, 90, 91, 92, 93, 94, 95, 96, 97, 98, 99, 100, 101, 102, 103, 104, 105, 106] (by decide +kernel) (by decide +kernel)
set_option maxRecDepth 20000 in
theorem gX12_digit_X12_refuse : GoodIn wsX12_digit (wsV RX12 210 RX12 yX12_refuse wsX12_refuse) := goodIn_app (goodIn_of _ (by decide +kernel)) ggX12_digit_X12_refuse
theorem dX12_digit_0 : decode cX12_digit 0 = .ok (.aload_n 0, 1) := by decide +kernel
theorem dX12_digit_1 : decode cX12_digit 1 = .ok (.iload_n 1, 1) := by decide +kernel
theorem dX12_digit_2 : decode cX12_digit 2 = .ok (.invokevirtual 257, 3) := by decide +kernel
theorem dX12_digit_5 : decode cX12_digit 5 = .ok (.ifCond .eq 17, 3) := by decide +kernel
theorem dX12_digit_8 : decode cX12_digit 8 = .ok (.iload_n 2, 1) := by decide +kernel
theorem dX12_digit_9 : decode cX12_digit 9 = .ok (.ifCond .lt 13, 3) := by decide +kernel
theorem dX12_digit_12 : decode cX12_digit 12 = .ok (.iload_n 2, 1) := by decide +kernel
theorem dX12_digit_13 : decode cX12_digit 13 = .ok (.aload_n 0, 1) := by decide +kernel
theorem dX12_digit_14 : decode cX12_digit 14 = .ok (.getfield 44, 3) := by decide +kernel
theorem dX12_digit_17 : decode cX12_digit 17 = .ok (.iload_n 1, 1) := by decide +kernel
theorem dX12_digit_18 : decode cX12_digit 18 = .ok (.iaload, 1) := by decide +kernel
theorem dX12_digit_19 : decode cX12_digit 19 = .ok (.if_icmp .lt 8, 3) := by decide +kernel
theorem dX12_digit_22 : decode cX12_digit 22 = .ok (.aload_n 0, 1) := by decide +kernel
theorem dX12_digit_23 : decode cX12_digit 23 = .ok (.invokevirtual 210, 3) := by decide +kernel
theorem dX12_digit_26 : decode cX12_digit 26 = .ok (.ireturn, 1) := by decide +kernel
theorem dX12_digit_27 : decode cX12_digit 27 = .ok (.aload_n 0, 1) := by decide +kernel
theorem dX12_digit_28 : decode cX12_digit 28 = .ok (.iconst 0, 1) := by decide +kernel
theorem dX12_digit_29 : decode cX12_digit 29 = .ok (.putfield 86, 3) := by decide +kernel
theorem dX12_digit_32 : decode cX12_digit 32 = .ok (.aload_n 0, 1) := by decide +kernel
theorem dX12_digit_33 : decode cX12_digit 33 = .ok (.iload_n 1, 1) := by decide +kernel
theorem dX12_digit_34 : decode cX12_digit 34 = .ok (.iconst (-1), 1) := by decide +kernel
theorem dX12_digit_35 : decode cX12_digit 35 = .ok (.iload_n 2, 1) := by decide +kernel
theorem dX12_digit_36 : decode cX12_digit 36 = .ok (.invokevirtual 284, 3) := by decide +kernel
theorem dX12_digit_39 : decode cX12_digit 39 = .ok (.aload_n 0, 1) := by decide +kernel
theorem dX12_digit_40 : decode cX12_digit 40 = .ok (.getfield 260, 3) := by decide +kernel
theorem dX12_digit_43 : decode cX12_digit 43 = .ok (.ifCond .eq 12, 3) := by decide +kernel
theorem dX12_digit_46 : decode cX12_digit 46 = .ok (.aload_n 0, 1) := by decide +kernel
theorem dX12_digit_47 : decode cX12_digit 47 = .ok (.getfield 263, 3) := by decide +kernel
theorem dX12_digit_50 : decode cX12_digit 50 = .ok (.bipush 10, 2) := by decide +kernel
theorem dX12_digit_52 : decode cX12_digit 52 = .ok (.if_icmp .ne 7, 3) := by decide +kernel
theorem dX12_digit_55 : decode cX12_digit 55 = .ok (.iconst (-1), 1) := by decide +kernel
theorem dX12_digit_56 : decode cX12_digit 56 = .ok (.goto 7, 3) := by decide +kernel
theorem dX12_digit_59 : decode cX12_digit 59 = .ok (.aload_n 0, 1) := by decide +kernel
theorem dX12_digit_60 : decode cX12_digit 60 = .ok (.getfield 263, 3) := by decide +kernel
theorem dX12_digit_63 : decode cX12_digit 63 = .ok (.ireturn, 1) := by decide +kernel
set_option maxRecDepth 20000 in
theorem ggX12_wrong_X12_isTablet : GoodIn wsX12_wrong wsX12_isTablet := goodIn_r _ [6, 7, 44, 45, 46, 47, 48, 49, 50, 51, 52, 53, 54, 55, 56, 57, 58, 59, 60, 61, 62, 63, 64, 65, 66, 67, 68, 69, 70, 71, 72, 73, 74, 75, 76, 77, 78, 79, 80, 81, 82, 83, 84, 85, 86, 87, 88, 89, 90, 91, 92, 93, 94] (by decide +kernel) (by decide +kernel)
set_option maxRecDepth 20000 in
theorem gX12_wrong_X12_isTablet : GoodIn wsX12_wrong (wsV RX12 257 RX12 yX12_isTablet wsX12_isTablet) := goodIn_app (goodIn_of _ (by decide +kernel)) ggX12_wrong_X12_isTablet
theorem dX12_wrong_0 : decode cX12_wrong 0 = .ok (.aload_n 0, 1) := by decide +kernel
theorem dX12_wrong_1 : decode cX12_wrong 1 = .ok (.iconst 0, 1) := by decide +kernel
theorem dX12_wrong_2 : decode cX12_wrong 2 = .ok (.putfield 86, 3) := by decide +kernel
theorem dX12_wrong_5 : decode cX12_wrong 5 = .ok (.aload_n 0, 1) := by decide +kernel
theorem dX12_wrong_6 : decode cX12_wrong 6 = .ok (.iload_n 1, 1) := by decide +kernel
theorem dX12_wrong_7 : decode cX12_wrong 7 = .ok (.invokevirtual 257, 3) := by decide +kernel
theorem dX12_wrong_10 : decode cX12_wrong 10 = .ok (.ifCond .ne 5, 3) := by decide +kernel
theorem dX12_wrong_13 : decode cX12_wrong 13 = .ok (.iconst (-1), 1) := by decide +kernel
theorem dX12_wrong_14 : decode cX12_wrong 14 = .ok (.ireturn, 1) := by decide +kernel
theorem dX12_wrong_15 : decode cX12_wrong 15 = .ok (.bipush 12, 2) := by decide +kernel
theorem dX12_wrong_17 : decode cX12_wrong 17 = .ok (.istore_n 2, 1) := by decide +kernel
theorem dX12_wrong_18 : decode cX12_wrong 18 = .ok (.iconst 0, 1) := by decide +kernel
theorem dX12_wrong_19 : decode cX12_wrong 19 = .ok (.istore_n 3, 1) := by decide +kernel
theorem dX12_wrong_20 : decode cX12_wrong 20 = .ok (.iload_n 3, 1) := by decide +kernel
theorem dX12_wrong_21 : decode cX12_wrong 21 = .ok (.aload_n 0, 1) := by decide +kernel
theorem dX12_wrong_22 : decode cX12_wrong 22 = .ok (.iload_n 1, 1) := by decide +kernel
theorem dX12_wrong_23 : decode cX12_wrong 23 = .ok (.invokevirtual 266, 3) := by decide +kernel
theorem dX12_wrong_26 : decode cX12_wrong 26 = .ok (.if_icmp .ge 37, 3) := by decide +kernel
theorem dX12_wrong_29 : decode cX12_wrong 29 = .ok (.aload_n 0, 1) := by decide +kernel
theorem dX12_wrong_30 : decode cX12_wrong 30 = .ok (.iload_n 1, 1) := by decide +kernel
theorem dX12_wrong_31 : decode cX12_wrong 31 = .ok (.iload_n 3, 1) := by decide +kernel
theorem dX12_wrong_32 : decode cX12_wrong 32 = .ok (.invokevirtual 269, 3) := by decide +kernel
theorem dX12_wrong_35 : decode cX12_wrong 35 = .ok (.ifCond .ne 6, 3) := by decide +kernel
theorem dX12_wrong_38 : decode cX12_wrong 38 = .ok (.goto 19, 3) := by decide +kernel
theorem dX12_wrong_41 : decode cX12_wrong 41 = .ok (.aload_n 0, 1) := by decide +kernel
theorem dX12_wrong_42 : decode cX12_wrong 42 = .ok (.iload_n 1, 1) := by decide +kernel
theorem dX12_wrong_43 : decode cX12_wrong 43 = .ok (.invokevirtual 272, 3) := by decide +kernel
theorem dX12_wrong_46 : decode cX12_wrong 46 = .ok (.istore 4, 2) := by decide +kernel
theorem dX12_wrong_48 : decode cX12_wrong 48 = .ok (.iload 4, 2) := by decide +kernel
theorem dX12_wrong_50 : decode cX12_wrong 50 = .ok (.iload_n 2, 1) := by decide +kernel
theorem dX12_wrong_51 : decode cX12_wrong 51 = .ok (.if_icmp .ge 6, 3) := by decide +kernel
theorem dX12_wrong_54 : decode cX12_wrong 54 = .ok (.iload 4, 2) := by decide +kernel
theorem dX12_wrong_56 : decode cX12_wrong 56 = .ok (.istore_n 2, 1) := by decide +kernel
theorem dX12_wrong_57 : decode cX12_wrong 57 = .ok (.iinc 3 1, 3) := by decide +kernel
theorem dX12_wrong_60 : decode cX12_wrong 60 = .ok (.goto (-40), 3) := by decide +kernel
theorem dX12_wrong_63 : decode cX12_wrong 63 = .ok (.iload_n 2, 1) := by decide +kernel
theorem dX12_wrong_64 : decode cX12_wrong 64 = .ok (.ireturn, 1) := by decide +kernel
theorem dX12_isEdge_0 : decode cX12_isEdge 0 = .ok (.iload_n 0, 1) := by decide +kernel
theorem dX12_isEdge_1 : decode cX12_isEdge 1 = .ok (.ifCond .lt 14, 3) := by decide +kernel
theorem dX12_isEdge_4 : decode cX12_isEdge 4 = .ok (.iload_n 0, 1) := by decide +kernel
theorem dX12_isEdge_5 : decode cX12_isEdge 5 = .ok (.ldc_w 288, 3) := by decide +kernel
theorem dX12_isEdge_8 : decode cX12_isEdge 8 = .ok (.if_icmp .gt 7, 3) := by decide +kernel
theorem dX12_isEdge_11 : decode cX12_isEdge 11 = .ok (.iconst 1, 1) := by decide +kernel
theorem dX12_isEdge_12 : decode cX12_isEdge 12 = .ok (.goto 4, 3) := by decide +kernel
theorem dX12_isEdge_15 : decode cX12_isEdge 15 = .ok (.iconst 0, 1) := by decide +kernel
theorem dX12_isEdge_16 : decode cX12_isEdge 16 = .ok (.ireturn, 1) := by decide +kernel
set_option maxRecDepth 20000 in
theorem ggX12_fragment_X12_isEdge : GoodIn wsX12_fragment wsX12_isEdge := goodIn_r _ [13, 14] (by decide +kernel) (by decide +kernel)
set_option maxRecDepth 20000 in
theorem gX12_fragment_X12_isEdge : GoodIn wsX12_fragment (va_wsS RX12 292 yX12_isEdge wsX12_isEdge) := goodIn_app (goodIn_of _ (by decide +kernel)) ggX12_fragment_X12_isEdge
theorem dX12_fragment_0 : decode cX12_fragment 0 = .ok (.aload_n 0, 1) := by decide +kernel
theorem dX12_fragment_1 : decode cX12_fragment 1 = .ok (.iconst 0, 1) := by decide +kernel
theorem dX12_fragment_2 : decode cX12_fragment 2 = .ok (.putfield 86, 3) := by decide +kernel
theorem dX12_fragment_5 : decode cX12_fragment 5 = .ok (.aload_n 0, 1) := by decide +kernel
theorem dX12_fragment_6 : decode cX12_fragment 6 = .ok (.getfield 90, 3) := by decide +kernel
theorem dX12_fragment_9 : decode cX12_fragment 9 = .ok (.istore_n 3, 1) := by decide +kernel
theorem dX12_fragment_10 : decode cX12_fragment 10 = .ok (.aload_n 0, 1) := by decide +kernel
theorem dX12_fragment_11 : decode cX12_fragment 11 = .ok (.iconst 0, 1) := by decide +kernel
theorem dX12_fragment_12 : decode cX12_fragment 12 = .ok (.putfield 90, 3) := by decide +kernel
theorem dX12_fragment_15 : decode cX12_fragment 15 = .ok (.aload_n 0, 1) := by decide +kernel
theorem dX12_fragment_16 : decode cX12_fragment 16 = .ok (.getfield 289, 3) := by decide +kernel
theorem dX12_fragment_19 : decode cX12_fragment 19 = .ok (.bipush 12, 2) := by decide +kernel
theorem dX12_fragment_21 : decode cX12_fragment 21 = .ok (.if_icmp .eq 24, 3) := by decide +kernel
theorem dX12_fragment_24 : decode cX12_fragment 24 = .ok (.iload_n 1, 1) := by decide +kernel
theorem dX12_fragment_25 : decode cX12_fragment 25 = .ok (.invokestatic 292, 3) := by decide +kernel
theorem dX12_fragment_28 : decode cX12_fragment 28 = .ok (.ifCond .eq 17, 3) := by decide +kernel
theorem dX12_fragment_31 : decode cX12_fragment 31 = .ok (.iload_n 2, 1) := by decide +kernel
theorem dX12_fragment_32 : decode cX12_fragment 32 = .ok (.invokestatic 292, 3) := by decide +kernel
theorem dX12_fragment_35 : decode cX12_fragment 35 = .ok (.ifCond .eq 10, 3) := by decide +kernel
theorem dX12_fragment_38 : decode cX12_fragment 38 = .ok (.iload_n 3, 1) := by decide +kernel
theorem dX12_fragment_39 : decode cX12_fragment 39 = .ok (.sipush 200, 3) := by decide +kernel
theorem dX12_fragment_42 : decode cX12_fragment 42 = .ok (.if_icmp .le 5, 3) := by decide +kernel
theorem dX12_fragment_45 : decode cX12_fragment 45 = .ok (.iconst (-1), 1) := by decide +kernel
theorem dX12_fragment_46 : decode cX12_fragment 46 = .ok (.ireturn, 1) := by decide +kernel
theorem dX12_fragment_47 : decode cX12_fragment 47 = .ok (.aload_n 0, 1) := by decide +kernel
theorem dX12_fragment_48 : decode cX12_fragment 48 = .ok (.getfield 289, 3) := by decide +kernel
theorem dX12_fragment_51 : decode cX12_fragment 51 = .ok (.istore 4, 2) := by decide +kernel
theorem dX12_fragment_53 : decode cX12_fragment 53 = .ok (.aload_n 0, 1) := by decide +kernel
theorem dX12_fragment_54 : decode cX12_fragment 54 = .ok (.getfield 74, 3) := by decide +kernel
theorem dX12_fragment_57 : decode cX12_fragment 57 = .ok (.iload 4, 2) := by decide +kernel
theorem dX12_fragment_59 : decode cX12_fragment 59 = .ok (.iconst 1, 1) := by decide +kernel
theorem dX12_fragment_60 : decode cX12_fragment 60 = .ok (.iastore, 1) := by decide +kernel
theorem dX12_fragment_61 : decode cX12_fragment 61 = .ok (.iconst 0, 1) := by decide +kernel
theorem dX12_fragment_62 : decode cX12_fragment 62 = .ok (.istore 5, 2) := by decide +kernel
theorem dX12_fragment_64 : decode cX12_fragment 64 = .ok (.iload 5, 2) := by decide +kernel
theorem dX12_fragment_66 : decode cX12_fragment 66 = .ok (.iload_n 3, 1) := by decide +kernel
theorem dX12_fragment_67 : decode cX12_fragment 67 = .ok (.if_icmp .ge 53, 3) := by decide +kernel
theorem dX12_fragment_70 : decode cX12_fragment 70 = .ok (.aload_n 0, 1) := by decide +kernel
theorem dX12_fragment_71 : decode cX12_fragment 71 = .ok (.getfield 62, 3) := by decide +kernel
theorem dX12_fragment_74 : decode cX12_fragment 74 = .ok (.sipush 200, 3) := by decide +kernel
theorem dX12_fragment_77 : decode cX12_fragment 77 = .ok (.iload 4, 2) := by decide +kernel
theorem dX12_fragment_79 : decode cX12_fragment 79 = .ok (.imul, 1) := by decide +kernel
theorem dX12_fragment_80 : decode cX12_fragment 80 = .ok (.iload 5, 2) := by decide +kernel
theorem dX12_fragment_82 : decode cX12_fragment 82 = .ok (.iadd, 1) := by decide +kernel
theorem dX12_fragment_83 : decode cX12_fragment 83 = .ok (.aload_n 0, 1) := by decide +kernel
theorem dX12_fragment_84 : decode cX12_fragment 84 = .ok (.getfield 7, 3) := by decide +kernel
theorem dX12_fragment_87 : decode cX12_fragment 87 = .ok (.iload 5, 2) := by decide +kernel
theorem dX12_fragment_89 : decode cX12_fragment 89 = .ok (.iaload, 1) := by decide +kernel
theorem dX12_fragment_90 : decode cX12_fragment 90 = .ok (.iastore, 1) := by decide +kernel
theorem dX12_fragment_91 : decode cX12_fragment 91 = .ok (.aload_n 0, 1) := by decide +kernel
theorem dX12_fragment_92 : decode cX12_fragment 92 = .ok (.getfield 7, 3) := by decide +kernel
theorem dX12_fragment_95 : decode cX12_fragment 95 = .ok (.iload 5, 2) := by decide +kernel
theorem dX12_fragment_97 : decode cX12_fragment 97 = .ok (.iaload, 1) := by decide +kernel
theorem dX12_fragment_98 : decode cX12_fragment 98 = .ok (.bipush 47, 2) := by decide +kernel
theorem dX12_fragment_100 : decode cX12_fragment 100 = .ok (.if_icmp .ne 14, 3) := by decide +kernel
theorem dX12_fragment_103 : decode cX12_fragment 103 = .ok (.aload_n 0, 1) := by decide +kernel
theorem dX12_fragment_104 : decode cX12_fragment 104 = .ok (.getfield 74, 3) := by decide +kernel
theorem dX12_fragment_107 : decode cX12_fragment 107 = .ok (.iload 4, 2) := by decide +kernel
theorem dX12_fragment_109 : decode cX12_fragment 109 = .ok (.dup2, 1) := by decide +kernel
theorem dX12_fragment_110 : decode cX12_fragment 110 = .ok (.iaload, 1) := by decide +kernel
theorem dX12_fragment_111 : decode cX12_fragment 111 = .ok (.iconst 1, 1) := by decide +kernel
theorem dX12_fragment_112 : decode cX12_fragment 112 = .ok (.iadd, 1) := by decide +kernel
theorem dX12_fragment_113 : decode cX12_fragment 113 = .ok (.iastore, 1) := by decide +kernel
theorem dX12_fragment_114 : decode cX12_fragment 114 = .ok (.iinc 5 1, 3) := by decide +kernel
theorem dX12_fragment_117 : decode cX12_fragment 117 = .ok (.goto (-53), 3) := by decide +kernel
theorem dX12_fragment_120 : decode cX12_fragment 120 = .ok (.aload_n 0, 1) := by decide +kernel
theorem dX12_fragment_121 : decode cX12_fragment 121 = .ok (.getfield 65, 3) := by decide +kernel
theorem dX12_fragment_124 : decode cX12_fragment 124 = .ok (.iload 4, 2) := by decide +kernel
theorem dX12_fragment_126 : decode cX12_fragment 126 = .ok (.iload_n 3, 1) := by decide +kernel
theorem dX12_fragment_127 : decode cX12_fragment 127 = .ok (.iastore, 1) := by decide +kernel
theorem dX12_fragment_128 : decode cX12_fragment 128 = .ok (.aload_n 0, 1) := by decide +kernel
theorem dX12_fragment_129 : decode cX12_fragment 129 = .ok (.getfield 68, 3) := by decide +kernel
theorem dX12_fragment_132 : decode cX12_fragment 132 = .ok (.iload 4, 2) := by decide +kernel
theorem dX12_fragment_134 : decode cX12_fragment 134 = .ok (.iload_n 1, 1) := by decide +kernel
theorem dX12_fragment_135 : decode cX12_fragment 135 = .ok (.iastore, 1) := by decide +kernel
theorem dX12_fragment_136 : decode cX12_fragment 136 = .ok (.aload_n 0, 1) := by decide +kernel
theorem dX12_fragment_137 : decode cX12_fragment 137 = .ok (.getfield 71, 3) := by decide +kernel
theorem dX12_fragment_140 : decode cX12_fragment 140 = .ok (.iload 4, 2) := by decide +kernel
theorem dX12_fragment_142 : decode cX12_fragment 142 = .ok (.iload_n 2, 1) := by decide +kernel
theorem dX12_fragment_143 : decode cX12_fragment 143 = .ok (.iastore, 1) := by decide +kernel
theorem dX12_fragment_144 : decode cX12_fragment 144 = .ok (.aload_n 0, 1) := by decide +kernel
theorem dX12_fragment_145 : decode cX12_fragment 145 = .ok (.dup, 1) := by decide +kernel
theorem dX12_fragment_146 : decode cX12_fragment 146 = .ok (.getfield 289, 3) := by decide +kernel
theorem dX12_fragment_149 : decode cX12_fragment 149 = .ok (.iconst 1, 1) := by decide +kernel
theorem dX12_fragment_150 : decode cX12_fragment 150 = .ok (.iadd, 1) := by decide +kernel
theorem dX12_fragment_151 : decode cX12_fragment 151 = .ok (.putfield 289, 3) := by decide +kernel
theorem dX12_fragment_154 : decode cX12_fragment 154 = .ok (.iload 4, 2) := by decide +kernel
theorem dX12_fragment_156 : decode cX12_fragment 156 = .ok (.ireturn, 1) := by decide +kernel
theorem dX12_isFragment_0 : decode cX12_isFragment 0 = .ok (.iload_n 1, 1) := by decide +kernel
theorem dX12_isFragment_1 : decode cX12_isFragment 1 = .ok (.ifCond .lt 15, 3) := by decide +kernel
theorem dX12_isFragment_4 : decode cX12_isFragment 4 = .ok (.iload_n 1, 1) := by decide +kernel
theorem dX12_isFragment_5 : decode cX12_isFragment 5 = .ok (.aload_n 0, 1) := by decide +kernel
theorem dX12_isFragment_6 : decode cX12_isFragment 6 = .ok (.getfield 289, 3) := by decide +kernel
theorem dX12_isFragment_9 : decode cX12_isFragment 9 = .ok (.if_icmp .ge 7, 3) := by decide +kernel
theorem dX12_isFragment_12 : decode cX12_isFragment 12 = .ok (.iconst 1, 1) := by decide +kernel
theorem dX12_isFragment_13 : decode cX12_isFragment 13 = .ok (.goto 4, 3) := by decide +kernel
theorem dX12_isFragment_16 : decode cX12_isFragment 16 = .ok (.iconst 0, 1) := by decide +kernel
theorem dX12_isFragment_17 : decode cX12_isFragment 17 = .ok (.ireturn, 1) := by decide +kernel
set_option maxRecDepth 20000 in
theorem ggX12_rows_X12_isFragment : GoodIn wsX12_rows wsX12_isFragment := goodIn_r _ [7, 8, 9, 10, 11, 12, 13, 14, 15, 16, 17, 18, 19, 20, 21, 22, 23, 24, 25, 26, 27, 28, 29, 30, 31, 32, 33, 34, 35, 36, 37, 38, 39, 40, 41, 42, 43, 44, 45, 46, 47, 48, 49, 50, 51, 52, 53, 54, 55, 56, 57, 58, 59] (by decide +kernel) (by decide +kernel)
set_option maxRecDepth 20000 in
theorem gX12_rows_X12_isFragment : GoodIn wsX12_rows (wsV RX12 295 RX12 yX12_isFragment wsX12_isFragment) := goodIn_app (goodIn_of _ (by decide +kernel)) ggX12_rows_X12_isFragment
theorem dX12_rows_0 : decode cX12_rows 0 = .ok (.aload_n 0, 1) := by decide +kernel
theorem dX12_rows_1 : decode cX12_rows 1 = .ok (.iconst 0, 1) := by decide +kernel
theorem dX12_rows_2 : decode cX12_rows 2 = .ok (.putfield 86, 3) := by decide +kernel
theorem dX12_rows_5 : decode cX12_rows 5 = .ok (.aload_n 0, 1) := by decide +kernel
theorem dX12_rows_6 : decode cX12_rows 6 = .ok (.iload_n 1, 1) := by decide +kernel
theorem dX12_rows_7 : decode cX12_rows 7 = .ok (.invokevirtual 295, 3) := by decide +kernel
theorem dX12_rows_10 : decode cX12_rows 10 = .ok (.ifCond .eq 12, 3) := by decide +kernel
theorem dX12_rows_13 : decode cX12_rows 13 = .ok (.aload_n 0, 1) := by decide +kernel
theorem dX12_rows_14 : decode cX12_rows 14 = .ok (.getfield 74, 3) := by decide +kernel
theorem dX12_rows_17 : decode cX12_rows 17 = .ok (.iload_n 1, 1) := by decide +kernel
theorem dX12_rows_18 : decode cX12_rows 18 = .ok (.iaload, 1) := by decide +kernel
theorem dX12_rows_19 : decode cX12_rows 19 = .ok (.goto 4, 3) := by decide +kernel
theorem dX12_rows_22 : decode cX12_rows 22 = .ok (.iconst (-1), 1) := by decide +kernel
theorem dX12_rows_23 : decode cX12_rows 23 = .ok (.ireturn, 1) := by decide +kernel
set_option maxRecDepth 20000 in
theorem ggX12_join_X12_isFragment : GoodIn wsX12_join wsX12_isFragment := goodIn_r _ [6, 7, 153, 154, 155, 156, 157, 158, 159, 160, 161, 162, 163, 164, 165, 166, 167, 168, 169, 170, 171, 172, 173, 174, 175, 176, 177, 178, 179, 180, 181, 182, 183, 184, 185, 186, 187, 188, 189, 190, 191, 192, 193, 194, 195, 196, 197, 198, 199, 200, 201, 202, 203] (by decide +kernel) (by decide +kernel)
set_option maxRecDepth 20000 in
theorem gX12_join_X12_isFragment : GoodIn wsX12_join (wsV RX12 295 RX12 yX12_isFragment wsX12_isFragment) := goodIn_app (goodIn_of _ (by decide +kernel)) ggX12_join_X12_isFragment
theorem dX12_join_0 : decode cX12_join 0 = .ok (.aload_n 0, 1) := by decide +kernel
theorem dX12_join_1 : decode cX12_join 1 = .ok (.iconst 0, 1) := by decide +kernel
theorem dX12_join_2 : decode cX12_join 2 = .ok (.putfield 86, 3) := by decide +kernel
theorem dX12_join_5 : decode cX12_join 5 = .ok (.aload_n 0, 1) := by decide +kernel
theorem dX12_join_6 : decode cX12_join 6 = .ok (.iload_n 1, 1) := by decide +kernel
theorem dX12_join_7 : decode cX12_join 7 = .ok (.invokevirtual 295, 3) := by decide +kernel
theorem dX12_join_10 : decode cX12_join 10 = .ok (.ifCond .eq 16, 3) := by decide +kernel
theorem dX12_join_13 : decode cX12_join 13 = .ok (.aload_n 0, 1) := by decide +kernel
theorem dX12_join_14 : decode cX12_join 14 = .ok (.iload_n 2, 1) := by decide +kernel
theorem dX12_join_15 : decode cX12_join 15 = .ok (.invokevirtual 295, 3) := by decide +kernel
theorem dX12_join_18 : decode cX12_join 18 = .ok (.ifCond .eq 8, 3) := by decide +kernel
theorem dX12_join_21 : decode cX12_join 21 = .ok (.iload_n 1, 1) := by decide +kernel
theorem dX12_join_22 : decode cX12_join 22 = .ok (.iload_n 2, 1) := by decide +kernel
theorem dX12_join_23 : decode cX12_join 23 = .ok (.if_icmp .ne 7, 3) := by decide +kernel
theorem dX12_join_26 : decode cX12_join 26 = .ok (.iconst (-1), 1) := by decide +kernel
theorem dX12_join_27 : decode cX12_join 27 = .ok (.goto 9, 3) := by decide +kernel
theorem dX12_join_30 : decode cX12_join 30 = .ok (.aload_n 0, 1) := by decide +kernel
theorem dX12_join_31 : decode cX12_join 31 = .ok (.iload_n 1, 1) := by decide +kernel
theorem dX12_join_32 : decode cX12_join 32 = .ok (.iload_n 2, 1) := by decide +kernel
theorem dX12_join_33 : decode cX12_join 33 = .ok (.invokevirtual 304, 3) := by decide +kernel
theorem dX12_join_36 : decode cX12_join 36 = .ok (.ireturn, 1) := by decide +kernel
theorem dX12_match_0 : decode cX12_match 0 = .ok (.aload_n 0, 1) := by decide +kernel
theorem dX12_match_1 : decode cX12_match 1 = .ok (.iconst 0, 1) := by decide +kernel
theorem dX12_match_2 : decode cX12_match 2 = .ok (.putfield 86, 3) := by decide +kernel
theorem dX12_match_5 : decode cX12_match 5 = .ok (.aload_n 0, 1) := by decide +kernel
theorem dX12_match_6 : decode cX12_match 6 = .ok (.getfield 289, 3) := by decide +kernel
theorem dX12_match_9 : decode cX12_match 9 = .ok (.istore_n 1, 1) := by decide +kernel
theorem dX12_match_10 : decode cX12_match 10 = .ok (.iconst 0, 1) := by decide +kernel
theorem dX12_match_11 : decode cX12_match 11 = .ok (.istore_n 2, 1) := by decide +kernel
theorem dX12_match_12 : decode cX12_match 12 = .ok (.iload_n 2, 1) := by decide +kernel
theorem dX12_match_13 : decode cX12_match 13 = .ok (.iload_n 1, 1) := by decide +kernel
theorem dX12_match_14 : decode cX12_match 14 = .ok (.if_icmp .ge 80, 3) := by decide +kernel
theorem dX12_match_17 : decode cX12_match 17 = .ok (.iload_n 2, 1) := by decide +kernel
theorem dX12_match_18 : decode cX12_match 18 = .ok (.iconst 1, 1) := by decide +kernel
theorem dX12_match_19 : decode cX12_match 19 = .ok (.iadd, 1) := by decide +kernel
theorem dX12_match_20 : decode cX12_match 20 = .ok (.istore_n 3, 1) := by decide +kernel
theorem dX12_match_21 : decode cX12_match 21 = .ok (.iload_n 3, 1) := by decide +kernel
theorem dX12_match_22 : decode cX12_match 22 = .ok (.iload_n 1, 1) := by decide +kernel
theorem dX12_match_23 : decode cX12_match 23 = .ok (.if_icmp .ge 65, 3) := by decide +kernel
theorem dX12_match_26 : decode cX12_match 26 = .ok (.aload_n 0, 1) := by decide +kernel
theorem dX12_match_27 : decode cX12_match 27 = .ok (.iload_n 2, 1) := by decide +kernel
theorem dX12_match_28 : decode cX12_match 28 = .ok (.iload_n 3, 1) := by decide +kernel
theorem dX12_match_29 : decode cX12_match 29 = .ok (.invokevirtual 304, 3) := by decide +kernel
theorem dX12_match_32 : decode cX12_match 32 = .ok (.istore 4, 2) := by decide +kernel
theorem dX12_match_34 : decode cX12_match 34 = .ok (.aload_n 0, 1) := by decide +kernel
theorem dX12_match_35 : decode cX12_match 35 = .ok (.iload_n 3, 1) := by decide +kernel
theorem dX12_match_36 : decode cX12_match 36 = .ok (.iload_n 2, 1) := by decide +kernel
theorem dX12_match_37 : decode cX12_match 37 = .ok (.invokevirtual 304, 3) := by decide +kernel
theorem dX12_match_40 : decode cX12_match 40 = .ok (.istore 5, 2) := by decide +kernel
theorem dX12_match_42 : decode cX12_match 42 = .ok (.iload 4, 2) := by decide +kernel
theorem dX12_match_44 : decode cX12_match 44 = .ok (.iload 5, 2) := by decide +kernel
theorem dX12_match_46 : decode cX12_match 46 = .ok (.if_icmp .le 8, 3) := by decide +kernel
theorem dX12_match_49 : decode cX12_match 49 = .ok (.iload 4, 2) := by decide +kernel
theorem dX12_match_51 : decode cX12_match 51 = .ok (.goto 5, 3) := by decide +kernel
theorem dX12_match_54 : decode cX12_match 54 = .ok (.iload 5, 2) := by decide +kernel
theorem dX12_match_56 : decode cX12_match 56 = .ok (.istore 6, 2) := by decide +kernel
theorem dX12_match_58 : decode cX12_match 58 = .ok (.aload_n 0, 1) := by decide +kernel
theorem dX12_match_59 : decode cX12_match 59 = .ok (.getfield 77, 3) := by decide +kernel
theorem dX12_match_62 : decode cX12_match 62 = .ok (.bipush 12, 2) := by decide +kernel
theorem dX12_match_64 : decode cX12_match 64 = .ok (.iload_n 2, 1) := by decide +kernel
theorem dX12_match_65 : decode cX12_match 65 = .ok (.imul, 1) := by decide +kernel
theorem dX12_match_66 : decode cX12_match 66 = .ok (.iload_n 3, 1) := by decide +kernel
theorem dX12_match_67 : decode cX12_match 67 = .ok (.iadd, 1) := by decide +kernel
theorem dX12_match_68 : decode cX12_match 68 = .ok (.iload 6, 2) := by decide +kernel
theorem dX12_match_70 : decode cX12_match 70 = .ok (.iconst 2, 1) := by decide +kernel
theorem dX12_match_71 : decode cX12_match 71 = .ok (.if_icmp .ne 8, 3) := by decide +kernel
theorem dX12_match_74 : decode cX12_match 74 = .ok (.bipush 101, 2) := by decide +kernel
theorem dX12_match_76 : decode cX12_match 76 = .ok (.goto 5, 3) := by decide +kernel
theorem dX12_match_79 : decode cX12_match 79 = .ok (.iload 6, 2) := by decide +kernel
theorem dX12_match_81 : decode cX12_match 81 = .ok (.iastore, 1) := by decide +kernel
theorem dX12_match_82 : decode cX12_match 82 = .ok (.iinc 3 1, 3) := by decide +kernel
theorem dX12_match_85 : decode cX12_match 85 = .ok (.goto (-64), 3) := by decide +kernel
theorem dX12_match_88 : decode cX12_match 88 = .ok (.iinc 2 1, 3) := by decide +kernel
theorem dX12_match_91 : decode cX12_match 91 = .ok (.goto (-79), 3) := by decide +kernel
theorem dX12_match_94 : decode cX12_match 94 = .ok (.aload_n 0, 1) := by decide +kernel
theorem dX12_match_95 : decode cX12_match 95 = .ok (.getfield 80, 3) := by decide +kernel
theorem dX12_match_98 : decode cX12_match 98 = .ok (.iconst 0, 1) := by decide +kernel
theorem dX12_match_99 : decode cX12_match 99 = .ok (.iconst 0, 1) := by decide +kernel
theorem dX12_match_100 : decode cX12_match 100 = .ok (.iastore, 1) := by decide +kernel
theorem dX12_match_101 : decode cX12_match 101 = .ok (.iconst 1, 1) := by decide +kernel
theorem dX12_match_102 : decode cX12_match 102 = .ok (.istore_n 2, 1) := by decide +kernel
theorem dX12_match_103 : decode cX12_match 103 = .ok (.iload_n 2, 1) := by decide +kernel
theorem dX12_match_104 : decode cX12_match 104 = .ok (.iconst 1, 1) := by decide +kernel
theorem dX12_match_105 : decode cX12_match 105 = .ok (.iload_n 1, 1) := by decide +kernel
theorem dX12_match_106 : decode cX12_match 106 = .ok (.ishl, 1) := by decide +kernel
theorem dX12_match_107 : decode cX12_match 107 = .ok (.if_icmp .ge 129, 3) := by decide +kernel
theorem dX12_match_110 : decode cX12_match 110 = .ok (.iload_n 2, 1) := by decide +kernel
theorem dX12_match_111 : decode cX12_match 111 = .ok (.invokestatic 313, 3) := by decide +kernel
theorem dX12_match_114 : decode cX12_match 114 = .ok (.istore_n 3, 1) := by decide +kernel
theorem dX12_match_115 : decode cX12_match 115 = .ok (.iload_n 2, 1) := by decide +kernel
theorem dX12_match_116 : decode cX12_match 116 = .ok (.iconst 1, 1) := by decide +kernel
theorem dX12_match_117 : decode cX12_match 117 = .ok (.iload_n 3, 1) := by decide +kernel
theorem dX12_match_118 : decode cX12_match 118 = .ok (.ishl, 1) := by decide +kernel
theorem dX12_match_119 : decode cX12_match 119 = .ok (.iconst (-1), 1) := by decide +kernel
theorem dX12_match_120 : decode cX12_match 120 = .ok (.ixor, 1) := by decide +kernel
theorem dX12_match_121 : decode cX12_match 121 = .ok (.iand, 1) := by decide +kernel
theorem dX12_match_122 : decode cX12_match 122 = .ok (.istore 4, 2) := by decide +kernel
theorem dX12_match_124 : decode cX12_match 124 = .ok (.aload_n 0, 1) := by decide +kernel
theorem dX12_match_125 : decode cX12_match 125 = .ok (.getfield 80, 3) := by decide +kernel
theorem dX12_match_128 : decode cX12_match 128 = .ok (.iload_n 2, 1) := by decide +kernel
theorem dX12_match_129 : decode cX12_match 129 = .ok (.aload_n 0, 1) := by decide +kernel
theorem dX12_match_130 : decode cX12_match 130 = .ok (.getfield 80, 3) := by decide +kernel
theorem dX12_match_133 : decode cX12_match 133 = .ok (.iload 4, 2) := by decide +kernel
theorem dX12_match_135 : decode cX12_match 135 = .ok (.iaload, 1) := by decide +kernel
theorem dX12_match_136 : decode cX12_match 136 = .ok (.iastore, 1) := by decide +kernel
theorem dX12_match_137 : decode cX12_match 137 = .ok (.iload_n 3, 1) := by decide +kernel
theorem dX12_match_138 : decode cX12_match 138 = .ok (.iconst 1, 1) := by decide +kernel
theorem dX12_match_139 : decode cX12_match 139 = .ok (.iadd, 1) := by decide +kernel
theorem dX12_match_140 : decode cX12_match 140 = .ok (.istore 5, 2) := by decide +kernel
theorem dX12_match_142 : decode cX12_match 142 = .ok (.iload 5, 2) := by decide +kernel
theorem dX12_match_144 : decode cX12_match 144 = .ok (.iload_n 1, 1) := by decide +kernel
theorem dX12_match_145 : decode cX12_match 145 = .ok (.if_icmp .ge 85, 3) := by decide +kernel
theorem dX12_match_148 : decode cX12_match 148 = .ok (.iload 4, 2) := by decide +kernel
theorem dX12_match_150 : decode cX12_match 150 = .ok (.iload 5, 2) := by decide +kernel
theorem dX12_match_152 : decode cX12_match 152 = .ok (.ishr, 1) := by decide +kernel
theorem dX12_match_153 : decode cX12_match 153 = .ok (.iconst 1, 1) := by decide +kernel
theorem dX12_match_154 : decode cX12_match 154 = .ok (.iand, 1) := by decide +kernel
theorem dX12_match_155 : decode cX12_match 155 = .ok (.ifCond .eq 69, 3) := by decide +kernel
theorem dX12_match_158 : decode cX12_match 158 = .ok (.aload_n 0, 1) := by decide +kernel
theorem dX12_match_159 : decode cX12_match 159 = .ok (.getfield 77, 3) := by decide +kernel
theorem dX12_match_162 : decode cX12_match 162 = .ok (.bipush 12, 2) := by decide +kernel
theorem dX12_match_164 : decode cX12_match 164 = .ok (.iload_n 3, 1) := by decide +kernel
theorem dX12_match_165 : decode cX12_match 165 = .ok (.imul, 1) := by decide +kernel
theorem dX12_match_166 : decode cX12_match 166 = .ok (.iload 5, 2) := by decide +kernel
theorem dX12_match_168 : decode cX12_match 168 = .ok (.iadd, 1) := by decide +kernel
theorem dX12_match_169 : decode cX12_match 169 = .ok (.iaload, 1) := by decide +kernel
theorem dX12_match_170 : decode cX12_match 170 = .ok (.ifCond .ne 6, 3) := by decide +kernel
theorem dX12_match_173 : decode cX12_match 173 = .ok (.goto 51, 3) := by decide +kernel
theorem dX12_match_176 : decode cX12_match 176 = .ok (.aload_n 0, 1) := by decide +kernel
theorem dX12_match_177 : decode cX12_match 177 = .ok (.getfield 77, 3) := by decide +kernel
theorem dX12_match_180 : decode cX12_match 180 = .ok (.bipush 12, 2) := by decide +kernel
theorem dX12_match_182 : decode cX12_match 182 = .ok (.iload_n 3, 1) := by decide +kernel
theorem dX12_match_183 : decode cX12_match 183 = .ok (.imul, 1) := by decide +kernel
theorem dX12_match_184 : decode cX12_match 184 = .ok (.iload 5, 2) := by decide +kernel
theorem dX12_match_186 : decode cX12_match 186 = .ok (.iadd, 1) := by decide +kernel
theorem dX12_match_187 : decode cX12_match 187 = .ok (.iaload, 1) := by decide +kernel
theorem dX12_match_188 : decode cX12_match 188 = .ok (.aload_n 0, 1) := by decide +kernel
theorem dX12_match_189 : decode cX12_match 189 = .ok (.getfield 80, 3) := by decide +kernel
theorem dX12_match_192 : decode cX12_match 192 = .ok (.iload 4, 2) := by decide +kernel
theorem dX12_match_194 : decode cX12_match 194 = .ok (.iconst 1, 1) := by decide +kernel
theorem dX12_match_195 : decode cX12_match 195 = .ok (.iload 5, 2) := by decide +kernel
theorem dX12_match_197 : decode cX12_match 197 = .ok (.ishl, 1) := by decide +kernel
theorem dX12_match_198 : decode cX12_match 198 = .ok (.iconst (-1), 1) := by decide +kernel
theorem dX12_match_199 : decode cX12_match 199 = .ok (.ixor, 1) := by decide +kernel
theorem dX12_match_200 : decode cX12_match 200 = .ok (.iand, 1) := by decide +kernel
theorem dX12_match_201 : decode cX12_match 201 = .ok (.iaload, 1) := by decide +kernel
theorem dX12_match_202 : decode cX12_match 202 = .ok (.iadd, 1) := by decide +kernel
theorem dX12_match_203 : decode cX12_match 203 = .ok (.istore 6, 2) := by decide +kernel
theorem dX12_match_205 : decode cX12_match 205 = .ok (.iload 6, 2) := by decide +kernel
theorem dX12_match_207 : decode cX12_match 207 = .ok (.aload_n 0, 1) := by decide +kernel
theorem dX12_match_208 : decode cX12_match 208 = .ok (.getfield 80, 3) := by decide +kernel
theorem dX12_match_211 : decode cX12_match 211 = .ok (.iload_n 2, 1) := by decide +kernel
theorem dX12_match_212 : decode cX12_match 212 = .ok (.iaload, 1) := by decide +kernel
theorem dX12_match_213 : decode cX12_match 213 = .ok (.if_icmp .le 11, 3) := by decide +kernel
theorem dX12_match_216 : decode cX12_match 216 = .ok (.aload_n 0, 1) := by decide +kernel
theorem dX12_match_217 : decode cX12_match 217 = .ok (.getfield 80, 3) := by decide +kernel
theorem dX12_match_220 : decode cX12_match 220 = .ok (.iload_n 2, 1) := by decide +kernel
theorem dX12_match_221 : decode cX12_match 221 = .ok (.iload 6, 2) := by decide +kernel
theorem dX12_match_223 : decode cX12_match 223 = .ok (.iastore, 1) := by decide +kernel
theorem dX12_match_224 : decode cX12_match 224 = .ok (.iinc 5 1, 3) := by decide +kernel
theorem dX12_match_227 : decode cX12_match 227 = .ok (.goto (-85), 3) := by decide +kernel
theorem dX12_match_230 : decode cX12_match 230 = .ok (.iinc 2 1, 3) := by decide +kernel
theorem dX12_match_233 : decode cX12_match 233 = .ok (.goto (-130), 3) := by decide +kernel
theorem dX12_match_236 : decode cX12_match 236 = .ok (.aload_n 0, 1) := by decide +kernel
theorem dX12_match_237 : decode cX12_match 237 = .ok (.iconst 1, 1) := by decide +kernel
theorem dX12_match_238 : decode cX12_match 238 = .ok (.putfield 307, 3) := by decide +kernel
theorem dX12_match_241 : decode cX12_match 241 = .ok (.aload_n 0, 1) := by decide +kernel
theorem dX12_match_242 : decode cX12_match 242 = .ok (.iconst 0, 1) := by decide +kernel
theorem dX12_match_243 : decode cX12_match 243 = .ok (.putfield 310, 3) := by decide +kernel
theorem dX12_match_246 : decode cX12_match 246 = .ok (.iconst 0, 1) := by decide +kernel
theorem dX12_match_247 : decode cX12_match 247 = .ok (.istore_n 2, 1) := by decide +kernel
theorem dX12_match_248 : decode cX12_match 248 = .ok (.iconst 0, 1) := by decide +kernel
theorem dX12_match_249 : decode cX12_match 249 = .ok (.istore_n 3, 1) := by decide +kernel
theorem dX12_match_250 : decode cX12_match 250 = .ok (.iload_n 3, 1) := by decide +kernel
theorem dX12_match_251 : decode cX12_match 251 = .ok (.bipush 12, 2) := by decide +kernel
theorem dX12_match_253 : decode cX12_match 253 = .ok (.if_icmp .ge 16, 3) := by decide +kernel
theorem dX12_match_256 : decode cX12_match 256 = .ok (.aload_n 0, 1) := by decide +kernel
theorem dX12_match_257 : decode cX12_match 257 = .ok (.getfield 83, 3) := by decide +kernel
theorem dX12_match_260 : decode cX12_match 260 = .ok (.iload_n 3, 1) := by decide +kernel
theorem dX12_match_261 : decode cX12_match 261 = .ok (.iconst (-1), 1) := by decide +kernel
theorem dX12_match_262 : decode cX12_match 262 = .ok (.iastore, 1) := by decide +kernel
theorem dX12_match_263 : decode cX12_match 263 = .ok (.iinc 3 1, 3) := by decide +kernel
theorem dX12_match_266 : decode cX12_match 266 = .ok (.goto (-16), 3) := by decide +kernel
theorem dX12_match_269 : decode cX12_match 269 = .ok (.iconst 1, 1) := by decide +kernel
theorem dX12_match_270 : decode cX12_match 270 = .ok (.iload_n 1, 1) := by decide +kernel
theorem dX12_match_271 : decode cX12_match 271 = .ok (.ishl, 1) := by decide +kernel
theorem dX12_match_272 : decode cX12_match 272 = .ok (.iconst 1, 1) := by decide +kernel
theorem dX12_match_273 : decode cX12_match 273 = .ok (.isub, 1) := by decide +kernel
theorem dX12_match_274 : decode cX12_match 274 = .ok (.istore_n 3, 1) := by decide +kernel
theorem dX12_match_275 : decode cX12_match 275 = .ok (.iload_n 3, 1) := by decide +kernel
theorem dX12_match_276 : decode cX12_match 276 = .ok (.ifCond .eq 193, 3) := by decide +kernel
theorem dX12_match_279 : decode cX12_match 279 = .ok (.iload_n 3, 1) := by decide +kernel
theorem dX12_match_280 : decode cX12_match 280 = .ok (.invokestatic 313, 3) := by decide +kernel
theorem dX12_match_283 : decode cX12_match 283 = .ok (.istore 4, 2) := by decide +kernel
theorem dX12_match_285 : decode cX12_match 285 = .ok (.iload_n 3, 1) := by decide +kernel
theorem dX12_match_286 : decode cX12_match 286 = .ok (.iconst 1, 1) := by decide +kernel
theorem dX12_match_287 : decode cX12_match 287 = .ok (.iload 4, 2) := by decide +kernel
theorem dX12_match_289 : decode cX12_match 289 = .ok (.ishl, 1) := by decide +kernel
theorem dX12_match_290 : decode cX12_match 290 = .ok (.iconst (-1), 1) := by decide +kernel
theorem dX12_match_291 : decode cX12_match 291 = .ok (.ixor, 1) := by decide +kernel
theorem dX12_match_292 : decode cX12_match 292 = .ok (.iand, 1) := by decide +kernel
theorem dX12_match_293 : decode cX12_match 293 = .ok (.istore_n 3, 1) := by decide +kernel
theorem dX12_match_294 : decode cX12_match 294 = .ok (.iload 4, 2) := by decide +kernel
theorem dX12_match_296 : decode cX12_match 296 = .ok (.iconst 1, 1) := by decide +kernel
theorem dX12_match_297 : decode cX12_match 297 = .ok (.iadd, 1) := by decide +kernel
theorem dX12_match_298 : decode cX12_match 298 = .ok (.istore 5, 2) := by decide +kernel
theorem dX12_match_300 : decode cX12_match 300 = .ok (.iload 5, 2) := by decide +kernel
theorem dX12_match_302 : decode cX12_match 302 = .ok (.iload_n 1, 1) := by decide +kernel
theorem dX12_match_303 : decode cX12_match 303 = .ok (.if_icmp .ge 138, 3) := by decide +kernel
theorem dX12_match_306 : decode cX12_match 306 = .ok (.aload_n 0, 1) := by decide +kernel
theorem dX12_match_307 : decode cX12_match 307 = .ok (.getfield 83, 3) := by decide +kernel
theorem dX12_match_310 : decode cX12_match 310 = .ok (.iload 4, 2) := by decide +kernel
theorem dX12_match_312 : decode cX12_match 312 = .ok (.iaload, 1) := by decide +kernel
theorem dX12_match_313 : decode cX12_match 313 = .ok (.iconst (-1), 1) := by decide +kernel
theorem dX12_match_314 : decode cX12_match 314 = .ok (.if_icmp .ne 127, 3) := by decide +kernel
theorem dX12_match_317 : decode cX12_match 317 = .ok (.iload_n 3, 1) := by decide +kernel
theorem dX12_match_318 : decode cX12_match 318 = .ok (.iload 5, 2) := by decide +kernel
theorem dX12_match_320 : decode cX12_match 320 = .ok (.ishr, 1) := by decide +kernel
theorem dX12_match_321 : decode cX12_match 321 = .ok (.iconst 1, 1) := by decide +kernel
theorem dX12_match_322 : decode cX12_match 322 = .ok (.iand, 1) := by decide +kernel
theorem dX12_match_323 : decode cX12_match 323 = .ok (.ifCond .eq 112, 3) := by decide +kernel
theorem dX12_match_326 : decode cX12_match 326 = .ok (.aload_n 0, 1) := by decide +kernel
theorem dX12_match_327 : decode cX12_match 327 = .ok (.getfield 77, 3) := by decide +kernel
theorem dX12_match_330 : decode cX12_match 330 = .ok (.bipush 12, 2) := by decide +kernel
theorem dX12_match_332 : decode cX12_match 332 = .ok (.iload 4, 2) := by decide +kernel
theorem dX12_match_334 : decode cX12_match 334 = .ok (.imul, 1) := by decide +kernel
theorem dX12_match_335 : decode cX12_match 335 = .ok (.iload 5, 2) := by decide +kernel
theorem dX12_match_337 : decode cX12_match 337 = .ok (.iadd, 1) := by decide +kernel
theorem dX12_match_338 : decode cX12_match 338 = .ok (.iaload, 1) := by decide +kernel
theorem dX12_match_339 : decode cX12_match 339 = .ok (.ifCond .eq 96, 3) := by decide +kernel
theorem dX12_match_342 : decode cX12_match 342 = .ok (.aload_n 0, 1) := by decide +kernel
theorem dX12_match_343 : decode cX12_match 343 = .ok (.getfield 77, 3) := by decide +kernel
theorem dX12_match_346 : decode cX12_match 346 = .ok (.bipush 12, 2) := by decide +kernel
theorem dX12_match_348 : decode cX12_match 348 = .ok (.iload 4, 2) := by decide +kernel
theorem dX12_match_350 : decode cX12_match 350 = .ok (.imul, 1) := by decide +kernel
theorem dX12_match_351 : decode cX12_match 351 = .ok (.iload 5, 2) := by decide +kernel
theorem dX12_match_353 : decode cX12_match 353 = .ok (.iadd, 1) := by decide +kernel
theorem dX12_match_354 : decode cX12_match 354 = .ok (.iaload, 1) := by decide +kernel
theorem dX12_match_355 : decode cX12_match 355 = .ok (.aload_n 0, 1) := by decide +kernel
theorem dX12_match_356 : decode cX12_match 356 = .ok (.getfield 80, 3) := by decide +kernel
theorem dX12_match_359 : decode cX12_match 359 = .ok (.iload_n 3, 1) := by decide +kernel
theorem dX12_match_360 : decode cX12_match 360 = .ok (.iconst 1, 1) := by decide +kernel
theorem dX12_match_361 : decode cX12_match 361 = .ok (.iload 5, 2) := by decide +kernel
theorem dX12_match_363 : decode cX12_match 363 = .ok (.ishl, 1) := by decide +kernel
theorem dX12_match_364 : decode cX12_match 364 = .ok (.iconst (-1), 1) := by decide +kernel
theorem dX12_match_365 : decode cX12_match 365 = .ok (.ixor, 1) := by decide +kernel
theorem dX12_match_366 : decode cX12_match 366 = .ok (.iand, 1) := by decide +kernel
theorem dX12_match_367 : decode cX12_match 367 = .ok (.iaload, 1) := by decide +kernel
theorem dX12_match_368 : decode cX12_match 368 = .ok (.iadd, 1) := by decide +kernel
theorem dX12_match_369 : decode cX12_match 369 = .ok (.aload_n 0, 1) := by decide +kernel
theorem dX12_match_370 : decode cX12_match 370 = .ok (.getfield 80, 3) := by decide +kernel
theorem dX12_match_373 : decode cX12_match 373 = .ok (.iload_n 3, 1) := by decide +kernel
theorem dX12_match_374 : decode cX12_match 374 = .ok (.iconst 1, 1) := by decide +kernel
theorem dX12_match_375 : decode cX12_match 375 = .ok (.iload 4, 2) := by decide +kernel
theorem dX12_match_377 : decode cX12_match 377 = .ok (.ishl, 1) := by decide +kernel
theorem dX12_match_378 : decode cX12_match 378 = .ok (.ior, 1) := by decide +kernel
theorem dX12_match_379 : decode cX12_match 379 = .ok (.iaload, 1) := by decide +kernel
theorem dX12_match_380 : decode cX12_match 380 = .ok (.if_icmp .eq 6, 3) := by decide +kernel
theorem dX12_match_383 : decode cX12_match 383 = .ok (.goto 52, 3) := by decide +kernel
theorem dX12_match_386 : decode cX12_match 386 = .ok (.aload_n 0, 1) := by decide +kernel
theorem dX12_match_387 : decode cX12_match 387 = .ok (.getfield 83, 3) := by decide +kernel
theorem dX12_match_390 : decode cX12_match 390 = .ok (.iload 4, 2) := by decide +kernel
theorem dX12_match_392 : decode cX12_match 392 = .ok (.iload 5, 2) := by decide +kernel
theorem dX12_match_394 : decode cX12_match 394 = .ok (.iastore, 1) := by decide +kernel
theorem dX12_match_395 : decode cX12_match 395 = .ok (.aload_n 0, 1) := by decide +kernel
theorem dX12_match_396 : decode cX12_match 396 = .ok (.getfield 83, 3) := by decide +kernel
theorem dX12_match_399 : decode cX12_match 399 = .ok (.iload 5, 2) := by decide +kernel
theorem dX12_match_401 : decode cX12_match 401 = .ok (.iload 4, 2) := by decide +kernel
theorem dX12_match_403 : decode cX12_match 403 = .ok (.iastore, 1) := by decide +kernel
theorem dX12_match_404 : decode cX12_match 404 = .ok (.iinc 2 1, 3) := by decide +kernel
theorem dX12_match_407 : decode cX12_match 407 = .ok (.aload_n 0, 1) := by decide +kernel
theorem dX12_match_408 : decode cX12_match 408 = .ok (.getfield 77, 3) := by decide +kernel
theorem dX12_match_411 : decode cX12_match 411 = .ok (.bipush 12, 2) := by decide +kernel
theorem dX12_match_413 : decode cX12_match 413 = .ok (.iload 4, 2) := by decide +kernel
theorem dX12_match_415 : decode cX12_match 415 = .ok (.imul, 1) := by decide +kernel
theorem dX12_match_416 : decode cX12_match 416 = .ok (.iload 5, 2) := by decide +kernel
theorem dX12_match_418 : decode cX12_match 418 = .ok (.iadd, 1) := by decide +kernel
theorem dX12_match_419 : decode cX12_match 419 = .ok (.iaload, 1) := by decide +kernel
theorem dX12_match_420 : decode cX12_match 420 = .ok (.bipush 101, 2) := by decide +kernel
theorem dX12_match_422 : decode cX12_match 422 = .ok (.if_icmp .ne 13, 3) := by decide +kernel
theorem dX12_match_425 : decode cX12_match 425 = .ok (.aload_n 0, 1) := by decide +kernel
theorem dX12_match_426 : decode cX12_match 426 = .ok (.dup, 1) := by decide +kernel
theorem dX12_match_427 : decode cX12_match 427 = .ok (.getfield 310, 3) := by decide +kernel
theorem dX12_match_430 : decode cX12_match 430 = .ok (.iconst 1, 1) := by decide +kernel
theorem dX12_match_431 : decode cX12_match 431 = .ok (.iadd, 1) := by decide +kernel
theorem dX12_match_432 : decode cX12_match 432 = .ok (.putfield 310, 3) := by decide +kernel
theorem dX12_match_435 : decode cX12_match 435 = .ok (.iinc 5 1, 3) := by decide +kernel
theorem dX12_match_438 : decode cX12_match 438 = .ok (.goto (-138), 3) := by decide +kernel
theorem dX12_match_441 : decode cX12_match 441 = .ok (.aload_n 0, 1) := by decide +kernel
theorem dX12_match_442 : decode cX12_match 442 = .ok (.getfield 83, 3) := by decide +kernel
theorem dX12_match_445 : decode cX12_match 445 = .ok (.iload 4, 2) := by decide +kernel
theorem dX12_match_447 : decode cX12_match 447 = .ok (.iaload, 1) := by decide +kernel
theorem dX12_match_448 : decode cX12_match 448 = .ok (.iconst (-1), 1) := by decide +kernel
theorem dX12_match_449 : decode cX12_match 449 = .ok (.if_icmp .eq 17, 3) := by decide +kernel
theorem dX12_match_452 : decode cX12_match 452 = .ok (.iload_n 3, 1) := by decide +kernel
theorem dX12_match_453 : decode cX12_match 453 = .ok (.iconst 1, 1) := by decide +kernel
theorem dX12_match_454 : decode cX12_match 454 = .ok (.aload_n 0, 1) := by decide +kernel
theorem dX12_match_455 : decode cX12_match 455 = .ok (.getfield 83, 3) := by decide +kernel
theorem dX12_match_458 : decode cX12_match 458 = .ok (.iload 4, 2) := by decide +kernel
theorem dX12_match_460 : decode cX12_match 460 = .ok (.iaload, 1) := by decide +kernel
theorem dX12_match_461 : decode cX12_match 461 = .ok (.ishl, 1) := by decide +kernel
theorem dX12_match_462 : decode cX12_match 462 = .ok (.iconst (-1), 1) := by decide +kernel
theorem dX12_match_463 : decode cX12_match 463 = .ok (.ixor, 1) := by decide +kernel
theorem dX12_match_464 : decode cX12_match 464 = .ok (.iand, 1) := by decide +kernel
theorem dX12_match_465 : decode cX12_match 465 = .ok (.istore_n 3, 1) := by decide +kernel
theorem dX12_match_466 : decode cX12_match 466 = .ok (.goto (-191), 3) := by decide +kernel
theorem dX12_match_469 : decode cX12_match 469 = .ok (.iload_n 2, 1) := by decide +kernel
theorem dX12_match_470 : decode cX12_match 470 = .ok (.ireturn, 1) := by decide +kernel
set_option maxRecDepth 20000 in
theorem ggX12_matched_X12_isFragment : GoodIn wsX12_matched wsX12_isFragment := goodIn_r _ [8, 9, 10, 11, 12, 13, 14, 15, 16, 17, 18, 19, 20, 21, 22, 23, 24, 25, 26, 27, 28, 29, 30, 31, 32, 33, 34, 35, 36, 37, 38, 39, 40, 41, 42, 43, 44, 45, 46, 47, 48, 49, 50, 51, 52, 53, 54, 55, 56, 57, 58, 59, 60] (by decide +kernel) (by decide +kernel)
set_option maxRecDepth 20000 in
theorem gX12_matched_X12_isFragment : GoodIn wsX12_matched (wsV RX12 295 RX12 yX12_isFragment wsX12_isFragment) := goodIn_app (goodIn_of _ (by decide +kernel)) ggX12_matched_X12_isFragment
theorem dX12_matched_0 : decode cX12_matched 0 = .ok (.aload_n 0, 1) := by decide +kernel
theorem dX12_matched_1 : decode cX12_matched 1 = .ok (.iconst 0, 1) := by decide +kernel
theorem dX12_matched_2 : decode cX12_matched 2 = .ok (.putfield 86, 3) := by decide +kernel
theorem dX12_matched_5 : decode cX12_matched 5 = .ok (.aload_n 0, 1) := by decide +kernel
theorem dX12_matched_6 : decode cX12_matched 6 = .ok (.getfield 307, 3) := by decide +kernel
theorem dX12_matched_9 : decode cX12_matched 9 = .ok (.ifCond .eq 20, 3) := by decide +kernel
theorem dX12_matched_12 : decode cX12_matched 12 = .ok (.aload_n 0, 1) := by decide +kernel
theorem dX12_matched_13 : decode cX12_matched 13 = .ok (.iload_n 1, 1) := by decide +kernel
theorem dX12_matched_14 : decode cX12_matched 14 = .ok (.invokevirtual 295, 3) := by decide +kernel
theorem dX12_matched_17 : decode cX12_matched 17 = .ok (.ifCond .eq 12, 3) := by decide +kernel
theorem dX12_matched_20 : decode cX12_matched 20 = .ok (.aload_n 0, 1) := by decide +kernel
theorem dX12_matched_21 : decode cX12_matched 21 = .ok (.getfield 83, 3) := by decide +kernel
theorem dX12_matched_24 : decode cX12_matched 24 = .ok (.iload_n 1, 1) := by decide +kernel
theorem dX12_matched_25 : decode cX12_matched 25 = .ok (.iaload, 1) := by decide +kernel
theorem dX12_matched_26 : decode cX12_matched 26 = .ok (.goto 4, 3) := by decide +kernel
theorem dX12_matched_29 : decode cX12_matched 29 = .ok (.iconst (-1), 1) := by decide +kernel
theorem dX12_matched_30 : decode cX12_matched 30 = .ok (.ireturn, 1) := by decide +kernel
theorem dX12_count_0 : decode cX12_count 0 = .ok (.aload_n 0, 1) := by decide +kernel
theorem dX12_count_1 : decode cX12_count 1 = .ok (.iconst 0, 1) := by decide +kernel
theorem dX12_count_2 : decode cX12_count 2 = .ok (.putfield 86, 3) := by decide +kernel
theorem dX12_count_5 : decode cX12_count 5 = .ok (.iload_n 1, 1) := by decide +kernel
theorem dX12_count_6 : decode cX12_count 6 = .ok (.tableswitch 68 0 5 #[38, 43, 48, 53, 58, 63], 38) := by decide +kernel
theorem dX12_count_44 : decode cX12_count 44 = .ok (.aload_n 0, 1) := by decide +kernel
theorem dX12_count_45 : decode cX12_count 45 = .ok (.getfield 201, 3) := by decide +kernel
theorem dX12_count_48 : decode cX12_count 48 = .ok (.ireturn, 1) := by decide +kernel
theorem dX12_count_49 : decode cX12_count 49 = .ok (.aload_n 0, 1) := by decide +kernel
theorem dX12_count_50 : decode cX12_count 50 = .ok (.getfield 204, 3) := by decide +kernel
theorem dX12_count_53 : decode cX12_count 53 = .ok (.ireturn, 1) := by decide +kernel
theorem dX12_count_54 : decode cX12_count 54 = .ok (.aload_n 0, 1) := by decide +kernel
theorem dX12_count_55 : decode cX12_count 55 = .ok (.getfield 289, 3) := by decide +kernel
theorem dX12_count_58 : decode cX12_count 58 = .ok (.ireturn, 1) := by decide +kernel
theorem dX12_count_59 : decode cX12_count 59 = .ok (.aload_n 0, 1) := by decide +kernel
theorem dX12_count_60 : decode cX12_count 60 = .ok (.getfield 310, 3) := by decide +kernel
theorem dX12_count_63 : decode cX12_count 63 = .ok (.ireturn, 1) := by decide +kernel
theorem dX12_count_64 : decode cX12_count 64 = .ok (.aload_n 0, 1) := by decide +kernel
theorem dX12_count_65 : decode cX12_count 65 = .ok (.getfield 90, 3) := by decide +kernel
theorem dX12_count_68 : decode cX12_count 68 = .ok (.ireturn, 1) := by decide +kernel
theorem dX12_count_69 : decode cX12_count 69 = .ok (.aload_n 0, 1) := by decide +kernel
theorem dX12_count_70 : decode cX12_count 70 = .ok (.getfield 214, 3) := by decide +kernel
theorem dX12_count_73 : decode cX12_count 73 = .ok (.ireturn, 1) := by decide +kernel
theorem dX12_count_74 : decode cX12_count 74 = .ok (.iconst (-1), 1) := by decide +kernel
theorem dX12_count_75 : decode cX12_count 75 = .ok (.ireturn, 1) := by decide +kernel
