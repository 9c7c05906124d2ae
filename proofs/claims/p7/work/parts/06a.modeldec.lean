theorem dX12_init_0 : decode cX12_init 0 = .ok (.aload_n 0, 1) := by decide +kernel
theorem dX12_init_1 : decode cX12_init 1 = .ok (.invokespecial 1, 3) := by decide +kernel
theorem dX12_init_4 : decode cX12_init 4 = .ok (.aload_n 0, 1) := by decide +kernel
theorem dX12_init_5 : decode cX12_init 5 = .ok (.sipush 440, 3) := by decide +kernel
theorem dX12_init_8 : decode cX12_init 8 = .ok (.newarray .int, 2) := by decide +kernel
theorem dX12_init_10 : decode cX12_init 10 = .ok (.putfield 7, 3) := by decide +kernel
theorem dX12_init_13 : decode cX12_init 13 = .ok (.aload_n 0, 1) := by decide +kernel
theorem dX12_init_14 : decode cX12_init 14 = .ok (.sipush 500, 3) := by decide +kernel
theorem dX12_init_17 : decode cX12_init 17 = .ok (.newarray .int, 2) := by decide +kernel
theorem dX12_init_19 : decode cX12_init 19 = .ok (.putfield 13, 3) := by decide +kernel
theorem dX12_init_22 : decode cX12_init 22 = .ok (.aload_n 0, 1) := by decide +kernel
theorem dX12_init_23 : decode cX12_init 23 = .ok (.bipush 6, 2) := by decide +kernel
theorem dX12_init_25 : decode cX12_init 25 = .ok (.newarray .long, 2) := by decide +kernel
theorem dX12_init_27 : decode cX12_init 27 = .ok (.putfield 16, 3) := by decide +kernel
theorem dX12_init_30 : decode cX12_init 30 = .ok (.aload_n 0, 1) := by decide +kernel
theorem dX12_init_31 : decode cX12_init 31 = .ok (.bipush 30, 2) := by decide +kernel
theorem dX12_init_33 : decode cX12_init 33 = .ok (.newarray .long, 2) := by decide +kernel
theorem dX12_init_35 : decode cX12_init 35 = .ok (.putfield 20, 3) := by decide +kernel
theorem dX12_init_38 : decode cX12_init 38 = .ok (.aload_n 0, 1) := by decide +kernel
theorem dX12_init_39 : decode cX12_init 39 = .ok (.bipush 6, 2) := by decide +kernel
theorem dX12_init_41 : decode cX12_init 41 = .ok (.newarray .int, 2) := by decide +kernel
theorem dX12_init_43 : decode cX12_init 43 = .ok (.putfield 23, 3) := by decide +kernel
theorem dX12_init_46 : decode cX12_init 46 = .ok (.aload_n 0, 1) := by decide +kernel
theorem dX12_init_47 : decode cX12_init 47 = .ok (.bipush 30, 2) := by decide +kernel
theorem dX12_init_49 : decode cX12_init 49 = .ok (.newarray .int, 2) := by decide +kernel
theorem dX12_init_51 : decode cX12_init 51 = .ok (.putfield 26, 3) := by decide +kernel
theorem dX12_init_54 : decode cX12_init 54 = .ok (.aload_n 0, 1) := by decide +kernel
theorem dX12_init_55 : decode cX12_init 55 = .ok (.bipush 80, 2) := by decide +kernel
theorem dX12_init_57 : decode cX12_init 57 = .ok (.newarray .int, 2) := by decide +kernel
theorem dX12_init_59 : decode cX12_init 59 = .ok (.putfield 29, 3) := by decide +kernel
theorem dX12_init_62 : decode cX12_init 62 = .ok (.aload_n 0, 1) := by decide +kernel
theorem dX12_init_63 : decode cX12_init 63 = .ok (.bipush 9, 2) := by decide +kernel
theorem dX12_init_65 : decode cX12_init 65 = .ok (.newarray .int, 2) := by decide +kernel
theorem dX12_init_67 : decode cX12_init 67 = .ok (.putfield 32, 3) := by decide +kernel
theorem dX12_init_70 : decode cX12_init 70 = .ok (.aload_n 0, 1) := by decide +kernel
theorem dX12_init_71 : decode cX12_init 71 = .ok (.bipush 108, 2) := by decide +kernel
theorem dX12_init_73 : decode cX12_init 73 = .ok (.newarray .int, 2) := by decide +kernel
theorem dX12_init_75 : decode cX12_init 75 = .ok (.putfield 35, 3) := by decide +kernel
theorem dX12_init_78 : decode cX12_init 78 = .ok (.aload_n 0, 1) := by decide +kernel
theorem dX12_init_79 : decode cX12_init 79 = .ok (.bipush 108, 2) := by decide +kernel
theorem dX12_init_81 : decode cX12_init 81 = .ok (.newarray .int, 2) := by decide +kernel
theorem dX12_init_83 : decode cX12_init 83 = .ok (.putfield 38, 3) := by decide +kernel
theorem dX12_init_86 : decode cX12_init 86 = .ok (.aload_n 0, 1) := by decide +kernel
theorem dX12_init_87 : decode cX12_init 87 = .ok (.bipush 108, 2) := by decide +kernel
theorem dX12_init_89 : decode cX12_init 89 = .ok (.newarray .int, 2) := by decide +kernel
theorem dX12_init_91 : decode cX12_init 91 = .ok (.putfield 41, 3) := by decide +kernel
theorem dX12_init_94 : decode cX12_init 94 = .ok (.aload_n 0, 1) := by decide +kernel
theorem dX12_init_95 : decode cX12_init 95 = .ok (.bipush 9, 2) := by decide +kernel
theorem dX12_init_97 : decode cX12_init 97 = .ok (.newarray .int, 2) := by decide +kernel
theorem dX12_init_99 : decode cX12_init 99 = .ok (.putfield 44, 3) := by decide +kernel
theorem dX12_init_102 : decode cX12_init 102 = .ok (.aload_n 0, 1) := by decide +kernel
theorem dX12_init_103 : decode cX12_init 103 = .ok (.sipush 540, 3) := by decide +kernel
theorem dX12_init_106 : decode cX12_init 106 = .ok (.newarray .int, 2) := by decide +kernel
theorem dX12_init_108 : decode cX12_init 108 = .ok (.putfield 47, 3) := by decide +kernel
theorem dX12_init_111 : decode cX12_init 111 = .ok (.aload_n 0, 1) := by decide +kernel
theorem dX12_init_112 : decode cX12_init 112 = .ok (.sipush 540, 3) := by decide +kernel
theorem dX12_init_115 : decode cX12_init 115 = .ok (.newarray .int, 2) := by decide +kernel
theorem dX12_init_117 : decode cX12_init 117 = .ok (.putfield 50, 3) := by decide +kernel
theorem dX12_init_120 : decode cX12_init 120 = .ok (.aload_n 0, 1) := by decide +kernel
theorem dX12_init_121 : decode cX12_init 121 = .ok (.sipush 540, 3) := by decide +kernel
theorem dX12_init_124 : decode cX12_init 124 = .ok (.newarray .int, 2) := by decide +kernel
theorem dX12_init_126 : decode cX12_init 126 = .ok (.putfield 53, 3) := by decide +kernel
theorem dX12_init_129 : decode cX12_init 129 = .ok (.aload_n 0, 1) := by decide +kernel
theorem dX12_init_130 : decode cX12_init 130 = .ok (.iconst 4, 1) := by decide +kernel
theorem dX12_init_131 : decode cX12_init 131 = .ok (.newarray .int, 2) := by decide +kernel
theorem dX12_init_133 : decode cX12_init 133 = .ok (.putfield 56, 3) := by decide +kernel
theorem dX12_init_136 : decode cX12_init 136 = .ok (.aload_n 0, 1) := by decide +kernel
theorem dX12_init_137 : decode cX12_init 137 = .ok (.bipush 12, 2) := by decide +kernel
theorem dX12_init_139 : decode cX12_init 139 = .ok (.newarray .long, 2) := by decide +kernel
theorem dX12_init_141 : decode cX12_init 141 = .ok (.putfield 59, 3) := by decide +kernel
theorem dX12_init_144 : decode cX12_init 144 = .ok (.aload_n 0, 1) := by decide +kernel
theorem dX12_init_145 : decode cX12_init 145 = .ok (.sipush 2400, 3) := by decide +kernel
theorem dX12_init_148 : decode cX12_init 148 = .ok (.newarray .int, 2) := by decide +kernel
theorem dX12_init_150 : decode cX12_init 150 = .ok (.putfield 62, 3) := by decide +kernel
theorem dX12_init_153 : decode cX12_init 153 = .ok (.aload_n 0, 1) := by decide +kernel
theorem dX12_init_154 : decode cX12_init 154 = .ok (.bipush 12, 2) := by decide +kernel
theorem dX12_init_156 : decode cX12_init 156 = .ok (.newarray .int, 2) := by decide +kernel
theorem dX12_init_158 : decode cX12_init 158 = .ok (.putfield 65, 3) := by decide +kernel
theorem dX12_init_161 : decode cX12_init 161 = .ok (.aload_n 0, 1) := by decide +kernel
theorem dX12_init_162 : decode cX12_init 162 = .ok (.bipush 12, 2) := by decide +kernel
theorem dX12_init_164 : decode cX12_init 164 = .ok (.newarray .int, 2) := by decide +kernel
theorem dX12_init_166 : decode cX12_init 166 = .ok (.putfield 68, 3) := by decide +kernel
theorem dX12_init_169 : decode cX12_init 169 = .ok (.aload_n 0, 1) := by decide +kernel
theorem dX12_init_170 : decode cX12_init 170 = .ok (.bipush 12, 2) := by decide +kernel
theorem dX12_init_172 : decode cX12_init 172 = .ok (.newarray .int, 2) := by decide +kernel
theorem dX12_init_174 : decode cX12_init 174 = .ok (.putfield 71, 3) := by decide +kernel
theorem dX12_init_177 : decode cX12_init 177 = .ok (.aload_n 0, 1) := by decide +kernel
theorem dX12_init_178 : decode cX12_init 178 = .ok (.bipush 12, 2) := by decide +kernel
theorem dX12_init_180 : decode cX12_init 180 = .ok (.newarray .int, 2) := by decide +kernel
theorem dX12_init_182 : decode cX12_init 182 = .ok (.putfield 74, 3) := by decide +kernel
theorem dX12_init_185 : decode cX12_init 185 = .ok (.aload_n 0, 1) := by decide +kernel
theorem dX12_init_186 : decode cX12_init 186 = .ok (.sipush 144, 3) := by decide +kernel
theorem dX12_init_189 : decode cX12_init 189 = .ok (.newarray .int, 2) := by decide +kernel
theorem dX12_init_191 : decode cX12_init 191 = .ok (.putfield 77, 3) := by decide +kernel
theorem dX12_init_194 : decode cX12_init 194 = .ok (.aload_n 0, 1) := by decide +kernel
theorem dX12_init_195 : decode cX12_init 195 = .ok (.sipush 4096, 3) := by decide +kernel
theorem dX12_init_198 : decode cX12_init 198 = .ok (.newarray .int, 2) := by decide +kernel
theorem dX12_init_200 : decode cX12_init 200 = .ok (.putfield 80, 3) := by decide +kernel
theorem dX12_init_203 : decode cX12_init 203 = .ok (.aload_n 0, 1) := by decide +kernel
theorem dX12_init_204 : decode cX12_init 204 = .ok (.bipush 12, 2) := by decide +kernel
theorem dX12_init_206 : decode cX12_init 206 = .ok (.newarray .int, 2) := by decide +kernel
theorem dX12_init_208 : decode cX12_init 208 = .ok (.putfield 83, 3) := by decide +kernel
theorem dX12_init_211 : decode cX12_init 211 = .ok (.return_, 1) := by decide +kernel
theorem dX12_refuse_0 : decode cX12_refuse 0 = .ok (.aload_n 0, 1) := by decide +kernel
theorem dX12_refuse_1 : decode cX12_refuse 1 = .ok (.iconst 1, 1) := by decide +kernel
theorem dX12_refuse_2 : decode cX12_refuse 2 = .ok (.putfield 86, 3) := by decide +kernel
theorem dX12_refuse_5 : decode cX12_refuse 5 = .ok (.iconst 0, 1) := by decide +kernel
theorem dX12_refuse_6 : decode cX12_refuse 6 = .ok (.ireturn, 1) := by decide +kernel
theorem dX12_come_0 : decode cX12_come 0 = .ok (.bipush 24, 2) := by decide +kernel
theorem dX12_come_2 : decode cX12_come 2 = .ok (.istore_n 2, 1) := by decide +kernel
theorem dX12_come_3 : decode cX12_come 3 = .ok (.iload_n 2, 1) := by decide +kernel
theorem dX12_come_4 : decode cX12_come 4 = .ok (.ifCond .lt 35, 3) := by decide +kernel
theorem dX12_come_7 : decode cX12_come 7 = .ok (.aload_n 0, 1) := by decide +kernel
theorem dX12_come_8 : decode cX12_come 8 = .ok (.getfield 7, 3) := by decide +kernel
theorem dX12_come_11 : decode cX12_come 11 = .ok (.aload_n 0, 1) := by decide +kernel
theorem dX12_come_12 : decode cX12_come 12 = .ok (.getfield 90, 3) := by decide +kernel
theorem dX12_come_15 : decode cX12_come 15 = .ok (.iload_n 1, 1) := by decide +kernel
theorem dX12_come_16 : decode cX12_come 16 = .ok (.iload_n 2, 1) := by decide +kernel
theorem dX12_come_17 : decode cX12_come 17 = .ok (.iushr, 1) := by decide +kernel
theorem dX12_come_18 : decode cX12_come 18 = .ok (.sipush 255, 3) := by decide +kernel
theorem dX12_come_21 : decode cX12_come 21 = .ok (.iand, 1) := by decide +kernel
theorem dX12_come_22 : decode cX12_come 22 = .ok (.iastore, 1) := by decide +kernel
theorem dX12_come_23 : decode cX12_come 23 = .ok (.aload_n 0, 1) := by decide +kernel
theorem dX12_come_24 : decode cX12_come 24 = .ok (.dup, 1) := by decide +kernel
theorem dX12_come_25 : decode cX12_come 25 = .ok (.getfield 90, 3) := by decide +kernel
theorem dX12_come_28 : decode cX12_come 28 = .ok (.iconst 1, 1) := by decide +kernel
theorem dX12_come_29 : decode cX12_come 29 = .ok (.iadd, 1) := by decide +kernel
theorem dX12_come_30 : decode cX12_come 30 = .ok (.putfield 90, 3) := by decide +kernel
theorem dX12_come_33 : decode cX12_come 33 = .ok (.iinc 2 (-8), 3) := by decide +kernel
theorem dX12_come_36 : decode cX12_come 36 = .ok (.goto (-33), 3) := by decide +kernel
theorem dX12_come_39 : decode cX12_come 39 = .ok (.return_, 1) := by decide +kernel
theorem dX12_feed_0 : decode cX12_feed 0 = .ok (.aload_n 0, 1) := by decide +kernel
theorem dX12_feed_1 : decode cX12_feed 1 = .ok (.iconst 0, 1) := by decide +kernel
theorem dX12_feed_2 : decode cX12_feed 2 = .ok (.putfield 86, 3) := by decide +kernel
theorem dX12_feed_5 : decode cX12_feed 5 = .ok (.aload_n 0, 1) := by decide +kernel
theorem dX12_feed_6 : decode cX12_feed 6 = .ok (.getfield 90, 3) := by decide +kernel
theorem dX12_feed_9 : decode cX12_feed 9 = .ok (.bipush 20, 2) := by decide +kernel
theorem dX12_feed_11 : decode cX12_feed 11 = .ok (.iadd, 1) := by decide +kernel
theorem dX12_feed_12 : decode cX12_feed 12 = .ok (.sipush 440, 3) := by decide +kernel
theorem dX12_feed_15 : decode cX12_feed 15 = .ok (.if_icmp .le 5, 3) := by decide +kernel
theorem dX12_feed_18 : decode cX12_feed 18 = .ok (.iconst (-1), 1) := by decide +kernel
theorem dX12_feed_19 : decode cX12_feed 19 = .ok (.ireturn, 1) := by decide +kernel
theorem dX12_feed_20 : decode cX12_feed 20 = .ok (.aload_n 0, 1) := by decide +kernel
theorem dX12_feed_21 : decode cX12_feed 21 = .ok (.iload_n 1, 1) := by decide +kernel
theorem dX12_feed_22 : decode cX12_feed 22 = .ok (.invokevirtual 93, 3) := by decide +kernel
theorem dX12_feed_25 : decode cX12_feed 25 = .ok (.aload_n 0, 1) := by decide +kernel
theorem dX12_feed_26 : decode cX12_feed 26 = .ok (.iload_n 2, 1) := by decide +kernel
theorem dX12_feed_27 : decode cX12_feed 27 = .ok (.invokevirtual 93, 3) := by decide +kernel
theorem dX12_feed_30 : decode cX12_feed 30 = .ok (.aload_n 0, 1) := by decide +kernel
theorem dX12_feed_31 : decode cX12_feed 31 = .ok (.iload_n 3, 1) := by decide +kernel
theorem dX12_feed_32 : decode cX12_feed 32 = .ok (.invokevirtual 93, 3) := by decide +kernel
theorem dX12_feed_35 : decode cX12_feed 35 = .ok (.aload_n 0, 1) := by decide +kernel
theorem dX12_feed_36 : decode cX12_feed 36 = .ok (.iload 4, 2) := by decide +kernel
theorem dX12_feed_38 : decode cX12_feed 38 = .ok (.invokevirtual 93, 3) := by decide +kernel
theorem dX12_feed_41 : decode cX12_feed 41 = .ok (.aload_n 0, 1) := by decide +kernel
theorem dX12_feed_42 : decode cX12_feed 42 = .ok (.iload 5, 2) := by decide +kernel
theorem dX12_feed_44 : decode cX12_feed 44 = .ok (.invokevirtual 93, 3) := by decide +kernel
theorem dX12_feed_47 : decode cX12_feed 47 = .ok (.aload_n 0, 1) := by decide +kernel
theorem dX12_feed_48 : decode cX12_feed 48 = .ok (.getfield 90, 3) := by decide +kernel
theorem dX12_feed_51 : decode cX12_feed 51 = .ok (.ireturn, 1) := by decide +kernel
theorem dX12_end_0 : decode cX12_end 0 = .ok (.aload_n 0, 1) := by decide +kernel
theorem dX12_end_1 : decode cX12_end 1 = .ok (.iconst 0, 1) := by decide +kernel
theorem dX12_end_2 : decode cX12_end 2 = .ok (.putfield 86, 3) := by decide +kernel
theorem dX12_end_5 : decode cX12_end 5 = .ok (.iload_n 1, 1) := by decide +kernel
theorem dX12_end_6 : decode cX12_end 6 = .ok (.ifCond .lt 11, 3) := by decide +kernel
theorem dX12_end_9 : decode cX12_end 9 = .ok (.iload_n 1, 1) := by decide +kernel
theorem dX12_end_10 : decode cX12_end 10 = .ok (.aload_n 0, 1) := by decide +kernel
theorem dX12_end_11 : decode cX12_end 11 = .ok (.getfield 90, 3) := by decide +kernel
theorem dX12_end_14 : decode cX12_end 14 = .ok (.if_icmp .le 5, 3) := by decide +kernel
theorem dX12_end_17 : decode cX12_end 17 = .ok (.iconst 0, 1) := by decide +kernel
theorem dX12_end_18 : decode cX12_end 18 = .ok (.ireturn, 1) := by decide +kernel
theorem dX12_end_19 : decode cX12_end 19 = .ok (.aload_n 0, 1) := by decide +kernel
theorem dX12_end_20 : decode cX12_end 20 = .ok (.iload_n 1, 1) := by decide +kernel
theorem dX12_end_21 : decode cX12_end 21 = .ok (.putfield 90, 3) := by decide +kernel
theorem dX12_end_24 : decode cX12_end 24 = .ok (.iconst 1, 1) := by decide +kernel
theorem dX12_end_25 : decode cX12_end 25 = .ok (.ireturn, 1) := by decide +kernel
theorem dX12_at_0 : decode cX12_at 0 = .ok (.iload_n 1, 1) := by decide +kernel
theorem dX12_at_1 : decode cX12_at 1 = .ok (.aload_n 0, 1) := by decide +kernel
theorem dX12_at_2 : decode cX12_at 2 = .ok (.getfield 97, 3) := by decide +kernel
theorem dX12_at_5 : decode cX12_at 5 = .ok (.if_icmp .ge 12, 3) := by decide +kernel
theorem dX12_at_8 : decode cX12_at 8 = .ok (.aload_n 0, 1) := by decide +kernel
theorem dX12_at_9 : decode cX12_at 9 = .ok (.getfield 13, 3) := by decide +kernel
theorem dX12_at_12 : decode cX12_at 12 = .ok (.iload_n 1, 1) := by decide +kernel
theorem dX12_at_13 : decode cX12_at 13 = .ok (.iaload, 1) := by decide +kernel
theorem dX12_at_14 : decode cX12_at 14 = .ok (.goto 4, 3) := by decide +kernel
theorem dX12_at_17 : decode cX12_at 17 = .ok (.iconst 0, 1) := by decide +kernel
theorem dX12_at_18 : decode cX12_at 18 = .ok (.ireturn, 1) := by decide +kernel
theorem dX12_isDigit_0 : decode cX12_isDigit 0 = .ok (.iload_n 0, 1) := by decide +kernel
theorem dX12_isDigit_1 : decode cX12_isDigit 1 = .ok (.bipush 48, 2) := by decide +kernel
theorem dX12_isDigit_3 : decode cX12_isDigit 3 = .ok (.if_icmp .lt 13, 3) := by decide +kernel
theorem dX12_isDigit_6 : decode cX12_isDigit 6 = .ok (.iload_n 0, 1) := by decide +kernel
theorem dX12_isDigit_7 : decode cX12_isDigit 7 = .ok (.bipush 57, 2) := by decide +kernel
theorem dX12_isDigit_9 : decode cX12_isDigit 9 = .ok (.if_icmp .gt 7, 3) := by decide +kernel
theorem dX12_isDigit_12 : decode cX12_isDigit 12 = .ok (.iconst 1, 1) := by decide +kernel
theorem dX12_isDigit_13 : decode cX12_isDigit 13 = .ok (.goto 4, 3) := by decide +kernel
theorem dX12_isDigit_16 : decode cX12_isDigit 16 = .ok (.iconst 0, 1) := by decide +kernel
theorem dX12_isDigit_17 : decode cX12_isDigit 17 = .ok (.ireturn, 1) := by decide +kernel
theorem dX12_isLetter_0 : decode cX12_isLetter 0 = .ok (.iload_n 0, 1) := by decide +kernel
theorem dX12_isLetter_1 : decode cX12_isLetter 1 = .ok (.bipush 97, 2) := by decide +kernel
theorem dX12_isLetter_3 : decode cX12_isLetter 3 = .ok (.if_icmp .lt 13, 3) := by decide +kernel
theorem dX12_isLetter_6 : decode cX12_isLetter 6 = .ok (.iload_n 0, 1) := by decide +kernel
theorem dX12_isLetter_7 : decode cX12_isLetter 7 = .ok (.bipush 122, 2) := by decide +kernel
theorem dX12_isLetter_9 : decode cX12_isLetter 9 = .ok (.if_icmp .gt 7, 3) := by decide +kernel
theorem dX12_isLetter_12 : decode cX12_isLetter 12 = .ok (.iconst 1, 1) := by decide +kernel
theorem dX12_isLetter_13 : decode cX12_isLetter 13 = .ok (.goto 4, 3) := by decide +kernel
theorem dX12_isLetter_16 : decode cX12_isLetter 16 = .ok (.iconst 0, 1) := by decide +kernel
theorem dX12_isLetter_17 : decode cX12_isLetter 17 = .ok (.ireturn, 1) := by decide +kernel
theorem dX12_isCount_0 : decode cX12_isCount 0 = .ok (.iload_n 1, 1) := by decide +kernel
theorem dX12_isCount_1 : decode cX12_isCount 1 = .ok (.invokestatic 100, 3) := by decide +kernel
theorem dX12_isCount_4 : decode cX12_isCount 4 = .ok (.ifCond .ne 16, 3) := by decide +kernel
theorem dX12_isCount_7 : decode cX12_isCount 7 = .ok (.aload_n 0, 1) := by decide +kernel
theorem dX12_isCount_8 : decode cX12_isCount 8 = .ok (.getfield 104, 3) := by decide +kernel
theorem dX12_isCount_11 : decode cX12_isCount 11 = .ok (.ifCond .eq 13, 3) := by decide +kernel
theorem dX12_isCount_14 : decode cX12_isCount 14 = .ok (.iload_n 1, 1) := by decide +kernel
theorem dX12_isCount_15 : decode cX12_isCount 15 = .ok (.bipush 63, 2) := by decide +kernel
theorem dX12_isCount_17 : decode cX12_isCount 17 = .ok (.if_icmp .ne 7, 3) := by decide +kernel
theorem dX12_isCount_20 : decode cX12_isCount 20 = .ok (.iconst 1, 1) := by decide +kernel
theorem dX12_isCount_21 : decode cX12_isCount 21 = .ok (.goto 4, 3) := by decide +kernel
theorem dX12_isCount_24 : decode cX12_isCount 24 = .ok (.iconst 0, 1) := by decide +kernel
theorem dX12_isCount_25 : decode cX12_isCount 25 = .ok (.ireturn, 1) := by decide +kernel
theorem dX12_go_0 : decode cX12_go 0 = .ok (.aload_n 0, 1) := by decide +kernel
theorem dX12_go_1 : decode cX12_go 1 = .ok (.getfield 108, 3) := by decide +kernel
theorem dX12_go_4 : decode cX12_go 4 = .ok (.aload_n 0, 1) := by decide +kernel
theorem dX12_go_5 : decode cX12_go 5 = .ok (.getfield 97, 3) := by decide +kernel
theorem dX12_go_8 : decode cX12_go 8 = .ok (.if_icmp .ge 44, 3) := by decide +kernel
theorem dX12_go_11 : decode cX12_go 11 = .ok (.aload_n 0, 1) := by decide +kernel
theorem dX12_go_12 : decode cX12_go 12 = .ok (.getfield 13, 3) := by decide +kernel
theorem dX12_go_15 : decode cX12_go 15 = .ok (.aload_n 0, 1) := by decide +kernel
theorem dX12_go_16 : decode cX12_go 16 = .ok (.getfield 108, 3) := by decide +kernel
theorem dX12_go_19 : decode cX12_go 19 = .ok (.iaload, 1) := by decide +kernel
theorem dX12_go_20 : decode cX12_go 20 = .ok (.bipush 32, 2) := by decide +kernel
theorem dX12_go_22 : decode cX12_go 22 = .ok (.if_icmp .eq 17, 3) := by decide +kernel
theorem dX12_go_25 : decode cX12_go 25 = .ok (.aload_n 0, 1) := by decide +kernel
theorem dX12_go_26 : decode cX12_go 26 = .ok (.getfield 13, 3) := by decide +kernel
theorem dX12_go_29 : decode cX12_go 29 = .ok (.aload_n 0, 1) := by decide +kernel
theorem dX12_go_30 : decode cX12_go 30 = .ok (.getfield 108, 3) := by decide +kernel
theorem dX12_go_33 : decode cX12_go 33 = .ok (.iaload, 1) := by decide +kernel
theorem dX12_go_34 : decode cX12_go 34 = .ok (.bipush 10, 2) := by decide +kernel
theorem dX12_go_36 : decode cX12_go 36 = .ok (.if_icmp .ne 16, 3) := by decide +kernel
theorem dX12_go_39 : decode cX12_go 39 = .ok (.aload_n 0, 1) := by decide +kernel
theorem dX12_go_40 : decode cX12_go 40 = .ok (.dup, 1) := by decide +kernel
theorem dX12_go_41 : decode cX12_go 41 = .ok (.getfield 108, 3) := by decide +kernel
theorem dX12_go_44 : decode cX12_go 44 = .ok (.iconst 1, 1) := by decide +kernel
theorem dX12_go_45 : decode cX12_go 45 = .ok (.iadd, 1) := by decide +kernel
theorem dX12_go_46 : decode cX12_go 46 = .ok (.putfield 108, 3) := by decide +kernel
theorem dX12_go_49 : decode cX12_go 49 = .ok (.goto (-49), 3) := by decide +kernel
theorem dX12_go_52 : decode cX12_go 52 = .ok (.aload_n 0, 1) := by decide +kernel
theorem dX12_go_53 : decode cX12_go 53 = .ok (.aload_n 0, 1) := by decide +kernel
theorem dX12_go_54 : decode cX12_go 54 = .ok (.getfield 108, 3) := by decide +kernel
theorem dX12_go_57 : decode cX12_go 57 = .ok (.putfield 111, 3) := by decide +kernel
theorem dX12_go_60 : decode cX12_go 60 = .ok (.aload_n 0, 1) := by decide +kernel
theorem dX12_go_61 : decode cX12_go 61 = .ok (.getfield 97, 3) := by decide +kernel
theorem dX12_go_64 : decode cX12_go 64 = .ok (.aload_n 0, 1) := by decide +kernel
theorem dX12_go_65 : decode cX12_go 65 = .ok (.getfield 114, 3) := by decide +kernel
theorem dX12_go_68 : decode cX12_go 68 = .ok (.if_icmp .le 28, 3) := by decide +kernel
theorem dX12_go_71 : decode cX12_go 71 = .ok (.aload_n 0, 1) := by decide +kernel
theorem dX12_go_72 : decode cX12_go 72 = .ok (.getfield 111, 3) := by decide +kernel
theorem dX12_go_75 : decode cX12_go 75 = .ok (.aload_n 0, 1) := by decide +kernel
theorem dX12_go_76 : decode cX12_go 76 = .ok (.getfield 114, 3) := by decide +kernel
theorem dX12_go_79 : decode cX12_go 79 = .ok (.if_icmp .lt 17, 3) := by decide +kernel
theorem dX12_go_82 : decode cX12_go 82 = .ok (.aload_n 0, 1) := by decide +kernel
theorem dX12_go_83 : decode cX12_go 83 = .ok (.aload_n 0, 1) := by decide +kernel
theorem dX12_go_84 : decode cX12_go 84 = .ok (.getfield 114, 3) := by decide +kernel
theorem dX12_go_87 : decode cX12_go 87 = .ok (.putfield 111, 3) := by decide +kernel
theorem dX12_go_90 : decode cX12_go 90 = .ok (.aload_n 0, 1) := by decide +kernel
theorem dX12_go_91 : decode cX12_go 91 = .ok (.iconst 1, 1) := by decide +kernel
theorem dX12_go_92 : decode cX12_go 92 = .ok (.putfield 117, 3) := by decide +kernel
theorem dX12_go_95 : decode cX12_go 95 = .ok (.return_, 1) := by decide +kernel
theorem dX12_go_96 : decode cX12_go 96 = .ok (.aload_n 0, 1) := by decide +kernel
theorem dX12_go_97 : decode cX12_go 97 = .ok (.getfield 108, 3) := by decide +kernel
theorem dX12_go_100 : decode cX12_go 100 = .ok (.aload_n 0, 1) := by decide +kernel
theorem dX12_go_101 : decode cX12_go 101 = .ok (.getfield 97, 3) := by decide +kernel
theorem dX12_go_104 : decode cX12_go 104 = .ok (.if_icmp .lt 9, 3) := by decide +kernel
theorem dX12_go_107 : decode cX12_go 107 = .ok (.aload_n 0, 1) := by decide +kernel
theorem dX12_go_108 : decode cX12_go 108 = .ok (.iconst 0, 1) := by decide +kernel
theorem dX12_go_109 : decode cX12_go 109 = .ok (.putfield 117, 3) := by decide +kernel
theorem dX12_go_112 : decode cX12_go 112 = .ok (.return_, 1) := by decide +kernel
theorem dX12_go_113 : decode cX12_go 113 = .ok (.aload_n 0, 1) := by decide +kernel
theorem dX12_go_114 : decode cX12_go 114 = .ok (.getfield 13, 3) := by decide +kernel
theorem dX12_go_117 : decode cX12_go 117 = .ok (.aload_n 0, 1) := by decide +kernel
theorem dX12_go_118 : decode cX12_go 118 = .ok (.getfield 108, 3) := by decide +kernel
theorem dX12_go_121 : decode cX12_go 121 = .ok (.iaload, 1) := by decide +kernel
theorem dX12_go_122 : decode cX12_go 122 = .ok (.istore_n 1, 1) := by decide +kernel
theorem dX12_go_123 : decode cX12_go 123 = .ok (.iload_n 1, 1) := by decide +kernel
theorem dX12_go_124 : decode cX12_go 124 = .ok (.invokestatic 120, 3) := by decide +kernel
theorem dX12_go_127 : decode cX12_go 127 = .ok (.ifCond .ne 48, 3) := by decide +kernel
theorem dX12_go_130 : decode cX12_go 130 = .ok (.aload_n 0, 1) := by decide +kernel
theorem dX12_go_131 : decode cX12_go 131 = .ok (.iload_n 1, 1) := by decide +kernel
theorem dX12_go_132 : decode cX12_go 132 = .ok (.invokevirtual 123, 3) := by decide +kernel
theorem dX12_go_135 : decode cX12_go 135 = .ok (.ifCond .ne 40, 3) := by decide +kernel
theorem dX12_go_138 : decode cX12_go 138 = .ok (.aload_n 0, 1) := by decide +kernel
theorem dX12_go_139 : decode cX12_go 139 = .ok (.iload_n 1, 1) := by decide +kernel
theorem dX12_go_140 : decode cX12_go 140 = .ok (.bipush 58, 2) := by decide +kernel
theorem dX12_go_142 : decode cX12_go 142 = .ok (.if_icmp .eq 9, 3) := by decide +kernel
theorem dX12_go_145 : decode cX12_go 145 = .ok (.iload_n 1, 1) := by decide +kernel
theorem dX12_go_146 : decode cX12_go 146 = .ok (.bipush 59, 2) := by decide +kernel
theorem dX12_go_148 : decode cX12_go 148 = .ok (.if_icmp .ne 7, 3) := by decide +kernel
theorem dX12_go_151 : decode cX12_go 151 = .ok (.iconst 4, 1) := by decide +kernel
theorem dX12_go_152 : decode cX12_go 152 = .ok (.goto 4, 3) := by decide +kernel
theorem dX12_go_155 : decode cX12_go 155 = .ok (.iconst 1, 1) := by decide +kernel
theorem dX12_go_156 : decode cX12_go 156 = .ok (.putfield 117, 3) := by decide +kernel
theorem dX12_go_159 : decode cX12_go 159 = .ok (.aload_n 0, 1) := by decide +kernel
theorem dX12_go_160 : decode cX12_go 160 = .ok (.iload_n 1, 1) := by decide +kernel
theorem dX12_go_161 : decode cX12_go 161 = .ok (.putfield 126, 3) := by decide +kernel
theorem dX12_go_164 : decode cX12_go 164 = .ok (.aload_n 0, 1) := by decide +kernel
theorem dX12_go_165 : decode cX12_go 165 = .ok (.dup, 1) := by decide +kernel
theorem dX12_go_166 : decode cX12_go 166 = .ok (.getfield 108, 3) := by decide +kernel
theorem dX12_go_169 : decode cX12_go 169 = .ok (.iconst 1, 1) := by decide +kernel
theorem dX12_go_170 : decode cX12_go 170 = .ok (.iadd, 1) := by decide +kernel
theorem dX12_go_171 : decode cX12_go 171 = .ok (.putfield 108, 3) := by decide +kernel
theorem dX12_go_174 : decode cX12_go 174 = .ok (.return_, 1) := by decide +kernel
theorem dX12_go_175 : decode cX12_go 175 = .ok (.iload_n 1, 1) := by decide +kernel
theorem dX12_go_176 : decode cX12_go 176 = .ok (.invokestatic 120, 3) := by decide +kernel
theorem dX12_go_179 : decode cX12_go 179 = .ok (.istore_n 2, 1) := by decide +kernel
theorem dX12_go_180 : decode cX12_go 180 = .ok (.iconst 1, 1) := by decide +kernel
theorem dX12_go_181 : decode cX12_go 181 = .ok (.istore_n 3, 1) := by decide +kernel
theorem dX12_go_182 : decode cX12_go 182 = .ok (.aload_n 0, 1) := by decide +kernel
theorem dX12_go_183 : decode cX12_go 183 = .ok (.lconst 0, 1) := by decide +kernel
theorem dX12_go_184 : decode cX12_go 184 = .ok (.putfield 129, 3) := by decide +kernel
theorem dX12_go_187 : decode cX12_go 187 = .ok (.aload_n 0, 1) := by decide +kernel
theorem dX12_go_188 : decode cX12_go 188 = .ok (.aload_n 0, 1) := by decide +kernel
theorem dX12_go_189 : decode cX12_go 189 = .ok (.getfield 108, 3) := by decide +kernel
theorem dX12_go_192 : decode cX12_go 192 = .ok (.invokevirtual 133, 3) := by decide +kernel
theorem dX12_go_195 : decode cX12_go 195 = .ok (.invokestatic 120, 3) := by decide +kernel
theorem dX12_go_198 : decode cX12_go 198 = .ok (.ifCond .ne 18, 3) := by decide +kernel
theorem dX12_go_201 : decode cX12_go 201 = .ok (.aload_n 0, 1) := by decide +kernel
theorem dX12_go_202 : decode cX12_go 202 = .ok (.aload_n 0, 1) := by decide +kernel
theorem dX12_go_203 : decode cX12_go 203 = .ok (.aload_n 0, 1) := by decide +kernel
theorem dX12_go_204 : decode cX12_go 204 = .ok (.getfield 108, 3) := by decide +kernel
theorem dX12_go_207 : decode cX12_go 207 = .ok (.invokevirtual 133, 3) := by decide +kernel
theorem dX12_go_210 : decode cX12_go 210 = .ok (.invokevirtual 123, 3) := by decide +kernel
theorem dX12_go_213 : decode cX12_go 213 = .ok (.ifCond .eq 80, 3) := by decide +kernel
theorem dX12_go_216 : decode cX12_go 216 = .ok (.aload_n 0, 1) := by decide +kernel
theorem dX12_go_217 : decode cX12_go 217 = .ok (.getfield 13, 3) := by decide +kernel
theorem dX12_go_220 : decode cX12_go 220 = .ok (.aload_n 0, 1) := by decide +kernel
theorem dX12_go_221 : decode cX12_go 221 = .ok (.getfield 108, 3) := by decide +kernel
theorem dX12_go_224 : decode cX12_go 224 = .ok (.iaload, 1) := by decide +kernel
theorem dX12_go_225 : decode cX12_go 225 = .ok (.istore 4, 2) := by decide +kernel
theorem dX12_go_227 : decode cX12_go 227 = .ok (.iload_n 3, 1) := by decide +kernel
theorem dX12_go_228 : decode cX12_go 228 = .ok (.ifCond .eq 16, 3) := by decide +kernel
theorem dX12_go_231 : decode cX12_go 231 = .ok (.iload 4, 2) := by decide +kernel
theorem dX12_go_233 : decode cX12_go 233 = .ok (.invokestatic 120, 3) := by decide +kernel
theorem dX12_go_236 : decode cX12_go 236 = .ok (.iload_n 2, 1) := by decide +kernel
theorem dX12_go_237 : decode cX12_go 237 = .ok (.if_icmp .ne 7, 3) := by decide +kernel
theorem dX12_go_240 : decode cX12_go 240 = .ok (.iconst 1, 1) := by decide +kernel
theorem dX12_go_241 : decode cX12_go 241 = .ok (.goto 4, 3) := by decide +kernel
theorem dX12_go_244 : decode cX12_go 244 = .ok (.iconst 0, 1) := by decide +kernel
theorem dX12_go_245 : decode cX12_go 245 = .ok (.istore_n 3, 1) := by decide +kernel
theorem dX12_go_246 : decode cX12_go 246 = .ok (.aload_n 0, 1) := by decide +kernel
theorem dX12_go_247 : decode cX12_go 247 = .ok (.getfield 108, 3) := by decide +kernel
theorem dX12_go_250 : decode cX12_go 250 = .ok (.aload_n 0, 1) := by decide +kernel
theorem dX12_go_251 : decode cX12_go 251 = .ok (.getfield 111, 3) := by decide +kernel
theorem dX12_go_254 : decode cX12_go 254 = .ok (.isub, 1) := by decide +kernel
theorem dX12_go_255 : decode cX12_go 255 = .ok (.bipush 8, 2) := by decide +kernel
theorem dX12_go_257 : decode cX12_go 257 = .ok (.if_icmp .ge 23, 3) := by decide +kernel
theorem dX12_go_260 : decode cX12_go 260 = .ok (.aload_n 0, 1) := by decide +kernel
theorem dX12_go_261 : decode cX12_go 261 = .ok (.ldc2_w 137, 3) := by decide +kernel
theorem dX12_go_264 : decode cX12_go 264 = .ok (.aload_n 0, 1) := by decide +kernel
theorem dX12_go_265 : decode cX12_go 265 = .ok (.getfield 129, 3) := by decide +kernel
theorem dX12_go_268 : decode cX12_go 268 = .ok (.lmul, 1) := by decide +kernel
theorem dX12_go_269 : decode cX12_go 269 = .ok (.iload 4, 2) := by decide +kernel
theorem dX12_go_271 : decode cX12_go 271 = .ok (.i2l, 1) := by decide +kernel
theorem dX12_go_272 : decode cX12_go 272 = .ok (.ladd, 1) := by decide +kernel
theorem dX12_go_273 : decode cX12_go 273 = .ok (.ldc2_w 139, 3) := by decide +kernel
theorem dX12_go_276 : decode cX12_go 276 = .ok (.lsub, 1) := by decide +kernel
theorem dX12_go_277 : decode cX12_go 277 = .ok (.putfield 129, 3) := by decide +kernel
theorem dX12_go_280 : decode cX12_go 280 = .ok (.aload_n 0, 1) := by decide +kernel
theorem dX12_go_281 : decode cX12_go 281 = .ok (.dup, 1) := by decide +kernel
theorem dX12_go_282 : decode cX12_go 282 = .ok (.getfield 108, 3) := by decide +kernel
theorem dX12_go_285 : decode cX12_go 285 = .ok (.iconst 1, 1) := by decide +kernel
theorem dX12_go_286 : decode cX12_go 286 = .ok (.iadd, 1) := by decide +kernel
theorem dX12_go_287 : decode cX12_go 287 = .ok (.putfield 108, 3) := by decide +kernel
theorem dX12_go_290 : decode cX12_go 290 = .ok (.goto (-103), 3) := by decide +kernel
theorem dX12_go_293 : decode cX12_go 293 = .ok (.aload_n 0, 1) := by decide +kernel
theorem dX12_go_294 : decode cX12_go 294 = .ok (.getfield 108, 3) := by decide +kernel
theorem dX12_go_297 : decode cX12_go 297 = .ok (.aload_n 0, 1) := by decide +kernel
theorem dX12_go_298 : decode cX12_go 298 = .ok (.getfield 111, 3) := by decide +kernel
theorem dX12_go_301 : decode cX12_go 301 = .ok (.isub, 1) := by decide +kernel
theorem dX12_go_302 : decode cX12_go 302 = .ok (.istore 4, 2) := by decide +kernel
theorem dX12_go_304 : decode cX12_go 304 = .ok (.aload_n 0, 1) := by decide +kernel
theorem dX12_go_305 : decode cX12_go 305 = .ok (.aload_n 0, 1) := by decide +kernel
theorem dX12_go_306 : decode cX12_go 306 = .ok (.getfield 13, 3) := by decide +kernel
theorem dX12_go_309 : decode cX12_go 309 = .ok (.aload_n 0, 1) := by decide +kernel
theorem dX12_go_310 : decode cX12_go 310 = .ok (.getfield 111, 3) := by decide +kernel
theorem dX12_go_313 : decode cX12_go 313 = .ok (.iaload, 1) := by decide +kernel
theorem dX12_go_314 : decode cX12_go 314 = .ok (.invokestatic 141, 3) := by decide +kernel
theorem dX12_go_317 : decode cX12_go 317 = .ok (.putfield 144, 3) := by decide +kernel
theorem dX12_go_320 : decode cX12_go 320 = .ok (.aload_n 0, 1) := by decide +kernel
theorem dX12_go_321 : decode cX12_go 321 = .ok (.iload 4, 2) := by decide +kernel
theorem dX12_go_323 : decode cX12_go 323 = .ok (.iconst 1, 1) := by decide +kernel
theorem dX12_go_324 : decode cX12_go 324 = .ok (.if_icmp .le 20, 3) := by decide +kernel
theorem dX12_go_327 : decode cX12_go 327 = .ok (.aload_n 0, 1) := by decide +kernel
theorem dX12_go_328 : decode cX12_go 328 = .ok (.getfield 13, 3) := by decide +kernel
theorem dX12_go_331 : decode cX12_go 331 = .ok (.aload_n 0, 1) := by decide +kernel
theorem dX12_go_332 : decode cX12_go 332 = .ok (.getfield 111, 3) := by decide +kernel
theorem dX12_go_335 : decode cX12_go 335 = .ok (.iconst 1, 1) := by decide +kernel
theorem dX12_go_336 : decode cX12_go 336 = .ok (.iadd, 1) := by decide +kernel
theorem dX12_go_337 : decode cX12_go 337 = .ok (.iaload, 1) := by decide +kernel
theorem dX12_go_338 : decode cX12_go 338 = .ok (.invokestatic 141, 3) := by decide +kernel
theorem dX12_go_341 : decode cX12_go 341 = .ok (.goto 4, 3) := by decide +kernel
theorem dX12_go_344 : decode cX12_go 344 = .ok (.iconst (-1), 1) := by decide +kernel
theorem dX12_go_345 : decode cX12_go 345 = .ok (.putfield 147, 3) := by decide +kernel
theorem dX12_go_348 : decode cX12_go 348 = .ok (.aload_n 0, 1) := by decide +kernel
theorem dX12_go_349 : decode cX12_go 349 = .ok (.iload_n 3, 1) := by decide +kernel
theorem dX12_go_350 : decode cX12_go 350 = .ok (.ifCond .eq 18, 3) := by decide +kernel
theorem dX12_go_353 : decode cX12_go 353 = .ok (.iload 4, 2) := by decide +kernel
theorem dX12_go_355 : decode cX12_go 355 = .ok (.iload_n 2, 1) := by decide +kernel
theorem dX12_go_356 : decode cX12_go 356 = .ok (.ifCond .eq 8, 3) := by decide +kernel
theorem dX12_go_359 : decode cX12_go 359 = .ok (.bipush 8, 2) := by decide +kernel
theorem dX12_go_361 : decode cX12_go 361 = .ok (.goto 4, 3) := by decide +kernel
theorem dX12_go_364 : decode cX12_go 364 = .ok (.iconst 2, 1) := by decide +kernel
theorem dX12_go_365 : decode cX12_go 365 = .ok (.if_icmp .le 7, 3) := by decide +kernel
theorem dX12_go_368 : decode cX12_go 368 = .ok (.iconst 1, 1) := by decide +kernel
theorem dX12_go_369 : decode cX12_go 369 = .ok (.goto 12, 3) := by decide +kernel
theorem dX12_go_372 : decode cX12_go 372 = .ok (.iload_n 2, 1) := by decide +kernel
theorem dX12_go_373 : decode cX12_go 373 = .ok (.ifCond .eq 7, 3) := by decide +kernel
theorem dX12_go_376 : decode cX12_go 376 = .ok (.iconst 2, 1) := by decide +kernel
theorem dX12_go_377 : decode cX12_go 377 = .ok (.goto 4, 3) := by decide +kernel
theorem dX12_go_380 : decode cX12_go 380 = .ok (.iconst 3, 1) := by decide +kernel
theorem dX12_go_381 : decode cX12_go 381 = .ok (.putfield 117, 3) := by decide +kernel
theorem dX12_go_384 : decode cX12_go 384 = .ok (.return_, 1) := by decide +kernel
theorem dX12_digitOf_0 : decode cX12_digitOf 0 = .ok (.iload_n 0, 1) := by decide +kernel
theorem dX12_digitOf_1 : decode cX12_digitOf 1 = .ok (.bipush 63, 2) := by decide +kernel
theorem dX12_digitOf_3 : decode cX12_digitOf 3 = .ok (.if_icmp .ne 8, 3) := by decide +kernel
theorem dX12_digitOf_6 : decode cX12_digitOf 6 = .ok (.bipush 10, 2) := by decide +kernel
theorem dX12_digitOf_8 : decode cX12_digitOf 8 = .ok (.goto 7, 3) := by decide +kernel
theorem dX12_digitOf_11 : decode cX12_digitOf 11 = .ok (.iload_n 0, 1) := by decide +kernel
theorem dX12_digitOf_12 : decode cX12_digitOf 12 = .ok (.bipush 48, 2) := by decide +kernel
theorem dX12_digitOf_14 : decode cX12_digitOf 14 = .ok (.isub, 1) := by decide +kernel
theorem dX12_digitOf_15 : decode cX12_digitOf 15 = .ok (.ireturn, 1) := by decide +kernel
theorem dX12_bad_0 : decode cX12_bad 0 = .ok (.aload_n 0, 1) := by decide +kernel
theorem dX12_bad_1 : decode cX12_bad 1 = .ok (.aload_n 0, 1) := by decide +kernel
theorem dX12_bad_2 : decode cX12_bad 2 = .ok (.getfield 117, 3) := by decide +kernel
theorem dX12_bad_5 : decode cX12_bad 5 = .ok (.iconst 1, 1) := by decide +kernel
theorem dX12_bad_6 : decode cX12_bad 6 = .ok (.if_icmp .ne 7, 3) := by decide +kernel
theorem dX12_bad_9 : decode cX12_bad 9 = .ok (.iconst 1, 1) := by decide +kernel
theorem dX12_bad_10 : decode cX12_bad 10 = .ok (.goto 4, 3) := by decide +kernel
theorem dX12_bad_13 : decode cX12_bad 13 = .ok (.iload_n 1, 1) := by decide +kernel
theorem dX12_bad_14 : decode cX12_bad 14 = .ok (.putfield 150, 3) := by decide +kernel
theorem dX12_bad_17 : decode cX12_bad 17 = .ok (.aload_n 0, 1) := by decide +kernel
theorem dX12_bad_18 : decode cX12_bad 18 = .ok (.aload_n 0, 1) := by decide +kernel
theorem dX12_bad_19 : decode cX12_bad 19 = .ok (.getfield 111, 3) := by decide +kernel
theorem dX12_bad_22 : decode cX12_bad 22 = .ok (.putfield 153, 3) := by decide +kernel
theorem dX12_bad_25 : decode cX12_bad 25 = .ok (.iconst 0, 1) := by decide +kernel
theorem dX12_bad_26 : decode cX12_bad 26 = .ok (.ireturn, 1) := by decide +kernel
theorem dX12_badAt_0 : decode cX12_badAt 0 = .ok (.aload_n 0, 1) := by decide +kernel
theorem dX12_badAt_1 : decode cX12_badAt 1 = .ok (.iload_n 1, 1) := by decide +kernel
theorem dX12_badAt_2 : decode cX12_badAt 2 = .ok (.putfield 150, 3) := by decide +kernel
theorem dX12_badAt_5 : decode cX12_badAt 5 = .ok (.aload_n 0, 1) := by decide +kernel
theorem dX12_badAt_6 : decode cX12_badAt 6 = .ok (.iload_n 2, 1) := by decide +kernel
theorem dX12_badAt_7 : decode cX12_badAt 7 = .ok (.putfield 153, 3) := by decide +kernel
theorem dX12_badAt_10 : decode cX12_badAt 10 = .ok (.iconst 0, 1) := by decide +kernel
theorem dX12_badAt_11 : decode cX12_badAt 11 = .ok (.ireturn, 1) := by decide +kernel
theorem dX12_isKey_0 : decode cX12_isKey 0 = .ok (.aload_n 0, 1) := by decide +kernel
theorem dX12_isKey_1 : decode cX12_isKey 1 = .ok (.getfield 117, 3) := by decide +kernel
theorem dX12_isKey_4 : decode cX12_isKey 4 = .ok (.iconst 2, 1) := by decide +kernel
theorem dX12_isKey_5 : decode cX12_isKey 5 = .ok (.if_icmp .ne 16, 3) := by decide +kernel
theorem dX12_isKey_8 : decode cX12_isKey 8 = .ok (.aload_n 0, 1) := by decide +kernel
theorem dX12_isKey_9 : decode cX12_isKey 9 = .ok (.getfield 129, 3) := by decide +kernel
theorem dX12_isKey_12 : decode cX12_isKey 12 = .ok (.lload_n 1, 1) := by decide +kernel
theorem dX12_isKey_13 : decode cX12_isKey 13 = .ok (.lcmp, 1) := by decide +kernel
theorem dX12_isKey_14 : decode cX12_isKey 14 = .ok (.ifCond .ne 7, 3) := by decide +kernel
theorem dX12_isKey_17 : decode cX12_isKey 17 = .ok (.iconst 1, 1) := by decide +kernel
theorem dX12_isKey_18 : decode cX12_isKey 18 = .ok (.goto 4, 3) := by decide +kernel
theorem dX12_isKey_21 : decode cX12_isKey 21 = .ok (.iconst 0, 1) := by decide +kernel
theorem dX12_isKey_22 : decode cX12_isKey 22 = .ok (.ireturn, 1) := by decide +kernel
theorem dX12_isFree_0 : decode cX12_isFree 0 = .ok (.aload_n 0, 1) := by decide +kernel
theorem dX12_isFree_1 : decode cX12_isFree 1 = .ok (.getfield 117, 3) := by decide +kernel
theorem dX12_isFree_4 : decode cX12_isFree 4 = .ok (.iconst 2, 1) := by decide +kernel
theorem dX12_isFree_5 : decode cX12_isFree 5 = .ok (.if_icmp .ne 40, 3) := by decide +kernel
theorem dX12_isFree_8 : decode cX12_isFree 8 = .ok (.aload_n 0, 1) := by decide +kernel
theorem dX12_isFree_9 : decode cX12_isFree 9 = .ok (.getfield 129, 3) := by decide +kernel
theorem dX12_isFree_12 : decode cX12_isFree 12 = .ok (.getstatic 156, 3) := by decide +kernel
theorem dX12_isFree_15 : decode cX12_isFree 15 = .ok (.lcmp, 1) := by decide +kernel
theorem dX12_isFree_16 : decode cX12_isFree 16 = .ok (.ifCond .eq 29, 3) := by decide +kernel
theorem dX12_isFree_19 : decode cX12_isFree 19 = .ok (.aload_n 0, 1) := by decide +kernel
theorem dX12_isFree_20 : decode cX12_isFree 20 = .ok (.getfield 129, 3) := by decide +kernel
theorem dX12_isFree_23 : decode cX12_isFree 23 = .ok (.getstatic 159, 3) := by decide +kernel
theorem dX12_isFree_26 : decode cX12_isFree 26 = .ok (.lcmp, 1) := by decide +kernel
theorem dX12_isFree_27 : decode cX12_isFree 27 = .ok (.ifCond .eq 18, 3) := by decide +kernel
theorem dX12_isFree_30 : decode cX12_isFree 30 = .ok (.aload_n 0, 1) := by decide +kernel
theorem dX12_isFree_31 : decode cX12_isFree 31 = .ok (.getfield 129, 3) := by decide +kernel
theorem dX12_isFree_34 : decode cX12_isFree 34 = .ok (.getstatic 162, 3) := by decide +kernel
theorem dX12_isFree_37 : decode cX12_isFree 37 = .ok (.lcmp, 1) := by decide +kernel
theorem dX12_isFree_38 : decode cX12_isFree 38 = .ok (.ifCond .eq 7, 3) := by decide +kernel
theorem dX12_isFree_41 : decode cX12_isFree 41 = .ok (.iconst 1, 1) := by decide +kernel
theorem dX12_isFree_42 : decode cX12_isFree 42 = .ok (.goto 4, 3) := by decide +kernel
theorem dX12_isFree_45 : decode cX12_isFree 45 = .ok (.iconst 0, 1) := by decide +kernel
theorem dX12_isFree_46 : decode cX12_isFree 46 = .ok (.ireturn, 1) := by decide +kernel
theorem dX12_isSign_0 : decode cX12_isSign 0 = .ok (.aload_n 0, 1) := by decide +kernel
theorem dX12_isSign_1 : decode cX12_isSign 1 = .ok (.getfield 117, 3) := by decide +kernel
theorem dX12_isSign_4 : decode cX12_isSign 4 = .ok (.iconst 4, 1) := by decide +kernel
theorem dX12_isSign_5 : decode cX12_isSign 5 = .ok (.if_icmp .ne 15, 3) := by decide +kernel
theorem dX12_isSign_8 : decode cX12_isSign 8 = .ok (.aload_n 0, 1) := by decide +kernel
theorem dX12_isSign_9 : decode cX12_isSign 9 = .ok (.getfield 126, 3) := by decide +kernel
theorem dX12_isSign_12 : decode cX12_isSign 12 = .ok (.iload_n 1, 1) := by decide +kernel
theorem dX12_isSign_13 : decode cX12_isSign 13 = .ok (.if_icmp .ne 7, 3) := by decide +kernel
theorem dX12_isSign_16 : decode cX12_isSign 16 = .ok (.iconst 1, 1) := by decide +kernel
theorem dX12_isSign_17 : decode cX12_isSign 17 = .ok (.goto 4, 3) := by decide +kernel
theorem dX12_isSign_20 : decode cX12_isSign 20 = .ok (.iconst 0, 1) := by decide +kernel
theorem dX12_isSign_21 : decode cX12_isSign 21 = .ok (.ireturn, 1) := by decide +kernel
theorem dX12_takes_0 : decode cX12_takes 0 = .ok (.aload_n 0, 1) := by decide +kernel
theorem dX12_takes_1 : decode cX12_takes 1 = .ok (.aload_n 0, 1) := by decide +kernel
theorem dX12_takes_2 : decode cX12_takes 2 = .ok (.getfield 90, 3) := by decide +kernel
theorem dX12_takes_5 : decode cX12_takes 5 = .ok (.putfield 97, 3) := by decide +kernel
theorem dX12_takes_8 : decode cX12_takes 8 = .ok (.aload_n 0, 1) := by decide +kernel
theorem dX12_takes_9 : decode cX12_takes 9 = .ok (.iconst 0, 1) := by decide +kernel
theorem dX12_takes_10 : decode cX12_takes 10 = .ok (.putfield 90, 3) := by decide +kernel
theorem dX12_takes_13 : decode cX12_takes 13 = .ok (.iconst 0, 1) := by decide +kernel
theorem dX12_takes_14 : decode cX12_takes 14 = .ok (.istore_n 3, 1) := by decide +kernel
theorem dX12_takes_15 : decode cX12_takes 15 = .ok (.iload_n 3, 1) := by decide +kernel
theorem dX12_takes_16 : decode cX12_takes 16 = .ok (.aload_n 0, 1) := by decide +kernel
theorem dX12_takes_17 : decode cX12_takes 17 = .ok (.getfield 97, 3) := by decide +kernel
theorem dX12_takes_20 : decode cX12_takes 20 = .ok (.if_icmp .ge 21, 3) := by decide +kernel
theorem dX12_takes_23 : decode cX12_takes 23 = .ok (.aload_n 0, 1) := by decide +kernel
theorem dX12_takes_24 : decode cX12_takes 24 = .ok (.getfield 13, 3) := by decide +kernel
theorem dX12_takes_27 : decode cX12_takes 27 = .ok (.iload_n 3, 1) := by decide +kernel
theorem dX12_takes_28 : decode cX12_takes 28 = .ok (.aload_n 0, 1) := by decide +kernel
theorem dX12_takes_29 : decode cX12_takes 29 = .ok (.getfield 7, 3) := by decide +kernel
theorem dX12_takes_32 : decode cX12_takes 32 = .ok (.iload_n 3, 1) := by decide +kernel
theorem dX12_takes_33 : decode cX12_takes 33 = .ok (.iaload, 1) := by decide +kernel
theorem dX12_takes_34 : decode cX12_takes 34 = .ok (.iastore, 1) := by decide +kernel
theorem dX12_takes_35 : decode cX12_takes 35 = .ok (.iinc 3 1, 3) := by decide +kernel
theorem dX12_takes_38 : decode cX12_takes 38 = .ok (.goto (-23), 3) := by decide +kernel
theorem dX12_takes_41 : decode cX12_takes 41 = .ok (.aload_n 0, 1) := by decide +kernel
theorem dX12_takes_42 : decode cX12_takes 42 = .ok (.iload_n 1, 1) := by decide +kernel
theorem dX12_takes_43 : decode cX12_takes 43 = .ok (.iload_n 2, 1) := by decide +kernel
theorem dX12_takes_44 : decode cX12_takes 44 = .ok (.invokevirtual 165, 3) := by decide +kernel
theorem dX12_takes_47 : decode cX12_takes 47 = .ok (.return_, 1) := by decide +kernel
theorem dX12_begins_0 : decode cX12_begins 0 = .ok (.aload_n 0, 1) := by decide +kernel
theorem dX12_begins_1 : decode cX12_begins 1 = .ok (.iload_n 1, 1) := by decide +kernel
theorem dX12_begins_2 : decode cX12_begins 2 = .ok (.putfield 114, 3) := by decide +kernel
theorem dX12_begins_5 : decode cX12_begins 5 = .ok (.aload_n 0, 1) := by decide +kernel
theorem dX12_begins_6 : decode cX12_begins 6 = .ok (.iload_n 2, 1) := by decide +kernel
theorem dX12_begins_7 : decode cX12_begins 7 = .ok (.putfield 104, 3) := by decide +kernel
theorem dX12_begins_10 : decode cX12_begins 10 = .ok (.aload_n 0, 1) := by decide +kernel
theorem dX12_begins_11 : decode cX12_begins 11 = .ok (.iconst 0, 1) := by decide +kernel
theorem dX12_begins_12 : decode cX12_begins 12 = .ok (.putfield 108, 3) := by decide +kernel
theorem dX12_begins_15 : decode cX12_begins 15 = .ok (.aload_n 0, 1) := by decide +kernel
theorem dX12_begins_16 : decode cX12_begins 16 = .ok (.invokevirtual 169, 3) := by decide +kernel
theorem dX12_begins_19 : decode cX12_begins 19 = .ok (.return_, 1) := by decide +kernel
theorem dX12_isTaken_0 : decode cX12_isTaken 0 = .ok (.iconst 3, 1) := by decide +kernel
theorem dX12_isTaken_1 : decode cX12_isTaken 1 = .ok (.istore_n 2, 1) := by decide +kernel
theorem dX12_isTaken_2 : decode cX12_isTaken 2 = .ok (.iload_n 2, 1) := by decide +kernel
theorem dX12_isTaken_3 : decode cX12_isTaken 3 = .ok (.iconst 3, 1) := by decide +kernel
theorem dX12_isTaken_4 : decode cX12_isTaken 4 = .ok (.iload_n 1, 1) := by decide +kernel
theorem dX12_isTaken_5 : decode cX12_isTaken 5 = .ok (.iadd, 1) := by decide +kernel
theorem dX12_isTaken_6 : decode cX12_isTaken 6 = .ok (.if_icmp .gt 63, 3) := by decide +kernel
theorem dX12_isTaken_9 : decode cX12_isTaken 9 = .ok (.aload_n 0, 1) := by decide +kernel
theorem dX12_isTaken_10 : decode cX12_isTaken 10 = .ok (.getfield 16, 3) := by decide +kernel
theorem dX12_isTaken_13 : decode cX12_isTaken 13 = .ok (.iload_n 2, 1) := by decide +kernel
theorem dX12_isTaken_14 : decode cX12_isTaken 14 = .ok (.laload, 1) := by decide +kernel
theorem dX12_isTaken_15 : decode cX12_isTaken 15 = .ok (.aload_n 0, 1) := by decide +kernel
theorem dX12_isTaken_16 : decode cX12_isTaken 16 = .ok (.getfield 129, 3) := by decide +kernel
theorem dX12_isTaken_19 : decode cX12_isTaken 19 = .ok (.lcmp, 1) := by decide +kernel
theorem dX12_isTaken_20 : decode cX12_isTaken 20 = .ok (.ifCond .ne 5, 3) := by decide +kernel
theorem dX12_isTaken_23 : decode cX12_isTaken 23 = .ok (.iconst 1, 1) := by decide +kernel
theorem dX12_isTaken_24 : decode cX12_isTaken 24 = .ok (.ireturn, 1) := by decide +kernel
theorem dX12_isTaken_25 : decode cX12_isTaken 25 = .ok (.iconst 0, 1) := by decide +kernel
theorem dX12_isTaken_26 : decode cX12_isTaken 26 = .ok (.istore_n 3, 1) := by decide +kernel
theorem dX12_isTaken_27 : decode cX12_isTaken 27 = .ok (.iload_n 3, 1) := by decide +kernel
theorem dX12_isTaken_28 : decode cX12_isTaken 28 = .ok (.aload_n 0, 1) := by decide +kernel
theorem dX12_isTaken_29 : decode cX12_isTaken 29 = .ok (.getfield 23, 3) := by decide +kernel
theorem dX12_isTaken_32 : decode cX12_isTaken 32 = .ok (.iload_n 2, 1) := by decide +kernel
theorem dX12_isTaken_33 : decode cX12_isTaken 33 = .ok (.iaload, 1) := by decide +kernel
theorem dX12_isTaken_34 : decode cX12_isTaken 34 = .ok (.if_icmp .ge 29, 3) := by decide +kernel
theorem dX12_isTaken_37 : decode cX12_isTaken 37 = .ok (.aload_n 0, 1) := by decide +kernel
theorem dX12_isTaken_38 : decode cX12_isTaken 38 = .ok (.getfield 20, 3) := by decide +kernel
theorem dX12_isTaken_41 : decode cX12_isTaken 41 = .ok (.iconst 5, 1) := by decide +kernel
theorem dX12_isTaken_42 : decode cX12_isTaken 42 = .ok (.iload_n 2, 1) := by decide +kernel
theorem dX12_isTaken_43 : decode cX12_isTaken 43 = .ok (.imul, 1) := by decide +kernel
theorem dX12_isTaken_44 : decode cX12_isTaken 44 = .ok (.iload_n 3, 1) := by decide +kernel
theorem dX12_isTaken_45 : decode cX12_isTaken 45 = .ok (.iadd, 1) := by decide +kernel
theorem dX12_isTaken_46 : decode cX12_isTaken 46 = .ok (.laload, 1) := by decide +kernel
theorem dX12_isTaken_47 : decode cX12_isTaken 47 = .ok (.aload_n 0, 1) := by decide +kernel
theorem dX12_isTaken_48 : decode cX12_isTaken 48 = .ok (.getfield 129, 3) := by decide +kernel
theorem dX12_isTaken_51 : decode cX12_isTaken 51 = .ok (.lcmp, 1) := by decide +kernel
theorem dX12_isTaken_52 : decode cX12_isTaken 52 = .ok (.ifCond .ne 5, 3) := by decide +kernel
theorem dX12_isTaken_55 : decode cX12_isTaken 55 = .ok (.iconst 1, 1) := by decide +kernel
theorem dX12_isTaken_56 : decode cX12_isTaken 56 = .ok (.ireturn, 1) := by decide +kernel
theorem dX12_isTaken_57 : decode cX12_isTaken 57 = .ok (.iinc 3 1, 3) := by decide +kernel
theorem dX12_isTaken_60 : decode cX12_isTaken 60 = .ok (.goto (-33), 3) := by decide +kernel
theorem dX12_isTaken_63 : decode cX12_isTaken 63 = .ok (.iinc 2 1, 3) := by decide +kernel
theorem dX12_isTaken_66 : decode cX12_isTaken 66 = .ok (.goto (-64), 3) := by decide +kernel
theorem dX12_isTaken_69 : decode cX12_isTaken 69 = .ok (.iconst 0, 1) := by decide +kernel
theorem dX12_isTaken_70 : decode cX12_isTaken 70 = .ok (.ireturn, 1) := by decide +kernel
theorem dX12_readSystem_0 : decode cX12_readSystem 0 = .ok (.iconst 3, 1) := by decide +kernel
theorem dX12_readSystem_1 : decode cX12_readSystem 1 = .ok (.iload_n 1, 1) := by decide +kernel
theorem dX12_readSystem_2 : decode cX12_readSystem 2 = .ok (.iadd, 1) := by decide +kernel
theorem dX12_readSystem_3 : decode cX12_readSystem 3 = .ok (.istore_n 2, 1) := by decide +kernel
theorem dX12_readSystem_4 : decode cX12_readSystem 4 = .ok (.aload_n 0, 1) := by decide +kernel
theorem dX12_readSystem_5 : decode cX12_readSystem 5 = .ok (.getfield 16, 3) := by decide +kernel
theorem dX12_readSystem_8 : decode cX12_readSystem 8 = .ok (.iload_n 2, 1) := by decide +kernel
theorem dX12_readSystem_9 : decode cX12_readSystem 9 = .ok (.lconst 0, 1) := by decide +kernel
theorem dX12_readSystem_10 : decode cX12_readSystem 10 = .ok (.lastore, 1) := by decide +kernel
theorem dX12_readSystem_11 : decode cX12_readSystem 11 = .ok (.aload_n 0, 1) := by decide +kernel
theorem dX12_readSystem_12 : decode cX12_readSystem 12 = .ok (.getfield 23, 3) := by decide +kernel
theorem dX12_readSystem_15 : decode cX12_readSystem 15 = .ok (.iload_n 2, 1) := by decide +kernel
theorem dX12_readSystem_16 : decode cX12_readSystem 16 = .ok (.iconst 0, 1) := by decide +kernel
theorem dX12_readSystem_17 : decode cX12_readSystem 17 = .ok (.iastore, 1) := by decide +kernel
theorem dX12_readSystem_18 : decode cX12_readSystem 18 = .ok (.aload_n 0, 1) := by decide +kernel
theorem dX12_readSystem_19 : decode cX12_readSystem 19 = .ok (.invokevirtual 172, 3) := by decide +kernel
theorem dX12_readSystem_22 : decode cX12_readSystem 22 = .ok (.ifCond .ne 9, 3) := by decide +kernel
theorem dX12_readSystem_25 : decode cX12_readSystem 25 = .ok (.aload_n 0, 1) := by decide +kernel
theorem dX12_readSystem_26 : decode cX12_readSystem 26 = .ok (.iconst 1, 1) := by decide +kernel
theorem dX12_readSystem_27 : decode cX12_readSystem 27 = .ok (.invokevirtual 176, 3) := by decide +kernel
theorem dX12_readSystem_30 : decode cX12_readSystem 30 = .ok (.ireturn, 1) := by decide +kernel
theorem dX12_readSystem_31 : decode cX12_readSystem 31 = .ok (.aload_n 0, 1) := by decide +kernel
theorem dX12_readSystem_32 : decode cX12_readSystem 32 = .ok (.iload_n 1, 1) := by decide +kernel
theorem dX12_readSystem_33 : decode cX12_readSystem 33 = .ok (.invokevirtual 179, 3) := by decide +kernel
theorem dX12_readSystem_36 : decode cX12_readSystem 36 = .ok (.ifCond .eq 9, 3) := by decide +kernel
theorem dX12_readSystem_39 : decode cX12_readSystem 39 = .ok (.aload_n 0, 1) := by decide +kernel
theorem dX12_readSystem_40 : decode cX12_readSystem 40 = .ok (.iconst 3, 1) := by decide +kernel
theorem dX12_readSystem_41 : decode cX12_readSystem 41 = .ok (.invokevirtual 176, 3) := by decide +kernel
theorem dX12_readSystem_44 : decode cX12_readSystem 44 = .ok (.ireturn, 1) := by decide +kernel
theorem dX12_readSystem_45 : decode cX12_readSystem 45 = .ok (.aload_n 0, 1) := by decide +kernel
theorem dX12_readSystem_46 : decode cX12_readSystem 46 = .ok (.getfield 16, 3) := by decide +kernel
theorem dX12_readSystem_49 : decode cX12_readSystem 49 = .ok (.iload_n 2, 1) := by decide +kernel
theorem dX12_readSystem_50 : decode cX12_readSystem 50 = .ok (.aload_n 0, 1) := by decide +kernel
theorem dX12_readSystem_51 : decode cX12_readSystem 51 = .ok (.getfield 129, 3) := by decide +kernel
theorem dX12_readSystem_54 : decode cX12_readSystem 54 = .ok (.lastore, 1) := by decide +kernel
theorem dX12_readSystem_55 : decode cX12_readSystem 55 = .ok (.aload_n 0, 1) := by decide +kernel
theorem dX12_readSystem_56 : decode cX12_readSystem 56 = .ok (.invokevirtual 169, 3) := by decide +kernel
theorem dX12_readSystem_59 : decode cX12_readSystem 59 = .ok (.aload_n 0, 1) := by decide +kernel
theorem dX12_readSystem_60 : decode cX12_readSystem 60 = .ok (.bipush 58, 2) := by decide +kernel
theorem dX12_readSystem_62 : decode cX12_readSystem 62 = .ok (.invokevirtual 182, 3) := by decide +kernel
theorem dX12_readSystem_65 : decode cX12_readSystem 65 = .ok (.ifCond .ne 9, 3) := by decide +kernel
theorem dX12_readSystem_68 : decode cX12_readSystem 68 = .ok (.aload_n 0, 1) := by decide +kernel
theorem dX12_readSystem_69 : decode cX12_readSystem 69 = .ok (.iconst 1, 1) := by decide +kernel
theorem dX12_readSystem_70 : decode cX12_readSystem 70 = .ok (.invokevirtual 176, 3) := by decide +kernel
theorem dX12_readSystem_73 : decode cX12_readSystem 73 = .ok (.ireturn, 1) := by decide +kernel
theorem dX12_readSystem_74 : decode cX12_readSystem 74 = .ok (.aload_n 0, 1) := by decide +kernel
theorem dX12_readSystem_75 : decode cX12_readSystem 75 = .ok (.invokevirtual 169, 3) := by decide +kernel
theorem dX12_readSystem_78 : decode cX12_readSystem 78 = .ok (.aload_n 0, 1) := by decide +kernel
theorem dX12_readSystem_79 : decode cX12_readSystem 79 = .ok (.iload_n 1, 1) := by decide +kernel
theorem dX12_readSystem_80 : decode cX12_readSystem 80 = .ok (.invokevirtual 185, 3) := by decide +kernel
theorem dX12_readSystem_83 : decode cX12_readSystem 83 = .ok (.ifCond .ne 5, 3) := by decide +kernel
theorem dX12_readSystem_86 : decode cX12_readSystem 86 = .ok (.iconst 0, 1) := by decide +kernel
theorem dX12_readSystem_87 : decode cX12_readSystem 87 = .ok (.ireturn, 1) := by decide +kernel
theorem dX12_readSystem_88 : decode cX12_readSystem 88 = .ok (.aload_n 0, 1) := by decide +kernel
theorem dX12_readSystem_89 : decode cX12_readSystem 89 = .ok (.getfield 117, 3) := by decide +kernel
theorem dX12_readSystem_92 : decode cX12_readSystem 92 = .ok (.iconst 3, 1) := by decide +kernel
theorem dX12_readSystem_93 : decode cX12_readSystem 93 = .ok (.if_icmp .ne 88, 3) := by decide +kernel
theorem dX12_readSystem_96 : decode cX12_readSystem 96 = .ok (.aload_n 0, 1) := by decide +kernel
theorem dX12_readSystem_97 : decode cX12_readSystem 97 = .ok (.invokevirtual 188, 3) := by decide +kernel
theorem dX12_readSystem_100 : decode cX12_readSystem 100 = .ok (.ifCond .ne 9, 3) := by decide +kernel
theorem dX12_readSystem_103 : decode cX12_readSystem 103 = .ok (.aload_n 0, 1) := by decide +kernel
theorem dX12_readSystem_104 : decode cX12_readSystem 104 = .ok (.iconst 2, 1) := by decide +kernel
theorem dX12_readSystem_105 : decode cX12_readSystem 105 = .ok (.invokevirtual 176, 3) := by decide +kernel
theorem dX12_readSystem_108 : decode cX12_readSystem 108 = .ok (.ireturn, 1) := by decide +kernel
theorem dX12_readSystem_109 : decode cX12_readSystem 109 = .ok (.aload_n 0, 1) := by decide +kernel
theorem dX12_readSystem_110 : decode cX12_readSystem 110 = .ok (.getfield 23, 3) := by decide +kernel
theorem dX12_readSystem_113 : decode cX12_readSystem 113 = .ok (.iload_n 2, 1) := by decide +kernel
theorem dX12_readSystem_114 : decode cX12_readSystem 114 = .ok (.iaload, 1) := by decide +kernel
theorem dX12_readSystem_115 : decode cX12_readSystem 115 = .ok (.iconst 5, 1) := by decide +kernel
theorem dX12_readSystem_116 : decode cX12_readSystem 116 = .ok (.if_icmp .ne 9, 3) := by decide +kernel
theorem dX12_readSystem_119 : decode cX12_readSystem 119 = .ok (.aload_n 0, 1) := by decide +kernel
theorem dX12_readSystem_120 : decode cX12_readSystem 120 = .ok (.iconst 4, 1) := by decide +kernel
theorem dX12_readSystem_121 : decode cX12_readSystem 121 = .ok (.invokevirtual 176, 3) := by decide +kernel
theorem dX12_readSystem_124 : decode cX12_readSystem 124 = .ok (.ireturn, 1) := by decide +kernel
theorem dX12_readSystem_125 : decode cX12_readSystem 125 = .ok (.aload_n 0, 1) := by decide +kernel
theorem dX12_readSystem_126 : decode cX12_readSystem 126 = .ok (.getfield 26, 3) := by decide +kernel
theorem dX12_readSystem_129 : decode cX12_readSystem 129 = .ok (.iconst 5, 1) := by decide +kernel
theorem dX12_readSystem_130 : decode cX12_readSystem 130 = .ok (.iload_n 2, 1) := by decide +kernel
theorem dX12_readSystem_131 : decode cX12_readSystem 131 = .ok (.imul, 1) := by decide +kernel
theorem dX12_readSystem_132 : decode cX12_readSystem 132 = .ok (.aload_n 0, 1) := by decide +kernel
theorem dX12_readSystem_133 : decode cX12_readSystem 133 = .ok (.getfield 23, 3) := by decide +kernel
theorem dX12_readSystem_136 : decode cX12_readSystem 136 = .ok (.iload_n 2, 1) := by decide +kernel
theorem dX12_readSystem_137 : decode cX12_readSystem 137 = .ok (.iaload, 1) := by decide +kernel
theorem dX12_readSystem_138 : decode cX12_readSystem 138 = .ok (.iadd, 1) := by decide +kernel
theorem dX12_readSystem_139 : decode cX12_readSystem 139 = .ok (.aload_n 0, 1) := by decide +kernel
theorem dX12_readSystem_140 : decode cX12_readSystem 140 = .ok (.getfield 147, 3) := by decide +kernel
theorem dX12_readSystem_143 : decode cX12_readSystem 143 = .ok (.iconst (-1), 1) := by decide +kernel
theorem dX12_readSystem_144 : decode cX12_readSystem 144 = .ok (.if_icmp .ne 10, 3) := by decide +kernel
theorem dX12_readSystem_147 : decode cX12_readSystem 147 = .ok (.aload_n 0, 1) := by decide +kernel
theorem dX12_readSystem_148 : decode cX12_readSystem 148 = .ok (.getfield 144, 3) := by decide +kernel
theorem dX12_readSystem_151 : decode cX12_readSystem 151 = .ok (.goto 15, 3) := by decide +kernel
theorem dX12_readSystem_154 : decode cX12_readSystem 154 = .ok (.bipush 10, 2) := by decide +kernel
theorem dX12_readSystem_156 : decode cX12_readSystem 156 = .ok (.aload_n 0, 1) := by decide +kernel
theorem dX12_readSystem_157 : decode cX12_readSystem 157 = .ok (.getfield 144, 3) := by decide +kernel
theorem dX12_readSystem_160 : decode cX12_readSystem 160 = .ok (.imul, 1) := by decide +kernel
theorem dX12_readSystem_161 : decode cX12_readSystem 161 = .ok (.aload_n 0, 1) := by decide +kernel
theorem dX12_readSystem_162 : decode cX12_readSystem 162 = .ok (.getfield 147, 3) := by decide +kernel
theorem dX12_readSystem_165 : decode cX12_readSystem 165 = .ok (.iadd, 1) := by decide +kernel
theorem dX12_readSystem_166 : decode cX12_readSystem 166 = .ok (.iastore, 1) := by decide +kernel
theorem dX12_readSystem_167 : decode cX12_readSystem 167 = .ok (.aload_n 0, 1) := by decide +kernel
theorem dX12_readSystem_168 : decode cX12_readSystem 168 = .ok (.invokevirtual 169, 3) := by decide +kernel
theorem dX12_readSystem_171 : decode cX12_readSystem 171 = .ok (.aload_n 0, 1) := by decide +kernel
theorem dX12_readSystem_172 : decode cX12_readSystem 172 = .ok (.iload_n 1, 1) := by decide +kernel
theorem dX12_readSystem_173 : decode cX12_readSystem 173 = .ok (.invokevirtual 185, 3) := by decide +kernel
theorem dX12_readSystem_176 : decode cX12_readSystem 176 = .ok (.ifCond .ne (-88), 3) := by decide +kernel
theorem dX12_readSystem_179 : decode cX12_readSystem 179 = .ok (.iconst 0, 1) := by decide +kernel
theorem dX12_readSystem_180 : decode cX12_readSystem 180 = .ok (.ireturn, 1) := by decide +kernel
theorem dX12_readSystem_181 : decode cX12_readSystem 181 = .ok (.aload_n 0, 1) := by decide +kernel
theorem dX12_readSystem_182 : decode cX12_readSystem 182 = .ok (.bipush 59, 2) := by decide +kernel
theorem dX12_readSystem_184 : decode cX12_readSystem 184 = .ok (.invokevirtual 182, 3) := by decide +kernel
theorem dX12_readSystem_187 : decode cX12_readSystem 187 = .ok (.ifCond .ne 9, 3) := by decide +kernel
theorem dX12_readSystem_190 : decode cX12_readSystem 190 = .ok (.aload_n 0, 1) := by decide +kernel
theorem dX12_readSystem_191 : decode cX12_readSystem 191 = .ok (.iconst 1, 1) := by decide +kernel
theorem dX12_readSystem_192 : decode cX12_readSystem 192 = .ok (.invokevirtual 176, 3) := by decide +kernel
theorem dX12_readSystem_195 : decode cX12_readSystem 195 = .ok (.ireturn, 1) := by decide +kernel
theorem dX12_readSystem_196 : decode cX12_readSystem 196 = .ok (.aload_n 0, 1) := by decide +kernel
theorem dX12_readSystem_197 : decode cX12_readSystem 197 = .ok (.invokevirtual 169, 3) := by decide +kernel
theorem dX12_readSystem_200 : decode cX12_readSystem 200 = .ok (.iconst 1, 1) := by decide +kernel
theorem dX12_readSystem_201 : decode cX12_readSystem 201 = .ok (.ireturn, 1) := by decide +kernel
theorem dX12_isFactor_0 : decode cX12_isFactor 0 = .ok (.aload_n 0, 1) := by decide +kernel
theorem dX12_isFactor_1 : decode cX12_isFactor 1 = .ok (.getfield 147, 3) := by decide +kernel
theorem dX12_isFactor_4 : decode cX12_isFactor 4 = .ok (.iconst (-1), 1) := by decide +kernel
theorem dX12_isFactor_5 : decode cX12_isFactor 5 = .ok (.if_icmp .ne 10, 3) := by decide +kernel
theorem dX12_isFactor_8 : decode cX12_isFactor 8 = .ok (.aload_n 0, 1) := by decide +kernel
theorem dX12_isFactor_9 : decode cX12_isFactor 9 = .ok (.getfield 144, 3) := by decide +kernel
theorem dX12_isFactor_12 : decode cX12_isFactor 12 = .ok (.goto 15, 3) := by decide +kernel
theorem dX12_isFactor_15 : decode cX12_isFactor 15 = .ok (.bipush 10, 2) := by decide +kernel
theorem dX12_isFactor_17 : decode cX12_isFactor 17 = .ok (.aload_n 0, 1) := by decide +kernel
theorem dX12_isFactor_18 : decode cX12_isFactor 18 = .ok (.getfield 144, 3) := by decide +kernel
theorem dX12_isFactor_21 : decode cX12_isFactor 21 = .ok (.imul, 1) := by decide +kernel
theorem dX12_isFactor_22 : decode cX12_isFactor 22 = .ok (.aload_n 0, 1) := by decide +kernel
theorem dX12_isFactor_23 : decode cX12_isFactor 23 = .ok (.getfield 147, 3) := by decide +kernel
theorem dX12_isFactor_26 : decode cX12_isFactor 26 = .ok (.iadd, 1) := by decide +kernel
theorem dX12_isFactor_27 : decode cX12_isFactor 27 = .ok (.istore_n 1, 1) := by decide +kernel
theorem dX12_isFactor_28 : decode cX12_isFactor 28 = .ok (.iload_n 1, 1) := by decide +kernel
theorem dX12_isFactor_29 : decode cX12_isFactor 29 = .ok (.iconst 2, 1) := by decide +kernel
theorem dX12_isFactor_30 : decode cX12_isFactor 30 = .ok (.if_icmp .lt 13, 3) := by decide +kernel
theorem dX12_isFactor_33 : decode cX12_isFactor 33 = .ok (.iload_n 1, 1) := by decide +kernel
theorem dX12_isFactor_34 : decode cX12_isFactor 34 = .ok (.bipush 60, 2) := by decide +kernel
theorem dX12_isFactor_36 : decode cX12_isFactor 36 = .ok (.if_icmp .gt 7, 3) := by decide +kernel
theorem dX12_isFactor_39 : decode cX12_isFactor 39 = .ok (.iconst 1, 1) := by decide +kernel
theorem dX12_isFactor_40 : decode cX12_isFactor 40 = .ok (.goto 4, 3) := by decide +kernel
theorem dX12_isFactor_43 : decode cX12_isFactor 43 = .ok (.iconst 0, 1) := by decide +kernel
theorem dX12_isFactor_44 : decode cX12_isFactor 44 = .ok (.ireturn, 1) := by decide +kernel
theorem dX12_readUnit_0 : decode cX12_readUnit 0 = .ok (.iconst 3, 1) := by decide +kernel
theorem dX12_readUnit_1 : decode cX12_readUnit 1 = .ok (.iload_n 1, 1) := by decide +kernel
theorem dX12_readUnit_2 : decode cX12_readUnit 2 = .ok (.iadd, 1) := by decide +kernel
theorem dX12_readUnit_3 : decode cX12_readUnit 3 = .ok (.istore_n 2, 1) := by decide +kernel
theorem dX12_readUnit_4 : decode cX12_readUnit 4 = .ok (.aload_n 0, 1) := by decide +kernel
theorem dX12_readUnit_5 : decode cX12_readUnit 5 = .ok (.invokevirtual 172, 3) := by decide +kernel
theorem dX12_readUnit_8 : decode cX12_readUnit 8 = .ok (.ifCond .ne 9, 3) := by decide +kernel
theorem dX12_readUnit_11 : decode cX12_readUnit 11 = .ok (.aload_n 0, 1) := by decide +kernel
theorem dX12_readUnit_12 : decode cX12_readUnit 12 = .ok (.iconst 1, 1) := by decide +kernel
theorem dX12_readUnit_13 : decode cX12_readUnit 13 = .ok (.invokevirtual 176, 3) := by decide +kernel
theorem dX12_readUnit_16 : decode cX12_readUnit 16 = .ok (.ireturn, 1) := by decide +kernel
theorem dX12_readUnit_17 : decode cX12_readUnit 17 = .ok (.aload_n 0, 1) := by decide +kernel
theorem dX12_readUnit_18 : decode cX12_readUnit 18 = .ok (.iload_n 1, 1) := by decide +kernel
theorem dX12_readUnit_19 : decode cX12_readUnit 19 = .ok (.invokevirtual 179, 3) := by decide +kernel
theorem dX12_readUnit_22 : decode cX12_readUnit 22 = .ok (.ifCond .eq 9, 3) := by decide +kernel
theorem dX12_readUnit_25 : decode cX12_readUnit 25 = .ok (.aload_n 0, 1) := by decide +kernel
theorem dX12_readUnit_26 : decode cX12_readUnit 26 = .ok (.iconst 3, 1) := by decide +kernel
theorem dX12_readUnit_27 : decode cX12_readUnit 27 = .ok (.invokevirtual 176, 3) := by decide +kernel
theorem dX12_readUnit_30 : decode cX12_readUnit 30 = .ok (.ireturn, 1) := by decide +kernel
theorem dX12_readUnit_31 : decode cX12_readUnit 31 = .ok (.aload_n 0, 1) := by decide +kernel
theorem dX12_readUnit_32 : decode cX12_readUnit 32 = .ok (.getfield 20, 3) := by decide +kernel
theorem dX12_readUnit_35 : decode cX12_readUnit 35 = .ok (.iconst 5, 1) := by decide +kernel
theorem dX12_readUnit_36 : decode cX12_readUnit 36 = .ok (.iload_n 2, 1) := by decide +kernel
theorem dX12_readUnit_37 : decode cX12_readUnit 37 = .ok (.imul, 1) := by decide +kernel
theorem dX12_readUnit_38 : decode cX12_readUnit 38 = .ok (.aload_n 0, 1) := by decide +kernel
theorem dX12_readUnit_39 : decode cX12_readUnit 39 = .ok (.getfield 23, 3) := by decide +kernel
theorem dX12_readUnit_42 : decode cX12_readUnit 42 = .ok (.iload_n 2, 1) := by decide +kernel
theorem dX12_readUnit_43 : decode cX12_readUnit 43 = .ok (.iaload, 1) := by decide +kernel
theorem dX12_readUnit_44 : decode cX12_readUnit 44 = .ok (.iadd, 1) := by decide +kernel
theorem dX12_readUnit_45 : decode cX12_readUnit 45 = .ok (.aload_n 0, 1) := by decide +kernel
theorem dX12_readUnit_46 : decode cX12_readUnit 46 = .ok (.getfield 129, 3) := by decide +kernel
theorem dX12_readUnit_49 : decode cX12_readUnit 49 = .ok (.lastore, 1) := by decide +kernel
theorem dX12_readUnit_50 : decode cX12_readUnit 50 = .ok (.aload_n 0, 1) := by decide +kernel
theorem dX12_readUnit_51 : decode cX12_readUnit 51 = .ok (.getfield 23, 3) := by decide +kernel
theorem dX12_readUnit_54 : decode cX12_readUnit 54 = .ok (.iload_n 2, 1) := by decide +kernel
theorem dX12_readUnit_55 : decode cX12_readUnit 55 = .ok (.dup2, 1) := by decide +kernel
theorem dX12_readUnit_56 : decode cX12_readUnit 56 = .ok (.iaload, 1) := by decide +kernel
theorem dX12_readUnit_57 : decode cX12_readUnit 57 = .ok (.iconst 1, 1) := by decide +kernel
theorem dX12_readUnit_58 : decode cX12_readUnit 58 = .ok (.iadd, 1) := by decide +kernel
theorem dX12_readUnit_59 : decode cX12_readUnit 59 = .ok (.iastore, 1) := by decide +kernel
theorem dX12_readUnit_60 : decode cX12_readUnit 60 = .ok (.aload_n 0, 1) := by decide +kernel
theorem dX12_readUnit_61 : decode cX12_readUnit 61 = .ok (.invokevirtual 169, 3) := by decide +kernel
theorem dX12_readUnit_64 : decode cX12_readUnit 64 = .ok (.iconst 1, 1) := by decide +kernel
theorem dX12_readUnit_65 : decode cX12_readUnit 65 = .ok (.ireturn, 1) := by decide +kernel
theorem dX12_systems_0 : decode cX12_systems 0 = .ok (.aload_n 0, 1) := by decide +kernel
theorem dX12_systems_1 : decode cX12_systems 1 = .ok (.iconst 0, 1) := by decide +kernel
theorem dX12_systems_2 : decode cX12_systems 2 = .ok (.putfield 86, 3) := by decide +kernel
theorem dX12_systems_5 : decode cX12_systems 5 = .ok (.aload_n 0, 1) := by decide +kernel
theorem dX12_systems_6 : decode cX12_systems 6 = .ok (.iconst 0, 1) := by decide +kernel
theorem dX12_systems_7 : decode cX12_systems 7 = .ok (.putfield 150, 3) := by decide +kernel
theorem dX12_systems_10 : decode cX12_systems 10 = .ok (.aload_n 0, 1) := by decide +kernel
theorem dX12_systems_11 : decode cX12_systems 11 = .ok (.sipush 400, 3) := by decide +kernel
theorem dX12_systems_14 : decode cX12_systems 14 = .ok (.iconst 0, 1) := by decide +kernel
theorem dX12_systems_15 : decode cX12_systems 15 = .ok (.invokevirtual 191, 3) := by decide +kernel
theorem dX12_systems_18 : decode cX12_systems 18 = .ok (.iconst 0, 1) := by decide +kernel
theorem dX12_systems_19 : decode cX12_systems 19 = .ok (.istore_n 1, 1) := by decide +kernel
theorem dX12_systems_20 : decode cX12_systems 20 = .ok (.aload_n 0, 1) := by decide +kernel
theorem dX12_systems_21 : decode cX12_systems 21 = .ok (.getstatic 156, 3) := by decide +kernel
theorem dX12_systems_24 : decode cX12_systems 24 = .ok (.invokevirtual 194, 3) := by decide +kernel
theorem dX12_systems_27 : decode cX12_systems 27 = .ok (.ifCond .ne 16, 3) := by decide +kernel
theorem dX12_systems_30 : decode cX12_systems 30 = .ok (.aload_n 0, 1) := by decide +kernel
theorem dX12_systems_31 : decode cX12_systems 31 = .ok (.iconst 1, 1) := by decide +kernel
theorem dX12_systems_32 : decode cX12_systems 32 = .ok (.invokevirtual 176, 3) := by decide +kernel
theorem dX12_systems_35 : decode cX12_systems 35 = .ok (.pop, 1) := by decide +kernel
theorem dX12_systems_36 : decode cX12_systems 36 = .ok (.iconst (-1), 1) := by decide +kernel
theorem dX12_systems_37 : decode cX12_systems 37 = .ok (.aload_n 0, 1) := by decide +kernel
theorem dX12_systems_38 : decode cX12_systems 38 = .ok (.getfield 153, 3) := by decide +kernel
theorem dX12_systems_41 : decode cX12_systems 41 = .ok (.isub, 1) := by decide +kernel
theorem dX12_systems_42 : decode cX12_systems 42 = .ok (.ireturn, 1) := by decide +kernel
theorem dX12_systems_43 : decode cX12_systems 43 = .ok (.iload_n 1, 1) := by decide +kernel
theorem dX12_systems_44 : decode cX12_systems 44 = .ok (.iconst 3, 1) := by decide +kernel
theorem dX12_systems_45 : decode cX12_systems 45 = .ok (.if_icmp .ne 16, 3) := by decide +kernel
theorem dX12_systems_48 : decode cX12_systems 48 = .ok (.aload_n 0, 1) := by decide +kernel
theorem dX12_systems_49 : decode cX12_systems 49 = .ok (.iconst 4, 1) := by decide +kernel
theorem dX12_systems_50 : decode cX12_systems 50 = .ok (.invokevirtual 176, 3) := by decide +kernel
theorem dX12_systems_53 : decode cX12_systems 53 = .ok (.pop, 1) := by decide +kernel
theorem dX12_systems_54 : decode cX12_systems 54 = .ok (.iconst (-1), 1) := by decide +kernel
theorem dX12_systems_55 : decode cX12_systems 55 = .ok (.aload_n 0, 1) := by decide +kernel
theorem dX12_systems_56 : decode cX12_systems 56 = .ok (.getfield 153, 3) := by decide +kernel
theorem dX12_systems_59 : decode cX12_systems 59 = .ok (.isub, 1) := by decide +kernel
theorem dX12_systems_60 : decode cX12_systems 60 = .ok (.ireturn, 1) := by decide +kernel
theorem dX12_systems_61 : decode cX12_systems 61 = .ok (.aload_n 0, 1) := by decide +kernel
theorem dX12_systems_62 : decode cX12_systems 62 = .ok (.invokevirtual 169, 3) := by decide +kernel
theorem dX12_systems_65 : decode cX12_systems 65 = .ok (.aload_n 0, 1) := by decide +kernel
theorem dX12_systems_66 : decode cX12_systems 66 = .ok (.iload_n 1, 1) := by decide +kernel
theorem dX12_systems_67 : decode cX12_systems 67 = .ok (.invokevirtual 198, 3) := by decide +kernel
theorem dX12_systems_70 : decode cX12_systems 70 = .ok (.ifCond .ne 10, 3) := by decide +kernel
theorem dX12_systems_73 : decode cX12_systems 73 = .ok (.iconst (-1), 1) := by decide +kernel
theorem dX12_systems_74 : decode cX12_systems 74 = .ok (.aload_n 0, 1) := by decide +kernel
theorem dX12_systems_75 : decode cX12_systems 75 = .ok (.getfield 153, 3) := by decide +kernel
theorem dX12_systems_78 : decode cX12_systems 78 = .ok (.isub, 1) := by decide +kernel
theorem dX12_systems_79 : decode cX12_systems 79 = .ok (.ireturn, 1) := by decide +kernel
theorem dX12_systems_80 : decode cX12_systems 80 = .ok (.iinc 1 1, 3) := by decide +kernel
theorem dX12_systems_83 : decode cX12_systems 83 = .ok (.aload_n 0, 1) := by decide +kernel
theorem dX12_systems_84 : decode cX12_systems 84 = .ok (.getfield 117, 3) := by decide +kernel
theorem dX12_systems_87 : decode cX12_systems 87 = .ok (.ifCond .ne (-67), 3) := by decide +kernel
theorem dX12_systems_90 : decode cX12_systems 90 = .ok (.aload_n 0, 1) := by decide +kernel
theorem dX12_systems_91 : decode cX12_systems 91 = .ok (.iload_n 1, 1) := by decide +kernel
theorem dX12_systems_92 : decode cX12_systems 92 = .ok (.putfield 201, 3) := by decide +kernel
theorem dX12_systems_95 : decode cX12_systems 95 = .ok (.iconst 0, 1) := by decide +kernel
theorem dX12_systems_96 : decode cX12_systems 96 = .ok (.istore_n 2, 1) := by decide +kernel
theorem dX12_systems_97 : decode cX12_systems 97 = .ok (.iload_n 2, 1) := by decide +kernel
theorem dX12_systems_98 : decode cX12_systems 98 = .ok (.iload_n 1, 1) := by decide +kernel
theorem dX12_systems_99 : decode cX12_systems 99 = .ok (.if_icmp .ge 80, 3) := by decide +kernel
theorem dX12_systems_102 : decode cX12_systems 102 = .ok (.aload_n 0, 1) := by decide +kernel
theorem dX12_systems_103 : decode cX12_systems 103 = .ok (.getfield 23, 3) := by decide +kernel
theorem dX12_systems_106 : decode cX12_systems 106 = .ok (.iload_n 2, 1) := by decide +kernel
theorem dX12_systems_107 : decode cX12_systems 107 = .ok (.aload_n 0, 1) := by decide +kernel
theorem dX12_systems_108 : decode cX12_systems 108 = .ok (.getfield 23, 3) := by decide +kernel
theorem dX12_systems_111 : decode cX12_systems 111 = .ok (.iconst 3, 1) := by decide +kernel
theorem dX12_systems_112 : decode cX12_systems 112 = .ok (.iload_n 2, 1) := by decide +kernel
theorem dX12_systems_113 : decode cX12_systems 113 = .ok (.iadd, 1) := by decide +kernel
theorem dX12_systems_114 : decode cX12_systems 114 = .ok (.iaload, 1) := by decide +kernel
theorem dX12_systems_115 : decode cX12_systems 115 = .ok (.iastore, 1) := by decide +kernel
theorem dX12_systems_116 : decode cX12_systems 116 = .ok (.iconst 0, 1) := by decide +kernel
theorem dX12_systems_117 : decode cX12_systems 117 = .ok (.istore_n 3, 1) := by decide +kernel
theorem dX12_systems_118 : decode cX12_systems 118 = .ok (.iload_n 3, 1) := by decide +kernel
theorem dX12_systems_119 : decode cX12_systems 119 = .ok (.iconst 5, 1) := by decide +kernel
theorem dX12_systems_120 : decode cX12_systems 120 = .ok (.if_icmp .ge 53, 3) := by decide +kernel
theorem dX12_systems_123 : decode cX12_systems 123 = .ok (.aload_n 0, 1) := by decide +kernel
theorem dX12_systems_124 : decode cX12_systems 124 = .ok (.getfield 20, 3) := by decide +kernel
theorem dX12_systems_127 : decode cX12_systems 127 = .ok (.iconst 5, 1) := by decide +kernel
theorem dX12_systems_128 : decode cX12_systems 128 = .ok (.iload_n 2, 1) := by decide +kernel
theorem dX12_systems_129 : decode cX12_systems 129 = .ok (.imul, 1) := by decide +kernel
theorem dX12_systems_130 : decode cX12_systems 130 = .ok (.iload_n 3, 1) := by decide +kernel
theorem dX12_systems_131 : decode cX12_systems 131 = .ok (.iadd, 1) := by decide +kernel
theorem dX12_systems_132 : decode cX12_systems 132 = .ok (.aload_n 0, 1) := by decide +kernel
theorem dX12_systems_133 : decode cX12_systems 133 = .ok (.getfield 20, 3) := by decide +kernel
theorem dX12_systems_136 : decode cX12_systems 136 = .ok (.iconst 5, 1) := by decide +kernel
theorem dX12_systems_137 : decode cX12_systems 137 = .ok (.iconst 3, 1) := by decide +kernel
theorem dX12_systems_138 : decode cX12_systems 138 = .ok (.iload_n 2, 1) := by decide +kernel
theorem dX12_systems_139 : decode cX12_systems 139 = .ok (.iadd, 1) := by decide +kernel
theorem dX12_systems_140 : decode cX12_systems 140 = .ok (.imul, 1) := by decide +kernel
theorem dX12_systems_141 : decode cX12_systems 141 = .ok (.iload_n 3, 1) := by decide +kernel
theorem dX12_systems_142 : decode cX12_systems 142 = .ok (.iadd, 1) := by decide +kernel
theorem dX12_systems_143 : decode cX12_systems 143 = .ok (.laload, 1) := by decide +kernel
theorem dX12_systems_144 : decode cX12_systems 144 = .ok (.lastore, 1) := by decide +kernel
theorem dX12_systems_145 : decode cX12_systems 145 = .ok (.aload_n 0, 1) := by decide +kernel
theorem dX12_systems_146 : decode cX12_systems 146 = .ok (.getfield 26, 3) := by decide +kernel
theorem dX12_systems_149 : decode cX12_systems 149 = .ok (.iconst 5, 1) := by decide +kernel
theorem dX12_systems_150 : decode cX12_systems 150 = .ok (.iload_n 2, 1) := by decide +kernel
theorem dX12_systems_151 : decode cX12_systems 151 = .ok (.imul, 1) := by decide +kernel
theorem dX12_systems_152 : decode cX12_systems 152 = .ok (.iload_n 3, 1) := by decide +kernel
theorem dX12_systems_153 : decode cX12_systems 153 = .ok (.iadd, 1) := by decide +kernel
theorem dX12_systems_154 : decode cX12_systems 154 = .ok (.aload_n 0, 1) := by decide +kernel
theorem dX12_systems_155 : decode cX12_systems 155 = .ok (.getfield 26, 3) := by decide +kernel
theorem dX12_systems_158 : decode cX12_systems 158 = .ok (.iconst 5, 1) := by decide +kernel
theorem dX12_systems_159 : decode cX12_systems 159 = .ok (.iconst 3, 1) := by decide +kernel
theorem dX12_systems_160 : decode cX12_systems 160 = .ok (.iload_n 2, 1) := by decide +kernel
theorem dX12_systems_161 : decode cX12_systems 161 = .ok (.iadd, 1) := by decide +kernel
theorem dX12_systems_162 : decode cX12_systems 162 = .ok (.imul, 1) := by decide +kernel
theorem dX12_systems_163 : decode cX12_systems 163 = .ok (.iload_n 3, 1) := by decide +kernel
theorem dX12_systems_164 : decode cX12_systems 164 = .ok (.iadd, 1) := by decide +kernel
theorem dX12_systems_165 : decode cX12_systems 165 = .ok (.iaload, 1) := by decide +kernel
theorem dX12_systems_166 : decode cX12_systems 166 = .ok (.iastore, 1) := by decide +kernel
theorem dX12_systems_167 : decode cX12_systems 167 = .ok (.iinc 3 1, 3) := by decide +kernel
theorem dX12_systems_170 : decode cX12_systems 170 = .ok (.goto (-52), 3) := by decide +kernel
theorem dX12_systems_173 : decode cX12_systems 173 = .ok (.iinc 2 1, 3) := by decide +kernel
theorem dX12_systems_176 : decode cX12_systems 176 = .ok (.goto (-79), 3) := by decide +kernel
theorem dX12_systems_179 : decode cX12_systems 179 = .ok (.aload_n 0, 1) := by decide +kernel
theorem dX12_systems_180 : decode cX12_systems 180 = .ok (.iconst 0, 1) := by decide +kernel
theorem dX12_systems_181 : decode cX12_systems 181 = .ok (.putfield 204, 3) := by decide +kernel
theorem dX12_systems_184 : decode cX12_systems 184 = .ok (.aload_n 0, 1) := by decide +kernel
theorem dX12_systems_185 : decode cX12_systems 185 = .ok (.invokevirtual 207, 3) := by decide +kernel
theorem dX12_systems_188 : decode cX12_systems 188 = .ok (.iload_n 1, 1) := by decide +kernel
theorem dX12_systems_189 : decode cX12_systems 189 = .ok (.ireturn, 1) := by decide +kernel
theorem dX12_fault_0 : decode cX12_fault 0 = .ok (.aload_n 0, 1) := by decide +kernel
theorem dX12_fault_1 : decode cX12_fault 1 = .ok (.iconst 0, 1) := by decide +kernel
theorem dX12_fault_2 : decode cX12_fault 2 = .ok (.putfield 86, 3) := by decide +kernel
theorem dX12_fault_5 : decode cX12_fault 5 = .ok (.aload_n 0, 1) := by decide +kernel
theorem dX12_fault_6 : decode cX12_fault 6 = .ok (.getfield 150, 3) := by decide +kernel
theorem dX12_fault_9 : decode cX12_fault 9 = .ok (.ireturn, 1) := by decide +kernel
theorem dX12_system_0 : decode cX12_system 0 = .ok (.iload_n 1, 1) := by decide +kernel
theorem dX12_system_1 : decode cX12_system 1 = .ok (.ifCond .lt 20, 3) := by decide +kernel
theorem dX12_system_4 : decode cX12_system 4 = .ok (.iload_n 1, 1) := by decide +kernel
theorem dX12_system_5 : decode cX12_system 5 = .ok (.aload_n 0, 1) := by decide +kernel
theorem dX12_system_6 : decode cX12_system 6 = .ok (.getfield 201, 3) := by decide +kernel
theorem dX12_system_9 : decode cX12_system 9 = .ok (.if_icmp .ge 12, 3) := by decide +kernel
theorem dX12_system_12 : decode cX12_system 12 = .ok (.iload_n 2, 1) := by decide +kernel
theorem dX12_system_13 : decode cX12_system 13 = .ok (.ifCond .lt 8, 3) := by decide +kernel
theorem dX12_system_16 : decode cX12_system 16 = .ok (.iload_n 2, 1) := by decide +kernel
theorem dX12_system_17 : decode cX12_system 17 = .ok (.iconst 4, 1) := by decide +kernel
theorem dX12_system_18 : decode cX12_system 18 = .ok (.if_icmp .le 8, 3) := by decide +kernel
theorem dX12_system_21 : decode cX12_system 21 = .ok (.aload_n 0, 1) := by decide +kernel
theorem dX12_system_22 : decode cX12_system 22 = .ok (.invokevirtual 210, 3) := by decide +kernel
theorem dX12_system_25 : decode cX12_system 25 = .ok (.ireturn, 1) := by decide +kernel
theorem dX12_system_26 : decode cX12_system 26 = .ok (.aload_n 0, 1) := by decide +kernel
theorem dX12_system_27 : decode cX12_system 27 = .ok (.iconst 0, 1) := by decide +kernel
theorem dX12_system_28 : decode cX12_system 28 = .ok (.putfield 86, 3) := by decide +kernel
theorem dX12_system_31 : decode cX12_system 31 = .ok (.iload_n 2, 1) := by decide +kernel
theorem dX12_system_32 : decode cX12_system 32 = .ok (.ifCond .ne 12, 3) := by decide +kernel
theorem dX12_system_35 : decode cX12_system 35 = .ok (.aload_n 0, 1) := by decide +kernel
theorem dX12_system_36 : decode cX12_system 36 = .ok (.getfield 23, 3) := by decide +kernel
theorem dX12_system_39 : decode cX12_system 39 = .ok (.iload_n 1, 1) := by decide +kernel
theorem dX12_system_40 : decode cX12_system 40 = .ok (.iaload, 1) := by decide +kernel
theorem dX12_system_41 : decode cX12_system 41 = .ok (.goto 27, 3) := by decide +kernel
theorem dX12_system_44 : decode cX12_system 44 = .ok (.iload_n 2, 1) := by decide +kernel
theorem dX12_system_45 : decode cX12_system 45 = .ok (.aload_n 0, 1) := by decide +kernel
theorem dX12_system_46 : decode cX12_system 46 = .ok (.getfield 23, 3) := by decide +kernel
theorem dX12_system_49 : decode cX12_system 49 = .ok (.iload_n 1, 1) := by decide +kernel
theorem dX12_system_50 : decode cX12_system 50 = .ok (.iaload, 1) := by decide +kernel
theorem dX12_system_51 : decode cX12_system 51 = .ok (.if_icmp .ge 16, 3) := by decide +kernel
theorem dX12_system_54 : decode cX12_system 54 = .ok (.aload_n 0, 1) := by decide +kernel
theorem dX12_system_55 : decode cX12_system 55 = .ok (.getfield 26, 3) := by decide +kernel
theorem dX12_system_58 : decode cX12_system 58 = .ok (.iconst 5, 1) := by decide +kernel
theorem dX12_system_59 : decode cX12_system 59 = .ok (.iload_n 1, 1) := by decide +kernel
theorem dX12_system_60 : decode cX12_system 60 = .ok (.imul, 1) := by decide +kernel
theorem dX12_system_61 : decode cX12_system 61 = .ok (.iload_n 2, 1) := by decide +kernel
theorem dX12_system_62 : decode cX12_system 62 = .ok (.iadd, 1) := by decide +kernel
theorem dX12_system_63 : decode cX12_system 63 = .ok (.iaload, 1) := by decide +kernel
theorem dX12_system_64 : decode cX12_system 64 = .ok (.goto 4, 3) := by decide +kernel
theorem dX12_system_67 : decode cX12_system 67 = .ok (.iconst (-1), 1) := by decide +kernel
theorem dX12_system_68 : decode cX12_system 68 = .ok (.ireturn, 1) := by decide +kernel
theorem dX12_worth_0 : decode cX12_worth 0 = .ok (.iconst 1, 1) := by decide +kernel
theorem dX12_worth_1 : decode cX12_worth 1 = .ok (.istore_n 3, 1) := by decide +kernel
theorem dX12_worth_2 : decode cX12_worth 2 = .ok (.iconst 1, 1) := by decide +kernel
theorem dX12_worth_3 : decode cX12_worth 3 = .ok (.istore 4, 2) := by decide +kernel
theorem dX12_worth_5 : decode cX12_worth 5 = .ok (.iload 4, 2) := by decide +kernel
theorem dX12_worth_7 : decode cX12_worth 7 = .ok (.iload_n 2, 1) := by decide +kernel
theorem dX12_worth_8 : decode cX12_worth 8 = .ok (.if_icmp .gt 23, 3) := by decide +kernel
theorem dX12_worth_11 : decode cX12_worth 11 = .ok (.iload_n 3, 1) := by decide +kernel
theorem dX12_worth_12 : decode cX12_worth 12 = .ok (.aload_n 0, 1) := by decide +kernel
theorem dX12_worth_13 : decode cX12_worth 13 = .ok (.getfield 26, 3) := by decide +kernel
theorem dX12_worth_16 : decode cX12_worth 16 = .ok (.iconst 5, 1) := by decide +kernel
theorem dX12_worth_17 : decode cX12_worth 17 = .ok (.iload_n 1, 1) := by decide +kernel
theorem dX12_worth_18 : decode cX12_worth 18 = .ok (.imul, 1) := by decide +kernel
theorem dX12_worth_19 : decode cX12_worth 19 = .ok (.iload 4, 2) := by decide +kernel
theorem dX12_worth_21 : decode cX12_worth 21 = .ok (.iadd, 1) := by decide +kernel
theorem dX12_worth_22 : decode cX12_worth 22 = .ok (.iaload, 1) := by decide +kernel
theorem dX12_worth_23 : decode cX12_worth 23 = .ok (.imul, 1) := by decide +kernel
theorem dX12_worth_24 : decode cX12_worth 24 = .ok (.istore_n 3, 1) := by decide +kernel
theorem dX12_worth_25 : decode cX12_worth 25 = .ok (.iinc 4 1, 3) := by decide +kernel
theorem dX12_worth_28 : decode cX12_worth 28 = .ok (.goto (-23), 3) := by decide +kernel
theorem dX12_worth_31 : decode cX12_worth 31 = .ok (.iload_n 3, 1) := by decide +kernel
theorem dX12_worth_32 : decode cX12_worth 32 = .ok (.ireturn, 1) := by decide +kernel
theorem dX12_outByte_0 : decode cX12_outByte 0 = .ok (.aload_n 0, 1) := by decide +kernel
theorem dX12_outByte_1 : decode cX12_outByte 1 = .ok (.getfield 29, 3) := by decide +kernel
theorem dX12_outByte_4 : decode cX12_outByte 4 = .ok (.aload_n 0, 1) := by decide +kernel
theorem dX12_outByte_5 : decode cX12_outByte 5 = .ok (.getfield 214, 3) := by decide +kernel
theorem dX12_outByte_8 : decode cX12_outByte 8 = .ok (.iload_n 1, 1) := by decide +kernel
theorem dX12_outByte_9 : decode cX12_outByte 9 = .ok (.iastore, 1) := by decide +kernel
theorem dX12_outByte_10 : decode cX12_outByte 10 = .ok (.aload_n 0, 1) := by decide +kernel
theorem dX12_outByte_11 : decode cX12_outByte 11 = .ok (.dup, 1) := by decide +kernel
theorem dX12_outByte_12 : decode cX12_outByte 12 = .ok (.getfield 214, 3) := by decide +kernel
theorem dX12_outByte_15 : decode cX12_outByte 15 = .ok (.iconst 1, 1) := by decide +kernel
theorem dX12_outByte_16 : decode cX12_outByte 16 = .ok (.iadd, 1) := by decide +kernel
theorem dX12_outByte_17 : decode cX12_outByte 17 = .ok (.putfield 214, 3) := by decide +kernel
theorem dX12_outByte_20 : decode cX12_outByte 20 = .ok (.return_, 1) := by decide +kernel
theorem dX12_outName_0 : decode cX12_outName 0 = .ok (.lconst 1, 1) := by decide +kernel
theorem dX12_outName_1 : decode cX12_outName 1 = .ok (.lstore_n 3, 1) := by decide +kernel
theorem dX12_outName_2 : decode cX12_outName 2 = .ok (.lload_n 3, 1) := by decide +kernel
theorem dX12_outName_3 : decode cX12_outName 3 = .ok (.lload_n 1, 1) := by decide +kernel
theorem dX12_outName_4 : decode cX12_outName 4 = .ok (.ldc2_w 137, 3) := by decide +kernel
theorem dX12_outName_7 : decode cX12_outName 7 = .ok (.ldiv, 1) := by decide +kernel
theorem dX12_outName_8 : decode cX12_outName 8 = .ok (.lcmp, 1) := by decide +kernel
theorem dX12_outName_9 : decode cX12_outName 9 = .ok (.ifCond .gt 12, 3) := by decide +kernel
theorem dX12_outName_12 : decode cX12_outName 12 = .ok (.lload_n 3, 1) := by decide +kernel
theorem dX12_outName_13 : decode cX12_outName 13 = .ok (.ldc2_w 137, 3) := by decide +kernel
theorem dX12_outName_16 : decode cX12_outName 16 = .ok (.lmul, 1) := by decide +kernel
theorem dX12_outName_17 : decode cX12_outName 17 = .ok (.lstore_n 3, 1) := by decide +kernel
theorem dX12_outName_18 : decode cX12_outName 18 = .ok (.goto (-16), 3) := by decide +kernel
theorem dX12_outName_21 : decode cX12_outName 21 = .ok (.lload_n 3, 1) := by decide +kernel
theorem dX12_outName_22 : decode cX12_outName 22 = .ok (.lconst 0, 1) := by decide +kernel
theorem dX12_outName_23 : decode cX12_outName 23 = .ok (.lcmp, 1) := by decide +kernel
theorem dX12_outName_24 : decode cX12_outName 24 = .ok (.ifCond .le 27, 3) := by decide +kernel
theorem dX12_outName_27 : decode cX12_outName 27 = .ok (.aload_n 0, 1) := by decide +kernel
theorem dX12_outName_28 : decode cX12_outName 28 = .ok (.lload_n 1, 1) := by decide +kernel
theorem dX12_outName_29 : decode cX12_outName 29 = .ok (.lload_n 3, 1) := by decide +kernel
theorem dX12_outName_30 : decode cX12_outName 30 = .ok (.ldiv, 1) := by decide +kernel
theorem dX12_outName_31 : decode cX12_outName 31 = .ok (.ldc2_w 137, 3) := by decide +kernel
theorem dX12_outName_34 : decode cX12_outName 34 = .ok (.lrem, 1) := by decide +kernel
theorem dX12_outName_35 : decode cX12_outName 35 = .ok (.l2i, 1) := by decide +kernel
theorem dX12_outName_36 : decode cX12_outName 36 = .ok (.bipush 96, 2) := by decide +kernel
theorem dX12_outName_38 : decode cX12_outName 38 = .ok (.iadd, 1) := by decide +kernel
theorem dX12_outName_39 : decode cX12_outName 39 = .ok (.invokevirtual 217, 3) := by decide +kernel
theorem dX12_outName_42 : decode cX12_outName 42 = .ok (.lload_n 3, 1) := by decide +kernel
theorem dX12_outName_43 : decode cX12_outName 43 = .ok (.ldc2_w 137, 3) := by decide +kernel
theorem dX12_outName_46 : decode cX12_outName 46 = .ok (.ldiv, 1) := by decide +kernel
theorem dX12_outName_47 : decode cX12_outName 47 = .ok (.lstore_n 3, 1) := by decide +kernel
theorem dX12_outName_48 : decode cX12_outName 48 = .ok (.goto (-27), 3) := by decide +kernel
theorem dX12_outName_51 : decode cX12_outName 51 = .ok (.return_, 1) := by decide +kernel
theorem dX12_write_0 : decode cX12_write 0 = .ok (.aload_n 0, 1) := by decide +kernel
theorem dX12_write_1 : decode cX12_write 1 = .ok (.iconst 0, 1) := by decide +kernel
theorem dX12_write_2 : decode cX12_write 2 = .ok (.putfield 86, 3) := by decide +kernel
theorem dX12_write_5 : decode cX12_write 5 = .ok (.iload_n 1, 1) := by decide +kernel
theorem dX12_write_6 : decode cX12_write 6 = .ok (.ifCond .lt 36, 3) := by decide +kernel
theorem dX12_write_9 : decode cX12_write 9 = .ok (.iload_n 1, 1) := by decide +kernel
theorem dX12_write_10 : decode cX12_write 10 = .ok (.aload_n 0, 1) := by decide +kernel
theorem dX12_write_11 : decode cX12_write 11 = .ok (.getfield 201, 3) := by decide +kernel
theorem dX12_write_14 : decode cX12_write 14 = .ok (.if_icmp .ge 28, 3) := by decide +kernel
theorem dX12_write_17 : decode cX12_write 17 = .ok (.iload_n 2, 1) := by decide +kernel
theorem dX12_write_18 : decode cX12_write 18 = .ok (.iconst 1, 1) := by decide +kernel
theorem dX12_write_19 : decode cX12_write 19 = .ok (.if_icmp .lt 23, 3) := by decide +kernel
theorem dX12_write_22 : decode cX12_write 22 = .ok (.iload_n 2, 1) := by decide +kernel
theorem dX12_write_23 : decode cX12_write 23 = .ok (.aload_n 0, 1) := by decide +kernel
theorem dX12_write_24 : decode cX12_write 24 = .ok (.iload_n 1, 1) := by decide +kernel
theorem dX12_write_25 : decode cX12_write 25 = .ok (.aload_n 0, 1) := by decide +kernel
theorem dX12_write_26 : decode cX12_write 26 = .ok (.getfield 23, 3) := by decide +kernel
theorem dX12_write_29 : decode cX12_write 29 = .ok (.iload_n 1, 1) := by decide +kernel
theorem dX12_write_30 : decode cX12_write 30 = .ok (.iaload, 1) := by decide +kernel
theorem dX12_write_31 : decode cX12_write 31 = .ok (.iconst 1, 1) := by decide +kernel
theorem dX12_write_32 : decode cX12_write 32 = .ok (.isub, 1) := by decide +kernel
theorem dX12_write_33 : decode cX12_write 33 = .ok (.invokevirtual 220, 3) := by decide +kernel
theorem dX12_write_36 : decode cX12_write 36 = .ok (.idiv, 1) := by decide +kernel
theorem dX12_write_37 : decode cX12_write 37 = .ok (.bipush 99, 2) := by decide +kernel
theorem dX12_write_39 : decode cX12_write 39 = .ok (.if_icmp .le 5, 3) := by decide +kernel
theorem dX12_write_42 : decode cX12_write 42 = .ok (.iconst (-1), 1) := by decide +kernel
theorem dX12_write_43 : decode cX12_write 43 = .ok (.ireturn, 1) := by decide +kernel
theorem dX12_write_44 : decode cX12_write 44 = .ok (.aload_n 0, 1) := by decide +kernel
theorem dX12_write_45 : decode cX12_write 45 = .ok (.iconst 0, 1) := by decide +kernel
theorem dX12_write_46 : decode cX12_write 46 = .ok (.putfield 214, 3) := by decide +kernel
theorem dX12_write_49 : decode cX12_write 49 = .ok (.iload_n 2, 1) := by decide +kernel
theorem dX12_write_50 : decode cX12_write 50 = .ok (.istore_n 3, 1) := by decide +kernel
theorem dX12_write_51 : decode cX12_write 51 = .ok (.aload_n 0, 1) := by decide +kernel
theorem dX12_write_52 : decode cX12_write 52 = .ok (.getfield 23, 3) := by decide +kernel
theorem dX12_write_55 : decode cX12_write 55 = .ok (.iload_n 1, 1) := by decide +kernel
theorem dX12_write_56 : decode cX12_write 56 = .ok (.iaload, 1) := by decide +kernel
theorem dX12_write_57 : decode cX12_write 57 = .ok (.iconst 1, 1) := by decide +kernel
theorem dX12_write_58 : decode cX12_write 58 = .ok (.isub, 1) := by decide +kernel
theorem dX12_write_59 : decode cX12_write 59 = .ok (.istore 4, 2) := by decide +kernel
theorem dX12_write_61 : decode cX12_write 61 = .ok (.iload 4, 2) := by decide +kernel
theorem dX12_write_63 : decode cX12_write 63 = .ok (.ifCond .lt 103, 3) := by decide +kernel
theorem dX12_write_66 : decode cX12_write 66 = .ok (.iload_n 3, 1) := by decide +kernel
theorem dX12_write_67 : decode cX12_write 67 = .ok (.aload_n 0, 1) := by decide +kernel
theorem dX12_write_68 : decode cX12_write 68 = .ok (.iload_n 1, 1) := by decide +kernel
theorem dX12_write_69 : decode cX12_write 69 = .ok (.iload 4, 2) := by decide +kernel
theorem dX12_write_71 : decode cX12_write 71 = .ok (.invokevirtual 220, 3) := by decide +kernel
theorem dX12_write_74 : decode cX12_write 74 = .ok (.idiv, 1) := by decide +kernel
theorem dX12_write_75 : decode cX12_write 75 = .ok (.istore 5, 2) := by decide +kernel
theorem dX12_write_77 : decode cX12_write 77 = .ok (.iload_n 3, 1) := by decide +kernel
theorem dX12_write_78 : decode cX12_write 78 = .ok (.aload_n 0, 1) := by decide +kernel
theorem dX12_write_79 : decode cX12_write 79 = .ok (.iload_n 1, 1) := by decide +kernel
theorem dX12_write_80 : decode cX12_write 80 = .ok (.iload 4, 2) := by decide +kernel
theorem dX12_write_82 : decode cX12_write 82 = .ok (.invokevirtual 220, 3) := by decide +kernel
theorem dX12_write_85 : decode cX12_write 85 = .ok (.irem, 1) := by decide +kernel
theorem dX12_write_86 : decode cX12_write 86 = .ok (.istore_n 3, 1) := by decide +kernel
theorem dX12_write_87 : decode cX12_write 87 = .ok (.iload 5, 2) := by decide +kernel
theorem dX12_write_89 : decode cX12_write 89 = .ok (.ifCond .ne 6, 3) := by decide +kernel
theorem dX12_write_92 : decode cX12_write 92 = .ok (.goto 68, 3) := by decide +kernel
theorem dX12_write_95 : decode cX12_write 95 = .ok (.aload_n 0, 1) := by decide +kernel
theorem dX12_write_96 : decode cX12_write 96 = .ok (.getfield 214, 3) := by decide +kernel
theorem dX12_write_99 : decode cX12_write 99 = .ok (.ifCond .le 9, 3) := by decide +kernel
theorem dX12_write_102 : decode cX12_write 102 = .ok (.aload_n 0, 1) := by decide +kernel
theorem dX12_write_103 : decode cX12_write 103 = .ok (.bipush 32, 2) := by decide +kernel
theorem dX12_write_105 : decode cX12_write 105 = .ok (.invokevirtual 217, 3) := by decide +kernel
theorem dX12_write_108 : decode cX12_write 108 = .ok (.iload 5, 2) := by decide +kernel
theorem dX12_write_110 : decode cX12_write 110 = .ok (.bipush 9, 2) := by decide +kernel
theorem dX12_write_112 : decode cX12_write 112 = .ok (.if_icmp .le 15, 3) := by decide +kernel
theorem dX12_write_115 : decode cX12_write 115 = .ok (.aload_n 0, 1) := by decide +kernel
theorem dX12_write_116 : decode cX12_write 116 = .ok (.bipush 48, 2) := by decide +kernel
theorem dX12_write_118 : decode cX12_write 118 = .ok (.iload 5, 2) := by decide +kernel
theorem dX12_write_120 : decode cX12_write 120 = .ok (.bipush 10, 2) := by decide +kernel
theorem dX12_write_122 : decode cX12_write 122 = .ok (.idiv, 1) := by decide +kernel
theorem dX12_write_123 : decode cX12_write 123 = .ok (.iadd, 1) := by decide +kernel
theorem dX12_write_124 : decode cX12_write 124 = .ok (.invokevirtual 217, 3) := by decide +kernel
theorem dX12_write_127 : decode cX12_write 127 = .ok (.aload_n 0, 1) := by decide +kernel
theorem dX12_write_128 : decode cX12_write 128 = .ok (.bipush 48, 2) := by decide +kernel
theorem dX12_write_130 : decode cX12_write 130 = .ok (.iload 5, 2) := by decide +kernel
theorem dX12_write_132 : decode cX12_write 132 = .ok (.bipush 10, 2) := by decide +kernel
theorem dX12_write_134 : decode cX12_write 134 = .ok (.irem, 1) := by decide +kernel
theorem dX12_write_135 : decode cX12_write 135 = .ok (.iadd, 1) := by decide +kernel
theorem dX12_write_136 : decode cX12_write 136 = .ok (.invokevirtual 217, 3) := by decide +kernel
theorem dX12_write_139 : decode cX12_write 139 = .ok (.aload_n 0, 1) := by decide +kernel
theorem dX12_write_140 : decode cX12_write 140 = .ok (.bipush 32, 2) := by decide +kernel
theorem dX12_write_142 : decode cX12_write 142 = .ok (.invokevirtual 217, 3) := by decide +kernel
theorem dX12_write_145 : decode cX12_write 145 = .ok (.aload_n 0, 1) := by decide +kernel
theorem dX12_write_146 : decode cX12_write 146 = .ok (.aload_n 0, 1) := by decide +kernel
theorem dX12_write_147 : decode cX12_write 147 = .ok (.getfield 20, 3) := by decide +kernel
theorem dX12_write_150 : decode cX12_write 150 = .ok (.iconst 5, 1) := by decide +kernel
theorem dX12_write_151 : decode cX12_write 151 = .ok (.iload_n 1, 1) := by decide +kernel
theorem dX12_write_152 : decode cX12_write 152 = .ok (.imul, 1) := by decide +kernel
theorem dX12_write_153 : decode cX12_write 153 = .ok (.iload 4, 2) := by decide +kernel
theorem dX12_write_155 : decode cX12_write 155 = .ok (.iadd, 1) := by decide +kernel
theorem dX12_write_156 : decode cX12_write 156 = .ok (.laload, 1) := by decide +kernel
theorem dX12_write_157 : decode cX12_write 157 = .ok (.invokevirtual 224, 3) := by decide +kernel
theorem dX12_write_160 : decode cX12_write 160 = .ok (.iinc 4 (-1), 3) := by decide +kernel
theorem dX12_write_163 : decode cX12_write 163 = .ok (.goto (-102), 3) := by decide +kernel
theorem dX12_write_166 : decode cX12_write 166 = .ok (.aload_n 0, 1) := by decide +kernel
theorem dX12_write_167 : decode cX12_write 167 = .ok (.getfield 214, 3) := by decide +kernel
theorem dX12_write_170 : decode cX12_write 170 = .ok (.ireturn, 1) := by decide +kernel
theorem dX12_octet_0 : decode cX12_octet 0 = .ok (.iload_n 1, 1) := by decide +kernel
theorem dX12_octet_1 : decode cX12_octet 1 = .ok (.ifCond .lt 11, 3) := by decide +kernel
theorem dX12_octet_4 : decode cX12_octet 4 = .ok (.iload_n 1, 1) := by decide +kernel
theorem dX12_octet_5 : decode cX12_octet 5 = .ok (.aload_n 0, 1) := by decide +kernel
theorem dX12_octet_6 : decode cX12_octet 6 = .ok (.getfield 214, 3) := by decide +kernel
theorem dX12_octet_9 : decode cX12_octet 9 = .ok (.if_icmp .lt 8, 3) := by decide +kernel
theorem dX12_octet_12 : decode cX12_octet 12 = .ok (.aload_n 0, 1) := by decide +kernel
theorem dX12_octet_13 : decode cX12_octet 13 = .ok (.invokevirtual 210, 3) := by decide +kernel
theorem dX12_octet_16 : decode cX12_octet 16 = .ok (.ireturn, 1) := by decide +kernel
theorem dX12_octet_17 : decode cX12_octet 17 = .ok (.aload_n 0, 1) := by decide +kernel
theorem dX12_octet_18 : decode cX12_octet 18 = .ok (.iconst 0, 1) := by decide +kernel
theorem dX12_octet_19 : decode cX12_octet 19 = .ok (.putfield 86, 3) := by decide +kernel
theorem dX12_octet_22 : decode cX12_octet 22 = .ok (.aload_n 0, 1) := by decide +kernel
theorem dX12_octet_23 : decode cX12_octet 23 = .ok (.getfield 29, 3) := by decide +kernel
theorem dX12_octet_26 : decode cX12_octet 26 = .ok (.iload_n 1, 1) := by decide +kernel
theorem dX12_octet_27 : decode cX12_octet 27 = .ok (.iaload, 1) := by decide +kernel
theorem dX12_octet_28 : decode cX12_octet 28 = .ok (.ireturn, 1) := by decide +kernel
theorem dX12_isUnit_0 : decode cX12_isUnit 0 = .ok (.iconst 0, 1) := by decide +kernel
theorem dX12_isUnit_1 : decode cX12_isUnit 1 = .ok (.istore_n 1, 1) := by decide +kernel
theorem dX12_isUnit_2 : decode cX12_isUnit 2 = .ok (.iload_n 1, 1) := by decide +kernel
theorem dX12_isUnit_3 : decode cX12_isUnit 3 = .ok (.aload_n 0, 1) := by decide +kernel
theorem dX12_isUnit_4 : decode cX12_isUnit 4 = .ok (.getfield 201, 3) := by decide +kernel
theorem dX12_isUnit_7 : decode cX12_isUnit 7 = .ok (.if_icmp .ge 68, 3) := by decide +kernel
theorem dX12_isUnit_10 : decode cX12_isUnit 10 = .ok (.iconst 0, 1) := by decide +kernel
theorem dX12_isUnit_11 : decode cX12_isUnit 11 = .ok (.istore_n 2, 1) := by decide +kernel
theorem dX12_isUnit_12 : decode cX12_isUnit 12 = .ok (.iload_n 2, 1) := by decide +kernel
theorem dX12_isUnit_13 : decode cX12_isUnit 13 = .ok (.aload_n 0, 1) := by decide +kernel
theorem dX12_isUnit_14 : decode cX12_isUnit 14 = .ok (.getfield 23, 3) := by decide +kernel
theorem dX12_isUnit_17 : decode cX12_isUnit 17 = .ok (.iload_n 1, 1) := by decide +kernel
theorem dX12_isUnit_18 : decode cX12_isUnit 18 = .ok (.iaload, 1) := by decide +kernel
theorem dX12_isUnit_19 : decode cX12_isUnit 19 = .ok (.if_icmp .ge 50, 3) := by decide +kernel
theorem dX12_isUnit_22 : decode cX12_isUnit 22 = .ok (.aload_n 0, 1) := by decide +kernel
theorem dX12_isUnit_23 : decode cX12_isUnit 23 = .ok (.getfield 117, 3) := by decide +kernel
theorem dX12_isUnit_26 : decode cX12_isUnit 26 = .ok (.iconst 2, 1) := by decide +kernel
theorem dX12_isUnit_27 : decode cX12_isUnit 27 = .ok (.if_icmp .ne 36, 3) := by decide +kernel
theorem dX12_isUnit_30 : decode cX12_isUnit 30 = .ok (.aload_n 0, 1) := by decide +kernel
theorem dX12_isUnit_31 : decode cX12_isUnit 31 = .ok (.getfield 20, 3) := by decide +kernel
theorem dX12_isUnit_34 : decode cX12_isUnit 34 = .ok (.iconst 5, 1) := by decide +kernel
theorem dX12_isUnit_35 : decode cX12_isUnit 35 = .ok (.iload_n 1, 1) := by decide +kernel
theorem dX12_isUnit_36 : decode cX12_isUnit 36 = .ok (.imul, 1) := by decide +kernel
theorem dX12_isUnit_37 : decode cX12_isUnit 37 = .ok (.iload_n 2, 1) := by decide +kernel
theorem dX12_isUnit_38 : decode cX12_isUnit 38 = .ok (.iadd, 1) := by decide +kernel
theorem dX12_isUnit_39 : decode cX12_isUnit 39 = .ok (.laload, 1) := by decide +kernel
theorem dX12_isUnit_40 : decode cX12_isUnit 40 = .ok (.aload_n 0, 1) := by decide +kernel
theorem dX12_isUnit_41 : decode cX12_isUnit 41 = .ok (.getfield 129, 3) := by decide +kernel
theorem dX12_isUnit_44 : decode cX12_isUnit 44 = .ok (.lcmp, 1) := by decide +kernel
theorem dX12_isUnit_45 : decode cX12_isUnit 45 = .ok (.ifCond .eq 6, 3) := by decide +kernel
theorem dX12_isUnit_48 : decode cX12_isUnit 48 = .ok (.goto 15, 3) := by decide +kernel
theorem dX12_isUnit_51 : decode cX12_isUnit 51 = .ok (.aload_n 0, 1) := by decide +kernel
theorem dX12_isUnit_52 : decode cX12_isUnit 52 = .ok (.iload_n 1, 1) := by decide +kernel
theorem dX12_isUnit_53 : decode cX12_isUnit 53 = .ok (.putfield 228, 3) := by decide +kernel
theorem dX12_isUnit_56 : decode cX12_isUnit 56 = .ok (.aload_n 0, 1) := by decide +kernel
theorem dX12_isUnit_57 : decode cX12_isUnit 57 = .ok (.iload_n 2, 1) := by decide +kernel
theorem dX12_isUnit_58 : decode cX12_isUnit 58 = .ok (.putfield 231, 3) := by decide +kernel
theorem dX12_isUnit_61 : decode cX12_isUnit 61 = .ok (.iconst 1, 1) := by decide +kernel
theorem dX12_isUnit_62 : decode cX12_isUnit 62 = .ok (.ireturn, 1) := by decide +kernel
theorem dX12_isUnit_63 : decode cX12_isUnit 63 = .ok (.iinc 2 1, 3) := by decide +kernel
theorem dX12_isUnit_66 : decode cX12_isUnit 66 = .ok (.goto (-54), 3) := by decide +kernel
theorem dX12_isUnit_69 : decode cX12_isUnit 69 = .ok (.iinc 1 1, 3) := by decide +kernel
theorem dX12_isUnit_72 : decode cX12_isUnit 72 = .ok (.goto (-70), 3) := by decide +kernel
theorem dX12_isUnit_75 : decode cX12_isUnit 75 = .ok (.iconst 0, 1) := by decide +kernel
theorem dX12_isUnit_76 : decode cX12_isUnit 76 = .ok (.ireturn, 1) := by decide +kernel
theorem dX12_mostOf_0 : decode cX12_mostOf 0 = .ok (.iload_n 2, 1) := by decide +kernel
theorem dX12_mostOf_1 : decode cX12_mostOf 1 = .ok (.aload_n 0, 1) := by decide +kernel
theorem dX12_mostOf_2 : decode cX12_mostOf 2 = .ok (.getfield 23, 3) := by decide +kernel
theorem dX12_mostOf_5 : decode cX12_mostOf 5 = .ok (.iload_n 1, 1) := by decide +kernel
theorem dX12_mostOf_6 : decode cX12_mostOf 6 = .ok (.iaload, 1) := by decide +kernel
theorem dX12_mostOf_7 : decode cX12_mostOf 7 = .ok (.iconst 1, 1) := by decide +kernel
theorem dX12_mostOf_8 : decode cX12_mostOf 8 = .ok (.isub, 1) := by decide +kernel
theorem dX12_mostOf_9 : decode cX12_mostOf 9 = .ok (.if_icmp .ne 8, 3) := by decide +kernel
theorem dX12_mostOf_12 : decode cX12_mostOf 12 = .ok (.bipush 99, 2) := by decide +kernel
theorem dX12_mostOf_14 : decode cX12_mostOf 14 = .ok (.goto 17, 3) := by decide +kernel
theorem dX12_mostOf_17 : decode cX12_mostOf 17 = .ok (.aload_n 0, 1) := by decide +kernel
theorem dX12_mostOf_18 : decode cX12_mostOf 18 = .ok (.getfield 26, 3) := by decide +kernel
theorem dX12_mostOf_21 : decode cX12_mostOf 21 = .ok (.iconst 5, 1) := by decide +kernel
theorem dX12_mostOf_22 : decode cX12_mostOf 22 = .ok (.iload_n 1, 1) := by decide +kernel
theorem dX12_mostOf_23 : decode cX12_mostOf 23 = .ok (.imul, 1) := by decide +kernel
theorem dX12_mostOf_24 : decode cX12_mostOf 24 = .ok (.iload_n 2, 1) := by decide +kernel
theorem dX12_mostOf_25 : decode cX12_mostOf 25 = .ok (.iadd, 1) := by decide +kernel
theorem dX12_mostOf_26 : decode cX12_mostOf 26 = .ok (.iconst 1, 1) := by decide +kernel
theorem dX12_mostOf_27 : decode cX12_mostOf 27 = .ok (.iadd, 1) := by decide +kernel
theorem dX12_mostOf_28 : decode cX12_mostOf 28 = .ok (.iaload, 1) := by decide +kernel
theorem dX12_mostOf_29 : decode cX12_mostOf 29 = .ok (.iconst 1, 1) := by decide +kernel
theorem dX12_mostOf_30 : decode cX12_mostOf 30 = .ok (.isub, 1) := by decide +kernel
theorem dX12_mostOf_31 : decode cX12_mostOf 31 = .ok (.ireturn, 1) := by decide +kernel
theorem dX12_isGood_0 : decode cX12_isGood 0 = .ok (.iload_n 2, 1) := by decide +kernel
theorem dX12_isGood_1 : decode cX12_isGood 1 = .ok (.iconst (-1), 1) := by decide +kernel
theorem dX12_isGood_2 : decode cX12_isGood 2 = .ok (.if_icmp .ne 7, 3) := by decide +kernel
theorem dX12_isGood_5 : decode cX12_isGood 5 = .ok (.iload_n 1, 1) := by decide +kernel
theorem dX12_isGood_6 : decode cX12_isGood 6 = .ok (.goto 9, 3) := by decide +kernel
theorem dX12_isGood_9 : decode cX12_isGood 9 = .ok (.bipush 10, 2) := by decide +kernel
theorem dX12_isGood_11 : decode cX12_isGood 11 = .ok (.iload_n 1, 1) := by decide +kernel
theorem dX12_isGood_12 : decode cX12_isGood 12 = .ok (.imul, 1) := by decide +kernel
theorem dX12_isGood_13 : decode cX12_isGood 13 = .ok (.iload_n 2, 1) := by decide +kernel
theorem dX12_isGood_14 : decode cX12_isGood 14 = .ok (.iadd, 1) := by decide +kernel
theorem dX12_isGood_15 : decode cX12_isGood 15 = .ok (.istore 4, 2) := by decide +kernel
theorem dX12_isGood_17 : decode cX12_isGood 17 = .ok (.iload_n 2, 1) := by decide +kernel
theorem dX12_isGood_18 : decode cX12_isGood 18 = .ok (.iconst (-1), 1) := by decide +kernel
theorem dX12_isGood_19 : decode cX12_isGood 19 = .ok (.if_icmp .eq 7, 3) := by decide +kernel
theorem dX12_isGood_22 : decode cX12_isGood 22 = .ok (.iload_n 1, 1) := by decide +kernel
theorem dX12_isGood_23 : decode cX12_isGood 23 = .ok (.ifCond .le 19, 3) := by decide +kernel
theorem dX12_isGood_26 : decode cX12_isGood 26 = .ok (.iload 4, 2) := by decide +kernel
theorem dX12_isGood_28 : decode cX12_isGood 28 = .ok (.iconst 1, 1) := by decide +kernel
theorem dX12_isGood_29 : decode cX12_isGood 29 = .ok (.if_icmp .lt 13, 3) := by decide +kernel
theorem dX12_isGood_32 : decode cX12_isGood 32 = .ok (.iload 4, 2) := by decide +kernel
theorem dX12_isGood_34 : decode cX12_isGood 34 = .ok (.iload_n 3, 1) := by decide +kernel
theorem dX12_isGood_35 : decode cX12_isGood 35 = .ok (.if_icmp .gt 7, 3) := by decide +kernel
theorem dX12_isGood_38 : decode cX12_isGood 38 = .ok (.iconst 1, 1) := by decide +kernel
theorem dX12_isGood_39 : decode cX12_isGood 39 = .ok (.goto 4, 3) := by decide +kernel
theorem dX12_isGood_42 : decode cX12_isGood 42 = .ok (.iconst 0, 1) := by decide +kernel
theorem dX12_isGood_43 : decode cX12_isGood 43 = .ok (.ireturn, 1) := by decide +kernel
theorem dX12_canBe_0 : decode cX12_canBe 0 = .ok (.iload_n 1, 1) := by decide +kernel
theorem dX12_canBe_1 : decode cX12_canBe 1 = .ok (.bipush 10, 2) := by decide +kernel
theorem dX12_canBe_3 : decode cX12_canBe 3 = .ok (.if_icmp .ne 7, 3) := by decide +kernel
theorem dX12_canBe_6 : decode cX12_canBe 6 = .ok (.iconst 0, 1) := by decide +kernel
theorem dX12_canBe_7 : decode cX12_canBe 7 = .ok (.goto 4, 3) := by decide +kernel
theorem dX12_canBe_10 : decode cX12_canBe 10 = .ok (.iload_n 1, 1) := by decide +kernel
theorem dX12_canBe_11 : decode cX12_canBe 11 = .ok (.istore 4, 2) := by decide +kernel
theorem dX12_canBe_13 : decode cX12_canBe 13 = .ok (.iload 4, 2) := by decide +kernel
theorem dX12_canBe_15 : decode cX12_canBe 15 = .ok (.iload_n 1, 1) := by decide +kernel
theorem dX12_canBe_16 : decode cX12_canBe 16 = .ok (.bipush 10, 2) := by decide +kernel
theorem dX12_canBe_18 : decode cX12_canBe 18 = .ok (.if_icmp .ne 8, 3) := by decide +kernel
theorem dX12_canBe_21 : decode cX12_canBe 21 = .ok (.bipush 9, 2) := by decide +kernel
theorem dX12_canBe_23 : decode cX12_canBe 23 = .ok (.goto 4, 3) := by decide +kernel
theorem dX12_canBe_26 : decode cX12_canBe 26 = .ok (.iload_n 1, 1) := by decide +kernel
theorem dX12_canBe_27 : decode cX12_canBe 27 = .ok (.if_icmp .gt 59, 3) := by decide +kernel
theorem dX12_canBe_30 : decode cX12_canBe 30 = .ok (.iload_n 2, 1) := by decide +kernel
theorem dX12_canBe_31 : decode cX12_canBe 31 = .ok (.bipush 10, 2) := by decide +kernel
theorem dX12_canBe_33 : decode cX12_canBe 33 = .ok (.if_icmp .ne 7, 3) := by decide +kernel
theorem dX12_canBe_36 : decode cX12_canBe 36 = .ok (.iconst 0, 1) := by decide +kernel
theorem dX12_canBe_37 : decode cX12_canBe 37 = .ok (.goto 4, 3) := by decide +kernel
theorem dX12_canBe_40 : decode cX12_canBe 40 = .ok (.iload_n 2, 1) := by decide +kernel
theorem dX12_canBe_41 : decode cX12_canBe 41 = .ok (.istore 5, 2) := by decide +kernel
theorem dX12_canBe_43 : decode cX12_canBe 43 = .ok (.iload 5, 2) := by decide +kernel
theorem dX12_canBe_45 : decode cX12_canBe 45 = .ok (.iload_n 2, 1) := by decide +kernel
theorem dX12_canBe_46 : decode cX12_canBe 46 = .ok (.bipush 10, 2) := by decide +kernel
theorem dX12_canBe_48 : decode cX12_canBe 48 = .ok (.if_icmp .ne 8, 3) := by decide +kernel
theorem dX12_canBe_51 : decode cX12_canBe 51 = .ok (.bipush 9, 2) := by decide +kernel
theorem dX12_canBe_53 : decode cX12_canBe 53 = .ok (.goto 4, 3) := by decide +kernel
theorem dX12_canBe_56 : decode cX12_canBe 56 = .ok (.iload_n 2, 1) := by decide +kernel
theorem dX12_canBe_57 : decode cX12_canBe 57 = .ok (.if_icmp .gt 23, 3) := by decide +kernel
theorem dX12_canBe_60 : decode cX12_canBe 60 = .ok (.aload_n 0, 1) := by decide +kernel
theorem dX12_canBe_61 : decode cX12_canBe 61 = .ok (.iload 4, 2) := by decide +kernel
theorem dX12_canBe_63 : decode cX12_canBe 63 = .ok (.iload 5, 2) := by decide +kernel
theorem dX12_canBe_65 : decode cX12_canBe 65 = .ok (.iload_n 3, 1) := by decide +kernel
theorem dX12_canBe_66 : decode cX12_canBe 66 = .ok (.invokevirtual 234, 3) := by decide +kernel
theorem dX12_canBe_69 : decode cX12_canBe 69 = .ok (.ifCond .eq 5, 3) := by decide +kernel
theorem dX12_canBe_72 : decode cX12_canBe 72 = .ok (.iconst 1, 1) := by decide +kernel
theorem dX12_canBe_73 : decode cX12_canBe 73 = .ok (.ireturn, 1) := by decide +kernel
theorem dX12_canBe_74 : decode cX12_canBe 74 = .ok (.iinc 5 1, 3) := by decide +kernel
theorem dX12_canBe_77 : decode cX12_canBe 77 = .ok (.goto (-34), 3) := by decide +kernel
theorem dX12_canBe_80 : decode cX12_canBe 80 = .ok (.iinc 4 1, 3) := by decide +kernel
theorem dX12_canBe_83 : decode cX12_canBe 83 = .ok (.goto (-70), 3) := by decide +kernel
theorem dX12_canBe_86 : decode cX12_canBe 86 = .ok (.iconst 0, 1) := by decide +kernel
theorem dX12_canBe_87 : decode cX12_canBe 87 = .ok (.ireturn, 1) := by decide +kernel
theorem dX12_readAmount_0 : decode cX12_readAmount 0 = .ok (.aload_n 0, 1) := by decide +kernel
theorem dX12_readAmount_1 : decode cX12_readAmount 1 = .ok (.getfield 111, 3) := by decide +kernel
theorem dX12_readAmount_4 : decode cX12_readAmount 4 = .ok (.istore_n 3, 1) := by decide +kernel
theorem dX12_readAmount_5 : decode cX12_readAmount 5 = .ok (.aload_n 0, 1) := by decide +kernel
theorem dX12_readAmount_6 : decode cX12_readAmount 6 = .ok (.getfield 144, 3) := by decide +kernel
theorem dX12_readAmount_9 : decode cX12_readAmount 9 = .ok (.istore 4, 2) := by decide +kernel
theorem dX12_readAmount_11 : decode cX12_readAmount 11 = .ok (.aload_n 0, 1) := by decide +kernel
theorem dX12_readAmount_12 : decode cX12_readAmount 12 = .ok (.getfield 147, 3) := by decide +kernel
theorem dX12_readAmount_15 : decode cX12_readAmount 15 = .ok (.istore 5, 2) := by decide +kernel
theorem dX12_readAmount_17 : decode cX12_readAmount 17 = .ok (.iload 4, 2) := by decide +kernel
theorem dX12_readAmount_19 : decode cX12_readAmount 19 = .ok (.bipush 10, 2) := by decide +kernel
theorem dX12_readAmount_21 : decode cX12_readAmount 21 = .ok (.if_icmp .ne 7, 3) := by decide +kernel
theorem dX12_readAmount_24 : decode cX12_readAmount 24 = .ok (.iconst 1, 1) := by decide +kernel
theorem dX12_readAmount_25 : decode cX12_readAmount 25 = .ok (.goto 4, 3) := by decide +kernel
theorem dX12_readAmount_28 : decode cX12_readAmount 28 = .ok (.iconst 0, 1) := by decide +kernel
theorem dX12_readAmount_29 : decode cX12_readAmount 29 = .ok (.iload 5, 2) := by decide +kernel
theorem dX12_readAmount_31 : decode cX12_readAmount 31 = .ok (.bipush 10, 2) := by decide +kernel
theorem dX12_readAmount_33 : decode cX12_readAmount 33 = .ok (.if_icmp .ne 7, 3) := by decide +kernel
theorem dX12_readAmount_36 : decode cX12_readAmount 36 = .ok (.iconst 1, 1) := by decide +kernel
theorem dX12_readAmount_37 : decode cX12_readAmount 37 = .ok (.goto 4, 3) := by decide +kernel
theorem dX12_readAmount_40 : decode cX12_readAmount 40 = .ok (.iconst 0, 1) := by decide +kernel
theorem dX12_readAmount_41 : decode cX12_readAmount 41 = .ok (.iadd, 1) := by decide +kernel
theorem dX12_readAmount_42 : decode cX12_readAmount 42 = .ok (.istore 6, 2) := by decide +kernel
theorem dX12_readAmount_44 : decode cX12_readAmount 44 = .ok (.aload_n 0, 1) := by decide +kernel
theorem dX12_readAmount_45 : decode cX12_readAmount 45 = .ok (.getfield 44, 3) := by decide +kernel
theorem dX12_readAmount_48 : decode cX12_readAmount 48 = .ok (.iload_n 1, 1) := by decide +kernel
theorem dX12_readAmount_49 : decode cX12_readAmount 49 = .ok (.iaload, 1) := by decide +kernel
theorem dX12_readAmount_50 : decode cX12_readAmount 50 = .ok (.iload 6, 2) := by decide +kernel
theorem dX12_readAmount_52 : decode cX12_readAmount 52 = .ok (.iadd, 1) := by decide +kernel
theorem dX12_readAmount_53 : decode cX12_readAmount 53 = .ok (.iconst 4, 1) := by decide +kernel
theorem dX12_readAmount_54 : decode cX12_readAmount 54 = .ok (.if_icmp .le 7, 3) := by decide +kernel
theorem dX12_readAmount_57 : decode cX12_readAmount 57 = .ok (.iconst 1, 1) := by decide +kernel
theorem dX12_readAmount_58 : decode cX12_readAmount 58 = .ok (.goto 4, 3) := by decide +kernel
theorem dX12_readAmount_61 : decode cX12_readAmount 61 = .ok (.iconst 0, 1) := by decide +kernel
theorem dX12_readAmount_62 : decode cX12_readAmount 62 = .ok (.istore 7, 2) := by decide +kernel
theorem dX12_readAmount_64 : decode cX12_readAmount 64 = .ok (.aload_n 0, 1) := by decide +kernel
theorem dX12_readAmount_65 : decode cX12_readAmount 65 = .ok (.iload 4, 2) := by decide +kernel
theorem dX12_readAmount_67 : decode cX12_readAmount 67 = .ok (.iload 5, 2) := by decide +kernel
theorem dX12_readAmount_69 : decode cX12_readAmount 69 = .ok (.bipush 99, 2) := by decide +kernel
theorem dX12_readAmount_71 : decode cX12_readAmount 71 = .ok (.invokevirtual 238, 3) := by decide +kernel
theorem dX12_readAmount_74 : decode cX12_readAmount 74 = .ok (.ifCond .ne 9, 3) := by decide +kernel
theorem dX12_readAmount_77 : decode cX12_readAmount 77 = .ok (.aload_n 0, 1) := by decide +kernel
theorem dX12_readAmount_78 : decode cX12_readAmount 78 = .ok (.iconst 2, 1) := by decide +kernel
theorem dX12_readAmount_79 : decode cX12_readAmount 79 = .ok (.invokevirtual 176, 3) := by decide +kernel
theorem dX12_readAmount_82 : decode cX12_readAmount 82 = .ok (.ireturn, 1) := by decide +kernel
theorem dX12_readAmount_83 : decode cX12_readAmount 83 = .ok (.aload_n 0, 1) := by decide +kernel
theorem dX12_readAmount_84 : decode cX12_readAmount 84 = .ok (.invokevirtual 169, 3) := by decide +kernel
theorem dX12_readAmount_87 : decode cX12_readAmount 87 = .ok (.aload_n 0, 1) := by decide +kernel
theorem dX12_readAmount_88 : decode cX12_readAmount 88 = .ok (.getfield 117, 3) := by decide +kernel
theorem dX12_readAmount_91 : decode cX12_readAmount 91 = .ok (.iconst 2, 1) := by decide +kernel
theorem dX12_readAmount_92 : decode cX12_readAmount 92 = .ok (.if_icmp .ne 14, 3) := by decide +kernel
theorem dX12_readAmount_95 : decode cX12_readAmount 95 = .ok (.aload_n 0, 1) := by decide +kernel
theorem dX12_readAmount_96 : decode cX12_readAmount 96 = .ok (.invokevirtual 172, 3) := by decide +kernel
theorem dX12_readAmount_99 : decode cX12_readAmount 99 = .ok (.ifCond .eq 7, 3) := by decide +kernel
theorem dX12_readAmount_102 : decode cX12_readAmount 102 = .ok (.iconst 1, 1) := by decide +kernel
theorem dX12_readAmount_103 : decode cX12_readAmount 103 = .ok (.goto 4, 3) := by decide +kernel
theorem dX12_readAmount_106 : decode cX12_readAmount 106 = .ok (.iconst 0, 1) := by decide +kernel
theorem dX12_readAmount_107 : decode cX12_readAmount 107 = .ok (.istore 8, 2) := by decide +kernel
theorem dX12_readAmount_109 : decode cX12_readAmount 109 = .ok (.iload 8, 2) := by decide +kernel
theorem dX12_readAmount_111 : decode cX12_readAmount 111 = .ok (.ifCond .eq 14, 3) := by decide +kernel
theorem dX12_readAmount_114 : decode cX12_readAmount 114 = .ok (.aload_n 0, 1) := by decide +kernel
theorem dX12_readAmount_115 : decode cX12_readAmount 115 = .ok (.invokevirtual 241, 3) := by decide +kernel
theorem dX12_readAmount_118 : decode cX12_readAmount 118 = .ok (.ifCond .eq 7, 3) := by decide +kernel
theorem dX12_readAmount_121 : decode cX12_readAmount 121 = .ok (.iconst 1, 1) := by decide +kernel
theorem dX12_readAmount_122 : decode cX12_readAmount 122 = .ok (.goto 4, 3) := by decide +kernel
theorem dX12_readAmount_125 : decode cX12_readAmount 125 = .ok (.iconst 0, 1) := by decide +kernel
theorem dX12_readAmount_126 : decode cX12_readAmount 126 = .ok (.istore 9, 2) := by decide +kernel
theorem dX12_readAmount_128 : decode cX12_readAmount 128 = .ok (.iload 9, 2) := by decide +kernel
theorem dX12_readAmount_130 : decode cX12_readAmount 130 = .ok (.ifCond .eq 33, 3) := by decide +kernel
theorem dX12_readAmount_133 : decode cX12_readAmount 133 = .ok (.aload_n 0, 1) := by decide +kernel
theorem dX12_readAmount_134 : decode cX12_readAmount 134 = .ok (.iload 4, 2) := by decide +kernel
theorem dX12_readAmount_136 : decode cX12_readAmount 136 = .ok (.iload 5, 2) := by decide +kernel
theorem dX12_readAmount_138 : decode cX12_readAmount 138 = .ok (.aload_n 0, 1) := by decide +kernel
theorem dX12_readAmount_139 : decode cX12_readAmount 139 = .ok (.aload_n 0, 1) := by decide +kernel
theorem dX12_readAmount_140 : decode cX12_readAmount 140 = .ok (.getfield 228, 3) := by decide +kernel
theorem dX12_readAmount_143 : decode cX12_readAmount 143 = .ok (.aload_n 0, 1) := by decide +kernel
theorem dX12_readAmount_144 : decode cX12_readAmount 144 = .ok (.getfield 231, 3) := by decide +kernel
theorem dX12_readAmount_147 : decode cX12_readAmount 147 = .ok (.invokevirtual 244, 3) := by decide +kernel
theorem dX12_readAmount_150 : decode cX12_readAmount 150 = .ok (.invokevirtual 238, 3) := by decide +kernel
theorem dX12_readAmount_153 : decode cX12_readAmount 153 = .ok (.ifCond .ne 10, 3) := by decide +kernel
theorem dX12_readAmount_156 : decode cX12_readAmount 156 = .ok (.aload_n 0, 1) := by decide +kernel
theorem dX12_readAmount_157 : decode cX12_readAmount 157 = .ok (.iconst 2, 1) := by decide +kernel
theorem dX12_readAmount_158 : decode cX12_readAmount 158 = .ok (.iload_n 3, 1) := by decide +kernel
theorem dX12_readAmount_159 : decode cX12_readAmount 159 = .ok (.invokevirtual 247, 3) := by decide +kernel
theorem dX12_readAmount_162 : decode cX12_readAmount 162 = .ok (.ireturn, 1) := by decide +kernel
theorem dX12_readAmount_163 : decode cX12_readAmount 163 = .ok (.iload 7, 2) := by decide +kernel
theorem dX12_readAmount_165 : decode cX12_readAmount 165 = .ok (.ifCond .eq 10, 3) := by decide +kernel
theorem dX12_readAmount_168 : decode cX12_readAmount 168 = .ok (.aload_n 0, 1) := by decide +kernel
theorem dX12_readAmount_169 : decode cX12_readAmount 169 = .ok (.iconst 4, 1) := by decide +kernel
theorem dX12_readAmount_170 : decode cX12_readAmount 170 = .ok (.iload_n 3, 1) := by decide +kernel
theorem dX12_readAmount_171 : decode cX12_readAmount 171 = .ok (.invokevirtual 247, 3) := by decide +kernel
theorem dX12_readAmount_174 : decode cX12_readAmount 174 = .ok (.ireturn, 1) := by decide +kernel
theorem dX12_readAmount_175 : decode cX12_readAmount 175 = .ok (.iload 8, 2) := by decide +kernel
theorem dX12_readAmount_177 : decode cX12_readAmount 177 = .ok (.ifCond .ne 9, 3) := by decide +kernel
theorem dX12_readAmount_180 : decode cX12_readAmount 180 = .ok (.aload_n 0, 1) := by decide +kernel
theorem dX12_readAmount_181 : decode cX12_readAmount 181 = .ok (.iconst 1, 1) := by decide +kernel
theorem dX12_readAmount_182 : decode cX12_readAmount 182 = .ok (.invokevirtual 176, 3) := by decide +kernel
theorem dX12_readAmount_185 : decode cX12_readAmount 185 = .ok (.ireturn, 1) := by decide +kernel
theorem dX12_readAmount_186 : decode cX12_readAmount 186 = .ok (.iload 9, 2) := by decide +kernel
theorem dX12_readAmount_188 : decode cX12_readAmount 188 = .ok (.ifCond .eq 49, 3) := by decide +kernel
theorem dX12_readAmount_191 : decode cX12_readAmount 191 = .ok (.aload_n 0, 1) := by decide +kernel
theorem dX12_readAmount_192 : decode cX12_readAmount 192 = .ok (.getfield 41, 3) := by decide +kernel
theorem dX12_readAmount_195 : decode cX12_readAmount 195 = .ok (.iload_n 2, 1) := by decide +kernel
theorem dX12_readAmount_196 : decode cX12_readAmount 196 = .ok (.iaload, 1) := by decide +kernel
theorem dX12_readAmount_197 : decode cX12_readAmount 197 = .ok (.ifCond .le 46, 3) := by decide +kernel
theorem dX12_readAmount_200 : decode cX12_readAmount 200 = .ok (.aload_n 0, 1) := by decide +kernel
theorem dX12_readAmount_201 : decode cX12_readAmount 201 = .ok (.getfield 228, 3) := by decide +kernel
theorem dX12_readAmount_204 : decode cX12_readAmount 204 = .ok (.aload_n 0, 1) := by decide +kernel
theorem dX12_readAmount_205 : decode cX12_readAmount 205 = .ok (.getfield 38, 3) := by decide +kernel
theorem dX12_readAmount_208 : decode cX12_readAmount 208 = .ok (.iload_n 2, 1) := by decide +kernel
theorem dX12_readAmount_209 : decode cX12_readAmount 209 = .ok (.iaload, 1) := by decide +kernel
theorem dX12_readAmount_210 : decode cX12_readAmount 210 = .ok (.if_icmp .ne 27, 3) := by decide +kernel
theorem dX12_readAmount_213 : decode cX12_readAmount 213 = .ok (.aload_n 0, 1) := by decide +kernel
theorem dX12_readAmount_214 : decode cX12_readAmount 214 = .ok (.getfield 231, 3) := by decide +kernel
theorem dX12_readAmount_217 : decode cX12_readAmount 217 = .ok (.aload_n 0, 1) := by decide +kernel
theorem dX12_readAmount_218 : decode cX12_readAmount 218 = .ok (.getfield 53, 3) := by decide +kernel
theorem dX12_readAmount_221 : decode cX12_readAmount 221 = .ok (.iconst 5, 1) := by decide +kernel
theorem dX12_readAmount_222 : decode cX12_readAmount 222 = .ok (.iload_n 2, 1) := by decide +kernel
theorem dX12_readAmount_223 : decode cX12_readAmount 223 = .ok (.imul, 1) := by decide +kernel
theorem dX12_readAmount_224 : decode cX12_readAmount 224 = .ok (.aload_n 0, 1) := by decide +kernel
theorem dX12_readAmount_225 : decode cX12_readAmount 225 = .ok (.getfield 41, 3) := by decide +kernel
theorem dX12_readAmount_228 : decode cX12_readAmount 228 = .ok (.iload_n 2, 1) := by decide +kernel
theorem dX12_readAmount_229 : decode cX12_readAmount 229 = .ok (.iaload, 1) := by decide +kernel
theorem dX12_readAmount_230 : decode cX12_readAmount 230 = .ok (.iadd, 1) := by decide +kernel
theorem dX12_readAmount_231 : decode cX12_readAmount 231 = .ok (.iconst 1, 1) := by decide +kernel
theorem dX12_readAmount_232 : decode cX12_readAmount 232 = .ok (.isub, 1) := by decide +kernel
theorem dX12_readAmount_233 : decode cX12_readAmount 233 = .ok (.iaload, 1) := by decide +kernel
theorem dX12_readAmount_234 : decode cX12_readAmount 234 = .ok (.if_icmp .lt 9, 3) := by decide +kernel
theorem dX12_readAmount_237 : decode cX12_readAmount 237 = .ok (.aload_n 0, 1) := by decide +kernel
theorem dX12_readAmount_238 : decode cX12_readAmount 238 = .ok (.iconst 3, 1) := by decide +kernel
theorem dX12_readAmount_239 : decode cX12_readAmount 239 = .ok (.invokevirtual 176, 3) := by decide +kernel
theorem dX12_readAmount_242 : decode cX12_readAmount 242 = .ok (.ireturn, 1) := by decide +kernel
theorem dX12_readAmount_243 : decode cX12_readAmount 243 = .ok (.iconst 5, 1) := by decide +kernel
theorem dX12_readAmount_244 : decode cX12_readAmount 244 = .ok (.iload_n 2, 1) := by decide +kernel
theorem dX12_readAmount_245 : decode cX12_readAmount 245 = .ok (.imul, 1) := by decide +kernel
theorem dX12_readAmount_246 : decode cX12_readAmount 246 = .ok (.aload_n 0, 1) := by decide +kernel
theorem dX12_readAmount_247 : decode cX12_readAmount 247 = .ok (.getfield 41, 3) := by decide +kernel
theorem dX12_readAmount_250 : decode cX12_readAmount 250 = .ok (.iload_n 2, 1) := by decide +kernel
theorem dX12_readAmount_251 : decode cX12_readAmount 251 = .ok (.iaload, 1) := by decide +kernel
theorem dX12_readAmount_252 : decode cX12_readAmount 252 = .ok (.iadd, 1) := by decide +kernel
theorem dX12_readAmount_253 : decode cX12_readAmount 253 = .ok (.istore 10, 2) := by decide +kernel
theorem dX12_readAmount_255 : decode cX12_readAmount 255 = .ok (.aload_n 0, 1) := by decide +kernel
theorem dX12_readAmount_256 : decode cX12_readAmount 256 = .ok (.getfield 38, 3) := by decide +kernel
theorem dX12_readAmount_259 : decode cX12_readAmount 259 = .ok (.iload_n 2, 1) := by decide +kernel
theorem dX12_readAmount_260 : decode cX12_readAmount 260 = .ok (.aload_n 0, 1) := by decide +kernel
theorem dX12_readAmount_261 : decode cX12_readAmount 261 = .ok (.getfield 228, 3) := by decide +kernel
theorem dX12_readAmount_264 : decode cX12_readAmount 264 = .ok (.iastore, 1) := by decide +kernel
theorem dX12_readAmount_265 : decode cX12_readAmount 265 = .ok (.aload_n 0, 1) := by decide +kernel
theorem dX12_readAmount_266 : decode cX12_readAmount 266 = .ok (.getfield 47, 3) := by decide +kernel
theorem dX12_readAmount_269 : decode cX12_readAmount 269 = .ok (.iload 10, 2) := by decide +kernel
theorem dX12_readAmount_271 : decode cX12_readAmount 271 = .ok (.iload 4, 2) := by decide +kernel
theorem dX12_readAmount_273 : decode cX12_readAmount 273 = .ok (.iastore, 1) := by decide +kernel
theorem dX12_readAmount_274 : decode cX12_readAmount 274 = .ok (.aload_n 0, 1) := by decide +kernel
theorem dX12_readAmount_275 : decode cX12_readAmount 275 = .ok (.getfield 50, 3) := by decide +kernel
theorem dX12_readAmount_278 : decode cX12_readAmount 278 = .ok (.iload 10, 2) := by decide +kernel
theorem dX12_readAmount_280 : decode cX12_readAmount 280 = .ok (.iload 5, 2) := by decide +kernel
theorem dX12_readAmount_282 : decode cX12_readAmount 282 = .ok (.iastore, 1) := by decide +kernel
theorem dX12_readAmount_283 : decode cX12_readAmount 283 = .ok (.aload_n 0, 1) := by decide +kernel
theorem dX12_readAmount_284 : decode cX12_readAmount 284 = .ok (.getfield 53, 3) := by decide +kernel
theorem dX12_readAmount_287 : decode cX12_readAmount 287 = .ok (.iload 10, 2) := by decide +kernel
theorem dX12_readAmount_289 : decode cX12_readAmount 289 = .ok (.aload_n 0, 1) := by decide +kernel
theorem dX12_readAmount_290 : decode cX12_readAmount 290 = .ok (.getfield 231, 3) := by decide +kernel
theorem dX12_readAmount_293 : decode cX12_readAmount 293 = .ok (.iastore, 1) := by decide +kernel
theorem dX12_readAmount_294 : decode cX12_readAmount 294 = .ok (.aload_n 0, 1) := by decide +kernel
theorem dX12_readAmount_295 : decode cX12_readAmount 295 = .ok (.getfield 41, 3) := by decide +kernel
theorem dX12_readAmount_298 : decode cX12_readAmount 298 = .ok (.iload_n 2, 1) := by decide +kernel
theorem dX12_readAmount_299 : decode cX12_readAmount 299 = .ok (.dup2, 1) := by decide +kernel
theorem dX12_readAmount_300 : decode cX12_readAmount 300 = .ok (.iaload, 1) := by decide +kernel
theorem dX12_readAmount_301 : decode cX12_readAmount 301 = .ok (.iconst 1, 1) := by decide +kernel
theorem dX12_readAmount_302 : decode cX12_readAmount 302 = .ok (.iadd, 1) := by decide +kernel
theorem dX12_readAmount_303 : decode cX12_readAmount 303 = .ok (.iastore, 1) := by decide +kernel
theorem dX12_readAmount_304 : decode cX12_readAmount 304 = .ok (.aload_n 0, 1) := by decide +kernel
theorem dX12_readAmount_305 : decode cX12_readAmount 305 = .ok (.getfield 44, 3) := by decide +kernel
theorem dX12_readAmount_308 : decode cX12_readAmount 308 = .ok (.iload_n 1, 1) := by decide +kernel
theorem dX12_readAmount_309 : decode cX12_readAmount 309 = .ok (.dup2, 1) := by decide +kernel
theorem dX12_readAmount_310 : decode cX12_readAmount 310 = .ok (.iaload, 1) := by decide +kernel
theorem dX12_readAmount_311 : decode cX12_readAmount 311 = .ok (.iload 6, 2) := by decide +kernel
theorem dX12_readAmount_313 : decode cX12_readAmount 313 = .ok (.iadd, 1) := by decide +kernel
theorem dX12_readAmount_314 : decode cX12_readAmount 314 = .ok (.iastore, 1) := by decide +kernel
theorem dX12_readAmount_315 : decode cX12_readAmount 315 = .ok (.aload_n 0, 1) := by decide +kernel
theorem dX12_readAmount_316 : decode cX12_readAmount 316 = .ok (.invokevirtual 169, 3) := by decide +kernel
theorem dX12_readAmount_319 : decode cX12_readAmount 319 = .ok (.iconst 1, 1) := by decide +kernel
theorem dX12_readAmount_320 : decode cX12_readAmount 320 = .ok (.ireturn, 1) := by decide +kernel
theorem dX12_readTablet_0 : decode cX12_readTablet 0 = .ok (.aload_n 0, 1) := by decide +kernel
theorem dX12_readTablet_1 : decode cX12_readTablet 1 = .ok (.getfield 32, 3) := by decide +kernel
theorem dX12_readTablet_4 : decode cX12_readTablet 4 = .ok (.iload_n 1, 1) := by decide +kernel
theorem dX12_readTablet_5 : decode cX12_readTablet 5 = .ok (.iconst 0, 1) := by decide +kernel
theorem dX12_readTablet_6 : decode cX12_readTablet 6 = .ok (.iastore, 1) := by decide +kernel
theorem dX12_readTablet_7 : decode cX12_readTablet 7 = .ok (.aload_n 0, 1) := by decide +kernel
theorem dX12_readTablet_8 : decode cX12_readTablet 8 = .ok (.getfield 44, 3) := by decide +kernel
theorem dX12_readTablet_11 : decode cX12_readTablet 11 = .ok (.iload_n 1, 1) := by decide +kernel
theorem dX12_readTablet_12 : decode cX12_readTablet 12 = .ok (.iconst 0, 1) := by decide +kernel
theorem dX12_readTablet_13 : decode cX12_readTablet 13 = .ok (.iastore, 1) := by decide +kernel
theorem dX12_readTablet_14 : decode cX12_readTablet 14 = .ok (.aload_n 0, 1) := by decide +kernel
theorem dX12_readTablet_15 : decode cX12_readTablet 15 = .ok (.getstatic 159, 3) := by decide +kernel
theorem dX12_readTablet_18 : decode cX12_readTablet 18 = .ok (.invokevirtual 194, 3) := by decide +kernel
theorem dX12_readTablet_21 : decode cX12_readTablet 21 = .ok (.istore_n 2, 1) := by decide +kernel
theorem dX12_readTablet_22 : decode cX12_readTablet 22 = .ok (.aload_n 0, 1) := by decide +kernel
theorem dX12_readTablet_23 : decode cX12_readTablet 23 = .ok (.getstatic 162, 3) := by decide +kernel
theorem dX12_readTablet_26 : decode cX12_readTablet 26 = .ok (.invokevirtual 194, 3) := by decide +kernel
theorem dX12_readTablet_29 : decode cX12_readTablet 29 = .ok (.istore_n 3, 1) := by decide +kernel
theorem dX12_readTablet_30 : decode cX12_readTablet 30 = .ok (.iload_n 2, 1) := by decide +kernel
theorem dX12_readTablet_31 : decode cX12_readTablet 31 = .ok (.ifCond .ne 21, 3) := by decide +kernel
theorem dX12_readTablet_34 : decode cX12_readTablet 34 = .ok (.iload_n 3, 1) := by decide +kernel
theorem dX12_readTablet_35 : decode cX12_readTablet 35 = .ok (.ifCond .ne 17, 3) := by decide +kernel
theorem dX12_readTablet_38 : decode cX12_readTablet 38 = .ok (.aload_n 0, 1) := by decide +kernel
theorem dX12_readTablet_39 : decode cX12_readTablet 39 = .ok (.getfield 117, 3) := by decide +kernel
theorem dX12_readTablet_42 : decode cX12_readTablet 42 = .ok (.iconst 3, 1) := by decide +kernel
theorem dX12_readTablet_43 : decode cX12_readTablet 43 = .ok (.if_icmp .eq 9, 3) := by decide +kernel
theorem dX12_readTablet_46 : decode cX12_readTablet 46 = .ok (.aload_n 0, 1) := by decide +kernel
theorem dX12_readTablet_47 : decode cX12_readTablet 47 = .ok (.iconst 1, 1) := by decide +kernel
theorem dX12_readTablet_48 : decode cX12_readTablet 48 = .ok (.invokevirtual 176, 3) := by decide +kernel
theorem dX12_readTablet_51 : decode cX12_readTablet 51 = .ok (.ireturn, 1) := by decide +kernel
theorem dX12_readTablet_52 : decode cX12_readTablet 52 = .ok (.aload_n 0, 1) := by decide +kernel
theorem dX12_readTablet_53 : decode cX12_readTablet 53 = .ok (.getfield 32, 3) := by decide +kernel
theorem dX12_readTablet_56 : decode cX12_readTablet 56 = .ok (.iload_n 1, 1) := by decide +kernel
theorem dX12_readTablet_57 : decode cX12_readTablet 57 = .ok (.iaload, 1) := by decide +kernel
theorem dX12_readTablet_58 : decode cX12_readTablet 58 = .ok (.bipush 12, 2) := by decide +kernel
theorem dX12_readTablet_60 : decode cX12_readTablet 60 = .ok (.if_icmp .ne 9, 3) := by decide +kernel
theorem dX12_readTablet_63 : decode cX12_readTablet 63 = .ok (.aload_n 0, 1) := by decide +kernel
theorem dX12_readTablet_64 : decode cX12_readTablet 64 = .ok (.iconst 4, 1) := by decide +kernel
theorem dX12_readTablet_65 : decode cX12_readTablet 65 = .ok (.invokevirtual 176, 3) := by decide +kernel
theorem dX12_readTablet_68 : decode cX12_readTablet 68 = .ok (.ireturn, 1) := by decide +kernel
theorem dX12_readTablet_69 : decode cX12_readTablet 69 = .ok (.bipush 12, 2) := by decide +kernel
theorem dX12_readTablet_71 : decode cX12_readTablet 71 = .ok (.iload_n 1, 1) := by decide +kernel
theorem dX12_readTablet_72 : decode cX12_readTablet 72 = .ok (.imul, 1) := by decide +kernel
theorem dX12_readTablet_73 : decode cX12_readTablet 73 = .ok (.aload_n 0, 1) := by decide +kernel
theorem dX12_readTablet_74 : decode cX12_readTablet 74 = .ok (.getfield 32, 3) := by decide +kernel
theorem dX12_readTablet_77 : decode cX12_readTablet 77 = .ok (.iload_n 1, 1) := by decide +kernel
theorem dX12_readTablet_78 : decode cX12_readTablet 78 = .ok (.iaload, 1) := by decide +kernel
theorem dX12_readTablet_79 : decode cX12_readTablet 79 = .ok (.iadd, 1) := by decide +kernel
theorem dX12_readTablet_80 : decode cX12_readTablet 80 = .ok (.istore 4, 2) := by decide +kernel
theorem dX12_readTablet_82 : decode cX12_readTablet 82 = .ok (.aload_n 0, 1) := by decide +kernel
theorem dX12_readTablet_83 : decode cX12_readTablet 83 = .ok (.getfield 35, 3) := by decide +kernel
theorem dX12_readTablet_86 : decode cX12_readTablet 86 = .ok (.iload 4, 2) := by decide +kernel
theorem dX12_readTablet_88 : decode cX12_readTablet 88 = .ok (.iload_n 2, 1) := by decide +kernel
theorem dX12_readTablet_89 : decode cX12_readTablet 89 = .ok (.ifCond .eq 7, 3) := by decide +kernel
theorem dX12_readTablet_92 : decode cX12_readTablet 92 = .ok (.iconst 1, 1) := by decide +kernel
theorem dX12_readTablet_93 : decode cX12_readTablet 93 = .ok (.goto 12, 3) := by decide +kernel
theorem dX12_readTablet_96 : decode cX12_readTablet 96 = .ok (.iload_n 3, 1) := by decide +kernel
theorem dX12_readTablet_97 : decode cX12_readTablet 97 = .ok (.ifCond .eq 7, 3) := by decide +kernel
theorem dX12_readTablet_100 : decode cX12_readTablet 100 = .ok (.iconst 2, 1) := by decide +kernel
theorem dX12_readTablet_101 : decode cX12_readTablet 101 = .ok (.goto 4, 3) := by decide +kernel
theorem dX12_readTablet_104 : decode cX12_readTablet 104 = .ok (.iconst 0, 1) := by decide +kernel
theorem dX12_readTablet_105 : decode cX12_readTablet 105 = .ok (.iastore, 1) := by decide +kernel
theorem dX12_readTablet_106 : decode cX12_readTablet 106 = .ok (.aload_n 0, 1) := by decide +kernel
theorem dX12_readTablet_107 : decode cX12_readTablet 107 = .ok (.getfield 41, 3) := by decide +kernel
theorem dX12_readTablet_110 : decode cX12_readTablet 110 = .ok (.iload 4, 2) := by decide +kernel
theorem dX12_readTablet_112 : decode cX12_readTablet 112 = .ok (.iconst 0, 1) := by decide +kernel
theorem dX12_readTablet_113 : decode cX12_readTablet 113 = .ok (.iastore, 1) := by decide +kernel
theorem dX12_readTablet_114 : decode cX12_readTablet 114 = .ok (.iload_n 2, 1) := by decide +kernel
theorem dX12_readTablet_115 : decode cX12_readTablet 115 = .ok (.ifCond .ne 7, 3) := by decide +kernel
theorem dX12_readTablet_118 : decode cX12_readTablet 118 = .ok (.iload_n 3, 1) := by decide +kernel
theorem dX12_readTablet_119 : decode cX12_readTablet 119 = .ok (.ifCond .eq 7, 3) := by decide +kernel
theorem dX12_readTablet_122 : decode cX12_readTablet 122 = .ok (.aload_n 0, 1) := by decide +kernel
theorem dX12_readTablet_123 : decode cX12_readTablet 123 = .ok (.invokevirtual 169, 3) := by decide +kernel
theorem dX12_readTablet_126 : decode cX12_readTablet 126 = .ok (.aload_n 0, 1) := by decide +kernel
theorem dX12_readTablet_127 : decode cX12_readTablet 127 = .ok (.getfield 117, 3) := by decide +kernel
theorem dX12_readTablet_130 : decode cX12_readTablet 130 = .ok (.iconst 3, 1) := by decide +kernel
theorem dX12_readTablet_131 : decode cX12_readTablet 131 = .ok (.if_icmp .eq 9, 3) := by decide +kernel
theorem dX12_readTablet_134 : decode cX12_readTablet 134 = .ok (.aload_n 0, 1) := by decide +kernel
theorem dX12_readTablet_135 : decode cX12_readTablet 135 = .ok (.iconst 1, 1) := by decide +kernel
theorem dX12_readTablet_136 : decode cX12_readTablet 136 = .ok (.invokevirtual 176, 3) := by decide +kernel
theorem dX12_readTablet_139 : decode cX12_readTablet 139 = .ok (.ireturn, 1) := by decide +kernel
theorem dX12_readTablet_140 : decode cX12_readTablet 140 = .ok (.aload_n 0, 1) := by decide +kernel
theorem dX12_readTablet_141 : decode cX12_readTablet 141 = .ok (.getfield 117, 3) := by decide +kernel
theorem dX12_readTablet_144 : decode cX12_readTablet 144 = .ok (.iconst 3, 1) := by decide +kernel
theorem dX12_readTablet_145 : decode cX12_readTablet 145 = .ok (.if_icmp .ne 15, 3) := by decide +kernel
theorem dX12_readTablet_148 : decode cX12_readTablet 148 = .ok (.aload_n 0, 1) := by decide +kernel
theorem dX12_readTablet_149 : decode cX12_readTablet 149 = .ok (.iload_n 1, 1) := by decide +kernel
theorem dX12_readTablet_150 : decode cX12_readTablet 150 = .ok (.iload 4, 2) := by decide +kernel
theorem dX12_readTablet_152 : decode cX12_readTablet 152 = .ok (.invokevirtual 251, 3) := by decide +kernel
theorem dX12_readTablet_155 : decode cX12_readTablet 155 = .ok (.ifCond .ne (-15), 3) := by decide +kernel
theorem dX12_readTablet_158 : decode cX12_readTablet 158 = .ok (.iconst 0, 1) := by decide +kernel
theorem dX12_readTablet_159 : decode cX12_readTablet 159 = .ok (.ireturn, 1) := by decide +kernel
theorem dX12_readTablet_160 : decode cX12_readTablet 160 = .ok (.aload_n 0, 1) := by decide +kernel
theorem dX12_readTablet_161 : decode cX12_readTablet 161 = .ok (.getfield 35, 3) := by decide +kernel
theorem dX12_readTablet_164 : decode cX12_readTablet 164 = .ok (.iload 4, 2) := by decide +kernel
theorem dX12_readTablet_166 : decode cX12_readTablet 166 = .ok (.iaload, 1) := by decide +kernel
theorem dX12_readTablet_167 : decode cX12_readTablet 167 = .ok (.ifCond .ne 21, 3) := by decide +kernel
theorem dX12_readTablet_170 : decode cX12_readTablet 170 = .ok (.aload_n 0, 1) := by decide +kernel
theorem dX12_readTablet_171 : decode cX12_readTablet 171 = .ok (.invokevirtual 172, 3) := by decide +kernel
theorem dX12_readTablet_174 : decode cX12_readTablet 174 = .ok (.ifCond .eq 14, 3) := by decide +kernel
theorem dX12_readTablet_177 : decode cX12_readTablet 177 = .ok (.aload_n 0, 1) := by decide +kernel
theorem dX12_readTablet_178 : decode cX12_readTablet 178 = .ok (.invokevirtual 241, 3) := by decide +kernel
theorem dX12_readTablet_181 : decode cX12_readTablet 181 = .ok (.ifCond .ne 7, 3) := by decide +kernel
theorem dX12_readTablet_184 : decode cX12_readTablet 184 = .ok (.aload_n 0, 1) := by decide +kernel
theorem dX12_readTablet_185 : decode cX12_readTablet 185 = .ok (.invokevirtual 169, 3) := by decide +kernel
theorem dX12_readTablet_188 : decode cX12_readTablet 188 = .ok (.aload_n 0, 1) := by decide +kernel
theorem dX12_readTablet_189 : decode cX12_readTablet 189 = .ok (.bipush 59, 2) := by decide +kernel
theorem dX12_readTablet_191 : decode cX12_readTablet 191 = .ok (.invokevirtual 182, 3) := by decide +kernel
theorem dX12_readTablet_194 : decode cX12_readTablet 194 = .ok (.ifCond .ne 9, 3) := by decide +kernel
theorem dX12_readTablet_197 : decode cX12_readTablet 197 = .ok (.aload_n 0, 1) := by decide +kernel
theorem dX12_readTablet_198 : decode cX12_readTablet 198 = .ok (.iconst 1, 1) := by decide +kernel
theorem dX12_readTablet_199 : decode cX12_readTablet 199 = .ok (.invokevirtual 176, 3) := by decide +kernel
theorem dX12_readTablet_202 : decode cX12_readTablet 202 = .ok (.ireturn, 1) := by decide +kernel
theorem dX12_readTablet_203 : decode cX12_readTablet 203 = .ok (.aload_n 0, 1) := by decide +kernel
theorem dX12_readTablet_204 : decode cX12_readTablet 204 = .ok (.invokevirtual 169, 3) := by decide +kernel
theorem dX12_readTablet_207 : decode cX12_readTablet 207 = .ok (.aload_n 0, 1) := by decide +kernel
theorem dX12_readTablet_208 : decode cX12_readTablet 208 = .ok (.getfield 32, 3) := by decide +kernel
theorem dX12_readTablet_211 : decode cX12_readTablet 211 = .ok (.iload_n 1, 1) := by decide +kernel
theorem dX12_readTablet_212 : decode cX12_readTablet 212 = .ok (.dup2, 1) := by decide +kernel
theorem dX12_readTablet_213 : decode cX12_readTablet 213 = .ok (.iaload, 1) := by decide +kernel
theorem dX12_readTablet_214 : decode cX12_readTablet 214 = .ok (.iconst 1, 1) := by decide +kernel
theorem dX12_readTablet_215 : decode cX12_readTablet 215 = .ok (.iadd, 1) := by decide +kernel
theorem dX12_readTablet_216 : decode cX12_readTablet 216 = .ok (.iastore, 1) := by decide +kernel
theorem dX12_readTablet_217 : decode cX12_readTablet 217 = .ok (.aload_n 0, 1) := by decide +kernel
theorem dX12_readTablet_218 : decode cX12_readTablet 218 = .ok (.getfield 117, 3) := by decide +kernel
theorem dX12_readTablet_221 : decode cX12_readTablet 221 = .ok (.ifCond .ne (-207), 3) := by decide +kernel
theorem dX12_readTablet_224 : decode cX12_readTablet 224 = .ok (.iconst 1, 1) := by decide +kernel
theorem dX12_readTablet_225 : decode cX12_readTablet 225 = .ok (.ireturn, 1) := by decide +kernel
theorem dX12_tablet_0 : decode cX12_tablet 0 = .ok (.aload_n 0, 1) := by decide +kernel
theorem dX12_tablet_1 : decode cX12_tablet 1 = .ok (.iconst 0, 1) := by decide +kernel
theorem dX12_tablet_2 : decode cX12_tablet 2 = .ok (.putfield 86, 3) := by decide +kernel
theorem dX12_tablet_5 : decode cX12_tablet 5 = .ok (.aload_n 0, 1) := by decide +kernel
theorem dX12_tablet_6 : decode cX12_tablet 6 = .ok (.getfield 204, 3) := by decide +kernel
theorem dX12_tablet_9 : decode cX12_tablet 9 = .ok (.bipush 8, 2) := by decide +kernel
theorem dX12_tablet_11 : decode cX12_tablet 11 = .ok (.if_icmp .eq 10, 3) := by decide +kernel
theorem dX12_tablet_14 : decode cX12_tablet 14 = .ok (.aload_n 0, 1) := by decide +kernel
theorem dX12_tablet_15 : decode cX12_tablet 15 = .ok (.getfield 201, 3) := by decide +kernel
theorem dX12_tablet_18 : decode cX12_tablet 18 = .ok (.ifCond .ne 12, 3) := by decide +kernel
theorem dX12_tablet_21 : decode cX12_tablet 21 = .ok (.aload_n 0, 1) := by decide +kernel
theorem dX12_tablet_22 : decode cX12_tablet 22 = .ok (.iconst 0, 1) := by decide +kernel
theorem dX12_tablet_23 : decode cX12_tablet 23 = .ok (.putfield 90, 3) := by decide +kernel
theorem dX12_tablet_26 : decode cX12_tablet 26 = .ok (.sipush (-400), 3) := by decide +kernel
theorem dX12_tablet_29 : decode cX12_tablet 29 = .ok (.ireturn, 1) := by decide +kernel
theorem dX12_tablet_30 : decode cX12_tablet 30 = .ok (.aload_n 0, 1) := by decide +kernel
theorem dX12_tablet_31 : decode cX12_tablet 31 = .ok (.iconst 0, 1) := by decide +kernel
theorem dX12_tablet_32 : decode cX12_tablet 32 = .ok (.putfield 150, 3) := by decide +kernel
theorem dX12_tablet_35 : decode cX12_tablet 35 = .ok (.aload_n 0, 1) := by decide +kernel
theorem dX12_tablet_36 : decode cX12_tablet 36 = .ok (.sipush 300, 3) := by decide +kernel
theorem dX12_tablet_39 : decode cX12_tablet 39 = .ok (.iconst 1, 1) := by decide +kernel
theorem dX12_tablet_40 : decode cX12_tablet 40 = .ok (.invokevirtual 191, 3) := by decide +kernel
theorem dX12_tablet_43 : decode cX12_tablet 43 = .ok (.aload_n 0, 1) := by decide +kernel
theorem dX12_tablet_44 : decode cX12_tablet 44 = .ok (.aload_n 0, 1) := by decide +kernel
theorem dX12_tablet_45 : decode cX12_tablet 45 = .ok (.getfield 204, 3) := by decide +kernel
theorem dX12_tablet_48 : decode cX12_tablet 48 = .ok (.invokevirtual 254, 3) := by decide +kernel
theorem dX12_tablet_51 : decode cX12_tablet 51 = .ok (.ifCond .ne 10, 3) := by decide +kernel
theorem dX12_tablet_54 : decode cX12_tablet 54 = .ok (.iconst (-1), 1) := by decide +kernel
theorem dX12_tablet_55 : decode cX12_tablet 55 = .ok (.aload_n 0, 1) := by decide +kernel
theorem dX12_tablet_56 : decode cX12_tablet 56 = .ok (.getfield 153, 3) := by decide +kernel
theorem dX12_tablet_59 : decode cX12_tablet 59 = .ok (.isub, 1) := by decide +kernel
theorem dX12_tablet_60 : decode cX12_tablet 60 = .ok (.ireturn, 1) := by decide +kernel
theorem dX12_tablet_61 : decode cX12_tablet 61 = .ok (.aload_n 0, 1) := by decide +kernel
theorem dX12_tablet_62 : decode cX12_tablet 62 = .ok (.dup, 1) := by decide +kernel
theorem dX12_tablet_63 : decode cX12_tablet 63 = .ok (.getfield 204, 3) := by decide +kernel
theorem dX12_tablet_66 : decode cX12_tablet 66 = .ok (.iconst 1, 1) := by decide +kernel
theorem dX12_tablet_67 : decode cX12_tablet 67 = .ok (.iadd, 1) := by decide +kernel
theorem dX12_tablet_68 : decode cX12_tablet 68 = .ok (.putfield 204, 3) := by decide +kernel
theorem dX12_tablet_71 : decode cX12_tablet 71 = .ok (.aload_n 0, 1) := by decide +kernel
theorem dX12_tablet_72 : decode cX12_tablet 72 = .ok (.getfield 204, 3) := by decide +kernel
theorem dX12_tablet_75 : decode cX12_tablet 75 = .ok (.iconst 1, 1) := by decide +kernel
theorem dX12_tablet_76 : decode cX12_tablet 76 = .ok (.isub, 1) := by decide +kernel
theorem dX12_tablet_77 : decode cX12_tablet 77 = .ok (.ireturn, 1) := by decide +kernel
theorem dX12_isTablet_0 : decode cX12_isTablet 0 = .ok (.iload_n 1, 1) := by decide +kernel
theorem dX12_isTablet_1 : decode cX12_isTablet 1 = .ok (.ifCond .lt 15, 3) := by decide +kernel
theorem dX12_isTablet_4 : decode cX12_isTablet 4 = .ok (.iload_n 1, 1) := by decide +kernel
theorem dX12_isTablet_5 : decode cX12_isTablet 5 = .ok (.aload_n 0, 1) := by decide +kernel
theorem dX12_isTablet_6 : decode cX12_isTablet 6 = .ok (.getfield 204, 3) := by decide +kernel
theorem dX12_isTablet_9 : decode cX12_isTablet 9 = .ok (.if_icmp .ge 7, 3) := by decide +kernel
theorem dX12_isTablet_12 : decode cX12_isTablet 12 = .ok (.iconst 1, 1) := by decide +kernel
theorem dX12_isTablet_13 : decode cX12_isTablet 13 = .ok (.goto 4, 3) := by decide +kernel
theorem dX12_isTablet_16 : decode cX12_isTablet 16 = .ok (.iconst 0, 1) := by decide +kernel
theorem dX12_isTablet_17 : decode cX12_isTablet 17 = .ok (.ireturn, 1) := by decide +kernel
theorem dX12_isLine_0 : decode cX12_isLine 0 = .ok (.aload_n 0, 1) := by decide +kernel
theorem dX12_isLine_1 : decode cX12_isLine 1 = .ok (.iload_n 1, 1) := by decide +kernel
theorem dX12_isLine_2 : decode cX12_isLine 2 = .ok (.invokevirtual 257, 3) := by decide +kernel
theorem dX12_isLine_5 : decode cX12_isLine 5 = .ok (.ifCond .eq 21, 3) := by decide +kernel
theorem dX12_isLine_8 : decode cX12_isLine 8 = .ok (.iload_n 2, 1) := by decide +kernel
theorem dX12_isLine_9 : decode cX12_isLine 9 = .ok (.ifCond .lt 17, 3) := by decide +kernel
theorem dX12_isLine_12 : decode cX12_isLine 12 = .ok (.iload_n 2, 1) := by decide +kernel
theorem dX12_isLine_13 : decode cX12_isLine 13 = .ok (.aload_n 0, 1) := by decide +kernel
theorem dX12_isLine_14 : decode cX12_isLine 14 = .ok (.getfield 32, 3) := by decide +kernel
theorem dX12_isLine_17 : decode cX12_isLine 17 = .ok (.iload_n 1, 1) := by decide +kernel
theorem dX12_isLine_18 : decode cX12_isLine 18 = .ok (.iaload, 1) := by decide +kernel
theorem dX12_isLine_19 : decode cX12_isLine 19 = .ok (.if_icmp .ge 7, 3) := by decide +kernel
theorem dX12_isLine_22 : decode cX12_isLine 22 = .ok (.iconst 1, 1) := by decide +kernel
theorem dX12_isLine_23 : decode cX12_isLine 23 = .ok (.goto 4, 3) := by decide +kernel
theorem dX12_isLine_26 : decode cX12_isLine 26 = .ok (.iconst 0, 1) := by decide +kernel
theorem dX12_isLine_27 : decode cX12_isLine 27 = .ok (.ireturn, 1) := by decide +kernel
theorem dX12_fills_0 : decode cX12_fills 0 = .ok (.iload_n 2, 1) := by decide +kernel
theorem dX12_fills_1 : decode cX12_fills 1 = .ok (.istore_n 3, 1) := by decide +kernel
theorem dX12_fills_2 : decode cX12_fills 2 = .ok (.aload_n 0, 1) := by decide +kernel
theorem dX12_fills_3 : decode cX12_fills 3 = .ok (.getfield 44, 3) := by decide +kernel
theorem dX12_fills_6 : decode cX12_fills 6 = .ok (.iload_n 1, 1) := by decide +kernel
theorem dX12_fills_7 : decode cX12_fills 7 = .ok (.iaload, 1) := by decide +kernel
theorem dX12_fills_8 : decode cX12_fills 8 = .ok (.iconst 1, 1) := by decide +kernel
theorem dX12_fills_9 : decode cX12_fills 9 = .ok (.isub, 1) := by decide +kernel
theorem dX12_fills_10 : decode cX12_fills 10 = .ok (.istore 4, 2) := by decide +kernel
theorem dX12_fills_12 : decode cX12_fills 12 = .ok (.iload 4, 2) := by decide +kernel
theorem dX12_fills_14 : decode cX12_fills 14 = .ok (.ifCond .lt 25, 3) := by decide +kernel
theorem dX12_fills_17 : decode cX12_fills 17 = .ok (.aload_n 0, 1) := by decide +kernel
theorem dX12_fills_18 : decode cX12_fills 18 = .ok (.getfield 56, 3) := by decide +kernel
theorem dX12_fills_21 : decode cX12_fills 21 = .ok (.iload 4, 2) := by decide +kernel
theorem dX12_fills_23 : decode cX12_fills 23 = .ok (.iload_n 3, 1) := by decide +kernel
theorem dX12_fills_24 : decode cX12_fills 24 = .ok (.bipush 10, 2) := by decide +kernel
theorem dX12_fills_26 : decode cX12_fills 26 = .ok (.irem, 1) := by decide +kernel
theorem dX12_fills_27 : decode cX12_fills 27 = .ok (.iastore, 1) := by decide +kernel
theorem dX12_fills_28 : decode cX12_fills 28 = .ok (.iload_n 3, 1) := by decide +kernel
theorem dX12_fills_29 : decode cX12_fills 29 = .ok (.bipush 10, 2) := by decide +kernel
theorem dX12_fills_31 : decode cX12_fills 31 = .ok (.idiv, 1) := by decide +kernel
theorem dX12_fills_32 : decode cX12_fills 32 = .ok (.istore_n 3, 1) := by decide +kernel
theorem dX12_fills_33 : decode cX12_fills 33 = .ok (.iinc 4 (-1), 3) := by decide +kernel
theorem dX12_fills_36 : decode cX12_fills 36 = .ok (.goto (-24), 3) := by decide +kernel
theorem dX12_fills_39 : decode cX12_fills 39 = .ok (.iconst 0, 1) := by decide +kernel
theorem dX12_fills_40 : decode cX12_fills 40 = .ok (.istore 4, 2) := by decide +kernel
theorem dX12_fills_42 : decode cX12_fills 42 = .ok (.iconst 0, 1) := by decide +kernel
theorem dX12_fills_43 : decode cX12_fills 43 = .ok (.istore 5, 2) := by decide +kernel
theorem dX12_fills_45 : decode cX12_fills 45 = .ok (.iload 5, 2) := by decide +kernel
theorem dX12_fills_47 : decode cX12_fills 47 = .ok (.aload_n 0, 1) := by decide +kernel
theorem dX12_fills_48 : decode cX12_fills 48 = .ok (.getfield 32, 3) := by decide +kernel
theorem dX12_fills_51 : decode cX12_fills 51 = .ok (.iload_n 1, 1) := by decide +kernel
theorem dX12_fills_52 : decode cX12_fills 52 = .ok (.iaload, 1) := by decide +kernel
theorem dX12_fills_53 : decode cX12_fills 53 = .ok (.if_icmp .ge 192, 3) := by decide +kernel
theorem dX12_fills_56 : decode cX12_fills 56 = .ok (.bipush 12, 2) := by decide +kernel
theorem dX12_fills_58 : decode cX12_fills 58 = .ok (.iload_n 1, 1) := by decide +kernel
theorem dX12_fills_59 : decode cX12_fills 59 = .ok (.imul, 1) := by decide +kernel
theorem dX12_fills_60 : decode cX12_fills 60 = .ok (.iload 5, 2) := by decide +kernel
theorem dX12_fills_62 : decode cX12_fills 62 = .ok (.iadd, 1) := by decide +kernel
theorem dX12_fills_63 : decode cX12_fills 63 = .ok (.istore 6, 2) := by decide +kernel
theorem dX12_fills_65 : decode cX12_fills 65 = .ok (.aload_n 0, 1) := by decide +kernel
theorem dX12_fills_66 : decode cX12_fills 66 = .ok (.getfield 38, 3) := by decide +kernel
theorem dX12_fills_69 : decode cX12_fills 69 = .ok (.iload 6, 2) := by decide +kernel
theorem dX12_fills_71 : decode cX12_fills 71 = .ok (.iaload, 1) := by decide +kernel
theorem dX12_fills_72 : decode cX12_fills 72 = .ok (.istore 7, 2) := by decide +kernel
theorem dX12_fills_74 : decode cX12_fills 74 = .ok (.aload_n 0, 1) := by decide +kernel
theorem dX12_fills_75 : decode cX12_fills 75 = .ok (.getfield 59, 3) := by decide +kernel
theorem dX12_fills_78 : decode cX12_fills 78 = .ok (.iload 5, 2) := by decide +kernel
theorem dX12_fills_80 : decode cX12_fills 80 = .ok (.lconst 0, 1) := by decide +kernel
theorem dX12_fills_81 : decode cX12_fills 81 = .ok (.lastore, 1) := by decide +kernel
theorem dX12_fills_82 : decode cX12_fills 82 = .ok (.iconst 0, 1) := by decide +kernel
theorem dX12_fills_83 : decode cX12_fills 83 = .ok (.istore 8, 2) := by decide +kernel
theorem dX12_fills_85 : decode cX12_fills 85 = .ok (.iload 8, 2) := by decide +kernel
theorem dX12_fills_87 : decode cX12_fills 87 = .ok (.aload_n 0, 1) := by decide +kernel
theorem dX12_fills_88 : decode cX12_fills 88 = .ok (.getfield 41, 3) := by decide +kernel
theorem dX12_fills_91 : decode cX12_fills 91 = .ok (.iload 6, 2) := by decide +kernel
theorem dX12_fills_93 : decode cX12_fills 93 = .ok (.iaload, 1) := by decide +kernel
theorem dX12_fills_94 : decode cX12_fills 94 = .ok (.if_icmp .ge 145, 3) := by decide +kernel
theorem dX12_fills_97 : decode cX12_fills 97 = .ok (.iconst 5, 1) := by decide +kernel
theorem dX12_fills_98 : decode cX12_fills 98 = .ok (.iload 6, 2) := by decide +kernel
theorem dX12_fills_100 : decode cX12_fills 100 = .ok (.imul, 1) := by decide +kernel
theorem dX12_fills_101 : decode cX12_fills 101 = .ok (.iload 8, 2) := by decide +kernel
theorem dX12_fills_103 : decode cX12_fills 103 = .ok (.iadd, 1) := by decide +kernel
theorem dX12_fills_104 : decode cX12_fills 104 = .ok (.istore 9, 2) := by decide +kernel
theorem dX12_fills_106 : decode cX12_fills 106 = .ok (.aload_n 0, 1) := by decide +kernel
theorem dX12_fills_107 : decode cX12_fills 107 = .ok (.getfield 47, 3) := by decide +kernel
theorem dX12_fills_110 : decode cX12_fills 110 = .ok (.iload 9, 2) := by decide +kernel
theorem dX12_fills_112 : decode cX12_fills 112 = .ok (.iaload, 1) := by decide +kernel
theorem dX12_fills_113 : decode cX12_fills 113 = .ok (.istore 10, 2) := by decide +kernel
theorem dX12_fills_115 : decode cX12_fills 115 = .ok (.aload_n 0, 1) := by decide +kernel
theorem dX12_fills_116 : decode cX12_fills 116 = .ok (.getfield 50, 3) := by decide +kernel
theorem dX12_fills_119 : decode cX12_fills 119 = .ok (.iload 9, 2) := by decide +kernel
theorem dX12_fills_121 : decode cX12_fills 121 = .ok (.iaload, 1) := by decide +kernel
theorem dX12_fills_122 : decode cX12_fills 122 = .ok (.istore 11, 2) := by decide +kernel
theorem dX12_fills_124 : decode cX12_fills 124 = .ok (.iload 10, 2) := by decide +kernel
theorem dX12_fills_126 : decode cX12_fills 126 = .ok (.bipush 10, 2) := by decide +kernel
theorem dX12_fills_128 : decode cX12_fills 128 = .ok (.if_icmp .ne 15, 3) := by decide +kernel
theorem dX12_fills_131 : decode cX12_fills 131 = .ok (.aload_n 0, 1) := by decide +kernel
theorem dX12_fills_132 : decode cX12_fills 132 = .ok (.getfield 56, 3) := by decide +kernel
theorem dX12_fills_135 : decode cX12_fills 135 = .ok (.iload 4, 2) := by decide +kernel
theorem dX12_fills_137 : decode cX12_fills 137 = .ok (.iaload, 1) := by decide +kernel
theorem dX12_fills_138 : decode cX12_fills 138 = .ok (.istore 10, 2) := by decide +kernel
theorem dX12_fills_140 : decode cX12_fills 140 = .ok (.iinc 4 1, 3) := by decide +kernel
theorem dX12_fills_143 : decode cX12_fills 143 = .ok (.iload 11, 2) := by decide +kernel
theorem dX12_fills_145 : decode cX12_fills 145 = .ok (.bipush 10, 2) := by decide +kernel
theorem dX12_fills_147 : decode cX12_fills 147 = .ok (.if_icmp .ne 15, 3) := by decide +kernel
theorem dX12_fills_150 : decode cX12_fills 150 = .ok (.aload_n 0, 1) := by decide +kernel
theorem dX12_fills_151 : decode cX12_fills 151 = .ok (.getfield 56, 3) := by decide +kernel
theorem dX12_fills_154 : decode cX12_fills 154 = .ok (.iload 4, 2) := by decide +kernel
theorem dX12_fills_156 : decode cX12_fills 156 = .ok (.iaload, 1) := by decide +kernel
theorem dX12_fills_157 : decode cX12_fills 157 = .ok (.istore 11, 2) := by decide +kernel
theorem dX12_fills_159 : decode cX12_fills 159 = .ok (.iinc 4 1, 3) := by decide +kernel
theorem dX12_fills_162 : decode cX12_fills 162 = .ok (.aload_n 0, 1) := by decide +kernel
theorem dX12_fills_163 : decode cX12_fills 163 = .ok (.iload 10, 2) := by decide +kernel
theorem dX12_fills_165 : decode cX12_fills 165 = .ok (.iload 11, 2) := by decide +kernel
theorem dX12_fills_167 : decode cX12_fills 167 = .ok (.aload_n 0, 1) := by decide +kernel
theorem dX12_fills_168 : decode cX12_fills 168 = .ok (.iload 7, 2) := by decide +kernel
theorem dX12_fills_170 : decode cX12_fills 170 = .ok (.aload_n 0, 1) := by decide +kernel
theorem dX12_fills_171 : decode cX12_fills 171 = .ok (.getfield 53, 3) := by decide +kernel
theorem dX12_fills_174 : decode cX12_fills 174 = .ok (.iload 9, 2) := by decide +kernel
theorem dX12_fills_176 : decode cX12_fills 176 = .ok (.iaload, 1) := by decide +kernel
theorem dX12_fills_177 : decode cX12_fills 177 = .ok (.invokevirtual 244, 3) := by decide +kernel
theorem dX12_fills_180 : decode cX12_fills 180 = .ok (.invokevirtual 234, 3) := by decide +kernel
theorem dX12_fills_183 : decode cX12_fills 183 = .ok (.ifCond .ne 5, 3) := by decide +kernel
theorem dX12_fills_186 : decode cX12_fills 186 = .ok (.iconst 0, 1) := by decide +kernel
theorem dX12_fills_187 : decode cX12_fills 187 = .ok (.ireturn, 1) := by decide +kernel
theorem dX12_fills_188 : decode cX12_fills 188 = .ok (.aload_n 0, 1) := by decide +kernel
theorem dX12_fills_189 : decode cX12_fills 189 = .ok (.getfield 59, 3) := by decide +kernel
theorem dX12_fills_192 : decode cX12_fills 192 = .ok (.iload 5, 2) := by decide +kernel
theorem dX12_fills_194 : decode cX12_fills 194 = .ok (.dup2, 1) := by decide +kernel
theorem dX12_fills_195 : decode cX12_fills 195 = .ok (.laload, 1) := by decide +kernel
theorem dX12_fills_196 : decode cX12_fills 196 = .ok (.iload 11, 2) := by decide +kernel
theorem dX12_fills_198 : decode cX12_fills 198 = .ok (.iconst (-1), 1) := by decide +kernel
theorem dX12_fills_199 : decode cX12_fills 199 = .ok (.if_icmp .ne 8, 3) := by decide +kernel
theorem dX12_fills_202 : decode cX12_fills 202 = .ok (.iload 10, 2) := by decide +kernel
theorem dX12_fills_204 : decode cX12_fills 204 = .ok (.goto 11, 3) := by decide +kernel
theorem dX12_fills_207 : decode cX12_fills 207 = .ok (.bipush 10, 2) := by decide +kernel
theorem dX12_fills_209 : decode cX12_fills 209 = .ok (.iload 10, 2) := by decide +kernel
theorem dX12_fills_211 : decode cX12_fills 211 = .ok (.imul, 1) := by decide +kernel
theorem dX12_fills_212 : decode cX12_fills 212 = .ok (.iload 11, 2) := by decide +kernel
theorem dX12_fills_214 : decode cX12_fills 214 = .ok (.iadd, 1) := by decide +kernel
theorem dX12_fills_215 : decode cX12_fills 215 = .ok (.i2l, 1) := by decide +kernel
theorem dX12_fills_216 : decode cX12_fills 216 = .ok (.aload_n 0, 1) := by decide +kernel
theorem dX12_fills_217 : decode cX12_fills 217 = .ok (.iload 7, 2) := by decide +kernel
theorem dX12_fills_219 : decode cX12_fills 219 = .ok (.aload_n 0, 1) := by decide +kernel
theorem dX12_fills_220 : decode cX12_fills 220 = .ok (.getfield 53, 3) := by decide +kernel
theorem dX12_fills_223 : decode cX12_fills 223 = .ok (.iload 9, 2) := by decide +kernel
theorem dX12_fills_225 : decode cX12_fills 225 = .ok (.iaload, 1) := by decide +kernel
theorem dX12_fills_226 : decode cX12_fills 226 = .ok (.invokevirtual 220, 3) := by decide +kernel
theorem dX12_fills_229 : decode cX12_fills 229 = .ok (.i2l, 1) := by decide +kernel
theorem dX12_fills_230 : decode cX12_fills 230 = .ok (.lmul, 1) := by decide +kernel
theorem dX12_fills_231 : decode cX12_fills 231 = .ok (.ladd, 1) := by decide +kernel
theorem dX12_fills_232 : decode cX12_fills 232 = .ok (.lastore, 1) := by decide +kernel
theorem dX12_fills_233 : decode cX12_fills 233 = .ok (.iinc 8 1, 3) := by decide +kernel
theorem dX12_fills_236 : decode cX12_fills 236 = .ok (.goto (-151), 3) := by decide +kernel
theorem dX12_fills_239 : decode cX12_fills 239 = .ok (.iinc 5 1, 3) := by decide +kernel
theorem dX12_fills_242 : decode cX12_fills 242 = .ok (.goto (-197), 3) := by decide +kernel
theorem dX12_fills_245 : decode cX12_fills 245 = .ok (.iconst 1, 1) := by decide +kernel
theorem dX12_fills_246 : decode cX12_fills 246 = .ok (.ireturn, 1) := by decide +kernel
theorem dX12_wrongs_0 : decode cX12_wrongs 0 = .ok (.iconst 0, 1) := by decide +kernel
theorem dX12_wrongs_1 : decode cX12_wrongs 1 = .ok (.istore_n 2, 1) := by decide +kernel
theorem dX12_wrongs_2 : decode cX12_wrongs 2 = .ok (.iconst 0, 1) := by decide +kernel
theorem dX12_wrongs_3 : decode cX12_wrongs 3 = .ok (.istore_n 3, 1) := by decide +kernel
theorem dX12_wrongs_4 : decode cX12_wrongs 4 = .ok (.iload_n 3, 1) := by decide +kernel
theorem dX12_wrongs_5 : decode cX12_wrongs 5 = .ok (.aload_n 0, 1) := by decide +kernel
theorem dX12_wrongs_6 : decode cX12_wrongs 6 = .ok (.getfield 32, 3) := by decide +kernel
theorem dX12_wrongs_9 : decode cX12_wrongs 9 = .ok (.iload_n 1, 1) := by decide +kernel
theorem dX12_wrongs_10 : decode cX12_wrongs 10 = .ok (.iaload, 1) := by decide +kernel
theorem dX12_wrongs_11 : decode cX12_wrongs 11 = .ok (.if_icmp .ge 177, 3) := by decide +kernel
theorem dX12_wrongs_14 : decode cX12_wrongs 14 = .ok (.bipush 12, 2) := by decide +kernel
theorem dX12_wrongs_16 : decode cX12_wrongs 16 = .ok (.iload_n 1, 1) := by decide +kernel
theorem dX12_wrongs_17 : decode cX12_wrongs 17 = .ok (.imul, 1) := by decide +kernel
theorem dX12_wrongs_18 : decode cX12_wrongs 18 = .ok (.iload_n 3, 1) := by decide +kernel
theorem dX12_wrongs_19 : decode cX12_wrongs 19 = .ok (.iadd, 1) := by decide +kernel
theorem dX12_wrongs_20 : decode cX12_wrongs 20 = .ok (.istore 4, 2) := by decide +kernel
theorem dX12_wrongs_22 : decode cX12_wrongs 22 = .ok (.aload_n 0, 1) := by decide +kernel
theorem dX12_wrongs_23 : decode cX12_wrongs 23 = .ok (.getfield 35, 3) := by decide +kernel
theorem dX12_wrongs_26 : decode cX12_wrongs 26 = .ok (.iload 4, 2) := by decide +kernel
theorem dX12_wrongs_28 : decode cX12_wrongs 28 = .ok (.iaload, 1) := by decide +kernel
theorem dX12_wrongs_29 : decode cX12_wrongs 29 = .ok (.ifCond .ne 6, 3) := by decide +kernel
theorem dX12_wrongs_32 : decode cX12_wrongs 32 = .ok (.goto 150, 3) := by decide +kernel
theorem dX12_wrongs_35 : decode cX12_wrongs 35 = .ok (.lconst 0, 1) := by decide +kernel
theorem dX12_wrongs_36 : decode cX12_wrongs 36 = .ok (.lstore 5, 2) := by decide +kernel
theorem dX12_wrongs_38 : decode cX12_wrongs 38 = .ok (.iconst 1, 1) := by decide +kernel
theorem dX12_wrongs_39 : decode cX12_wrongs 39 = .ok (.istore 7, 2) := by decide +kernel
theorem dX12_wrongs_41 : decode cX12_wrongs 41 = .ok (.iload_n 3, 1) := by decide +kernel
theorem dX12_wrongs_42 : decode cX12_wrongs 42 = .ok (.iconst 1, 1) := by decide +kernel
theorem dX12_wrongs_43 : decode cX12_wrongs 43 = .ok (.isub, 1) := by decide +kernel
theorem dX12_wrongs_44 : decode cX12_wrongs 44 = .ok (.istore 8, 2) := by decide +kernel
theorem dX12_wrongs_46 : decode cX12_wrongs 46 = .ok (.iload 8, 2) := by decide +kernel
theorem dX12_wrongs_48 : decode cX12_wrongs 48 = .ok (.ifCond .lt 119, 3) := by decide +kernel
theorem dX12_wrongs_51 : decode cX12_wrongs 51 = .ok (.iload 7, 2) := by decide +kernel
theorem dX12_wrongs_53 : decode cX12_wrongs 53 = .ok (.ifCond .eq 114, 3) := by decide +kernel
theorem dX12_wrongs_56 : decode cX12_wrongs 56 = .ok (.bipush 12, 2) := by decide +kernel
theorem dX12_wrongs_58 : decode cX12_wrongs 58 = .ok (.iload_n 1, 1) := by decide +kernel
theorem dX12_wrongs_59 : decode cX12_wrongs 59 = .ok (.imul, 1) := by decide +kernel
theorem dX12_wrongs_60 : decode cX12_wrongs 60 = .ok (.iload 8, 2) := by decide +kernel
theorem dX12_wrongs_62 : decode cX12_wrongs 62 = .ok (.iadd, 1) := by decide +kernel
theorem dX12_wrongs_63 : decode cX12_wrongs 63 = .ok (.istore 9, 2) := by decide +kernel
theorem dX12_wrongs_65 : decode cX12_wrongs 65 = .ok (.aload_n 0, 1) := by decide +kernel
theorem dX12_wrongs_66 : decode cX12_wrongs 66 = .ok (.getfield 38, 3) := by decide +kernel
theorem dX12_wrongs_69 : decode cX12_wrongs 69 = .ok (.iload 9, 2) := by decide +kernel
theorem dX12_wrongs_71 : decode cX12_wrongs 71 = .ok (.iaload, 1) := by decide +kernel
theorem dX12_wrongs_72 : decode cX12_wrongs 72 = .ok (.aload_n 0, 1) := by decide +kernel
theorem dX12_wrongs_73 : decode cX12_wrongs 73 = .ok (.getfield 38, 3) := by decide +kernel
theorem dX12_wrongs_76 : decode cX12_wrongs 76 = .ok (.iload 4, 2) := by decide +kernel
theorem dX12_wrongs_78 : decode cX12_wrongs 78 = .ok (.iaload, 1) := by decide +kernel
theorem dX12_wrongs_79 : decode cX12_wrongs 79 = .ok (.if_icmp .eq 6, 3) := by decide +kernel
theorem dX12_wrongs_82 : decode cX12_wrongs 82 = .ok (.goto 79, 3) := by decide +kernel
theorem dX12_wrongs_85 : decode cX12_wrongs 85 = .ok (.aload_n 0, 1) := by decide +kernel
theorem dX12_wrongs_86 : decode cX12_wrongs 86 = .ok (.getfield 35, 3) := by decide +kernel
theorem dX12_wrongs_89 : decode cX12_wrongs 89 = .ok (.iload 4, 2) := by decide +kernel
theorem dX12_wrongs_91 : decode cX12_wrongs 91 = .ok (.iaload, 1) := by decide +kernel
theorem dX12_wrongs_92 : decode cX12_wrongs 92 = .ok (.iconst 1, 1) := by decide +kernel
theorem dX12_wrongs_93 : decode cX12_wrongs 93 = .ok (.if_icmp .ne 45, 3) := by decide +kernel
theorem dX12_wrongs_96 : decode cX12_wrongs 96 = .ok (.aload_n 0, 1) := by decide +kernel
theorem dX12_wrongs_97 : decode cX12_wrongs 97 = .ok (.getfield 35, 3) := by decide +kernel
theorem dX12_wrongs_100 : decode cX12_wrongs 100 = .ok (.iload 9, 2) := by decide +kernel
theorem dX12_wrongs_102 : decode cX12_wrongs 102 = .ok (.iaload, 1) := by decide +kernel
theorem dX12_wrongs_103 : decode cX12_wrongs 103 = .ok (.iconst 1, 1) := by decide +kernel
theorem dX12_wrongs_104 : decode cX12_wrongs 104 = .ok (.if_icmp .ne 9, 3) := by decide +kernel
theorem dX12_wrongs_107 : decode cX12_wrongs 107 = .ok (.iconst 0, 1) := by decide +kernel
theorem dX12_wrongs_108 : decode cX12_wrongs 108 = .ok (.istore 7, 2) := by decide +kernel
theorem dX12_wrongs_110 : decode cX12_wrongs 110 = .ok (.goto 51, 3) := by decide +kernel
theorem dX12_wrongs_113 : decode cX12_wrongs 113 = .ok (.aload_n 0, 1) := by decide +kernel
theorem dX12_wrongs_114 : decode cX12_wrongs 114 = .ok (.getfield 35, 3) := by decide +kernel
theorem dX12_wrongs_117 : decode cX12_wrongs 117 = .ok (.iload 9, 2) := by decide +kernel
theorem dX12_wrongs_119 : decode cX12_wrongs 119 = .ok (.iaload, 1) := by decide +kernel
theorem dX12_wrongs_120 : decode cX12_wrongs 120 = .ok (.ifCond .ne 41, 3) := by decide +kernel
theorem dX12_wrongs_123 : decode cX12_wrongs 123 = .ok (.lload 5, 2) := by decide +kernel
theorem dX12_wrongs_125 : decode cX12_wrongs 125 = .ok (.aload_n 0, 1) := by decide +kernel
theorem dX12_wrongs_126 : decode cX12_wrongs 126 = .ok (.getfield 59, 3) := by decide +kernel
theorem dX12_wrongs_129 : decode cX12_wrongs 129 = .ok (.iload 8, 2) := by decide +kernel
theorem dX12_wrongs_131 : decode cX12_wrongs 131 = .ok (.laload, 1) := by decide +kernel
theorem dX12_wrongs_132 : decode cX12_wrongs 132 = .ok (.ladd, 1) := by decide +kernel
theorem dX12_wrongs_133 : decode cX12_wrongs 133 = .ok (.lstore 5, 2) := by decide +kernel
theorem dX12_wrongs_135 : decode cX12_wrongs 135 = .ok (.goto 26, 3) := by decide +kernel
theorem dX12_wrongs_138 : decode cX12_wrongs 138 = .ok (.aload_n 0, 1) := by decide +kernel
theorem dX12_wrongs_139 : decode cX12_wrongs 139 = .ok (.getfield 35, 3) := by decide +kernel
theorem dX12_wrongs_142 : decode cX12_wrongs 142 = .ok (.iload 9, 2) := by decide +kernel
theorem dX12_wrongs_144 : decode cX12_wrongs 144 = .ok (.iaload, 1) := by decide +kernel
theorem dX12_wrongs_145 : decode cX12_wrongs 145 = .ok (.iconst 1, 1) := by decide +kernel
theorem dX12_wrongs_146 : decode cX12_wrongs 146 = .ok (.if_icmp .ne 15, 3) := by decide +kernel
theorem dX12_wrongs_149 : decode cX12_wrongs 149 = .ok (.lload 5, 2) := by decide +kernel
theorem dX12_wrongs_151 : decode cX12_wrongs 151 = .ok (.aload_n 0, 1) := by decide +kernel
theorem dX12_wrongs_152 : decode cX12_wrongs 152 = .ok (.getfield 59, 3) := by decide +kernel
theorem dX12_wrongs_155 : decode cX12_wrongs 155 = .ok (.iload 8, 2) := by decide +kernel
theorem dX12_wrongs_157 : decode cX12_wrongs 157 = .ok (.laload, 1) := by decide +kernel
theorem dX12_wrongs_158 : decode cX12_wrongs 158 = .ok (.ladd, 1) := by decide +kernel
theorem dX12_wrongs_159 : decode cX12_wrongs 159 = .ok (.lstore 5, 2) := by decide +kernel
theorem dX12_wrongs_161 : decode cX12_wrongs 161 = .ok (.iinc 8 (-1), 3) := by decide +kernel
theorem dX12_wrongs_164 : decode cX12_wrongs 164 = .ok (.goto (-118), 3) := by decide +kernel
theorem dX12_wrongs_167 : decode cX12_wrongs 167 = .ok (.lload 5, 2) := by decide +kernel
theorem dX12_wrongs_169 : decode cX12_wrongs 169 = .ok (.aload_n 0, 1) := by decide +kernel
theorem dX12_wrongs_170 : decode cX12_wrongs 170 = .ok (.getfield 59, 3) := by decide +kernel
theorem dX12_wrongs_173 : decode cX12_wrongs 173 = .ok (.iload_n 3, 1) := by decide +kernel
theorem dX12_wrongs_174 : decode cX12_wrongs 174 = .ok (.laload, 1) := by decide +kernel
theorem dX12_wrongs_175 : decode cX12_wrongs 175 = .ok (.lcmp, 1) := by decide +kernel
theorem dX12_wrongs_176 : decode cX12_wrongs 176 = .ok (.ifCond .eq 6, 3) := by decide +kernel
theorem dX12_wrongs_179 : decode cX12_wrongs 179 = .ok (.iinc 2 1, 3) := by decide +kernel
theorem dX12_wrongs_182 : decode cX12_wrongs 182 = .ok (.iinc 3 1, 3) := by decide +kernel
theorem dX12_wrongs_185 : decode cX12_wrongs 185 = .ok (.goto (-181), 3) := by decide +kernel
theorem dX12_wrongs_188 : decode cX12_wrongs 188 = .ok (.iload_n 2, 1) := by decide +kernel
theorem dX12_wrongs_189 : decode cX12_wrongs 189 = .ok (.ireturn, 1) := by decide +kernel
theorem dX12_ways_0 : decode cX12_ways 0 = .ok (.iconst 1, 1) := by decide +kernel
theorem dX12_ways_1 : decode cX12_ways 1 = .ok (.istore_n 2, 1) := by decide +kernel
theorem dX12_ways_2 : decode cX12_ways 2 = .ok (.iconst 0, 1) := by decide +kernel
theorem dX12_ways_3 : decode cX12_ways 3 = .ok (.istore_n 3, 1) := by decide +kernel
theorem dX12_ways_4 : decode cX12_ways 4 = .ok (.iload_n 3, 1) := by decide +kernel
theorem dX12_ways_5 : decode cX12_ways 5 = .ok (.aload_n 0, 1) := by decide +kernel
theorem dX12_ways_6 : decode cX12_ways 6 = .ok (.getfield 44, 3) := by decide +kernel
theorem dX12_ways_9 : decode cX12_ways 9 = .ok (.iload_n 1, 1) := by decide +kernel
theorem dX12_ways_10 : decode cX12_ways 10 = .ok (.iaload, 1) := by decide +kernel
theorem dX12_ways_11 : decode cX12_ways 11 = .ok (.if_icmp .ge 14, 3) := by decide +kernel
theorem dX12_ways_14 : decode cX12_ways 14 = .ok (.iload_n 2, 1) := by decide +kernel
theorem dX12_ways_15 : decode cX12_ways 15 = .ok (.bipush 10, 2) := by decide +kernel
theorem dX12_ways_17 : decode cX12_ways 17 = .ok (.imul, 1) := by decide +kernel
theorem dX12_ways_18 : decode cX12_ways 18 = .ok (.istore_n 2, 1) := by decide +kernel
theorem dX12_ways_19 : decode cX12_ways 19 = .ok (.iinc 3 1, 3) := by decide +kernel
theorem dX12_ways_22 : decode cX12_ways 22 = .ok (.goto (-18), 3) := by decide +kernel
theorem dX12_ways_25 : decode cX12_ways 25 = .ok (.iload_n 2, 1) := by decide +kernel
theorem dX12_ways_26 : decode cX12_ways 26 = .ok (.ireturn, 1) := by decide +kernel
theorem dX12_readAll_0 : decode cX12_readAll 0 = .ok (.aload_n 0, 1) := by decide +kernel
theorem dX12_readAll_1 : decode cX12_readAll 1 = .ok (.iconst 0, 1) := by decide +kernel
theorem dX12_readAll_2 : decode cX12_readAll 2 = .ok (.putfield 260, 3) := by decide +kernel
theorem dX12_readAll_5 : decode cX12_readAll 5 = .ok (.aload_n 0, 1) := by decide +kernel
theorem dX12_readAll_6 : decode cX12_readAll 6 = .ok (.iconst (-1), 1) := by decide +kernel
theorem dX12_readAll_7 : decode cX12_readAll 7 = .ok (.putfield 263, 3) := by decide +kernel
theorem dX12_readAll_10 : decode cX12_readAll 10 = .ok (.iconst 0, 1) := by decide +kernel
theorem dX12_readAll_11 : decode cX12_readAll 11 = .ok (.istore 4, 2) := by decide +kernel
theorem dX12_readAll_13 : decode cX12_readAll 13 = .ok (.iload 4, 2) := by decide +kernel
theorem dX12_readAll_15 : decode cX12_readAll 15 = .ok (.aload_n 0, 1) := by decide +kernel
theorem dX12_readAll_16 : decode cX12_readAll 16 = .ok (.iload_n 1, 1) := by decide +kernel
theorem dX12_readAll_17 : decode cX12_readAll 17 = .ok (.invokevirtual 266, 3) := by decide +kernel
theorem dX12_readAll_20 : decode cX12_readAll 20 = .ok (.if_icmp .ge 161, 3) := by decide +kernel
theorem dX12_readAll_23 : decode cX12_readAll 23 = .ok (.aload_n 0, 1) := by decide +kernel
theorem dX12_readAll_24 : decode cX12_readAll 24 = .ok (.iload_n 1, 1) := by decide +kernel
theorem dX12_readAll_25 : decode cX12_readAll 25 = .ok (.iload 4, 2) := by decide +kernel
theorem dX12_readAll_27 : decode cX12_readAll 27 = .ok (.invokevirtual 269, 3) := by decide +kernel
theorem dX12_readAll_30 : decode cX12_readAll 30 = .ok (.ifCond .eq 145, 3) := by decide +kernel
theorem dX12_readAll_33 : decode cX12_readAll 33 = .ok (.aload_n 0, 1) := by decide +kernel
theorem dX12_readAll_34 : decode cX12_readAll 34 = .ok (.iload_n 1, 1) := by decide +kernel
theorem dX12_readAll_35 : decode cX12_readAll 35 = .ok (.invokevirtual 272, 3) := by decide +kernel
theorem dX12_readAll_38 : decode cX12_readAll 38 = .ok (.ifCond .le 6, 3) := by decide +kernel
theorem dX12_readAll_41 : decode cX12_readAll 41 = .ok (.goto 134, 3) := by decide +kernel
theorem dX12_readAll_44 : decode cX12_readAll 44 = .ok (.iload_n 2, 1) := by decide +kernel
theorem dX12_readAll_45 : decode cX12_readAll 45 = .ok (.iconst (-1), 1) := by decide +kernel
theorem dX12_readAll_46 : decode cX12_readAll 46 = .ok (.if_icmp .eq 79, 3) := by decide +kernel
theorem dX12_readAll_49 : decode cX12_readAll 49 = .ok (.aload_n 0, 1) := by decide +kernel
theorem dX12_readAll_50 : decode cX12_readAll 50 = .ok (.aload_n 0, 1) := by decide +kernel
theorem dX12_readAll_51 : decode cX12_readAll 51 = .ok (.getfield 260, 3) := by decide +kernel
theorem dX12_readAll_54 : decode cX12_readAll 54 = .ok (.ifCond .eq 17, 3) := by decide +kernel
theorem dX12_readAll_57 : decode cX12_readAll 57 = .ok (.aload_n 0, 1) := by decide +kernel
theorem dX12_readAll_58 : decode cX12_readAll 58 = .ok (.getfield 59, 3) := by decide +kernel
theorem dX12_readAll_61 : decode cX12_readAll 61 = .ok (.iload_n 2, 1) := by decide +kernel
theorem dX12_readAll_62 : decode cX12_readAll 62 = .ok (.laload, 1) := by decide +kernel
theorem dX12_readAll_63 : decode cX12_readAll 63 = .ok (.aload_n 0, 1) := by decide +kernel
theorem dX12_readAll_64 : decode cX12_readAll 64 = .ok (.getfield 275, 3) := by decide +kernel
theorem dX12_readAll_67 : decode cX12_readAll 67 = .ok (.lcmp, 1) := by decide +kernel
theorem dX12_readAll_68 : decode cX12_readAll 68 = .ok (.ifCond .ge 12, 3) := by decide +kernel
theorem dX12_readAll_71 : decode cX12_readAll 71 = .ok (.aload_n 0, 1) := by decide +kernel
theorem dX12_readAll_72 : decode cX12_readAll 72 = .ok (.getfield 59, 3) := by decide +kernel
theorem dX12_readAll_75 : decode cX12_readAll 75 = .ok (.iload_n 2, 1) := by decide +kernel
theorem dX12_readAll_76 : decode cX12_readAll 76 = .ok (.laload, 1) := by decide +kernel
theorem dX12_readAll_77 : decode cX12_readAll 77 = .ok (.goto 7, 3) := by decide +kernel
theorem dX12_readAll_80 : decode cX12_readAll 80 = .ok (.aload_n 0, 1) := by decide +kernel
theorem dX12_readAll_81 : decode cX12_readAll 81 = .ok (.getfield 275, 3) := by decide +kernel
theorem dX12_readAll_84 : decode cX12_readAll 84 = .ok (.putfield 275, 3) := by decide +kernel
theorem dX12_readAll_87 : decode cX12_readAll 87 = .ok (.aload_n 0, 1) := by decide +kernel
theorem dX12_readAll_88 : decode cX12_readAll 88 = .ok (.aload_n 0, 1) := by decide +kernel
theorem dX12_readAll_89 : decode cX12_readAll 89 = .ok (.getfield 260, 3) := by decide +kernel
theorem dX12_readAll_92 : decode cX12_readAll 92 = .ok (.ifCond .eq 17, 3) := by decide +kernel
theorem dX12_readAll_95 : decode cX12_readAll 95 = .ok (.aload_n 0, 1) := by decide +kernel
theorem dX12_readAll_96 : decode cX12_readAll 96 = .ok (.getfield 59, 3) := by decide +kernel
theorem dX12_readAll_99 : decode cX12_readAll 99 = .ok (.iload_n 2, 1) := by decide +kernel
theorem dX12_readAll_100 : decode cX12_readAll 100 = .ok (.laload, 1) := by decide +kernel
theorem dX12_readAll_101 : decode cX12_readAll 101 = .ok (.aload_n 0, 1) := by decide +kernel
theorem dX12_readAll_102 : decode cX12_readAll 102 = .ok (.getfield 278, 3) := by decide +kernel
theorem dX12_readAll_105 : decode cX12_readAll 105 = .ok (.lcmp, 1) := by decide +kernel
theorem dX12_readAll_106 : decode cX12_readAll 106 = .ok (.ifCond .le 12, 3) := by decide +kernel
theorem dX12_readAll_109 : decode cX12_readAll 109 = .ok (.aload_n 0, 1) := by decide +kernel
theorem dX12_readAll_110 : decode cX12_readAll 110 = .ok (.getfield 59, 3) := by decide +kernel
theorem dX12_readAll_113 : decode cX12_readAll 113 = .ok (.iload_n 2, 1) := by decide +kernel
theorem dX12_readAll_114 : decode cX12_readAll 114 = .ok (.laload, 1) := by decide +kernel
theorem dX12_readAll_115 : decode cX12_readAll 115 = .ok (.goto 7, 3) := by decide +kernel
theorem dX12_readAll_118 : decode cX12_readAll 118 = .ok (.aload_n 0, 1) := by decide +kernel
theorem dX12_readAll_119 : decode cX12_readAll 119 = .ok (.getfield 278, 3) := by decide +kernel
theorem dX12_readAll_122 : decode cX12_readAll 122 = .ok (.putfield 278, 3) := by decide +kernel
theorem dX12_readAll_125 : decode cX12_readAll 125 = .ok (.iload_n 3, 1) := by decide +kernel
theorem dX12_readAll_126 : decode cX12_readAll 126 = .ok (.iconst (-1), 1) := by decide +kernel
theorem dX12_readAll_127 : decode cX12_readAll 127 = .ok (.if_icmp .eq 38, 3) := by decide +kernel
theorem dX12_readAll_130 : decode cX12_readAll 130 = .ok (.aload_n 0, 1) := by decide +kernel
theorem dX12_readAll_131 : decode cX12_readAll 131 = .ok (.aload_n 0, 1) := by decide +kernel
theorem dX12_readAll_132 : decode cX12_readAll 132 = .ok (.getfield 260, 3) := by decide +kernel
theorem dX12_readAll_135 : decode cX12_readAll 135 = .ok (.ifCond .eq 16, 3) := by decide +kernel
theorem dX12_readAll_138 : decode cX12_readAll 138 = .ok (.aload_n 0, 1) := by decide +kernel
theorem dX12_readAll_139 : decode cX12_readAll 139 = .ok (.getfield 263, 3) := by decide +kernel
theorem dX12_readAll_142 : decode cX12_readAll 142 = .ok (.aload_n 0, 1) := by decide +kernel
theorem dX12_readAll_143 : decode cX12_readAll 143 = .ok (.getfield 56, 3) := by decide +kernel
theorem dX12_readAll_146 : decode cX12_readAll 146 = .ok (.iload_n 3, 1) := by decide +kernel
theorem dX12_readAll_147 : decode cX12_readAll 147 = .ok (.iaload, 1) := by decide +kernel
theorem dX12_readAll_148 : decode cX12_readAll 148 = .ok (.if_icmp .ne 12, 3) := by decide +kernel
theorem dX12_readAll_151 : decode cX12_readAll 151 = .ok (.aload_n 0, 1) := by decide +kernel
theorem dX12_readAll_152 : decode cX12_readAll 152 = .ok (.getfield 56, 3) := by decide +kernel
theorem dX12_readAll_155 : decode cX12_readAll 155 = .ok (.iload_n 3, 1) := by decide +kernel
theorem dX12_readAll_156 : decode cX12_readAll 156 = .ok (.iaload, 1) := by decide +kernel
theorem dX12_readAll_157 : decode cX12_readAll 157 = .ok (.goto 5, 3) := by decide +kernel
theorem dX12_readAll_160 : decode cX12_readAll 160 = .ok (.bipush 10, 2) := by decide +kernel
theorem dX12_readAll_162 : decode cX12_readAll 162 = .ok (.putfield 263, 3) := by decide +kernel
theorem dX12_readAll_165 : decode cX12_readAll 165 = .ok (.aload_n 0, 1) := by decide +kernel
theorem dX12_readAll_166 : decode cX12_readAll 166 = .ok (.dup, 1) := by decide +kernel
theorem dX12_readAll_167 : decode cX12_readAll 167 = .ok (.getfield 260, 3) := by decide +kernel
theorem dX12_readAll_170 : decode cX12_readAll 170 = .ok (.iconst 1, 1) := by decide +kernel
theorem dX12_readAll_171 : decode cX12_readAll 171 = .ok (.iadd, 1) := by decide +kernel
theorem dX12_readAll_172 : decode cX12_readAll 172 = .ok (.putfield 260, 3) := by decide +kernel
theorem dX12_readAll_175 : decode cX12_readAll 175 = .ok (.iinc 4 1, 3) := by decide +kernel
theorem dX12_readAll_178 : decode cX12_readAll 178 = .ok (.goto (-165), 3) := by decide +kernel
theorem dX12_readAll_181 : decode cX12_readAll 181 = .ok (.return_, 1) := by decide +kernel
theorem dX12_line_0 : decode cX12_line 0 = .ok (.aload_n 0, 1) := by decide +kernel
theorem dX12_line_1 : decode cX12_line 1 = .ok (.iload_n 1, 1) := by decide +kernel
theorem dX12_line_2 : decode cX12_line 2 = .ok (.iload_n 2, 1) := by decide +kernel
theorem dX12_line_3 : decode cX12_line 3 = .ok (.invokevirtual 281, 3) := by decide +kernel
theorem dX12_line_6 : decode cX12_line 6 = .ok (.ifCond .eq 12, 3) := by decide +kernel
theorem dX12_line_9 : decode cX12_line 9 = .ok (.iload_n 3, 1) := by decide +kernel
theorem dX12_line_10 : decode cX12_line 10 = .ok (.ifCond .lt 8, 3) := by decide +kernel
theorem dX12_line_13 : decode cX12_line 13 = .ok (.iload_n 3, 1) := by decide +kernel
theorem dX12_line_14 : decode cX12_line 14 = .ok (.iconst 3, 1) := by decide +kernel
theorem dX12_line_15 : decode cX12_line 15 = .ok (.if_icmp .le 8, 3) := by decide +kernel
theorem dX12_line_18 : decode cX12_line 18 = .ok (.aload_n 0, 1) := by decide +kernel
theorem dX12_line_19 : decode cX12_line 19 = .ok (.invokevirtual 210, 3) := by decide +kernel
theorem dX12_line_22 : decode cX12_line 22 = .ok (.ireturn, 1) := by decide +kernel
theorem dX12_line_23 : decode cX12_line 23 = .ok (.aload_n 0, 1) := by decide +kernel
theorem dX12_line_24 : decode cX12_line 24 = .ok (.iconst 0, 1) := by decide +kernel
theorem dX12_line_25 : decode cX12_line 25 = .ok (.putfield 86, 3) := by decide +kernel
theorem dX12_line_28 : decode cX12_line 28 = .ok (.bipush 12, 2) := by decide +kernel
theorem dX12_line_30 : decode cX12_line 30 = .ok (.iload_n 1, 1) := by decide +kernel
theorem dX12_line_31 : decode cX12_line 31 = .ok (.imul, 1) := by decide +kernel
theorem dX12_line_32 : decode cX12_line 32 = .ok (.iload_n 2, 1) := by decide +kernel
theorem dX12_line_33 : decode cX12_line 33 = .ok (.iadd, 1) := by decide +kernel
theorem dX12_line_34 : decode cX12_line 34 = .ok (.istore 4, 2) := by decide +kernel
theorem dX12_line_36 : decode cX12_line 36 = .ok (.iconst 0, 1) := by decide +kernel
theorem dX12_line_37 : decode cX12_line 37 = .ok (.istore 5, 2) := by decide +kernel
theorem dX12_line_39 : decode cX12_line 39 = .ok (.iconst 0, 1) := by decide +kernel
theorem dX12_line_40 : decode cX12_line 40 = .ok (.istore 6, 2) := by decide +kernel
theorem dX12_line_42 : decode cX12_line 42 = .ok (.iload 6, 2) := by decide +kernel
theorem dX12_line_44 : decode cX12_line 44 = .ok (.aload_n 0, 1) := by decide +kernel
theorem dX12_line_45 : decode cX12_line 45 = .ok (.getfield 41, 3) := by decide +kernel
theorem dX12_line_48 : decode cX12_line 48 = .ok (.iload 4, 2) := by decide +kernel
theorem dX12_line_50 : decode cX12_line 50 = .ok (.iaload, 1) := by decide +kernel
theorem dX12_line_51 : decode cX12_line 51 = .ok (.if_icmp .ge 59, 3) := by decide +kernel
theorem dX12_line_54 : decode cX12_line 54 = .ok (.iload 5, 2) := by decide +kernel
theorem dX12_line_56 : decode cX12_line 56 = .ok (.aload_n 0, 1) := by decide +kernel
theorem dX12_line_57 : decode cX12_line 57 = .ok (.getfield 47, 3) := by decide +kernel
theorem dX12_line_60 : decode cX12_line 60 = .ok (.iconst 5, 1) := by decide +kernel
theorem dX12_line_61 : decode cX12_line 61 = .ok (.iload 4, 2) := by decide +kernel
theorem dX12_line_63 : decode cX12_line 63 = .ok (.imul, 1) := by decide +kernel
theorem dX12_line_64 : decode cX12_line 64 = .ok (.iload 6, 2) := by decide +kernel
theorem dX12_line_66 : decode cX12_line 66 = .ok (.iadd, 1) := by decide +kernel
theorem dX12_line_67 : decode cX12_line 67 = .ok (.iaload, 1) := by decide +kernel
theorem dX12_line_68 : decode cX12_line 68 = .ok (.bipush 10, 2) := by decide +kernel
theorem dX12_line_70 : decode cX12_line 70 = .ok (.if_icmp .ne 7, 3) := by decide +kernel
theorem dX12_line_73 : decode cX12_line 73 = .ok (.iconst 1, 1) := by decide +kernel
theorem dX12_line_74 : decode cX12_line 74 = .ok (.goto 4, 3) := by decide +kernel
theorem dX12_line_77 : decode cX12_line 77 = .ok (.iconst 0, 1) := by decide +kernel
theorem dX12_line_78 : decode cX12_line 78 = .ok (.aload_n 0, 1) := by decide +kernel
theorem dX12_line_79 : decode cX12_line 79 = .ok (.getfield 50, 3) := by decide +kernel
theorem dX12_line_82 : decode cX12_line 82 = .ok (.iconst 5, 1) := by decide +kernel
theorem dX12_line_83 : decode cX12_line 83 = .ok (.iload 4, 2) := by decide +kernel
theorem dX12_line_85 : decode cX12_line 85 = .ok (.imul, 1) := by decide +kernel
theorem dX12_line_86 : decode cX12_line 86 = .ok (.iload 6, 2) := by decide +kernel
theorem dX12_line_88 : decode cX12_line 88 = .ok (.iadd, 1) := by decide +kernel
theorem dX12_line_89 : decode cX12_line 89 = .ok (.iaload, 1) := by decide +kernel
theorem dX12_line_90 : decode cX12_line 90 = .ok (.bipush 10, 2) := by decide +kernel
theorem dX12_line_92 : decode cX12_line 92 = .ok (.if_icmp .ne 7, 3) := by decide +kernel
theorem dX12_line_95 : decode cX12_line 95 = .ok (.iconst 1, 1) := by decide +kernel
theorem dX12_line_96 : decode cX12_line 96 = .ok (.goto 4, 3) := by decide +kernel
theorem dX12_line_99 : decode cX12_line 99 = .ok (.iconst 0, 1) := by decide +kernel
theorem dX12_line_100 : decode cX12_line 100 = .ok (.iadd, 1) := by decide +kernel
theorem dX12_line_101 : decode cX12_line 101 = .ok (.iadd, 1) := by decide +kernel
theorem dX12_line_102 : decode cX12_line 102 = .ok (.istore 5, 2) := by decide +kernel
theorem dX12_line_104 : decode cX12_line 104 = .ok (.iinc 6 1, 3) := by decide +kernel
theorem dX12_line_107 : decode cX12_line 107 = .ok (.goto (-65), 3) := by decide +kernel
theorem dX12_line_110 : decode cX12_line 110 = .ok (.iload_n 3, 1) := by decide +kernel
theorem dX12_line_111 : decode cX12_line 111 = .ok (.iconst 3, 1) := by decide +kernel
theorem dX12_line_112 : decode cX12_line 112 = .ok (.if_icmp .ge 35, 3) := by decide +kernel
theorem dX12_line_115 : decode cX12_line 115 = .ok (.iload_n 3, 1) := by decide +kernel
theorem dX12_line_116 : decode cX12_line 116 = .ok (.ifCond .ne 13, 3) := by decide +kernel
theorem dX12_line_119 : decode cX12_line 119 = .ok (.aload_n 0, 1) := by decide +kernel
theorem dX12_line_120 : decode cX12_line 120 = .ok (.getfield 35, 3) := by decide +kernel
theorem dX12_line_123 : decode cX12_line 123 = .ok (.iload 4, 2) := by decide +kernel
theorem dX12_line_125 : decode cX12_line 125 = .ok (.iaload, 1) := by decide +kernel
theorem dX12_line_126 : decode cX12_line 126 = .ok (.goto 20, 3) := by decide +kernel
theorem dX12_line_129 : decode cX12_line 129 = .ok (.iload_n 3, 1) := by decide +kernel
theorem dX12_line_130 : decode cX12_line 130 = .ok (.iconst 1, 1) := by decide +kernel
theorem dX12_line_131 : decode cX12_line 131 = .ok (.if_icmp .ne 13, 3) := by decide +kernel
theorem dX12_line_134 : decode cX12_line 134 = .ok (.aload_n 0, 1) := by decide +kernel
theorem dX12_line_135 : decode cX12_line 135 = .ok (.getfield 38, 3) := by decide +kernel
theorem dX12_line_138 : decode cX12_line 138 = .ok (.iload 4, 2) := by decide +kernel
theorem dX12_line_140 : decode cX12_line 140 = .ok (.iaload, 1) := by decide +kernel
theorem dX12_line_141 : decode cX12_line 141 = .ok (.goto 5, 3) := by decide +kernel
theorem dX12_line_144 : decode cX12_line 144 = .ok (.iload 5, 2) := by decide +kernel
theorem dX12_line_146 : decode cX12_line 146 = .ok (.ireturn, 1) := by decide +kernel
theorem dX12_line_147 : decode cX12_line 147 = .ok (.iload 5, 2) := by decide +kernel
theorem dX12_line_149 : decode cX12_line 149 = .ok (.ifCond .le 5, 3) := by decide +kernel
theorem dX12_line_152 : decode cX12_line 152 = .ok (.iconst (-1), 1) := by decide +kernel
theorem dX12_line_153 : decode cX12_line 153 = .ok (.ireturn, 1) := by decide +kernel
theorem dX12_line_154 : decode cX12_line 154 = .ok (.iconst 0, 1) := by decide +kernel
theorem dX12_line_155 : decode cX12_line 155 = .ok (.istore 6, 2) := by decide +kernel
theorem dX12_line_157 : decode cX12_line 157 = .ok (.iconst 0, 1) := by decide +kernel
theorem dX12_line_158 : decode cX12_line 158 = .ok (.istore 7, 2) := by decide +kernel
theorem dX12_line_160 : decode cX12_line 160 = .ok (.iload 7, 2) := by decide +kernel
theorem dX12_line_162 : decode cX12_line 162 = .ok (.aload_n 0, 1) := by decide +kernel
theorem dX12_line_163 : decode cX12_line 163 = .ok (.getfield 41, 3) := by decide +kernel
theorem dX12_line_166 : decode cX12_line 166 = .ok (.iload 4, 2) := by decide +kernel
theorem dX12_line_168 : decode cX12_line 168 = .ok (.iaload, 1) := by decide +kernel
theorem dX12_line_169 : decode cX12_line 169 = .ok (.if_icmp .ge 81, 3) := by decide +kernel
theorem dX12_line_172 : decode cX12_line 172 = .ok (.iconst 5, 1) := by decide +kernel
theorem dX12_line_173 : decode cX12_line 173 = .ok (.iload 4, 2) := by decide +kernel
theorem dX12_line_175 : decode cX12_line 175 = .ok (.imul, 1) := by decide +kernel
theorem dX12_line_176 : decode cX12_line 176 = .ok (.iload 7, 2) := by decide +kernel
theorem dX12_line_178 : decode cX12_line 178 = .ok (.iadd, 1) := by decide +kernel
theorem dX12_line_179 : decode cX12_line 179 = .ok (.istore 8, 2) := by decide +kernel
theorem dX12_line_181 : decode cX12_line 181 = .ok (.iload 6, 2) := by decide +kernel
theorem dX12_line_183 : decode cX12_line 183 = .ok (.aload_n 0, 1) := by decide +kernel
theorem dX12_line_184 : decode cX12_line 184 = .ok (.getfield 50, 3) := by decide +kernel
theorem dX12_line_187 : decode cX12_line 187 = .ok (.iload 8, 2) := by decide +kernel
theorem dX12_line_189 : decode cX12_line 189 = .ok (.iaload, 1) := by decide +kernel
theorem dX12_line_190 : decode cX12_line 190 = .ok (.iconst (-1), 1) := by decide +kernel
theorem dX12_line_191 : decode cX12_line 191 = .ok (.if_icmp .ne 13, 3) := by decide +kernel
theorem dX12_line_194 : decode cX12_line 194 = .ok (.aload_n 0, 1) := by decide +kernel
theorem dX12_line_195 : decode cX12_line 195 = .ok (.getfield 47, 3) := by decide +kernel
theorem dX12_line_198 : decode cX12_line 198 = .ok (.iload 8, 2) := by decide +kernel
theorem dX12_line_200 : decode cX12_line 200 = .ok (.iaload, 1) := by decide +kernel
theorem dX12_line_201 : decode cX12_line 201 = .ok (.goto 21, 3) := by decide +kernel
theorem dX12_line_204 : decode cX12_line 204 = .ok (.bipush 10, 2) := by decide +kernel
theorem dX12_line_206 : decode cX12_line 206 = .ok (.aload_n 0, 1) := by decide +kernel
theorem dX12_line_207 : decode cX12_line 207 = .ok (.getfield 47, 3) := by decide +kernel
theorem dX12_line_210 : decode cX12_line 210 = .ok (.iload 8, 2) := by decide +kernel
theorem dX12_line_212 : decode cX12_line 212 = .ok (.iaload, 1) := by decide +kernel
theorem dX12_line_213 : decode cX12_line 213 = .ok (.imul, 1) := by decide +kernel
theorem dX12_line_214 : decode cX12_line 214 = .ok (.aload_n 0, 1) := by decide +kernel
theorem dX12_line_215 : decode cX12_line 215 = .ok (.getfield 50, 3) := by decide +kernel
theorem dX12_line_218 : decode cX12_line 218 = .ok (.iload 8, 2) := by decide +kernel
theorem dX12_line_220 : decode cX12_line 220 = .ok (.iaload, 1) := by decide +kernel
theorem dX12_line_221 : decode cX12_line 221 = .ok (.iadd, 1) := by decide +kernel
theorem dX12_line_222 : decode cX12_line 222 = .ok (.aload_n 0, 1) := by decide +kernel
theorem dX12_line_223 : decode cX12_line 223 = .ok (.aload_n 0, 1) := by decide +kernel
theorem dX12_line_224 : decode cX12_line 224 = .ok (.getfield 38, 3) := by decide +kernel
theorem dX12_line_227 : decode cX12_line 227 = .ok (.iload 4, 2) := by decide +kernel
theorem dX12_line_229 : decode cX12_line 229 = .ok (.iaload, 1) := by decide +kernel
theorem dX12_line_230 : decode cX12_line 230 = .ok (.aload_n 0, 1) := by decide +kernel
theorem dX12_line_231 : decode cX12_line 231 = .ok (.getfield 53, 3) := by decide +kernel
theorem dX12_line_234 : decode cX12_line 234 = .ok (.iload 8, 2) := by decide +kernel
theorem dX12_line_236 : decode cX12_line 236 = .ok (.iaload, 1) := by decide +kernel
theorem dX12_line_237 : decode cX12_line 237 = .ok (.invokevirtual 220, 3) := by decide +kernel
theorem dX12_line_240 : decode cX12_line 240 = .ok (.imul, 1) := by decide +kernel
theorem dX12_line_241 : decode cX12_line 241 = .ok (.iadd, 1) := by decide +kernel
theorem dX12_line_242 : decode cX12_line 242 = .ok (.istore 6, 2) := by decide +kernel
theorem dX12_line_244 : decode cX12_line 244 = .ok (.iinc 7 1, 3) := by decide +kernel
theorem dX12_line_247 : decode cX12_line 247 = .ok (.goto (-87), 3) := by decide +kernel
theorem dX12_line_250 : decode cX12_line 250 = .ok (.iload 6, 2) := by decide +kernel
theorem dX12_line_252 : decode cX12_line 252 = .ok (.ireturn, 1) := by decide +kernel
theorem dX12_lines_0 : decode cX12_lines 0 = .ok (.aload_n 0, 1) := by decide +kernel
theorem dX12_lines_1 : decode cX12_lines 1 = .ok (.iconst 0, 1) := by decide +kernel
theorem dX12_lines_2 : decode cX12_lines 2 = .ok (.putfield 86, 3) := by decide +kernel
theorem dX12_lines_5 : decode cX12_lines 5 = .ok (.aload_n 0, 1) := by decide +kernel
theorem dX12_lines_6 : decode cX12_lines 6 = .ok (.iload_n 1, 1) := by decide +kernel
theorem dX12_lines_7 : decode cX12_lines 7 = .ok (.invokevirtual 257, 3) := by decide +kernel
theorem dX12_lines_10 : decode cX12_lines 10 = .ok (.ifCond .eq 12, 3) := by decide +kernel
theorem dX12_lines_13 : decode cX12_lines 13 = .ok (.aload_n 0, 1) := by decide +kernel
theorem dX12_lines_14 : decode cX12_lines 14 = .ok (.getfield 32, 3) := by decide +kernel
theorem dX12_lines_17 : decode cX12_lines 17 = .ok (.iload_n 1, 1) := by decide +kernel
theorem dX12_lines_18 : decode cX12_lines 18 = .ok (.iaload, 1) := by decide +kernel
theorem dX12_lines_19 : decode cX12_lines 19 = .ok (.goto 4, 3) := by decide +kernel
theorem dX12_lines_22 : decode cX12_lines 22 = .ok (.iconst (-1), 1) := by decide +kernel
theorem dX12_lines_23 : decode cX12_lines 23 = .ok (.ireturn, 1) := by decide +kernel
theorem dX12_readings_0 : decode cX12_readings 0 = .ok (.aload_n 0, 1) := by decide +kernel
theorem dX12_readings_1 : decode cX12_readings 1 = .ok (.iconst 0, 1) := by decide +kernel
theorem dX12_readings_2 : decode cX12_readings 2 = .ok (.putfield 86, 3) := by decide +kernel
theorem dX12_readings_5 : decode cX12_readings 5 = .ok (.aload_n 0, 1) := by decide +kernel
theorem dX12_readings_6 : decode cX12_readings 6 = .ok (.iload_n 1, 1) := by decide +kernel
theorem dX12_readings_7 : decode cX12_readings 7 = .ok (.invokevirtual 257, 3) := by decide +kernel
theorem dX12_readings_10 : decode cX12_readings 10 = .ok (.ifCond .ne 5, 3) := by decide +kernel
theorem dX12_readings_13 : decode cX12_readings 13 = .ok (.iconst (-1), 1) := by decide +kernel
theorem dX12_readings_14 : decode cX12_readings 14 = .ok (.ireturn, 1) := by decide +kernel
theorem dX12_readings_15 : decode cX12_readings 15 = .ok (.aload_n 0, 1) := by decide +kernel
theorem dX12_readings_16 : decode cX12_readings 16 = .ok (.iload_n 1, 1) := by decide +kernel
theorem dX12_readings_17 : decode cX12_readings 17 = .ok (.iconst (-1), 1) := by decide +kernel
theorem dX12_readings_18 : decode cX12_readings 18 = .ok (.iconst (-1), 1) := by decide +kernel
theorem dX12_readings_19 : decode cX12_readings 19 = .ok (.invokevirtual 284, 3) := by decide +kernel
theorem dX12_readings_22 : decode cX12_readings 22 = .ok (.aload_n 0, 1) := by decide +kernel
theorem dX12_readings_23 : decode cX12_readings 23 = .ok (.getfield 260, 3) := by decide +kernel
theorem dX12_readings_26 : decode cX12_readings 26 = .ok (.ireturn, 1) := by decide +kernel
theorem dX12_bound_0 : decode cX12_bound 0 = .ok (.aload_n 0, 1) := by decide +kernel
theorem dX12_bound_1 : decode cX12_bound 1 = .ok (.iload_n 1, 1) := by decide +kernel
theorem dX12_bound_2 : decode cX12_bound 2 = .ok (.iload_n 2, 1) := by decide +kernel
theorem dX12_bound_3 : decode cX12_bound 3 = .ok (.invokevirtual 281, 3) := by decide +kernel
theorem dX12_bound_6 : decode cX12_bound 6 = .ok (.ifCond .ne 8, 3) := by decide +kernel
theorem dX12_bound_9 : decode cX12_bound 9 = .ok (.aload_n 0, 1) := by decide +kernel
theorem dX12_bound_10 : decode cX12_bound 10 = .ok (.invokevirtual 210, 3) := by decide +kernel
theorem dX12_bound_13 : decode cX12_bound 13 = .ok (.ireturn, 1) := by decide +kernel
theorem dX12_bound_14 : decode cX12_bound 14 = .ok (.aload_n 0, 1) := by decide +kernel
theorem dX12_bound_15 : decode cX12_bound 15 = .ok (.iconst 0, 1) := by decide +kernel
theorem dX12_bound_16 : decode cX12_bound 16 = .ok (.putfield 86, 3) := by decide +kernel
theorem dX12_bound_19 : decode cX12_bound 19 = .ok (.aload_n 0, 1) := by decide +kernel
theorem dX12_bound_20 : decode cX12_bound 20 = .ok (.iload_n 1, 1) := by decide +kernel
theorem dX12_bound_21 : decode cX12_bound 21 = .ok (.iload_n 2, 1) := by decide +kernel
theorem dX12_bound_22 : decode cX12_bound 22 = .ok (.iconst (-1), 1) := by decide +kernel
theorem dX12_bound_23 : decode cX12_bound 23 = .ok (.invokevirtual 284, 3) := by decide +kernel
theorem dX12_bound_26 : decode cX12_bound 26 = .ok (.aload_n 0, 1) := by decide +kernel
theorem dX12_bound_27 : decode cX12_bound 27 = .ok (.getfield 260, 3) := by decide +kernel
theorem dX12_bound_30 : decode cX12_bound 30 = .ok (.ifCond .ne 7, 3) := by decide +kernel
theorem dX12_bound_33 : decode cX12_bound 33 = .ok (.iconst (-1), 1) := by decide +kernel
theorem dX12_bound_34 : decode cX12_bound 34 = .ok (.goto 19, 3) := by decide +kernel
theorem dX12_bound_37 : decode cX12_bound 37 = .ok (.iload_n 3, 1) := by decide +kernel
theorem dX12_bound_38 : decode cX12_bound 38 = .ok (.ifCond .eq 10, 3) := by decide +kernel
theorem dX12_bound_41 : decode cX12_bound 41 = .ok (.aload_n 0, 1) := by decide +kernel
theorem dX12_bound_42 : decode cX12_bound 42 = .ok (.getfield 278, 3) := by decide +kernel
theorem dX12_bound_45 : decode cX12_bound 45 = .ok (.goto 7, 3) := by decide +kernel
theorem dX12_bound_48 : decode cX12_bound 48 = .ok (.aload_n 0, 1) := by decide +kernel
theorem dX12_bound_49 : decode cX12_bound 49 = .ok (.getfield 275, 3) := by decide +kernel
theorem dX12_bound_52 : decode cX12_bound 52 = .ok (.l2i, 1) := by decide +kernel
theorem dX12_bound_53 : decode cX12_bound 53 = .ok (.ireturn, 1) := by decide +kernel
theorem dX12_digit_0 : decode cX12_digit 0 = .ok (.aload_n 0, 1) := by decide +kernel
theorem dX12_digit_1 : decode cX12_digit 1 = .ok (.iload_n 1, 1) := by decide +kernel
theorem dX12_digit_2 : decode cX12_digit 2 = .ok (.invokevirtual 257, 3) := by decide +kernel
theorem dX12_digit_5 : decode cX12_digit 5 = .ok (.ifCond .eq 17, 3) := by decide +kernel
theorem dX12_digit_8 : decode cX12_digit 8 = .ok (.iload_n 2, 1) := by decide +kernel
theorem dX12_digit_9 : decode cX12_digit 9 = .ok (.ifCond .lt 13, 3) := by decide +kernel
theorem dX12_digit_12 : decode cX12_digit 12 = .ok (.iload_n 2, 1) := by decide +kernel
theorem dX12_digit_13 : decode cX12_digit 13 = .ok (.aload_n 0, 1) := by decide +kernel
theorem dX12_digit_14 : decode cX12_digit 14 = .ok (.getfield 44, 3) := by decide +kernel
theorem dX12_digit_17 : decode cX12_digit 17 = .ok (.iload_n 1, 1) := by decide +kernel
theorem dX12_digit_18 : decode cX12_digit 18 = .ok (.iaload, 1) := by decide +kernel
theorem dX12_digit_19 : decode cX12_digit 19 = .ok (.if_icmp .lt 8, 3) := by decide +kernel
theorem dX12_digit_22 : decode cX12_digit 22 = .ok (.aload_n 0, 1) := by decide +kernel
theorem dX12_digit_23 : decode cX12_digit 23 = .ok (.invokevirtual 210, 3) := by decide +kernel
theorem dX12_digit_26 : decode cX12_digit 26 = .ok (.ireturn, 1) := by decide +kernel
theorem dX12_digit_27 : decode cX12_digit 27 = .ok (.aload_n 0, 1) := by decide +kernel
theorem dX12_digit_28 : decode cX12_digit 28 = .ok (.iconst 0, 1) := by decide +kernel
theorem dX12_digit_29 : decode cX12_digit 29 = .ok (.putfield 86, 3) := by decide +kernel
theorem dX12_digit_32 : decode cX12_digit 32 = .ok (.aload_n 0, 1) := by decide +kernel
theorem dX12_digit_33 : decode cX12_digit 33 = .ok (.iload_n 1, 1) := by decide +kernel
theorem dX12_digit_34 : decode cX12_digit 34 = .ok (.iconst (-1), 1) := by decide +kernel
theorem dX12_digit_35 : decode cX12_digit 35 = .ok (.iload_n 2, 1) := by decide +kernel
theorem dX12_digit_36 : decode cX12_digit 36 = .ok (.invokevirtual 284, 3) := by decide +kernel
theorem dX12_digit_39 : decode cX12_digit 39 = .ok (.aload_n 0, 1) := by decide +kernel
theorem dX12_digit_40 : decode cX12_digit 40 = .ok (.getfield 260, 3) := by decide +kernel
theorem dX12_digit_43 : decode cX12_digit 43 = .ok (.ifCond .eq 12, 3) := by decide +kernel
theorem dX12_digit_46 : decode cX12_digit 46 = .ok (.aload_n 0, 1) := by decide +kernel
theorem dX12_digit_47 : decode cX12_digit 47 = .ok (.getfield 263, 3) := by decide +kernel
theorem dX12_digit_50 : decode cX12_digit 50 = .ok (.bipush 10, 2) := by decide +kernel
theorem dX12_digit_52 : decode cX12_digit 52 = .ok (.if_icmp .ne 7, 3) := by decide +kernel
theorem dX12_digit_55 : decode cX12_digit 55 = .ok (.iconst (-1), 1) := by decide +kernel
theorem dX12_digit_56 : decode cX12_digit 56 = .ok (.goto 7, 3) := by decide +kernel
theorem dX12_digit_59 : decode cX12_digit 59 = .ok (.aload_n 0, 1) := by decide +kernel
theorem dX12_digit_60 : decode cX12_digit 60 = .ok (.getfield 263, 3) := by decide +kernel
theorem dX12_digit_63 : decode cX12_digit 63 = .ok (.ireturn, 1) := by decide +kernel
theorem dX12_wrong_0 : decode cX12_wrong 0 = .ok (.aload_n 0, 1) := by decide +kernel
theorem dX12_wrong_1 : decode cX12_wrong 1 = .ok (.iconst 0, 1) := by decide +kernel
theorem dX12_wrong_2 : decode cX12_wrong 2 = .ok (.putfield 86, 3) := by decide +kernel
theorem dX12_wrong_5 : decode cX12_wrong 5 = .ok (.aload_n 0, 1) := by decide +kernel
theorem dX12_wrong_6 : decode cX12_wrong 6 = .ok (.iload_n 1, 1) := by decide +kernel
theorem dX12_wrong_7 : decode cX12_wrong 7 = .ok (.invokevirtual 257, 3) := by decide +kernel
theorem dX12_wrong_10 : decode cX12_wrong 10 = .ok (.ifCond .ne 5, 3) := by decide +kernel
theorem dX12_wrong_13 : decode cX12_wrong 13 = .ok (.iconst (-1), 1) := by decide +kernel
theorem dX12_wrong_14 : decode cX12_wrong 14 = .ok (.ireturn, 1) := by decide +kernel
theorem dX12_wrong_15 : decode cX12_wrong 15 = .ok (.bipush 12, 2) := by decide +kernel
theorem dX12_wrong_17 : decode cX12_wrong 17 = .ok (.istore_n 2, 1) := by decide +kernel
theorem dX12_wrong_18 : decode cX12_wrong 18 = .ok (.iconst 0, 1) := by decide +kernel
theorem dX12_wrong_19 : decode cX12_wrong 19 = .ok (.istore_n 3, 1) := by decide +kernel
theorem dX12_wrong_20 : decode cX12_wrong 20 = .ok (.iload_n 3, 1) := by decide +kernel
theorem dX12_wrong_21 : decode cX12_wrong 21 = .ok (.aload_n 0, 1) := by decide +kernel
theorem dX12_wrong_22 : decode cX12_wrong 22 = .ok (.iload_n 1, 1) := by decide +kernel
theorem dX12_wrong_23 : decode cX12_wrong 23 = .ok (.invokevirtual 266, 3) := by decide +kernel
theorem dX12_wrong_26 : decode cX12_wrong 26 = .ok (.if_icmp .ge 37, 3) := by decide +kernel
theorem dX12_wrong_29 : decode cX12_wrong 29 = .ok (.aload_n 0, 1) := by decide +kernel
theorem dX12_wrong_30 : decode cX12_wrong 30 = .ok (.iload_n 1, 1) := by decide +kernel
theorem dX12_wrong_31 : decode cX12_wrong 31 = .ok (.iload_n 3, 1) := by decide +kernel
theorem dX12_wrong_32 : decode cX12_wrong 32 = .ok (.invokevirtual 269, 3) := by decide +kernel
theorem dX12_wrong_35 : decode cX12_wrong 35 = .ok (.ifCond .ne 6, 3) := by decide +kernel
theorem dX12_wrong_38 : decode cX12_wrong 38 = .ok (.goto 19, 3) := by decide +kernel
theorem dX12_wrong_41 : decode cX12_wrong 41 = .ok (.aload_n 0, 1) := by decide +kernel
theorem dX12_wrong_42 : decode cX12_wrong 42 = .ok (.iload_n 1, 1) := by decide +kernel
theorem dX12_wrong_43 : decode cX12_wrong 43 = .ok (.invokevirtual 272, 3) := by decide +kernel
theorem dX12_wrong_46 : decode cX12_wrong 46 = .ok (.istore 4, 2) := by decide +kernel
theorem dX12_wrong_48 : decode cX12_wrong 48 = .ok (.iload 4, 2) := by decide +kernel
theorem dX12_wrong_50 : decode cX12_wrong 50 = .ok (.iload_n 2, 1) := by decide +kernel
theorem dX12_wrong_51 : decode cX12_wrong 51 = .ok (.if_icmp .ge 6, 3) := by decide +kernel
theorem dX12_wrong_54 : decode cX12_wrong 54 = .ok (.iload 4, 2) := by decide +kernel
theorem dX12_wrong_56 : decode cX12_wrong 56 = .ok (.istore_n 2, 1) := by decide +kernel
theorem dX12_wrong_57 : decode cX12_wrong 57 = .ok (.iinc 3 1, 3) := by decide +kernel
theorem dX12_wrong_60 : decode cX12_wrong 60 = .ok (.goto (-40), 3) := by decide +kernel
theorem dX12_wrong_63 : decode cX12_wrong 63 = .ok (.iload_n 2, 1) := by decide +kernel
theorem dX12_wrong_64 : decode cX12_wrong 64 = .ok (.ireturn, 1) := by decide +kernel
theorem dX12_isEdge_0 : decode cX12_isEdge 0 = .ok (.iload_n 0, 1) := by decide +kernel
theorem dX12_isEdge_1 : decode cX12_isEdge 1 = .ok (.ifCond .lt 14, 3) := by decide +kernel
theorem dX12_isEdge_4 : decode cX12_isEdge 4 = .ok (.iload_n 0, 1) := by decide +kernel
theorem dX12_isEdge_5 : decode cX12_isEdge 5 = .ok (.ldc_w 288, 3) := by decide +kernel
theorem dX12_isEdge_8 : decode cX12_isEdge 8 = .ok (.if_icmp .gt 7, 3) := by decide +kernel
theorem dX12_isEdge_11 : decode cX12_isEdge 11 = .ok (.iconst 1, 1) := by decide +kernel
theorem dX12_isEdge_12 : decode cX12_isEdge 12 = .ok (.goto 4, 3) := by decide +kernel
theorem dX12_isEdge_15 : decode cX12_isEdge 15 = .ok (.iconst 0, 1) := by decide +kernel
theorem dX12_isEdge_16 : decode cX12_isEdge 16 = .ok (.ireturn, 1) := by decide +kernel
theorem dX12_fragment_0 : decode cX12_fragment 0 = .ok (.aload_n 0, 1) := by decide +kernel
theorem dX12_fragment_1 : decode cX12_fragment 1 = .ok (.iconst 0, 1) := by decide +kernel
theorem dX12_fragment_2 : decode cX12_fragment 2 = .ok (.putfield 86, 3) := by decide +kernel
theorem dX12_fragment_5 : decode cX12_fragment 5 = .ok (.aload_n 0, 1) := by decide +kernel
theorem dX12_fragment_6 : decode cX12_fragment 6 = .ok (.getfield 90, 3) := by decide +kernel
theorem dX12_fragment_9 : decode cX12_fragment 9 = .ok (.istore_n 3, 1) := by decide +kernel
theorem dX12_fragment_10 : decode cX12_fragment 10 = .ok (.aload_n 0, 1) := by decide +kernel
theorem dX12_fragment_11 : decode cX12_fragment 11 = .ok (.iconst 0, 1) := by decide +kernel
theorem dX12_fragment_12 : decode cX12_fragment 12 = .ok (.putfield 90, 3) := by decide +kernel
theorem dX12_fragment_15 : decode cX12_fragment 15 = .ok (.aload_n 0, 1) := by decide +kernel
theorem dX12_fragment_16 : decode cX12_fragment 16 = .ok (.getfield 289, 3) := by decide +kernel
theorem dX12_fragment_19 : decode cX12_fragment 19 = .ok (.bipush 12, 2) := by decide +kernel
theorem dX12_fragment_21 : decode cX12_fragment 21 = .ok (.if_icmp .eq 24, 3) := by decide +kernel
theorem dX12_fragment_24 : decode cX12_fragment 24 = .ok (.iload_n 1, 1) := by decide +kernel
theorem dX12_fragment_25 : decode cX12_fragment 25 = .ok (.invokestatic 292, 3) := by decide +kernel
theorem dX12_fragment_28 : decode cX12_fragment 28 = .ok (.ifCond .eq 17, 3) := by decide +kernel
theorem dX12_fragment_31 : decode cX12_fragment 31 = .ok (.iload_n 2, 1) := by decide +kernel
theorem dX12_fragment_32 : decode cX12_fragment 32 = .ok (.invokestatic 292, 3) := by decide +kernel
theorem dX12_fragment_35 : decode cX12_fragment 35 = .ok (.ifCond .eq 10, 3) := by decide +kernel
theorem dX12_fragment_38 : decode cX12_fragment 38 = .ok (.iload_n 3, 1) := by decide +kernel
theorem dX12_fragment_39 : decode cX12_fragment 39 = .ok (.sipush 200, 3) := by decide +kernel
theorem dX12_fragment_42 : decode cX12_fragment 42 = .ok (.if_icmp .le 5, 3) := by decide +kernel
theorem dX12_fragment_45 : decode cX12_fragment 45 = .ok (.iconst (-1), 1) := by decide +kernel
theorem dX12_fragment_46 : decode cX12_fragment 46 = .ok (.ireturn, 1) := by decide +kernel
theorem dX12_fragment_47 : decode cX12_fragment 47 = .ok (.aload_n 0, 1) := by decide +kernel
theorem dX12_fragment_48 : decode cX12_fragment 48 = .ok (.getfield 289, 3) := by decide +kernel
theorem dX12_fragment_51 : decode cX12_fragment 51 = .ok (.istore 4, 2) := by decide +kernel
theorem dX12_fragment_53 : decode cX12_fragment 53 = .ok (.aload_n 0, 1) := by decide +kernel
theorem dX12_fragment_54 : decode cX12_fragment 54 = .ok (.getfield 74, 3) := by decide +kernel
theorem dX12_fragment_57 : decode cX12_fragment 57 = .ok (.iload 4, 2) := by decide +kernel
theorem dX12_fragment_59 : decode cX12_fragment 59 = .ok (.iconst 1, 1) := by decide +kernel
theorem dX12_fragment_60 : decode cX12_fragment 60 = .ok (.iastore, 1) := by decide +kernel
theorem dX12_fragment_61 : decode cX12_fragment 61 = .ok (.iconst 0, 1) := by decide +kernel
theorem dX12_fragment_62 : decode cX12_fragment 62 = .ok (.istore 5, 2) := by decide +kernel
theorem dX12_fragment_64 : decode cX12_fragment 64 = .ok (.iload 5, 2) := by decide +kernel
theorem dX12_fragment_66 : decode cX12_fragment 66 = .ok (.iload_n 3, 1) := by decide +kernel
theorem dX12_fragment_67 : decode cX12_fragment 67 = .ok (.if_icmp .ge 53, 3) := by decide +kernel
theorem dX12_fragment_70 : decode cX12_fragment 70 = .ok (.aload_n 0, 1) := by decide +kernel
theorem dX12_fragment_71 : decode cX12_fragment 71 = .ok (.getfield 62, 3) := by decide +kernel
theorem dX12_fragment_74 : decode cX12_fragment 74 = .ok (.sipush 200, 3) := by decide +kernel
theorem dX12_fragment_77 : decode cX12_fragment 77 = .ok (.iload 4, 2) := by decide +kernel
theorem dX12_fragment_79 : decode cX12_fragment 79 = .ok (.imul, 1) := by decide +kernel
theorem dX12_fragment_80 : decode cX12_fragment 80 = .ok (.iload 5, 2) := by decide +kernel
theorem dX12_fragment_82 : decode cX12_fragment 82 = .ok (.iadd, 1) := by decide +kernel
theorem dX12_fragment_83 : decode cX12_fragment 83 = .ok (.aload_n 0, 1) := by decide +kernel
theorem dX12_fragment_84 : decode cX12_fragment 84 = .ok (.getfield 7, 3) := by decide +kernel
theorem dX12_fragment_87 : decode cX12_fragment 87 = .ok (.iload 5, 2) := by decide +kernel
theorem dX12_fragment_89 : decode cX12_fragment 89 = .ok (.iaload, 1) := by decide +kernel
theorem dX12_fragment_90 : decode cX12_fragment 90 = .ok (.iastore, 1) := by decide +kernel
theorem dX12_fragment_91 : decode cX12_fragment 91 = .ok (.aload_n 0, 1) := by decide +kernel
theorem dX12_fragment_92 : decode cX12_fragment 92 = .ok (.getfield 7, 3) := by decide +kernel
theorem dX12_fragment_95 : decode cX12_fragment 95 = .ok (.iload 5, 2) := by decide +kernel
theorem dX12_fragment_97 : decode cX12_fragment 97 = .ok (.iaload, 1) := by decide +kernel
theorem dX12_fragment_98 : decode cX12_fragment 98 = .ok (.bipush 47, 2) := by decide +kernel
theorem dX12_fragment_100 : decode cX12_fragment 100 = .ok (.if_icmp .ne 14, 3) := by decide +kernel
theorem dX12_fragment_103 : decode cX12_fragment 103 = .ok (.aload_n 0, 1) := by decide +kernel
theorem dX12_fragment_104 : decode cX12_fragment 104 = .ok (.getfield 74, 3) := by decide +kernel
theorem dX12_fragment_107 : decode cX12_fragment 107 = .ok (.iload 4, 2) := by decide +kernel
theorem dX12_fragment_109 : decode cX12_fragment 109 = .ok (.dup2, 1) := by decide +kernel
theorem dX12_fragment_110 : decode cX12_fragment 110 = .ok (.iaload, 1) := by decide +kernel
theorem dX12_fragment_111 : decode cX12_fragment 111 = .ok (.iconst 1, 1) := by decide +kernel
theorem dX12_fragment_112 : decode cX12_fragment 112 = .ok (.iadd, 1) := by decide +kernel
theorem dX12_fragment_113 : decode cX12_fragment 113 = .ok (.iastore, 1) := by decide +kernel
theorem dX12_fragment_114 : decode cX12_fragment 114 = .ok (.iinc 5 1, 3) := by decide +kernel
theorem dX12_fragment_117 : decode cX12_fragment 117 = .ok (.goto (-53), 3) := by decide +kernel
theorem dX12_fragment_120 : decode cX12_fragment 120 = .ok (.aload_n 0, 1) := by decide +kernel
theorem dX12_fragment_121 : decode cX12_fragment 121 = .ok (.getfield 65, 3) := by decide +kernel
theorem dX12_fragment_124 : decode cX12_fragment 124 = .ok (.iload 4, 2) := by decide +kernel
theorem dX12_fragment_126 : decode cX12_fragment 126 = .ok (.iload_n 3, 1) := by decide +kernel
theorem dX12_fragment_127 : decode cX12_fragment 127 = .ok (.iastore, 1) := by decide +kernel
theorem dX12_fragment_128 : decode cX12_fragment 128 = .ok (.aload_n 0, 1) := by decide +kernel
theorem dX12_fragment_129 : decode cX12_fragment 129 = .ok (.getfield 68, 3) := by decide +kernel
theorem dX12_fragment_132 : decode cX12_fragment 132 = .ok (.iload 4, 2) := by decide +kernel
theorem dX12_fragment_134 : decode cX12_fragment 134 = .ok (.iload_n 1, 1) := by decide +kernel
theorem dX12_fragment_135 : decode cX12_fragment 135 = .ok (.iastore, 1) := by decide +kernel
theorem dX12_fragment_136 : decode cX12_fragment 136 = .ok (.aload_n 0, 1) := by decide +kernel
theorem dX12_fragment_137 : decode cX12_fragment 137 = .ok (.getfield 71, 3) := by decide +kernel
theorem dX12_fragment_140 : decode cX12_fragment 140 = .ok (.iload 4, 2) := by decide +kernel
theorem dX12_fragment_142 : decode cX12_fragment 142 = .ok (.iload_n 2, 1) := by decide +kernel
theorem dX12_fragment_143 : decode cX12_fragment 143 = .ok (.iastore, 1) := by decide +kernel
theorem dX12_fragment_144 : decode cX12_fragment 144 = .ok (.aload_n 0, 1) := by decide +kernel
theorem dX12_fragment_145 : decode cX12_fragment 145 = .ok (.dup, 1) := by decide +kernel
theorem dX12_fragment_146 : decode cX12_fragment 146 = .ok (.getfield 289, 3) := by decide +kernel
theorem dX12_fragment_149 : decode cX12_fragment 149 = .ok (.iconst 1, 1) := by decide +kernel
theorem dX12_fragment_150 : decode cX12_fragment 150 = .ok (.iadd, 1) := by decide +kernel
theorem dX12_fragment_151 : decode cX12_fragment 151 = .ok (.putfield 289, 3) := by decide +kernel
theorem dX12_fragment_154 : decode cX12_fragment 154 = .ok (.iload 4, 2) := by decide +kernel
theorem dX12_fragment_156 : decode cX12_fragment 156 = .ok (.ireturn, 1) := by decide +kernel
theorem dX12_isFragment_0 : decode cX12_isFragment 0 = .ok (.iload_n 1, 1) := by decide +kernel
theorem dX12_isFragment_1 : decode cX12_isFragment 1 = .ok (.ifCond .lt 15, 3) := by decide +kernel
theorem dX12_isFragment_4 : decode cX12_isFragment 4 = .ok (.iload_n 1, 1) := by decide +kernel
theorem dX12_isFragment_5 : decode cX12_isFragment 5 = .ok (.aload_n 0, 1) := by decide +kernel
theorem dX12_isFragment_6 : decode cX12_isFragment 6 = .ok (.getfield 289, 3) := by decide +kernel
theorem dX12_isFragment_9 : decode cX12_isFragment 9 = .ok (.if_icmp .ge 7, 3) := by decide +kernel
theorem dX12_isFragment_12 : decode cX12_isFragment 12 = .ok (.iconst 1, 1) := by decide +kernel
theorem dX12_isFragment_13 : decode cX12_isFragment 13 = .ok (.goto 4, 3) := by decide +kernel
theorem dX12_isFragment_16 : decode cX12_isFragment 16 = .ok (.iconst 0, 1) := by decide +kernel
theorem dX12_isFragment_17 : decode cX12_isFragment 17 = .ok (.ireturn, 1) := by decide +kernel
theorem dX12_rows_0 : decode cX12_rows 0 = .ok (.aload_n 0, 1) := by decide +kernel
theorem dX12_rows_1 : decode cX12_rows 1 = .ok (.iconst 0, 1) := by decide +kernel
theorem dX12_rows_2 : decode cX12_rows 2 = .ok (.putfield 86, 3) := by decide +kernel
theorem dX12_rows_5 : decode cX12_rows 5 = .ok (.aload_n 0, 1) := by decide +kernel
theorem dX12_rows_6 : decode cX12_rows 6 = .ok (.iload_n 1, 1) := by decide +kernel
theorem dX12_rows_7 : decode cX12_rows 7 = .ok (.invokevirtual 295, 3) := by decide +kernel
theorem dX12_rows_10 : decode cX12_rows 10 = .ok (.ifCond .eq 12, 3) := by decide +kernel
theorem dX12_rows_13 : decode cX12_rows 13 = .ok (.aload_n 0, 1) := by decide +kernel
theorem dX12_rows_14 : decode cX12_rows 14 = .ok (.getfield 74, 3) := by decide +kernel
theorem dX12_rows_17 : decode cX12_rows 17 = .ok (.iload_n 1, 1) := by decide +kernel
theorem dX12_rows_18 : decode cX12_rows 18 = .ok (.iaload, 1) := by decide +kernel
theorem dX12_rows_19 : decode cX12_rows 19 = .ok (.goto 4, 3) := by decide +kernel
theorem dX12_rows_22 : decode cX12_rows 22 = .ok (.iconst (-1), 1) := by decide +kernel
theorem dX12_rows_23 : decode cX12_rows 23 = .ok (.ireturn, 1) := by decide +kernel
theorem dX12_say_0 : decode cX12_say 0 = .ok (.aload_n 0, 1) := by decide +kernel
theorem dX12_say_1 : decode cX12_say 1 = .ok (.getfield 13, 3) := by decide +kernel
theorem dX12_say_4 : decode cX12_say 4 = .ok (.aload_n 0, 1) := by decide +kernel
theorem dX12_say_5 : decode cX12_say 5 = .ok (.getfield 97, 3) := by decide +kernel
theorem dX12_say_8 : decode cX12_say 8 = .ok (.iload_n 1, 1) := by decide +kernel
theorem dX12_say_9 : decode cX12_say 9 = .ok (.iastore, 1) := by decide +kernel
theorem dX12_say_10 : decode cX12_say 10 = .ok (.aload_n 0, 1) := by decide +kernel
theorem dX12_say_11 : decode cX12_say 11 = .ok (.dup, 1) := by decide +kernel
theorem dX12_say_12 : decode cX12_say 12 = .ok (.getfield 97, 3) := by decide +kernel
theorem dX12_say_15 : decode cX12_say 15 = .ok (.iconst 1, 1) := by decide +kernel
theorem dX12_say_16 : decode cX12_say 16 = .ok (.iadd, 1) := by decide +kernel
theorem dX12_say_17 : decode cX12_say 17 = .ok (.putfield 97, 3) := by decide +kernel
theorem dX12_say_20 : decode cX12_say 20 = .ok (.return_, 1) := by decide +kernel
theorem dX12_sayRow_0 : decode cX12_sayRow 0 = .ok (.iload_n 2, 1) := by decide +kernel
theorem dX12_sayRow_1 : decode cX12_sayRow 1 = .ok (.istore_n 3, 1) := by decide +kernel
theorem dX12_sayRow_2 : decode cX12_sayRow 2 = .ok (.iload_n 3, 1) := by decide +kernel
theorem dX12_sayRow_3 : decode cX12_sayRow 3 = .ok (.aload_n 0, 1) := by decide +kernel
theorem dX12_sayRow_4 : decode cX12_sayRow 4 = .ok (.getfield 65, 3) := by decide +kernel
theorem dX12_sayRow_7 : decode cX12_sayRow 7 = .ok (.iload_n 1, 1) := by decide +kernel
theorem dX12_sayRow_8 : decode cX12_sayRow 8 = .ok (.iaload, 1) := by decide +kernel
theorem dX12_sayRow_9 : decode cX12_sayRow 9 = .ok (.if_icmp .ge 42, 3) := by decide +kernel
theorem dX12_sayRow_12 : decode cX12_sayRow 12 = .ok (.aload_n 0, 1) := by decide +kernel
theorem dX12_sayRow_13 : decode cX12_sayRow 13 = .ok (.getfield 62, 3) := by decide +kernel
theorem dX12_sayRow_16 : decode cX12_sayRow 16 = .ok (.sipush 200, 3) := by decide +kernel
theorem dX12_sayRow_19 : decode cX12_sayRow 19 = .ok (.iload_n 1, 1) := by decide +kernel
theorem dX12_sayRow_20 : decode cX12_sayRow 20 = .ok (.imul, 1) := by decide +kernel
theorem dX12_sayRow_21 : decode cX12_sayRow 21 = .ok (.iload_n 3, 1) := by decide +kernel
theorem dX12_sayRow_22 : decode cX12_sayRow 22 = .ok (.iadd, 1) := by decide +kernel
theorem dX12_sayRow_23 : decode cX12_sayRow 23 = .ok (.iaload, 1) := by decide +kernel
theorem dX12_sayRow_24 : decode cX12_sayRow 24 = .ok (.bipush 47, 2) := by decide +kernel
theorem dX12_sayRow_26 : decode cX12_sayRow 26 = .ok (.if_icmp .eq 25, 3) := by decide +kernel
theorem dX12_sayRow_29 : decode cX12_sayRow 29 = .ok (.aload_n 0, 1) := by decide +kernel
theorem dX12_sayRow_30 : decode cX12_sayRow 30 = .ok (.aload_n 0, 1) := by decide +kernel
theorem dX12_sayRow_31 : decode cX12_sayRow 31 = .ok (.getfield 62, 3) := by decide +kernel
theorem dX12_sayRow_34 : decode cX12_sayRow 34 = .ok (.sipush 200, 3) := by decide +kernel
theorem dX12_sayRow_37 : decode cX12_sayRow 37 = .ok (.iload_n 1, 1) := by decide +kernel
theorem dX12_sayRow_38 : decode cX12_sayRow 38 = .ok (.imul, 1) := by decide +kernel
theorem dX12_sayRow_39 : decode cX12_sayRow 39 = .ok (.iload_n 3, 1) := by decide +kernel
theorem dX12_sayRow_40 : decode cX12_sayRow 40 = .ok (.iadd, 1) := by decide +kernel
theorem dX12_sayRow_41 : decode cX12_sayRow 41 = .ok (.iaload, 1) := by decide +kernel
theorem dX12_sayRow_42 : decode cX12_sayRow 42 = .ok (.invokevirtual 298, 3) := by decide +kernel
theorem dX12_sayRow_45 : decode cX12_sayRow 45 = .ok (.iinc 3 1, 3) := by decide +kernel
theorem dX12_sayRow_48 : decode cX12_sayRow 48 = .ok (.goto (-46), 3) := by decide +kernel
theorem dX12_sayRow_51 : decode cX12_sayRow 51 = .ok (.aload_n 0, 1) := by decide +kernel
theorem dX12_sayRow_52 : decode cX12_sayRow 52 = .ok (.bipush 32, 2) := by decide +kernel
theorem dX12_sayRow_54 : decode cX12_sayRow 54 = .ok (.invokevirtual 298, 3) := by decide +kernel
theorem dX12_sayRow_57 : decode cX12_sayRow 57 = .ok (.iload_n 3, 1) := by decide +kernel
theorem dX12_sayRow_58 : decode cX12_sayRow 58 = .ok (.iconst 1, 1) := by decide +kernel
theorem dX12_sayRow_59 : decode cX12_sayRow 59 = .ok (.iadd, 1) := by decide +kernel
theorem dX12_sayRow_60 : decode cX12_sayRow 60 = .ok (.ireturn, 1) := by decide +kernel
theorem dX12_joined_0 : decode cX12_joined 0 = .ok (.aload_n 0, 1) := by decide +kernel
theorem dX12_joined_1 : decode cX12_joined 1 = .ok (.getfield 71, 3) := by decide +kernel
theorem dX12_joined_4 : decode cX12_joined 4 = .ok (.iload_n 1, 1) := by decide +kernel
theorem dX12_joined_5 : decode cX12_joined 5 = .ok (.iaload, 1) := by decide +kernel
theorem dX12_joined_6 : decode cX12_joined 6 = .ok (.ifCond .eq 46, 3) := by decide +kernel
theorem dX12_joined_9 : decode cX12_joined 9 = .ok (.aload_n 0, 1) := by decide +kernel
theorem dX12_joined_10 : decode cX12_joined 10 = .ok (.getfield 68, 3) := by decide +kernel
theorem dX12_joined_13 : decode cX12_joined 13 = .ok (.iload_n 2, 1) := by decide +kernel
theorem dX12_joined_14 : decode cX12_joined 14 = .ok (.iaload, 1) := by decide +kernel
theorem dX12_joined_15 : decode cX12_joined 15 = .ok (.ifCond .eq 37, 3) := by decide +kernel
theorem dX12_joined_18 : decode cX12_joined 18 = .ok (.aload_n 0, 1) := by decide +kernel
theorem dX12_joined_19 : decode cX12_joined 19 = .ok (.getfield 71, 3) := by decide +kernel
theorem dX12_joined_22 : decode cX12_joined 22 = .ok (.iload_n 1, 1) := by decide +kernel
theorem dX12_joined_23 : decode cX12_joined 23 = .ok (.iaload, 1) := by decide +kernel
theorem dX12_joined_24 : decode cX12_joined 24 = .ok (.aload_n 0, 1) := by decide +kernel
theorem dX12_joined_25 : decode cX12_joined 25 = .ok (.getfield 68, 3) := by decide +kernel
theorem dX12_joined_28 : decode cX12_joined 28 = .ok (.iload_n 2, 1) := by decide +kernel
theorem dX12_joined_29 : decode cX12_joined 29 = .ok (.iaload, 1) := by decide +kernel
theorem dX12_joined_30 : decode cX12_joined 30 = .ok (.iadd, 1) := by decide +kernel
theorem dX12_joined_31 : decode cX12_joined 31 = .ok (.ldc_w 288, 3) := by decide +kernel
theorem dX12_joined_34 : decode cX12_joined 34 = .ok (.if_icmp .ne 18, 3) := by decide +kernel
theorem dX12_joined_37 : decode cX12_joined 37 = .ok (.aload_n 0, 1) := by decide +kernel
theorem dX12_joined_38 : decode cX12_joined 38 = .ok (.getfield 74, 3) := by decide +kernel
theorem dX12_joined_41 : decode cX12_joined 41 = .ok (.iload_n 1, 1) := by decide +kernel
theorem dX12_joined_42 : decode cX12_joined 42 = .ok (.iaload, 1) := by decide +kernel
theorem dX12_joined_43 : decode cX12_joined 43 = .ok (.aload_n 0, 1) := by decide +kernel
theorem dX12_joined_44 : decode cX12_joined 44 = .ok (.getfield 74, 3) := by decide +kernel
theorem dX12_joined_47 : decode cX12_joined 47 = .ok (.iload_n 2, 1) := by decide +kernel
theorem dX12_joined_48 : decode cX12_joined 48 = .ok (.iaload, 1) := by decide +kernel
theorem dX12_joined_49 : decode cX12_joined 49 = .ok (.if_icmp .eq 5, 3) := by decide +kernel
theorem dX12_joined_52 : decode cX12_joined 52 = .ok (.iconst 0, 1) := by decide +kernel
theorem dX12_joined_53 : decode cX12_joined 53 = .ok (.ireturn, 1) := by decide +kernel
theorem dX12_joined_54 : decode cX12_joined 54 = .ok (.aload_n 0, 1) := by decide +kernel
theorem dX12_joined_55 : decode cX12_joined 55 = .ok (.getfield 201, 3) := by decide +kernel
theorem dX12_joined_58 : decode cX12_joined 58 = .ok (.ifCond .ne 5, 3) := by decide +kernel
theorem dX12_joined_61 : decode cX12_joined 61 = .ok (.iconst 1, 1) := by decide +kernel
theorem dX12_joined_62 : decode cX12_joined 62 = .ok (.ireturn, 1) := by decide +kernel
theorem dX12_joined_63 : decode cX12_joined 63 = .ok (.aload_n 0, 1) := by decide +kernel
theorem dX12_joined_64 : decode cX12_joined 64 = .ok (.iconst 0, 1) := by decide +kernel
theorem dX12_joined_65 : decode cX12_joined 65 = .ok (.putfield 97, 3) := by decide +kernel
theorem dX12_joined_68 : decode cX12_joined 68 = .ok (.iconst 0, 1) := by decide +kernel
theorem dX12_joined_69 : decode cX12_joined 69 = .ok (.istore_n 3, 1) := by decide +kernel
theorem dX12_joined_70 : decode cX12_joined 70 = .ok (.iconst 0, 1) := by decide +kernel
theorem dX12_joined_71 : decode cX12_joined 71 = .ok (.istore 4, 2) := by decide +kernel
theorem dX12_joined_73 : decode cX12_joined 73 = .ok (.iconst 0, 1) := by decide +kernel
theorem dX12_joined_74 : decode cX12_joined 74 = .ok (.istore 5, 2) := by decide +kernel
theorem dX12_joined_76 : decode cX12_joined 76 = .ok (.iload 5, 2) := by decide +kernel
theorem dX12_joined_78 : decode cX12_joined 78 = .ok (.aload_n 0, 1) := by decide +kernel
theorem dX12_joined_79 : decode cX12_joined 79 = .ok (.getfield 74, 3) := by decide +kernel
theorem dX12_joined_82 : decode cX12_joined 82 = .ok (.iload_n 1, 1) := by decide +kernel
theorem dX12_joined_83 : decode cX12_joined 83 = .ok (.iaload, 1) := by decide +kernel
theorem dX12_joined_84 : decode cX12_joined 84 = .ok (.if_icmp .ge 25, 3) := by decide +kernel
theorem dX12_joined_87 : decode cX12_joined 87 = .ok (.aload_n 0, 1) := by decide +kernel
theorem dX12_joined_88 : decode cX12_joined 88 = .ok (.iload_n 1, 1) := by decide +kernel
theorem dX12_joined_89 : decode cX12_joined 89 = .ok (.iload_n 3, 1) := by decide +kernel
theorem dX12_joined_90 : decode cX12_joined 90 = .ok (.invokevirtual 301, 3) := by decide +kernel
theorem dX12_joined_93 : decode cX12_joined 93 = .ok (.istore_n 3, 1) := by decide +kernel
theorem dX12_joined_94 : decode cX12_joined 94 = .ok (.aload_n 0, 1) := by decide +kernel
theorem dX12_joined_95 : decode cX12_joined 95 = .ok (.iload_n 2, 1) := by decide +kernel
theorem dX12_joined_96 : decode cX12_joined 96 = .ok (.iload 4, 2) := by decide +kernel
theorem dX12_joined_98 : decode cX12_joined 98 = .ok (.invokevirtual 301, 3) := by decide +kernel
theorem dX12_joined_101 : decode cX12_joined 101 = .ok (.istore 4, 2) := by decide +kernel
theorem dX12_joined_103 : decode cX12_joined 103 = .ok (.iinc 5 1, 3) := by decide +kernel
theorem dX12_joined_106 : decode cX12_joined 106 = .ok (.goto (-30), 3) := by decide +kernel
theorem dX12_joined_109 : decode cX12_joined 109 = .ok (.aload_n 0, 1) := by decide +kernel
theorem dX12_joined_110 : decode cX12_joined 110 = .ok (.getfield 150, 3) := by decide +kernel
theorem dX12_joined_113 : decode cX12_joined 113 = .ok (.istore 5, 2) := by decide +kernel
theorem dX12_joined_115 : decode cX12_joined 115 = .ok (.aload_n 0, 1) := by decide +kernel
theorem dX12_joined_116 : decode cX12_joined 116 = .ok (.getfield 153, 3) := by decide +kernel
theorem dX12_joined_119 : decode cX12_joined 119 = .ok (.istore 6, 2) := by decide +kernel
theorem dX12_joined_121 : decode cX12_joined 121 = .ok (.aload_n 0, 1) := by decide +kernel
theorem dX12_joined_122 : decode cX12_joined 122 = .ok (.sipush 300, 3) := by decide +kernel
theorem dX12_joined_125 : decode cX12_joined 125 = .ok (.iconst 1, 1) := by decide +kernel
theorem dX12_joined_126 : decode cX12_joined 126 = .ok (.invokevirtual 165, 3) := by decide +kernel
theorem dX12_joined_129 : decode cX12_joined 129 = .ok (.aload_n 0, 1) := by decide +kernel
theorem dX12_joined_130 : decode cX12_joined 130 = .ok (.bipush 8, 2) := by decide +kernel
theorem dX12_joined_132 : decode cX12_joined 132 = .ok (.invokevirtual 254, 3) := by decide +kernel
theorem dX12_joined_135 : decode cX12_joined 135 = .ok (.istore 7, 2) := by decide +kernel
theorem dX12_joined_137 : decode cX12_joined 137 = .ok (.iload 7, 2) := by decide +kernel
theorem dX12_joined_139 : decode cX12_joined 139 = .ok (.ifCond .eq 11, 3) := by decide +kernel
theorem dX12_joined_142 : decode cX12_joined 142 = .ok (.aload_n 0, 1) := by decide +kernel
theorem dX12_joined_143 : decode cX12_joined 143 = .ok (.bipush 8, 2) := by decide +kernel
theorem dX12_joined_145 : decode cX12_joined 145 = .ok (.iconst (-1), 1) := by decide +kernel
theorem dX12_joined_146 : decode cX12_joined 146 = .ok (.iconst (-1), 1) := by decide +kernel
theorem dX12_joined_147 : decode cX12_joined 147 = .ok (.invokevirtual 284, 3) := by decide +kernel
theorem dX12_joined_150 : decode cX12_joined 150 = .ok (.aload_n 0, 1) := by decide +kernel
theorem dX12_joined_151 : decode cX12_joined 151 = .ok (.iload 5, 2) := by decide +kernel
theorem dX12_joined_153 : decode cX12_joined 153 = .ok (.putfield 150, 3) := by decide +kernel
theorem dX12_joined_156 : decode cX12_joined 156 = .ok (.aload_n 0, 1) := by decide +kernel
theorem dX12_joined_157 : decode cX12_joined 157 = .ok (.iload 6, 2) := by decide +kernel
theorem dX12_joined_159 : decode cX12_joined 159 = .ok (.putfield 153, 3) := by decide +kernel
theorem dX12_joined_162 : decode cX12_joined 162 = .ok (.iload 7, 2) := by decide +kernel
theorem dX12_joined_164 : decode cX12_joined 164 = .ok (.ifCond .eq 14, 3) := by decide +kernel
theorem dX12_joined_167 : decode cX12_joined 167 = .ok (.aload_n 0, 1) := by decide +kernel
theorem dX12_joined_168 : decode cX12_joined 168 = .ok (.getfield 260, 3) := by decide +kernel
theorem dX12_joined_171 : decode cX12_joined 171 = .ok (.ifCond .le 7, 3) := by decide +kernel
theorem dX12_joined_174 : decode cX12_joined 174 = .ok (.iconst 2, 1) := by decide +kernel
theorem dX12_joined_175 : decode cX12_joined 175 = .ok (.goto 4, 3) := by decide +kernel
theorem dX12_joined_178 : decode cX12_joined 178 = .ok (.iconst 1, 1) := by decide +kernel
theorem dX12_joined_179 : decode cX12_joined 179 = .ok (.ireturn, 1) := by decide +kernel
theorem dX12_join_0 : decode cX12_join 0 = .ok (.aload_n 0, 1) := by decide +kernel
theorem dX12_join_1 : decode cX12_join 1 = .ok (.iconst 0, 1) := by decide +kernel
theorem dX12_join_2 : decode cX12_join 2 = .ok (.putfield 86, 3) := by decide +kernel
theorem dX12_join_5 : decode cX12_join 5 = .ok (.aload_n 0, 1) := by decide +kernel
theorem dX12_join_6 : decode cX12_join 6 = .ok (.iload_n 1, 1) := by decide +kernel
theorem dX12_join_7 : decode cX12_join 7 = .ok (.invokevirtual 295, 3) := by decide +kernel
theorem dX12_join_10 : decode cX12_join 10 = .ok (.ifCond .eq 16, 3) := by decide +kernel
theorem dX12_join_13 : decode cX12_join 13 = .ok (.aload_n 0, 1) := by decide +kernel
theorem dX12_join_14 : decode cX12_join 14 = .ok (.iload_n 2, 1) := by decide +kernel
theorem dX12_join_15 : decode cX12_join 15 = .ok (.invokevirtual 295, 3) := by decide +kernel
theorem dX12_join_18 : decode cX12_join 18 = .ok (.ifCond .eq 8, 3) := by decide +kernel
theorem dX12_join_21 : decode cX12_join 21 = .ok (.iload_n 1, 1) := by decide +kernel
theorem dX12_join_22 : decode cX12_join 22 = .ok (.iload_n 2, 1) := by decide +kernel
theorem dX12_join_23 : decode cX12_join 23 = .ok (.if_icmp .ne 7, 3) := by decide +kernel
theorem dX12_join_26 : decode cX12_join 26 = .ok (.iconst (-1), 1) := by decide +kernel
theorem dX12_join_27 : decode cX12_join 27 = .ok (.goto 9, 3) := by decide +kernel
theorem dX12_join_30 : decode cX12_join 30 = .ok (.aload_n 0, 1) := by decide +kernel
theorem dX12_join_31 : decode cX12_join 31 = .ok (.iload_n 1, 1) := by decide +kernel
theorem dX12_join_32 : decode cX12_join 32 = .ok (.iload_n 2, 1) := by decide +kernel
theorem dX12_join_33 : decode cX12_join 33 = .ok (.invokevirtual 304, 3) := by decide +kernel
theorem dX12_join_36 : decode cX12_join 36 = .ok (.ireturn, 1) := by decide +kernel
theorem dX12_forget_0 : decode cX12_forget 0 = .ok (.aload_n 0, 1) := by decide +kernel
theorem dX12_forget_1 : decode cX12_forget 1 = .ok (.iconst 0, 1) := by decide +kernel
theorem dX12_forget_2 : decode cX12_forget 2 = .ok (.putfield 307, 3) := by decide +kernel
theorem dX12_forget_5 : decode cX12_forget 5 = .ok (.aload_n 0, 1) := by decide +kernel
theorem dX12_forget_6 : decode cX12_forget 6 = .ok (.iconst 0, 1) := by decide +kernel
theorem dX12_forget_7 : decode cX12_forget 7 = .ok (.putfield 310, 3) := by decide +kernel
theorem dX12_forget_10 : decode cX12_forget 10 = .ok (.return_, 1) := by decide +kernel
theorem dX12_lowest_0 : decode cX12_lowest 0 = .ok (.iconst 0, 1) := by decide +kernel
theorem dX12_lowest_1 : decode cX12_lowest 1 = .ok (.istore_n 1, 1) := by decide +kernel
theorem dX12_lowest_2 : decode cX12_lowest 2 = .ok (.iload_n 0, 1) := by decide +kernel
theorem dX12_lowest_3 : decode cX12_lowest 3 = .ok (.iload_n 1, 1) := by decide +kernel
theorem dX12_lowest_4 : decode cX12_lowest 4 = .ok (.ishr, 1) := by decide +kernel
theorem dX12_lowest_5 : decode cX12_lowest 5 = .ok (.iconst 1, 1) := by decide +kernel
theorem dX12_lowest_6 : decode cX12_lowest 6 = .ok (.iand, 1) := by decide +kernel
theorem dX12_lowest_7 : decode cX12_lowest 7 = .ok (.ifCond .ne 9, 3) := by decide +kernel
theorem dX12_lowest_10 : decode cX12_lowest 10 = .ok (.iinc 1 1, 3) := by decide +kernel
theorem dX12_lowest_13 : decode cX12_lowest 13 = .ok (.goto (-11), 3) := by decide +kernel
theorem dX12_lowest_16 : decode cX12_lowest 16 = .ok (.iload_n 1, 1) := by decide +kernel
theorem dX12_lowest_17 : decode cX12_lowest 17 = .ok (.ireturn, 1) := by decide +kernel
theorem dX12_match_0 : decode cX12_match 0 = .ok (.aload_n 0, 1) := by decide +kernel
theorem dX12_match_1 : decode cX12_match 1 = .ok (.iconst 0, 1) := by decide +kernel
theorem dX12_match_2 : decode cX12_match 2 = .ok (.putfield 86, 3) := by decide +kernel
theorem dX12_match_5 : decode cX12_match 5 = .ok (.aload_n 0, 1) := by decide +kernel
theorem dX12_match_6 : decode cX12_match 6 = .ok (.getfield 289, 3) := by decide +kernel
theorem dX12_match_9 : decode cX12_match 9 = .ok (.istore_n 1, 1) := by decide +kernel
theorem dX12_match_10 : decode cX12_match 10 = .ok (.iconst 0, 1) := by decide +kernel
theorem dX12_match_11 : decode cX12_match 11 = .ok (.istore_n 2, 1) := by decide +kernel
theorem dX12_match_12 : decode cX12_match 12 = .ok (.iload_n 2, 1) := by decide +kernel
theorem dX12_match_13 : decode cX12_match 13 = .ok (.iload_n 1, 1) := by decide +kernel
theorem dX12_match_14 : decode cX12_match 14 = .ok (.if_icmp .ge 80, 3) := by decide +kernel
theorem dX12_match_17 : decode cX12_match 17 = .ok (.iload_n 2, 1) := by decide +kernel
theorem dX12_match_18 : decode cX12_match 18 = .ok (.iconst 1, 1) := by decide +kernel
theorem dX12_match_19 : decode cX12_match 19 = .ok (.iadd, 1) := by decide +kernel
theorem dX12_match_20 : decode cX12_match 20 = .ok (.istore_n 3, 1) := by decide +kernel
theorem dX12_match_21 : decode cX12_match 21 = .ok (.iload_n 3, 1) := by decide +kernel
theorem dX12_match_22 : decode cX12_match 22 = .ok (.iload_n 1, 1) := by decide +kernel
theorem dX12_match_23 : decode cX12_match 23 = .ok (.if_icmp .ge 65, 3) := by decide +kernel
theorem dX12_match_26 : decode cX12_match 26 = .ok (.aload_n 0, 1) := by decide +kernel
theorem dX12_match_27 : decode cX12_match 27 = .ok (.iload_n 2, 1) := by decide +kernel
theorem dX12_match_28 : decode cX12_match 28 = .ok (.iload_n 3, 1) := by decide +kernel
theorem dX12_match_29 : decode cX12_match 29 = .ok (.invokevirtual 304, 3) := by decide +kernel
theorem dX12_match_32 : decode cX12_match 32 = .ok (.istore 4, 2) := by decide +kernel
theorem dX12_match_34 : decode cX12_match 34 = .ok (.aload_n 0, 1) := by decide +kernel
theorem dX12_match_35 : decode cX12_match 35 = .ok (.iload_n 3, 1) := by decide +kernel
theorem dX12_match_36 : decode cX12_match 36 = .ok (.iload_n 2, 1) := by decide +kernel
theorem dX12_match_37 : decode cX12_match 37 = .ok (.invokevirtual 304, 3) := by decide +kernel
theorem dX12_match_40 : decode cX12_match 40 = .ok (.istore 5, 2) := by decide +kernel
theorem dX12_match_42 : decode cX12_match 42 = .ok (.iload 4, 2) := by decide +kernel
theorem dX12_match_44 : decode cX12_match 44 = .ok (.iload 5, 2) := by decide +kernel
theorem dX12_match_46 : decode cX12_match 46 = .ok (.if_icmp .le 8, 3) := by decide +kernel
theorem dX12_match_49 : decode cX12_match 49 = .ok (.iload 4, 2) := by decide +kernel
theorem dX12_match_51 : decode cX12_match 51 = .ok (.goto 5, 3) := by decide +kernel
theorem dX12_match_54 : decode cX12_match 54 = .ok (.iload 5, 2) := by decide +kernel
theorem dX12_match_56 : decode cX12_match 56 = .ok (.istore 6, 2) := by decide +kernel
theorem dX12_match_58 : decode cX12_match 58 = .ok (.aload_n 0, 1) := by decide +kernel
theorem dX12_match_59 : decode cX12_match 59 = .ok (.getfield 77, 3) := by decide +kernel
theorem dX12_match_62 : decode cX12_match 62 = .ok (.bipush 12, 2) := by decide +kernel
theorem dX12_match_64 : decode cX12_match 64 = .ok (.iload_n 2, 1) := by decide +kernel
theorem dX12_match_65 : decode cX12_match 65 = .ok (.imul, 1) := by decide +kernel
theorem dX12_match_66 : decode cX12_match 66 = .ok (.iload_n 3, 1) := by decide +kernel
theorem dX12_match_67 : decode cX12_match 67 = .ok (.iadd, 1) := by decide +kernel
theorem dX12_match_68 : decode cX12_match 68 = .ok (.iload 6, 2) := by decide +kernel
theorem dX12_match_70 : decode cX12_match 70 = .ok (.iconst 2, 1) := by decide +kernel
theorem dX12_match_71 : decode cX12_match 71 = .ok (.if_icmp .ne 8, 3) := by decide +kernel
theorem dX12_match_74 : decode cX12_match 74 = .ok (.bipush 101, 2) := by decide +kernel
theorem dX12_match_76 : decode cX12_match 76 = .ok (.goto 5, 3) := by decide +kernel
theorem dX12_match_79 : decode cX12_match 79 = .ok (.iload 6, 2) := by decide +kernel
theorem dX12_match_81 : decode cX12_match 81 = .ok (.iastore, 1) := by decide +kernel
theorem dX12_match_82 : decode cX12_match 82 = .ok (.iinc 3 1, 3) := by decide +kernel
theorem dX12_match_85 : decode cX12_match 85 = .ok (.goto (-64), 3) := by decide +kernel
theorem dX12_match_88 : decode cX12_match 88 = .ok (.iinc 2 1, 3) := by decide +kernel
theorem dX12_match_91 : decode cX12_match 91 = .ok (.goto (-79), 3) := by decide +kernel
theorem dX12_match_94 : decode cX12_match 94 = .ok (.aload_n 0, 1) := by decide +kernel
theorem dX12_match_95 : decode cX12_match 95 = .ok (.getfield 80, 3) := by decide +kernel
theorem dX12_match_98 : decode cX12_match 98 = .ok (.iconst 0, 1) := by decide +kernel
theorem dX12_match_99 : decode cX12_match 99 = .ok (.iconst 0, 1) := by decide +kernel
theorem dX12_match_100 : decode cX12_match 100 = .ok (.iastore, 1) := by decide +kernel
theorem dX12_match_101 : decode cX12_match 101 = .ok (.iconst 1, 1) := by decide +kernel
theorem dX12_match_102 : decode cX12_match 102 = .ok (.istore_n 2, 1) := by decide +kernel
theorem dX12_match_103 : decode cX12_match 103 = .ok (.iload_n 2, 1) := by decide +kernel
theorem dX12_match_104 : decode cX12_match 104 = .ok (.iconst 1, 1) := by decide +kernel
theorem dX12_match_105 : decode cX12_match 105 = .ok (.iload_n 1, 1) := by decide +kernel
theorem dX12_match_106 : decode cX12_match 106 = .ok (.ishl, 1) := by decide +kernel
theorem dX12_match_107 : decode cX12_match 107 = .ok (.if_icmp .ge 129, 3) := by decide +kernel
theorem dX12_match_110 : decode cX12_match 110 = .ok (.iload_n 2, 1) := by decide +kernel
theorem dX12_match_111 : decode cX12_match 111 = .ok (.invokestatic 313, 3) := by decide +kernel
theorem dX12_match_114 : decode cX12_match 114 = .ok (.istore_n 3, 1) := by decide +kernel
theorem dX12_match_115 : decode cX12_match 115 = .ok (.iload_n 2, 1) := by decide +kernel
theorem dX12_match_116 : decode cX12_match 116 = .ok (.iconst 1, 1) := by decide +kernel
theorem dX12_match_117 : decode cX12_match 117 = .ok (.iload_n 3, 1) := by decide +kernel
theorem dX12_match_118 : decode cX12_match 118 = .ok (.ishl, 1) := by decide +kernel
theorem dX12_match_119 : decode cX12_match 119 = .ok (.iconst (-1), 1) := by decide +kernel
theorem dX12_match_120 : decode cX12_match 120 = .ok (.ixor, 1) := by decide +kernel
theorem dX12_match_121 : decode cX12_match 121 = .ok (.iand, 1) := by decide +kernel
theorem dX12_match_122 : decode cX12_match 122 = .ok (.istore 4, 2) := by decide +kernel
theorem dX12_match_124 : decode cX12_match 124 = .ok (.aload_n 0, 1) := by decide +kernel
theorem dX12_match_125 : decode cX12_match 125 = .ok (.getfield 80, 3) := by decide +kernel
theorem dX12_match_128 : decode cX12_match 128 = .ok (.iload_n 2, 1) := by decide +kernel
theorem dX12_match_129 : decode cX12_match 129 = .ok (.aload_n 0, 1) := by decide +kernel
theorem dX12_match_130 : decode cX12_match 130 = .ok (.getfield 80, 3) := by decide +kernel
theorem dX12_match_133 : decode cX12_match 133 = .ok (.iload 4, 2) := by decide +kernel
theorem dX12_match_135 : decode cX12_match 135 = .ok (.iaload, 1) := by decide +kernel
theorem dX12_match_136 : decode cX12_match 136 = .ok (.iastore, 1) := by decide +kernel
theorem dX12_match_137 : decode cX12_match 137 = .ok (.iload_n 3, 1) := by decide +kernel
theorem dX12_match_138 : decode cX12_match 138 = .ok (.iconst 1, 1) := by decide +kernel
theorem dX12_match_139 : decode cX12_match 139 = .ok (.iadd, 1) := by decide +kernel
theorem dX12_match_140 : decode cX12_match 140 = .ok (.istore 5, 2) := by decide +kernel
theorem dX12_match_142 : decode cX12_match 142 = .ok (.iload 5, 2) := by decide +kernel
theorem dX12_match_144 : decode cX12_match 144 = .ok (.iload_n 1, 1) := by decide +kernel
theorem dX12_match_145 : decode cX12_match 145 = .ok (.if_icmp .ge 85, 3) := by decide +kernel
theorem dX12_match_148 : decode cX12_match 148 = .ok (.iload 4, 2) := by decide +kernel
theorem dX12_match_150 : decode cX12_match 150 = .ok (.iload 5, 2) := by decide +kernel
theorem dX12_match_152 : decode cX12_match 152 = .ok (.ishr, 1) := by decide +kernel
theorem dX12_match_153 : decode cX12_match 153 = .ok (.iconst 1, 1) := by decide +kernel
theorem dX12_match_154 : decode cX12_match 154 = .ok (.iand, 1) := by decide +kernel
theorem dX12_match_155 : decode cX12_match 155 = .ok (.ifCond .eq 69, 3) := by decide +kernel
theorem dX12_match_158 : decode cX12_match 158 = .ok (.aload_n 0, 1) := by decide +kernel
theorem dX12_match_159 : decode cX12_match 159 = .ok (.getfield 77, 3) := by decide +kernel
theorem dX12_match_162 : decode cX12_match 162 = .ok (.bipush 12, 2) := by decide +kernel
theorem dX12_match_164 : decode cX12_match 164 = .ok (.iload_n 3, 1) := by decide +kernel
theorem dX12_match_165 : decode cX12_match 165 = .ok (.imul, 1) := by decide +kernel
theorem dX12_match_166 : decode cX12_match 166 = .ok (.iload 5, 2) := by decide +kernel
theorem dX12_match_168 : decode cX12_match 168 = .ok (.iadd, 1) := by decide +kernel
theorem dX12_match_169 : decode cX12_match 169 = .ok (.iaload, 1) := by decide +kernel
theorem dX12_match_170 : decode cX12_match 170 = .ok (.ifCond .ne 6, 3) := by decide +kernel
theorem dX12_match_173 : decode cX12_match 173 = .ok (.goto 51, 3) := by decide +kernel
theorem dX12_match_176 : decode cX12_match 176 = .ok (.aload_n 0, 1) := by decide +kernel
theorem dX12_match_177 : decode cX12_match 177 = .ok (.getfield 77, 3) := by decide +kernel
theorem dX12_match_180 : decode cX12_match 180 = .ok (.bipush 12, 2) := by decide +kernel
theorem dX12_match_182 : decode cX12_match 182 = .ok (.iload_n 3, 1) := by decide +kernel
theorem dX12_match_183 : decode cX12_match 183 = .ok (.imul, 1) := by decide +kernel
theorem dX12_match_184 : decode cX12_match 184 = .ok (.iload 5, 2) := by decide +kernel
theorem dX12_match_186 : decode cX12_match 186 = .ok (.iadd, 1) := by decide +kernel
theorem dX12_match_187 : decode cX12_match 187 = .ok (.iaload, 1) := by decide +kernel
theorem dX12_match_188 : decode cX12_match 188 = .ok (.aload_n 0, 1) := by decide +kernel
theorem dX12_match_189 : decode cX12_match 189 = .ok (.getfield 80, 3) := by decide +kernel
theorem dX12_match_192 : decode cX12_match 192 = .ok (.iload 4, 2) := by decide +kernel
theorem dX12_match_194 : decode cX12_match 194 = .ok (.iconst 1, 1) := by decide +kernel
theorem dX12_match_195 : decode cX12_match 195 = .ok (.iload 5, 2) := by decide +kernel
theorem dX12_match_197 : decode cX12_match 197 = .ok (.ishl, 1) := by decide +kernel
theorem dX12_match_198 : decode cX12_match 198 = .ok (.iconst (-1), 1) := by decide +kernel
theorem dX12_match_199 : decode cX12_match 199 = .ok (.ixor, 1) := by decide +kernel
theorem dX12_match_200 : decode cX12_match 200 = .ok (.iand, 1) := by decide +kernel
theorem dX12_match_201 : decode cX12_match 201 = .ok (.iaload, 1) := by decide +kernel
theorem dX12_match_202 : decode cX12_match 202 = .ok (.iadd, 1) := by decide +kernel
theorem dX12_match_203 : decode cX12_match 203 = .ok (.istore 6, 2) := by decide +kernel
theorem dX12_match_205 : decode cX12_match 205 = .ok (.iload 6, 2) := by decide +kernel
theorem dX12_match_207 : decode cX12_match 207 = .ok (.aload_n 0, 1) := by decide +kernel
theorem dX12_match_208 : decode cX12_match 208 = .ok (.getfield 80, 3) := by decide +kernel
theorem dX12_match_211 : decode cX12_match 211 = .ok (.iload_n 2, 1) := by decide +kernel
theorem dX12_match_212 : decode cX12_match 212 = .ok (.iaload, 1) := by decide +kernel
theorem dX12_match_213 : decode cX12_match 213 = .ok (.if_icmp .le 11, 3) := by decide +kernel
theorem dX12_match_216 : decode cX12_match 216 = .ok (.aload_n 0, 1) := by decide +kernel
theorem dX12_match_217 : decode cX12_match 217 = .ok (.getfield 80, 3) := by decide +kernel
theorem dX12_match_220 : decode cX12_match 220 = .ok (.iload_n 2, 1) := by decide +kernel
theorem dX12_match_221 : decode cX12_match 221 = .ok (.iload 6, 2) := by decide +kernel
theorem dX12_match_223 : decode cX12_match 223 = .ok (.iastore, 1) := by decide +kernel
theorem dX12_match_224 : decode cX12_match 224 = .ok (.iinc 5 1, 3) := by decide +kernel
theorem dX12_match_227 : decode cX12_match 227 = .ok (.goto (-85), 3) := by decide +kernel
theorem dX12_match_230 : decode cX12_match 230 = .ok (.iinc 2 1, 3) := by decide +kernel
theorem dX12_match_233 : decode cX12_match 233 = .ok (.goto (-130), 3) := by decide +kernel
theorem dX12_match_236 : decode cX12_match 236 = .ok (.aload_n 0, 1) := by decide +kernel
theorem dX12_match_237 : decode cX12_match 237 = .ok (.iconst 1, 1) := by decide +kernel
theorem dX12_match_238 : decode cX12_match 238 = .ok (.putfield 307, 3) := by decide +kernel
theorem dX12_match_241 : decode cX12_match 241 = .ok (.aload_n 0, 1) := by decide +kernel
theorem dX12_match_242 : decode cX12_match 242 = .ok (.iconst 0, 1) := by decide +kernel
theorem dX12_match_243 : decode cX12_match 243 = .ok (.putfield 310, 3) := by decide +kernel
theorem dX12_match_246 : decode cX12_match 246 = .ok (.iconst 0, 1) := by decide +kernel
theorem dX12_match_247 : decode cX12_match 247 = .ok (.istore_n 2, 1) := by decide +kernel
theorem dX12_match_248 : decode cX12_match 248 = .ok (.iconst 0, 1) := by decide +kernel
theorem dX12_match_249 : decode cX12_match 249 = .ok (.istore_n 3, 1) := by decide +kernel
theorem dX12_match_250 : decode cX12_match 250 = .ok (.iload_n 3, 1) := by decide +kernel
theorem dX12_match_251 : decode cX12_match 251 = .ok (.bipush 12, 2) := by decide +kernel
theorem dX12_match_253 : decode cX12_match 253 = .ok (.if_icmp .ge 16, 3) := by decide +kernel
theorem dX12_match_256 : decode cX12_match 256 = .ok (.aload_n 0, 1) := by decide +kernel
theorem dX12_match_257 : decode cX12_match 257 = .ok (.getfield 83, 3) := by decide +kernel
theorem dX12_match_260 : decode cX12_match 260 = .ok (.iload_n 3, 1) := by decide +kernel
theorem dX12_match_261 : decode cX12_match 261 = .ok (.iconst (-1), 1) := by decide +kernel
theorem dX12_match_262 : decode cX12_match 262 = .ok (.iastore, 1) := by decide +kernel
theorem dX12_match_263 : decode cX12_match 263 = .ok (.iinc 3 1, 3) := by decide +kernel
theorem dX12_match_266 : decode cX12_match 266 = .ok (.goto (-16), 3) := by decide +kernel
theorem dX12_match_269 : decode cX12_match 269 = .ok (.iconst 1, 1) := by decide +kernel
theorem dX12_match_270 : decode cX12_match 270 = .ok (.iload_n 1, 1) := by decide +kernel
theorem dX12_match_271 : decode cX12_match 271 = .ok (.ishl, 1) := by decide +kernel
theorem dX12_match_272 : decode cX12_match 272 = .ok (.iconst 1, 1) := by decide +kernel
theorem dX12_match_273 : decode cX12_match 273 = .ok (.isub, 1) := by decide +kernel
theorem dX12_match_274 : decode cX12_match 274 = .ok (.istore_n 3, 1) := by decide +kernel
theorem dX12_match_275 : decode cX12_match 275 = .ok (.iload_n 3, 1) := by decide +kernel
theorem dX12_match_276 : decode cX12_match 276 = .ok (.ifCond .eq 193, 3) := by decide +kernel
theorem dX12_match_279 : decode cX12_match 279 = .ok (.iload_n 3, 1) := by decide +kernel
theorem dX12_match_280 : decode cX12_match 280 = .ok (.invokestatic 313, 3) := by decide +kernel
theorem dX12_match_283 : decode cX12_match 283 = .ok (.istore 4, 2) := by decide +kernel
theorem dX12_match_285 : decode cX12_match 285 = .ok (.iload_n 3, 1) := by decide +kernel
theorem dX12_match_286 : decode cX12_match 286 = .ok (.iconst 1, 1) := by decide +kernel
theorem dX12_match_287 : decode cX12_match 287 = .ok (.iload 4, 2) := by decide +kernel
theorem dX12_match_289 : decode cX12_match 289 = .ok (.ishl, 1) := by decide +kernel
theorem dX12_match_290 : decode cX12_match 290 = .ok (.iconst (-1), 1) := by decide +kernel
theorem dX12_match_291 : decode cX12_match 291 = .ok (.ixor, 1) := by decide +kernel
theorem dX12_match_292 : decode cX12_match 292 = .ok (.iand, 1) := by decide +kernel
theorem dX12_match_293 : decode cX12_match 293 = .ok (.istore_n 3, 1) := by decide +kernel
theorem dX12_match_294 : decode cX12_match 294 = .ok (.iload 4, 2) := by decide +kernel
theorem dX12_match_296 : decode cX12_match 296 = .ok (.iconst 1, 1) := by decide +kernel
theorem dX12_match_297 : decode cX12_match 297 = .ok (.iadd, 1) := by decide +kernel
theorem dX12_match_298 : decode cX12_match 298 = .ok (.istore 5, 2) := by decide +kernel
theorem dX12_match_300 : decode cX12_match 300 = .ok (.iload 5, 2) := by decide +kernel
theorem dX12_match_302 : decode cX12_match 302 = .ok (.iload_n 1, 1) := by decide +kernel
theorem dX12_match_303 : decode cX12_match 303 = .ok (.if_icmp .ge 138, 3) := by decide +kernel
theorem dX12_match_306 : decode cX12_match 306 = .ok (.aload_n 0, 1) := by decide +kernel
theorem dX12_match_307 : decode cX12_match 307 = .ok (.getfield 83, 3) := by decide +kernel
theorem dX12_match_310 : decode cX12_match 310 = .ok (.iload 4, 2) := by decide +kernel
theorem dX12_match_312 : decode cX12_match 312 = .ok (.iaload, 1) := by decide +kernel
theorem dX12_match_313 : decode cX12_match 313 = .ok (.iconst (-1), 1) := by decide +kernel
theorem dX12_match_314 : decode cX12_match 314 = .ok (.if_icmp .ne 127, 3) := by decide +kernel
theorem dX12_match_317 : decode cX12_match 317 = .ok (.iload_n 3, 1) := by decide +kernel
theorem dX12_match_318 : decode cX12_match 318 = .ok (.iload 5, 2) := by decide +kernel
theorem dX12_match_320 : decode cX12_match 320 = .ok (.ishr, 1) := by decide +kernel
theorem dX12_match_321 : decode cX12_match 321 = .ok (.iconst 1, 1) := by decide +kernel
theorem dX12_match_322 : decode cX12_match 322 = .ok (.iand, 1) := by decide +kernel
theorem dX12_match_323 : decode cX12_match 323 = .ok (.ifCond .eq 112, 3) := by decide +kernel
theorem dX12_match_326 : decode cX12_match 326 = .ok (.aload_n 0, 1) := by decide +kernel
theorem dX12_match_327 : decode cX12_match 327 = .ok (.getfield 77, 3) := by decide +kernel
theorem dX12_match_330 : decode cX12_match 330 = .ok (.bipush 12, 2) := by decide +kernel
theorem dX12_match_332 : decode cX12_match 332 = .ok (.iload 4, 2) := by decide +kernel
theorem dX12_match_334 : decode cX12_match 334 = .ok (.imul, 1) := by decide +kernel
theorem dX12_match_335 : decode cX12_match 335 = .ok (.iload 5, 2) := by decide +kernel
theorem dX12_match_337 : decode cX12_match 337 = .ok (.iadd, 1) := by decide +kernel
theorem dX12_match_338 : decode cX12_match 338 = .ok (.iaload, 1) := by decide +kernel
theorem dX12_match_339 : decode cX12_match 339 = .ok (.ifCond .eq 96, 3) := by decide +kernel
theorem dX12_match_342 : decode cX12_match 342 = .ok (.aload_n 0, 1) := by decide +kernel
theorem dX12_match_343 : decode cX12_match 343 = .ok (.getfield 77, 3) := by decide +kernel
theorem dX12_match_346 : decode cX12_match 346 = .ok (.bipush 12, 2) := by decide +kernel
theorem dX12_match_348 : decode cX12_match 348 = .ok (.iload 4, 2) := by decide +kernel
theorem dX12_match_350 : decode cX12_match 350 = .ok (.imul, 1) := by decide +kernel
theorem dX12_match_351 : decode cX12_match 351 = .ok (.iload 5, 2) := by decide +kernel
theorem dX12_match_353 : decode cX12_match 353 = .ok (.iadd, 1) := by decide +kernel
theorem dX12_match_354 : decode cX12_match 354 = .ok (.iaload, 1) := by decide +kernel
theorem dX12_match_355 : decode cX12_match 355 = .ok (.aload_n 0, 1) := by decide +kernel
theorem dX12_match_356 : decode cX12_match 356 = .ok (.getfield 80, 3) := by decide +kernel
theorem dX12_match_359 : decode cX12_match 359 = .ok (.iload_n 3, 1) := by decide +kernel
theorem dX12_match_360 : decode cX12_match 360 = .ok (.iconst 1, 1) := by decide +kernel
theorem dX12_match_361 : decode cX12_match 361 = .ok (.iload 5, 2) := by decide +kernel
theorem dX12_match_363 : decode cX12_match 363 = .ok (.ishl, 1) := by decide +kernel
theorem dX12_match_364 : decode cX12_match 364 = .ok (.iconst (-1), 1) := by decide +kernel
theorem dX12_match_365 : decode cX12_match 365 = .ok (.ixor, 1) := by decide +kernel
theorem dX12_match_366 : decode cX12_match 366 = .ok (.iand, 1) := by decide +kernel
theorem dX12_match_367 : decode cX12_match 367 = .ok (.iaload, 1) := by decide +kernel
theorem dX12_match_368 : decode cX12_match 368 = .ok (.iadd, 1) := by decide +kernel
theorem dX12_match_369 : decode cX12_match 369 = .ok (.aload_n 0, 1) := by decide +kernel
theorem dX12_match_370 : decode cX12_match 370 = .ok (.getfield 80, 3) := by decide +kernel
theorem dX12_match_373 : decode cX12_match 373 = .ok (.iload_n 3, 1) := by decide +kernel
theorem dX12_match_374 : decode cX12_match 374 = .ok (.iconst 1, 1) := by decide +kernel
theorem dX12_match_375 : decode cX12_match 375 = .ok (.iload 4, 2) := by decide +kernel
theorem dX12_match_377 : decode cX12_match 377 = .ok (.ishl, 1) := by decide +kernel
theorem dX12_match_378 : decode cX12_match 378 = .ok (.ior, 1) := by decide +kernel
theorem dX12_match_379 : decode cX12_match 379 = .ok (.iaload, 1) := by decide +kernel
theorem dX12_match_380 : decode cX12_match 380 = .ok (.if_icmp .eq 6, 3) := by decide +kernel
theorem dX12_match_383 : decode cX12_match 383 = .ok (.goto 52, 3) := by decide +kernel
theorem dX12_match_386 : decode cX12_match 386 = .ok (.aload_n 0, 1) := by decide +kernel
theorem dX12_match_387 : decode cX12_match 387 = .ok (.getfield 83, 3) := by decide +kernel
theorem dX12_match_390 : decode cX12_match 390 = .ok (.iload 4, 2) := by decide +kernel
theorem dX12_match_392 : decode cX12_match 392 = .ok (.iload 5, 2) := by decide +kernel
theorem dX12_match_394 : decode cX12_match 394 = .ok (.iastore, 1) := by decide +kernel
theorem dX12_match_395 : decode cX12_match 395 = .ok (.aload_n 0, 1) := by decide +kernel
theorem dX12_match_396 : decode cX12_match 396 = .ok (.getfield 83, 3) := by decide +kernel
theorem dX12_match_399 : decode cX12_match 399 = .ok (.iload 5, 2) := by decide +kernel
theorem dX12_match_401 : decode cX12_match 401 = .ok (.iload 4, 2) := by decide +kernel
theorem dX12_match_403 : decode cX12_match 403 = .ok (.iastore, 1) := by decide +kernel
theorem dX12_match_404 : decode cX12_match 404 = .ok (.iinc 2 1, 3) := by decide +kernel
theorem dX12_match_407 : decode cX12_match 407 = .ok (.aload_n 0, 1) := by decide +kernel
theorem dX12_match_408 : decode cX12_match 408 = .ok (.getfield 77, 3) := by decide +kernel
theorem dX12_match_411 : decode cX12_match 411 = .ok (.bipush 12, 2) := by decide +kernel
theorem dX12_match_413 : decode cX12_match 413 = .ok (.iload 4, 2) := by decide +kernel
theorem dX12_match_415 : decode cX12_match 415 = .ok (.imul, 1) := by decide +kernel
theorem dX12_match_416 : decode cX12_match 416 = .ok (.iload 5, 2) := by decide +kernel
theorem dX12_match_418 : decode cX12_match 418 = .ok (.iadd, 1) := by decide +kernel
theorem dX12_match_419 : decode cX12_match 419 = .ok (.iaload, 1) := by decide +kernel
theorem dX12_match_420 : decode cX12_match 420 = .ok (.bipush 101, 2) := by decide +kernel
theorem dX12_match_422 : decode cX12_match 422 = .ok (.if_icmp .ne 13, 3) := by decide +kernel
theorem dX12_match_425 : decode cX12_match 425 = .ok (.aload_n 0, 1) := by decide +kernel
theorem dX12_match_426 : decode cX12_match 426 = .ok (.dup, 1) := by decide +kernel
theorem dX12_match_427 : decode cX12_match 427 = .ok (.getfield 310, 3) := by decide +kernel
theorem dX12_match_430 : decode cX12_match 430 = .ok (.iconst 1, 1) := by decide +kernel
theorem dX12_match_431 : decode cX12_match 431 = .ok (.iadd, 1) := by decide +kernel
theorem dX12_match_432 : decode cX12_match 432 = .ok (.putfield 310, 3) := by decide +kernel
theorem dX12_match_435 : decode cX12_match 435 = .ok (.iinc 5 1, 3) := by decide +kernel
theorem dX12_match_438 : decode cX12_match 438 = .ok (.goto (-138), 3) := by decide +kernel
theorem dX12_match_441 : decode cX12_match 441 = .ok (.aload_n 0, 1) := by decide +kernel
theorem dX12_match_442 : decode cX12_match 442 = .ok (.getfield 83, 3) := by decide +kernel
theorem dX12_match_445 : decode cX12_match 445 = .ok (.iload 4, 2) := by decide +kernel
theorem dX12_match_447 : decode cX12_match 447 = .ok (.iaload, 1) := by decide +kernel
theorem dX12_match_448 : decode cX12_match 448 = .ok (.iconst (-1), 1) := by decide +kernel
theorem dX12_match_449 : decode cX12_match 449 = .ok (.if_icmp .eq 17, 3) := by decide +kernel
theorem dX12_match_452 : decode cX12_match 452 = .ok (.iload_n 3, 1) := by decide +kernel
theorem dX12_match_453 : decode cX12_match 453 = .ok (.iconst 1, 1) := by decide +kernel
theorem dX12_match_454 : decode cX12_match 454 = .ok (.aload_n 0, 1) := by decide +kernel
theorem dX12_match_455 : decode cX12_match 455 = .ok (.getfield 83, 3) := by decide +kernel
theorem dX12_match_458 : decode cX12_match 458 = .ok (.iload 4, 2) := by decide +kernel
theorem dX12_match_460 : decode cX12_match 460 = .ok (.iaload, 1) := by decide +kernel
theorem dX12_match_461 : decode cX12_match 461 = .ok (.ishl, 1) := by decide +kernel
theorem dX12_match_462 : decode cX12_match 462 = .ok (.iconst (-1), 1) := by decide +kernel
theorem dX12_match_463 : decode cX12_match 463 = .ok (.ixor, 1) := by decide +kernel
theorem dX12_match_464 : decode cX12_match 464 = .ok (.iand, 1) := by decide +kernel
theorem dX12_match_465 : decode cX12_match 465 = .ok (.istore_n 3, 1) := by decide +kernel
theorem dX12_match_466 : decode cX12_match 466 = .ok (.goto (-191), 3) := by decide +kernel
theorem dX12_match_469 : decode cX12_match 469 = .ok (.iload_n 2, 1) := by decide +kernel
theorem dX12_match_470 : decode cX12_match 470 = .ok (.ireturn, 1) := by decide +kernel
theorem dX12_matched_0 : decode cX12_matched 0 = .ok (.aload_n 0, 1) := by decide +kernel
theorem dX12_matched_1 : decode cX12_matched 1 = .ok (.iconst 0, 1) := by decide +kernel
theorem dX12_matched_2 : decode cX12_matched 2 = .ok (.putfield 86, 3) := by decide +kernel
theorem dX12_matched_5 : decode cX12_matched 5 = .ok (.aload_n 0, 1) := by decide +kernel
theorem dX12_matched_6 : decode cX12_matched 6 = .ok (.getfield 307, 3) := by decide +kernel
theorem dX12_matched_9 : decode cX12_matched 9 = .ok (.ifCond .eq 20, 3) := by decide +kernel
theorem dX12_matched_12 : decode cX12_matched 12 = .ok (.aload_n 0, 1) := by decide +kernel
theorem dX12_matched_13 : decode cX12_matched 13 = .ok (.iload_n 1, 1) := by decide +kernel
theorem dX12_matched_14 : decode cX12_matched 14 = .ok (.invokevirtual 295, 3) := by decide +kernel
theorem dX12_matched_17 : decode cX12_matched 17 = .ok (.ifCond .eq 12, 3) := by decide +kernel
theorem dX12_matched_20 : decode cX12_matched 20 = .ok (.aload_n 0, 1) := by decide +kernel
theorem dX12_matched_21 : decode cX12_matched 21 = .ok (.getfield 83, 3) := by decide +kernel
theorem dX12_matched_24 : decode cX12_matched 24 = .ok (.iload_n 1, 1) := by decide +kernel
theorem dX12_matched_25 : decode cX12_matched 25 = .ok (.iaload, 1) := by decide +kernel
theorem dX12_matched_26 : decode cX12_matched 26 = .ok (.goto 4, 3) := by decide +kernel
theorem dX12_matched_29 : decode cX12_matched 29 = .ok (.iconst (-1), 1) := by decide +kernel
theorem dX12_matched_30 : decode cX12_matched 30 = .ok (.ireturn, 1) := by decide +kernel
theorem dX12_count_0 : decode cX12_count 0 = .ok (.aload_n 0, 1) := by decide +kernel
theorem dX12_count_1 : decode cX12_count 1 = .ok (.iconst 0, 1) := by decide +kernel
theorem dX12_count_2 : decode cX12_count 2 = .ok (.putfield 86, 3) := by decide +kernel
theorem dX12_count_5 : decode cX12_count 5 = .ok (.iload_n 1, 1) := by decide +kernel
theorem dX12_count_6 : decode cX12_count 6 = .ok (.tableswitch 68 0 5 #[38, 43, 48, 53, 58, 63], 38) := by decide +kernel
theorem dX12_count_44 : decode cX12_count 44 = .ok (.aload_n 0, 1) := by decide +kernel
theorem dX12_count_45 : decode cX12_count 45 = .ok (.getfield 201, 3) := by decide +kernel
theorem dX12_count_48 : decode cX12_count 48 = .ok (.ireturn, 1) := by decide +kernel
theorem dX12_count_49 : decode cX12_count 49 = .ok (.aload_n 0, 1) := by decide +kernel
theorem dX12_count_50 : decode cX12_count 50 = .ok (.getfield 204, 3) := by decide +kernel
theorem dX12_count_53 : decode cX12_count 53 = .ok (.ireturn, 1) := by decide +kernel
theorem dX12_count_54 : decode cX12_count 54 = .ok (.aload_n 0, 1) := by decide +kernel
theorem dX12_count_55 : decode cX12_count 55 = .ok (.getfield 289, 3) := by decide +kernel
theorem dX12_count_58 : decode cX12_count 58 = .ok (.ireturn, 1) := by decide +kernel
theorem dX12_count_59 : decode cX12_count 59 = .ok (.aload_n 0, 1) := by decide +kernel
theorem dX12_count_60 : decode cX12_count 60 = .ok (.getfield 310, 3) := by decide +kernel
theorem dX12_count_63 : decode cX12_count 63 = .ok (.ireturn, 1) := by decide +kernel
theorem dX12_count_64 : decode cX12_count 64 = .ok (.aload_n 0, 1) := by decide +kernel
theorem dX12_count_65 : decode cX12_count 65 = .ok (.getfield 90, 3) := by decide +kernel
theorem dX12_count_68 : decode cX12_count 68 = .ok (.ireturn, 1) := by decide +kernel
theorem dX12_count_69 : decode cX12_count 69 = .ok (.aload_n 0, 1) := by decide +kernel
theorem dX12_count_70 : decode cX12_count 70 = .ok (.getfield 214, 3) := by decide +kernel
theorem dX12_count_73 : decode cX12_count 73 = .ok (.ireturn, 1) := by decide +kernel
theorem dX12_count_74 : decode cX12_count 74 = .ok (.iconst (-1), 1) := by decide +kernel
theorem dX12_count_75 : decode cX12_count 75 = .ok (.ireturn, 1) := by decide +kernel
