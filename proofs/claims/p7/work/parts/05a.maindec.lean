theorem dX11_init_0 : decode cX11_init 0 = .ok (.aload_n 0, 1) := by decide +kernel
theorem dX11_init_1 : decode cX11_init 1 = .ok (.invokespecial 3, 3) := by decide +kernel
theorem dX11_init_4 : decode cX11_init 4 = .ok (.aload_n 0, 1) := by decide +kernel
theorem dX11_init_5 : decode cX11_init 5 = .ok (.new 9, 3) := by decide +kernel
theorem dX11_init_8 : decode cX11_init 8 = .ok (.dup, 1) := by decide +kernel
theorem dX11_init_9 : decode cX11_init 9 = .ok (.sipush 440, 3) := by decide +kernel
theorem dX11_init_12 : decode cX11_init 12 = .ok (.invokespecial 11, 3) := by decide +kernel
theorem dX11_init_15 : decode cX11_init 15 = .ok (.putfield 14, 3) := by decide +kernel
theorem dX11_init_18 : decode cX11_init 18 = .ok (.aload_n 0, 1) := by decide +kernel
theorem dX11_init_19 : decode cX11_init 19 = .ok (.new 9, 3) := by decide +kernel
theorem dX11_init_22 : decode cX11_init 22 = .ok (.dup, 1) := by decide +kernel
theorem dX11_init_23 : decode cX11_init 23 = .ok (.bipush 59, 2) := by decide +kernel
theorem dX11_init_25 : decode cX11_init 25 = .ok (.invokespecial 11, 3) := by decide +kernel
theorem dX11_init_28 : decode cX11_init 28 = .ok (.putfield 18, 3) := by decide +kernel
theorem dX11_init_31 : decode cX11_init 31 = .ok (.aload_n 0, 1) := by decide +kernel
theorem dX11_init_32 : decode cX11_init 32 = .ok (.new 9, 3) := by decide +kernel
theorem dX11_init_35 : decode cX11_init 35 = .ok (.dup, 1) := by decide +kernel
theorem dX11_init_36 : decode cX11_init 36 = .ok (.sipush 402, 3) := by decide +kernel
theorem dX11_init_39 : decode cX11_init 39 = .ok (.invokespecial 11, 3) := by decide +kernel
theorem dX11_init_42 : decode cX11_init 42 = .ok (.putfield 21, 3) := by decide +kernel
theorem dX11_init_45 : decode cX11_init 45 = .ok (.aload_n 0, 1) := by decide +kernel
theorem dX11_init_46 : decode cX11_init 46 = .ok (.new 24, 3) := by decide +kernel
theorem dX11_init_49 : decode cX11_init 49 = .ok (.dup, 1) := by decide +kernel
theorem dX11_init_50 : decode cX11_init 50 = .ok (.invokespecial 26, 3) := by decide +kernel
theorem dX11_init_53 : decode cX11_init 53 = .ok (.putfield 27, 3) := by decide +kernel
theorem dX11_init_56 : decode cX11_init 56 = .ok (.aload_n 0, 1) := by decide +kernel
theorem dX11_init_57 : decode cX11_init 57 = .ok (.new 31, 3) := by decide +kernel
theorem dX11_init_60 : decode cX11_init 60 = .ok (.dup, 1) := by decide +kernel
theorem dX11_init_61 : decode cX11_init 61 = .ok (.invokespecial 33, 3) := by decide +kernel
theorem dX11_init_64 : decode cX11_init 64 = .ok (.putfield 34, 3) := by decide +kernel
theorem dX11_init_67 : decode cX11_init 67 = .ok (.aload_n 0, 1) := by decide +kernel
theorem dX11_init_68 : decode cX11_init 68 = .ok (.new 38, 3) := by decide +kernel
theorem dX11_init_71 : decode cX11_init 71 = .ok (.dup, 1) := by decide +kernel
theorem dX11_init_72 : decode cX11_init 72 = .ok (.invokespecial 40, 3) := by decide +kernel
theorem dX11_init_75 : decode cX11_init 75 = .ok (.putfield 41, 3) := by decide +kernel
theorem dX11_init_78 : decode cX11_init 78 = .ok (.aload_n 0, 1) := by decide +kernel
theorem dX11_init_79 : decode cX11_init 79 = .ok (.new 45, 3) := by decide +kernel
theorem dX11_init_82 : decode cX11_init 82 = .ok (.dup, 1) := by decide +kernel
theorem dX11_init_83 : decode cX11_init 83 = .ok (.invokespecial 47, 3) := by decide +kernel
theorem dX11_init_86 : decode cX11_init 86 = .ok (.putfield 48, 3) := by decide +kernel
theorem dX11_init_89 : decode cX11_init 89 = .ok (.aload_n 0, 1) := by decide +kernel
theorem dX11_init_90 : decode cX11_init 90 = .ok (.bipush 8, 2) := by decide +kernel
theorem dX11_init_92 : decode cX11_init 92 = .ok (.anewarray 52, 3) := by decide +kernel
theorem dX11_init_95 : decode cX11_init 95 = .ok (.putfield 54, 3) := by decide +kernel
theorem dX11_init_98 : decode cX11_init 98 = .ok (.aload_n 0, 1) := by decide +kernel
theorem dX11_init_99 : decode cX11_init 99 = .ok (.new 52, 3) := by decide +kernel
theorem dX11_init_102 : decode cX11_init 102 = .ok (.dup, 1) := by decide +kernel
theorem dX11_init_103 : decode cX11_init 103 = .ok (.invokespecial 58, 3) := by decide +kernel
theorem dX11_init_106 : decode cX11_init 106 = .ok (.putfield 59, 3) := by decide +kernel
theorem dX11_init_109 : decode cX11_init 109 = .ok (.aload_n 0, 1) := by decide +kernel
theorem dX11_init_110 : decode cX11_init 110 = .ok (.bipush 12, 2) := by decide +kernel
theorem dX11_init_112 : decode cX11_init 112 = .ok (.anewarray 63, 3) := by decide +kernel
theorem dX11_init_115 : decode cX11_init 115 = .ok (.putfield 65, 3) := by decide +kernel
theorem dX11_init_118 : decode cX11_init 118 = .ok (.aload_n 0, 1) := by decide +kernel
theorem dX11_init_119 : decode cX11_init 119 = .ok (.sipush 144, 3) := by decide +kernel
theorem dX11_init_122 : decode cX11_init 122 = .ok (.newarray .int, 2) := by decide +kernel
theorem dX11_init_124 : decode cX11_init 124 = .ok (.putfield 69, 3) := by decide +kernel
theorem dX11_init_127 : decode cX11_init 127 = .ok (.aload_n 0, 1) := by decide +kernel
theorem dX11_init_128 : decode cX11_init 128 = .ok (.new 73, 3) := by decide +kernel
theorem dX11_init_131 : decode cX11_init 131 = .ok (.dup, 1) := by decide +kernel
theorem dX11_init_132 : decode cX11_init 132 = .ok (.invokespecial 75, 3) := by decide +kernel
theorem dX11_init_135 : decode cX11_init 135 = .ok (.putfield 76, 3) := by decide +kernel
theorem dX11_init_138 : decode cX11_init 138 = .ok (.aload_n 0, 1) := by decide +kernel
theorem dX11_init_139 : decode cX11_init 139 = .ok (.new 73, 3) := by decide +kernel
theorem dX11_init_142 : decode cX11_init 142 = .ok (.dup, 1) := by decide +kernel
theorem dX11_init_143 : decode cX11_init 143 = .ok (.invokespecial 75, 3) := by decide +kernel
theorem dX11_init_146 : decode cX11_init 146 = .ok (.putfield 80, 3) := by decide +kernel
theorem dX11_init_149 : decode cX11_init 149 = .ok (.iconst 0, 1) := by decide +kernel
theorem dX11_init_150 : decode cX11_init 150 = .ok (.istore_n 1, 1) := by decide +kernel
theorem dX11_init_151 : decode cX11_init 151 = .ok (.iload_n 1, 1) := by decide +kernel
theorem dX11_init_152 : decode cX11_init 152 = .ok (.bipush 8, 2) := by decide +kernel
theorem dX11_init_154 : decode cX11_init 154 = .ok (.if_icmp .ge 22, 3) := by decide +kernel
theorem dX11_init_157 : decode cX11_init 157 = .ok (.aload_n 0, 1) := by decide +kernel
theorem dX11_init_158 : decode cX11_init 158 = .ok (.getfield 54, 3) := by decide +kernel
theorem dX11_init_161 : decode cX11_init 161 = .ok (.iload_n 1, 1) := by decide +kernel
theorem dX11_init_162 : decode cX11_init 162 = .ok (.new 52, 3) := by decide +kernel
theorem dX11_init_165 : decode cX11_init 165 = .ok (.dup, 1) := by decide +kernel
theorem dX11_init_166 : decode cX11_init 166 = .ok (.invokespecial 58, 3) := by decide +kernel
theorem dX11_init_169 : decode cX11_init 169 = .ok (.aastore, 1) := by decide +kernel
theorem dX11_init_170 : decode cX11_init 170 = .ok (.iinc 1 1, 3) := by decide +kernel
theorem dX11_init_173 : decode cX11_init 173 = .ok (.goto (-22), 3) := by decide +kernel
theorem dX11_init_176 : decode cX11_init 176 = .ok (.iconst 0, 1) := by decide +kernel
theorem dX11_init_177 : decode cX11_init 177 = .ok (.istore_n 1, 1) := by decide +kernel
theorem dX11_init_178 : decode cX11_init 178 = .ok (.iload_n 1, 1) := by decide +kernel
theorem dX11_init_179 : decode cX11_init 179 = .ok (.bipush 12, 2) := by decide +kernel
theorem dX11_init_181 : decode cX11_init 181 = .ok (.if_icmp .ge 22, 3) := by decide +kernel
theorem dX11_init_184 : decode cX11_init 184 = .ok (.aload_n 0, 1) := by decide +kernel
theorem dX11_init_185 : decode cX11_init 185 = .ok (.getfield 65, 3) := by decide +kernel
theorem dX11_init_188 : decode cX11_init 188 = .ok (.iload_n 1, 1) := by decide +kernel
theorem dX11_init_189 : decode cX11_init 189 = .ok (.new 63, 3) := by decide +kernel
theorem dX11_init_192 : decode cX11_init 192 = .ok (.dup, 1) := by decide +kernel
theorem dX11_init_193 : decode cX11_init 193 = .ok (.invokespecial 83, 3) := by decide +kernel
theorem dX11_init_196 : decode cX11_init 196 = .ok (.aastore, 1) := by decide +kernel
theorem dX11_init_197 : decode cX11_init 197 = .ok (.iinc 1 1, 3) := by decide +kernel
theorem dX11_init_200 : decode cX11_init 200 = .ok (.goto (-22), 3) := by decide +kernel
theorem dX11_init_203 : decode cX11_init 203 = .ok (.aload_n 0, 1) := by decide +kernel
theorem dX11_init_204 : decode cX11_init 204 = .ok (.getfield 69, 3) := by decide +kernel
theorem dX11_init_207 : decode cX11_init 207 = .ok (.iconst (-1), 1) := by decide +kernel
theorem dX11_init_208 : decode cX11_init 208 = .ok (.invokestatic 84, 3) := by decide +kernel
theorem dX11_init_211 : decode cX11_init 211 = .ok (.aload_n 0, 1) := by decide +kernel
theorem dX11_init_212 : decode cX11_init 212 = .ok (.iconst 0, 1) := by decide +kernel
theorem dX11_init_213 : decode cX11_init 213 = .ok (.putfield 90, 3) := by decide +kernel
theorem dX11_init_216 : decode cX11_init 216 = .ok (.aload_n 0, 1) := by decide +kernel
theorem dX11_init_217 : decode cX11_init 217 = .ok (.iconst 0, 1) := by decide +kernel
theorem dX11_init_218 : decode cX11_init 218 = .ok (.putfield 94, 3) := by decide +kernel
theorem dX11_init_221 : decode cX11_init 221 = .ok (.aload_n 0, 1) := by decide +kernel
theorem dX11_init_222 : decode cX11_init 222 = .ok (.iconst 0, 1) := by decide +kernel
theorem dX11_init_223 : decode cX11_init 223 = .ok (.putfield 97, 3) := by decide +kernel
theorem dX11_init_226 : decode cX11_init 226 = .ok (.return_, 1) := by decide +kernel
theorem dX11_feed_0 : decode cX11_feed 0 = .ok (.aload_n 0, 1) := by decide +kernel
theorem dX11_feed_1 : decode cX11_feed 1 = .ok (.getfield 14, 3) := by decide +kernel
theorem dX11_feed_4 : decode cX11_feed 4 = .ok (.getfield 100, 3) := by decide +kernel
theorem dX11_feed_7 : decode cX11_feed 7 = .ok (.bipush 20, 2) := by decide +kernel
theorem dX11_feed_9 : decode cX11_feed 9 = .ok (.iadd, 1) := by decide +kernel
theorem dX11_feed_10 : decode cX11_feed 10 = .ok (.sipush 440, 3) := by decide +kernel
theorem dX11_feed_13 : decode cX11_feed 13 = .ok (.if_icmp .le 5, 3) := by decide +kernel
theorem dX11_feed_16 : decode cX11_feed 16 = .ok (.iconst (-1), 1) := by decide +kernel
theorem dX11_feed_17 : decode cX11_feed 17 = .ok (.ireturn, 1) := by decide +kernel
theorem dX11_feed_18 : decode cX11_feed 18 = .ok (.aload_n 0, 1) := by decide +kernel
theorem dX11_feed_19 : decode cX11_feed 19 = .ok (.getfield 14, 3) := by decide +kernel
theorem dX11_feed_22 : decode cX11_feed 22 = .ok (.iload_n 1, 1) := by decide +kernel
theorem dX11_feed_23 : decode cX11_feed 23 = .ok (.invokevirtual 103, 3) := by decide +kernel
theorem dX11_feed_26 : decode cX11_feed 26 = .ok (.aload_n 0, 1) := by decide +kernel
theorem dX11_feed_27 : decode cX11_feed 27 = .ok (.getfield 14, 3) := by decide +kernel
theorem dX11_feed_30 : decode cX11_feed 30 = .ok (.iload_n 2, 1) := by decide +kernel
theorem dX11_feed_31 : decode cX11_feed 31 = .ok (.invokevirtual 103, 3) := by decide +kernel
theorem dX11_feed_34 : decode cX11_feed 34 = .ok (.aload_n 0, 1) := by decide +kernel
theorem dX11_feed_35 : decode cX11_feed 35 = .ok (.getfield 14, 3) := by decide +kernel
theorem dX11_feed_38 : decode cX11_feed 38 = .ok (.iload_n 3, 1) := by decide +kernel
theorem dX11_feed_39 : decode cX11_feed 39 = .ok (.invokevirtual 103, 3) := by decide +kernel
theorem dX11_feed_42 : decode cX11_feed 42 = .ok (.aload_n 0, 1) := by decide +kernel
theorem dX11_feed_43 : decode cX11_feed 43 = .ok (.getfield 14, 3) := by decide +kernel
theorem dX11_feed_46 : decode cX11_feed 46 = .ok (.iload 4, 2) := by decide +kernel
theorem dX11_feed_48 : decode cX11_feed 48 = .ok (.invokevirtual 103, 3) := by decide +kernel
theorem dX11_feed_51 : decode cX11_feed 51 = .ok (.aload_n 0, 1) := by decide +kernel
theorem dX11_feed_52 : decode cX11_feed 52 = .ok (.getfield 14, 3) := by decide +kernel
theorem dX11_feed_55 : decode cX11_feed 55 = .ok (.iload 5, 2) := by decide +kernel
theorem dX11_feed_57 : decode cX11_feed 57 = .ok (.invokevirtual 103, 3) := by decide +kernel
theorem dX11_feed_60 : decode cX11_feed 60 = .ok (.aload_n 0, 1) := by decide +kernel
theorem dX11_feed_61 : decode cX11_feed 61 = .ok (.getfield 14, 3) := by decide +kernel
theorem dX11_feed_64 : decode cX11_feed 64 = .ok (.getfield 100, 3) := by decide +kernel
theorem dX11_feed_67 : decode cX11_feed 67 = .ok (.ireturn, 1) := by decide +kernel
theorem dX11_end_0 : decode cX11_end 0 = .ok (.iload_n 1, 1) := by decide +kernel
theorem dX11_end_1 : decode cX11_end 1 = .ok (.ifCond .lt 14, 3) := by decide +kernel
theorem dX11_end_4 : decode cX11_end 4 = .ok (.iload_n 1, 1) := by decide +kernel
theorem dX11_end_5 : decode cX11_end 5 = .ok (.aload_n 0, 1) := by decide +kernel
theorem dX11_end_6 : decode cX11_end 6 = .ok (.getfield 14, 3) := by decide +kernel
theorem dX11_end_9 : decode cX11_end 9 = .ok (.getfield 100, 3) := by decide +kernel
theorem dX11_end_12 : decode cX11_end 12 = .ok (.if_icmp .le 5, 3) := by decide +kernel
theorem dX11_end_15 : decode cX11_end 15 = .ok (.iconst 0, 1) := by decide +kernel
theorem dX11_end_16 : decode cX11_end 16 = .ok (.ireturn, 1) := by decide +kernel
theorem dX11_end_17 : decode cX11_end 17 = .ok (.aload_n 0, 1) := by decide +kernel
theorem dX11_end_18 : decode cX11_end 18 = .ok (.getfield 14, 3) := by decide +kernel
theorem dX11_end_21 : decode cX11_end 21 = .ok (.iload_n 1, 1) := by decide +kernel
theorem dX11_end_22 : decode cX11_end 22 = .ok (.putfield 100, 3) := by decide +kernel
theorem dX11_end_25 : decode cX11_end 25 = .ok (.iconst 1, 1) := by decide +kernel
theorem dX11_end_26 : decode cX11_end 26 = .ok (.ireturn, 1) := by decide +kernel
theorem dX11_systems_0 : decode cX11_systems 0 = .ok (.aload_n 0, 1) := by decide +kernel
theorem dX11_systems_1 : decode cX11_systems 1 = .ok (.getfield 27, 3) := by decide +kernel
theorem dX11_systems_4 : decode cX11_systems 4 = .ok (.aload_n 0, 1) := by decide +kernel
theorem dX11_systems_5 : decode cX11_systems 5 = .ok (.getfield 14, 3) := by decide +kernel
theorem dX11_systems_8 : decode cX11_systems 8 = .ok (.aload_n 0, 1) := by decide +kernel
theorem dX11_systems_9 : decode cX11_systems 9 = .ok (.getfield 80, 3) := by decide +kernel
theorem dX11_systems_12 : decode cX11_systems 12 = .ok (.invokevirtual 106, 3) := by decide +kernel
theorem dX11_systems_15 : decode cX11_systems 15 = .ok (.istore_n 1, 1) := by decide +kernel
theorem dX11_systems_16 : decode cX11_systems 16 = .ok (.aload_n 0, 1) := by decide +kernel
theorem dX11_systems_17 : decode cX11_systems 17 = .ok (.getfield 14, 3) := by decide +kernel
theorem dX11_systems_20 : decode cX11_systems 20 = .ok (.invokevirtual 110, 3) := by decide +kernel
theorem dX11_systems_23 : decode cX11_systems 23 = .ok (.aload_n 0, 1) := by decide +kernel
theorem dX11_systems_24 : decode cX11_systems 24 = .ok (.aload_n 0, 1) := by decide +kernel
theorem dX11_systems_25 : decode cX11_systems 25 = .ok (.getfield 27, 3) := by decide +kernel
theorem dX11_systems_28 : decode cX11_systems 28 = .ok (.getfield 113, 3) := by decide +kernel
theorem dX11_systems_31 : decode cX11_systems 31 = .ok (.getfield 117, 3) := by decide +kernel
theorem dX11_systems_34 : decode cX11_systems 34 = .ok (.putfield 97, 3) := by decide +kernel
theorem dX11_systems_37 : decode cX11_systems 37 = .ok (.iload_n 1, 1) := by decide +kernel
theorem dX11_systems_38 : decode cX11_systems 38 = .ok (.ifCond .ne 16, 3) := by decide +kernel
theorem dX11_systems_41 : decode cX11_systems 41 = .ok (.iconst (-1), 1) := by decide +kernel
theorem dX11_systems_42 : decode cX11_systems 42 = .ok (.aload_n 0, 1) := by decide +kernel
theorem dX11_systems_43 : decode cX11_systems 43 = .ok (.getfield 27, 3) := by decide +kernel
theorem dX11_systems_46 : decode cX11_systems 46 = .ok (.getfield 113, 3) := by decide +kernel
theorem dX11_systems_49 : decode cX11_systems 49 = .ok (.getfield 122, 3) := by decide +kernel
theorem dX11_systems_52 : decode cX11_systems 52 = .ok (.isub, 1) := by decide +kernel
theorem dX11_systems_53 : decode cX11_systems 53 = .ok (.ireturn, 1) := by decide +kernel
theorem dX11_systems_54 : decode cX11_systems 54 = .ok (.aload_n 0, 1) := by decide +kernel
theorem dX11_systems_55 : decode cX11_systems 55 = .ok (.getfield 76, 3) := by decide +kernel
theorem dX11_systems_58 : decode cX11_systems 58 = .ok (.astore_n 2, 1) := by decide +kernel
theorem dX11_systems_59 : decode cX11_systems 59 = .ok (.aload_n 0, 1) := by decide +kernel
theorem dX11_systems_60 : decode cX11_systems 60 = .ok (.aload_n 0, 1) := by decide +kernel
theorem dX11_systems_61 : decode cX11_systems 61 = .ok (.getfield 80, 3) := by decide +kernel
theorem dX11_systems_64 : decode cX11_systems 64 = .ok (.putfield 76, 3) := by decide +kernel
theorem dX11_systems_67 : decode cX11_systems 67 = .ok (.aload_n 0, 1) := by decide +kernel
theorem dX11_systems_68 : decode cX11_systems 68 = .ok (.aload_n 2, 1) := by decide +kernel
theorem dX11_systems_69 : decode cX11_systems 69 = .ok (.putfield 80, 3) := by decide +kernel
theorem dX11_systems_72 : decode cX11_systems 72 = .ok (.aload_n 0, 1) := by decide +kernel
theorem dX11_systems_73 : decode cX11_systems 73 = .ok (.iconst 0, 1) := by decide +kernel
theorem dX11_systems_74 : decode cX11_systems 74 = .ok (.putfield 90, 3) := by decide +kernel
theorem dX11_systems_77 : decode cX11_systems 77 = .ok (.aload_n 0, 1) := by decide +kernel
theorem dX11_systems_78 : decode cX11_systems 78 = .ok (.getfield 48, 3) := by decide +kernel
theorem dX11_systems_81 : decode cX11_systems 81 = .ok (.invokevirtual 125, 3) := by decide +kernel
theorem dX11_systems_84 : decode cX11_systems 84 = .ok (.aload_n 0, 1) := by decide +kernel
theorem dX11_systems_85 : decode cX11_systems 85 = .ok (.getfield 69, 3) := by decide +kernel
theorem dX11_systems_88 : decode cX11_systems 88 = .ok (.iconst (-1), 1) := by decide +kernel
theorem dX11_systems_89 : decode cX11_systems 89 = .ok (.invokestatic 84, 3) := by decide +kernel
theorem dX11_systems_92 : decode cX11_systems 92 = .ok (.aload_n 0, 1) := by decide +kernel
theorem dX11_systems_93 : decode cX11_systems 93 = .ok (.getfield 76, 3) := by decide +kernel
theorem dX11_systems_96 : decode cX11_systems 96 = .ok (.getfield 128, 3) := by decide +kernel
theorem dX11_systems_99 : decode cX11_systems 99 = .ok (.ireturn, 1) := by decide +kernel
theorem dX11_fault_0 : decode cX11_fault 0 = .ok (.aload_n 0, 1) := by decide +kernel
theorem dX11_fault_1 : decode cX11_fault 1 = .ok (.getfield 97, 3) := by decide +kernel
theorem dX11_fault_4 : decode cX11_fault 4 = .ok (.ireturn, 1) := by decide +kernel
theorem dX11_system_0 : decode cX11_system 0 = .ok (.aload_n 0, 1) := by decide +kernel
theorem dX11_system_1 : decode cX11_system 1 = .ok (.iload_n 1, 1) := by decide +kernel
theorem dX11_system_2 : decode cX11_system 2 = .ok (.invokevirtual 131, 3) := by decide +kernel
theorem dX11_system_5 : decode cX11_system 5 = .ok (.ifCond .eq 12, 3) := by decide +kernel
theorem dX11_system_8 : decode cX11_system 8 = .ok (.iload_n 2, 1) := by decide +kernel
theorem dX11_system_9 : decode cX11_system 9 = .ok (.ifCond .lt 8, 3) := by decide +kernel
theorem dX11_system_12 : decode cX11_system 12 = .ok (.iload_n 2, 1) := by decide +kernel
theorem dX11_system_13 : decode cX11_system 13 = .ok (.iconst 5, 1) := by decide +kernel
theorem dX11_system_14 : decode cX11_system 14 = .ok (.if_icmp .lt 13, 3) := by decide +kernel
theorem dX11_system_17 : decode cX11_system 17 = .ok (.new 135, 3) := by decide +kernel
theorem dX11_system_20 : decode cX11_system 20 = .ok (.dup, 1) := by decide +kernel
theorem dX11_system_21 : decode cX11_system 21 = .ok (.ldc 137, 2) := by decide +kernel
theorem dX11_system_23 : decode cX11_system 23 = .ok (.invokespecial 139, 3) := by decide +kernel
theorem dX11_system_26 : decode cX11_system 26 = .ok (.athrow, 1) := by decide +kernel
theorem dX11_system_27 : decode cX11_system 27 = .ok (.iload_n 2, 1) := by decide +kernel
theorem dX11_system_28 : decode cX11_system 28 = .ok (.ifCond .ne 13, 3) := by decide +kernel
theorem dX11_system_31 : decode cX11_system 31 = .ok (.aload_n 0, 1) := by decide +kernel
theorem dX11_system_32 : decode cX11_system 32 = .ok (.getfield 76, 3) := by decide +kernel
theorem dX11_system_35 : decode cX11_system 35 = .ok (.getfield 142, 3) := by decide +kernel
theorem dX11_system_38 : decode cX11_system 38 = .ok (.iload_n 1, 1) := by decide +kernel
theorem dX11_system_39 : decode cX11_system 39 = .ok (.iaload, 1) := by decide +kernel
theorem dX11_system_40 : decode cX11_system 40 = .ok (.ireturn, 1) := by decide +kernel
theorem dX11_system_41 : decode cX11_system 41 = .ok (.iload_n 2, 1) := by decide +kernel
theorem dX11_system_42 : decode cX11_system 42 = .ok (.aload_n 0, 1) := by decide +kernel
theorem dX11_system_43 : decode cX11_system 43 = .ok (.getfield 76, 3) := by decide +kernel
theorem dX11_system_46 : decode cX11_system 46 = .ok (.getfield 142, 3) := by decide +kernel
theorem dX11_system_49 : decode cX11_system 49 = .ok (.iload_n 1, 1) := by decide +kernel
theorem dX11_system_50 : decode cX11_system 50 = .ok (.iaload, 1) := by decide +kernel
theorem dX11_system_51 : decode cX11_system 51 = .ok (.if_icmp .ge 19, 3) := by decide +kernel
theorem dX11_system_54 : decode cX11_system 54 = .ok (.aload_n 0, 1) := by decide +kernel
theorem dX11_system_55 : decode cX11_system 55 = .ok (.getfield 76, 3) := by decide +kernel
theorem dX11_system_58 : decode cX11_system 58 = .ok (.getfield 145, 3) := by decide +kernel
theorem dX11_system_61 : decode cX11_system 61 = .ok (.iload_n 1, 1) := by decide +kernel
theorem dX11_system_62 : decode cX11_system 62 = .ok (.iload_n 2, 1) := by decide +kernel
theorem dX11_system_63 : decode cX11_system 63 = .ok (.invokestatic 148, 3) := by decide +kernel
theorem dX11_system_66 : decode cX11_system 66 = .ok (.iaload, 1) := by decide +kernel
theorem dX11_system_67 : decode cX11_system 67 = .ok (.goto 4, 3) := by decide +kernel
theorem dX11_system_70 : decode cX11_system 70 = .ok (.iconst (-1), 1) := by decide +kernel
theorem dX11_system_71 : decode cX11_system 71 = .ok (.ireturn, 1) := by decide +kernel
theorem dX11_write_0 : decode cX11_write 0 = .ok (.aload_n 0, 1) := by decide +kernel
theorem dX11_write_1 : decode cX11_write 1 = .ok (.iload_n 1, 1) := by decide +kernel
theorem dX11_write_2 : decode cX11_write 2 = .ok (.invokevirtual 131, 3) := by decide +kernel
theorem dX11_write_5 : decode cX11_write 5 = .ok (.ifCond .eq 20, 3) := by decide +kernel
theorem dX11_write_8 : decode cX11_write 8 = .ok (.iload_n 2, 1) := by decide +kernel
theorem dX11_write_9 : decode cX11_write 9 = .ok (.iconst 1, 1) := by decide +kernel
theorem dX11_write_10 : decode cX11_write 10 = .ok (.if_icmp .lt 15, 3) := by decide +kernel
theorem dX11_write_13 : decode cX11_write 13 = .ok (.aload_n 0, 1) := by decide +kernel
theorem dX11_write_14 : decode cX11_write 14 = .ok (.getfield 76, 3) := by decide +kernel
theorem dX11_write_17 : decode cX11_write 17 = .ok (.iload_n 1, 1) := by decide +kernel
theorem dX11_write_18 : decode cX11_write 18 = .ok (.iload_n 2, 1) := by decide +kernel
theorem dX11_write_19 : decode cX11_write 19 = .ok (.invokevirtual 152, 3) := by decide +kernel
theorem dX11_write_22 : decode cX11_write 22 = .ok (.ifCond .ne 5, 3) := by decide +kernel
theorem dX11_write_25 : decode cX11_write 25 = .ok (.iconst (-1), 1) := by decide +kernel
theorem dX11_write_26 : decode cX11_write 26 = .ok (.ireturn, 1) := by decide +kernel
theorem dX11_write_27 : decode cX11_write 27 = .ok (.aload_n 0, 1) := by decide +kernel
theorem dX11_write_28 : decode cX11_write 28 = .ok (.getfield 18, 3) := by decide +kernel
theorem dX11_write_31 : decode cX11_write 31 = .ok (.invokevirtual 110, 3) := by decide +kernel
theorem dX11_write_34 : decode cX11_write 34 = .ok (.aload_n 0, 1) := by decide +kernel
theorem dX11_write_35 : decode cX11_write 35 = .ok (.getfield 76, 3) := by decide +kernel
theorem dX11_write_38 : decode cX11_write 38 = .ok (.aload_n 0, 1) := by decide +kernel
theorem dX11_write_39 : decode cX11_write 39 = .ok (.getfield 18, 3) := by decide +kernel
theorem dX11_write_42 : decode cX11_write 42 = .ok (.iload_n 1, 1) := by decide +kernel
theorem dX11_write_43 : decode cX11_write 43 = .ok (.iload_n 2, 1) := by decide +kernel
theorem dX11_write_44 : decode cX11_write 44 = .ok (.invokevirtual 156, 3) := by decide +kernel
theorem dX11_write_47 : decode cX11_write 47 = .ok (.aload_n 0, 1) := by decide +kernel
theorem dX11_write_48 : decode cX11_write 48 = .ok (.getfield 18, 3) := by decide +kernel
theorem dX11_write_51 : decode cX11_write 51 = .ok (.getfield 100, 3) := by decide +kernel
theorem dX11_write_54 : decode cX11_write 54 = .ok (.ireturn, 1) := by decide +kernel
theorem dX11_octet_0 : decode cX11_octet 0 = .ok (.iload_n 1, 1) := by decide +kernel
theorem dX11_octet_1 : decode cX11_octet 1 = .ok (.ifCond .lt 14, 3) := by decide +kernel
theorem dX11_octet_4 : decode cX11_octet 4 = .ok (.iload_n 1, 1) := by decide +kernel
theorem dX11_octet_5 : decode cX11_octet 5 = .ok (.aload_n 0, 1) := by decide +kernel
theorem dX11_octet_6 : decode cX11_octet 6 = .ok (.getfield 18, 3) := by decide +kernel
theorem dX11_octet_9 : decode cX11_octet 9 = .ok (.getfield 100, 3) := by decide +kernel
theorem dX11_octet_12 : decode cX11_octet 12 = .ok (.if_icmp .lt 13, 3) := by decide +kernel
theorem dX11_octet_15 : decode cX11_octet 15 = .ok (.new 135, 3) := by decide +kernel
theorem dX11_octet_18 : decode cX11_octet 18 = .ok (.dup, 1) := by decide +kernel
theorem dX11_octet_19 : decode cX11_octet 19 = .ok (.ldc 160, 2) := by decide +kernel
theorem dX11_octet_21 : decode cX11_octet 21 = .ok (.invokespecial 139, 3) := by decide +kernel
theorem dX11_octet_24 : decode cX11_octet 24 = .ok (.athrow, 1) := by decide +kernel
theorem dX11_octet_25 : decode cX11_octet 25 = .ok (.aload_n 0, 1) := by decide +kernel
theorem dX11_octet_26 : decode cX11_octet 26 = .ok (.getfield 18, 3) := by decide +kernel
theorem dX11_octet_29 : decode cX11_octet 29 = .ok (.iload_n 1, 1) := by decide +kernel
theorem dX11_octet_30 : decode cX11_octet 30 = .ok (.invokevirtual 162, 3) := by decide +kernel
theorem dX11_octet_33 : decode cX11_octet 33 = .ok (.ireturn, 1) := by decide +kernel
theorem dX11_tablet_0 : decode cX11_tablet 0 = .ok (.aload_n 0, 1) := by decide +kernel
theorem dX11_tablet_1 : decode cX11_tablet 1 = .ok (.getfield 90, 3) := by decide +kernel
theorem dX11_tablet_4 : decode cX11_tablet 4 = .ok (.bipush 8, 2) := by decide +kernel
theorem dX11_tablet_6 : decode cX11_tablet 6 = .ok (.if_icmp .ge 17, 3) := by decide +kernel
theorem dX11_tablet_9 : decode cX11_tablet 9 = .ok (.aload_n 0, 1) := by decide +kernel
theorem dX11_tablet_10 : decode cX11_tablet 10 = .ok (.getfield 76, 3) := by decide +kernel
theorem dX11_tablet_13 : decode cX11_tablet 13 = .ok (.getfield 128, 3) := by decide +kernel
theorem dX11_tablet_16 : decode cX11_tablet 16 = .ok (.ifCond .le 7, 3) := by decide +kernel
theorem dX11_tablet_19 : decode cX11_tablet 19 = .ok (.iconst 1, 1) := by decide +kernel
theorem dX11_tablet_20 : decode cX11_tablet 20 = .ok (.goto 4, 3) := by decide +kernel
theorem dX11_tablet_23 : decode cX11_tablet 23 = .ok (.iconst 0, 1) := by decide +kernel
theorem dX11_tablet_24 : decode cX11_tablet 24 = .ok (.istore_n 1, 1) := by decide +kernel
theorem dX11_tablet_25 : decode cX11_tablet 25 = .ok (.iload_n 1, 1) := by decide +kernel
theorem dX11_tablet_26 : decode cX11_tablet 26 = .ok (.ifCond .eq 34, 3) := by decide +kernel
theorem dX11_tablet_29 : decode cX11_tablet 29 = .ok (.aload_n 0, 1) := by decide +kernel
theorem dX11_tablet_30 : decode cX11_tablet 30 = .ok (.getfield 34, 3) := by decide +kernel
theorem dX11_tablet_33 : decode cX11_tablet 33 = .ok (.aload_n 0, 1) := by decide +kernel
theorem dX11_tablet_34 : decode cX11_tablet 34 = .ok (.getfield 14, 3) := by decide +kernel
theorem dX11_tablet_37 : decode cX11_tablet 37 = .ok (.aload_n 0, 1) := by decide +kernel
theorem dX11_tablet_38 : decode cX11_tablet 38 = .ok (.getfield 76, 3) := by decide +kernel
theorem dX11_tablet_41 : decode cX11_tablet 41 = .ok (.aload_n 0, 1) := by decide +kernel
theorem dX11_tablet_42 : decode cX11_tablet 42 = .ok (.getfield 54, 3) := by decide +kernel
theorem dX11_tablet_45 : decode cX11_tablet 45 = .ok (.aload_n 0, 1) := by decide +kernel
theorem dX11_tablet_46 : decode cX11_tablet 46 = .ok (.getfield 90, 3) := by decide +kernel
theorem dX11_tablet_49 : decode cX11_tablet 49 = .ok (.aaload, 1) := by decide +kernel
theorem dX11_tablet_50 : decode cX11_tablet 50 = .ok (.invokevirtual 166, 3) := by decide +kernel
theorem dX11_tablet_53 : decode cX11_tablet 53 = .ok (.ifCond .eq 7, 3) := by decide +kernel
theorem dX11_tablet_56 : decode cX11_tablet 56 = .ok (.iconst 1, 1) := by decide +kernel
theorem dX11_tablet_57 : decode cX11_tablet 57 = .ok (.goto 4, 3) := by decide +kernel
theorem dX11_tablet_60 : decode cX11_tablet 60 = .ok (.iconst 0, 1) := by decide +kernel
theorem dX11_tablet_61 : decode cX11_tablet 61 = .ok (.istore_n 2, 1) := by decide +kernel
theorem dX11_tablet_62 : decode cX11_tablet 62 = .ok (.aload_n 0, 1) := by decide +kernel
theorem dX11_tablet_63 : decode cX11_tablet 63 = .ok (.getfield 14, 3) := by decide +kernel
theorem dX11_tablet_66 : decode cX11_tablet 66 = .ok (.invokevirtual 110, 3) := by decide +kernel
theorem dX11_tablet_69 : decode cX11_tablet 69 = .ok (.iload_n 1, 1) := by decide +kernel
theorem dX11_tablet_70 : decode cX11_tablet 70 = .ok (.ifCond .ne 7, 3) := by decide +kernel
theorem dX11_tablet_73 : decode cX11_tablet 73 = .ok (.sipush (-400), 3) := by decide +kernel
theorem dX11_tablet_76 : decode cX11_tablet 76 = .ok (.ireturn, 1) := by decide +kernel
theorem dX11_tablet_77 : decode cX11_tablet 77 = .ok (.aload_n 0, 1) := by decide +kernel
theorem dX11_tablet_78 : decode cX11_tablet 78 = .ok (.aload_n 0, 1) := by decide +kernel
theorem dX11_tablet_79 : decode cX11_tablet 79 = .ok (.getfield 34, 3) := by decide +kernel
theorem dX11_tablet_82 : decode cX11_tablet 82 = .ok (.getfield 169, 3) := by decide +kernel
theorem dX11_tablet_85 : decode cX11_tablet 85 = .ok (.getfield 117, 3) := by decide +kernel
theorem dX11_tablet_88 : decode cX11_tablet 88 = .ok (.putfield 97, 3) := by decide +kernel
theorem dX11_tablet_91 : decode cX11_tablet 91 = .ok (.iload_n 2, 1) := by decide +kernel
theorem dX11_tablet_92 : decode cX11_tablet 92 = .ok (.ifCond .ne 16, 3) := by decide +kernel
theorem dX11_tablet_95 : decode cX11_tablet 95 = .ok (.iconst (-1), 1) := by decide +kernel
theorem dX11_tablet_96 : decode cX11_tablet 96 = .ok (.aload_n 0, 1) := by decide +kernel
theorem dX11_tablet_97 : decode cX11_tablet 97 = .ok (.getfield 34, 3) := by decide +kernel
theorem dX11_tablet_100 : decode cX11_tablet 100 = .ok (.getfield 169, 3) := by decide +kernel
theorem dX11_tablet_103 : decode cX11_tablet 103 = .ok (.getfield 122, 3) := by decide +kernel
theorem dX11_tablet_106 : decode cX11_tablet 106 = .ok (.isub, 1) := by decide +kernel
theorem dX11_tablet_107 : decode cX11_tablet 107 = .ok (.ireturn, 1) := by decide +kernel
theorem dX11_tablet_108 : decode cX11_tablet 108 = .ok (.aload_n 0, 1) := by decide +kernel
theorem dX11_tablet_109 : decode cX11_tablet 109 = .ok (.dup, 1) := by decide +kernel
theorem dX11_tablet_110 : decode cX11_tablet 110 = .ok (.getfield 90, 3) := by decide +kernel
theorem dX11_tablet_113 : decode cX11_tablet 113 = .ok (.iconst 1, 1) := by decide +kernel
theorem dX11_tablet_114 : decode cX11_tablet 114 = .ok (.iadd, 1) := by decide +kernel
theorem dX11_tablet_115 : decode cX11_tablet 115 = .ok (.putfield 90, 3) := by decide +kernel
theorem dX11_tablet_118 : decode cX11_tablet 118 = .ok (.aload_n 0, 1) := by decide +kernel
theorem dX11_tablet_119 : decode cX11_tablet 119 = .ok (.getfield 90, 3) := by decide +kernel
theorem dX11_tablet_122 : decode cX11_tablet 122 = .ok (.iconst 1, 1) := by decide +kernel
theorem dX11_tablet_123 : decode cX11_tablet 123 = .ok (.isub, 1) := by decide +kernel
theorem dX11_tablet_124 : decode cX11_tablet 124 = .ok (.ireturn, 1) := by decide +kernel
theorem dX11_line_0 : decode cX11_line 0 = .ok (.aload_n 0, 1) := by decide +kernel
theorem dX11_line_1 : decode cX11_line 1 = .ok (.iload_n 1, 1) := by decide +kernel
theorem dX11_line_2 : decode cX11_line 2 = .ok (.iload_n 2, 1) := by decide +kernel
theorem dX11_line_3 : decode cX11_line 3 = .ok (.invokevirtual 170, 3) := by decide +kernel
theorem dX11_line_6 : decode cX11_line 6 = .ok (.ifCond .eq 12, 3) := by decide +kernel
theorem dX11_line_9 : decode cX11_line 9 = .ok (.iload_n 3, 1) := by decide +kernel
theorem dX11_line_10 : decode cX11_line 10 = .ok (.ifCond .lt 8, 3) := by decide +kernel
theorem dX11_line_13 : decode cX11_line 13 = .ok (.iload_n 3, 1) := by decide +kernel
theorem dX11_line_14 : decode cX11_line 14 = .ok (.iconst 3, 1) := by decide +kernel
theorem dX11_line_15 : decode cX11_line 15 = .ok (.if_icmp .le 13, 3) := by decide +kernel
theorem dX11_line_18 : decode cX11_line 18 = .ok (.new 135, 3) := by decide +kernel
theorem dX11_line_21 : decode cX11_line 21 = .ok (.dup, 1) := by decide +kernel
theorem dX11_line_22 : decode cX11_line 22 = .ok (.ldc 173, 2) := by decide +kernel
theorem dX11_line_24 : decode cX11_line 24 = .ok (.invokespecial 139, 3) := by decide +kernel
theorem dX11_line_27 : decode cX11_line 27 = .ok (.athrow, 1) := by decide +kernel
theorem dX11_line_28 : decode cX11_line 28 = .ok (.aload_n 0, 1) := by decide +kernel
theorem dX11_line_29 : decode cX11_line 29 = .ok (.getfield 54, 3) := by decide +kernel
theorem dX11_line_32 : decode cX11_line 32 = .ok (.iload_n 1, 1) := by decide +kernel
theorem dX11_line_33 : decode cX11_line 33 = .ok (.aaload, 1) := by decide +kernel
theorem dX11_line_34 : decode cX11_line 34 = .ok (.getfield 175, 3) := by decide +kernel
theorem dX11_line_37 : decode cX11_line 37 = .ok (.iload_n 2, 1) := by decide +kernel
theorem dX11_line_38 : decode cX11_line 38 = .ok (.aaload, 1) := by decide +kernel
theorem dX11_line_39 : decode cX11_line 39 = .ok (.astore 4, 2) := by decide +kernel
theorem dX11_line_41 : decode cX11_line 41 = .ok (.iload_n 3, 1) := by decide +kernel
theorem dX11_line_42 : decode cX11_line 42 = .ok (.tableswitch 44 0 2 #[26, 32, 38], 26) := by decide +kernel
theorem dX11_line_68 : decode cX11_line 68 = .ok (.aload 4, 2) := by decide +kernel
theorem dX11_line_70 : decode cX11_line 70 = .ok (.getfield 179, 3) := by decide +kernel
theorem dX11_line_73 : decode cX11_line 73 = .ok (.ireturn, 1) := by decide +kernel
theorem dX11_line_74 : decode cX11_line 74 = .ok (.aload 4, 2) := by decide +kernel
theorem dX11_line_76 : decode cX11_line 76 = .ok (.getfield 184, 3) := by decide +kernel
theorem dX11_line_79 : decode cX11_line 79 = .ok (.ireturn, 1) := by decide +kernel
theorem dX11_line_80 : decode cX11_line 80 = .ok (.aload 4, 2) := by decide +kernel
theorem dX11_line_82 : decode cX11_line 82 = .ok (.getfield 187, 3) := by decide +kernel
theorem dX11_line_85 : decode cX11_line 85 = .ok (.ireturn, 1) := by decide +kernel
theorem dX11_line_86 : decode cX11_line 86 = .ok (.aload 4, 2) := by decide +kernel
theorem dX11_line_88 : decode cX11_line 88 = .ok (.getfield 187, 3) := by decide +kernel
theorem dX11_line_91 : decode cX11_line 91 = .ok (.ifCond .ne 11, 3) := by decide +kernel
theorem dX11_line_94 : decode cX11_line 94 = .ok (.aload 4, 2) := by decide +kernel
theorem dX11_line_96 : decode cX11_line 96 = .ok (.getfield 190, 3) := by decide +kernel
theorem dX11_line_99 : decode cX11_line 99 = .ok (.goto 4, 3) := by decide +kernel
theorem dX11_line_102 : decode cX11_line 102 = .ok (.iconst (-1), 1) := by decide +kernel
theorem dX11_line_103 : decode cX11_line 103 = .ok (.ireturn, 1) := by decide +kernel
theorem dX11_lines_0 : decode cX11_lines 0 = .ok (.aload_n 0, 1) := by decide +kernel
theorem dX11_lines_1 : decode cX11_lines 1 = .ok (.iload_n 1, 1) := by decide +kernel
theorem dX11_lines_2 : decode cX11_lines 2 = .ok (.invokevirtual 193, 3) := by decide +kernel
theorem dX11_lines_5 : decode cX11_lines 5 = .ok (.ifCond .eq 15, 3) := by decide +kernel
theorem dX11_lines_8 : decode cX11_lines 8 = .ok (.aload_n 0, 1) := by decide +kernel
theorem dX11_lines_9 : decode cX11_lines 9 = .ok (.getfield 54, 3) := by decide +kernel
theorem dX11_lines_12 : decode cX11_lines 12 = .ok (.iload_n 1, 1) := by decide +kernel
theorem dX11_lines_13 : decode cX11_lines 13 = .ok (.aaload, 1) := by decide +kernel
theorem dX11_lines_14 : decode cX11_lines 14 = .ok (.getfield 196, 3) := by decide +kernel
theorem dX11_lines_17 : decode cX11_lines 17 = .ok (.goto 4, 3) := by decide +kernel
theorem dX11_lines_20 : decode cX11_lines 20 = .ok (.iconst (-1), 1) := by decide +kernel
theorem dX11_lines_21 : decode cX11_lines 21 = .ok (.ireturn, 1) := by decide +kernel
theorem dX11_readings_0 : decode cX11_readings 0 = .ok (.aload_n 0, 1) := by decide +kernel
theorem dX11_readings_1 : decode cX11_readings 1 = .ok (.iload_n 1, 1) := by decide +kernel
theorem dX11_readings_2 : decode cX11_readings 2 = .ok (.invokevirtual 193, 3) := by decide +kernel
theorem dX11_readings_5 : decode cX11_readings 5 = .ok (.ifCond .eq 14, 3) := by decide +kernel
theorem dX11_readings_8 : decode cX11_readings 8 = .ok (.aload_n 0, 1) := by decide +kernel
theorem dX11_readings_9 : decode cX11_readings 9 = .ok (.iload_n 1, 1) := by decide +kernel
theorem dX11_readings_10 : decode cX11_readings 10 = .ok (.invokevirtual 199, 3) := by decide +kernel
theorem dX11_readings_13 : decode cX11_readings 13 = .ok (.getfield 203, 3) := by decide +kernel
theorem dX11_readings_16 : decode cX11_readings 16 = .ok (.goto 4, 3) := by decide +kernel
theorem dX11_readings_19 : decode cX11_readings 19 = .ok (.iconst (-1), 1) := by decide +kernel
theorem dX11_readings_20 : decode cX11_readings 20 = .ok (.ireturn, 1) := by decide +kernel
theorem dX11_bound_0 : decode cX11_bound 0 = .ok (.aload_n 0, 1) := by decide +kernel
theorem dX11_bound_1 : decode cX11_bound 1 = .ok (.iload_n 1, 1) := by decide +kernel
theorem dX11_bound_2 : decode cX11_bound 2 = .ok (.iload_n 2, 1) := by decide +kernel
theorem dX11_bound_3 : decode cX11_bound 3 = .ok (.invokevirtual 170, 3) := by decide +kernel
theorem dX11_bound_6 : decode cX11_bound 6 = .ok (.ifCond .ne 13, 3) := by decide +kernel
theorem dX11_bound_9 : decode cX11_bound 9 = .ok (.new 135, 3) := by decide +kernel
theorem dX11_bound_12 : decode cX11_bound 12 = .ok (.dup, 1) := by decide +kernel
theorem dX11_bound_13 : decode cX11_bound 13 = .ok (.ldc 206, 2) := by decide +kernel
theorem dX11_bound_15 : decode cX11_bound 15 = .ok (.invokespecial 139, 3) := by decide +kernel
theorem dX11_bound_18 : decode cX11_bound 18 = .ok (.athrow, 1) := by decide +kernel
theorem dX11_bound_19 : decode cX11_bound 19 = .ok (.aload_n 0, 1) := by decide +kernel
theorem dX11_bound_20 : decode cX11_bound 20 = .ok (.iload_n 1, 1) := by decide +kernel
theorem dX11_bound_21 : decode cX11_bound 21 = .ok (.invokevirtual 199, 3) := by decide +kernel
theorem dX11_bound_24 : decode cX11_bound 24 = .ok (.astore 4, 2) := by decide +kernel
theorem dX11_bound_26 : decode cX11_bound 26 = .ok (.aload 4, 2) := by decide +kernel
theorem dX11_bound_28 : decode cX11_bound 28 = .ok (.getfield 203, 3) := by decide +kernel
theorem dX11_bound_31 : decode cX11_bound 31 = .ok (.ifCond .ne 7, 3) := by decide +kernel
theorem dX11_bound_34 : decode cX11_bound 34 = .ok (.iconst (-1), 1) := by decide +kernel
theorem dX11_bound_35 : decode cX11_bound 35 = .ok (.goto 14, 3) := by decide +kernel
theorem dX11_bound_38 : decode cX11_bound 38 = .ok (.aload 4, 2) := by decide +kernel
theorem dX11_bound_40 : decode cX11_bound 40 = .ok (.getfield 175, 3) := by decide +kernel
theorem dX11_bound_43 : decode cX11_bound 43 = .ok (.iload_n 2, 1) := by decide +kernel
theorem dX11_bound_44 : decode cX11_bound 44 = .ok (.aaload, 1) := by decide +kernel
theorem dX11_bound_45 : decode cX11_bound 45 = .ok (.iload_n 3, 1) := by decide +kernel
theorem dX11_bound_46 : decode cX11_bound 46 = .ok (.invokevirtual 208, 3) := by decide +kernel
theorem dX11_bound_49 : decode cX11_bound 49 = .ok (.ireturn, 1) := by decide +kernel
theorem dX11_digit_0 : decode cX11_digit 0 = .ok (.aload_n 0, 1) := by decide +kernel
theorem dX11_digit_1 : decode cX11_digit 1 = .ok (.iload_n 1, 1) := by decide +kernel
theorem dX11_digit_2 : decode cX11_digit 2 = .ok (.invokevirtual 193, 3) := by decide +kernel
theorem dX11_digit_5 : decode cX11_digit 5 = .ok (.ifCond .eq 20, 3) := by decide +kernel
theorem dX11_digit_8 : decode cX11_digit 8 = .ok (.iload_n 2, 1) := by decide +kernel
theorem dX11_digit_9 : decode cX11_digit 9 = .ok (.ifCond .lt 16, 3) := by decide +kernel
theorem dX11_digit_12 : decode cX11_digit 12 = .ok (.iload_n 2, 1) := by decide +kernel
theorem dX11_digit_13 : decode cX11_digit 13 = .ok (.aload_n 0, 1) := by decide +kernel
theorem dX11_digit_14 : decode cX11_digit 14 = .ok (.getfield 54, 3) := by decide +kernel
theorem dX11_digit_17 : decode cX11_digit 17 = .ok (.iload_n 1, 1) := by decide +kernel
theorem dX11_digit_18 : decode cX11_digit 18 = .ok (.aaload, 1) := by decide +kernel
theorem dX11_digit_19 : decode cX11_digit 19 = .ok (.getfield 212, 3) := by decide +kernel
theorem dX11_digit_22 : decode cX11_digit 22 = .ok (.if_icmp .lt 13, 3) := by decide +kernel
theorem dX11_digit_25 : decode cX11_digit 25 = .ok (.new 135, 3) := by decide +kernel
theorem dX11_digit_28 : decode cX11_digit 28 = .ok (.dup, 1) := by decide +kernel
theorem dX11_digit_29 : decode cX11_digit 29 = .ok (.ldc 213, 2) := by decide +kernel
theorem dX11_digit_31 : decode cX11_digit 31 = .ok (.invokespecial 139, 3) := by decide +kernel
theorem dX11_digit_34 : decode cX11_digit 34 = .ok (.athrow, 1) := by decide +kernel
theorem dX11_digit_35 : decode cX11_digit 35 = .ok (.aload_n 0, 1) := by decide +kernel
theorem dX11_digit_36 : decode cX11_digit 36 = .ok (.iload_n 1, 1) := by decide +kernel
theorem dX11_digit_37 : decode cX11_digit 37 = .ok (.invokevirtual 199, 3) := by decide +kernel
theorem dX11_digit_40 : decode cX11_digit 40 = .ok (.astore_n 3, 1) := by decide +kernel
theorem dX11_digit_41 : decode cX11_digit 41 = .ok (.aload_n 3, 1) := by decide +kernel
theorem dX11_digit_42 : decode cX11_digit 42 = .ok (.getfield 203, 3) := by decide +kernel
theorem dX11_digit_45 : decode cX11_digit 45 = .ok (.ifCond .ne 7, 3) := by decide +kernel
theorem dX11_digit_48 : decode cX11_digit 48 = .ok (.iconst (-1), 1) := by decide +kernel
theorem dX11_digit_49 : decode cX11_digit 49 = .ok (.goto 12, 3) := by decide +kernel
theorem dX11_digit_52 : decode cX11_digit 52 = .ok (.aload_n 3, 1) := by decide +kernel
theorem dX11_digit_53 : decode cX11_digit 53 = .ok (.getfield 215, 3) := by decide +kernel
theorem dX11_digit_56 : decode cX11_digit 56 = .ok (.iload_n 2, 1) := by decide +kernel
theorem dX11_digit_57 : decode cX11_digit 57 = .ok (.aaload, 1) := by decide +kernel
theorem dX11_digit_58 : decode cX11_digit 58 = .ok (.getfield 219, 3) := by decide +kernel
theorem dX11_digit_61 : decode cX11_digit 61 = .ok (.ireturn, 1) := by decide +kernel
theorem dX11_wrong_0 : decode cX11_wrong 0 = .ok (.aload_n 0, 1) := by decide +kernel
theorem dX11_wrong_1 : decode cX11_wrong 1 = .ok (.iload_n 1, 1) := by decide +kernel
theorem dX11_wrong_2 : decode cX11_wrong 2 = .ok (.invokevirtual 193, 3) := by decide +kernel
theorem dX11_wrong_5 : decode cX11_wrong 5 = .ok (.ifCond .eq 14, 3) := by decide +kernel
theorem dX11_wrong_8 : decode cX11_wrong 8 = .ok (.aload_n 0, 1) := by decide +kernel
theorem dX11_wrong_9 : decode cX11_wrong 9 = .ok (.iload_n 1, 1) := by decide +kernel
theorem dX11_wrong_10 : decode cX11_wrong 10 = .ok (.invokevirtual 199, 3) := by decide +kernel
theorem dX11_wrong_13 : decode cX11_wrong 13 = .ok (.getfield 224, 3) := by decide +kernel
theorem dX11_wrong_16 : decode cX11_wrong 16 = .ok (.goto 4, 3) := by decide +kernel
theorem dX11_wrong_19 : decode cX11_wrong 19 = .ok (.iconst (-1), 1) := by decide +kernel
theorem dX11_wrong_20 : decode cX11_wrong 20 = .ok (.ireturn, 1) := by decide +kernel
theorem dX11_fragment_0 : decode cX11_fragment 0 = .ok (.aload_n 0, 1) := by decide +kernel
theorem dX11_fragment_1 : decode cX11_fragment 1 = .ok (.getfield 94, 3) := by decide +kernel
theorem dX11_fragment_4 : decode cX11_fragment 4 = .ok (.bipush 12, 2) := by decide +kernel
theorem dX11_fragment_6 : decode cX11_fragment 6 = .ok (.if_icmp .ge 34, 3) := by decide +kernel
theorem dX11_fragment_9 : decode cX11_fragment 9 = .ok (.iload_n 1, 1) := by decide +kernel
theorem dX11_fragment_10 : decode cX11_fragment 10 = .ok (.invokestatic 227, 3) := by decide +kernel
theorem dX11_fragment_13 : decode cX11_fragment 13 = .ok (.ifCond .eq 27, 3) := by decide +kernel
theorem dX11_fragment_16 : decode cX11_fragment 16 = .ok (.iload_n 2, 1) := by decide +kernel
theorem dX11_fragment_17 : decode cX11_fragment 17 = .ok (.invokestatic 227, 3) := by decide +kernel
theorem dX11_fragment_20 : decode cX11_fragment 20 = .ok (.ifCond .eq 20, 3) := by decide +kernel
theorem dX11_fragment_23 : decode cX11_fragment 23 = .ok (.aload_n 0, 1) := by decide +kernel
theorem dX11_fragment_24 : decode cX11_fragment 24 = .ok (.getfield 14, 3) := by decide +kernel
theorem dX11_fragment_27 : decode cX11_fragment 27 = .ok (.getfield 100, 3) := by decide +kernel
theorem dX11_fragment_30 : decode cX11_fragment 30 = .ok (.sipush 200, 3) := by decide +kernel
theorem dX11_fragment_33 : decode cX11_fragment 33 = .ok (.if_icmp .gt 7, 3) := by decide +kernel
theorem dX11_fragment_36 : decode cX11_fragment 36 = .ok (.iconst 1, 1) := by decide +kernel
theorem dX11_fragment_37 : decode cX11_fragment 37 = .ok (.goto 4, 3) := by decide +kernel
theorem dX11_fragment_40 : decode cX11_fragment 40 = .ok (.iconst 0, 1) := by decide +kernel
theorem dX11_fragment_41 : decode cX11_fragment 41 = .ok (.istore_n 3, 1) := by decide +kernel
theorem dX11_fragment_42 : decode cX11_fragment 42 = .ok (.iload_n 3, 1) := by decide +kernel
theorem dX11_fragment_43 : decode cX11_fragment 43 = .ok (.ifCond .eq 31, 3) := by decide +kernel
theorem dX11_fragment_46 : decode cX11_fragment 46 = .ok (.aload_n 0, 1) := by decide +kernel
theorem dX11_fragment_47 : decode cX11_fragment 47 = .ok (.getfield 65, 3) := by decide +kernel
theorem dX11_fragment_50 : decode cX11_fragment 50 = .ok (.aload_n 0, 1) := by decide +kernel
theorem dX11_fragment_51 : decode cX11_fragment 51 = .ok (.getfield 94, 3) := by decide +kernel
theorem dX11_fragment_54 : decode cX11_fragment 54 = .ok (.aaload, 1) := by decide +kernel
theorem dX11_fragment_55 : decode cX11_fragment 55 = .ok (.aload_n 0, 1) := by decide +kernel
theorem dX11_fragment_56 : decode cX11_fragment 56 = .ok (.getfield 14, 3) := by decide +kernel
theorem dX11_fragment_59 : decode cX11_fragment 59 = .ok (.iload_n 1, 1) := by decide +kernel
theorem dX11_fragment_60 : decode cX11_fragment 60 = .ok (.iload_n 2, 1) := by decide +kernel
theorem dX11_fragment_61 : decode cX11_fragment 61 = .ok (.invokevirtual 230, 3) := by decide +kernel
theorem dX11_fragment_64 : decode cX11_fragment 64 = .ok (.aload_n 0, 1) := by decide +kernel
theorem dX11_fragment_65 : decode cX11_fragment 65 = .ok (.dup, 1) := by decide +kernel
theorem dX11_fragment_66 : decode cX11_fragment 66 = .ok (.getfield 94, 3) := by decide +kernel
theorem dX11_fragment_69 : decode cX11_fragment 69 = .ok (.iconst 1, 1) := by decide +kernel
theorem dX11_fragment_70 : decode cX11_fragment 70 = .ok (.iadd, 1) := by decide +kernel
theorem dX11_fragment_71 : decode cX11_fragment 71 = .ok (.putfield 94, 3) := by decide +kernel
theorem dX11_fragment_74 : decode cX11_fragment 74 = .ok (.aload_n 0, 1) := by decide +kernel
theorem dX11_fragment_75 : decode cX11_fragment 75 = .ok (.getfield 14, 3) := by decide +kernel
theorem dX11_fragment_78 : decode cX11_fragment 78 = .ok (.invokevirtual 110, 3) := by decide +kernel
theorem dX11_fragment_81 : decode cX11_fragment 81 = .ok (.iload_n 3, 1) := by decide +kernel
theorem dX11_fragment_82 : decode cX11_fragment 82 = .ok (.ifCond .eq 12, 3) := by decide +kernel
theorem dX11_fragment_85 : decode cX11_fragment 85 = .ok (.aload_n 0, 1) := by decide +kernel
theorem dX11_fragment_86 : decode cX11_fragment 86 = .ok (.getfield 94, 3) := by decide +kernel
theorem dX11_fragment_89 : decode cX11_fragment 89 = .ok (.iconst 1, 1) := by decide +kernel
theorem dX11_fragment_90 : decode cX11_fragment 90 = .ok (.isub, 1) := by decide +kernel
theorem dX11_fragment_91 : decode cX11_fragment 91 = .ok (.goto 4, 3) := by decide +kernel
theorem dX11_fragment_94 : decode cX11_fragment 94 = .ok (.iconst (-1), 1) := by decide +kernel
theorem dX11_fragment_95 : decode cX11_fragment 95 = .ok (.ireturn, 1) := by decide +kernel
theorem dX11_rows_0 : decode cX11_rows 0 = .ok (.aload_n 0, 1) := by decide +kernel
theorem dX11_rows_1 : decode cX11_rows 1 = .ok (.iload_n 1, 1) := by decide +kernel
theorem dX11_rows_2 : decode cX11_rows 2 = .ok (.invokevirtual 233, 3) := by decide +kernel
theorem dX11_rows_5 : decode cX11_rows 5 = .ok (.ifCond .eq 15, 3) := by decide +kernel
theorem dX11_rows_8 : decode cX11_rows 8 = .ok (.aload_n 0, 1) := by decide +kernel
theorem dX11_rows_9 : decode cX11_rows 9 = .ok (.getfield 65, 3) := by decide +kernel
theorem dX11_rows_12 : decode cX11_rows 12 = .ok (.iload_n 1, 1) := by decide +kernel
theorem dX11_rows_13 : decode cX11_rows 13 = .ok (.aaload, 1) := by decide +kernel
theorem dX11_rows_14 : decode cX11_rows 14 = .ok (.getfield 236, 3) := by decide +kernel
theorem dX11_rows_17 : decode cX11_rows 17 = .ok (.goto 4, 3) := by decide +kernel
theorem dX11_rows_20 : decode cX11_rows 20 = .ok (.iconst (-1), 1) := by decide +kernel
theorem dX11_rows_21 : decode cX11_rows 21 = .ok (.ireturn, 1) := by decide +kernel
theorem dX11_join_0 : decode cX11_join 0 = .ok (.aload_n 0, 1) := by decide +kernel
theorem dX11_join_1 : decode cX11_join 1 = .ok (.iload_n 1, 1) := by decide +kernel
theorem dX11_join_2 : decode cX11_join 2 = .ok (.invokevirtual 233, 3) := by decide +kernel
theorem dX11_join_5 : decode cX11_join 5 = .ok (.ifCond .eq 16, 3) := by decide +kernel
theorem dX11_join_8 : decode cX11_join 8 = .ok (.aload_n 0, 1) := by decide +kernel
theorem dX11_join_9 : decode cX11_join 9 = .ok (.iload_n 2, 1) := by decide +kernel
theorem dX11_join_10 : decode cX11_join 10 = .ok (.invokevirtual 233, 3) := by decide +kernel
theorem dX11_join_13 : decode cX11_join 13 = .ok (.ifCond .eq 8, 3) := by decide +kernel
theorem dX11_join_16 : decode cX11_join 16 = .ok (.iload_n 1, 1) := by decide +kernel
theorem dX11_join_17 : decode cX11_join 17 = .ok (.iload_n 2, 1) := by decide +kernel
theorem dX11_join_18 : decode cX11_join 18 = .ok (.if_icmp .ne 5, 3) := by decide +kernel
theorem dX11_join_21 : decode cX11_join 21 = .ok (.iconst (-1), 1) := by decide +kernel
theorem dX11_join_22 : decode cX11_join 22 = .ok (.ireturn, 1) := by decide +kernel
theorem dX11_join_23 : decode cX11_join 23 = .ok (.aload_n 0, 1) := by decide +kernel
theorem dX11_join_24 : decode cX11_join 24 = .ok (.iload_n 1, 1) := by decide +kernel
theorem dX11_join_25 : decode cX11_join 25 = .ok (.iload_n 2, 1) := by decide +kernel
theorem dX11_join_26 : decode cX11_join 26 = .ok (.invokevirtual 239, 3) := by decide +kernel
theorem dX11_join_29 : decode cX11_join 29 = .ok (.ireturn, 1) := by decide +kernel
theorem dX11_match_0 : decode cX11_match 0 = .ok (.iconst 0, 1) := by decide +kernel
theorem dX11_match_1 : decode cX11_match 1 = .ok (.istore_n 1, 1) := by decide +kernel
theorem dX11_match_2 : decode cX11_match 2 = .ok (.iload_n 1, 1) := by decide +kernel
theorem dX11_match_3 : decode cX11_match 3 = .ok (.aload_n 0, 1) := by decide +kernel
theorem dX11_match_4 : decode cX11_match 4 = .ok (.getfield 94, 3) := by decide +kernel
theorem dX11_match_7 : decode cX11_match 7 = .ok (.if_icmp .ge 51, 3) := by decide +kernel
theorem dX11_match_10 : decode cX11_match 10 = .ok (.iload_n 1, 1) := by decide +kernel
theorem dX11_match_11 : decode cX11_match 11 = .ok (.iconst 1, 1) := by decide +kernel
theorem dX11_match_12 : decode cX11_match 12 = .ok (.iadd, 1) := by decide +kernel
theorem dX11_match_13 : decode cX11_match 13 = .ok (.istore_n 2, 1) := by decide +kernel
theorem dX11_match_14 : decode cX11_match 14 = .ok (.iload_n 2, 1) := by decide +kernel
theorem dX11_match_15 : decode cX11_match 15 = .ok (.aload_n 0, 1) := by decide +kernel
theorem dX11_match_16 : decode cX11_match 16 = .ok (.getfield 94, 3) := by decide +kernel
theorem dX11_match_19 : decode cX11_match 19 = .ok (.if_icmp .ge 33, 3) := by decide +kernel
theorem dX11_match_22 : decode cX11_match 22 = .ok (.aload_n 0, 1) := by decide +kernel
theorem dX11_match_23 : decode cX11_match 23 = .ok (.getfield 48, 3) := by decide +kernel
theorem dX11_match_26 : decode cX11_match 26 = .ok (.iload_n 1, 1) := by decide +kernel
theorem dX11_match_27 : decode cX11_match 27 = .ok (.iload_n 2, 1) := by decide +kernel
theorem dX11_match_28 : decode cX11_match 28 = .ok (.aload_n 0, 1) := by decide +kernel
theorem dX11_match_29 : decode cX11_match 29 = .ok (.iload_n 1, 1) := by decide +kernel
theorem dX11_match_30 : decode cX11_match 30 = .ok (.iload_n 2, 1) := by decide +kernel
theorem dX11_match_31 : decode cX11_match 31 = .ok (.invokevirtual 239, 3) := by decide +kernel
theorem dX11_match_34 : decode cX11_match 34 = .ok (.aload_n 0, 1) := by decide +kernel
theorem dX11_match_35 : decode cX11_match 35 = .ok (.iload_n 2, 1) := by decide +kernel
theorem dX11_match_36 : decode cX11_match 36 = .ok (.iload_n 1, 1) := by decide +kernel
theorem dX11_match_37 : decode cX11_match 37 = .ok (.invokevirtual 239, 3) := by decide +kernel
theorem dX11_match_40 : decode cX11_match 40 = .ok (.invokestatic 242, 3) := by decide +kernel
theorem dX11_match_43 : decode cX11_match 43 = .ok (.invokevirtual 247, 3) := by decide +kernel
theorem dX11_match_46 : decode cX11_match 46 = .ok (.iinc 2 1, 3) := by decide +kernel
theorem dX11_match_49 : decode cX11_match 49 = .ok (.goto (-35), 3) := by decide +kernel
theorem dX11_match_52 : decode cX11_match 52 = .ok (.iinc 1 1, 3) := by decide +kernel
theorem dX11_match_55 : decode cX11_match 55 = .ok (.goto (-53), 3) := by decide +kernel
theorem dX11_match_58 : decode cX11_match 58 = .ok (.aload_n 0, 1) := by decide +kernel
theorem dX11_match_59 : decode cX11_match 59 = .ok (.getfield 48, 3) := by decide +kernel
theorem dX11_match_62 : decode cX11_match 62 = .ok (.aload_n 0, 1) := by decide +kernel
theorem dX11_match_63 : decode cX11_match 63 = .ok (.getfield 94, 3) := by decide +kernel
theorem dX11_match_66 : decode cX11_match 66 = .ok (.invokevirtual 251, 3) := by decide +kernel
theorem dX11_match_69 : decode cX11_match 69 = .ok (.aload_n 0, 1) := by decide +kernel
theorem dX11_match_70 : decode cX11_match 70 = .ok (.getfield 48, 3) := by decide +kernel
theorem dX11_match_73 : decode cX11_match 73 = .ok (.getfield 254, 3) := by decide +kernel
theorem dX11_match_76 : decode cX11_match 76 = .ok (.ireturn, 1) := by decide +kernel
theorem dX11_matched_0 : decode cX11_matched 0 = .ok (.aload_n 0, 1) := by decide +kernel
theorem dX11_matched_1 : decode cX11_matched 1 = .ok (.iload_n 1, 1) := by decide +kernel
theorem dX11_matched_2 : decode cX11_matched 2 = .ok (.invokevirtual 233, 3) := by decide +kernel
theorem dX11_matched_5 : decode cX11_matched 5 = .ok (.ifCond .eq 15, 3) := by decide +kernel
theorem dX11_matched_8 : decode cX11_matched 8 = .ok (.aload_n 0, 1) := by decide +kernel
theorem dX11_matched_9 : decode cX11_matched 9 = .ok (.getfield 48, 3) := by decide +kernel
theorem dX11_matched_12 : decode cX11_matched 12 = .ok (.getfield 257, 3) := by decide +kernel
theorem dX11_matched_15 : decode cX11_matched 15 = .ok (.iload_n 1, 1) := by decide +kernel
theorem dX11_matched_16 : decode cX11_matched 16 = .ok (.iaload, 1) := by decide +kernel
theorem dX11_matched_17 : decode cX11_matched 17 = .ok (.goto 4, 3) := by decide +kernel
theorem dX11_matched_20 : decode cX11_matched 20 = .ok (.iconst (-1), 1) := by decide +kernel
theorem dX11_matched_21 : decode cX11_matched 21 = .ok (.ireturn, 1) := by decide +kernel
theorem dX11_count_0 : decode cX11_count 0 = .ok (.iload_n 1, 1) := by decide +kernel
theorem dX11_count_1 : decode cX11_count 1 = .ok (.tableswitch 81 0 5 #[39, 47, 52, 57, 65, 73], 39) := by decide +kernel
theorem dX11_count_40 : decode cX11_count 40 = .ok (.aload_n 0, 1) := by decide +kernel
theorem dX11_count_41 : decode cX11_count 41 = .ok (.getfield 76, 3) := by decide +kernel
theorem dX11_count_44 : decode cX11_count 44 = .ok (.getfield 128, 3) := by decide +kernel
theorem dX11_count_47 : decode cX11_count 47 = .ok (.ireturn, 1) := by decide +kernel
theorem dX11_count_48 : decode cX11_count 48 = .ok (.aload_n 0, 1) := by decide +kernel
theorem dX11_count_49 : decode cX11_count 49 = .ok (.getfield 90, 3) := by decide +kernel
theorem dX11_count_52 : decode cX11_count 52 = .ok (.ireturn, 1) := by decide +kernel
theorem dX11_count_53 : decode cX11_count 53 = .ok (.aload_n 0, 1) := by decide +kernel
theorem dX11_count_54 : decode cX11_count 54 = .ok (.getfield 94, 3) := by decide +kernel
theorem dX11_count_57 : decode cX11_count 57 = .ok (.ireturn, 1) := by decide +kernel
theorem dX11_count_58 : decode cX11_count 58 = .ok (.aload_n 0, 1) := by decide +kernel
theorem dX11_count_59 : decode cX11_count 59 = .ok (.getfield 48, 3) := by decide +kernel
theorem dX11_count_62 : decode cX11_count 62 = .ok (.getfield 260, 3) := by decide +kernel
theorem dX11_count_65 : decode cX11_count 65 = .ok (.ireturn, 1) := by decide +kernel
theorem dX11_count_66 : decode cX11_count 66 = .ok (.aload_n 0, 1) := by decide +kernel
theorem dX11_count_67 : decode cX11_count 67 = .ok (.getfield 14, 3) := by decide +kernel
theorem dX11_count_70 : decode cX11_count 70 = .ok (.getfield 100, 3) := by decide +kernel
theorem dX11_count_73 : decode cX11_count 73 = .ok (.ireturn, 1) := by decide +kernel
theorem dX11_count_74 : decode cX11_count 74 = .ok (.aload_n 0, 1) := by decide +kernel
theorem dX11_count_75 : decode cX11_count 75 = .ok (.getfield 18, 3) := by decide +kernel
theorem dX11_count_78 : decode cX11_count 78 = .ok (.getfield 100, 3) := by decide +kernel
theorem dX11_count_81 : decode cX11_count 81 = .ok (.ireturn, 1) := by decide +kernel
theorem dX11_count_82 : decode cX11_count 82 = .ok (.iconst (-1), 1) := by decide +kernel
theorem dX11_count_83 : decode cX11_count 83 = .ok (.ireturn, 1) := by decide +kernel
theorem dX11_isSystem_0 : decode cX11_isSystem 0 = .ok (.iload_n 1, 1) := by decide +kernel
theorem dX11_isSystem_1 : decode cX11_isSystem 1 = .ok (.ifCond .lt 18, 3) := by decide +kernel
theorem dX11_isSystem_4 : decode cX11_isSystem 4 = .ok (.iload_n 1, 1) := by decide +kernel
theorem dX11_isSystem_5 : decode cX11_isSystem 5 = .ok (.aload_n 0, 1) := by decide +kernel
theorem dX11_isSystem_6 : decode cX11_isSystem 6 = .ok (.getfield 76, 3) := by decide +kernel
theorem dX11_isSystem_9 : decode cX11_isSystem 9 = .ok (.getfield 128, 3) := by decide +kernel
theorem dX11_isSystem_12 : decode cX11_isSystem 12 = .ok (.if_icmp .ge 7, 3) := by decide +kernel
theorem dX11_isSystem_15 : decode cX11_isSystem 15 = .ok (.iconst 1, 1) := by decide +kernel
theorem dX11_isSystem_16 : decode cX11_isSystem 16 = .ok (.goto 4, 3) := by decide +kernel
theorem dX11_isSystem_19 : decode cX11_isSystem 19 = .ok (.iconst 0, 1) := by decide +kernel
theorem dX11_isSystem_20 : decode cX11_isSystem 20 = .ok (.ireturn, 1) := by decide +kernel
theorem dX11_isTablet_0 : decode cX11_isTablet 0 = .ok (.iload_n 1, 1) := by decide +kernel
theorem dX11_isTablet_1 : decode cX11_isTablet 1 = .ok (.ifCond .lt 15, 3) := by decide +kernel
theorem dX11_isTablet_4 : decode cX11_isTablet 4 = .ok (.iload_n 1, 1) := by decide +kernel
theorem dX11_isTablet_5 : decode cX11_isTablet 5 = .ok (.aload_n 0, 1) := by decide +kernel
theorem dX11_isTablet_6 : decode cX11_isTablet 6 = .ok (.getfield 90, 3) := by decide +kernel
theorem dX11_isTablet_9 : decode cX11_isTablet 9 = .ok (.if_icmp .ge 7, 3) := by decide +kernel
theorem dX11_isTablet_12 : decode cX11_isTablet 12 = .ok (.iconst 1, 1) := by decide +kernel
theorem dX11_isTablet_13 : decode cX11_isTablet 13 = .ok (.goto 4, 3) := by decide +kernel
theorem dX11_isTablet_16 : decode cX11_isTablet 16 = .ok (.iconst 0, 1) := by decide +kernel
theorem dX11_isTablet_17 : decode cX11_isTablet 17 = .ok (.ireturn, 1) := by decide +kernel
theorem dX11_isLine_0 : decode cX11_isLine 0 = .ok (.aload_n 0, 1) := by decide +kernel
theorem dX11_isLine_1 : decode cX11_isLine 1 = .ok (.iload_n 1, 1) := by decide +kernel
theorem dX11_isLine_2 : decode cX11_isLine 2 = .ok (.invokevirtual 193, 3) := by decide +kernel
theorem dX11_isLine_5 : decode cX11_isLine 5 = .ok (.ifCond .eq 24, 3) := by decide +kernel
theorem dX11_isLine_8 : decode cX11_isLine 8 = .ok (.iload_n 2, 1) := by decide +kernel
theorem dX11_isLine_9 : decode cX11_isLine 9 = .ok (.ifCond .lt 20, 3) := by decide +kernel
theorem dX11_isLine_12 : decode cX11_isLine 12 = .ok (.iload_n 2, 1) := by decide +kernel
theorem dX11_isLine_13 : decode cX11_isLine 13 = .ok (.aload_n 0, 1) := by decide +kernel
theorem dX11_isLine_14 : decode cX11_isLine 14 = .ok (.getfield 54, 3) := by decide +kernel
theorem dX11_isLine_17 : decode cX11_isLine 17 = .ok (.iload_n 1, 1) := by decide +kernel
theorem dX11_isLine_18 : decode cX11_isLine 18 = .ok (.aaload, 1) := by decide +kernel
theorem dX11_isLine_19 : decode cX11_isLine 19 = .ok (.getfield 196, 3) := by decide +kernel
theorem dX11_isLine_22 : decode cX11_isLine 22 = .ok (.if_icmp .ge 7, 3) := by decide +kernel
theorem dX11_isLine_25 : decode cX11_isLine 25 = .ok (.iconst 1, 1) := by decide +kernel
theorem dX11_isLine_26 : decode cX11_isLine 26 = .ok (.goto 4, 3) := by decide +kernel
theorem dX11_isLine_29 : decode cX11_isLine 29 = .ok (.iconst 0, 1) := by decide +kernel
theorem dX11_isLine_30 : decode cX11_isLine 30 = .ok (.ireturn, 1) := by decide +kernel
theorem dX11_isFragment_0 : decode cX11_isFragment 0 = .ok (.iload_n 1, 1) := by decide +kernel
theorem dX11_isFragment_1 : decode cX11_isFragment 1 = .ok (.ifCond .lt 15, 3) := by decide +kernel
theorem dX11_isFragment_4 : decode cX11_isFragment 4 = .ok (.iload_n 1, 1) := by decide +kernel
theorem dX11_isFragment_5 : decode cX11_isFragment 5 = .ok (.aload_n 0, 1) := by decide +kernel
theorem dX11_isFragment_6 : decode cX11_isFragment 6 = .ok (.getfield 94, 3) := by decide +kernel
theorem dX11_isFragment_9 : decode cX11_isFragment 9 = .ok (.if_icmp .ge 7, 3) := by decide +kernel
theorem dX11_isFragment_12 : decode cX11_isFragment 12 = .ok (.iconst 1, 1) := by decide +kernel
theorem dX11_isFragment_13 : decode cX11_isFragment 13 = .ok (.goto 4, 3) := by decide +kernel
theorem dX11_isFragment_16 : decode cX11_isFragment 16 = .ok (.iconst 0, 1) := by decide +kernel
theorem dX11_isFragment_17 : decode cX11_isFragment 17 = .ok (.ireturn, 1) := by decide +kernel
theorem dX11_isEdge_0 : decode cX11_isEdge 0 = .ok (.iload_n 0, 1) := by decide +kernel
theorem dX11_isEdge_1 : decode cX11_isEdge 1 = .ok (.ifCond .lt 14, 3) := by decide +kernel
theorem dX11_isEdge_4 : decode cX11_isEdge 4 = .ok (.iload_n 0, 1) := by decide +kernel
theorem dX11_isEdge_5 : decode cX11_isEdge 5 = .ok (.ldc_w 263, 3) := by decide +kernel
theorem dX11_isEdge_8 : decode cX11_isEdge 8 = .ok (.if_icmp .gt 7, 3) := by decide +kernel
theorem dX11_isEdge_11 : decode cX11_isEdge 11 = .ok (.iconst 1, 1) := by decide +kernel
theorem dX11_isEdge_12 : decode cX11_isEdge 12 = .ok (.goto 4, 3) := by decide +kernel
theorem dX11_isEdge_15 : decode cX11_isEdge 15 = .ok (.iconst 0, 1) := by decide +kernel
theorem dX11_isEdge_16 : decode cX11_isEdge 16 = .ok (.ireturn, 1) := by decide +kernel
theorem dX11_solved_0 : decode cX11_solved 0 = .ok (.aload_n 0, 1) := by decide +kernel
theorem dX11_solved_1 : decode cX11_solved 1 = .ok (.getfield 54, 3) := by decide +kernel
theorem dX11_solved_4 : decode cX11_solved 4 = .ok (.iload_n 1, 1) := by decide +kernel
theorem dX11_solved_5 : decode cX11_solved 5 = .ok (.aaload, 1) := by decide +kernel
theorem dX11_solved_6 : decode cX11_solved 6 = .ok (.astore_n 2, 1) := by decide +kernel
theorem dX11_solved_7 : decode cX11_solved 7 = .ok (.aload_n 2, 1) := by decide +kernel
theorem dX11_solved_8 : decode cX11_solved 8 = .ok (.getfield 264, 3) := by decide +kernel
theorem dX11_solved_11 : decode cX11_solved 11 = .ok (.ifCond .ne 17, 3) := by decide +kernel
theorem dX11_solved_14 : decode cX11_solved 14 = .ok (.aload_n 0, 1) := by decide +kernel
theorem dX11_solved_15 : decode cX11_solved 15 = .ok (.getfield 41, 3) := by decide +kernel
theorem dX11_solved_18 : decode cX11_solved 18 = .ok (.aload_n 2, 1) := by decide +kernel
theorem dX11_solved_19 : decode cX11_solved 19 = .ok (.iconst 0, 1) := by decide +kernel
theorem dX11_solved_20 : decode cX11_solved 20 = .ok (.invokevirtual 268, 3) := by decide +kernel
theorem dX11_solved_23 : decode cX11_solved 23 = .ok (.aload_n 2, 1) := by decide +kernel
theorem dX11_solved_24 : decode cX11_solved 24 = .ok (.iconst 1, 1) := by decide +kernel
theorem dX11_solved_25 : decode cX11_solved 25 = .ok (.putfield 264, 3) := by decide +kernel
theorem dX11_solved_28 : decode cX11_solved 28 = .ok (.aload_n 2, 1) := by decide +kernel
theorem dX11_solved_29 : decode cX11_solved 29 = .ok (.areturn, 1) := by decide +kernel
theorem dX11_joined_0 : decode cX11_joined 0 = .ok (.iload_n 1, 1) := by decide +kernel
theorem dX11_joined_1 : decode cX11_joined 1 = .ok (.bipush 12, 2) := by decide +kernel
theorem dX11_joined_3 : decode cX11_joined 3 = .ok (.imul, 1) := by decide +kernel
theorem dX11_joined_4 : decode cX11_joined 4 = .ok (.iload_n 2, 1) := by decide +kernel
theorem dX11_joined_5 : decode cX11_joined 5 = .ok (.iadd, 1) := by decide +kernel
theorem dX11_joined_6 : decode cX11_joined 6 = .ok (.istore_n 3, 1) := by decide +kernel
theorem dX11_joined_7 : decode cX11_joined 7 = .ok (.aload_n 0, 1) := by decide +kernel
theorem dX11_joined_8 : decode cX11_joined 8 = .ok (.getfield 69, 3) := by decide +kernel
theorem dX11_joined_11 : decode cX11_joined 11 = .ok (.iload_n 3, 1) := by decide +kernel
theorem dX11_joined_12 : decode cX11_joined 12 = .ok (.iaload, 1) := by decide +kernel
theorem dX11_joined_13 : decode cX11_joined 13 = .ok (.iconst (-1), 1) := by decide +kernel
theorem dX11_joined_14 : decode cX11_joined 14 = .ok (.if_icmp .ne 28, 3) := by decide +kernel
theorem dX11_joined_17 : decode cX11_joined 17 = .ok (.aload_n 0, 1) := by decide +kernel
theorem dX11_joined_18 : decode cX11_joined 18 = .ok (.getfield 65, 3) := by decide +kernel
theorem dX11_joined_21 : decode cX11_joined 21 = .ok (.iload_n 1, 1) := by decide +kernel
theorem dX11_joined_22 : decode cX11_joined 22 = .ok (.aaload, 1) := by decide +kernel
theorem dX11_joined_23 : decode cX11_joined 23 = .ok (.aload_n 0, 1) := by decide +kernel
theorem dX11_joined_24 : decode cX11_joined 24 = .ok (.getfield 65, 3) := by decide +kernel
theorem dX11_joined_27 : decode cX11_joined 27 = .ok (.iload_n 2, 1) := by decide +kernel
theorem dX11_joined_28 : decode cX11_joined 28 = .ok (.aaload, 1) := by decide +kernel
theorem dX11_joined_29 : decode cX11_joined 29 = .ok (.invokevirtual 272, 3) := by decide +kernel
theorem dX11_joined_32 : decode cX11_joined 32 = .ok (.ifCond .ne 10, 3) := by decide +kernel
theorem dX11_joined_35 : decode cX11_joined 35 = .ok (.aload_n 0, 1) := by decide +kernel
theorem dX11_joined_36 : decode cX11_joined 36 = .ok (.getfield 69, 3) := by decide +kernel
theorem dX11_joined_39 : decode cX11_joined 39 = .ok (.iload_n 3, 1) := by decide +kernel
theorem dX11_joined_40 : decode cX11_joined 40 = .ok (.iconst 0, 1) := by decide +kernel
theorem dX11_joined_41 : decode cX11_joined 41 = .ok (.iastore, 1) := by decide +kernel
theorem dX11_joined_42 : decode cX11_joined 42 = .ok (.aload_n 0, 1) := by decide +kernel
theorem dX11_joined_43 : decode cX11_joined 43 = .ok (.getfield 69, 3) := by decide +kernel
theorem dX11_joined_46 : decode cX11_joined 46 = .ok (.iload_n 3, 1) := by decide +kernel
theorem dX11_joined_47 : decode cX11_joined 47 = .ok (.iaload, 1) := by decide +kernel
theorem dX11_joined_48 : decode cX11_joined 48 = .ok (.iconst (-1), 1) := by decide +kernel
theorem dX11_joined_49 : decode cX11_joined 49 = .ok (.if_icmp .ne 86, 3) := by decide +kernel
theorem dX11_joined_52 : decode cX11_joined 52 = .ok (.aload_n 0, 1) := by decide +kernel
theorem dX11_joined_53 : decode cX11_joined 53 = .ok (.getfield 65, 3) := by decide +kernel
theorem dX11_joined_56 : decode cX11_joined 56 = .ok (.iload_n 1, 1) := by decide +kernel
theorem dX11_joined_57 : decode cX11_joined 57 = .ok (.aaload, 1) := by decide +kernel
theorem dX11_joined_58 : decode cX11_joined 58 = .ok (.aload_n 0, 1) := by decide +kernel
theorem dX11_joined_59 : decode cX11_joined 59 = .ok (.getfield 65, 3) := by decide +kernel
theorem dX11_joined_62 : decode cX11_joined 62 = .ok (.iload_n 2, 1) := by decide +kernel
theorem dX11_joined_63 : decode cX11_joined 63 = .ok (.aaload, 1) := by decide +kernel
theorem dX11_joined_64 : decode cX11_joined 64 = .ok (.aload_n 0, 1) := by decide +kernel
theorem dX11_joined_65 : decode cX11_joined 65 = .ok (.getfield 21, 3) := by decide +kernel
theorem dX11_joined_68 : decode cX11_joined 68 = .ok (.invokevirtual 276, 3) := by decide +kernel
theorem dX11_joined_71 : decode cX11_joined 71 = .ok (.aload_n 0, 1) := by decide +kernel
theorem dX11_joined_72 : decode cX11_joined 72 = .ok (.getfield 34, 3) := by decide +kernel
theorem dX11_joined_75 : decode cX11_joined 75 = .ok (.aload_n 0, 1) := by decide +kernel
theorem dX11_joined_76 : decode cX11_joined 76 = .ok (.getfield 21, 3) := by decide +kernel
theorem dX11_joined_79 : decode cX11_joined 79 = .ok (.aload_n 0, 1) := by decide +kernel
theorem dX11_joined_80 : decode cX11_joined 80 = .ok (.getfield 76, 3) := by decide +kernel
theorem dX11_joined_83 : decode cX11_joined 83 = .ok (.aload_n 0, 1) := by decide +kernel
theorem dX11_joined_84 : decode cX11_joined 84 = .ok (.getfield 59, 3) := by decide +kernel
theorem dX11_joined_87 : decode cX11_joined 87 = .ok (.invokevirtual 166, 3) := by decide +kernel
theorem dX11_joined_90 : decode cX11_joined 90 = .ok (.istore 4, 2) := by decide +kernel
theorem dX11_joined_92 : decode cX11_joined 92 = .ok (.iload 4, 2) := by decide +kernel
theorem dX11_joined_94 : decode cX11_joined 94 = .ok (.ifCond .eq 15, 3) := by decide +kernel
theorem dX11_joined_97 : decode cX11_joined 97 = .ok (.aload_n 0, 1) := by decide +kernel
theorem dX11_joined_98 : decode cX11_joined 98 = .ok (.getfield 41, 3) := by decide +kernel
theorem dX11_joined_101 : decode cX11_joined 101 = .ok (.aload_n 0, 1) := by decide +kernel
theorem dX11_joined_102 : decode cX11_joined 102 = .ok (.getfield 59, 3) := by decide +kernel
theorem dX11_joined_105 : decode cX11_joined 105 = .ok (.iconst 1, 1) := by decide +kernel
theorem dX11_joined_106 : decode cX11_joined 106 = .ok (.invokevirtual 268, 3) := by decide +kernel
theorem dX11_joined_109 : decode cX11_joined 109 = .ok (.aload_n 0, 1) := by decide +kernel
theorem dX11_joined_110 : decode cX11_joined 110 = .ok (.getfield 69, 3) := by decide +kernel
theorem dX11_joined_113 : decode cX11_joined 113 = .ok (.iload_n 3, 1) := by decide +kernel
theorem dX11_joined_114 : decode cX11_joined 114 = .ok (.iload 4, 2) := by decide +kernel
theorem dX11_joined_116 : decode cX11_joined 116 = .ok (.ifCond .eq 17, 3) := by decide +kernel
theorem dX11_joined_119 : decode cX11_joined 119 = .ok (.aload_n 0, 1) := by decide +kernel
theorem dX11_joined_120 : decode cX11_joined 120 = .ok (.getfield 59, 3) := by decide +kernel
theorem dX11_joined_123 : decode cX11_joined 123 = .ok (.getfield 203, 3) := by decide +kernel
theorem dX11_joined_126 : decode cX11_joined 126 = .ok (.ifCond .le 7, 3) := by decide +kernel
theorem dX11_joined_129 : decode cX11_joined 129 = .ok (.iconst 2, 1) := by decide +kernel
theorem dX11_joined_130 : decode cX11_joined 130 = .ok (.goto 4, 3) := by decide +kernel
theorem dX11_joined_133 : decode cX11_joined 133 = .ok (.iconst 1, 1) := by decide +kernel
theorem dX11_joined_134 : decode cX11_joined 134 = .ok (.iastore, 1) := by decide +kernel
theorem dX11_joined_135 : decode cX11_joined 135 = .ok (.aload_n 0, 1) := by decide +kernel
theorem dX11_joined_136 : decode cX11_joined 136 = .ok (.getfield 69, 3) := by decide +kernel
theorem dX11_joined_139 : decode cX11_joined 139 = .ok (.iload_n 3, 1) := by decide +kernel
theorem dX11_joined_140 : decode cX11_joined 140 = .ok (.iaload, 1) := by decide +kernel
theorem dX11_joined_141 : decode cX11_joined 141 = .ok (.ireturn, 1) := by decide +kernel
