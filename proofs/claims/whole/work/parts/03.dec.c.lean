theorem dX6_init_0 : decode cX6_init 0 = .ok (.aload_n 0, 1) := by decide +kernel
theorem dX6_init_1 : decode cX6_init 1 = .ok (.invokespecial 1, 3) := by decide +kernel
theorem dX6_init_4 : decode cX6_init 4 = .ok (.aload_n 0, 1) := by decide +kernel
theorem dX6_init_5 : decode cX6_init 5 = .ok (.bipush 60, 2) := by decide +kernel
theorem dX6_init_7 : decode cX6_init 7 = .ok (.newarray .byte, 2) := by decide +kernel
theorem dX6_init_9 : decode cX6_init 9 = .ok (.putfield 7, 3) := by decide +kernel
theorem dX6_init_12 : decode cX6_init 12 = .ok (.aload_n 0, 1) := by decide +kernel
theorem dX6_init_13 : decode cX6_init 13 = .ok (.bipush 61, 2) := by decide +kernel
theorem dX6_init_15 : decode cX6_init 15 = .ok (.newarray .int, 2) := by decide +kernel
theorem dX6_init_17 : decode cX6_init 17 = .ok (.putfield 13, 3) := by decide +kernel
theorem dX6_init_20 : decode cX6_init 20 = .ok (.aload_n 0, 1) := by decide +kernel
theorem dX6_init_21 : decode cX6_init 21 = .ok (.bipush 61, 2) := by decide +kernel
theorem dX6_init_23 : decode cX6_init 23 = .ok (.newarray .int, 2) := by decide +kernel
theorem dX6_init_25 : decode cX6_init 25 = .ok (.putfield 17, 3) := by decide +kernel
theorem dX6_init_28 : decode cX6_init 28 = .ok (.aload_n 0, 1) := by decide +kernel
theorem dX6_init_29 : decode cX6_init 29 = .ok (.bipush 61, 2) := by decide +kernel
theorem dX6_init_31 : decode cX6_init 31 = .ok (.newarray .int, 2) := by decide +kernel
theorem dX6_init_33 : decode cX6_init 33 = .ok (.putfield 20, 3) := by decide +kernel
theorem dX6_init_36 : decode cX6_init 36 = .ok (.aload_n 0, 1) := by decide +kernel
theorem dX6_init_37 : decode cX6_init 37 = .ok (.bipush 61, 2) := by decide +kernel
theorem dX6_init_39 : decode cX6_init 39 = .ok (.newarray .boolean, 2) := by decide +kernel
theorem dX6_init_41 : decode cX6_init 41 = .ok (.putfield 23, 3) := by decide +kernel
theorem dX6_init_44 : decode cX6_init 44 = .ok (.aload_n 0, 1) := by decide +kernel
theorem dX6_init_45 : decode cX6_init 45 = .ok (.bipush 61, 2) := by decide +kernel
theorem dX6_init_47 : decode cX6_init 47 = .ok (.newarray .int, 2) := by decide +kernel
theorem dX6_init_49 : decode cX6_init 49 = .ok (.putfield 27, 3) := by decide +kernel
theorem dX6_init_52 : decode cX6_init 52 = .ok (.aload_n 0, 1) := by decide +kernel
theorem dX6_init_53 : decode cX6_init 53 = .ok (.sipush 732, 3) := by decide +kernel
theorem dX6_init_56 : decode cX6_init 56 = .ok (.newarray .int, 2) := by decide +kernel
theorem dX6_init_58 : decode cX6_init 58 = .ok (.putfield 30, 3) := by decide +kernel
theorem dX6_init_61 : decode cX6_init 61 = .ok (.aload_n 0, 1) := by decide +kernel
theorem dX6_init_62 : decode cX6_init 62 = .ok (.bipush 40, 2) := by decide +kernel
theorem dX6_init_64 : decode cX6_init 64 = .ok (.newarray .int, 2) := by decide +kernel
theorem dX6_init_66 : decode cX6_init 66 = .ok (.putfield 33, 3) := by decide +kernel
theorem dX6_init_69 : decode cX6_init 69 = .ok (.aload_n 0, 1) := by decide +kernel
theorem dX6_init_70 : decode cX6_init 70 = .ok (.sipush 2400, 3) := by decide +kernel
theorem dX6_init_73 : decode cX6_init 73 = .ok (.newarray .byte, 2) := by decide +kernel
theorem dX6_init_75 : decode cX6_init 75 = .ok (.putfield 36, 3) := by decide +kernel
theorem dX6_init_78 : decode cX6_init 78 = .ok (.aload_n 0, 1) := by decide +kernel
theorem dX6_init_79 : decode cX6_init 79 = .ok (.bipush 40, 2) := by decide +kernel
theorem dX6_init_81 : decode cX6_init 81 = .ok (.newarray .int, 2) := by decide +kernel
theorem dX6_init_83 : decode cX6_init 83 = .ok (.putfield 39, 3) := by decide +kernel
theorem dX6_init_86 : decode cX6_init 86 = .ok (.aload_n 0, 1) := by decide +kernel
theorem dX6_init_87 : decode cX6_init 87 = .ok (.sipush 320, 3) := by decide +kernel
theorem dX6_init_90 : decode cX6_init 90 = .ok (.newarray .int, 2) := by decide +kernel
theorem dX6_init_92 : decode cX6_init 92 = .ok (.putfield 42, 3) := by decide +kernel
theorem dX6_init_95 : decode cX6_init 95 = .ok (.aload_n 0, 1) := by decide +kernel
theorem dX6_init_96 : decode cX6_init 96 = .ok (.bipush 40, 2) := by decide +kernel
theorem dX6_init_98 : decode cX6_init 98 = .ok (.newarray .int, 2) := by decide +kernel
theorem dX6_init_100 : decode cX6_init 100 = .ok (.putfield 45, 3) := by decide +kernel
theorem dX6_init_103 : decode cX6_init 103 = .ok (.aload_n 0, 1) := by decide +kernel
theorem dX6_init_104 : decode cX6_init 104 = .ok (.bipush 20, 2) := by decide +kernel
theorem dX6_init_106 : decode cX6_init 106 = .ok (.newarray .int, 2) := by decide +kernel
theorem dX6_init_108 : decode cX6_init 108 = .ok (.putfield 48, 3) := by decide +kernel
theorem dX6_init_111 : decode cX6_init 111 = .ok (.aload_n 0, 1) := by decide +kernel
theorem dX6_init_112 : decode cX6_init 112 = .ok (.bipush 20, 2) := by decide +kernel
theorem dX6_init_114 : decode cX6_init 114 = .ok (.newarray .int, 2) := by decide +kernel
theorem dX6_init_116 : decode cX6_init 116 = .ok (.putfield 51, 3) := by decide +kernel
theorem dX6_init_119 : decode cX6_init 119 = .ok (.aload_n 0, 1) := by decide +kernel
theorem dX6_init_120 : decode cX6_init 120 = .ok (.bipush 20, 2) := by decide +kernel
theorem dX6_init_122 : decode cX6_init 122 = .ok (.newarray .int, 2) := by decide +kernel
theorem dX6_init_124 : decode cX6_init 124 = .ok (.putfield 54, 3) := by decide +kernel
theorem dX6_init_127 : decode cX6_init 127 = .ok (.aload_n 0, 1) := by decide +kernel
theorem dX6_init_128 : decode cX6_init 128 = .ok (.bipush 30, 2) := by decide +kernel
theorem dX6_init_130 : decode cX6_init 130 = .ok (.newarray .boolean, 2) := by decide +kernel
theorem dX6_init_132 : decode cX6_init 132 = .ok (.putfield 57, 3) := by decide +kernel
theorem dX6_init_135 : decode cX6_init 135 = .ok (.aload_n 0, 1) := by decide +kernel
theorem dX6_init_136 : decode cX6_init 136 = .ok (.bipush 30, 2) := by decide +kernel
theorem dX6_init_138 : decode cX6_init 138 = .ok (.newarray .int, 2) := by decide +kernel
theorem dX6_init_140 : decode cX6_init 140 = .ok (.putfield 60, 3) := by decide +kernel
theorem dX6_init_143 : decode cX6_init 143 = .ok (.aload_n 0, 1) := by decide +kernel
theorem dX6_init_144 : decode cX6_init 144 = .ok (.bipush 30, 2) := by decide +kernel
theorem dX6_init_146 : decode cX6_init 146 = .ok (.newarray .int, 2) := by decide +kernel
theorem dX6_init_148 : decode cX6_init 148 = .ok (.putfield 63, 3) := by decide +kernel
theorem dX6_init_151 : decode cX6_init 151 = .ok (.aload_n 0, 1) := by decide +kernel
theorem dX6_init_152 : decode cX6_init 152 = .ok (.bipush 40, 2) := by decide +kernel
theorem dX6_init_154 : decode cX6_init 154 = .ok (.newarray .int, 2) := by decide +kernel
theorem dX6_init_156 : decode cX6_init 156 = .ok (.putfield 66, 3) := by decide +kernel
theorem dX6_init_159 : decode cX6_init 159 = .ok (.aload_n 0, 1) := by decide +kernel
theorem dX6_init_160 : decode cX6_init 160 = .ok (.bipush 30, 2) := by decide +kernel
theorem dX6_init_162 : decode cX6_init 162 = .ok (.newarray .boolean, 2) := by decide +kernel
theorem dX6_init_164 : decode cX6_init 164 = .ok (.putfield 69, 3) := by decide +kernel
theorem dX6_init_167 : decode cX6_init 167 = .ok (.iconst 0, 1) := by decide +kernel
theorem dX6_init_168 : decode cX6_init 168 = .ok (.istore_n 1, 1) := by decide +kernel
theorem dX6_init_169 : decode cX6_init 169 = .ok (.iload_n 1, 1) := by decide +kernel
theorem dX6_init_170 : decode cX6_init 170 = .ok (.bipush 40, 2) := by decide +kernel
theorem dX6_init_172 : decode cX6_init 172 = .ok (.if_icmp .ge 23, 3) := by decide +kernel
theorem dX6_init_175 : decode cX6_init 175 = .ok (.aload_n 0, 1) := by decide +kernel
theorem dX6_init_176 : decode cX6_init 176 = .ok (.getfield 45, 3) := by decide +kernel
theorem dX6_init_179 : decode cX6_init 179 = .ok (.iload_n 1, 1) := by decide +kernel
theorem dX6_init_180 : decode cX6_init 180 = .ok (.iconst (-1), 1) := by decide +kernel
theorem dX6_init_181 : decode cX6_init 181 = .ok (.iastore, 1) := by decide +kernel
theorem dX6_init_182 : decode cX6_init 182 = .ok (.aload_n 0, 1) := by decide +kernel
theorem dX6_init_183 : decode cX6_init 183 = .ok (.getfield 66, 3) := by decide +kernel
theorem dX6_init_186 : decode cX6_init 186 = .ok (.iload_n 1, 1) := by decide +kernel
theorem dX6_init_187 : decode cX6_init 187 = .ok (.iconst (-1), 1) := by decide +kernel
theorem dX6_init_188 : decode cX6_init 188 = .ok (.iastore, 1) := by decide +kernel
theorem dX6_init_189 : decode cX6_init 189 = .ok (.iinc 1 1, 3) := by decide +kernel
theorem dX6_init_192 : decode cX6_init 192 = .ok (.goto (-23), 3) := by decide +kernel
theorem dX6_init_195 : decode cX6_init 195 = .ok (.iconst 0, 1) := by decide +kernel
theorem dX6_init_196 : decode cX6_init 196 = .ok (.istore_n 1, 1) := by decide +kernel
theorem dX6_init_197 : decode cX6_init 197 = .ok (.iload_n 1, 1) := by decide +kernel
theorem dX6_init_198 : decode cX6_init 198 = .ok (.bipush 30, 2) := by decide +kernel
theorem dX6_init_200 : decode cX6_init 200 = .ok (.if_icmp .ge 16, 3) := by decide +kernel
theorem dX6_init_203 : decode cX6_init 203 = .ok (.aload_n 0, 1) := by decide +kernel
theorem dX6_init_204 : decode cX6_init 204 = .ok (.getfield 60, 3) := by decide +kernel
theorem dX6_init_207 : decode cX6_init 207 = .ok (.iload_n 1, 1) := by decide +kernel
theorem dX6_init_208 : decode cX6_init 208 = .ok (.iconst (-1), 1) := by decide +kernel
theorem dX6_init_209 : decode cX6_init 209 = .ok (.iastore, 1) := by decide +kernel
theorem dX6_init_210 : decode cX6_init 210 = .ok (.iinc 1 1, 3) := by decide +kernel
theorem dX6_init_213 : decode cX6_init 213 = .ok (.goto (-16), 3) := by decide +kernel
theorem dX6_init_216 : decode cX6_init 216 = .ok (.return_, 1) := by decide +kernel
theorem dX6_thrown_0 : decode cX6_thrown 0 = .ok (.aload_n 0, 1) := by decide +kernel
theorem dX6_thrown_1 : decode cX6_thrown 1 = .ok (.getfield 72, 3) := by decide +kernel
theorem dX6_thrown_4 : decode cX6_thrown 4 = .ok (.ireturn, 1) := by decide +kernel
theorem dX6_in_0 : decode cX6_in 0 = .ok (.iload_n 0, 1) := by decide +kernel
theorem dX6_in_1 : decode cX6_in 1 = .ok (.iload_n 1, 1) := by decide +kernel
theorem dX6_in_2 : decode cX6_in 2 = .ok (.if_icmp .lt 12, 3) := by decide +kernel
theorem dX6_in_5 : decode cX6_in 5 = .ok (.iload_n 0, 1) := by decide +kernel
theorem dX6_in_6 : decode cX6_in 6 = .ok (.iload_n 2, 1) := by decide +kernel
theorem dX6_in_7 : decode cX6_in 7 = .ok (.if_icmp .gt 7, 3) := by decide +kernel
theorem dX6_in_10 : decode cX6_in 10 = .ok (.iconst 1, 1) := by decide +kernel
theorem dX6_in_11 : decode cX6_in 11 = .ok (.goto 4, 3) := by decide +kernel
theorem dX6_in_14 : decode cX6_in 14 = .ok (.iconst 0, 1) := by decide +kernel
theorem dX6_in_15 : decode cX6_in 15 = .ok (.ireturn, 1) := by decide +kernel
theorem dX6_isFile_0 : decode cX6_isFile 0 = .ok (.iload_n 1, 1) := by decide +kernel
theorem dX6_isFile_1 : decode cX6_isFile 1 = .ok (.iconst 0, 1) := by decide +kernel
theorem dX6_isFile_2 : decode cX6_isFile 2 = .ok (.aload_n 0, 1) := by decide +kernel
theorem dX6_isFile_3 : decode cX6_isFile 3 = .ok (.getfield 76, 3) := by decide +kernel
theorem dX6_isFile_6 : decode cX6_isFile 6 = .ok (.iconst 1, 1) := by decide +kernel
theorem dX6_isFile_7 : decode cX6_isFile 7 = .ok (.isub, 1) := by decide +kernel
theorem dX6_isFile_8 : decode cX6_isFile 8 = .ok (.invokestatic 79, 3) := by decide +kernel
theorem dX6_isFile_11 : decode cX6_isFile 11 = .ok (.ireturn, 1) := by decide +kernel
theorem dX6_isFormat_0 : decode cX6_isFormat 0 = .ok (.iload_n 0, 1) := by decide +kernel
theorem dX6_isFormat_1 : decode cX6_isFormat 1 = .ok (.iconst 0, 1) := by decide +kernel
theorem dX6_isFormat_2 : decode cX6_isFormat 2 = .ok (.bipush 29, 2) := by decide +kernel
theorem dX6_isFormat_4 : decode cX6_isFormat 4 = .ok (.invokestatic 79, 3) := by decide +kernel
theorem dX6_isFormat_7 : decode cX6_isFormat 7 = .ok (.ireturn, 1) := by decide +kernel
theorem dX6_sign_0 : decode cX6_sign 0 = .ok (.aload_n 0, 1) := by decide +kernel
theorem dX6_sign_1 : decode cX6_sign 1 = .ok (.iconst 0, 1) := by decide +kernel
theorem dX6_sign_2 : decode cX6_sign 2 = .ok (.putfield 72, 3) := by decide +kernel
theorem dX6_sign_5 : decode cX6_sign 5 = .ok (.aload_n 0, 1) := by decide +kernel
theorem dX6_sign_6 : decode cX6_sign 6 = .ok (.getfield 83, 3) := by decide +kernel
theorem dX6_sign_9 : decode cX6_sign 9 = .ok (.bipush 60, 2) := by decide +kernel
theorem dX6_sign_11 : decode cX6_sign 11 = .ok (.if_icmp .ne 4, 3) := by decide +kernel
theorem dX6_sign_14 : decode cX6_sign 14 = .ok (.return_, 1) := by decide +kernel
theorem dX6_sign_15 : decode cX6_sign 15 = .ok (.aload_n 0, 1) := by decide +kernel
theorem dX6_sign_16 : decode cX6_sign 16 = .ok (.getfield 7, 3) := by decide +kernel
theorem dX6_sign_19 : decode cX6_sign 19 = .ok (.aload_n 0, 1) := by decide +kernel
theorem dX6_sign_20 : decode cX6_sign 20 = .ok (.getfield 83, 3) := by decide +kernel
theorem dX6_sign_23 : decode cX6_sign 23 = .ok (.iload_n 1, 1) := by decide +kernel
theorem dX6_sign_24 : decode cX6_sign 24 = .ok (.i2b, 1) := by decide +kernel
theorem dX6_sign_25 : decode cX6_sign 25 = .ok (.bastore, 1) := by decide +kernel
theorem dX6_sign_26 : decode cX6_sign 26 = .ok (.aload_n 0, 1) := by decide +kernel
theorem dX6_sign_27 : decode cX6_sign 27 = .ok (.dup, 1) := by decide +kernel
theorem dX6_sign_28 : decode cX6_sign 28 = .ok (.getfield 83, 3) := by decide +kernel
theorem dX6_sign_31 : decode cX6_sign 31 = .ok (.iconst 1, 1) := by decide +kernel
theorem dX6_sign_32 : decode cX6_sign 32 = .ok (.iadd, 1) := by decide +kernel
theorem dX6_sign_33 : decode cX6_sign 33 = .ok (.putfield 83, 3) := by decide +kernel
theorem dX6_sign_36 : decode cX6_sign 36 = .ok (.return_, 1) := by decide +kernel
theorem dX6_look_0 : decode cX6_look 0 = .ok (.aload_n 0, 1) := by decide +kernel
theorem dX6_look_1 : decode cX6_look 1 = .ok (.getfield 86, 3) := by decide +kernel
theorem dX6_look_4 : decode cX6_look 4 = .ok (.aload_n 0, 1) := by decide +kernel
theorem dX6_look_5 : decode cX6_look 5 = .ok (.getfield 83, 3) := by decide +kernel
theorem dX6_look_8 : decode cX6_look 8 = .ok (.if_icmp .ge 19, 3) := by decide +kernel
theorem dX6_look_11 : decode cX6_look 11 = .ok (.aload_n 0, 1) := by decide +kernel
theorem dX6_look_12 : decode cX6_look 12 = .ok (.getfield 7, 3) := by decide +kernel
theorem dX6_look_15 : decode cX6_look 15 = .ok (.aload_n 0, 1) := by decide +kernel
theorem dX6_look_16 : decode cX6_look 16 = .ok (.getfield 86, 3) := by decide +kernel
theorem dX6_look_19 : decode cX6_look 19 = .ok (.baload, 1) := by decide +kernel
theorem dX6_look_20 : decode cX6_look 20 = .ok (.sipush 255, 3) := by decide +kernel
theorem dX6_look_23 : decode cX6_look 23 = .ok (.iand, 1) := by decide +kernel
theorem dX6_look_24 : decode cX6_look 24 = .ok (.goto 4, 3) := by decide +kernel
theorem dX6_look_27 : decode cX6_look 27 = .ok (.iconst (-1), 1) := by decide +kernel
theorem dX6_look_28 : decode cX6_look 28 = .ok (.ireturn, 1) := by decide +kernel
theorem dX6_isDigit_0 : decode cX6_isDigit 0 = .ok (.iload_n 0, 1) := by decide +kernel
theorem dX6_isDigit_1 : decode cX6_isDigit 1 = .ok (.bipush 48, 2) := by decide +kernel
theorem dX6_isDigit_3 : decode cX6_isDigit 3 = .ok (.bipush 57, 2) := by decide +kernel
theorem dX6_isDigit_5 : decode cX6_isDigit 5 = .ok (.invokestatic 79, 3) := by decide +kernel
theorem dX6_isDigit_8 : decode cX6_isDigit 8 = .ok (.ireturn, 1) := by decide +kernel
theorem dX6_eat_0 : decode cX6_eat 0 = .ok (.aload_n 0, 1) := by decide +kernel
theorem dX6_eat_1 : decode cX6_eat 1 = .ok (.invokevirtual 89, 3) := by decide +kernel
theorem dX6_eat_4 : decode cX6_eat 4 = .ok (.iload_n 1, 1) := by decide +kernel
theorem dX6_eat_5 : decode cX6_eat 5 = .ok (.if_icmp .eq 5, 3) := by decide +kernel
theorem dX6_eat_8 : decode cX6_eat 8 = .ok (.iconst 0, 1) := by decide +kernel
theorem dX6_eat_9 : decode cX6_eat 9 = .ok (.ireturn, 1) := by decide +kernel
theorem dX6_eat_10 : decode cX6_eat 10 = .ok (.aload_n 0, 1) := by decide +kernel
theorem dX6_eat_11 : decode cX6_eat 11 = .ok (.dup, 1) := by decide +kernel
theorem dX6_eat_12 : decode cX6_eat 12 = .ok (.getfield 86, 3) := by decide +kernel
theorem dX6_eat_15 : decode cX6_eat 15 = .ok (.iconst 1, 1) := by decide +kernel
theorem dX6_eat_16 : decode cX6_eat 16 = .ok (.iadd, 1) := by decide +kernel
theorem dX6_eat_17 : decode cX6_eat 17 = .ok (.putfield 86, 3) := by decide +kernel
theorem dX6_eat_20 : decode cX6_eat 20 = .ok (.iconst 1, 1) := by decide +kernel
theorem dX6_eat_21 : decode cX6_eat 21 = .ok (.ireturn, 1) := by decide +kernel
theorem dX6_number_0 : decode cX6_number 0 = .ok (.aload_n 0, 1) := by decide +kernel
theorem dX6_number_1 : decode cX6_number 1 = .ok (.getfield 86, 3) := by decide +kernel
theorem dX6_number_4 : decode cX6_number 4 = .ok (.istore 4, 2) := by decide +kernel
theorem dX6_number_6 : decode cX6_number 6 = .ok (.iconst 0, 1) := by decide +kernel
theorem dX6_number_7 : decode cX6_number 7 = .ok (.istore 5, 2) := by decide +kernel
theorem dX6_number_9 : decode cX6_number 9 = .ok (.aload_n 0, 1) := by decide +kernel
theorem dX6_number_10 : decode cX6_number 10 = .ok (.invokevirtual 89, 3) := by decide +kernel
theorem dX6_number_13 : decode cX6_number 13 = .ok (.invokestatic 93, 3) := by decide +kernel
theorem dX6_number_16 : decode cX6_number 16 = .ok (.ifCond .eq 44, 3) := by decide +kernel
theorem dX6_number_19 : decode cX6_number 19 = .ok (.iload 5, 2) := by decide +kernel
theorem dX6_number_21 : decode cX6_number 21 = .ok (.sipush 9999, 3) := by decide +kernel
theorem dX6_number_24 : decode cX6_number 24 = .ok (.if_icmp .le 8, 3) := by decide +kernel
theorem dX6_number_27 : decode cX6_number 27 = .ok (.iload 5, 2) := by decide +kernel
theorem dX6_number_29 : decode cX6_number 29 = .ok (.goto 16, 3) := by decide +kernel
theorem dX6_number_32 : decode cX6_number 32 = .ok (.bipush 10, 2) := by decide +kernel
theorem dX6_number_34 : decode cX6_number 34 = .ok (.iload 5, 2) := by decide +kernel
theorem dX6_number_36 : decode cX6_number 36 = .ok (.imul, 1) := by decide +kernel
theorem dX6_number_37 : decode cX6_number 37 = .ok (.aload_n 0, 1) := by decide +kernel
theorem dX6_number_38 : decode cX6_number 38 = .ok (.invokevirtual 89, 3) := by decide +kernel
theorem dX6_number_41 : decode cX6_number 41 = .ok (.iadd, 1) := by decide +kernel
theorem dX6_number_42 : decode cX6_number 42 = .ok (.bipush 48, 2) := by decide +kernel
theorem dX6_number_44 : decode cX6_number 44 = .ok (.isub, 1) := by decide +kernel
theorem dX6_number_45 : decode cX6_number 45 = .ok (.istore 5, 2) := by decide +kernel
theorem dX6_number_47 : decode cX6_number 47 = .ok (.aload_n 0, 1) := by decide +kernel
theorem dX6_number_48 : decode cX6_number 48 = .ok (.dup, 1) := by decide +kernel
theorem dX6_number_49 : decode cX6_number 49 = .ok (.getfield 86, 3) := by decide +kernel
theorem dX6_number_52 : decode cX6_number 52 = .ok (.iconst 1, 1) := by decide +kernel
theorem dX6_number_53 : decode cX6_number 53 = .ok (.iadd, 1) := by decide +kernel
theorem dX6_number_54 : decode cX6_number 54 = .ok (.putfield 86, 3) := by decide +kernel
theorem dX6_number_57 : decode cX6_number 57 = .ok (.goto (-48), 3) := by decide +kernel
theorem dX6_number_60 : decode cX6_number 60 = .ok (.aload_n 0, 1) := by decide +kernel
theorem dX6_number_61 : decode cX6_number 61 = .ok (.getfield 86, 3) := by decide +kernel
theorem dX6_number_64 : decode cX6_number 64 = .ok (.iload 4, 2) := by decide +kernel
theorem dX6_number_66 : decode cX6_number 66 = .ok (.isub, 1) := by decide +kernel
theorem dX6_number_67 : decode cX6_number 67 = .ok (.istore 6, 2) := by decide +kernel
theorem dX6_number_69 : decode cX6_number 69 = .ok (.aload_n 1, 1) := by decide +kernel
theorem dX6_number_70 : decode cX6_number 70 = .ok (.aload_n 0, 1) := by decide +kernel
theorem dX6_number_71 : decode cX6_number 71 = .ok (.getfield 97, 3) := by decide +kernel
theorem dX6_number_74 : decode cX6_number 74 = .ok (.iload 5, 2) := by decide +kernel
theorem dX6_number_76 : decode cX6_number 76 = .ok (.iastore, 1) := by decide +kernel
theorem dX6_number_77 : decode cX6_number 77 = .ok (.iload 6, 2) := by decide +kernel
theorem dX6_number_79 : decode cX6_number 79 = .ok (.iconst 1, 1) := by decide +kernel
theorem dX6_number_80 : decode cX6_number 80 = .ok (.iload_n 2, 1) := by decide +kernel
theorem dX6_number_81 : decode cX6_number 81 = .ok (.invokestatic 79, 3) := by decide +kernel
theorem dX6_number_84 : decode cX6_number 84 = .ok (.ifCond .eq 11, 3) := by decide +kernel
theorem dX6_number_87 : decode cX6_number 87 = .ok (.iload 5, 2) := by decide +kernel
theorem dX6_number_89 : decode cX6_number 89 = .ok (.iload_n 3, 1) := by decide +kernel
theorem dX6_number_90 : decode cX6_number 90 = .ok (.if_icmp .ge 5, 3) := by decide +kernel
theorem dX6_number_93 : decode cX6_number 93 = .ok (.iconst 1, 1) := by decide +kernel
theorem dX6_number_94 : decode cX6_number 94 = .ok (.ireturn, 1) := by decide +kernel
theorem dX6_number_95 : decode cX6_number 95 = .ok (.aload_n 0, 1) := by decide +kernel
theorem dX6_number_96 : decode cX6_number 96 = .ok (.iload 4, 2) := by decide +kernel
theorem dX6_number_98 : decode cX6_number 98 = .ok (.putfield 86, 3) := by decide +kernel
theorem dX6_number_101 : decode cX6_number 101 = .ok (.iconst 0, 1) := by decide +kernel
theorem dX6_number_102 : decode cX6_number 102 = .ok (.ireturn, 1) := by decide +kernel
theorem dX6_hex_0 : decode cX6_hex 0 = .ok (.iload_n 0, 1) := by decide +kernel
theorem dX6_hex_1 : decode cX6_hex 1 = .ok (.invokestatic 93, 3) := by decide +kernel
theorem dX6_hex_4 : decode cX6_hex 4 = .ok (.ifCond .eq 10, 3) := by decide +kernel
theorem dX6_hex_7 : decode cX6_hex 7 = .ok (.iload_n 0, 1) := by decide +kernel
theorem dX6_hex_8 : decode cX6_hex 8 = .ok (.bipush 48, 2) := by decide +kernel
theorem dX6_hex_10 : decode cX6_hex 10 = .ok (.isub, 1) := by decide +kernel
theorem dX6_hex_11 : decode cX6_hex 11 = .ok (.goto 25, 3) := by decide +kernel
theorem dX6_hex_14 : decode cX6_hex 14 = .ok (.iload_n 0, 1) := by decide +kernel
theorem dX6_hex_15 : decode cX6_hex 15 = .ok (.bipush 97, 2) := by decide +kernel
theorem dX6_hex_17 : decode cX6_hex 17 = .ok (.bipush 102, 2) := by decide +kernel
theorem dX6_hex_19 : decode cX6_hex 19 = .ok (.invokestatic 79, 3) := by decide +kernel
theorem dX6_hex_22 : decode cX6_hex 22 = .ok (.ifCond .eq 13, 3) := by decide +kernel
theorem dX6_hex_25 : decode cX6_hex 25 = .ok (.iload_n 0, 1) := by decide +kernel
theorem dX6_hex_26 : decode cX6_hex 26 = .ok (.bipush 97, 2) := by decide +kernel
theorem dX6_hex_28 : decode cX6_hex 28 = .ok (.isub, 1) := by decide +kernel
theorem dX6_hex_29 : decode cX6_hex 29 = .ok (.bipush 10, 2) := by decide +kernel
theorem dX6_hex_31 : decode cX6_hex 31 = .ok (.iadd, 1) := by decide +kernel
theorem dX6_hex_32 : decode cX6_hex 32 = .ok (.goto 4, 3) := by decide +kernel
theorem dX6_hex_35 : decode cX6_hex 35 = .ok (.iconst (-1), 1) := by decide +kernel
theorem dX6_hex_36 : decode cX6_hex 36 = .ok (.ireturn, 1) := by decide +kernel
theorem dX6_pair_0 : decode cX6_pair 0 = .ok (.aload_n 0, 1) := by decide +kernel
theorem dX6_pair_1 : decode cX6_pair 1 = .ok (.invokevirtual 89, 3) := by decide +kernel
theorem dX6_pair_4 : decode cX6_pair 4 = .ok (.istore_n 2, 1) := by decide +kernel
theorem dX6_pair_5 : decode cX6_pair 5 = .ok (.iload_n 2, 1) := by decide +kernel
theorem dX6_pair_6 : decode cX6_pair 6 = .ok (.bipush 63, 2) := by decide +kernel
theorem dX6_pair_8 : decode cX6_pair 8 = .ok (.if_icmp .eq 12, 3) := by decide +kernel
theorem dX6_pair_11 : decode cX6_pair 11 = .ok (.iload_n 2, 1) := by decide +kernel
theorem dX6_pair_12 : decode cX6_pair 12 = .ok (.invokestatic 100, 3) := by decide +kernel
theorem dX6_pair_15 : decode cX6_pair 15 = .ok (.ifCond .ge 5, 3) := by decide +kernel
theorem dX6_pair_18 : decode cX6_pair 18 = .ok (.iconst 0, 1) := by decide +kernel
theorem dX6_pair_19 : decode cX6_pair 19 = .ok (.ireturn, 1) := by decide +kernel
theorem dX6_pair_20 : decode cX6_pair 20 = .ok (.aload_n 0, 1) := by decide +kernel
theorem dX6_pair_21 : decode cX6_pair 21 = .ok (.dup, 1) := by decide +kernel
theorem dX6_pair_22 : decode cX6_pair 22 = .ok (.getfield 86, 3) := by decide +kernel
theorem dX6_pair_25 : decode cX6_pair 25 = .ok (.iconst 1, 1) := by decide +kernel
theorem dX6_pair_26 : decode cX6_pair 26 = .ok (.iadd, 1) := by decide +kernel
theorem dX6_pair_27 : decode cX6_pair 27 = .ok (.putfield 86, 3) := by decide +kernel
theorem dX6_pair_30 : decode cX6_pair 30 = .ok (.aload_n 0, 1) := by decide +kernel
theorem dX6_pair_31 : decode cX6_pair 31 = .ok (.invokevirtual 89, 3) := by decide +kernel
theorem dX6_pair_34 : decode cX6_pair 34 = .ok (.istore_n 3, 1) := by decide +kernel
theorem dX6_pair_35 : decode cX6_pair 35 = .ok (.iload_n 2, 1) := by decide +kernel
theorem dX6_pair_36 : decode cX6_pair 36 = .ok (.bipush 63, 2) := by decide +kernel
theorem dX6_pair_38 : decode cX6_pair 38 = .ok (.if_icmp .ne 12, 3) := by decide +kernel
theorem dX6_pair_41 : decode cX6_pair 41 = .ok (.iload_n 3, 1) := by decide +kernel
theorem dX6_pair_42 : decode cX6_pair 42 = .ok (.bipush 63, 2) := by decide +kernel
theorem dX6_pair_44 : decode cX6_pair 44 = .ok (.if_icmp .eq 15, 3) := by decide +kernel
theorem dX6_pair_47 : decode cX6_pair 47 = .ok (.goto 10, 3) := by decide +kernel
theorem dX6_pair_50 : decode cX6_pair 50 = .ok (.iload_n 3, 1) := by decide +kernel
theorem dX6_pair_51 : decode cX6_pair 51 = .ok (.invokestatic 100, 3) := by decide +kernel
theorem dX6_pair_54 : decode cX6_pair 54 = .ok (.ifCond .ge 5, 3) := by decide +kernel
theorem dX6_pair_57 : decode cX6_pair 57 = .ok (.iconst 0, 1) := by decide +kernel
theorem dX6_pair_58 : decode cX6_pair 58 = .ok (.ireturn, 1) := by decide +kernel
theorem dX6_pair_59 : decode cX6_pair 59 = .ok (.aload_n 0, 1) := by decide +kernel
theorem dX6_pair_60 : decode cX6_pair 60 = .ok (.dup, 1) := by decide +kernel
theorem dX6_pair_61 : decode cX6_pair 61 = .ok (.getfield 86, 3) := by decide +kernel
theorem dX6_pair_64 : decode cX6_pair 64 = .ok (.iconst 1, 1) := by decide +kernel
theorem dX6_pair_65 : decode cX6_pair 65 = .ok (.iadd, 1) := by decide +kernel
theorem dX6_pair_66 : decode cX6_pair 66 = .ok (.putfield 86, 3) := by decide +kernel
theorem dX6_pair_69 : decode cX6_pair 69 = .ok (.aload_n 0, 1) := by decide +kernel
theorem dX6_pair_70 : decode cX6_pair 70 = .ok (.getfield 30, 3) := by decide +kernel
theorem dX6_pair_73 : decode cX6_pair 73 = .ok (.bipush 12, 2) := by decide +kernel
theorem dX6_pair_75 : decode cX6_pair 75 = .ok (.aload_n 0, 1) := by decide +kernel
theorem dX6_pair_76 : decode cX6_pair 76 = .ok (.getfield 97, 3) := by decide +kernel
theorem dX6_pair_79 : decode cX6_pair 79 = .ok (.imul, 1) := by decide +kernel
theorem dX6_pair_80 : decode cX6_pair 80 = .ok (.iload_n 1, 1) := by decide +kernel
theorem dX6_pair_81 : decode cX6_pair 81 = .ok (.iadd, 1) := by decide +kernel
theorem dX6_pair_82 : decode cX6_pair 82 = .ok (.iload_n 2, 1) := by decide +kernel
theorem dX6_pair_83 : decode cX6_pair 83 = .ok (.bipush 63, 2) := by decide +kernel
theorem dX6_pair_85 : decode cX6_pair 85 = .ok (.if_icmp .ne 9, 3) := by decide +kernel
theorem dX6_pair_88 : decode cX6_pair 88 = .ok (.sipush 256, 3) := by decide +kernel
theorem dX6_pair_91 : decode cX6_pair 91 = .ok (.goto 15, 3) := by decide +kernel
theorem dX6_pair_94 : decode cX6_pair 94 = .ok (.bipush 16, 2) := by decide +kernel
theorem dX6_pair_96 : decode cX6_pair 96 = .ok (.iload_n 2, 1) := by decide +kernel
theorem dX6_pair_97 : decode cX6_pair 97 = .ok (.invokestatic 100, 3) := by decide +kernel
theorem dX6_pair_100 : decode cX6_pair 100 = .ok (.imul, 1) := by decide +kernel
theorem dX6_pair_101 : decode cX6_pair 101 = .ok (.iload_n 3, 1) := by decide +kernel
theorem dX6_pair_102 : decode cX6_pair 102 = .ok (.invokestatic 100, 3) := by decide +kernel
theorem dX6_pair_105 : decode cX6_pair 105 = .ok (.iadd, 1) := by decide +kernel
theorem dX6_pair_106 : decode cX6_pair 106 = .ok (.iastore, 1) := by decide +kernel
theorem dX6_pair_107 : decode cX6_pair 107 = .ok (.iconst 1, 1) := by decide +kernel
theorem dX6_pair_108 : decode cX6_pair 108 = .ok (.ireturn, 1) := by decide +kernel
theorem dX6_reads_0 : decode cX6_reads 0 = .ok (.aload_n 0, 1) := by decide +kernel
theorem dX6_reads_1 : decode cX6_reads 1 = .ok (.iconst 0, 1) := by decide +kernel
theorem dX6_reads_2 : decode cX6_reads 2 = .ok (.putfield 86, 3) := by decide +kernel
theorem dX6_reads_5 : decode cX6_reads 5 = .ok (.aload_n 0, 1) := by decide +kernel
theorem dX6_reads_6 : decode cX6_reads 6 = .ok (.aload_n 0, 1) := by decide +kernel
theorem dX6_reads_7 : decode cX6_reads 7 = .ok (.getfield 13, 3) := by decide +kernel
theorem dX6_reads_10 : decode cX6_reads 10 = .ok (.iconst 2, 1) := by decide +kernel
theorem dX6_reads_11 : decode cX6_reads 11 = .ok (.bipush 30, 2) := by decide +kernel
theorem dX6_reads_13 : decode cX6_reads 13 = .ok (.invokevirtual 104, 3) := by decide +kernel
theorem dX6_reads_16 : decode cX6_reads 16 = .ok (.ifCond .eq 12, 3) := by decide +kernel
theorem dX6_reads_19 : decode cX6_reads 19 = .ok (.aload_n 0, 1) := by decide +kernel
theorem dX6_reads_20 : decode cX6_reads 20 = .ok (.bipush 32, 2) := by decide +kernel
theorem dX6_reads_22 : decode cX6_reads 22 = .ok (.invokevirtual 108, 3) := by decide +kernel
theorem dX6_reads_25 : decode cX6_reads 25 = .ok (.ifCond .ne 5, 3) := by decide +kernel
theorem dX6_reads_28 : decode cX6_reads 28 = .ok (.iconst 0, 1) := by decide +kernel
theorem dX6_reads_29 : decode cX6_reads 29 = .ok (.ireturn, 1) := by decide +kernel
theorem dX6_reads_30 : decode cX6_reads 30 = .ok (.aload_n 0, 1) := by decide +kernel
theorem dX6_reads_31 : decode cX6_reads 31 = .ok (.aload_n 0, 1) := by decide +kernel
theorem dX6_reads_32 : decode cX6_reads 32 = .ok (.getfield 17, 3) := by decide +kernel
theorem dX6_reads_35 : decode cX6_reads 35 = .ok (.iconst 1, 1) := by decide +kernel
theorem dX6_reads_36 : decode cX6_reads 36 = .ok (.bipush 10, 2) := by decide +kernel
theorem dX6_reads_38 : decode cX6_reads 38 = .ok (.invokevirtual 104, 3) := by decide +kernel
theorem dX6_reads_41 : decode cX6_reads 41 = .ok (.ifCond .eq 12, 3) := by decide +kernel
theorem dX6_reads_44 : decode cX6_reads 44 = .ok (.aload_n 0, 1) := by decide +kernel
theorem dX6_reads_45 : decode cX6_reads 45 = .ok (.bipush 32, 2) := by decide +kernel
theorem dX6_reads_47 : decode cX6_reads 47 = .ok (.invokevirtual 108, 3) := by decide +kernel
theorem dX6_reads_50 : decode cX6_reads 50 = .ok (.ifCond .ne 5, 3) := by decide +kernel
theorem dX6_reads_53 : decode cX6_reads 53 = .ok (.iconst 0, 1) := by decide +kernel
theorem dX6_reads_54 : decode cX6_reads 54 = .ok (.ireturn, 1) := by decide +kernel
theorem dX6_reads_55 : decode cX6_reads 55 = .ok (.aload_n 0, 1) := by decide +kernel
theorem dX6_reads_56 : decode cX6_reads 56 = .ok (.getfield 23, 3) := by decide +kernel
theorem dX6_reads_59 : decode cX6_reads 59 = .ok (.aload_n 0, 1) := by decide +kernel
theorem dX6_reads_60 : decode cX6_reads 60 = .ok (.getfield 97, 3) := by decide +kernel
theorem dX6_reads_63 : decode cX6_reads 63 = .ok (.aload_n 0, 1) := by decide +kernel
theorem dX6_reads_64 : decode cX6_reads 64 = .ok (.invokevirtual 89, 3) := by decide +kernel
theorem dX6_reads_67 : decode cX6_reads 67 = .ok (.bipush 45, 2) := by decide +kernel
theorem dX6_reads_69 : decode cX6_reads 69 = .ok (.if_icmp .ne 7, 3) := by decide +kernel
theorem dX6_reads_72 : decode cX6_reads 72 = .ok (.iconst 1, 1) := by decide +kernel
theorem dX6_reads_73 : decode cX6_reads 73 = .ok (.goto 4, 3) := by decide +kernel
theorem dX6_reads_76 : decode cX6_reads 76 = .ok (.iconst 0, 1) := by decide +kernel
theorem dX6_reads_77 : decode cX6_reads 77 = .ok (.bastore, 1) := by decide +kernel
theorem dX6_reads_78 : decode cX6_reads 78 = .ok (.aload_n 0, 1) := by decide +kernel
theorem dX6_reads_79 : decode cX6_reads 79 = .ok (.aload_n 0, 1) := by decide +kernel
theorem dX6_reads_80 : decode cX6_reads 80 = .ok (.getfield 23, 3) := by decide +kernel
theorem dX6_reads_83 : decode cX6_reads 83 = .ok (.aload_n 0, 1) := by decide +kernel
theorem dX6_reads_84 : decode cX6_reads 84 = .ok (.getfield 97, 3) := by decide +kernel
theorem dX6_reads_87 : decode cX6_reads 87 = .ok (.baload, 1) := by decide +kernel
theorem dX6_reads_88 : decode cX6_reads 88 = .ok (.ifCond .eq 8, 3) := by decide +kernel
theorem dX6_reads_91 : decode cX6_reads 91 = .ok (.bipush 45, 2) := by decide +kernel
theorem dX6_reads_93 : decode cX6_reads 93 = .ok (.goto 5, 3) := by decide +kernel
theorem dX6_reads_96 : decode cX6_reads 96 = .ok (.bipush 64, 2) := by decide +kernel
theorem dX6_reads_98 : decode cX6_reads 98 = .ok (.invokevirtual 108, 3) := by decide +kernel
theorem dX6_reads_101 : decode cX6_reads 101 = .ok (.ifCond .eq 27, 3) := by decide +kernel
theorem dX6_reads_104 : decode cX6_reads 104 = .ok (.aload_n 0, 1) := by decide +kernel
theorem dX6_reads_105 : decode cX6_reads 105 = .ok (.aload_n 0, 1) := by decide +kernel
theorem dX6_reads_106 : decode cX6_reads 106 = .ok (.getfield 20, 3) := by decide +kernel
theorem dX6_reads_109 : decode cX6_reads 109 = .ok (.iconst 3, 1) := by decide +kernel
theorem dX6_reads_110 : decode cX6_reads 110 = .ok (.sipush 1000, 3) := by decide +kernel
theorem dX6_reads_113 : decode cX6_reads 113 = .ok (.invokevirtual 104, 3) := by decide +kernel
theorem dX6_reads_116 : decode cX6_reads 116 = .ok (.ifCond .eq 12, 3) := by decide +kernel
theorem dX6_reads_119 : decode cX6_reads 119 = .ok (.aload_n 0, 1) := by decide +kernel
theorem dX6_reads_120 : decode cX6_reads 120 = .ok (.bipush 32, 2) := by decide +kernel
theorem dX6_reads_122 : decode cX6_reads 122 = .ok (.invokevirtual 108, 3) := by decide +kernel
theorem dX6_reads_125 : decode cX6_reads 125 = .ok (.ifCond .ne 5, 3) := by decide +kernel
theorem dX6_reads_128 : decode cX6_reads 128 = .ok (.iconst 0, 1) := by decide +kernel
theorem dX6_reads_129 : decode cX6_reads 129 = .ok (.ireturn, 1) := by decide +kernel
theorem dX6_reads_130 : decode cX6_reads 130 = .ok (.iconst 0, 1) := by decide +kernel
theorem dX6_reads_131 : decode cX6_reads 131 = .ok (.istore_n 1, 1) := by decide +kernel
theorem dX6_reads_132 : decode cX6_reads 132 = .ok (.iload_n 1, 1) := by decide +kernel
theorem dX6_reads_133 : decode cX6_reads 133 = .ok (.ifCond .eq 20, 3) := by decide +kernel
theorem dX6_reads_136 : decode cX6_reads 136 = .ok (.iload_n 1, 1) := by decide +kernel
theorem dX6_reads_137 : decode cX6_reads 137 = .ok (.bipush 12, 2) := by decide +kernel
theorem dX6_reads_139 : decode cX6_reads 139 = .ok (.if_icmp .ge 30, 3) := by decide +kernel
theorem dX6_reads_142 : decode cX6_reads 142 = .ok (.aload_n 0, 1) := by decide +kernel
theorem dX6_reads_143 : decode cX6_reads 143 = .ok (.getfield 86, 3) := by decide +kernel
theorem dX6_reads_146 : decode cX6_reads 146 = .ok (.aload_n 0, 1) := by decide +kernel
theorem dX6_reads_147 : decode cX6_reads 147 = .ok (.getfield 83, 3) := by decide +kernel
theorem dX6_reads_150 : decode cX6_reads 150 = .ok (.if_icmp .ge 19, 3) := by decide +kernel
theorem dX6_reads_153 : decode cX6_reads 153 = .ok (.aload_n 0, 1) := by decide +kernel
theorem dX6_reads_154 : decode cX6_reads 154 = .ok (.iload_n 1, 1) := by decide +kernel
theorem dX6_reads_155 : decode cX6_reads 155 = .ok (.invokevirtual 111, 3) := by decide +kernel
theorem dX6_reads_158 : decode cX6_reads 158 = .ok (.ifCond .ne 5, 3) := by decide +kernel
theorem dX6_reads_161 : decode cX6_reads 161 = .ok (.iconst 0, 1) := by decide +kernel
theorem dX6_reads_162 : decode cX6_reads 162 = .ok (.ireturn, 1) := by decide +kernel
theorem dX6_reads_163 : decode cX6_reads 163 = .ok (.iinc 1 1, 3) := by decide +kernel
theorem dX6_reads_166 : decode cX6_reads 166 = .ok (.goto (-34), 3) := by decide +kernel
theorem dX6_reads_169 : decode cX6_reads 169 = .ok (.aload_n 0, 1) := by decide +kernel
theorem dX6_reads_170 : decode cX6_reads 170 = .ok (.getfield 27, 3) := by decide +kernel
theorem dX6_reads_173 : decode cX6_reads 173 = .ok (.aload_n 0, 1) := by decide +kernel
theorem dX6_reads_174 : decode cX6_reads 174 = .ok (.getfield 97, 3) := by decide +kernel
theorem dX6_reads_177 : decode cX6_reads 177 = .ok (.iload_n 1, 1) := by decide +kernel
theorem dX6_reads_178 : decode cX6_reads 178 = .ok (.iastore, 1) := by decide +kernel
theorem dX6_reads_179 : decode cX6_reads 179 = .ok (.aload_n 0, 1) := by decide +kernel
theorem dX6_reads_180 : decode cX6_reads 180 = .ok (.getfield 86, 3) := by decide +kernel
theorem dX6_reads_183 : decode cX6_reads 183 = .ok (.aload_n 0, 1) := by decide +kernel
theorem dX6_reads_184 : decode cX6_reads 184 = .ok (.getfield 83, 3) := by decide +kernel
theorem dX6_reads_187 : decode cX6_reads 187 = .ok (.if_icmp .ne 7, 3) := by decide +kernel
theorem dX6_reads_190 : decode cX6_reads 190 = .ok (.iconst 1, 1) := by decide +kernel
theorem dX6_reads_191 : decode cX6_reads 191 = .ok (.goto 4, 3) := by decide +kernel
theorem dX6_reads_194 : decode cX6_reads 194 = .ok (.iconst 0, 1) := by decide +kernel
theorem dX6_reads_195 : decode cX6_reads 195 = .ok (.ireturn, 1) := by decide +kernel
theorem dX6_row_0 : decode cX6_row 0 = .ok (.aload_n 0, 1) := by decide +kernel
theorem dX6_row_1 : decode cX6_row 1 = .ok (.iconst 0, 1) := by decide +kernel
theorem dX6_row_2 : decode cX6_row 2 = .ok (.putfield 72, 3) := by decide +kernel
theorem dX6_row_5 : decode cX6_row 5 = .ok (.aload_n 0, 1) := by decide +kernel
theorem dX6_row_6 : decode cX6_row 6 = .ok (.invokevirtual 114, 3) := by decide +kernel
theorem dX6_row_9 : decode cX6_row 9 = .ok (.istore_n 1, 1) := by decide +kernel
theorem dX6_row_10 : decode cX6_row 10 = .ok (.aload_n 0, 1) := by decide +kernel
theorem dX6_row_11 : decode cX6_row 11 = .ok (.iconst 0, 1) := by decide +kernel
theorem dX6_row_12 : decode cX6_row 12 = .ok (.putfield 83, 3) := by decide +kernel
theorem dX6_row_15 : decode cX6_row 15 = .ok (.iload_n 1, 1) := by decide +kernel
theorem dX6_row_16 : decode cX6_row 16 = .ok (.ifCond .ne 11, 3) := by decide +kernel
theorem dX6_row_19 : decode cX6_row 19 = .ok (.bipush (-10), 2) := by decide +kernel
theorem dX6_row_21 : decode cX6_row 21 = .ok (.aload_n 0, 1) := by decide +kernel
theorem dX6_row_22 : decode cX6_row 22 = .ok (.getfield 86, 3) := by decide +kernel
theorem dX6_row_25 : decode cX6_row 25 = .ok (.isub, 1) := by decide +kernel
theorem dX6_row_26 : decode cX6_row 26 = .ok (.ireturn, 1) := by decide +kernel
theorem dX6_row_27 : decode cX6_row 27 = .ok (.aload_n 0, 1) := by decide +kernel
theorem dX6_row_28 : decode cX6_row 28 = .ok (.getfield 97, 3) := by decide +kernel
theorem dX6_row_31 : decode cX6_row 31 = .ok (.bipush 60, 2) := by decide +kernel
theorem dX6_row_33 : decode cX6_row 33 = .ok (.if_icmp .ne 6, 3) := by decide +kernel
theorem dX6_row_36 : decode cX6_row 36 = .ok (.bipush (-4), 2) := by decide +kernel
theorem dX6_row_38 : decode cX6_row 38 = .ok (.ireturn, 1) := by decide +kernel
theorem dX6_row_39 : decode cX6_row 39 = .ok (.aload_n 0, 1) := by decide +kernel
theorem dX6_row_40 : decode cX6_row 40 = .ok (.dup, 1) := by decide +kernel
theorem dX6_row_41 : decode cX6_row 41 = .ok (.getfield 97, 3) := by decide +kernel
theorem dX6_row_44 : decode cX6_row 44 = .ok (.iconst 1, 1) := by decide +kernel
theorem dX6_row_45 : decode cX6_row 45 = .ok (.iadd, 1) := by decide +kernel
theorem dX6_row_46 : decode cX6_row 46 = .ok (.putfield 97, 3) := by decide +kernel
theorem dX6_row_49 : decode cX6_row 49 = .ok (.aload_n 0, 1) := by decide +kernel
theorem dX6_row_50 : decode cX6_row 50 = .ok (.getfield 97, 3) := by decide +kernel
theorem dX6_row_53 : decode cX6_row 53 = .ok (.iconst 1, 1) := by decide +kernel
theorem dX6_row_54 : decode cX6_row 54 = .ok (.isub, 1) := by decide +kernel
theorem dX6_row_55 : decode cX6_row 55 = .ok (.ireturn, 1) := by decide +kernel
theorem dX6_file_0 : decode cX6_file 0 = .ok (.aload_n 0, 1) := by decide +kernel
theorem dX6_file_1 : decode cX6_file 1 = .ok (.iconst 0, 1) := by decide +kernel
theorem dX6_file_2 : decode cX6_file 2 = .ok (.putfield 72, 3) := by decide +kernel
theorem dX6_file_5 : decode cX6_file 5 = .ok (.aload_n 0, 1) := by decide +kernel
theorem dX6_file_6 : decode cX6_file 6 = .ok (.getfield 76, 3) := by decide +kernel
theorem dX6_file_9 : decode cX6_file 9 = .ok (.bipush 40, 2) := by decide +kernel
theorem dX6_file_11 : decode cX6_file 11 = .ok (.if_icmp .ne 6, 3) := by decide +kernel
theorem dX6_file_14 : decode cX6_file 14 = .ok (.bipush (-4), 2) := by decide +kernel
theorem dX6_file_16 : decode cX6_file 16 = .ok (.ireturn, 1) := by decide +kernel
theorem dX6_file_17 : decode cX6_file 17 = .ok (.aload_n 0, 1) := by decide +kernel
theorem dX6_file_18 : decode cX6_file 18 = .ok (.dup, 1) := by decide +kernel
theorem dX6_file_19 : decode cX6_file 19 = .ok (.getfield 76, 3) := by decide +kernel
theorem dX6_file_22 : decode cX6_file 22 = .ok (.iconst 1, 1) := by decide +kernel
theorem dX6_file_23 : decode cX6_file 23 = .ok (.iadd, 1) := by decide +kernel
theorem dX6_file_24 : decode cX6_file 24 = .ok (.putfield 76, 3) := by decide +kernel
theorem dX6_file_27 : decode cX6_file 27 = .ok (.aload_n 0, 1) := by decide +kernel
theorem dX6_file_28 : decode cX6_file 28 = .ok (.getfield 76, 3) := by decide +kernel
theorem dX6_file_31 : decode cX6_file 31 = .ok (.iconst 1, 1) := by decide +kernel
theorem dX6_file_32 : decode cX6_file 32 = .ok (.isub, 1) := by decide +kernel
theorem dX6_file_33 : decode cX6_file 33 = .ok (.ireturn, 1) := by decide +kernel
theorem dX6_octet_0 : decode cX6_octet 0 = .ok (.aload_n 0, 1) := by decide +kernel
theorem dX6_octet_1 : decode cX6_octet 1 = .ok (.iconst 0, 1) := by decide +kernel
theorem dX6_octet_2 : decode cX6_octet 2 = .ok (.putfield 72, 3) := by decide +kernel
theorem dX6_octet_5 : decode cX6_octet 5 = .ok (.aload_n 0, 1) := by decide +kernel
theorem dX6_octet_6 : decode cX6_octet 6 = .ok (.iload_n 1, 1) := by decide +kernel
theorem dX6_octet_7 : decode cX6_octet 7 = .ok (.invokevirtual 118, 3) := by decide +kernel
theorem dX6_octet_10 : decode cX6_octet 10 = .ok (.ifCond .ne 5, 3) := by decide +kernel
theorem dX6_octet_13 : decode cX6_octet 13 = .ok (.iconst (-1), 1) := by decide +kernel
theorem dX6_octet_14 : decode cX6_octet 14 = .ok (.ireturn, 1) := by decide +kernel
theorem dX6_octet_15 : decode cX6_octet 15 = .ok (.aload_n 0, 1) := by decide +kernel
theorem dX6_octet_16 : decode cX6_octet 16 = .ok (.getfield 33, 3) := by decide +kernel
theorem dX6_octet_19 : decode cX6_octet 19 = .ok (.iload_n 1, 1) := by decide +kernel
theorem dX6_octet_20 : decode cX6_octet 20 = .ok (.iaload, 1) := by decide +kernel
theorem dX6_octet_21 : decode cX6_octet 21 = .ok (.bipush 60, 2) := by decide +kernel
theorem dX6_octet_23 : decode cX6_octet 23 = .ok (.if_icmp .ne 6, 3) := by decide +kernel
theorem dX6_octet_26 : decode cX6_octet 26 = .ok (.bipush (-4), 2) := by decide +kernel
theorem dX6_octet_28 : decode cX6_octet 28 = .ok (.ireturn, 1) := by decide +kernel
theorem dX6_octet_29 : decode cX6_octet 29 = .ok (.aload_n 0, 1) := by decide +kernel
theorem dX6_octet_30 : decode cX6_octet 30 = .ok (.getfield 36, 3) := by decide +kernel
theorem dX6_octet_33 : decode cX6_octet 33 = .ok (.bipush 60, 2) := by decide +kernel
theorem dX6_octet_35 : decode cX6_octet 35 = .ok (.iload_n 1, 1) := by decide +kernel
theorem dX6_octet_36 : decode cX6_octet 36 = .ok (.imul, 1) := by decide +kernel
theorem dX6_octet_37 : decode cX6_octet 37 = .ok (.aload_n 0, 1) := by decide +kernel
theorem dX6_octet_38 : decode cX6_octet 38 = .ok (.getfield 33, 3) := by decide +kernel
theorem dX6_octet_41 : decode cX6_octet 41 = .ok (.iload_n 1, 1) := by decide +kernel
theorem dX6_octet_42 : decode cX6_octet 42 = .ok (.iaload, 1) := by decide +kernel
theorem dX6_octet_43 : decode cX6_octet 43 = .ok (.iadd, 1) := by decide +kernel
theorem dX6_octet_44 : decode cX6_octet 44 = .ok (.iload_n 2, 1) := by decide +kernel
theorem dX6_octet_45 : decode cX6_octet 45 = .ok (.i2b, 1) := by decide +kernel
theorem dX6_octet_46 : decode cX6_octet 46 = .ok (.bastore, 1) := by decide +kernel
theorem dX6_octet_47 : decode cX6_octet 47 = .ok (.aload_n 0, 1) := by decide +kernel
theorem dX6_octet_48 : decode cX6_octet 48 = .ok (.getfield 33, 3) := by decide +kernel
theorem dX6_octet_51 : decode cX6_octet 51 = .ok (.iload_n 1, 1) := by decide +kernel
theorem dX6_octet_52 : decode cX6_octet 52 = .ok (.dup2, 1) := by decide +kernel
theorem dX6_octet_53 : decode cX6_octet 53 = .ok (.iaload, 1) := by decide +kernel
theorem dX6_octet_54 : decode cX6_octet 54 = .ok (.iconst 1, 1) := by decide +kernel
theorem dX6_octet_55 : decode cX6_octet 55 = .ok (.iadd, 1) := by decide +kernel
theorem dX6_octet_56 : decode cX6_octet 56 = .ok (.iastore, 1) := by decide +kernel
theorem dX6_octet_57 : decode cX6_octet 57 = .ok (.aload_n 0, 1) := by decide +kernel
theorem dX6_octet_58 : decode cX6_octet 58 = .ok (.getfield 33, 3) := by decide +kernel
theorem dX6_octet_61 : decode cX6_octet 61 = .ok (.iload_n 1, 1) := by decide +kernel
theorem dX6_octet_62 : decode cX6_octet 62 = .ok (.iaload, 1) := by decide +kernel
theorem dX6_octet_63 : decode cX6_octet 63 = .ok (.ireturn, 1) := by decide +kernel
theorem dX6_member_0 : decode cX6_member 0 = .ok (.aload_n 0, 1) := by decide +kernel
theorem dX6_member_1 : decode cX6_member 1 = .ok (.iconst 0, 1) := by decide +kernel
theorem dX6_member_2 : decode cX6_member 2 = .ok (.putfield 72, 3) := by decide +kernel
theorem dX6_member_5 : decode cX6_member 5 = .ok (.aload_n 0, 1) := by decide +kernel
theorem dX6_member_6 : decode cX6_member 6 = .ok (.iload_n 1, 1) := by decide +kernel
theorem dX6_member_7 : decode cX6_member 7 = .ok (.invokevirtual 118, 3) := by decide +kernel
theorem dX6_member_10 : decode cX6_member 10 = .ok (.ifCond .eq 11, 3) := by decide +kernel
theorem dX6_member_13 : decode cX6_member 13 = .ok (.aload_n 0, 1) := by decide +kernel
theorem dX6_member_14 : decode cX6_member 14 = .ok (.iload_n 2, 1) := by decide +kernel
theorem dX6_member_15 : decode cX6_member 15 = .ok (.invokevirtual 118, 3) := by decide +kernel
theorem dX6_member_18 : decode cX6_member 18 = .ok (.ifCond .ne 5, 3) := by decide +kernel
theorem dX6_member_21 : decode cX6_member 21 = .ok (.iconst (-1), 1) := by decide +kernel
theorem dX6_member_22 : decode cX6_member 22 = .ok (.ireturn, 1) := by decide +kernel
theorem dX6_member_23 : decode cX6_member 23 = .ok (.iconst 0, 1) := by decide +kernel
theorem dX6_member_24 : decode cX6_member 24 = .ok (.istore_n 3, 1) := by decide +kernel
theorem dX6_member_25 : decode cX6_member 25 = .ok (.iload_n 2, 1) := by decide +kernel
theorem dX6_member_26 : decode cX6_member 26 = .ok (.istore 4, 2) := by decide +kernel
theorem dX6_member_28 : decode cX6_member 28 = .ok (.iload 4, 2) := by decide +kernel
theorem dX6_member_30 : decode cX6_member 30 = .ok (.ifCond .lt 31, 3) := by decide +kernel
theorem dX6_member_33 : decode cX6_member 33 = .ok (.iload_n 3, 1) := by decide +kernel
theorem dX6_member_34 : decode cX6_member 34 = .ok (.ifCond .ne 9, 3) := by decide +kernel
theorem dX6_member_37 : decode cX6_member 37 = .ok (.iload 4, 2) := by decide +kernel
theorem dX6_member_39 : decode cX6_member 39 = .ok (.iload_n 1, 1) := by decide +kernel
theorem dX6_member_40 : decode cX6_member 40 = .ok (.if_icmp .ne 7, 3) := by decide +kernel
theorem dX6_member_43 : decode cX6_member 43 = .ok (.iconst 1, 1) := by decide +kernel
theorem dX6_member_44 : decode cX6_member 44 = .ok (.goto 4, 3) := by decide +kernel
theorem dX6_member_47 : decode cX6_member 47 = .ok (.iconst 0, 1) := by decide +kernel
theorem dX6_member_48 : decode cX6_member 48 = .ok (.istore_n 3, 1) := by decide +kernel
theorem dX6_member_49 : decode cX6_member 49 = .ok (.aload_n 0, 1) := by decide +kernel
theorem dX6_member_50 : decode cX6_member 50 = .ok (.getfield 45, 3) := by decide +kernel
theorem dX6_member_53 : decode cX6_member 53 = .ok (.iload 4, 2) := by decide +kernel
theorem dX6_member_55 : decode cX6_member 55 = .ok (.iaload, 1) := by decide +kernel
theorem dX6_member_56 : decode cX6_member 56 = .ok (.istore 4, 2) := by decide +kernel
theorem dX6_member_58 : decode cX6_member 58 = .ok (.goto (-30), 3) := by decide +kernel
theorem dX6_member_61 : decode cX6_member 61 = .ok (.aload_n 0, 1) := by decide +kernel
theorem dX6_member_62 : decode cX6_member 62 = .ok (.getfield 45, 3) := by decide +kernel
theorem dX6_member_65 : decode cX6_member 65 = .ok (.iload_n 1, 1) := by decide +kernel
theorem dX6_member_66 : decode cX6_member 66 = .ok (.iaload, 1) := by decide +kernel
theorem dX6_member_67 : decode cX6_member 67 = .ok (.ifCond .ge 7, 3) := by decide +kernel
theorem dX6_member_70 : decode cX6_member 70 = .ok (.iload_n 3, 1) := by decide +kernel
theorem dX6_member_71 : decode cX6_member 71 = .ok (.ifCond .eq 6, 3) := by decide +kernel
theorem dX6_member_74 : decode cX6_member 74 = .ok (.bipush (-3), 2) := by decide +kernel
theorem dX6_member_76 : decode cX6_member 76 = .ok (.ireturn, 1) := by decide +kernel
theorem dX6_member_77 : decode cX6_member 77 = .ok (.aload_n 0, 1) := by decide +kernel
theorem dX6_member_78 : decode cX6_member 78 = .ok (.getfield 39, 3) := by decide +kernel
theorem dX6_member_81 : decode cX6_member 81 = .ok (.iload_n 2, 1) := by decide +kernel
theorem dX6_member_82 : decode cX6_member 82 = .ok (.iaload, 1) := by decide +kernel
theorem dX6_member_83 : decode cX6_member 83 = .ok (.bipush 8, 2) := by decide +kernel
theorem dX6_member_85 : decode cX6_member 85 = .ok (.if_icmp .ne 6, 3) := by decide +kernel
theorem dX6_member_88 : decode cX6_member 88 = .ok (.bipush (-4), 2) := by decide +kernel
theorem dX6_member_90 : decode cX6_member 90 = .ok (.ireturn, 1) := by decide +kernel
theorem dX6_member_91 : decode cX6_member 91 = .ok (.aload_n 0, 1) := by decide +kernel
theorem dX6_member_92 : decode cX6_member 92 = .ok (.getfield 42, 3) := by decide +kernel
theorem dX6_member_95 : decode cX6_member 95 = .ok (.bipush 8, 2) := by decide +kernel
theorem dX6_member_97 : decode cX6_member 97 = .ok (.iload_n 2, 1) := by decide +kernel
theorem dX6_member_98 : decode cX6_member 98 = .ok (.imul, 1) := by decide +kernel
theorem dX6_member_99 : decode cX6_member 99 = .ok (.aload_n 0, 1) := by decide +kernel
theorem dX6_member_100 : decode cX6_member 100 = .ok (.getfield 39, 3) := by decide +kernel
theorem dX6_member_103 : decode cX6_member 103 = .ok (.iload_n 2, 1) := by decide +kernel
theorem dX6_member_104 : decode cX6_member 104 = .ok (.iaload, 1) := by decide +kernel
theorem dX6_member_105 : decode cX6_member 105 = .ok (.iadd, 1) := by decide +kernel
theorem dX6_member_106 : decode cX6_member 106 = .ok (.iload_n 1, 1) := by decide +kernel
theorem dX6_member_107 : decode cX6_member 107 = .ok (.iastore, 1) := by decide +kernel
theorem dX6_member_108 : decode cX6_member 108 = .ok (.aload_n 0, 1) := by decide +kernel
theorem dX6_member_109 : decode cX6_member 109 = .ok (.getfield 39, 3) := by decide +kernel
theorem dX6_member_112 : decode cX6_member 112 = .ok (.iload_n 2, 1) := by decide +kernel
theorem dX6_member_113 : decode cX6_member 113 = .ok (.dup2, 1) := by decide +kernel
theorem dX6_member_114 : decode cX6_member 114 = .ok (.iaload, 1) := by decide +kernel
theorem dX6_member_115 : decode cX6_member 115 = .ok (.iconst 1, 1) := by decide +kernel
theorem dX6_member_116 : decode cX6_member 116 = .ok (.iadd, 1) := by decide +kernel
theorem dX6_member_117 : decode cX6_member 117 = .ok (.iastore, 1) := by decide +kernel
theorem dX6_member_118 : decode cX6_member 118 = .ok (.aload_n 0, 1) := by decide +kernel
theorem dX6_member_119 : decode cX6_member 119 = .ok (.getfield 45, 3) := by decide +kernel
theorem dX6_member_122 : decode cX6_member 122 = .ok (.iload_n 1, 1) := by decide +kernel
theorem dX6_member_123 : decode cX6_member 123 = .ok (.iload_n 2, 1) := by decide +kernel
theorem dX6_member_124 : decode cX6_member 124 = .ok (.iastore, 1) := by decide +kernel
theorem dX6_member_125 : decode cX6_member 125 = .ok (.aload_n 0, 1) := by decide +kernel
theorem dX6_member_126 : decode cX6_member 126 = .ok (.getfield 39, 3) := by decide +kernel
theorem dX6_member_129 : decode cX6_member 129 = .ok (.iload_n 2, 1) := by decide +kernel
theorem dX6_member_130 : decode cX6_member 130 = .ok (.iaload, 1) := by decide +kernel
theorem dX6_member_131 : decode cX6_member 131 = .ok (.ireturn, 1) := by decide +kernel
theorem dX6_meetsAt_0 : decode cX6_meetsAt 0 = .ok (.aload_n 0, 1) := by decide +kernel
theorem dX6_meetsAt_1 : decode cX6_meetsAt 1 = .ok (.getfield 23, 3) := by decide +kernel
theorem dX6_meetsAt_4 : decode cX6_meetsAt 4 = .ok (.iload_n 1, 1) := by decide +kernel
theorem dX6_meetsAt_5 : decode cX6_meetsAt 5 = .ok (.baload, 1) := by decide +kernel
theorem dX6_meetsAt_6 : decode cX6_meetsAt 6 = .ok (.ifCond .eq 19, 3) := by decide +kernel
theorem dX6_meetsAt_9 : decode cX6_meetsAt 9 = .ok (.aload_n 0, 1) := by decide +kernel
theorem dX6_meetsAt_10 : decode cX6_meetsAt 10 = .ok (.getfield 33, 3) := by decide +kernel
theorem dX6_meetsAt_13 : decode cX6_meetsAt 13 = .ok (.iload_n 2, 1) := by decide +kernel
theorem dX6_meetsAt_14 : decode cX6_meetsAt 14 = .ok (.iaload, 1) := by decide +kernel
theorem dX6_meetsAt_15 : decode cX6_meetsAt 15 = .ok (.aload_n 0, 1) := by decide +kernel
theorem dX6_meetsAt_16 : decode cX6_meetsAt 16 = .ok (.getfield 20, 3) := by decide +kernel
theorem dX6_meetsAt_19 : decode cX6_meetsAt 19 = .ok (.iload_n 1, 1) := by decide +kernel
theorem dX6_meetsAt_20 : decode cX6_meetsAt 20 = .ok (.iaload, 1) := by decide +kernel
theorem dX6_meetsAt_21 : decode cX6_meetsAt 21 = .ok (.isub, 1) := by decide +kernel
theorem dX6_meetsAt_22 : decode cX6_meetsAt 22 = .ok (.goto 9, 3) := by decide +kernel
theorem dX6_meetsAt_25 : decode cX6_meetsAt 25 = .ok (.aload_n 0, 1) := by decide +kernel
theorem dX6_meetsAt_26 : decode cX6_meetsAt 26 = .ok (.getfield 20, 3) := by decide +kernel
theorem dX6_meetsAt_29 : decode cX6_meetsAt 29 = .ok (.iload_n 1, 1) := by decide +kernel
theorem dX6_meetsAt_30 : decode cX6_meetsAt 30 = .ok (.iaload, 1) := by decide +kernel
theorem dX6_meetsAt_31 : decode cX6_meetsAt 31 = .ok (.istore_n 3, 1) := by decide +kernel
theorem dX6_meetsAt_32 : decode cX6_meetsAt 32 = .ok (.iload_n 3, 1) := by decide +kernel
theorem dX6_meetsAt_33 : decode cX6_meetsAt 33 = .ok (.ifCond .lt 20, 3) := by decide +kernel
theorem dX6_meetsAt_36 : decode cX6_meetsAt 36 = .ok (.iload_n 3, 1) := by decide +kernel
theorem dX6_meetsAt_37 : decode cX6_meetsAt 37 = .ok (.aload_n 0, 1) := by decide +kernel
theorem dX6_meetsAt_38 : decode cX6_meetsAt 38 = .ok (.getfield 27, 3) := by decide +kernel
theorem dX6_meetsAt_41 : decode cX6_meetsAt 41 = .ok (.iload_n 1, 1) := by decide +kernel
theorem dX6_meetsAt_42 : decode cX6_meetsAt 42 = .ok (.iaload, 1) := by decide +kernel
theorem dX6_meetsAt_43 : decode cX6_meetsAt 43 = .ok (.iadd, 1) := by decide +kernel
theorem dX6_meetsAt_44 : decode cX6_meetsAt 44 = .ok (.aload_n 0, 1) := by decide +kernel
theorem dX6_meetsAt_45 : decode cX6_meetsAt 45 = .ok (.getfield 33, 3) := by decide +kernel
theorem dX6_meetsAt_48 : decode cX6_meetsAt 48 = .ok (.iload_n 2, 1) := by decide +kernel
theorem dX6_meetsAt_49 : decode cX6_meetsAt 49 = .ok (.iaload, 1) := by decide +kernel
theorem dX6_meetsAt_50 : decode cX6_meetsAt 50 = .ok (.if_icmp .le 5, 3) := by decide +kernel
theorem dX6_meetsAt_53 : decode cX6_meetsAt 53 = .ok (.iconst 0, 1) := by decide +kernel
theorem dX6_meetsAt_54 : decode cX6_meetsAt 54 = .ok (.ireturn, 1) := by decide +kernel
theorem dX6_meetsAt_55 : decode cX6_meetsAt 55 = .ok (.iconst 1, 1) := by decide +kernel
theorem dX6_meetsAt_56 : decode cX6_meetsAt 56 = .ok (.istore 4, 2) := by decide +kernel
theorem dX6_meetsAt_58 : decode cX6_meetsAt 58 = .ok (.iconst 0, 1) := by decide +kernel
theorem dX6_meetsAt_59 : decode cX6_meetsAt 59 = .ok (.istore 5, 2) := by decide +kernel
theorem dX6_meetsAt_61 : decode cX6_meetsAt 61 = .ok (.iload 5, 2) := by decide +kernel
theorem dX6_meetsAt_63 : decode cX6_meetsAt 63 = .ok (.aload_n 0, 1) := by decide +kernel
theorem dX6_meetsAt_64 : decode cX6_meetsAt 64 = .ok (.getfield 27, 3) := by decide +kernel
theorem dX6_meetsAt_67 : decode cX6_meetsAt 67 = .ok (.iload_n 1, 1) := by decide +kernel
theorem dX6_meetsAt_68 : decode cX6_meetsAt 68 = .ok (.iaload, 1) := by decide +kernel
theorem dX6_meetsAt_69 : decode cX6_meetsAt 69 = .ok (.if_icmp .ge 72, 3) := by decide +kernel
theorem dX6_meetsAt_72 : decode cX6_meetsAt 72 = .ok (.iload 4, 2) := by decide +kernel
theorem dX6_meetsAt_74 : decode cX6_meetsAt 74 = .ok (.ifCond .eq 58, 3) := by decide +kernel
theorem dX6_meetsAt_77 : decode cX6_meetsAt 77 = .ok (.aload_n 0, 1) := by decide +kernel
theorem dX6_meetsAt_78 : decode cX6_meetsAt 78 = .ok (.getfield 30, 3) := by decide +kernel
theorem dX6_meetsAt_81 : decode cX6_meetsAt 81 = .ok (.bipush 12, 2) := by decide +kernel
theorem dX6_meetsAt_83 : decode cX6_meetsAt 83 = .ok (.iload_n 1, 1) := by decide +kernel
theorem dX6_meetsAt_84 : decode cX6_meetsAt 84 = .ok (.imul, 1) := by decide +kernel
theorem dX6_meetsAt_85 : decode cX6_meetsAt 85 = .ok (.iload 5, 2) := by decide +kernel
theorem dX6_meetsAt_87 : decode cX6_meetsAt 87 = .ok (.iadd, 1) := by decide +kernel
theorem dX6_meetsAt_88 : decode cX6_meetsAt 88 = .ok (.iaload, 1) := by decide +kernel
theorem dX6_meetsAt_89 : decode cX6_meetsAt 89 = .ok (.sipush 256, 3) := by decide +kernel
theorem dX6_meetsAt_92 : decode cX6_meetsAt 92 = .ok (.if_icmp .eq 36, 3) := by decide +kernel
theorem dX6_meetsAt_95 : decode cX6_meetsAt 95 = .ok (.aload_n 0, 1) := by decide +kernel
theorem dX6_meetsAt_96 : decode cX6_meetsAt 96 = .ok (.getfield 30, 3) := by decide +kernel
theorem dX6_meetsAt_99 : decode cX6_meetsAt 99 = .ok (.bipush 12, 2) := by decide +kernel
theorem dX6_meetsAt_101 : decode cX6_meetsAt 101 = .ok (.iload_n 1, 1) := by decide +kernel
theorem dX6_meetsAt_102 : decode cX6_meetsAt 102 = .ok (.imul, 1) := by decide +kernel
theorem dX6_meetsAt_103 : decode cX6_meetsAt 103 = .ok (.iload 5, 2) := by decide +kernel
theorem dX6_meetsAt_105 : decode cX6_meetsAt 105 = .ok (.iadd, 1) := by decide +kernel
theorem dX6_meetsAt_106 : decode cX6_meetsAt 106 = .ok (.iaload, 1) := by decide +kernel
theorem dX6_meetsAt_107 : decode cX6_meetsAt 107 = .ok (.aload_n 0, 1) := by decide +kernel
theorem dX6_meetsAt_108 : decode cX6_meetsAt 108 = .ok (.getfield 36, 3) := by decide +kernel
theorem dX6_meetsAt_111 : decode cX6_meetsAt 111 = .ok (.bipush 60, 2) := by decide +kernel
theorem dX6_meetsAt_113 : decode cX6_meetsAt 113 = .ok (.iload_n 2, 1) := by decide +kernel
theorem dX6_meetsAt_114 : decode cX6_meetsAt 114 = .ok (.imul, 1) := by decide +kernel
theorem dX6_meetsAt_115 : decode cX6_meetsAt 115 = .ok (.iload_n 3, 1) := by decide +kernel
theorem dX6_meetsAt_116 : decode cX6_meetsAt 116 = .ok (.iadd, 1) := by decide +kernel
theorem dX6_meetsAt_117 : decode cX6_meetsAt 117 = .ok (.iload 5, 2) := by decide +kernel
theorem dX6_meetsAt_119 : decode cX6_meetsAt 119 = .ok (.iadd, 1) := by decide +kernel
theorem dX6_meetsAt_120 : decode cX6_meetsAt 120 = .ok (.baload, 1) := by decide +kernel
theorem dX6_meetsAt_121 : decode cX6_meetsAt 121 = .ok (.sipush 255, 3) := by decide +kernel
theorem dX6_meetsAt_124 : decode cX6_meetsAt 124 = .ok (.iand, 1) := by decide +kernel
theorem dX6_meetsAt_125 : decode cX6_meetsAt 125 = .ok (.if_icmp .ne 7, 3) := by decide +kernel
theorem dX6_meetsAt_128 : decode cX6_meetsAt 128 = .ok (.iconst 1, 1) := by decide +kernel
theorem dX6_meetsAt_129 : decode cX6_meetsAt 129 = .ok (.goto 4, 3) := by decide +kernel
theorem dX6_meetsAt_132 : decode cX6_meetsAt 132 = .ok (.iconst 0, 1) := by decide +kernel
theorem dX6_meetsAt_133 : decode cX6_meetsAt 133 = .ok (.istore 4, 2) := by decide +kernel
theorem dX6_meetsAt_135 : decode cX6_meetsAt 135 = .ok (.iinc 5 1, 3) := by decide +kernel
theorem dX6_meetsAt_138 : decode cX6_meetsAt 138 = .ok (.goto (-77), 3) := by decide +kernel
theorem dX6_meetsAt_141 : decode cX6_meetsAt 141 = .ok (.iload 4, 2) := by decide +kernel
theorem dX6_meetsAt_143 : decode cX6_meetsAt 143 = .ok (.ireturn, 1) := by decide +kernel
theorem dX6_meets_0 : decode cX6_meets 0 = .ok (.aload_n 0, 1) := by decide +kernel
theorem dX6_meets_1 : decode cX6_meets 1 = .ok (.iconst 0, 1) := by decide +kernel
theorem dX6_meets_2 : decode cX6_meets 2 = .ok (.putfield 72, 3) := by decide +kernel
theorem dX6_meets_5 : decode cX6_meets 5 = .ok (.iload_n 1, 1) := by decide +kernel
