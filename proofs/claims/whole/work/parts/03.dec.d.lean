theorem dX6_meets_6 : decode cX6_meets 6 = .ok (.iconst 0, 1) := by decide +kernel
theorem dX6_meets_7 : decode cX6_meets 7 = .ok (.aload_n 0, 1) := by decide +kernel
theorem dX6_meets_8 : decode cX6_meets 8 = .ok (.getfield 97, 3) := by decide +kernel
theorem dX6_meets_11 : decode cX6_meets 11 = .ok (.iconst 1, 1) := by decide +kernel
theorem dX6_meets_12 : decode cX6_meets 12 = .ok (.isub, 1) := by decide +kernel
theorem dX6_meets_13 : decode cX6_meets 13 = .ok (.invokestatic 79, 3) := by decide +kernel
theorem dX6_meets_16 : decode cX6_meets 16 = .ok (.ifCond .eq 11, 3) := by decide +kernel
theorem dX6_meets_19 : decode cX6_meets 19 = .ok (.aload_n 0, 1) := by decide +kernel
theorem dX6_meets_20 : decode cX6_meets 20 = .ok (.iload_n 2, 1) := by decide +kernel
theorem dX6_meets_21 : decode cX6_meets 21 = .ok (.invokevirtual 118, 3) := by decide +kernel
theorem dX6_meets_24 : decode cX6_meets 24 = .ok (.ifCond .ne 5, 3) := by decide +kernel
theorem dX6_meets_27 : decode cX6_meets 27 = .ok (.iconst (-1), 1) := by decide +kernel
theorem dX6_meets_28 : decode cX6_meets 28 = .ok (.ireturn, 1) := by decide +kernel
theorem dX6_meets_29 : decode cX6_meets 29 = .ok (.aload_n 0, 1) := by decide +kernel
theorem dX6_meets_30 : decode cX6_meets 30 = .ok (.iload_n 1, 1) := by decide +kernel
theorem dX6_meets_31 : decode cX6_meets 31 = .ok (.iload_n 2, 1) := by decide +kernel
theorem dX6_meets_32 : decode cX6_meets 32 = .ok (.invokevirtual 121, 3) := by decide +kernel
theorem dX6_meets_35 : decode cX6_meets 35 = .ok (.ifCond .eq 7, 3) := by decide +kernel
theorem dX6_meets_38 : decode cX6_meets 38 = .ok (.iconst 1, 1) := by decide +kernel
theorem dX6_meets_39 : decode cX6_meets 39 = .ok (.goto 4, 3) := by decide +kernel
theorem dX6_meets_42 : decode cX6_meets 42 = .ok (.iconst 0, 1) := by decide +kernel
theorem dX6_meets_43 : decode cX6_meets 43 = .ok (.ireturn, 1) := by decide +kernel
theorem dX6_formatOf_0 : decode cX6_formatOf 0 = .ok (.iconst (-1), 1) := by decide +kernel
theorem dX6_formatOf_1 : decode cX6_formatOf 1 = .ok (.istore_n 3, 1) := by decide +kernel
theorem dX6_formatOf_2 : decode cX6_formatOf 2 = .ok (.iconst 0, 1) := by decide +kernel
theorem dX6_formatOf_3 : decode cX6_formatOf 3 = .ok (.istore 4, 2) := by decide +kernel
theorem dX6_formatOf_5 : decode cX6_formatOf 5 = .ok (.iload 4, 2) := by decide +kernel
theorem dX6_formatOf_7 : decode cX6_formatOf 7 = .ok (.iload_n 2, 1) := by decide +kernel
theorem dX6_formatOf_8 : decode cX6_formatOf 8 = .ok (.if_icmp .ge 42, 3) := by decide +kernel
theorem dX6_formatOf_11 : decode cX6_formatOf 11 = .ok (.aload_n 0, 1) := by decide +kernel
theorem dX6_formatOf_12 : decode cX6_formatOf 12 = .ok (.iload 4, 2) := by decide +kernel
theorem dX6_formatOf_14 : decode cX6_formatOf 14 = .ok (.iload_n 1, 1) := by decide +kernel
theorem dX6_formatOf_15 : decode cX6_formatOf 15 = .ok (.invokevirtual 121, 3) := by decide +kernel
theorem dX6_formatOf_18 : decode cX6_formatOf 18 = .ok (.ifCond .eq 24, 3) := by decide +kernel
theorem dX6_formatOf_21 : decode cX6_formatOf 21 = .ok (.aload_n 0, 1) := by decide +kernel
theorem dX6_formatOf_22 : decode cX6_formatOf 22 = .ok (.getfield 17, 3) := by decide +kernel
theorem dX6_formatOf_25 : decode cX6_formatOf 25 = .ok (.iload 4, 2) := by decide +kernel
theorem dX6_formatOf_27 : decode cX6_formatOf 27 = .ok (.iaload, 1) := by decide +kernel
theorem dX6_formatOf_28 : decode cX6_formatOf 28 = .ok (.iload_n 3, 1) := by decide +kernel
theorem dX6_formatOf_29 : decode cX6_formatOf 29 = .ok (.if_icmp .le 13, 3) := by decide +kernel
theorem dX6_formatOf_32 : decode cX6_formatOf 32 = .ok (.aload_n 0, 1) := by decide +kernel
theorem dX6_formatOf_33 : decode cX6_formatOf 33 = .ok (.getfield 17, 3) := by decide +kernel
theorem dX6_formatOf_36 : decode cX6_formatOf 36 = .ok (.iload 4, 2) := by decide +kernel
theorem dX6_formatOf_38 : decode cX6_formatOf 38 = .ok (.iaload, 1) := by decide +kernel
theorem dX6_formatOf_39 : decode cX6_formatOf 39 = .ok (.goto 4, 3) := by decide +kernel
theorem dX6_formatOf_42 : decode cX6_formatOf 42 = .ok (.iload_n 3, 1) := by decide +kernel
theorem dX6_formatOf_43 : decode cX6_formatOf 43 = .ok (.istore_n 3, 1) := by decide +kernel
theorem dX6_formatOf_44 : decode cX6_formatOf 44 = .ok (.iinc 4 1, 3) := by decide +kernel
theorem dX6_formatOf_47 : decode cX6_formatOf 47 = .ok (.goto (-42), 3) := by decide +kernel
theorem dX6_formatOf_50 : decode cX6_formatOf 50 = .ok (.iconst 0, 1) := by decide +kernel
theorem dX6_formatOf_51 : decode cX6_formatOf 51 = .ok (.istore 4, 2) := by decide +kernel
theorem dX6_formatOf_53 : decode cX6_formatOf 53 = .ok (.iload 4, 2) := by decide +kernel
theorem dX6_formatOf_55 : decode cX6_formatOf 55 = .ok (.bipush 30, 2) := by decide +kernel
theorem dX6_formatOf_57 : decode cX6_formatOf 57 = .ok (.if_icmp .ge 35, 3) := by decide +kernel
theorem dX6_formatOf_60 : decode cX6_formatOf 60 = .ok (.aload_n 0, 1) := by decide +kernel
theorem dX6_formatOf_61 : decode cX6_formatOf 61 = .ok (.getfield 69, 3) := by decide +kernel
theorem dX6_formatOf_64 : decode cX6_formatOf 64 = .ok (.iload 4, 2) := by decide +kernel
theorem dX6_formatOf_66 : decode cX6_formatOf 66 = .ok (.aload_n 0, 1) := by decide +kernel
theorem dX6_formatOf_67 : decode cX6_formatOf 67 = .ok (.getfield 33, 3) := by decide +kernel
theorem dX6_formatOf_70 : decode cX6_formatOf 70 = .ok (.iload_n 1, 1) := by decide +kernel
theorem dX6_formatOf_71 : decode cX6_formatOf 71 = .ok (.iaload, 1) := by decide +kernel
theorem dX6_formatOf_72 : decode cX6_formatOf 72 = .ok (.ifCond .ne 12, 3) := by decide +kernel
theorem dX6_formatOf_75 : decode cX6_formatOf 75 = .ok (.iload 4, 2) := by decide +kernel
theorem dX6_formatOf_77 : decode cX6_formatOf 77 = .ok (.ifCond .ne 7, 3) := by decide +kernel
theorem dX6_formatOf_80 : decode cX6_formatOf 80 = .ok (.iconst 1, 1) := by decide +kernel
theorem dX6_formatOf_81 : decode cX6_formatOf 81 = .ok (.goto 4, 3) := by decide +kernel
theorem dX6_formatOf_84 : decode cX6_formatOf 84 = .ok (.iconst 0, 1) := by decide +kernel
theorem dX6_formatOf_85 : decode cX6_formatOf 85 = .ok (.bastore, 1) := by decide +kernel
theorem dX6_formatOf_86 : decode cX6_formatOf 86 = .ok (.iinc 4 1, 3) := by decide +kernel
theorem dX6_formatOf_89 : decode cX6_formatOf 89 = .ok (.goto (-36), 3) := by decide +kernel
theorem dX6_formatOf_92 : decode cX6_formatOf 92 = .ok (.iconst 0, 1) := by decide +kernel
theorem dX6_formatOf_93 : decode cX6_formatOf 93 = .ok (.istore 4, 2) := by decide +kernel
theorem dX6_formatOf_95 : decode cX6_formatOf 95 = .ok (.iload 4, 2) := by decide +kernel
theorem dX6_formatOf_97 : decode cX6_formatOf 97 = .ok (.iload_n 2, 1) := by decide +kernel
theorem dX6_formatOf_98 : decode cX6_formatOf 98 = .ok (.if_icmp .ge 43, 3) := by decide +kernel
theorem dX6_formatOf_101 : decode cX6_formatOf 101 = .ok (.aload_n 0, 1) := by decide +kernel
theorem dX6_formatOf_102 : decode cX6_formatOf 102 = .ok (.iload 4, 2) := by decide +kernel
theorem dX6_formatOf_104 : decode cX6_formatOf 104 = .ok (.iload_n 1, 1) := by decide +kernel
theorem dX6_formatOf_105 : decode cX6_formatOf 105 = .ok (.invokevirtual 121, 3) := by decide +kernel
theorem dX6_formatOf_108 : decode cX6_formatOf 108 = .ok (.ifCond .eq 27, 3) := by decide +kernel
theorem dX6_formatOf_111 : decode cX6_formatOf 111 = .ok (.aload_n 0, 1) := by decide +kernel
theorem dX6_formatOf_112 : decode cX6_formatOf 112 = .ok (.getfield 17, 3) := by decide +kernel
theorem dX6_formatOf_115 : decode cX6_formatOf 115 = .ok (.iload 4, 2) := by decide +kernel
theorem dX6_formatOf_117 : decode cX6_formatOf 117 = .ok (.iaload, 1) := by decide +kernel
theorem dX6_formatOf_118 : decode cX6_formatOf 118 = .ok (.iload_n 3, 1) := by decide +kernel
theorem dX6_formatOf_119 : decode cX6_formatOf 119 = .ok (.if_icmp .ne 16, 3) := by decide +kernel
theorem dX6_formatOf_122 : decode cX6_formatOf 122 = .ok (.aload_n 0, 1) := by decide +kernel
theorem dX6_formatOf_123 : decode cX6_formatOf 123 = .ok (.getfield 69, 3) := by decide +kernel
theorem dX6_formatOf_126 : decode cX6_formatOf 126 = .ok (.aload_n 0, 1) := by decide +kernel
theorem dX6_formatOf_127 : decode cX6_formatOf 127 = .ok (.getfield 13, 3) := by decide +kernel
theorem dX6_formatOf_130 : decode cX6_formatOf 130 = .ok (.iload 4, 2) := by decide +kernel
theorem dX6_formatOf_132 : decode cX6_formatOf 132 = .ok (.iaload, 1) := by decide +kernel
theorem dX6_formatOf_133 : decode cX6_formatOf 133 = .ok (.iconst 1, 1) := by decide +kernel
theorem dX6_formatOf_134 : decode cX6_formatOf 134 = .ok (.bastore, 1) := by decide +kernel
theorem dX6_formatOf_135 : decode cX6_formatOf 135 = .ok (.iinc 4 1, 3) := by decide +kernel
theorem dX6_formatOf_138 : decode cX6_formatOf 138 = .ok (.goto (-43), 3) := by decide +kernel
theorem dX6_formatOf_141 : decode cX6_formatOf 141 = .ok (.iconst (-1), 1) := by decide +kernel
theorem dX6_formatOf_142 : decode cX6_formatOf 142 = .ok (.istore 4, 2) := by decide +kernel
theorem dX6_formatOf_144 : decode cX6_formatOf 144 = .ok (.iconst 0, 1) := by decide +kernel
theorem dX6_formatOf_145 : decode cX6_formatOf 145 = .ok (.istore 5, 2) := by decide +kernel
theorem dX6_formatOf_147 : decode cX6_formatOf 147 = .ok (.iconst 0, 1) := by decide +kernel
theorem dX6_formatOf_148 : decode cX6_formatOf 148 = .ok (.istore 6, 2) := by decide +kernel
theorem dX6_formatOf_150 : decode cX6_formatOf 150 = .ok (.iload 6, 2) := by decide +kernel
theorem dX6_formatOf_152 : decode cX6_formatOf 152 = .ok (.bipush 30, 2) := by decide +kernel
theorem dX6_formatOf_154 : decode cX6_formatOf 154 = .ok (.if_icmp .ge 48, 3) := by decide +kernel
theorem dX6_formatOf_157 : decode cX6_formatOf 157 = .ok (.aload_n 0, 1) := by decide +kernel
theorem dX6_formatOf_158 : decode cX6_formatOf 158 = .ok (.getfield 69, 3) := by decide +kernel
theorem dX6_formatOf_161 : decode cX6_formatOf 161 = .ok (.iload 6, 2) := by decide +kernel
theorem dX6_formatOf_163 : decode cX6_formatOf 163 = .ok (.baload, 1) := by decide +kernel
theorem dX6_formatOf_164 : decode cX6_formatOf 164 = .ok (.ifCond .eq 8, 3) := by decide +kernel
theorem dX6_formatOf_167 : decode cX6_formatOf 167 = .ok (.iload 6, 2) := by decide +kernel
theorem dX6_formatOf_169 : decode cX6_formatOf 169 = .ok (.goto 5, 3) := by decide +kernel
theorem dX6_formatOf_172 : decode cX6_formatOf 172 = .ok (.iload 4, 2) := by decide +kernel
theorem dX6_formatOf_174 : decode cX6_formatOf 174 = .ok (.istore 4, 2) := by decide +kernel
theorem dX6_formatOf_176 : decode cX6_formatOf 176 = .ok (.iload 5, 2) := by decide +kernel
theorem dX6_formatOf_178 : decode cX6_formatOf 178 = .ok (.aload_n 0, 1) := by decide +kernel
theorem dX6_formatOf_179 : decode cX6_formatOf 179 = .ok (.getfield 69, 3) := by decide +kernel
theorem dX6_formatOf_182 : decode cX6_formatOf 182 = .ok (.iload 6, 2) := by decide +kernel
theorem dX6_formatOf_184 : decode cX6_formatOf 184 = .ok (.baload, 1) := by decide +kernel
theorem dX6_formatOf_185 : decode cX6_formatOf 185 = .ok (.ifCond .eq 7, 3) := by decide +kernel
theorem dX6_formatOf_188 : decode cX6_formatOf 188 = .ok (.iconst 1, 1) := by decide +kernel
theorem dX6_formatOf_189 : decode cX6_formatOf 189 = .ok (.goto 4, 3) := by decide +kernel
theorem dX6_formatOf_192 : decode cX6_formatOf 192 = .ok (.iconst 0, 1) := by decide +kernel
theorem dX6_formatOf_193 : decode cX6_formatOf 193 = .ok (.iadd, 1) := by decide +kernel
theorem dX6_formatOf_194 : decode cX6_formatOf 194 = .ok (.istore 5, 2) := by decide +kernel
theorem dX6_formatOf_196 : decode cX6_formatOf 196 = .ok (.iinc 6 1, 3) := by decide +kernel
theorem dX6_formatOf_199 : decode cX6_formatOf 199 = .ok (.goto (-49), 3) := by decide +kernel
theorem dX6_formatOf_202 : decode cX6_formatOf 202 = .ok (.iload 5, 2) := by decide +kernel
theorem dX6_formatOf_204 : decode cX6_formatOf 204 = .ok (.iconst 1, 1) := by decide +kernel
theorem dX6_formatOf_205 : decode cX6_formatOf 205 = .ok (.if_icmp .le 8, 3) := by decide +kernel
theorem dX6_formatOf_208 : decode cX6_formatOf 208 = .ok (.bipush (-5), 2) := by decide +kernel
theorem dX6_formatOf_210 : decode cX6_formatOf 210 = .ok (.goto 5, 3) := by decide +kernel
theorem dX6_formatOf_213 : decode cX6_formatOf 213 = .ok (.iload 4, 2) := by decide +kernel
theorem dX6_formatOf_215 : decode cX6_formatOf 215 = .ok (.ireturn, 1) := by decide +kernel
theorem dX6_identify_0 : decode cX6_identify 0 = .ok (.aload_n 0, 1) := by decide +kernel
theorem dX6_identify_1 : decode cX6_identify 1 = .ok (.iconst 0, 1) := by decide +kernel
theorem dX6_identify_2 : decode cX6_identify 2 = .ok (.putfield 72, 3) := by decide +kernel
theorem dX6_identify_5 : decode cX6_identify 5 = .ok (.aload_n 0, 1) := by decide +kernel
theorem dX6_identify_6 : decode cX6_identify 6 = .ok (.iload_n 1, 1) := by decide +kernel
theorem dX6_identify_7 : decode cX6_identify 7 = .ok (.invokevirtual 118, 3) := by decide +kernel
theorem dX6_identify_10 : decode cX6_identify 10 = .ok (.ifCond .ne 6, 3) := by decide +kernel
theorem dX6_identify_13 : decode cX6_identify 13 = .ok (.bipush (-2), 2) := by decide +kernel
theorem dX6_identify_15 : decode cX6_identify 15 = .ok (.ireturn, 1) := by decide +kernel
theorem dX6_identify_16 : decode cX6_identify 16 = .ok (.aload_n 0, 1) := by decide +kernel
theorem dX6_identify_17 : decode cX6_identify 17 = .ok (.iload_n 1, 1) := by decide +kernel
theorem dX6_identify_18 : decode cX6_identify 18 = .ok (.aload_n 0, 1) := by decide +kernel
theorem dX6_identify_19 : decode cX6_identify 19 = .ok (.getfield 97, 3) := by decide +kernel
theorem dX6_identify_22 : decode cX6_identify 22 = .ok (.invokevirtual 125, 3) := by decide +kernel
theorem dX6_identify_25 : decode cX6_identify 25 = .ok (.istore_n 2, 1) := by decide +kernel
theorem dX6_identify_26 : decode cX6_identify 26 = .ok (.aload_n 0, 1) := by decide +kernel
theorem dX6_identify_27 : decode cX6_identify 27 = .ok (.iconst 0, 1) := by decide +kernel
theorem dX6_identify_28 : decode cX6_identify 28 = .ok (.putfield 129, 3) := by decide +kernel
theorem dX6_identify_31 : decode cX6_identify 31 = .ok (.iconst 0, 1) := by decide +kernel
theorem dX6_identify_32 : decode cX6_identify 32 = .ok (.istore_n 3, 1) := by decide +kernel
theorem dX6_identify_33 : decode cX6_identify 33 = .ok (.iload_n 3, 1) := by decide +kernel
theorem dX6_identify_34 : decode cX6_identify 34 = .ok (.bipush 30, 2) := by decide +kernel
theorem dX6_identify_36 : decode cX6_identify 36 = .ok (.if_icmp .ge 41, 3) := by decide +kernel
theorem dX6_identify_39 : decode cX6_identify 39 = .ok (.aload_n 0, 1) := by decide +kernel
theorem dX6_identify_40 : decode cX6_identify 40 = .ok (.getfield 69, 3) := by decide +kernel
theorem dX6_identify_43 : decode cX6_identify 43 = .ok (.iload_n 3, 1) := by decide +kernel
theorem dX6_identify_44 : decode cX6_identify 44 = .ok (.baload, 1) := by decide +kernel
theorem dX6_identify_45 : decode cX6_identify 45 = .ok (.ifCond .ne 6, 3) := by decide +kernel
theorem dX6_identify_48 : decode cX6_identify 48 = .ok (.goto 23, 3) := by decide +kernel
theorem dX6_identify_51 : decode cX6_identify 51 = .ok (.aload_n 0, 1) := by decide +kernel
theorem dX6_identify_52 : decode cX6_identify 52 = .ok (.getfield 63, 3) := by decide +kernel
theorem dX6_identify_55 : decode cX6_identify 55 = .ok (.aload_n 0, 1) := by decide +kernel
theorem dX6_identify_56 : decode cX6_identify 56 = .ok (.getfield 129, 3) := by decide +kernel
theorem dX6_identify_59 : decode cX6_identify 59 = .ok (.iload_n 3, 1) := by decide +kernel
theorem dX6_identify_60 : decode cX6_identify 60 = .ok (.iastore, 1) := by decide +kernel
theorem dX6_identify_61 : decode cX6_identify 61 = .ok (.aload_n 0, 1) := by decide +kernel
theorem dX6_identify_62 : decode cX6_identify 62 = .ok (.dup, 1) := by decide +kernel
theorem dX6_identify_63 : decode cX6_identify 63 = .ok (.getfield 129, 3) := by decide +kernel
theorem dX6_identify_66 : decode cX6_identify 66 = .ok (.iconst 1, 1) := by decide +kernel
theorem dX6_identify_67 : decode cX6_identify 67 = .ok (.iadd, 1) := by decide +kernel
theorem dX6_identify_68 : decode cX6_identify 68 = .ok (.putfield 129, 3) := by decide +kernel
theorem dX6_identify_71 : decode cX6_identify 71 = .ok (.iinc 3 1, 3) := by decide +kernel
theorem dX6_identify_74 : decode cX6_identify 74 = .ok (.goto (-41), 3) := by decide +kernel
theorem dX6_identify_77 : decode cX6_identify 77 = .ok (.iload_n 2, 1) := by decide +kernel
theorem dX6_identify_78 : decode cX6_identify 78 = .ok (.ireturn, 1) := by decide +kernel
theorem dX6_found_0 : decode cX6_found 0 = .ok (.aload_n 0, 1) := by decide +kernel
theorem dX6_found_1 : decode cX6_found 1 = .ok (.iload_n 1, 1) := by decide +kernel
theorem dX6_found_2 : decode cX6_found 2 = .ok (.iconst 0, 1) := by decide +kernel
theorem dX6_found_3 : decode cX6_found 3 = .ok (.aload_n 0, 1) := by decide +kernel
theorem dX6_found_4 : decode cX6_found 4 = .ok (.getfield 129, 3) := by decide +kernel
theorem dX6_found_7 : decode cX6_found 7 = .ok (.iconst 1, 1) := by decide +kernel
theorem dX6_found_8 : decode cX6_found 8 = .ok (.isub, 1) := by decide +kernel
theorem dX6_found_9 : decode cX6_found 9 = .ok (.invokestatic 79, 3) := by decide +kernel
theorem dX6_found_12 : decode cX6_found 12 = .ok (.ifCond .eq 7, 3) := by decide +kernel
theorem dX6_found_15 : decode cX6_found 15 = .ok (.iconst 0, 1) := by decide +kernel
theorem dX6_found_16 : decode cX6_found 16 = .ok (.goto 4, 3) := by decide +kernel
theorem dX6_found_19 : decode cX6_found 19 = .ok (.iconst 1, 1) := by decide +kernel
theorem dX6_found_20 : decode cX6_found 20 = .ok (.putfield 72, 3) := by decide +kernel
theorem dX6_found_23 : decode cX6_found 23 = .ok (.aload_n 0, 1) := by decide +kernel
theorem dX6_found_24 : decode cX6_found 24 = .ok (.getfield 72, 3) := by decide +kernel
theorem dX6_found_27 : decode cX6_found 27 = .ok (.ifCond .le 7, 3) := by decide +kernel
theorem dX6_found_30 : decode cX6_found 30 = .ok (.iconst 0, 1) := by decide +kernel
theorem dX6_found_31 : decode cX6_found 31 = .ok (.goto 9, 3) := by decide +kernel
theorem dX6_found_34 : decode cX6_found 34 = .ok (.aload_n 0, 1) := by decide +kernel
theorem dX6_found_35 : decode cX6_found 35 = .ok (.getfield 63, 3) := by decide +kernel
theorem dX6_found_38 : decode cX6_found 38 = .ok (.iload_n 1, 1) := by decide +kernel
theorem dX6_found_39 : decode cX6_found 39 = .ok (.iaload, 1) := by decide +kernel
theorem dX6_found_40 : decode cX6_found 40 = .ok (.ireturn, 1) := by decide +kernel
theorem dX6_container_0 : decode cX6_container 0 = .ok (.aload_n 0, 1) := by decide +kernel
theorem dX6_container_1 : decode cX6_container 1 = .ok (.iconst 0, 1) := by decide +kernel
theorem dX6_container_2 : decode cX6_container 2 = .ok (.putfield 72, 3) := by decide +kernel
theorem dX6_container_5 : decode cX6_container 5 = .ok (.iload_n 1, 1) := by decide +kernel
theorem dX6_container_6 : decode cX6_container 6 = .ok (.invokestatic 132, 3) := by decide +kernel
theorem dX6_container_9 : decode cX6_container 9 = .ok (.ifCond .eq 17, 3) := by decide +kernel
theorem dX6_container_12 : decode cX6_container 12 = .ok (.iload_n 2, 1) := by decide +kernel
theorem dX6_container_13 : decode cX6_container 13 = .ok (.invokestatic 132, 3) := by decide +kernel
theorem dX6_container_16 : decode cX6_container 16 = .ok (.ifCond .eq 10, 3) := by decide +kernel
theorem dX6_container_19 : decode cX6_container 19 = .ok (.iload_n 3, 1) := by decide +kernel
theorem dX6_container_20 : decode cX6_container 20 = .ok (.invokestatic 132, 3) := by decide +kernel
theorem dX6_container_23 : decode cX6_container 23 = .ok (.ifCond .ne 6, 3) := by decide +kernel
theorem dX6_container_26 : decode cX6_container 26 = .ok (.bipush (-2), 2) := by decide +kernel
theorem dX6_container_28 : decode cX6_container 28 = .ok (.ireturn, 1) := by decide +kernel
theorem dX6_container_29 : decode cX6_container 29 = .ok (.aload_n 0, 1) := by decide +kernel
theorem dX6_container_30 : decode cX6_container 30 = .ok (.getfield 135, 3) := by decide +kernel
theorem dX6_container_33 : decode cX6_container 33 = .ok (.bipush 20, 2) := by decide +kernel
theorem dX6_container_35 : decode cX6_container 35 = .ok (.if_icmp .ne 6, 3) := by decide +kernel
theorem dX6_container_38 : decode cX6_container 38 = .ok (.bipush (-4), 2) := by decide +kernel
theorem dX6_container_40 : decode cX6_container 40 = .ok (.ireturn, 1) := by decide +kernel
theorem dX6_container_41 : decode cX6_container 41 = .ok (.aload_n 0, 1) := by decide +kernel
theorem dX6_container_42 : decode cX6_container 42 = .ok (.getfield 48, 3) := by decide +kernel
theorem dX6_container_45 : decode cX6_container 45 = .ok (.aload_n 0, 1) := by decide +kernel
theorem dX6_container_46 : decode cX6_container 46 = .ok (.getfield 135, 3) := by decide +kernel
theorem dX6_container_49 : decode cX6_container 49 = .ok (.iload_n 1, 1) := by decide +kernel
theorem dX6_container_50 : decode cX6_container 50 = .ok (.iastore, 1) := by decide +kernel
theorem dX6_container_51 : decode cX6_container 51 = .ok (.aload_n 0, 1) := by decide +kernel
theorem dX6_container_52 : decode cX6_container 52 = .ok (.getfield 51, 3) := by decide +kernel
theorem dX6_container_55 : decode cX6_container 55 = .ok (.aload_n 0, 1) := by decide +kernel
theorem dX6_container_56 : decode cX6_container 56 = .ok (.getfield 135, 3) := by decide +kernel
theorem dX6_container_59 : decode cX6_container 59 = .ok (.iload_n 2, 1) := by decide +kernel
theorem dX6_container_60 : decode cX6_container 60 = .ok (.iastore, 1) := by decide +kernel
theorem dX6_container_61 : decode cX6_container 61 = .ok (.aload_n 0, 1) := by decide +kernel
theorem dX6_container_62 : decode cX6_container 62 = .ok (.getfield 54, 3) := by decide +kernel
theorem dX6_container_65 : decode cX6_container 65 = .ok (.aload_n 0, 1) := by decide +kernel
theorem dX6_container_66 : decode cX6_container 66 = .ok (.getfield 135, 3) := by decide +kernel
theorem dX6_container_69 : decode cX6_container 69 = .ok (.iload_n 3, 1) := by decide +kernel
theorem dX6_container_70 : decode cX6_container 70 = .ok (.iastore, 1) := by decide +kernel
theorem dX6_container_71 : decode cX6_container 71 = .ok (.aload_n 0, 1) := by decide +kernel
theorem dX6_container_72 : decode cX6_container 72 = .ok (.dup, 1) := by decide +kernel
theorem dX6_container_73 : decode cX6_container 73 = .ok (.getfield 135, 3) := by decide +kernel
theorem dX6_container_76 : decode cX6_container 76 = .ok (.iconst 1, 1) := by decide +kernel
theorem dX6_container_77 : decode cX6_container 77 = .ok (.iadd, 1) := by decide +kernel
theorem dX6_container_78 : decode cX6_container 78 = .ok (.putfield 135, 3) := by decide +kernel
theorem dX6_container_81 : decode cX6_container 81 = .ok (.aload_n 0, 1) := by decide +kernel
theorem dX6_container_82 : decode cX6_container 82 = .ok (.getfield 135, 3) := by decide +kernel
theorem dX6_container_85 : decode cX6_container 85 = .ok (.iconst 1, 1) := by decide +kernel
theorem dX6_container_86 : decode cX6_container 86 = .ok (.isub, 1) := by decide +kernel
theorem dX6_container_87 : decode cX6_container 87 = .ok (.ireturn, 1) := by decide +kernel
theorem dX6_deepest_0 : decode cX6_deepest 0 = .ok (.aload_n 0, 1) := by decide +kernel
theorem dX6_deepest_1 : decode cX6_deepest 1 = .ok (.iload_n 1, 1) := by decide +kernel
theorem dX6_deepest_2 : decode cX6_deepest 2 = .ok (.aload_n 0, 1) := by decide +kernel
theorem dX6_deepest_3 : decode cX6_deepest 3 = .ok (.getfield 97, 3) := by decide +kernel
theorem dX6_deepest_6 : decode cX6_deepest 6 = .ok (.invokevirtual 125, 3) := by decide +kernel
theorem dX6_deepest_9 : decode cX6_deepest 9 = .ok (.ireturn, 1) := by decide +kernel
theorem dX6_deep2_0 : decode cX6_deep2 0 = .ok (.aload_n 0, 1) := by decide +kernel
theorem dX6_deep2_1 : decode cX6_deep2 1 = .ok (.iload_n 1, 1) := by decide +kernel
theorem dX6_deep2_2 : decode cX6_deep2 2 = .ok (.aload_n 0, 1) := by decide +kernel
theorem dX6_deep2_3 : decode cX6_deep2 3 = .ok (.getfield 97, 3) := by decide +kernel
theorem dX6_deep2_6 : decode cX6_deep2 6 = .ok (.invokevirtual 125, 3) := by decide +kernel
theorem dX6_deep2_9 : decode cX6_deep2 9 = .ok (.istore_n 2, 1) := by decide +kernel
theorem dX6_deep2_10 : decode cX6_deep2 10 = .ok (.iload_n 2, 1) := by decide +kernel
theorem dX6_deep2_11 : decode cX6_deep2 11 = .ok (.istore_n 3, 1) := by decide +kernel
theorem dX6_deep2_12 : decode cX6_deep2 12 = .ok (.iconst 0, 1) := by decide +kernel
theorem dX6_deep2_13 : decode cX6_deep2 13 = .ok (.istore 4, 2) := by decide +kernel
theorem dX6_deep2_15 : decode cX6_deep2 15 = .ok (.iload 4, 2) := by decide +kernel
theorem dX6_deep2_17 : decode cX6_deep2 17 = .ok (.aload_n 0, 1) := by decide +kernel
theorem dX6_deep2_18 : decode cX6_deep2 18 = .ok (.getfield 135, 3) := by decide +kernel
theorem dX6_deep2_21 : decode cX6_deep2 21 = .ok (.if_icmp .ge 102, 3) := by decide +kernel
theorem dX6_deep2_24 : decode cX6_deep2 24 = .ok (.iload_n 2, 1) := by decide +kernel
theorem dX6_deep2_25 : decode cX6_deep2 25 = .ok (.ifCond .lt 98, 3) := by decide +kernel
theorem dX6_deep2_28 : decode cX6_deep2 28 = .ok (.iconst 0, 1) := by decide +kernel
theorem dX6_deep2_29 : decode cX6_deep2 29 = .ok (.istore 5, 2) := by decide +kernel
theorem dX6_deep2_31 : decode cX6_deep2 31 = .ok (.iconst 0, 1) := by decide +kernel
theorem dX6_deep2_32 : decode cX6_deep2 32 = .ok (.istore 6, 2) := by decide +kernel
theorem dX6_deep2_34 : decode cX6_deep2 34 = .ok (.iload 6, 2) := by decide +kernel
theorem dX6_deep2_36 : decode cX6_deep2 36 = .ok (.aload_n 0, 1) := by decide +kernel
theorem dX6_deep2_37 : decode cX6_deep2 37 = .ok (.getfield 39, 3) := by decide +kernel
theorem dX6_deep2_40 : decode cX6_deep2 40 = .ok (.iload_n 1, 1) := by decide +kernel
theorem dX6_deep2_41 : decode cX6_deep2 41 = .ok (.iaload, 1) := by decide +kernel
theorem dX6_deep2_42 : decode cX6_deep2 42 = .ok (.if_icmp .ge 58, 3) := by decide +kernel
theorem dX6_deep2_45 : decode cX6_deep2 45 = .ok (.aload_n 0, 1) := by decide +kernel
theorem dX6_deep2_46 : decode cX6_deep2 46 = .ok (.getfield 48, 3) := by decide +kernel
theorem dX6_deep2_49 : decode cX6_deep2 49 = .ok (.iload 4, 2) := by decide +kernel
theorem dX6_deep2_51 : decode cX6_deep2 51 = .ok (.iaload, 1) := by decide +kernel
theorem dX6_deep2_52 : decode cX6_deep2 52 = .ok (.iload_n 2, 1) := by decide +kernel
theorem dX6_deep2_53 : decode cX6_deep2 53 = .ok (.if_icmp .ne 47, 3) := by decide +kernel
theorem dX6_deep2_56 : decode cX6_deep2 56 = .ok (.iload 5, 2) := by decide +kernel
theorem dX6_deep2_58 : decode cX6_deep2 58 = .ok (.ifCond .ne 29, 3) := by decide +kernel
theorem dX6_deep2_61 : decode cX6_deep2 61 = .ok (.aload_n 0, 1) := by decide +kernel
theorem dX6_deep2_62 : decode cX6_deep2 62 = .ok (.aload_n 0, 1) := by decide +kernel
theorem dX6_deep2_63 : decode cX6_deep2 63 = .ok (.getfield 42, 3) := by decide +kernel
theorem dX6_deep2_66 : decode cX6_deep2 66 = .ok (.bipush 8, 2) := by decide +kernel
theorem dX6_deep2_68 : decode cX6_deep2 68 = .ok (.iload_n 1, 1) := by decide +kernel
theorem dX6_deep2_69 : decode cX6_deep2 69 = .ok (.imul, 1) := by decide +kernel
theorem dX6_deep2_70 : decode cX6_deep2 70 = .ok (.iload 6, 2) := by decide +kernel
theorem dX6_deep2_72 : decode cX6_deep2 72 = .ok (.iadd, 1) := by decide +kernel
theorem dX6_deep2_73 : decode cX6_deep2 73 = .ok (.iaload, 1) := by decide +kernel
theorem dX6_deep2_74 : decode cX6_deep2 74 = .ok (.invokevirtual 138, 3) := by decide +kernel
theorem dX6_deep2_77 : decode cX6_deep2 77 = .ok (.aload_n 0, 1) := by decide +kernel
theorem dX6_deep2_78 : decode cX6_deep2 78 = .ok (.getfield 51, 3) := by decide +kernel
theorem dX6_deep2_81 : decode cX6_deep2 81 = .ok (.iload 4, 2) := by decide +kernel
theorem dX6_deep2_83 : decode cX6_deep2 83 = .ok (.iaload, 1) := by decide +kernel
theorem dX6_deep2_84 : decode cX6_deep2 84 = .ok (.if_icmp .ne 7, 3) := by decide +kernel
theorem dX6_deep2_87 : decode cX6_deep2 87 = .ok (.iconst 1, 1) := by decide +kernel
theorem dX6_deep2_88 : decode cX6_deep2 88 = .ok (.goto 4, 3) := by decide +kernel
theorem dX6_deep2_91 : decode cX6_deep2 91 = .ok (.iconst 0, 1) := by decide +kernel
theorem dX6_deep2_92 : decode cX6_deep2 92 = .ok (.istore 5, 2) := by decide +kernel
theorem dX6_deep2_94 : decode cX6_deep2 94 = .ok (.iinc 6 1, 3) := by decide +kernel
theorem dX6_deep2_97 : decode cX6_deep2 97 = .ok (.goto (-63), 3) := by decide +kernel
theorem dX6_deep2_100 : decode cX6_deep2 100 = .ok (.iload 5, 2) := by decide +kernel
theorem dX6_deep2_102 : decode cX6_deep2 102 = .ok (.ifCond .eq 13, 3) := by decide +kernel
theorem dX6_deep2_105 : decode cX6_deep2 105 = .ok (.aload_n 0, 1) := by decide +kernel
theorem dX6_deep2_106 : decode cX6_deep2 106 = .ok (.getfield 54, 3) := by decide +kernel
theorem dX6_deep2_109 : decode cX6_deep2 109 = .ok (.iload 4, 2) := by decide +kernel
theorem dX6_deep2_111 : decode cX6_deep2 111 = .ok (.iaload, 1) := by decide +kernel
theorem dX6_deep2_112 : decode cX6_deep2 112 = .ok (.goto 4, 3) := by decide +kernel
theorem dX6_deep2_115 : decode cX6_deep2 115 = .ok (.iload_n 3, 1) := by decide +kernel
theorem dX6_deep2_116 : decode cX6_deep2 116 = .ok (.istore_n 3, 1) := by decide +kernel
theorem dX6_deep2_117 : decode cX6_deep2 117 = .ok (.iinc 4 1, 3) := by decide +kernel
theorem dX6_deep2_120 : decode cX6_deep2 120 = .ok (.goto (-105), 3) := by decide +kernel
theorem dX6_deep2_123 : decode cX6_deep2 123 = .ok (.iload_n 3, 1) := by decide +kernel
theorem dX6_deep2_124 : decode cX6_deep2 124 = .ok (.ireturn, 1) := by decide +kernel
theorem dX6_deep1_0 : decode cX6_deep1 0 = .ok (.aload_n 0, 1) := by decide +kernel
theorem dX6_deep1_1 : decode cX6_deep1 1 = .ok (.iload_n 1, 1) := by decide +kernel
theorem dX6_deep1_2 : decode cX6_deep1 2 = .ok (.aload_n 0, 1) := by decide +kernel
theorem dX6_deep1_3 : decode cX6_deep1 3 = .ok (.getfield 97, 3) := by decide +kernel
theorem dX6_deep1_6 : decode cX6_deep1 6 = .ok (.invokevirtual 125, 3) := by decide +kernel
theorem dX6_deep1_9 : decode cX6_deep1 9 = .ok (.istore_n 2, 1) := by decide +kernel
theorem dX6_deep1_10 : decode cX6_deep1 10 = .ok (.iload_n 2, 1) := by decide +kernel
theorem dX6_deep1_11 : decode cX6_deep1 11 = .ok (.istore_n 3, 1) := by decide +kernel
theorem dX6_deep1_12 : decode cX6_deep1 12 = .ok (.iconst 0, 1) := by decide +kernel
theorem dX6_deep1_13 : decode cX6_deep1 13 = .ok (.istore 4, 2) := by decide +kernel
theorem dX6_deep1_15 : decode cX6_deep1 15 = .ok (.iload 4, 2) := by decide +kernel
theorem dX6_deep1_17 : decode cX6_deep1 17 = .ok (.aload_n 0, 1) := by decide +kernel
theorem dX6_deep1_18 : decode cX6_deep1 18 = .ok (.getfield 135, 3) := by decide +kernel
theorem dX6_deep1_21 : decode cX6_deep1 21 = .ok (.if_icmp .ge 102, 3) := by decide +kernel
theorem dX6_deep1_24 : decode cX6_deep1 24 = .ok (.iload_n 2, 1) := by decide +kernel
theorem dX6_deep1_25 : decode cX6_deep1 25 = .ok (.ifCond .lt 98, 3) := by decide +kernel
theorem dX6_deep1_28 : decode cX6_deep1 28 = .ok (.iconst 0, 1) := by decide +kernel
theorem dX6_deep1_29 : decode cX6_deep1 29 = .ok (.istore 5, 2) := by decide +kernel
theorem dX6_deep1_31 : decode cX6_deep1 31 = .ok (.iconst 0, 1) := by decide +kernel
theorem dX6_deep1_32 : decode cX6_deep1 32 = .ok (.istore 6, 2) := by decide +kernel
theorem dX6_deep1_34 : decode cX6_deep1 34 = .ok (.iload 6, 2) := by decide +kernel
theorem dX6_deep1_36 : decode cX6_deep1 36 = .ok (.aload_n 0, 1) := by decide +kernel
theorem dX6_deep1_37 : decode cX6_deep1 37 = .ok (.getfield 39, 3) := by decide +kernel
theorem dX6_deep1_40 : decode cX6_deep1 40 = .ok (.iload_n 1, 1) := by decide +kernel
theorem dX6_deep1_41 : decode cX6_deep1 41 = .ok (.iaload, 1) := by decide +kernel
theorem dX6_deep1_42 : decode cX6_deep1 42 = .ok (.if_icmp .ge 58, 3) := by decide +kernel
theorem dX6_deep1_45 : decode cX6_deep1 45 = .ok (.aload_n 0, 1) := by decide +kernel
theorem dX6_deep1_46 : decode cX6_deep1 46 = .ok (.getfield 48, 3) := by decide +kernel
theorem dX6_deep1_49 : decode cX6_deep1 49 = .ok (.iload 4, 2) := by decide +kernel
theorem dX6_deep1_51 : decode cX6_deep1 51 = .ok (.iaload, 1) := by decide +kernel
theorem dX6_deep1_52 : decode cX6_deep1 52 = .ok (.iload_n 2, 1) := by decide +kernel
theorem dX6_deep1_53 : decode cX6_deep1 53 = .ok (.if_icmp .ne 47, 3) := by decide +kernel
theorem dX6_deep1_56 : decode cX6_deep1 56 = .ok (.iload 5, 2) := by decide +kernel
theorem dX6_deep1_58 : decode cX6_deep1 58 = .ok (.ifCond .ne 29, 3) := by decide +kernel
theorem dX6_deep1_61 : decode cX6_deep1 61 = .ok (.aload_n 0, 1) := by decide +kernel
theorem dX6_deep1_62 : decode cX6_deep1 62 = .ok (.aload_n 0, 1) := by decide +kernel
theorem dX6_deep1_63 : decode cX6_deep1 63 = .ok (.getfield 42, 3) := by decide +kernel
theorem dX6_deep1_66 : decode cX6_deep1 66 = .ok (.bipush 8, 2) := by decide +kernel
theorem dX6_deep1_68 : decode cX6_deep1 68 = .ok (.iload_n 1, 1) := by decide +kernel
theorem dX6_deep1_69 : decode cX6_deep1 69 = .ok (.imul, 1) := by decide +kernel
theorem dX6_deep1_70 : decode cX6_deep1 70 = .ok (.iload 6, 2) := by decide +kernel
theorem dX6_deep1_72 : decode cX6_deep1 72 = .ok (.iadd, 1) := by decide +kernel
theorem dX6_deep1_73 : decode cX6_deep1 73 = .ok (.iaload, 1) := by decide +kernel
theorem dX6_deep1_74 : decode cX6_deep1 74 = .ok (.invokevirtual 141, 3) := by decide +kernel
theorem dX6_deep1_77 : decode cX6_deep1 77 = .ok (.aload_n 0, 1) := by decide +kernel
theorem dX6_deep1_78 : decode cX6_deep1 78 = .ok (.getfield 51, 3) := by decide +kernel
theorem dX6_deep1_81 : decode cX6_deep1 81 = .ok (.iload 4, 2) := by decide +kernel
theorem dX6_deep1_83 : decode cX6_deep1 83 = .ok (.iaload, 1) := by decide +kernel
theorem dX6_deep1_84 : decode cX6_deep1 84 = .ok (.if_icmp .ne 7, 3) := by decide +kernel
theorem dX6_deep1_87 : decode cX6_deep1 87 = .ok (.iconst 1, 1) := by decide +kernel
theorem dX6_deep1_88 : decode cX6_deep1 88 = .ok (.goto 4, 3) := by decide +kernel
theorem dX6_deep1_91 : decode cX6_deep1 91 = .ok (.iconst 0, 1) := by decide +kernel
theorem dX6_deep1_92 : decode cX6_deep1 92 = .ok (.istore 5, 2) := by decide +kernel
theorem dX6_deep1_94 : decode cX6_deep1 94 = .ok (.iinc 6 1, 3) := by decide +kernel
theorem dX6_deep1_97 : decode cX6_deep1 97 = .ok (.goto (-63), 3) := by decide +kernel
theorem dX6_deep1_100 : decode cX6_deep1 100 = .ok (.iload 5, 2) := by decide +kernel
theorem dX6_deep1_102 : decode cX6_deep1 102 = .ok (.ifCond .eq 13, 3) := by decide +kernel
theorem dX6_deep1_105 : decode cX6_deep1 105 = .ok (.aload_n 0, 1) := by decide +kernel
theorem dX6_deep1_106 : decode cX6_deep1 106 = .ok (.getfield 54, 3) := by decide +kernel
theorem dX6_deep1_109 : decode cX6_deep1 109 = .ok (.iload 4, 2) := by decide +kernel
theorem dX6_deep1_111 : decode cX6_deep1 111 = .ok (.iaload, 1) := by decide +kernel
theorem dX6_deep1_112 : decode cX6_deep1 112 = .ok (.goto 4, 3) := by decide +kernel
theorem dX6_deep1_115 : decode cX6_deep1 115 = .ok (.iload_n 3, 1) := by decide +kernel
theorem dX6_deep1_116 : decode cX6_deep1 116 = .ok (.istore_n 3, 1) := by decide +kernel
theorem dX6_deep1_117 : decode cX6_deep1 117 = .ok (.iinc 4 1, 3) := by decide +kernel
theorem dX6_deep1_120 : decode cX6_deep1 120 = .ok (.goto (-105), 3) := by decide +kernel
theorem dX6_deep1_123 : decode cX6_deep1 123 = .ok (.iload_n 3, 1) := by decide +kernel
theorem dX6_deep1_124 : decode cX6_deep1 124 = .ok (.ireturn, 1) := by decide +kernel
theorem dX6_deep0_0 : decode cX6_deep0 0 = .ok (.aload_n 0, 1) := by decide +kernel
theorem dX6_deep0_1 : decode cX6_deep0 1 = .ok (.iload_n 1, 1) := by decide +kernel
theorem dX6_deep0_2 : decode cX6_deep0 2 = .ok (.aload_n 0, 1) := by decide +kernel
theorem dX6_deep0_3 : decode cX6_deep0 3 = .ok (.getfield 97, 3) := by decide +kernel
theorem dX6_deep0_6 : decode cX6_deep0 6 = .ok (.invokevirtual 125, 3) := by decide +kernel
theorem dX6_deep0_9 : decode cX6_deep0 9 = .ok (.istore_n 2, 1) := by decide +kernel
theorem dX6_deep0_10 : decode cX6_deep0 10 = .ok (.iload_n 2, 1) := by decide +kernel
theorem dX6_deep0_11 : decode cX6_deep0 11 = .ok (.istore_n 3, 1) := by decide +kernel
theorem dX6_deep0_12 : decode cX6_deep0 12 = .ok (.iconst 0, 1) := by decide +kernel
theorem dX6_deep0_13 : decode cX6_deep0 13 = .ok (.istore 4, 2) := by decide +kernel
theorem dX6_deep0_15 : decode cX6_deep0 15 = .ok (.iload 4, 2) := by decide +kernel
theorem dX6_deep0_17 : decode cX6_deep0 17 = .ok (.aload_n 0, 1) := by decide +kernel
theorem dX6_deep0_18 : decode cX6_deep0 18 = .ok (.getfield 135, 3) := by decide +kernel
theorem dX6_deep0_21 : decode cX6_deep0 21 = .ok (.if_icmp .ge 102, 3) := by decide +kernel
theorem dX6_deep0_24 : decode cX6_deep0 24 = .ok (.iload_n 2, 1) := by decide +kernel
theorem dX6_deep0_25 : decode cX6_deep0 25 = .ok (.ifCond .lt 98, 3) := by decide +kernel
theorem dX6_deep0_28 : decode cX6_deep0 28 = .ok (.iconst 0, 1) := by decide +kernel
theorem dX6_deep0_29 : decode cX6_deep0 29 = .ok (.istore 5, 2) := by decide +kernel
theorem dX6_deep0_31 : decode cX6_deep0 31 = .ok (.iconst 0, 1) := by decide +kernel
theorem dX6_deep0_32 : decode cX6_deep0 32 = .ok (.istore 6, 2) := by decide +kernel
theorem dX6_deep0_34 : decode cX6_deep0 34 = .ok (.iload 6, 2) := by decide +kernel
theorem dX6_deep0_36 : decode cX6_deep0 36 = .ok (.aload_n 0, 1) := by decide +kernel
theorem dX6_deep0_37 : decode cX6_deep0 37 = .ok (.getfield 39, 3) := by decide +kernel
theorem dX6_deep0_40 : decode cX6_deep0 40 = .ok (.iload_n 1, 1) := by decide +kernel
theorem dX6_deep0_41 : decode cX6_deep0 41 = .ok (.iaload, 1) := by decide +kernel
theorem dX6_deep0_42 : decode cX6_deep0 42 = .ok (.if_icmp .ge 58, 3) := by decide +kernel
theorem dX6_deep0_45 : decode cX6_deep0 45 = .ok (.aload_n 0, 1) := by decide +kernel
theorem dX6_deep0_46 : decode cX6_deep0 46 = .ok (.getfield 48, 3) := by decide +kernel
theorem dX6_deep0_49 : decode cX6_deep0 49 = .ok (.iload 4, 2) := by decide +kernel
theorem dX6_deep0_51 : decode cX6_deep0 51 = .ok (.iaload, 1) := by decide +kernel
theorem dX6_deep0_52 : decode cX6_deep0 52 = .ok (.iload_n 2, 1) := by decide +kernel
theorem dX6_deep0_53 : decode cX6_deep0 53 = .ok (.if_icmp .ne 47, 3) := by decide +kernel
theorem dX6_deep0_56 : decode cX6_deep0 56 = .ok (.iload 5, 2) := by decide +kernel
theorem dX6_deep0_58 : decode cX6_deep0 58 = .ok (.ifCond .ne 29, 3) := by decide +kernel
theorem dX6_deep0_61 : decode cX6_deep0 61 = .ok (.aload_n 0, 1) := by decide +kernel
theorem dX6_deep0_62 : decode cX6_deep0 62 = .ok (.aload_n 0, 1) := by decide +kernel
theorem dX6_deep0_63 : decode cX6_deep0 63 = .ok (.getfield 42, 3) := by decide +kernel
theorem dX6_deep0_66 : decode cX6_deep0 66 = .ok (.bipush 8, 2) := by decide +kernel
theorem dX6_deep0_68 : decode cX6_deep0 68 = .ok (.iload_n 1, 1) := by decide +kernel
theorem dX6_deep0_69 : decode cX6_deep0 69 = .ok (.imul, 1) := by decide +kernel
theorem dX6_deep0_70 : decode cX6_deep0 70 = .ok (.iload 6, 2) := by decide +kernel
theorem dX6_deep0_72 : decode cX6_deep0 72 = .ok (.iadd, 1) := by decide +kernel
theorem dX6_deep0_73 : decode cX6_deep0 73 = .ok (.iaload, 1) := by decide +kernel
theorem dX6_deep0_74 : decode cX6_deep0 74 = .ok (.invokevirtual 144, 3) := by decide +kernel
theorem dX6_deep0_77 : decode cX6_deep0 77 = .ok (.aload_n 0, 1) := by decide +kernel
theorem dX6_deep0_78 : decode cX6_deep0 78 = .ok (.getfield 51, 3) := by decide +kernel
theorem dX6_deep0_81 : decode cX6_deep0 81 = .ok (.iload 4, 2) := by decide +kernel
theorem dX6_deep0_83 : decode cX6_deep0 83 = .ok (.iaload, 1) := by decide +kernel
theorem dX6_deep0_84 : decode cX6_deep0 84 = .ok (.if_icmp .ne 7, 3) := by decide +kernel
theorem dX6_deep0_87 : decode cX6_deep0 87 = .ok (.iconst 1, 1) := by decide +kernel
theorem dX6_deep0_88 : decode cX6_deep0 88 = .ok (.goto 4, 3) := by decide +kernel
theorem dX6_deep0_91 : decode cX6_deep0 91 = .ok (.iconst 0, 1) := by decide +kernel
theorem dX6_deep0_92 : decode cX6_deep0 92 = .ok (.istore 5, 2) := by decide +kernel
theorem dX6_deep0_94 : decode cX6_deep0 94 = .ok (.iinc 6 1, 3) := by decide +kernel
theorem dX6_deep0_97 : decode cX6_deep0 97 = .ok (.goto (-63), 3) := by decide +kernel
theorem dX6_deep0_100 : decode cX6_deep0 100 = .ok (.iload 5, 2) := by decide +kernel
theorem dX6_deep0_102 : decode cX6_deep0 102 = .ok (.ifCond .eq 13, 3) := by decide +kernel
theorem dX6_deep0_105 : decode cX6_deep0 105 = .ok (.aload_n 0, 1) := by decide +kernel
theorem dX6_deep0_106 : decode cX6_deep0 106 = .ok (.getfield 54, 3) := by decide +kernel
theorem dX6_deep0_109 : decode cX6_deep0 109 = .ok (.iload 4, 2) := by decide +kernel
theorem dX6_deep0_111 : decode cX6_deep0 111 = .ok (.iaload, 1) := by decide +kernel
theorem dX6_deep0_112 : decode cX6_deep0 112 = .ok (.goto 4, 3) := by decide +kernel
theorem dX6_deep0_115 : decode cX6_deep0 115 = .ok (.iload_n 3, 1) := by decide +kernel
theorem dX6_deep0_116 : decode cX6_deep0 116 = .ok (.istore_n 3, 1) := by decide +kernel
theorem dX6_deep0_117 : decode cX6_deep0 117 = .ok (.iinc 4 1, 3) := by decide +kernel
theorem dX6_deep0_120 : decode cX6_deep0 120 = .ok (.goto (-105), 3) := by decide +kernel
theorem dX6_deep0_123 : decode cX6_deep0 123 = .ok (.iload_n 3, 1) := by decide +kernel
theorem dX6_deep0_124 : decode cX6_deep0 124 = .ok (.ireturn, 1) := by decide +kernel
theorem dX6_deep_0 : decode cX6_deep 0 = .ok (.aload_n 0, 1) := by decide +kernel
theorem dX6_deep_1 : decode cX6_deep 1 = .ok (.iconst 0, 1) := by decide +kernel
theorem dX6_deep_2 : decode cX6_deep 2 = .ok (.putfield 72, 3) := by decide +kernel
theorem dX6_deep_5 : decode cX6_deep 5 = .ok (.aload_n 0, 1) := by decide +kernel
theorem dX6_deep_6 : decode cX6_deep 6 = .ok (.iload_n 1, 1) := by decide +kernel
theorem dX6_deep_7 : decode cX6_deep 7 = .ok (.invokevirtual 118, 3) := by decide +kernel
theorem dX6_deep_10 : decode cX6_deep 10 = .ok (.ifCond .eq 11, 3) := by decide +kernel
theorem dX6_deep_13 : decode cX6_deep 13 = .ok (.aload_n 0, 1) := by decide +kernel
theorem dX6_deep_14 : decode cX6_deep 14 = .ok (.iload_n 1, 1) := by decide +kernel
theorem dX6_deep_15 : decode cX6_deep 15 = .ok (.invokevirtual 147, 3) := by decide +kernel
theorem dX6_deep_18 : decode cX6_deep 18 = .ok (.goto 5, 3) := by decide +kernel
theorem dX6_deep_21 : decode cX6_deep 21 = .ok (.bipush (-2), 2) := by decide +kernel
theorem dX6_deep_23 : decode cX6_deep 23 = .ok (.ireturn, 1) := by decide +kernel
theorem dX6_obsolete_0 : decode cX6_obsolete 0 = .ok (.aload_n 0, 1) := by decide +kernel
theorem dX6_obsolete_1 : decode cX6_obsolete 1 = .ok (.iconst 0, 1) := by decide +kernel
theorem dX6_obsolete_2 : decode cX6_obsolete 2 = .ok (.putfield 72, 3) := by decide +kernel
theorem dX6_obsolete_5 : decode cX6_obsolete 5 = .ok (.iload_n 1, 1) := by decide +kernel
theorem dX6_obsolete_6 : decode cX6_obsolete 6 = .ok (.invokestatic 132, 3) := by decide +kernel
theorem dX6_obsolete_9 : decode cX6_obsolete 9 = .ok (.ifCond .ne 6, 3) := by decide +kernel
theorem dX6_obsolete_12 : decode cX6_obsolete 12 = .ok (.bipush (-2), 2) := by decide +kernel
theorem dX6_obsolete_14 : decode cX6_obsolete 14 = .ok (.ireturn, 1) := by decide +kernel
theorem dX6_obsolete_15 : decode cX6_obsolete 15 = .ok (.aload_n 0, 1) := by decide +kernel
theorem dX6_obsolete_16 : decode cX6_obsolete 16 = .ok (.getfield 57, 3) := by decide +kernel
theorem dX6_obsolete_19 : decode cX6_obsolete 19 = .ok (.iload_n 1, 1) := by decide +kernel
theorem dX6_obsolete_20 : decode cX6_obsolete 20 = .ok (.iload_n 2, 1) := by decide +kernel
theorem dX6_obsolete_21 : decode cX6_obsolete 21 = .ok (.bastore, 1) := by decide +kernel
theorem dX6_obsolete_22 : decode cX6_obsolete 22 = .ok (.iconst 1, 1) := by decide +kernel
theorem dX6_obsolete_23 : decode cX6_obsolete 23 = .ok (.ireturn, 1) := by decide +kernel
theorem dX6_migration_0 : decode cX6_migration 0 = .ok (.aload_n 0, 1) := by decide +kernel
theorem dX6_migration_1 : decode cX6_migration 1 = .ok (.iconst 0, 1) := by decide +kernel
theorem dX6_migration_2 : decode cX6_migration 2 = .ok (.putfield 72, 3) := by decide +kernel
theorem dX6_migration_5 : decode cX6_migration 5 = .ok (.iload_n 1, 1) := by decide +kernel
theorem dX6_migration_6 : decode cX6_migration 6 = .ok (.invokestatic 132, 3) := by decide +kernel
theorem dX6_migration_9 : decode cX6_migration 9 = .ok (.ifCond .eq 13, 3) := by decide +kernel
theorem dX6_migration_12 : decode cX6_migration 12 = .ok (.iload_n 2, 1) := by decide +kernel
theorem dX6_migration_13 : decode cX6_migration 13 = .ok (.iconst (-1), 1) := by decide +kernel
theorem dX6_migration_14 : decode cX6_migration 14 = .ok (.bipush 29, 2) := by decide +kernel
theorem dX6_migration_16 : decode cX6_migration 16 = .ok (.invokestatic 79, 3) := by decide +kernel
theorem dX6_migration_19 : decode cX6_migration 19 = .ok (.ifCond .ne 6, 3) := by decide +kernel
theorem dX6_migration_22 : decode cX6_migration 22 = .ok (.bipush (-2), 2) := by decide +kernel
theorem dX6_migration_24 : decode cX6_migration 24 = .ok (.ireturn, 1) := by decide +kernel
theorem dX6_migration_25 : decode cX6_migration 25 = .ok (.iload_n 2, 1) := by decide +kernel
theorem dX6_migration_26 : decode cX6_migration 26 = .ok (.istore_n 3, 1) := by decide +kernel
theorem dX6_migration_27 : decode cX6_migration 27 = .ok (.iload_n 3, 1) := by decide +kernel
theorem dX6_migration_28 : decode cX6_migration 28 = .ok (.ifCond .lt 21, 3) := by decide +kernel
theorem dX6_migration_31 : decode cX6_migration 31 = .ok (.iload_n 3, 1) := by decide +kernel
theorem dX6_migration_32 : decode cX6_migration 32 = .ok (.iload_n 1, 1) := by decide +kernel
theorem dX6_migration_33 : decode cX6_migration 33 = .ok (.if_icmp .ne 6, 3) := by decide +kernel
theorem dX6_migration_36 : decode cX6_migration 36 = .ok (.bipush (-3), 2) := by decide +kernel
theorem dX6_migration_38 : decode cX6_migration 38 = .ok (.ireturn, 1) := by decide +kernel
theorem dX6_migration_39 : decode cX6_migration 39 = .ok (.aload_n 0, 1) := by decide +kernel
theorem dX6_migration_40 : decode cX6_migration 40 = .ok (.getfield 60, 3) := by decide +kernel
theorem dX6_migration_43 : decode cX6_migration 43 = .ok (.iload_n 3, 1) := by decide +kernel
theorem dX6_migration_44 : decode cX6_migration 44 = .ok (.iaload, 1) := by decide +kernel
theorem dX6_migration_45 : decode cX6_migration 45 = .ok (.istore_n 3, 1) := by decide +kernel
theorem dX6_migration_46 : decode cX6_migration 46 = .ok (.goto (-19), 3) := by decide +kernel
theorem dX6_migration_49 : decode cX6_migration 49 = .ok (.aload_n 0, 1) := by decide +kernel
theorem dX6_migration_50 : decode cX6_migration 50 = .ok (.getfield 60, 3) := by decide +kernel
theorem dX6_migration_53 : decode cX6_migration 53 = .ok (.iload_n 1, 1) := by decide +kernel
theorem dX6_migration_54 : decode cX6_migration 54 = .ok (.iload_n 2, 1) := by decide +kernel
theorem dX6_migration_55 : decode cX6_migration 55 = .ok (.iastore, 1) := by decide +kernel
theorem dX6_migration_56 : decode cX6_migration 56 = .ok (.iconst 1, 1) := by decide +kernel
theorem dX6_migration_57 : decode cX6_migration 57 = .ok (.ireturn, 1) := by decide +kernel
theorem dX6_becomes_0 : decode cX6_becomes 0 = .ok (.aload_n 0, 1) := by decide +kernel
theorem dX6_becomes_1 : decode cX6_becomes 1 = .ok (.iconst 0, 1) := by decide +kernel
theorem dX6_becomes_2 : decode cX6_becomes 2 = .ok (.putfield 72, 3) := by decide +kernel
theorem dX6_becomes_5 : decode cX6_becomes 5 = .ok (.iload_n 1, 1) := by decide +kernel
theorem dX6_becomes_6 : decode cX6_becomes 6 = .ok (.invokestatic 132, 3) := by decide +kernel
theorem dX6_becomes_9 : decode cX6_becomes 9 = .ok (.ifCond .ne 6, 3) := by decide +kernel
theorem dX6_becomes_12 : decode cX6_becomes 12 = .ok (.bipush (-2), 2) := by decide +kernel
theorem dX6_becomes_14 : decode cX6_becomes 14 = .ok (.ireturn, 1) := by decide +kernel
theorem dX6_becomes_15 : decode cX6_becomes 15 = .ok (.iload_n 1, 1) := by decide +kernel
theorem dX6_becomes_16 : decode cX6_becomes 16 = .ok (.istore_n 2, 1) := by decide +kernel
theorem dX6_becomes_17 : decode cX6_becomes 17 = .ok (.aload_n 0, 1) := by decide +kernel
theorem dX6_becomes_18 : decode cX6_becomes 18 = .ok (.getfield 57, 3) := by decide +kernel
theorem dX6_becomes_21 : decode cX6_becomes 21 = .ok (.iload_n 2, 1) := by decide +kernel
theorem dX6_becomes_22 : decode cX6_becomes 22 = .ok (.baload, 1) := by decide +kernel
theorem dX6_becomes_23 : decode cX6_becomes 23 = .ok (.ifCond .eq 22, 3) := by decide +kernel
theorem dX6_becomes_26 : decode cX6_becomes 26 = .ok (.aload_n 0, 1) := by decide +kernel
theorem dX6_becomes_27 : decode cX6_becomes 27 = .ok (.getfield 60, 3) := by decide +kernel
theorem dX6_becomes_30 : decode cX6_becomes 30 = .ok (.iload_n 2, 1) := by decide +kernel
theorem dX6_becomes_31 : decode cX6_becomes 31 = .ok (.iaload, 1) := by decide +kernel
theorem dX6_becomes_32 : decode cX6_becomes 32 = .ok (.ifCond .lt 13, 3) := by decide +kernel
theorem dX6_becomes_35 : decode cX6_becomes 35 = .ok (.aload_n 0, 1) := by decide +kernel
theorem dX6_becomes_36 : decode cX6_becomes 36 = .ok (.getfield 60, 3) := by decide +kernel
theorem dX6_becomes_39 : decode cX6_becomes 39 = .ok (.iload_n 2, 1) := by decide +kernel
theorem dX6_becomes_40 : decode cX6_becomes 40 = .ok (.iaload, 1) := by decide +kernel
theorem dX6_becomes_41 : decode cX6_becomes 41 = .ok (.istore_n 2, 1) := by decide +kernel
theorem dX6_becomes_42 : decode cX6_becomes 42 = .ok (.goto (-25), 3) := by decide +kernel
theorem dX6_becomes_45 : decode cX6_becomes 45 = .ok (.iload_n 2, 1) := by decide +kernel
theorem dX6_becomes_46 : decode cX6_becomes 46 = .ok (.iload_n 1, 1) := by decide +kernel
theorem dX6_becomes_47 : decode cX6_becomes 47 = .ok (.if_icmp .ne 7, 3) := by decide +kernel
theorem dX6_becomes_50 : decode cX6_becomes 50 = .ok (.iconst (-1), 1) := by decide +kernel
theorem dX6_becomes_51 : decode cX6_becomes 51 = .ok (.goto 4, 3) := by decide +kernel
theorem dX6_becomes_54 : decode cX6_becomes 54 = .ok (.iload_n 2, 1) := by decide +kernel
theorem dX6_becomes_55 : decode cX6_becomes 55 = .ok (.ireturn, 1) := by decide +kernel
theorem dX6_keep_0 : decode cX6_keep 0 = .ok (.aload_n 0, 1) := by decide +kernel
theorem dX6_keep_1 : decode cX6_keep 1 = .ok (.iconst 0, 1) := by decide +kernel
theorem dX6_keep_2 : decode cX6_keep 2 = .ok (.putfield 72, 3) := by decide +kernel
theorem dX6_keep_5 : decode cX6_keep 5 = .ok (.iconst 0, 1) := by decide +kernel
theorem dX6_keep_6 : decode cX6_keep 6 = .ok (.istore_n 1, 1) := by decide +kernel
theorem dX6_keep_7 : decode cX6_keep 7 = .ok (.iload_n 1, 1) := by decide +kernel
theorem dX6_keep_8 : decode cX6_keep 8 = .ok (.aload_n 0, 1) := by decide +kernel
theorem dX6_keep_9 : decode cX6_keep 9 = .ok (.getfield 76, 3) := by decide +kernel
theorem dX6_keep_12 : decode cX6_keep 12 = .ok (.if_icmp .ge 24, 3) := by decide +kernel
theorem dX6_keep_15 : decode cX6_keep 15 = .ok (.aload_n 0, 1) := by decide +kernel
theorem dX6_keep_16 : decode cX6_keep 16 = .ok (.getfield 66, 3) := by decide +kernel
theorem dX6_keep_19 : decode cX6_keep 19 = .ok (.iload_n 1, 1) := by decide +kernel
theorem dX6_keep_20 : decode cX6_keep 20 = .ok (.aload_n 0, 1) := by decide +kernel
theorem dX6_keep_21 : decode cX6_keep 21 = .ok (.iload_n 1, 1) := by decide +kernel
theorem dX6_keep_22 : decode cX6_keep 22 = .ok (.aload_n 0, 1) := by decide +kernel
theorem dX6_keep_23 : decode cX6_keep 23 = .ok (.getfield 97, 3) := by decide +kernel
theorem dX6_keep_26 : decode cX6_keep 26 = .ok (.invokevirtual 125, 3) := by decide +kernel
theorem dX6_keep_29 : decode cX6_keep 29 = .ok (.iastore, 1) := by decide +kernel
theorem dX6_keep_30 : decode cX6_keep 30 = .ok (.iinc 1 1, 3) := by decide +kernel
theorem dX6_keep_33 : decode cX6_keep 33 = .ok (.goto (-26), 3) := by decide +kernel
theorem dX6_keep_36 : decode cX6_keep 36 = .ok (.aload_n 0, 1) := by decide +kernel
theorem dX6_keep_37 : decode cX6_keep 37 = .ok (.getfield 97, 3) := by decide +kernel
theorem dX6_keep_40 : decode cX6_keep 40 = .ok (.ireturn, 1) := by decide +kernel
theorem dX6_changed_0 : decode cX6_changed 0 = .ok (.aload_n 0, 1) := by decide +kernel
theorem dX6_changed_1 : decode cX6_changed 1 = .ok (.iconst 0, 1) := by decide +kernel
theorem dX6_changed_2 : decode cX6_changed 2 = .ok (.putfield 72, 3) := by decide +kernel
theorem dX6_changed_5 : decode cX6_changed 5 = .ok (.iconst 0, 1) := by decide +kernel
theorem dX6_changed_6 : decode cX6_changed 6 = .ok (.istore_n 2, 1) := by decide +kernel
theorem dX6_changed_7 : decode cX6_changed 7 = .ok (.iconst 0, 1) := by decide +kernel
theorem dX6_changed_8 : decode cX6_changed 8 = .ok (.istore_n 3, 1) := by decide +kernel
theorem dX6_changed_9 : decode cX6_changed 9 = .ok (.iload_n 3, 1) := by decide +kernel
theorem dX6_changed_10 : decode cX6_changed 10 = .ok (.aload_n 0, 1) := by decide +kernel
theorem dX6_changed_11 : decode cX6_changed 11 = .ok (.getfield 76, 3) := by decide +kernel
theorem dX6_changed_14 : decode cX6_changed 14 = .ok (.if_icmp .ge 40, 3) := by decide +kernel
theorem dX6_changed_17 : decode cX6_changed 17 = .ok (.aload_n 0, 1) := by decide +kernel
theorem dX6_changed_18 : decode cX6_changed 18 = .ok (.iload_n 3, 1) := by decide +kernel
theorem dX6_changed_19 : decode cX6_changed 19 = .ok (.aload_n 0, 1) := by decide +kernel
theorem dX6_changed_20 : decode cX6_changed 20 = .ok (.getfield 97, 3) := by decide +kernel
theorem dX6_changed_23 : decode cX6_changed 23 = .ok (.invokevirtual 125, 3) := by decide +kernel
theorem dX6_changed_26 : decode cX6_changed 26 = .ok (.aload_n 0, 1) := by decide +kernel
theorem dX6_changed_27 : decode cX6_changed 27 = .ok (.getfield 66, 3) := by decide +kernel
theorem dX6_changed_30 : decode cX6_changed 30 = .ok (.iload_n 3, 1) := by decide +kernel
theorem dX6_changed_31 : decode cX6_changed 31 = .ok (.iaload, 1) := by decide +kernel
theorem dX6_changed_32 : decode cX6_changed 32 = .ok (.if_icmp .ne 6, 3) := by decide +kernel
theorem dX6_changed_35 : decode cX6_changed 35 = .ok (.goto 13, 3) := by decide +kernel
theorem dX6_changed_38 : decode cX6_changed 38 = .ok (.iload_n 2, 1) := by decide +kernel
theorem dX6_changed_39 : decode cX6_changed 39 = .ok (.iload_n 1, 1) := by decide +kernel
theorem dX6_changed_40 : decode cX6_changed 40 = .ok (.if_icmp .ne 5, 3) := by decide +kernel
theorem dX6_changed_43 : decode cX6_changed 43 = .ok (.iload_n 3, 1) := by decide +kernel
theorem dX6_changed_44 : decode cX6_changed 44 = .ok (.ireturn, 1) := by decide +kernel
theorem dX6_changed_45 : decode cX6_changed 45 = .ok (.iinc 2 1, 3) := by decide +kernel
theorem dX6_changed_48 : decode cX6_changed 48 = .ok (.iinc 3 1, 3) := by decide +kernel
theorem dX6_changed_51 : decode cX6_changed 51 = .ok (.goto (-42), 3) := by decide +kernel
theorem dX6_changed_54 : decode cX6_changed 54 = .ok (.iconst (-1), 1) := by decide +kernel
theorem dX6_changed_55 : decode cX6_changed 55 = .ok (.ireturn, 1) := by decide +kernel
theorem dX6_count_0 : decode cX6_count 0 = .ok (.aload_n 0, 1) := by decide +kernel
theorem dX6_count_1 : decode cX6_count 1 = .ok (.iconst 0, 1) := by decide +kernel
theorem dX6_count_2 : decode cX6_count 2 = .ok (.putfield 72, 3) := by decide +kernel
theorem dX6_count_5 : decode cX6_count 5 = .ok (.iload_n 1, 1) := by decide +kernel
theorem dX6_count_6 : decode cX6_count 6 = .ok (.invokestatic 132, 3) := by decide +kernel
theorem dX6_count_9 : decode cX6_count 9 = .ok (.ifCond .ne 14, 3) := by decide +kernel
theorem dX6_count_12 : decode cX6_count 12 = .ok (.iload_n 1, 1) := by decide +kernel
theorem dX6_count_13 : decode cX6_count 13 = .ok (.iconst (-1), 1) := by decide +kernel
theorem dX6_count_14 : decode cX6_count 14 = .ok (.if_icmp .eq 9, 3) := by decide +kernel
theorem dX6_count_17 : decode cX6_count 17 = .ok (.iload_n 1, 1) := by decide +kernel
theorem dX6_count_18 : decode cX6_count 18 = .ok (.bipush (-5), 2) := by decide +kernel
theorem dX6_count_20 : decode cX6_count 20 = .ok (.if_icmp .ne 15, 3) := by decide +kernel
theorem dX6_count_23 : decode cX6_count 23 = .ok (.iload_n 2, 1) := by decide +kernel
theorem dX6_count_24 : decode cX6_count 24 = .ok (.iconst 0, 1) := by decide +kernel
theorem dX6_count_25 : decode cX6_count 25 = .ok (.aload_n 0, 1) := by decide +kernel
theorem dX6_count_26 : decode cX6_count 26 = .ok (.getfield 97, 3) := by decide +kernel
theorem dX6_count_29 : decode cX6_count 29 = .ok (.invokestatic 79, 3) := by decide +kernel
theorem dX6_count_32 : decode cX6_count 32 = .ok (.ifCond .ne 6, 3) := by decide +kernel
theorem dX6_count_35 : decode cX6_count 35 = .ok (.bipush (-2), 2) := by decide +kernel
theorem dX6_count_37 : decode cX6_count 37 = .ok (.ireturn, 1) := by decide +kernel
theorem dX6_count_38 : decode cX6_count 38 = .ok (.iconst 0, 1) := by decide +kernel
theorem dX6_count_39 : decode cX6_count 39 = .ok (.istore_n 3, 1) := by decide +kernel
theorem dX6_count_40 : decode cX6_count 40 = .ok (.iconst 0, 1) := by decide +kernel
theorem dX6_count_41 : decode cX6_count 41 = .ok (.istore 4, 2) := by decide +kernel
theorem dX6_count_43 : decode cX6_count 43 = .ok (.iload 4, 2) := by decide +kernel
theorem dX6_count_45 : decode cX6_count 45 = .ok (.aload_n 0, 1) := by decide +kernel
theorem dX6_count_46 : decode cX6_count 46 = .ok (.getfield 76, 3) := by decide +kernel
theorem dX6_count_49 : decode cX6_count 49 = .ok (.if_icmp .ge 28, 3) := by decide +kernel
theorem dX6_count_52 : decode cX6_count 52 = .ok (.iload_n 3, 1) := by decide +kernel
theorem dX6_count_53 : decode cX6_count 53 = .ok (.aload_n 0, 1) := by decide +kernel
theorem dX6_count_54 : decode cX6_count 54 = .ok (.iload 4, 2) := by decide +kernel
theorem dX6_count_56 : decode cX6_count 56 = .ok (.iload_n 2, 1) := by decide +kernel
theorem dX6_count_57 : decode cX6_count 57 = .ok (.invokevirtual 125, 3) := by decide +kernel
theorem dX6_count_60 : decode cX6_count 60 = .ok (.iload_n 1, 1) := by decide +kernel
theorem dX6_count_61 : decode cX6_count 61 = .ok (.if_icmp .ne 7, 3) := by decide +kernel
theorem dX6_count_64 : decode cX6_count 64 = .ok (.iconst 1, 1) := by decide +kernel
theorem dX6_count_65 : decode cX6_count 65 = .ok (.goto 4, 3) := by decide +kernel
theorem dX6_count_68 : decode cX6_count 68 = .ok (.iconst 0, 1) := by decide +kernel
theorem dX6_count_69 : decode cX6_count 69 = .ok (.iadd, 1) := by decide +kernel
theorem dX6_count_70 : decode cX6_count 70 = .ok (.istore_n 3, 1) := by decide +kernel
theorem dX6_count_71 : decode cX6_count 71 = .ok (.iinc 4 1, 3) := by decide +kernel
theorem dX6_count_74 : decode cX6_count 74 = .ok (.goto (-31), 3) := by decide +kernel
theorem dX6_count_77 : decode cX6_count 77 = .ok (.iload_n 3, 1) := by decide +kernel
theorem dX6_count_78 : decode cX6_count 78 = .ok (.ireturn, 1) := by decide +kernel
theorem dX6_pattern_0 : decode cX6_pattern 0 = .ok (.aload_n 0, 1) := by decide +kernel
theorem dX6_pattern_1 : decode cX6_pattern 1 = .ok (.iconst 0, 1) := by decide +kernel
theorem dX6_pattern_2 : decode cX6_pattern 2 = .ok (.putfield 72, 3) := by decide +kernel
theorem dX6_pattern_5 : decode cX6_pattern 5 = .ok (.iload_n 1, 1) := by decide +kernel
theorem dX6_pattern_6 : decode cX6_pattern 6 = .ok (.iconst 0, 1) := by decide +kernel
theorem dX6_pattern_7 : decode cX6_pattern 7 = .ok (.aload_n 0, 1) := by decide +kernel
theorem dX6_pattern_8 : decode cX6_pattern 8 = .ok (.getfield 97, 3) := by decide +kernel
theorem dX6_pattern_11 : decode cX6_pattern 11 = .ok (.iconst 1, 1) := by decide +kernel
theorem dX6_pattern_12 : decode cX6_pattern 12 = .ok (.isub, 1) := by decide +kernel
theorem dX6_pattern_13 : decode cX6_pattern 13 = .ok (.invokestatic 79, 3) := by decide +kernel
theorem dX6_pattern_16 : decode cX6_pattern 16 = .ok (.ifCond .ne 5, 3) := by decide +kernel
theorem dX6_pattern_19 : decode cX6_pattern 19 = .ok (.iconst (-1), 1) := by decide +kernel
theorem dX6_pattern_20 : decode cX6_pattern 20 = .ok (.ireturn, 1) := by decide +kernel
theorem dX6_pattern_21 : decode cX6_pattern 21 = .ok (.aload_n 0, 1) := by decide +kernel
theorem dX6_pattern_22 : decode cX6_pattern 22 = .ok (.iload_n 2, 1) := by decide +kernel
theorem dX6_pattern_23 : decode cX6_pattern 23 = .ok (.iconst 0, 1) := by decide +kernel
theorem dX6_pattern_24 : decode cX6_pattern 24 = .ok (.aload_n 0, 1) := by decide +kernel
theorem dX6_pattern_25 : decode cX6_pattern 25 = .ok (.getfield 27, 3) := by decide +kernel
theorem dX6_pattern_28 : decode cX6_pattern 28 = .ok (.iload_n 1, 1) := by decide +kernel
theorem dX6_pattern_29 : decode cX6_pattern 29 = .ok (.iaload, 1) := by decide +kernel
theorem dX6_pattern_30 : decode cX6_pattern 30 = .ok (.iconst 1, 1) := by decide +kernel
theorem dX6_pattern_31 : decode cX6_pattern 31 = .ok (.isub, 1) := by decide +kernel
theorem dX6_pattern_32 : decode cX6_pattern 32 = .ok (.invokestatic 79, 3) := by decide +kernel
theorem dX6_pattern_35 : decode cX6_pattern 35 = .ok (.ifCond .eq 7, 3) := by decide +kernel
theorem dX6_pattern_38 : decode cX6_pattern 38 = .ok (.iconst 0, 1) := by decide +kernel
theorem dX6_pattern_39 : decode cX6_pattern 39 = .ok (.goto 4, 3) := by decide +kernel
theorem dX6_pattern_42 : decode cX6_pattern 42 = .ok (.iconst 1, 1) := by decide +kernel
theorem dX6_pattern_43 : decode cX6_pattern 43 = .ok (.putfield 72, 3) := by decide +kernel
theorem dX6_pattern_46 : decode cX6_pattern 46 = .ok (.aload_n 0, 1) := by decide +kernel
theorem dX6_pattern_47 : decode cX6_pattern 47 = .ok (.getfield 72, 3) := by decide +kernel
theorem dX6_pattern_50 : decode cX6_pattern 50 = .ok (.ifCond .le 7, 3) := by decide +kernel
theorem dX6_pattern_53 : decode cX6_pattern 53 = .ok (.iconst 0, 1) := by decide +kernel
theorem dX6_pattern_54 : decode cX6_pattern 54 = .ok (.goto 14, 3) := by decide +kernel
theorem dX6_pattern_57 : decode cX6_pattern 57 = .ok (.aload_n 0, 1) := by decide +kernel
theorem dX6_pattern_58 : decode cX6_pattern 58 = .ok (.getfield 30, 3) := by decide +kernel
theorem dX6_pattern_61 : decode cX6_pattern 61 = .ok (.bipush 12, 2) := by decide +kernel
theorem dX6_pattern_63 : decode cX6_pattern 63 = .ok (.iload_n 1, 1) := by decide +kernel
theorem dX6_pattern_64 : decode cX6_pattern 64 = .ok (.imul, 1) := by decide +kernel
theorem dX6_pattern_65 : decode cX6_pattern 65 = .ok (.iload_n 2, 1) := by decide +kernel
theorem dX6_pattern_66 : decode cX6_pattern 66 = .ok (.iadd, 1) := by decide +kernel
theorem dX6_pattern_67 : decode cX6_pattern 67 = .ok (.iaload, 1) := by decide +kernel
theorem dX6_pattern_68 : decode cX6_pattern 68 = .ok (.ireturn, 1) := by decide +kernel
