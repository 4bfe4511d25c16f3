theorem dX10_init_0 : decode cX10_init 0 = .ok (.aload_n 0, 1) := by decide +kernel
theorem dX10_init_1 : decode cX10_init 1 = .ok (.invokespecial 1, 3) := by decide +kernel
theorem dX10_init_4 : decode cX10_init 4 = .ok (.aload_n 0, 1) := by decide +kernel
theorem dX10_init_5 : decode cX10_init 5 = .ok (.sipush 300, 3) := by decide +kernel
theorem dX10_init_8 : decode cX10_init 8 = .ok (.newarray .int, 2) := by decide +kernel
theorem dX10_init_10 : decode cX10_init 10 = .ok (.putfield 7, 3) := by decide +kernel
theorem dX10_init_13 : decode cX10_init 13 = .ok (.aload_n 0, 1) := by decide +kernel
theorem dX10_init_14 : decode cX10_init 14 = .ok (.iconst 2, 1) := by decide +kernel
theorem dX10_init_15 : decode cX10_init 15 = .ok (.newarray .int, 2) := by decide +kernel
theorem dX10_init_17 : decode cX10_init 17 = .ok (.putfield 13, 3) := by decide +kernel
theorem dX10_init_20 : decode cX10_init 20 = .ok (.aload_n 0, 1) := by decide +kernel
theorem dX10_init_21 : decode cX10_init 21 = .ok (.bipush 6, 2) := by decide +kernel
theorem dX10_init_23 : decode cX10_init 23 = .ok (.newarray .int, 2) := by decide +kernel
theorem dX10_init_25 : decode cX10_init 25 = .ok (.putfield 16, 3) := by decide +kernel
theorem dX10_init_28 : decode cX10_init 28 = .ok (.aload_n 0, 1) := by decide +kernel
theorem dX10_init_29 : decode cX10_init 29 = .ok (.iconst 2, 1) := by decide +kernel
theorem dX10_init_30 : decode cX10_init 30 = .ok (.newarray .int, 2) := by decide +kernel
theorem dX10_init_32 : decode cX10_init 32 = .ok (.putfield 19, 3) := by decide +kernel
theorem dX10_init_35 : decode cX10_init 35 = .ok (.aload_n 0, 1) := by decide +kernel
theorem dX10_init_36 : decode cX10_init 36 = .ok (.bipush 10, 2) := by decide +kernel
theorem dX10_init_38 : decode cX10_init 38 = .ok (.newarray .int, 2) := by decide +kernel
theorem dX10_init_40 : decode cX10_init 40 = .ok (.putfield 22, 3) := by decide +kernel
theorem dX10_init_43 : decode cX10_init 43 = .ok (.aload_n 0, 1) := by decide +kernel
theorem dX10_init_44 : decode cX10_init 44 = .ok (.bipush 30, 2) := by decide +kernel
theorem dX10_init_46 : decode cX10_init 46 = .ok (.newarray .int, 2) := by decide +kernel
theorem dX10_init_48 : decode cX10_init 48 = .ok (.putfield 25, 3) := by decide +kernel
theorem dX10_init_51 : decode cX10_init 51 = .ok (.aload_n 0, 1) := by decide +kernel
theorem dX10_init_52 : decode cX10_init 52 = .ok (.bipush 20, 2) := by decide +kernel
theorem dX10_init_54 : decode cX10_init 54 = .ok (.newarray .int, 2) := by decide +kernel
theorem dX10_init_56 : decode cX10_init 56 = .ok (.putfield 28, 3) := by decide +kernel
theorem dX10_init_59 : decode cX10_init 59 = .ok (.aload_n 0, 1) := by decide +kernel
theorem dX10_init_60 : decode cX10_init 60 = .ok (.iconst 4, 1) := by decide +kernel
theorem dX10_init_61 : decode cX10_init 61 = .ok (.newarray .int, 2) := by decide +kernel
theorem dX10_init_63 : decode cX10_init 63 = .ok (.putfield 31, 3) := by decide +kernel
theorem dX10_init_66 : decode cX10_init 66 = .ok (.aload_n 0, 1) := by decide +kernel
theorem dX10_init_67 : decode cX10_init 67 = .ok (.iconst 4, 1) := by decide +kernel
theorem dX10_init_68 : decode cX10_init 68 = .ok (.newarray .int, 2) := by decide +kernel
theorem dX10_init_70 : decode cX10_init 70 = .ok (.putfield 34, 3) := by decide +kernel
theorem dX10_init_73 : decode cX10_init 73 = .ok (.aload_n 0, 1) := by decide +kernel
theorem dX10_init_74 : decode cX10_init 74 = .ok (.bipush 16, 2) := by decide +kernel
theorem dX10_init_76 : decode cX10_init 76 = .ok (.newarray .int, 2) := by decide +kernel
theorem dX10_init_78 : decode cX10_init 78 = .ok (.putfield 37, 3) := by decide +kernel
theorem dX10_init_81 : decode cX10_init 81 = .ok (.aload_n 0, 1) := by decide +kernel
theorem dX10_init_82 : decode cX10_init 82 = .ok (.bipush 6, 2) := by decide +kernel
theorem dX10_init_84 : decode cX10_init 84 = .ok (.newarray .int, 2) := by decide +kernel
theorem dX10_init_86 : decode cX10_init 86 = .ok (.putfield 40, 3) := by decide +kernel
theorem dX10_init_89 : decode cX10_init 89 = .ok (.aload_n 0, 1) := by decide +kernel
theorem dX10_init_90 : decode cX10_init 90 = .ok (.bipush 6, 2) := by decide +kernel
theorem dX10_init_92 : decode cX10_init 92 = .ok (.newarray .int, 2) := by decide +kernel
theorem dX10_init_94 : decode cX10_init 94 = .ok (.putfield 43, 3) := by decide +kernel
theorem dX10_init_97 : decode cX10_init 97 = .ok (.aload_n 0, 1) := by decide +kernel
theorem dX10_init_98 : decode cX10_init 98 = .ok (.iconst 3, 1) := by decide +kernel
theorem dX10_init_99 : decode cX10_init 99 = .ok (.newarray .int, 2) := by decide +kernel
theorem dX10_init_101 : decode cX10_init 101 = .ok (.putfield 46, 3) := by decide +kernel
theorem dX10_init_104 : decode cX10_init 104 = .ok (.aload_n 0, 1) := by decide +kernel
theorem dX10_init_105 : decode cX10_init 105 = .ok (.iconst 5, 1) := by decide +kernel
theorem dX10_init_106 : decode cX10_init 106 = .ok (.newarray .int, 2) := by decide +kernel
theorem dX10_init_108 : decode cX10_init 108 = .ok (.putfield 49, 3) := by decide +kernel
theorem dX10_init_111 : decode cX10_init 111 = .ok (.aload_n 0, 1) := by decide +kernel
theorem dX10_init_112 : decode cX10_init 112 = .ok (.iconst 5, 1) := by decide +kernel
theorem dX10_init_113 : decode cX10_init 113 = .ok (.newarray .int, 2) := by decide +kernel
theorem dX10_init_115 : decode cX10_init 115 = .ok (.putfield 52, 3) := by decide +kernel
theorem dX10_init_118 : decode cX10_init 118 = .ok (.aload_n 0, 1) := by decide +kernel
theorem dX10_init_119 : decode cX10_init 119 = .ok (.bipush 100, 2) := by decide +kernel
theorem dX10_init_121 : decode cX10_init 121 = .ok (.newarray .int, 2) := by decide +kernel
theorem dX10_init_123 : decode cX10_init 123 = .ok (.putfield 55, 3) := by decide +kernel
theorem dX10_init_126 : decode cX10_init 126 = .ok (.aload_n 0, 1) := by decide +kernel
theorem dX10_init_127 : decode cX10_init 127 = .ok (.bipush 100, 2) := by decide +kernel
theorem dX10_init_129 : decode cX10_init 129 = .ok (.newarray .int, 2) := by decide +kernel
theorem dX10_init_131 : decode cX10_init 131 = .ok (.putfield 58, 3) := by decide +kernel
theorem dX10_init_134 : decode cX10_init 134 = .ok (.aload_n 0, 1) := by decide +kernel
theorem dX10_init_135 : decode cX10_init 135 = .ok (.iconst 3, 1) := by decide +kernel
theorem dX10_init_136 : decode cX10_init 136 = .ok (.newarray .int, 2) := by decide +kernel
theorem dX10_init_138 : decode cX10_init 138 = .ok (.putfield 61, 3) := by decide +kernel
theorem dX10_init_141 : decode cX10_init 141 = .ok (.aload_n 0, 1) := by decide +kernel
theorem dX10_init_142 : decode cX10_init 142 = .ok (.iconst 5, 1) := by decide +kernel
theorem dX10_init_143 : decode cX10_init 143 = .ok (.newarray .int, 2) := by decide +kernel
theorem dX10_init_145 : decode cX10_init 145 = .ok (.putfield 64, 3) := by decide +kernel
theorem dX10_init_148 : decode cX10_init 148 = .ok (.aload_n 0, 1) := by decide +kernel
theorem dX10_init_149 : decode cX10_init 149 = .ok (.iconst 3, 1) := by decide +kernel
theorem dX10_init_150 : decode cX10_init 150 = .ok (.newarray .int, 2) := by decide +kernel
theorem dX10_init_152 : decode cX10_init 152 = .ok (.putfield 67, 3) := by decide +kernel
theorem dX10_init_155 : decode cX10_init 155 = .ok (.aload_n 0, 1) := by decide +kernel
theorem dX10_init_156 : decode cX10_init 156 = .ok (.bipush 15, 2) := by decide +kernel
theorem dX10_init_158 : decode cX10_init 158 = .ok (.newarray .int, 2) := by decide +kernel
theorem dX10_init_160 : decode cX10_init 160 = .ok (.putfield 70, 3) := by decide +kernel
theorem dX10_init_163 : decode cX10_init 163 = .ok (.aload_n 0, 1) := by decide +kernel
theorem dX10_init_164 : decode cX10_init 164 = .ok (.iconst 0, 1) := by decide +kernel
theorem dX10_init_165 : decode cX10_init 165 = .ok (.invokevirtual 73, 3) := by decide +kernel
theorem dX10_init_168 : decode cX10_init 168 = .ok (.aload_n 0, 1) := by decide +kernel
theorem dX10_init_169 : decode cX10_init 169 = .ok (.getfield 13, 3) := by decide +kernel
theorem dX10_init_172 : decode cX10_init 172 = .ok (.iconst 0, 1) := by decide +kernel
theorem dX10_init_173 : decode cX10_init 173 = .ok (.iconst 1, 1) := by decide +kernel
theorem dX10_init_174 : decode cX10_init 174 = .ok (.iastore, 1) := by decide +kernel
theorem dX10_init_175 : decode cX10_init 175 = .ok (.aload_n 0, 1) := by decide +kernel
theorem dX10_init_176 : decode cX10_init 176 = .ok (.getfield 16, 3) := by decide +kernel
theorem dX10_init_179 : decode cX10_init 179 = .ok (.iconst 0, 1) := by decide +kernel
theorem dX10_init_180 : decode cX10_init 180 = .ok (.iconst 1, 1) := by decide +kernel
theorem dX10_init_181 : decode cX10_init 181 = .ok (.iastore, 1) := by decide +kernel
theorem dX10_init_182 : decode cX10_init 182 = .ok (.aload_n 0, 1) := by decide +kernel
theorem dX10_init_183 : decode cX10_init 183 = .ok (.getfield 19, 3) := by decide +kernel
theorem dX10_init_186 : decode cX10_init 186 = .ok (.iconst 0, 1) := by decide +kernel
theorem dX10_init_187 : decode cX10_init 187 = .ok (.iconst 2, 1) := by decide +kernel
theorem dX10_init_188 : decode cX10_init 188 = .ok (.iastore, 1) := by decide +kernel
theorem dX10_init_189 : decode cX10_init 189 = .ok (.aload_n 0, 1) := by decide +kernel
theorem dX10_init_190 : decode cX10_init 190 = .ok (.getfield 28, 3) := by decide +kernel
theorem dX10_init_193 : decode cX10_init 193 = .ok (.iconst 0, 1) := by decide +kernel
theorem dX10_init_194 : decode cX10_init 194 = .ok (.bipush 8, 2) := by decide +kernel
theorem dX10_init_196 : decode cX10_init 196 = .ok (.iastore, 1) := by decide +kernel
theorem dX10_init_197 : decode cX10_init 197 = .ok (.aload_n 0, 1) := by decide +kernel
theorem dX10_init_198 : decode cX10_init 198 = .ok (.getfield 28, 3) := by decide +kernel
theorem dX10_init_201 : decode cX10_init 201 = .ok (.iconst 1, 1) := by decide +kernel
theorem dX10_init_202 : decode cX10_init 202 = .ok (.iconst 5, 1) := by decide +kernel
theorem dX10_init_203 : decode cX10_init 203 = .ok (.iastore, 1) := by decide +kernel
theorem dX10_init_204 : decode cX10_init 204 = .ok (.aload_n 0, 1) := by decide +kernel
theorem dX10_init_205 : decode cX10_init 205 = .ok (.getfield 25, 3) := by decide +kernel
theorem dX10_init_208 : decode cX10_init 208 = .ok (.iconst 0, 1) := by decide +kernel
theorem dX10_init_209 : decode cX10_init 209 = .ok (.bipush 9, 2) := by decide +kernel
theorem dX10_init_211 : decode cX10_init 211 = .ok (.iastore, 1) := by decide +kernel
theorem dX10_init_212 : decode cX10_init 212 = .ok (.aload_n 0, 1) := by decide +kernel
theorem dX10_init_213 : decode cX10_init 213 = .ok (.getfield 25, 3) := by decide +kernel
theorem dX10_init_216 : decode cX10_init 216 = .ok (.iconst 3, 1) := by decide +kernel
theorem dX10_init_217 : decode cX10_init 217 = .ok (.bipush 6, 2) := by decide +kernel
theorem dX10_init_219 : decode cX10_init 219 = .ok (.iastore, 1) := by decide +kernel
theorem dX10_init_220 : decode cX10_init 220 = .ok (.return_, 1) := by decide +kernel
theorem dX10_in_0 : decode cX10_in 0 = .ok (.lload_n 0, 1) := by decide +kernel
theorem dX10_in_1 : decode cX10_in 1 = .ok (.lload_n 2, 1) := by decide +kernel
theorem dX10_in_2 : decode cX10_in 2 = .ok (.lcmp, 1) := by decide +kernel
theorem dX10_in_3 : decode cX10_in 3 = .ok (.ifCond .lt 14, 3) := by decide +kernel
theorem dX10_in_6 : decode cX10_in 6 = .ok (.lload_n 0, 1) := by decide +kernel
theorem dX10_in_7 : decode cX10_in 7 = .ok (.lload 4, 2) := by decide +kernel
theorem dX10_in_9 : decode cX10_in 9 = .ok (.lcmp, 1) := by decide +kernel
theorem dX10_in_10 : decode cX10_in 10 = .ok (.ifCond .gt 7, 3) := by decide +kernel
theorem dX10_in_13 : decode cX10_in 13 = .ok (.iconst 1, 1) := by decide +kernel
theorem dX10_in_14 : decode cX10_in 14 = .ok (.goto 4, 3) := by decide +kernel
theorem dX10_in_17 : decode cX10_in 17 = .ok (.iconst 0, 1) := by decide +kernel
theorem dX10_in_18 : decode cX10_in 18 = .ok (.ireturn, 1) := by decide +kernel
theorem dX10_has_0 : decode cX10_has 0 = .ok (.iload_n 0, 1) := by decide +kernel
theorem dX10_has_1 : decode cX10_has 1 = .ok (.iload_n 1, 1) := by decide +kernel
theorem dX10_has_2 : decode cX10_has 2 = .ok (.ishr, 1) := by decide +kernel
theorem dX10_has_3 : decode cX10_has 3 = .ok (.iconst 1, 1) := by decide +kernel
theorem dX10_has_4 : decode cX10_has 4 = .ok (.iand, 1) := by decide +kernel
theorem dX10_has_5 : decode cX10_has 5 = .ok (.iconst 1, 1) := by decide +kernel
theorem dX10_has_6 : decode cX10_has 6 = .ok (.if_icmp .ne 7, 3) := by decide +kernel
theorem dX10_has_9 : decode cX10_has 9 = .ok (.iconst 1, 1) := by decide +kernel
theorem dX10_has_10 : decode cX10_has 10 = .ok (.goto 4, 3) := by decide +kernel
theorem dX10_has_13 : decode cX10_has 13 = .ok (.iconst 0, 1) := by decide +kernel
theorem dX10_has_14 : decode cX10_has 14 = .ok (.ireturn, 1) := by decide +kernel
theorem dX10_noFair_0 : decode cX10_noFair 0 = .ok (.aload_n 0, 1) := by decide +kernel
theorem dX10_noFair_1 : decode cX10_noFair 1 = .ok (.getfield 13, 3) := by decide +kernel
theorem dX10_noFair_4 : decode cX10_noFair 4 = .ok (.iload_n 1, 1) := by decide +kernel
theorem dX10_noFair_5 : decode cX10_noFair 5 = .ok (.iconst 0, 1) := by decide +kernel
theorem dX10_noFair_6 : decode cX10_noFair 6 = .ok (.iastore, 1) := by decide +kernel
theorem dX10_noFair_7 : decode cX10_noFair 7 = .ok (.aload_n 0, 1) := by decide +kernel
theorem dX10_noFair_8 : decode cX10_noFair 8 = .ok (.getfield 19, 3) := by decide +kernel
theorem dX10_noFair_11 : decode cX10_noFair 11 = .ok (.iload_n 1, 1) := by decide +kernel
theorem dX10_noFair_12 : decode cX10_noFair 12 = .ok (.iconst 0, 1) := by decide +kernel
theorem dX10_noFair_13 : decode cX10_noFair 13 = .ok (.iastore, 1) := by decide +kernel
theorem dX10_noFair_14 : decode cX10_noFair 14 = .ok (.aload_n 0, 1) := by decide +kernel
theorem dX10_noFair_15 : decode cX10_noFair 15 = .ok (.getfield 31, 3) := by decide +kernel
theorem dX10_noFair_18 : decode cX10_noFair 18 = .ok (.iload_n 1, 1) := by decide +kernel
theorem dX10_noFair_19 : decode cX10_noFair 19 = .ok (.iconst 0, 1) := by decide +kernel
theorem dX10_noFair_20 : decode cX10_noFair 20 = .ok (.iastore, 1) := by decide +kernel
theorem dX10_noFair_21 : decode cX10_noFair 21 = .ok (.aload_n 0, 1) := by decide +kernel
theorem dX10_noFair_22 : decode cX10_noFair 22 = .ok (.getfield 34, 3) := by decide +kernel
theorem dX10_noFair_25 : decode cX10_noFair 25 = .ok (.iload_n 1, 1) := by decide +kernel
theorem dX10_noFair_26 : decode cX10_noFair 26 = .ok (.iconst 1, 1) := by decide +kernel
theorem dX10_noFair_27 : decode cX10_noFair 27 = .ok (.iastore, 1) := by decide +kernel
theorem dX10_noFair_28 : decode cX10_noFair 28 = .ok (.iconst 0, 1) := by decide +kernel
theorem dX10_noFair_29 : decode cX10_noFair 29 = .ok (.istore_n 2, 1) := by decide +kernel
theorem dX10_noFair_30 : decode cX10_noFair 30 = .ok (.iload_n 2, 1) := by decide +kernel
theorem dX10_noFair_31 : decode cX10_noFair 31 = .ok (.bipush 15, 2) := by decide +kernel
theorem dX10_noFair_33 : decode cX10_noFair 33 = .ok (.if_icmp .ge 21, 3) := by decide +kernel
theorem dX10_noFair_36 : decode cX10_noFair 36 = .ok (.aload_n 0, 1) := by decide +kernel
theorem dX10_noFair_37 : decode cX10_noFair 37 = .ok (.getfield 25, 3) := by decide +kernel
theorem dX10_noFair_40 : decode cX10_noFair 40 = .ok (.bipush 15, 2) := by decide +kernel
theorem dX10_noFair_42 : decode cX10_noFair 42 = .ok (.iload_n 1, 1) := by decide +kernel
theorem dX10_noFair_43 : decode cX10_noFair 43 = .ok (.imul, 1) := by decide +kernel
theorem dX10_noFair_44 : decode cX10_noFair 44 = .ok (.iload_n 2, 1) := by decide +kernel
theorem dX10_noFair_45 : decode cX10_noFair 45 = .ok (.iadd, 1) := by decide +kernel
theorem dX10_noFair_46 : decode cX10_noFair 46 = .ok (.iconst 0, 1) := by decide +kernel
theorem dX10_noFair_47 : decode cX10_noFair 47 = .ok (.iastore, 1) := by decide +kernel
theorem dX10_noFair_48 : decode cX10_noFair 48 = .ok (.iinc 2 1, 3) := by decide +kernel
theorem dX10_noFair_51 : decode cX10_noFair 51 = .ok (.goto (-21), 3) := by decide +kernel
theorem dX10_noFair_54 : decode cX10_noFair 54 = .ok (.return_, 1) := by decide +kernel
theorem dX10_write_0 : decode cX10_write 0 = .ok (.iload_n 1, 1) := by decide +kernel
theorem dX10_write_1 : decode cX10_write 1 = .ok (.i2l, 1) := by decide +kernel
theorem dX10_write_2 : decode cX10_write 2 = .ok (.lconst 1, 1) := by decide +kernel
theorem dX10_write_3 : decode cX10_write 3 = .ok (.ldc2_w 77, 3) := by decide +kernel
theorem dX10_write_6 : decode cX10_write 6 = .ok (.invokestatic 79, 3) := by decide +kernel
theorem dX10_write_9 : decode cX10_write 9 = .ok (.ifCond .ne 5, 3) := by decide +kernel
theorem dX10_write_12 : decode cX10_write 12 = .ok (.iconst (-1), 1) := by decide +kernel
theorem dX10_write_13 : decode cX10_write 13 = .ok (.ireturn, 1) := by decide +kernel
theorem dX10_write_14 : decode cX10_write 14 = .ok (.aload_n 0, 1) := by decide +kernel
theorem dX10_write_15 : decode cX10_write 15 = .ok (.getfield 83, 3) := by decide +kernel
theorem dX10_write_18 : decode cX10_write 18 = .ok (.iload_n 1, 1) := by decide +kernel
theorem dX10_write_19 : decode cX10_write 19 = .ok (.iadd, 1) := by decide +kernel
theorem dX10_write_20 : decode cX10_write 20 = .ok (.sipush 300, 3) := by decide +kernel
theorem dX10_write_23 : decode cX10_write 23 = .ok (.if_icmp .le 6, 3) := by decide +kernel
theorem dX10_write_26 : decode cX10_write 26 = .ok (.bipush (-3), 2) := by decide +kernel
theorem dX10_write_28 : decode cX10_write 28 = .ok (.ireturn, 1) := by decide +kernel
theorem dX10_write_29 : decode cX10_write 29 = .ok (.iload_n 1, 1) := by decide +kernel
theorem dX10_write_30 : decode cX10_write 30 = .ok (.iconst 1, 1) := by decide +kernel
theorem dX10_write_31 : decode cX10_write 31 = .ok (.isub, 1) := by decide +kernel
theorem dX10_write_32 : decode cX10_write 32 = .ok (.istore 4, 2) := by decide +kernel
theorem dX10_write_34 : decode cX10_write 34 = .ok (.iload 4, 2) := by decide +kernel
theorem dX10_write_36 : decode cX10_write 36 = .ok (.ifCond .lt 40, 3) := by decide +kernel
theorem dX10_write_39 : decode cX10_write 39 = .ok (.aload_n 0, 1) := by decide +kernel
theorem dX10_write_40 : decode cX10_write 40 = .ok (.getfield 7, 3) := by decide +kernel
theorem dX10_write_43 : decode cX10_write 43 = .ok (.aload_n 0, 1) := by decide +kernel
theorem dX10_write_44 : decode cX10_write 44 = .ok (.getfield 83, 3) := by decide +kernel
theorem dX10_write_47 : decode cX10_write 47 = .ok (.lload_n 2, 1) := by decide +kernel
theorem dX10_write_48 : decode cX10_write 48 = .ok (.bipush 8, 2) := by decide +kernel
theorem dX10_write_50 : decode cX10_write 50 = .ok (.iload 4, 2) := by decide +kernel
theorem dX10_write_52 : decode cX10_write 52 = .ok (.imul, 1) := by decide +kernel
theorem dX10_write_53 : decode cX10_write 53 = .ok (.lshr, 1) := by decide +kernel
theorem dX10_write_54 : decode cX10_write 54 = .ok (.ldc2_w 87, 3) := by decide +kernel
theorem dX10_write_57 : decode cX10_write 57 = .ok (.land, 1) := by decide +kernel
theorem dX10_write_58 : decode cX10_write 58 = .ok (.l2i, 1) := by decide +kernel
theorem dX10_write_59 : decode cX10_write 59 = .ok (.iastore, 1) := by decide +kernel
theorem dX10_write_60 : decode cX10_write 60 = .ok (.aload_n 0, 1) := by decide +kernel
theorem dX10_write_61 : decode cX10_write 61 = .ok (.dup, 1) := by decide +kernel
theorem dX10_write_62 : decode cX10_write 62 = .ok (.getfield 83, 3) := by decide +kernel
theorem dX10_write_65 : decode cX10_write 65 = .ok (.iconst 1, 1) := by decide +kernel
theorem dX10_write_66 : decode cX10_write 66 = .ok (.iadd, 1) := by decide +kernel
theorem dX10_write_67 : decode cX10_write 67 = .ok (.putfield 83, 3) := by decide +kernel
theorem dX10_write_70 : decode cX10_write 70 = .ok (.iinc 4 (-1), 3) := by decide +kernel
theorem dX10_write_73 : decode cX10_write 73 = .ok (.goto (-39), 3) := by decide +kernel
theorem dX10_write_76 : decode cX10_write 76 = .ok (.aload_n 0, 1) := by decide +kernel
theorem dX10_write_77 : decode cX10_write 77 = .ok (.getfield 83, 3) := by decide +kernel
theorem dX10_write_80 : decode cX10_write 80 = .ok (.ireturn, 1) := by decide +kernel
theorem dX10_wipe_0 : decode cX10_wipe 0 = .ok (.aload_n 0, 1) := by decide +kernel
theorem dX10_wipe_1 : decode cX10_wipe 1 = .ok (.getfield 83, 3) := by decide +kernel
theorem dX10_wipe_4 : decode cX10_wipe 4 = .ok (.istore_n 1, 1) := by decide +kernel
theorem dX10_wipe_5 : decode cX10_wipe 5 = .ok (.aload_n 0, 1) := by decide +kernel
theorem dX10_wipe_6 : decode cX10_wipe 6 = .ok (.iconst 0, 1) := by decide +kernel
theorem dX10_wipe_7 : decode cX10_wipe 7 = .ok (.putfield 83, 3) := by decide +kernel
theorem dX10_wipe_10 : decode cX10_wipe 10 = .ok (.iload_n 1, 1) := by decide +kernel
theorem dX10_wipe_11 : decode cX10_wipe 11 = .ok (.ireturn, 1) := by decide +kernel
theorem dX10_byteAt_0 : decode cX10_byteAt 0 = .ok (.iload_n 1, 1) := by decide +kernel
theorem dX10_byteAt_1 : decode cX10_byteAt 1 = .ok (.aload_n 0, 1) := by decide +kernel
theorem dX10_byteAt_2 : decode cX10_byteAt 2 = .ok (.getfield 83, 3) := by decide +kernel
theorem dX10_byteAt_5 : decode cX10_byteAt 5 = .ok (.if_icmp .ge 12, 3) := by decide +kernel
theorem dX10_byteAt_8 : decode cX10_byteAt 8 = .ok (.aload_n 0, 1) := by decide +kernel
theorem dX10_byteAt_9 : decode cX10_byteAt 9 = .ok (.getfield 7, 3) := by decide +kernel
theorem dX10_byteAt_12 : decode cX10_byteAt 12 = .ok (.iload_n 1, 1) := by decide +kernel
theorem dX10_byteAt_13 : decode cX10_byteAt 13 = .ok (.iaload, 1) := by decide +kernel
theorem dX10_byteAt_14 : decode cX10_byteAt 14 = .ok (.goto 4, 3) := by decide +kernel
theorem dX10_byteAt_17 : decode cX10_byteAt 17 = .ok (.iconst 0, 1) := by decide +kernel
theorem dX10_byteAt_18 : decode cX10_byteAt 18 = .ok (.ireturn, 1) := by decide +kernel
theorem dX10_figures_0 : decode cX10_figures 0 = .ok (.iconst 0, 1) := by decide +kernel
theorem dX10_figures_1 : decode cX10_figures 1 = .ok (.istore_n 2, 1) := by decide +kernel
theorem dX10_figures_2 : decode cX10_figures 2 = .ok (.iload_n 2, 1) := by decide +kernel
theorem dX10_figures_3 : decode cX10_figures 3 = .ok (.iload_n 1, 1) := by decide +kernel
theorem dX10_figures_4 : decode cX10_figures 4 = .ok (.if_icmp .ge 132, 3) := by decide +kernel
theorem dX10_figures_7 : decode cX10_figures 7 = .ok (.iconst 0, 1) := by decide +kernel
theorem dX10_figures_8 : decode cX10_figures 8 = .ok (.istore_n 3, 1) := by decide +kernel
theorem dX10_figures_9 : decode cX10_figures 9 = .ok (.iconst 0, 1) := by decide +kernel
theorem dX10_figures_10 : decode cX10_figures 10 = .ok (.istore 4, 2) := by decide +kernel
theorem dX10_figures_12 : decode cX10_figures 12 = .ok (.aload_n 0, 1) := by decide +kernel
theorem dX10_figures_13 : decode cX10_figures 13 = .ok (.aload_n 0, 1) := by decide +kernel
theorem dX10_figures_14 : decode cX10_figures 14 = .ok (.getfield 89, 3) := by decide +kernel
theorem dX10_figures_17 : decode cX10_figures 17 = .ok (.invokevirtual 92, 3) := by decide +kernel
theorem dX10_figures_20 : decode cX10_figures 20 = .ok (.i2l, 1) := by decide +kernel
theorem dX10_figures_21 : decode cX10_figures 21 = .ok (.ldc2_w 96, 3) := by decide +kernel
theorem dX10_figures_24 : decode cX10_figures 24 = .ok (.ldc2_w 98, 3) := by decide +kernel
theorem dX10_figures_27 : decode cX10_figures 27 = .ok (.invokestatic 79, 3) := by decide +kernel
theorem dX10_figures_30 : decode cX10_figures 30 = .ok (.ifCond .eq 43, 3) := by decide +kernel
theorem dX10_figures_33 : decode cX10_figures 33 = .ok (.iload_n 3, 1) := by decide +kernel
theorem dX10_figures_34 : decode cX10_figures 34 = .ok (.iconst 3, 1) := by decide +kernel
theorem dX10_figures_35 : decode cX10_figures 35 = .ok (.if_icmp .ge 38, 3) := by decide +kernel
theorem dX10_figures_38 : decode cX10_figures 38 = .ok (.bipush 10, 2) := by decide +kernel
theorem dX10_figures_40 : decode cX10_figures 40 = .ok (.iload 4, 2) := by decide +kernel
theorem dX10_figures_42 : decode cX10_figures 42 = .ok (.imul, 1) := by decide +kernel
theorem dX10_figures_43 : decode cX10_figures 43 = .ok (.aload_n 0, 1) := by decide +kernel
theorem dX10_figures_44 : decode cX10_figures 44 = .ok (.aload_n 0, 1) := by decide +kernel
theorem dX10_figures_45 : decode cX10_figures 45 = .ok (.getfield 89, 3) := by decide +kernel
theorem dX10_figures_48 : decode cX10_figures 48 = .ok (.invokevirtual 92, 3) := by decide +kernel
theorem dX10_figures_51 : decode cX10_figures 51 = .ok (.iadd, 1) := by decide +kernel
theorem dX10_figures_52 : decode cX10_figures 52 = .ok (.bipush 48, 2) := by decide +kernel
theorem dX10_figures_54 : decode cX10_figures 54 = .ok (.isub, 1) := by decide +kernel
theorem dX10_figures_55 : decode cX10_figures 55 = .ok (.istore 4, 2) := by decide +kernel
theorem dX10_figures_57 : decode cX10_figures 57 = .ok (.iinc 3 1, 3) := by decide +kernel
theorem dX10_figures_60 : decode cX10_figures 60 = .ok (.aload_n 0, 1) := by decide +kernel
theorem dX10_figures_61 : decode cX10_figures 61 = .ok (.dup, 1) := by decide +kernel
theorem dX10_figures_62 : decode cX10_figures 62 = .ok (.getfield 89, 3) := by decide +kernel
theorem dX10_figures_65 : decode cX10_figures 65 = .ok (.iconst 1, 1) := by decide +kernel
theorem dX10_figures_66 : decode cX10_figures 66 = .ok (.iadd, 1) := by decide +kernel
theorem dX10_figures_67 : decode cX10_figures 67 = .ok (.putfield 89, 3) := by decide +kernel
theorem dX10_figures_70 : decode cX10_figures 70 = .ok (.goto (-58), 3) := by decide +kernel
theorem dX10_figures_73 : decode cX10_figures 73 = .ok (.iload_n 3, 1) := by decide +kernel
theorem dX10_figures_74 : decode cX10_figures 74 = .ok (.i2l, 1) := by decide +kernel
theorem dX10_figures_75 : decode cX10_figures 75 = .ok (.lconst 1, 1) := by decide +kernel
theorem dX10_figures_76 : decode cX10_figures 76 = .ok (.ldc2_w 100, 3) := by decide +kernel
theorem dX10_figures_79 : decode cX10_figures 79 = .ok (.invokestatic 79, 3) := by decide +kernel
theorem dX10_figures_82 : decode cX10_figures 82 = .ok (.ifCond .eq 28, 3) := by decide +kernel
theorem dX10_figures_85 : decode cX10_figures 85 = .ok (.aload_n 0, 1) := by decide +kernel
theorem dX10_figures_86 : decode cX10_figures 86 = .ok (.aload_n 0, 1) := by decide +kernel
theorem dX10_figures_87 : decode cX10_figures 87 = .ok (.getfield 89, 3) := by decide +kernel
theorem dX10_figures_90 : decode cX10_figures 90 = .ok (.invokevirtual 92, 3) := by decide +kernel
theorem dX10_figures_93 : decode cX10_figures 93 = .ok (.iload_n 2, 1) := by decide +kernel
theorem dX10_figures_94 : decode cX10_figures 94 = .ok (.iload_n 1, 1) := by decide +kernel
theorem dX10_figures_95 : decode cX10_figures 95 = .ok (.iconst 1, 1) := by decide +kernel
theorem dX10_figures_96 : decode cX10_figures 96 = .ok (.isub, 1) := by decide +kernel
theorem dX10_figures_97 : decode cX10_figures 97 = .ok (.if_icmp .ge 8, 3) := by decide +kernel
theorem dX10_figures_100 : decode cX10_figures 100 = .ok (.bipush 44, 2) := by decide +kernel
theorem dX10_figures_102 : decode cX10_figures 102 = .ok (.goto 5, 3) := by decide +kernel
theorem dX10_figures_105 : decode cX10_figures 105 = .ok (.bipush 59, 2) := by decide +kernel
theorem dX10_figures_107 : decode cX10_figures 107 = .ok (.if_icmp .eq 5, 3) := by decide +kernel
theorem dX10_figures_110 : decode cX10_figures 110 = .ok (.iconst 0, 1) := by decide +kernel
theorem dX10_figures_111 : decode cX10_figures 111 = .ok (.ireturn, 1) := by decide +kernel
theorem dX10_figures_112 : decode cX10_figures 112 = .ok (.aload_n 0, 1) := by decide +kernel
theorem dX10_figures_113 : decode cX10_figures 113 = .ok (.getfield 46, 3) := by decide +kernel
theorem dX10_figures_116 : decode cX10_figures 116 = .ok (.iload_n 2, 1) := by decide +kernel
theorem dX10_figures_117 : decode cX10_figures 117 = .ok (.iload 4, 2) := by decide +kernel
theorem dX10_figures_119 : decode cX10_figures 119 = .ok (.iastore, 1) := by decide +kernel
theorem dX10_figures_120 : decode cX10_figures 120 = .ok (.aload_n 0, 1) := by decide +kernel
theorem dX10_figures_121 : decode cX10_figures 121 = .ok (.dup, 1) := by decide +kernel
theorem dX10_figures_122 : decode cX10_figures 122 = .ok (.getfield 89, 3) := by decide +kernel
theorem dX10_figures_125 : decode cX10_figures 125 = .ok (.iconst 1, 1) := by decide +kernel
theorem dX10_figures_126 : decode cX10_figures 126 = .ok (.iadd, 1) := by decide +kernel
theorem dX10_figures_127 : decode cX10_figures 127 = .ok (.putfield 89, 3) := by decide +kernel
theorem dX10_figures_130 : decode cX10_figures 130 = .ok (.iinc 2 1, 3) := by decide +kernel
theorem dX10_figures_133 : decode cX10_figures 133 = .ok (.goto (-131), 3) := by decide +kernel
theorem dX10_figures_136 : decode cX10_figures 136 = .ok (.iconst 1, 1) := by decide +kernel
theorem dX10_figures_137 : decode cX10_figures 137 = .ok (.ireturn, 1) := by decide +kernel
theorem dX10_item_0 : decode cX10_item 0 = .ok (.aload_n 0, 1) := by decide +kernel
theorem dX10_item_1 : decode cX10_item 1 = .ok (.aload_n 0, 1) := by decide +kernel
theorem dX10_item_2 : decode cX10_item 2 = .ok (.getfield 89, 3) := by decide +kernel
theorem dX10_item_5 : decode cX10_item 5 = .ok (.invokevirtual 92, 3) := by decide +kernel
theorem dX10_item_8 : decode cX10_item 8 = .ok (.istore_n 1, 1) := by decide +kernel
theorem dX10_item_9 : decode cX10_item 9 = .ok (.aload_n 0, 1) := by decide +kernel
theorem dX10_item_10 : decode cX10_item 10 = .ok (.dup, 1) := by decide +kernel
theorem dX10_item_11 : decode cX10_item 11 = .ok (.getfield 89, 3) := by decide +kernel
theorem dX10_item_14 : decode cX10_item 14 = .ok (.iconst 1, 1) := by decide +kernel
theorem dX10_item_15 : decode cX10_item 15 = .ok (.iadd, 1) := by decide +kernel
theorem dX10_item_16 : decode cX10_item 16 = .ok (.putfield 89, 3) := by decide +kernel
theorem dX10_item_19 : decode cX10_item 19 = .ok (.iload_n 1, 1) := by decide +kernel
theorem dX10_item_20 : decode cX10_item 20 = .ok (.lookupswitch 374 #[(99, 299), (108, 120), (109, 52), (115, 333), (119, 217)], 52) := by decide +kernel
theorem dX10_item_72 : decode cX10_item 72 = .ok (.aload_n 0, 1) := by decide +kernel
theorem dX10_item_73 : decode cX10_item 73 = .ok (.iconst 1, 1) := by decide +kernel
theorem dX10_item_74 : decode cX10_item 74 = .ok (.invokevirtual 102, 3) := by decide +kernel
theorem dX10_item_77 : decode cX10_item 77 = .ok (.ifCond .eq 30, 3) := by decide +kernel
theorem dX10_item_80 : decode cX10_item 80 = .ok (.aload_n 0, 1) := by decide +kernel
theorem dX10_item_81 : decode cX10_item 81 = .ok (.getfield 13, 3) := by decide +kernel
theorem dX10_item_84 : decode cX10_item 84 = .ok (.iconst 1, 1) := by decide +kernel
theorem dX10_item_85 : decode cX10_item 85 = .ok (.iaload, 1) := by decide +kernel
theorem dX10_item_86 : decode cX10_item 86 = .ok (.iconst 3, 1) := by decide +kernel
theorem dX10_item_87 : decode cX10_item 87 = .ok (.if_icmp .eq 20, 3) := by decide +kernel
theorem dX10_item_90 : decode cX10_item 90 = .ok (.aload_n 0, 1) := by decide +kernel
theorem dX10_item_91 : decode cX10_item 91 = .ok (.getfield 46, 3) := by decide +kernel
theorem dX10_item_94 : decode cX10_item 94 = .ok (.iconst 0, 1) := by decide +kernel
theorem dX10_item_95 : decode cX10_item 95 = .ok (.iaload, 1) := by decide +kernel
theorem dX10_item_96 : decode cX10_item 96 = .ok (.i2l, 1) := by decide +kernel
theorem dX10_item_97 : decode cX10_item 97 = .ok (.lconst 1, 1) := by decide +kernel
theorem dX10_item_98 : decode cX10_item 98 = .ok (.ldc2_w 106, 3) := by decide +kernel
theorem dX10_item_101 : decode cX10_item 101 = .ok (.invokestatic 79, 3) := by decide +kernel
theorem dX10_item_104 : decode cX10_item 104 = .ok (.ifCond .ne 5, 3) := by decide +kernel
theorem dX10_item_107 : decode cX10_item 107 = .ok (.iconst 0, 1) := by decide +kernel
theorem dX10_item_108 : decode cX10_item 108 = .ok (.ireturn, 1) := by decide +kernel
theorem dX10_item_109 : decode cX10_item 109 = .ok (.aload_n 0, 1) := by decide +kernel
theorem dX10_item_110 : decode cX10_item 110 = .ok (.getfield 16, 3) := by decide +kernel
theorem dX10_item_113 : decode cX10_item 113 = .ok (.iconst 3, 1) := by decide +kernel
theorem dX10_item_114 : decode cX10_item 114 = .ok (.aload_n 0, 1) := by decide +kernel
theorem dX10_item_115 : decode cX10_item 115 = .ok (.getfield 13, 3) := by decide +kernel
theorem dX10_item_118 : decode cX10_item 118 = .ok (.iconst 1, 1) := by decide +kernel
theorem dX10_item_119 : decode cX10_item 119 = .ok (.iaload, 1) := by decide +kernel
theorem dX10_item_120 : decode cX10_item 120 = .ok (.iadd, 1) := by decide +kernel
theorem dX10_item_121 : decode cX10_item 121 = .ok (.aload_n 0, 1) := by decide +kernel
theorem dX10_item_122 : decode cX10_item 122 = .ok (.getfield 46, 3) := by decide +kernel
theorem dX10_item_125 : decode cX10_item 125 = .ok (.iconst 0, 1) := by decide +kernel
theorem dX10_item_126 : decode cX10_item 126 = .ok (.iaload, 1) := by decide +kernel
theorem dX10_item_127 : decode cX10_item 127 = .ok (.iastore, 1) := by decide +kernel
theorem dX10_item_128 : decode cX10_item 128 = .ok (.aload_n 0, 1) := by decide +kernel
theorem dX10_item_129 : decode cX10_item 129 = .ok (.getfield 13, 3) := by decide +kernel
theorem dX10_item_132 : decode cX10_item 132 = .ok (.iconst 1, 1) := by decide +kernel
theorem dX10_item_133 : decode cX10_item 133 = .ok (.dup2, 1) := by decide +kernel
theorem dX10_item_134 : decode cX10_item 134 = .ok (.iaload, 1) := by decide +kernel
theorem dX10_item_135 : decode cX10_item 135 = .ok (.iconst 1, 1) := by decide +kernel
theorem dX10_item_136 : decode cX10_item 136 = .ok (.iadd, 1) := by decide +kernel
theorem dX10_item_137 : decode cX10_item 137 = .ok (.iastore, 1) := by decide +kernel
theorem dX10_item_138 : decode cX10_item 138 = .ok (.iconst 1, 1) := by decide +kernel
theorem dX10_item_139 : decode cX10_item 139 = .ok (.ireturn, 1) := by decide +kernel
theorem dX10_item_140 : decode cX10_item 140 = .ok (.aload_n 0, 1) := by decide +kernel
theorem dX10_item_141 : decode cX10_item 141 = .ok (.iconst 2, 1) := by decide +kernel
theorem dX10_item_142 : decode cX10_item 142 = .ok (.invokevirtual 102, 3) := by decide +kernel
theorem dX10_item_145 : decode cX10_item 145 = .ok (.ifCond .eq 40, 3) := by decide +kernel
theorem dX10_item_148 : decode cX10_item 148 = .ok (.aload_n 0, 1) := by decide +kernel
theorem dX10_item_149 : decode cX10_item 149 = .ok (.getfield 19, 3) := by decide +kernel
theorem dX10_item_152 : decode cX10_item 152 = .ok (.iconst 1, 1) := by decide +kernel
theorem dX10_item_153 : decode cX10_item 153 = .ok (.iaload, 1) := by decide +kernel
theorem dX10_item_154 : decode cX10_item 154 = .ok (.iconst 5, 1) := by decide +kernel
theorem dX10_item_155 : decode cX10_item 155 = .ok (.if_icmp .eq 30, 3) := by decide +kernel
theorem dX10_item_158 : decode cX10_item 158 = .ok (.aload_n 0, 1) := by decide +kernel
theorem dX10_item_159 : decode cX10_item 159 = .ok (.getfield 46, 3) := by decide +kernel
theorem dX10_item_162 : decode cX10_item 162 = .ok (.iconst 0, 1) := by decide +kernel
theorem dX10_item_163 : decode cX10_item 163 = .ok (.iaload, 1) := by decide +kernel
theorem dX10_item_164 : decode cX10_item 164 = .ok (.i2l, 1) := by decide +kernel
theorem dX10_item_165 : decode cX10_item 165 = .ok (.lconst 1, 1) := by decide +kernel
theorem dX10_item_166 : decode cX10_item 166 = .ok (.ldc2_w 108, 3) := by decide +kernel
theorem dX10_item_169 : decode cX10_item 169 = .ok (.invokestatic 79, 3) := by decide +kernel
theorem dX10_item_172 : decode cX10_item 172 = .ok (.ifCond .eq 13, 3) := by decide +kernel
theorem dX10_item_175 : decode cX10_item 175 = .ok (.aload_n 0, 1) := by decide +kernel
theorem dX10_item_176 : decode cX10_item 176 = .ok (.getfield 46, 3) := by decide +kernel
theorem dX10_item_179 : decode cX10_item 179 = .ok (.iconst 1, 1) := by decide +kernel
theorem dX10_item_180 : decode cX10_item 180 = .ok (.iaload, 1) := by decide +kernel
theorem dX10_item_181 : decode cX10_item 181 = .ok (.iconst 3, 1) := by decide +kernel
theorem dX10_item_182 : decode cX10_item 182 = .ok (.if_icmp .le 5, 3) := by decide +kernel
theorem dX10_item_185 : decode cX10_item 185 = .ok (.iconst 0, 1) := by decide +kernel
theorem dX10_item_186 : decode cX10_item 186 = .ok (.ireturn, 1) := by decide +kernel
theorem dX10_item_187 : decode cX10_item 187 = .ok (.aload_n 0, 1) := by decide +kernel
theorem dX10_item_188 : decode cX10_item 188 = .ok (.getfield 28, 3) := by decide +kernel
theorem dX10_item_191 : decode cX10_item 191 = .ok (.iconst 5, 1) := by decide +kernel
theorem dX10_item_192 : decode cX10_item 192 = .ok (.aload_n 0, 1) := by decide +kernel
theorem dX10_item_193 : decode cX10_item 193 = .ok (.getfield 19, 3) := by decide +kernel
theorem dX10_item_196 : decode cX10_item 196 = .ok (.iconst 1, 1) := by decide +kernel
theorem dX10_item_197 : decode cX10_item 197 = .ok (.iaload, 1) := by decide +kernel
theorem dX10_item_198 : decode cX10_item 198 = .ok (.iadd, 1) := by decide +kernel
theorem dX10_item_199 : decode cX10_item 199 = .ok (.aload_n 0, 1) := by decide +kernel
theorem dX10_item_200 : decode cX10_item 200 = .ok (.getfield 46, 3) := by decide +kernel
theorem dX10_item_203 : decode cX10_item 203 = .ok (.iconst 0, 1) := by decide +kernel
theorem dX10_item_204 : decode cX10_item 204 = .ok (.iaload, 1) := by decide +kernel
theorem dX10_item_205 : decode cX10_item 205 = .ok (.iastore, 1) := by decide +kernel
theorem dX10_item_206 : decode cX10_item 206 = .ok (.aload_n 0, 1) := by decide +kernel
theorem dX10_item_207 : decode cX10_item 207 = .ok (.getfield 22, 3) := by decide +kernel
theorem dX10_item_210 : decode cX10_item 210 = .ok (.iconst 5, 1) := by decide +kernel
theorem dX10_item_211 : decode cX10_item 211 = .ok (.aload_n 0, 1) := by decide +kernel
theorem dX10_item_212 : decode cX10_item 212 = .ok (.getfield 19, 3) := by decide +kernel
theorem dX10_item_215 : decode cX10_item 215 = .ok (.iconst 1, 1) := by decide +kernel
theorem dX10_item_216 : decode cX10_item 216 = .ok (.iaload, 1) := by decide +kernel
theorem dX10_item_217 : decode cX10_item 217 = .ok (.iadd, 1) := by decide +kernel
theorem dX10_item_218 : decode cX10_item 218 = .ok (.aload_n 0, 1) := by decide +kernel
theorem dX10_item_219 : decode cX10_item 219 = .ok (.getfield 46, 3) := by decide +kernel
theorem dX10_item_222 : decode cX10_item 222 = .ok (.iconst 1, 1) := by decide +kernel
theorem dX10_item_223 : decode cX10_item 223 = .ok (.iaload, 1) := by decide +kernel
theorem dX10_item_224 : decode cX10_item 224 = .ok (.iastore, 1) := by decide +kernel
theorem dX10_item_225 : decode cX10_item 225 = .ok (.aload_n 0, 1) := by decide +kernel
theorem dX10_item_226 : decode cX10_item 226 = .ok (.getfield 19, 3) := by decide +kernel
theorem dX10_item_229 : decode cX10_item 229 = .ok (.iconst 1, 1) := by decide +kernel
theorem dX10_item_230 : decode cX10_item 230 = .ok (.dup2, 1) := by decide +kernel
theorem dX10_item_231 : decode cX10_item 231 = .ok (.iaload, 1) := by decide +kernel
theorem dX10_item_232 : decode cX10_item 232 = .ok (.iconst 1, 1) := by decide +kernel
theorem dX10_item_233 : decode cX10_item 233 = .ok (.iadd, 1) := by decide +kernel
theorem dX10_item_234 : decode cX10_item 234 = .ok (.iastore, 1) := by decide +kernel
theorem dX10_item_235 : decode cX10_item 235 = .ok (.iconst 1, 1) := by decide +kernel
theorem dX10_item_236 : decode cX10_item 236 = .ok (.ireturn, 1) := by decide +kernel
theorem dX10_item_237 : decode cX10_item 237 = .ok (.aload_n 0, 1) := by decide +kernel
theorem dX10_item_238 : decode cX10_item 238 = .ok (.iconst 3, 1) := by decide +kernel
theorem dX10_item_239 : decode cX10_item 239 = .ok (.invokevirtual 102, 3) := by decide +kernel
theorem dX10_item_242 : decode cX10_item 242 = .ok (.ifCond .eq 44, 3) := by decide +kernel
theorem dX10_item_245 : decode cX10_item 245 = .ok (.aload_n 0, 1) := by decide +kernel
theorem dX10_item_246 : decode cX10_item 246 = .ok (.getfield 46, 3) := by decide +kernel
theorem dX10_item_249 : decode cX10_item 249 = .ok (.iconst 0, 1) := by decide +kernel
theorem dX10_item_250 : decode cX10_item 250 = .ok (.iaload, 1) := by decide +kernel
theorem dX10_item_251 : decode cX10_item 251 = .ok (.aload_n 0, 1) := by decide +kernel
theorem dX10_item_252 : decode cX10_item 252 = .ok (.getfield 19, 3) := by decide +kernel
theorem dX10_item_255 : decode cX10_item 255 = .ok (.iconst 1, 1) := by decide +kernel
theorem dX10_item_256 : decode cX10_item 256 = .ok (.iaload, 1) := by decide +kernel
theorem dX10_item_257 : decode cX10_item 257 = .ok (.if_icmp .ge 29, 3) := by decide +kernel
theorem dX10_item_260 : decode cX10_item 260 = .ok (.aload_n 0, 1) := by decide +kernel
theorem dX10_item_261 : decode cX10_item 261 = .ok (.getfield 46, 3) := by decide +kernel
theorem dX10_item_264 : decode cX10_item 264 = .ok (.iconst 1, 1) := by decide +kernel
theorem dX10_item_265 : decode cX10_item 265 = .ok (.iaload, 1) := by decide +kernel
theorem dX10_item_266 : decode cX10_item 266 = .ok (.aload_n 0, 1) := by decide +kernel
theorem dX10_item_267 : decode cX10_item 267 = .ok (.getfield 13, 3) := by decide +kernel
theorem dX10_item_270 : decode cX10_item 270 = .ok (.iconst 1, 1) := by decide +kernel
theorem dX10_item_271 : decode cX10_item 271 = .ok (.iaload, 1) := by decide +kernel
theorem dX10_item_272 : decode cX10_item 272 = .ok (.if_icmp .ge 14, 3) := by decide +kernel
theorem dX10_item_275 : decode cX10_item 275 = .ok (.aload_n 0, 1) := by decide +kernel
theorem dX10_item_276 : decode cX10_item 276 = .ok (.getfield 46, 3) := by decide +kernel
theorem dX10_item_279 : decode cX10_item 279 = .ok (.iconst 2, 1) := by decide +kernel
theorem dX10_item_280 : decode cX10_item 280 = .ok (.iaload, 1) := by decide +kernel
theorem dX10_item_281 : decode cX10_item 281 = .ok (.bipush 10, 2) := by decide +kernel
theorem dX10_item_283 : decode cX10_item 283 = .ok (.if_icmp .le 5, 3) := by decide +kernel
theorem dX10_item_286 : decode cX10_item 286 = .ok (.iconst 0, 1) := by decide +kernel
theorem dX10_item_287 : decode cX10_item 287 = .ok (.ireturn, 1) := by decide +kernel
theorem dX10_item_288 : decode cX10_item 288 = .ok (.aload_n 0, 1) := by decide +kernel
theorem dX10_item_289 : decode cX10_item 289 = .ok (.getfield 25, 3) := by decide +kernel
theorem dX10_item_292 : decode cX10_item 292 = .ok (.bipush 15, 2) := by decide +kernel
theorem dX10_item_294 : decode cX10_item 294 = .ok (.iconst 3, 1) := by decide +kernel
theorem dX10_item_295 : decode cX10_item 295 = .ok (.aload_n 0, 1) := by decide +kernel
theorem dX10_item_296 : decode cX10_item 296 = .ok (.getfield 46, 3) := by decide +kernel
theorem dX10_item_299 : decode cX10_item 299 = .ok (.iconst 0, 1) := by decide +kernel
theorem dX10_item_300 : decode cX10_item 300 = .ok (.iaload, 1) := by decide +kernel
theorem dX10_item_301 : decode cX10_item 301 = .ok (.imul, 1) := by decide +kernel
theorem dX10_item_302 : decode cX10_item 302 = .ok (.iadd, 1) := by decide +kernel
theorem dX10_item_303 : decode cX10_item 303 = .ok (.aload_n 0, 1) := by decide +kernel
theorem dX10_item_304 : decode cX10_item 304 = .ok (.getfield 46, 3) := by decide +kernel
theorem dX10_item_307 : decode cX10_item 307 = .ok (.iconst 1, 1) := by decide +kernel
theorem dX10_item_308 : decode cX10_item 308 = .ok (.iaload, 1) := by decide +kernel
theorem dX10_item_309 : decode cX10_item 309 = .ok (.iadd, 1) := by decide +kernel
theorem dX10_item_310 : decode cX10_item 310 = .ok (.aload_n 0, 1) := by decide +kernel
theorem dX10_item_311 : decode cX10_item 311 = .ok (.getfield 46, 3) := by decide +kernel
theorem dX10_item_314 : decode cX10_item 314 = .ok (.iconst 2, 1) := by decide +kernel
theorem dX10_item_315 : decode cX10_item 315 = .ok (.iaload, 1) := by decide +kernel
theorem dX10_item_316 : decode cX10_item 316 = .ok (.iastore, 1) := by decide +kernel
theorem dX10_item_317 : decode cX10_item 317 = .ok (.iconst 1, 1) := by decide +kernel
theorem dX10_item_318 : decode cX10_item 318 = .ok (.ireturn, 1) := by decide +kernel
theorem dX10_item_319 : decode cX10_item 319 = .ok (.aload_n 0, 1) := by decide +kernel
theorem dX10_item_320 : decode cX10_item 320 = .ok (.iconst 1, 1) := by decide +kernel
theorem dX10_item_321 : decode cX10_item 321 = .ok (.invokevirtual 102, 3) := by decide +kernel
theorem dX10_item_324 : decode cX10_item 324 = .ok (.ifCond .eq 13, 3) := by decide +kernel
theorem dX10_item_327 : decode cX10_item 327 = .ok (.aload_n 0, 1) := by decide +kernel
theorem dX10_item_328 : decode cX10_item 328 = .ok (.getfield 46, 3) := by decide +kernel
theorem dX10_item_331 : decode cX10_item 331 = .ok (.iconst 0, 1) := by decide +kernel
theorem dX10_item_332 : decode cX10_item 332 = .ok (.iaload, 1) := by decide +kernel
theorem dX10_item_333 : decode cX10_item 333 = .ok (.iconst 2, 1) := by decide +kernel
theorem dX10_item_334 : decode cX10_item 334 = .ok (.if_icmp .le 5, 3) := by decide +kernel
theorem dX10_item_337 : decode cX10_item 337 = .ok (.iconst 0, 1) := by decide +kernel
theorem dX10_item_338 : decode cX10_item 338 = .ok (.ireturn, 1) := by decide +kernel
theorem dX10_item_339 : decode cX10_item 339 = .ok (.aload_n 0, 1) := by decide +kernel
theorem dX10_item_340 : decode cX10_item 340 = .ok (.getfield 31, 3) := by decide +kernel
theorem dX10_item_343 : decode cX10_item 343 = .ok (.iconst 1, 1) := by decide +kernel
theorem dX10_item_344 : decode cX10_item 344 = .ok (.aload_n 0, 1) := by decide +kernel
theorem dX10_item_345 : decode cX10_item 345 = .ok (.getfield 46, 3) := by decide +kernel
theorem dX10_item_348 : decode cX10_item 348 = .ok (.iconst 0, 1) := by decide +kernel
theorem dX10_item_349 : decode cX10_item 349 = .ok (.iaload, 1) := by decide +kernel
theorem dX10_item_350 : decode cX10_item 350 = .ok (.iastore, 1) := by decide +kernel
theorem dX10_item_351 : decode cX10_item 351 = .ok (.iconst 1, 1) := by decide +kernel
theorem dX10_item_352 : decode cX10_item 352 = .ok (.ireturn, 1) := by decide +kernel
theorem dX10_item_353 : decode cX10_item 353 = .ok (.aload_n 0, 1) := by decide +kernel
theorem dX10_item_354 : decode cX10_item 354 = .ok (.iconst 1, 1) := by decide +kernel
theorem dX10_item_355 : decode cX10_item 355 = .ok (.invokevirtual 102, 3) := by decide +kernel
theorem dX10_item_358 : decode cX10_item 358 = .ok (.ifCond .eq 20, 3) := by decide +kernel
theorem dX10_item_361 : decode cX10_item 361 = .ok (.aload_n 0, 1) := by decide +kernel
theorem dX10_item_362 : decode cX10_item 362 = .ok (.getfield 46, 3) := by decide +kernel
theorem dX10_item_365 : decode cX10_item 365 = .ok (.iconst 0, 1) := by decide +kernel
theorem dX10_item_366 : decode cX10_item 366 = .ok (.iaload, 1) := by decide +kernel
theorem dX10_item_367 : decode cX10_item 367 = .ok (.i2l, 1) := by decide +kernel
theorem dX10_item_368 : decode cX10_item 368 = .ok (.lconst 1, 1) := by decide +kernel
theorem dX10_item_369 : decode cX10_item 369 = .ok (.ldc2_w 106, 3) := by decide +kernel
theorem dX10_item_372 : decode cX10_item 372 = .ok (.invokestatic 79, 3) := by decide +kernel
theorem dX10_item_375 : decode cX10_item 375 = .ok (.ifCond .ne 5, 3) := by decide +kernel
theorem dX10_item_378 : decode cX10_item 378 = .ok (.iconst 0, 1) := by decide +kernel
theorem dX10_item_379 : decode cX10_item 379 = .ok (.ireturn, 1) := by decide +kernel
theorem dX10_item_380 : decode cX10_item 380 = .ok (.aload_n 0, 1) := by decide +kernel
theorem dX10_item_381 : decode cX10_item 381 = .ok (.getfield 34, 3) := by decide +kernel
theorem dX10_item_384 : decode cX10_item 384 = .ok (.iconst 1, 1) := by decide +kernel
theorem dX10_item_385 : decode cX10_item 385 = .ok (.aload_n 0, 1) := by decide +kernel
theorem dX10_item_386 : decode cX10_item 386 = .ok (.getfield 46, 3) := by decide +kernel
theorem dX10_item_389 : decode cX10_item 389 = .ok (.iconst 0, 1) := by decide +kernel
theorem dX10_item_390 : decode cX10_item 390 = .ok (.iaload, 1) := by decide +kernel
theorem dX10_item_391 : decode cX10_item 391 = .ok (.iastore, 1) := by decide +kernel
theorem dX10_item_392 : decode cX10_item 392 = .ok (.iconst 1, 1) := by decide +kernel
theorem dX10_item_393 : decode cX10_item 393 = .ok (.ireturn, 1) := by decide +kernel
theorem dX10_item_394 : decode cX10_item 394 = .ok (.iconst 0, 1) := by decide +kernel
theorem dX10_item_395 : decode cX10_item 395 = .ok (.ireturn, 1) := by decide +kernel
theorem dX10_readAll_0 : decode cX10_readAll 0 = .ok (.aload_n 0, 1) := by decide +kernel
theorem dX10_readAll_1 : decode cX10_readAll 1 = .ok (.iconst 1, 1) := by decide +kernel
theorem dX10_readAll_2 : decode cX10_readAll 2 = .ok (.invokevirtual 73, 3) := by decide +kernel
theorem dX10_readAll_5 : decode cX10_readAll 5 = .ok (.aload_n 0, 1) := by decide +kernel
theorem dX10_readAll_6 : decode cX10_readAll 6 = .ok (.iconst 0, 1) := by decide +kernel
theorem dX10_readAll_7 : decode cX10_readAll 7 = .ok (.putfield 89, 3) := by decide +kernel
theorem dX10_readAll_10 : decode cX10_readAll 10 = .ok (.aload_n 0, 1) := by decide +kernel
theorem dX10_readAll_11 : decode cX10_readAll 11 = .ok (.getfield 89, 3) := by decide +kernel
theorem dX10_readAll_14 : decode cX10_readAll 14 = .ok (.aload_n 0, 1) := by decide +kernel
theorem dX10_readAll_15 : decode cX10_readAll 15 = .ok (.getfield 83, 3) := by decide +kernel
theorem dX10_readAll_18 : decode cX10_readAll 18 = .ok (.if_icmp .ge 20, 3) := by decide +kernel
theorem dX10_readAll_21 : decode cX10_readAll 21 = .ok (.aload_n 0, 1) := by decide +kernel
theorem dX10_readAll_22 : decode cX10_readAll 22 = .ok (.getfield 89, 3) := by decide +kernel
theorem dX10_readAll_25 : decode cX10_readAll 25 = .ok (.istore_n 1, 1) := by decide +kernel
theorem dX10_readAll_26 : decode cX10_readAll 26 = .ok (.aload_n 0, 1) := by decide +kernel
theorem dX10_readAll_27 : decode cX10_readAll 27 = .ok (.invokevirtual 110, 3) := by decide +kernel
theorem dX10_readAll_30 : decode cX10_readAll 30 = .ok (.ifCond .ne 5, 3) := by decide +kernel
theorem dX10_readAll_33 : decode cX10_readAll 33 = .ok (.iload_n 1, 1) := by decide +kernel
theorem dX10_readAll_34 : decode cX10_readAll 34 = .ok (.ireturn, 1) := by decide +kernel
theorem dX10_readAll_35 : decode cX10_readAll 35 = .ok (.goto (-25), 3) := by decide +kernel
theorem dX10_readAll_38 : decode cX10_readAll 38 = .ok (.bipush (-4), 2) := by decide +kernel
theorem dX10_readAll_40 : decode cX10_readAll 40 = .ok (.ireturn, 1) := by decide +kernel
theorem dX10_fault_0 : decode cX10_fault 0 = .ok (.aload_n 0, 1) := by decide +kernel
theorem dX10_fault_1 : decode cX10_fault 1 = .ok (.invokevirtual 114, 3) := by decide +kernel
theorem dX10_fault_4 : decode cX10_fault 4 = .ok (.ireturn, 1) := by decide +kernel
theorem dX10_copy_0 : decode cX10_copy 0 = .ok (.iconst 0, 1) := by decide +kernel
theorem dX10_copy_1 : decode cX10_copy 1 = .ok (.istore_n 3, 1) := by decide +kernel
theorem dX10_copy_2 : decode cX10_copy 2 = .ok (.iload_n 3, 1) := by decide +kernel
theorem dX10_copy_3 : decode cX10_copy 3 = .ok (.iconst 5, 1) := by decide +kernel
theorem dX10_copy_4 : decode cX10_copy 4 = .ok (.if_icmp .ge 29, 3) := by decide +kernel
theorem dX10_copy_7 : decode cX10_copy 7 = .ok (.aload_n 0, 1) := by decide +kernel
theorem dX10_copy_8 : decode cX10_copy 8 = .ok (.getfield 28, 3) := by decide +kernel
theorem dX10_copy_11 : decode cX10_copy 11 = .ok (.iconst 5, 1) := by decide +kernel
theorem dX10_copy_12 : decode cX10_copy 12 = .ok (.iload_n 2, 1) := by decide +kernel
theorem dX10_copy_13 : decode cX10_copy 13 = .ok (.imul, 1) := by decide +kernel
theorem dX10_copy_14 : decode cX10_copy 14 = .ok (.iload_n 3, 1) := by decide +kernel
theorem dX10_copy_15 : decode cX10_copy 15 = .ok (.iadd, 1) := by decide +kernel
theorem dX10_copy_16 : decode cX10_copy 16 = .ok (.aload_n 0, 1) := by decide +kernel
theorem dX10_copy_17 : decode cX10_copy 17 = .ok (.getfield 28, 3) := by decide +kernel
theorem dX10_copy_20 : decode cX10_copy 20 = .ok (.iconst 5, 1) := by decide +kernel
theorem dX10_copy_21 : decode cX10_copy 21 = .ok (.iload_n 1, 1) := by decide +kernel
theorem dX10_copy_22 : decode cX10_copy 22 = .ok (.imul, 1) := by decide +kernel
theorem dX10_copy_23 : decode cX10_copy 23 = .ok (.iload_n 3, 1) := by decide +kernel
theorem dX10_copy_24 : decode cX10_copy 24 = .ok (.iadd, 1) := by decide +kernel
theorem dX10_copy_25 : decode cX10_copy 25 = .ok (.iaload, 1) := by decide +kernel
theorem dX10_copy_26 : decode cX10_copy 26 = .ok (.iastore, 1) := by decide +kernel
theorem dX10_copy_27 : decode cX10_copy 27 = .ok (.iinc 3 1, 3) := by decide +kernel
theorem dX10_copy_30 : decode cX10_copy 30 = .ok (.goto (-28), 3) := by decide +kernel
theorem dX10_copy_33 : decode cX10_copy 33 = .ok (.aload_n 0, 1) := by decide +kernel
theorem dX10_copy_34 : decode cX10_copy 34 = .ok (.getfield 31, 3) := by decide +kernel
theorem dX10_copy_37 : decode cX10_copy 37 = .ok (.iload_n 2, 1) := by decide +kernel
theorem dX10_copy_38 : decode cX10_copy 38 = .ok (.aload_n 0, 1) := by decide +kernel
theorem dX10_copy_39 : decode cX10_copy 39 = .ok (.getfield 31, 3) := by decide +kernel
theorem dX10_copy_42 : decode cX10_copy 42 = .ok (.iload_n 1, 1) := by decide +kernel
theorem dX10_copy_43 : decode cX10_copy 43 = .ok (.iaload, 1) := by decide +kernel
theorem dX10_copy_44 : decode cX10_copy 44 = .ok (.iastore, 1) := by decide +kernel
theorem dX10_copy_45 : decode cX10_copy 45 = .ok (.aload_n 0, 1) := by decide +kernel
theorem dX10_copy_46 : decode cX10_copy 46 = .ok (.getfield 34, 3) := by decide +kernel
theorem dX10_copy_49 : decode cX10_copy 49 = .ok (.iload_n 2, 1) := by decide +kernel
theorem dX10_copy_50 : decode cX10_copy 50 = .ok (.aload_n 0, 1) := by decide +kernel
theorem dX10_copy_51 : decode cX10_copy 51 = .ok (.getfield 34, 3) := by decide +kernel
theorem dX10_copy_54 : decode cX10_copy 54 = .ok (.iload_n 1, 1) := by decide +kernel
theorem dX10_copy_55 : decode cX10_copy 55 = .ok (.iaload, 1) := by decide +kernel
theorem dX10_copy_56 : decode cX10_copy 56 = .ok (.iastore, 1) := by decide +kernel
theorem dX10_copy_57 : decode cX10_copy 57 = .ok (.return_, 1) := by decide +kernel
theorem dX10_lay_0 : decode cX10_lay 0 = .ok (.aload_n 0, 1) := by decide +kernel
theorem dX10_lay_1 : decode cX10_lay 1 = .ok (.invokevirtual 114, 3) := by decide +kernel
theorem dX10_lay_4 : decode cX10_lay 4 = .ok (.bipush (-4), 2) := by decide +kernel
theorem dX10_lay_6 : decode cX10_lay 6 = .ok (.if_icmp .ne 21, 3) := by decide +kernel
theorem dX10_lay_9 : decode cX10_lay 9 = .ok (.aload_n 0, 1) := by decide +kernel
theorem dX10_lay_10 : decode cX10_lay 10 = .ok (.getfield 13, 3) := by decide +kernel
theorem dX10_lay_13 : decode cX10_lay 13 = .ok (.iconst 1, 1) := by decide +kernel
theorem dX10_lay_14 : decode cX10_lay 14 = .ok (.iaload, 1) := by decide +kernel
theorem dX10_lay_15 : decode cX10_lay 15 = .ok (.ifCond .eq 12, 3) := by decide +kernel
theorem dX10_lay_18 : decode cX10_lay 18 = .ok (.aload_n 0, 1) := by decide +kernel
theorem dX10_lay_19 : decode cX10_lay 19 = .ok (.getfield 19, 3) := by decide +kernel
theorem dX10_lay_22 : decode cX10_lay 22 = .ok (.iconst 1, 1) := by decide +kernel
theorem dX10_lay_23 : decode cX10_lay 23 = .ok (.iaload, 1) := by decide +kernel
theorem dX10_lay_24 : decode cX10_lay 24 = .ok (.ifCond .ne 6, 3) := by decide +kernel
theorem dX10_lay_27 : decode cX10_lay 27 = .ok (.bipush (-2), 2) := by decide +kernel
theorem dX10_lay_29 : decode cX10_lay 29 = .ok (.ireturn, 1) := by decide +kernel
theorem dX10_lay_30 : decode cX10_lay 30 = .ok (.aload_n 0, 1) := by decide +kernel
theorem dX10_lay_31 : decode cX10_lay 31 = .ok (.getfield 13, 3) := by decide +kernel
theorem dX10_lay_34 : decode cX10_lay 34 = .ok (.iconst 0, 1) := by decide +kernel
theorem dX10_lay_35 : decode cX10_lay 35 = .ok (.aload_n 0, 1) := by decide +kernel
theorem dX10_lay_36 : decode cX10_lay 36 = .ok (.getfield 13, 3) := by decide +kernel
theorem dX10_lay_39 : decode cX10_lay 39 = .ok (.iconst 1, 1) := by decide +kernel
theorem dX10_lay_40 : decode cX10_lay 40 = .ok (.iaload, 1) := by decide +kernel
theorem dX10_lay_41 : decode cX10_lay 41 = .ok (.iastore, 1) := by decide +kernel
theorem dX10_lay_42 : decode cX10_lay 42 = .ok (.aload_n 0, 1) := by decide +kernel
theorem dX10_lay_43 : decode cX10_lay 43 = .ok (.getfield 19, 3) := by decide +kernel
theorem dX10_lay_46 : decode cX10_lay 46 = .ok (.iconst 0, 1) := by decide +kernel
theorem dX10_lay_47 : decode cX10_lay 47 = .ok (.aload_n 0, 1) := by decide +kernel
theorem dX10_lay_48 : decode cX10_lay 48 = .ok (.getfield 19, 3) := by decide +kernel
theorem dX10_lay_51 : decode cX10_lay 51 = .ok (.iconst 1, 1) := by decide +kernel
theorem dX10_lay_52 : decode cX10_lay 52 = .ok (.iaload, 1) := by decide +kernel
theorem dX10_lay_53 : decode cX10_lay 53 = .ok (.iastore, 1) := by decide +kernel
theorem dX10_lay_54 : decode cX10_lay 54 = .ok (.iconst 0, 1) := by decide +kernel
theorem dX10_lay_55 : decode cX10_lay 55 = .ok (.istore_n 1, 1) := by decide +kernel
theorem dX10_lay_56 : decode cX10_lay 56 = .ok (.iload_n 1, 1) := by decide +kernel
theorem dX10_lay_57 : decode cX10_lay 57 = .ok (.iconst 3, 1) := by decide +kernel
theorem dX10_lay_58 : decode cX10_lay 58 = .ok (.if_icmp .ge 23, 3) := by decide +kernel
theorem dX10_lay_61 : decode cX10_lay 61 = .ok (.aload_n 0, 1) := by decide +kernel
theorem dX10_lay_62 : decode cX10_lay 62 = .ok (.getfield 16, 3) := by decide +kernel
theorem dX10_lay_65 : decode cX10_lay 65 = .ok (.iload_n 1, 1) := by decide +kernel
theorem dX10_lay_66 : decode cX10_lay 66 = .ok (.aload_n 0, 1) := by decide +kernel
theorem dX10_lay_67 : decode cX10_lay 67 = .ok (.getfield 16, 3) := by decide +kernel
theorem dX10_lay_70 : decode cX10_lay 70 = .ok (.iconst 3, 1) := by decide +kernel
theorem dX10_lay_71 : decode cX10_lay 71 = .ok (.iload_n 1, 1) := by decide +kernel
theorem dX10_lay_72 : decode cX10_lay 72 = .ok (.iadd, 1) := by decide +kernel
theorem dX10_lay_73 : decode cX10_lay 73 = .ok (.iaload, 1) := by decide +kernel
theorem dX10_lay_74 : decode cX10_lay 74 = .ok (.iastore, 1) := by decide +kernel
theorem dX10_lay_75 : decode cX10_lay 75 = .ok (.iinc 1 1, 3) := by decide +kernel
theorem dX10_lay_78 : decode cX10_lay 78 = .ok (.goto (-22), 3) := by decide +kernel
theorem dX10_lay_81 : decode cX10_lay 81 = .ok (.iconst 0, 1) := by decide +kernel
theorem dX10_lay_82 : decode cX10_lay 82 = .ok (.istore_n 1, 1) := by decide +kernel
theorem dX10_lay_83 : decode cX10_lay 83 = .ok (.iload_n 1, 1) := by decide +kernel
theorem dX10_lay_84 : decode cX10_lay 84 = .ok (.iconst 5, 1) := by decide +kernel
theorem dX10_lay_85 : decode cX10_lay 85 = .ok (.if_icmp .ge 23, 3) := by decide +kernel
theorem dX10_lay_88 : decode cX10_lay 88 = .ok (.aload_n 0, 1) := by decide +kernel
theorem dX10_lay_89 : decode cX10_lay 89 = .ok (.getfield 22, 3) := by decide +kernel
theorem dX10_lay_92 : decode cX10_lay 92 = .ok (.iload_n 1, 1) := by decide +kernel
theorem dX10_lay_93 : decode cX10_lay 93 = .ok (.aload_n 0, 1) := by decide +kernel
theorem dX10_lay_94 : decode cX10_lay 94 = .ok (.getfield 22, 3) := by decide +kernel
theorem dX10_lay_97 : decode cX10_lay 97 = .ok (.iconst 5, 1) := by decide +kernel
theorem dX10_lay_98 : decode cX10_lay 98 = .ok (.iload_n 1, 1) := by decide +kernel
theorem dX10_lay_99 : decode cX10_lay 99 = .ok (.iadd, 1) := by decide +kernel
theorem dX10_lay_100 : decode cX10_lay 100 = .ok (.iaload, 1) := by decide +kernel
theorem dX10_lay_101 : decode cX10_lay 101 = .ok (.iastore, 1) := by decide +kernel
theorem dX10_lay_102 : decode cX10_lay 102 = .ok (.iinc 1 1, 3) := by decide +kernel
theorem dX10_lay_105 : decode cX10_lay 105 = .ok (.goto (-22), 3) := by decide +kernel
theorem dX10_lay_108 : decode cX10_lay 108 = .ok (.iconst 0, 1) := by decide +kernel
theorem dX10_lay_109 : decode cX10_lay 109 = .ok (.istore_n 1, 1) := by decide +kernel
theorem dX10_lay_110 : decode cX10_lay 110 = .ok (.iload_n 1, 1) := by decide +kernel
theorem dX10_lay_111 : decode cX10_lay 111 = .ok (.bipush 15, 2) := by decide +kernel
theorem dX10_lay_113 : decode cX10_lay 113 = .ok (.if_icmp .ge 24, 3) := by decide +kernel
theorem dX10_lay_116 : decode cX10_lay 116 = .ok (.aload_n 0, 1) := by decide +kernel
theorem dX10_lay_117 : decode cX10_lay 117 = .ok (.getfield 25, 3) := by decide +kernel
theorem dX10_lay_120 : decode cX10_lay 120 = .ok (.iload_n 1, 1) := by decide +kernel
theorem dX10_lay_121 : decode cX10_lay 121 = .ok (.aload_n 0, 1) := by decide +kernel
theorem dX10_lay_122 : decode cX10_lay 122 = .ok (.getfield 25, 3) := by decide +kernel
theorem dX10_lay_125 : decode cX10_lay 125 = .ok (.bipush 15, 2) := by decide +kernel
theorem dX10_lay_127 : decode cX10_lay 127 = .ok (.iload_n 1, 1) := by decide +kernel
theorem dX10_lay_128 : decode cX10_lay 128 = .ok (.iadd, 1) := by decide +kernel
theorem dX10_lay_129 : decode cX10_lay 129 = .ok (.iaload, 1) := by decide +kernel
theorem dX10_lay_130 : decode cX10_lay 130 = .ok (.iastore, 1) := by decide +kernel
theorem dX10_lay_131 : decode cX10_lay 131 = .ok (.iinc 1 1, 3) := by decide +kernel
theorem dX10_lay_134 : decode cX10_lay 134 = .ok (.goto (-24), 3) := by decide +kernel
theorem dX10_lay_137 : decode cX10_lay 137 = .ok (.aload_n 0, 1) := by decide +kernel
theorem dX10_lay_138 : decode cX10_lay 138 = .ok (.iconst 1, 1) := by decide +kernel
theorem dX10_lay_139 : decode cX10_lay 139 = .ok (.iconst 0, 1) := by decide +kernel
theorem dX10_lay_140 : decode cX10_lay 140 = .ok (.invokevirtual 118, 3) := by decide +kernel
theorem dX10_lay_143 : decode cX10_lay 143 = .ok (.aload_n 0, 1) := by decide +kernel
theorem dX10_lay_144 : decode cX10_lay 144 = .ok (.iconst 0, 1) := by decide +kernel
theorem dX10_lay_145 : decode cX10_lay 145 = .ok (.putfield 122, 3) := by decide +kernel
theorem dX10_lay_148 : decode cX10_lay 148 = .ok (.aload_n 0, 1) := by decide +kernel
theorem dX10_lay_149 : decode cX10_lay 149 = .ok (.iconst 0, 1) := by decide +kernel
theorem dX10_lay_150 : decode cX10_lay 150 = .ok (.putfield 125, 3) := by decide +kernel
theorem dX10_lay_153 : decode cX10_lay 153 = .ok (.aload_n 0, 1) := by decide +kernel
theorem dX10_lay_154 : decode cX10_lay 154 = .ok (.iconst 0, 1) := by decide +kernel
theorem dX10_lay_155 : decode cX10_lay 155 = .ok (.putfield 128, 3) := by decide +kernel
theorem dX10_lay_158 : decode cX10_lay 158 = .ok (.aload_n 0, 1) := by decide +kernel
theorem dX10_lay_159 : decode cX10_lay 159 = .ok (.getfield 19, 3) := by decide +kernel
theorem dX10_lay_162 : decode cX10_lay 162 = .ok (.iconst 0, 1) := by decide +kernel
theorem dX10_lay_163 : decode cX10_lay 163 = .ok (.iaload, 1) := by decide +kernel
theorem dX10_lay_164 : decode cX10_lay 164 = .ok (.ireturn, 1) := by decide +kernel
theorem dX10_isLad_0 : decode cX10_isLad 0 = .ok (.iload_n 1, 1) := by decide +kernel
theorem dX10_isLad_1 : decode cX10_isLad 1 = .ok (.i2l, 1) := by decide +kernel
theorem dX10_isLad_2 : decode cX10_isLad 2 = .ok (.lconst 0, 1) := by decide +kernel
theorem dX10_isLad_3 : decode cX10_isLad 3 = .ok (.aload_n 0, 1) := by decide +kernel
theorem dX10_isLad_4 : decode cX10_isLad 4 = .ok (.getfield 19, 3) := by decide +kernel
theorem dX10_isLad_7 : decode cX10_isLad 7 = .ok (.iconst 0, 1) := by decide +kernel
theorem dX10_isLad_8 : decode cX10_isLad 8 = .ok (.iaload, 1) := by decide +kernel
theorem dX10_isLad_9 : decode cX10_isLad 9 = .ok (.iconst 1, 1) := by decide +kernel
theorem dX10_isLad_10 : decode cX10_isLad 10 = .ok (.isub, 1) := by decide +kernel
theorem dX10_isLad_11 : decode cX10_isLad 11 = .ok (.i2l, 1) := by decide +kernel
theorem dX10_isLad_12 : decode cX10_isLad 12 = .ok (.invokestatic 79, 3) := by decide +kernel
theorem dX10_isLad_15 : decode cX10_isLad 15 = .ok (.ireturn, 1) := by decide +kernel
theorem dX10_isMaster_0 : decode cX10_isMaster 0 = .ok (.iload_n 1, 1) := by decide +kernel
theorem dX10_isMaster_1 : decode cX10_isMaster 1 = .ok (.i2l, 1) := by decide +kernel
theorem dX10_isMaster_2 : decode cX10_isMaster 2 = .ok (.lconst 0, 1) := by decide +kernel
theorem dX10_isMaster_3 : decode cX10_isMaster 3 = .ok (.aload_n 0, 1) := by decide +kernel
theorem dX10_isMaster_4 : decode cX10_isMaster 4 = .ok (.getfield 13, 3) := by decide +kernel
theorem dX10_isMaster_7 : decode cX10_isMaster 7 = .ok (.iconst 0, 1) := by decide +kernel
theorem dX10_isMaster_8 : decode cX10_isMaster 8 = .ok (.iaload, 1) := by decide +kernel
theorem dX10_isMaster_9 : decode cX10_isMaster 9 = .ok (.iconst 1, 1) := by decide +kernel
theorem dX10_isMaster_10 : decode cX10_isMaster 10 = .ok (.isub, 1) := by decide +kernel
theorem dX10_isMaster_11 : decode cX10_isMaster 11 = .ok (.i2l, 1) := by decide +kernel
theorem dX10_isMaster_12 : decode cX10_isMaster 12 = .ok (.invokestatic 79, 3) := by decide +kernel
theorem dX10_isMaster_15 : decode cX10_isMaster 15 = .ok (.ireturn, 1) := by decide +kernel
theorem dX10_boundOf_0 : decode cX10_boundOf 0 = .ok (.aload_n 0, 1) := by decide +kernel
theorem dX10_boundOf_1 : decode cX10_boundOf 1 = .ok (.getfield 25, 3) := by decide +kernel
theorem dX10_boundOf_4 : decode cX10_boundOf 4 = .ok (.iconst 3, 1) := by decide +kernel
theorem dX10_boundOf_5 : decode cX10_boundOf 5 = .ok (.iload_n 1, 1) := by decide +kernel
theorem dX10_boundOf_6 : decode cX10_boundOf 6 = .ok (.imul, 1) := by decide +kernel
theorem dX10_boundOf_7 : decode cX10_boundOf 7 = .ok (.iload_n 2, 1) := by decide +kernel
theorem dX10_boundOf_8 : decode cX10_boundOf 8 = .ok (.iadd, 1) := by decide +kernel
theorem dX10_boundOf_9 : decode cX10_boundOf 9 = .ok (.iaload, 1) := by decide +kernel
theorem dX10_boundOf_10 : decode cX10_boundOf 10 = .ok (.istore_n 3, 1) := by decide +kernel
theorem dX10_boundOf_11 : decode cX10_boundOf 11 = .ok (.iload_n 3, 1) := by decide +kernel
theorem dX10_boundOf_12 : decode cX10_boundOf 12 = .ok (.aload_n 0, 1) := by decide +kernel
theorem dX10_boundOf_13 : decode cX10_boundOf 13 = .ok (.getfield 28, 3) := by decide +kernel
theorem dX10_boundOf_16 : decode cX10_boundOf 16 = .ok (.iload_n 1, 1) := by decide +kernel
theorem dX10_boundOf_17 : decode cX10_boundOf 17 = .ok (.iaload, 1) := by decide +kernel
theorem dX10_boundOf_18 : decode cX10_boundOf 18 = .ok (.if_icmp .ge 7, 3) := by decide +kernel
theorem dX10_boundOf_21 : decode cX10_boundOf 21 = .ok (.iload_n 3, 1) := by decide +kernel
theorem dX10_boundOf_22 : decode cX10_boundOf 22 = .ok (.goto 9, 3) := by decide +kernel
theorem dX10_boundOf_25 : decode cX10_boundOf 25 = .ok (.aload_n 0, 1) := by decide +kernel
theorem dX10_boundOf_26 : decode cX10_boundOf 26 = .ok (.getfield 28, 3) := by decide +kernel
theorem dX10_boundOf_29 : decode cX10_boundOf 29 = .ok (.iload_n 1, 1) := by decide +kernel
theorem dX10_boundOf_30 : decode cX10_boundOf 30 = .ok (.iaload, 1) := by decide +kernel
theorem dX10_boundOf_31 : decode cX10_boundOf 31 = .ok (.istore 4, 2) := by decide +kernel
theorem dX10_boundOf_33 : decode cX10_boundOf 33 = .ok (.aload_n 0, 1) := by decide +kernel
theorem dX10_boundOf_34 : decode cX10_boundOf 34 = .ok (.getfield 22, 3) := by decide +kernel
theorem dX10_boundOf_37 : decode cX10_boundOf 37 = .ok (.iload_n 1, 1) := by decide +kernel
theorem dX10_boundOf_38 : decode cX10_boundOf 38 = .ok (.iaload, 1) := by decide +kernel
theorem dX10_boundOf_39 : decode cX10_boundOf 39 = .ok (.tableswitch 50 1 3 #[25, 30, 42], 25) := by decide +kernel
theorem dX10_boundOf_64 : decode cX10_boundOf 64 = .ok (.iload 4, 2) := by decide +kernel
theorem dX10_boundOf_66 : decode cX10_boundOf 66 = .ok (.iconst 2, 1) := by decide +kernel
theorem dX10_boundOf_67 : decode cX10_boundOf 67 = .ok (.idiv, 1) := by decide +kernel
theorem dX10_boundOf_68 : decode cX10_boundOf 68 = .ok (.ireturn, 1) := by decide +kernel
theorem dX10_boundOf_69 : decode cX10_boundOf 69 = .ok (.iload_n 3, 1) := by decide +kernel
theorem dX10_boundOf_70 : decode cX10_boundOf 70 = .ok (.iconst 5, 1) := by decide +kernel
theorem dX10_boundOf_71 : decode cX10_boundOf 71 = .ok (.if_icmp .lt 8, 3) := by decide +kernel
theorem dX10_boundOf_74 : decode cX10_boundOf 74 = .ok (.iload 4, 2) := by decide +kernel
theorem dX10_boundOf_76 : decode cX10_boundOf 76 = .ok (.goto 4, 3) := by decide +kernel
theorem dX10_boundOf_79 : decode cX10_boundOf 79 = .ok (.iconst 0, 1) := by decide +kernel
theorem dX10_boundOf_80 : decode cX10_boundOf 80 = .ok (.ireturn, 1) := by decide +kernel
theorem dX10_boundOf_81 : decode cX10_boundOf 81 = .ok (.iload 4, 2) := by decide +kernel
theorem dX10_boundOf_83 : decode cX10_boundOf 83 = .ok (.iload 4, 2) := by decide +kernel
theorem dX10_boundOf_85 : decode cX10_boundOf 85 = .ok (.iconst 2, 1) := by decide +kernel
theorem dX10_boundOf_86 : decode cX10_boundOf 86 = .ok (.irem, 1) := by decide +kernel
theorem dX10_boundOf_87 : decode cX10_boundOf 87 = .ok (.isub, 1) := by decide +kernel
theorem dX10_boundOf_88 : decode cX10_boundOf 88 = .ok (.ireturn, 1) := by decide +kernel
theorem dX10_boundOf_89 : decode cX10_boundOf 89 = .ok (.iload 4, 2) := by decide +kernel
theorem dX10_boundOf_91 : decode cX10_boundOf 91 = .ok (.ireturn, 1) := by decide +kernel
theorem dX10_isIn_0 : decode cX10_isIn 0 = .ok (.iload_n 1, 1) := by decide +kernel
theorem dX10_isIn_1 : decode cX10_isIn 1 = .ok (.aload_n 0, 1) := by decide +kernel
theorem dX10_isIn_2 : decode cX10_isIn 2 = .ok (.getfield 131, 3) := by decide +kernel
theorem dX10_isIn_5 : decode cX10_isIn 5 = .ok (.if_icmp .eq 26, 3) := by decide +kernel
theorem dX10_isIn_8 : decode cX10_isIn 8 = .ok (.aload_n 0, 1) := by decide +kernel
theorem dX10_isIn_9 : decode cX10_isIn 9 = .ok (.getfield 49, 3) := by decide +kernel
theorem dX10_isIn_12 : decode cX10_isIn 12 = .ok (.iload_n 1, 1) := by decide +kernel
theorem dX10_isIn_13 : decode cX10_isIn 13 = .ok (.iaload, 1) := by decide +kernel
theorem dX10_isIn_14 : decode cX10_isIn 14 = .ok (.ifCond .ge 17, 3) := by decide +kernel
theorem dX10_isIn_17 : decode cX10_isIn 17 = .ok (.aload_n 0, 1) := by decide +kernel
theorem dX10_isIn_18 : decode cX10_isIn 18 = .ok (.iload_n 1, 1) := by decide +kernel
theorem dX10_isIn_19 : decode cX10_isIn 19 = .ok (.iload_n 2, 1) := by decide +kernel
theorem dX10_isIn_20 : decode cX10_isIn 20 = .ok (.invokevirtual 134, 3) := by decide +kernel
theorem dX10_isIn_23 : decode cX10_isIn 23 = .ok (.iload_n 3, 1) := by decide +kernel
theorem dX10_isIn_24 : decode cX10_isIn 24 = .ok (.if_icmp .lt 7, 3) := by decide +kernel
theorem dX10_isIn_27 : decode cX10_isIn 27 = .ok (.iconst 1, 1) := by decide +kernel
theorem dX10_isIn_28 : decode cX10_isIn 28 = .ok (.goto 4, 3) := by decide +kernel
theorem dX10_isIn_31 : decode cX10_isIn 31 = .ok (.iconst 0, 1) := by decide +kernel
theorem dX10_isIn_32 : decode cX10_isIn 32 = .ok (.ireturn, 1) := by decide +kernel
theorem dX10_inSet_0 : decode cX10_inSet 0 = .ok (.iconst 0, 1) := by decide +kernel
theorem dX10_inSet_1 : decode cX10_inSet 1 = .ok (.istore_n 3, 1) := by decide +kernel
theorem dX10_inSet_2 : decode cX10_inSet 2 = .ok (.iconst 0, 1) := by decide +kernel
theorem dX10_inSet_3 : decode cX10_inSet 3 = .ok (.istore 4, 2) := by decide +kernel
theorem dX10_inSet_5 : decode cX10_inSet 5 = .ok (.iload 4, 2) := by decide +kernel
theorem dX10_inSet_7 : decode cX10_inSet 7 = .ok (.aload_n 0, 1) := by decide +kernel
theorem dX10_inSet_8 : decode cX10_inSet 8 = .ok (.getfield 19, 3) := by decide +kernel
theorem dX10_inSet_11 : decode cX10_inSet 11 = .ok (.iconst 0, 1) := by decide +kernel
theorem dX10_inSet_12 : decode cX10_inSet 12 = .ok (.iaload, 1) := by decide +kernel
theorem dX10_inSet_13 : decode cX10_inSet 13 = .ok (.if_icmp .ge 31, 3) := by decide +kernel
theorem dX10_inSet_16 : decode cX10_inSet 16 = .ok (.iload_n 3, 1) := by decide +kernel
theorem dX10_inSet_17 : decode cX10_inSet 17 = .ok (.aload_n 0, 1) := by decide +kernel
theorem dX10_inSet_18 : decode cX10_inSet 18 = .ok (.iload 4, 2) := by decide +kernel
theorem dX10_inSet_20 : decode cX10_inSet 20 = .ok (.iload_n 1, 1) := by decide +kernel
theorem dX10_inSet_21 : decode cX10_inSet 21 = .ok (.iload_n 2, 1) := by decide +kernel
theorem dX10_inSet_22 : decode cX10_inSet 22 = .ok (.invokevirtual 138, 3) := by decide +kernel
theorem dX10_inSet_25 : decode cX10_inSet 25 = .ok (.ifCond .eq 10, 3) := by decide +kernel
theorem dX10_inSet_28 : decode cX10_inSet 28 = .ok (.iconst 1, 1) := by decide +kernel
theorem dX10_inSet_29 : decode cX10_inSet 29 = .ok (.iload 4, 2) := by decide +kernel
theorem dX10_inSet_31 : decode cX10_inSet 31 = .ok (.ishl, 1) := by decide +kernel
theorem dX10_inSet_32 : decode cX10_inSet 32 = .ok (.goto 4, 3) := by decide +kernel
theorem dX10_inSet_35 : decode cX10_inSet 35 = .ok (.iconst 0, 1) := by decide +kernel
theorem dX10_inSet_36 : decode cX10_inSet 36 = .ok (.ior, 1) := by decide +kernel
theorem dX10_inSet_37 : decode cX10_inSet 37 = .ok (.istore_n 3, 1) := by decide +kernel
theorem dX10_inSet_38 : decode cX10_inSet 38 = .ok (.iinc 4 1, 3) := by decide +kernel
theorem dX10_inSet_41 : decode cX10_inSet 41 = .ok (.goto (-36), 3) := by decide +kernel
theorem dX10_inSet_44 : decode cX10_inSet 44 = .ok (.iload_n 3, 1) := by decide +kernel
theorem dX10_inSet_45 : decode cX10_inSet 45 = .ok (.ireturn, 1) := by decide +kernel
theorem dX10_bits_0 : decode cX10_bits 0 = .ok (.iconst 0, 1) := by decide +kernel
theorem dX10_bits_1 : decode cX10_bits 1 = .ok (.istore_n 1, 1) := by decide +kernel
theorem dX10_bits_2 : decode cX10_bits 2 = .ok (.iload_n 0, 1) := by decide +kernel
theorem dX10_bits_3 : decode cX10_bits 3 = .ok (.istore_n 2, 1) := by decide +kernel
theorem dX10_bits_4 : decode cX10_bits 4 = .ok (.iload_n 2, 1) := by decide +kernel
theorem dX10_bits_5 : decode cX10_bits 5 = .ok (.ifCond .eq 15, 3) := by decide +kernel
theorem dX10_bits_8 : decode cX10_bits 8 = .ok (.iinc 1 1, 3) := by decide +kernel
theorem dX10_bits_11 : decode cX10_bits 11 = .ok (.iload_n 2, 1) := by decide +kernel
theorem dX10_bits_12 : decode cX10_bits 12 = .ok (.iload_n 2, 1) := by decide +kernel
theorem dX10_bits_13 : decode cX10_bits 13 = .ok (.iconst 1, 1) := by decide +kernel
theorem dX10_bits_14 : decode cX10_bits 14 = .ok (.isub, 1) := by decide +kernel
theorem dX10_bits_15 : decode cX10_bits 15 = .ok (.iand, 1) := by decide +kernel
theorem dX10_bits_16 : decode cX10_bits 16 = .ok (.istore_n 2, 1) := by decide +kernel
theorem dX10_bits_17 : decode cX10_bits 17 = .ok (.goto (-13), 3) := by decide +kernel
theorem dX10_bits_20 : decode cX10_bits 20 = .ok (.iload_n 1, 1) := by decide +kernel
theorem dX10_bits_21 : decode cX10_bits 21 = .ok (.ireturn, 1) := by decide +kernel
theorem dX10_give_0 : decode cX10_give 0 = .ok (.iconst 0, 1) := by decide +kernel
theorem dX10_give_1 : decode cX10_give 1 = .ok (.istore 4, 2) := by decide +kernel
theorem dX10_give_3 : decode cX10_give 3 = .ok (.iload 4, 2) := by decide +kernel
theorem dX10_give_5 : decode cX10_give 5 = .ok (.aload_n 0, 1) := by decide +kernel
theorem dX10_give_6 : decode cX10_give 6 = .ok (.getfield 19, 3) := by decide +kernel
theorem dX10_give_9 : decode cX10_give 9 = .ok (.iconst 0, 1) := by decide +kernel
theorem dX10_give_10 : decode cX10_give 10 = .ok (.iaload, 1) := by decide +kernel
theorem dX10_give_11 : decode cX10_give 11 = .ok (.if_icmp .ge 51, 3) := by decide +kernel
theorem dX10_give_14 : decode cX10_give 14 = .ok (.iload_n 1, 1) := by decide +kernel
theorem dX10_give_15 : decode cX10_give 15 = .ok (.iload 4, 2) := by decide +kernel
theorem dX10_give_17 : decode cX10_give 17 = .ok (.invokestatic 142, 3) := by decide +kernel
theorem dX10_give_20 : decode cX10_give 20 = .ok (.ifCond .eq 36, 3) := by decide +kernel
theorem dX10_give_23 : decode cX10_give 23 = .ok (.aload_n 0, 1) := by decide +kernel
theorem dX10_give_24 : decode cX10_give 24 = .ok (.getfield 146, 3) := by decide +kernel
theorem dX10_give_27 : decode cX10_give 27 = .ok (.ifCond .le 29, 3) := by decide +kernel
theorem dX10_give_30 : decode cX10_give 30 = .ok (.aload_n 0, 1) := by decide +kernel
theorem dX10_give_31 : decode cX10_give 31 = .ok (.getfield 49, 3) := by decide +kernel
theorem dX10_give_34 : decode cX10_give 34 = .ok (.iload 4, 2) := by decide +kernel
theorem dX10_give_36 : decode cX10_give 36 = .ok (.iload_n 2, 1) := by decide +kernel
theorem dX10_give_37 : decode cX10_give 37 = .ok (.iastore, 1) := by decide +kernel
theorem dX10_give_38 : decode cX10_give 38 = .ok (.aload_n 0, 1) := by decide +kernel
theorem dX10_give_39 : decode cX10_give 39 = .ok (.getfield 52, 3) := by decide +kernel
theorem dX10_give_42 : decode cX10_give 42 = .ok (.iload 4, 2) := by decide +kernel
theorem dX10_give_44 : decode cX10_give 44 = .ok (.iload_n 3, 1) := by decide +kernel
theorem dX10_give_45 : decode cX10_give 45 = .ok (.iastore, 1) := by decide +kernel
theorem dX10_give_46 : decode cX10_give 46 = .ok (.aload_n 0, 1) := by decide +kernel
theorem dX10_give_47 : decode cX10_give 47 = .ok (.dup, 1) := by decide +kernel
theorem dX10_give_48 : decode cX10_give 48 = .ok (.getfield 146, 3) := by decide +kernel
theorem dX10_give_51 : decode cX10_give 51 = .ok (.iconst 1, 1) := by decide +kernel
theorem dX10_give_52 : decode cX10_give 52 = .ok (.isub, 1) := by decide +kernel
theorem dX10_give_53 : decode cX10_give 53 = .ok (.putfield 146, 3) := by decide +kernel
theorem dX10_give_56 : decode cX10_give 56 = .ok (.iinc 4 1, 3) := by decide +kernel
theorem dX10_give_59 : decode cX10_give 59 = .ok (.goto (-56), 3) := by decide +kernel
theorem dX10_give_62 : decode cX10_give 62 = .ok (.return_, 1) := by decide +kernel
theorem dX10_callBelow_0 : decode cX10_callBelow 0 = .ok (.iconst 1, 1) := by decide +kernel
theorem dX10_callBelow_1 : decode cX10_callBelow 1 = .ok (.istore_n 2, 1) := by decide +kernel
theorem dX10_callBelow_2 : decode cX10_callBelow 2 = .ok (.iconst 0, 1) := by decide +kernel
theorem dX10_callBelow_3 : decode cX10_callBelow 3 = .ok (.istore_n 3, 1) := by decide +kernel
theorem dX10_callBelow_4 : decode cX10_callBelow 4 = .ok (.aload_n 0, 1) := by decide +kernel
theorem dX10_callBelow_5 : decode cX10_callBelow 5 = .ok (.iload_n 1, 1) := by decide +kernel
theorem dX10_callBelow_6 : decode cX10_callBelow 6 = .ok (.iload_n 2, 1) := by decide +kernel
theorem dX10_callBelow_7 : decode cX10_callBelow 7 = .ok (.invokevirtual 149, 3) := by decide +kernel
theorem dX10_callBelow_10 : decode cX10_callBelow 10 = .ok (.istore 4, 2) := by decide +kernel
theorem dX10_callBelow_12 : decode cX10_callBelow 12 = .ok (.iload 4, 2) := by decide +kernel
theorem dX10_callBelow_14 : decode cX10_callBelow 14 = .ok (.invokestatic 152, 3) := by decide +kernel
theorem dX10_callBelow_17 : decode cX10_callBelow 17 = .ok (.aload_n 0, 1) := by decide +kernel
theorem dX10_callBelow_18 : decode cX10_callBelow 18 = .ok (.getfield 16, 3) := by decide +kernel
theorem dX10_callBelow_21 : decode cX10_callBelow 21 = .ok (.iload_n 1, 1) := by decide +kernel
theorem dX10_callBelow_22 : decode cX10_callBelow 22 = .ok (.iaload, 1) := by decide +kernel
theorem dX10_callBelow_23 : decode cX10_callBelow 23 = .ok (.if_icmp .le 26, 3) := by decide +kernel
theorem dX10_callBelow_26 : decode cX10_callBelow 26 = .ok (.iload 4, 2) := by decide +kernel
theorem dX10_callBelow_28 : decode cX10_callBelow 28 = .ok (.istore_n 3, 1) := by decide +kernel
theorem dX10_callBelow_29 : decode cX10_callBelow 29 = .ok (.iload_n 2, 1) := by decide +kernel
theorem dX10_callBelow_30 : decode cX10_callBelow 30 = .ok (.aload_n 0, 1) := by decide +kernel
theorem dX10_callBelow_31 : decode cX10_callBelow 31 = .ok (.getfield 34, 3) := by decide +kernel
theorem dX10_callBelow_34 : decode cX10_callBelow 34 = .ok (.iconst 0, 1) := by decide +kernel
theorem dX10_callBelow_35 : decode cX10_callBelow 35 = .ok (.iaload, 1) := by decide +kernel
theorem dX10_callBelow_36 : decode cX10_callBelow 36 = .ok (.iadd, 1) := by decide +kernel
theorem dX10_callBelow_37 : decode cX10_callBelow 37 = .ok (.istore_n 2, 1) := by decide +kernel
theorem dX10_callBelow_38 : decode cX10_callBelow 38 = .ok (.aload_n 0, 1) := by decide +kernel
theorem dX10_callBelow_39 : decode cX10_callBelow 39 = .ok (.iload_n 1, 1) := by decide +kernel
theorem dX10_callBelow_40 : decode cX10_callBelow 40 = .ok (.iload_n 2, 1) := by decide +kernel
theorem dX10_callBelow_41 : decode cX10_callBelow 41 = .ok (.invokevirtual 149, 3) := by decide +kernel
theorem dX10_callBelow_44 : decode cX10_callBelow 44 = .ok (.istore 4, 2) := by decide +kernel
theorem dX10_callBelow_46 : decode cX10_callBelow 46 = .ok (.goto (-34), 3) := by decide +kernel
theorem dX10_callBelow_49 : decode cX10_callBelow 49 = .ok (.aload_n 0, 1) := by decide +kernel
theorem dX10_callBelow_50 : decode cX10_callBelow 50 = .ok (.iload_n 2, 1) := by decide +kernel
theorem dX10_callBelow_51 : decode cX10_callBelow 51 = .ok (.putfield 155, 3) := by decide +kernel
theorem dX10_callBelow_54 : decode cX10_callBelow 54 = .ok (.aload_n 0, 1) := by decide +kernel
theorem dX10_callBelow_55 : decode cX10_callBelow 55 = .ok (.iload 4, 2) := by decide +kernel
theorem dX10_callBelow_57 : decode cX10_callBelow 57 = .ok (.iload_n 1, 1) := by decide +kernel
theorem dX10_callBelow_58 : decode cX10_callBelow 58 = .ok (.iload_n 2, 1) := by decide +kernel
theorem dX10_callBelow_59 : decode cX10_callBelow 59 = .ok (.invokevirtual 158, 3) := by decide +kernel
theorem dX10_callBelow_62 : decode cX10_callBelow 62 = .ok (.aload_n 0, 1) := by decide +kernel
theorem dX10_callBelow_63 : decode cX10_callBelow 63 = .ok (.iload_n 3, 1) := by decide +kernel
theorem dX10_callBelow_64 : decode cX10_callBelow 64 = .ok (.iload 4, 2) := by decide +kernel
theorem dX10_callBelow_66 : decode cX10_callBelow 66 = .ok (.iconst (-1), 1) := by decide +kernel
theorem dX10_callBelow_67 : decode cX10_callBelow 67 = .ok (.ixor, 1) := by decide +kernel
theorem dX10_callBelow_68 : decode cX10_callBelow 68 = .ok (.iand, 1) := by decide +kernel
theorem dX10_callBelow_69 : decode cX10_callBelow 69 = .ok (.iload_n 1, 1) := by decide +kernel
theorem dX10_callBelow_70 : decode cX10_callBelow 70 = .ok (.iload_n 2, 1) := by decide +kernel
theorem dX10_callBelow_71 : decode cX10_callBelow 71 = .ok (.aload_n 0, 1) := by decide +kernel
theorem dX10_callBelow_72 : decode cX10_callBelow 72 = .ok (.getfield 34, 3) := by decide +kernel
theorem dX10_callBelow_75 : decode cX10_callBelow 75 = .ok (.iconst 0, 1) := by decide +kernel
theorem dX10_callBelow_76 : decode cX10_callBelow 76 = .ok (.iaload, 1) := by decide +kernel
theorem dX10_callBelow_77 : decode cX10_callBelow 77 = .ok (.isub, 1) := by decide +kernel
theorem dX10_callBelow_78 : decode cX10_callBelow 78 = .ok (.invokevirtual 158, 3) := by decide +kernel
theorem dX10_callBelow_81 : decode cX10_callBelow 81 = .ok (.return_, 1) := by decide +kernel
theorem dX10_callAbove_0 : decode cX10_callAbove 0 = .ok (.bipush 10, 2) := by decide +kernel
theorem dX10_callAbove_2 : decode cX10_callAbove 2 = .ok (.istore_n 2, 1) := by decide +kernel
theorem dX10_callAbove_3 : decode cX10_callAbove 3 = .ok (.iload_n 2, 1) := by decide +kernel
theorem dX10_callAbove_4 : decode cX10_callAbove 4 = .ok (.iconst 1, 1) := by decide +kernel
theorem dX10_callAbove_5 : decode cX10_callAbove 5 = .ok (.if_icmp .lt 27, 3) := by decide +kernel
theorem dX10_callAbove_8 : decode cX10_callAbove 8 = .ok (.aload_n 0, 1) := by decide +kernel
theorem dX10_callAbove_9 : decode cX10_callAbove 9 = .ok (.aload_n 0, 1) := by decide +kernel
theorem dX10_callAbove_10 : decode cX10_callAbove 10 = .ok (.iload_n 1, 1) := by decide +kernel
theorem dX10_callAbove_11 : decode cX10_callAbove 11 = .ok (.iload_n 2, 1) := by decide +kernel
theorem dX10_callAbove_12 : decode cX10_callAbove 12 = .ok (.invokevirtual 149, 3) := by decide +kernel
theorem dX10_callAbove_15 : decode cX10_callAbove 15 = .ok (.iload_n 1, 1) := by decide +kernel
theorem dX10_callAbove_16 : decode cX10_callAbove 16 = .ok (.iload_n 2, 1) := by decide +kernel
theorem dX10_callAbove_17 : decode cX10_callAbove 17 = .ok (.invokevirtual 158, 3) := by decide +kernel
theorem dX10_callAbove_20 : decode cX10_callAbove 20 = .ok (.iload_n 2, 1) := by decide +kernel
theorem dX10_callAbove_21 : decode cX10_callAbove 21 = .ok (.aload_n 0, 1) := by decide +kernel
theorem dX10_callAbove_22 : decode cX10_callAbove 22 = .ok (.getfield 34, 3) := by decide +kernel
theorem dX10_callAbove_25 : decode cX10_callAbove 25 = .ok (.iconst 0, 1) := by decide +kernel
theorem dX10_callAbove_26 : decode cX10_callAbove 26 = .ok (.iaload, 1) := by decide +kernel
theorem dX10_callAbove_27 : decode cX10_callAbove 27 = .ok (.isub, 1) := by decide +kernel
theorem dX10_callAbove_28 : decode cX10_callAbove 28 = .ok (.istore_n 2, 1) := by decide +kernel
theorem dX10_callAbove_29 : decode cX10_callAbove 29 = .ok (.goto (-26), 3) := by decide +kernel
theorem dX10_callAbove_32 : decode cX10_callAbove 32 = .ok (.return_, 1) := by decide +kernel
theorem dX10_callSealed_0 : decode cX10_callSealed 0 = .ok (.bipush 10, 2) := by decide +kernel
theorem dX10_callSealed_2 : decode cX10_callSealed 2 = .ok (.istore_n 2, 1) := by decide +kernel
theorem dX10_callSealed_3 : decode cX10_callSealed 3 = .ok (.iload_n 2, 1) := by decide +kernel
theorem dX10_callSealed_4 : decode cX10_callSealed 4 = .ok (.iconst 1, 1) := by decide +kernel
theorem dX10_callSealed_5 : decode cX10_callSealed 5 = .ok (.if_icmp .lt 21, 3) := by decide +kernel
theorem dX10_callSealed_8 : decode cX10_callSealed 8 = .ok (.aload_n 0, 1) := by decide +kernel
theorem dX10_callSealed_9 : decode cX10_callSealed 9 = .ok (.aload_n 0, 1) := by decide +kernel
theorem dX10_callSealed_10 : decode cX10_callSealed 10 = .ok (.iload_n 1, 1) := by decide +kernel
theorem dX10_callSealed_11 : decode cX10_callSealed 11 = .ok (.iload_n 2, 1) := by decide +kernel
theorem dX10_callSealed_12 : decode cX10_callSealed 12 = .ok (.invokevirtual 149, 3) := by decide +kernel
theorem dX10_callSealed_15 : decode cX10_callSealed 15 = .ok (.iload_n 1, 1) := by decide +kernel
theorem dX10_callSealed_16 : decode cX10_callSealed 16 = .ok (.iload_n 2, 1) := by decide +kernel
theorem dX10_callSealed_17 : decode cX10_callSealed 17 = .ok (.invokevirtual 158, 3) := by decide +kernel
theorem dX10_callSealed_20 : decode cX10_callSealed 20 = .ok (.iinc 2 (-1), 3) := by decide +kernel
theorem dX10_callSealed_23 : decode cX10_callSealed 23 = .ok (.goto (-20), 3) := by decide +kernel
theorem dX10_callSealed_26 : decode cX10_callSealed 26 = .ok (.return_, 1) := by decide +kernel
theorem dX10_callOne_0 : decode cX10_callOne 0 = .ok (.aload_n 0, 1) := by decide +kernel
theorem dX10_callOne_1 : decode cX10_callOne 1 = .ok (.aload_n 0, 1) := by decide +kernel
theorem dX10_callOne_2 : decode cX10_callOne 2 = .ok (.getfield 16, 3) := by decide +kernel
theorem dX10_callOne_5 : decode cX10_callOne 5 = .ok (.iload_n 1, 1) := by decide +kernel
theorem dX10_callOne_6 : decode cX10_callOne 6 = .ok (.iaload, 1) := by decide +kernel
theorem dX10_callOne_7 : decode cX10_callOne 7 = .ok (.putfield 146, 3) := by decide +kernel
theorem dX10_callOne_10 : decode cX10_callOne 10 = .ok (.iload_n 2, 1) := by decide +kernel
theorem dX10_callOne_11 : decode cX10_callOne 11 = .ok (.lookupswitch 41 #[(0, 25), (1, 33)], 25) := by decide +kernel
theorem dX10_callOne_36 : decode cX10_callOne 36 = .ok (.aload_n 0, 1) := by decide +kernel
theorem dX10_callOne_37 : decode cX10_callOne 37 = .ok (.iload_n 1, 1) := by decide +kernel
theorem dX10_callOne_38 : decode cX10_callOne 38 = .ok (.invokevirtual 162, 3) := by decide +kernel
theorem dX10_callOne_41 : decode cX10_callOne 41 = .ok (.goto 16, 3) := by decide +kernel
theorem dX10_callOne_44 : decode cX10_callOne 44 = .ok (.aload_n 0, 1) := by decide +kernel
theorem dX10_callOne_45 : decode cX10_callOne 45 = .ok (.iload_n 1, 1) := by decide +kernel
theorem dX10_callOne_46 : decode cX10_callOne 46 = .ok (.invokevirtual 165, 3) := by decide +kernel
theorem dX10_callOne_49 : decode cX10_callOne 49 = .ok (.goto 8, 3) := by decide +kernel
theorem dX10_callOne_52 : decode cX10_callOne 52 = .ok (.aload_n 0, 1) := by decide +kernel
theorem dX10_callOne_53 : decode cX10_callOne 53 = .ok (.iload_n 1, 1) := by decide +kernel
theorem dX10_callOne_54 : decode cX10_callOne 54 = .ok (.invokevirtual 168, 3) := by decide +kernel
theorem dX10_callOne_57 : decode cX10_callOne 57 = .ok (.return_, 1) := by decide +kernel
theorem dX10_begin_0 : decode cX10_begin 0 = .ok (.aload_n 0, 1) := by decide +kernel
theorem dX10_begin_1 : decode cX10_begin 1 = .ok (.iload_n 1, 1) := by decide +kernel
theorem dX10_begin_2 : decode cX10_begin 2 = .ok (.putfield 131, 3) := by decide +kernel
theorem dX10_begin_5 : decode cX10_begin 5 = .ok (.iconst 0, 1) := by decide +kernel
theorem dX10_begin_6 : decode cX10_begin 6 = .ok (.istore_n 2, 1) := by decide +kernel
theorem dX10_begin_7 : decode cX10_begin 7 = .ok (.iload_n 2, 1) := by decide +kernel
theorem dX10_begin_8 : decode cX10_begin 8 = .ok (.iconst 5, 1) := by decide +kernel
theorem dX10_begin_9 : decode cX10_begin 9 = .ok (.if_icmp .ge 24, 3) := by decide +kernel
theorem dX10_begin_12 : decode cX10_begin 12 = .ok (.aload_n 0, 1) := by decide +kernel
theorem dX10_begin_13 : decode cX10_begin 13 = .ok (.getfield 49, 3) := by decide +kernel
theorem dX10_begin_16 : decode cX10_begin 16 = .ok (.iload_n 2, 1) := by decide +kernel
theorem dX10_begin_17 : decode cX10_begin 17 = .ok (.bipush (-4), 2) := by decide +kernel
theorem dX10_begin_19 : decode cX10_begin 19 = .ok (.iastore, 1) := by decide +kernel
theorem dX10_begin_20 : decode cX10_begin 20 = .ok (.aload_n 0, 1) := by decide +kernel
theorem dX10_begin_21 : decode cX10_begin 21 = .ok (.getfield 52, 3) := by decide +kernel
theorem dX10_begin_24 : decode cX10_begin 24 = .ok (.iload_n 2, 1) := by decide +kernel
theorem dX10_begin_25 : decode cX10_begin 25 = .ok (.iconst 0, 1) := by decide +kernel
theorem dX10_begin_26 : decode cX10_begin 26 = .ok (.iastore, 1) := by decide +kernel
theorem dX10_begin_27 : decode cX10_begin 27 = .ok (.iinc 2 1, 3) := by decide +kernel
theorem dX10_begin_30 : decode cX10_begin 30 = .ok (.goto (-23), 3) := by decide +kernel
theorem dX10_begin_33 : decode cX10_begin 33 = .ok (.return_, 1) := by decide +kernel
theorem dX10_goFair_0 : decode cX10_goFair 0 = .ok (.aload_n 0, 1) := by decide +kernel
theorem dX10_goFair_1 : decode cX10_goFair 1 = .ok (.iload_n 1, 1) := by decide +kernel
theorem dX10_goFair_2 : decode cX10_goFair 2 = .ok (.invokevirtual 171, 3) := by decide +kernel
theorem dX10_goFair_5 : decode cX10_goFair 5 = .ok (.iconst 0, 1) := by decide +kernel
theorem dX10_goFair_6 : decode cX10_goFair 6 = .ok (.istore_n 2, 1) := by decide +kernel
theorem dX10_goFair_7 : decode cX10_goFair 7 = .ok (.iload_n 2, 1) := by decide +kernel
theorem dX10_goFair_8 : decode cX10_goFair 8 = .ok (.aload_n 0, 1) := by decide +kernel
theorem dX10_goFair_9 : decode cX10_goFair 9 = .ok (.getfield 13, 3) := by decide +kernel
theorem dX10_goFair_12 : decode cX10_goFair 12 = .ok (.iconst 0, 1) := by decide +kernel
theorem dX10_goFair_13 : decode cX10_goFair 13 = .ok (.iaload, 1) := by decide +kernel
theorem dX10_goFair_14 : decode cX10_goFair 14 = .ok (.if_icmp .ge 20, 3) := by decide +kernel
theorem dX10_goFair_17 : decode cX10_goFair 17 = .ok (.aload_n 0, 1) := by decide +kernel
theorem dX10_goFair_18 : decode cX10_goFair 18 = .ok (.iload_n 2, 1) := by decide +kernel
theorem dX10_goFair_19 : decode cX10_goFair 19 = .ok (.aload_n 0, 1) := by decide +kernel
theorem dX10_goFair_20 : decode cX10_goFair 20 = .ok (.getfield 31, 3) := by decide +kernel
theorem dX10_goFair_23 : decode cX10_goFair 23 = .ok (.iconst 0, 1) := by decide +kernel
theorem dX10_goFair_24 : decode cX10_goFair 24 = .ok (.iaload, 1) := by decide +kernel
theorem dX10_goFair_25 : decode cX10_goFair 25 = .ok (.invokevirtual 174, 3) := by decide +kernel
theorem dX10_goFair_28 : decode cX10_goFair 28 = .ok (.iinc 2 1, 3) := by decide +kernel
theorem dX10_goFair_31 : decode cX10_goFair 31 = .ok (.goto (-24), 3) := by decide +kernel
theorem dX10_goFair_34 : decode cX10_goFair 34 = .ok (.return_, 1) := by decide +kernel
theorem dX10_gainOf_0 : decode cX10_gainOf 0 = .ok (.aload_n 0, 1) := by decide +kernel
theorem dX10_gainOf_1 : decode cX10_gainOf 1 = .ok (.getfield 49, 3) := by decide +kernel
theorem dX10_gainOf_4 : decode cX10_gainOf 4 = .ok (.iload_n 1, 1) := by decide +kernel
theorem dX10_gainOf_5 : decode cX10_gainOf 5 = .ok (.iaload, 1) := by decide +kernel
theorem dX10_gainOf_6 : decode cX10_gainOf 6 = .ok (.ifCond .ge 7, 3) := by decide +kernel
theorem dX10_gainOf_9 : decode cX10_gainOf 9 = .ok (.iconst 0, 1) := by decide +kernel
theorem dX10_gainOf_10 : decode cX10_gainOf 10 = .ok (.goto 25, 3) := by decide +kernel
theorem dX10_gainOf_13 : decode cX10_gainOf 13 = .ok (.aload_n 0, 1) := by decide +kernel
theorem dX10_gainOf_14 : decode cX10_gainOf 14 = .ok (.getfield 25, 3) := by decide +kernel
theorem dX10_gainOf_17 : decode cX10_gainOf 17 = .ok (.iconst 3, 1) := by decide +kernel
theorem dX10_gainOf_18 : decode cX10_gainOf 18 = .ok (.iload_n 1, 1) := by decide +kernel
theorem dX10_gainOf_19 : decode cX10_gainOf 19 = .ok (.imul, 1) := by decide +kernel
theorem dX10_gainOf_20 : decode cX10_gainOf 20 = .ok (.aload_n 0, 1) := by decide +kernel
theorem dX10_gainOf_21 : decode cX10_gainOf 21 = .ok (.getfield 49, 3) := by decide +kernel
theorem dX10_gainOf_24 : decode cX10_gainOf 24 = .ok (.iload_n 1, 1) := by decide +kernel
theorem dX10_gainOf_25 : decode cX10_gainOf 25 = .ok (.iaload, 1) := by decide +kernel
theorem dX10_gainOf_26 : decode cX10_gainOf 26 = .ok (.iadd, 1) := by decide +kernel
theorem dX10_gainOf_27 : decode cX10_gainOf 27 = .ok (.iaload, 1) := by decide +kernel
theorem dX10_gainOf_28 : decode cX10_gainOf 28 = .ok (.aload_n 0, 1) := by decide +kernel
theorem dX10_gainOf_29 : decode cX10_gainOf 29 = .ok (.getfield 52, 3) := by decide +kernel
theorem dX10_gainOf_32 : decode cX10_gainOf 32 = .ok (.iload_n 1, 1) := by decide +kernel
theorem dX10_gainOf_33 : decode cX10_gainOf 33 = .ok (.iaload, 1) := by decide +kernel
theorem dX10_gainOf_34 : decode cX10_gainOf 34 = .ok (.isub, 1) := by decide +kernel
theorem dX10_gainOf_35 : decode cX10_gainOf 35 = .ok (.ireturn, 1) := by decide +kernel
theorem dX10_lad_0 : decode cX10_lad 0 = .ok (.aload_n 0, 1) := by decide +kernel
theorem dX10_lad_1 : decode cX10_lad 1 = .ok (.iload_n 1, 1) := by decide +kernel
theorem dX10_lad_2 : decode cX10_lad 2 = .ok (.invokevirtual 177, 3) := by decide +kernel
theorem dX10_lad_5 : decode cX10_lad 5 = .ok (.ifCond .eq 15, 3) := by decide +kernel
theorem dX10_lad_8 : decode cX10_lad 8 = .ok (.iload_n 2, 1) := by decide +kernel
theorem dX10_lad_9 : decode cX10_lad 9 = .ok (.i2l, 1) := by decide +kernel
theorem dX10_lad_10 : decode cX10_lad 10 = .ok (.lconst 0, 1) := by decide +kernel
theorem dX10_lad_11 : decode cX10_lad 11 = .ok (.ldc2_w 180, 3) := by decide +kernel
theorem dX10_lad_14 : decode cX10_lad 14 = .ok (.invokestatic 79, 3) := by decide +kernel
theorem dX10_lad_17 : decode cX10_lad 17 = .ok (.ifCond .ne 5, 3) := by decide +kernel
theorem dX10_lad_20 : decode cX10_lad 20 = .ok (.iconst (-1), 1) := by decide +kernel
theorem dX10_lad_21 : decode cX10_lad 21 = .ok (.ireturn, 1) := by decide +kernel
theorem dX10_lad_22 : decode cX10_lad 22 = .ok (.iload_n 2, 1) := by decide +kernel
theorem dX10_lad_23 : decode cX10_lad 23 = .ok (.iconst 2, 1) := by decide +kernel
theorem dX10_lad_24 : decode cX10_lad 24 = .ok (.if_icmp .ge 23, 3) := by decide +kernel
theorem dX10_lad_27 : decode cX10_lad 27 = .ok (.iload_n 2, 1) := by decide +kernel
theorem dX10_lad_28 : decode cX10_lad 28 = .ok (.ifCond .ne 12, 3) := by decide +kernel
theorem dX10_lad_31 : decode cX10_lad 31 = .ok (.aload_n 0, 1) := by decide +kernel
theorem dX10_lad_32 : decode cX10_lad 32 = .ok (.getfield 28, 3) := by decide +kernel
theorem dX10_lad_35 : decode cX10_lad 35 = .ok (.iload_n 1, 1) := by decide +kernel
theorem dX10_lad_36 : decode cX10_lad 36 = .ok (.iaload, 1) := by decide +kernel
theorem dX10_lad_37 : decode cX10_lad 37 = .ok (.goto 9, 3) := by decide +kernel
theorem dX10_lad_40 : decode cX10_lad 40 = .ok (.aload_n 0, 1) := by decide +kernel
theorem dX10_lad_41 : decode cX10_lad 41 = .ok (.getfield 22, 3) := by decide +kernel
theorem dX10_lad_44 : decode cX10_lad 44 = .ok (.iload_n 1, 1) := by decide +kernel
theorem dX10_lad_45 : decode cX10_lad 45 = .ok (.iaload, 1) := by decide +kernel
theorem dX10_lad_46 : decode cX10_lad 46 = .ok (.ireturn, 1) := by decide +kernel
theorem dX10_lad_47 : decode cX10_lad 47 = .ok (.aload_n 0, 1) := by decide +kernel
theorem dX10_lad_48 : decode cX10_lad 48 = .ok (.bipush (-4), 2) := by decide +kernel
theorem dX10_lad_50 : decode cX10_lad 50 = .ok (.invokevirtual 182, 3) := by decide +kernel
theorem dX10_lad_53 : decode cX10_lad 53 = .ok (.iload_n 2, 1) := by decide +kernel
theorem dX10_lad_54 : decode cX10_lad 54 = .ok (.iconst 2, 1) := by decide +kernel
theorem dX10_lad_55 : decode cX10_lad 55 = .ok (.if_icmp .ne 12, 3) := by decide +kernel
theorem dX10_lad_58 : decode cX10_lad 58 = .ok (.aload_n 0, 1) := by decide +kernel
theorem dX10_lad_59 : decode cX10_lad 59 = .ok (.getfield 49, 3) := by decide +kernel
theorem dX10_lad_62 : decode cX10_lad 62 = .ok (.iload_n 1, 1) := by decide +kernel
theorem dX10_lad_63 : decode cX10_lad 63 = .ok (.iaload, 1) := by decide +kernel
theorem dX10_lad_64 : decode cX10_lad 64 = .ok (.goto 22, 3) := by decide +kernel
theorem dX10_lad_67 : decode cX10_lad 67 = .ok (.iload_n 2, 1) := by decide +kernel
theorem dX10_lad_68 : decode cX10_lad 68 = .ok (.iconst 3, 1) := by decide +kernel
theorem dX10_lad_69 : decode cX10_lad 69 = .ok (.if_icmp .ne 12, 3) := by decide +kernel
theorem dX10_lad_72 : decode cX10_lad 72 = .ok (.aload_n 0, 1) := by decide +kernel
theorem dX10_lad_73 : decode cX10_lad 73 = .ok (.getfield 52, 3) := by decide +kernel
theorem dX10_lad_76 : decode cX10_lad 76 = .ok (.iload_n 1, 1) := by decide +kernel
theorem dX10_lad_77 : decode cX10_lad 77 = .ok (.iaload, 1) := by decide +kernel
theorem dX10_lad_78 : decode cX10_lad 78 = .ok (.goto 8, 3) := by decide +kernel
theorem dX10_lad_81 : decode cX10_lad 81 = .ok (.aload_n 0, 1) := by decide +kernel
theorem dX10_lad_82 : decode cX10_lad 82 = .ok (.iload_n 1, 1) := by decide +kernel
theorem dX10_lad_83 : decode cX10_lad 83 = .ok (.invokevirtual 185, 3) := by decide +kernel
theorem dX10_lad_86 : decode cX10_lad 86 = .ok (.ireturn, 1) := by decide +kernel
theorem dX10_mostOf_0 : decode cX10_mostOf 0 = .ok (.iconst 0, 1) := by decide +kernel
theorem dX10_mostOf_1 : decode cX10_mostOf 1 = .ok (.istore_n 2, 1) := by decide +kernel
theorem dX10_mostOf_2 : decode cX10_mostOf 2 = .ok (.iconst 0, 1) := by decide +kernel
theorem dX10_mostOf_3 : decode cX10_mostOf 3 = .ok (.istore_n 3, 1) := by decide +kernel
theorem dX10_mostOf_4 : decode cX10_mostOf 4 = .ok (.iload_n 3, 1) := by decide +kernel
theorem dX10_mostOf_5 : decode cX10_mostOf 5 = .ok (.aload_n 0, 1) := by decide +kernel
theorem dX10_mostOf_6 : decode cX10_mostOf 6 = .ok (.getfield 19, 3) := by decide +kernel
theorem dX10_mostOf_9 : decode cX10_mostOf 9 = .ok (.iconst 0, 1) := by decide +kernel
theorem dX10_mostOf_10 : decode cX10_mostOf 10 = .ok (.iaload, 1) := by decide +kernel
theorem dX10_mostOf_11 : decode cX10_mostOf 11 = .ok (.if_icmp .ge 40, 3) := by decide +kernel
theorem dX10_mostOf_14 : decode cX10_mostOf 14 = .ok (.aload_n 0, 1) := by decide +kernel
theorem dX10_mostOf_15 : decode cX10_mostOf 15 = .ok (.getfield 49, 3) := by decide +kernel
theorem dX10_mostOf_18 : decode cX10_mostOf 18 = .ok (.iload_n 3, 1) := by decide +kernel
theorem dX10_mostOf_19 : decode cX10_mostOf 19 = .ok (.iaload, 1) := by decide +kernel
theorem dX10_mostOf_20 : decode cX10_mostOf 20 = .ok (.iload_n 1, 1) := by decide +kernel
theorem dX10_mostOf_21 : decode cX10_mostOf 21 = .ok (.if_icmp .ne 22, 3) := by decide +kernel
theorem dX10_mostOf_24 : decode cX10_mostOf 24 = .ok (.aload_n 0, 1) := by decide +kernel
theorem dX10_mostOf_25 : decode cX10_mostOf 25 = .ok (.getfield 52, 3) := by decide +kernel
theorem dX10_mostOf_28 : decode cX10_mostOf 28 = .ok (.iload_n 3, 1) := by decide +kernel
theorem dX10_mostOf_29 : decode cX10_mostOf 29 = .ok (.iaload, 1) := by decide +kernel
theorem dX10_mostOf_30 : decode cX10_mostOf 30 = .ok (.iload_n 2, 1) := by decide +kernel
theorem dX10_mostOf_31 : decode cX10_mostOf 31 = .ok (.if_icmp .le 12, 3) := by decide +kernel
theorem dX10_mostOf_34 : decode cX10_mostOf 34 = .ok (.aload_n 0, 1) := by decide +kernel
theorem dX10_mostOf_35 : decode cX10_mostOf 35 = .ok (.getfield 52, 3) := by decide +kernel
theorem dX10_mostOf_38 : decode cX10_mostOf 38 = .ok (.iload_n 3, 1) := by decide +kernel
theorem dX10_mostOf_39 : decode cX10_mostOf 39 = .ok (.iaload, 1) := by decide +kernel
theorem dX10_mostOf_40 : decode cX10_mostOf 40 = .ok (.goto 4, 3) := by decide +kernel
theorem dX10_mostOf_43 : decode cX10_mostOf 43 = .ok (.iload_n 2, 1) := by decide +kernel
theorem dX10_mostOf_44 : decode cX10_mostOf 44 = .ok (.istore_n 2, 1) := by decide +kernel
theorem dX10_mostOf_45 : decode cX10_mostOf 45 = .ok (.iinc 3 1, 3) := by decide +kernel
theorem dX10_mostOf_48 : decode cX10_mostOf 48 = .ok (.goto (-44), 3) := by decide +kernel
theorem dX10_mostOf_51 : decode cX10_mostOf 51 = .ok (.iload_n 2, 1) := by decide +kernel
theorem dX10_mostOf_52 : decode cX10_mostOf 52 = .ok (.ireturn, 1) := by decide +kernel
theorem dX10_ladsOf_0 : decode cX10_ladsOf 0 = .ok (.iconst 0, 1) := by decide +kernel
theorem dX10_ladsOf_1 : decode cX10_ladsOf 1 = .ok (.istore_n 2, 1) := by decide +kernel
theorem dX10_ladsOf_2 : decode cX10_ladsOf 2 = .ok (.iconst 0, 1) := by decide +kernel
theorem dX10_ladsOf_3 : decode cX10_ladsOf 3 = .ok (.istore_n 3, 1) := by decide +kernel
theorem dX10_ladsOf_4 : decode cX10_ladsOf 4 = .ok (.iload_n 3, 1) := by decide +kernel
theorem dX10_ladsOf_5 : decode cX10_ladsOf 5 = .ok (.aload_n 0, 1) := by decide +kernel
theorem dX10_ladsOf_6 : decode cX10_ladsOf 6 = .ok (.getfield 19, 3) := by decide +kernel
theorem dX10_ladsOf_9 : decode cX10_ladsOf 9 = .ok (.iconst 0, 1) := by decide +kernel
theorem dX10_ladsOf_10 : decode cX10_ladsOf 10 = .ok (.iaload, 1) := by decide +kernel
theorem dX10_ladsOf_11 : decode cX10_ladsOf 11 = .ok (.if_icmp .ge 29, 3) := by decide +kernel
theorem dX10_ladsOf_14 : decode cX10_ladsOf 14 = .ok (.iload_n 2, 1) := by decide +kernel
theorem dX10_ladsOf_15 : decode cX10_ladsOf 15 = .ok (.aload_n 0, 1) := by decide +kernel
theorem dX10_ladsOf_16 : decode cX10_ladsOf 16 = .ok (.getfield 49, 3) := by decide +kernel
theorem dX10_ladsOf_19 : decode cX10_ladsOf 19 = .ok (.iload_n 3, 1) := by decide +kernel
theorem dX10_ladsOf_20 : decode cX10_ladsOf 20 = .ok (.iaload, 1) := by decide +kernel
theorem dX10_ladsOf_21 : decode cX10_ladsOf 21 = .ok (.iload_n 1, 1) := by decide +kernel
theorem dX10_ladsOf_22 : decode cX10_ladsOf 22 = .ok (.if_icmp .ne 9, 3) := by decide +kernel
theorem dX10_ladsOf_25 : decode cX10_ladsOf 25 = .ok (.iconst 1, 1) := by decide +kernel
theorem dX10_ladsOf_26 : decode cX10_ladsOf 26 = .ok (.iload_n 3, 1) := by decide +kernel
theorem dX10_ladsOf_27 : decode cX10_ladsOf 27 = .ok (.ishl, 1) := by decide +kernel
theorem dX10_ladsOf_28 : decode cX10_ladsOf 28 = .ok (.goto 4, 3) := by decide +kernel
theorem dX10_ladsOf_31 : decode cX10_ladsOf 31 = .ok (.iconst 0, 1) := by decide +kernel
theorem dX10_ladsOf_32 : decode cX10_ladsOf 32 = .ok (.ior, 1) := by decide +kernel
theorem dX10_ladsOf_33 : decode cX10_ladsOf 33 = .ok (.istore_n 2, 1) := by decide +kernel
theorem dX10_ladsOf_34 : decode cX10_ladsOf 34 = .ok (.iinc 3 1, 3) := by decide +kernel
theorem dX10_ladsOf_37 : decode cX10_ladsOf 37 = .ok (.goto (-33), 3) := by decide +kernel
theorem dX10_ladsOf_40 : decode cX10_ladsOf 40 = .ok (.iload_n 2, 1) := by decide +kernel
theorem dX10_ladsOf_41 : decode cX10_ladsOf 41 = .ok (.ireturn, 1) := by decide +kernel
theorem dX10_master_0 : decode cX10_master 0 = .ok (.aload_n 0, 1) := by decide +kernel
theorem dX10_master_1 : decode cX10_master 1 = .ok (.iload_n 1, 1) := by decide +kernel
theorem dX10_master_2 : decode cX10_master 2 = .ok (.invokevirtual 188, 3) := by decide +kernel
theorem dX10_master_5 : decode cX10_master 5 = .ok (.ifCond .eq 15, 3) := by decide +kernel
theorem dX10_master_8 : decode cX10_master 8 = .ok (.iload_n 2, 1) := by decide +kernel
theorem dX10_master_9 : decode cX10_master 9 = .ok (.i2l, 1) := by decide +kernel
theorem dX10_master_10 : decode cX10_master 10 = .ok (.lconst 0, 1) := by decide +kernel
theorem dX10_master_11 : decode cX10_master 11 = .ok (.ldc2_w 100, 3) := by decide +kernel
theorem dX10_master_14 : decode cX10_master 14 = .ok (.invokestatic 79, 3) := by decide +kernel
theorem dX10_master_17 : decode cX10_master 17 = .ok (.ifCond .ne 5, 3) := by decide +kernel
theorem dX10_master_20 : decode cX10_master 20 = .ok (.iconst (-1), 1) := by decide +kernel
theorem dX10_master_21 : decode cX10_master 21 = .ok (.ireturn, 1) := by decide +kernel
theorem dX10_master_22 : decode cX10_master 22 = .ok (.iload_n 2, 1) := by decide +kernel
theorem dX10_master_23 : decode cX10_master 23 = .ok (.ifCond .ne 10, 3) := by decide +kernel
theorem dX10_master_26 : decode cX10_master 26 = .ok (.aload_n 0, 1) := by decide +kernel
theorem dX10_master_27 : decode cX10_master 27 = .ok (.getfield 16, 3) := by decide +kernel
theorem dX10_master_30 : decode cX10_master 30 = .ok (.iload_n 1, 1) := by decide +kernel
theorem dX10_master_31 : decode cX10_master 31 = .ok (.iaload, 1) := by decide +kernel
theorem dX10_master_32 : decode cX10_master 32 = .ok (.ireturn, 1) := by decide +kernel
theorem dX10_master_33 : decode cX10_master 33 = .ok (.aload_n 0, 1) := by decide +kernel
theorem dX10_master_34 : decode cX10_master 34 = .ok (.bipush (-4), 2) := by decide +kernel
theorem dX10_master_36 : decode cX10_master 36 = .ok (.invokevirtual 182, 3) := by decide +kernel
theorem dX10_master_39 : decode cX10_master 39 = .ok (.iload_n 2, 1) := by decide +kernel
theorem dX10_master_40 : decode cX10_master 40 = .ok (.iconst 1, 1) := by decide +kernel
theorem dX10_master_41 : decode cX10_master 41 = .ok (.if_icmp .ne 11, 3) := by decide +kernel
theorem dX10_master_44 : decode cX10_master 44 = .ok (.aload_n 0, 1) := by decide +kernel
theorem dX10_master_45 : decode cX10_master 45 = .ok (.iload_n 1, 1) := by decide +kernel
theorem dX10_master_46 : decode cX10_master 46 = .ok (.invokevirtual 191, 3) := by decide +kernel
theorem dX10_master_49 : decode cX10_master 49 = .ok (.goto 8, 3) := by decide +kernel
theorem dX10_master_52 : decode cX10_master 52 = .ok (.aload_n 0, 1) := by decide +kernel
theorem dX10_master_53 : decode cX10_master 53 = .ok (.iload_n 1, 1) := by decide +kernel
theorem dX10_master_54 : decode cX10_master 54 = .ok (.invokevirtual 194, 3) := by decide +kernel
theorem dX10_master_57 : decode cX10_master 57 = .ok (.ireturn, 1) := by decide +kernel
theorem dX10_wants_0 : decode cX10_wants 0 = .ok (.aload_n 0, 1) := by decide +kernel
theorem dX10_wants_1 : decode cX10_wants 1 = .ok (.iload_n 1, 1) := by decide +kernel
theorem dX10_wants_2 : decode cX10_wants 2 = .ok (.invokevirtual 177, 3) := by decide +kernel
theorem dX10_wants_5 : decode cX10_wants 5 = .ok (.ifCond .eq 21, 3) := by decide +kernel
theorem dX10_wants_8 : decode cX10_wants 8 = .ok (.aload_n 0, 1) := by decide +kernel
theorem dX10_wants_9 : decode cX10_wants 9 = .ok (.iload_n 2, 1) := by decide +kernel
theorem dX10_wants_10 : decode cX10_wants 10 = .ok (.invokevirtual 188, 3) := by decide +kernel
theorem dX10_wants_13 : decode cX10_wants 13 = .ok (.ifCond .eq 13, 3) := by decide +kernel
theorem dX10_wants_16 : decode cX10_wants 16 = .ok (.iload_n 3, 1) := by decide +kernel
theorem dX10_wants_17 : decode cX10_wants 17 = .ok (.i2l, 1) := by decide +kernel
theorem dX10_wants_18 : decode cX10_wants 18 = .ok (.lconst 0, 1) := by decide +kernel
theorem dX10_wants_19 : decode cX10_wants 19 = .ok (.lconst 1, 1) := by decide +kernel
theorem dX10_wants_20 : decode cX10_wants 20 = .ok (.invokestatic 79, 3) := by decide +kernel
theorem dX10_wants_23 : decode cX10_wants 23 = .ok (.ifCond .ne 5, 3) := by decide +kernel
theorem dX10_wants_26 : decode cX10_wants 26 = .ok (.iconst (-1), 1) := by decide +kernel
theorem dX10_wants_27 : decode cX10_wants 27 = .ok (.ireturn, 1) := by decide +kernel
theorem dX10_wants_28 : decode cX10_wants 28 = .ok (.iload_n 3, 1) := by decide +kernel
theorem dX10_wants_29 : decode cX10_wants 29 = .ok (.ifCond .ne 16, 3) := by decide +kernel
theorem dX10_wants_32 : decode cX10_wants 32 = .ok (.aload_n 0, 1) := by decide +kernel
theorem dX10_wants_33 : decode cX10_wants 33 = .ok (.getfield 25, 3) := by decide +kernel
theorem dX10_wants_36 : decode cX10_wants 36 = .ok (.iconst 3, 1) := by decide +kernel
theorem dX10_wants_37 : decode cX10_wants 37 = .ok (.iload_n 1, 1) := by decide +kernel
theorem dX10_wants_38 : decode cX10_wants 38 = .ok (.imul, 1) := by decide +kernel
theorem dX10_wants_39 : decode cX10_wants 39 = .ok (.iload_n 2, 1) := by decide +kernel
theorem dX10_wants_40 : decode cX10_wants 40 = .ok (.iadd, 1) := by decide +kernel
theorem dX10_wants_41 : decode cX10_wants 41 = .ok (.iaload, 1) := by decide +kernel
theorem dX10_wants_42 : decode cX10_wants 42 = .ok (.goto 9, 3) := by decide +kernel
theorem dX10_wants_45 : decode cX10_wants 45 = .ok (.aload_n 0, 1) := by decide +kernel
theorem dX10_wants_46 : decode cX10_wants 46 = .ok (.iload_n 1, 1) := by decide +kernel
theorem dX10_wants_47 : decode cX10_wants 47 = .ok (.iload_n 2, 1) := by decide +kernel
theorem dX10_wants_48 : decode cX10_wants 48 = .ok (.invokevirtual 134, 3) := by decide +kernel
theorem dX10_wants_51 : decode cX10_wants 51 = .ok (.ireturn, 1) := by decide +kernel
theorem dX10_all_0 : decode cX10_all 0 = .ok (.iload_n 1, 1) := by decide +kernel
theorem dX10_all_1 : decode cX10_all 1 = .ok (.i2l, 1) := by decide +kernel
theorem dX10_all_2 : decode cX10_all 2 = .ok (.lconst 0, 1) := by decide +kernel
theorem dX10_all_3 : decode cX10_all 3 = .ok (.ldc2_w 100, 3) := by decide +kernel
theorem dX10_all_6 : decode cX10_all 6 = .ok (.invokestatic 79, 3) := by decide +kernel
theorem dX10_all_9 : decode cX10_all 9 = .ok (.ifCond .ne 5, 3) := by decide +kernel
theorem dX10_all_12 : decode cX10_all 12 = .ok (.iconst (-1), 1) := by decide +kernel
theorem dX10_all_13 : decode cX10_all 13 = .ok (.ireturn, 1) := by decide +kernel
theorem dX10_all_14 : decode cX10_all 14 = .ok (.aload_n 0, 1) := by decide +kernel
theorem dX10_all_15 : decode cX10_all 15 = .ok (.bipush (-4), 2) := by decide +kernel
theorem dX10_all_17 : decode cX10_all 17 = .ok (.invokevirtual 182, 3) := by decide +kernel
theorem dX10_all_20 : decode cX10_all 20 = .ok (.iconst 0, 1) := by decide +kernel
theorem dX10_all_21 : decode cX10_all 21 = .ok (.istore_n 2, 1) := by decide +kernel
theorem dX10_all_22 : decode cX10_all 22 = .ok (.iconst 0, 1) := by decide +kernel
theorem dX10_all_23 : decode cX10_all 23 = .ok (.istore_n 3, 1) := by decide +kernel
theorem dX10_all_24 : decode cX10_all 24 = .ok (.iload_n 3, 1) := by decide +kernel
theorem dX10_all_25 : decode cX10_all 25 = .ok (.aload_n 0, 1) := by decide +kernel
theorem dX10_all_26 : decode cX10_all 26 = .ok (.getfield 19, 3) := by decide +kernel
theorem dX10_all_29 : decode cX10_all 29 = .ok (.iconst 0, 1) := by decide +kernel
theorem dX10_all_30 : decode cX10_all 30 = .ok (.iaload, 1) := by decide +kernel
theorem dX10_all_31 : decode cX10_all 31 = .ok (.if_icmp .ge 52, 3) := by decide +kernel
theorem dX10_all_34 : decode cX10_all 34 = .ok (.iload_n 2, 1) := by decide +kernel
theorem dX10_all_35 : decode cX10_all 35 = .ok (.iload_n 1, 1) := by decide +kernel
theorem dX10_all_36 : decode cX10_all 36 = .ok (.ifCond .ne 12, 3) := by decide +kernel
theorem dX10_all_39 : decode cX10_all 39 = .ok (.aload_n 0, 1) := by decide +kernel
theorem dX10_all_40 : decode cX10_all 40 = .ok (.getfield 52, 3) := by decide +kernel
theorem dX10_all_43 : decode cX10_all 43 = .ok (.iload_n 3, 1) := by decide +kernel
theorem dX10_all_44 : decode cX10_all 44 = .ok (.iaload, 1) := by decide +kernel
theorem dX10_all_45 : decode cX10_all 45 = .ok (.goto 30, 3) := by decide +kernel
theorem dX10_all_48 : decode cX10_all 48 = .ok (.iload_n 1, 1) := by decide +kernel
theorem dX10_all_49 : decode cX10_all 49 = .ok (.iconst 1, 1) := by decide +kernel
theorem dX10_all_50 : decode cX10_all 50 = .ok (.if_icmp .ne 11, 3) := by decide +kernel
theorem dX10_all_53 : decode cX10_all 53 = .ok (.aload_n 0, 1) := by decide +kernel
theorem dX10_all_54 : decode cX10_all 54 = .ok (.iload_n 3, 1) := by decide +kernel
theorem dX10_all_55 : decode cX10_all 55 = .ok (.invokevirtual 185, 3) := by decide +kernel
theorem dX10_all_58 : decode cX10_all 58 = .ok (.goto 17, 3) := by decide +kernel
theorem dX10_all_61 : decode cX10_all 61 = .ok (.aload_n 0, 1) := by decide +kernel
theorem dX10_all_62 : decode cX10_all 62 = .ok (.getfield 49, 3) := by decide +kernel
theorem dX10_all_65 : decode cX10_all 65 = .ok (.iload_n 3, 1) := by decide +kernel
theorem dX10_all_66 : decode cX10_all 66 = .ok (.iaload, 1) := by decide +kernel
theorem dX10_all_67 : decode cX10_all 67 = .ok (.ifCond .ge 7, 3) := by decide +kernel
theorem dX10_all_70 : decode cX10_all 70 = .ok (.iconst 0, 1) := by decide +kernel
theorem dX10_all_71 : decode cX10_all 71 = .ok (.goto 4, 3) := by decide +kernel
theorem dX10_all_74 : decode cX10_all 74 = .ok (.iconst 1, 1) := by decide +kernel
theorem dX10_all_75 : decode cX10_all 75 = .ok (.iadd, 1) := by decide +kernel
theorem dX10_all_76 : decode cX10_all 76 = .ok (.istore_n 2, 1) := by decide +kernel
theorem dX10_all_77 : decode cX10_all 77 = .ok (.iinc 3 1, 3) := by decide +kernel
theorem dX10_all_80 : decode cX10_all 80 = .ok (.goto (-56), 3) := by decide +kernel
theorem dX10_all_83 : decode cX10_all 83 = .ok (.iload_n 2, 1) := by decide +kernel
theorem dX10_all_84 : decode cX10_all 84 = .ok (.ireturn, 1) := by decide +kernel
theorem dX10_note_0 : decode cX10_note 0 = .ok (.aload_n 0, 1) := by decide +kernel
theorem dX10_note_1 : decode cX10_note 1 = .ok (.getfield 125, 3) := by decide +kernel
theorem dX10_note_4 : decode cX10_note 4 = .ok (.bipush 8, 2) := by decide +kernel
theorem dX10_note_6 : decode cX10_note 6 = .ok (.if_icmp .ne 41, 3) := by decide +kernel
theorem dX10_note_9 : decode cX10_note 9 = .ok (.iconst 0, 1) := by decide +kernel
theorem dX10_note_10 : decode cX10_note 10 = .ok (.istore_n 3, 1) := by decide +kernel
theorem dX10_note_11 : decode cX10_note 11 = .ok (.iload_n 3, 1) := by decide +kernel
theorem dX10_note_12 : decode cX10_note 12 = .ok (.bipush 14, 2) := by decide +kernel
theorem dX10_note_14 : decode cX10_note 14 = .ok (.if_icmp .ge 23, 3) := by decide +kernel
theorem dX10_note_17 : decode cX10_note 17 = .ok (.aload_n 0, 1) := by decide +kernel
theorem dX10_note_18 : decode cX10_note 18 = .ok (.getfield 37, 3) := by decide +kernel
theorem dX10_note_21 : decode cX10_note 21 = .ok (.iload_n 3, 1) := by decide +kernel
theorem dX10_note_22 : decode cX10_note 22 = .ok (.aload_n 0, 1) := by decide +kernel
theorem dX10_note_23 : decode cX10_note 23 = .ok (.getfield 37, 3) := by decide +kernel
theorem dX10_note_26 : decode cX10_note 26 = .ok (.iload_n 3, 1) := by decide +kernel
theorem dX10_note_27 : decode cX10_note 27 = .ok (.iconst 2, 1) := by decide +kernel
theorem dX10_note_28 : decode cX10_note 28 = .ok (.iadd, 1) := by decide +kernel
theorem dX10_note_29 : decode cX10_note 29 = .ok (.iaload, 1) := by decide +kernel
theorem dX10_note_30 : decode cX10_note 30 = .ok (.iastore, 1) := by decide +kernel
theorem dX10_note_31 : decode cX10_note 31 = .ok (.iinc 3 1, 3) := by decide +kernel
theorem dX10_note_34 : decode cX10_note 34 = .ok (.goto (-23), 3) := by decide +kernel
theorem dX10_note_37 : decode cX10_note 37 = .ok (.aload_n 0, 1) := by decide +kernel
theorem dX10_note_38 : decode cX10_note 38 = .ok (.dup, 1) := by decide +kernel
theorem dX10_note_39 : decode cX10_note 39 = .ok (.getfield 125, 3) := by decide +kernel
theorem dX10_note_42 : decode cX10_note 42 = .ok (.iconst 1, 1) := by decide +kernel
theorem dX10_note_43 : decode cX10_note 43 = .ok (.isub, 1) := by decide +kernel
theorem dX10_note_44 : decode cX10_note 44 = .ok (.putfield 125, 3) := by decide +kernel
theorem dX10_note_47 : decode cX10_note 47 = .ok (.aload_n 0, 1) := by decide +kernel
theorem dX10_note_48 : decode cX10_note 48 = .ok (.getfield 37, 3) := by decide +kernel
theorem dX10_note_51 : decode cX10_note 51 = .ok (.iconst 2, 1) := by decide +kernel
theorem dX10_note_52 : decode cX10_note 52 = .ok (.aload_n 0, 1) := by decide +kernel
theorem dX10_note_53 : decode cX10_note 53 = .ok (.getfield 125, 3) := by decide +kernel
theorem dX10_note_56 : decode cX10_note 56 = .ok (.imul, 1) := by decide +kernel
theorem dX10_note_57 : decode cX10_note 57 = .ok (.iload_n 1, 1) := by decide +kernel
theorem dX10_note_58 : decode cX10_note 58 = .ok (.iastore, 1) := by decide +kernel
theorem dX10_note_59 : decode cX10_note 59 = .ok (.aload_n 0, 1) := by decide +kernel
theorem dX10_note_60 : decode cX10_note 60 = .ok (.getfield 37, 3) := by decide +kernel
theorem dX10_note_63 : decode cX10_note 63 = .ok (.iconst 2, 1) := by decide +kernel
theorem dX10_note_64 : decode cX10_note 64 = .ok (.aload_n 0, 1) := by decide +kernel
theorem dX10_note_65 : decode cX10_note 65 = .ok (.getfield 125, 3) := by decide +kernel
theorem dX10_note_68 : decode cX10_note 68 = .ok (.imul, 1) := by decide +kernel
theorem dX10_note_69 : decode cX10_note 69 = .ok (.iconst 1, 1) := by decide +kernel
theorem dX10_note_70 : decode cX10_note 70 = .ok (.iadd, 1) := by decide +kernel
theorem dX10_note_71 : decode cX10_note 71 = .ok (.iload_n 2, 1) := by decide +kernel
theorem dX10_note_72 : decode cX10_note 72 = .ok (.iastore, 1) := by decide +kernel
theorem dX10_note_73 : decode cX10_note 73 = .ok (.aload_n 0, 1) := by decide +kernel
theorem dX10_note_74 : decode cX10_note 74 = .ok (.dup, 1) := by decide +kernel
theorem dX10_note_75 : decode cX10_note 75 = .ok (.getfield 125, 3) := by decide +kernel
theorem dX10_note_78 : decode cX10_note 78 = .ok (.iconst 1, 1) := by decide +kernel
theorem dX10_note_79 : decode cX10_note 79 = .ok (.iadd, 1) := by decide +kernel
theorem dX10_note_80 : decode cX10_note 80 = .ok (.putfield 125, 3) := by decide +kernel
theorem dX10_note_83 : decode cX10_note 83 = .ok (.iload_n 2, 1) := by decide +kernel
theorem dX10_note_84 : decode cX10_note 84 = .ok (.ireturn, 1) := by decide +kernel
theorem dX10_limit_0 : decode cX10_limit 0 = .ok (.aload_n 0, 1) := by decide +kernel
theorem dX10_limit_1 : decode cX10_limit 1 = .ok (.iload_n 1, 1) := by decide +kernel
theorem dX10_limit_2 : decode cX10_limit 2 = .ok (.invokevirtual 177, 3) := by decide +kernel
theorem dX10_limit_5 : decode cX10_limit 5 = .ok (.ifCond .eq 15, 3) := by decide +kernel
theorem dX10_limit_8 : decode cX10_limit 8 = .ok (.iload_n 2, 1) := by decide +kernel
theorem dX10_limit_9 : decode cX10_limit 9 = .ok (.i2l, 1) := by decide +kernel
theorem dX10_limit_10 : decode cX10_limit 10 = .ok (.lconst 1, 1) := by decide +kernel
theorem dX10_limit_11 : decode cX10_limit 11 = .ok (.ldc2_w 108, 3) := by decide +kernel
theorem dX10_limit_14 : decode cX10_limit 14 = .ok (.invokestatic 79, 3) := by decide +kernel
theorem dX10_limit_17 : decode cX10_limit 17 = .ok (.ifCond .ne 5, 3) := by decide +kernel
theorem dX10_limit_20 : decode cX10_limit 20 = .ok (.iconst (-1), 1) := by decide +kernel
theorem dX10_limit_21 : decode cX10_limit 21 = .ok (.ireturn, 1) := by decide +kernel
theorem dX10_limit_22 : decode cX10_limit 22 = .ok (.aload_n 0, 1) := by decide +kernel
theorem dX10_limit_23 : decode cX10_limit 23 = .ok (.iload_n 1, 1) := by decide +kernel
theorem dX10_limit_24 : decode cX10_limit 24 = .ok (.aload_n 0, 1) := by decide +kernel
theorem dX10_limit_25 : decode cX10_limit 25 = .ok (.getfield 28, 3) := by decide +kernel
theorem dX10_limit_28 : decode cX10_limit 28 = .ok (.iload_n 1, 1) := by decide +kernel
theorem dX10_limit_29 : decode cX10_limit 29 = .ok (.iaload, 1) := by decide +kernel
theorem dX10_limit_30 : decode cX10_limit 30 = .ok (.invokevirtual 197, 3) := by decide +kernel
theorem dX10_limit_33 : decode cX10_limit 33 = .ok (.istore_n 3, 1) := by decide +kernel
theorem dX10_limit_34 : decode cX10_limit 34 = .ok (.aload_n 0, 1) := by decide +kernel
theorem dX10_limit_35 : decode cX10_limit 35 = .ok (.getfield 28, 3) := by decide +kernel
theorem dX10_limit_38 : decode cX10_limit 38 = .ok (.iload_n 1, 1) := by decide +kernel
theorem dX10_limit_39 : decode cX10_limit 39 = .ok (.iload_n 2, 1) := by decide +kernel
theorem dX10_limit_40 : decode cX10_limit 40 = .ok (.iastore, 1) := by decide +kernel
theorem dX10_limit_41 : decode cX10_limit 41 = .ok (.iload_n 3, 1) := by decide +kernel
theorem dX10_limit_42 : decode cX10_limit 42 = .ok (.ireturn, 1) := by decide +kernel
theorem dX10_calls_0 : decode cX10_calls 0 = .ok (.iload_n 1, 1) := by decide +kernel
theorem dX10_calls_1 : decode cX10_calls 1 = .ok (.i2l, 1) := by decide +kernel
theorem dX10_calls_2 : decode cX10_calls 2 = .ok (.lconst 0, 1) := by decide +kernel
theorem dX10_calls_3 : decode cX10_calls 3 = .ok (.ldc2_w 100, 3) := by decide +kernel
theorem dX10_calls_6 : decode cX10_calls 6 = .ok (.invokestatic 79, 3) := by decide +kernel
theorem dX10_calls_9 : decode cX10_calls 9 = .ok (.ifCond .ne 5, 3) := by decide +kernel
theorem dX10_calls_12 : decode cX10_calls 12 = .ok (.iconst (-1), 1) := by decide +kernel
theorem dX10_calls_13 : decode cX10_calls 13 = .ok (.ireturn, 1) := by decide +kernel
theorem dX10_calls_14 : decode cX10_calls 14 = .ok (.aload_n 0, 1) := by decide +kernel
theorem dX10_calls_15 : decode cX10_calls 15 = .ok (.iconst 5, 1) := by decide +kernel
theorem dX10_calls_16 : decode cX10_calls 16 = .ok (.aload_n 0, 1) := by decide +kernel
theorem dX10_calls_17 : decode cX10_calls 17 = .ok (.getfield 31, 3) := by decide +kernel
theorem dX10_calls_20 : decode cX10_calls 20 = .ok (.iconst 0, 1) := by decide +kernel
theorem dX10_calls_21 : decode cX10_calls 21 = .ok (.iaload, 1) := by decide +kernel
theorem dX10_calls_22 : decode cX10_calls 22 = .ok (.invokevirtual 197, 3) := by decide +kernel
theorem dX10_calls_25 : decode cX10_calls 25 = .ok (.istore_n 2, 1) := by decide +kernel
theorem dX10_calls_26 : decode cX10_calls 26 = .ok (.aload_n 0, 1) := by decide +kernel
theorem dX10_calls_27 : decode cX10_calls 27 = .ok (.getfield 31, 3) := by decide +kernel
theorem dX10_calls_30 : decode cX10_calls 30 = .ok (.iconst 0, 1) := by decide +kernel
theorem dX10_calls_31 : decode cX10_calls 31 = .ok (.iload_n 1, 1) := by decide +kernel
theorem dX10_calls_32 : decode cX10_calls 32 = .ok (.iastore, 1) := by decide +kernel
theorem dX10_calls_33 : decode cX10_calls 33 = .ok (.iload_n 2, 1) := by decide +kernel
theorem dX10_calls_34 : decode cX10_calls 34 = .ok (.ireturn, 1) := by decide +kernel
theorem dX10_step_0 : decode cX10_step 0 = .ok (.iload_n 1, 1) := by decide +kernel
theorem dX10_step_1 : decode cX10_step 1 = .ok (.i2l, 1) := by decide +kernel
theorem dX10_step_2 : decode cX10_step 2 = .ok (.lconst 1, 1) := by decide +kernel
theorem dX10_step_3 : decode cX10_step 3 = .ok (.ldc2_w 106, 3) := by decide +kernel
theorem dX10_step_6 : decode cX10_step 6 = .ok (.invokestatic 79, 3) := by decide +kernel
theorem dX10_step_9 : decode cX10_step 9 = .ok (.ifCond .ne 5, 3) := by decide +kernel
theorem dX10_step_12 : decode cX10_step 12 = .ok (.iconst (-1), 1) := by decide +kernel
theorem dX10_step_13 : decode cX10_step 13 = .ok (.ireturn, 1) := by decide +kernel
theorem dX10_step_14 : decode cX10_step 14 = .ok (.aload_n 0, 1) := by decide +kernel
theorem dX10_step_15 : decode cX10_step 15 = .ok (.bipush 6, 2) := by decide +kernel
theorem dX10_step_17 : decode cX10_step 17 = .ok (.aload_n 0, 1) := by decide +kernel
theorem dX10_step_18 : decode cX10_step 18 = .ok (.getfield 34, 3) := by decide +kernel
theorem dX10_step_21 : decode cX10_step 21 = .ok (.iconst 0, 1) := by decide +kernel
theorem dX10_step_22 : decode cX10_step 22 = .ok (.iaload, 1) := by decide +kernel
theorem dX10_step_23 : decode cX10_step 23 = .ok (.invokevirtual 197, 3) := by decide +kernel
theorem dX10_step_26 : decode cX10_step 26 = .ok (.istore_n 2, 1) := by decide +kernel
theorem dX10_step_27 : decode cX10_step 27 = .ok (.aload_n 0, 1) := by decide +kernel
theorem dX10_step_28 : decode cX10_step 28 = .ok (.getfield 34, 3) := by decide +kernel
theorem dX10_step_31 : decode cX10_step 31 = .ok (.iconst 0, 1) := by decide +kernel
theorem dX10_step_32 : decode cX10_step 32 = .ok (.iload_n 1, 1) := by decide +kernel
theorem dX10_step_33 : decode cX10_step 33 = .ok (.iastore, 1) := by decide +kernel
theorem dX10_step_34 : decode cX10_step 34 = .ok (.iload_n 2, 1) := by decide +kernel
theorem dX10_step_35 : decode cX10_step 35 = .ok (.ireturn, 1) := by decide +kernel
theorem dX10_undo_0 : decode cX10_undo 0 = .ok (.aload_n 0, 1) := by decide +kernel
theorem dX10_undo_1 : decode cX10_undo 1 = .ok (.getfield 125, 3) := by decide +kernel
theorem dX10_undo_4 : decode cX10_undo 4 = .ok (.ifCond .ne 6, 3) := by decide +kernel
theorem dX10_undo_7 : decode cX10_undo 7 = .ok (.bipush (-2), 2) := by decide +kernel
theorem dX10_undo_9 : decode cX10_undo 9 = .ok (.ireturn, 1) := by decide +kernel
theorem dX10_undo_10 : decode cX10_undo 10 = .ok (.aload_n 0, 1) := by decide +kernel
theorem dX10_undo_11 : decode cX10_undo 11 = .ok (.dup, 1) := by decide +kernel
theorem dX10_undo_12 : decode cX10_undo 12 = .ok (.getfield 125, 3) := by decide +kernel
theorem dX10_undo_15 : decode cX10_undo 15 = .ok (.iconst 1, 1) := by decide +kernel
theorem dX10_undo_16 : decode cX10_undo 16 = .ok (.isub, 1) := by decide +kernel
theorem dX10_undo_17 : decode cX10_undo 17 = .ok (.putfield 125, 3) := by decide +kernel
theorem dX10_undo_20 : decode cX10_undo 20 = .ok (.aload_n 0, 1) := by decide +kernel
theorem dX10_undo_21 : decode cX10_undo 21 = .ok (.getfield 37, 3) := by decide +kernel
theorem dX10_undo_24 : decode cX10_undo 24 = .ok (.iconst 2, 1) := by decide +kernel
theorem dX10_undo_25 : decode cX10_undo 25 = .ok (.aload_n 0, 1) := by decide +kernel
theorem dX10_undo_26 : decode cX10_undo 26 = .ok (.getfield 125, 3) := by decide +kernel
theorem dX10_undo_29 : decode cX10_undo 29 = .ok (.imul, 1) := by decide +kernel
theorem dX10_undo_30 : decode cX10_undo 30 = .ok (.iaload, 1) := by decide +kernel
theorem dX10_undo_31 : decode cX10_undo 31 = .ok (.istore_n 1, 1) := by decide +kernel
theorem dX10_undo_32 : decode cX10_undo 32 = .ok (.aload_n 0, 1) := by decide +kernel
theorem dX10_undo_33 : decode cX10_undo 33 = .ok (.getfield 37, 3) := by decide +kernel
theorem dX10_undo_36 : decode cX10_undo 36 = .ok (.iconst 2, 1) := by decide +kernel
theorem dX10_undo_37 : decode cX10_undo 37 = .ok (.aload_n 0, 1) := by decide +kernel
theorem dX10_undo_38 : decode cX10_undo 38 = .ok (.getfield 125, 3) := by decide +kernel
theorem dX10_undo_41 : decode cX10_undo 41 = .ok (.imul, 1) := by decide +kernel
theorem dX10_undo_42 : decode cX10_undo 42 = .ok (.iconst 1, 1) := by decide +kernel
theorem dX10_undo_43 : decode cX10_undo 43 = .ok (.iadd, 1) := by decide +kernel
theorem dX10_undo_44 : decode cX10_undo 44 = .ok (.iaload, 1) := by decide +kernel
theorem dX10_undo_45 : decode cX10_undo 45 = .ok (.istore_n 2, 1) := by decide +kernel
theorem dX10_undo_46 : decode cX10_undo 46 = .ok (.iload_n 1, 1) := by decide +kernel
theorem dX10_undo_47 : decode cX10_undo 47 = .ok (.iconst 5, 1) := by decide +kernel
theorem dX10_undo_48 : decode cX10_undo 48 = .ok (.if_icmp .ne 13, 3) := by decide +kernel
theorem dX10_undo_51 : decode cX10_undo 51 = .ok (.aload_n 0, 1) := by decide +kernel
theorem dX10_undo_52 : decode cX10_undo 52 = .ok (.getfield 31, 3) := by decide +kernel
theorem dX10_undo_55 : decode cX10_undo 55 = .ok (.iconst 0, 1) := by decide +kernel
theorem dX10_undo_56 : decode cX10_undo 56 = .ok (.iload_n 2, 1) := by decide +kernel
theorem dX10_undo_57 : decode cX10_undo 57 = .ok (.iastore, 1) := by decide +kernel
theorem dX10_undo_58 : decode cX10_undo 58 = .ok (.goto 26, 3) := by decide +kernel
theorem dX10_undo_61 : decode cX10_undo 61 = .ok (.iload_n 1, 1) := by decide +kernel
theorem dX10_undo_62 : decode cX10_undo 62 = .ok (.bipush 6, 2) := by decide +kernel
theorem dX10_undo_64 : decode cX10_undo 64 = .ok (.if_icmp .ne 13, 3) := by decide +kernel
theorem dX10_undo_67 : decode cX10_undo 67 = .ok (.aload_n 0, 1) := by decide +kernel
theorem dX10_undo_68 : decode cX10_undo 68 = .ok (.getfield 34, 3) := by decide +kernel
theorem dX10_undo_71 : decode cX10_undo 71 = .ok (.iconst 0, 1) := by decide +kernel
theorem dX10_undo_72 : decode cX10_undo 72 = .ok (.iload_n 2, 1) := by decide +kernel
theorem dX10_undo_73 : decode cX10_undo 73 = .ok (.iastore, 1) := by decide +kernel
theorem dX10_undo_74 : decode cX10_undo 74 = .ok (.goto 10, 3) := by decide +kernel
theorem dX10_undo_77 : decode cX10_undo 77 = .ok (.aload_n 0, 1) := by decide +kernel
theorem dX10_undo_78 : decode cX10_undo 78 = .ok (.getfield 28, 3) := by decide +kernel
theorem dX10_undo_81 : decode cX10_undo 81 = .ok (.iload_n 1, 1) := by decide +kernel
theorem dX10_undo_82 : decode cX10_undo 82 = .ok (.iload_n 2, 1) := by decide +kernel
theorem dX10_undo_83 : decode cX10_undo 83 = .ok (.iastore, 1) := by decide +kernel
theorem dX10_undo_84 : decode cX10_undo 84 = .ok (.aload_n 0, 1) := by decide +kernel
theorem dX10_undo_85 : decode cX10_undo 85 = .ok (.getfield 125, 3) := by decide +kernel
theorem dX10_undo_88 : decode cX10_undo 88 = .ok (.ireturn, 1) := by decide +kernel
theorem dX10_lie_0 : decode cX10_lie 0 = .ok (.aload_n 0, 1) := by decide +kernel
theorem dX10_lie_1 : decode cX10_lie 1 = .ok (.iload_n 1, 1) := by decide +kernel
theorem dX10_lie_2 : decode cX10_lie 2 = .ok (.invokevirtual 177, 3) := by decide +kernel
theorem dX10_lie_5 : decode cX10_lie 5 = .ok (.ifCond .eq 13, 3) := by decide +kernel
theorem dX10_lie_8 : decode cX10_lie 8 = .ok (.iload_n 2, 1) := by decide +kernel
theorem dX10_lie_9 : decode cX10_lie 9 = .ok (.i2l, 1) := by decide +kernel
theorem dX10_lie_10 : decode cX10_lie 10 = .ok (.lconst 0, 1) := by decide +kernel
theorem dX10_lie_11 : decode cX10_lie 11 = .ok (.lconst 1, 1) := by decide +kernel
theorem dX10_lie_12 : decode cX10_lie 12 = .ok (.invokestatic 79, 3) := by decide +kernel
theorem dX10_lie_15 : decode cX10_lie 15 = .ok (.ifCond .ne 5, 3) := by decide +kernel
theorem dX10_lie_18 : decode cX10_lie 18 = .ok (.iconst (-1), 1) := by decide +kernel
theorem dX10_lie_19 : decode cX10_lie 19 = .ok (.ireturn, 1) := by decide +kernel
theorem dX10_lie_20 : decode cX10_lie 20 = .ok (.aload_n 0, 1) := by decide +kernel
theorem dX10_lie_21 : decode cX10_lie 21 = .ok (.bipush (-4), 2) := by decide +kernel
theorem dX10_lie_23 : decode cX10_lie 23 = .ok (.invokevirtual 182, 3) := by decide +kernel
theorem dX10_lie_26 : decode cX10_lie 26 = .ok (.aload_n 0, 1) := by decide +kernel
theorem dX10_lie_27 : decode cX10_lie 27 = .ok (.iload_n 1, 1) := by decide +kernel
theorem dX10_lie_28 : decode cX10_lie 28 = .ok (.invokevirtual 185, 3) := by decide +kernel
theorem dX10_lie_31 : decode cX10_lie 31 = .ok (.istore_n 3, 1) := by decide +kernel
theorem dX10_lie_32 : decode cX10_lie 32 = .ok (.aload_n 0, 1) := by decide +kernel
theorem dX10_lie_33 : decode cX10_lie 33 = .ok (.getfield 28, 3) := by decide +kernel
theorem dX10_lie_36 : decode cX10_lie 36 = .ok (.iload_n 1, 1) := by decide +kernel
theorem dX10_lie_37 : decode cX10_lie 37 = .ok (.iaload, 1) := by decide +kernel
theorem dX10_lie_38 : decode cX10_lie 38 = .ok (.istore 4, 2) := by decide +kernel
theorem dX10_lie_40 : decode cX10_lie 40 = .ok (.iconst 0, 1) := by decide +kernel
theorem dX10_lie_41 : decode cX10_lie 41 = .ok (.istore 5, 2) := by decide +kernel
theorem dX10_lie_43 : decode cX10_lie 43 = .ok (.bipush (-4), 2) := by decide +kernel
theorem dX10_lie_45 : decode cX10_lie 45 = .ok (.istore 6, 2) := by decide +kernel
theorem dX10_lie_47 : decode cX10_lie 47 = .ok (.iconst 1, 1) := by decide +kernel
theorem dX10_lie_48 : decode cX10_lie 48 = .ok (.istore 7, 2) := by decide +kernel
theorem dX10_lie_50 : decode cX10_lie 50 = .ok (.iload 7, 2) := by decide +kernel
theorem dX10_lie_52 : decode cX10_lie 52 = .ok (.bipush 10, 2) := by decide +kernel
theorem dX10_lie_54 : decode cX10_lie 54 = .ok (.if_icmp .gt 62, 3) := by decide +kernel
theorem dX10_lie_57 : decode cX10_lie 57 = .ok (.aload_n 0, 1) := by decide +kernel
theorem dX10_lie_58 : decode cX10_lie 58 = .ok (.getfield 28, 3) := by decide +kernel
theorem dX10_lie_61 : decode cX10_lie 61 = .ok (.iload_n 1, 1) := by decide +kernel
theorem dX10_lie_62 : decode cX10_lie 62 = .ok (.iload 7, 2) := by decide +kernel
theorem dX10_lie_64 : decode cX10_lie 64 = .ok (.iastore, 1) := by decide +kernel
theorem dX10_lie_65 : decode cX10_lie 65 = .ok (.aload_n 0, 1) := by decide +kernel
theorem dX10_lie_66 : decode cX10_lie 66 = .ok (.bipush (-4), 2) := by decide +kernel
theorem dX10_lie_68 : decode cX10_lie 68 = .ok (.invokevirtual 182, 3) := by decide +kernel
theorem dX10_lie_71 : decode cX10_lie 71 = .ok (.aload_n 0, 1) := by decide +kernel
theorem dX10_lie_72 : decode cX10_lie 72 = .ok (.iload_n 1, 1) := by decide +kernel
theorem dX10_lie_73 : decode cX10_lie 73 = .ok (.invokevirtual 185, 3) := by decide +kernel
theorem dX10_lie_76 : decode cX10_lie 76 = .ok (.istore 8, 2) := by decide +kernel
theorem dX10_lie_78 : decode cX10_lie 78 = .ok (.iload 8, 2) := by decide +kernel
theorem dX10_lie_80 : decode cX10_lie 80 = .ok (.iload 6, 2) := by decide +kernel
theorem dX10_lie_82 : decode cX10_lie 82 = .ok (.if_icmp .le 8, 3) := by decide +kernel
theorem dX10_lie_85 : decode cX10_lie 85 = .ok (.iload 7, 2) := by decide +kernel
theorem dX10_lie_87 : decode cX10_lie 87 = .ok (.goto 5, 3) := by decide +kernel
theorem dX10_lie_90 : decode cX10_lie 90 = .ok (.iload 5, 2) := by decide +kernel
theorem dX10_lie_92 : decode cX10_lie 92 = .ok (.istore 5, 2) := by decide +kernel
theorem dX10_lie_94 : decode cX10_lie 94 = .ok (.iload 8, 2) := by decide +kernel
theorem dX10_lie_96 : decode cX10_lie 96 = .ok (.iload 6, 2) := by decide +kernel
theorem dX10_lie_98 : decode cX10_lie 98 = .ok (.if_icmp .le 8, 3) := by decide +kernel
theorem dX10_lie_101 : decode cX10_lie 101 = .ok (.iload 8, 2) := by decide +kernel
theorem dX10_lie_103 : decode cX10_lie 103 = .ok (.goto 5, 3) := by decide +kernel
theorem dX10_lie_106 : decode cX10_lie 106 = .ok (.iload 6, 2) := by decide +kernel
theorem dX10_lie_108 : decode cX10_lie 108 = .ok (.istore 6, 2) := by decide +kernel
theorem dX10_lie_110 : decode cX10_lie 110 = .ok (.iinc 7 1, 3) := by decide +kernel
theorem dX10_lie_113 : decode cX10_lie 113 = .ok (.goto (-63), 3) := by decide +kernel
theorem dX10_lie_116 : decode cX10_lie 116 = .ok (.aload_n 0, 1) := by decide +kernel
theorem dX10_lie_117 : decode cX10_lie 117 = .ok (.getfield 28, 3) := by decide +kernel
theorem dX10_lie_120 : decode cX10_lie 120 = .ok (.iload_n 1, 1) := by decide +kernel
theorem dX10_lie_121 : decode cX10_lie 121 = .ok (.iload 4, 2) := by decide +kernel
theorem dX10_lie_123 : decode cX10_lie 123 = .ok (.iastore, 1) := by decide +kernel
theorem dX10_lie_124 : decode cX10_lie 124 = .ok (.iload_n 2, 1) := by decide +kernel
theorem dX10_lie_125 : decode cX10_lie 125 = .ok (.ifCond .ne 8, 3) := by decide +kernel
theorem dX10_lie_128 : decode cX10_lie 128 = .ok (.iload 5, 2) := by decide +kernel
theorem dX10_lie_130 : decode cX10_lie 130 = .ok (.goto 7, 3) := by decide +kernel
theorem dX10_lie_133 : decode cX10_lie 133 = .ok (.iload 6, 2) := by decide +kernel
theorem dX10_lie_135 : decode cX10_lie 135 = .ok (.iload_n 3, 1) := by decide +kernel
theorem dX10_lie_136 : decode cX10_lie 136 = .ok (.isub, 1) := by decide +kernel
theorem dX10_lie_137 : decode cX10_lie 137 = .ok (.ireturn, 1) := by decide +kernel
theorem dX10_game_0 : decode cX10_game 0 = .ok (.aload_n 0, 1) := by decide +kernel
theorem dX10_game_1 : decode cX10_game 1 = .ok (.iload_n 1, 1) := by decide +kernel
theorem dX10_game_2 : decode cX10_game 2 = .ok (.invokevirtual 177, 3) := by decide +kernel
theorem dX10_game_5 : decode cX10_game 5 = .ok (.ifCond .eq 28, 3) := by decide +kernel
theorem dX10_game_8 : decode cX10_game 8 = .ok (.aload_n 0, 1) := by decide +kernel
theorem dX10_game_9 : decode cX10_game 9 = .ok (.iload_n 2, 1) := by decide +kernel
theorem dX10_game_10 : decode cX10_game 10 = .ok (.invokevirtual 177, 3) := by decide +kernel
theorem dX10_game_13 : decode cX10_game 13 = .ok (.ifCond .eq 20, 3) := by decide +kernel
theorem dX10_game_16 : decode cX10_game 16 = .ok (.iload_n 1, 1) := by decide +kernel
theorem dX10_game_17 : decode cX10_game 17 = .ok (.iload_n 2, 1) := by decide +kernel
theorem dX10_game_18 : decode cX10_game 18 = .ok (.if_icmp .eq 15, 3) := by decide +kernel
theorem dX10_game_21 : decode cX10_game 21 = .ok (.iload_n 3, 1) := by decide +kernel
theorem dX10_game_22 : decode cX10_game 22 = .ok (.i2l, 1) := by decide +kernel
theorem dX10_game_23 : decode cX10_game 23 = .ok (.lconst 0, 1) := by decide +kernel
theorem dX10_game_24 : decode cX10_game 24 = .ok (.ldc2_w 100, 3) := by decide +kernel
theorem dX10_game_27 : decode cX10_game 27 = .ok (.invokestatic 79, 3) := by decide +kernel
theorem dX10_game_30 : decode cX10_game 30 = .ok (.ifCond .ne 5, 3) := by decide +kernel
theorem dX10_game_33 : decode cX10_game 33 = .ok (.iconst (-1), 1) := by decide +kernel
theorem dX10_game_34 : decode cX10_game 34 = .ok (.ireturn, 1) := by decide +kernel
theorem dX10_game_35 : decode cX10_game 35 = .ok (.aload_n 0, 1) := by decide +kernel
theorem dX10_game_36 : decode cX10_game 36 = .ok (.getfield 28, 3) := by decide +kernel
theorem dX10_game_39 : decode cX10_game 39 = .ok (.iload_n 1, 1) := by decide +kernel
theorem dX10_game_40 : decode cX10_game 40 = .ok (.iaload, 1) := by decide +kernel
theorem dX10_game_41 : decode cX10_game 41 = .ok (.istore 4, 2) := by decide +kernel
theorem dX10_game_43 : decode cX10_game 43 = .ok (.aload_n 0, 1) := by decide +kernel
theorem dX10_game_44 : decode cX10_game 44 = .ok (.getfield 28, 3) := by decide +kernel
theorem dX10_game_47 : decode cX10_game 47 = .ok (.iload_n 2, 1) := by decide +kernel
theorem dX10_game_48 : decode cX10_game 48 = .ok (.iaload, 1) := by decide +kernel
theorem dX10_game_49 : decode cX10_game 49 = .ok (.istore 5, 2) := by decide +kernel
theorem dX10_game_51 : decode cX10_game 51 = .ok (.iconst 0, 1) := by decide +kernel
theorem dX10_game_52 : decode cX10_game 52 = .ok (.istore 6, 2) := by decide +kernel
theorem dX10_game_54 : decode cX10_game 54 = .ok (.iload 6, 2) := by decide +kernel
theorem dX10_game_56 : decode cX10_game 56 = .ok (.bipush 100, 2) := by decide +kernel
theorem dX10_game_58 : decode cX10_game 58 = .ok (.if_icmp .ge 65, 3) := by decide +kernel
theorem dX10_game_61 : decode cX10_game 61 = .ok (.aload_n 0, 1) := by decide +kernel
theorem dX10_game_62 : decode cX10_game 62 = .ok (.getfield 28, 3) := by decide +kernel
theorem dX10_game_65 : decode cX10_game 65 = .ok (.iload_n 1, 1) := by decide +kernel
theorem dX10_game_66 : decode cX10_game 66 = .ok (.iconst 1, 1) := by decide +kernel
theorem dX10_game_67 : decode cX10_game 67 = .ok (.iload 6, 2) := by decide +kernel
theorem dX10_game_69 : decode cX10_game 69 = .ok (.bipush 10, 2) := by decide +kernel
theorem dX10_game_71 : decode cX10_game 71 = .ok (.idiv, 1) := by decide +kernel
theorem dX10_game_72 : decode cX10_game 72 = .ok (.iadd, 1) := by decide +kernel
theorem dX10_game_73 : decode cX10_game 73 = .ok (.iastore, 1) := by decide +kernel
theorem dX10_game_74 : decode cX10_game 74 = .ok (.aload_n 0, 1) := by decide +kernel
theorem dX10_game_75 : decode cX10_game 75 = .ok (.getfield 28, 3) := by decide +kernel
theorem dX10_game_78 : decode cX10_game 78 = .ok (.iload_n 2, 1) := by decide +kernel
theorem dX10_game_79 : decode cX10_game 79 = .ok (.iconst 1, 1) := by decide +kernel
theorem dX10_game_80 : decode cX10_game 80 = .ok (.iload 6, 2) := by decide +kernel
theorem dX10_game_82 : decode cX10_game 82 = .ok (.bipush 10, 2) := by decide +kernel
theorem dX10_game_84 : decode cX10_game 84 = .ok (.irem, 1) := by decide +kernel
theorem dX10_game_85 : decode cX10_game 85 = .ok (.iadd, 1) := by decide +kernel
theorem dX10_game_86 : decode cX10_game 86 = .ok (.iastore, 1) := by decide +kernel
theorem dX10_game_87 : decode cX10_game 87 = .ok (.aload_n 0, 1) := by decide +kernel
theorem dX10_game_88 : decode cX10_game 88 = .ok (.bipush (-4), 2) := by decide +kernel
theorem dX10_game_90 : decode cX10_game 90 = .ok (.invokevirtual 182, 3) := by decide +kernel
theorem dX10_game_93 : decode cX10_game 93 = .ok (.aload_n 0, 1) := by decide +kernel
theorem dX10_game_94 : decode cX10_game 94 = .ok (.getfield 55, 3) := by decide +kernel
theorem dX10_game_97 : decode cX10_game 97 = .ok (.iload 6, 2) := by decide +kernel
theorem dX10_game_99 : decode cX10_game 99 = .ok (.aload_n 0, 1) := by decide +kernel
theorem dX10_game_100 : decode cX10_game 100 = .ok (.iload_n 1, 1) := by decide +kernel
theorem dX10_game_101 : decode cX10_game 101 = .ok (.invokevirtual 185, 3) := by decide +kernel
theorem dX10_game_104 : decode cX10_game 104 = .ok (.iastore, 1) := by decide +kernel
theorem dX10_game_105 : decode cX10_game 105 = .ok (.aload_n 0, 1) := by decide +kernel
theorem dX10_game_106 : decode cX10_game 106 = .ok (.getfield 58, 3) := by decide +kernel
theorem dX10_game_109 : decode cX10_game 109 = .ok (.iload 6, 2) := by decide +kernel
theorem dX10_game_111 : decode cX10_game 111 = .ok (.aload_n 0, 1) := by decide +kernel
theorem dX10_game_112 : decode cX10_game 112 = .ok (.iload_n 2, 1) := by decide +kernel
theorem dX10_game_113 : decode cX10_game 113 = .ok (.invokevirtual 185, 3) := by decide +kernel
theorem dX10_game_116 : decode cX10_game 116 = .ok (.iastore, 1) := by decide +kernel
theorem dX10_game_117 : decode cX10_game 117 = .ok (.iinc 6 1, 3) := by decide +kernel
theorem dX10_game_120 : decode cX10_game 120 = .ok (.goto (-66), 3) := by decide +kernel
theorem dX10_game_123 : decode cX10_game 123 = .ok (.aload_n 0, 1) := by decide +kernel
theorem dX10_game_124 : decode cX10_game 124 = .ok (.getfield 28, 3) := by decide +kernel
theorem dX10_game_127 : decode cX10_game 127 = .ok (.iload_n 1, 1) := by decide +kernel
theorem dX10_game_128 : decode cX10_game 128 = .ok (.iload 4, 2) := by decide +kernel
theorem dX10_game_130 : decode cX10_game 130 = .ok (.iastore, 1) := by decide +kernel
theorem dX10_game_131 : decode cX10_game 131 = .ok (.aload_n 0, 1) := by decide +kernel
theorem dX10_game_132 : decode cX10_game 132 = .ok (.getfield 28, 3) := by decide +kernel
theorem dX10_game_135 : decode cX10_game 135 = .ok (.iload_n 2, 1) := by decide +kernel
theorem dX10_game_136 : decode cX10_game 136 = .ok (.iload 5, 2) := by decide +kernel
theorem dX10_game_138 : decode cX10_game 138 = .ok (.iastore, 1) := by decide +kernel
theorem dX10_game_139 : decode cX10_game 139 = .ok (.iconst 0, 1) := by decide +kernel
theorem dX10_game_140 : decode cX10_game 140 = .ok (.istore 6, 2) := by decide +kernel
theorem dX10_game_142 : decode cX10_game 142 = .ok (.bipush (-4), 2) := by decide +kernel
theorem dX10_game_144 : decode cX10_game 144 = .ok (.istore 7, 2) := by decide +kernel
theorem dX10_game_146 : decode cX10_game 146 = .ok (.bipush 99, 2) := by decide +kernel
theorem dX10_game_148 : decode cX10_game 148 = .ok (.istore 8, 2) := by decide +kernel
theorem dX10_game_150 : decode cX10_game 150 = .ok (.iload 8, 2) := by decide +kernel
theorem dX10_game_152 : decode cX10_game 152 = .ok (.ifCond .lt 121, 3) := by decide +kernel
theorem dX10_game_155 : decode cX10_game 155 = .ok (.iconst 1, 1) := by decide +kernel
theorem dX10_game_156 : decode cX10_game 156 = .ok (.istore 9, 2) := by decide +kernel
theorem dX10_game_158 : decode cX10_game 158 = .ok (.iconst 0, 1) := by decide +kernel
theorem dX10_game_159 : decode cX10_game 159 = .ok (.istore 10, 2) := by decide +kernel
theorem dX10_game_161 : decode cX10_game 161 = .ok (.iload 10, 2) := by decide +kernel
theorem dX10_game_163 : decode cX10_game 163 = .ok (.bipush 10, 2) := by decide +kernel
theorem dX10_game_165 : decode cX10_game 165 = .ok (.if_icmp .ge 73, 3) := by decide +kernel
theorem dX10_game_168 : decode cX10_game 168 = .ok (.iload 9, 2) := by decide +kernel
theorem dX10_game_170 : decode cX10_game 170 = .ok (.ifCond .eq 59, 3) := by decide +kernel
theorem dX10_game_173 : decode cX10_game 173 = .ok (.aload_n 0, 1) := by decide +kernel
theorem dX10_game_174 : decode cX10_game 174 = .ok (.getfield 55, 3) := by decide +kernel
theorem dX10_game_177 : decode cX10_game 177 = .ok (.bipush 10, 2) := by decide +kernel
theorem dX10_game_179 : decode cX10_game 179 = .ok (.iload 10, 2) := by decide +kernel
theorem dX10_game_181 : decode cX10_game 181 = .ok (.imul, 1) := by decide +kernel
theorem dX10_game_182 : decode cX10_game 182 = .ok (.iload 8, 2) := by decide +kernel
theorem dX10_game_184 : decode cX10_game 184 = .ok (.bipush 10, 2) := by decide +kernel
theorem dX10_game_186 : decode cX10_game 186 = .ok (.irem, 1) := by decide +kernel
theorem dX10_game_187 : decode cX10_game 187 = .ok (.iadd, 1) := by decide +kernel
theorem dX10_game_188 : decode cX10_game 188 = .ok (.iaload, 1) := by decide +kernel
theorem dX10_game_189 : decode cX10_game 189 = .ok (.aload_n 0, 1) := by decide +kernel
theorem dX10_game_190 : decode cX10_game 190 = .ok (.getfield 55, 3) := by decide +kernel
theorem dX10_game_193 : decode cX10_game 193 = .ok (.iload 8, 2) := by decide +kernel
theorem dX10_game_195 : decode cX10_game 195 = .ok (.iaload, 1) := by decide +kernel
theorem dX10_game_196 : decode cX10_game 196 = .ok (.if_icmp .gt 33, 3) := by decide +kernel
theorem dX10_game_199 : decode cX10_game 199 = .ok (.aload_n 0, 1) := by decide +kernel
theorem dX10_game_200 : decode cX10_game 200 = .ok (.getfield 58, 3) := by decide +kernel
theorem dX10_game_203 : decode cX10_game 203 = .ok (.iload 8, 2) := by decide +kernel
theorem dX10_game_205 : decode cX10_game 205 = .ok (.bipush 10, 2) := by decide +kernel
theorem dX10_game_207 : decode cX10_game 207 = .ok (.idiv, 1) := by decide +kernel
theorem dX10_game_208 : decode cX10_game 208 = .ok (.bipush 10, 2) := by decide +kernel
theorem dX10_game_210 : decode cX10_game 210 = .ok (.imul, 1) := by decide +kernel
theorem dX10_game_211 : decode cX10_game 211 = .ok (.iload 10, 2) := by decide +kernel
theorem dX10_game_213 : decode cX10_game 213 = .ok (.iadd, 1) := by decide +kernel
theorem dX10_game_214 : decode cX10_game 214 = .ok (.iaload, 1) := by decide +kernel
theorem dX10_game_215 : decode cX10_game 215 = .ok (.aload_n 0, 1) := by decide +kernel
theorem dX10_game_216 : decode cX10_game 216 = .ok (.getfield 58, 3) := by decide +kernel
theorem dX10_game_219 : decode cX10_game 219 = .ok (.iload 8, 2) := by decide +kernel
theorem dX10_game_221 : decode cX10_game 221 = .ok (.iaload, 1) := by decide +kernel
theorem dX10_game_222 : decode cX10_game 222 = .ok (.if_icmp .gt 7, 3) := by decide +kernel
theorem dX10_game_225 : decode cX10_game 225 = .ok (.iconst 1, 1) := by decide +kernel
theorem dX10_game_226 : decode cX10_game 226 = .ok (.goto 4, 3) := by decide +kernel
theorem dX10_game_229 : decode cX10_game 229 = .ok (.iconst 0, 1) := by decide +kernel
theorem dX10_game_230 : decode cX10_game 230 = .ok (.istore 9, 2) := by decide +kernel
theorem dX10_game_232 : decode cX10_game 232 = .ok (.iinc 10 1, 3) := by decide +kernel
theorem dX10_game_235 : decode cX10_game 235 = .ok (.goto (-74), 3) := by decide +kernel
theorem dX10_game_238 : decode cX10_game 238 = .ok (.iload 6, 2) := by decide +kernel
theorem dX10_game_240 : decode cX10_game 240 = .ok (.iload 9, 2) := by decide +kernel
theorem dX10_game_242 : decode cX10_game 242 = .ok (.ifCond .eq 7, 3) := by decide +kernel
theorem dX10_game_245 : decode cX10_game 245 = .ok (.iconst 1, 1) := by decide +kernel
theorem dX10_game_246 : decode cX10_game 246 = .ok (.goto 4, 3) := by decide +kernel
theorem dX10_game_249 : decode cX10_game 249 = .ok (.iconst 0, 1) := by decide +kernel
theorem dX10_game_250 : decode cX10_game 250 = .ok (.iadd, 1) := by decide +kernel
theorem dX10_game_251 : decode cX10_game 251 = .ok (.istore 6, 2) := by decide +kernel
theorem dX10_game_253 : decode cX10_game 253 = .ok (.iload 9, 2) := by decide +kernel
theorem dX10_game_255 : decode cX10_game 255 = .ok (.ifCond .eq 8, 3) := by decide +kernel
theorem dX10_game_258 : decode cX10_game 258 = .ok (.iload 8, 2) := by decide +kernel
theorem dX10_game_260 : decode cX10_game 260 = .ok (.goto 5, 3) := by decide +kernel
theorem dX10_game_263 : decode cX10_game 263 = .ok (.iload 7, 2) := by decide +kernel
theorem dX10_game_265 : decode cX10_game 265 = .ok (.istore 7, 2) := by decide +kernel
theorem dX10_game_267 : decode cX10_game 267 = .ok (.iinc 8 (-1), 3) := by decide +kernel
theorem dX10_game_270 : decode cX10_game 270 = .ok (.goto (-120), 3) := by decide +kernel
theorem dX10_game_273 : decode cX10_game 273 = .ok (.iload_n 3, 1) := by decide +kernel
theorem dX10_game_274 : decode cX10_game 274 = .ok (.ifCond .ne 8, 3) := by decide +kernel
theorem dX10_game_277 : decode cX10_game 277 = .ok (.iload 6, 2) := by decide +kernel
theorem dX10_game_279 : decode cX10_game 279 = .ok (.goto 35, 3) := by decide +kernel
theorem dX10_game_282 : decode cX10_game 282 = .ok (.iload 7, 2) := by decide +kernel
theorem dX10_game_284 : decode cX10_game 284 = .ok (.ifCond .ge 8, 3) := by decide +kernel
theorem dX10_game_287 : decode cX10_game 287 = .ok (.bipush (-4), 2) := by decide +kernel
theorem dX10_game_289 : decode cX10_game 289 = .ok (.goto 25, 3) := by decide +kernel
theorem dX10_game_292 : decode cX10_game 292 = .ok (.iload_n 3, 1) := by decide +kernel
theorem dX10_game_293 : decode cX10_game 293 = .ok (.iconst 1, 1) := by decide +kernel
theorem dX10_game_294 : decode cX10_game 294 = .ok (.if_icmp .ne 13, 3) := by decide +kernel
theorem dX10_game_297 : decode cX10_game 297 = .ok (.iconst 1, 1) := by decide +kernel
theorem dX10_game_298 : decode cX10_game 298 = .ok (.iload 7, 2) := by decide +kernel
theorem dX10_game_300 : decode cX10_game 300 = .ok (.bipush 10, 2) := by decide +kernel
theorem dX10_game_302 : decode cX10_game 302 = .ok (.idiv, 1) := by decide +kernel
theorem dX10_game_303 : decode cX10_game 303 = .ok (.iadd, 1) := by decide +kernel
theorem dX10_game_304 : decode cX10_game 304 = .ok (.goto 10, 3) := by decide +kernel
theorem dX10_game_307 : decode cX10_game 307 = .ok (.iconst 1, 1) := by decide +kernel
theorem dX10_game_308 : decode cX10_game 308 = .ok (.iload 7, 2) := by decide +kernel
theorem dX10_game_310 : decode cX10_game 310 = .ok (.bipush 10, 2) := by decide +kernel
theorem dX10_game_312 : decode cX10_game 312 = .ok (.irem, 1) := by decide +kernel
theorem dX10_game_313 : decode cX10_game 313 = .ok (.iadd, 1) := by decide +kernel
theorem dX10_game_314 : decode cX10_game 314 = .ok (.ireturn, 1) := by decide +kernel
theorem dX10_seatAll_0 : decode cX10_seatAll 0 = .ok (.iload_n 1, 1) := by decide +kernel
theorem dX10_seatAll_1 : decode cX10_seatAll 1 = .ok (.istore_n 2, 1) := by decide +kernel
theorem dX10_seatAll_2 : decode cX10_seatAll 2 = .ok (.iconst 0, 1) := by decide +kernel
theorem dX10_seatAll_3 : decode cX10_seatAll 3 = .ok (.istore_n 3, 1) := by decide +kernel
theorem dX10_seatAll_4 : decode cX10_seatAll 4 = .ok (.iload_n 3, 1) := by decide +kernel
theorem dX10_seatAll_5 : decode cX10_seatAll 5 = .ok (.iconst 3, 1) := by decide +kernel
theorem dX10_seatAll_6 : decode cX10_seatAll 6 = .ok (.if_icmp .ge 16, 3) := by decide +kernel
theorem dX10_seatAll_9 : decode cX10_seatAll 9 = .ok (.aload_n 0, 1) := by decide +kernel
theorem dX10_seatAll_10 : decode cX10_seatAll 10 = .ok (.getfield 67, 3) := by decide +kernel
theorem dX10_seatAll_13 : decode cX10_seatAll 13 = .ok (.iload_n 3, 1) := by decide +kernel
theorem dX10_seatAll_14 : decode cX10_seatAll 14 = .ok (.iconst 0, 1) := by decide +kernel
theorem dX10_seatAll_15 : decode cX10_seatAll 15 = .ok (.iastore, 1) := by decide +kernel
theorem dX10_seatAll_16 : decode cX10_seatAll 16 = .ok (.iinc 3 1, 3) := by decide +kernel
theorem dX10_seatAll_19 : decode cX10_seatAll 19 = .ok (.goto (-15), 3) := by decide +kernel
theorem dX10_seatAll_22 : decode cX10_seatAll 22 = .ok (.aload_n 0, 1) := by decide +kernel
theorem dX10_seatAll_23 : decode cX10_seatAll 23 = .ok (.getfield 19, 3) := by decide +kernel
theorem dX10_seatAll_26 : decode cX10_seatAll 26 = .ok (.iconst 0, 1) := by decide +kernel
theorem dX10_seatAll_27 : decode cX10_seatAll 27 = .ok (.iaload, 1) := by decide +kernel
theorem dX10_seatAll_28 : decode cX10_seatAll 28 = .ok (.iconst 1, 1) := by decide +kernel
theorem dX10_seatAll_29 : decode cX10_seatAll 29 = .ok (.isub, 1) := by decide +kernel
theorem dX10_seatAll_30 : decode cX10_seatAll 30 = .ok (.istore_n 3, 1) := by decide +kernel
theorem dX10_seatAll_31 : decode cX10_seatAll 31 = .ok (.iload_n 3, 1) := by decide +kernel
theorem dX10_seatAll_32 : decode cX10_seatAll 32 = .ok (.ifCond .lt 36, 3) := by decide +kernel
theorem dX10_seatAll_35 : decode cX10_seatAll 35 = .ok (.aload_n 0, 1) := by decide +kernel
theorem dX10_seatAll_36 : decode cX10_seatAll 36 = .ok (.getfield 64, 3) := by decide +kernel
theorem dX10_seatAll_39 : decode cX10_seatAll 39 = .ok (.iload_n 3, 1) := by decide +kernel
theorem dX10_seatAll_40 : decode cX10_seatAll 40 = .ok (.iload_n 2, 1) := by decide +kernel
theorem dX10_seatAll_41 : decode cX10_seatAll 41 = .ok (.aload_n 0, 1) := by decide +kernel
theorem dX10_seatAll_42 : decode cX10_seatAll 42 = .ok (.getfield 13, 3) := by decide +kernel
theorem dX10_seatAll_45 : decode cX10_seatAll 45 = .ok (.iconst 0, 1) := by decide +kernel
theorem dX10_seatAll_46 : decode cX10_seatAll 46 = .ok (.iaload, 1) := by decide +kernel
theorem dX10_seatAll_47 : decode cX10_seatAll 47 = .ok (.iconst 1, 1) := by decide +kernel
theorem dX10_seatAll_48 : decode cX10_seatAll 48 = .ok (.iadd, 1) := by decide +kernel
theorem dX10_seatAll_49 : decode cX10_seatAll 49 = .ok (.irem, 1) := by decide +kernel
theorem dX10_seatAll_50 : decode cX10_seatAll 50 = .ok (.iastore, 1) := by decide +kernel
theorem dX10_seatAll_51 : decode cX10_seatAll 51 = .ok (.iload_n 2, 1) := by decide +kernel
theorem dX10_seatAll_52 : decode cX10_seatAll 52 = .ok (.aload_n 0, 1) := by decide +kernel
theorem dX10_seatAll_53 : decode cX10_seatAll 53 = .ok (.getfield 13, 3) := by decide +kernel
theorem dX10_seatAll_56 : decode cX10_seatAll 56 = .ok (.iconst 0, 1) := by decide +kernel
theorem dX10_seatAll_57 : decode cX10_seatAll 57 = .ok (.iaload, 1) := by decide +kernel
theorem dX10_seatAll_58 : decode cX10_seatAll 58 = .ok (.iconst 1, 1) := by decide +kernel
theorem dX10_seatAll_59 : decode cX10_seatAll 59 = .ok (.iadd, 1) := by decide +kernel
theorem dX10_seatAll_60 : decode cX10_seatAll 60 = .ok (.idiv, 1) := by decide +kernel
theorem dX10_seatAll_61 : decode cX10_seatAll 61 = .ok (.istore_n 2, 1) := by decide +kernel
theorem dX10_seatAll_62 : decode cX10_seatAll 62 = .ok (.iinc 3 (-1), 3) := by decide +kernel
theorem dX10_seatAll_65 : decode cX10_seatAll 65 = .ok (.goto (-34), 3) := by decide +kernel
theorem dX10_seatAll_68 : decode cX10_seatAll 68 = .ok (.iconst 1, 1) := by decide +kernel
theorem dX10_seatAll_69 : decode cX10_seatAll 69 = .ok (.istore_n 3, 1) := by decide +kernel
theorem dX10_seatAll_70 : decode cX10_seatAll 70 = .ok (.iconst 0, 1) := by decide +kernel
theorem dX10_seatAll_71 : decode cX10_seatAll 71 = .ok (.istore 4, 2) := by decide +kernel
theorem dX10_seatAll_73 : decode cX10_seatAll 73 = .ok (.iload 4, 2) := by decide +kernel
theorem dX10_seatAll_75 : decode cX10_seatAll 75 = .ok (.aload_n 0, 1) := by decide +kernel
theorem dX10_seatAll_76 : decode cX10_seatAll 76 = .ok (.getfield 19, 3) := by decide +kernel
theorem dX10_seatAll_79 : decode cX10_seatAll 79 = .ok (.iconst 0, 1) := by decide +kernel
theorem dX10_seatAll_80 : decode cX10_seatAll 80 = .ok (.iaload, 1) := by decide +kernel
theorem dX10_seatAll_81 : decode cX10_seatAll 81 = .ok (.if_icmp .ge 78, 3) := by decide +kernel
theorem dX10_seatAll_84 : decode cX10_seatAll 84 = .ok (.aload_n 0, 1) := by decide +kernel
theorem dX10_seatAll_85 : decode cX10_seatAll 85 = .ok (.getfield 64, 3) := by decide +kernel
theorem dX10_seatAll_88 : decode cX10_seatAll 88 = .ok (.iload 4, 2) := by decide +kernel
theorem dX10_seatAll_90 : decode cX10_seatAll 90 = .ok (.iaload, 1) := by decide +kernel
theorem dX10_seatAll_91 : decode cX10_seatAll 91 = .ok (.aload_n 0, 1) := by decide +kernel
theorem dX10_seatAll_92 : decode cX10_seatAll 92 = .ok (.getfield 13, 3) := by decide +kernel
theorem dX10_seatAll_95 : decode cX10_seatAll 95 = .ok (.iconst 0, 1) := by decide +kernel
theorem dX10_seatAll_96 : decode cX10_seatAll 96 = .ok (.iaload, 1) := by decide +kernel
theorem dX10_seatAll_97 : decode cX10_seatAll 97 = .ok (.if_icmp .ge 56, 3) := by decide +kernel
theorem dX10_seatAll_100 : decode cX10_seatAll 100 = .ok (.aload_n 0, 1) := by decide +kernel
theorem dX10_seatAll_101 : decode cX10_seatAll 101 = .ok (.getfield 67, 3) := by decide +kernel
theorem dX10_seatAll_104 : decode cX10_seatAll 104 = .ok (.aload_n 0, 1) := by decide +kernel
theorem dX10_seatAll_105 : decode cX10_seatAll 105 = .ok (.getfield 64, 3) := by decide +kernel
theorem dX10_seatAll_108 : decode cX10_seatAll 108 = .ok (.iload 4, 2) := by decide +kernel
theorem dX10_seatAll_110 : decode cX10_seatAll 110 = .ok (.iaload, 1) := by decide +kernel
theorem dX10_seatAll_111 : decode cX10_seatAll 111 = .ok (.dup2, 1) := by decide +kernel
theorem dX10_seatAll_112 : decode cX10_seatAll 112 = .ok (.iaload, 1) := by decide +kernel
theorem dX10_seatAll_113 : decode cX10_seatAll 113 = .ok (.iconst 1, 1) := by decide +kernel
theorem dX10_seatAll_114 : decode cX10_seatAll 114 = .ok (.iadd, 1) := by decide +kernel
theorem dX10_seatAll_115 : decode cX10_seatAll 115 = .ok (.iastore, 1) := by decide +kernel
theorem dX10_seatAll_116 : decode cX10_seatAll 116 = .ok (.iload_n 3, 1) := by decide +kernel
theorem dX10_seatAll_117 : decode cX10_seatAll 117 = .ok (.ifCond .eq 34, 3) := by decide +kernel
theorem dX10_seatAll_120 : decode cX10_seatAll 120 = .ok (.aload_n 0, 1) := by decide +kernel
theorem dX10_seatAll_121 : decode cX10_seatAll 121 = .ok (.getfield 67, 3) := by decide +kernel
theorem dX10_seatAll_124 : decode cX10_seatAll 124 = .ok (.aload_n 0, 1) := by decide +kernel
theorem dX10_seatAll_125 : decode cX10_seatAll 125 = .ok (.getfield 64, 3) := by decide +kernel
theorem dX10_seatAll_128 : decode cX10_seatAll 128 = .ok (.iload 4, 2) := by decide +kernel
theorem dX10_seatAll_130 : decode cX10_seatAll 130 = .ok (.iaload, 1) := by decide +kernel
theorem dX10_seatAll_131 : decode cX10_seatAll 131 = .ok (.iaload, 1) := by decide +kernel
theorem dX10_seatAll_132 : decode cX10_seatAll 132 = .ok (.aload_n 0, 1) := by decide +kernel
theorem dX10_seatAll_133 : decode cX10_seatAll 133 = .ok (.getfield 16, 3) := by decide +kernel
theorem dX10_seatAll_136 : decode cX10_seatAll 136 = .ok (.aload_n 0, 1) := by decide +kernel
theorem dX10_seatAll_137 : decode cX10_seatAll 137 = .ok (.getfield 64, 3) := by decide +kernel
theorem dX10_seatAll_140 : decode cX10_seatAll 140 = .ok (.iload 4, 2) := by decide +kernel
theorem dX10_seatAll_142 : decode cX10_seatAll 142 = .ok (.iaload, 1) := by decide +kernel
theorem dX10_seatAll_143 : decode cX10_seatAll 143 = .ok (.iaload, 1) := by decide +kernel
theorem dX10_seatAll_144 : decode cX10_seatAll 144 = .ok (.if_icmp .gt 7, 3) := by decide +kernel
theorem dX10_seatAll_147 : decode cX10_seatAll 147 = .ok (.iconst 1, 1) := by decide +kernel
theorem dX10_seatAll_148 : decode cX10_seatAll 148 = .ok (.goto 4, 3) := by decide +kernel
theorem dX10_seatAll_151 : decode cX10_seatAll 151 = .ok (.iconst 0, 1) := by decide +kernel
theorem dX10_seatAll_152 : decode cX10_seatAll 152 = .ok (.istore_n 3, 1) := by decide +kernel
theorem dX10_seatAll_153 : decode cX10_seatAll 153 = .ok (.iinc 4 1, 3) := by decide +kernel
theorem dX10_seatAll_156 : decode cX10_seatAll 156 = .ok (.goto (-83), 3) := by decide +kernel
theorem dX10_seatAll_159 : decode cX10_seatAll 159 = .ok (.iload_n 3, 1) := by decide +kernel
theorem dX10_seatAll_160 : decode cX10_seatAll 160 = .ok (.ireturn, 1) := by decide +kernel
theorem dX10_codes_0 : decode cX10_codes 0 = .ok (.iconst 1, 1) := by decide +kernel
theorem dX10_codes_1 : decode cX10_codes 1 = .ok (.istore_n 1, 1) := by decide +kernel
theorem dX10_codes_2 : decode cX10_codes 2 = .ok (.iconst 0, 1) := by decide +kernel
theorem dX10_codes_3 : decode cX10_codes 3 = .ok (.istore_n 2, 1) := by decide +kernel
theorem dX10_codes_4 : decode cX10_codes 4 = .ok (.iload_n 2, 1) := by decide +kernel
theorem dX10_codes_5 : decode cX10_codes 5 = .ok (.aload_n 0, 1) := by decide +kernel
theorem dX10_codes_6 : decode cX10_codes 6 = .ok (.getfield 19, 3) := by decide +kernel
theorem dX10_codes_9 : decode cX10_codes 9 = .ok (.iconst 0, 1) := by decide +kernel
theorem dX10_codes_10 : decode cX10_codes 10 = .ok (.iaload, 1) := by decide +kernel
theorem dX10_codes_11 : decode cX10_codes 11 = .ok (.if_icmp .ge 20, 3) := by decide +kernel
theorem dX10_codes_14 : decode cX10_codes 14 = .ok (.iload_n 1, 1) := by decide +kernel
theorem dX10_codes_15 : decode cX10_codes 15 = .ok (.aload_n 0, 1) := by decide +kernel
theorem dX10_codes_16 : decode cX10_codes 16 = .ok (.getfield 13, 3) := by decide +kernel
theorem dX10_codes_19 : decode cX10_codes 19 = .ok (.iconst 0, 1) := by decide +kernel
theorem dX10_codes_20 : decode cX10_codes 20 = .ok (.iaload, 1) := by decide +kernel
theorem dX10_codes_21 : decode cX10_codes 21 = .ok (.iconst 1, 1) := by decide +kernel
theorem dX10_codes_22 : decode cX10_codes 22 = .ok (.iadd, 1) := by decide +kernel
theorem dX10_codes_23 : decode cX10_codes 23 = .ok (.imul, 1) := by decide +kernel
theorem dX10_codes_24 : decode cX10_codes 24 = .ok (.istore_n 1, 1) := by decide +kernel
theorem dX10_codes_25 : decode cX10_codes 25 = .ok (.iinc 2 1, 3) := by decide +kernel
theorem dX10_codes_28 : decode cX10_codes 28 = .ok (.goto (-24), 3) := by decide +kernel
theorem dX10_codes_31 : decode cX10_codes 31 = .ok (.iload_n 1, 1) := by decide +kernel
theorem dX10_codes_32 : decode cX10_codes 32 = .ok (.ireturn, 1) := by decide +kernel
theorem dX10_isAtRest_0 : decode cX10_isAtRest 0 = .ok (.iconst 1, 1) := by decide +kernel
theorem dX10_isAtRest_1 : decode cX10_isAtRest 1 = .ok (.istore_n 1, 1) := by decide +kernel
theorem dX10_isAtRest_2 : decode cX10_isAtRest 2 = .ok (.iconst 0, 1) := by decide +kernel
theorem dX10_isAtRest_3 : decode cX10_isAtRest 3 = .ok (.istore_n 2, 1) := by decide +kernel
theorem dX10_isAtRest_4 : decode cX10_isAtRest 4 = .ok (.iload_n 2, 1) := by decide +kernel
theorem dX10_isAtRest_5 : decode cX10_isAtRest 5 = .ok (.aload_n 0, 1) := by decide +kernel
theorem dX10_isAtRest_6 : decode cX10_isAtRest 6 = .ok (.getfield 13, 3) := by decide +kernel
theorem dX10_isAtRest_9 : decode cX10_isAtRest 9 = .ok (.iconst 0, 1) := by decide +kernel
theorem dX10_isAtRest_10 : decode cX10_isAtRest 10 = .ok (.iaload, 1) := by decide +kernel
theorem dX10_isAtRest_11 : decode cX10_isAtRest 11 = .ok (.if_icmp .ge 43, 3) := by decide +kernel
theorem dX10_isAtRest_14 : decode cX10_isAtRest 14 = .ok (.iload_n 1, 1) := by decide +kernel
theorem dX10_isAtRest_15 : decode cX10_isAtRest 15 = .ok (.ifCond .eq 31, 3) := by decide +kernel
theorem dX10_isAtRest_18 : decode cX10_isAtRest 18 = .ok (.aload_n 0, 1) := by decide +kernel
theorem dX10_isAtRest_19 : decode cX10_isAtRest 19 = .ok (.getfield 61, 3) := by decide +kernel
theorem dX10_isAtRest_22 : decode cX10_isAtRest 22 = .ok (.iload_n 2, 1) := by decide +kernel
theorem dX10_isAtRest_23 : decode cX10_isAtRest 23 = .ok (.iaload, 1) := by decide +kernel
theorem dX10_isAtRest_24 : decode cX10_isAtRest 24 = .ok (.ifCond .eq 18, 3) := by decide +kernel
theorem dX10_isAtRest_27 : decode cX10_isAtRest 27 = .ok (.aload_n 0, 1) := by decide +kernel
theorem dX10_isAtRest_28 : decode cX10_isAtRest 28 = .ok (.getfield 67, 3) := by decide +kernel
theorem dX10_isAtRest_31 : decode cX10_isAtRest 31 = .ok (.iload_n 2, 1) := by decide +kernel
theorem dX10_isAtRest_32 : decode cX10_isAtRest 32 = .ok (.iaload, 1) := by decide +kernel
theorem dX10_isAtRest_33 : decode cX10_isAtRest 33 = .ok (.aload_n 0, 1) := by decide +kernel
theorem dX10_isAtRest_34 : decode cX10_isAtRest 34 = .ok (.getfield 16, 3) := by decide +kernel
theorem dX10_isAtRest_37 : decode cX10_isAtRest 37 = .ok (.iload_n 2, 1) := by decide +kernel
theorem dX10_isAtRest_38 : decode cX10_isAtRest 38 = .ok (.iaload, 1) := by decide +kernel
theorem dX10_isAtRest_39 : decode cX10_isAtRest 39 = .ok (.if_icmp .ne 7, 3) := by decide +kernel
theorem dX10_isAtRest_42 : decode cX10_isAtRest 42 = .ok (.iconst 1, 1) := by decide +kernel
theorem dX10_isAtRest_43 : decode cX10_isAtRest 43 = .ok (.goto 4, 3) := by decide +kernel
theorem dX10_isAtRest_46 : decode cX10_isAtRest 46 = .ok (.iconst 0, 1) := by decide +kernel
theorem dX10_isAtRest_47 : decode cX10_isAtRest 47 = .ok (.istore_n 1, 1) := by decide +kernel
theorem dX10_isAtRest_48 : decode cX10_isAtRest 48 = .ok (.iinc 2 1, 3) := by decide +kernel
theorem dX10_isAtRest_51 : decode cX10_isAtRest 51 = .ok (.goto (-47), 3) := by decide +kernel
theorem dX10_isAtRest_54 : decode cX10_isAtRest 54 = .ok (.iconst 0, 1) := by decide +kernel
theorem dX10_isAtRest_55 : decode cX10_isAtRest 55 = .ok (.istore_n 2, 1) := by decide +kernel
theorem dX10_isAtRest_56 : decode cX10_isAtRest 56 = .ok (.iload_n 2, 1) := by decide +kernel
theorem dX10_isAtRest_57 : decode cX10_isAtRest 57 = .ok (.aload_n 0, 1) := by decide +kernel
theorem dX10_isAtRest_58 : decode cX10_isAtRest 58 = .ok (.getfield 19, 3) := by decide +kernel
theorem dX10_isAtRest_61 : decode cX10_isAtRest 61 = .ok (.iconst 0, 1) := by decide +kernel
theorem dX10_isAtRest_62 : decode cX10_isAtRest 62 = .ok (.iaload, 1) := by decide +kernel
theorem dX10_isAtRest_63 : decode cX10_isAtRest 63 = .ok (.if_icmp .ge 123, 3) := by decide +kernel
theorem dX10_isAtRest_66 : decode cX10_isAtRest 66 = .ok (.aload_n 0, 1) := by decide +kernel
theorem dX10_isAtRest_67 : decode cX10_isAtRest 67 = .ok (.getfield 64, 3) := by decide +kernel
theorem dX10_isAtRest_70 : decode cX10_isAtRest 70 = .ok (.iload_n 2, 1) := by decide +kernel
theorem dX10_isAtRest_71 : decode cX10_isAtRest 71 = .ok (.iaload, 1) := by decide +kernel
theorem dX10_isAtRest_72 : decode cX10_isAtRest 72 = .ok (.aload_n 0, 1) := by decide +kernel
theorem dX10_isAtRest_73 : decode cX10_isAtRest 73 = .ok (.getfield 13, 3) := by decide +kernel
theorem dX10_isAtRest_76 : decode cX10_isAtRest 76 = .ok (.iconst 0, 1) := by decide +kernel
theorem dX10_isAtRest_77 : decode cX10_isAtRest 77 = .ok (.iaload, 1) := by decide +kernel
theorem dX10_isAtRest_78 : decode cX10_isAtRest 78 = .ok (.if_icmp .ne 7, 3) := by decide +kernel
theorem dX10_isAtRest_81 : decode cX10_isAtRest 81 = .ok (.iconst 0, 1) := by decide +kernel
theorem dX10_isAtRest_82 : decode cX10_isAtRest 82 = .ok (.goto 30, 3) := by decide +kernel
theorem dX10_isAtRest_85 : decode cX10_isAtRest 85 = .ok (.aload_n 0, 1) := by decide +kernel
theorem dX10_isAtRest_86 : decode cX10_isAtRest 86 = .ok (.getfield 25, 3) := by decide +kernel
theorem dX10_isAtRest_89 : decode cX10_isAtRest 89 = .ok (.iconst 3, 1) := by decide +kernel
theorem dX10_isAtRest_90 : decode cX10_isAtRest 90 = .ok (.iload_n 2, 1) := by decide +kernel
theorem dX10_isAtRest_91 : decode cX10_isAtRest 91 = .ok (.imul, 1) := by decide +kernel
theorem dX10_isAtRest_92 : decode cX10_isAtRest 92 = .ok (.aload_n 0, 1) := by decide +kernel
theorem dX10_isAtRest_93 : decode cX10_isAtRest 93 = .ok (.getfield 64, 3) := by decide +kernel
theorem dX10_isAtRest_96 : decode cX10_isAtRest 96 = .ok (.iload_n 2, 1) := by decide +kernel
theorem dX10_isAtRest_97 : decode cX10_isAtRest 97 = .ok (.iaload, 1) := by decide +kernel
theorem dX10_isAtRest_98 : decode cX10_isAtRest 98 = .ok (.iadd, 1) := by decide +kernel
theorem dX10_isAtRest_99 : decode cX10_isAtRest 99 = .ok (.iaload, 1) := by decide +kernel
theorem dX10_isAtRest_100 : decode cX10_isAtRest 100 = .ok (.aload_n 0, 1) := by decide +kernel
theorem dX10_isAtRest_101 : decode cX10_isAtRest 101 = .ok (.getfield 61, 3) := by decide +kernel
theorem dX10_isAtRest_104 : decode cX10_isAtRest 104 = .ok (.aload_n 0, 1) := by decide +kernel
theorem dX10_isAtRest_105 : decode cX10_isAtRest 105 = .ok (.getfield 64, 3) := by decide +kernel
theorem dX10_isAtRest_108 : decode cX10_isAtRest 108 = .ok (.iload_n 2, 1) := by decide +kernel
theorem dX10_isAtRest_109 : decode cX10_isAtRest 109 = .ok (.iaload, 1) := by decide +kernel
theorem dX10_isAtRest_110 : decode cX10_isAtRest 110 = .ok (.iaload, 1) := by decide +kernel
theorem dX10_isAtRest_111 : decode cX10_isAtRest 111 = .ok (.isub, 1) := by decide +kernel
theorem dX10_isAtRest_112 : decode cX10_isAtRest 112 = .ok (.istore_n 3, 1) := by decide +kernel
theorem dX10_isAtRest_113 : decode cX10_isAtRest 113 = .ok (.iload_n 1, 1) := by decide +kernel
theorem dX10_isAtRest_114 : decode cX10_isAtRest 114 = .ok (.ifCond .eq 11, 3) := by decide +kernel
theorem dX10_isAtRest_117 : decode cX10_isAtRest 117 = .ok (.iload_n 3, 1) := by decide +kernel
theorem dX10_isAtRest_118 : decode cX10_isAtRest 118 = .ok (.ifCond .lt 7, 3) := by decide +kernel
theorem dX10_isAtRest_121 : decode cX10_isAtRest 121 = .ok (.iconst 1, 1) := by decide +kernel
theorem dX10_isAtRest_122 : decode cX10_isAtRest 122 = .ok (.goto 4, 3) := by decide +kernel
theorem dX10_isAtRest_125 : decode cX10_isAtRest 125 = .ok (.iconst 0, 1) := by decide +kernel
theorem dX10_isAtRest_126 : decode cX10_isAtRest 126 = .ok (.istore_n 1, 1) := by decide +kernel
theorem dX10_isAtRest_127 : decode cX10_isAtRest 127 = .ok (.iconst 0, 1) := by decide +kernel
theorem dX10_isAtRest_128 : decode cX10_isAtRest 128 = .ok (.istore 4, 2) := by decide +kernel
theorem dX10_isAtRest_130 : decode cX10_isAtRest 130 = .ok (.iload 4, 2) := by decide +kernel
theorem dX10_isAtRest_132 : decode cX10_isAtRest 132 = .ok (.aload_n 0, 1) := by decide +kernel
theorem dX10_isAtRest_133 : decode cX10_isAtRest 133 = .ok (.getfield 13, 3) := by decide +kernel
theorem dX10_isAtRest_136 : decode cX10_isAtRest 136 = .ok (.iconst 0, 1) := by decide +kernel
theorem dX10_isAtRest_137 : decode cX10_isAtRest 137 = .ok (.iaload, 1) := by decide +kernel
theorem dX10_isAtRest_138 : decode cX10_isAtRest 138 = .ok (.if_icmp .ge 42, 3) := by decide +kernel
theorem dX10_isAtRest_141 : decode cX10_isAtRest 141 = .ok (.iload_n 1, 1) := by decide +kernel
theorem dX10_isAtRest_142 : decode cX10_isAtRest 142 = .ok (.ifCond .eq 30, 3) := by decide +kernel
theorem dX10_isAtRest_145 : decode cX10_isAtRest 145 = .ok (.aload_n 0, 1) := by decide +kernel
theorem dX10_isAtRest_146 : decode cX10_isAtRest 146 = .ok (.getfield 25, 3) := by decide +kernel
theorem dX10_isAtRest_149 : decode cX10_isAtRest 149 = .ok (.iconst 3, 1) := by decide +kernel
theorem dX10_isAtRest_150 : decode cX10_isAtRest 150 = .ok (.iload_n 2, 1) := by decide +kernel
theorem dX10_isAtRest_151 : decode cX10_isAtRest 151 = .ok (.imul, 1) := by decide +kernel
theorem dX10_isAtRest_152 : decode cX10_isAtRest 152 = .ok (.iload 4, 2) := by decide +kernel
theorem dX10_isAtRest_154 : decode cX10_isAtRest 154 = .ok (.iadd, 1) := by decide +kernel
theorem dX10_isAtRest_155 : decode cX10_isAtRest 155 = .ok (.iaload, 1) := by decide +kernel
theorem dX10_isAtRest_156 : decode cX10_isAtRest 156 = .ok (.aload_n 0, 1) := by decide +kernel
theorem dX10_isAtRest_157 : decode cX10_isAtRest 157 = .ok (.getfield 61, 3) := by decide +kernel
theorem dX10_isAtRest_160 : decode cX10_isAtRest 160 = .ok (.iload 4, 2) := by decide +kernel
theorem dX10_isAtRest_162 : decode cX10_isAtRest 162 = .ok (.iaload, 1) := by decide +kernel
theorem dX10_isAtRest_163 : decode cX10_isAtRest 163 = .ok (.isub, 1) := by decide +kernel
theorem dX10_isAtRest_164 : decode cX10_isAtRest 164 = .ok (.iload_n 3, 1) := by decide +kernel
theorem dX10_isAtRest_165 : decode cX10_isAtRest 165 = .ok (.if_icmp .gt 7, 3) := by decide +kernel
theorem dX10_isAtRest_168 : decode cX10_isAtRest 168 = .ok (.iconst 1, 1) := by decide +kernel
theorem dX10_isAtRest_169 : decode cX10_isAtRest 169 = .ok (.goto 4, 3) := by decide +kernel
theorem dX10_isAtRest_172 : decode cX10_isAtRest 172 = .ok (.iconst 0, 1) := by decide +kernel
theorem dX10_isAtRest_173 : decode cX10_isAtRest 173 = .ok (.istore_n 1, 1) := by decide +kernel
theorem dX10_isAtRest_174 : decode cX10_isAtRest 174 = .ok (.iinc 4 1, 3) := by decide +kernel
theorem dX10_isAtRest_177 : decode cX10_isAtRest 177 = .ok (.goto (-47), 3) := by decide +kernel
theorem dX10_isAtRest_180 : decode cX10_isAtRest 180 = .ok (.iinc 2 1, 3) := by decide +kernel
theorem dX10_isAtRest_183 : decode cX10_isAtRest 183 = .ok (.goto (-127), 3) := by decide +kernel
theorem dX10_isAtRest_186 : decode cX10_isAtRest 186 = .ok (.iload_n 1, 1) := by decide +kernel
theorem dX10_isAtRest_187 : decode cX10_isAtRest 187 = .ok (.ireturn, 1) := by decide +kernel
theorem dX10_takePrices_0 : decode cX10_takePrices 0 = .ok (.iload_n 1, 1) := by decide +kernel
theorem dX10_takePrices_1 : decode cX10_takePrices 1 = .ok (.istore_n 2, 1) := by decide +kernel
theorem dX10_takePrices_2 : decode cX10_takePrices 2 = .ok (.iconst 0, 1) := by decide +kernel
theorem dX10_takePrices_3 : decode cX10_takePrices 3 = .ok (.istore_n 3, 1) := by decide +kernel
theorem dX10_takePrices_4 : decode cX10_takePrices 4 = .ok (.aload_n 0, 1) := by decide +kernel
theorem dX10_takePrices_5 : decode cX10_takePrices 5 = .ok (.getfield 13, 3) := by decide +kernel
theorem dX10_takePrices_8 : decode cX10_takePrices 8 = .ok (.iconst 0, 1) := by decide +kernel
theorem dX10_takePrices_9 : decode cX10_takePrices 9 = .ok (.iaload, 1) := by decide +kernel
theorem dX10_takePrices_10 : decode cX10_takePrices 10 = .ok (.iconst 1, 1) := by decide +kernel
theorem dX10_takePrices_11 : decode cX10_takePrices 11 = .ok (.isub, 1) := by decide +kernel
theorem dX10_takePrices_12 : decode cX10_takePrices 12 = .ok (.istore 4, 2) := by decide +kernel
theorem dX10_takePrices_14 : decode cX10_takePrices 14 = .ok (.iload 4, 2) := by decide +kernel
theorem dX10_takePrices_16 : decode cX10_takePrices 16 = .ok (.ifCond .lt 35, 3) := by decide +kernel
theorem dX10_takePrices_19 : decode cX10_takePrices 19 = .ok (.aload_n 0, 1) := by decide +kernel
theorem dX10_takePrices_20 : decode cX10_takePrices 20 = .ok (.getfield 61, 3) := by decide +kernel
theorem dX10_takePrices_23 : decode cX10_takePrices 23 = .ok (.iload 4, 2) := by decide +kernel
theorem dX10_takePrices_25 : decode cX10_takePrices 25 = .ok (.iload_n 2, 1) := by decide +kernel
theorem dX10_takePrices_26 : decode cX10_takePrices 26 = .ok (.bipush 11, 2) := by decide +kernel
theorem dX10_takePrices_28 : decode cX10_takePrices 28 = .ok (.irem, 1) := by decide +kernel
theorem dX10_takePrices_29 : decode cX10_takePrices 29 = .ok (.iastore, 1) := by decide +kernel
theorem dX10_takePrices_30 : decode cX10_takePrices 30 = .ok (.iload_n 3, 1) := by decide +kernel
theorem dX10_takePrices_31 : decode cX10_takePrices 31 = .ok (.aload_n 0, 1) := by decide +kernel
theorem dX10_takePrices_32 : decode cX10_takePrices 32 = .ok (.getfield 61, 3) := by decide +kernel
theorem dX10_takePrices_35 : decode cX10_takePrices 35 = .ok (.iload 4, 2) := by decide +kernel
theorem dX10_takePrices_37 : decode cX10_takePrices 37 = .ok (.iaload, 1) := by decide +kernel
theorem dX10_takePrices_38 : decode cX10_takePrices 38 = .ok (.iadd, 1) := by decide +kernel
theorem dX10_takePrices_39 : decode cX10_takePrices 39 = .ok (.istore_n 3, 1) := by decide +kernel
theorem dX10_takePrices_40 : decode cX10_takePrices 40 = .ok (.iload_n 2, 1) := by decide +kernel
theorem dX10_takePrices_41 : decode cX10_takePrices 41 = .ok (.bipush 11, 2) := by decide +kernel
theorem dX10_takePrices_43 : decode cX10_takePrices 43 = .ok (.idiv, 1) := by decide +kernel
theorem dX10_takePrices_44 : decode cX10_takePrices 44 = .ok (.istore_n 2, 1) := by decide +kernel
theorem dX10_takePrices_45 : decode cX10_takePrices 45 = .ok (.iinc 4 (-1), 3) := by decide +kernel
theorem dX10_takePrices_48 : decode cX10_takePrices 48 = .ok (.goto (-34), 3) := by decide +kernel
theorem dX10_takePrices_51 : decode cX10_takePrices 51 = .ok (.iload_n 3, 1) := by decide +kernel
theorem dX10_takePrices_52 : decode cX10_takePrices 52 = .ok (.ireturn, 1) := by decide +kernel
theorem dX10_canRest_0 : decode cX10_canRest 0 = .ok (.iconst 0, 1) := by decide +kernel
theorem dX10_canRest_1 : decode cX10_canRest 1 = .ok (.istore_n 1, 1) := by decide +kernel
theorem dX10_canRest_2 : decode cX10_canRest 2 = .ok (.iload_n 1, 1) := by decide +kernel
theorem dX10_canRest_3 : decode cX10_canRest 3 = .ok (.aload_n 0, 1) := by decide +kernel
theorem dX10_canRest_4 : decode cX10_canRest 4 = .ok (.invokevirtual 200, 3) := by decide +kernel
theorem dX10_canRest_7 : decode cX10_canRest 7 = .ok (.if_icmp .ge 26, 3) := by decide +kernel
theorem dX10_canRest_10 : decode cX10_canRest 10 = .ok (.aload_n 0, 1) := by decide +kernel
theorem dX10_canRest_11 : decode cX10_canRest 11 = .ok (.iload_n 1, 1) := by decide +kernel
theorem dX10_canRest_12 : decode cX10_canRest 12 = .ok (.invokevirtual 203, 3) := by decide +kernel
theorem dX10_canRest_15 : decode cX10_canRest 15 = .ok (.ifCond .eq 12, 3) := by decide +kernel
theorem dX10_canRest_18 : decode cX10_canRest 18 = .ok (.aload_n 0, 1) := by decide +kernel
theorem dX10_canRest_19 : decode cX10_canRest 19 = .ok (.invokevirtual 206, 3) := by decide +kernel
theorem dX10_canRest_22 : decode cX10_canRest 22 = .ok (.ifCond .eq 5, 3) := by decide +kernel
theorem dX10_canRest_25 : decode cX10_canRest 25 = .ok (.iconst 1, 1) := by decide +kernel
theorem dX10_canRest_26 : decode cX10_canRest 26 = .ok (.ireturn, 1) := by decide +kernel
theorem dX10_canRest_27 : decode cX10_canRest 27 = .ok (.iinc 1 1, 3) := by decide +kernel
theorem dX10_canRest_30 : decode cX10_canRest 30 = .ok (.goto (-28), 3) := by decide +kernel
theorem dX10_canRest_33 : decode cX10_canRest 33 = .ok (.iconst 0, 1) := by decide +kernel
theorem dX10_canRest_34 : decode cX10_canRest 34 = .ok (.ireturn, 1) := by decide +kernel
theorem dX10_rest_0 : decode cX10_rest 0 = .ok (.iload_n 1, 1) := by decide +kernel
theorem dX10_rest_1 : decode cX10_rest 1 = .ok (.iconst (-1), 1) := by decide +kernel
theorem dX10_rest_2 : decode cX10_rest 2 = .ok (.if_icmp .eq 13, 3) := by decide +kernel
theorem dX10_rest_5 : decode cX10_rest 5 = .ok (.aload_n 0, 1) := by decide +kernel
theorem dX10_rest_6 : decode cX10_rest 6 = .ok (.iload_n 1, 1) := by decide +kernel
theorem dX10_rest_7 : decode cX10_rest 7 = .ok (.invokevirtual 188, 3) := by decide +kernel
theorem dX10_rest_10 : decode cX10_rest 10 = .ok (.ifCond .ne 5, 3) := by decide +kernel
theorem dX10_rest_13 : decode cX10_rest 13 = .ok (.iconst (-1), 1) := by decide +kernel
theorem dX10_rest_14 : decode cX10_rest 14 = .ok (.ireturn, 1) := by decide +kernel
theorem dX10_rest_15 : decode cX10_rest 15 = .ok (.aload_n 0, 1) := by decide +kernel
theorem dX10_rest_16 : decode cX10_rest 16 = .ok (.getfield 13, 3) := by decide +kernel
theorem dX10_rest_19 : decode cX10_rest 19 = .ok (.iconst 0, 1) := by decide +kernel
theorem dX10_rest_20 : decode cX10_rest 20 = .ok (.iaload, 1) := by decide +kernel
theorem dX10_rest_21 : decode cX10_rest 21 = .ok (.iconst 1, 1) := by decide +kernel
theorem dX10_rest_22 : decode cX10_rest 22 = .ok (.if_icmp .ne 8, 3) := by decide +kernel
theorem dX10_rest_25 : decode cX10_rest 25 = .ok (.bipush 11, 2) := by decide +kernel
theorem dX10_rest_27 : decode cX10_rest 27 = .ok (.goto 21, 3) := by decide +kernel
theorem dX10_rest_30 : decode cX10_rest 30 = .ok (.aload_n 0, 1) := by decide +kernel
theorem dX10_rest_31 : decode cX10_rest 31 = .ok (.getfield 13, 3) := by decide +kernel
theorem dX10_rest_34 : decode cX10_rest 34 = .ok (.iconst 0, 1) := by decide +kernel
theorem dX10_rest_35 : decode cX10_rest 35 = .ok (.iaload, 1) := by decide +kernel
theorem dX10_rest_36 : decode cX10_rest 36 = .ok (.iconst 2, 1) := by decide +kernel
theorem dX10_rest_37 : decode cX10_rest 37 = .ok (.if_icmp .ne 8, 3) := by decide +kernel
theorem dX10_rest_40 : decode cX10_rest 40 = .ok (.bipush 121, 2) := by decide +kernel
theorem dX10_rest_42 : decode cX10_rest 42 = .ok (.goto 6, 3) := by decide +kernel
theorem dX10_rest_45 : decode cX10_rest 45 = .ok (.sipush 1331, 3) := by decide +kernel
theorem dX10_rest_48 : decode cX10_rest 48 = .ok (.istore_n 3, 1) := by decide +kernel
theorem dX10_rest_49 : decode cX10_rest 49 = .ok (.bipush (-4), 2) := by decide +kernel
theorem dX10_rest_51 : decode cX10_rest 51 = .ok (.istore 4, 2) := by decide +kernel
theorem dX10_rest_53 : decode cX10_rest 53 = .ok (.iconst 0, 1) := by decide +kernel
theorem dX10_rest_54 : decode cX10_rest 54 = .ok (.istore 5, 2) := by decide +kernel
theorem dX10_rest_56 : decode cX10_rest 56 = .ok (.iconst 0, 1) := by decide +kernel
theorem dX10_rest_57 : decode cX10_rest 57 = .ok (.istore 6, 2) := by decide +kernel
theorem dX10_rest_59 : decode cX10_rest 59 = .ok (.iload 6, 2) := by decide +kernel
theorem dX10_rest_61 : decode cX10_rest 61 = .ok (.iload_n 3, 1) := by decide +kernel
theorem dX10_rest_62 : decode cX10_rest 62 = .ok (.if_icmp .ge 70, 3) := by decide +kernel
theorem dX10_rest_65 : decode cX10_rest 65 = .ok (.aload_n 0, 1) := by decide +kernel
theorem dX10_rest_66 : decode cX10_rest 66 = .ok (.iload 6, 2) := by decide +kernel
theorem dX10_rest_68 : decode cX10_rest 68 = .ok (.invokevirtual 209, 3) := by decide +kernel
theorem dX10_rest_71 : decode cX10_rest 71 = .ok (.istore 7, 2) := by decide +kernel
theorem dX10_rest_73 : decode cX10_rest 73 = .ok (.iload 4, 2) := by decide +kernel
theorem dX10_rest_75 : decode cX10_rest 75 = .ok (.ifCond .lt 24, 3) := by decide +kernel
theorem dX10_rest_78 : decode cX10_rest 78 = .ok (.iload_n 2, 1) := by decide +kernel
theorem dX10_rest_79 : decode cX10_rest 79 = .ok (.ifCond .eq 13, 3) := by decide +kernel
theorem dX10_rest_82 : decode cX10_rest 82 = .ok (.iload 7, 2) := by decide +kernel
theorem dX10_rest_84 : decode cX10_rest 84 = .ok (.iload 5, 2) := by decide +kernel
theorem dX10_rest_86 : decode cX10_rest 86 = .ok (.if_icmp .le 17, 3) := by decide +kernel
theorem dX10_rest_89 : decode cX10_rest 89 = .ok (.goto 10, 3) := by decide +kernel
theorem dX10_rest_92 : decode cX10_rest 92 = .ok (.iload 7, 2) := by decide +kernel
theorem dX10_rest_94 : decode cX10_rest 94 = .ok (.iload 5, 2) := by decide +kernel
theorem dX10_rest_96 : decode cX10_rest 96 = .ok (.if_icmp .ge 7, 3) := by decide +kernel
theorem dX10_rest_99 : decode cX10_rest 99 = .ok (.iconst 1, 1) := by decide +kernel
theorem dX10_rest_100 : decode cX10_rest 100 = .ok (.goto 4, 3) := by decide +kernel
theorem dX10_rest_103 : decode cX10_rest 103 = .ok (.iconst 0, 1) := by decide +kernel
theorem dX10_rest_104 : decode cX10_rest 104 = .ok (.istore 8, 2) := by decide +kernel
theorem dX10_rest_106 : decode cX10_rest 106 = .ok (.iload 8, 2) := by decide +kernel
theorem dX10_rest_108 : decode cX10_rest 108 = .ok (.ifCond .eq 18, 3) := by decide +kernel
theorem dX10_rest_111 : decode cX10_rest 111 = .ok (.aload_n 0, 1) := by decide +kernel
theorem dX10_rest_112 : decode cX10_rest 112 = .ok (.invokevirtual 212, 3) := by decide +kernel
theorem dX10_rest_115 : decode cX10_rest 115 = .ok (.ifCond .eq 11, 3) := by decide +kernel
theorem dX10_rest_118 : decode cX10_rest 118 = .ok (.iload 6, 2) := by decide +kernel
theorem dX10_rest_120 : decode cX10_rest 120 = .ok (.istore 4, 2) := by decide +kernel
theorem dX10_rest_122 : decode cX10_rest 122 = .ok (.iload 7, 2) := by decide +kernel
theorem dX10_rest_124 : decode cX10_rest 124 = .ok (.istore 5, 2) := by decide +kernel
theorem dX10_rest_126 : decode cX10_rest 126 = .ok (.iinc 6 1, 3) := by decide +kernel
theorem dX10_rest_129 : decode cX10_rest 129 = .ok (.goto (-70), 3) := by decide +kernel
theorem dX10_rest_132 : decode cX10_rest 132 = .ok (.iload 4, 2) := by decide +kernel
theorem dX10_rest_134 : decode cX10_rest 134 = .ok (.ifCond .ge 6, 3) := by decide +kernel
theorem dX10_rest_137 : decode cX10_rest 137 = .ok (.bipush (-4), 2) := by decide +kernel
theorem dX10_rest_139 : decode cX10_rest 139 = .ok (.ireturn, 1) := by decide +kernel
theorem dX10_rest_140 : decode cX10_rest 140 = .ok (.aload_n 0, 1) := by decide +kernel
theorem dX10_rest_141 : decode cX10_rest 141 = .ok (.iload 4, 2) := by decide +kernel
theorem dX10_rest_143 : decode cX10_rest 143 = .ok (.invokevirtual 209, 3) := by decide +kernel
theorem dX10_rest_146 : decode cX10_rest 146 = .ok (.pop, 1) := by decide +kernel
theorem dX10_rest_147 : decode cX10_rest 147 = .ok (.iload_n 1, 1) := by decide +kernel
theorem dX10_rest_148 : decode cX10_rest 148 = .ok (.ifCond .ge 8, 3) := by decide +kernel
theorem dX10_rest_151 : decode cX10_rest 151 = .ok (.iload 5, 2) := by decide +kernel
theorem dX10_rest_153 : decode cX10_rest 153 = .ok (.goto 9, 3) := by decide +kernel
theorem dX10_rest_156 : decode cX10_rest 156 = .ok (.aload_n 0, 1) := by decide +kernel
theorem dX10_rest_157 : decode cX10_rest 157 = .ok (.getfield 61, 3) := by decide +kernel
theorem dX10_rest_160 : decode cX10_rest 160 = .ok (.iload_n 1, 1) := by decide +kernel
theorem dX10_rest_161 : decode cX10_rest 161 = .ok (.iaload, 1) := by decide +kernel
theorem dX10_rest_162 : decode cX10_rest 162 = .ok (.ireturn, 1) := by decide +kernel
theorem dX10_sumOf_0 : decode cX10_sumOf 0 = .ok (.iconst 0, 1) := by decide +kernel
theorem dX10_sumOf_1 : decode cX10_sumOf 1 = .ok (.istore_n 2, 1) := by decide +kernel
theorem dX10_sumOf_2 : decode cX10_sumOf 2 = .ok (.iconst 0, 1) := by decide +kernel
theorem dX10_sumOf_3 : decode cX10_sumOf 3 = .ok (.istore_n 3, 1) := by decide +kernel
theorem dX10_sumOf_4 : decode cX10_sumOf 4 = .ok (.iload_n 3, 1) := by decide +kernel
theorem dX10_sumOf_5 : decode cX10_sumOf 5 = .ok (.aload_n 0, 1) := by decide +kernel
theorem dX10_sumOf_6 : decode cX10_sumOf 6 = .ok (.getfield 19, 3) := by decide +kernel
theorem dX10_sumOf_9 : decode cX10_sumOf 9 = .ok (.iconst 0, 1) := by decide +kernel
theorem dX10_sumOf_10 : decode cX10_sumOf 10 = .ok (.iaload, 1) := by decide +kernel
theorem dX10_sumOf_11 : decode cX10_sumOf 11 = .ok (.if_icmp .ge 51, 3) := by decide +kernel
theorem dX10_sumOf_14 : decode cX10_sumOf 14 = .ok (.iload_n 2, 1) := by decide +kernel
theorem dX10_sumOf_15 : decode cX10_sumOf 15 = .ok (.iload_n 3, 1) := by decide +kernel
theorem dX10_sumOf_16 : decode cX10_sumOf 16 = .ok (.iload_n 1, 1) := by decide +kernel
theorem dX10_sumOf_17 : decode cX10_sumOf 17 = .ok (.if_icmp .eq 18, 3) := by decide +kernel
theorem dX10_sumOf_20 : decode cX10_sumOf 20 = .ok (.aload_n 0, 1) := by decide +kernel
theorem dX10_sumOf_21 : decode cX10_sumOf 21 = .ok (.getfield 64, 3) := by decide +kernel
theorem dX10_sumOf_24 : decode cX10_sumOf 24 = .ok (.iload_n 3, 1) := by decide +kernel
theorem dX10_sumOf_25 : decode cX10_sumOf 25 = .ok (.iaload, 1) := by decide +kernel
theorem dX10_sumOf_26 : decode cX10_sumOf 26 = .ok (.aload_n 0, 1) := by decide +kernel
theorem dX10_sumOf_27 : decode cX10_sumOf 27 = .ok (.getfield 13, 3) := by decide +kernel
theorem dX10_sumOf_30 : decode cX10_sumOf 30 = .ok (.iconst 0, 1) := by decide +kernel
theorem dX10_sumOf_31 : decode cX10_sumOf 31 = .ok (.iaload, 1) := by decide +kernel
theorem dX10_sumOf_32 : decode cX10_sumOf 32 = .ok (.if_icmp .ne 7, 3) := by decide +kernel
theorem dX10_sumOf_35 : decode cX10_sumOf 35 = .ok (.iconst 0, 1) := by decide +kernel
theorem dX10_sumOf_36 : decode cX10_sumOf 36 = .ok (.goto 18, 3) := by decide +kernel
theorem dX10_sumOf_39 : decode cX10_sumOf 39 = .ok (.aload_n 0, 1) := by decide +kernel
theorem dX10_sumOf_40 : decode cX10_sumOf 40 = .ok (.getfield 25, 3) := by decide +kernel
theorem dX10_sumOf_43 : decode cX10_sumOf 43 = .ok (.iconst 3, 1) := by decide +kernel
theorem dX10_sumOf_44 : decode cX10_sumOf 44 = .ok (.iload_n 3, 1) := by decide +kernel
theorem dX10_sumOf_45 : decode cX10_sumOf 45 = .ok (.imul, 1) := by decide +kernel
theorem dX10_sumOf_46 : decode cX10_sumOf 46 = .ok (.aload_n 0, 1) := by decide +kernel
theorem dX10_sumOf_47 : decode cX10_sumOf 47 = .ok (.getfield 64, 3) := by decide +kernel
theorem dX10_sumOf_50 : decode cX10_sumOf 50 = .ok (.iload_n 3, 1) := by decide +kernel
theorem dX10_sumOf_51 : decode cX10_sumOf 51 = .ok (.iaload, 1) := by decide +kernel
theorem dX10_sumOf_52 : decode cX10_sumOf 52 = .ok (.iadd, 1) := by decide +kernel
theorem dX10_sumOf_53 : decode cX10_sumOf 53 = .ok (.iaload, 1) := by decide +kernel
theorem dX10_sumOf_54 : decode cX10_sumOf 54 = .ok (.iadd, 1) := by decide +kernel
theorem dX10_sumOf_55 : decode cX10_sumOf 55 = .ok (.istore_n 2, 1) := by decide +kernel
theorem dX10_sumOf_56 : decode cX10_sumOf 56 = .ok (.iinc 3 1, 3) := by decide +kernel
theorem dX10_sumOf_59 : decode cX10_sumOf 59 = .ok (.goto (-55), 3) := by decide +kernel
theorem dX10_sumOf_62 : decode cX10_sumOf 62 = .ok (.iload_n 2, 1) := by decide +kernel
theorem dX10_sumOf_63 : decode cX10_sumOf 63 = .ok (.ireturn, 1) := by decide +kernel
theorem dX10_bestWay_0 : decode cX10_bestWay 0 = .ok (.bipush (-4), 2) := by decide +kernel
theorem dX10_bestWay_2 : decode cX10_bestWay 2 = .ok (.istore_n 2, 1) := by decide +kernel
theorem dX10_bestWay_3 : decode cX10_bestWay 3 = .ok (.bipush (-4), 2) := by decide +kernel
theorem dX10_bestWay_5 : decode cX10_bestWay 5 = .ok (.istore_n 3, 1) := by decide +kernel
theorem dX10_bestWay_6 : decode cX10_bestWay 6 = .ok (.iconst 0, 1) := by decide +kernel
theorem dX10_bestWay_7 : decode cX10_bestWay 7 = .ok (.istore 4, 2) := by decide +kernel
theorem dX10_bestWay_9 : decode cX10_bestWay 9 = .ok (.iload 4, 2) := by decide +kernel
theorem dX10_bestWay_11 : decode cX10_bestWay 11 = .ok (.aload_n 0, 1) := by decide +kernel
theorem dX10_bestWay_12 : decode cX10_bestWay 12 = .ok (.invokevirtual 200, 3) := by decide +kernel
theorem dX10_bestWay_15 : decode cX10_bestWay 15 = .ok (.if_icmp .ge 88, 3) := by decide +kernel
theorem dX10_bestWay_18 : decode cX10_bestWay 18 = .ok (.aload_n 0, 1) := by decide +kernel
theorem dX10_bestWay_19 : decode cX10_bestWay 19 = .ok (.iload 4, 2) := by decide +kernel
theorem dX10_bestWay_21 : decode cX10_bestWay 21 = .ok (.invokevirtual 203, 3) := by decide +kernel
theorem dX10_bestWay_24 : decode cX10_bestWay 24 = .ok (.ifCond .eq 26, 3) := by decide +kernel
theorem dX10_bestWay_27 : decode cX10_bestWay 27 = .ok (.iload_n 1, 1) := by decide +kernel
theorem dX10_bestWay_28 : decode cX10_bestWay 28 = .ok (.ifCond .lt 18, 3) := by decide +kernel
theorem dX10_bestWay_31 : decode cX10_bestWay 31 = .ok (.aload_n 0, 1) := by decide +kernel
theorem dX10_bestWay_32 : decode cX10_bestWay 32 = .ok (.getfield 64, 3) := by decide +kernel
theorem dX10_bestWay_35 : decode cX10_bestWay 35 = .ok (.iload_n 1, 1) := by decide +kernel
theorem dX10_bestWay_36 : decode cX10_bestWay 36 = .ok (.iaload, 1) := by decide +kernel
theorem dX10_bestWay_37 : decode cX10_bestWay 37 = .ok (.aload_n 0, 1) := by decide +kernel
theorem dX10_bestWay_38 : decode cX10_bestWay 38 = .ok (.getfield 13, 3) := by decide +kernel
theorem dX10_bestWay_41 : decode cX10_bestWay 41 = .ok (.iconst 0, 1) := by decide +kernel
theorem dX10_bestWay_42 : decode cX10_bestWay 42 = .ok (.iaload, 1) := by decide +kernel
theorem dX10_bestWay_43 : decode cX10_bestWay 43 = .ok (.if_icmp .ne 7, 3) := by decide +kernel
theorem dX10_bestWay_46 : decode cX10_bestWay 46 = .ok (.iconst 1, 1) := by decide +kernel
theorem dX10_bestWay_47 : decode cX10_bestWay 47 = .ok (.goto 4, 3) := by decide +kernel
theorem dX10_bestWay_50 : decode cX10_bestWay 50 = .ok (.iconst 0, 1) := by decide +kernel
theorem dX10_bestWay_51 : decode cX10_bestWay 51 = .ok (.istore 5, 2) := by decide +kernel
theorem dX10_bestWay_53 : decode cX10_bestWay 53 = .ok (.iload 5, 2) := by decide +kernel
theorem dX10_bestWay_55 : decode cX10_bestWay 55 = .ok (.ifCond .eq 12, 3) := by decide +kernel
theorem dX10_bestWay_58 : decode cX10_bestWay 58 = .ok (.aload_n 0, 1) := by decide +kernel
theorem dX10_bestWay_59 : decode cX10_bestWay 59 = .ok (.bipush (-4), 2) := by decide +kernel
theorem dX10_bestWay_61 : decode cX10_bestWay 61 = .ok (.invokevirtual 215, 3) := by decide +kernel
theorem dX10_bestWay_64 : decode cX10_bestWay 64 = .ok (.goto 5, 3) := by decide +kernel
theorem dX10_bestWay_67 : decode cX10_bestWay 67 = .ok (.bipush (-4), 2) := by decide +kernel
theorem dX10_bestWay_69 : decode cX10_bestWay 69 = .ok (.istore 6, 2) := by decide +kernel
theorem dX10_bestWay_71 : decode cX10_bestWay 71 = .ok (.iload 6, 2) := by decide +kernel
theorem dX10_bestWay_73 : decode cX10_bestWay 73 = .ok (.iload_n 3, 1) := by decide +kernel
theorem dX10_bestWay_74 : decode cX10_bestWay 74 = .ok (.if_icmp .le 8, 3) := by decide +kernel
theorem dX10_bestWay_77 : decode cX10_bestWay 77 = .ok (.iload 4, 2) := by decide +kernel
theorem dX10_bestWay_79 : decode cX10_bestWay 79 = .ok (.goto 4, 3) := by decide +kernel
theorem dX10_bestWay_82 : decode cX10_bestWay 82 = .ok (.iload_n 2, 1) := by decide +kernel
theorem dX10_bestWay_83 : decode cX10_bestWay 83 = .ok (.istore_n 2, 1) := by decide +kernel
theorem dX10_bestWay_84 : decode cX10_bestWay 84 = .ok (.iload 6, 2) := by decide +kernel
theorem dX10_bestWay_86 : decode cX10_bestWay 86 = .ok (.iload_n 3, 1) := by decide +kernel
theorem dX10_bestWay_87 : decode cX10_bestWay 87 = .ok (.if_icmp .le 8, 3) := by decide +kernel
theorem dX10_bestWay_90 : decode cX10_bestWay 90 = .ok (.iload 6, 2) := by decide +kernel
theorem dX10_bestWay_92 : decode cX10_bestWay 92 = .ok (.goto 4, 3) := by decide +kernel
theorem dX10_bestWay_95 : decode cX10_bestWay 95 = .ok (.iload_n 3, 1) := by decide +kernel
theorem dX10_bestWay_96 : decode cX10_bestWay 96 = .ok (.istore_n 3, 1) := by decide +kernel
theorem dX10_bestWay_97 : decode cX10_bestWay 97 = .ok (.iinc 4 1, 3) := by decide +kernel
theorem dX10_bestWay_100 : decode cX10_bestWay 100 = .ok (.goto (-91), 3) := by decide +kernel
theorem dX10_bestWay_103 : decode cX10_bestWay 103 = .ok (.iload_n 2, 1) := by decide +kernel
theorem dX10_bestWay_104 : decode cX10_bestWay 104 = .ok (.ireturn, 1) := by decide +kernel
theorem dX10_joint_0 : decode cX10_joint 0 = .ok (.iload_n 1, 1) := by decide +kernel
theorem dX10_joint_1 : decode cX10_joint 1 = .ok (.iconst (-1), 1) := by decide +kernel
theorem dX10_joint_2 : decode cX10_joint 2 = .ok (.if_icmp .eq 13, 3) := by decide +kernel
theorem dX10_joint_5 : decode cX10_joint 5 = .ok (.aload_n 0, 1) := by decide +kernel
theorem dX10_joint_6 : decode cX10_joint 6 = .ok (.iload_n 1, 1) := by decide +kernel
theorem dX10_joint_7 : decode cX10_joint 7 = .ok (.invokevirtual 177, 3) := by decide +kernel
theorem dX10_joint_10 : decode cX10_joint 10 = .ok (.ifCond .ne 5, 3) := by decide +kernel
theorem dX10_joint_13 : decode cX10_joint 13 = .ok (.iconst (-1), 1) := by decide +kernel
theorem dX10_joint_14 : decode cX10_joint 14 = .ok (.ireturn, 1) := by decide +kernel
theorem dX10_joint_15 : decode cX10_joint 15 = .ok (.aload_n 0, 1) := by decide +kernel
theorem dX10_joint_16 : decode cX10_joint 16 = .ok (.aload_n 0, 1) := by decide +kernel
theorem dX10_joint_17 : decode cX10_joint 17 = .ok (.bipush (-4), 2) := by decide +kernel
theorem dX10_joint_19 : decode cX10_joint 19 = .ok (.invokevirtual 218, 3) := by decide +kernel
theorem dX10_joint_22 : decode cX10_joint 22 = .ok (.invokevirtual 203, 3) := by decide +kernel
theorem dX10_joint_25 : decode cX10_joint 25 = .ok (.pop, 1) := by decide +kernel
theorem dX10_joint_26 : decode cX10_joint 26 = .ok (.iload_n 1, 1) := by decide +kernel
theorem dX10_joint_27 : decode cX10_joint 27 = .ok (.ifCond .ge 12, 3) := by decide +kernel
theorem dX10_joint_30 : decode cX10_joint 30 = .ok (.aload_n 0, 1) := by decide +kernel
theorem dX10_joint_31 : decode cX10_joint 31 = .ok (.bipush (-4), 2) := by decide +kernel
theorem dX10_joint_33 : decode cX10_joint 33 = .ok (.invokevirtual 215, 3) := by decide +kernel
theorem dX10_joint_36 : decode cX10_joint 36 = .ok (.goto 29, 3) := by decide +kernel
theorem dX10_joint_39 : decode cX10_joint 39 = .ok (.aload_n 0, 1) := by decide +kernel
theorem dX10_joint_40 : decode cX10_joint 40 = .ok (.getfield 64, 3) := by decide +kernel
theorem dX10_joint_43 : decode cX10_joint 43 = .ok (.iload_n 1, 1) := by decide +kernel
theorem dX10_joint_44 : decode cX10_joint 44 = .ok (.iaload, 1) := by decide +kernel
theorem dX10_joint_45 : decode cX10_joint 45 = .ok (.aload_n 0, 1) := by decide +kernel
theorem dX10_joint_46 : decode cX10_joint 46 = .ok (.getfield 13, 3) := by decide +kernel
theorem dX10_joint_49 : decode cX10_joint 49 = .ok (.iconst 0, 1) := by decide +kernel
theorem dX10_joint_50 : decode cX10_joint 50 = .ok (.iaload, 1) := by decide +kernel
theorem dX10_joint_51 : decode cX10_joint 51 = .ok (.if_icmp .ne 8, 3) := by decide +kernel
theorem dX10_joint_54 : decode cX10_joint 54 = .ok (.bipush (-4), 2) := by decide +kernel
theorem dX10_joint_56 : decode cX10_joint 56 = .ok (.goto 9, 3) := by decide +kernel
theorem dX10_joint_59 : decode cX10_joint 59 = .ok (.aload_n 0, 1) := by decide +kernel
theorem dX10_joint_60 : decode cX10_joint 60 = .ok (.getfield 64, 3) := by decide +kernel
theorem dX10_joint_63 : decode cX10_joint 63 = .ok (.iload_n 1, 1) := by decide +kernel
theorem dX10_joint_64 : decode cX10_joint 64 = .ok (.iaload, 1) := by decide +kernel
theorem dX10_joint_65 : decode cX10_joint 65 = .ok (.ireturn, 1) := by decide +kernel
theorem dX10_pay_0 : decode cX10_pay 0 = .ok (.aload_n 0, 1) := by decide +kernel
theorem dX10_pay_1 : decode cX10_pay 1 = .ok (.iload_n 1, 1) := by decide +kernel
theorem dX10_pay_2 : decode cX10_pay 2 = .ok (.invokevirtual 177, 3) := by decide +kernel
theorem dX10_pay_5 : decode cX10_pay 5 = .ok (.ifCond .ne 5, 3) := by decide +kernel
theorem dX10_pay_8 : decode cX10_pay 8 = .ok (.iconst (-1), 1) := by decide +kernel
theorem dX10_pay_9 : decode cX10_pay 9 = .ok (.ireturn, 1) := by decide +kernel
theorem dX10_pay_10 : decode cX10_pay 10 = .ok (.aload_n 0, 1) := by decide +kernel
theorem dX10_pay_11 : decode cX10_pay 11 = .ok (.aload_n 0, 1) := by decide +kernel
theorem dX10_pay_12 : decode cX10_pay 12 = .ok (.iload_n 1, 1) := by decide +kernel
theorem dX10_pay_13 : decode cX10_pay 13 = .ok (.invokevirtual 218, 3) := by decide +kernel
theorem dX10_pay_16 : decode cX10_pay 16 = .ok (.invokevirtual 203, 3) := by decide +kernel
theorem dX10_pay_19 : decode cX10_pay 19 = .ok (.pop, 1) := by decide +kernel
theorem dX10_pay_20 : decode cX10_pay 20 = .ok (.aload_n 0, 1) := by decide +kernel
theorem dX10_pay_21 : decode cX10_pay 21 = .ok (.bipush (-4), 2) := by decide +kernel
theorem dX10_pay_23 : decode cX10_pay 23 = .ok (.invokevirtual 215, 3) := by decide +kernel
theorem dX10_pay_26 : decode cX10_pay 26 = .ok (.istore_n 2, 1) := by decide +kernel
theorem dX10_pay_27 : decode cX10_pay 27 = .ok (.aload_n 0, 1) := by decide +kernel
theorem dX10_pay_28 : decode cX10_pay 28 = .ok (.aload_n 0, 1) := by decide +kernel
theorem dX10_pay_29 : decode cX10_pay 29 = .ok (.bipush (-4), 2) := by decide +kernel
theorem dX10_pay_31 : decode cX10_pay 31 = .ok (.invokevirtual 218, 3) := by decide +kernel
theorem dX10_pay_34 : decode cX10_pay 34 = .ok (.invokevirtual 203, 3) := by decide +kernel
theorem dX10_pay_37 : decode cX10_pay 37 = .ok (.pop, 1) := by decide +kernel
theorem dX10_pay_38 : decode cX10_pay 38 = .ok (.iload_n 2, 1) := by decide +kernel
theorem dX10_pay_39 : decode cX10_pay 39 = .ok (.aload_n 0, 1) := by decide +kernel
theorem dX10_pay_40 : decode cX10_pay 40 = .ok (.iload_n 1, 1) := by decide +kernel
theorem dX10_pay_41 : decode cX10_pay 41 = .ok (.invokevirtual 215, 3) := by decide +kernel
theorem dX10_pay_44 : decode cX10_pay 44 = .ok (.isub, 1) := by decide +kernel
theorem dX10_pay_45 : decode cX10_pay 45 = .ok (.ireturn, 1) := by decide +kernel
theorem dX10_seen_0 : decode cX10_seen 0 = .ok (.aload_n 0, 1) := by decide +kernel
theorem dX10_seen_1 : decode cX10_seen 1 = .ok (.iload_n 1, 1) := by decide +kernel
theorem dX10_seen_2 : decode cX10_seen 2 = .ok (.invokevirtual 188, 3) := by decide +kernel
theorem dX10_seen_5 : decode cX10_seen 5 = .ok (.ifCond .eq 15, 3) := by decide +kernel
theorem dX10_seen_8 : decode cX10_seen 8 = .ok (.iload_n 2, 1) := by decide +kernel
theorem dX10_seen_9 : decode cX10_seen 9 = .ok (.i2l, 1) := by decide +kernel
theorem dX10_seen_10 : decode cX10_seen 10 = .ok (.lconst 0, 1) := by decide +kernel
theorem dX10_seen_11 : decode cX10_seen 11 = .ok (.ldc2_w 108, 3) := by decide +kernel
theorem dX10_seen_14 : decode cX10_seen 14 = .ok (.invokestatic 79, 3) := by decide +kernel
theorem dX10_seen_17 : decode cX10_seen 17 = .ok (.ifCond .ne 5, 3) := by decide +kernel
theorem dX10_seen_20 : decode cX10_seen 20 = .ok (.iconst (-1), 1) := by decide +kernel
theorem dX10_seen_21 : decode cX10_seen 21 = .ok (.ireturn, 1) := by decide +kernel
theorem dX10_seen_22 : decode cX10_seen 22 = .ok (.aload_n 0, 1) := by decide +kernel
theorem dX10_seen_23 : decode cX10_seen 23 = .ok (.getfield 128, 3) := by decide +kernel
theorem dX10_seen_26 : decode cX10_seen 26 = .ok (.bipush 6, 2) := by decide +kernel
theorem dX10_seen_28 : decode cX10_seen 28 = .ok (.if_icmp .ne 6, 3) := by decide +kernel
theorem dX10_seen_31 : decode cX10_seen 31 = .ok (.bipush (-3), 2) := by decide +kernel
theorem dX10_seen_33 : decode cX10_seen 33 = .ok (.ireturn, 1) := by decide +kernel
theorem dX10_seen_34 : decode cX10_seen 34 = .ok (.aload_n 0, 1) := by decide +kernel
theorem dX10_seen_35 : decode cX10_seen 35 = .ok (.getfield 40, 3) := by decide +kernel
theorem dX10_seen_38 : decode cX10_seen 38 = .ok (.aload_n 0, 1) := by decide +kernel
theorem dX10_seen_39 : decode cX10_seen 39 = .ok (.getfield 128, 3) := by decide +kernel
theorem dX10_seen_42 : decode cX10_seen 42 = .ok (.iload_n 1, 1) := by decide +kernel
theorem dX10_seen_43 : decode cX10_seen 43 = .ok (.iastore, 1) := by decide +kernel
theorem dX10_seen_44 : decode cX10_seen 44 = .ok (.aload_n 0, 1) := by decide +kernel
theorem dX10_seen_45 : decode cX10_seen 45 = .ok (.getfield 43, 3) := by decide +kernel
theorem dX10_seen_48 : decode cX10_seen 48 = .ok (.aload_n 0, 1) := by decide +kernel
theorem dX10_seen_49 : decode cX10_seen 49 = .ok (.getfield 128, 3) := by decide +kernel
theorem dX10_seen_52 : decode cX10_seen 52 = .ok (.iload_n 2, 1) := by decide +kernel
theorem dX10_seen_53 : decode cX10_seen 53 = .ok (.iastore, 1) := by decide +kernel
theorem dX10_seen_54 : decode cX10_seen 54 = .ok (.aload_n 0, 1) := by decide +kernel
theorem dX10_seen_55 : decode cX10_seen 55 = .ok (.dup, 1) := by decide +kernel
theorem dX10_seen_56 : decode cX10_seen 56 = .ok (.getfield 128, 3) := by decide +kernel
theorem dX10_seen_59 : decode cX10_seen 59 = .ok (.iconst 1, 1) := by decide +kernel
theorem dX10_seen_60 : decode cX10_seen 60 = .ok (.iadd, 1) := by decide +kernel
theorem dX10_seen_61 : decode cX10_seen 61 = .ok (.putfield 128, 3) := by decide +kernel
theorem dX10_seen_64 : decode cX10_seen 64 = .ok (.aload_n 0, 1) := by decide +kernel
theorem dX10_seen_65 : decode cX10_seen 65 = .ok (.getfield 128, 3) := by decide +kernel
theorem dX10_seen_68 : decode cX10_seen 68 = .ok (.ireturn, 1) := by decide +kernel
theorem dX10_forget_0 : decode cX10_forget 0 = .ok (.aload_n 0, 1) := by decide +kernel
theorem dX10_forget_1 : decode cX10_forget 1 = .ok (.getfield 128, 3) := by decide +kernel
theorem dX10_forget_4 : decode cX10_forget 4 = .ok (.istore_n 1, 1) := by decide +kernel
theorem dX10_forget_5 : decode cX10_forget 5 = .ok (.aload_n 0, 1) := by decide +kernel
theorem dX10_forget_6 : decode cX10_forget 6 = .ok (.iconst 0, 1) := by decide +kernel
theorem dX10_forget_7 : decode cX10_forget 7 = .ok (.putfield 128, 3) := by decide +kernel
theorem dX10_forget_10 : decode cX10_forget 10 = .ok (.iload_n 1, 1) := by decide +kernel
theorem dX10_forget_11 : decode cX10_forget 11 = .ok (.ireturn, 1) := by decide +kernel
theorem dX10_isSeenSo_0 : decode cX10_isSeenSo 0 = .ok (.aload_n 0, 1) := by decide +kernel
theorem dX10_isSeenSo_1 : decode cX10_isSeenSo 1 = .ok (.iload_n 1, 1) := by decide +kernel
theorem dX10_isSeenSo_2 : decode cX10_isSeenSo 2 = .ok (.invokevirtual 182, 3) := by decide +kernel
theorem dX10_isSeenSo_5 : decode cX10_isSeenSo 5 = .ok (.iconst 1, 1) := by decide +kernel
theorem dX10_isSeenSo_6 : decode cX10_isSeenSo 6 = .ok (.istore_n 2, 1) := by decide +kernel
theorem dX10_isSeenSo_7 : decode cX10_isSeenSo 7 = .ok (.iconst 0, 1) := by decide +kernel
theorem dX10_isSeenSo_8 : decode cX10_isSeenSo 8 = .ok (.istore_n 3, 1) := by decide +kernel
theorem dX10_isSeenSo_9 : decode cX10_isSeenSo 9 = .ok (.iload_n 3, 1) := by decide +kernel
theorem dX10_isSeenSo_10 : decode cX10_isSeenSo 10 = .ok (.aload_n 0, 1) := by decide +kernel
theorem dX10_isSeenSo_11 : decode cX10_isSeenSo 11 = .ok (.getfield 128, 3) := by decide +kernel
theorem dX10_isSeenSo_14 : decode cX10_isSeenSo 14 = .ok (.if_icmp .ge 38, 3) := by decide +kernel
theorem dX10_isSeenSo_17 : decode cX10_isSeenSo 17 = .ok (.iload_n 2, 1) := by decide +kernel
theorem dX10_isSeenSo_18 : decode cX10_isSeenSo 18 = .ok (.ifCond .eq 26, 3) := by decide +kernel
theorem dX10_isSeenSo_21 : decode cX10_isSeenSo 21 = .ok (.aload_n 0, 1) := by decide +kernel
theorem dX10_isSeenSo_22 : decode cX10_isSeenSo 22 = .ok (.aload_n 0, 1) := by decide +kernel
theorem dX10_isSeenSo_23 : decode cX10_isSeenSo 23 = .ok (.getfield 40, 3) := by decide +kernel
theorem dX10_isSeenSo_26 : decode cX10_isSeenSo 26 = .ok (.iload_n 3, 1) := by decide +kernel
theorem dX10_isSeenSo_27 : decode cX10_isSeenSo 27 = .ok (.iaload, 1) := by decide +kernel
theorem dX10_isSeenSo_28 : decode cX10_isSeenSo 28 = .ok (.invokevirtual 194, 3) := by decide +kernel
theorem dX10_isSeenSo_31 : decode cX10_isSeenSo 31 = .ok (.aload_n 0, 1) := by decide +kernel
theorem dX10_isSeenSo_32 : decode cX10_isSeenSo 32 = .ok (.getfield 43, 3) := by decide +kernel
theorem dX10_isSeenSo_35 : decode cX10_isSeenSo 35 = .ok (.iload_n 3, 1) := by decide +kernel
theorem dX10_isSeenSo_36 : decode cX10_isSeenSo 36 = .ok (.iaload, 1) := by decide +kernel
theorem dX10_isSeenSo_37 : decode cX10_isSeenSo 37 = .ok (.if_icmp .ne 7, 3) := by decide +kernel
theorem dX10_isSeenSo_40 : decode cX10_isSeenSo 40 = .ok (.iconst 1, 1) := by decide +kernel
theorem dX10_isSeenSo_41 : decode cX10_isSeenSo 41 = .ok (.goto 4, 3) := by decide +kernel
theorem dX10_isSeenSo_44 : decode cX10_isSeenSo 44 = .ok (.iconst 0, 1) := by decide +kernel
theorem dX10_isSeenSo_45 : decode cX10_isSeenSo 45 = .ok (.istore_n 2, 1) := by decide +kernel
theorem dX10_isSeenSo_46 : decode cX10_isSeenSo 46 = .ok (.iinc 3 1, 3) := by decide +kernel
theorem dX10_isSeenSo_49 : decode cX10_isSeenSo 49 = .ok (.goto (-40), 3) := by decide +kernel
theorem dX10_isSeenSo_52 : decode cX10_isSeenSo 52 = .ok (.iload_n 2, 1) := by decide +kernel
theorem dX10_isSeenSo_53 : decode cX10_isSeenSo 53 = .ok (.ireturn, 1) := by decide +kernel
theorem dX10_cousins_0 : decode cX10_cousins 0 = .ok (.aload_n 0, 1) := by decide +kernel
theorem dX10_cousins_1 : decode cX10_cousins 1 = .ok (.bipush (-4), 2) := by decide +kernel
theorem dX10_cousins_3 : decode cX10_cousins 3 = .ok (.invokevirtual 221, 3) := by decide +kernel
theorem dX10_cousins_6 : decode cX10_cousins 6 = .ok (.ifCond .eq 8, 3) := by decide +kernel
theorem dX10_cousins_9 : decode cX10_cousins 9 = .ok (.bipush 32, 2) := by decide +kernel
theorem dX10_cousins_11 : decode cX10_cousins 11 = .ok (.goto 4, 3) := by decide +kernel
theorem dX10_cousins_14 : decode cX10_cousins 14 = .ok (.iconst 0, 1) := by decide +kernel
theorem dX10_cousins_15 : decode cX10_cousins 15 = .ok (.istore_n 1, 1) := by decide +kernel
theorem dX10_cousins_16 : decode cX10_cousins 16 = .ok (.iconst 0, 1) := by decide +kernel
theorem dX10_cousins_17 : decode cX10_cousins 17 = .ok (.istore_n 2, 1) := by decide +kernel
theorem dX10_cousins_18 : decode cX10_cousins 18 = .ok (.iload_n 2, 1) := by decide +kernel
theorem dX10_cousins_19 : decode cX10_cousins 19 = .ok (.aload_n 0, 1) := by decide +kernel
theorem dX10_cousins_20 : decode cX10_cousins 20 = .ok (.getfield 19, 3) := by decide +kernel
theorem dX10_cousins_23 : decode cX10_cousins 23 = .ok (.iconst 0, 1) := by decide +kernel
theorem dX10_cousins_24 : decode cX10_cousins 24 = .ok (.iaload, 1) := by decide +kernel
theorem dX10_cousins_25 : decode cX10_cousins 25 = .ok (.if_icmp .ge 27, 3) := by decide +kernel
theorem dX10_cousins_28 : decode cX10_cousins 28 = .ok (.iload_n 1, 1) := by decide +kernel
theorem dX10_cousins_29 : decode cX10_cousins 29 = .ok (.aload_n 0, 1) := by decide +kernel
theorem dX10_cousins_30 : decode cX10_cousins 30 = .ok (.iload_n 2, 1) := by decide +kernel
theorem dX10_cousins_31 : decode cX10_cousins 31 = .ok (.invokevirtual 221, 3) := by decide +kernel
theorem dX10_cousins_34 : decode cX10_cousins 34 = .ok (.ifCond .eq 9, 3) := by decide +kernel
theorem dX10_cousins_37 : decode cX10_cousins 37 = .ok (.iconst 1, 1) := by decide +kernel
theorem dX10_cousins_38 : decode cX10_cousins 38 = .ok (.iload_n 2, 1) := by decide +kernel
theorem dX10_cousins_39 : decode cX10_cousins 39 = .ok (.ishl, 1) := by decide +kernel
theorem dX10_cousins_40 : decode cX10_cousins 40 = .ok (.goto 4, 3) := by decide +kernel
theorem dX10_cousins_43 : decode cX10_cousins 43 = .ok (.iconst 0, 1) := by decide +kernel
theorem dX10_cousins_44 : decode cX10_cousins 44 = .ok (.ior, 1) := by decide +kernel
theorem dX10_cousins_45 : decode cX10_cousins 45 = .ok (.istore_n 1, 1) := by decide +kernel
theorem dX10_cousins_46 : decode cX10_cousins 46 = .ok (.iinc 2 1, 3) := by decide +kernel
theorem dX10_cousins_49 : decode cX10_cousins 49 = .ok (.goto (-31), 3) := by decide +kernel
theorem dX10_cousins_52 : decode cX10_cousins 52 = .ok (.iload_n 1, 1) := by decide +kernel
theorem dX10_cousins_53 : decode cX10_cousins 53 = .ok (.ireturn, 1) := by decide +kernel
theorem dX10_span_0 : decode cX10_span 0 = .ok (.aload_n 0, 1) := by decide +kernel
theorem dX10_span_1 : decode cX10_span 1 = .ok (.iload_n 1, 1) := by decide +kernel
theorem dX10_span_2 : decode cX10_span 2 = .ok (.invokevirtual 177, 3) := by decide +kernel
theorem dX10_span_5 : decode cX10_span 5 = .ok (.ifCond .eq 21, 3) := by decide +kernel
theorem dX10_span_8 : decode cX10_span 8 = .ok (.aload_n 0, 1) := by decide +kernel
theorem dX10_span_9 : decode cX10_span 9 = .ok (.iload_n 2, 1) := by decide +kernel
theorem dX10_span_10 : decode cX10_span 10 = .ok (.invokevirtual 188, 3) := by decide +kernel
theorem dX10_span_13 : decode cX10_span 13 = .ok (.ifCond .eq 13, 3) := by decide +kernel
theorem dX10_span_16 : decode cX10_span 16 = .ok (.iload_n 3, 1) := by decide +kernel
theorem dX10_span_17 : decode cX10_span 17 = .ok (.i2l, 1) := by decide +kernel
theorem dX10_span_18 : decode cX10_span 18 = .ok (.lconst 0, 1) := by decide +kernel
theorem dX10_span_19 : decode cX10_span 19 = .ok (.lconst 1, 1) := by decide +kernel
theorem dX10_span_20 : decode cX10_span 20 = .ok (.invokestatic 79, 3) := by decide +kernel
theorem dX10_span_23 : decode cX10_span 23 = .ok (.ifCond .ne 5, 3) := by decide +kernel
theorem dX10_span_26 : decode cX10_span 26 = .ok (.iconst (-1), 1) := by decide +kernel
theorem dX10_span_27 : decode cX10_span 27 = .ok (.ireturn, 1) := by decide +kernel
theorem dX10_span_28 : decode cX10_span 28 = .ok (.aload_n 0, 1) := by decide +kernel
theorem dX10_span_29 : decode cX10_span 29 = .ok (.bipush (-4), 2) := by decide +kernel
theorem dX10_span_31 : decode cX10_span 31 = .ok (.invokevirtual 171, 3) := by decide +kernel
theorem dX10_span_34 : decode cX10_span 34 = .ok (.iconst 0, 1) := by decide +kernel
theorem dX10_span_35 : decode cX10_span 35 = .ok (.istore 4, 2) := by decide +kernel
theorem dX10_span_37 : decode cX10_span 37 = .ok (.iload 4, 2) := by decide +kernel
theorem dX10_span_39 : decode cX10_span 39 = .ok (.iload_n 2, 1) := by decide +kernel
theorem dX10_span_40 : decode cX10_span 40 = .ok (.if_icmp .ge 16, 3) := by decide +kernel
theorem dX10_span_43 : decode cX10_span 43 = .ok (.aload_n 0, 1) := by decide +kernel
theorem dX10_span_44 : decode cX10_span 44 = .ok (.iload 4, 2) := by decide +kernel
theorem dX10_span_46 : decode cX10_span 46 = .ok (.iconst 0, 1) := by decide +kernel
theorem dX10_span_47 : decode cX10_span 47 = .ok (.invokevirtual 174, 3) := by decide +kernel
theorem dX10_span_50 : decode cX10_span 50 = .ok (.iinc 4 1, 3) := by decide +kernel
theorem dX10_span_53 : decode cX10_span 53 = .ok (.goto (-16), 3) := by decide +kernel
theorem dX10_span_56 : decode cX10_span 56 = .ok (.aload_n 0, 1) := by decide +kernel
theorem dX10_span_57 : decode cX10_span 57 = .ok (.getfield 49, 3) := by decide +kernel
theorem dX10_span_60 : decode cX10_span 60 = .ok (.iload_n 1, 1) := by decide +kernel
theorem dX10_span_61 : decode cX10_span 61 = .ok (.iaload, 1) := by decide +kernel
theorem dX10_span_62 : decode cX10_span 62 = .ok (.ifCond .lt 14, 3) := by decide +kernel
theorem dX10_span_65 : decode cX10_span 65 = .ok (.iload_n 3, 1) := by decide +kernel
theorem dX10_span_66 : decode cX10_span 66 = .ok (.ifCond .ne 7, 3) := by decide +kernel
theorem dX10_span_69 : decode cX10_span 69 = .ok (.iconst 0, 1) := by decide +kernel
theorem dX10_span_70 : decode cX10_span 70 = .ok (.goto 5, 3) := by decide +kernel
theorem dX10_span_73 : decode cX10_span 73 = .ok (.bipush 10, 2) := by decide +kernel
theorem dX10_span_75 : decode cX10_span 75 = .ok (.ireturn, 1) := by decide +kernel
theorem dX10_span_76 : decode cX10_span 76 = .ok (.aload_n 0, 1) := by decide +kernel
theorem dX10_span_77 : decode cX10_span 77 = .ok (.iload_n 2, 1) := by decide +kernel
theorem dX10_span_78 : decode cX10_span 78 = .ok (.iconst 0, 1) := by decide +kernel
theorem dX10_span_79 : decode cX10_span 79 = .ok (.invokevirtual 174, 3) := by decide +kernel
theorem dX10_span_82 : decode cX10_span 82 = .ok (.iconst 0, 1) := by decide +kernel
theorem dX10_span_83 : decode cX10_span 83 = .ok (.istore 4, 2) := by decide +kernel
theorem dX10_span_85 : decode cX10_span 85 = .ok (.aload_n 0, 1) := by decide +kernel
theorem dX10_span_86 : decode cX10_span 86 = .ok (.iload_n 1, 1) := by decide +kernel
theorem dX10_span_87 : decode cX10_span 87 = .ok (.iload_n 2, 1) := by decide +kernel
theorem dX10_span_88 : decode cX10_span 88 = .ok (.invokevirtual 134, 3) := by decide +kernel
theorem dX10_span_91 : decode cX10_span 91 = .ok (.istore 5, 2) := by decide +kernel
theorem dX10_span_93 : decode cX10_span 93 = .ok (.iconst 1, 1) := by decide +kernel
theorem dX10_span_94 : decode cX10_span 94 = .ok (.istore 6, 2) := by decide +kernel
theorem dX10_span_96 : decode cX10_span 96 = .ok (.iload 6, 2) := by decide +kernel
theorem dX10_span_98 : decode cX10_span 98 = .ok (.aload_n 0, 1) := by decide +kernel
theorem dX10_span_99 : decode cX10_span 99 = .ok (.getfield 155, 3) := by decide +kernel
theorem dX10_span_102 : decode cX10_span 102 = .ok (.if_icmp .gt 28, 3) := by decide +kernel
theorem dX10_span_105 : decode cX10_span 105 = .ok (.iload 5, 2) := by decide +kernel
theorem dX10_span_107 : decode cX10_span 107 = .ok (.iload 6, 2) := by decide +kernel
theorem dX10_span_109 : decode cX10_span 109 = .ok (.if_icmp .lt 21, 3) := by decide +kernel
theorem dX10_span_112 : decode cX10_span 112 = .ok (.iload 6, 2) := by decide +kernel
theorem dX10_span_114 : decode cX10_span 114 = .ok (.istore 4, 2) := by decide +kernel
theorem dX10_span_116 : decode cX10_span 116 = .ok (.iload 6, 2) := by decide +kernel
theorem dX10_span_118 : decode cX10_span 118 = .ok (.aload_n 0, 1) := by decide +kernel
theorem dX10_span_119 : decode cX10_span 119 = .ok (.getfield 34, 3) := by decide +kernel
theorem dX10_span_122 : decode cX10_span 122 = .ok (.iconst 0, 1) := by decide +kernel
theorem dX10_span_123 : decode cX10_span 123 = .ok (.iaload, 1) := by decide +kernel
theorem dX10_span_124 : decode cX10_span 124 = .ok (.iadd, 1) := by decide +kernel
theorem dX10_span_125 : decode cX10_span 125 = .ok (.istore 6, 2) := by decide +kernel
theorem dX10_span_127 : decode cX10_span 127 = .ok (.goto (-31), 3) := by decide +kernel
theorem dX10_span_130 : decode cX10_span 130 = .ok (.iload_n 3, 1) := by decide +kernel
theorem dX10_span_131 : decode cX10_span 131 = .ok (.ifCond .ne 8, 3) := by decide +kernel
theorem dX10_span_134 : decode cX10_span 134 = .ok (.iload 4, 2) := by decide +kernel
theorem dX10_span_136 : decode cX10_span 136 = .ok (.goto 21, 3) := by decide +kernel
theorem dX10_span_139 : decode cX10_span 139 = .ok (.iload 6, 2) := by decide +kernel
theorem dX10_span_141 : decode cX10_span 141 = .ok (.aload_n 0, 1) := by decide +kernel
theorem dX10_span_142 : decode cX10_span 142 = .ok (.getfield 155, 3) := by decide +kernel
theorem dX10_span_145 : decode cX10_span 145 = .ok (.if_icmp .le 8, 3) := by decide +kernel
theorem dX10_span_148 : decode cX10_span 148 = .ok (.bipush 10, 2) := by decide +kernel
theorem dX10_span_150 : decode cX10_span 150 = .ok (.goto 7, 3) := by decide +kernel
theorem dX10_span_153 : decode cX10_span 153 = .ok (.iload 6, 2) := by decide +kernel
theorem dX10_span_155 : decode cX10_span 155 = .ok (.iconst 1, 1) := by decide +kernel
theorem dX10_span_156 : decode cX10_span 156 = .ok (.isub, 1) := by decide +kernel
theorem dX10_span_157 : decode cX10_span 157 = .ok (.ireturn, 1) := by decide +kernel
theorem dX10_year_0 : decode cX10_year 0 = .ok (.iload_n 1, 1) := by decide +kernel
theorem dX10_year_1 : decode cX10_year 1 = .ok (.i2l, 1) := by decide +kernel
theorem dX10_year_2 : decode cX10_year 2 = .ok (.lconst 0, 1) := by decide +kernel
theorem dX10_year_3 : decode cX10_year 3 = .ok (.ldc2_w 224, 3) := by decide +kernel
theorem dX10_year_6 : decode cX10_year 6 = .ok (.invokestatic 79, 3) := by decide +kernel
theorem dX10_year_9 : decode cX10_year 9 = .ok (.ifCond .eq 13, 3) := by decide +kernel
theorem dX10_year_12 : decode cX10_year 12 = .ok (.iload_n 2, 1) := by decide +kernel
theorem dX10_year_13 : decode cX10_year 13 = .ok (.i2l, 1) := by decide +kernel
theorem dX10_year_14 : decode cX10_year 14 = .ok (.lconst 0, 1) := by decide +kernel
theorem dX10_year_15 : decode cX10_year 15 = .ok (.lconst 1, 1) := by decide +kernel
theorem dX10_year_16 : decode cX10_year 16 = .ok (.invokestatic 79, 3) := by decide +kernel
theorem dX10_year_19 : decode cX10_year 19 = .ok (.ifCond .ne 5, 3) := by decide +kernel
theorem dX10_year_22 : decode cX10_year 22 = .ok (.iconst (-1), 1) := by decide +kernel
theorem dX10_year_23 : decode cX10_year 23 = .ok (.ireturn, 1) := by decide +kernel
theorem dX10_year_24 : decode cX10_year 24 = .ok (.iconst 0, 1) := by decide +kernel
theorem dX10_year_25 : decode cX10_year 25 = .ok (.istore_n 3, 1) := by decide +kernel
theorem dX10_year_26 : decode cX10_year 26 = .ok (.iload_n 3, 1) := by decide +kernel
theorem dX10_year_27 : decode cX10_year 27 = .ok (.bipush 15, 2) := by decide +kernel
theorem dX10_year_29 : decode cX10_year 29 = .ok (.if_icmp .ge 69, 3) := by decide +kernel
theorem dX10_year_32 : decode cX10_year 32 = .ok (.ldc2_w 226, 3) := by decide +kernel
theorem dX10_year_35 : decode cX10_year 35 = .ok (.iload_n 1, 1) := by decide +kernel
theorem dX10_year_36 : decode cX10_year 36 = .ok (.i2l, 1) := by decide +kernel
theorem dX10_year_37 : decode cX10_year 37 = .ok (.lmul, 1) := by decide +kernel
theorem dX10_year_38 : decode cX10_year 38 = .ok (.ldc2_w 228, 3) := by decide +kernel
theorem dX10_year_41 : decode cX10_year 41 = .ok (.iload_n 3, 1) := by decide +kernel
theorem dX10_year_42 : decode cX10_year 42 = .ok (.iconst 3, 1) := by decide +kernel
theorem dX10_year_43 : decode cX10_year 43 = .ok (.idiv, 1) := by decide +kernel
theorem dX10_year_44 : decode cX10_year 44 = .ok (.i2l, 1) := by decide +kernel
theorem dX10_year_45 : decode cX10_year 45 = .ok (.lmul, 1) := by decide +kernel
theorem dX10_year_46 : decode cX10_year 46 = .ok (.ladd, 1) := by decide +kernel
theorem dX10_year_47 : decode cX10_year 47 = .ok (.ldc2_w 230, 3) := by decide +kernel
theorem dX10_year_50 : decode cX10_year 50 = .ok (.iload_n 3, 1) := by decide +kernel
theorem dX10_year_51 : decode cX10_year 51 = .ok (.iconst 3, 1) := by decide +kernel
theorem dX10_year_52 : decode cX10_year 52 = .ok (.irem, 1) := by decide +kernel
theorem dX10_year_53 : decode cX10_year 53 = .ok (.i2l, 1) := by decide +kernel
theorem dX10_year_54 : decode cX10_year 54 = .ok (.lmul, 1) := by decide +kernel
theorem dX10_year_55 : decode cX10_year 55 = .ok (.ladd, 1) := by decide +kernel
theorem dX10_year_56 : decode cX10_year 56 = .ok (.lconst 1, 1) := by decide +kernel
theorem dX10_year_57 : decode cX10_year 57 = .ok (.ladd, 1) := by decide +kernel
theorem dX10_year_58 : decode cX10_year 58 = .ok (.lstore 4, 2) := by decide +kernel
theorem dX10_year_60 : decode cX10_year 60 = .ok (.aload_n 0, 1) := by decide +kernel
theorem dX10_year_61 : decode cX10_year 61 = .ok (.getfield 70, 3) := by decide +kernel
theorem dX10_year_64 : decode cX10_year 64 = .ok (.iload_n 3, 1) := by decide +kernel
theorem dX10_year_65 : decode cX10_year 65 = .ok (.aload_n 0, 1) := by decide +kernel
theorem dX10_year_66 : decode cX10_year 66 = .ok (.getfield 25, 3) := by decide +kernel
theorem dX10_year_69 : decode cX10_year 69 = .ok (.iload_n 3, 1) := by decide +kernel
theorem dX10_year_70 : decode cX10_year 70 = .ok (.iaload, 1) := by decide +kernel
theorem dX10_year_71 : decode cX10_year 71 = .ok (.iastore, 1) := by decide +kernel
theorem dX10_year_72 : decode cX10_year 72 = .ok (.aload_n 0, 1) := by decide +kernel
theorem dX10_year_73 : decode cX10_year 73 = .ok (.getfield 25, 3) := by decide +kernel
theorem dX10_year_76 : decode cX10_year 76 = .ok (.iload_n 3, 1) := by decide +kernel
theorem dX10_year_77 : decode cX10_year 77 = .ok (.lload 4, 2) := by decide +kernel
theorem dX10_year_79 : decode cX10_year 79 = .ok (.lload 4, 2) := by decide +kernel
theorem dX10_year_81 : decode cX10_year 81 = .ok (.lmul, 1) := by decide +kernel
theorem dX10_year_82 : decode cX10_year 82 = .ok (.ldc2_w 232, 3) := by decide +kernel
theorem dX10_year_85 : decode cX10_year 85 = .ok (.lrem, 1) := by decide +kernel
theorem dX10_year_86 : decode cX10_year 86 = .ok (.ldc2_w 234, 3) := by decide +kernel
theorem dX10_year_89 : decode cX10_year 89 = .ok (.lrem, 1) := by decide +kernel
theorem dX10_year_90 : decode cX10_year 90 = .ok (.l2i, 1) := by decide +kernel
theorem dX10_year_91 : decode cX10_year 91 = .ok (.iastore, 1) := by decide +kernel
theorem dX10_year_92 : decode cX10_year 92 = .ok (.iinc 3 1, 3) := by decide +kernel
theorem dX10_year_95 : decode cX10_year 95 = .ok (.goto (-69), 3) := by decide +kernel
theorem dX10_year_98 : decode cX10_year 98 = .ok (.aload_n 0, 1) := by decide +kernel
theorem dX10_year_99 : decode cX10_year 99 = .ok (.bipush (-4), 2) := by decide +kernel
theorem dX10_year_101 : decode cX10_year 101 = .ok (.invokevirtual 182, 3) := by decide +kernel
theorem dX10_year_104 : decode cX10_year 104 = .ok (.iconst 0, 1) := by decide +kernel
theorem dX10_year_105 : decode cX10_year 105 = .ok (.istore_n 3, 1) := by decide +kernel
theorem dX10_year_106 : decode cX10_year 106 = .ok (.iconst 0, 1) := by decide +kernel
theorem dX10_year_107 : decode cX10_year 107 = .ok (.istore 4, 2) := by decide +kernel
theorem dX10_year_109 : decode cX10_year 109 = .ok (.iconst 0, 1) := by decide +kernel
theorem dX10_year_110 : decode cX10_year 110 = .ok (.istore 5, 2) := by decide +kernel
theorem dX10_year_112 : decode cX10_year 112 = .ok (.iload 5, 2) := by decide +kernel
theorem dX10_year_114 : decode cX10_year 114 = .ok (.aload_n 0, 1) := by decide +kernel
theorem dX10_year_115 : decode cX10_year 115 = .ok (.getfield 19, 3) := by decide +kernel
theorem dX10_year_118 : decode cX10_year 118 = .ok (.iconst 0, 1) := by decide +kernel
theorem dX10_year_119 : decode cX10_year 119 = .ok (.iaload, 1) := by decide +kernel
theorem dX10_year_120 : decode cX10_year 120 = .ok (.if_icmp .ge 19, 3) := by decide +kernel
theorem dX10_year_123 : decode cX10_year 123 = .ok (.iload_n 3, 1) := by decide +kernel
theorem dX10_year_124 : decode cX10_year 124 = .ok (.aload_n 0, 1) := by decide +kernel
theorem dX10_year_125 : decode cX10_year 125 = .ok (.getfield 52, 3) := by decide +kernel
theorem dX10_year_128 : decode cX10_year 128 = .ok (.iload 5, 2) := by decide +kernel
theorem dX10_year_130 : decode cX10_year 130 = .ok (.iaload, 1) := by decide +kernel
theorem dX10_year_131 : decode cX10_year 131 = .ok (.iadd, 1) := by decide +kernel
theorem dX10_year_132 : decode cX10_year 132 = .ok (.istore_n 3, 1) := by decide +kernel
theorem dX10_year_133 : decode cX10_year 133 = .ok (.iinc 5 1, 3) := by decide +kernel
theorem dX10_year_136 : decode cX10_year 136 = .ok (.goto (-24), 3) := by decide +kernel
theorem dX10_year_139 : decode cX10_year 139 = .ok (.iconst 0, 1) := by decide +kernel
theorem dX10_year_140 : decode cX10_year 140 = .ok (.istore 5, 2) := by decide +kernel
theorem dX10_year_142 : decode cX10_year 142 = .ok (.iload 5, 2) := by decide +kernel
theorem dX10_year_144 : decode cX10_year 144 = .ok (.aload_n 0, 1) := by decide +kernel
theorem dX10_year_145 : decode cX10_year 145 = .ok (.getfield 13, 3) := by decide +kernel
theorem dX10_year_148 : decode cX10_year 148 = .ok (.iconst 0, 1) := by decide +kernel
theorem dX10_year_149 : decode cX10_year 149 = .ok (.iaload, 1) := by decide +kernel
theorem dX10_year_150 : decode cX10_year 150 = .ok (.if_icmp .ge 28, 3) := by decide +kernel
theorem dX10_year_153 : decode cX10_year 153 = .ok (.iload 4, 2) := by decide +kernel
theorem dX10_year_155 : decode cX10_year 155 = .ok (.aload_n 0, 1) := by decide +kernel
theorem dX10_year_156 : decode cX10_year 156 = .ok (.iload 5, 2) := by decide +kernel
theorem dX10_year_158 : decode cX10_year 158 = .ok (.invokevirtual 191, 3) := by decide +kernel
theorem dX10_year_161 : decode cX10_year 161 = .ok (.ifCond .ne 7, 3) := by decide +kernel
theorem dX10_year_164 : decode cX10_year 164 = .ok (.iconst 1, 1) := by decide +kernel
theorem dX10_year_165 : decode cX10_year 165 = .ok (.goto 4, 3) := by decide +kernel
theorem dX10_year_168 : decode cX10_year 168 = .ok (.iconst 0, 1) := by decide +kernel
theorem dX10_year_169 : decode cX10_year 169 = .ok (.iadd, 1) := by decide +kernel
theorem dX10_year_170 : decode cX10_year 170 = .ok (.istore 4, 2) := by decide +kernel
theorem dX10_year_172 : decode cX10_year 172 = .ok (.iinc 5 1, 3) := by decide +kernel
theorem dX10_year_175 : decode cX10_year 175 = .ok (.goto (-33), 3) := by decide +kernel
theorem dX10_year_178 : decode cX10_year 178 = .ok (.iconst 0, 1) := by decide +kernel
theorem dX10_year_179 : decode cX10_year 179 = .ok (.istore 5, 2) := by decide +kernel
theorem dX10_year_181 : decode cX10_year 181 = .ok (.iload 5, 2) := by decide +kernel
theorem dX10_year_183 : decode cX10_year 183 = .ok (.bipush 15, 2) := by decide +kernel
theorem dX10_year_185 : decode cX10_year 185 = .ok (.if_icmp .ge 23, 3) := by decide +kernel
theorem dX10_year_188 : decode cX10_year 188 = .ok (.aload_n 0, 1) := by decide +kernel
theorem dX10_year_189 : decode cX10_year 189 = .ok (.getfield 25, 3) := by decide +kernel
theorem dX10_year_192 : decode cX10_year 192 = .ok (.iload 5, 2) := by decide +kernel
theorem dX10_year_194 : decode cX10_year 194 = .ok (.aload_n 0, 1) := by decide +kernel
theorem dX10_year_195 : decode cX10_year 195 = .ok (.getfield 70, 3) := by decide +kernel
theorem dX10_year_198 : decode cX10_year 198 = .ok (.iload 5, 2) := by decide +kernel
theorem dX10_year_200 : decode cX10_year 200 = .ok (.iaload, 1) := by decide +kernel
theorem dX10_year_201 : decode cX10_year 201 = .ok (.iastore, 1) := by decide +kernel
theorem dX10_year_202 : decode cX10_year 202 = .ok (.iinc 5 1, 3) := by decide +kernel
theorem dX10_year_205 : decode cX10_year 205 = .ok (.goto (-24), 3) := by decide +kernel
theorem dX10_year_208 : decode cX10_year 208 = .ok (.iload_n 2, 1) := by decide +kernel
theorem dX10_year_209 : decode cX10_year 209 = .ok (.ifCond .ne 7, 3) := by decide +kernel
theorem dX10_year_212 : decode cX10_year 212 = .ok (.iload_n 3, 1) := by decide +kernel
theorem dX10_year_213 : decode cX10_year 213 = .ok (.goto 5, 3) := by decide +kernel
theorem dX10_year_216 : decode cX10_year 216 = .ok (.iload 4, 2) := by decide +kernel
theorem dX10_year_218 : decode cX10_year 218 = .ok (.ireturn, 1) := by decide +kernel
theorem dX10_keep_0 : decode cX10_keep 0 = .ok (.aload_n 0, 1) := by decide +kernel
theorem dX10_keep_1 : decode cX10_keep 1 = .ok (.getfield 122, 3) := by decide +kernel
theorem dX10_keep_4 : decode cX10_keep 4 = .ok (.iconst 2, 1) := by decide +kernel
theorem dX10_keep_5 : decode cX10_keep 5 = .ok (.if_icmp .ne 6, 3) := by decide +kernel
theorem dX10_keep_8 : decode cX10_keep 8 = .ok (.bipush (-3), 2) := by decide +kernel
theorem dX10_keep_10 : decode cX10_keep 10 = .ok (.ireturn, 1) := by decide +kernel
theorem dX10_keep_11 : decode cX10_keep 11 = .ok (.aload_n 0, 1) := by decide +kernel
theorem dX10_keep_12 : decode cX10_keep 12 = .ok (.dup, 1) := by decide +kernel
theorem dX10_keep_13 : decode cX10_keep 13 = .ok (.getfield 122, 3) := by decide +kernel
theorem dX10_keep_16 : decode cX10_keep 16 = .ok (.iconst 1, 1) := by decide +kernel
theorem dX10_keep_17 : decode cX10_keep 17 = .ok (.iadd, 1) := by decide +kernel
theorem dX10_keep_18 : decode cX10_keep 18 = .ok (.putfield 122, 3) := by decide +kernel
theorem dX10_keep_21 : decode cX10_keep 21 = .ok (.aload_n 0, 1) := by decide +kernel
theorem dX10_keep_22 : decode cX10_keep 22 = .ok (.iconst 0, 1) := by decide +kernel
theorem dX10_keep_23 : decode cX10_keep 23 = .ok (.iconst 1, 1) := by decide +kernel
theorem dX10_keep_24 : decode cX10_keep 24 = .ok (.aload_n 0, 1) := by decide +kernel
theorem dX10_keep_25 : decode cX10_keep 25 = .ok (.getfield 122, 3) := by decide +kernel
theorem dX10_keep_28 : decode cX10_keep 28 = .ok (.iadd, 1) := by decide +kernel
theorem dX10_keep_29 : decode cX10_keep 29 = .ok (.invokevirtual 118, 3) := by decide +kernel
theorem dX10_keep_32 : decode cX10_keep 32 = .ok (.aload_n 0, 1) := by decide +kernel
theorem dX10_keep_33 : decode cX10_keep 33 = .ok (.getfield 122, 3) := by decide +kernel
theorem dX10_keep_36 : decode cX10_keep 36 = .ok (.ireturn, 1) := by decide +kernel
theorem dX10_back_0 : decode cX10_back 0 = .ok (.aload_n 0, 1) := by decide +kernel
theorem dX10_back_1 : decode cX10_back 1 = .ok (.getfield 122, 3) := by decide +kernel
theorem dX10_back_4 : decode cX10_back 4 = .ok (.ifCond .ne 6, 3) := by decide +kernel
theorem dX10_back_7 : decode cX10_back 7 = .ok (.bipush (-2), 2) := by decide +kernel
theorem dX10_back_9 : decode cX10_back 9 = .ok (.ireturn, 1) := by decide +kernel
theorem dX10_back_10 : decode cX10_back 10 = .ok (.aload_n 0, 1) := by decide +kernel
theorem dX10_back_11 : decode cX10_back 11 = .ok (.iconst 1, 1) := by decide +kernel
theorem dX10_back_12 : decode cX10_back 12 = .ok (.aload_n 0, 1) := by decide +kernel
theorem dX10_back_13 : decode cX10_back 13 = .ok (.getfield 122, 3) := by decide +kernel
theorem dX10_back_16 : decode cX10_back 16 = .ok (.iadd, 1) := by decide +kernel
theorem dX10_back_17 : decode cX10_back 17 = .ok (.iconst 0, 1) := by decide +kernel
theorem dX10_back_18 : decode cX10_back 18 = .ok (.invokevirtual 118, 3) := by decide +kernel
theorem dX10_back_21 : decode cX10_back 21 = .ok (.aload_n 0, 1) := by decide +kernel
theorem dX10_back_22 : decode cX10_back 22 = .ok (.dup, 1) := by decide +kernel
theorem dX10_back_23 : decode cX10_back 23 = .ok (.getfield 122, 3) := by decide +kernel
theorem dX10_back_26 : decode cX10_back 26 = .ok (.iconst 1, 1) := by decide +kernel
theorem dX10_back_27 : decode cX10_back 27 = .ok (.isub, 1) := by decide +kernel
theorem dX10_back_28 : decode cX10_back 28 = .ok (.putfield 122, 3) := by decide +kernel
theorem dX10_back_31 : decode cX10_back 31 = .ok (.aload_n 0, 1) := by decide +kernel
theorem dX10_back_32 : decode cX10_back 32 = .ok (.iconst 0, 1) := by decide +kernel
theorem dX10_back_33 : decode cX10_back 33 = .ok (.putfield 125, 3) := by decide +kernel
theorem dX10_back_36 : decode cX10_back 36 = .ok (.aload_n 0, 1) := by decide +kernel
theorem dX10_back_37 : decode cX10_back 37 = .ok (.getfield 122, 3) := by decide +kernel
theorem dX10_back_40 : decode cX10_back 40 = .ok (.ireturn, 1) := by decide +kernel
theorem dX10_count_0 : decode cX10_count 0 = .ok (.iload_n 1, 1) := by decide +kernel
theorem dX10_count_1 : decode cX10_count 1 = .ok (.tableswitch 95 0 7 #[47, 54, 61, 68, 75, 80, 85, 90], 47) := by decide +kernel
theorem dX10_count_48 : decode cX10_count 48 = .ok (.aload_n 0, 1) := by decide +kernel
theorem dX10_count_49 : decode cX10_count 49 = .ok (.getfield 13, 3) := by decide +kernel
theorem dX10_count_52 : decode cX10_count 52 = .ok (.iconst 0, 1) := by decide +kernel
theorem dX10_count_53 : decode cX10_count 53 = .ok (.iaload, 1) := by decide +kernel
theorem dX10_count_54 : decode cX10_count 54 = .ok (.ireturn, 1) := by decide +kernel
theorem dX10_count_55 : decode cX10_count 55 = .ok (.aload_n 0, 1) := by decide +kernel
theorem dX10_count_56 : decode cX10_count 56 = .ok (.getfield 19, 3) := by decide +kernel
theorem dX10_count_59 : decode cX10_count 59 = .ok (.iconst 0, 1) := by decide +kernel
theorem dX10_count_60 : decode cX10_count 60 = .ok (.iaload, 1) := by decide +kernel
theorem dX10_count_61 : decode cX10_count 61 = .ok (.ireturn, 1) := by decide +kernel
theorem dX10_count_62 : decode cX10_count 62 = .ok (.aload_n 0, 1) := by decide +kernel
theorem dX10_count_63 : decode cX10_count 63 = .ok (.getfield 31, 3) := by decide +kernel
theorem dX10_count_66 : decode cX10_count 66 = .ok (.iconst 0, 1) := by decide +kernel
theorem dX10_count_67 : decode cX10_count 67 = .ok (.iaload, 1) := by decide +kernel
theorem dX10_count_68 : decode cX10_count 68 = .ok (.ireturn, 1) := by decide +kernel
theorem dX10_count_69 : decode cX10_count 69 = .ok (.aload_n 0, 1) := by decide +kernel
theorem dX10_count_70 : decode cX10_count 70 = .ok (.getfield 34, 3) := by decide +kernel
theorem dX10_count_73 : decode cX10_count 73 = .ok (.iconst 0, 1) := by decide +kernel
theorem dX10_count_74 : decode cX10_count 74 = .ok (.iaload, 1) := by decide +kernel
theorem dX10_count_75 : decode cX10_count 75 = .ok (.ireturn, 1) := by decide +kernel
theorem dX10_count_76 : decode cX10_count 76 = .ok (.aload_n 0, 1) := by decide +kernel
theorem dX10_count_77 : decode cX10_count 77 = .ok (.getfield 128, 3) := by decide +kernel
theorem dX10_count_80 : decode cX10_count 80 = .ok (.ireturn, 1) := by decide +kernel
theorem dX10_count_81 : decode cX10_count 81 = .ok (.aload_n 0, 1) := by decide +kernel
theorem dX10_count_82 : decode cX10_count 82 = .ok (.getfield 125, 3) := by decide +kernel
theorem dX10_count_85 : decode cX10_count 85 = .ok (.ireturn, 1) := by decide +kernel
theorem dX10_count_86 : decode cX10_count 86 = .ok (.aload_n 0, 1) := by decide +kernel
theorem dX10_count_87 : decode cX10_count 87 = .ok (.getfield 122, 3) := by decide +kernel
theorem dX10_count_90 : decode cX10_count 90 = .ok (.ireturn, 1) := by decide +kernel
theorem dX10_count_91 : decode cX10_count 91 = .ok (.aload_n 0, 1) := by decide +kernel
theorem dX10_count_92 : decode cX10_count 92 = .ok (.getfield 83, 3) := by decide +kernel
theorem dX10_count_95 : decode cX10_count 95 = .ok (.ireturn, 1) := by decide +kernel
theorem dX10_count_96 : decode cX10_count 96 = .ok (.iconst (-1), 1) := by decide +kernel
theorem dX10_count_97 : decode cX10_count 97 = .ok (.ireturn, 1) := by decide +kernel
