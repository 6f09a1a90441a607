theorem dX4_isDirection_0 : decode cX4_isDirection 0 = .ok (.iload_n 0, 1) := by decide +kernel
theorem dX4_isDirection_1 : decode cX4_isDirection 1 = .ok (.bipush (-100), 2) := by decide +kernel
theorem dX4_isDirection_3 : decode cX4_isDirection 3 = .ok (.bipush 100, 2) := by decide +kernel
theorem dX4_isDirection_5 : decode cX4_isDirection 5 = .ok (.invokestatic 82, 3) := by decide +kernel
theorem dX4_isDirection_8 : decode cX4_isDirection 8 = .ok (.ifCond .eq 41, 3) := by decide +kernel
theorem dX4_isDirection_11 : decode cX4_isDirection 11 = .ok (.iload_n 1, 1) := by decide +kernel
theorem dX4_isDirection_12 : decode cX4_isDirection 12 = .ok (.bipush (-100), 2) := by decide +kernel
theorem dX4_isDirection_14 : decode cX4_isDirection 14 = .ok (.bipush 100, 2) := by decide +kernel
theorem dX4_isDirection_16 : decode cX4_isDirection 16 = .ok (.invokestatic 82, 3) := by decide +kernel
theorem dX4_isDirection_19 : decode cX4_isDirection 19 = .ok (.ifCond .eq 30, 3) := by decide +kernel
theorem dX4_isDirection_22 : decode cX4_isDirection 22 = .ok (.iload_n 2, 1) := by decide +kernel
theorem dX4_isDirection_23 : decode cX4_isDirection 23 = .ok (.bipush (-100), 2) := by decide +kernel
theorem dX4_isDirection_25 : decode cX4_isDirection 25 = .ok (.bipush 100, 2) := by decide +kernel
theorem dX4_isDirection_27 : decode cX4_isDirection 27 = .ok (.invokestatic 82, 3) := by decide +kernel
theorem dX4_isDirection_30 : decode cX4_isDirection 30 = .ok (.ifCond .eq 19, 3) := by decide +kernel
theorem dX4_isDirection_33 : decode cX4_isDirection 33 = .ok (.iload_n 0, 1) := by decide +kernel
theorem dX4_isDirection_34 : decode cX4_isDirection 34 = .ok (.ifCond .ne 11, 3) := by decide +kernel
theorem dX4_isDirection_37 : decode cX4_isDirection 37 = .ok (.iload_n 1, 1) := by decide +kernel
theorem dX4_isDirection_38 : decode cX4_isDirection 38 = .ok (.ifCond .ne 7, 3) := by decide +kernel
theorem dX4_isDirection_41 : decode cX4_isDirection 41 = .ok (.iload_n 2, 1) := by decide +kernel
theorem dX4_isDirection_42 : decode cX4_isDirection 42 = .ok (.ifCond .eq 7, 3) := by decide +kernel
theorem dX4_isDirection_45 : decode cX4_isDirection 45 = .ok (.iconst 1, 1) := by decide +kernel
theorem dX4_isDirection_46 : decode cX4_isDirection 46 = .ok (.goto 4, 3) := by decide +kernel
theorem dX4_isDirection_49 : decode cX4_isDirection 49 = .ok (.iconst 0, 1) := by decide +kernel
theorem dX4_isDirection_50 : decode cX4_isDirection 50 = .ok (.ireturn, 1) := by decide +kernel
theorem dX4_go_0 : decode cX4_go 0 = .ok (.aload_n 0, 1) := by decide +kernel
theorem dX4_go_1 : decode cX4_go 1 = .ok (.getfield 23, 3) := by decide +kernel
theorem dX4_go_4 : decode cX4_go 4 = .ok (.iconst 0, 1) := by decide +kernel
theorem dX4_go_5 : decode cX4_go 5 = .ok (.iload_n 1, 1) := by decide +kernel
theorem dX4_go_6 : decode cX4_go 6 = .ok (.iastore, 1) := by decide +kernel
theorem dX4_go_7 : decode cX4_go 7 = .ok (.aload_n 0, 1) := by decide +kernel
theorem dX4_go_8 : decode cX4_go 8 = .ok (.getfield 23, 3) := by decide +kernel
theorem dX4_go_11 : decode cX4_go 11 = .ok (.iconst 1, 1) := by decide +kernel
theorem dX4_go_12 : decode cX4_go 12 = .ok (.iload_n 2, 1) := by decide +kernel
theorem dX4_go_13 : decode cX4_go 13 = .ok (.iastore, 1) := by decide +kernel
theorem dX4_go_14 : decode cX4_go 14 = .ok (.aload_n 0, 1) := by decide +kernel
theorem dX4_go_15 : decode cX4_go 15 = .ok (.getfield 23, 3) := by decide +kernel
theorem dX4_go_18 : decode cX4_go 18 = .ok (.iconst 2, 1) := by decide +kernel
theorem dX4_go_19 : decode cX4_go 19 = .ok (.iload_n 3, 1) := by decide +kernel
theorem dX4_go_20 : decode cX4_go 20 = .ok (.iastore, 1) := by decide +kernel
theorem dX4_go_21 : decode cX4_go 21 = .ok (.aload_n 0, 1) := by decide +kernel
theorem dX4_go_22 : decode cX4_go 22 = .ok (.getfield 26, 3) := by decide +kernel
theorem dX4_go_25 : decode cX4_go 25 = .ok (.iconst 0, 1) := by decide +kernel
theorem dX4_go_26 : decode cX4_go 26 = .ok (.iload 4, 2) := by decide +kernel
theorem dX4_go_28 : decode cX4_go 28 = .ok (.iastore, 1) := by decide +kernel
theorem dX4_go_29 : decode cX4_go 29 = .ok (.aload_n 0, 1) := by decide +kernel
theorem dX4_go_30 : decode cX4_go 30 = .ok (.getfield 26, 3) := by decide +kernel
theorem dX4_go_33 : decode cX4_go 33 = .ok (.iconst 1, 1) := by decide +kernel
theorem dX4_go_34 : decode cX4_go 34 = .ok (.iload 5, 2) := by decide +kernel
theorem dX4_go_36 : decode cX4_go 36 = .ok (.iastore, 1) := by decide +kernel
theorem dX4_go_37 : decode cX4_go 37 = .ok (.aload_n 0, 1) := by decide +kernel
theorem dX4_go_38 : decode cX4_go 38 = .ok (.getfield 26, 3) := by decide +kernel
theorem dX4_go_41 : decode cX4_go 41 = .ok (.iconst 2, 1) := by decide +kernel
theorem dX4_go_42 : decode cX4_go 42 = .ok (.iload 6, 2) := by decide +kernel
theorem dX4_go_44 : decode cX4_go 44 = .ok (.iastore, 1) := by decide +kernel
theorem dX4_go_45 : decode cX4_go 45 = .ok (.aload_n 0, 1) := by decide +kernel
theorem dX4_go_46 : decode cX4_go 46 = .ok (.ldc 137, 2) := by decide +kernel
theorem dX4_go_48 : decode cX4_go 48 = .ok (.putfield 138, 3) := by decide +kernel
theorem dX4_go_51 : decode cX4_go 51 = .ok (.aload_n 0, 1) := by decide +kernel
theorem dX4_go_52 : decode cX4_go 52 = .ok (.iconst 0, 1) := by decide +kernel
theorem dX4_go_53 : decode cX4_go 53 = .ok (.putfield 134, 3) := by decide +kernel
theorem dX4_go_56 : decode cX4_go 56 = .ok (.aload_n 0, 1) := by decide +kernel
theorem dX4_go_57 : decode cX4_go 57 = .ok (.lconst 0, 1) := by decide +kernel
theorem dX4_go_58 : decode cX4_go 58 = .ok (.putfield 115, 3) := by decide +kernel
theorem dX4_go_61 : decode cX4_go 61 = .ok (.aload_n 0, 1) := by decide +kernel
theorem dX4_go_62 : decode cX4_go 62 = .ok (.lconst 1, 1) := by decide +kernel
theorem dX4_go_63 : decode cX4_go 63 = .ok (.putfield 122, 3) := by decide +kernel
theorem dX4_go_66 : decode cX4_go 66 = .ok (.aload_n 0, 1) := by decide +kernel
theorem dX4_go_67 : decode cX4_go 67 = .ok (.iconst (-1), 1) := by decide +kernel
theorem dX4_go_68 : decode cX4_go 68 = .ok (.putfield 125, 3) := by decide +kernel
theorem dX4_go_71 : decode cX4_go 71 = .ok (.aload_n 0, 1) := by decide +kernel
theorem dX4_go_72 : decode cX4_go 72 = .ok (.invokevirtual 141, 3) := by decide +kernel
theorem dX4_go_75 : decode cX4_go 75 = .ok (.ifCond .eq 5, 3) := by decide +kernel
theorem dX4_go_78 : decode cX4_go 78 = .ok (.iconst 1, 1) := by decide +kernel
theorem dX4_go_79 : decode cX4_go 79 = .ok (.ireturn, 1) := by decide +kernel
theorem dX4_go_80 : decode cX4_go 80 = .ok (.aload_n 0, 1) := by decide +kernel
theorem dX4_go_81 : decode cX4_go 81 = .ok (.invokevirtual 145, 3) := by decide +kernel
theorem dX4_go_84 : decode cX4_go 84 = .ok (.istore 7, 2) := by decide +kernel
theorem dX4_go_86 : decode cX4_go 86 = .ok (.iload 7, 2) := by decide +kernel
theorem dX4_go_88 : decode cX4_go 88 = .ok (.iconst (-1), 1) := by decide +kernel
theorem dX4_go_89 : decode cX4_go 89 = .ok (.if_icmp .ne 5, 3) := by decide +kernel
theorem dX4_go_92 : decode cX4_go 92 = .ok (.iconst 0, 1) := by decide +kernel
theorem dX4_go_93 : decode cX4_go 93 = .ok (.ireturn, 1) := by decide +kernel
theorem dX4_go_94 : decode cX4_go 94 = .ok (.aload_n 0, 1) := by decide +kernel
theorem dX4_go_95 : decode cX4_go 95 = .ok (.iload 7, 2) := by decide +kernel
theorem dX4_go_97 : decode cX4_go 97 = .ok (.invokevirtual 149, 3) := by decide +kernel
theorem dX4_go_100 : decode cX4_go 100 = .ok (.aload_n 0, 1) := by decide +kernel
theorem dX4_go_101 : decode cX4_go 101 = .ok (.getfield 13, 3) := by decide +kernel
theorem dX4_go_104 : decode cX4_go 104 = .ok (.iload 7, 2) := by decide +kernel
theorem dX4_go_106 : decode cX4_go 106 = .ok (.iaload, 1) := by decide +kernel
theorem dX4_go_107 : decode cX4_go 107 = .ok (.ifCond .ne 5, 3) := by decide +kernel
theorem dX4_go_110 : decode cX4_go 110 = .ok (.iconst 1, 1) := by decide +kernel
theorem dX4_go_111 : decode cX4_go 111 = .ok (.ireturn, 1) := by decide +kernel
theorem dX4_go_112 : decode cX4_go 112 = .ok (.aload_n 0, 1) := by decide +kernel
theorem dX4_go_113 : decode cX4_go 113 = .ok (.invokevirtual 153, 3) := by decide +kernel
theorem dX4_go_116 : decode cX4_go 116 = .ok (.aload_n 0, 1) := by decide +kernel
theorem dX4_go_117 : decode cX4_go 117 = .ok (.iload 7, 2) := by decide +kernel
theorem dX4_go_119 : decode cX4_go 119 = .ok (.putfield 125, 3) := by decide +kernel
theorem dX4_go_122 : decode cX4_go 122 = .ok (.aload_n 0, 1) := by decide +kernel
theorem dX4_go_123 : decode cX4_go 123 = .ok (.aload_n 0, 1) := by decide +kernel
theorem dX4_go_124 : decode cX4_go 124 = .ok (.getfield 138, 3) := by decide +kernel
theorem dX4_go_127 : decode cX4_go 127 = .ok (.aload_n 0, 1) := by decide +kernel
theorem dX4_go_128 : decode cX4_go 128 = .ok (.getfield 16, 3) := by decide +kernel
theorem dX4_go_131 : decode cX4_go 131 = .ok (.iload 7, 2) := by decide +kernel
theorem dX4_go_133 : decode cX4_go 133 = .ok (.iaload, 1) := by decide +kernel
theorem dX4_go_134 : decode cX4_go 134 = .ok (.imul, 1) := by decide +kernel
theorem dX4_go_135 : decode cX4_go 135 = .ok (.sipush 1000, 3) := by decide +kernel
theorem dX4_go_138 : decode cX4_go 138 = .ok (.idiv, 1) := by decide +kernel
theorem dX4_go_139 : decode cX4_go 139 = .ok (.putfield 138, 3) := by decide +kernel
theorem dX4_go_142 : decode cX4_go 142 = .ok (.aload_n 0, 1) := by decide +kernel
theorem dX4_go_143 : decode cX4_go 143 = .ok (.getfield 13, 3) := by decide +kernel
theorem dX4_go_146 : decode cX4_go 146 = .ok (.iload 7, 2) := by decide +kernel
theorem dX4_go_148 : decode cX4_go 148 = .ok (.iaload, 1) := by decide +kernel
theorem dX4_go_149 : decode cX4_go 149 = .ok (.iconst 1, 1) := by decide +kernel
theorem dX4_go_150 : decode cX4_go 150 = .ok (.if_icmp .ne 94, 3) := by decide +kernel
theorem dX4_go_153 : decode cX4_go 153 = .ok (.aload_n 0, 1) := by decide +kernel
theorem dX4_go_154 : decode cX4_go 154 = .ok (.getfield 26, 3) := by decide +kernel
theorem dX4_go_157 : decode cX4_go 157 = .ok (.aload_n 0, 1) := by decide +kernel
theorem dX4_go_158 : decode cX4_go 158 = .ok (.getfield 99, 3) := by decide +kernel
theorem dX4_go_161 : decode cX4_go 161 = .ok (.iaload, 1) := by decide +kernel
theorem dX4_go_162 : decode cX4_go 162 = .ok (.ifCond .le 21, 3) := by decide +kernel
theorem dX4_go_165 : decode cX4_go 165 = .ok (.aload_n 0, 1) := by decide +kernel
theorem dX4_go_166 : decode cX4_go 166 = .ok (.getfield 7, 3) := by decide +kernel
theorem dX4_go_169 : decode cX4_go 169 = .ok (.bipush 6, 2) := by decide +kernel
theorem dX4_go_171 : decode cX4_go 171 = .ok (.iload 7, 2) := by decide +kernel
theorem dX4_go_173 : decode cX4_go 173 = .ok (.imul, 1) := by decide +kernel
theorem dX4_go_174 : decode cX4_go 174 = .ok (.aload_n 0, 1) := by decide +kernel
theorem dX4_go_175 : decode cX4_go 175 = .ok (.getfield 99, 3) := by decide +kernel
theorem dX4_go_178 : decode cX4_go 178 = .ok (.iadd, 1) := by decide +kernel
theorem dX4_go_179 : decode cX4_go 179 = .ok (.iaload, 1) := by decide +kernel
theorem dX4_go_180 : decode cX4_go 180 = .ok (.goto 20, 3) := by decide +kernel
theorem dX4_go_183 : decode cX4_go 183 = .ok (.aload_n 0, 1) := by decide +kernel
theorem dX4_go_184 : decode cX4_go 184 = .ok (.getfield 7, 3) := by decide +kernel
theorem dX4_go_187 : decode cX4_go 187 = .ok (.bipush 6, 2) := by decide +kernel
theorem dX4_go_189 : decode cX4_go 189 = .ok (.iload 7, 2) := by decide +kernel
theorem dX4_go_191 : decode cX4_go 191 = .ok (.imul, 1) := by decide +kernel
theorem dX4_go_192 : decode cX4_go 192 = .ok (.iconst 3, 1) := by decide +kernel
theorem dX4_go_193 : decode cX4_go 193 = .ok (.iadd, 1) := by decide +kernel
theorem dX4_go_194 : decode cX4_go 194 = .ok (.aload_n 0, 1) := by decide +kernel
theorem dX4_go_195 : decode cX4_go 195 = .ok (.getfield 99, 3) := by decide +kernel
theorem dX4_go_198 : decode cX4_go 198 = .ok (.iadd, 1) := by decide +kernel
theorem dX4_go_199 : decode cX4_go 199 = .ok (.iaload, 1) := by decide +kernel
theorem dX4_go_200 : decode cX4_go 200 = .ok (.istore 8, 2) := by decide +kernel
theorem dX4_go_202 : decode cX4_go 202 = .ok (.aload_n 0, 1) := by decide +kernel
theorem dX4_go_203 : decode cX4_go 203 = .ok (.getfield 23, 3) := by decide +kernel
theorem dX4_go_206 : decode cX4_go 206 = .ok (.aload_n 0, 1) := by decide +kernel
theorem dX4_go_207 : decode cX4_go 207 = .ok (.getfield 99, 3) := by decide +kernel
theorem dX4_go_210 : decode cX4_go 210 = .ok (.iconst 2, 1) := by decide +kernel
theorem dX4_go_211 : decode cX4_go 211 = .ok (.iload 8, 2) := by decide +kernel
theorem dX4_go_213 : decode cX4_go 213 = .ok (.imul, 1) := by decide +kernel
theorem dX4_go_214 : decode cX4_go 214 = .ok (.aload_n 0, 1) := by decide +kernel
theorem dX4_go_215 : decode cX4_go 215 = .ok (.getfield 23, 3) := by decide +kernel
theorem dX4_go_218 : decode cX4_go 218 = .ok (.aload_n 0, 1) := by decide +kernel
theorem dX4_go_219 : decode cX4_go 219 = .ok (.getfield 99, 3) := by decide +kernel
theorem dX4_go_222 : decode cX4_go 222 = .ok (.iaload, 1) := by decide +kernel
theorem dX4_go_223 : decode cX4_go 223 = .ok (.isub, 1) := by decide +kernel
theorem dX4_go_224 : decode cX4_go 224 = .ok (.iastore, 1) := by decide +kernel
theorem dX4_go_225 : decode cX4_go 225 = .ok (.aload_n 0, 1) := by decide +kernel
theorem dX4_go_226 : decode cX4_go 226 = .ok (.getfield 26, 3) := by decide +kernel
theorem dX4_go_229 : decode cX4_go 229 = .ok (.aload_n 0, 1) := by decide +kernel
theorem dX4_go_230 : decode cX4_go 230 = .ok (.getfield 99, 3) := by decide +kernel
theorem dX4_go_233 : decode cX4_go 233 = .ok (.aload_n 0, 1) := by decide +kernel
theorem dX4_go_234 : decode cX4_go 234 = .ok (.getfield 26, 3) := by decide +kernel
theorem dX4_go_237 : decode cX4_go 237 = .ok (.aload_n 0, 1) := by decide +kernel
theorem dX4_go_238 : decode cX4_go 238 = .ok (.getfield 99, 3) := by decide +kernel
theorem dX4_go_241 : decode cX4_go 241 = .ok (.iaload, 1) := by decide +kernel
theorem dX4_go_242 : decode cX4_go 242 = .ok (.ineg, 1) := by decide +kernel
theorem dX4_go_243 : decode cX4_go 243 = .ok (.iastore, 1) := by decide +kernel
theorem dX4_go_244 : decode cX4_go 244 = .ok (.aload_n 0, 1) := by decide +kernel
theorem dX4_go_245 : decode cX4_go 245 = .ok (.getfield 138, 3) := by decide +kernel
theorem dX4_go_248 : decode cX4_go 248 = .ok (.ifCond .eq 12, 3) := by decide +kernel
theorem dX4_go_251 : decode cX4_go 251 = .ok (.aload_n 0, 1) := by decide +kernel
theorem dX4_go_252 : decode cX4_go 252 = .ok (.getfield 134, 3) := by decide +kernel
theorem dX4_go_255 : decode cX4_go 255 = .ok (.bipush 30, 2) := by decide +kernel
theorem dX4_go_257 : decode cX4_go 257 = .ok (.if_icmp .ne 5, 3) := by decide +kernel
theorem dX4_go_260 : decode cX4_go 260 = .ok (.iconst 2, 1) := by decide +kernel
theorem dX4_go_261 : decode cX4_go 261 = .ok (.ireturn, 1) := by decide +kernel
theorem dX4_go_262 : decode cX4_go 262 = .ok (.goto (-182), 3) := by decide +kernel
theorem dX4_isInSolid_0 : decode cX4_isInSolid 0 = .ok (.iconst 0, 1) := by decide +kernel
theorem dX4_isInSolid_1 : decode cX4_isInSolid 1 = .ok (.istore_n 1, 1) := by decide +kernel
theorem dX4_isInSolid_2 : decode cX4_isInSolid 2 = .ok (.iload_n 1, 1) := by decide +kernel
theorem dX4_isInSolid_3 : decode cX4_isInSolid 3 = .ok (.aload_n 0, 1) := by decide +kernel
theorem dX4_isInSolid_4 : decode cX4_isInSolid 4 = .ok (.getfield 90, 3) := by decide +kernel
theorem dX4_isInSolid_7 : decode cX4_isInSolid 7 = .ok (.if_icmp .ge 104, 3) := by decide +kernel
theorem dX4_isInSolid_10 : decode cX4_isInSolid 10 = .ok (.aload_n 0, 1) := by decide +kernel
theorem dX4_isInSolid_11 : decode cX4_isInSolid 11 = .ok (.getfield 19, 3) := by decide +kernel
theorem dX4_isInSolid_14 : decode cX4_isInSolid 14 = .ok (.iload_n 1, 1) := by decide +kernel
theorem dX4_isInSolid_15 : decode cX4_isInSolid 15 = .ok (.baload, 1) := by decide +kernel
theorem dX4_isInSolid_16 : decode cX4_isInSolid 16 = .ok (.ifCond .ne 16, 3) := by decide +kernel
theorem dX4_isInSolid_19 : decode cX4_isInSolid 19 = .ok (.aload_n 0, 1) := by decide +kernel
theorem dX4_isInSolid_20 : decode cX4_isInSolid 20 = .ok (.getfield 13, 3) := by decide +kernel
theorem dX4_isInSolid_23 : decode cX4_isInSolid 23 = .ok (.iload_n 1, 1) := by decide +kernel
theorem dX4_isInSolid_24 : decode cX4_isInSolid 24 = .ok (.iaload, 1) := by decide +kernel
theorem dX4_isInSolid_25 : decode cX4_isInSolid 25 = .ok (.ifCond .ne 7, 3) := by decide +kernel
theorem dX4_isInSolid_28 : decode cX4_isInSolid 28 = .ok (.iconst 1, 1) := by decide +kernel
theorem dX4_isInSolid_29 : decode cX4_isInSolid 29 = .ok (.goto 4, 3) := by decide +kernel
theorem dX4_isInSolid_32 : decode cX4_isInSolid 32 = .ok (.iconst 0, 1) := by decide +kernel
theorem dX4_isInSolid_33 : decode cX4_isInSolid 33 = .ok (.istore_n 2, 1) := by decide +kernel
theorem dX4_isInSolid_34 : decode cX4_isInSolid 34 = .ok (.iconst 0, 1) := by decide +kernel
theorem dX4_isInSolid_35 : decode cX4_isInSolid 35 = .ok (.istore_n 3, 1) := by decide +kernel
theorem dX4_isInSolid_36 : decode cX4_isInSolid 36 = .ok (.iload_n 3, 1) := by decide +kernel
theorem dX4_isInSolid_37 : decode cX4_isInSolid 37 = .ok (.iconst 3, 1) := by decide +kernel
theorem dX4_isInSolid_38 : decode cX4_isInSolid 38 = .ok (.if_icmp .ge 61, 3) := by decide +kernel
theorem dX4_isInSolid_41 : decode cX4_isInSolid 41 = .ok (.iload_n 2, 1) := by decide +kernel
theorem dX4_isInSolid_42 : decode cX4_isInSolid 42 = .ok (.ifCond .eq 49, 3) := by decide +kernel
theorem dX4_isInSolid_45 : decode cX4_isInSolid 45 = .ok (.aload_n 0, 1) := by decide +kernel
theorem dX4_isInSolid_46 : decode cX4_isInSolid 46 = .ok (.getfield 23, 3) := by decide +kernel
theorem dX4_isInSolid_49 : decode cX4_isInSolid 49 = .ok (.iload_n 3, 1) := by decide +kernel
theorem dX4_isInSolid_50 : decode cX4_isInSolid 50 = .ok (.iaload, 1) := by decide +kernel
theorem dX4_isInSolid_51 : decode cX4_isInSolid 51 = .ok (.aload_n 0, 1) := by decide +kernel
theorem dX4_isInSolid_52 : decode cX4_isInSolid 52 = .ok (.getfield 7, 3) := by decide +kernel
theorem dX4_isInSolid_55 : decode cX4_isInSolid 55 = .ok (.bipush 6, 2) := by decide +kernel
theorem dX4_isInSolid_57 : decode cX4_isInSolid 57 = .ok (.iload_n 1, 1) := by decide +kernel
theorem dX4_isInSolid_58 : decode cX4_isInSolid 58 = .ok (.imul, 1) := by decide +kernel
theorem dX4_isInSolid_59 : decode cX4_isInSolid 59 = .ok (.iload_n 3, 1) := by decide +kernel
theorem dX4_isInSolid_60 : decode cX4_isInSolid 60 = .ok (.iadd, 1) := by decide +kernel
theorem dX4_isInSolid_61 : decode cX4_isInSolid 61 = .ok (.iaload, 1) := by decide +kernel
theorem dX4_isInSolid_62 : decode cX4_isInSolid 62 = .ok (.if_icmp .le 29, 3) := by decide +kernel
theorem dX4_isInSolid_65 : decode cX4_isInSolid 65 = .ok (.aload_n 0, 1) := by decide +kernel
theorem dX4_isInSolid_66 : decode cX4_isInSolid 66 = .ok (.getfield 23, 3) := by decide +kernel
theorem dX4_isInSolid_69 : decode cX4_isInSolid 69 = .ok (.iload_n 3, 1) := by decide +kernel
theorem dX4_isInSolid_70 : decode cX4_isInSolid 70 = .ok (.iaload, 1) := by decide +kernel
theorem dX4_isInSolid_71 : decode cX4_isInSolid 71 = .ok (.aload_n 0, 1) := by decide +kernel
theorem dX4_isInSolid_72 : decode cX4_isInSolid 72 = .ok (.getfield 7, 3) := by decide +kernel
theorem dX4_isInSolid_75 : decode cX4_isInSolid 75 = .ok (.bipush 6, 2) := by decide +kernel
theorem dX4_isInSolid_77 : decode cX4_isInSolid 77 = .ok (.iload_n 1, 1) := by decide +kernel
theorem dX4_isInSolid_78 : decode cX4_isInSolid 78 = .ok (.imul, 1) := by decide +kernel
theorem dX4_isInSolid_79 : decode cX4_isInSolid 79 = .ok (.iconst 3, 1) := by decide +kernel
theorem dX4_isInSolid_80 : decode cX4_isInSolid 80 = .ok (.iadd, 1) := by decide +kernel
theorem dX4_isInSolid_81 : decode cX4_isInSolid 81 = .ok (.iload_n 3, 1) := by decide +kernel
theorem dX4_isInSolid_82 : decode cX4_isInSolid 82 = .ok (.iadd, 1) := by decide +kernel
theorem dX4_isInSolid_83 : decode cX4_isInSolid 83 = .ok (.iaload, 1) := by decide +kernel
theorem dX4_isInSolid_84 : decode cX4_isInSolid 84 = .ok (.if_icmp .ge 7, 3) := by decide +kernel
theorem dX4_isInSolid_87 : decode cX4_isInSolid 87 = .ok (.iconst 1, 1) := by decide +kernel
theorem dX4_isInSolid_88 : decode cX4_isInSolid 88 = .ok (.goto 4, 3) := by decide +kernel
theorem dX4_isInSolid_91 : decode cX4_isInSolid 91 = .ok (.iconst 0, 1) := by decide +kernel
theorem dX4_isInSolid_92 : decode cX4_isInSolid 92 = .ok (.istore_n 2, 1) := by decide +kernel
theorem dX4_isInSolid_93 : decode cX4_isInSolid 93 = .ok (.iinc 3 1, 3) := by decide +kernel
theorem dX4_isInSolid_96 : decode cX4_isInSolid 96 = .ok (.goto (-60), 3) := by decide +kernel
theorem dX4_isInSolid_99 : decode cX4_isInSolid 99 = .ok (.iload_n 2, 1) := by decide +kernel
theorem dX4_isInSolid_100 : decode cX4_isInSolid 100 = .ok (.ifCond .eq 5, 3) := by decide +kernel
theorem dX4_isInSolid_103 : decode cX4_isInSolid 103 = .ok (.iconst 1, 1) := by decide +kernel
theorem dX4_isInSolid_104 : decode cX4_isInSolid 104 = .ok (.ireturn, 1) := by decide +kernel
theorem dX4_isInSolid_105 : decode cX4_isInSolid 105 = .ok (.iinc 1 1, 3) := by decide +kernel
theorem dX4_isInSolid_108 : decode cX4_isInSolid 108 = .ok (.goto (-106), 3) := by decide +kernel
theorem dX4_isInSolid_111 : decode cX4_isInSolid 111 = .ok (.iconst 0, 1) := by decide +kernel
theorem dX4_isInSolid_112 : decode cX4_isInSolid 112 = .ok (.ireturn, 1) := by decide +kernel
theorem dX4_next_0 : decode cX4_next 0 = .ok (.iconst (-1), 1) := by decide +kernel
theorem dX4_next_1 : decode cX4_next 1 = .ok (.istore_n 1, 1) := by decide +kernel
theorem dX4_next_2 : decode cX4_next 2 = .ok (.lconst 0, 1) := by decide +kernel
theorem dX4_next_3 : decode cX4_next 3 = .ok (.lstore_n 2, 1) := by decide +kernel
theorem dX4_next_4 : decode cX4_next 4 = .ok (.lconst 1, 1) := by decide +kernel
theorem dX4_next_5 : decode cX4_next 5 = .ok (.lstore 4, 2) := by decide +kernel
theorem dX4_next_7 : decode cX4_next 7 = .ok (.iconst 0, 1) := by decide +kernel
theorem dX4_next_8 : decode cX4_next 8 = .ok (.istore 6, 2) := by decide +kernel
theorem dX4_next_10 : decode cX4_next 10 = .ok (.iconst 0, 1) := by decide +kernel
theorem dX4_next_11 : decode cX4_next 11 = .ok (.istore 7, 2) := by decide +kernel
theorem dX4_next_13 : decode cX4_next 13 = .ok (.iload 7, 2) := by decide +kernel
theorem dX4_next_15 : decode cX4_next 15 = .ok (.aload_n 0, 1) := by decide +kernel
theorem dX4_next_16 : decode cX4_next 16 = .ok (.getfield 90, 3) := by decide +kernel
theorem dX4_next_19 : decode cX4_next 19 = .ok (.if_icmp .ge 60, 3) := by decide +kernel
theorem dX4_next_22 : decode cX4_next 22 = .ok (.aload_n 0, 1) := by decide +kernel
theorem dX4_next_23 : decode cX4_next 23 = .ok (.iload 7, 2) := by decide +kernel
theorem dX4_next_25 : decode cX4_next 25 = .ok (.invokevirtual 131, 3) := by decide +kernel
theorem dX4_next_28 : decode cX4_next 28 = .ok (.ifCond .eq 45, 3) := by decide +kernel
theorem dX4_next_31 : decode cX4_next 31 = .ok (.iload_n 1, 1) := by decide +kernel
theorem dX4_next_32 : decode cX4_next 32 = .ok (.iconst (-1), 1) := by decide +kernel
theorem dX4_next_33 : decode cX4_next 33 = .ok (.if_icmp .eq 20, 3) := by decide +kernel
theorem dX4_next_36 : decode cX4_next 36 = .ok (.aload_n 0, 1) := by decide +kernel
theorem dX4_next_37 : decode cX4_next 37 = .ok (.getfield 109, 3) := by decide +kernel
theorem dX4_next_40 : decode cX4_next 40 = .ok (.lload 4, 2) := by decide +kernel
theorem dX4_next_42 : decode cX4_next 42 = .ok (.lmul, 1) := by decide +kernel
theorem dX4_next_43 : decode cX4_next 43 = .ok (.lload_n 2, 1) := by decide +kernel
theorem dX4_next_44 : decode cX4_next 44 = .ok (.aload_n 0, 1) := by decide +kernel
theorem dX4_next_45 : decode cX4_next 45 = .ok (.getfield 106, 3) := by decide +kernel
theorem dX4_next_48 : decode cX4_next 48 = .ok (.lmul, 1) := by decide +kernel
theorem dX4_next_49 : decode cX4_next 49 = .ok (.lcmp, 1) := by decide +kernel
theorem dX4_next_50 : decode cX4_next 50 = .ok (.ifCond .ge 23, 3) := by decide +kernel
theorem dX4_next_53 : decode cX4_next 53 = .ok (.iload 7, 2) := by decide +kernel
theorem dX4_next_55 : decode cX4_next 55 = .ok (.istore_n 1, 1) := by decide +kernel
theorem dX4_next_56 : decode cX4_next 56 = .ok (.aload_n 0, 1) := by decide +kernel
theorem dX4_next_57 : decode cX4_next 57 = .ok (.getfield 109, 3) := by decide +kernel
theorem dX4_next_60 : decode cX4_next 60 = .ok (.lstore_n 2, 1) := by decide +kernel
theorem dX4_next_61 : decode cX4_next 61 = .ok (.aload_n 0, 1) := by decide +kernel
theorem dX4_next_62 : decode cX4_next 62 = .ok (.getfield 106, 3) := by decide +kernel
theorem dX4_next_65 : decode cX4_next 65 = .ok (.lstore 4, 2) := by decide +kernel
theorem dX4_next_67 : decode cX4_next 67 = .ok (.aload_n 0, 1) := by decide +kernel
theorem dX4_next_68 : decode cX4_next 68 = .ok (.getfield 99, 3) := by decide +kernel
theorem dX4_next_71 : decode cX4_next 71 = .ok (.istore 6, 2) := by decide +kernel
theorem dX4_next_73 : decode cX4_next 73 = .ok (.iinc 7 1, 3) := by decide +kernel
theorem dX4_next_76 : decode cX4_next 76 = .ok (.goto (-63), 3) := by decide +kernel
theorem dX4_next_79 : decode cX4_next 79 = .ok (.aload_n 0, 1) := by decide +kernel
theorem dX4_next_80 : decode cX4_next 80 = .ok (.lload_n 2, 1) := by decide +kernel
theorem dX4_next_81 : decode cX4_next 81 = .ok (.putfield 109, 3) := by decide +kernel
theorem dX4_next_84 : decode cX4_next 84 = .ok (.aload_n 0, 1) := by decide +kernel
theorem dX4_next_85 : decode cX4_next 85 = .ok (.lload 4, 2) := by decide +kernel
theorem dX4_next_87 : decode cX4_next 87 = .ok (.putfield 106, 3) := by decide +kernel
theorem dX4_next_90 : decode cX4_next 90 = .ok (.aload_n 0, 1) := by decide +kernel
theorem dX4_next_91 : decode cX4_next 91 = .ok (.iload 6, 2) := by decide +kernel
theorem dX4_next_93 : decode cX4_next 93 = .ok (.putfield 99, 3) := by decide +kernel
theorem dX4_next_96 : decode cX4_next 96 = .ok (.iload_n 1, 1) := by decide +kernel
theorem dX4_next_97 : decode cX4_next 97 = .ok (.ireturn, 1) := by decide +kernel
theorem dX4_counts_0 : decode cX4_counts 0 = .ok (.aload_n 0, 1) := by decide +kernel
theorem dX4_counts_1 : decode cX4_counts 1 = .ok (.getfield 19, 3) := by decide +kernel
theorem dX4_counts_4 : decode cX4_counts 4 = .ok (.iload_n 1, 1) := by decide +kernel
theorem dX4_counts_5 : decode cX4_counts 5 = .ok (.baload, 1) := by decide +kernel
theorem dX4_counts_6 : decode cX4_counts 6 = .ok (.ifCond .ne 19, 3) := by decide +kernel
theorem dX4_counts_9 : decode cX4_counts 9 = .ok (.aload_n 0, 1) := by decide +kernel
theorem dX4_counts_10 : decode cX4_counts 10 = .ok (.iload_n 1, 1) := by decide +kernel
theorem dX4_counts_11 : decode cX4_counts 11 = .ok (.aload_n 0, 1) := by decide +kernel
theorem dX4_counts_12 : decode cX4_counts 12 = .ok (.getfield 23, 3) := by decide +kernel
theorem dX4_counts_15 : decode cX4_counts 15 = .ok (.aload_n 0, 1) := by decide +kernel
theorem dX4_counts_16 : decode cX4_counts 16 = .ok (.getfield 26, 3) := by decide +kernel
theorem dX4_counts_19 : decode cX4_counts 19 = .ok (.invokevirtual 118, 3) := by decide +kernel
theorem dX4_counts_22 : decode cX4_counts 22 = .ok (.ifCond .ne 5, 3) := by decide +kernel
theorem dX4_counts_25 : decode cX4_counts 25 = .ok (.iconst 0, 1) := by decide +kernel
theorem dX4_counts_26 : decode cX4_counts 26 = .ok (.ireturn, 1) := by decide +kernel
theorem dX4_counts_27 : decode cX4_counts 27 = .ok (.aload_n 0, 1) := by decide +kernel
theorem dX4_counts_28 : decode cX4_counts 28 = .ok (.getfield 109, 3) := by decide +kernel
theorem dX4_counts_31 : decode cX4_counts 31 = .ok (.aload_n 0, 1) := by decide +kernel
theorem dX4_counts_32 : decode cX4_counts 32 = .ok (.getfield 122, 3) := by decide +kernel
theorem dX4_counts_35 : decode cX4_counts 35 = .ok (.lmul, 1) := by decide +kernel
theorem dX4_counts_36 : decode cX4_counts 36 = .ok (.aload_n 0, 1) := by decide +kernel
theorem dX4_counts_37 : decode cX4_counts 37 = .ok (.getfield 115, 3) := by decide +kernel
theorem dX4_counts_40 : decode cX4_counts 40 = .ok (.aload_n 0, 1) := by decide +kernel
theorem dX4_counts_41 : decode cX4_counts 41 = .ok (.getfield 106, 3) := by decide +kernel
theorem dX4_counts_44 : decode cX4_counts 44 = .ok (.lmul, 1) := by decide +kernel
theorem dX4_counts_45 : decode cX4_counts 45 = .ok (.lsub, 1) := by decide +kernel
theorem dX4_counts_46 : decode cX4_counts 46 = .ok (.lstore_n 2, 1) := by decide +kernel
theorem dX4_counts_47 : decode cX4_counts 47 = .ok (.lload_n 2, 1) := by decide +kernel
theorem dX4_counts_48 : decode cX4_counts 48 = .ok (.lconst 0, 1) := by decide +kernel
theorem dX4_counts_49 : decode cX4_counts 49 = .ok (.lcmp, 1) := by decide +kernel
theorem dX4_counts_50 : decode cX4_counts 50 = .ok (.ifCond .eq 15, 3) := by decide +kernel
theorem dX4_counts_53 : decode cX4_counts 53 = .ok (.lload_n 2, 1) := by decide +kernel
theorem dX4_counts_54 : decode cX4_counts 54 = .ok (.lconst 0, 1) := by decide +kernel
theorem dX4_counts_55 : decode cX4_counts 55 = .ok (.lcmp, 1) := by decide +kernel
theorem dX4_counts_56 : decode cX4_counts 56 = .ok (.ifCond .le 7, 3) := by decide +kernel
theorem dX4_counts_59 : decode cX4_counts 59 = .ok (.iconst 1, 1) := by decide +kernel
theorem dX4_counts_60 : decode cX4_counts 60 = .ok (.goto 4, 3) := by decide +kernel
theorem dX4_counts_63 : decode cX4_counts 63 = .ok (.iconst 0, 1) := by decide +kernel
theorem dX4_counts_64 : decode cX4_counts 64 = .ok (.ireturn, 1) := by decide +kernel
theorem dX4_counts_65 : decode cX4_counts 65 = .ok (.aload_n 0, 1) := by decide +kernel
theorem dX4_counts_66 : decode cX4_counts 66 = .ok (.getfield 125, 3) := by decide +kernel
theorem dX4_counts_69 : decode cX4_counts 69 = .ok (.iload_n 1, 1) := by decide +kernel
theorem dX4_counts_70 : decode cX4_counts 70 = .ok (.if_icmp .ge 11, 3) := by decide +kernel
theorem dX4_counts_73 : decode cX4_counts 73 = .ok (.aload_n 0, 1) := by decide +kernel
theorem dX4_counts_74 : decode cX4_counts 74 = .ok (.iload_n 1, 1) := by decide +kernel
theorem dX4_counts_75 : decode cX4_counts 75 = .ok (.invokevirtual 128, 3) := by decide +kernel
theorem dX4_counts_78 : decode cX4_counts 78 = .ok (.ifCond .eq 5, 3) := by decide +kernel
theorem dX4_counts_81 : decode cX4_counts 81 = .ok (.iconst 0, 1) := by decide +kernel
theorem dX4_counts_82 : decode cX4_counts 82 = .ok (.ireturn, 1) := by decide +kernel
theorem dX4_counts_83 : decode cX4_counts 83 = .ok (.aload_n 0, 1) := by decide +kernel
theorem dX4_counts_84 : decode cX4_counts 84 = .ok (.iload_n 1, 1) := by decide +kernel
theorem dX4_counts_85 : decode cX4_counts 85 = .ok (.aload_n 0, 1) := by decide +kernel
theorem dX4_counts_86 : decode cX4_counts 86 = .ok (.getfield 23, 3) := by decide +kernel
theorem dX4_counts_89 : decode cX4_counts 89 = .ok (.aload_n 0, 1) := by decide +kernel
theorem dX4_counts_90 : decode cX4_counts 90 = .ok (.getfield 26, 3) := by decide +kernel
theorem dX4_counts_93 : decode cX4_counts 93 = .ok (.invokevirtual 118, 3) := by decide +kernel
theorem dX4_counts_96 : decode cX4_counts 96 = .ok (.ireturn, 1) := by decide +kernel
theorem dX4_meets_0 : decode cX4_meets 0 = .ok (.aload_n 0, 1) := by decide +kernel
theorem dX4_meets_1 : decode cX4_meets 1 = .ok (.iconst (-1), 1) := by decide +kernel
theorem dX4_meets_2 : decode cX4_meets 2 = .ok (.putfield 99, 3) := by decide +kernel
theorem dX4_meets_5 : decode cX4_meets 5 = .ok (.aload_n 0, 1) := by decide +kernel
theorem dX4_meets_6 : decode cX4_meets 6 = .ok (.lconst 0, 1) := by decide +kernel
theorem dX4_meets_7 : decode cX4_meets 7 = .ok (.putfield 102, 3) := by decide +kernel
theorem dX4_meets_10 : decode cX4_meets 10 = .ok (.iconst 0, 1) := by decide +kernel
theorem dX4_meets_11 : decode cX4_meets 11 = .ok (.istore 4, 2) := by decide +kernel
theorem dX4_meets_13 : decode cX4_meets 13 = .ok (.iload 4, 2) := by decide +kernel
theorem dX4_meets_15 : decode cX4_meets 15 = .ok (.iconst 3, 1) := by decide +kernel
theorem dX4_meets_16 : decode cX4_meets 16 = .ok (.if_icmp .ge 214, 3) := by decide +kernel
theorem dX4_meets_19 : decode cX4_meets 19 = .ok (.aload_n 0, 1) := by decide +kernel
theorem dX4_meets_20 : decode cX4_meets 20 = .ok (.getfield 7, 3) := by decide +kernel
theorem dX4_meets_23 : decode cX4_meets 23 = .ok (.bipush 6, 2) := by decide +kernel
theorem dX4_meets_25 : decode cX4_meets 25 = .ok (.iload_n 1, 1) := by decide +kernel
theorem dX4_meets_26 : decode cX4_meets 26 = .ok (.imul, 1) := by decide +kernel
theorem dX4_meets_27 : decode cX4_meets 27 = .ok (.iload 4, 2) := by decide +kernel
theorem dX4_meets_29 : decode cX4_meets 29 = .ok (.iadd, 1) := by decide +kernel
theorem dX4_meets_30 : decode cX4_meets 30 = .ok (.iaload, 1) := by decide +kernel
theorem dX4_meets_31 : decode cX4_meets 31 = .ok (.aload_n 2, 1) := by decide +kernel
theorem dX4_meets_32 : decode cX4_meets 32 = .ok (.iload 4, 2) := by decide +kernel
theorem dX4_meets_34 : decode cX4_meets 34 = .ok (.iaload, 1) := by decide +kernel
theorem dX4_meets_35 : decode cX4_meets 35 = .ok (.isub, 1) := by decide +kernel
theorem dX4_meets_36 : decode cX4_meets 36 = .ok (.i2l, 1) := by decide +kernel
theorem dX4_meets_37 : decode cX4_meets 37 = .ok (.lstore 5, 2) := by decide +kernel
theorem dX4_meets_39 : decode cX4_meets 39 = .ok (.aload_n 0, 1) := by decide +kernel
theorem dX4_meets_40 : decode cX4_meets 40 = .ok (.getfield 7, 3) := by decide +kernel
theorem dX4_meets_43 : decode cX4_meets 43 = .ok (.bipush 6, 2) := by decide +kernel
theorem dX4_meets_45 : decode cX4_meets 45 = .ok (.iload_n 1, 1) := by decide +kernel
theorem dX4_meets_46 : decode cX4_meets 46 = .ok (.imul, 1) := by decide +kernel
theorem dX4_meets_47 : decode cX4_meets 47 = .ok (.iconst 3, 1) := by decide +kernel
theorem dX4_meets_48 : decode cX4_meets 48 = .ok (.iadd, 1) := by decide +kernel
theorem dX4_meets_49 : decode cX4_meets 49 = .ok (.iload 4, 2) := by decide +kernel
theorem dX4_meets_51 : decode cX4_meets 51 = .ok (.iadd, 1) := by decide +kernel
theorem dX4_meets_52 : decode cX4_meets 52 = .ok (.iaload, 1) := by decide +kernel
theorem dX4_meets_53 : decode cX4_meets 53 = .ok (.aload_n 2, 1) := by decide +kernel
theorem dX4_meets_54 : decode cX4_meets 54 = .ok (.iload 4, 2) := by decide +kernel
theorem dX4_meets_56 : decode cX4_meets 56 = .ok (.iaload, 1) := by decide +kernel
theorem dX4_meets_57 : decode cX4_meets 57 = .ok (.isub, 1) := by decide +kernel
theorem dX4_meets_58 : decode cX4_meets 58 = .ok (.i2l, 1) := by decide +kernel
theorem dX4_meets_59 : decode cX4_meets 59 = .ok (.lstore 7, 2) := by decide +kernel
theorem dX4_meets_61 : decode cX4_meets 61 = .ok (.aload_n 3, 1) := by decide +kernel
theorem dX4_meets_62 : decode cX4_meets 62 = .ok (.iload 4, 2) := by decide +kernel
theorem dX4_meets_64 : decode cX4_meets 64 = .ok (.iaload, 1) := by decide +kernel
theorem dX4_meets_65 : decode cX4_meets 65 = .ok (.ifCond .ne 19, 3) := by decide +kernel
theorem dX4_meets_68 : decode cX4_meets 68 = .ok (.lload 5, 2) := by decide +kernel
theorem dX4_meets_70 : decode cX4_meets 70 = .ok (.lconst 0, 1) := by decide +kernel
theorem dX4_meets_71 : decode cX4_meets 71 = .ok (.lcmp, 1) := by decide +kernel
theorem dX4_meets_72 : decode cX4_meets 72 = .ok (.ifCond .ge 10, 3) := by decide +kernel
theorem dX4_meets_75 : decode cX4_meets 75 = .ok (.lload 7, 2) := by decide +kernel
theorem dX4_meets_77 : decode cX4_meets 77 = .ok (.lconst 0, 1) := by decide +kernel
theorem dX4_meets_78 : decode cX4_meets 78 = .ok (.lcmp, 1) := by decide +kernel
theorem dX4_meets_79 : decode cX4_meets 79 = .ok (.ifCond .gt 145, 3) := by decide +kernel
theorem dX4_meets_82 : decode cX4_meets 82 = .ok (.iconst 0, 1) := by decide +kernel
theorem dX4_meets_83 : decode cX4_meets 83 = .ok (.ireturn, 1) := by decide +kernel
theorem dX4_meets_84 : decode cX4_meets 84 = .ok (.aload_n 3, 1) := by decide +kernel
theorem dX4_meets_85 : decode cX4_meets 85 = .ok (.iload 4, 2) := by decide +kernel
theorem dX4_meets_87 : decode cX4_meets 87 = .ok (.iaload, 1) := by decide +kernel
theorem dX4_meets_88 : decode cX4_meets 88 = .ok (.ifCond .ge 12, 3) := by decide +kernel
theorem dX4_meets_91 : decode cX4_meets 91 = .ok (.aload_n 3, 1) := by decide +kernel
theorem dX4_meets_92 : decode cX4_meets 92 = .ok (.iload 4, 2) := by decide +kernel
theorem dX4_meets_94 : decode cX4_meets 94 = .ok (.iaload, 1) := by decide +kernel
theorem dX4_meets_95 : decode cX4_meets 95 = .ok (.ineg, 1) := by decide +kernel
theorem dX4_meets_96 : decode cX4_meets 96 = .ok (.i2l, 1) := by decide +kernel
theorem dX4_meets_97 : decode cX4_meets 97 = .ok (.goto 8, 3) := by decide +kernel
theorem dX4_meets_100 : decode cX4_meets 100 = .ok (.aload_n 3, 1) := by decide +kernel
theorem dX4_meets_101 : decode cX4_meets 101 = .ok (.iload 4, 2) := by decide +kernel
theorem dX4_meets_103 : decode cX4_meets 103 = .ok (.iaload, 1) := by decide +kernel
theorem dX4_meets_104 : decode cX4_meets 104 = .ok (.i2l, 1) := by decide +kernel
theorem dX4_meets_105 : decode cX4_meets 105 = .ok (.lstore 9, 2) := by decide +kernel
theorem dX4_meets_107 : decode cX4_meets 107 = .ok (.aload_n 3, 1) := by decide +kernel
theorem dX4_meets_108 : decode cX4_meets 108 = .ok (.iload 4, 2) := by decide +kernel
theorem dX4_meets_110 : decode cX4_meets 110 = .ok (.iaload, 1) := by decide +kernel
theorem dX4_meets_111 : decode cX4_meets 111 = .ok (.ifCond .ge 9, 3) := by decide +kernel
theorem dX4_meets_114 : decode cX4_meets 114 = .ok (.lload 7, 2) := by decide +kernel
theorem dX4_meets_116 : decode cX4_meets 116 = .ok (.lneg, 1) := by decide +kernel
theorem dX4_meets_117 : decode cX4_meets 117 = .ok (.goto 5, 3) := by decide +kernel
theorem dX4_meets_120 : decode cX4_meets 120 = .ok (.lload 5, 2) := by decide +kernel
theorem dX4_meets_122 : decode cX4_meets 122 = .ok (.lstore 11, 2) := by decide +kernel
theorem dX4_meets_124 : decode cX4_meets 124 = .ok (.aload_n 3, 1) := by decide +kernel
theorem dX4_meets_125 : decode cX4_meets 125 = .ok (.iload 4, 2) := by decide +kernel
theorem dX4_meets_127 : decode cX4_meets 127 = .ok (.iaload, 1) := by decide +kernel
theorem dX4_meets_128 : decode cX4_meets 128 = .ok (.ifCond .ge 9, 3) := by decide +kernel
theorem dX4_meets_131 : decode cX4_meets 131 = .ok (.lload 5, 2) := by decide +kernel
theorem dX4_meets_133 : decode cX4_meets 133 = .ok (.lneg, 1) := by decide +kernel
theorem dX4_meets_134 : decode cX4_meets 134 = .ok (.goto 5, 3) := by decide +kernel
theorem dX4_meets_137 : decode cX4_meets 137 = .ok (.lload 7, 2) := by decide +kernel
theorem dX4_meets_139 : decode cX4_meets 139 = .ok (.lstore 13, 2) := by decide +kernel
theorem dX4_meets_141 : decode cX4_meets 141 = .ok (.aload_n 0, 1) := by decide +kernel
theorem dX4_meets_142 : decode cX4_meets 142 = .ok (.getfield 99, 3) := by decide +kernel
theorem dX4_meets_145 : decode cX4_meets 145 = .ok (.iconst (-1), 1) := by decide +kernel
theorem dX4_meets_146 : decode cX4_meets 146 = .ok (.if_icmp .eq 21, 3) := by decide +kernel
theorem dX4_meets_149 : decode cX4_meets 149 = .ok (.lload 11, 2) := by decide +kernel
theorem dX4_meets_151 : decode cX4_meets 151 = .ok (.aload_n 0, 1) := by decide +kernel
theorem dX4_meets_152 : decode cX4_meets 152 = .ok (.getfield 106, 3) := by decide +kernel
theorem dX4_meets_155 : decode cX4_meets 155 = .ok (.lmul, 1) := by decide +kernel
theorem dX4_meets_156 : decode cX4_meets 156 = .ok (.aload_n 0, 1) := by decide +kernel
theorem dX4_meets_157 : decode cX4_meets 157 = .ok (.getfield 109, 3) := by decide +kernel
theorem dX4_meets_160 : decode cX4_meets 160 = .ok (.lload 9, 2) := by decide +kernel
theorem dX4_meets_162 : decode cX4_meets 162 = .ok (.lmul, 1) := by decide +kernel
theorem dX4_meets_163 : decode cX4_meets 163 = .ok (.lcmp, 1) := by decide +kernel
theorem dX4_meets_164 : decode cX4_meets 164 = .ok (.ifCond .le 21, 3) := by decide +kernel
theorem dX4_meets_167 : decode cX4_meets 167 = .ok (.aload_n 0, 1) := by decide +kernel
theorem dX4_meets_168 : decode cX4_meets 168 = .ok (.iload 4, 2) := by decide +kernel
theorem dX4_meets_170 : decode cX4_meets 170 = .ok (.putfield 99, 3) := by decide +kernel
theorem dX4_meets_173 : decode cX4_meets 173 = .ok (.aload_n 0, 1) := by decide +kernel
theorem dX4_meets_174 : decode cX4_meets 174 = .ok (.lload 11, 2) := by decide +kernel
theorem dX4_meets_176 : decode cX4_meets 176 = .ok (.putfield 109, 3) := by decide +kernel
theorem dX4_meets_179 : decode cX4_meets 179 = .ok (.aload_n 0, 1) := by decide +kernel
theorem dX4_meets_180 : decode cX4_meets 180 = .ok (.lload 9, 2) := by decide +kernel
theorem dX4_meets_182 : decode cX4_meets 182 = .ok (.putfield 106, 3) := by decide +kernel
theorem dX4_meets_185 : decode cX4_meets 185 = .ok (.aload_n 0, 1) := by decide +kernel
theorem dX4_meets_186 : decode cX4_meets 186 = .ok (.getfield 102, 3) := by decide +kernel
theorem dX4_meets_189 : decode cX4_meets 189 = .ok (.lconst 0, 1) := by decide +kernel
theorem dX4_meets_190 : decode cX4_meets 190 = .ok (.lcmp, 1) := by decide +kernel
theorem dX4_meets_191 : decode cX4_meets 191 = .ok (.ifCond .eq 21, 3) := by decide +kernel
theorem dX4_meets_194 : decode cX4_meets 194 = .ok (.lload 13, 2) := by decide +kernel
theorem dX4_meets_196 : decode cX4_meets 196 = .ok (.aload_n 0, 1) := by decide +kernel
theorem dX4_meets_197 : decode cX4_meets 197 = .ok (.getfield 102, 3) := by decide +kernel
theorem dX4_meets_200 : decode cX4_meets 200 = .ok (.lmul, 1) := by decide +kernel
theorem dX4_meets_201 : decode cX4_meets 201 = .ok (.aload_n 0, 1) := by decide +kernel
theorem dX4_meets_202 : decode cX4_meets 202 = .ok (.getfield 112, 3) := by decide +kernel
theorem dX4_meets_205 : decode cX4_meets 205 = .ok (.lload 9, 2) := by decide +kernel
theorem dX4_meets_207 : decode cX4_meets 207 = .ok (.lmul, 1) := by decide +kernel
theorem dX4_meets_208 : decode cX4_meets 208 = .ok (.lcmp, 1) := by decide +kernel
theorem dX4_meets_209 : decode cX4_meets 209 = .ok (.ifCond .ge 15, 3) := by decide +kernel
theorem dX4_meets_212 : decode cX4_meets 212 = .ok (.aload_n 0, 1) := by decide +kernel
theorem dX4_meets_213 : decode cX4_meets 213 = .ok (.lload 13, 2) := by decide +kernel
theorem dX4_meets_215 : decode cX4_meets 215 = .ok (.putfield 112, 3) := by decide +kernel
theorem dX4_meets_218 : decode cX4_meets 218 = .ok (.aload_n 0, 1) := by decide +kernel
theorem dX4_meets_219 : decode cX4_meets 219 = .ok (.lload 9, 2) := by decide +kernel
theorem dX4_meets_221 : decode cX4_meets 221 = .ok (.putfield 102, 3) := by decide +kernel
theorem dX4_meets_224 : decode cX4_meets 224 = .ok (.iinc 4 1, 3) := by decide +kernel
theorem dX4_meets_227 : decode cX4_meets 227 = .ok (.goto (-214), 3) := by decide +kernel
theorem dX4_meets_230 : decode cX4_meets 230 = .ok (.aload_n 0, 1) := by decide +kernel
theorem dX4_meets_231 : decode cX4_meets 231 = .ok (.getfield 109, 3) := by decide +kernel
theorem dX4_meets_234 : decode cX4_meets 234 = .ok (.aload_n 0, 1) := by decide +kernel
theorem dX4_meets_235 : decode cX4_meets 235 = .ok (.getfield 102, 3) := by decide +kernel
theorem dX4_meets_238 : decode cX4_meets 238 = .ok (.lmul, 1) := by decide +kernel
theorem dX4_meets_239 : decode cX4_meets 239 = .ok (.aload_n 0, 1) := by decide +kernel
theorem dX4_meets_240 : decode cX4_meets 240 = .ok (.getfield 112, 3) := by decide +kernel
theorem dX4_meets_243 : decode cX4_meets 243 = .ok (.aload_n 0, 1) := by decide +kernel
theorem dX4_meets_244 : decode cX4_meets 244 = .ok (.getfield 106, 3) := by decide +kernel
theorem dX4_meets_247 : decode cX4_meets 247 = .ok (.lmul, 1) := by decide +kernel
theorem dX4_meets_248 : decode cX4_meets 248 = .ok (.lcmp, 1) := by decide +kernel
theorem dX4_meets_249 : decode cX4_meets 249 = .ok (.ifCond .ge 7, 3) := by decide +kernel
theorem dX4_meets_252 : decode cX4_meets 252 = .ok (.iconst 1, 1) := by decide +kernel
theorem dX4_meets_253 : decode cX4_meets 253 = .ok (.goto 4, 3) := by decide +kernel
theorem dX4_meets_256 : decode cX4_meets 256 = .ok (.iconst 0, 1) := by decide +kernel
theorem dX4_meets_257 : decode cX4_meets 257 = .ok (.ireturn, 1) := by decide +kernel
theorem dX4_wasIn_0 : decode cX4_wasIn 0 = .ok (.aload_n 0, 1) := by decide +kernel
theorem dX4_wasIn_1 : decode cX4_wasIn 1 = .ok (.getfield 115, 3) := by decide +kernel
theorem dX4_wasIn_4 : decode cX4_wasIn 4 = .ok (.lconst 0, 1) := by decide +kernel
theorem dX4_wasIn_5 : decode cX4_wasIn 5 = .ok (.lcmp, 1) := by decide +kernel
theorem dX4_wasIn_6 : decode cX4_wasIn 6 = .ok (.ifCond .ne 5, 3) := by decide +kernel
theorem dX4_wasIn_9 : decode cX4_wasIn 9 = .ok (.iconst 0, 1) := by decide +kernel
theorem dX4_wasIn_10 : decode cX4_wasIn 10 = .ok (.ireturn, 1) := by decide +kernel
theorem dX4_wasIn_11 : decode cX4_wasIn 11 = .ok (.aload_n 0, 1) := by decide +kernel
theorem dX4_wasIn_12 : decode cX4_wasIn 12 = .ok (.iload_n 1, 1) := by decide +kernel
theorem dX4_wasIn_13 : decode cX4_wasIn 13 = .ok (.aload_n 0, 1) := by decide +kernel
theorem dX4_wasIn_14 : decode cX4_wasIn 14 = .ok (.getfield 29, 3) := by decide +kernel
theorem dX4_wasIn_17 : decode cX4_wasIn 17 = .ok (.aload_n 0, 1) := by decide +kernel
theorem dX4_wasIn_18 : decode cX4_wasIn 18 = .ok (.getfield 32, 3) := by decide +kernel
theorem dX4_wasIn_21 : decode cX4_wasIn 21 = .ok (.invokevirtual 118, 3) := by decide +kernel
theorem dX4_wasIn_24 : decode cX4_wasIn 24 = .ok (.ifCond .eq 51, 3) := by decide +kernel
theorem dX4_wasIn_27 : decode cX4_wasIn 27 = .ok (.aload_n 0, 1) := by decide +kernel
theorem dX4_wasIn_28 : decode cX4_wasIn 28 = .ok (.getfield 109, 3) := by decide +kernel
theorem dX4_wasIn_31 : decode cX4_wasIn 31 = .ok (.aload_n 0, 1) := by decide +kernel
theorem dX4_wasIn_32 : decode cX4_wasIn 32 = .ok (.getfield 122, 3) := by decide +kernel
theorem dX4_wasIn_35 : decode cX4_wasIn 35 = .ok (.lmul, 1) := by decide +kernel
theorem dX4_wasIn_36 : decode cX4_wasIn 36 = .ok (.aload_n 0, 1) := by decide +kernel
theorem dX4_wasIn_37 : decode cX4_wasIn 37 = .ok (.getfield 115, 3) := by decide +kernel
theorem dX4_wasIn_40 : decode cX4_wasIn 40 = .ok (.aload_n 0, 1) := by decide +kernel
theorem dX4_wasIn_41 : decode cX4_wasIn 41 = .ok (.getfield 106, 3) := by decide +kernel
theorem dX4_wasIn_44 : decode cX4_wasIn 44 = .ok (.lmul, 1) := by decide +kernel
theorem dX4_wasIn_45 : decode cX4_wasIn 45 = .ok (.lcmp, 1) := by decide +kernel
theorem dX4_wasIn_46 : decode cX4_wasIn 46 = .ok (.ifCond .ge 29, 3) := by decide +kernel
theorem dX4_wasIn_49 : decode cX4_wasIn 49 = .ok (.aload_n 0, 1) := by decide +kernel
theorem dX4_wasIn_50 : decode cX4_wasIn 50 = .ok (.getfield 112, 3) := by decide +kernel
theorem dX4_wasIn_53 : decode cX4_wasIn 53 = .ok (.aload_n 0, 1) := by decide +kernel
theorem dX4_wasIn_54 : decode cX4_wasIn 54 = .ok (.getfield 122, 3) := by decide +kernel
theorem dX4_wasIn_57 : decode cX4_wasIn 57 = .ok (.lmul, 1) := by decide +kernel
theorem dX4_wasIn_58 : decode cX4_wasIn 58 = .ok (.aload_n 0, 1) := by decide +kernel
theorem dX4_wasIn_59 : decode cX4_wasIn 59 = .ok (.getfield 115, 3) := by decide +kernel
theorem dX4_wasIn_62 : decode cX4_wasIn 62 = .ok (.aload_n 0, 1) := by decide +kernel
theorem dX4_wasIn_63 : decode cX4_wasIn 63 = .ok (.getfield 102, 3) := by decide +kernel
theorem dX4_wasIn_66 : decode cX4_wasIn 66 = .ok (.lmul, 1) := by decide +kernel
theorem dX4_wasIn_67 : decode cX4_wasIn 67 = .ok (.lcmp, 1) := by decide +kernel
theorem dX4_wasIn_68 : decode cX4_wasIn 68 = .ok (.ifCond .lt 7, 3) := by decide +kernel
theorem dX4_wasIn_71 : decode cX4_wasIn 71 = .ok (.iconst 1, 1) := by decide +kernel
theorem dX4_wasIn_72 : decode cX4_wasIn 72 = .ok (.goto 4, 3) := by decide +kernel
theorem dX4_wasIn_75 : decode cX4_wasIn 75 = .ok (.iconst 0, 1) := by decide +kernel
theorem dX4_wasIn_76 : decode cX4_wasIn 76 = .ok (.ireturn, 1) := by decide +kernel
theorem dX4_keepHit_0 : decode cX4_keepHit 0 = .ok (.aload_n 0, 1) := by decide +kernel
theorem dX4_keepHit_1 : decode cX4_keepHit 1 = .ok (.getfield 35, 3) := by decide +kernel
theorem dX4_keepHit_4 : decode cX4_keepHit 4 = .ok (.aload_n 0, 1) := by decide +kernel
theorem dX4_keepHit_5 : decode cX4_keepHit 5 = .ok (.getfield 134, 3) := by decide +kernel
theorem dX4_keepHit_8 : decode cX4_keepHit 8 = .ok (.iload_n 1, 1) := by decide +kernel
theorem dX4_keepHit_9 : decode cX4_keepHit 9 = .ok (.iastore, 1) := by decide +kernel
theorem dX4_keepHit_10 : decode cX4_keepHit 10 = .ok (.aload_n 0, 1) := by decide +kernel
theorem dX4_keepHit_11 : decode cX4_keepHit 11 = .ok (.getfield 38, 3) := by decide +kernel
theorem dX4_keepHit_14 : decode cX4_keepHit 14 = .ok (.aload_n 0, 1) := by decide +kernel
theorem dX4_keepHit_15 : decode cX4_keepHit 15 = .ok (.getfield 134, 3) := by decide +kernel
theorem dX4_keepHit_18 : decode cX4_keepHit 18 = .ok (.aload_n 0, 1) := by decide +kernel
theorem dX4_keepHit_19 : decode cX4_keepHit 19 = .ok (.getfield 99, 3) := by decide +kernel
theorem dX4_keepHit_22 : decode cX4_keepHit 22 = .ok (.iastore, 1) := by decide +kernel
theorem dX4_keepHit_23 : decode cX4_keepHit 23 = .ok (.aload_n 0, 1) := by decide +kernel
theorem dX4_keepHit_24 : decode cX4_keepHit 24 = .ok (.getfield 41, 3) := by decide +kernel
theorem dX4_keepHit_27 : decode cX4_keepHit 27 = .ok (.aload_n 0, 1) := by decide +kernel
theorem dX4_keepHit_28 : decode cX4_keepHit 28 = .ok (.getfield 134, 3) := by decide +kernel
theorem dX4_keepHit_31 : decode cX4_keepHit 31 = .ok (.aload_n 0, 1) := by decide +kernel
theorem dX4_keepHit_32 : decode cX4_keepHit 32 = .ok (.getfield 109, 3) := by decide +kernel
theorem dX4_keepHit_35 : decode cX4_keepHit 35 = .ok (.lastore, 1) := by decide +kernel
theorem dX4_keepHit_36 : decode cX4_keepHit 36 = .ok (.aload_n 0, 1) := by decide +kernel
theorem dX4_keepHit_37 : decode cX4_keepHit 37 = .ok (.getfield 45, 3) := by decide +kernel
theorem dX4_keepHit_40 : decode cX4_keepHit 40 = .ok (.aload_n 0, 1) := by decide +kernel
theorem dX4_keepHit_41 : decode cX4_keepHit 41 = .ok (.getfield 134, 3) := by decide +kernel
theorem dX4_keepHit_44 : decode cX4_keepHit 44 = .ok (.aload_n 0, 1) := by decide +kernel
theorem dX4_keepHit_45 : decode cX4_keepHit 45 = .ok (.getfield 106, 3) := by decide +kernel
theorem dX4_keepHit_48 : decode cX4_keepHit 48 = .ok (.lastore, 1) := by decide +kernel
theorem dX4_keepHit_49 : decode cX4_keepHit 49 = .ok (.iconst 0, 1) := by decide +kernel
theorem dX4_keepHit_50 : decode cX4_keepHit 50 = .ok (.istore_n 2, 1) := by decide +kernel
theorem dX4_keepHit_51 : decode cX4_keepHit 51 = .ok (.iload_n 2, 1) := by decide +kernel
theorem dX4_keepHit_52 : decode cX4_keepHit 52 = .ok (.iconst 3, 1) := by decide +kernel
theorem dX4_keepHit_53 : decode cX4_keepHit 53 = .ok (.if_icmp .ge 47, 3) := by decide +kernel
theorem dX4_keepHit_56 : decode cX4_keepHit 56 = .ok (.aload_n 0, 1) := by decide +kernel
theorem dX4_keepHit_57 : decode cX4_keepHit 57 = .ok (.getfield 48, 3) := by decide +kernel
theorem dX4_keepHit_60 : decode cX4_keepHit 60 = .ok (.iconst 3, 1) := by decide +kernel
theorem dX4_keepHit_61 : decode cX4_keepHit 61 = .ok (.aload_n 0, 1) := by decide +kernel
theorem dX4_keepHit_62 : decode cX4_keepHit 62 = .ok (.getfield 134, 3) := by decide +kernel
theorem dX4_keepHit_65 : decode cX4_keepHit 65 = .ok (.imul, 1) := by decide +kernel
theorem dX4_keepHit_66 : decode cX4_keepHit 66 = .ok (.iload_n 2, 1) := by decide +kernel
theorem dX4_keepHit_67 : decode cX4_keepHit 67 = .ok (.iadd, 1) := by decide +kernel
theorem dX4_keepHit_68 : decode cX4_keepHit 68 = .ok (.aload_n 0, 1) := by decide +kernel
theorem dX4_keepHit_69 : decode cX4_keepHit 69 = .ok (.getfield 23, 3) := by decide +kernel
theorem dX4_keepHit_72 : decode cX4_keepHit 72 = .ok (.iload_n 2, 1) := by decide +kernel
theorem dX4_keepHit_73 : decode cX4_keepHit 73 = .ok (.iaload, 1) := by decide +kernel
theorem dX4_keepHit_74 : decode cX4_keepHit 74 = .ok (.i2l, 1) := by decide +kernel
theorem dX4_keepHit_75 : decode cX4_keepHit 75 = .ok (.aload_n 0, 1) := by decide +kernel
theorem dX4_keepHit_76 : decode cX4_keepHit 76 = .ok (.getfield 106, 3) := by decide +kernel
theorem dX4_keepHit_79 : decode cX4_keepHit 79 = .ok (.lmul, 1) := by decide +kernel
theorem dX4_keepHit_80 : decode cX4_keepHit 80 = .ok (.aload_n 0, 1) := by decide +kernel
theorem dX4_keepHit_81 : decode cX4_keepHit 81 = .ok (.getfield 26, 3) := by decide +kernel
theorem dX4_keepHit_84 : decode cX4_keepHit 84 = .ok (.iload_n 2, 1) := by decide +kernel
theorem dX4_keepHit_85 : decode cX4_keepHit 85 = .ok (.iaload, 1) := by decide +kernel
theorem dX4_keepHit_86 : decode cX4_keepHit 86 = .ok (.i2l, 1) := by decide +kernel
theorem dX4_keepHit_87 : decode cX4_keepHit 87 = .ok (.aload_n 0, 1) := by decide +kernel
theorem dX4_keepHit_88 : decode cX4_keepHit 88 = .ok (.getfield 109, 3) := by decide +kernel
theorem dX4_keepHit_91 : decode cX4_keepHit 91 = .ok (.lmul, 1) := by decide +kernel
theorem dX4_keepHit_92 : decode cX4_keepHit 92 = .ok (.ladd, 1) := by decide +kernel
theorem dX4_keepHit_93 : decode cX4_keepHit 93 = .ok (.lastore, 1) := by decide +kernel
theorem dX4_keepHit_94 : decode cX4_keepHit 94 = .ok (.iinc 2 1, 3) := by decide +kernel
theorem dX4_keepHit_97 : decode cX4_keepHit 97 = .ok (.goto (-46), 3) := by decide +kernel
theorem dX4_keepHit_100 : decode cX4_keepHit 100 = .ok (.aload_n 0, 1) := by decide +kernel
theorem dX4_keepHit_101 : decode cX4_keepHit 101 = .ok (.dup, 1) := by decide +kernel
theorem dX4_keepHit_102 : decode cX4_keepHit 102 = .ok (.getfield 134, 3) := by decide +kernel
theorem dX4_keepHit_105 : decode cX4_keepHit 105 = .ok (.iconst 1, 1) := by decide +kernel
theorem dX4_keepHit_106 : decode cX4_keepHit 106 = .ok (.iadd, 1) := by decide +kernel
theorem dX4_keepHit_107 : decode cX4_keepHit 107 = .ok (.putfield 134, 3) := by decide +kernel
theorem dX4_keepHit_110 : decode cX4_keepHit 110 = .ok (.return_, 1) := by decide +kernel
theorem dX4_remember_0 : decode cX4_remember 0 = .ok (.aload_n 0, 1) := by decide +kernel
theorem dX4_remember_1 : decode cX4_remember 1 = .ok (.getfield 109, 3) := by decide +kernel
theorem dX4_remember_4 : decode cX4_remember 4 = .ok (.aload_n 0, 1) := by decide +kernel
theorem dX4_remember_5 : decode cX4_remember 5 = .ok (.getfield 122, 3) := by decide +kernel
theorem dX4_remember_8 : decode cX4_remember 8 = .ok (.lmul, 1) := by decide +kernel
theorem dX4_remember_9 : decode cX4_remember 9 = .ok (.aload_n 0, 1) := by decide +kernel
theorem dX4_remember_10 : decode cX4_remember 10 = .ok (.getfield 115, 3) := by decide +kernel
theorem dX4_remember_13 : decode cX4_remember 13 = .ok (.aload_n 0, 1) := by decide +kernel
theorem dX4_remember_14 : decode cX4_remember 14 = .ok (.getfield 106, 3) := by decide +kernel
theorem dX4_remember_17 : decode cX4_remember 17 = .ok (.lmul, 1) := by decide +kernel
theorem dX4_remember_18 : decode cX4_remember 18 = .ok (.lcmp, 1) := by decide +kernel
theorem dX4_remember_19 : decode cX4_remember 19 = .ok (.ifCond .le 7, 3) := by decide +kernel
theorem dX4_remember_22 : decode cX4_remember 22 = .ok (.iconst 1, 1) := by decide +kernel
theorem dX4_remember_23 : decode cX4_remember 23 = .ok (.goto 4, 3) := by decide +kernel
theorem dX4_remember_26 : decode cX4_remember 26 = .ok (.iconst 0, 1) := by decide +kernel
theorem dX4_remember_27 : decode cX4_remember 27 = .ok (.istore_n 1, 1) := by decide +kernel
theorem dX4_remember_28 : decode cX4_remember 28 = .ok (.iconst 0, 1) := by decide +kernel
theorem dX4_remember_29 : decode cX4_remember 29 = .ok (.istore_n 2, 1) := by decide +kernel
theorem dX4_remember_30 : decode cX4_remember 30 = .ok (.iload_n 2, 1) := by decide +kernel
theorem dX4_remember_31 : decode cX4_remember 31 = .ok (.iconst 3, 1) := by decide +kernel
theorem dX4_remember_32 : decode cX4_remember 32 = .ok (.if_icmp .ge 59, 3) := by decide +kernel
theorem dX4_remember_35 : decode cX4_remember 35 = .ok (.aload_n 0, 1) := by decide +kernel
theorem dX4_remember_36 : decode cX4_remember 36 = .ok (.getfield 29, 3) := by decide +kernel
theorem dX4_remember_39 : decode cX4_remember 39 = .ok (.iload_n 2, 1) := by decide +kernel
theorem dX4_remember_40 : decode cX4_remember 40 = .ok (.iload_n 1, 1) := by decide +kernel
theorem dX4_remember_41 : decode cX4_remember 41 = .ok (.ifCond .eq 12, 3) := by decide +kernel
theorem dX4_remember_44 : decode cX4_remember 44 = .ok (.aload_n 0, 1) := by decide +kernel
theorem dX4_remember_45 : decode cX4_remember 45 = .ok (.getfield 23, 3) := by decide +kernel
theorem dX4_remember_48 : decode cX4_remember 48 = .ok (.iload_n 2, 1) := by decide +kernel
theorem dX4_remember_49 : decode cX4_remember 49 = .ok (.iaload, 1) := by decide +kernel
theorem dX4_remember_50 : decode cX4_remember 50 = .ok (.goto 9, 3) := by decide +kernel
theorem dX4_remember_53 : decode cX4_remember 53 = .ok (.aload_n 0, 1) := by decide +kernel
theorem dX4_remember_54 : decode cX4_remember 54 = .ok (.getfield 29, 3) := by decide +kernel
theorem dX4_remember_57 : decode cX4_remember 57 = .ok (.iload_n 2, 1) := by decide +kernel
theorem dX4_remember_58 : decode cX4_remember 58 = .ok (.iaload, 1) := by decide +kernel
theorem dX4_remember_59 : decode cX4_remember 59 = .ok (.iastore, 1) := by decide +kernel
theorem dX4_remember_60 : decode cX4_remember 60 = .ok (.aload_n 0, 1) := by decide +kernel
theorem dX4_remember_61 : decode cX4_remember 61 = .ok (.getfield 32, 3) := by decide +kernel
theorem dX4_remember_64 : decode cX4_remember 64 = .ok (.iload_n 2, 1) := by decide +kernel
theorem dX4_remember_65 : decode cX4_remember 65 = .ok (.iload_n 1, 1) := by decide +kernel
theorem dX4_remember_66 : decode cX4_remember 66 = .ok (.ifCond .eq 12, 3) := by decide +kernel
theorem dX4_remember_69 : decode cX4_remember 69 = .ok (.aload_n 0, 1) := by decide +kernel
theorem dX4_remember_70 : decode cX4_remember 70 = .ok (.getfield 26, 3) := by decide +kernel
theorem dX4_remember_73 : decode cX4_remember 73 = .ok (.iload_n 2, 1) := by decide +kernel
theorem dX4_remember_74 : decode cX4_remember 74 = .ok (.iaload, 1) := by decide +kernel
theorem dX4_remember_75 : decode cX4_remember 75 = .ok (.goto 9, 3) := by decide +kernel
theorem dX4_remember_78 : decode cX4_remember 78 = .ok (.aload_n 0, 1) := by decide +kernel
theorem dX4_remember_79 : decode cX4_remember 79 = .ok (.getfield 32, 3) := by decide +kernel
theorem dX4_remember_82 : decode cX4_remember 82 = .ok (.iload_n 2, 1) := by decide +kernel
theorem dX4_remember_83 : decode cX4_remember 83 = .ok (.iaload, 1) := by decide +kernel
theorem dX4_remember_84 : decode cX4_remember 84 = .ok (.iastore, 1) := by decide +kernel
theorem dX4_remember_85 : decode cX4_remember 85 = .ok (.iinc 2 1, 3) := by decide +kernel
theorem dX4_remember_88 : decode cX4_remember 88 = .ok (.goto (-58), 3) := by decide +kernel
theorem dX4_remember_91 : decode cX4_remember 91 = .ok (.aload_n 0, 1) := by decide +kernel
theorem dX4_remember_92 : decode cX4_remember 92 = .ok (.aload_n 0, 1) := by decide +kernel
theorem dX4_remember_93 : decode cX4_remember 93 = .ok (.getfield 109, 3) := by decide +kernel
theorem dX4_remember_96 : decode cX4_remember 96 = .ok (.putfield 115, 3) := by decide +kernel
theorem dX4_remember_99 : decode cX4_remember 99 = .ok (.aload_n 0, 1) := by decide +kernel
theorem dX4_remember_100 : decode cX4_remember 100 = .ok (.aload_n 0, 1) := by decide +kernel
theorem dX4_remember_101 : decode cX4_remember 101 = .ok (.getfield 106, 3) := by decide +kernel
theorem dX4_remember_104 : decode cX4_remember 104 = .ok (.putfield 122, 3) := by decide +kernel
theorem dX4_remember_107 : decode cX4_remember 107 = .ok (.return_, 1) := by decide +kernel
theorem dX4_told_0 : decode cX4_told 0 = .ok (.aload_n 0, 1) := by decide +kernel
theorem dX4_told_1 : decode cX4_told 1 = .ok (.iload_n 1, 1) := by decide +kernel
theorem dX4_told_2 : decode cX4_told 2 = .ok (.iconst 0, 1) := by decide +kernel
theorem dX4_told_3 : decode cX4_told 3 = .ok (.iconst 4, 1) := by decide +kernel
theorem dX4_told_4 : decode cX4_told 4 = .ok (.invokestatic 82, 3) := by decide +kernel
theorem dX4_told_7 : decode cX4_told 7 = .ok (.ifCond .ne 7, 3) := by decide +kernel
theorem dX4_told_10 : decode cX4_told 10 = .ok (.iconst 1, 1) := by decide +kernel
theorem dX4_told_11 : decode cX4_told 11 = .ok (.goto 15, 3) := by decide +kernel
theorem dX4_told_14 : decode cX4_told 14 = .ok (.aload_n 0, 1) := by decide +kernel
theorem dX4_told_15 : decode cX4_told 15 = .ok (.getfield 163, 3) := by decide +kernel
theorem dX4_told_18 : decode cX4_told 18 = .ok (.ifCond .ne 7, 3) := by decide +kernel
theorem dX4_told_21 : decode cX4_told 21 = .ok (.iconst 2, 1) := by decide +kernel
theorem dX4_told_22 : decode cX4_told 22 = .ok (.goto 4, 3) := by decide +kernel
theorem dX4_told_25 : decode cX4_told 25 = .ok (.iconst 0, 1) := by decide +kernel
theorem dX4_told_26 : decode cX4_told 26 = .ok (.putfield 79, 3) := by decide +kernel
theorem dX4_told_29 : decode cX4_told 29 = .ok (.aload_n 0, 1) := by decide +kernel
theorem dX4_told_30 : decode cX4_told 30 = .ok (.getfield 79, 3) := by decide +kernel
theorem dX4_told_33 : decode cX4_told 33 = .ok (.ifCond .le 5, 3) := by decide +kernel
theorem dX4_told_36 : decode cX4_told 36 = .ok (.iconst 0, 1) := by decide +kernel
theorem dX4_told_37 : decode cX4_told 37 = .ok (.ireturn, 1) := by decide +kernel
theorem dX4_told_38 : decode cX4_told 38 = .ok (.iload_n 1, 1) := by decide +kernel
theorem dX4_told_39 : decode cX4_told 39 = .ok (.ifCond .ne 10, 3) := by decide +kernel
theorem dX4_told_42 : decode cX4_told 42 = .ok (.aload_n 0, 1) := by decide +kernel
theorem dX4_told_43 : decode cX4_told 43 = .ok (.getfield 167, 3) := by decide +kernel
theorem dX4_told_46 : decode cX4_told 46 = .ok (.goto 23, 3) := by decide +kernel
theorem dX4_told_49 : decode cX4_told 49 = .ok (.iload_n 1, 1) := by decide +kernel
theorem dX4_told_50 : decode cX4_told 50 = .ok (.iconst 1, 1) := by decide +kernel
theorem dX4_told_51 : decode cX4_told 51 = .ok (.if_icmp .ne 10, 3) := by decide +kernel
theorem dX4_told_54 : decode cX4_told 54 = .ok (.aload_n 0, 1) := by decide +kernel
theorem dX4_told_55 : decode cX4_told 55 = .ok (.getfield 170, 3) := by decide +kernel
theorem dX4_told_58 : decode cX4_told 58 = .ok (.goto 11, 3) := by decide +kernel
theorem dX4_told_61 : decode cX4_told 61 = .ok (.aload_n 0, 1) := by decide +kernel
theorem dX4_told_62 : decode cX4_told 62 = .ok (.getfield 51, 3) := by decide +kernel
theorem dX4_told_65 : decode cX4_told 65 = .ok (.iload_n 1, 1) := by decide +kernel
theorem dX4_told_66 : decode cX4_told 66 = .ok (.iconst 2, 1) := by decide +kernel
theorem dX4_told_67 : decode cX4_told 67 = .ok (.isub, 1) := by decide +kernel
theorem dX4_told_68 : decode cX4_told 68 = .ok (.iaload, 1) := by decide +kernel
theorem dX4_told_69 : decode cX4_told 69 = .ok (.ireturn, 1) := by decide +kernel
