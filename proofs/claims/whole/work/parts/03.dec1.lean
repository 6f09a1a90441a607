theorem dX2_crosses_0 : decode cX2_crosses 0 = .ok (.iconst 0, 1) := by decide +kernel
theorem dX2_crosses_1 : decode cX2_crosses 1 = .ok (.istore_n 3, 1) := by decide +kernel
theorem dX2_crosses_2 : decode cX2_crosses 2 = .ok (.iconst 0, 1) := by decide +kernel
theorem dX2_crosses_3 : decode cX2_crosses 3 = .ok (.istore 4, 2) := by decide +kernel
theorem dX2_crosses_5 : decode cX2_crosses 5 = .ok (.aload_n 0, 1) := by decide +kernel
theorem dX2_crosses_6 : decode cX2_crosses 6 = .ok (.getfield 46, 3) := by decide +kernel
theorem dX2_crosses_9 : decode cX2_crosses 9 = .ok (.iload_n 2, 1) := by decide +kernel
theorem dX2_crosses_10 : decode cX2_crosses 10 = .ok (.iconst (-1), 1) := by decide +kernel
theorem dX2_crosses_11 : decode cX2_crosses 11 = .ok (.iconst 0, 1) := by decide +kernel
theorem dX2_crosses_12 : decode cX2_crosses 12 = .ok (.iconst 1, 1) := by decide +kernel
theorem dX2_crosses_13 : decode cX2_crosses 13 = .ok (.invokevirtual 57, 3) := by decide +kernel
theorem dX2_crosses_16 : decode cX2_crosses 16 = .ok (.iconst 0, 1) := by decide +kernel
theorem dX2_crosses_17 : decode cX2_crosses 17 = .ok (.istore 5, 2) := by decide +kernel
theorem dX2_crosses_19 : decode cX2_crosses 19 = .ok (.iload 5, 2) := by decide +kernel
theorem dX2_crosses_21 : decode cX2_crosses 21 = .ok (.iconst 3, 1) := by decide +kernel
theorem dX2_crosses_22 : decode cX2_crosses 22 = .ok (.if_icmp .ge 192, 3) := by decide +kernel
theorem dX2_crosses_25 : decode cX2_crosses 25 = .ok (.aload_n 1, 1) := by decide +kernel
theorem dX2_crosses_26 : decode cX2_crosses 26 = .ok (.getfield 109, 3) := by decide +kernel
theorem dX2_crosses_29 : decode cX2_crosses 29 = .ok (.iload_n 2, 1) := by decide +kernel
theorem dX2_crosses_30 : decode cX2_crosses 30 = .ok (.iconst 3, 1) := by decide +kernel
theorem dX2_crosses_31 : decode cX2_crosses 31 = .ok (.imul, 1) := by decide +kernel
theorem dX2_crosses_32 : decode cX2_crosses 32 = .ok (.iload 5, 2) := by decide +kernel
theorem dX2_crosses_34 : decode cX2_crosses 34 = .ok (.iadd, 1) := by decide +kernel
theorem dX2_crosses_35 : decode cX2_crosses 35 = .ok (.iaload, 1) := by decide +kernel
theorem dX2_crosses_36 : decode cX2_crosses 36 = .ok (.aload_n 0, 1) := by decide +kernel
theorem dX2_crosses_37 : decode cX2_crosses 37 = .ok (.getfield 9, 3) := by decide +kernel
theorem dX2_crosses_40 : decode cX2_crosses 40 = .ok (.iload 5, 2) := by decide +kernel
theorem dX2_crosses_42 : decode cX2_crosses 42 = .ok (.iaload, 1) := by decide +kernel
theorem dX2_crosses_43 : decode cX2_crosses 43 = .ok (.isub, 1) := by decide +kernel
theorem dX2_crosses_44 : decode cX2_crosses 44 = .ok (.istore 6, 2) := by decide +kernel
theorem dX2_crosses_46 : decode cX2_crosses 46 = .ok (.aload_n 1, 1) := by decide +kernel
theorem dX2_crosses_47 : decode cX2_crosses 47 = .ok (.getfield 112, 3) := by decide +kernel
theorem dX2_crosses_50 : decode cX2_crosses 50 = .ok (.iload_n 2, 1) := by decide +kernel
theorem dX2_crosses_51 : decode cX2_crosses 51 = .ok (.iconst 3, 1) := by decide +kernel
theorem dX2_crosses_52 : decode cX2_crosses 52 = .ok (.imul, 1) := by decide +kernel
theorem dX2_crosses_53 : decode cX2_crosses 53 = .ok (.iload 5, 2) := by decide +kernel
theorem dX2_crosses_55 : decode cX2_crosses 55 = .ok (.iadd, 1) := by decide +kernel
theorem dX2_crosses_56 : decode cX2_crosses 56 = .ok (.iaload, 1) := by decide +kernel
theorem dX2_crosses_57 : decode cX2_crosses 57 = .ok (.aload_n 0, 1) := by decide +kernel
theorem dX2_crosses_58 : decode cX2_crosses 58 = .ok (.getfield 9, 3) := by decide +kernel
theorem dX2_crosses_61 : decode cX2_crosses 61 = .ok (.iload 5, 2) := by decide +kernel
theorem dX2_crosses_63 : decode cX2_crosses 63 = .ok (.iaload, 1) := by decide +kernel
theorem dX2_crosses_64 : decode cX2_crosses 64 = .ok (.isub, 1) := by decide +kernel
theorem dX2_crosses_65 : decode cX2_crosses 65 = .ok (.istore 7, 2) := by decide +kernel
theorem dX2_crosses_67 : decode cX2_crosses 67 = .ok (.aload_n 0, 1) := by decide +kernel
theorem dX2_crosses_68 : decode cX2_crosses 68 = .ok (.getfield 15, 3) := by decide +kernel
theorem dX2_crosses_71 : decode cX2_crosses 71 = .ok (.iload 5, 2) := by decide +kernel
theorem dX2_crosses_73 : decode cX2_crosses 73 = .ok (.iaload, 1) := by decide +kernel
theorem dX2_crosses_74 : decode cX2_crosses 74 = .ok (.invokestatic 115, 3) := by decide +kernel
theorem dX2_crosses_77 : decode cX2_crosses 77 = .ok (.istore 8, 2) := by decide +kernel
theorem dX2_crosses_79 : decode cX2_crosses 79 = .ok (.iload 8, 2) := by decide +kernel
theorem dX2_crosses_81 : decode cX2_crosses 81 = .ok (.ifCond .ne 15, 3) := by decide +kernel
theorem dX2_crosses_84 : decode cX2_crosses 84 = .ok (.iload 6, 2) := by decide +kernel
theorem dX2_crosses_86 : decode cX2_crosses 86 = .ok (.ifCond .ge 8, 3) := by decide +kernel
theorem dX2_crosses_89 : decode cX2_crosses 89 = .ok (.iload 7, 2) := by decide +kernel
theorem dX2_crosses_91 : decode cX2_crosses 91 = .ok (.ifCond .gt 117, 3) := by decide +kernel
theorem dX2_crosses_94 : decode cX2_crosses 94 = .ok (.iconst 0, 1) := by decide +kernel
theorem dX2_crosses_95 : decode cX2_crosses 95 = .ok (.ireturn, 1) := by decide +kernel
theorem dX2_crosses_96 : decode cX2_crosses 96 = .ok (.aload_n 0, 1) := by decide +kernel
theorem dX2_crosses_97 : decode cX2_crosses 97 = .ok (.getfield 15, 3) := by decide +kernel
theorem dX2_crosses_100 : decode cX2_crosses 100 = .ok (.iload 5, 2) := by decide +kernel
theorem dX2_crosses_102 : decode cX2_crosses 102 = .ok (.iaload, 1) := by decide +kernel
theorem dX2_crosses_103 : decode cX2_crosses 103 = .ok (.ifCond .le 8, 3) := by decide +kernel
theorem dX2_crosses_106 : decode cX2_crosses 106 = .ok (.iload 6, 2) := by decide +kernel
theorem dX2_crosses_108 : decode cX2_crosses 108 = .ok (.goto 6, 3) := by decide +kernel
theorem dX2_crosses_111 : decode cX2_crosses 111 = .ok (.iload 7, 2) := by decide +kernel
theorem dX2_crosses_113 : decode cX2_crosses 113 = .ok (.ineg, 1) := by decide +kernel
theorem dX2_crosses_114 : decode cX2_crosses 114 = .ok (.istore 9, 2) := by decide +kernel
theorem dX2_crosses_116 : decode cX2_crosses 116 = .ok (.aload_n 0, 1) := by decide +kernel
theorem dX2_crosses_117 : decode cX2_crosses 117 = .ok (.getfield 15, 3) := by decide +kernel
theorem dX2_crosses_120 : decode cX2_crosses 120 = .ok (.iload 5, 2) := by decide +kernel
theorem dX2_crosses_122 : decode cX2_crosses 122 = .ok (.iaload, 1) := by decide +kernel
theorem dX2_crosses_123 : decode cX2_crosses 123 = .ok (.ifCond .le 8, 3) := by decide +kernel
theorem dX2_crosses_126 : decode cX2_crosses 126 = .ok (.iload 7, 2) := by decide +kernel
theorem dX2_crosses_128 : decode cX2_crosses 128 = .ok (.goto 6, 3) := by decide +kernel
theorem dX2_crosses_131 : decode cX2_crosses 131 = .ok (.iload 6, 2) := by decide +kernel
theorem dX2_crosses_133 : decode cX2_crosses 133 = .ok (.ineg, 1) := by decide +kernel
theorem dX2_crosses_134 : decode cX2_crosses 134 = .ok (.istore 10, 2) := by decide +kernel
theorem dX2_crosses_136 : decode cX2_crosses 136 = .ok (.aload_n 0, 1) := by decide +kernel
theorem dX2_crosses_137 : decode cX2_crosses 137 = .ok (.getfield 46, 3) := by decide +kernel
theorem dX2_crosses_140 : decode cX2_crosses 140 = .ok (.getfield 121, 3) := by decide +kernel
theorem dX2_crosses_143 : decode cX2_crosses 143 = .ok (.iconst (-1), 1) := by decide +kernel
theorem dX2_crosses_144 : decode cX2_crosses 144 = .ok (.if_icmp .eq 26, 3) := by decide +kernel
theorem dX2_crosses_147 : decode cX2_crosses 147 = .ok (.iload 9, 2) := by decide +kernel
theorem dX2_crosses_149 : decode cX2_crosses 149 = .ok (.aload_n 0, 1) := by decide +kernel
theorem dX2_crosses_150 : decode cX2_crosses 150 = .ok (.getfield 46, 3) := by decide +kernel
theorem dX2_crosses_153 : decode cX2_crosses 153 = .ok (.getfield 124, 3) := by decide +kernel
theorem dX2_crosses_156 : decode cX2_crosses 156 = .ok (.imul, 1) := by decide +kernel
theorem dX2_crosses_157 : decode cX2_crosses 157 = .ok (.aload_n 0, 1) := by decide +kernel
theorem dX2_crosses_158 : decode cX2_crosses 158 = .ok (.getfield 46, 3) := by decide +kernel
theorem dX2_crosses_161 : decode cX2_crosses 161 = .ok (.getfield 127, 3) := by decide +kernel
theorem dX2_crosses_164 : decode cX2_crosses 164 = .ok (.iload 8, 2) := by decide +kernel
theorem dX2_crosses_166 : decode cX2_crosses 166 = .ok (.imul, 1) := by decide +kernel
theorem dX2_crosses_167 : decode cX2_crosses 167 = .ok (.if_icmp .le 17, 3) := by decide +kernel
theorem dX2_crosses_170 : decode cX2_crosses 170 = .ok (.aload_n 0, 1) := by decide +kernel
theorem dX2_crosses_171 : decode cX2_crosses 171 = .ok (.getfield 46, 3) := by decide +kernel
theorem dX2_crosses_174 : decode cX2_crosses 174 = .ok (.iload_n 2, 1) := by decide +kernel
theorem dX2_crosses_175 : decode cX2_crosses 175 = .ok (.iload 5, 2) := by decide +kernel
theorem dX2_crosses_177 : decode cX2_crosses 177 = .ok (.iload 9, 2) := by decide +kernel
theorem dX2_crosses_179 : decode cX2_crosses 179 = .ok (.iload 8, 2) := by decide +kernel
theorem dX2_crosses_181 : decode cX2_crosses 181 = .ok (.invokevirtual 57, 3) := by decide +kernel
theorem dX2_crosses_184 : decode cX2_crosses 184 = .ok (.iload 4, 2) := by decide +kernel
theorem dX2_crosses_186 : decode cX2_crosses 186 = .ok (.ifCond .eq 15, 3) := by decide +kernel
theorem dX2_crosses_189 : decode cX2_crosses 189 = .ok (.iload 10, 2) := by decide +kernel
theorem dX2_crosses_191 : decode cX2_crosses 191 = .ok (.iload 4, 2) := by decide +kernel
theorem dX2_crosses_193 : decode cX2_crosses 193 = .ok (.imul, 1) := by decide +kernel
theorem dX2_crosses_194 : decode cX2_crosses 194 = .ok (.iload_n 3, 1) := by decide +kernel
theorem dX2_crosses_195 : decode cX2_crosses 195 = .ok (.iload 8, 2) := by decide +kernel
theorem dX2_crosses_197 : decode cX2_crosses 197 = .ok (.imul, 1) := by decide +kernel
theorem dX2_crosses_198 : decode cX2_crosses 198 = .ok (.if_icmp .ge 10, 3) := by decide +kernel
theorem dX2_crosses_201 : decode cX2_crosses 201 = .ok (.iload 10, 2) := by decide +kernel
theorem dX2_crosses_203 : decode cX2_crosses 203 = .ok (.istore_n 3, 1) := by decide +kernel
theorem dX2_crosses_204 : decode cX2_crosses 204 = .ok (.iload 8, 2) := by decide +kernel
theorem dX2_crosses_206 : decode cX2_crosses 206 = .ok (.istore 4, 2) := by decide +kernel
theorem dX2_crosses_208 : decode cX2_crosses 208 = .ok (.iinc 5 1, 3) := by decide +kernel
theorem dX2_crosses_211 : decode cX2_crosses 211 = .ok (.goto (-192), 3) := by decide +kernel
theorem dX2_crosses_214 : decode cX2_crosses 214 = .ok (.aload_n 0, 1) := by decide +kernel
theorem dX2_crosses_215 : decode cX2_crosses 215 = .ok (.getfield 46, 3) := by decide +kernel
theorem dX2_crosses_218 : decode cX2_crosses 218 = .ok (.getfield 121, 3) := by decide +kernel
theorem dX2_crosses_221 : decode cX2_crosses 221 = .ok (.iconst (-1), 1) := by decide +kernel
theorem dX2_crosses_222 : decode cX2_crosses 222 = .ok (.if_icmp .eq 29, 3) := by decide +kernel
theorem dX2_crosses_225 : decode cX2_crosses 225 = .ok (.aload_n 0, 1) := by decide +kernel
theorem dX2_crosses_226 : decode cX2_crosses 226 = .ok (.getfield 46, 3) := by decide +kernel
theorem dX2_crosses_229 : decode cX2_crosses 229 = .ok (.getfield 127, 3) := by decide +kernel
theorem dX2_crosses_232 : decode cX2_crosses 232 = .ok (.iload 4, 2) := by decide +kernel
theorem dX2_crosses_234 : decode cX2_crosses 234 = .ok (.imul, 1) := by decide +kernel
theorem dX2_crosses_235 : decode cX2_crosses 235 = .ok (.iload_n 3, 1) := by decide +kernel
theorem dX2_crosses_236 : decode cX2_crosses 236 = .ok (.aload_n 0, 1) := by decide +kernel
theorem dX2_crosses_237 : decode cX2_crosses 237 = .ok (.getfield 46, 3) := by decide +kernel
theorem dX2_crosses_240 : decode cX2_crosses 240 = .ok (.getfield 124, 3) := by decide +kernel
theorem dX2_crosses_243 : decode cX2_crosses 243 = .ok (.imul, 1) := by decide +kernel
theorem dX2_crosses_244 : decode cX2_crosses 244 = .ok (.if_icmp .ge 7, 3) := by decide +kernel
theorem dX2_crosses_247 : decode cX2_crosses 247 = .ok (.iconst 1, 1) := by decide +kernel
theorem dX2_crosses_248 : decode cX2_crosses 248 = .ok (.goto 4, 3) := by decide +kernel
theorem dX2_crosses_251 : decode cX2_crosses 251 = .ok (.iconst 0, 1) := by decide +kernel
theorem dX2_crosses_252 : decode cX2_crosses 252 = .ok (.ireturn, 1) := by decide +kernel
theorem dJM_abs_0 : decode cJM_abs 0 = .ok (.iload_n 0, 1) := by decide +kernel
theorem dJM_abs_1 : decode cJM_abs 1 = .ok (.ifCond .ge 8, 3) := by decide +kernel
theorem dJM_abs_4 : decode cJM_abs 4 = .ok (.iload_n 0, 1) := by decide +kernel
theorem dJM_abs_5 : decode cJM_abs 5 = .ok (.ineg, 1) := by decide +kernel
theorem dJM_abs_6 : decode cJM_abs 6 = .ok (.goto 4, 3) := by decide +kernel
theorem dJM_abs_9 : decode cJM_abs 9 = .ok (.iload_n 0, 1) := by decide +kernel
theorem dJM_abs_10 : decode cJM_abs 10 = .ok (.ireturn, 1) := by decide +kernel
theorem dX2_countsNow_0 : decode cX2_countsNow 0 = .ok (.aload_n 0, 1) := by decide +kernel
theorem dX2_countsNow_1 : decode cX2_countsNow 1 = .ok (.getfield 46, 3) := by decide +kernel
theorem dX2_countsNow_4 : decode cX2_countsNow 4 = .ok (.aload_n 0, 1) := by decide +kernel
theorem dX2_countsNow_5 : decode cX2_countsNow 5 = .ok (.getfield 39, 3) := by decide +kernel
theorem dX2_countsNow_8 : decode cX2_countsNow 8 = .ok (.invokevirtual 101, 3) := by decide +kernel
theorem dX2_countsNow_11 : decode cX2_countsNow 11 = .ok (.istore_n 2, 1) := by decide +kernel
theorem dX2_countsNow_12 : decode cX2_countsNow 12 = .ok (.iload_n 2, 1) := by decide +kernel
theorem dX2_countsNow_13 : decode cX2_countsNow 13 = .ok (.ifCond .eq 13, 3) := by decide +kernel
theorem dX2_countsNow_16 : decode cX2_countsNow 16 = .ok (.iload_n 2, 1) := by decide +kernel
theorem dX2_countsNow_17 : decode cX2_countsNow 17 = .ok (.ifCond .le 7, 3) := by decide +kernel
theorem dX2_countsNow_20 : decode cX2_countsNow 20 = .ok (.iconst 1, 1) := by decide +kernel
theorem dX2_countsNow_21 : decode cX2_countsNow 21 = .ok (.goto 4, 3) := by decide +kernel
theorem dX2_countsNow_24 : decode cX2_countsNow 24 = .ok (.iconst 0, 1) := by decide +kernel
theorem dX2_countsNow_25 : decode cX2_countsNow 25 = .ok (.ireturn, 1) := by decide +kernel
theorem dX2_countsNow_26 : decode cX2_countsNow 26 = .ok (.aload_n 0, 1) := by decide +kernel
theorem dX2_countsNow_27 : decode cX2_countsNow 27 = .ok (.getfield 46, 3) := by decide +kernel
theorem dX2_countsNow_30 : decode cX2_countsNow 30 = .ok (.getfield 77, 3) := by decide +kernel
theorem dX2_countsNow_33 : decode cX2_countsNow 33 = .ok (.aload_n 0, 1) := by decide +kernel
theorem dX2_countsNow_34 : decode cX2_countsNow 34 = .ok (.getfield 39, 3) := by decide +kernel
theorem dX2_countsNow_37 : decode cX2_countsNow 37 = .ok (.getfield 77, 3) := by decide +kernel
theorem dX2_countsNow_40 : decode cX2_countsNow 40 = .ok (.if_icmp .le 22, 3) := by decide +kernel
theorem dX2_countsNow_43 : decode cX2_countsNow 43 = .ok (.aload_n 0, 1) := by decide +kernel
theorem dX2_countsNow_44 : decode cX2_countsNow 44 = .ok (.aload_n 1, 1) := by decide +kernel
theorem dX2_countsNow_45 : decode cX2_countsNow 45 = .ok (.aload_n 0, 1) := by decide +kernel
theorem dX2_countsNow_46 : decode cX2_countsNow 46 = .ok (.getfield 46, 3) := by decide +kernel
theorem dX2_countsNow_49 : decode cX2_countsNow 49 = .ok (.getfield 77, 3) := by decide +kernel
theorem dX2_countsNow_52 : decode cX2_countsNow 52 = .ok (.invokevirtual 130, 3) := by decide +kernel
theorem dX2_countsNow_55 : decode cX2_countsNow 55 = .ok (.ifCond .ne 7, 3) := by decide +kernel
theorem dX2_countsNow_58 : decode cX2_countsNow 58 = .ok (.iconst 1, 1) := by decide +kernel
theorem dX2_countsNow_59 : decode cX2_countsNow 59 = .ok (.goto 4, 3) := by decide +kernel
theorem dX2_countsNow_62 : decode cX2_countsNow 62 = .ok (.iconst 0, 1) := by decide +kernel
theorem dX2_countsNow_63 : decode cX2_countsNow 63 = .ok (.ireturn, 1) := by decide +kernel
theorem dX1_compareTime_0 : decode cX1_compareTime 0 = .ok (.aload_n 0, 1) := by decide +kernel
theorem dX1_compareTime_1 : decode cX1_compareTime 1 = .ok (.getfield 16, 3) := by decide +kernel
theorem dX1_compareTime_4 : decode cX1_compareTime 4 = .ok (.aload_n 1, 1) := by decide +kernel
theorem dX1_compareTime_5 : decode cX1_compareTime 5 = .ok (.getfield 19, 3) := by decide +kernel
theorem dX1_compareTime_8 : decode cX1_compareTime 8 = .ok (.imul, 1) := by decide +kernel
theorem dX1_compareTime_9 : decode cX1_compareTime 9 = .ok (.aload_n 1, 1) := by decide +kernel
theorem dX1_compareTime_10 : decode cX1_compareTime 10 = .ok (.getfield 16, 3) := by decide +kernel
theorem dX1_compareTime_13 : decode cX1_compareTime 13 = .ok (.aload_n 0, 1) := by decide +kernel
theorem dX1_compareTime_14 : decode cX1_compareTime 14 = .ok (.getfield 19, 3) := by decide +kernel
theorem dX1_compareTime_17 : decode cX1_compareTime 17 = .ok (.imul, 1) := by decide +kernel
theorem dX1_compareTime_18 : decode cX1_compareTime 18 = .ok (.invokestatic 26, 3) := by decide +kernel
theorem dX1_compareTime_21 : decode cX1_compareTime 21 = .ok (.ireturn, 1) := by decide +kernel
theorem dJI_compare_0 : decode cJI_compare 0 = .ok (.iload_n 0, 1) := by decide +kernel
theorem dJI_compare_1 : decode cJI_compare 1 = .ok (.iload_n 1, 1) := by decide +kernel
theorem dJI_compare_2 : decode cJI_compare 2 = .ok (.if_icmp .ge 7, 3) := by decide +kernel
theorem dJI_compare_5 : decode cJI_compare 5 = .ok (.iconst (-1), 1) := by decide +kernel
theorem dJI_compare_6 : decode cJI_compare 6 = .ok (.goto 13, 3) := by decide +kernel
theorem dJI_compare_9 : decode cJI_compare 9 = .ok (.iload_n 0, 1) := by decide +kernel
theorem dJI_compare_10 : decode cJI_compare 10 = .ok (.iload_n 1, 1) := by decide +kernel
theorem dJI_compare_11 : decode cJI_compare 11 = .ok (.if_icmp .ne 7, 3) := by decide +kernel
theorem dJI_compare_14 : decode cJI_compare 14 = .ok (.iconst 0, 1) := by decide +kernel
theorem dJI_compare_15 : decode cJI_compare 15 = .ok (.goto 4, 3) := by decide +kernel
theorem dJI_compare_18 : decode cJI_compare 18 = .ok (.iconst 1, 1) := by decide +kernel
theorem dJI_compare_19 : decode cJI_compare 19 = .ok (.ireturn, 1) := by decide +kernel
theorem dX2_cameInside_0 : decode cX2_cameInside 0 = .ok (.aload_n 0, 1) := by decide +kernel
theorem dX2_cameInside_1 : decode cX2_cameInside 1 = .ok (.getfield 39, 3) := by decide +kernel
theorem dX2_cameInside_4 : decode cX2_cameInside 4 = .ok (.getfield 127, 3) := by decide +kernel
theorem dX2_cameInside_7 : decode cX2_cameInside 7 = .ok (.ifCond .ne 5, 3) := by decide +kernel
theorem dX2_cameInside_10 : decode cX2_cameInside 10 = .ok (.iconst 0, 1) := by decide +kernel
theorem dX2_cameInside_11 : decode cX2_cameInside 11 = .ok (.ireturn, 1) := by decide +kernel
theorem dX2_cameInside_12 : decode cX2_cameInside 12 = .ok (.iconst 0, 1) := by decide +kernel
theorem dX2_cameInside_13 : decode cX2_cameInside 13 = .ok (.istore_n 3, 1) := by decide +kernel
theorem dX2_cameInside_14 : decode cX2_cameInside 14 = .ok (.iload_n 3, 1) := by decide +kernel
theorem dX2_cameInside_15 : decode cX2_cameInside 15 = .ok (.iconst 3, 1) := by decide +kernel
theorem dX2_cameInside_16 : decode cX2_cameInside 16 = .ok (.if_icmp .ge 128, 3) := by decide +kernel
theorem dX2_cameInside_19 : decode cX2_cameInside 19 = .ok (.aload_n 0, 1) := by decide +kernel
theorem dX2_cameInside_20 : decode cX2_cameInside 20 = .ok (.iload_n 3, 1) := by decide +kernel
theorem dX2_cameInside_21 : decode cX2_cameInside 21 = .ok (.invokevirtual 133, 3) := by decide +kernel
theorem dX2_cameInside_24 : decode cX2_cameInside 24 = .ok (.istore 4, 2) := by decide +kernel
theorem dX2_cameInside_26 : decode cX2_cameInside 26 = .ok (.aload_n 1, 1) := by decide +kernel
theorem dX2_cameInside_27 : decode cX2_cameInside 27 = .ok (.getfield 109, 3) := by decide +kernel
theorem dX2_cameInside_30 : decode cX2_cameInside 30 = .ok (.iload_n 2, 1) := by decide +kernel
theorem dX2_cameInside_31 : decode cX2_cameInside 31 = .ok (.iconst 3, 1) := by decide +kernel
theorem dX2_cameInside_32 : decode cX2_cameInside 32 = .ok (.imul, 1) := by decide +kernel
theorem dX2_cameInside_33 : decode cX2_cameInside 33 = .ok (.iload_n 3, 1) := by decide +kernel
theorem dX2_cameInside_34 : decode cX2_cameInside 34 = .ok (.iadd, 1) := by decide +kernel
theorem dX2_cameInside_35 : decode cX2_cameInside 35 = .ok (.iaload, 1) := by decide +kernel
theorem dX2_cameInside_36 : decode cX2_cameInside 36 = .ok (.aload_n 0, 1) := by decide +kernel
theorem dX2_cameInside_37 : decode cX2_cameInside 37 = .ok (.getfield 39, 3) := by decide +kernel
theorem dX2_cameInside_40 : decode cX2_cameInside 40 = .ok (.getfield 124, 3) := by decide +kernel
theorem dX2_cameInside_43 : decode cX2_cameInside 43 = .ok (.imul, 1) := by decide +kernel
theorem dX2_cameInside_44 : decode cX2_cameInside 44 = .ok (.istore 5, 2) := by decide +kernel
theorem dX2_cameInside_46 : decode cX2_cameInside 46 = .ok (.aload_n 1, 1) := by decide +kernel
theorem dX2_cameInside_47 : decode cX2_cameInside 47 = .ok (.getfield 112, 3) := by decide +kernel
theorem dX2_cameInside_50 : decode cX2_cameInside 50 = .ok (.iload_n 2, 1) := by decide +kernel
theorem dX2_cameInside_51 : decode cX2_cameInside 51 = .ok (.iconst 3, 1) := by decide +kernel
theorem dX2_cameInside_52 : decode cX2_cameInside 52 = .ok (.imul, 1) := by decide +kernel
theorem dX2_cameInside_53 : decode cX2_cameInside 53 = .ok (.iload_n 3, 1) := by decide +kernel
theorem dX2_cameInside_54 : decode cX2_cameInside 54 = .ok (.iadd, 1) := by decide +kernel
theorem dX2_cameInside_55 : decode cX2_cameInside 55 = .ok (.iaload, 1) := by decide +kernel
theorem dX2_cameInside_56 : decode cX2_cameInside 56 = .ok (.aload_n 0, 1) := by decide +kernel
theorem dX2_cameInside_57 : decode cX2_cameInside 57 = .ok (.getfield 39, 3) := by decide +kernel
theorem dX2_cameInside_60 : decode cX2_cameInside 60 = .ok (.getfield 124, 3) := by decide +kernel
theorem dX2_cameInside_63 : decode cX2_cameInside 63 = .ok (.imul, 1) := by decide +kernel
theorem dX2_cameInside_64 : decode cX2_cameInside 64 = .ok (.istore 6, 2) := by decide +kernel
theorem dX2_cameInside_66 : decode cX2_cameInside 66 = .ok (.iload 4, 2) := by decide +kernel
theorem dX2_cameInside_68 : decode cX2_cameInside 68 = .ok (.iload 5, 2) := by decide +kernel
theorem dX2_cameInside_70 : decode cX2_cameInside 70 = .ok (.if_icmp .gt 19, 3) := by decide +kernel
theorem dX2_cameInside_73 : decode cX2_cameInside 73 = .ok (.iload 4, 2) := by decide +kernel
theorem dX2_cameInside_75 : decode cX2_cameInside 75 = .ok (.iload 5, 2) := by decide +kernel
theorem dX2_cameInside_77 : decode cX2_cameInside 77 = .ok (.if_icmp .ne 16, 3) := by decide +kernel
theorem dX2_cameInside_80 : decode cX2_cameInside 80 = .ok (.aload_n 0, 1) := by decide +kernel
theorem dX2_cameInside_81 : decode cX2_cameInside 81 = .ok (.getfield 18, 3) := by decide +kernel
theorem dX2_cameInside_84 : decode cX2_cameInside 84 = .ok (.iload_n 3, 1) := by decide +kernel
theorem dX2_cameInside_85 : decode cX2_cameInside 85 = .ok (.iaload, 1) := by decide +kernel
theorem dX2_cameInside_86 : decode cX2_cameInside 86 = .ok (.ifCond .ge 7, 3) := by decide +kernel
theorem dX2_cameInside_89 : decode cX2_cameInside 89 = .ok (.iconst 1, 1) := by decide +kernel
theorem dX2_cameInside_90 : decode cX2_cameInside 90 = .ok (.goto 4, 3) := by decide +kernel
theorem dX2_cameInside_93 : decode cX2_cameInside 93 = .ok (.iconst 0, 1) := by decide +kernel
theorem dX2_cameInside_94 : decode cX2_cameInside 94 = .ok (.istore 7, 2) := by decide +kernel
theorem dX2_cameInside_96 : decode cX2_cameInside 96 = .ok (.iload 4, 2) := by decide +kernel
theorem dX2_cameInside_98 : decode cX2_cameInside 98 = .ok (.iload 6, 2) := by decide +kernel
theorem dX2_cameInside_100 : decode cX2_cameInside 100 = .ok (.if_icmp .lt 19, 3) := by decide +kernel
theorem dX2_cameInside_103 : decode cX2_cameInside 103 = .ok (.iload 4, 2) := by decide +kernel
theorem dX2_cameInside_105 : decode cX2_cameInside 105 = .ok (.iload 6, 2) := by decide +kernel
theorem dX2_cameInside_107 : decode cX2_cameInside 107 = .ok (.if_icmp .ne 16, 3) := by decide +kernel
theorem dX2_cameInside_110 : decode cX2_cameInside 110 = .ok (.aload_n 0, 1) := by decide +kernel
theorem dX2_cameInside_111 : decode cX2_cameInside 111 = .ok (.getfield 18, 3) := by decide +kernel
theorem dX2_cameInside_114 : decode cX2_cameInside 114 = .ok (.iload_n 3, 1) := by decide +kernel
theorem dX2_cameInside_115 : decode cX2_cameInside 115 = .ok (.iaload, 1) := by decide +kernel
theorem dX2_cameInside_116 : decode cX2_cameInside 116 = .ok (.ifCond .le 7, 3) := by decide +kernel
theorem dX2_cameInside_119 : decode cX2_cameInside 119 = .ok (.iconst 1, 1) := by decide +kernel
theorem dX2_cameInside_120 : decode cX2_cameInside 120 = .ok (.goto 4, 3) := by decide +kernel
theorem dX2_cameInside_123 : decode cX2_cameInside 123 = .ok (.iconst 0, 1) := by decide +kernel
theorem dX2_cameInside_124 : decode cX2_cameInside 124 = .ok (.istore 8, 2) := by decide +kernel
theorem dX2_cameInside_126 : decode cX2_cameInside 126 = .ok (.iload 7, 2) := by decide +kernel
theorem dX2_cameInside_128 : decode cX2_cameInside 128 = .ok (.ifCond .eq 8, 3) := by decide +kernel
theorem dX2_cameInside_131 : decode cX2_cameInside 131 = .ok (.iload 8, 2) := by decide +kernel
theorem dX2_cameInside_133 : decode cX2_cameInside 133 = .ok (.ifCond .ne 5, 3) := by decide +kernel
theorem dX2_cameInside_136 : decode cX2_cameInside 136 = .ok (.iconst 0, 1) := by decide +kernel
theorem dX2_cameInside_137 : decode cX2_cameInside 137 = .ok (.ireturn, 1) := by decide +kernel
theorem dX2_cameInside_138 : decode cX2_cameInside 138 = .ok (.iinc 3 1, 3) := by decide +kernel
theorem dX2_cameInside_141 : decode cX2_cameInside 141 = .ok (.goto (-127), 3) := by decide +kernel
theorem dX2_cameInside_144 : decode cX2_cameInside 144 = .ok (.iconst 1, 1) := by decide +kernel
theorem dX2_cameInside_145 : decode cX2_cameInside 145 = .ok (.ireturn, 1) := by decide +kernel
theorem dX2_spotAtLatest_0 : decode cX2_spotAtLatest 0 = .ok (.aload_n 0, 1) := by decide +kernel
theorem dX2_spotAtLatest_1 : decode cX2_spotAtLatest 1 = .ok (.getfield 9, 3) := by decide +kernel
theorem dX2_spotAtLatest_4 : decode cX2_spotAtLatest 4 = .ok (.iload_n 1, 1) := by decide +kernel
theorem dX2_spotAtLatest_5 : decode cX2_spotAtLatest 5 = .ok (.iaload, 1) := by decide +kernel
theorem dX2_spotAtLatest_6 : decode cX2_spotAtLatest 6 = .ok (.aload_n 0, 1) := by decide +kernel
theorem dX2_spotAtLatest_7 : decode cX2_spotAtLatest 7 = .ok (.getfield 39, 3) := by decide +kernel
theorem dX2_spotAtLatest_10 : decode cX2_spotAtLatest 10 = .ok (.getfield 124, 3) := by decide +kernel
theorem dX2_spotAtLatest_13 : decode cX2_spotAtLatest 13 = .ok (.imul, 1) := by decide +kernel
theorem dX2_spotAtLatest_14 : decode cX2_spotAtLatest 14 = .ok (.aload_n 0, 1) := by decide +kernel
theorem dX2_spotAtLatest_15 : decode cX2_spotAtLatest 15 = .ok (.getfield 15, 3) := by decide +kernel
theorem dX2_spotAtLatest_18 : decode cX2_spotAtLatest 18 = .ok (.iload_n 1, 1) := by decide +kernel
theorem dX2_spotAtLatest_19 : decode cX2_spotAtLatest 19 = .ok (.iaload, 1) := by decide +kernel
theorem dX2_spotAtLatest_20 : decode cX2_spotAtLatest 20 = .ok (.aload_n 0, 1) := by decide +kernel
theorem dX2_spotAtLatest_21 : decode cX2_spotAtLatest 21 = .ok (.getfield 39, 3) := by decide +kernel
theorem dX2_spotAtLatest_24 : decode cX2_spotAtLatest 24 = .ok (.getfield 127, 3) := by decide +kernel
theorem dX2_spotAtLatest_27 : decode cX2_spotAtLatest 27 = .ok (.imul, 1) := by decide +kernel
theorem dX2_spotAtLatest_28 : decode cX2_spotAtLatest 28 = .ok (.iadd, 1) := by decide +kernel
theorem dX2_spotAtLatest_29 : decode cX2_spotAtLatest 29 = .ok (.ireturn, 1) := by decide +kernel
theorem dX1_copy_0 : decode cX1_copy 0 = .ok (.aload_n 0, 1) := by decide +kernel
theorem dX1_copy_1 : decode cX1_copy 1 = .ok (.aload_n 1, 1) := by decide +kernel
theorem dX1_copy_2 : decode cX1_copy 2 = .ok (.getfield 7, 3) := by decide +kernel
theorem dX1_copy_5 : decode cX1_copy 5 = .ok (.aload_n 1, 1) := by decide +kernel
theorem dX1_copy_6 : decode cX1_copy 6 = .ok (.getfield 13, 3) := by decide +kernel
theorem dX1_copy_9 : decode cX1_copy 9 = .ok (.aload_n 1, 1) := by decide +kernel
theorem dX1_copy_10 : decode cX1_copy 10 = .ok (.getfield 16, 3) := by decide +kernel
theorem dX1_copy_13 : decode cX1_copy 13 = .ok (.aload_n 1, 1) := by decide +kernel
theorem dX1_copy_14 : decode cX1_copy 14 = .ok (.getfield 19, 3) := by decide +kernel
theorem dX1_copy_17 : decode cX1_copy 17 = .ok (.invokevirtual 22, 3) := by decide +kernel
theorem dX1_copy_20 : decode cX1_copy 20 = .ok (.return_, 1) := by decide +kernel
theorem dX2_keepHit_0 : decode cX2_keepHit 0 = .ok (.aload_n 0, 1) := by decide +kernel
theorem dX2_keepHit_1 : decode cX2_keepHit 1 = .ok (.getfield 43, 3) := by decide +kernel
theorem dX2_keepHit_4 : decode cX2_keepHit 4 = .ok (.aload_n 0, 1) := by decide +kernel
theorem dX2_keepHit_5 : decode cX2_keepHit 5 = .ok (.getfield 39, 3) := by decide +kernel
theorem dX2_keepHit_8 : decode cX2_keepHit 8 = .ok (.invokevirtual 101, 3) := by decide +kernel
theorem dX2_keepHit_11 : decode cX2_keepHit 11 = .ok (.ifCond .le 17, 3) := by decide +kernel
theorem dX2_keepHit_14 : decode cX2_keepHit 14 = .ok (.aload_n 0, 1) := by decide +kernel
theorem dX2_keepHit_15 : decode cX2_keepHit 15 = .ok (.getfield 15, 3) := by decide +kernel
theorem dX2_keepHit_18 : decode cX2_keepHit 18 = .ok (.iconst 0, 1) := by decide +kernel
theorem dX2_keepHit_19 : decode cX2_keepHit 19 = .ok (.aload_n 0, 1) := by decide +kernel
theorem dX2_keepHit_20 : decode cX2_keepHit 20 = .ok (.getfield 18, 3) := by decide +kernel
theorem dX2_keepHit_23 : decode cX2_keepHit 23 = .ok (.iconst 0, 1) := by decide +kernel
theorem dX2_keepHit_24 : decode cX2_keepHit 24 = .ok (.iconst 3, 1) := by decide +kernel
theorem dX2_keepHit_25 : decode cX2_keepHit 25 = .ok (.invokestatic 136, 3) := by decide +kernel
theorem dX2_keepHit_28 : decode cX2_keepHit 28 = .ok (.aload_n 0, 1) := by decide +kernel
theorem dX2_keepHit_29 : decode cX2_keepHit 29 = .ok (.getfield 43, 3) := by decide +kernel
theorem dX2_keepHit_32 : decode cX2_keepHit 32 = .ok (.getfield 127, 3) := by decide +kernel
theorem dX2_keepHit_35 : decode cX2_keepHit 35 = .ok (.aload_n 0, 1) := by decide +kernel
theorem dX2_keepHit_36 : decode cX2_keepHit 36 = .ok (.getfield 43, 3) := by decide +kernel
theorem dX2_keepHit_39 : decode cX2_keepHit 39 = .ok (.getfield 124, 3) := by decide +kernel
theorem dX2_keepHit_42 : decode cX2_keepHit 42 = .ok (.invokestatic 142, 3) := by decide +kernel
theorem dX2_keepHit_45 : decode cX2_keepHit 45 = .ok (.istore_n 1, 1) := by decide +kernel
theorem dX2_keepHit_46 : decode cX2_keepHit 46 = .ok (.aload_n 0, 1) := by decide +kernel
theorem dX2_keepHit_47 : decode cX2_keepHit 47 = .ok (.getfield 39, 3) := by decide +kernel
theorem dX2_keepHit_50 : decode cX2_keepHit 50 = .ok (.aload_n 0, 1) := by decide +kernel
theorem dX2_keepHit_51 : decode cX2_keepHit 51 = .ok (.getfield 43, 3) := by decide +kernel
theorem dX2_keepHit_54 : decode cX2_keepHit 54 = .ok (.getfield 77, 3) := by decide +kernel
theorem dX2_keepHit_57 : decode cX2_keepHit 57 = .ok (.aload_n 0, 1) := by decide +kernel
theorem dX2_keepHit_58 : decode cX2_keepHit 58 = .ok (.getfield 43, 3) := by decide +kernel
theorem dX2_keepHit_61 : decode cX2_keepHit 61 = .ok (.getfield 121, 3) := by decide +kernel
theorem dX2_keepHit_64 : decode cX2_keepHit 64 = .ok (.aload_n 0, 1) := by decide +kernel
theorem dX2_keepHit_65 : decode cX2_keepHit 65 = .ok (.getfield 43, 3) := by decide +kernel
theorem dX2_keepHit_68 : decode cX2_keepHit 68 = .ok (.getfield 127, 3) := by decide +kernel
theorem dX2_keepHit_71 : decode cX2_keepHit 71 = .ok (.iload_n 1, 1) := by decide +kernel
theorem dX2_keepHit_72 : decode cX2_keepHit 72 = .ok (.idiv, 1) := by decide +kernel
theorem dX2_keepHit_73 : decode cX2_keepHit 73 = .ok (.aload_n 0, 1) := by decide +kernel
theorem dX2_keepHit_74 : decode cX2_keepHit 74 = .ok (.getfield 43, 3) := by decide +kernel
theorem dX2_keepHit_77 : decode cX2_keepHit 77 = .ok (.getfield 124, 3) := by decide +kernel
theorem dX2_keepHit_80 : decode cX2_keepHit 80 = .ok (.iload_n 1, 1) := by decide +kernel
theorem dX2_keepHit_81 : decode cX2_keepHit 81 = .ok (.idiv, 1) := by decide +kernel
theorem dX2_keepHit_82 : decode cX2_keepHit 82 = .ok (.invokevirtual 57, 3) := by decide +kernel
theorem dX2_keepHit_85 : decode cX2_keepHit 85 = .ok (.aload_n 0, 1) := by decide +kernel
theorem dX2_keepHit_86 : decode cX2_keepHit 86 = .ok (.getfield 21, 3) := by decide +kernel
theorem dX2_keepHit_89 : decode cX2_keepHit 89 = .ok (.aload_n 0, 1) := by decide +kernel
theorem dX2_keepHit_90 : decode cX2_keepHit 90 = .ok (.getfield 49, 3) := by decide +kernel
theorem dX2_keepHit_93 : decode cX2_keepHit 93 = .ok (.aload_n 0, 1) := by decide +kernel
theorem dX2_keepHit_94 : decode cX2_keepHit 94 = .ok (.getfield 39, 3) := by decide +kernel
theorem dX2_keepHit_97 : decode cX2_keepHit 97 = .ok (.getfield 77, 3) := by decide +kernel
theorem dX2_keepHit_100 : decode cX2_keepHit 100 = .ok (.iastore, 1) := by decide +kernel
theorem dX2_keepHit_101 : decode cX2_keepHit 101 = .ok (.aload_n 0, 1) := by decide +kernel
theorem dX2_keepHit_102 : decode cX2_keepHit 102 = .ok (.getfield 24, 3) := by decide +kernel
theorem dX2_keepHit_105 : decode cX2_keepHit 105 = .ok (.aload_n 0, 1) := by decide +kernel
theorem dX2_keepHit_106 : decode cX2_keepHit 106 = .ok (.getfield 49, 3) := by decide +kernel
theorem dX2_keepHit_109 : decode cX2_keepHit 109 = .ok (.aload_n 0, 1) := by decide +kernel
theorem dX2_keepHit_110 : decode cX2_keepHit 110 = .ok (.getfield 39, 3) := by decide +kernel
theorem dX2_keepHit_113 : decode cX2_keepHit 113 = .ok (.getfield 121, 3) := by decide +kernel
theorem dX2_keepHit_116 : decode cX2_keepHit 116 = .ok (.iastore, 1) := by decide +kernel
theorem dX2_keepHit_117 : decode cX2_keepHit 117 = .ok (.aload_n 0, 1) := by decide +kernel
theorem dX2_keepHit_118 : decode cX2_keepHit 118 = .ok (.getfield 27, 3) := by decide +kernel
theorem dX2_keepHit_121 : decode cX2_keepHit 121 = .ok (.aload_n 0, 1) := by decide +kernel
theorem dX2_keepHit_122 : decode cX2_keepHit 122 = .ok (.getfield 49, 3) := by decide +kernel
theorem dX2_keepHit_125 : decode cX2_keepHit 125 = .ok (.aload_n 0, 1) := by decide +kernel
theorem dX2_keepHit_126 : decode cX2_keepHit 126 = .ok (.getfield 39, 3) := by decide +kernel
theorem dX2_keepHit_129 : decode cX2_keepHit 129 = .ok (.getfield 127, 3) := by decide +kernel
theorem dX2_keepHit_132 : decode cX2_keepHit 132 = .ok (.iastore, 1) := by decide +kernel
theorem dX2_keepHit_133 : decode cX2_keepHit 133 = .ok (.aload_n 0, 1) := by decide +kernel
theorem dX2_keepHit_134 : decode cX2_keepHit 134 = .ok (.getfield 30, 3) := by decide +kernel
theorem dX2_keepHit_137 : decode cX2_keepHit 137 = .ok (.aload_n 0, 1) := by decide +kernel
theorem dX2_keepHit_138 : decode cX2_keepHit 138 = .ok (.getfield 49, 3) := by decide +kernel
theorem dX2_keepHit_141 : decode cX2_keepHit 141 = .ok (.aload_n 0, 1) := by decide +kernel
theorem dX2_keepHit_142 : decode cX2_keepHit 142 = .ok (.getfield 39, 3) := by decide +kernel
theorem dX2_keepHit_145 : decode cX2_keepHit 145 = .ok (.getfield 124, 3) := by decide +kernel
theorem dX2_keepHit_148 : decode cX2_keepHit 148 = .ok (.iastore, 1) := by decide +kernel
theorem dX2_keepHit_149 : decode cX2_keepHit 149 = .ok (.iconst 0, 1) := by decide +kernel
theorem dX2_keepHit_150 : decode cX2_keepHit 150 = .ok (.istore_n 2, 1) := by decide +kernel
theorem dX2_keepHit_151 : decode cX2_keepHit 151 = .ok (.iload_n 2, 1) := by decide +kernel
theorem dX2_keepHit_152 : decode cX2_keepHit 152 = .ok (.iconst 3, 1) := by decide +kernel
theorem dX2_keepHit_153 : decode cX2_keepHit 153 = .ok (.if_icmp .ge 27, 3) := by decide +kernel
theorem dX2_keepHit_156 : decode cX2_keepHit 156 = .ok (.aload_n 0, 1) := by decide +kernel
theorem dX2_keepHit_157 : decode cX2_keepHit 157 = .ok (.getfield 33, 3) := by decide +kernel
theorem dX2_keepHit_160 : decode cX2_keepHit 160 = .ok (.aload_n 0, 1) := by decide +kernel
theorem dX2_keepHit_161 : decode cX2_keepHit 161 = .ok (.getfield 49, 3) := by decide +kernel
theorem dX2_keepHit_164 : decode cX2_keepHit 164 = .ok (.iconst 3, 1) := by decide +kernel
theorem dX2_keepHit_165 : decode cX2_keepHit 165 = .ok (.imul, 1) := by decide +kernel
theorem dX2_keepHit_166 : decode cX2_keepHit 166 = .ok (.iload_n 2, 1) := by decide +kernel
theorem dX2_keepHit_167 : decode cX2_keepHit 167 = .ok (.iadd, 1) := by decide +kernel
theorem dX2_keepHit_168 : decode cX2_keepHit 168 = .ok (.aload_n 0, 1) := by decide +kernel
theorem dX2_keepHit_169 : decode cX2_keepHit 169 = .ok (.iload_n 2, 1) := by decide +kernel
theorem dX2_keepHit_170 : decode cX2_keepHit 170 = .ok (.invokevirtual 133, 3) := by decide +kernel
theorem dX2_keepHit_173 : decode cX2_keepHit 173 = .ok (.iastore, 1) := by decide +kernel
theorem dX2_keepHit_174 : decode cX2_keepHit 174 = .ok (.iinc 2 1, 3) := by decide +kernel
theorem dX2_keepHit_177 : decode cX2_keepHit 177 = .ok (.goto (-26), 3) := by decide +kernel
theorem dX2_keepHit_180 : decode cX2_keepHit 180 = .ok (.aload_n 0, 1) := by decide +kernel
theorem dX2_keepHit_181 : decode cX2_keepHit 181 = .ok (.dup, 1) := by decide +kernel
theorem dX2_keepHit_182 : decode cX2_keepHit 182 = .ok (.getfield 49, 3) := by decide +kernel
theorem dX2_keepHit_185 : decode cX2_keepHit 185 = .ok (.iconst 1, 1) := by decide +kernel
theorem dX2_keepHit_186 : decode cX2_keepHit 186 = .ok (.iadd, 1) := by decide +kernel
theorem dX2_keepHit_187 : decode cX2_keepHit 187 = .ok (.putfield 49, 3) := by decide +kernel
theorem dX2_keepHit_190 : decode cX2_keepHit 190 = .ok (.return_, 1) := by decide +kernel
theorem dX3_commonDivisor_0 : decode cX3_commonDivisor 0 = .ok (.iload_n 0, 1) := by decide +kernel
theorem dX3_commonDivisor_1 : decode cX3_commonDivisor 1 = .ok (.invokestatic 158, 3) := by decide +kernel
theorem dX3_commonDivisor_4 : decode cX3_commonDivisor 4 = .ok (.istore_n 2, 1) := by decide +kernel
theorem dX3_commonDivisor_5 : decode cX3_commonDivisor 5 = .ok (.iload_n 1, 1) := by decide +kernel
theorem dX3_commonDivisor_6 : decode cX3_commonDivisor 6 = .ok (.invokestatic 158, 3) := by decide +kernel
theorem dX3_commonDivisor_9 : decode cX3_commonDivisor 9 = .ok (.istore_n 3, 1) := by decide +kernel
theorem dX3_commonDivisor_10 : decode cX3_commonDivisor 10 = .ok (.iconst 0, 1) := by decide +kernel
theorem dX3_commonDivisor_11 : decode cX3_commonDivisor 11 = .ok (.istore 4, 2) := by decide +kernel
theorem dX3_commonDivisor_13 : decode cX3_commonDivisor 13 = .ok (.iload 4, 2) := by decide +kernel
theorem dX3_commonDivisor_15 : decode cX3_commonDivisor 15 = .ok (.bipush 64, 2) := by decide +kernel
theorem dX3_commonDivisor_17 : decode cX3_commonDivisor 17 = .ok (.if_icmp .ge 23, 3) := by decide +kernel
theorem dX3_commonDivisor_20 : decode cX3_commonDivisor 20 = .ok (.iload_n 3, 1) := by decide +kernel
theorem dX3_commonDivisor_21 : decode cX3_commonDivisor 21 = .ok (.ifCond .eq 19, 3) := by decide +kernel
theorem dX3_commonDivisor_24 : decode cX3_commonDivisor 24 = .ok (.iload_n 2, 1) := by decide +kernel
theorem dX3_commonDivisor_25 : decode cX3_commonDivisor 25 = .ok (.iload_n 3, 1) := by decide +kernel
theorem dX3_commonDivisor_26 : decode cX3_commonDivisor 26 = .ok (.irem, 1) := by decide +kernel
theorem dX3_commonDivisor_27 : decode cX3_commonDivisor 27 = .ok (.istore 5, 2) := by decide +kernel
theorem dX3_commonDivisor_29 : decode cX3_commonDivisor 29 = .ok (.iload_n 3, 1) := by decide +kernel
theorem dX3_commonDivisor_30 : decode cX3_commonDivisor 30 = .ok (.istore_n 2, 1) := by decide +kernel
theorem dX3_commonDivisor_31 : decode cX3_commonDivisor 31 = .ok (.iload 5, 2) := by decide +kernel
theorem dX3_commonDivisor_33 : decode cX3_commonDivisor 33 = .ok (.istore_n 3, 1) := by decide +kernel
theorem dX3_commonDivisor_34 : decode cX3_commonDivisor 34 = .ok (.iinc 4 1, 3) := by decide +kernel
theorem dX3_commonDivisor_37 : decode cX3_commonDivisor 37 = .ok (.goto (-24), 3) := by decide +kernel
theorem dX3_commonDivisor_40 : decode cX3_commonDivisor 40 = .ok (.iconst 1, 1) := by decide +kernel
theorem dX3_commonDivisor_41 : decode cX3_commonDivisor 41 = .ok (.iload_n 2, 1) := by decide +kernel
theorem dX3_commonDivisor_42 : decode cX3_commonDivisor 42 = .ok (.invokestatic 15, 3) := by decide +kernel
theorem dX3_commonDivisor_45 : decode cX3_commonDivisor 45 = .ok (.ireturn, 1) := by decide +kernel
theorem dX2_turn_0 : decode cX2_turn 0 = .ok (.aload_n 0, 1) := by decide +kernel
theorem dX2_turn_1 : decode cX2_turn 1 = .ok (.getfield 39, 3) := by decide +kernel
theorem dX2_turn_4 : decode cX2_turn 4 = .ok (.getfield 77, 3) := by decide +kernel
theorem dX2_turn_7 : decode cX2_turn 7 = .ok (.iconst 3, 1) := by decide +kernel
theorem dX2_turn_8 : decode cX2_turn 8 = .ok (.imul, 1) := by decide +kernel
theorem dX2_turn_9 : decode cX2_turn 9 = .ok (.aload_n 0, 1) := by decide +kernel
theorem dX2_turn_10 : decode cX2_turn 10 = .ok (.getfield 39, 3) := by decide +kernel
theorem dX2_turn_13 : decode cX2_turn 13 = .ok (.getfield 121, 3) := by decide +kernel
theorem dX2_turn_16 : decode cX2_turn 16 = .ok (.iadd, 1) := by decide +kernel
theorem dX2_turn_17 : decode cX2_turn 17 = .ok (.istore_n 2, 1) := by decide +kernel
theorem dX2_turn_18 : decode cX2_turn 18 = .ok (.aload_n 0, 1) := by decide +kernel
theorem dX2_turn_19 : decode cX2_turn 19 = .ok (.getfield 15, 3) := by decide +kernel
theorem dX2_turn_22 : decode cX2_turn 22 = .ok (.aload_n 0, 1) := by decide +kernel
theorem dX2_turn_23 : decode cX2_turn 23 = .ok (.getfield 39, 3) := by decide +kernel
theorem dX2_turn_26 : decode cX2_turn 26 = .ok (.getfield 121, 3) := by decide +kernel
theorem dX2_turn_29 : decode cX2_turn 29 = .ok (.iaload, 1) := by decide +kernel
theorem dX2_turn_30 : decode cX2_turn 30 = .ok (.ifCond .le 12, 3) := by decide +kernel
theorem dX2_turn_33 : decode cX2_turn 33 = .ok (.aload_n 1, 1) := by decide +kernel
theorem dX2_turn_34 : decode cX2_turn 34 = .ok (.getfield 109, 3) := by decide +kernel
theorem dX2_turn_37 : decode cX2_turn 37 = .ok (.iload_n 2, 1) := by decide +kernel
theorem dX2_turn_38 : decode cX2_turn 38 = .ok (.iaload, 1) := by decide +kernel
theorem dX2_turn_39 : decode cX2_turn 39 = .ok (.goto 9, 3) := by decide +kernel
theorem dX2_turn_42 : decode cX2_turn 42 = .ok (.aload_n 1, 1) := by decide +kernel
theorem dX2_turn_43 : decode cX2_turn 43 = .ok (.getfield 112, 3) := by decide +kernel
theorem dX2_turn_46 : decode cX2_turn 46 = .ok (.iload_n 2, 1) := by decide +kernel
theorem dX2_turn_47 : decode cX2_turn 47 = .ok (.iaload, 1) := by decide +kernel
theorem dX2_turn_48 : decode cX2_turn 48 = .ok (.istore_n 3, 1) := by decide +kernel
theorem dX2_turn_49 : decode cX2_turn 49 = .ok (.aload_n 0, 1) := by decide +kernel
theorem dX2_turn_50 : decode cX2_turn 50 = .ok (.getfield 9, 3) := by decide +kernel
theorem dX2_turn_53 : decode cX2_turn 53 = .ok (.aload_n 0, 1) := by decide +kernel
theorem dX2_turn_54 : decode cX2_turn 54 = .ok (.getfield 39, 3) := by decide +kernel
theorem dX2_turn_57 : decode cX2_turn 57 = .ok (.getfield 121, 3) := by decide +kernel
theorem dX2_turn_60 : decode cX2_turn 60 = .ok (.iconst 2, 1) := by decide +kernel
theorem dX2_turn_61 : decode cX2_turn 61 = .ok (.iload_n 3, 1) := by decide +kernel
theorem dX2_turn_62 : decode cX2_turn 62 = .ok (.imul, 1) := by decide +kernel
theorem dX2_turn_63 : decode cX2_turn 63 = .ok (.aload_n 0, 1) := by decide +kernel
theorem dX2_turn_64 : decode cX2_turn 64 = .ok (.getfield 9, 3) := by decide +kernel
theorem dX2_turn_67 : decode cX2_turn 67 = .ok (.aload_n 0, 1) := by decide +kernel
theorem dX2_turn_68 : decode cX2_turn 68 = .ok (.getfield 39, 3) := by decide +kernel
theorem dX2_turn_71 : decode cX2_turn 71 = .ok (.getfield 121, 3) := by decide +kernel
theorem dX2_turn_74 : decode cX2_turn 74 = .ok (.iaload, 1) := by decide +kernel
theorem dX2_turn_75 : decode cX2_turn 75 = .ok (.isub, 1) := by decide +kernel
theorem dX2_turn_76 : decode cX2_turn 76 = .ok (.iastore, 1) := by decide +kernel
theorem dX2_turn_77 : decode cX2_turn 77 = .ok (.aload_n 0, 1) := by decide +kernel
theorem dX2_turn_78 : decode cX2_turn 78 = .ok (.getfield 15, 3) := by decide +kernel
theorem dX2_turn_81 : decode cX2_turn 81 = .ok (.aload_n 0, 1) := by decide +kernel
theorem dX2_turn_82 : decode cX2_turn 82 = .ok (.getfield 39, 3) := by decide +kernel
theorem dX2_turn_85 : decode cX2_turn 85 = .ok (.getfield 121, 3) := by decide +kernel
theorem dX2_turn_88 : decode cX2_turn 88 = .ok (.aload_n 0, 1) := by decide +kernel
theorem dX2_turn_89 : decode cX2_turn 89 = .ok (.getfield 15, 3) := by decide +kernel
theorem dX2_turn_92 : decode cX2_turn 92 = .ok (.aload_n 0, 1) := by decide +kernel
theorem dX2_turn_93 : decode cX2_turn 93 = .ok (.getfield 39, 3) := by decide +kernel
theorem dX2_turn_96 : decode cX2_turn 96 = .ok (.getfield 121, 3) := by decide +kernel
theorem dX2_turn_99 : decode cX2_turn 99 = .ok (.iaload, 1) := by decide +kernel
theorem dX2_turn_100 : decode cX2_turn 100 = .ok (.ineg, 1) := by decide +kernel
theorem dX2_turn_101 : decode cX2_turn 101 = .ok (.iastore, 1) := by decide +kernel
theorem dX2_turn_102 : decode cX2_turn 102 = .ok (.return_, 1) := by decide +kernel
theorem dL_told_0 : decode cL_told 0 = .ok (.aload_n 2, 1) := by decide +kernel
theorem dL_told_1 : decode cL_told 1 = .ok (.iconst 0, 1) := by decide +kernel
theorem dL_told_2 : decode cL_told 2 = .ok (.aload_n 0, 1) := by decide +kernel
theorem dL_told_3 : decode cL_told 3 = .ok (.iload_n 1, 1) := by decide +kernel
theorem dL_told_4 : decode cL_told 4 = .ok (.invokevirtual 28, 3) := by decide +kernel
theorem dL_told_7 : decode cL_told 7 = .ok (.i2l, 1) := by decide +kernel
theorem dL_told_8 : decode cL_told 8 = .ok (.lastore, 1) := by decide +kernel
theorem dL_told_9 : decode cL_told 9 = .ok (.goto 9, 3) := by decide +kernel
theorem dL_told_12 : decode cL_told 12 = .ok (.astore_n 3, 1) := by decide +kernel
theorem dL_told_13 : decode cL_told 13 = .ok (.iconst 1, 1) := by decide +kernel
theorem dL_told_14 : decode cL_told 14 = .ok (.ireturn, 1) := by decide +kernel
theorem dL_told_15 : decode cL_told 15 = .ok (.astore_n 3, 1) := by decide +kernel
theorem dL_told_16 : decode cL_told 16 = .ok (.iconst 2, 1) := by decide +kernel
theorem dL_told_17 : decode cL_told 17 = .ok (.ireturn, 1) := by decide +kernel
theorem dL_told_18 : decode cL_told 18 = .ok (.iconst 0, 1) := by decide +kernel
theorem dL_told_19 : decode cL_told 19 = .ok (.ireturn, 1) := by decide +kernel
theorem dX3_told_0 : decode cX3_told 0 = .ok (.iload_n 1, 1) := by decide +kernel
theorem dX3_told_1 : decode cX3_told 1 = .ok (.iconst 0, 1) := by decide +kernel
theorem dX3_told_2 : decode cX3_told 2 = .ok (.iconst 4, 1) := by decide +kernel
theorem dX3_told_3 : decode cX3_told 3 = .ok (.invokestatic 79, 3) := by decide +kernel
theorem dX3_told_6 : decode cX3_told 6 = .ok (.aload_n 0, 1) := by decide +kernel
theorem dX3_told_7 : decode cX3_told 7 = .ok (.invokevirtual 105, 3) := by decide +kernel
theorem dX3_told_10 : decode cX3_told 10 = .ok (.iload_n 1, 1) := by decide +kernel
theorem dX3_told_11 : decode cX3_told 11 = .ok (.lookupswitch 41 #[(0, 25), (1, 33)], 25) := by decide +kernel
theorem dX3_told_36 : decode cX3_told 36 = .ok (.aload_n 0, 1) := by decide +kernel
theorem dX3_told_37 : decode cX3_told 37 = .ok (.getfield 42, 3) := by decide +kernel
theorem dX3_told_40 : decode cX3_told 40 = .ok (.getfield 108, 3) := by decide +kernel
theorem dX3_told_43 : decode cX3_told 43 = .ok (.ireturn, 1) := by decide +kernel
theorem dX3_told_44 : decode cX3_told 44 = .ok (.aload_n 0, 1) := by decide +kernel
theorem dX3_told_45 : decode cX3_told 45 = .ok (.getfield 42, 3) := by decide +kernel
theorem dX3_told_48 : decode cX3_told 48 = .ok (.getfield 111, 3) := by decide +kernel
theorem dX3_told_51 : decode cX3_told 51 = .ok (.ireturn, 1) := by decide +kernel
theorem dX3_told_52 : decode cX3_told 52 = .ok (.aload_n 0, 1) := by decide +kernel
theorem dX3_told_53 : decode cX3_told 53 = .ok (.getfield 42, 3) := by decide +kernel
theorem dX3_told_56 : decode cX3_told 56 = .ok (.getfield 114, 3) := by decide +kernel
theorem dX3_told_59 : decode cX3_told 59 = .ok (.iload_n 1, 1) := by decide +kernel
theorem dX3_told_60 : decode cX3_told 60 = .ok (.iconst 2, 1) := by decide +kernel
theorem dX3_told_61 : decode cX3_told 61 = .ok (.isub, 1) := by decide +kernel
theorem dX3_told_62 : decode cX3_told 62 = .ok (.iaload, 1) := by decide +kernel
theorem dX3_told_63 : decode cX3_told 63 = .ok (.ireturn, 1) := by decide +kernel
theorem dX3_demandRay_0 : decode cX3_demandRay 0 = .ok (.aload_n 0, 1) := by decide +kernel
theorem dX3_demandRay_1 : decode cX3_demandRay 1 = .ok (.getfield 46, 3) := by decide +kernel
theorem dX3_demandRay_4 : decode cX3_demandRay 4 = .ok (.ifCond .ne 13, 3) := by decide +kernel
theorem dX3_demandRay_7 : decode cX3_demandRay 7 = .ok (.new 64, 3) := by decide +kernel
theorem dX3_demandRay_10 : decode cX3_demandRay 10 = .ok (.dup, 1) := by decide +kernel
theorem dX3_demandRay_11 : decode cX3_demandRay 11 = .ok (.ldc 156, 2) := by decide +kernel
theorem dX3_demandRay_13 : decode cX3_demandRay 13 = .ok (.invokespecial 68, 3) := by decide +kernel
theorem dX3_demandRay_16 : decode cX3_demandRay 16 = .ok (.athrow, 1) := by decide +kernel
theorem dX3_demandRay_17 : decode cX3_demandRay 17 = .ok (.return_, 1) := by decide +kernel
theorem dL_hit_0 : decode cL_hit 0 = .ok (.aload_n 3, 1) := by decide +kernel
theorem dL_hit_1 : decode cL_hit 1 = .ok (.iconst 0, 1) := by decide +kernel
theorem dL_hit_2 : decode cL_hit 2 = .ok (.aload_n 0, 1) := by decide +kernel
theorem dL_hit_3 : decode cL_hit 3 = .ok (.iload_n 1, 1) := by decide +kernel
theorem dL_hit_4 : decode cL_hit 4 = .ok (.iload_n 2, 1) := by decide +kernel
theorem dL_hit_5 : decode cL_hit 5 = .ok (.invokevirtual 32, 3) := by decide +kernel
theorem dL_hit_8 : decode cL_hit 8 = .ok (.i2l, 1) := by decide +kernel
theorem dL_hit_9 : decode cL_hit 9 = .ok (.lastore, 1) := by decide +kernel
theorem dL_hit_10 : decode cL_hit 10 = .ok (.goto 11, 3) := by decide +kernel
theorem dL_hit_13 : decode cL_hit 13 = .ok (.astore 4, 2) := by decide +kernel
theorem dL_hit_15 : decode cL_hit 15 = .ok (.iconst 1, 1) := by decide +kernel
theorem dL_hit_16 : decode cL_hit 16 = .ok (.ireturn, 1) := by decide +kernel
theorem dL_hit_17 : decode cL_hit 17 = .ok (.astore 4, 2) := by decide +kernel
theorem dL_hit_19 : decode cL_hit 19 = .ok (.iconst 2, 1) := by decide +kernel
theorem dL_hit_20 : decode cL_hit 20 = .ok (.ireturn, 1) := by decide +kernel
theorem dL_hit_21 : decode cL_hit 21 = .ok (.iconst 0, 1) := by decide +kernel
theorem dL_hit_22 : decode cL_hit 22 = .ok (.ireturn, 1) := by decide +kernel
theorem dX3_hit_0 : decode cX3_hit 0 = .ok (.iload_n 1, 1) := by decide +kernel
theorem dX3_hit_1 : decode cX3_hit 1 = .ok (.ifCond .lt 7, 3) := by decide +kernel
theorem dX3_hit_4 : decode cX3_hit 4 = .ok (.iconst 1, 1) := by decide +kernel
theorem dX3_hit_5 : decode cX3_hit 5 = .ok (.goto 4, 3) := by decide +kernel
theorem dX3_hit_8 : decode cX3_hit 8 = .ok (.iconst 0, 1) := by decide +kernel
theorem dX3_hit_9 : decode cX3_hit 9 = .ok (.invokestatic 57, 3) := by decide +kernel
theorem dX3_hit_12 : decode cX3_hit 12 = .ok (.iload_n 2, 1) := by decide +kernel
theorem dX3_hit_13 : decode cX3_hit 13 = .ok (.iconst 0, 1) := by decide +kernel
theorem dX3_hit_14 : decode cX3_hit 14 = .ok (.iconst 3, 1) := by decide +kernel
theorem dX3_hit_15 : decode cX3_hit 15 = .ok (.invokestatic 79, 3) := by decide +kernel
theorem dX3_hit_18 : decode cX3_hit 18 = .ok (.aload_n 0, 1) := by decide +kernel
theorem dX3_hit_19 : decode cX3_hit 19 = .ok (.invokevirtual 105, 3) := by decide +kernel
theorem dX3_hit_22 : decode cX3_hit 22 = .ok (.aload_n 0, 1) := by decide +kernel
theorem dX3_hit_23 : decode cX3_hit 23 = .ok (.getfield 42, 3) := by decide +kernel
theorem dX3_hit_26 : decode cX3_hit 26 = .ok (.iload_n 1, 1) := by decide +kernel
theorem dX3_hit_27 : decode cX3_hit 27 = .ok (.invokevirtual 117, 3) := by decide +kernel
theorem dX3_hit_30 : decode cX3_hit 30 = .ok (.ifCond .ne 5, 3) := by decide +kernel
theorem dX3_hit_33 : decode cX3_hit 33 = .ok (.iconst (-1), 1) := by decide +kernel
theorem dX3_hit_34 : decode cX3_hit 34 = .ok (.ireturn, 1) := by decide +kernel
theorem dX3_hit_35 : decode cX3_hit 35 = .ok (.iload_n 2, 1) := by decide +kernel
theorem dX3_hit_36 : decode cX3_hit 36 = .ok (.tableswitch 58 0 2 #[28, 38, 48], 28) := by decide +kernel
theorem dX3_hit_64 : decode cX3_hit 64 = .ok (.aload_n 0, 1) := by decide +kernel
theorem dX3_hit_65 : decode cX3_hit 65 = .ok (.getfield 42, 3) := by decide +kernel
theorem dX3_hit_68 : decode cX3_hit 68 = .ok (.getfield 121, 3) := by decide +kernel
theorem dX3_hit_71 : decode cX3_hit 71 = .ok (.iload_n 1, 1) := by decide +kernel
theorem dX3_hit_72 : decode cX3_hit 72 = .ok (.iaload, 1) := by decide +kernel
theorem dX3_hit_73 : decode cX3_hit 73 = .ok (.ireturn, 1) := by decide +kernel
theorem dX3_hit_74 : decode cX3_hit 74 = .ok (.aload_n 0, 1) := by decide +kernel
theorem dX3_hit_75 : decode cX3_hit 75 = .ok (.getfield 42, 3) := by decide +kernel
theorem dX3_hit_78 : decode cX3_hit 78 = .ok (.getfield 124, 3) := by decide +kernel
theorem dX3_hit_81 : decode cX3_hit 81 = .ok (.iload_n 1, 1) := by decide +kernel
theorem dX3_hit_82 : decode cX3_hit 82 = .ok (.iaload, 1) := by decide +kernel
theorem dX3_hit_83 : decode cX3_hit 83 = .ok (.ireturn, 1) := by decide +kernel
theorem dX3_hit_84 : decode cX3_hit 84 = .ok (.aload_n 0, 1) := by decide +kernel
theorem dX3_hit_85 : decode cX3_hit 85 = .ok (.getfield 42, 3) := by decide +kernel
theorem dX3_hit_88 : decode cX3_hit 88 = .ok (.getfield 127, 3) := by decide +kernel
theorem dX3_hit_91 : decode cX3_hit 91 = .ok (.iload_n 1, 1) := by decide +kernel
theorem dX3_hit_92 : decode cX3_hit 92 = .ok (.iaload, 1) := by decide +kernel
theorem dX3_hit_93 : decode cX3_hit 93 = .ok (.ireturn, 1) := by decide +kernel
theorem dX3_hit_94 : decode cX3_hit 94 = .ok (.aload_n 0, 1) := by decide +kernel
theorem dX3_hit_95 : decode cX3_hit 95 = .ok (.getfield 42, 3) := by decide +kernel
theorem dX3_hit_98 : decode cX3_hit 98 = .ok (.getfield 130, 3) := by decide +kernel
theorem dX3_hit_101 : decode cX3_hit 101 = .ok (.iload_n 1, 1) := by decide +kernel
theorem dX3_hit_102 : decode cX3_hit 102 = .ok (.iaload, 1) := by decide +kernel
theorem dX3_hit_103 : decode cX3_hit 103 = .ok (.ireturn, 1) := by decide +kernel
theorem dX2_hasHit_0 : decode cX2_hasHit 0 = .ok (.iconst 0, 1) := by decide +kernel
theorem dX2_hasHit_1 : decode cX2_hasHit 1 = .ok (.iload_n 1, 1) := by decide +kernel
theorem dX2_hasHit_2 : decode cX2_hasHit 2 = .ok (.if_icmp .gt 15, 3) := by decide +kernel
theorem dX2_hasHit_5 : decode cX2_hasHit 5 = .ok (.iload_n 1, 1) := by decide +kernel
theorem dX2_hasHit_6 : decode cX2_hasHit 6 = .ok (.aload_n 0, 1) := by decide +kernel
theorem dX2_hasHit_7 : decode cX2_hasHit 7 = .ok (.getfield 49, 3) := by decide +kernel
theorem dX2_hasHit_10 : decode cX2_hasHit 10 = .ok (.if_icmp .ge 7, 3) := by decide +kernel
theorem dX2_hasHit_13 : decode cX2_hasHit 13 = .ok (.iconst 1, 1) := by decide +kernel
theorem dX2_hasHit_14 : decode cX2_hasHit 14 = .ok (.goto 4, 3) := by decide +kernel
theorem dX2_hasHit_17 : decode cX2_hasHit 17 = .ok (.iconst 0, 1) := by decide +kernel
theorem dX2_hasHit_18 : decode cX2_hasHit 18 = .ok (.ireturn, 1) := by decide +kernel
theorem dL_place_0 : decode cL_place 0 = .ok (.aload 4, 2) := by decide +kernel
theorem dL_place_2 : decode cL_place 2 = .ok (.iconst 0, 1) := by decide +kernel
theorem dL_place_3 : decode cL_place 3 = .ok (.aload_n 0, 1) := by decide +kernel
theorem dL_place_4 : decode cL_place 4 = .ok (.iload_n 1, 1) := by decide +kernel
theorem dL_place_5 : decode cL_place 5 = .ok (.iload_n 2, 1) := by decide +kernel
theorem dL_place_6 : decode cL_place 6 = .ok (.iload_n 3, 1) := by decide +kernel
theorem dL_place_7 : decode cL_place 7 = .ok (.invokevirtual 36, 3) := by decide +kernel
theorem dL_place_10 : decode cL_place 10 = .ok (.lastore, 1) := by decide +kernel
theorem dL_place_11 : decode cL_place 11 = .ok (.goto 7, 3) := by decide +kernel
theorem dL_place_14 : decode cL_place 14 = .ok (.astore 5, 2) := by decide +kernel
theorem dL_place_16 : decode cL_place 16 = .ok (.iconst 1, 1) := by decide +kernel
theorem dL_place_17 : decode cL_place 17 = .ok (.ireturn, 1) := by decide +kernel
theorem dL_place_18 : decode cL_place 18 = .ok (.iconst 0, 1) := by decide +kernel
theorem dL_place_19 : decode cL_place 19 = .ok (.ireturn, 1) := by decide +kernel
theorem dX3_place_0 : decode cX3_place 0 = .ok (.iload_n 2, 1) := by decide +kernel
theorem dX3_place_1 : decode cX3_place 1 = .ok (.iconst 0, 1) := by decide +kernel
theorem dX3_place_2 : decode cX3_place 2 = .ok (.iconst 2, 1) := by decide +kernel
theorem dX3_place_3 : decode cX3_place 3 = .ok (.invokestatic 79, 3) := by decide +kernel
theorem dX3_place_6 : decode cX3_place 6 = .ok (.iload_n 3, 1) := by decide +kernel
theorem dX3_place_7 : decode cX3_place 7 = .ok (.iconst 0, 1) := by decide +kernel
theorem dX3_place_8 : decode cX3_place 8 = .ok (.iconst 1, 1) := by decide +kernel
theorem dX3_place_9 : decode cX3_place 9 = .ok (.invokestatic 79, 3) := by decide +kernel
theorem dX3_place_12 : decode cX3_place 12 = .ok (.aload_n 0, 1) := by decide +kernel
theorem dX3_place_13 : decode cX3_place 13 = .ok (.getfield 46, 3) := by decide +kernel
theorem dX3_place_16 : decode cX3_place 16 = .ok (.ifCond .eq 18, 3) := by decide +kernel
theorem dX3_place_19 : decode cX3_place 19 = .ok (.aload_n 0, 1) := by decide +kernel
theorem dX3_place_20 : decode cX3_place 20 = .ok (.getfield 42, 3) := by decide +kernel
theorem dX3_place_23 : decode cX3_place 23 = .ok (.iload_n 1, 1) := by decide +kernel
theorem dX3_place_24 : decode cX3_place 24 = .ok (.invokevirtual 117, 3) := by decide +kernel
theorem dX3_place_27 : decode cX3_place 27 = .ok (.ifCond .eq 7, 3) := by decide +kernel
theorem dX3_place_30 : decode cX3_place 30 = .ok (.iconst 1, 1) := by decide +kernel
theorem dX3_place_31 : decode cX3_place 31 = .ok (.goto 4, 3) := by decide +kernel
theorem dX3_place_34 : decode cX3_place 34 = .ok (.iconst 0, 1) := by decide +kernel
theorem dX3_place_35 : decode cX3_place 35 = .ok (.invokestatic 57, 3) := by decide +kernel
theorem dX3_place_38 : decode cX3_place 38 = .ok (.aload_n 0, 1) := by decide +kernel
theorem dX3_place_39 : decode cX3_place 39 = .ok (.getfield 42, 3) := by decide +kernel
theorem dX3_place_42 : decode cX3_place 42 = .ok (.getfield 133, 3) := by decide +kernel
theorem dX3_place_45 : decode cX3_place 45 = .ok (.iload_n 1, 1) := by decide +kernel
theorem dX3_place_46 : decode cX3_place 46 = .ok (.iconst 3, 1) := by decide +kernel
theorem dX3_place_47 : decode cX3_place 47 = .ok (.imul, 1) := by decide +kernel
theorem dX3_place_48 : decode cX3_place 48 = .ok (.iload_n 2, 1) := by decide +kernel
theorem dX3_place_49 : decode cX3_place 49 = .ok (.iadd, 1) := by decide +kernel
theorem dX3_place_50 : decode cX3_place 50 = .ok (.iaload, 1) := by decide +kernel
theorem dX3_place_51 : decode cX3_place 51 = .ok (.istore 4, 2) := by decide +kernel
theorem dX3_place_53 : decode cX3_place 53 = .ok (.aload_n 0, 1) := by decide +kernel
theorem dX3_place_54 : decode cX3_place 54 = .ok (.getfield 42, 3) := by decide +kernel
theorem dX3_place_57 : decode cX3_place 57 = .ok (.getfield 130, 3) := by decide +kernel
theorem dX3_place_60 : decode cX3_place 60 = .ok (.iload_n 1, 1) := by decide +kernel
theorem dX3_place_61 : decode cX3_place 61 = .ok (.iaload, 1) := by decide +kernel
theorem dX3_place_62 : decode cX3_place 62 = .ok (.istore 5, 2) := by decide +kernel
theorem dX3_place_64 : decode cX3_place 64 = .ok (.iload 4, 2) := by decide +kernel
theorem dX3_place_66 : decode cX3_place 66 = .ok (.iload 5, 2) := by decide +kernel
theorem dX3_place_68 : decode cX3_place 68 = .ok (.invokestatic 136, 3) := by decide +kernel
theorem dX3_place_71 : decode cX3_place 71 = .ok (.istore 6, 2) := by decide +kernel
theorem dX3_place_73 : decode cX3_place 73 = .ok (.iload_n 3, 1) := by decide +kernel
theorem dX3_place_74 : decode cX3_place 74 = .ok (.ifCond .ne 12, 3) := by decide +kernel
theorem dX3_place_77 : decode cX3_place 77 = .ok (.iload 4, 2) := by decide +kernel
theorem dX3_place_79 : decode cX3_place 79 = .ok (.iload 6, 2) := by decide +kernel
theorem dX3_place_81 : decode cX3_place 81 = .ok (.idiv, 1) := by decide +kernel
theorem dX3_place_82 : decode cX3_place 82 = .ok (.i2l, 1) := by decide +kernel
theorem dX3_place_83 : decode cX3_place 83 = .ok (.goto 9, 3) := by decide +kernel
theorem dX3_place_86 : decode cX3_place 86 = .ok (.iload 5, 2) := by decide +kernel
theorem dX3_place_88 : decode cX3_place 88 = .ok (.iload 6, 2) := by decide +kernel
theorem dX3_place_90 : decode cX3_place 90 = .ok (.idiv, 1) := by decide +kernel
theorem dX3_place_91 : decode cX3_place 91 = .ok (.i2l, 1) := by decide +kernel
theorem dX3_place_92 : decode cX3_place 92 = .ok (.lreturn, 1) := by decide +kernel
theorem dL_sky_0 : decode cL_sky 0 = .ok (.aload_n 3, 1) := by decide +kernel
theorem dL_sky_1 : decode cL_sky 1 = .ok (.iconst 0, 1) := by decide +kernel
theorem dL_sky_2 : decode cL_sky 2 = .ok (.aload_n 0, 1) := by decide +kernel
theorem dL_sky_3 : decode cL_sky 3 = .ok (.iload_n 1, 1) := by decide +kernel
theorem dL_sky_4 : decode cL_sky 4 = .ok (.iload_n 2, 1) := by decide +kernel
theorem dL_sky_5 : decode cL_sky 5 = .ok (.invokevirtual 40, 3) := by decide +kernel
theorem dL_sky_8 : decode cL_sky 8 = .ok (.i2l, 1) := by decide +kernel
theorem dL_sky_9 : decode cL_sky 9 = .ok (.lastore, 1) := by decide +kernel
theorem dL_sky_10 : decode cL_sky 10 = .ok (.goto 7, 3) := by decide +kernel
theorem dL_sky_13 : decode cL_sky 13 = .ok (.astore 4, 2) := by decide +kernel
theorem dL_sky_15 : decode cL_sky 15 = .ok (.iconst 1, 1) := by decide +kernel
theorem dL_sky_16 : decode cL_sky 16 = .ok (.ireturn, 1) := by decide +kernel
theorem dL_sky_17 : decode cL_sky 17 = .ok (.iconst 0, 1) := by decide +kernel
theorem dL_sky_18 : decode cL_sky 18 = .ok (.ireturn, 1) := by decide +kernel
theorem dX3_sky_0 : decode cX3_sky 0 = .ok (.iload_n 1, 1) := by decide +kernel
theorem dX3_sky_1 : decode cX3_sky 1 = .ok (.iconst 0, 1) := by decide +kernel
theorem dX3_sky_2 : decode cX3_sky 2 = .ok (.bipush 7, 2) := by decide +kernel
theorem dX3_sky_4 : decode cX3_sky 4 = .ok (.invokestatic 79, 3) := by decide +kernel
theorem dX3_sky_7 : decode cX3_sky 7 = .ok (.iload_n 2, 1) := by decide +kernel
theorem dX3_sky_8 : decode cX3_sky 8 = .ok (.iconst 0, 1) := by decide +kernel
theorem dX3_sky_9 : decode cX3_sky 9 = .ok (.sipush 1000, 3) := by decide +kernel
theorem dX3_sky_12 : decode cX3_sky 12 = .ok (.invokestatic 79, 3) := by decide +kernel
theorem dX3_sky_15 : decode cX3_sky 15 = .ok (.aload_n 0, 1) := by decide +kernel
theorem dX3_sky_16 : decode cX3_sky 16 = .ok (.getfield 29, 3) := by decide +kernel
theorem dX3_sky_19 : decode cX3_sky 19 = .ok (.iload_n 1, 1) := by decide +kernel
theorem dX3_sky_20 : decode cX3_sky 20 = .ok (.iaload, 1) := by decide +kernel
theorem dX3_sky_21 : decode cX3_sky 21 = .ok (.istore_n 3, 1) := by decide +kernel
theorem dX3_sky_22 : decode cX3_sky 22 = .ok (.aload_n 0, 1) := by decide +kernel
theorem dX3_sky_23 : decode cX3_sky 23 = .ok (.getfield 29, 3) := by decide +kernel
theorem dX3_sky_26 : decode cX3_sky 26 = .ok (.iload_n 1, 1) := by decide +kernel
theorem dX3_sky_27 : decode cX3_sky 27 = .ok (.iload_n 2, 1) := by decide +kernel
theorem dX3_sky_28 : decode cX3_sky 28 = .ok (.iastore, 1) := by decide +kernel
theorem dX3_sky_29 : decode cX3_sky 29 = .ok (.iload_n 3, 1) := by decide +kernel
theorem dX3_sky_30 : decode cX3_sky 30 = .ok (.ireturn, 1) := by decide +kernel
