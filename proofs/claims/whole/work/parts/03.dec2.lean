theorem dL_fan_0 : decode cL_fan 0 = .ok (.aload 4, 2) := by decide +kernel
theorem dL_fan_2 : decode cL_fan 2 = .ok (.iconst 0, 1) := by decide +kernel
theorem dL_fan_3 : decode cL_fan 3 = .ok (.aload_n 0, 1) := by decide +kernel
theorem dL_fan_4 : decode cL_fan 4 = .ok (.iload_n 1, 1) := by decide +kernel
theorem dL_fan_5 : decode cL_fan 5 = .ok (.iload_n 2, 1) := by decide +kernel
theorem dL_fan_6 : decode cL_fan 6 = .ok (.iload_n 3, 1) := by decide +kernel
theorem dL_fan_7 : decode cL_fan 7 = .ok (.invokevirtual 43, 3) := by decide +kernel
theorem dL_fan_10 : decode cL_fan 10 = .ok (.i2l, 1) := by decide +kernel
theorem dL_fan_11 : decode cL_fan 11 = .ok (.lastore, 1) := by decide +kernel
theorem dL_fan_12 : decode cL_fan 12 = .ok (.goto 11, 3) := by decide +kernel
theorem dL_fan_15 : decode cL_fan 15 = .ok (.astore 5, 2) := by decide +kernel
theorem dL_fan_17 : decode cL_fan 17 = .ok (.iconst 1, 1) := by decide +kernel
theorem dL_fan_18 : decode cL_fan 18 = .ok (.ireturn, 1) := by decide +kernel
theorem dL_fan_19 : decode cL_fan 19 = .ok (.astore 5, 2) := by decide +kernel
theorem dL_fan_21 : decode cL_fan 21 = .ok (.iconst 2, 1) := by decide +kernel
theorem dL_fan_22 : decode cL_fan 22 = .ok (.ireturn, 1) := by decide +kernel
theorem dL_fan_23 : decode cL_fan 23 = .ok (.iconst 0, 1) := by decide +kernel
theorem dL_fan_24 : decode cL_fan 24 = .ok (.ireturn, 1) := by decide +kernel
theorem dX3_fan_0 : decode cX3_fan 0 = .ok (.iload_n 1, 1) := by decide +kernel
theorem dX3_fan_1 : decode cX3_fan 1 = .ok (.iload_n 2, 1) := by decide +kernel
theorem dX3_fan_2 : decode cX3_fan 2 = .ok (.iload_n 3, 1) := by decide +kernel
theorem dX3_fan_3 : decode cX3_fan 3 = .ok (.invokestatic 92, 3) := by decide +kernel
theorem dX3_fan_6 : decode cX3_fan 6 = .ok (.aload_n 0, 1) := by decide +kernel
theorem dX3_fan_7 : decode cX3_fan 7 = .ok (.getfield 36, 3) := by decide +kernel
theorem dX3_fan_10 : decode cX3_fan 10 = .ok (.bipush 40, 2) := by decide +kernel
theorem dX3_fan_12 : decode cX3_fan 12 = .ok (.if_icmp .lt 13, 3) := by decide +kernel
theorem dX3_fan_15 : decode cX3_fan 15 = .ok (.new 64, 3) := by decide +kernel
theorem dX3_fan_18 : decode cX3_fan 18 = .ok (.dup, 1) := by decide +kernel
theorem dX3_fan_19 : decode cX3_fan 19 = .ok (.ldc 139, 2) := by decide +kernel
theorem dX3_fan_21 : decode cX3_fan 21 = .ok (.invokespecial 68, 3) := by decide +kernel
theorem dX3_fan_24 : decode cX3_fan 24 = .ok (.athrow, 1) := by decide +kernel
theorem dX3_fan_25 : decode cX3_fan 25 = .ok (.aload_n 0, 1) := by decide +kernel
theorem dX3_fan_26 : decode cX3_fan 26 = .ok (.getfield 36, 3) := by decide +kernel
theorem dX3_fan_29 : decode cX3_fan 29 = .ok (.iconst 3, 1) := by decide +kernel
theorem dX3_fan_30 : decode cX3_fan 30 = .ok (.imul, 1) := by decide +kernel
theorem dX3_fan_31 : decode cX3_fan 31 = .ok (.istore 4, 2) := by decide +kernel
theorem dX3_fan_33 : decode cX3_fan 33 = .ok (.aload_n 0, 1) := by decide +kernel
theorem dX3_fan_34 : decode cX3_fan 34 = .ok (.getfield 33, 3) := by decide +kernel
theorem dX3_fan_37 : decode cX3_fan 37 = .ok (.iload 4, 2) := by decide +kernel
theorem dX3_fan_39 : decode cX3_fan 39 = .ok (.iload_n 1, 1) := by decide +kernel
theorem dX3_fan_40 : decode cX3_fan 40 = .ok (.iastore, 1) := by decide +kernel
theorem dX3_fan_41 : decode cX3_fan 41 = .ok (.aload_n 0, 1) := by decide +kernel
theorem dX3_fan_42 : decode cX3_fan 42 = .ok (.getfield 33, 3) := by decide +kernel
theorem dX3_fan_45 : decode cX3_fan 45 = .ok (.iload 4, 2) := by decide +kernel
theorem dX3_fan_47 : decode cX3_fan 47 = .ok (.iconst 1, 1) := by decide +kernel
theorem dX3_fan_48 : decode cX3_fan 48 = .ok (.iadd, 1) := by decide +kernel
theorem dX3_fan_49 : decode cX3_fan 49 = .ok (.iload_n 2, 1) := by decide +kernel
theorem dX3_fan_50 : decode cX3_fan 50 = .ok (.iastore, 1) := by decide +kernel
theorem dX3_fan_51 : decode cX3_fan 51 = .ok (.aload_n 0, 1) := by decide +kernel
theorem dX3_fan_52 : decode cX3_fan 52 = .ok (.getfield 33, 3) := by decide +kernel
theorem dX3_fan_55 : decode cX3_fan 55 = .ok (.iload 4, 2) := by decide +kernel
theorem dX3_fan_57 : decode cX3_fan 57 = .ok (.iconst 2, 1) := by decide +kernel
theorem dX3_fan_58 : decode cX3_fan 58 = .ok (.iadd, 1) := by decide +kernel
theorem dX3_fan_59 : decode cX3_fan 59 = .ok (.iload_n 3, 1) := by decide +kernel
theorem dX3_fan_60 : decode cX3_fan 60 = .ok (.iastore, 1) := by decide +kernel
theorem dX3_fan_61 : decode cX3_fan 61 = .ok (.aload_n 0, 1) := by decide +kernel
theorem dX3_fan_62 : decode cX3_fan 62 = .ok (.dup, 1) := by decide +kernel
theorem dX3_fan_63 : decode cX3_fan 63 = .ok (.getfield 36, 3) := by decide +kernel
theorem dX3_fan_66 : decode cX3_fan 66 = .ok (.iconst 1, 1) := by decide +kernel
theorem dX3_fan_67 : decode cX3_fan 67 = .ok (.iadd, 1) := by decide +kernel
theorem dX3_fan_68 : decode cX3_fan 68 = .ok (.putfield 36, 3) := by decide +kernel
theorem dX3_fan_71 : decode cX3_fan 71 = .ok (.aload_n 0, 1) := by decide +kernel
theorem dX3_fan_72 : decode cX3_fan 72 = .ok (.getfield 36, 3) := by decide +kernel
theorem dX3_fan_75 : decode cX3_fan 75 = .ok (.ireturn, 1) := by decide +kernel
theorem dL_measure_0 : decode cL_measure 0 = .ok (.aload 4, 2) := by decide +kernel
theorem dL_measure_2 : decode cL_measure 2 = .ok (.iconst 0, 1) := by decide +kernel
theorem dL_measure_3 : decode cL_measure 3 = .ok (.aload_n 0, 1) := by decide +kernel
theorem dL_measure_4 : decode cL_measure 4 = .ok (.iload_n 1, 1) := by decide +kernel
theorem dL_measure_5 : decode cL_measure 5 = .ok (.iload_n 2, 1) := by decide +kernel
theorem dL_measure_6 : decode cL_measure 6 = .ok (.iload_n 3, 1) := by decide +kernel
theorem dL_measure_7 : decode cL_measure 7 = .ok (.invokevirtual 46, 3) := by decide +kernel
theorem dL_measure_10 : decode cL_measure 10 = .ok (.lastore, 1) := by decide +kernel
theorem dL_measure_11 : decode cL_measure 11 = .ok (.goto 7, 3) := by decide +kernel
theorem dL_measure_14 : decode cL_measure 14 = .ok (.astore 5, 2) := by decide +kernel
theorem dL_measure_16 : decode cL_measure 16 = .ok (.iconst 1, 1) := by decide +kernel
theorem dL_measure_17 : decode cL_measure 17 = .ok (.ireturn, 1) := by decide +kernel
theorem dL_measure_18 : decode cL_measure 18 = .ok (.iconst 0, 1) := by decide +kernel
theorem dL_measure_19 : decode cL_measure 19 = .ok (.ireturn, 1) := by decide +kernel
theorem dX3_measure_0 : decode cX3_measure 0 = .ok (.aload_n 0, 1) := by decide +kernel
theorem dX3_measure_1 : decode cX3_measure 1 = .ok (.iload_n 1, 1) := by decide +kernel
theorem dX3_measure_2 : decode cX3_measure 2 = .ok (.iload_n 2, 1) := by decide +kernel
theorem dX3_measure_3 : decode cX3_measure 3 = .ok (.iload_n 3, 1) := by decide +kernel
theorem dX3_measure_4 : decode cX3_measure 4 = .ok (.invokevirtual 53, 3) := by decide +kernel
theorem dX3_measure_7 : decode cX3_measure 7 = .ok (.aload_n 0, 1) := by decide +kernel
theorem dX3_measure_8 : decode cX3_measure 8 = .ok (.iload_n 1, 1) := by decide +kernel
theorem dX3_measure_9 : decode cX3_measure 9 = .ok (.iload_n 2, 1) := by decide +kernel
theorem dX3_measure_10 : decode cX3_measure 10 = .ok (.iload_n 3, 1) := by decide +kernel
theorem dX3_measure_11 : decode cX3_measure 11 = .ok (.invokevirtual 141, 3) := by decide +kernel
theorem dX3_measure_14 : decode cX3_measure 14 = .ok (.lreturn, 1) := by decide +kernel
theorem dX3_measureAt_0 : decode cX3_measureAt 0 = .ok (.lconst 0, 1) := by decide +kernel
theorem dX3_measureAt_1 : decode cX3_measureAt 1 = .ok (.lstore 4, 2) := by decide +kernel
theorem dX3_measureAt_3 : decode cX3_measureAt 3 = .ok (.iconst 0, 1) := by decide +kernel
theorem dX3_measureAt_4 : decode cX3_measureAt 4 = .ok (.istore 6, 2) := by decide +kernel
theorem dX3_measureAt_6 : decode cX3_measureAt 6 = .ok (.iload 6, 2) := by decide +kernel
theorem dX3_measureAt_8 : decode cX3_measureAt 8 = .ok (.aload_n 0, 1) := by decide +kernel
theorem dX3_measureAt_9 : decode cX3_measureAt 9 = .ok (.getfield 36, 3) := by decide +kernel
theorem dX3_measureAt_12 : decode cX3_measureAt 12 = .ok (.if_icmp .ge 98, 3) := by decide +kernel
theorem dX3_measureAt_15 : decode cX3_measureAt 15 = .ok (.aload_n 0, 1) := by decide +kernel
theorem dX3_measureAt_16 : decode cX3_measureAt 16 = .ok (.getfield 50, 3) := by decide +kernel
theorem dX3_measureAt_19 : decode cX3_measureAt 19 = .ok (.iload_n 1, 1) := by decide +kernel
theorem dX3_measureAt_20 : decode cX3_measureAt 20 = .ok (.iload_n 2, 1) := by decide +kernel
theorem dX3_measureAt_21 : decode cX3_measureAt 21 = .ok (.iload_n 3, 1) := by decide +kernel
theorem dX3_measureAt_22 : decode cX3_measureAt 22 = .ok (.invokevirtual 95, 3) := by decide +kernel
theorem dX3_measureAt_25 : decode cX3_measureAt 25 = .ok (.aload_n 0, 1) := by decide +kernel
theorem dX3_measureAt_26 : decode cX3_measureAt 26 = .ok (.getfield 50, 3) := by decide +kernel
theorem dX3_measureAt_29 : decode cX3_measureAt 29 = .ok (.aload_n 0, 1) := by decide +kernel
theorem dX3_measureAt_30 : decode cX3_measureAt 30 = .ok (.getfield 33, 3) := by decide +kernel
theorem dX3_measureAt_33 : decode cX3_measureAt 33 = .ok (.iload 6, 2) := by decide +kernel
theorem dX3_measureAt_35 : decode cX3_measureAt 35 = .ok (.iconst 3, 1) := by decide +kernel
theorem dX3_measureAt_36 : decode cX3_measureAt 36 = .ok (.imul, 1) := by decide +kernel
theorem dX3_measureAt_37 : decode cX3_measureAt 37 = .ok (.iaload, 1) := by decide +kernel
theorem dX3_measureAt_38 : decode cX3_measureAt 38 = .ok (.aload_n 0, 1) := by decide +kernel
theorem dX3_measureAt_39 : decode cX3_measureAt 39 = .ok (.getfield 33, 3) := by decide +kernel
theorem dX3_measureAt_42 : decode cX3_measureAt 42 = .ok (.iload 6, 2) := by decide +kernel
theorem dX3_measureAt_44 : decode cX3_measureAt 44 = .ok (.iconst 3, 1) := by decide +kernel
theorem dX3_measureAt_45 : decode cX3_measureAt 45 = .ok (.imul, 1) := by decide +kernel
theorem dX3_measureAt_46 : decode cX3_measureAt 46 = .ok (.iconst 1, 1) := by decide +kernel
theorem dX3_measureAt_47 : decode cX3_measureAt 47 = .ok (.iadd, 1) := by decide +kernel
theorem dX3_measureAt_48 : decode cX3_measureAt 48 = .ok (.iaload, 1) := by decide +kernel
theorem dX3_measureAt_49 : decode cX3_measureAt 49 = .ok (.aload_n 0, 1) := by decide +kernel
theorem dX3_measureAt_50 : decode cX3_measureAt 50 = .ok (.getfield 33, 3) := by decide +kernel
theorem dX3_measureAt_53 : decode cX3_measureAt 53 = .ok (.iload 6, 2) := by decide +kernel
theorem dX3_measureAt_55 : decode cX3_measureAt 55 = .ok (.iconst 3, 1) := by decide +kernel
theorem dX3_measureAt_56 : decode cX3_measureAt 56 = .ok (.imul, 1) := by decide +kernel
theorem dX3_measureAt_57 : decode cX3_measureAt 57 = .ok (.iconst 2, 1) := by decide +kernel
theorem dX3_measureAt_58 : decode cX3_measureAt 58 = .ok (.iadd, 1) := by decide +kernel
theorem dX3_measureAt_59 : decode cX3_measureAt 59 = .ok (.iaload, 1) := by decide +kernel
theorem dX3_measureAt_60 : decode cX3_measureAt 60 = .ok (.invokevirtual 98, 3) := by decide +kernel
theorem dX3_measureAt_63 : decode cX3_measureAt 63 = .ok (.aload_n 0, 1) := by decide +kernel
theorem dX3_measureAt_64 : decode cX3_measureAt 64 = .ok (.getfield 50, 3) := by decide +kernel
theorem dX3_measureAt_67 : decode cX3_measureAt 67 = .ok (.aload_n 0, 1) := by decide +kernel
theorem dX3_measureAt_68 : decode cX3_measureAt 68 = .ok (.getfield 25, 3) := by decide +kernel
theorem dX3_measureAt_71 : decode cX3_measureAt 71 = .ok (.invokevirtual 101, 3) := by decide +kernel
theorem dX3_measureAt_74 : decode cX3_measureAt 74 = .ok (.ifCond .ne 30, 3) := by decide +kernel
theorem dX3_measureAt_77 : decode cX3_measureAt 77 = .ok (.lload 4, 2) := by decide +kernel
theorem dX3_measureAt_79 : decode cX3_measureAt 79 = .ok (.aload_n 0, 1) := by decide +kernel
theorem dX3_measureAt_80 : decode cX3_measureAt 80 = .ok (.getfield 50, 3) := by decide +kernel
theorem dX3_measureAt_83 : decode cX3_measureAt 83 = .ok (.getfield 111, 3) := by decide +kernel
theorem dX3_measureAt_86 : decode cX3_measureAt 86 = .ok (.i2l, 1) := by decide +kernel
theorem dX3_measureAt_87 : decode cX3_measureAt 87 = .ok (.aload_n 0, 1) := by decide +kernel
theorem dX3_measureAt_88 : decode cX3_measureAt 88 = .ok (.getfield 29, 3) := by decide +kernel
theorem dX3_measureAt_91 : decode cX3_measureAt 91 = .ok (.aload_n 0, 1) := by decide +kernel
theorem dX3_measureAt_92 : decode cX3_measureAt 92 = .ok (.getfield 50, 3) := by decide +kernel
theorem dX3_measureAt_95 : decode cX3_measureAt 95 = .ok (.invokevirtual 147, 3) := by decide +kernel
theorem dX3_measureAt_98 : decode cX3_measureAt 98 = .ok (.iaload, 1) := by decide +kernel
theorem dX3_measureAt_99 : decode cX3_measureAt 99 = .ok (.i2l, 1) := by decide +kernel
theorem dX3_measureAt_100 : decode cX3_measureAt 100 = .ok (.lmul, 1) := by decide +kernel
theorem dX3_measureAt_101 : decode cX3_measureAt 101 = .ok (.ladd, 1) := by decide +kernel
theorem dX3_measureAt_102 : decode cX3_measureAt 102 = .ok (.lstore 4, 2) := by decide +kernel
theorem dX3_measureAt_104 : decode cX3_measureAt 104 = .ok (.iinc 6 1, 3) := by decide +kernel
theorem dX3_measureAt_107 : decode cX3_measureAt 107 = .ok (.goto (-101), 3) := by decide +kernel
theorem dX3_measureAt_110 : decode cX3_measureAt 110 = .ok (.lload 4, 2) := by decide +kernel
theorem dX3_measureAt_112 : decode cX3_measureAt 112 = .ok (.lreturn, 1) := by decide +kernel
theorem dX2_octant_0 : decode cX2_octant 0 = .ok (.aload_n 0, 1) := by decide +kernel
theorem dX2_octant_1 : decode cX2_octant 1 = .ok (.getfield 15, 3) := by decide +kernel
theorem dX2_octant_4 : decode cX2_octant 4 = .ok (.iconst 0, 1) := by decide +kernel
theorem dX2_octant_5 : decode cX2_octant 5 = .ok (.iaload, 1) := by decide +kernel
theorem dX2_octant_6 : decode cX2_octant 6 = .ok (.ifCond .ge 7, 3) := by decide +kernel
theorem dX2_octant_9 : decode cX2_octant 9 = .ok (.iconst 4, 1) := by decide +kernel
theorem dX2_octant_10 : decode cX2_octant 10 = .ok (.goto 4, 3) := by decide +kernel
theorem dX2_octant_13 : decode cX2_octant 13 = .ok (.iconst 0, 1) := by decide +kernel
theorem dX2_octant_14 : decode cX2_octant 14 = .ok (.aload_n 0, 1) := by decide +kernel
theorem dX2_octant_15 : decode cX2_octant 15 = .ok (.getfield 15, 3) := by decide +kernel
theorem dX2_octant_18 : decode cX2_octant 18 = .ok (.iconst 1, 1) := by decide +kernel
theorem dX2_octant_19 : decode cX2_octant 19 = .ok (.iaload, 1) := by decide +kernel
theorem dX2_octant_20 : decode cX2_octant 20 = .ok (.ifCond .ge 7, 3) := by decide +kernel
theorem dX2_octant_23 : decode cX2_octant 23 = .ok (.iconst 2, 1) := by decide +kernel
theorem dX2_octant_24 : decode cX2_octant 24 = .ok (.goto 4, 3) := by decide +kernel
theorem dX2_octant_27 : decode cX2_octant 27 = .ok (.iconst 0, 1) := by decide +kernel
theorem dX2_octant_28 : decode cX2_octant 28 = .ok (.iadd, 1) := by decide +kernel
theorem dX2_octant_29 : decode cX2_octant 29 = .ok (.aload_n 0, 1) := by decide +kernel
theorem dX2_octant_30 : decode cX2_octant 30 = .ok (.getfield 15, 3) := by decide +kernel
theorem dX2_octant_33 : decode cX2_octant 33 = .ok (.iconst 2, 1) := by decide +kernel
theorem dX2_octant_34 : decode cX2_octant 34 = .ok (.iaload, 1) := by decide +kernel
theorem dX2_octant_35 : decode cX2_octant 35 = .ok (.ifCond .ge 7, 3) := by decide +kernel
theorem dX2_octant_38 : decode cX2_octant 38 = .ok (.iconst 1, 1) := by decide +kernel
theorem dX2_octant_39 : decode cX2_octant 39 = .ok (.goto 4, 3) := by decide +kernel
theorem dX2_octant_42 : decode cX2_octant 42 = .ok (.iconst 0, 1) := by decide +kernel
theorem dX2_octant_43 : decode cX2_octant 43 = .ok (.iadd, 1) := by decide +kernel
theorem dX2_octant_44 : decode cX2_octant 44 = .ok (.ireturn, 1) := by decide +kernel
theorem dL_best_0 : decode cL_best 0 = .ok (.aload 8, 2) := by decide +kernel
theorem dL_best_2 : decode cL_best 2 = .ok (.iconst 0, 1) := by decide +kernel
theorem dL_best_3 : decode cL_best 3 = .ok (.aload_n 0, 1) := by decide +kernel
theorem dL_best_4 : decode cL_best 4 = .ok (.iload_n 1, 1) := by decide +kernel
theorem dL_best_5 : decode cL_best 5 = .ok (.iload_n 2, 1) := by decide +kernel
theorem dL_best_6 : decode cL_best 6 = .ok (.iload_n 3, 1) := by decide +kernel
theorem dL_best_7 : decode cL_best 7 = .ok (.iload 4, 2) := by decide +kernel
theorem dL_best_9 : decode cL_best 9 = .ok (.iload 5, 2) := by decide +kernel
theorem dL_best_11 : decode cL_best 11 = .ok (.iload 6, 2) := by decide +kernel
theorem dL_best_13 : decode cL_best 13 = .ok (.iload 7, 2) := by decide +kernel
theorem dL_best_15 : decode cL_best 15 = .ok (.invokevirtual 49, 3) := by decide +kernel
theorem dL_best_18 : decode cL_best 18 = .ok (.i2l, 1) := by decide +kernel
theorem dL_best_19 : decode cL_best 19 = .ok (.lastore, 1) := by decide +kernel
theorem dL_best_20 : decode cL_best 20 = .ok (.goto 7, 3) := by decide +kernel
theorem dL_best_23 : decode cL_best 23 = .ok (.astore 9, 2) := by decide +kernel
theorem dL_best_25 : decode cL_best 25 = .ok (.iconst 1, 1) := by decide +kernel
theorem dL_best_26 : decode cL_best 26 = .ok (.ireturn, 1) := by decide +kernel
theorem dL_best_27 : decode cL_best 27 = .ok (.iconst 0, 1) := by decide +kernel
theorem dL_best_28 : decode cL_best 28 = .ok (.ireturn, 1) := by decide +kernel
theorem dX3_best_0 : decode cX3_best 0 = .ok (.aload_n 0, 1) := by decide +kernel
theorem dX3_best_1 : decode cX3_best 1 = .ok (.iload_n 1, 1) := by decide +kernel
theorem dX3_best_2 : decode cX3_best 2 = .ok (.iload_n 2, 1) := by decide +kernel
theorem dX3_best_3 : decode cX3_best 3 = .ok (.iload_n 3, 1) := by decide +kernel
theorem dX3_best_4 : decode cX3_best 4 = .ok (.invokevirtual 53, 3) := by decide +kernel
theorem dX3_best_7 : decode cX3_best 7 = .ok (.iload 4, 2) := by decide +kernel
theorem dX3_best_9 : decode cX3_best 9 = .ok (.iconst 1, 1) := by decide +kernel
theorem dX3_best_10 : decode cX3_best 10 = .ok (.bipush 8, 2) := by decide +kernel
theorem dX3_best_12 : decode cX3_best 12 = .ok (.invokestatic 79, 3) := by decide +kernel
theorem dX3_best_15 : decode cX3_best 15 = .ok (.iload 5, 2) := by decide +kernel
theorem dX3_best_17 : decode cX3_best 17 = .ok (.iconst 1, 1) := by decide +kernel
theorem dX3_best_18 : decode cX3_best 18 = .ok (.bipush 8, 2) := by decide +kernel
theorem dX3_best_20 : decode cX3_best 20 = .ok (.invokestatic 79, 3) := by decide +kernel
theorem dX3_best_23 : decode cX3_best 23 = .ok (.iload 6, 2) := by decide +kernel
theorem dX3_best_25 : decode cX3_best 25 = .ok (.iconst 1, 1) := by decide +kernel
theorem dX3_best_26 : decode cX3_best 26 = .ok (.bipush 100, 2) := by decide +kernel
theorem dX3_best_28 : decode cX3_best 28 = .ok (.invokestatic 79, 3) := by decide +kernel
theorem dX3_best_31 : decode cX3_best 31 = .ok (.iload 7, 2) := by decide +kernel
theorem dX3_best_33 : decode cX3_best 33 = .ok (.iconst 0, 1) := by decide +kernel
theorem dX3_best_34 : decode cX3_best 34 = .ok (.iconst 1, 1) := by decide +kernel
theorem dX3_best_35 : decode cX3_best 35 = .ok (.invokestatic 79, 3) := by decide +kernel
theorem dX3_best_38 : decode cX3_best 38 = .ok (.aload_n 0, 1) := by decide +kernel
theorem dX3_best_39 : decode cX3_best 39 = .ok (.iload_n 1, 1) := by decide +kernel
theorem dX3_best_40 : decode cX3_best 40 = .ok (.iload 4, 2) := by decide +kernel
theorem dX3_best_42 : decode cX3_best 42 = .ok (.iconst 1, 1) := by decide +kernel
theorem dX3_best_43 : decode cX3_best 43 = .ok (.isub, 1) := by decide +kernel
theorem dX3_best_44 : decode cX3_best 44 = .ok (.iload 6, 2) := by decide +kernel
theorem dX3_best_46 : decode cX3_best 46 = .ok (.imul, 1) := by decide +kernel
theorem dX3_best_47 : decode cX3_best 47 = .ok (.iadd, 1) := by decide +kernel
theorem dX3_best_48 : decode cX3_best 48 = .ok (.iload_n 2, 1) := by decide +kernel
theorem dX3_best_49 : decode cX3_best 49 = .ok (.iload 5, 2) := by decide +kernel
theorem dX3_best_51 : decode cX3_best 51 = .ok (.iconst 1, 1) := by decide +kernel
theorem dX3_best_52 : decode cX3_best 52 = .ok (.isub, 1) := by decide +kernel
theorem dX3_best_53 : decode cX3_best 53 = .ok (.iload 6, 2) := by decide +kernel
theorem dX3_best_55 : decode cX3_best 55 = .ok (.imul, 1) := by decide +kernel
theorem dX3_best_56 : decode cX3_best 56 = .ok (.iadd, 1) := by decide +kernel
theorem dX3_best_57 : decode cX3_best 57 = .ok (.iload_n 3, 1) := by decide +kernel
theorem dX3_best_58 : decode cX3_best 58 = .ok (.invokevirtual 53, 3) := by decide +kernel
theorem dX3_best_61 : decode cX3_best 61 = .ok (.iconst 0, 1) := by decide +kernel
theorem dX3_best_62 : decode cX3_best 62 = .ok (.istore 8, 2) := by decide +kernel
theorem dX3_best_64 : decode cX3_best 64 = .ok (.iconst 0, 1) := by decide +kernel
theorem dX3_best_65 : decode cX3_best 65 = .ok (.istore 9, 2) := by decide +kernel
theorem dX3_best_67 : decode cX3_best 67 = .ok (.ldc2_w 145, 3) := by decide +kernel
theorem dX3_best_70 : decode cX3_best 70 = .ok (.lstore 10, 2) := by decide +kernel
theorem dX3_best_72 : decode cX3_best 72 = .ok (.iconst 0, 1) := by decide +kernel
theorem dX3_best_73 : decode cX3_best 73 = .ok (.istore 12, 2) := by decide +kernel
theorem dX3_best_75 : decode cX3_best 75 = .ok (.iload 12, 2) := by decide +kernel
theorem dX3_best_77 : decode cX3_best 77 = .ok (.iload 5, 2) := by decide +kernel
theorem dX3_best_79 : decode cX3_best 79 = .ok (.if_icmp .ge 66, 3) := by decide +kernel
theorem dX3_best_82 : decode cX3_best 82 = .ok (.iconst 0, 1) := by decide +kernel
theorem dX3_best_83 : decode cX3_best 83 = .ok (.istore 13, 2) := by decide +kernel
theorem dX3_best_85 : decode cX3_best 85 = .ok (.iload 13, 2) := by decide +kernel
theorem dX3_best_87 : decode cX3_best 87 = .ok (.iload 4, 2) := by decide +kernel
theorem dX3_best_89 : decode cX3_best 89 = .ok (.if_icmp .ge 50, 3) := by decide +kernel
theorem dX3_best_92 : decode cX3_best 92 = .ok (.aload_n 0, 1) := by decide +kernel
theorem dX3_best_93 : decode cX3_best 93 = .ok (.iload_n 1, 1) := by decide +kernel
theorem dX3_best_94 : decode cX3_best 94 = .ok (.iload 13, 2) := by decide +kernel
theorem dX3_best_96 : decode cX3_best 96 = .ok (.iload 6, 2) := by decide +kernel
theorem dX3_best_98 : decode cX3_best 98 = .ok (.imul, 1) := by decide +kernel
theorem dX3_best_99 : decode cX3_best 99 = .ok (.iadd, 1) := by decide +kernel
theorem dX3_best_100 : decode cX3_best 100 = .ok (.iload_n 2, 1) := by decide +kernel
theorem dX3_best_101 : decode cX3_best 101 = .ok (.iload 12, 2) := by decide +kernel
theorem dX3_best_103 : decode cX3_best 103 = .ok (.iload 6, 2) := by decide +kernel
theorem dX3_best_105 : decode cX3_best 105 = .ok (.imul, 1) := by decide +kernel
theorem dX3_best_106 : decode cX3_best 106 = .ok (.iadd, 1) := by decide +kernel
theorem dX3_best_107 : decode cX3_best 107 = .ok (.iload_n 3, 1) := by decide +kernel
theorem dX3_best_108 : decode cX3_best 108 = .ok (.invokevirtual 141, 3) := by decide +kernel
theorem dX3_best_111 : decode cX3_best 111 = .ok (.lstore 14, 2) := by decide +kernel
theorem dX3_best_113 : decode cX3_best 113 = .ok (.lload 14, 2) := by decide +kernel
theorem dX3_best_115 : decode cX3_best 115 = .ok (.lload 10, 2) := by decide +kernel
theorem dX3_best_117 : decode cX3_best 117 = .ok (.lcmp, 1) := by decide +kernel
theorem dX3_best_118 : decode cX3_best 118 = .ok (.ifCond .le 15, 3) := by decide +kernel
theorem dX3_best_121 : decode cX3_best 121 = .ok (.lload 14, 2) := by decide +kernel
theorem dX3_best_123 : decode cX3_best 123 = .ok (.lstore 10, 2) := by decide +kernel
theorem dX3_best_125 : decode cX3_best 125 = .ok (.iload 13, 2) := by decide +kernel
theorem dX3_best_127 : decode cX3_best 127 = .ok (.istore 8, 2) := by decide +kernel
theorem dX3_best_129 : decode cX3_best 129 = .ok (.iload 12, 2) := by decide +kernel
theorem dX3_best_131 : decode cX3_best 131 = .ok (.istore 9, 2) := by decide +kernel
theorem dX3_best_133 : decode cX3_best 133 = .ok (.iinc 13 1, 3) := by decide +kernel
theorem dX3_best_136 : decode cX3_best 136 = .ok (.goto (-51), 3) := by decide +kernel
theorem dX3_best_139 : decode cX3_best 139 = .ok (.iinc 12 1, 3) := by decide +kernel
theorem dX3_best_142 : decode cX3_best 142 = .ok (.goto (-67), 3) := by decide +kernel
theorem dX3_best_145 : decode cX3_best 145 = .ok (.iload 7, 2) := by decide +kernel
theorem dX3_best_147 : decode cX3_best 147 = .ok (.ifCond .ne 8, 3) := by decide +kernel
theorem dX3_best_150 : decode cX3_best 150 = .ok (.iload 8, 2) := by decide +kernel
theorem dX3_best_152 : decode cX3_best 152 = .ok (.goto 5, 3) := by decide +kernel
theorem dX3_best_155 : decode cX3_best 155 = .ok (.iload 9, 2) := by decide +kernel
theorem dX3_best_157 : decode cX3_best 157 = .ok (.ireturn, 1) := by decide +kernel
theorem dX4_init_0 : decode cX4_init 0 = .ok (.aload_n 0, 1) := by decide +kernel
theorem dX4_init_1 : decode cX4_init 1 = .ok (.invokespecial 1, 3) := by decide +kernel
theorem dX4_init_4 : decode cX4_init 4 = .ok (.aload_n 0, 1) := by decide +kernel
theorem dX4_init_5 : decode cX4_init 5 = .ok (.bipush 120, 2) := by decide +kernel
theorem dX4_init_7 : decode cX4_init 7 = .ok (.newarray .int, 2) := by decide +kernel
theorem dX4_init_9 : decode cX4_init 9 = .ok (.putfield 7, 3) := by decide +kernel
theorem dX4_init_12 : decode cX4_init 12 = .ok (.aload_n 0, 1) := by decide +kernel
theorem dX4_init_13 : decode cX4_init 13 = .ok (.bipush 20, 2) := by decide +kernel
theorem dX4_init_15 : decode cX4_init 15 = .ok (.newarray .int, 2) := by decide +kernel
theorem dX4_init_17 : decode cX4_init 17 = .ok (.putfield 13, 3) := by decide +kernel
theorem dX4_init_20 : decode cX4_init 20 = .ok (.aload_n 0, 1) := by decide +kernel
theorem dX4_init_21 : decode cX4_init 21 = .ok (.bipush 20, 2) := by decide +kernel
theorem dX4_init_23 : decode cX4_init 23 = .ok (.newarray .int, 2) := by decide +kernel
theorem dX4_init_25 : decode cX4_init 25 = .ok (.putfield 16, 3) := by decide +kernel
theorem dX4_init_28 : decode cX4_init 28 = .ok (.aload_n 0, 1) := by decide +kernel
theorem dX4_init_29 : decode cX4_init 29 = .ok (.bipush 20, 2) := by decide +kernel
theorem dX4_init_31 : decode cX4_init 31 = .ok (.newarray .boolean, 2) := by decide +kernel
theorem dX4_init_33 : decode cX4_init 33 = .ok (.putfield 19, 3) := by decide +kernel
theorem dX4_init_36 : decode cX4_init 36 = .ok (.aload_n 0, 1) := by decide +kernel
theorem dX4_init_37 : decode cX4_init 37 = .ok (.iconst 3, 1) := by decide +kernel
theorem dX4_init_38 : decode cX4_init 38 = .ok (.newarray .int, 2) := by decide +kernel
theorem dX4_init_40 : decode cX4_init 40 = .ok (.putfield 23, 3) := by decide +kernel
theorem dX4_init_43 : decode cX4_init 43 = .ok (.aload_n 0, 1) := by decide +kernel
theorem dX4_init_44 : decode cX4_init 44 = .ok (.iconst 3, 1) := by decide +kernel
theorem dX4_init_45 : decode cX4_init 45 = .ok (.newarray .int, 2) := by decide +kernel
theorem dX4_init_47 : decode cX4_init 47 = .ok (.putfield 26, 3) := by decide +kernel
theorem dX4_init_50 : decode cX4_init 50 = .ok (.aload_n 0, 1) := by decide +kernel
theorem dX4_init_51 : decode cX4_init 51 = .ok (.iconst 3, 1) := by decide +kernel
theorem dX4_init_52 : decode cX4_init 52 = .ok (.newarray .int, 2) := by decide +kernel
theorem dX4_init_54 : decode cX4_init 54 = .ok (.putfield 29, 3) := by decide +kernel
theorem dX4_init_57 : decode cX4_init 57 = .ok (.aload_n 0, 1) := by decide +kernel
theorem dX4_init_58 : decode cX4_init 58 = .ok (.iconst 3, 1) := by decide +kernel
theorem dX4_init_59 : decode cX4_init 59 = .ok (.newarray .int, 2) := by decide +kernel
theorem dX4_init_61 : decode cX4_init 61 = .ok (.putfield 32, 3) := by decide +kernel
theorem dX4_init_64 : decode cX4_init 64 = .ok (.aload_n 0, 1) := by decide +kernel
theorem dX4_init_65 : decode cX4_init 65 = .ok (.bipush 30, 2) := by decide +kernel
theorem dX4_init_67 : decode cX4_init 67 = .ok (.newarray .int, 2) := by decide +kernel
theorem dX4_init_69 : decode cX4_init 69 = .ok (.putfield 35, 3) := by decide +kernel
theorem dX4_init_72 : decode cX4_init 72 = .ok (.aload_n 0, 1) := by decide +kernel
theorem dX4_init_73 : decode cX4_init 73 = .ok (.bipush 30, 2) := by decide +kernel
theorem dX4_init_75 : decode cX4_init 75 = .ok (.newarray .int, 2) := by decide +kernel
theorem dX4_init_77 : decode cX4_init 77 = .ok (.putfield 38, 3) := by decide +kernel
theorem dX4_init_80 : decode cX4_init 80 = .ok (.aload_n 0, 1) := by decide +kernel
theorem dX4_init_81 : decode cX4_init 81 = .ok (.bipush 30, 2) := by decide +kernel
theorem dX4_init_83 : decode cX4_init 83 = .ok (.newarray .long, 2) := by decide +kernel
theorem dX4_init_85 : decode cX4_init 85 = .ok (.putfield 41, 3) := by decide +kernel
theorem dX4_init_88 : decode cX4_init 88 = .ok (.aload_n 0, 1) := by decide +kernel
theorem dX4_init_89 : decode cX4_init 89 = .ok (.bipush 30, 2) := by decide +kernel
theorem dX4_init_91 : decode cX4_init 91 = .ok (.newarray .long, 2) := by decide +kernel
theorem dX4_init_93 : decode cX4_init 93 = .ok (.putfield 45, 3) := by decide +kernel
theorem dX4_init_96 : decode cX4_init 96 = .ok (.aload_n 0, 1) := by decide +kernel
theorem dX4_init_97 : decode cX4_init 97 = .ok (.bipush 90, 2) := by decide +kernel
theorem dX4_init_99 : decode cX4_init 99 = .ok (.newarray .long, 2) := by decide +kernel
theorem dX4_init_101 : decode cX4_init 101 = .ok (.putfield 48, 3) := by decide +kernel
theorem dX4_init_104 : decode cX4_init 104 = .ok (.aload_n 0, 1) := by decide +kernel
theorem dX4_init_105 : decode cX4_init 105 = .ok (.iconst 3, 1) := by decide +kernel
theorem dX4_init_106 : decode cX4_init 106 = .ok (.newarray .int, 2) := by decide +kernel
theorem dX4_init_108 : decode cX4_init 108 = .ok (.putfield 51, 3) := by decide +kernel
theorem dX4_init_111 : decode cX4_init 111 = .ok (.aload_n 0, 1) := by decide +kernel
theorem dX4_init_112 : decode cX4_init 112 = .ok (.bipush 30, 2) := by decide +kernel
theorem dX4_init_114 : decode cX4_init 114 = .ok (.newarray .int, 2) := by decide +kernel
theorem dX4_init_116 : decode cX4_init 116 = .ok (.putfield 54, 3) := by decide +kernel
theorem dX4_init_119 : decode cX4_init 119 = .ok (.aload_n 0, 1) := by decide +kernel
theorem dX4_init_120 : decode cX4_init 120 = .ok (.bipush 30, 2) := by decide +kernel
theorem dX4_init_122 : decode cX4_init 122 = .ok (.newarray .int, 2) := by decide +kernel
theorem dX4_init_124 : decode cX4_init 124 = .ok (.putfield 57, 3) := by decide +kernel
theorem dX4_init_127 : decode cX4_init 127 = .ok (.aload_n 0, 1) := by decide +kernel
theorem dX4_init_128 : decode cX4_init 128 = .ok (.bipush 30, 2) := by decide +kernel
theorem dX4_init_130 : decode cX4_init 130 = .ok (.newarray .long, 2) := by decide +kernel
theorem dX4_init_132 : decode cX4_init 132 = .ok (.putfield 60, 3) := by decide +kernel
theorem dX4_init_135 : decode cX4_init 135 = .ok (.aload_n 0, 1) := by decide +kernel
theorem dX4_init_136 : decode cX4_init 136 = .ok (.bipush 30, 2) := by decide +kernel
theorem dX4_init_138 : decode cX4_init 138 = .ok (.newarray .long, 2) := by decide +kernel
theorem dX4_init_140 : decode cX4_init 140 = .ok (.putfield 63, 3) := by decide +kernel
theorem dX4_init_143 : decode cX4_init 143 = .ok (.aload_n 0, 1) := by decide +kernel
theorem dX4_init_144 : decode cX4_init 144 = .ok (.bipush 90, 2) := by decide +kernel
theorem dX4_init_146 : decode cX4_init 146 = .ok (.newarray .long, 2) := by decide +kernel
theorem dX4_init_148 : decode cX4_init 148 = .ok (.putfield 66, 3) := by decide +kernel
theorem dX4_init_151 : decode cX4_init 151 = .ok (.aload_n 0, 1) := by decide +kernel
theorem dX4_init_152 : decode cX4_init 152 = .ok (.bipush 8, 2) := by decide +kernel
theorem dX4_init_154 : decode cX4_init 154 = .ok (.newarray .int, 2) := by decide +kernel
theorem dX4_init_156 : decode cX4_init 156 = .ok (.putfield 69, 3) := by decide +kernel
theorem dX4_init_159 : decode cX4_init 159 = .ok (.aload_n 0, 1) := by decide +kernel
theorem dX4_init_160 : decode cX4_init 160 = .ok (.bipush 120, 2) := by decide +kernel
theorem dX4_init_162 : decode cX4_init 162 = .ok (.newarray .int, 2) := by decide +kernel
theorem dX4_init_164 : decode cX4_init 164 = .ok (.putfield 72, 3) := by decide +kernel
theorem dX4_init_167 : decode cX4_init 167 = .ok (.aload_n 0, 1) := by decide +kernel
theorem dX4_init_168 : decode cX4_init 168 = .ok (.iload_n 1, 1) := by decide +kernel
theorem dX4_init_169 : decode cX4_init 169 = .ok (.iconst 1, 1) := by decide +kernel
theorem dX4_init_170 : decode cX4_init 170 = .ok (.if_icmp .ge 7, 3) := by decide +kernel
theorem dX4_init_173 : decode cX4_init 173 = .ok (.iconst 1, 1) := by decide +kernel
theorem dX4_init_174 : decode cX4_init 174 = .ok (.goto 17, 3) := by decide +kernel
theorem dX4_init_177 : decode cX4_init 177 = .ok (.iload_n 1, 1) := by decide +kernel
theorem dX4_init_178 : decode cX4_init 178 = .ok (.sipush 1000, 3) := by decide +kernel
theorem dX4_init_181 : decode cX4_init 181 = .ok (.if_icmp .le 9, 3) := by decide +kernel
theorem dX4_init_184 : decode cX4_init 184 = .ok (.sipush 1000, 3) := by decide +kernel
theorem dX4_init_187 : decode cX4_init 187 = .ok (.goto 4, 3) := by decide +kernel
theorem dX4_init_190 : decode cX4_init 190 = .ok (.iload_n 1, 1) := by decide +kernel
theorem dX4_init_191 : decode cX4_init 191 = .ok (.putfield 75, 3) := by decide +kernel
theorem dX4_init_194 : decode cX4_init 194 = .ok (.return_, 1) := by decide +kernel
theorem dX4_thrown_0 : decode cX4_thrown 0 = .ok (.aload_n 0, 1) := by decide +kernel
theorem dX4_thrown_1 : decode cX4_thrown 1 = .ok (.getfield 79, 3) := by decide +kernel
theorem dX4_thrown_4 : decode cX4_thrown 4 = .ok (.ireturn, 1) := by decide +kernel
theorem dX4_box_0 : decode cX4_box 0 = .ok (.aload_n 0, 1) := by decide +kernel
theorem dX4_box_1 : decode cX4_box 1 = .ok (.iload_n 1, 1) := by decide +kernel
theorem dX4_box_2 : decode cX4_box 2 = .ok (.iload_n 2, 1) := by decide +kernel
theorem dX4_box_3 : decode cX4_box 3 = .ok (.iload_n 3, 1) := by decide +kernel
theorem dX4_box_4 : decode cX4_box 4 = .ok (.invokevirtual 93, 3) := by decide +kernel
theorem dX4_box_7 : decode cX4_box 7 = .ok (.ifCond .eq 38, 3) := by decide +kernel
theorem dX4_box_10 : decode cX4_box 10 = .ok (.aload_n 0, 1) := by decide +kernel
theorem dX4_box_11 : decode cX4_box 11 = .ok (.iload 4, 2) := by decide +kernel
theorem dX4_box_13 : decode cX4_box 13 = .ok (.iload 5, 2) := by decide +kernel
theorem dX4_box_15 : decode cX4_box 15 = .ok (.iload 6, 2) := by decide +kernel
theorem dX4_box_17 : decode cX4_box 17 = .ok (.invokevirtual 93, 3) := by decide +kernel
theorem dX4_box_20 : decode cX4_box 20 = .ok (.ifCond .eq 25, 3) := by decide +kernel
theorem dX4_box_23 : decode cX4_box 23 = .ok (.iload_n 1, 1) := by decide +kernel
theorem dX4_box_24 : decode cX4_box 24 = .ok (.iload 4, 2) := by decide +kernel
theorem dX4_box_26 : decode cX4_box 26 = .ok (.if_icmp .ge 19, 3) := by decide +kernel
theorem dX4_box_29 : decode cX4_box 29 = .ok (.iload_n 2, 1) := by decide +kernel
theorem dX4_box_30 : decode cX4_box 30 = .ok (.iload 5, 2) := by decide +kernel
theorem dX4_box_32 : decode cX4_box 32 = .ok (.if_icmp .ge 13, 3) := by decide +kernel
theorem dX4_box_35 : decode cX4_box 35 = .ok (.iload_n 3, 1) := by decide +kernel
theorem dX4_box_36 : decode cX4_box 36 = .ok (.iload 6, 2) := by decide +kernel
theorem dX4_box_38 : decode cX4_box 38 = .ok (.if_icmp .ge 7, 3) := by decide +kernel
theorem dX4_box_41 : decode cX4_box 41 = .ok (.iconst 1, 1) := by decide +kernel
theorem dX4_box_42 : decode cX4_box 42 = .ok (.goto 4, 3) := by decide +kernel
theorem dX4_box_45 : decode cX4_box 45 = .ok (.iconst 0, 1) := by decide +kernel
theorem dX4_box_46 : decode cX4_box 46 = .ok (.istore 7, 2) := by decide +kernel
theorem dX4_box_48 : decode cX4_box 48 = .ok (.aload_n 0, 1) := by decide +kernel
theorem dX4_box_49 : decode cX4_box 49 = .ok (.iload 7, 2) := by decide +kernel
theorem dX4_box_51 : decode cX4_box 51 = .ok (.ifCond .ne 7, 3) := by decide +kernel
theorem dX4_box_54 : decode cX4_box 54 = .ok (.iconst 1, 1) := by decide +kernel
theorem dX4_box_55 : decode cX4_box 55 = .ok (.goto 17, 3) := by decide +kernel
theorem dX4_box_58 : decode cX4_box 58 = .ok (.aload_n 0, 1) := by decide +kernel
theorem dX4_box_59 : decode cX4_box 59 = .ok (.getfield 90, 3) := by decide +kernel
theorem dX4_box_62 : decode cX4_box 62 = .ok (.bipush 20, 2) := by decide +kernel
theorem dX4_box_64 : decode cX4_box 64 = .ok (.if_icmp .ne 7, 3) := by decide +kernel
theorem dX4_box_67 : decode cX4_box 67 = .ok (.iconst 2, 1) := by decide +kernel
theorem dX4_box_68 : decode cX4_box 68 = .ok (.goto 4, 3) := by decide +kernel
theorem dX4_box_71 : decode cX4_box 71 = .ok (.iconst 0, 1) := by decide +kernel
theorem dX4_box_72 : decode cX4_box 72 = .ok (.putfield 79, 3) := by decide +kernel
theorem dX4_box_75 : decode cX4_box 75 = .ok (.aload_n 0, 1) := by decide +kernel
theorem dX4_box_76 : decode cX4_box 76 = .ok (.getfield 79, 3) := by decide +kernel
theorem dX4_box_79 : decode cX4_box 79 = .ok (.ifCond .le 5, 3) := by decide +kernel
theorem dX4_box_82 : decode cX4_box 82 = .ok (.iconst 0, 1) := by decide +kernel
theorem dX4_box_83 : decode cX4_box 83 = .ok (.ireturn, 1) := by decide +kernel
theorem dX4_box_84 : decode cX4_box 84 = .ok (.bipush 6, 2) := by decide +kernel
theorem dX4_box_86 : decode cX4_box 86 = .ok (.aload_n 0, 1) := by decide +kernel
theorem dX4_box_87 : decode cX4_box 87 = .ok (.getfield 90, 3) := by decide +kernel
theorem dX4_box_90 : decode cX4_box 90 = .ok (.imul, 1) := by decide +kernel
theorem dX4_box_91 : decode cX4_box 91 = .ok (.istore 8, 2) := by decide +kernel
theorem dX4_box_93 : decode cX4_box 93 = .ok (.aload_n 0, 1) := by decide +kernel
theorem dX4_box_94 : decode cX4_box 94 = .ok (.getfield 7, 3) := by decide +kernel
theorem dX4_box_97 : decode cX4_box 97 = .ok (.iload 8, 2) := by decide +kernel
theorem dX4_box_99 : decode cX4_box 99 = .ok (.iload_n 1, 1) := by decide +kernel
theorem dX4_box_100 : decode cX4_box 100 = .ok (.iastore, 1) := by decide +kernel
theorem dX4_box_101 : decode cX4_box 101 = .ok (.aload_n 0, 1) := by decide +kernel
theorem dX4_box_102 : decode cX4_box 102 = .ok (.getfield 7, 3) := by decide +kernel
theorem dX4_box_105 : decode cX4_box 105 = .ok (.iload 8, 2) := by decide +kernel
theorem dX4_box_107 : decode cX4_box 107 = .ok (.iconst 1, 1) := by decide +kernel
theorem dX4_box_108 : decode cX4_box 108 = .ok (.iadd, 1) := by decide +kernel
theorem dX4_box_109 : decode cX4_box 109 = .ok (.iload_n 2, 1) := by decide +kernel
theorem dX4_box_110 : decode cX4_box 110 = .ok (.iastore, 1) := by decide +kernel
theorem dX4_box_111 : decode cX4_box 111 = .ok (.aload_n 0, 1) := by decide +kernel
theorem dX4_box_112 : decode cX4_box 112 = .ok (.getfield 7, 3) := by decide +kernel
theorem dX4_box_115 : decode cX4_box 115 = .ok (.iload 8, 2) := by decide +kernel
theorem dX4_box_117 : decode cX4_box 117 = .ok (.iconst 2, 1) := by decide +kernel
theorem dX4_box_118 : decode cX4_box 118 = .ok (.iadd, 1) := by decide +kernel
theorem dX4_box_119 : decode cX4_box 119 = .ok (.iload_n 3, 1) := by decide +kernel
theorem dX4_box_120 : decode cX4_box 120 = .ok (.iastore, 1) := by decide +kernel
theorem dX4_box_121 : decode cX4_box 121 = .ok (.aload_n 0, 1) := by decide +kernel
theorem dX4_box_122 : decode cX4_box 122 = .ok (.getfield 7, 3) := by decide +kernel
theorem dX4_box_125 : decode cX4_box 125 = .ok (.iload 8, 2) := by decide +kernel
theorem dX4_box_127 : decode cX4_box 127 = .ok (.iconst 3, 1) := by decide +kernel
theorem dX4_box_128 : decode cX4_box 128 = .ok (.iadd, 1) := by decide +kernel
theorem dX4_box_129 : decode cX4_box 129 = .ok (.iload 4, 2) := by decide +kernel
theorem dX4_box_131 : decode cX4_box 131 = .ok (.iastore, 1) := by decide +kernel
theorem dX4_box_132 : decode cX4_box 132 = .ok (.aload_n 0, 1) := by decide +kernel
theorem dX4_box_133 : decode cX4_box 133 = .ok (.getfield 7, 3) := by decide +kernel
theorem dX4_box_136 : decode cX4_box 136 = .ok (.iload 8, 2) := by decide +kernel
theorem dX4_box_138 : decode cX4_box 138 = .ok (.iconst 4, 1) := by decide +kernel
theorem dX4_box_139 : decode cX4_box 139 = .ok (.iadd, 1) := by decide +kernel
theorem dX4_box_140 : decode cX4_box 140 = .ok (.iload 5, 2) := by decide +kernel
theorem dX4_box_142 : decode cX4_box 142 = .ok (.iastore, 1) := by decide +kernel
theorem dX4_box_143 : decode cX4_box 143 = .ok (.aload_n 0, 1) := by decide +kernel
theorem dX4_box_144 : decode cX4_box 144 = .ok (.getfield 7, 3) := by decide +kernel
theorem dX4_box_147 : decode cX4_box 147 = .ok (.iload 8, 2) := by decide +kernel
theorem dX4_box_149 : decode cX4_box 149 = .ok (.iconst 5, 1) := by decide +kernel
theorem dX4_box_150 : decode cX4_box 150 = .ok (.iadd, 1) := by decide +kernel
theorem dX4_box_151 : decode cX4_box 151 = .ok (.iload 6, 2) := by decide +kernel
theorem dX4_box_153 : decode cX4_box 153 = .ok (.iastore, 1) := by decide +kernel
theorem dX4_box_154 : decode cX4_box 154 = .ok (.aload_n 0, 1) := by decide +kernel
theorem dX4_box_155 : decode cX4_box 155 = .ok (.getfield 16, 3) := by decide +kernel
theorem dX4_box_158 : decode cX4_box 158 = .ok (.aload_n 0, 1) := by decide +kernel
theorem dX4_box_159 : decode cX4_box 159 = .ok (.getfield 90, 3) := by decide +kernel
theorem dX4_box_162 : decode cX4_box 162 = .ok (.sipush 1000, 3) := by decide +kernel
theorem dX4_box_165 : decode cX4_box 165 = .ok (.iastore, 1) := by decide +kernel
theorem dX4_box_166 : decode cX4_box 166 = .ok (.aload_n 0, 1) := by decide +kernel
theorem dX4_box_167 : decode cX4_box 167 = .ok (.dup, 1) := by decide +kernel
theorem dX4_box_168 : decode cX4_box 168 = .ok (.getfield 90, 3) := by decide +kernel
theorem dX4_box_171 : decode cX4_box 171 = .ok (.iconst 1, 1) := by decide +kernel
theorem dX4_box_172 : decode cX4_box 172 = .ok (.iadd, 1) := by decide +kernel
theorem dX4_box_173 : decode cX4_box 173 = .ok (.putfield 90, 3) := by decide +kernel
theorem dX4_box_176 : decode cX4_box 176 = .ok (.aload_n 0, 1) := by decide +kernel
theorem dX4_box_177 : decode cX4_box 177 = .ok (.getfield 90, 3) := by decide +kernel
theorem dX4_box_180 : decode cX4_box 180 = .ok (.iconst 1, 1) := by decide +kernel
theorem dX4_box_181 : decode cX4_box 181 = .ok (.isub, 1) := by decide +kernel
theorem dX4_box_182 : decode cX4_box 182 = .ok (.ireturn, 1) := by decide +kernel
theorem dX4_arePlaces_0 : decode cX4_arePlaces 0 = .ok (.aload_n 0, 1) := by decide +kernel
theorem dX4_arePlaces_1 : decode cX4_arePlaces 1 = .ok (.iload_n 1, 1) := by decide +kernel
theorem dX4_arePlaces_2 : decode cX4_arePlaces 2 = .ok (.invokevirtual 86, 3) := by decide +kernel
theorem dX4_arePlaces_5 : decode cX4_arePlaces 5 = .ok (.ifCond .eq 23, 3) := by decide +kernel
theorem dX4_arePlaces_8 : decode cX4_arePlaces 8 = .ok (.aload_n 0, 1) := by decide +kernel
theorem dX4_arePlaces_9 : decode cX4_arePlaces 9 = .ok (.iload_n 2, 1) := by decide +kernel
theorem dX4_arePlaces_10 : decode cX4_arePlaces 10 = .ok (.invokevirtual 86, 3) := by decide +kernel
theorem dX4_arePlaces_13 : decode cX4_arePlaces 13 = .ok (.ifCond .eq 15, 3) := by decide +kernel
theorem dX4_arePlaces_16 : decode cX4_arePlaces 16 = .ok (.aload_n 0, 1) := by decide +kernel
theorem dX4_arePlaces_17 : decode cX4_arePlaces 17 = .ok (.iload_n 3, 1) := by decide +kernel
theorem dX4_arePlaces_18 : decode cX4_arePlaces 18 = .ok (.invokevirtual 86, 3) := by decide +kernel
theorem dX4_arePlaces_21 : decode cX4_arePlaces 21 = .ok (.ifCond .eq 7, 3) := by decide +kernel
theorem dX4_arePlaces_24 : decode cX4_arePlaces 24 = .ok (.iconst 1, 1) := by decide +kernel
theorem dX4_arePlaces_25 : decode cX4_arePlaces 25 = .ok (.goto 4, 3) := by decide +kernel
theorem dX4_arePlaces_28 : decode cX4_arePlaces 28 = .ok (.iconst 0, 1) := by decide +kernel
theorem dX4_arePlaces_29 : decode cX4_arePlaces 29 = .ok (.ireturn, 1) := by decide +kernel
theorem dX4_isPlace_0 : decode cX4_isPlace 0 = .ok (.iload_n 1, 1) := by decide +kernel
theorem dX4_isPlace_1 : decode cX4_isPlace 1 = .ok (.aload_n 0, 1) := by decide +kernel
theorem dX4_isPlace_2 : decode cX4_isPlace 2 = .ok (.getfield 75, 3) := by decide +kernel
theorem dX4_isPlace_5 : decode cX4_isPlace 5 = .ok (.ineg, 1) := by decide +kernel
theorem dX4_isPlace_6 : decode cX4_isPlace 6 = .ok (.aload_n 0, 1) := by decide +kernel
theorem dX4_isPlace_7 : decode cX4_isPlace 7 = .ok (.getfield 75, 3) := by decide +kernel
theorem dX4_isPlace_10 : decode cX4_isPlace 10 = .ok (.invokestatic 82, 3) := by decide +kernel
theorem dX4_isPlace_13 : decode cX4_isPlace 13 = .ok (.ireturn, 1) := by decide +kernel
theorem dX4_in_0 : decode cX4_in 0 = .ok (.iload_n 0, 1) := by decide +kernel
theorem dX4_in_1 : decode cX4_in 1 = .ok (.iload_n 1, 1) := by decide +kernel
theorem dX4_in_2 : decode cX4_in 2 = .ok (.if_icmp .lt 12, 3) := by decide +kernel
theorem dX4_in_5 : decode cX4_in 5 = .ok (.iload_n 0, 1) := by decide +kernel
theorem dX4_in_6 : decode cX4_in 6 = .ok (.iload_n 2, 1) := by decide +kernel
theorem dX4_in_7 : decode cX4_in 7 = .ok (.if_icmp .gt 7, 3) := by decide +kernel
theorem dX4_in_10 : decode cX4_in 10 = .ok (.iconst 1, 1) := by decide +kernel
theorem dX4_in_11 : decode cX4_in 11 = .ok (.goto 4, 3) := by decide +kernel
theorem dX4_in_14 : decode cX4_in 14 = .ok (.iconst 0, 1) := by decide +kernel
theorem dX4_in_15 : decode cX4_in 15 = .ok (.ireturn, 1) := by decide +kernel
theorem dX4_kind_0 : decode cX4_kind 0 = .ok (.aload_n 0, 1) := by decide +kernel
theorem dX4_kind_1 : decode cX4_kind 1 = .ok (.aload_n 0, 1) := by decide +kernel
theorem dX4_kind_2 : decode cX4_kind 2 = .ok (.iload_n 1, 1) := by decide +kernel
theorem dX4_kind_3 : decode cX4_kind 3 = .ok (.invokevirtual 96, 3) := by decide +kernel
theorem dX4_kind_6 : decode cX4_kind 6 = .ok (.ifCond .eq 27, 3) := by decide +kernel
theorem dX4_kind_9 : decode cX4_kind 9 = .ok (.iload_n 2, 1) := by decide +kernel
theorem dX4_kind_10 : decode cX4_kind 10 = .ok (.iconst 0, 1) := by decide +kernel
theorem dX4_kind_11 : decode cX4_kind 11 = .ok (.iconst 2, 1) := by decide +kernel
theorem dX4_kind_12 : decode cX4_kind 12 = .ok (.invokestatic 82, 3) := by decide +kernel
theorem dX4_kind_15 : decode cX4_kind 15 = .ok (.ifCond .eq 18, 3) := by decide +kernel
theorem dX4_kind_18 : decode cX4_kind 18 = .ok (.iload_n 3, 1) := by decide +kernel
theorem dX4_kind_19 : decode cX4_kind 19 = .ok (.iconst 0, 1) := by decide +kernel
theorem dX4_kind_20 : decode cX4_kind 20 = .ok (.sipush 1000, 3) := by decide +kernel
theorem dX4_kind_23 : decode cX4_kind 23 = .ok (.invokestatic 82, 3) := by decide +kernel
theorem dX4_kind_26 : decode cX4_kind 26 = .ok (.ifCond .eq 7, 3) := by decide +kernel
theorem dX4_kind_29 : decode cX4_kind 29 = .ok (.iconst 0, 1) := by decide +kernel
theorem dX4_kind_30 : decode cX4_kind 30 = .ok (.goto 4, 3) := by decide +kernel
theorem dX4_kind_33 : decode cX4_kind 33 = .ok (.iconst 1, 1) := by decide +kernel
theorem dX4_kind_34 : decode cX4_kind 34 = .ok (.putfield 79, 3) := by decide +kernel
theorem dX4_kind_37 : decode cX4_kind 37 = .ok (.aload_n 0, 1) := by decide +kernel
theorem dX4_kind_38 : decode cX4_kind 38 = .ok (.getfield 79, 3) := by decide +kernel
theorem dX4_kind_41 : decode cX4_kind 41 = .ok (.ifCond .le 5, 3) := by decide +kernel
theorem dX4_kind_44 : decode cX4_kind 44 = .ok (.iconst 0, 1) := by decide +kernel
theorem dX4_kind_45 : decode cX4_kind 45 = .ok (.ireturn, 1) := by decide +kernel
theorem dX4_kind_46 : decode cX4_kind 46 = .ok (.aload_n 0, 1) := by decide +kernel
theorem dX4_kind_47 : decode cX4_kind 47 = .ok (.getfield 13, 3) := by decide +kernel
theorem dX4_kind_50 : decode cX4_kind 50 = .ok (.iload_n 1, 1) := by decide +kernel
theorem dX4_kind_51 : decode cX4_kind 51 = .ok (.iaload, 1) := by decide +kernel
theorem dX4_kind_52 : decode cX4_kind 52 = .ok (.istore 4, 2) := by decide +kernel
theorem dX4_kind_54 : decode cX4_kind 54 = .ok (.aload_n 0, 1) := by decide +kernel
theorem dX4_kind_55 : decode cX4_kind 55 = .ok (.getfield 13, 3) := by decide +kernel
theorem dX4_kind_58 : decode cX4_kind 58 = .ok (.iload_n 1, 1) := by decide +kernel
theorem dX4_kind_59 : decode cX4_kind 59 = .ok (.iload_n 2, 1) := by decide +kernel
theorem dX4_kind_60 : decode cX4_kind 60 = .ok (.iastore, 1) := by decide +kernel
theorem dX4_kind_61 : decode cX4_kind 61 = .ok (.aload_n 0, 1) := by decide +kernel
theorem dX4_kind_62 : decode cX4_kind 62 = .ok (.getfield 16, 3) := by decide +kernel
theorem dX4_kind_65 : decode cX4_kind 65 = .ok (.iload_n 1, 1) := by decide +kernel
theorem dX4_kind_66 : decode cX4_kind 66 = .ok (.iload_n 3, 1) := by decide +kernel
theorem dX4_kind_67 : decode cX4_kind 67 = .ok (.iastore, 1) := by decide +kernel
theorem dX4_kind_68 : decode cX4_kind 68 = .ok (.iload 4, 2) := by decide +kernel
theorem dX4_kind_70 : decode cX4_kind 70 = .ok (.ireturn, 1) := by decide +kernel
theorem dX4_isBox_0 : decode cX4_isBox 0 = .ok (.iload_n 1, 1) := by decide +kernel
theorem dX4_isBox_1 : decode cX4_isBox 1 = .ok (.iconst 0, 1) := by decide +kernel
theorem dX4_isBox_2 : decode cX4_isBox 2 = .ok (.aload_n 0, 1) := by decide +kernel
theorem dX4_isBox_3 : decode cX4_isBox 3 = .ok (.getfield 90, 3) := by decide +kernel
theorem dX4_isBox_6 : decode cX4_isBox 6 = .ok (.iconst 1, 1) := by decide +kernel
theorem dX4_isBox_7 : decode cX4_isBox 7 = .ok (.isub, 1) := by decide +kernel
theorem dX4_isBox_8 : decode cX4_isBox 8 = .ok (.invokestatic 82, 3) := by decide +kernel
theorem dX4_isBox_11 : decode cX4_isBox 11 = .ok (.ireturn, 1) := by decide +kernel
theorem dX4_off_0 : decode cX4_off 0 = .ok (.aload_n 0, 1) := by decide +kernel
theorem dX4_off_1 : decode cX4_off 1 = .ok (.aload_n 0, 1) := by decide +kernel
theorem dX4_off_2 : decode cX4_off 2 = .ok (.iload_n 1, 1) := by decide +kernel
theorem dX4_off_3 : decode cX4_off 3 = .ok (.invokevirtual 96, 3) := by decide +kernel
theorem dX4_off_6 : decode cX4_off 6 = .ok (.ifCond .eq 7, 3) := by decide +kernel
theorem dX4_off_9 : decode cX4_off 9 = .ok (.iconst 0, 1) := by decide +kernel
theorem dX4_off_10 : decode cX4_off 10 = .ok (.goto 4, 3) := by decide +kernel
theorem dX4_off_13 : decode cX4_off 13 = .ok (.iconst 1, 1) := by decide +kernel
theorem dX4_off_14 : decode cX4_off 14 = .ok (.putfield 79, 3) := by decide +kernel
theorem dX4_off_17 : decode cX4_off 17 = .ok (.aload_n 0, 1) := by decide +kernel
theorem dX4_off_18 : decode cX4_off 18 = .ok (.getfield 79, 3) := by decide +kernel
theorem dX4_off_21 : decode cX4_off 21 = .ok (.ifCond .le 5, 3) := by decide +kernel
theorem dX4_off_24 : decode cX4_off 24 = .ok (.iconst 0, 1) := by decide +kernel
theorem dX4_off_25 : decode cX4_off 25 = .ok (.ireturn, 1) := by decide +kernel
theorem dX4_off_26 : decode cX4_off 26 = .ok (.aload_n 0, 1) := by decide +kernel
theorem dX4_off_27 : decode cX4_off 27 = .ok (.getfield 19, 3) := by decide +kernel
theorem dX4_off_30 : decode cX4_off 30 = .ok (.iload_n 1, 1) := by decide +kernel
theorem dX4_off_31 : decode cX4_off 31 = .ok (.baload, 1) := by decide +kernel
theorem dX4_off_32 : decode cX4_off 32 = .ok (.istore_n 3, 1) := by decide +kernel
theorem dX4_off_33 : decode cX4_off 33 = .ok (.aload_n 0, 1) := by decide +kernel
theorem dX4_off_34 : decode cX4_off 34 = .ok (.getfield 19, 3) := by decide +kernel
theorem dX4_off_37 : decode cX4_off 37 = .ok (.iload_n 1, 1) := by decide +kernel
theorem dX4_off_38 : decode cX4_off 38 = .ok (.iload_n 2, 1) := by decide +kernel
theorem dX4_off_39 : decode cX4_off 39 = .ok (.bastore, 1) := by decide +kernel
theorem dX4_off_40 : decode cX4_off 40 = .ok (.iload_n 3, 1) := by decide +kernel
theorem dX4_off_41 : decode cX4_off 41 = .ok (.ireturn, 1) := by decide +kernel
theorem dX4_ray_0 : decode cX4_ray 0 = .ok (.aload_n 0, 1) := by decide +kernel
theorem dX4_ray_1 : decode cX4_ray 1 = .ok (.aload_n 0, 1) := by decide +kernel
theorem dX4_ray_2 : decode cX4_ray 2 = .ok (.iload_n 1, 1) := by decide +kernel
theorem dX4_ray_3 : decode cX4_ray 3 = .ok (.iload_n 2, 1) := by decide +kernel
theorem dX4_ray_4 : decode cX4_ray 4 = .ok (.iload_n 3, 1) := by decide +kernel
theorem dX4_ray_5 : decode cX4_ray 5 = .ok (.invokevirtual 93, 3) := by decide +kernel
theorem dX4_ray_8 : decode cX4_ray 8 = .ok (.ifCond .eq 19, 3) := by decide +kernel
theorem dX4_ray_11 : decode cX4_ray 11 = .ok (.iload 4, 2) := by decide +kernel
theorem dX4_ray_13 : decode cX4_ray 13 = .ok (.iload 5, 2) := by decide +kernel
theorem dX4_ray_15 : decode cX4_ray 15 = .ok (.iload 6, 2) := by decide +kernel
theorem dX4_ray_17 : decode cX4_ray 17 = .ok (.invokestatic 156, 3) := by decide +kernel
theorem dX4_ray_20 : decode cX4_ray 20 = .ok (.ifCond .eq 7, 3) := by decide +kernel
theorem dX4_ray_23 : decode cX4_ray 23 = .ok (.iconst 0, 1) := by decide +kernel
theorem dX4_ray_24 : decode cX4_ray 24 = .ok (.goto 4, 3) := by decide +kernel
theorem dX4_ray_27 : decode cX4_ray 27 = .ok (.iconst 1, 1) := by decide +kernel
theorem dX4_ray_28 : decode cX4_ray 28 = .ok (.putfield 79, 3) := by decide +kernel
theorem dX4_ray_31 : decode cX4_ray 31 = .ok (.aload_n 0, 1) := by decide +kernel
theorem dX4_ray_32 : decode cX4_ray 32 = .ok (.getfield 79, 3) := by decide +kernel
theorem dX4_ray_35 : decode cX4_ray 35 = .ok (.ifCond .le 5, 3) := by decide +kernel
theorem dX4_ray_38 : decode cX4_ray 38 = .ok (.iconst 0, 1) := by decide +kernel
theorem dX4_ray_39 : decode cX4_ray 39 = .ok (.ireturn, 1) := by decide +kernel
theorem dX4_ray_40 : decode cX4_ray 40 = .ok (.aload_n 0, 1) := by decide +kernel
theorem dX4_ray_41 : decode cX4_ray 41 = .ok (.iload_n 1, 1) := by decide +kernel
theorem dX4_ray_42 : decode cX4_ray 42 = .ok (.iload_n 2, 1) := by decide +kernel
theorem dX4_ray_43 : decode cX4_ray 43 = .ok (.iload_n 3, 1) := by decide +kernel
theorem dX4_ray_44 : decode cX4_ray 44 = .ok (.iload 4, 2) := by decide +kernel
theorem dX4_ray_46 : decode cX4_ray 46 = .ok (.iload 5, 2) := by decide +kernel
theorem dX4_ray_48 : decode cX4_ray 48 = .ok (.iload 6, 2) := by decide +kernel
theorem dX4_ray_50 : decode cX4_ray 50 = .ok (.invokevirtual 159, 3) := by decide +kernel
theorem dX4_ray_53 : decode cX4_ray 53 = .ok (.istore 7, 2) := by decide +kernel
theorem dX4_ray_55 : decode cX4_ray 55 = .ok (.aload_n 0, 1) := by decide +kernel
theorem dX4_ray_56 : decode cX4_ray 56 = .ok (.iconst 1, 1) := by decide +kernel
theorem dX4_ray_57 : decode cX4_ray 57 = .ok (.putfield 163, 3) := by decide +kernel
theorem dX4_ray_60 : decode cX4_ray 60 = .ok (.aload_n 0, 1) := by decide +kernel
theorem dX4_ray_61 : decode cX4_ray 61 = .ok (.aload_n 0, 1) := by decide +kernel
theorem dX4_ray_62 : decode cX4_ray 62 = .ok (.getfield 134, 3) := by decide +kernel
theorem dX4_ray_65 : decode cX4_ray 65 = .ok (.putfield 167, 3) := by decide +kernel
theorem dX4_ray_68 : decode cX4_ray 68 = .ok (.aload_n 0, 1) := by decide +kernel
theorem dX4_ray_69 : decode cX4_ray 69 = .ok (.aload_n 0, 1) := by decide +kernel
theorem dX4_ray_70 : decode cX4_ray 70 = .ok (.getfield 138, 3) := by decide +kernel
theorem dX4_ray_73 : decode cX4_ray 73 = .ok (.putfield 170, 3) := by decide +kernel
theorem dX4_ray_76 : decode cX4_ray 76 = .ok (.iconst 0, 1) := by decide +kernel
theorem dX4_ray_77 : decode cX4_ray 77 = .ok (.istore 8, 2) := by decide +kernel
theorem dX4_ray_79 : decode cX4_ray 79 = .ok (.iload 8, 2) := by decide +kernel
theorem dX4_ray_81 : decode cX4_ray 81 = .ok (.iconst 3, 1) := by decide +kernel
theorem dX4_ray_82 : decode cX4_ray 82 = .ok (.if_icmp .ge 23, 3) := by decide +kernel
theorem dX4_ray_85 : decode cX4_ray 85 = .ok (.aload_n 0, 1) := by decide +kernel
theorem dX4_ray_86 : decode cX4_ray 86 = .ok (.getfield 51, 3) := by decide +kernel
theorem dX4_ray_89 : decode cX4_ray 89 = .ok (.iload 8, 2) := by decide +kernel
theorem dX4_ray_91 : decode cX4_ray 91 = .ok (.aload_n 0, 1) := by decide +kernel
theorem dX4_ray_92 : decode cX4_ray 92 = .ok (.getfield 26, 3) := by decide +kernel
theorem dX4_ray_95 : decode cX4_ray 95 = .ok (.iload 8, 2) := by decide +kernel
theorem dX4_ray_97 : decode cX4_ray 97 = .ok (.iaload, 1) := by decide +kernel
theorem dX4_ray_98 : decode cX4_ray 98 = .ok (.iastore, 1) := by decide +kernel
theorem dX4_ray_99 : decode cX4_ray 99 = .ok (.iinc 8 1, 3) := by decide +kernel
theorem dX4_ray_102 : decode cX4_ray 102 = .ok (.goto (-23), 3) := by decide +kernel
theorem dX4_ray_105 : decode cX4_ray 105 = .ok (.iconst 0, 1) := by decide +kernel
theorem dX4_ray_106 : decode cX4_ray 106 = .ok (.istore 8, 2) := by decide +kernel
theorem dX4_ray_108 : decode cX4_ray 108 = .ok (.iload 8, 2) := by decide +kernel
theorem dX4_ray_110 : decode cX4_ray 110 = .ok (.aload_n 0, 1) := by decide +kernel
theorem dX4_ray_111 : decode cX4_ray 111 = .ok (.getfield 134, 3) := by decide +kernel
theorem dX4_ray_114 : decode cX4_ray 114 = .ok (.if_icmp .ge 65, 3) := by decide +kernel
theorem dX4_ray_117 : decode cX4_ray 117 = .ok (.aload_n 0, 1) := by decide +kernel
theorem dX4_ray_118 : decode cX4_ray 118 = .ok (.getfield 54, 3) := by decide +kernel
theorem dX4_ray_121 : decode cX4_ray 121 = .ok (.iload 8, 2) := by decide +kernel
theorem dX4_ray_123 : decode cX4_ray 123 = .ok (.aload_n 0, 1) := by decide +kernel
theorem dX4_ray_124 : decode cX4_ray 124 = .ok (.getfield 35, 3) := by decide +kernel
theorem dX4_ray_127 : decode cX4_ray 127 = .ok (.iload 8, 2) := by decide +kernel
theorem dX4_ray_129 : decode cX4_ray 129 = .ok (.iaload, 1) := by decide +kernel
theorem dX4_ray_130 : decode cX4_ray 130 = .ok (.iastore, 1) := by decide +kernel
theorem dX4_ray_131 : decode cX4_ray 131 = .ok (.aload_n 0, 1) := by decide +kernel
theorem dX4_ray_132 : decode cX4_ray 132 = .ok (.getfield 57, 3) := by decide +kernel
theorem dX4_ray_135 : decode cX4_ray 135 = .ok (.iload 8, 2) := by decide +kernel
theorem dX4_ray_137 : decode cX4_ray 137 = .ok (.aload_n 0, 1) := by decide +kernel
theorem dX4_ray_138 : decode cX4_ray 138 = .ok (.getfield 38, 3) := by decide +kernel
theorem dX4_ray_141 : decode cX4_ray 141 = .ok (.iload 8, 2) := by decide +kernel
theorem dX4_ray_143 : decode cX4_ray 143 = .ok (.iaload, 1) := by decide +kernel
theorem dX4_ray_144 : decode cX4_ray 144 = .ok (.iastore, 1) := by decide +kernel
theorem dX4_ray_145 : decode cX4_ray 145 = .ok (.aload_n 0, 1) := by decide +kernel
theorem dX4_ray_146 : decode cX4_ray 146 = .ok (.getfield 60, 3) := by decide +kernel
theorem dX4_ray_149 : decode cX4_ray 149 = .ok (.iload 8, 2) := by decide +kernel
theorem dX4_ray_151 : decode cX4_ray 151 = .ok (.aload_n 0, 1) := by decide +kernel
theorem dX4_ray_152 : decode cX4_ray 152 = .ok (.getfield 41, 3) := by decide +kernel
theorem dX4_ray_155 : decode cX4_ray 155 = .ok (.iload 8, 2) := by decide +kernel
theorem dX4_ray_157 : decode cX4_ray 157 = .ok (.laload, 1) := by decide +kernel
theorem dX4_ray_158 : decode cX4_ray 158 = .ok (.lastore, 1) := by decide +kernel
theorem dX4_ray_159 : decode cX4_ray 159 = .ok (.aload_n 0, 1) := by decide +kernel
theorem dX4_ray_160 : decode cX4_ray 160 = .ok (.getfield 63, 3) := by decide +kernel
theorem dX4_ray_163 : decode cX4_ray 163 = .ok (.iload 8, 2) := by decide +kernel
theorem dX4_ray_165 : decode cX4_ray 165 = .ok (.aload_n 0, 1) := by decide +kernel
theorem dX4_ray_166 : decode cX4_ray 166 = .ok (.getfield 45, 3) := by decide +kernel
theorem dX4_ray_169 : decode cX4_ray 169 = .ok (.iload 8, 2) := by decide +kernel
theorem dX4_ray_171 : decode cX4_ray 171 = .ok (.laload, 1) := by decide +kernel
theorem dX4_ray_172 : decode cX4_ray 172 = .ok (.lastore, 1) := by decide +kernel
theorem dX4_ray_173 : decode cX4_ray 173 = .ok (.iinc 8 1, 3) := by decide +kernel
theorem dX4_ray_176 : decode cX4_ray 176 = .ok (.goto (-68), 3) := by decide +kernel
theorem dX4_ray_179 : decode cX4_ray 179 = .ok (.iconst 0, 1) := by decide +kernel
theorem dX4_ray_180 : decode cX4_ray 180 = .ok (.istore 8, 2) := by decide +kernel
theorem dX4_ray_182 : decode cX4_ray 182 = .ok (.iload 8, 2) := by decide +kernel
theorem dX4_ray_184 : decode cX4_ray 184 = .ok (.iconst 3, 1) := by decide +kernel
theorem dX4_ray_185 : decode cX4_ray 185 = .ok (.aload_n 0, 1) := by decide +kernel
theorem dX4_ray_186 : decode cX4_ray 186 = .ok (.getfield 134, 3) := by decide +kernel
theorem dX4_ray_189 : decode cX4_ray 189 = .ok (.imul, 1) := by decide +kernel
theorem dX4_ray_190 : decode cX4_ray 190 = .ok (.if_icmp .ge 23, 3) := by decide +kernel
theorem dX4_ray_193 : decode cX4_ray 193 = .ok (.aload_n 0, 1) := by decide +kernel
theorem dX4_ray_194 : decode cX4_ray 194 = .ok (.getfield 66, 3) := by decide +kernel
theorem dX4_ray_197 : decode cX4_ray 197 = .ok (.iload 8, 2) := by decide +kernel
theorem dX4_ray_199 : decode cX4_ray 199 = .ok (.aload_n 0, 1) := by decide +kernel
theorem dX4_ray_200 : decode cX4_ray 200 = .ok (.getfield 48, 3) := by decide +kernel
theorem dX4_ray_203 : decode cX4_ray 203 = .ok (.iload 8, 2) := by decide +kernel
theorem dX4_ray_205 : decode cX4_ray 205 = .ok (.laload, 1) := by decide +kernel
theorem dX4_ray_206 : decode cX4_ray 206 = .ok (.lastore, 1) := by decide +kernel
theorem dX4_ray_207 : decode cX4_ray 207 = .ok (.iinc 8 1, 3) := by decide +kernel
theorem dX4_ray_210 : decode cX4_ray 210 = .ok (.goto (-28), 3) := by decide +kernel
theorem dX4_ray_213 : decode cX4_ray 213 = .ok (.iload 7, 2) := by decide +kernel
theorem dX4_ray_215 : decode cX4_ray 215 = .ok (.ireturn, 1) := by decide +kernel
