theorem dX4_hit_0 : decode cX4_hit 0 = .ok (.aload_n 0, 1) := by decide +kernel
theorem dX4_hit_1 : decode cX4_hit 1 = .ok (.iload_n 1, 1) := by decide +kernel
theorem dX4_hit_2 : decode cX4_hit 2 = .ok (.ifCond .lt 12, 3) := by decide +kernel
theorem dX4_hit_5 : decode cX4_hit 5 = .ok (.iload_n 2, 1) := by decide +kernel
theorem dX4_hit_6 : decode cX4_hit 6 = .ok (.iconst 0, 1) := by decide +kernel
theorem dX4_hit_7 : decode cX4_hit 7 = .ok (.iconst 3, 1) := by decide +kernel
theorem dX4_hit_8 : decode cX4_hit 8 = .ok (.invokestatic 82, 3) := by decide +kernel
theorem dX4_hit_11 : decode cX4_hit 11 = .ok (.ifCond .ne 7, 3) := by decide +kernel
theorem dX4_hit_14 : decode cX4_hit 14 = .ok (.iconst 1, 1) := by decide +kernel
theorem dX4_hit_15 : decode cX4_hit 15 = .ok (.goto 15, 3) := by decide +kernel
theorem dX4_hit_18 : decode cX4_hit 18 = .ok (.aload_n 0, 1) := by decide +kernel
theorem dX4_hit_19 : decode cX4_hit 19 = .ok (.getfield 163, 3) := by decide +kernel
theorem dX4_hit_22 : decode cX4_hit 22 = .ok (.ifCond .ne 7, 3) := by decide +kernel
theorem dX4_hit_25 : decode cX4_hit 25 = .ok (.iconst 2, 1) := by decide +kernel
theorem dX4_hit_26 : decode cX4_hit 26 = .ok (.goto 4, 3) := by decide +kernel
theorem dX4_hit_29 : decode cX4_hit 29 = .ok (.iconst 0, 1) := by decide +kernel
theorem dX4_hit_30 : decode cX4_hit 30 = .ok (.putfield 79, 3) := by decide +kernel
theorem dX4_hit_33 : decode cX4_hit 33 = .ok (.aload_n 0, 1) := by decide +kernel
theorem dX4_hit_34 : decode cX4_hit 34 = .ok (.getfield 79, 3) := by decide +kernel
theorem dX4_hit_37 : decode cX4_hit 37 = .ok (.ifCond .le 5, 3) := by decide +kernel
theorem dX4_hit_40 : decode cX4_hit 40 = .ok (.iconst 0, 1) := by decide +kernel
theorem dX4_hit_41 : decode cX4_hit 41 = .ok (.ireturn, 1) := by decide +kernel
theorem dX4_hit_42 : decode cX4_hit 42 = .ok (.iload_n 1, 1) := by decide +kernel
theorem dX4_hit_43 : decode cX4_hit 43 = .ok (.aload_n 0, 1) := by decide +kernel
theorem dX4_hit_44 : decode cX4_hit 44 = .ok (.getfield 167, 3) := by decide +kernel
theorem dX4_hit_47 : decode cX4_hit 47 = .ok (.if_icmp .lt 5, 3) := by decide +kernel
theorem dX4_hit_50 : decode cX4_hit 50 = .ok (.iconst (-1), 1) := by decide +kernel
theorem dX4_hit_51 : decode cX4_hit 51 = .ok (.ireturn, 1) := by decide +kernel
theorem dX4_hit_52 : decode cX4_hit 52 = .ok (.iload_n 2, 1) := by decide +kernel
theorem dX4_hit_53 : decode cX4_hit 53 = .ok (.iconst 2, 1) := by decide +kernel
theorem dX4_hit_54 : decode cX4_hit 54 = .ok (.if_icmp .ge 23, 3) := by decide +kernel
theorem dX4_hit_57 : decode cX4_hit 57 = .ok (.iload_n 2, 1) := by decide +kernel
theorem dX4_hit_58 : decode cX4_hit 58 = .ok (.ifCond .ne 12, 3) := by decide +kernel
theorem dX4_hit_61 : decode cX4_hit 61 = .ok (.aload_n 0, 1) := by decide +kernel
theorem dX4_hit_62 : decode cX4_hit 62 = .ok (.getfield 54, 3) := by decide +kernel
theorem dX4_hit_65 : decode cX4_hit 65 = .ok (.iload_n 1, 1) := by decide +kernel
theorem dX4_hit_66 : decode cX4_hit 66 = .ok (.iaload, 1) := by decide +kernel
theorem dX4_hit_67 : decode cX4_hit 67 = .ok (.goto 9, 3) := by decide +kernel
theorem dX4_hit_70 : decode cX4_hit 70 = .ok (.aload_n 0, 1) := by decide +kernel
theorem dX4_hit_71 : decode cX4_hit 71 = .ok (.getfield 57, 3) := by decide +kernel
theorem dX4_hit_74 : decode cX4_hit 74 = .ok (.iload_n 1, 1) := by decide +kernel
theorem dX4_hit_75 : decode cX4_hit 75 = .ok (.iaload, 1) := by decide +kernel
theorem dX4_hit_76 : decode cX4_hit 76 = .ok (.ireturn, 1) := by decide +kernel
theorem dX4_hit_77 : decode cX4_hit 77 = .ok (.aload_n 0, 1) := by decide +kernel
theorem dX4_hit_78 : decode cX4_hit 78 = .ok (.getfield 60, 3) := by decide +kernel
theorem dX4_hit_81 : decode cX4_hit 81 = .ok (.iload_n 1, 1) := by decide +kernel
theorem dX4_hit_82 : decode cX4_hit 82 = .ok (.laload, 1) := by decide +kernel
theorem dX4_hit_83 : decode cX4_hit 83 = .ok (.aload_n 0, 1) := by decide +kernel
theorem dX4_hit_84 : decode cX4_hit 84 = .ok (.getfield 63, 3) := by decide +kernel
theorem dX4_hit_87 : decode cX4_hit 87 = .ok (.iload_n 1, 1) := by decide +kernel
theorem dX4_hit_88 : decode cX4_hit 88 = .ok (.laload, 1) := by decide +kernel
theorem dX4_hit_89 : decode cX4_hit 89 = .ok (.invokestatic 173, 3) := by decide +kernel
theorem dX4_hit_92 : decode cX4_hit 92 = .ok (.lstore_n 3, 1) := by decide +kernel
theorem dX4_hit_93 : decode cX4_hit 93 = .ok (.iload_n 2, 1) := by decide +kernel
theorem dX4_hit_94 : decode cX4_hit 94 = .ok (.iconst 2, 1) := by decide +kernel
theorem dX4_hit_95 : decode cX4_hit 95 = .ok (.if_icmp .ne 12, 3) := by decide +kernel
theorem dX4_hit_98 : decode cX4_hit 98 = .ok (.aload_n 0, 1) := by decide +kernel
theorem dX4_hit_99 : decode cX4_hit 99 = .ok (.getfield 60, 3) := by decide +kernel
theorem dX4_hit_102 : decode cX4_hit 102 = .ok (.iload_n 1, 1) := by decide +kernel
theorem dX4_hit_103 : decode cX4_hit 103 = .ok (.laload, 1) := by decide +kernel
theorem dX4_hit_104 : decode cX4_hit 104 = .ok (.goto 9, 3) := by decide +kernel
theorem dX4_hit_107 : decode cX4_hit 107 = .ok (.aload_n 0, 1) := by decide +kernel
theorem dX4_hit_108 : decode cX4_hit 108 = .ok (.getfield 63, 3) := by decide +kernel
theorem dX4_hit_111 : decode cX4_hit 111 = .ok (.iload_n 1, 1) := by decide +kernel
theorem dX4_hit_112 : decode cX4_hit 112 = .ok (.laload, 1) := by decide +kernel
theorem dX4_hit_113 : decode cX4_hit 113 = .ok (.lload_n 3, 1) := by decide +kernel
theorem dX4_hit_114 : decode cX4_hit 114 = .ok (.ldiv, 1) := by decide +kernel
theorem dX4_hit_115 : decode cX4_hit 115 = .ok (.l2i, 1) := by decide +kernel
theorem dX4_hit_116 : decode cX4_hit 116 = .ok (.ireturn, 1) := by decide +kernel
theorem dX4_common_0 : decode cX4_common 0 = .ok (.lload_n 0, 1) := by decide +kernel
theorem dX4_common_1 : decode cX4_common 1 = .ok (.lconst 0, 1) := by decide +kernel
theorem dX4_common_2 : decode cX4_common 2 = .ok (.lcmp, 1) := by decide +kernel
theorem dX4_common_3 : decode cX4_common 3 = .ok (.ifCond .ge 8, 3) := by decide +kernel
theorem dX4_common_6 : decode cX4_common 6 = .ok (.lload_n 0, 1) := by decide +kernel
theorem dX4_common_7 : decode cX4_common 7 = .ok (.lneg, 1) := by decide +kernel
theorem dX4_common_8 : decode cX4_common 8 = .ok (.goto 4, 3) := by decide +kernel
theorem dX4_common_11 : decode cX4_common 11 = .ok (.lload_n 0, 1) := by decide +kernel
theorem dX4_common_12 : decode cX4_common 12 = .ok (.lstore 4, 2) := by decide +kernel
theorem dX4_common_14 : decode cX4_common 14 = .ok (.lload_n 2, 1) := by decide +kernel
theorem dX4_common_15 : decode cX4_common 15 = .ok (.lstore 6, 2) := by decide +kernel
theorem dX4_common_17 : decode cX4_common 17 = .ok (.lload 6, 2) := by decide +kernel
theorem dX4_common_19 : decode cX4_common 19 = .ok (.lconst 0, 1) := by decide +kernel
theorem dX4_common_20 : decode cX4_common 20 = .ok (.lcmp, 1) := by decide +kernel
theorem dX4_common_21 : decode cX4_common 21 = .ok (.ifCond .eq 21, 3) := by decide +kernel
theorem dX4_common_24 : decode cX4_common 24 = .ok (.lload 4, 2) := by decide +kernel
theorem dX4_common_26 : decode cX4_common 26 = .ok (.lload 6, 2) := by decide +kernel
theorem dX4_common_28 : decode cX4_common 28 = .ok (.lrem, 1) := by decide +kernel
theorem dX4_common_29 : decode cX4_common 29 = .ok (.lstore 8, 2) := by decide +kernel
theorem dX4_common_31 : decode cX4_common 31 = .ok (.lload 6, 2) := by decide +kernel
theorem dX4_common_33 : decode cX4_common 33 = .ok (.lstore 4, 2) := by decide +kernel
theorem dX4_common_35 : decode cX4_common 35 = .ok (.lload 8, 2) := by decide +kernel
theorem dX4_common_37 : decode cX4_common 37 = .ok (.lstore 6, 2) := by decide +kernel
theorem dX4_common_39 : decode cX4_common 39 = .ok (.goto (-22), 3) := by decide +kernel
theorem dX4_common_42 : decode cX4_common 42 = .ok (.lload 4, 2) := by decide +kernel
theorem dX4_common_44 : decode cX4_common 44 = .ok (.lreturn, 1) := by decide +kernel
theorem dX4_place_0 : decode cX4_place 0 = .ok (.aload_n 0, 1) := by decide +kernel
theorem dX4_place_1 : decode cX4_place 1 = .ok (.iload_n 1, 1) := by decide +kernel
theorem dX4_place_2 : decode cX4_place 2 = .ok (.iconst 0, 1) := by decide +kernel
theorem dX4_place_3 : decode cX4_place 3 = .ok (.aload_n 0, 1) := by decide +kernel
theorem dX4_place_4 : decode cX4_place 4 = .ok (.getfield 167, 3) := by decide +kernel
theorem dX4_place_7 : decode cX4_place 7 = .ok (.iconst 1, 1) := by decide +kernel
theorem dX4_place_8 : decode cX4_place 8 = .ok (.isub, 1) := by decide +kernel
theorem dX4_place_9 : decode cX4_place 9 = .ok (.invokestatic 82, 3) := by decide +kernel
theorem dX4_place_12 : decode cX4_place 12 = .ok (.ifCond .eq 21, 3) := by decide +kernel
theorem dX4_place_15 : decode cX4_place 15 = .ok (.iload_n 2, 1) := by decide +kernel
theorem dX4_place_16 : decode cX4_place 16 = .ok (.iconst 0, 1) := by decide +kernel
theorem dX4_place_17 : decode cX4_place 17 = .ok (.iconst 2, 1) := by decide +kernel
theorem dX4_place_18 : decode cX4_place 18 = .ok (.invokestatic 82, 3) := by decide +kernel
theorem dX4_place_21 : decode cX4_place 21 = .ok (.ifCond .eq 12, 3) := by decide +kernel
theorem dX4_place_24 : decode cX4_place 24 = .ok (.iload_n 3, 1) := by decide +kernel
theorem dX4_place_25 : decode cX4_place 25 = .ok (.iconst 0, 1) := by decide +kernel
theorem dX4_place_26 : decode cX4_place 26 = .ok (.iconst 1, 1) := by decide +kernel
theorem dX4_place_27 : decode cX4_place 27 = .ok (.invokestatic 82, 3) := by decide +kernel
theorem dX4_place_30 : decode cX4_place 30 = .ok (.ifCond .ne 7, 3) := by decide +kernel
theorem dX4_place_33 : decode cX4_place 33 = .ok (.iconst 1, 1) := by decide +kernel
theorem dX4_place_34 : decode cX4_place 34 = .ok (.goto 4, 3) := by decide +kernel
theorem dX4_place_37 : decode cX4_place 37 = .ok (.iconst 0, 1) := by decide +kernel
theorem dX4_place_38 : decode cX4_place 38 = .ok (.putfield 79, 3) := by decide +kernel
theorem dX4_place_41 : decode cX4_place 41 = .ok (.aload_n 0, 1) := by decide +kernel
theorem dX4_place_42 : decode cX4_place 42 = .ok (.getfield 79, 3) := by decide +kernel
theorem dX4_place_45 : decode cX4_place 45 = .ok (.ifCond .le 5, 3) := by decide +kernel
theorem dX4_place_48 : decode cX4_place 48 = .ok (.lconst 0, 1) := by decide +kernel
theorem dX4_place_49 : decode cX4_place 49 = .ok (.lreturn, 1) := by decide +kernel
theorem dX4_place_50 : decode cX4_place 50 = .ok (.aload_n 0, 1) := by decide +kernel
theorem dX4_place_51 : decode cX4_place 51 = .ok (.getfield 66, 3) := by decide +kernel
theorem dX4_place_54 : decode cX4_place 54 = .ok (.iconst 3, 1) := by decide +kernel
theorem dX4_place_55 : decode cX4_place 55 = .ok (.iload_n 1, 1) := by decide +kernel
theorem dX4_place_56 : decode cX4_place 56 = .ok (.imul, 1) := by decide +kernel
theorem dX4_place_57 : decode cX4_place 57 = .ok (.iload_n 2, 1) := by decide +kernel
theorem dX4_place_58 : decode cX4_place 58 = .ok (.iadd, 1) := by decide +kernel
theorem dX4_place_59 : decode cX4_place 59 = .ok (.laload, 1) := by decide +kernel
theorem dX4_place_60 : decode cX4_place 60 = .ok (.lstore 4, 2) := by decide +kernel
theorem dX4_place_62 : decode cX4_place 62 = .ok (.lload 4, 2) := by decide +kernel
theorem dX4_place_64 : decode cX4_place 64 = .ok (.aload_n 0, 1) := by decide +kernel
theorem dX4_place_65 : decode cX4_place 65 = .ok (.getfield 63, 3) := by decide +kernel
theorem dX4_place_68 : decode cX4_place 68 = .ok (.iload_n 1, 1) := by decide +kernel
theorem dX4_place_69 : decode cX4_place 69 = .ok (.laload, 1) := by decide +kernel
theorem dX4_place_70 : decode cX4_place 70 = .ok (.invokestatic 173, 3) := by decide +kernel
theorem dX4_place_73 : decode cX4_place 73 = .ok (.lstore 6, 2) := by decide +kernel
theorem dX4_place_75 : decode cX4_place 75 = .ok (.iload_n 3, 1) := by decide +kernel
theorem dX4_place_76 : decode cX4_place 76 = .ok (.ifCond .ne 8, 3) := by decide +kernel
theorem dX4_place_79 : decode cX4_place 79 = .ok (.lload 4, 2) := by decide +kernel
theorem dX4_place_81 : decode cX4_place 81 = .ok (.goto 9, 3) := by decide +kernel
theorem dX4_place_84 : decode cX4_place 84 = .ok (.aload_n 0, 1) := by decide +kernel
theorem dX4_place_85 : decode cX4_place 85 = .ok (.getfield 63, 3) := by decide +kernel
theorem dX4_place_88 : decode cX4_place 88 = .ok (.iload_n 1, 1) := by decide +kernel
theorem dX4_place_89 : decode cX4_place 89 = .ok (.laload, 1) := by decide +kernel
theorem dX4_place_90 : decode cX4_place 90 = .ok (.lload 6, 2) := by decide +kernel
theorem dX4_place_92 : decode cX4_place 92 = .ok (.ldiv, 1) := by decide +kernel
theorem dX4_place_93 : decode cX4_place 93 = .ok (.lreturn, 1) := by decide +kernel
theorem dX4_sky_0 : decode cX4_sky 0 = .ok (.aload_n 0, 1) := by decide +kernel
theorem dX4_sky_1 : decode cX4_sky 1 = .ok (.iload_n 1, 1) := by decide +kernel
theorem dX4_sky_2 : decode cX4_sky 2 = .ok (.iconst 0, 1) := by decide +kernel
theorem dX4_sky_3 : decode cX4_sky 3 = .ok (.bipush 7, 2) := by decide +kernel
theorem dX4_sky_5 : decode cX4_sky 5 = .ok (.invokestatic 82, 3) := by decide +kernel
theorem dX4_sky_8 : decode cX4_sky 8 = .ok (.ifCond .eq 18, 3) := by decide +kernel
theorem dX4_sky_11 : decode cX4_sky 11 = .ok (.iload_n 2, 1) := by decide +kernel
theorem dX4_sky_12 : decode cX4_sky 12 = .ok (.iconst 0, 1) := by decide +kernel
theorem dX4_sky_13 : decode cX4_sky 13 = .ok (.sipush 1000, 3) := by decide +kernel
theorem dX4_sky_16 : decode cX4_sky 16 = .ok (.invokestatic 82, 3) := by decide +kernel
theorem dX4_sky_19 : decode cX4_sky 19 = .ok (.ifCond .eq 7, 3) := by decide +kernel
theorem dX4_sky_22 : decode cX4_sky 22 = .ok (.iconst 0, 1) := by decide +kernel
theorem dX4_sky_23 : decode cX4_sky 23 = .ok (.goto 4, 3) := by decide +kernel
theorem dX4_sky_26 : decode cX4_sky 26 = .ok (.iconst 1, 1) := by decide +kernel
theorem dX4_sky_27 : decode cX4_sky 27 = .ok (.putfield 79, 3) := by decide +kernel
theorem dX4_sky_30 : decode cX4_sky 30 = .ok (.aload_n 0, 1) := by decide +kernel
theorem dX4_sky_31 : decode cX4_sky 31 = .ok (.getfield 79, 3) := by decide +kernel
theorem dX4_sky_34 : decode cX4_sky 34 = .ok (.ifCond .le 5, 3) := by decide +kernel
theorem dX4_sky_37 : decode cX4_sky 37 = .ok (.iconst 0, 1) := by decide +kernel
theorem dX4_sky_38 : decode cX4_sky 38 = .ok (.ireturn, 1) := by decide +kernel
theorem dX4_sky_39 : decode cX4_sky 39 = .ok (.aload_n 0, 1) := by decide +kernel
theorem dX4_sky_40 : decode cX4_sky 40 = .ok (.getfield 69, 3) := by decide +kernel
theorem dX4_sky_43 : decode cX4_sky 43 = .ok (.iload_n 1, 1) := by decide +kernel
theorem dX4_sky_44 : decode cX4_sky 44 = .ok (.iaload, 1) := by decide +kernel
theorem dX4_sky_45 : decode cX4_sky 45 = .ok (.istore_n 3, 1) := by decide +kernel
theorem dX4_sky_46 : decode cX4_sky 46 = .ok (.aload_n 0, 1) := by decide +kernel
theorem dX4_sky_47 : decode cX4_sky 47 = .ok (.getfield 69, 3) := by decide +kernel
theorem dX4_sky_50 : decode cX4_sky 50 = .ok (.iload_n 1, 1) := by decide +kernel
theorem dX4_sky_51 : decode cX4_sky 51 = .ok (.iload_n 2, 1) := by decide +kernel
theorem dX4_sky_52 : decode cX4_sky 52 = .ok (.iastore, 1) := by decide +kernel
theorem dX4_sky_53 : decode cX4_sky 53 = .ok (.iload_n 3, 1) := by decide +kernel
theorem dX4_sky_54 : decode cX4_sky 54 = .ok (.ireturn, 1) := by decide +kernel
theorem dX4_fan_0 : decode cX4_fan 0 = .ok (.aload_n 0, 1) := by decide +kernel
theorem dX4_fan_1 : decode cX4_fan 1 = .ok (.iload_n 1, 1) := by decide +kernel
theorem dX4_fan_2 : decode cX4_fan 2 = .ok (.iload_n 2, 1) := by decide +kernel
theorem dX4_fan_3 : decode cX4_fan 3 = .ok (.iload_n 3, 1) := by decide +kernel
theorem dX4_fan_4 : decode cX4_fan 4 = .ok (.invokestatic 156, 3) := by decide +kernel
theorem dX4_fan_7 : decode cX4_fan 7 = .ok (.ifCond .ne 7, 3) := by decide +kernel
theorem dX4_fan_10 : decode cX4_fan 10 = .ok (.iconst 1, 1) := by decide +kernel
theorem dX4_fan_11 : decode cX4_fan 11 = .ok (.goto 17, 3) := by decide +kernel
theorem dX4_fan_14 : decode cX4_fan 14 = .ok (.aload_n 0, 1) := by decide +kernel
theorem dX4_fan_15 : decode cX4_fan 15 = .ok (.getfield 177, 3) := by decide +kernel
theorem dX4_fan_18 : decode cX4_fan 18 = .ok (.bipush 40, 2) := by decide +kernel
theorem dX4_fan_20 : decode cX4_fan 20 = .ok (.if_icmp .ne 7, 3) := by decide +kernel
theorem dX4_fan_23 : decode cX4_fan 23 = .ok (.iconst 2, 1) := by decide +kernel
theorem dX4_fan_24 : decode cX4_fan 24 = .ok (.goto 4, 3) := by decide +kernel
theorem dX4_fan_27 : decode cX4_fan 27 = .ok (.iconst 0, 1) := by decide +kernel
theorem dX4_fan_28 : decode cX4_fan 28 = .ok (.putfield 79, 3) := by decide +kernel
theorem dX4_fan_31 : decode cX4_fan 31 = .ok (.aload_n 0, 1) := by decide +kernel
theorem dX4_fan_32 : decode cX4_fan 32 = .ok (.getfield 79, 3) := by decide +kernel
theorem dX4_fan_35 : decode cX4_fan 35 = .ok (.ifCond .le 5, 3) := by decide +kernel
theorem dX4_fan_38 : decode cX4_fan 38 = .ok (.iconst 0, 1) := by decide +kernel
theorem dX4_fan_39 : decode cX4_fan 39 = .ok (.ireturn, 1) := by decide +kernel
theorem dX4_fan_40 : decode cX4_fan 40 = .ok (.aload_n 0, 1) := by decide +kernel
theorem dX4_fan_41 : decode cX4_fan 41 = .ok (.getfield 72, 3) := by decide +kernel
theorem dX4_fan_44 : decode cX4_fan 44 = .ok (.iconst 3, 1) := by decide +kernel
theorem dX4_fan_45 : decode cX4_fan 45 = .ok (.aload_n 0, 1) := by decide +kernel
theorem dX4_fan_46 : decode cX4_fan 46 = .ok (.getfield 177, 3) := by decide +kernel
theorem dX4_fan_49 : decode cX4_fan 49 = .ok (.imul, 1) := by decide +kernel
theorem dX4_fan_50 : decode cX4_fan 50 = .ok (.iload_n 1, 1) := by decide +kernel
theorem dX4_fan_51 : decode cX4_fan 51 = .ok (.iastore, 1) := by decide +kernel
theorem dX4_fan_52 : decode cX4_fan 52 = .ok (.aload_n 0, 1) := by decide +kernel
theorem dX4_fan_53 : decode cX4_fan 53 = .ok (.getfield 72, 3) := by decide +kernel
theorem dX4_fan_56 : decode cX4_fan 56 = .ok (.iconst 3, 1) := by decide +kernel
theorem dX4_fan_57 : decode cX4_fan 57 = .ok (.aload_n 0, 1) := by decide +kernel
theorem dX4_fan_58 : decode cX4_fan 58 = .ok (.getfield 177, 3) := by decide +kernel
theorem dX4_fan_61 : decode cX4_fan 61 = .ok (.imul, 1) := by decide +kernel
theorem dX4_fan_62 : decode cX4_fan 62 = .ok (.iconst 1, 1) := by decide +kernel
theorem dX4_fan_63 : decode cX4_fan 63 = .ok (.iadd, 1) := by decide +kernel
theorem dX4_fan_64 : decode cX4_fan 64 = .ok (.iload_n 2, 1) := by decide +kernel
theorem dX4_fan_65 : decode cX4_fan 65 = .ok (.iastore, 1) := by decide +kernel
theorem dX4_fan_66 : decode cX4_fan 66 = .ok (.aload_n 0, 1) := by decide +kernel
theorem dX4_fan_67 : decode cX4_fan 67 = .ok (.getfield 72, 3) := by decide +kernel
theorem dX4_fan_70 : decode cX4_fan 70 = .ok (.iconst 3, 1) := by decide +kernel
theorem dX4_fan_71 : decode cX4_fan 71 = .ok (.aload_n 0, 1) := by decide +kernel
theorem dX4_fan_72 : decode cX4_fan 72 = .ok (.getfield 177, 3) := by decide +kernel
theorem dX4_fan_75 : decode cX4_fan 75 = .ok (.imul, 1) := by decide +kernel
theorem dX4_fan_76 : decode cX4_fan 76 = .ok (.iconst 2, 1) := by decide +kernel
theorem dX4_fan_77 : decode cX4_fan 77 = .ok (.iadd, 1) := by decide +kernel
theorem dX4_fan_78 : decode cX4_fan 78 = .ok (.iload_n 3, 1) := by decide +kernel
theorem dX4_fan_79 : decode cX4_fan 79 = .ok (.iastore, 1) := by decide +kernel
theorem dX4_fan_80 : decode cX4_fan 80 = .ok (.aload_n 0, 1) := by decide +kernel
theorem dX4_fan_81 : decode cX4_fan 81 = .ok (.dup, 1) := by decide +kernel
theorem dX4_fan_82 : decode cX4_fan 82 = .ok (.getfield 177, 3) := by decide +kernel
theorem dX4_fan_85 : decode cX4_fan 85 = .ok (.iconst 1, 1) := by decide +kernel
theorem dX4_fan_86 : decode cX4_fan 86 = .ok (.iadd, 1) := by decide +kernel
theorem dX4_fan_87 : decode cX4_fan 87 = .ok (.putfield 177, 3) := by decide +kernel
theorem dX4_fan_90 : decode cX4_fan 90 = .ok (.aload_n 0, 1) := by decide +kernel
theorem dX4_fan_91 : decode cX4_fan 91 = .ok (.getfield 177, 3) := by decide +kernel
theorem dX4_fan_94 : decode cX4_fan 94 = .ok (.ireturn, 1) := by decide +kernel
theorem dX4_noFan_0 : decode cX4_noFan 0 = .ok (.aload_n 0, 1) := by decide +kernel
theorem dX4_noFan_1 : decode cX4_noFan 1 = .ok (.iconst 0, 1) := by decide +kernel
theorem dX4_noFan_2 : decode cX4_noFan 2 = .ok (.putfield 79, 3) := by decide +kernel
theorem dX4_noFan_5 : decode cX4_noFan 5 = .ok (.aload_n 0, 1) := by decide +kernel
theorem dX4_noFan_6 : decode cX4_noFan 6 = .ok (.getfield 177, 3) := by decide +kernel
theorem dX4_noFan_9 : decode cX4_noFan 9 = .ok (.istore_n 1, 1) := by decide +kernel
theorem dX4_noFan_10 : decode cX4_noFan 10 = .ok (.aload_n 0, 1) := by decide +kernel
theorem dX4_noFan_11 : decode cX4_noFan 11 = .ok (.iconst 0, 1) := by decide +kernel
theorem dX4_noFan_12 : decode cX4_noFan 12 = .ok (.putfield 177, 3) := by decide +kernel
theorem dX4_noFan_15 : decode cX4_noFan 15 = .ok (.iload_n 1, 1) := by decide +kernel
theorem dX4_noFan_16 : decode cX4_noFan 16 = .ok (.ireturn, 1) := by decide +kernel
theorem dX4_measure_0 : decode cX4_measure 0 = .ok (.aload_n 0, 1) := by decide +kernel
theorem dX4_measure_1 : decode cX4_measure 1 = .ok (.aload_n 0, 1) := by decide +kernel
theorem dX4_measure_2 : decode cX4_measure 2 = .ok (.iload_n 1, 1) := by decide +kernel
theorem dX4_measure_3 : decode cX4_measure 3 = .ok (.iload_n 2, 1) := by decide +kernel
theorem dX4_measure_4 : decode cX4_measure 4 = .ok (.iload_n 3, 1) := by decide +kernel
theorem dX4_measure_5 : decode cX4_measure 5 = .ok (.invokevirtual 93, 3) := by decide +kernel
theorem dX4_measure_8 : decode cX4_measure 8 = .ok (.ifCond .eq 7, 3) := by decide +kernel
theorem dX4_measure_11 : decode cX4_measure 11 = .ok (.iconst 0, 1) := by decide +kernel
theorem dX4_measure_12 : decode cX4_measure 12 = .ok (.goto 4, 3) := by decide +kernel
theorem dX4_measure_15 : decode cX4_measure 15 = .ok (.iconst 1, 1) := by decide +kernel
theorem dX4_measure_16 : decode cX4_measure 16 = .ok (.putfield 79, 3) := by decide +kernel
theorem dX4_measure_19 : decode cX4_measure 19 = .ok (.aload_n 0, 1) := by decide +kernel
theorem dX4_measure_20 : decode cX4_measure 20 = .ok (.getfield 79, 3) := by decide +kernel
theorem dX4_measure_23 : decode cX4_measure 23 = .ok (.ifCond .le 7, 3) := by decide +kernel
theorem dX4_measure_26 : decode cX4_measure 26 = .ok (.lconst 0, 1) := by decide +kernel
theorem dX4_measure_27 : decode cX4_measure 27 = .ok (.goto 10, 3) := by decide +kernel
theorem dX4_measure_30 : decode cX4_measure 30 = .ok (.aload_n 0, 1) := by decide +kernel
theorem dX4_measure_31 : decode cX4_measure 31 = .ok (.iload_n 1, 1) := by decide +kernel
theorem dX4_measure_32 : decode cX4_measure 32 = .ok (.iload_n 2, 1) := by decide +kernel
theorem dX4_measure_33 : decode cX4_measure 33 = .ok (.iload_n 3, 1) := by decide +kernel
theorem dX4_measure_34 : decode cX4_measure 34 = .ok (.invokevirtual 180, 3) := by decide +kernel
theorem dX4_measure_37 : decode cX4_measure 37 = .ok (.lreturn, 1) := by decide +kernel
theorem dX4_measureOf_0 : decode cX4_measureOf 0 = .ok (.lconst 0, 1) := by decide +kernel
theorem dX4_measureOf_1 : decode cX4_measureOf 1 = .ok (.lstore 4, 2) := by decide +kernel
theorem dX4_measureOf_3 : decode cX4_measureOf 3 = .ok (.iconst 0, 1) := by decide +kernel
theorem dX4_measureOf_4 : decode cX4_measureOf 4 = .ok (.istore 6, 2) := by decide +kernel
theorem dX4_measureOf_6 : decode cX4_measureOf 6 = .ok (.iload 6, 2) := by decide +kernel
theorem dX4_measureOf_8 : decode cX4_measureOf 8 = .ok (.aload_n 0, 1) := by decide +kernel
theorem dX4_measureOf_9 : decode cX4_measureOf 9 = .ok (.getfield 177, 3) := by decide +kernel
theorem dX4_measureOf_12 : decode cX4_measureOf 12 = .ok (.if_icmp .ge 124, 3) := by decide +kernel
theorem dX4_measureOf_15 : decode cX4_measureOf 15 = .ok (.aload_n 0, 1) := by decide +kernel
theorem dX4_measureOf_16 : decode cX4_measureOf 16 = .ok (.iload_n 1, 1) := by decide +kernel
theorem dX4_measureOf_17 : decode cX4_measureOf 17 = .ok (.iload_n 2, 1) := by decide +kernel
theorem dX4_measureOf_18 : decode cX4_measureOf 18 = .ok (.iload_n 3, 1) := by decide +kernel
theorem dX4_measureOf_19 : decode cX4_measureOf 19 = .ok (.aload_n 0, 1) := by decide +kernel
theorem dX4_measureOf_20 : decode cX4_measureOf 20 = .ok (.getfield 72, 3) := by decide +kernel
theorem dX4_measureOf_23 : decode cX4_measureOf 23 = .ok (.iconst 3, 1) := by decide +kernel
theorem dX4_measureOf_24 : decode cX4_measureOf 24 = .ok (.iload 6, 2) := by decide +kernel
theorem dX4_measureOf_26 : decode cX4_measureOf 26 = .ok (.imul, 1) := by decide +kernel
theorem dX4_measureOf_27 : decode cX4_measureOf 27 = .ok (.iaload, 1) := by decide +kernel
theorem dX4_measureOf_28 : decode cX4_measureOf 28 = .ok (.aload_n 0, 1) := by decide +kernel
theorem dX4_measureOf_29 : decode cX4_measureOf 29 = .ok (.getfield 72, 3) := by decide +kernel
theorem dX4_measureOf_32 : decode cX4_measureOf 32 = .ok (.iconst 3, 1) := by decide +kernel
theorem dX4_measureOf_33 : decode cX4_measureOf 33 = .ok (.iload 6, 2) := by decide +kernel
theorem dX4_measureOf_35 : decode cX4_measureOf 35 = .ok (.imul, 1) := by decide +kernel
theorem dX4_measureOf_36 : decode cX4_measureOf 36 = .ok (.iconst 1, 1) := by decide +kernel
theorem dX4_measureOf_37 : decode cX4_measureOf 37 = .ok (.iadd, 1) := by decide +kernel
theorem dX4_measureOf_38 : decode cX4_measureOf 38 = .ok (.iaload, 1) := by decide +kernel
theorem dX4_measureOf_39 : decode cX4_measureOf 39 = .ok (.aload_n 0, 1) := by decide +kernel
theorem dX4_measureOf_40 : decode cX4_measureOf 40 = .ok (.getfield 72, 3) := by decide +kernel
theorem dX4_measureOf_43 : decode cX4_measureOf 43 = .ok (.iconst 3, 1) := by decide +kernel
theorem dX4_measureOf_44 : decode cX4_measureOf 44 = .ok (.iload 6, 2) := by decide +kernel
theorem dX4_measureOf_46 : decode cX4_measureOf 46 = .ok (.imul, 1) := by decide +kernel
theorem dX4_measureOf_47 : decode cX4_measureOf 47 = .ok (.iconst 2, 1) := by decide +kernel
theorem dX4_measureOf_48 : decode cX4_measureOf 48 = .ok (.iadd, 1) := by decide +kernel
theorem dX4_measureOf_49 : decode cX4_measureOf 49 = .ok (.iaload, 1) := by decide +kernel
theorem dX4_measureOf_50 : decode cX4_measureOf 50 = .ok (.invokevirtual 159, 3) := by decide +kernel
theorem dX4_measureOf_53 : decode cX4_measureOf 53 = .ok (.istore 7, 2) := by decide +kernel
theorem dX4_measureOf_55 : decode cX4_measureOf 55 = .ok (.aload_n 0, 1) := by decide +kernel
theorem dX4_measureOf_56 : decode cX4_measureOf 56 = .ok (.getfield 26, 3) := by decide +kernel
theorem dX4_measureOf_59 : decode cX4_measureOf 59 = .ok (.iconst 0, 1) := by decide +kernel
theorem dX4_measureOf_60 : decode cX4_measureOf 60 = .ok (.iaload, 1) := by decide +kernel
theorem dX4_measureOf_61 : decode cX4_measureOf 61 = .ok (.ifCond .ge 7, 3) := by decide +kernel
theorem dX4_measureOf_64 : decode cX4_measureOf 64 = .ok (.iconst 4, 1) := by decide +kernel
theorem dX4_measureOf_65 : decode cX4_measureOf 65 = .ok (.goto 4, 3) := by decide +kernel
theorem dX4_measureOf_68 : decode cX4_measureOf 68 = .ok (.iconst 0, 1) := by decide +kernel
theorem dX4_measureOf_69 : decode cX4_measureOf 69 = .ok (.aload_n 0, 1) := by decide +kernel
theorem dX4_measureOf_70 : decode cX4_measureOf 70 = .ok (.getfield 26, 3) := by decide +kernel
theorem dX4_measureOf_73 : decode cX4_measureOf 73 = .ok (.iconst 1, 1) := by decide +kernel
theorem dX4_measureOf_74 : decode cX4_measureOf 74 = .ok (.iaload, 1) := by decide +kernel
theorem dX4_measureOf_75 : decode cX4_measureOf 75 = .ok (.ifCond .ge 7, 3) := by decide +kernel
theorem dX4_measureOf_78 : decode cX4_measureOf 78 = .ok (.iconst 2, 1) := by decide +kernel
theorem dX4_measureOf_79 : decode cX4_measureOf 79 = .ok (.goto 4, 3) := by decide +kernel
theorem dX4_measureOf_82 : decode cX4_measureOf 82 = .ok (.iconst 0, 1) := by decide +kernel
theorem dX4_measureOf_83 : decode cX4_measureOf 83 = .ok (.iadd, 1) := by decide +kernel
theorem dX4_measureOf_84 : decode cX4_measureOf 84 = .ok (.aload_n 0, 1) := by decide +kernel
theorem dX4_measureOf_85 : decode cX4_measureOf 85 = .ok (.getfield 26, 3) := by decide +kernel
theorem dX4_measureOf_88 : decode cX4_measureOf 88 = .ok (.iconst 2, 1) := by decide +kernel
theorem dX4_measureOf_89 : decode cX4_measureOf 89 = .ok (.iaload, 1) := by decide +kernel
theorem dX4_measureOf_90 : decode cX4_measureOf 90 = .ok (.ifCond .ge 7, 3) := by decide +kernel
theorem dX4_measureOf_93 : decode cX4_measureOf 93 = .ok (.iconst 1, 1) := by decide +kernel
theorem dX4_measureOf_94 : decode cX4_measureOf 94 = .ok (.goto 4, 3) := by decide +kernel
theorem dX4_measureOf_97 : decode cX4_measureOf 97 = .ok (.iconst 0, 1) := by decide +kernel
theorem dX4_measureOf_98 : decode cX4_measureOf 98 = .ok (.iadd, 1) := by decide +kernel
theorem dX4_measureOf_99 : decode cX4_measureOf 99 = .ok (.istore 8, 2) := by decide +kernel
theorem dX4_measureOf_101 : decode cX4_measureOf 101 = .ok (.iload 7, 2) := by decide +kernel
theorem dX4_measureOf_103 : decode cX4_measureOf 103 = .ok (.ifCond .ne 23, 3) := by decide +kernel
theorem dX4_measureOf_106 : decode cX4_measureOf 106 = .ok (.lload 4, 2) := by decide +kernel
theorem dX4_measureOf_108 : decode cX4_measureOf 108 = .ok (.aload_n 0, 1) := by decide +kernel
theorem dX4_measureOf_109 : decode cX4_measureOf 109 = .ok (.getfield 138, 3) := by decide +kernel
theorem dX4_measureOf_112 : decode cX4_measureOf 112 = .ok (.i2l, 1) := by decide +kernel
theorem dX4_measureOf_113 : decode cX4_measureOf 113 = .ok (.aload_n 0, 1) := by decide +kernel
theorem dX4_measureOf_114 : decode cX4_measureOf 114 = .ok (.getfield 69, 3) := by decide +kernel
theorem dX4_measureOf_117 : decode cX4_measureOf 117 = .ok (.iload 8, 2) := by decide +kernel
theorem dX4_measureOf_119 : decode cX4_measureOf 119 = .ok (.iaload, 1) := by decide +kernel
theorem dX4_measureOf_120 : decode cX4_measureOf 120 = .ok (.i2l, 1) := by decide +kernel
theorem dX4_measureOf_121 : decode cX4_measureOf 121 = .ok (.lmul, 1) := by decide +kernel
theorem dX4_measureOf_122 : decode cX4_measureOf 122 = .ok (.ladd, 1) := by decide +kernel
theorem dX4_measureOf_123 : decode cX4_measureOf 123 = .ok (.goto 5, 3) := by decide +kernel
theorem dX4_measureOf_126 : decode cX4_measureOf 126 = .ok (.lload 4, 2) := by decide +kernel
theorem dX4_measureOf_128 : decode cX4_measureOf 128 = .ok (.lstore 4, 2) := by decide +kernel
theorem dX4_measureOf_130 : decode cX4_measureOf 130 = .ok (.iinc 6 1, 3) := by decide +kernel
theorem dX4_measureOf_133 : decode cX4_measureOf 133 = .ok (.goto (-127), 3) := by decide +kernel
theorem dX4_measureOf_136 : decode cX4_measureOf 136 = .ok (.lload 4, 2) := by decide +kernel
theorem dX4_measureOf_138 : decode cX4_measureOf 138 = .ok (.lreturn, 1) := by decide +kernel
theorem dX4_best_0 : decode cX4_best 0 = .ok (.aload_n 0, 1) := by decide +kernel
theorem dX4_best_1 : decode cX4_best 1 = .ok (.iload_n 1, 1) := by decide +kernel
theorem dX4_best_2 : decode cX4_best 2 = .ok (.iload_n 2, 1) := by decide +kernel
theorem dX4_best_3 : decode cX4_best 3 = .ok (.iload_n 3, 1) := by decide +kernel
theorem dX4_best_4 : decode cX4_best 4 = .ok (.invokevirtual 93, 3) := by decide +kernel
theorem dX4_best_7 : decode cX4_best 7 = .ok (.ifCond .eq 50, 3) := by decide +kernel
theorem dX4_best_10 : decode cX4_best 10 = .ok (.iload 4, 2) := by decide +kernel
theorem dX4_best_12 : decode cX4_best 12 = .ok (.iconst 1, 1) := by decide +kernel
theorem dX4_best_13 : decode cX4_best 13 = .ok (.bipush 8, 2) := by decide +kernel
theorem dX4_best_15 : decode cX4_best 15 = .ok (.invokestatic 82, 3) := by decide +kernel
theorem dX4_best_18 : decode cX4_best 18 = .ok (.ifCond .eq 39, 3) := by decide +kernel
theorem dX4_best_21 : decode cX4_best 21 = .ok (.iload 5, 2) := by decide +kernel
theorem dX4_best_23 : decode cX4_best 23 = .ok (.iconst 1, 1) := by decide +kernel
theorem dX4_best_24 : decode cX4_best 24 = .ok (.bipush 8, 2) := by decide +kernel
theorem dX4_best_26 : decode cX4_best 26 = .ok (.invokestatic 82, 3) := by decide +kernel
theorem dX4_best_29 : decode cX4_best 29 = .ok (.ifCond .eq 28, 3) := by decide +kernel
theorem dX4_best_32 : decode cX4_best 32 = .ok (.iload 6, 2) := by decide +kernel
theorem dX4_best_34 : decode cX4_best 34 = .ok (.iconst 1, 1) := by decide +kernel
theorem dX4_best_35 : decode cX4_best 35 = .ok (.bipush 100, 2) := by decide +kernel
theorem dX4_best_37 : decode cX4_best 37 = .ok (.invokestatic 82, 3) := by decide +kernel
theorem dX4_best_40 : decode cX4_best 40 = .ok (.ifCond .eq 17, 3) := by decide +kernel
theorem dX4_best_43 : decode cX4_best 43 = .ok (.iload 7, 2) := by decide +kernel
theorem dX4_best_45 : decode cX4_best 45 = .ok (.iconst 0, 1) := by decide +kernel
theorem dX4_best_46 : decode cX4_best 46 = .ok (.iconst 1, 1) := by decide +kernel
theorem dX4_best_47 : decode cX4_best 47 = .ok (.invokestatic 82, 3) := by decide +kernel
theorem dX4_best_50 : decode cX4_best 50 = .ok (.ifCond .eq 7, 3) := by decide +kernel
theorem dX4_best_53 : decode cX4_best 53 = .ok (.iconst 1, 1) := by decide +kernel
theorem dX4_best_54 : decode cX4_best 54 = .ok (.goto 4, 3) := by decide +kernel
theorem dX4_best_57 : decode cX4_best 57 = .ok (.iconst 0, 1) := by decide +kernel
theorem dX4_best_58 : decode cX4_best 58 = .ok (.istore 8, 2) := by decide +kernel
theorem dX4_best_60 : decode cX4_best 60 = .ok (.iload 8, 2) := by decide +kernel
theorem dX4_best_62 : decode cX4_best 62 = .ok (.ifCond .eq 39, 3) := by decide +kernel
theorem dX4_best_65 : decode cX4_best 65 = .ok (.aload_n 0, 1) := by decide +kernel
theorem dX4_best_66 : decode cX4_best 66 = .ok (.iload_n 1, 1) := by decide +kernel
theorem dX4_best_67 : decode cX4_best 67 = .ok (.iload 4, 2) := by decide +kernel
theorem dX4_best_69 : decode cX4_best 69 = .ok (.iconst 1, 1) := by decide +kernel
theorem dX4_best_70 : decode cX4_best 70 = .ok (.isub, 1) := by decide +kernel
theorem dX4_best_71 : decode cX4_best 71 = .ok (.iload 6, 2) := by decide +kernel
theorem dX4_best_73 : decode cX4_best 73 = .ok (.imul, 1) := by decide +kernel
theorem dX4_best_74 : decode cX4_best 74 = .ok (.iadd, 1) := by decide +kernel
theorem dX4_best_75 : decode cX4_best 75 = .ok (.invokevirtual 86, 3) := by decide +kernel
theorem dX4_best_78 : decode cX4_best 78 = .ok (.ifCond .eq 23, 3) := by decide +kernel
theorem dX4_best_81 : decode cX4_best 81 = .ok (.aload_n 0, 1) := by decide +kernel
theorem dX4_best_82 : decode cX4_best 82 = .ok (.iload_n 2, 1) := by decide +kernel
theorem dX4_best_83 : decode cX4_best 83 = .ok (.iload 5, 2) := by decide +kernel
theorem dX4_best_85 : decode cX4_best 85 = .ok (.iconst 1, 1) := by decide +kernel
theorem dX4_best_86 : decode cX4_best 86 = .ok (.isub, 1) := by decide +kernel
theorem dX4_best_87 : decode cX4_best 87 = .ok (.iload 6, 2) := by decide +kernel
theorem dX4_best_89 : decode cX4_best 89 = .ok (.imul, 1) := by decide +kernel
theorem dX4_best_90 : decode cX4_best 90 = .ok (.iadd, 1) := by decide +kernel
theorem dX4_best_91 : decode cX4_best 91 = .ok (.invokevirtual 86, 3) := by decide +kernel
theorem dX4_best_94 : decode cX4_best 94 = .ok (.ifCond .eq 7, 3) := by decide +kernel
theorem dX4_best_97 : decode cX4_best 97 = .ok (.iconst 1, 1) := by decide +kernel
theorem dX4_best_98 : decode cX4_best 98 = .ok (.goto 4, 3) := by decide +kernel
theorem dX4_best_101 : decode cX4_best 101 = .ok (.iconst 0, 1) := by decide +kernel
theorem dX4_best_102 : decode cX4_best 102 = .ok (.istore 8, 2) := by decide +kernel
theorem dX4_best_104 : decode cX4_best 104 = .ok (.aload_n 0, 1) := by decide +kernel
theorem dX4_best_105 : decode cX4_best 105 = .ok (.iload 8, 2) := by decide +kernel
theorem dX4_best_107 : decode cX4_best 107 = .ok (.ifCond .eq 7, 3) := by decide +kernel
theorem dX4_best_110 : decode cX4_best 110 = .ok (.iconst 0, 1) := by decide +kernel
theorem dX4_best_111 : decode cX4_best 111 = .ok (.goto 4, 3) := by decide +kernel
theorem dX4_best_114 : decode cX4_best 114 = .ok (.iconst 1, 1) := by decide +kernel
theorem dX4_best_115 : decode cX4_best 115 = .ok (.putfield 79, 3) := by decide +kernel
theorem dX4_best_118 : decode cX4_best 118 = .ok (.aload_n 0, 1) := by decide +kernel
theorem dX4_best_119 : decode cX4_best 119 = .ok (.getfield 79, 3) := by decide +kernel
theorem dX4_best_122 : decode cX4_best 122 = .ok (.ifCond .le 5, 3) := by decide +kernel
theorem dX4_best_125 : decode cX4_best 125 = .ok (.iconst 0, 1) := by decide +kernel
theorem dX4_best_126 : decode cX4_best 126 = .ok (.ireturn, 1) := by decide +kernel
theorem dX4_best_127 : decode cX4_best 127 = .ok (.ldc2_w 184, 3) := by decide +kernel
theorem dX4_best_130 : decode cX4_best 130 = .ok (.lstore 9, 2) := by decide +kernel
theorem dX4_best_132 : decode cX4_best 132 = .ok (.iconst 0, 1) := by decide +kernel
theorem dX4_best_133 : decode cX4_best 133 = .ok (.istore 11, 2) := by decide +kernel
theorem dX4_best_135 : decode cX4_best 135 = .ok (.iconst 0, 1) := by decide +kernel
theorem dX4_best_136 : decode cX4_best 136 = .ok (.istore 12, 2) := by decide +kernel
theorem dX4_best_138 : decode cX4_best 138 = .ok (.iload 12, 2) := by decide +kernel
theorem dX4_best_140 : decode cX4_best 140 = .ok (.iload 4, 2) := by decide +kernel
theorem dX4_best_142 : decode cX4_best 142 = .ok (.iload 5, 2) := by decide +kernel
theorem dX4_best_144 : decode cX4_best 144 = .ok (.imul, 1) := by decide +kernel
theorem dX4_best_145 : decode cX4_best 145 = .ok (.if_icmp .ge 52, 3) := by decide +kernel
theorem dX4_best_148 : decode cX4_best 148 = .ok (.aload_n 0, 1) := by decide +kernel
theorem dX4_best_149 : decode cX4_best 149 = .ok (.iload_n 1, 1) := by decide +kernel
theorem dX4_best_150 : decode cX4_best 150 = .ok (.iload 12, 2) := by decide +kernel
theorem dX4_best_152 : decode cX4_best 152 = .ok (.iload 4, 2) := by decide +kernel
theorem dX4_best_154 : decode cX4_best 154 = .ok (.irem, 1) := by decide +kernel
theorem dX4_best_155 : decode cX4_best 155 = .ok (.iload 6, 2) := by decide +kernel
theorem dX4_best_157 : decode cX4_best 157 = .ok (.imul, 1) := by decide +kernel
theorem dX4_best_158 : decode cX4_best 158 = .ok (.iadd, 1) := by decide +kernel
theorem dX4_best_159 : decode cX4_best 159 = .ok (.iload_n 2, 1) := by decide +kernel
theorem dX4_best_160 : decode cX4_best 160 = .ok (.iload 12, 2) := by decide +kernel
theorem dX4_best_162 : decode cX4_best 162 = .ok (.iload 4, 2) := by decide +kernel
theorem dX4_best_164 : decode cX4_best 164 = .ok (.idiv, 1) := by decide +kernel
theorem dX4_best_165 : decode cX4_best 165 = .ok (.iload 6, 2) := by decide +kernel
theorem dX4_best_167 : decode cX4_best 167 = .ok (.imul, 1) := by decide +kernel
theorem dX4_best_168 : decode cX4_best 168 = .ok (.iadd, 1) := by decide +kernel
theorem dX4_best_169 : decode cX4_best 169 = .ok (.iload_n 3, 1) := by decide +kernel
theorem dX4_best_170 : decode cX4_best 170 = .ok (.invokevirtual 180, 3) := by decide +kernel
theorem dX4_best_173 : decode cX4_best 173 = .ok (.lstore 13, 2) := by decide +kernel
theorem dX4_best_175 : decode cX4_best 175 = .ok (.lload 13, 2) := by decide +kernel
theorem dX4_best_177 : decode cX4_best 177 = .ok (.lload 9, 2) := by decide +kernel
theorem dX4_best_179 : decode cX4_best 179 = .ok (.lcmp, 1) := by decide +kernel
theorem dX4_best_180 : decode cX4_best 180 = .ok (.ifCond .le 11, 3) := by decide +kernel
theorem dX4_best_183 : decode cX4_best 183 = .ok (.lload 13, 2) := by decide +kernel
theorem dX4_best_185 : decode cX4_best 185 = .ok (.lstore 9, 2) := by decide +kernel
theorem dX4_best_187 : decode cX4_best 187 = .ok (.iload 12, 2) := by decide +kernel
theorem dX4_best_189 : decode cX4_best 189 = .ok (.istore 11, 2) := by decide +kernel
theorem dX4_best_191 : decode cX4_best 191 = .ok (.iinc 12 1, 3) := by decide +kernel
theorem dX4_best_194 : decode cX4_best 194 = .ok (.goto (-56), 3) := by decide +kernel
theorem dX4_best_197 : decode cX4_best 197 = .ok (.iload 7, 2) := by decide +kernel
theorem dX4_best_199 : decode cX4_best 199 = .ok (.ifCond .ne 11, 3) := by decide +kernel
theorem dX4_best_202 : decode cX4_best 202 = .ok (.iload 11, 2) := by decide +kernel
theorem dX4_best_204 : decode cX4_best 204 = .ok (.iload 4, 2) := by decide +kernel
theorem dX4_best_206 : decode cX4_best 206 = .ok (.irem, 1) := by decide +kernel
theorem dX4_best_207 : decode cX4_best 207 = .ok (.goto 8, 3) := by decide +kernel
theorem dX4_best_210 : decode cX4_best 210 = .ok (.iload 11, 2) := by decide +kernel
theorem dX4_best_212 : decode cX4_best 212 = .ok (.iload 4, 2) := by decide +kernel
theorem dX4_best_214 : decode cX4_best 214 = .ok (.idiv, 1) := by decide +kernel
theorem dX4_best_215 : decode cX4_best 215 = .ok (.ireturn, 1) := by decide +kernel
