theorem dX3_init_0 : decode cX3_init 0 = .ok (.aload_n 0, 1) := by decide +kernel
theorem dX3_init_1 : decode cX3_init 1 = .ok (.invokespecial 1, 3) := by decide +kernel
theorem dX3_init_4 : decode cX3_init 4 = .ok (.aload_n 0, 1) := by decide +kernel
theorem dX3_init_5 : decode cX3_init 5 = .ok (.iconst 1, 1) := by decide +kernel
theorem dX3_init_6 : decode cX3_init 6 = .ok (.sipush 1000, 3) := by decide +kernel
theorem dX3_init_9 : decode cX3_init 9 = .ok (.iload_n 1, 1) := by decide +kernel
theorem dX3_init_10 : decode cX3_init 10 = .ok (.invokestatic 9, 3) := by decide +kernel
theorem dX3_init_13 : decode cX3_init 13 = .ok (.invokestatic 15, 3) := by decide +kernel
theorem dX3_init_16 : decode cX3_init 16 = .ok (.putfield 18, 3) := by decide +kernel
theorem dX3_init_19 : decode cX3_init 19 = .ok (.aload_n 0, 1) := by decide +kernel
theorem dX3_init_20 : decode cX3_init 20 = .ok (.new 22, 3) := by decide +kernel
theorem dX3_init_23 : decode cX3_init 23 = .ok (.dup, 1) := by decide +kernel
theorem dX3_init_24 : decode cX3_init 24 = .ok (.invokespecial 24, 3) := by decide +kernel
theorem dX3_init_27 : decode cX3_init 27 = .ok (.putfield 25, 3) := by decide +kernel
theorem dX3_init_30 : decode cX3_init 30 = .ok (.aload_n 0, 1) := by decide +kernel
theorem dX3_init_31 : decode cX3_init 31 = .ok (.bipush 8, 2) := by decide +kernel
theorem dX3_init_33 : decode cX3_init 33 = .ok (.newarray .int, 2) := by decide +kernel
theorem dX3_init_35 : decode cX3_init 35 = .ok (.putfield 29, 3) := by decide +kernel
theorem dX3_init_38 : decode cX3_init 38 = .ok (.aload_n 0, 1) := by decide +kernel
theorem dX3_init_39 : decode cX3_init 39 = .ok (.bipush 120, 2) := by decide +kernel
theorem dX3_init_41 : decode cX3_init 41 = .ok (.newarray .int, 2) := by decide +kernel
theorem dX3_init_43 : decode cX3_init 43 = .ok (.putfield 33, 3) := by decide +kernel
theorem dX3_init_46 : decode cX3_init 46 = .ok (.aload_n 0, 1) := by decide +kernel
theorem dX3_init_47 : decode cX3_init 47 = .ok (.iconst 0, 1) := by decide +kernel
theorem dX3_init_48 : decode cX3_init 48 = .ok (.putfield 36, 3) := by decide +kernel
theorem dX3_init_51 : decode cX3_init 51 = .ok (.aload_n 0, 1) := by decide +kernel
theorem dX3_init_52 : decode cX3_init 52 = .ok (.new 39, 3) := by decide +kernel
theorem dX3_init_55 : decode cX3_init 55 = .ok (.dup, 1) := by decide +kernel
theorem dX3_init_56 : decode cX3_init 56 = .ok (.invokespecial 41, 3) := by decide +kernel
theorem dX3_init_59 : decode cX3_init 59 = .ok (.putfield 42, 3) := by decide +kernel
theorem dX3_init_62 : decode cX3_init 62 = .ok (.aload_n 0, 1) := by decide +kernel
theorem dX3_init_63 : decode cX3_init 63 = .ok (.iconst 0, 1) := by decide +kernel
theorem dX3_init_64 : decode cX3_init 64 = .ok (.putfield 46, 3) := by decide +kernel
theorem dX3_init_67 : decode cX3_init 67 = .ok (.aload_n 0, 1) := by decide +kernel
theorem dX3_init_68 : decode cX3_init 68 = .ok (.new 39, 3) := by decide +kernel
theorem dX3_init_71 : decode cX3_init 71 = .ok (.dup, 1) := by decide +kernel
theorem dX3_init_72 : decode cX3_init 72 = .ok (.invokespecial 41, 3) := by decide +kernel
theorem dX3_init_75 : decode cX3_init 75 = .ok (.putfield 50, 3) := by decide +kernel
theorem dX3_init_78 : decode cX3_init 78 = .ok (.return_, 1) := by decide +kernel
theorem dJM_min_0 : decode cJM_min 0 = .ok (.iload_n 0, 1) := by decide +kernel
theorem dJM_min_1 : decode cJM_min 1 = .ok (.iload_n 1, 1) := by decide +kernel
theorem dJM_min_2 : decode cJM_min 2 = .ok (.if_icmp .gt 7, 3) := by decide +kernel
theorem dJM_min_5 : decode cJM_min 5 = .ok (.iload_n 0, 1) := by decide +kernel
theorem dJM_min_6 : decode cJM_min 6 = .ok (.goto 4, 3) := by decide +kernel
theorem dJM_min_9 : decode cJM_min 9 = .ok (.iload_n 1, 1) := by decide +kernel
theorem dJM_min_10 : decode cJM_min 10 = .ok (.ireturn, 1) := by decide +kernel
theorem dJM_max_0 : decode cJM_max 0 = .ok (.iload_n 0, 1) := by decide +kernel
theorem dJM_max_1 : decode cJM_max 1 = .ok (.iload_n 1, 1) := by decide +kernel
theorem dJM_max_2 : decode cJM_max 2 = .ok (.if_icmp .lt 7, 3) := by decide +kernel
theorem dJM_max_5 : decode cJM_max 5 = .ok (.iload_n 0, 1) := by decide +kernel
theorem dJM_max_6 : decode cJM_max 6 = .ok (.goto 4, 3) := by decide +kernel
theorem dJM_max_9 : decode cJM_max 9 = .ok (.iload_n 1, 1) := by decide +kernel
theorem dJM_max_10 : decode cJM_max 10 = .ok (.ireturn, 1) := by decide +kernel
theorem dX0_init_0 : decode cX0_init 0 = .ok (.aload_n 0, 1) := by decide +kernel
theorem dX0_init_1 : decode cX0_init 1 = .ok (.invokespecial 3, 3) := by decide +kernel
theorem dX0_init_4 : decode cX0_init 4 = .ok (.aload_n 0, 1) := by decide +kernel
theorem dX0_init_5 : decode cX0_init 5 = .ok (.bipush 60, 2) := by decide +kernel
theorem dX0_init_7 : decode cX0_init 7 = .ok (.newarray .int, 2) := by decide +kernel
theorem dX0_init_9 : decode cX0_init 9 = .ok (.putfield 9, 3) := by decide +kernel
theorem dX0_init_12 : decode cX0_init 12 = .ok (.aload_n 0, 1) := by decide +kernel
theorem dX0_init_13 : decode cX0_init 13 = .ok (.bipush 60, 2) := by decide +kernel
theorem dX0_init_15 : decode cX0_init 15 = .ok (.newarray .int, 2) := by decide +kernel
theorem dX0_init_17 : decode cX0_init 17 = .ok (.putfield 15, 3) := by decide +kernel
theorem dX0_init_20 : decode cX0_init 20 = .ok (.aload_n 0, 1) := by decide +kernel
theorem dX0_init_21 : decode cX0_init 21 = .ok (.bipush 20, 2) := by decide +kernel
theorem dX0_init_23 : decode cX0_init 23 = .ok (.newarray .int, 2) := by decide +kernel
theorem dX0_init_25 : decode cX0_init 25 = .ok (.putfield 18, 3) := by decide +kernel
theorem dX0_init_28 : decode cX0_init 28 = .ok (.aload_n 0, 1) := by decide +kernel
theorem dX0_init_29 : decode cX0_init 29 = .ok (.bipush 20, 2) := by decide +kernel
theorem dX0_init_31 : decode cX0_init 31 = .ok (.newarray .int, 2) := by decide +kernel
theorem dX0_init_33 : decode cX0_init 33 = .ok (.putfield 21, 3) := by decide +kernel
theorem dX0_init_36 : decode cX0_init 36 = .ok (.aload_n 0, 1) := by decide +kernel
theorem dX0_init_37 : decode cX0_init 37 = .ok (.bipush 20, 2) := by decide +kernel
theorem dX0_init_39 : decode cX0_init 39 = .ok (.newarray .boolean, 2) := by decide +kernel
theorem dX0_init_41 : decode cX0_init 41 = .ok (.putfield 24, 3) := by decide +kernel
theorem dX0_init_44 : decode cX0_init 44 = .ok (.aload_n 0, 1) := by decide +kernel
theorem dX0_init_45 : decode cX0_init 45 = .ok (.iconst 0, 1) := by decide +kernel
theorem dX0_init_46 : decode cX0_init 46 = .ok (.putfield 28, 3) := by decide +kernel
theorem dX0_init_49 : decode cX0_init 49 = .ok (.return_, 1) := by decide +kernel
theorem dX2_init_0 : decode cX2_init 0 = .ok (.aload_n 0, 1) := by decide +kernel
theorem dX2_init_1 : decode cX2_init 1 = .ok (.invokespecial 3, 3) := by decide +kernel
theorem dX2_init_4 : decode cX2_init 4 = .ok (.aload_n 0, 1) := by decide +kernel
theorem dX2_init_5 : decode cX2_init 5 = .ok (.iconst 3, 1) := by decide +kernel
theorem dX2_init_6 : decode cX2_init 6 = .ok (.newarray .int, 2) := by decide +kernel
theorem dX2_init_8 : decode cX2_init 8 = .ok (.putfield 9, 3) := by decide +kernel
theorem dX2_init_11 : decode cX2_init 11 = .ok (.aload_n 0, 1) := by decide +kernel
theorem dX2_init_12 : decode cX2_init 12 = .ok (.iconst 3, 1) := by decide +kernel
theorem dX2_init_13 : decode cX2_init 13 = .ok (.newarray .int, 2) := by decide +kernel
theorem dX2_init_15 : decode cX2_init 15 = .ok (.putfield 15, 3) := by decide +kernel
theorem dX2_init_18 : decode cX2_init 18 = .ok (.aload_n 0, 1) := by decide +kernel
theorem dX2_init_19 : decode cX2_init 19 = .ok (.iconst 3, 1) := by decide +kernel
theorem dX2_init_20 : decode cX2_init 20 = .ok (.newarray .int, 2) := by decide +kernel
theorem dX2_init_22 : decode cX2_init 22 = .ok (.putfield 18, 3) := by decide +kernel
theorem dX2_init_25 : decode cX2_init 25 = .ok (.aload_n 0, 1) := by decide +kernel
theorem dX2_init_26 : decode cX2_init 26 = .ok (.bipush 30, 2) := by decide +kernel
theorem dX2_init_28 : decode cX2_init 28 = .ok (.newarray .int, 2) := by decide +kernel
theorem dX2_init_30 : decode cX2_init 30 = .ok (.putfield 21, 3) := by decide +kernel
theorem dX2_init_33 : decode cX2_init 33 = .ok (.aload_n 0, 1) := by decide +kernel
theorem dX2_init_34 : decode cX2_init 34 = .ok (.bipush 30, 2) := by decide +kernel
theorem dX2_init_36 : decode cX2_init 36 = .ok (.newarray .int, 2) := by decide +kernel
theorem dX2_init_38 : decode cX2_init 38 = .ok (.putfield 24, 3) := by decide +kernel
theorem dX2_init_41 : decode cX2_init 41 = .ok (.aload_n 0, 1) := by decide +kernel
theorem dX2_init_42 : decode cX2_init 42 = .ok (.bipush 30, 2) := by decide +kernel
theorem dX2_init_44 : decode cX2_init 44 = .ok (.newarray .int, 2) := by decide +kernel
theorem dX2_init_46 : decode cX2_init 46 = .ok (.putfield 27, 3) := by decide +kernel
theorem dX2_init_49 : decode cX2_init 49 = .ok (.aload_n 0, 1) := by decide +kernel
theorem dX2_init_50 : decode cX2_init 50 = .ok (.bipush 30, 2) := by decide +kernel
theorem dX2_init_52 : decode cX2_init 52 = .ok (.newarray .int, 2) := by decide +kernel
theorem dX2_init_54 : decode cX2_init 54 = .ok (.putfield 30, 3) := by decide +kernel
theorem dX2_init_57 : decode cX2_init 57 = .ok (.aload_n 0, 1) := by decide +kernel
theorem dX2_init_58 : decode cX2_init 58 = .ok (.bipush 90, 2) := by decide +kernel
theorem dX2_init_60 : decode cX2_init 60 = .ok (.newarray .int, 2) := by decide +kernel
theorem dX2_init_62 : decode cX2_init 62 = .ok (.putfield 33, 3) := by decide +kernel
theorem dX2_init_65 : decode cX2_init 65 = .ok (.aload_n 0, 1) := by decide +kernel
theorem dX2_init_66 : decode cX2_init 66 = .ok (.new 36, 3) := by decide +kernel
theorem dX2_init_69 : decode cX2_init 69 = .ok (.dup, 1) := by decide +kernel
theorem dX2_init_70 : decode cX2_init 70 = .ok (.invokespecial 38, 3) := by decide +kernel
theorem dX2_init_73 : decode cX2_init 73 = .ok (.putfield 39, 3) := by decide +kernel
theorem dX2_init_76 : decode cX2_init 76 = .ok (.aload_n 0, 1) := by decide +kernel
theorem dX2_init_77 : decode cX2_init 77 = .ok (.new 36, 3) := by decide +kernel
theorem dX2_init_80 : decode cX2_init 80 = .ok (.dup, 1) := by decide +kernel
theorem dX2_init_81 : decode cX2_init 81 = .ok (.invokespecial 38, 3) := by decide +kernel
theorem dX2_init_84 : decode cX2_init 84 = .ok (.putfield 43, 3) := by decide +kernel
theorem dX2_init_87 : decode cX2_init 87 = .ok (.aload_n 0, 1) := by decide +kernel
theorem dX2_init_88 : decode cX2_init 88 = .ok (.new 36, 3) := by decide +kernel
theorem dX2_init_91 : decode cX2_init 91 = .ok (.dup, 1) := by decide +kernel
theorem dX2_init_92 : decode cX2_init 92 = .ok (.invokespecial 38, 3) := by decide +kernel
theorem dX2_init_95 : decode cX2_init 95 = .ok (.putfield 46, 3) := by decide +kernel
theorem dX2_init_98 : decode cX2_init 98 = .ok (.aload_n 0, 1) := by decide +kernel
theorem dX2_init_99 : decode cX2_init 99 = .ok (.iconst 0, 1) := by decide +kernel
theorem dX2_init_100 : decode cX2_init 100 = .ok (.putfield 49, 3) := by decide +kernel
theorem dX2_init_103 : decode cX2_init 103 = .ok (.aload_n 0, 1) := by decide +kernel
theorem dX2_init_104 : decode cX2_init 104 = .ok (.iconst 0, 1) := by decide +kernel
theorem dX2_init_105 : decode cX2_init 105 = .ok (.putfield 53, 3) := by decide +kernel
theorem dX2_init_108 : decode cX2_init 108 = .ok (.return_, 1) := by decide +kernel
theorem dX1_init_0 : decode cX1_init 0 = .ok (.aload_n 0, 1) := by decide +kernel
theorem dX1_init_1 : decode cX1_init 1 = .ok (.invokespecial 1, 3) := by decide +kernel
theorem dX1_init_4 : decode cX1_init 4 = .ok (.return_, 1) := by decide +kernel
theorem dX3_noFan_0 : decode cX3_noFan 0 = .ok (.aload_n 0, 1) := by decide +kernel
theorem dX3_noFan_1 : decode cX3_noFan 1 = .ok (.getfield 36, 3) := by decide +kernel
theorem dX3_noFan_4 : decode cX3_noFan 4 = .ok (.istore_n 1, 1) := by decide +kernel
theorem dX3_noFan_5 : decode cX3_noFan 5 = .ok (.aload_n 0, 1) := by decide +kernel
theorem dX3_noFan_6 : decode cX3_noFan 6 = .ok (.iconst 0, 1) := by decide +kernel
theorem dX3_noFan_7 : decode cX3_noFan 7 = .ok (.putfield 36, 3) := by decide +kernel
theorem dX3_noFan_10 : decode cX3_noFan 10 = .ok (.iload_n 1, 1) := by decide +kernel
theorem dX3_noFan_11 : decode cX3_noFan 11 = .ok (.ireturn, 1) := by decide +kernel
theorem dL_cell_0 : decode cL_cell 0 = .ok (.iload_n 1, 1) := by decide +kernel
theorem dL_cell_1 : decode cL_cell 1 = .ok (.aload_n 0, 1) := by decide +kernel
theorem dL_cell_2 : decode cL_cell 2 = .ok (.arraylength, 1) := by decide +kernel
theorem dL_cell_3 : decode cL_cell 3 = .ok (.if_icmp .ge 9, 3) := by decide +kernel
theorem dL_cell_6 : decode cL_cell 6 = .ok (.aload_n 0, 1) := by decide +kernel
theorem dL_cell_7 : decode cL_cell 7 = .ok (.iload_n 1, 1) := by decide +kernel
theorem dL_cell_8 : decode cL_cell 8 = .ok (.iaload, 1) := by decide +kernel
theorem dL_cell_9 : decode cL_cell 9 = .ok (.goto 4, 3) := by decide +kernel
theorem dL_cell_12 : decode cL_cell 12 = .ok (.iconst 0, 1) := by decide +kernel
theorem dL_cell_13 : decode cL_cell 13 = .ok (.ireturn, 1) := by decide +kernel
theorem dL_box_0 : decode cL_box 0 = .ok (.aload 7, 2) := by decide +kernel
theorem dL_box_2 : decode cL_box 2 = .ok (.iconst 0, 1) := by decide +kernel
theorem dL_box_3 : decode cL_box 3 = .ok (.aload_n 0, 1) := by decide +kernel
theorem dL_box_4 : decode cL_box 4 = .ok (.iload_n 1, 1) := by decide +kernel
theorem dL_box_5 : decode cL_box 5 = .ok (.iload_n 2, 1) := by decide +kernel
theorem dL_box_6 : decode cL_box 6 = .ok (.iload_n 3, 1) := by decide +kernel
theorem dL_box_7 : decode cL_box 7 = .ok (.iload 4, 2) := by decide +kernel
theorem dL_box_9 : decode cL_box 9 = .ok (.iload 5, 2) := by decide +kernel
theorem dL_box_11 : decode cL_box 11 = .ok (.iload 6, 2) := by decide +kernel
theorem dL_box_13 : decode cL_box 13 = .ok (.invokevirtual 7, 3) := by decide +kernel
theorem dL_box_16 : decode cL_box 16 = .ok (.i2l, 1) := by decide +kernel
theorem dL_box_17 : decode cL_box 17 = .ok (.lastore, 1) := by decide +kernel
theorem dL_box_18 : decode cL_box 18 = .ok (.goto 11, 3) := by decide +kernel
theorem dL_box_21 : decode cL_box 21 = .ok (.astore 8, 2) := by decide +kernel
theorem dL_box_23 : decode cL_box 23 = .ok (.iconst 1, 1) := by decide +kernel
theorem dL_box_24 : decode cL_box 24 = .ok (.ireturn, 1) := by decide +kernel
theorem dL_box_25 : decode cL_box 25 = .ok (.astore 8, 2) := by decide +kernel
theorem dL_box_27 : decode cL_box 27 = .ok (.iconst 2, 1) := by decide +kernel
theorem dL_box_28 : decode cL_box 28 = .ok (.ireturn, 1) := by decide +kernel
theorem dL_box_29 : decode cL_box 29 = .ok (.iconst 0, 1) := by decide +kernel
theorem dL_box_30 : decode cL_box 30 = .ok (.ireturn, 1) := by decide +kernel
theorem dX3_box_0 : decode cX3_box 0 = .ok (.aload_n 0, 1) := by decide +kernel
theorem dX3_box_1 : decode cX3_box 1 = .ok (.iload_n 1, 1) := by decide +kernel
theorem dX3_box_2 : decode cX3_box 2 = .ok (.iload_n 2, 1) := by decide +kernel
theorem dX3_box_3 : decode cX3_box 3 = .ok (.iload_n 3, 1) := by decide +kernel
theorem dX3_box_4 : decode cX3_box 4 = .ok (.invokevirtual 53, 3) := by decide +kernel
theorem dX3_box_7 : decode cX3_box 7 = .ok (.aload_n 0, 1) := by decide +kernel
theorem dX3_box_8 : decode cX3_box 8 = .ok (.iload 4, 2) := by decide +kernel
theorem dX3_box_10 : decode cX3_box 10 = .ok (.iload 5, 2) := by decide +kernel
theorem dX3_box_12 : decode cX3_box 12 = .ok (.iload 6, 2) := by decide +kernel
theorem dX3_box_14 : decode cX3_box 14 = .ok (.invokevirtual 53, 3) := by decide +kernel
theorem dX3_box_17 : decode cX3_box 17 = .ok (.iload_n 1, 1) := by decide +kernel
theorem dX3_box_18 : decode cX3_box 18 = .ok (.iload 4, 2) := by decide +kernel
theorem dX3_box_20 : decode cX3_box 20 = .ok (.if_icmp .ge 19, 3) := by decide +kernel
theorem dX3_box_23 : decode cX3_box 23 = .ok (.iload_n 2, 1) := by decide +kernel
theorem dX3_box_24 : decode cX3_box 24 = .ok (.iload 5, 2) := by decide +kernel
theorem dX3_box_26 : decode cX3_box 26 = .ok (.if_icmp .ge 13, 3) := by decide +kernel
theorem dX3_box_29 : decode cX3_box 29 = .ok (.iload_n 3, 1) := by decide +kernel
theorem dX3_box_30 : decode cX3_box 30 = .ok (.iload 6, 2) := by decide +kernel
theorem dX3_box_32 : decode cX3_box 32 = .ok (.if_icmp .ge 7, 3) := by decide +kernel
theorem dX3_box_35 : decode cX3_box 35 = .ok (.iconst 1, 1) := by decide +kernel
theorem dX3_box_36 : decode cX3_box 36 = .ok (.goto 4, 3) := by decide +kernel
theorem dX3_box_39 : decode cX3_box 39 = .ok (.iconst 0, 1) := by decide +kernel
theorem dX3_box_40 : decode cX3_box 40 = .ok (.invokestatic 57, 3) := by decide +kernel
theorem dX3_box_43 : decode cX3_box 43 = .ok (.aload_n 0, 1) := by decide +kernel
theorem dX3_box_44 : decode cX3_box 44 = .ok (.getfield 25, 3) := by decide +kernel
theorem dX3_box_47 : decode cX3_box 47 = .ok (.getfield 61, 3) := by decide +kernel
theorem dX3_box_50 : decode cX3_box 50 = .ok (.bipush 20, 2) := by decide +kernel
theorem dX3_box_52 : decode cX3_box 52 = .ok (.if_icmp .lt 13, 3) := by decide +kernel
theorem dX3_box_55 : decode cX3_box 55 = .ok (.new 64, 3) := by decide +kernel
theorem dX3_box_58 : decode cX3_box 58 = .ok (.dup, 1) := by decide +kernel
theorem dX3_box_59 : decode cX3_box 59 = .ok (.ldc 66, 2) := by decide +kernel
theorem dX3_box_61 : decode cX3_box 61 = .ok (.invokespecial 68, 3) := by decide +kernel
theorem dX3_box_64 : decode cX3_box 64 = .ok (.athrow, 1) := by decide +kernel
theorem dX3_box_65 : decode cX3_box 65 = .ok (.aload_n 0, 1) := by decide +kernel
theorem dX3_box_66 : decode cX3_box 66 = .ok (.getfield 25, 3) := by decide +kernel
theorem dX3_box_69 : decode cX3_box 69 = .ok (.iload_n 1, 1) := by decide +kernel
theorem dX3_box_70 : decode cX3_box 70 = .ok (.iload_n 2, 1) := by decide +kernel
theorem dX3_box_71 : decode cX3_box 71 = .ok (.iload_n 3, 1) := by decide +kernel
theorem dX3_box_72 : decode cX3_box 72 = .ok (.iload 4, 2) := by decide +kernel
theorem dX3_box_74 : decode cX3_box 74 = .ok (.iload 5, 2) := by decide +kernel
theorem dX3_box_76 : decode cX3_box 76 = .ok (.iload 6, 2) := by decide +kernel
theorem dX3_box_78 : decode cX3_box 78 = .ok (.invokevirtual 71, 3) := by decide +kernel
theorem dX3_box_81 : decode cX3_box 81 = .ok (.ireturn, 1) := by decide +kernel
theorem dX3_demandPoint_0 : decode cX3_demandPoint 0 = .ok (.iload_n 1, 1) := by decide +kernel
theorem dX3_demandPoint_1 : decode cX3_demandPoint 1 = .ok (.aload_n 0, 1) := by decide +kernel
theorem dX3_demandPoint_2 : decode cX3_demandPoint 2 = .ok (.getfield 18, 3) := by decide +kernel
theorem dX3_demandPoint_5 : decode cX3_demandPoint 5 = .ok (.ineg, 1) := by decide +kernel
theorem dX3_demandPoint_6 : decode cX3_demandPoint 6 = .ok (.aload_n 0, 1) := by decide +kernel
theorem dX3_demandPoint_7 : decode cX3_demandPoint 7 = .ok (.getfield 18, 3) := by decide +kernel
theorem dX3_demandPoint_10 : decode cX3_demandPoint 10 = .ok (.invokestatic 79, 3) := by decide +kernel
theorem dX3_demandPoint_13 : decode cX3_demandPoint 13 = .ok (.iload_n 2, 1) := by decide +kernel
theorem dX3_demandPoint_14 : decode cX3_demandPoint 14 = .ok (.aload_n 0, 1) := by decide +kernel
theorem dX3_demandPoint_15 : decode cX3_demandPoint 15 = .ok (.getfield 18, 3) := by decide +kernel
theorem dX3_demandPoint_18 : decode cX3_demandPoint 18 = .ok (.ineg, 1) := by decide +kernel
theorem dX3_demandPoint_19 : decode cX3_demandPoint 19 = .ok (.aload_n 0, 1) := by decide +kernel
theorem dX3_demandPoint_20 : decode cX3_demandPoint 20 = .ok (.getfield 18, 3) := by decide +kernel
theorem dX3_demandPoint_23 : decode cX3_demandPoint 23 = .ok (.invokestatic 79, 3) := by decide +kernel
theorem dX3_demandPoint_26 : decode cX3_demandPoint 26 = .ok (.iload_n 3, 1) := by decide +kernel
theorem dX3_demandPoint_27 : decode cX3_demandPoint 27 = .ok (.aload_n 0, 1) := by decide +kernel
theorem dX3_demandPoint_28 : decode cX3_demandPoint 28 = .ok (.getfield 18, 3) := by decide +kernel
theorem dX3_demandPoint_31 : decode cX3_demandPoint 31 = .ok (.ineg, 1) := by decide +kernel
theorem dX3_demandPoint_32 : decode cX3_demandPoint 32 = .ok (.aload_n 0, 1) := by decide +kernel
theorem dX3_demandPoint_33 : decode cX3_demandPoint 33 = .ok (.getfield 18, 3) := by decide +kernel
theorem dX3_demandPoint_36 : decode cX3_demandPoint 36 = .ok (.invokestatic 79, 3) := by decide +kernel
theorem dX3_demandPoint_39 : decode cX3_demandPoint 39 = .ok (.return_, 1) := by decide +kernel
theorem dX3_demandWithin_0 : decode cX3_demandWithin 0 = .ok (.iload_n 1, 1) := by decide +kernel
theorem dX3_demandWithin_1 : decode cX3_demandWithin 1 = .ok (.iload_n 0, 1) := by decide +kernel
theorem dX3_demandWithin_2 : decode cX3_demandWithin 2 = .ok (.if_icmp .gt 12, 3) := by decide +kernel
theorem dX3_demandWithin_5 : decode cX3_demandWithin 5 = .ok (.iload_n 0, 1) := by decide +kernel
theorem dX3_demandWithin_6 : decode cX3_demandWithin 6 = .ok (.iload_n 2, 1) := by decide +kernel
theorem dX3_demandWithin_7 : decode cX3_demandWithin 7 = .ok (.if_icmp .gt 7, 3) := by decide +kernel
theorem dX3_demandWithin_10 : decode cX3_demandWithin 10 = .ok (.iconst 1, 1) := by decide +kernel
theorem dX3_demandWithin_11 : decode cX3_demandWithin 11 = .ok (.goto 4, 3) := by decide +kernel
theorem dX3_demandWithin_14 : decode cX3_demandWithin 14 = .ok (.iconst 0, 1) := by decide +kernel
theorem dX3_demandWithin_15 : decode cX3_demandWithin 15 = .ok (.invokestatic 57, 3) := by decide +kernel
theorem dX3_demandWithin_18 : decode cX3_demandWithin 18 = .ok (.return_, 1) := by decide +kernel
theorem dX3_demand_0 : decode cX3_demand 0 = .ok (.iload_n 0, 1) := by decide +kernel
theorem dX3_demand_1 : decode cX3_demand 1 = .ok (.ifCond .ne 13, 3) := by decide +kernel
theorem dX3_demand_4 : decode cX3_demand 4 = .ok (.new 151, 3) := by decide +kernel
theorem dX3_demand_7 : decode cX3_demand 7 = .ok (.dup, 1) := by decide +kernel
theorem dX3_demand_8 : decode cX3_demand 8 = .ok (.ldc 153, 2) := by decide +kernel
theorem dX3_demand_10 : decode cX3_demand 10 = .ok (.invokespecial 155, 3) := by decide +kernel
theorem dX3_demand_13 : decode cX3_demand 13 = .ok (.athrow, 1) := by decide +kernel
theorem dX3_demand_14 : decode cX3_demand 14 = .ok (.return_, 1) := by decide +kernel
theorem dX0_add_0 : decode cX0_add 0 = .ok (.aload_n 0, 1) := by decide +kernel
theorem dX0_add_1 : decode cX0_add 1 = .ok (.getfield 28, 3) := by decide +kernel
theorem dX0_add_4 : decode cX0_add 4 = .ok (.iconst 3, 1) := by decide +kernel
theorem dX0_add_5 : decode cX0_add 5 = .ok (.imul, 1) := by decide +kernel
theorem dX0_add_6 : decode cX0_add 6 = .ok (.istore 7, 2) := by decide +kernel
theorem dX0_add_8 : decode cX0_add 8 = .ok (.aload_n 0, 1) := by decide +kernel
theorem dX0_add_9 : decode cX0_add 9 = .ok (.getfield 9, 3) := by decide +kernel
theorem dX0_add_12 : decode cX0_add 12 = .ok (.iload 7, 2) := by decide +kernel
theorem dX0_add_14 : decode cX0_add 14 = .ok (.iload_n 1, 1) := by decide +kernel
theorem dX0_add_15 : decode cX0_add 15 = .ok (.iastore, 1) := by decide +kernel
theorem dX0_add_16 : decode cX0_add 16 = .ok (.aload_n 0, 1) := by decide +kernel
theorem dX0_add_17 : decode cX0_add 17 = .ok (.getfield 9, 3) := by decide +kernel
theorem dX0_add_20 : decode cX0_add 20 = .ok (.iload 7, 2) := by decide +kernel
theorem dX0_add_22 : decode cX0_add 22 = .ok (.iconst 1, 1) := by decide +kernel
theorem dX0_add_23 : decode cX0_add 23 = .ok (.iadd, 1) := by decide +kernel
theorem dX0_add_24 : decode cX0_add 24 = .ok (.iload_n 2, 1) := by decide +kernel
theorem dX0_add_25 : decode cX0_add 25 = .ok (.iastore, 1) := by decide +kernel
theorem dX0_add_26 : decode cX0_add 26 = .ok (.aload_n 0, 1) := by decide +kernel
theorem dX0_add_27 : decode cX0_add 27 = .ok (.getfield 9, 3) := by decide +kernel
theorem dX0_add_30 : decode cX0_add 30 = .ok (.iload 7, 2) := by decide +kernel
theorem dX0_add_32 : decode cX0_add 32 = .ok (.iconst 2, 1) := by decide +kernel
theorem dX0_add_33 : decode cX0_add 33 = .ok (.iadd, 1) := by decide +kernel
theorem dX0_add_34 : decode cX0_add 34 = .ok (.iload_n 3, 1) := by decide +kernel
theorem dX0_add_35 : decode cX0_add 35 = .ok (.iastore, 1) := by decide +kernel
theorem dX0_add_36 : decode cX0_add 36 = .ok (.aload_n 0, 1) := by decide +kernel
theorem dX0_add_37 : decode cX0_add 37 = .ok (.getfield 15, 3) := by decide +kernel
theorem dX0_add_40 : decode cX0_add 40 = .ok (.iload 7, 2) := by decide +kernel
theorem dX0_add_42 : decode cX0_add 42 = .ok (.iload 4, 2) := by decide +kernel
theorem dX0_add_44 : decode cX0_add 44 = .ok (.iastore, 1) := by decide +kernel
theorem dX0_add_45 : decode cX0_add 45 = .ok (.aload_n 0, 1) := by decide +kernel
theorem dX0_add_46 : decode cX0_add 46 = .ok (.getfield 15, 3) := by decide +kernel
theorem dX0_add_49 : decode cX0_add 49 = .ok (.iload 7, 2) := by decide +kernel
theorem dX0_add_51 : decode cX0_add 51 = .ok (.iconst 1, 1) := by decide +kernel
theorem dX0_add_52 : decode cX0_add 52 = .ok (.iadd, 1) := by decide +kernel
theorem dX0_add_53 : decode cX0_add 53 = .ok (.iload 5, 2) := by decide +kernel
theorem dX0_add_55 : decode cX0_add 55 = .ok (.iastore, 1) := by decide +kernel
theorem dX0_add_56 : decode cX0_add 56 = .ok (.aload_n 0, 1) := by decide +kernel
theorem dX0_add_57 : decode cX0_add 57 = .ok (.getfield 15, 3) := by decide +kernel
theorem dX0_add_60 : decode cX0_add 60 = .ok (.iload 7, 2) := by decide +kernel
theorem dX0_add_62 : decode cX0_add 62 = .ok (.iconst 2, 1) := by decide +kernel
theorem dX0_add_63 : decode cX0_add 63 = .ok (.iadd, 1) := by decide +kernel
theorem dX0_add_64 : decode cX0_add 64 = .ok (.iload 6, 2) := by decide +kernel
theorem dX0_add_66 : decode cX0_add 66 = .ok (.iastore, 1) := by decide +kernel
theorem dX0_add_67 : decode cX0_add 67 = .ok (.aload_n 0, 1) := by decide +kernel
theorem dX0_add_68 : decode cX0_add 68 = .ok (.getfield 18, 3) := by decide +kernel
theorem dX0_add_71 : decode cX0_add 71 = .ok (.aload_n 0, 1) := by decide +kernel
theorem dX0_add_72 : decode cX0_add 72 = .ok (.getfield 28, 3) := by decide +kernel
theorem dX0_add_75 : decode cX0_add 75 = .ok (.iconst 0, 1) := by decide +kernel
theorem dX0_add_76 : decode cX0_add 76 = .ok (.iastore, 1) := by decide +kernel
theorem dX0_add_77 : decode cX0_add 77 = .ok (.aload_n 0, 1) := by decide +kernel
theorem dX0_add_78 : decode cX0_add 78 = .ok (.getfield 21, 3) := by decide +kernel
theorem dX0_add_81 : decode cX0_add 81 = .ok (.aload_n 0, 1) := by decide +kernel
theorem dX0_add_82 : decode cX0_add 82 = .ok (.getfield 28, 3) := by decide +kernel
theorem dX0_add_85 : decode cX0_add 85 = .ok (.sipush 1000, 3) := by decide +kernel
theorem dX0_add_88 : decode cX0_add 88 = .ok (.iastore, 1) := by decide +kernel
theorem dX0_add_89 : decode cX0_add 89 = .ok (.aload_n 0, 1) := by decide +kernel
theorem dX0_add_90 : decode cX0_add 90 = .ok (.getfield 24, 3) := by decide +kernel
theorem dX0_add_93 : decode cX0_add 93 = .ok (.aload_n 0, 1) := by decide +kernel
theorem dX0_add_94 : decode cX0_add 94 = .ok (.getfield 28, 3) := by decide +kernel
theorem dX0_add_97 : decode cX0_add 97 = .ok (.iconst 0, 1) := by decide +kernel
theorem dX0_add_98 : decode cX0_add 98 = .ok (.bastore, 1) := by decide +kernel
theorem dX0_add_99 : decode cX0_add 99 = .ok (.aload_n 0, 1) := by decide +kernel
theorem dX0_add_100 : decode cX0_add 100 = .ok (.dup, 1) := by decide +kernel
theorem dX0_add_101 : decode cX0_add 101 = .ok (.getfield 28, 3) := by decide +kernel
theorem dX0_add_104 : decode cX0_add 104 = .ok (.iconst 1, 1) := by decide +kernel
theorem dX0_add_105 : decode cX0_add 105 = .ok (.iadd, 1) := by decide +kernel
theorem dX0_add_106 : decode cX0_add 106 = .ok (.putfield 28, 3) := by decide +kernel
theorem dX0_add_109 : decode cX0_add 109 = .ok (.aload_n 0, 1) := by decide +kernel
theorem dX0_add_110 : decode cX0_add 110 = .ok (.getfield 28, 3) := by decide +kernel
theorem dX0_add_113 : decode cX0_add 113 = .ok (.iconst 1, 1) := by decide +kernel
theorem dX0_add_114 : decode cX0_add 114 = .ok (.isub, 1) := by decide +kernel
theorem dX0_add_115 : decode cX0_add 115 = .ok (.ireturn, 1) := by decide +kernel
theorem dL_kind_0 : decode cL_kind 0 = .ok (.aload 4, 2) := by decide +kernel
theorem dL_kind_2 : decode cL_kind 2 = .ok (.iconst 0, 1) := by decide +kernel
theorem dL_kind_3 : decode cL_kind 3 = .ok (.aload_n 0, 1) := by decide +kernel
theorem dL_kind_4 : decode cL_kind 4 = .ok (.iload_n 1, 1) := by decide +kernel
theorem dL_kind_5 : decode cL_kind 5 = .ok (.iload_n 2, 1) := by decide +kernel
theorem dL_kind_6 : decode cL_kind 6 = .ok (.iload_n 3, 1) := by decide +kernel
theorem dL_kind_7 : decode cL_kind 7 = .ok (.invokevirtual 17, 3) := by decide +kernel
theorem dL_kind_10 : decode cL_kind 10 = .ok (.i2l, 1) := by decide +kernel
theorem dL_kind_11 : decode cL_kind 11 = .ok (.lastore, 1) := by decide +kernel
theorem dL_kind_12 : decode cL_kind 12 = .ok (.goto 7, 3) := by decide +kernel
theorem dL_kind_15 : decode cL_kind 15 = .ok (.astore 5, 2) := by decide +kernel
theorem dL_kind_17 : decode cL_kind 17 = .ok (.iconst 1, 1) := by decide +kernel
theorem dL_kind_18 : decode cL_kind 18 = .ok (.ireturn, 1) := by decide +kernel
theorem dL_kind_19 : decode cL_kind 19 = .ok (.iconst 0, 1) := by decide +kernel
theorem dL_kind_20 : decode cL_kind 20 = .ok (.ireturn, 1) := by decide +kernel
theorem dX3_kind_0 : decode cX3_kind 0 = .ok (.aload_n 0, 1) := by decide +kernel
theorem dX3_kind_1 : decode cX3_kind 1 = .ok (.iload_n 1, 1) := by decide +kernel
theorem dX3_kind_2 : decode cX3_kind 2 = .ok (.invokevirtual 75, 3) := by decide +kernel
theorem dX3_kind_5 : decode cX3_kind 5 = .ok (.iload_n 2, 1) := by decide +kernel
theorem dX3_kind_6 : decode cX3_kind 6 = .ok (.iconst 0, 1) := by decide +kernel
theorem dX3_kind_7 : decode cX3_kind 7 = .ok (.iconst 2, 1) := by decide +kernel
theorem dX3_kind_8 : decode cX3_kind 8 = .ok (.invokestatic 79, 3) := by decide +kernel
theorem dX3_kind_11 : decode cX3_kind 11 = .ok (.iload_n 3, 1) := by decide +kernel
theorem dX3_kind_12 : decode cX3_kind 12 = .ok (.iconst 0, 1) := by decide +kernel
theorem dX3_kind_13 : decode cX3_kind 13 = .ok (.sipush 1000, 3) := by decide +kernel
theorem dX3_kind_16 : decode cX3_kind 16 = .ok (.invokestatic 79, 3) := by decide +kernel
theorem dX3_kind_19 : decode cX3_kind 19 = .ok (.aload_n 0, 1) := by decide +kernel
theorem dX3_kind_20 : decode cX3_kind 20 = .ok (.getfield 25, 3) := by decide +kernel
theorem dX3_kind_23 : decode cX3_kind 23 = .ok (.getfield 82, 3) := by decide +kernel
theorem dX3_kind_26 : decode cX3_kind 26 = .ok (.iload_n 1, 1) := by decide +kernel
theorem dX3_kind_27 : decode cX3_kind 27 = .ok (.iaload, 1) := by decide +kernel
theorem dX3_kind_28 : decode cX3_kind 28 = .ok (.istore 4, 2) := by decide +kernel
theorem dX3_kind_30 : decode cX3_kind 30 = .ok (.aload_n 0, 1) := by decide +kernel
theorem dX3_kind_31 : decode cX3_kind 31 = .ok (.getfield 25, 3) := by decide +kernel
theorem dX3_kind_34 : decode cX3_kind 34 = .ok (.getfield 82, 3) := by decide +kernel
theorem dX3_kind_37 : decode cX3_kind 37 = .ok (.iload_n 1, 1) := by decide +kernel
theorem dX3_kind_38 : decode cX3_kind 38 = .ok (.iload_n 2, 1) := by decide +kernel
theorem dX3_kind_39 : decode cX3_kind 39 = .ok (.iastore, 1) := by decide +kernel
theorem dX3_kind_40 : decode cX3_kind 40 = .ok (.aload_n 0, 1) := by decide +kernel
theorem dX3_kind_41 : decode cX3_kind 41 = .ok (.getfield 25, 3) := by decide +kernel
theorem dX3_kind_44 : decode cX3_kind 44 = .ok (.getfield 85, 3) := by decide +kernel
theorem dX3_kind_47 : decode cX3_kind 47 = .ok (.iload_n 1, 1) := by decide +kernel
theorem dX3_kind_48 : decode cX3_kind 48 = .ok (.iload_n 3, 1) := by decide +kernel
theorem dX3_kind_49 : decode cX3_kind 49 = .ok (.iastore, 1) := by decide +kernel
theorem dX3_kind_50 : decode cX3_kind 50 = .ok (.iload 4, 2) := by decide +kernel
theorem dX3_kind_52 : decode cX3_kind 52 = .ok (.ireturn, 1) := by decide +kernel
theorem dX3_demandBox_0 : decode cX3_demandBox 0 = .ok (.iconst 0, 1) := by decide +kernel
theorem dX3_demandBox_1 : decode cX3_demandBox 1 = .ok (.iload_n 1, 1) := by decide +kernel
theorem dX3_demandBox_2 : decode cX3_demandBox 2 = .ok (.if_icmp .gt 18, 3) := by decide +kernel
theorem dX3_demandBox_5 : decode cX3_demandBox 5 = .ok (.iload_n 1, 1) := by decide +kernel
theorem dX3_demandBox_6 : decode cX3_demandBox 6 = .ok (.aload_n 0, 1) := by decide +kernel
theorem dX3_demandBox_7 : decode cX3_demandBox 7 = .ok (.getfield 25, 3) := by decide +kernel
theorem dX3_demandBox_10 : decode cX3_demandBox 10 = .ok (.getfield 61, 3) := by decide +kernel
theorem dX3_demandBox_13 : decode cX3_demandBox 13 = .ok (.if_icmp .ge 7, 3) := by decide +kernel
theorem dX3_demandBox_16 : decode cX3_demandBox 16 = .ok (.iconst 1, 1) := by decide +kernel
theorem dX3_demandBox_17 : decode cX3_demandBox 17 = .ok (.goto 4, 3) := by decide +kernel
theorem dX3_demandBox_20 : decode cX3_demandBox 20 = .ok (.iconst 0, 1) := by decide +kernel
theorem dX3_demandBox_21 : decode cX3_demandBox 21 = .ok (.invokestatic 57, 3) := by decide +kernel
theorem dX3_demandBox_24 : decode cX3_demandBox 24 = .ok (.return_, 1) := by decide +kernel
theorem dL_off_0 : decode cL_off 0 = .ok (.aload_n 3, 1) := by decide +kernel
theorem dL_off_1 : decode cL_off 1 = .ok (.iconst 0, 1) := by decide +kernel
theorem dL_off_2 : decode cL_off 2 = .ok (.aload_n 0, 1) := by decide +kernel
theorem dL_off_3 : decode cL_off 3 = .ok (.iload_n 1, 1) := by decide +kernel
theorem dL_off_4 : decode cL_off 4 = .ok (.iload_n 2, 1) := by decide +kernel
theorem dL_off_5 : decode cL_off 5 = .ok (.invokevirtual 21, 3) := by decide +kernel
theorem dL_off_8 : decode cL_off 8 = .ok (.ifCond .eq 7, 3) := by decide +kernel
theorem dL_off_11 : decode cL_off 11 = .ok (.lconst 1, 1) := by decide +kernel
theorem dL_off_12 : decode cL_off 12 = .ok (.goto 4, 3) := by decide +kernel
theorem dL_off_15 : decode cL_off 15 = .ok (.lconst 0, 1) := by decide +kernel
theorem dL_off_16 : decode cL_off 16 = .ok (.lastore, 1) := by decide +kernel
theorem dL_off_17 : decode cL_off 17 = .ok (.goto 7, 3) := by decide +kernel
theorem dL_off_20 : decode cL_off 20 = .ok (.astore 4, 2) := by decide +kernel
theorem dL_off_22 : decode cL_off 22 = .ok (.iconst 1, 1) := by decide +kernel
theorem dL_off_23 : decode cL_off 23 = .ok (.ireturn, 1) := by decide +kernel
theorem dL_off_24 : decode cL_off 24 = .ok (.iconst 0, 1) := by decide +kernel
theorem dL_off_25 : decode cL_off 25 = .ok (.ireturn, 1) := by decide +kernel
theorem dX3_off_0 : decode cX3_off 0 = .ok (.aload_n 0, 1) := by decide +kernel
theorem dX3_off_1 : decode cX3_off 1 = .ok (.iload_n 1, 1) := by decide +kernel
theorem dX3_off_2 : decode cX3_off 2 = .ok (.invokevirtual 75, 3) := by decide +kernel
theorem dX3_off_5 : decode cX3_off 5 = .ok (.aload_n 0, 1) := by decide +kernel
theorem dX3_off_6 : decode cX3_off 6 = .ok (.getfield 25, 3) := by decide +kernel
theorem dX3_off_9 : decode cX3_off 9 = .ok (.getfield 88, 3) := by decide +kernel
theorem dX3_off_12 : decode cX3_off 12 = .ok (.iload_n 1, 1) := by decide +kernel
theorem dX3_off_13 : decode cX3_off 13 = .ok (.baload, 1) := by decide +kernel
theorem dX3_off_14 : decode cX3_off 14 = .ok (.istore_n 3, 1) := by decide +kernel
theorem dX3_off_15 : decode cX3_off 15 = .ok (.aload_n 0, 1) := by decide +kernel
theorem dX3_off_16 : decode cX3_off 16 = .ok (.getfield 25, 3) := by decide +kernel
theorem dX3_off_19 : decode cX3_off 19 = .ok (.getfield 88, 3) := by decide +kernel
theorem dX3_off_22 : decode cX3_off 22 = .ok (.iload_n 1, 1) := by decide +kernel
theorem dX3_off_23 : decode cX3_off 23 = .ok (.iload_n 2, 1) := by decide +kernel
theorem dX3_off_24 : decode cX3_off 24 = .ok (.bastore, 1) := by decide +kernel
theorem dX3_off_25 : decode cX3_off 25 = .ok (.iload_n 3, 1) := by decide +kernel
theorem dX3_off_26 : decode cX3_off 26 = .ok (.ireturn, 1) := by decide +kernel
theorem dL_ray_0 : decode cL_ray 0 = .ok (.aload 7, 2) := by decide +kernel
theorem dL_ray_2 : decode cL_ray 2 = .ok (.iconst 0, 1) := by decide +kernel
theorem dL_ray_3 : decode cL_ray 3 = .ok (.aload_n 0, 1) := by decide +kernel
theorem dL_ray_4 : decode cL_ray 4 = .ok (.iload_n 1, 1) := by decide +kernel
theorem dL_ray_5 : decode cL_ray 5 = .ok (.iload_n 2, 1) := by decide +kernel
theorem dL_ray_6 : decode cL_ray 6 = .ok (.iload_n 3, 1) := by decide +kernel
theorem dL_ray_7 : decode cL_ray 7 = .ok (.iload 4, 2) := by decide +kernel
theorem dL_ray_9 : decode cL_ray 9 = .ok (.iload 5, 2) := by decide +kernel
theorem dL_ray_11 : decode cL_ray 11 = .ok (.iload 6, 2) := by decide +kernel
theorem dL_ray_13 : decode cL_ray 13 = .ok (.invokevirtual 25, 3) := by decide +kernel
theorem dL_ray_16 : decode cL_ray 16 = .ok (.i2l, 1) := by decide +kernel
theorem dL_ray_17 : decode cL_ray 17 = .ok (.lastore, 1) := by decide +kernel
theorem dL_ray_18 : decode cL_ray 18 = .ok (.goto 7, 3) := by decide +kernel
theorem dL_ray_21 : decode cL_ray 21 = .ok (.astore 8, 2) := by decide +kernel
theorem dL_ray_23 : decode cL_ray 23 = .ok (.iconst 1, 1) := by decide +kernel
theorem dL_ray_24 : decode cL_ray 24 = .ok (.ireturn, 1) := by decide +kernel
theorem dL_ray_25 : decode cL_ray 25 = .ok (.iconst 0, 1) := by decide +kernel
theorem dL_ray_26 : decode cL_ray 26 = .ok (.ireturn, 1) := by decide +kernel
theorem dX3_ray_0 : decode cX3_ray 0 = .ok (.aload_n 0, 1) := by decide +kernel
theorem dX3_ray_1 : decode cX3_ray 1 = .ok (.iload_n 1, 1) := by decide +kernel
theorem dX3_ray_2 : decode cX3_ray 2 = .ok (.iload_n 2, 1) := by decide +kernel
theorem dX3_ray_3 : decode cX3_ray 3 = .ok (.iload_n 3, 1) := by decide +kernel
theorem dX3_ray_4 : decode cX3_ray 4 = .ok (.invokevirtual 53, 3) := by decide +kernel
theorem dX3_ray_7 : decode cX3_ray 7 = .ok (.iload 4, 2) := by decide +kernel
theorem dX3_ray_9 : decode cX3_ray 9 = .ok (.iload 5, 2) := by decide +kernel
theorem dX3_ray_11 : decode cX3_ray 11 = .ok (.iload 6, 2) := by decide +kernel
theorem dX3_ray_13 : decode cX3_ray 13 = .ok (.invokestatic 92, 3) := by decide +kernel
theorem dX3_ray_16 : decode cX3_ray 16 = .ok (.aload_n 0, 1) := by decide +kernel
theorem dX3_ray_17 : decode cX3_ray 17 = .ok (.getfield 42, 3) := by decide +kernel
theorem dX3_ray_20 : decode cX3_ray 20 = .ok (.iload_n 1, 1) := by decide +kernel
theorem dX3_ray_21 : decode cX3_ray 21 = .ok (.iload_n 2, 1) := by decide +kernel
theorem dX3_ray_22 : decode cX3_ray 22 = .ok (.iload_n 3, 1) := by decide +kernel
theorem dX3_ray_23 : decode cX3_ray 23 = .ok (.invokevirtual 95, 3) := by decide +kernel
theorem dX3_ray_26 : decode cX3_ray 26 = .ok (.aload_n 0, 1) := by decide +kernel
theorem dX3_ray_27 : decode cX3_ray 27 = .ok (.getfield 42, 3) := by decide +kernel
theorem dX3_ray_30 : decode cX3_ray 30 = .ok (.iload 4, 2) := by decide +kernel
theorem dX3_ray_32 : decode cX3_ray 32 = .ok (.iload 5, 2) := by decide +kernel
theorem dX3_ray_34 : decode cX3_ray 34 = .ok (.iload 6, 2) := by decide +kernel
theorem dX3_ray_36 : decode cX3_ray 36 = .ok (.invokevirtual 98, 3) := by decide +kernel
theorem dX3_ray_39 : decode cX3_ray 39 = .ok (.aload_n 0, 1) := by decide +kernel
theorem dX3_ray_40 : decode cX3_ray 40 = .ok (.iconst 1, 1) := by decide +kernel
theorem dX3_ray_41 : decode cX3_ray 41 = .ok (.putfield 46, 3) := by decide +kernel
theorem dX3_ray_44 : decode cX3_ray 44 = .ok (.aload_n 0, 1) := by decide +kernel
theorem dX3_ray_45 : decode cX3_ray 45 = .ok (.getfield 42, 3) := by decide +kernel
theorem dX3_ray_48 : decode cX3_ray 48 = .ok (.aload_n 0, 1) := by decide +kernel
theorem dX3_ray_49 : decode cX3_ray 49 = .ok (.getfield 25, 3) := by decide +kernel
theorem dX3_ray_52 : decode cX3_ray 52 = .ok (.invokevirtual 101, 3) := by decide +kernel
theorem dX3_ray_55 : decode cX3_ray 55 = .ok (.ireturn, 1) := by decide +kernel
theorem dX3_demandDirection_0 : decode cX3_demandDirection 0 = .ok (.iload_n 0, 1) := by decide +kernel
theorem dX3_demandDirection_1 : decode cX3_demandDirection 1 = .ok (.bipush (-100), 2) := by decide +kernel
theorem dX3_demandDirection_3 : decode cX3_demandDirection 3 = .ok (.bipush 100, 2) := by decide +kernel
theorem dX3_demandDirection_5 : decode cX3_demandDirection 5 = .ok (.invokestatic 79, 3) := by decide +kernel
theorem dX3_demandDirection_8 : decode cX3_demandDirection 8 = .ok (.iload_n 1, 1) := by decide +kernel
theorem dX3_demandDirection_9 : decode cX3_demandDirection 9 = .ok (.bipush (-100), 2) := by decide +kernel
theorem dX3_demandDirection_11 : decode cX3_demandDirection 11 = .ok (.bipush 100, 2) := by decide +kernel
theorem dX3_demandDirection_13 : decode cX3_demandDirection 13 = .ok (.invokestatic 79, 3) := by decide +kernel
theorem dX3_demandDirection_16 : decode cX3_demandDirection 16 = .ok (.iload_n 2, 1) := by decide +kernel
theorem dX3_demandDirection_17 : decode cX3_demandDirection 17 = .ok (.bipush (-100), 2) := by decide +kernel
theorem dX3_demandDirection_19 : decode cX3_demandDirection 19 = .ok (.bipush 100, 2) := by decide +kernel
theorem dX3_demandDirection_21 : decode cX3_demandDirection 21 = .ok (.invokestatic 79, 3) := by decide +kernel
theorem dX3_demandDirection_24 : decode cX3_demandDirection 24 = .ok (.iload_n 0, 1) := by decide +kernel
theorem dX3_demandDirection_25 : decode cX3_demandDirection 25 = .ok (.ifCond .ne 11, 3) := by decide +kernel
theorem dX3_demandDirection_28 : decode cX3_demandDirection 28 = .ok (.iload_n 1, 1) := by decide +kernel
theorem dX3_demandDirection_29 : decode cX3_demandDirection 29 = .ok (.ifCond .ne 7, 3) := by decide +kernel
theorem dX3_demandDirection_32 : decode cX3_demandDirection 32 = .ok (.iload_n 2, 1) := by decide +kernel
theorem dX3_demandDirection_33 : decode cX3_demandDirection 33 = .ok (.ifCond .eq 7, 3) := by decide +kernel
theorem dX3_demandDirection_36 : decode cX3_demandDirection 36 = .ok (.iconst 1, 1) := by decide +kernel
theorem dX3_demandDirection_37 : decode cX3_demandDirection 37 = .ok (.goto 4, 3) := by decide +kernel
theorem dX3_demandDirection_40 : decode cX3_demandDirection 40 = .ok (.iconst 0, 1) := by decide +kernel
theorem dX3_demandDirection_41 : decode cX3_demandDirection 41 = .ok (.invokestatic 57, 3) := by decide +kernel
theorem dX3_demandDirection_44 : decode cX3_demandDirection 44 = .ok (.return_, 1) := by decide +kernel
theorem dX2_begin_0 : decode cX2_begin 0 = .ok (.aload_n 0, 1) := by decide +kernel
theorem dX2_begin_1 : decode cX2_begin 1 = .ok (.getfield 9, 3) := by decide +kernel
theorem dX2_begin_4 : decode cX2_begin 4 = .ok (.iconst 0, 1) := by decide +kernel
theorem dX2_begin_5 : decode cX2_begin 5 = .ok (.iload_n 1, 1) := by decide +kernel
theorem dX2_begin_6 : decode cX2_begin 6 = .ok (.iastore, 1) := by decide +kernel
theorem dX2_begin_7 : decode cX2_begin 7 = .ok (.aload_n 0, 1) := by decide +kernel
theorem dX2_begin_8 : decode cX2_begin 8 = .ok (.getfield 9, 3) := by decide +kernel
theorem dX2_begin_11 : decode cX2_begin 11 = .ok (.iconst 1, 1) := by decide +kernel
theorem dX2_begin_12 : decode cX2_begin 12 = .ok (.iload_n 2, 1) := by decide +kernel
theorem dX2_begin_13 : decode cX2_begin 13 = .ok (.iastore, 1) := by decide +kernel
theorem dX2_begin_14 : decode cX2_begin 14 = .ok (.aload_n 0, 1) := by decide +kernel
theorem dX2_begin_15 : decode cX2_begin 15 = .ok (.getfield 9, 3) := by decide +kernel
theorem dX2_begin_18 : decode cX2_begin 18 = .ok (.iconst 2, 1) := by decide +kernel
theorem dX2_begin_19 : decode cX2_begin 19 = .ok (.iload_n 3, 1) := by decide +kernel
theorem dX2_begin_20 : decode cX2_begin 20 = .ok (.iastore, 1) := by decide +kernel
theorem dX2_begin_21 : decode cX2_begin 21 = .ok (.aload_n 0, 1) := by decide +kernel
theorem dX2_begin_22 : decode cX2_begin 22 = .ok (.iconst 0, 1) := by decide +kernel
theorem dX2_begin_23 : decode cX2_begin 23 = .ok (.putfield 49, 3) := by decide +kernel
theorem dX2_begin_26 : decode cX2_begin 26 = .ok (.aload_n 0, 1) := by decide +kernel
theorem dX2_begin_27 : decode cX2_begin 27 = .ok (.ldc 56, 2) := by decide +kernel
theorem dX2_begin_29 : decode cX2_begin 29 = .ok (.putfield 53, 3) := by decide +kernel
theorem dX2_begin_32 : decode cX2_begin 32 = .ok (.aload_n 0, 1) := by decide +kernel
theorem dX2_begin_33 : decode cX2_begin 33 = .ok (.getfield 39, 3) := by decide +kernel
theorem dX2_begin_36 : decode cX2_begin 36 = .ok (.iconst (-1), 1) := by decide +kernel
theorem dX2_begin_37 : decode cX2_begin 37 = .ok (.iconst (-1), 1) := by decide +kernel
theorem dX2_begin_38 : decode cX2_begin 38 = .ok (.iconst 0, 1) := by decide +kernel
theorem dX2_begin_39 : decode cX2_begin 39 = .ok (.iconst 1, 1) := by decide +kernel
theorem dX2_begin_40 : decode cX2_begin 40 = .ok (.invokevirtual 57, 3) := by decide +kernel
theorem dX2_begin_43 : decode cX2_begin 43 = .ok (.return_, 1) := by decide +kernel
theorem dX1_set_0 : decode cX1_set 0 = .ok (.aload_n 0, 1) := by decide +kernel
theorem dX1_set_1 : decode cX1_set 1 = .ok (.iload_n 1, 1) := by decide +kernel
theorem dX1_set_2 : decode cX1_set 2 = .ok (.putfield 7, 3) := by decide +kernel
theorem dX1_set_5 : decode cX1_set 5 = .ok (.aload_n 0, 1) := by decide +kernel
theorem dX1_set_6 : decode cX1_set 6 = .ok (.iload_n 2, 1) := by decide +kernel
theorem dX1_set_7 : decode cX1_set 7 = .ok (.putfield 13, 3) := by decide +kernel
theorem dX1_set_10 : decode cX1_set 10 = .ok (.aload_n 0, 1) := by decide +kernel
theorem dX1_set_11 : decode cX1_set 11 = .ok (.iload_n 3, 1) := by decide +kernel
theorem dX1_set_12 : decode cX1_set 12 = .ok (.putfield 16, 3) := by decide +kernel
theorem dX1_set_15 : decode cX1_set 15 = .ok (.aload_n 0, 1) := by decide +kernel
theorem dX1_set_16 : decode cX1_set 16 = .ok (.iload 4, 2) := by decide +kernel
theorem dX1_set_18 : decode cX1_set 18 = .ok (.putfield 19, 3) := by decide +kernel
theorem dX1_set_21 : decode cX1_set 21 = .ok (.return_, 1) := by decide +kernel
theorem dX2_aim_0 : decode cX2_aim 0 = .ok (.aload_n 0, 1) := by decide +kernel
theorem dX2_aim_1 : decode cX2_aim 1 = .ok (.getfield 15, 3) := by decide +kernel
theorem dX2_aim_4 : decode cX2_aim 4 = .ok (.iconst 0, 1) := by decide +kernel
theorem dX2_aim_5 : decode cX2_aim 5 = .ok (.iload_n 1, 1) := by decide +kernel
theorem dX2_aim_6 : decode cX2_aim 6 = .ok (.iastore, 1) := by decide +kernel
theorem dX2_aim_7 : decode cX2_aim 7 = .ok (.aload_n 0, 1) := by decide +kernel
theorem dX2_aim_8 : decode cX2_aim 8 = .ok (.getfield 15, 3) := by decide +kernel
theorem dX2_aim_11 : decode cX2_aim 11 = .ok (.iconst 1, 1) := by decide +kernel
theorem dX2_aim_12 : decode cX2_aim 12 = .ok (.iload_n 2, 1) := by decide +kernel
theorem dX2_aim_13 : decode cX2_aim 13 = .ok (.iastore, 1) := by decide +kernel
theorem dX2_aim_14 : decode cX2_aim 14 = .ok (.aload_n 0, 1) := by decide +kernel
theorem dX2_aim_15 : decode cX2_aim 15 = .ok (.getfield 15, 3) := by decide +kernel
theorem dX2_aim_18 : decode cX2_aim 18 = .ok (.iconst 2, 1) := by decide +kernel
theorem dX2_aim_19 : decode cX2_aim 19 = .ok (.iload_n 3, 1) := by decide +kernel
theorem dX2_aim_20 : decode cX2_aim 20 = .ok (.iastore, 1) := by decide +kernel
theorem dX2_aim_21 : decode cX2_aim 21 = .ok (.return_, 1) := by decide +kernel
theorem dX2_follow_0 : decode cX2_follow 0 = .ok (.aload_n 1, 1) := by decide +kernel
theorem dX2_follow_1 : decode cX2_follow 1 = .ok (.aload_n 0, 1) := by decide +kernel
theorem dX2_follow_2 : decode cX2_follow 2 = .ok (.getfield 9, 3) := by decide +kernel
theorem dX2_follow_5 : decode cX2_follow 5 = .ok (.invokevirtual 61, 3) := by decide +kernel
theorem dX2_follow_8 : decode cX2_follow 8 = .ok (.ifCond .eq 5, 3) := by decide +kernel
theorem dX2_follow_11 : decode cX2_follow 11 = .ok (.iconst 1, 1) := by decide +kernel
theorem dX2_follow_12 : decode cX2_follow 12 = .ok (.ireturn, 1) := by decide +kernel
theorem dX2_follow_13 : decode cX2_follow 13 = .ok (.iconst 0, 1) := by decide +kernel
theorem dX2_follow_14 : decode cX2_follow 14 = .ok (.istore_n 2, 1) := by decide +kernel
theorem dX2_follow_15 : decode cX2_follow 15 = .ok (.iload_n 2, 1) := by decide +kernel
theorem dX2_follow_16 : decode cX2_follow 16 = .ok (.bipush 30, 2) := by decide +kernel
theorem dX2_follow_18 : decode cX2_follow 18 = .ok (.if_icmp .ge 95, 3) := by decide +kernel
theorem dX2_follow_21 : decode cX2_follow 21 = .ok (.aload_n 0, 1) := by decide +kernel
theorem dX2_follow_22 : decode cX2_follow 22 = .ok (.aload_n 1, 1) := by decide +kernel
theorem dX2_follow_23 : decode cX2_follow 23 = .ok (.invokevirtual 67, 3) := by decide +kernel
theorem dX2_follow_26 : decode cX2_follow 26 = .ok (.ifCond .ne 5, 3) := by decide +kernel
theorem dX2_follow_29 : decode cX2_follow 29 = .ok (.iconst 0, 1) := by decide +kernel
theorem dX2_follow_30 : decode cX2_follow 30 = .ok (.ireturn, 1) := by decide +kernel
theorem dX2_follow_31 : decode cX2_follow 31 = .ok (.aload_n 0, 1) := by decide +kernel
theorem dX2_follow_32 : decode cX2_follow 32 = .ok (.invokevirtual 71, 3) := by decide +kernel
theorem dX2_follow_35 : decode cX2_follow 35 = .ok (.aload_n 1, 1) := by decide +kernel
theorem dX2_follow_36 : decode cX2_follow 36 = .ok (.getfield 74, 3) := by decide +kernel
theorem dX2_follow_39 : decode cX2_follow 39 = .ok (.aload_n 0, 1) := by decide +kernel
theorem dX2_follow_40 : decode cX2_follow 40 = .ok (.getfield 39, 3) := by decide +kernel
theorem dX2_follow_43 : decode cX2_follow 43 = .ok (.getfield 77, 3) := by decide +kernel
theorem dX2_follow_46 : decode cX2_follow 46 = .ok (.iaload, 1) := by decide +kernel
theorem dX2_follow_47 : decode cX2_follow 47 = .ok (.ifCond .ne 5, 3) := by decide +kernel
theorem dX2_follow_50 : decode cX2_follow 50 = .ok (.iconst 1, 1) := by decide +kernel
theorem dX2_follow_51 : decode cX2_follow 51 = .ok (.ireturn, 1) := by decide +kernel
theorem dX2_follow_52 : decode cX2_follow 52 = .ok (.aload_n 0, 1) := by decide +kernel
theorem dX2_follow_53 : decode cX2_follow 53 = .ok (.aload_n 0, 1) := by decide +kernel
theorem dX2_follow_54 : decode cX2_follow 54 = .ok (.getfield 53, 3) := by decide +kernel
theorem dX2_follow_57 : decode cX2_follow 57 = .ok (.aload_n 1, 1) := by decide +kernel
theorem dX2_follow_58 : decode cX2_follow 58 = .ok (.getfield 80, 3) := by decide +kernel
theorem dX2_follow_61 : decode cX2_follow 61 = .ok (.aload_n 0, 1) := by decide +kernel
theorem dX2_follow_62 : decode cX2_follow 62 = .ok (.getfield 39, 3) := by decide +kernel
theorem dX2_follow_65 : decode cX2_follow 65 = .ok (.getfield 77, 3) := by decide +kernel
theorem dX2_follow_68 : decode cX2_follow 68 = .ok (.iaload, 1) := by decide +kernel
theorem dX2_follow_69 : decode cX2_follow 69 = .ok (.imul, 1) := by decide +kernel
theorem dX2_follow_70 : decode cX2_follow 70 = .ok (.sipush 1000, 3) := by decide +kernel
theorem dX2_follow_73 : decode cX2_follow 73 = .ok (.idiv, 1) := by decide +kernel
theorem dX2_follow_74 : decode cX2_follow 74 = .ok (.putfield 53, 3) := by decide +kernel
theorem dX2_follow_77 : decode cX2_follow 77 = .ok (.aload_n 1, 1) := by decide +kernel
theorem dX2_follow_78 : decode cX2_follow 78 = .ok (.getfield 74, 3) := by decide +kernel
theorem dX2_follow_81 : decode cX2_follow 81 = .ok (.aload_n 0, 1) := by decide +kernel
theorem dX2_follow_82 : decode cX2_follow 82 = .ok (.getfield 39, 3) := by decide +kernel
theorem dX2_follow_85 : decode cX2_follow 85 = .ok (.getfield 77, 3) := by decide +kernel
theorem dX2_follow_88 : decode cX2_follow 88 = .ok (.iaload, 1) := by decide +kernel
theorem dX2_follow_89 : decode cX2_follow 89 = .ok (.iconst 1, 1) := by decide +kernel
theorem dX2_follow_90 : decode cX2_follow 90 = .ok (.if_icmp .ne 8, 3) := by decide +kernel
theorem dX2_follow_93 : decode cX2_follow 93 = .ok (.aload_n 0, 1) := by decide +kernel
theorem dX2_follow_94 : decode cX2_follow 94 = .ok (.aload_n 1, 1) := by decide +kernel
theorem dX2_follow_95 : decode cX2_follow 95 = .ok (.invokevirtual 83, 3) := by decide +kernel
theorem dX2_follow_98 : decode cX2_follow 98 = .ok (.aload_n 0, 1) := by decide +kernel
theorem dX2_follow_99 : decode cX2_follow 99 = .ok (.getfield 53, 3) := by decide +kernel
theorem dX2_follow_102 : decode cX2_follow 102 = .ok (.ifCond .ne 5, 3) := by decide +kernel
theorem dX2_follow_105 : decode cX2_follow 105 = .ok (.iconst 2, 1) := by decide +kernel
theorem dX2_follow_106 : decode cX2_follow 106 = .ok (.ireturn, 1) := by decide +kernel
theorem dX2_follow_107 : decode cX2_follow 107 = .ok (.iinc 2 1, 3) := by decide +kernel
theorem dX2_follow_110 : decode cX2_follow 110 = .ok (.goto (-95), 3) := by decide +kernel
theorem dX2_follow_113 : decode cX2_follow 113 = .ok (.iconst 2, 1) := by decide +kernel
theorem dX2_follow_114 : decode cX2_follow 114 = .ok (.ireturn, 1) := by decide +kernel
theorem dX0_anySolidRound_0 : decode cX0_anySolidRound 0 = .ok (.iconst 0, 1) := by decide +kernel
theorem dX0_anySolidRound_1 : decode cX0_anySolidRound 1 = .ok (.istore_n 2, 1) := by decide +kernel
theorem dX0_anySolidRound_2 : decode cX0_anySolidRound 2 = .ok (.iload_n 2, 1) := by decide +kernel
theorem dX0_anySolidRound_3 : decode cX0_anySolidRound 3 = .ok (.aload_n 0, 1) := by decide +kernel
theorem dX0_anySolidRound_4 : decode cX0_anySolidRound 4 = .ok (.getfield 28, 3) := by decide +kernel
theorem dX0_anySolidRound_7 : decode cX0_anySolidRound 7 = .ok (.if_icmp .ge 38, 3) := by decide +kernel
theorem dX0_anySolidRound_10 : decode cX0_anySolidRound 10 = .ok (.aload_n 0, 1) := by decide +kernel
theorem dX0_anySolidRound_11 : decode cX0_anySolidRound 11 = .ok (.getfield 24, 3) := by decide +kernel
theorem dX0_anySolidRound_14 : decode cX0_anySolidRound 14 = .ok (.iload_n 2, 1) := by decide +kernel
theorem dX0_anySolidRound_15 : decode cX0_anySolidRound 15 = .ok (.baload, 1) := by decide +kernel
theorem dX0_anySolidRound_16 : decode cX0_anySolidRound 16 = .ok (.ifCond .ne 23, 3) := by decide +kernel
theorem dX0_anySolidRound_19 : decode cX0_anySolidRound 19 = .ok (.aload_n 0, 1) := by decide +kernel
theorem dX0_anySolidRound_20 : decode cX0_anySolidRound 20 = .ok (.getfield 18, 3) := by decide +kernel
theorem dX0_anySolidRound_23 : decode cX0_anySolidRound 23 = .ok (.iload_n 2, 1) := by decide +kernel
theorem dX0_anySolidRound_24 : decode cX0_anySolidRound 24 = .ok (.iaload, 1) := by decide +kernel
theorem dX0_anySolidRound_25 : decode cX0_anySolidRound 25 = .ok (.ifCond .ne 14, 3) := by decide +kernel
theorem dX0_anySolidRound_28 : decode cX0_anySolidRound 28 = .ok (.aload_n 0, 1) := by decide +kernel
theorem dX0_anySolidRound_29 : decode cX0_anySolidRound 29 = .ok (.iload_n 2, 1) := by decide +kernel
theorem dX0_anySolidRound_30 : decode cX0_anySolidRound 30 = .ok (.aload_n 1, 1) := by decide +kernel
theorem dX0_anySolidRound_31 : decode cX0_anySolidRound 31 = .ok (.invokevirtual 32, 3) := by decide +kernel
theorem dX0_anySolidRound_34 : decode cX0_anySolidRound 34 = .ok (.ifCond .eq 5, 3) := by decide +kernel
theorem dX0_anySolidRound_37 : decode cX0_anySolidRound 37 = .ok (.iconst 1, 1) := by decide +kernel
theorem dX0_anySolidRound_38 : decode cX0_anySolidRound 38 = .ok (.ireturn, 1) := by decide +kernel
theorem dX0_anySolidRound_39 : decode cX0_anySolidRound 39 = .ok (.iinc 2 1, 3) := by decide +kernel
theorem dX0_anySolidRound_42 : decode cX0_anySolidRound 42 = .ok (.goto (-40), 3) := by decide +kernel
theorem dX0_anySolidRound_45 : decode cX0_anySolidRound 45 = .ok (.iconst 0, 1) := by decide +kernel
theorem dX0_anySolidRound_46 : decode cX0_anySolidRound 46 = .ok (.ireturn, 1) := by decide +kernel
theorem dX0_isInside_0 : decode cX0_isInside 0 = .ok (.iconst 0, 1) := by decide +kernel
theorem dX0_isInside_1 : decode cX0_isInside 1 = .ok (.istore_n 3, 1) := by decide +kernel
theorem dX0_isInside_2 : decode cX0_isInside 2 = .ok (.iload_n 3, 1) := by decide +kernel
theorem dX0_isInside_3 : decode cX0_isInside 3 = .ok (.iconst 3, 1) := by decide +kernel
theorem dX0_isInside_4 : decode cX0_isInside 4 = .ok (.if_icmp .ge 46, 3) := by decide +kernel
theorem dX0_isInside_7 : decode cX0_isInside 7 = .ok (.aload_n 2, 1) := by decide +kernel
theorem dX0_isInside_8 : decode cX0_isInside 8 = .ok (.iload_n 3, 1) := by decide +kernel
theorem dX0_isInside_9 : decode cX0_isInside 9 = .ok (.iaload, 1) := by decide +kernel
theorem dX0_isInside_10 : decode cX0_isInside 10 = .ok (.istore 4, 2) := by decide +kernel
theorem dX0_isInside_12 : decode cX0_isInside 12 = .ok (.iload 4, 2) := by decide +kernel
theorem dX0_isInside_14 : decode cX0_isInside 14 = .ok (.aload_n 0, 1) := by decide +kernel
theorem dX0_isInside_15 : decode cX0_isInside 15 = .ok (.getfield 9, 3) := by decide +kernel
theorem dX0_isInside_18 : decode cX0_isInside 18 = .ok (.iload_n 1, 1) := by decide +kernel
theorem dX0_isInside_19 : decode cX0_isInside 19 = .ok (.iconst 3, 1) := by decide +kernel
theorem dX0_isInside_20 : decode cX0_isInside 20 = .ok (.imul, 1) := by decide +kernel
theorem dX0_isInside_21 : decode cX0_isInside 21 = .ok (.iload_n 3, 1) := by decide +kernel
theorem dX0_isInside_22 : decode cX0_isInside 22 = .ok (.iadd, 1) := by decide +kernel
theorem dX0_isInside_23 : decode cX0_isInside 23 = .ok (.iaload, 1) := by decide +kernel
theorem dX0_isInside_24 : decode cX0_isInside 24 = .ok (.if_icmp .le 18, 3) := by decide +kernel
theorem dX0_isInside_27 : decode cX0_isInside 27 = .ok (.iload 4, 2) := by decide +kernel
theorem dX0_isInside_29 : decode cX0_isInside 29 = .ok (.aload_n 0, 1) := by decide +kernel
theorem dX0_isInside_30 : decode cX0_isInside 30 = .ok (.getfield 15, 3) := by decide +kernel
theorem dX0_isInside_33 : decode cX0_isInside 33 = .ok (.iload_n 1, 1) := by decide +kernel
theorem dX0_isInside_34 : decode cX0_isInside 34 = .ok (.iconst 3, 1) := by decide +kernel
theorem dX0_isInside_35 : decode cX0_isInside 35 = .ok (.imul, 1) := by decide +kernel
theorem dX0_isInside_36 : decode cX0_isInside 36 = .ok (.iload_n 3, 1) := by decide +kernel
theorem dX0_isInside_37 : decode cX0_isInside 37 = .ok (.iadd, 1) := by decide +kernel
theorem dX0_isInside_38 : decode cX0_isInside 38 = .ok (.iaload, 1) := by decide +kernel
theorem dX0_isInside_39 : decode cX0_isInside 39 = .ok (.if_icmp .lt 5, 3) := by decide +kernel
theorem dX0_isInside_42 : decode cX0_isInside 42 = .ok (.iconst 0, 1) := by decide +kernel
theorem dX0_isInside_43 : decode cX0_isInside 43 = .ok (.ireturn, 1) := by decide +kernel
theorem dX0_isInside_44 : decode cX0_isInside 44 = .ok (.iinc 3 1, 3) := by decide +kernel
theorem dX0_isInside_47 : decode cX0_isInside 47 = .ok (.goto (-45), 3) := by decide +kernel
theorem dX0_isInside_50 : decode cX0_isInside 50 = .ok (.iconst 1, 1) := by decide +kernel
theorem dX0_isInside_51 : decode cX0_isInside 51 = .ok (.ireturn, 1) := by decide +kernel
theorem dX2_findNext_0 : decode cX2_findNext 0 = .ok (.aload_n 0, 1) := by decide +kernel
theorem dX2_findNext_1 : decode cX2_findNext 1 = .ok (.getfield 43, 3) := by decide +kernel
theorem dX2_findNext_4 : decode cX2_findNext 4 = .ok (.iconst (-1), 1) := by decide +kernel
theorem dX2_findNext_5 : decode cX2_findNext 5 = .ok (.putfield 77, 3) := by decide +kernel
theorem dX2_findNext_8 : decode cX2_findNext 8 = .ok (.iconst 0, 1) := by decide +kernel
theorem dX2_findNext_9 : decode cX2_findNext 9 = .ok (.istore_n 2, 1) := by decide +kernel
theorem dX2_findNext_10 : decode cX2_findNext 10 = .ok (.iload_n 2, 1) := by decide +kernel
theorem dX2_findNext_11 : decode cX2_findNext 11 = .ok (.aload_n 1, 1) := by decide +kernel
theorem dX2_findNext_12 : decode cX2_findNext 12 = .ok (.getfield 87, 3) := by decide +kernel
theorem dX2_findNext_15 : decode cX2_findNext 15 = .ok (.if_icmp .ge 71, 3) := by decide +kernel
theorem dX2_findNext_18 : decode cX2_findNext 18 = .ok (.aload_n 1, 1) := by decide +kernel
theorem dX2_findNext_19 : decode cX2_findNext 19 = .ok (.getfield 90, 3) := by decide +kernel
theorem dX2_findNext_22 : decode cX2_findNext 22 = .ok (.iload_n 2, 1) := by decide +kernel
theorem dX2_findNext_23 : decode cX2_findNext 23 = .ok (.baload, 1) := by decide +kernel
theorem dX2_findNext_24 : decode cX2_findNext 24 = .ok (.ifCond .ne 56, 3) := by decide +kernel
theorem dX2_findNext_27 : decode cX2_findNext 27 = .ok (.aload_n 0, 1) := by decide +kernel
theorem dX2_findNext_28 : decode cX2_findNext 28 = .ok (.aload_n 1, 1) := by decide +kernel
theorem dX2_findNext_29 : decode cX2_findNext 29 = .ok (.iload_n 2, 1) := by decide +kernel
theorem dX2_findNext_30 : decode cX2_findNext 30 = .ok (.invokevirtual 94, 3) := by decide +kernel
theorem dX2_findNext_33 : decode cX2_findNext 33 = .ok (.ifCond .eq 47, 3) := by decide +kernel
theorem dX2_findNext_36 : decode cX2_findNext 36 = .ok (.aload_n 0, 1) := by decide +kernel
theorem dX2_findNext_37 : decode cX2_findNext 37 = .ok (.aload_n 1, 1) := by decide +kernel
theorem dX2_findNext_38 : decode cX2_findNext 38 = .ok (.invokevirtual 98, 3) := by decide +kernel
theorem dX2_findNext_41 : decode cX2_findNext 41 = .ok (.ifCond .eq 39, 3) := by decide +kernel
theorem dX2_findNext_44 : decode cX2_findNext 44 = .ok (.aload_n 0, 1) := by decide +kernel
theorem dX2_findNext_45 : decode cX2_findNext 45 = .ok (.getfield 43, 3) := by decide +kernel
theorem dX2_findNext_48 : decode cX2_findNext 48 = .ok (.getfield 77, 3) := by decide +kernel
theorem dX2_findNext_51 : decode cX2_findNext 51 = .ok (.iconst (-1), 1) := by decide +kernel
theorem dX2_findNext_52 : decode cX2_findNext 52 = .ok (.if_icmp .eq 17, 3) := by decide +kernel
theorem dX2_findNext_55 : decode cX2_findNext 55 = .ok (.aload_n 0, 1) := by decide +kernel
theorem dX2_findNext_56 : decode cX2_findNext 56 = .ok (.getfield 46, 3) := by decide +kernel
theorem dX2_findNext_59 : decode cX2_findNext 59 = .ok (.aload_n 0, 1) := by decide +kernel
theorem dX2_findNext_60 : decode cX2_findNext 60 = .ok (.getfield 43, 3) := by decide +kernel
theorem dX2_findNext_63 : decode cX2_findNext 63 = .ok (.invokevirtual 101, 3) := by decide +kernel
theorem dX2_findNext_66 : decode cX2_findNext 66 = .ok (.ifCond .ge 14, 3) := by decide +kernel
theorem dX2_findNext_69 : decode cX2_findNext 69 = .ok (.aload_n 0, 1) := by decide +kernel
theorem dX2_findNext_70 : decode cX2_findNext 70 = .ok (.getfield 43, 3) := by decide +kernel
theorem dX2_findNext_73 : decode cX2_findNext 73 = .ok (.aload_n 0, 1) := by decide +kernel
theorem dX2_findNext_74 : decode cX2_findNext 74 = .ok (.getfield 46, 3) := by decide +kernel
theorem dX2_findNext_77 : decode cX2_findNext 77 = .ok (.invokevirtual 105, 3) := by decide +kernel
theorem dX2_findNext_80 : decode cX2_findNext 80 = .ok (.iinc 2 1, 3) := by decide +kernel
theorem dX2_findNext_83 : decode cX2_findNext 83 = .ok (.goto (-73), 3) := by decide +kernel
theorem dX2_findNext_86 : decode cX2_findNext 86 = .ok (.aload_n 0, 1) := by decide +kernel
theorem dX2_findNext_87 : decode cX2_findNext 87 = .ok (.getfield 43, 3) := by decide +kernel
theorem dX2_findNext_90 : decode cX2_findNext 90 = .ok (.getfield 77, 3) := by decide +kernel
theorem dX2_findNext_93 : decode cX2_findNext 93 = .ok (.iconst (-1), 1) := by decide +kernel
theorem dX2_findNext_94 : decode cX2_findNext 94 = .ok (.if_icmp .eq 7, 3) := by decide +kernel
theorem dX2_findNext_97 : decode cX2_findNext 97 = .ok (.iconst 1, 1) := by decide +kernel
theorem dX2_findNext_98 : decode cX2_findNext 98 = .ok (.goto 4, 3) := by decide +kernel
theorem dX2_findNext_101 : decode cX2_findNext 101 = .ok (.iconst 0, 1) := by decide +kernel
theorem dX2_findNext_102 : decode cX2_findNext 102 = .ok (.ireturn, 1) := by decide +kernel
