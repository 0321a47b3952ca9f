theorem dX0_init_0 : decode cX0_init 0 = .ok (.aload_n 0, 1) := by decide +kernel
theorem dX0_init_1 : decode cX0_init 1 = .ok (.invokespecial 5, 3) := by decide +kernel
theorem dX0_init_4 : decode cX0_init 4 = .ok (.aload_n 0, 1) := by decide +kernel
theorem dX0_init_5 : decode cX0_init 5 = .ok (.sipush 384, 3) := by decide +kernel
theorem dX0_init_8 : decode cX0_init 8 = .ok (.newarray .long, 2) := by decide +kernel
theorem dX0_init_10 : decode cX0_init 10 = .ok (.putfield 11, 3) := by decide +kernel
theorem dX0_init_13 : decode cX0_init 13 = .ok (.return_, 1) := by decide +kernel
theorem dX0_patternOf_0 : decode cX0_patternOf 0 = .ok (.iload_n 0, 1) := by decide +kernel
theorem dX0_patternOf_1 : decode cX0_patternOf 1 = .ok (.sipush 208, 3) := by decide +kernel
theorem dX0_patternOf_4 : decode cX0_patternOf 4 = .ok (.idiv, 1) := by decide +kernel
theorem dX0_patternOf_5 : decode cX0_patternOf 5 = .ok (.ireturn, 1) := by decide +kernel
theorem dX0_scaleOf_0 : decode cX0_scaleOf 0 = .ok (.iload_n 0, 1) := by decide +kernel
theorem dX0_scaleOf_1 : decode cX0_scaleOf 1 = .ok (.sipush 208, 3) := by decide +kernel
theorem dX0_scaleOf_4 : decode cX0_scaleOf 4 = .ok (.irem, 1) := by decide +kernel
theorem dX0_scaleOf_5 : decode cX0_scaleOf 5 = .ok (.sipush 200, 3) := by decide +kernel
theorem dX0_scaleOf_8 : decode cX0_scaleOf 8 = .ok (.if_icmp .ge 7, 3) := by decide +kernel
theorem dX0_scaleOf_11 : decode cX0_scaleOf 11 = .ok (.iconst 1, 1) := by decide +kernel
theorem dX0_scaleOf_12 : decode cX0_scaleOf 12 = .ok (.goto 4, 3) := by decide +kernel
theorem dX0_scaleOf_15 : decode cX0_scaleOf 15 = .ok (.iconst 2, 1) := by decide +kernel
theorem dX0_scaleOf_16 : decode cX0_scaleOf 16 = .ok (.ireturn, 1) := by decide +kernel
theorem dX0_wayOf_0 : decode cX0_wayOf 0 = .ok (.iload_n 0, 1) := by decide +kernel
theorem dX0_wayOf_1 : decode cX0_wayOf 1 = .ok (.sipush 208, 3) := by decide +kernel
theorem dX0_wayOf_4 : decode cX0_wayOf 4 = .ok (.irem, 1) := by decide +kernel
theorem dX0_wayOf_5 : decode cX0_wayOf 5 = .ok (.istore_n 1, 1) := by decide +kernel
theorem dX0_wayOf_6 : decode cX0_wayOf 6 = .ok (.iload_n 1, 1) := by decide +kernel
theorem dX0_wayOf_7 : decode cX0_wayOf 7 = .ok (.sipush 200, 3) := by decide +kernel
theorem dX0_wayOf_10 : decode cX0_wayOf 10 = .ok (.if_icmp .ge 10, 3) := by decide +kernel
theorem dX0_wayOf_13 : decode cX0_wayOf 13 = .ok (.iload_n 1, 1) := by decide +kernel
theorem dX0_wayOf_14 : decode cX0_wayOf 14 = .ok (.bipush 25, 2) := by decide +kernel
theorem dX0_wayOf_16 : decode cX0_wayOf 16 = .ok (.idiv, 1) := by decide +kernel
theorem dX0_wayOf_17 : decode cX0_wayOf 17 = .ok (.goto 8, 3) := by decide +kernel
theorem dX0_wayOf_20 : decode cX0_wayOf 20 = .ok (.iload_n 1, 1) := by decide +kernel
theorem dX0_wayOf_21 : decode cX0_wayOf 21 = .ok (.sipush 200, 3) := by decide +kernel
theorem dX0_wayOf_24 : decode cX0_wayOf 24 = .ok (.isub, 1) := by decide +kernel
theorem dX0_wayOf_25 : decode cX0_wayOf 25 = .ok (.ireturn, 1) := by decide +kernel
theorem dX0_cellOf_0 : decode cX0_cellOf 0 = .ok (.iload_n 0, 1) := by decide +kernel
theorem dX0_cellOf_1 : decode cX0_cellOf 1 = .ok (.sipush 208, 3) := by decide +kernel
theorem dX0_cellOf_4 : decode cX0_cellOf 4 = .ok (.irem, 1) := by decide +kernel
theorem dX0_cellOf_5 : decode cX0_cellOf 5 = .ok (.istore_n 1, 1) := by decide +kernel
theorem dX0_cellOf_6 : decode cX0_cellOf 6 = .ok (.iload_n 1, 1) := by decide +kernel
theorem dX0_cellOf_7 : decode cX0_cellOf 7 = .ok (.sipush 200, 3) := by decide +kernel
theorem dX0_cellOf_10 : decode cX0_cellOf 10 = .ok (.if_icmp .ge 10, 3) := by decide +kernel
theorem dX0_cellOf_13 : decode cX0_cellOf 13 = .ok (.iload_n 1, 1) := by decide +kernel
theorem dX0_cellOf_14 : decode cX0_cellOf 14 = .ok (.bipush 25, 2) := by decide +kernel
theorem dX0_cellOf_16 : decode cX0_cellOf 16 = .ok (.irem, 1) := by decide +kernel
theorem dX0_cellOf_17 : decode cX0_cellOf 17 = .ok (.goto 4, 3) := by decide +kernel
theorem dX0_cellOf_20 : decode cX0_cellOf 20 = .ok (.iconst 0, 1) := by decide +kernel
theorem dX0_cellOf_21 : decode cX0_cellOf 21 = .ok (.istore_n 2, 1) := by decide +kernel
theorem dX0_cellOf_22 : decode cX0_cellOf 22 = .ok (.iload_n 2, 1) := by decide +kernel
theorem dX0_cellOf_23 : decode cX0_cellOf 23 = .ok (.iconst 5, 1) := by decide +kernel
theorem dX0_cellOf_24 : decode cX0_cellOf 24 = .ok (.idiv, 1) := by decide +kernel
theorem dX0_cellOf_25 : decode cX0_cellOf 25 = .ok (.bipush 8, 2) := by decide +kernel
theorem dX0_cellOf_27 : decode cX0_cellOf 27 = .ok (.imul, 1) := by decide +kernel
theorem dX0_cellOf_28 : decode cX0_cellOf 28 = .ok (.iload_n 2, 1) := by decide +kernel
theorem dX0_cellOf_29 : decode cX0_cellOf 29 = .ok (.iconst 5, 1) := by decide +kernel
theorem dX0_cellOf_30 : decode cX0_cellOf 30 = .ok (.irem, 1) := by decide +kernel
theorem dX0_cellOf_31 : decode cX0_cellOf 31 = .ok (.iadd, 1) := by decide +kernel
theorem dX0_cellOf_32 : decode cX0_cellOf 32 = .ok (.ireturn, 1) := by decide +kernel
theorem dX0_shapeOf_0 : decode cX0_shapeOf 0 = .ok (.iload_n 0, 1) := by decide +kernel
theorem dX0_shapeOf_1 : decode cX0_shapeOf 1 = .ok (.invokestatic 15, 3) := by decide +kernel
theorem dX0_shapeOf_4 : decode cX0_shapeOf 4 = .ok (.iconst 2, 1) := by decide +kernel
theorem dX0_shapeOf_5 : decode cX0_shapeOf 5 = .ok (.imul, 1) := by decide +kernel
theorem dX0_shapeOf_6 : decode cX0_shapeOf 6 = .ok (.iload_n 0, 1) := by decide +kernel
theorem dX0_shapeOf_7 : decode cX0_shapeOf 7 = .ok (.invokestatic 19, 3) := by decide +kernel
theorem dX0_shapeOf_10 : decode cX0_shapeOf 10 = .ok (.iadd, 1) := by decide +kernel
theorem dX0_shapeOf_11 : decode cX0_shapeOf 11 = .ok (.iconst 1, 1) := by decide +kernel
theorem dX0_shapeOf_12 : decode cX0_shapeOf 12 = .ok (.isub, 1) := by decide +kernel
theorem dX0_shapeOf_13 : decode cX0_shapeOf 13 = .ok (.bipush 8, 2) := by decide +kernel
theorem dX0_shapeOf_15 : decode cX0_shapeOf 15 = .ok (.imul, 1) := by decide +kernel
theorem dX0_shapeOf_16 : decode cX0_shapeOf 16 = .ok (.iload_n 0, 1) := by decide +kernel
theorem dX0_shapeOf_17 : decode cX0_shapeOf 17 = .ok (.invokestatic 22, 3) := by decide +kernel
theorem dX0_shapeOf_20 : decode cX0_shapeOf 20 = .ok (.iadd, 1) := by decide +kernel
theorem dX0_shapeOf_21 : decode cX0_shapeOf 21 = .ok (.bipush 6, 2) := by decide +kernel
theorem dX0_shapeOf_23 : decode cX0_shapeOf 23 = .ok (.imul, 1) := by decide +kernel
theorem dX0_shapeOf_24 : decode cX0_shapeOf 24 = .ok (.ireturn, 1) := by decide +kernel
theorem dX0_copyNumber_0 : decode cX0_copyNumber 0 = .ok (.iload_n 1, 1) := by decide +kernel
theorem dX0_copyNumber_1 : decode cX0_copyNumber 1 = .ok (.iconst 0, 1) := by decide +kernel
theorem dX0_copyNumber_2 : decode cX0_copyNumber 2 = .ok (.aload_n 0, 1) := by decide +kernel
theorem dX0_copyNumber_3 : decode cX0_copyNumber 3 = .ok (.getfield 25, 3) := by decide +kernel
theorem dX0_copyNumber_6 : decode cX0_copyNumber 6 = .ok (.iconst 1, 1) := by decide +kernel
theorem dX0_copyNumber_7 : decode cX0_copyNumber 7 = .ok (.isub, 1) := by decide +kernel
theorem dX0_copyNumber_8 : decode cX0_copyNumber 8 = .ok (.invokestatic 29, 3) := by decide +kernel
theorem dX0_copyNumber_11 : decode cX0_copyNumber 11 = .ok (.ifCond .eq 30, 3) := by decide +kernel
theorem dX0_copyNumber_14 : decode cX0_copyNumber 14 = .ok (.iload_n 2, 1) := by decide +kernel
theorem dX0_copyNumber_15 : decode cX0_copyNumber 15 = .ok (.iconst 0, 1) := by decide +kernel
theorem dX0_copyNumber_16 : decode cX0_copyNumber 16 = .ok (.bipush 7, 2) := by decide +kernel
theorem dX0_copyNumber_18 : decode cX0_copyNumber 18 = .ok (.invokestatic 29, 3) := by decide +kernel
theorem dX0_copyNumber_21 : decode cX0_copyNumber 21 = .ok (.ifCond .eq 20, 3) := by decide +kernel
theorem dX0_copyNumber_24 : decode cX0_copyNumber 24 = .ok (.iload_n 3, 1) := by decide +kernel
theorem dX0_copyNumber_25 : decode cX0_copyNumber 25 = .ok (.iconst 1, 1) := by decide +kernel
theorem dX0_copyNumber_26 : decode cX0_copyNumber 26 = .ok (.iconst 2, 1) := by decide +kernel
theorem dX0_copyNumber_27 : decode cX0_copyNumber 27 = .ok (.invokestatic 29, 3) := by decide +kernel
theorem dX0_copyNumber_30 : decode cX0_copyNumber 30 = .ok (.ifCond .eq 11, 3) := by decide +kernel
theorem dX0_copyNumber_33 : decode cX0_copyNumber 33 = .ok (.iload 4, 2) := by decide +kernel
theorem dX0_copyNumber_35 : decode cX0_copyNumber 35 = .ok (.invokestatic 33, 3) := by decide +kernel
theorem dX0_copyNumber_38 : decode cX0_copyNumber 38 = .ok (.ifCond .ne 5, 3) := by decide +kernel
theorem dX0_copyNumber_41 : decode cX0_copyNumber 41 = .ok (.iconst (-1), 1) := by decide +kernel
theorem dX0_copyNumber_42 : decode cX0_copyNumber 42 = .ok (.ireturn, 1) := by decide +kernel
theorem dX0_copyNumber_43 : decode cX0_copyNumber 43 = .ok (.iload 4, 2) := by decide +kernel
theorem dX0_copyNumber_45 : decode cX0_copyNumber 45 = .ok (.bipush 8, 2) := by decide +kernel
theorem dX0_copyNumber_47 : decode cX0_copyNumber 47 = .ok (.idiv, 1) := by decide +kernel
theorem dX0_copyNumber_48 : decode cX0_copyNumber 48 = .ok (.istore 5, 2) := by decide +kernel
theorem dX0_copyNumber_50 : decode cX0_copyNumber 50 = .ok (.iload 4, 2) := by decide +kernel
theorem dX0_copyNumber_52 : decode cX0_copyNumber 52 = .ok (.bipush 8, 2) := by decide +kernel
theorem dX0_copyNumber_54 : decode cX0_copyNumber 54 = .ok (.irem, 1) := by decide +kernel
theorem dX0_copyNumber_55 : decode cX0_copyNumber 55 = .ok (.istore 6, 2) := by decide +kernel
theorem dX0_copyNumber_57 : decode cX0_copyNumber 57 = .ok (.bipush 8, 2) := by decide +kernel
theorem dX0_copyNumber_59 : decode cX0_copyNumber 59 = .ok (.iconst 4, 1) := by decide +kernel
theorem dX0_copyNumber_60 : decode cX0_copyNumber 60 = .ok (.iload_n 3, 1) := by decide +kernel
theorem dX0_copyNumber_61 : decode cX0_copyNumber 61 = .ok (.imul, 1) := by decide +kernel
theorem dX0_copyNumber_62 : decode cX0_copyNumber 62 = .ok (.isub, 1) := by decide +kernel
theorem dX0_copyNumber_63 : decode cX0_copyNumber 63 = .ok (.istore 7, 2) := by decide +kernel
theorem dX0_copyNumber_65 : decode cX0_copyNumber 65 = .ok (.iload 5, 2) := by decide +kernel
theorem dX0_copyNumber_67 : decode cX0_copyNumber 67 = .ok (.iload 7, 2) := by decide +kernel
theorem dX0_copyNumber_69 : decode cX0_copyNumber 69 = .ok (.if_icmp .gt 10, 3) := by decide +kernel
theorem dX0_copyNumber_72 : decode cX0_copyNumber 72 = .ok (.iload 6, 2) := by decide +kernel
theorem dX0_copyNumber_74 : decode cX0_copyNumber 74 = .ok (.iload 7, 2) := by decide +kernel
theorem dX0_copyNumber_76 : decode cX0_copyNumber 76 = .ok (.if_icmp .le 5, 3) := by decide +kernel
theorem dX0_copyNumber_79 : decode cX0_copyNumber 79 = .ok (.iconst (-1), 1) := by decide +kernel
theorem dX0_copyNumber_80 : decode cX0_copyNumber 80 = .ok (.ireturn, 1) := by decide +kernel
theorem dX0_copyNumber_81 : decode cX0_copyNumber 81 = .ok (.iload_n 1, 1) := by decide +kernel
theorem dX0_copyNumber_82 : decode cX0_copyNumber 82 = .ok (.sipush 208, 3) := by decide +kernel
theorem dX0_copyNumber_85 : decode cX0_copyNumber 85 = .ok (.imul, 1) := by decide +kernel
theorem dX0_copyNumber_86 : decode cX0_copyNumber 86 = .ok (.iload_n 3, 1) := by decide +kernel
theorem dX0_copyNumber_87 : decode cX0_copyNumber 87 = .ok (.iconst 2, 1) := by decide +kernel
theorem dX0_copyNumber_88 : decode cX0_copyNumber 88 = .ok (.if_icmp .ne 11, 3) := by decide +kernel
theorem dX0_copyNumber_91 : decode cX0_copyNumber 91 = .ok (.sipush 200, 3) := by decide +kernel
theorem dX0_copyNumber_94 : decode cX0_copyNumber 94 = .ok (.iload_n 2, 1) := by decide +kernel
theorem dX0_copyNumber_95 : decode cX0_copyNumber 95 = .ok (.iadd, 1) := by decide +kernel
theorem dX0_copyNumber_96 : decode cX0_copyNumber 96 = .ok (.goto 15, 3) := by decide +kernel
theorem dX0_copyNumber_99 : decode cX0_copyNumber 99 = .ok (.iload_n 2, 1) := by decide +kernel
theorem dX0_copyNumber_100 : decode cX0_copyNumber 100 = .ok (.bipush 25, 2) := by decide +kernel
theorem dX0_copyNumber_102 : decode cX0_copyNumber 102 = .ok (.imul, 1) := by decide +kernel
theorem dX0_copyNumber_103 : decode cX0_copyNumber 103 = .ok (.iload 5, 2) := by decide +kernel
theorem dX0_copyNumber_105 : decode cX0_copyNumber 105 = .ok (.iconst 5, 1) := by decide +kernel
theorem dX0_copyNumber_106 : decode cX0_copyNumber 106 = .ok (.imul, 1) := by decide +kernel
theorem dX0_copyNumber_107 : decode cX0_copyNumber 107 = .ok (.iadd, 1) := by decide +kernel
theorem dX0_copyNumber_108 : decode cX0_copyNumber 108 = .ok (.iload 6, 2) := by decide +kernel
theorem dX0_copyNumber_110 : decode cX0_copyNumber 110 = .ok (.iadd, 1) := by decide +kernel
theorem dX0_copyNumber_111 : decode cX0_copyNumber 111 = .ok (.iadd, 1) := by decide +kernel
theorem dX0_copyNumber_112 : decode cX0_copyNumber 112 = .ok (.ireturn, 1) := by decide +kernel
theorem dX0_numbers_0 : decode cX0_numbers 0 = .ok (.aload_n 0, 1) := by decide +kernel
theorem dX0_numbers_1 : decode cX0_numbers 1 = .ok (.getfield 25, 3) := by decide +kernel
theorem dX0_numbers_4 : decode cX0_numbers 4 = .ok (.sipush 208, 3) := by decide +kernel
theorem dX0_numbers_7 : decode cX0_numbers 7 = .ok (.imul, 1) := by decide +kernel
theorem dX0_numbers_8 : decode cX0_numbers 8 = .ok (.ireturn, 1) := by decide +kernel
theorem dX0_learn_0 : decode cX0_learn 0 = .ok (.aload_n 0, 1) := by decide +kernel
theorem dX0_learn_1 : decode cX0_learn 1 = .ok (.getfield 11, 3) := by decide +kernel
theorem dX0_learn_4 : decode cX0_learn 4 = .ok (.lconst 0, 1) := by decide +kernel
theorem dX0_learn_5 : decode cX0_learn 5 = .ok (.invokestatic 37, 3) := by decide +kernel
theorem dX0_learn_8 : decode cX0_learn 8 = .ok (.aload_n 0, 1) := by decide +kernel
theorem dX0_learn_9 : decode cX0_learn 9 = .ok (.aload_n 1, 1) := by decide +kernel
theorem dX0_learn_10 : decode cX0_learn 10 = .ok (.invokevirtual 43, 3) := by decide +kernel
theorem dX0_learn_13 : decode cX0_learn 13 = .ok (.putfield 25, 3) := by decide +kernel
theorem dX0_learn_16 : decode cX0_learn 16 = .ok (.iconst 0, 1) := by decide +kernel
theorem dX0_learn_17 : decode cX0_learn 17 = .ok (.istore_n 2, 1) := by decide +kernel
theorem dX0_learn_18 : decode cX0_learn 18 = .ok (.iload_n 2, 1) := by decide +kernel
theorem dX0_learn_19 : decode cX0_learn 19 = .ok (.aload_n 0, 1) := by decide +kernel
theorem dX0_learn_20 : decode cX0_learn 20 = .ok (.getfield 25, 3) := by decide +kernel
theorem dX0_learn_23 : decode cX0_learn 23 = .ok (.if_icmp .ge 117, 3) := by decide +kernel
theorem dX0_learn_26 : decode cX0_learn 26 = .ok (.iconst 0, 1) := by decide +kernel
theorem dX0_learn_27 : decode cX0_learn 27 = .ok (.istore_n 3, 1) := by decide +kernel
theorem dX0_learn_28 : decode cX0_learn 28 = .ok (.iload_n 3, 1) := by decide +kernel
theorem dX0_learn_29 : decode cX0_learn 29 = .ok (.bipush 8, 2) := by decide +kernel
theorem dX0_learn_31 : decode cX0_learn 31 = .ok (.if_icmp .ge 103, 3) := by decide +kernel
theorem dX0_learn_34 : decode cX0_learn 34 = .ok (.iconst 0, 1) := by decide +kernel
theorem dX0_learn_35 : decode cX0_learn 35 = .ok (.istore 4, 2) := by decide +kernel
theorem dX0_learn_37 : decode cX0_learn 37 = .ok (.iload 4, 2) := by decide +kernel
theorem dX0_learn_39 : decode cX0_learn 39 = .ok (.bipush 16, 2) := by decide +kernel
theorem dX0_learn_41 : decode cX0_learn 41 = .ok (.if_icmp .ge 87, 3) := by decide +kernel
theorem dX0_learn_44 : decode cX0_learn 44 = .ok (.aload_n 1, 1) := by decide +kernel
theorem dX0_learn_45 : decode cX0_learn 45 = .ok (.iload_n 2, 1) := by decide +kernel
theorem dX0_learn_46 : decode cX0_learn 46 = .ok (.iload_n 3, 1) := by decide +kernel
theorem dX0_learn_47 : decode cX0_learn 47 = .ok (.iload 4, 2) := by decide +kernel
theorem dX0_learn_49 : decode cX0_learn 49 = .ok (.iconst 4, 1) := by decide +kernel
theorem dX0_learn_50 : decode cX0_learn 50 = .ok (.invokestatic 48, 3) := by decide +kernel
theorem dX0_learn_53 : decode cX0_learn 53 = .ok (.invokevirtual 52, 3) := by decide +kernel
theorem dX0_learn_56 : decode cX0_learn 56 = .ok (.istore 5, 2) := by decide +kernel
theorem dX0_learn_58 : decode cX0_learn 58 = .ok (.iload 4, 2) := by decide +kernel
theorem dX0_learn_60 : decode cX0_learn 60 = .ok (.iconst 4, 1) := by decide +kernel
theorem dX0_learn_61 : decode cX0_learn 61 = .ok (.idiv, 1) := by decide +kernel
theorem dX0_learn_62 : decode cX0_learn 62 = .ok (.istore 6, 2) := by decide +kernel
theorem dX0_learn_64 : decode cX0_learn 64 = .ok (.iload 4, 2) := by decide +kernel
theorem dX0_learn_66 : decode cX0_learn 66 = .ok (.iconst 4, 1) := by decide +kernel
theorem dX0_learn_67 : decode cX0_learn 67 = .ok (.irem, 1) := by decide +kernel
theorem dX0_learn_68 : decode cX0_learn 68 = .ok (.istore 7, 2) := by decide +kernel
theorem dX0_learn_70 : decode cX0_learn 70 = .ok (.aload_n 0, 1) := by decide +kernel
theorem dX0_learn_71 : decode cX0_learn 71 = .ok (.aload_n 0, 1) := by decide +kernel
theorem dX0_learn_72 : decode cX0_learn 72 = .ok (.iload_n 2, 1) := by decide +kernel
theorem dX0_learn_73 : decode cX0_learn 73 = .ok (.iload_n 3, 1) := by decide +kernel
theorem dX0_learn_74 : decode cX0_learn 74 = .ok (.iconst 1, 1) := by decide +kernel
theorem dX0_learn_75 : decode cX0_learn 75 = .ok (.iconst 0, 1) := by decide +kernel
theorem dX0_learn_76 : decode cX0_learn 76 = .ok (.invokevirtual 56, 3) := by decide +kernel
theorem dX0_learn_79 : decode cX0_learn 79 = .ok (.iload 5, 2) := by decide +kernel
theorem dX0_learn_81 : decode cX0_learn 81 = .ok (.lconst 1, 1) := by decide +kernel
theorem dX0_learn_82 : decode cX0_learn 82 = .ok (.iload 6, 2) := by decide +kernel
theorem dX0_learn_84 : decode cX0_learn 84 = .ok (.bipush 8, 2) := by decide +kernel
theorem dX0_learn_86 : decode cX0_learn 86 = .ok (.imul, 1) := by decide +kernel
theorem dX0_learn_87 : decode cX0_learn 87 = .ok (.iload 7, 2) := by decide +kernel
theorem dX0_learn_89 : decode cX0_learn 89 = .ok (.iadd, 1) := by decide +kernel
theorem dX0_learn_90 : decode cX0_learn 90 = .ok (.lshl, 1) := by decide +kernel
theorem dX0_learn_91 : decode cX0_learn 91 = .ok (.invokevirtual 60, 3) := by decide +kernel
theorem dX0_learn_94 : decode cX0_learn 94 = .ok (.aload_n 0, 1) := by decide +kernel
theorem dX0_learn_95 : decode cX0_learn 95 = .ok (.aload_n 0, 1) := by decide +kernel
theorem dX0_learn_96 : decode cX0_learn 96 = .ok (.iload_n 2, 1) := by decide +kernel
theorem dX0_learn_97 : decode cX0_learn 97 = .ok (.iload_n 3, 1) := by decide +kernel
theorem dX0_learn_98 : decode cX0_learn 98 = .ok (.iconst 2, 1) := by decide +kernel
theorem dX0_learn_99 : decode cX0_learn 99 = .ok (.iconst 0, 1) := by decide +kernel
theorem dX0_learn_100 : decode cX0_learn 100 = .ok (.invokevirtual 56, 3) := by decide +kernel
theorem dX0_learn_103 : decode cX0_learn 103 = .ok (.iload 5, 2) := by decide +kernel
theorem dX0_learn_105 : decode cX0_learn 105 = .ok (.ldc2_w 64, 3) := by decide +kernel
theorem dX0_learn_108 : decode cX0_learn 108 = .ok (.iconst 2, 1) := by decide +kernel
theorem dX0_learn_109 : decode cX0_learn 109 = .ok (.iload 6, 2) := by decide +kernel
theorem dX0_learn_111 : decode cX0_learn 111 = .ok (.bipush 8, 2) := by decide +kernel
theorem dX0_learn_113 : decode cX0_learn 113 = .ok (.imul, 1) := by decide +kernel
theorem dX0_learn_114 : decode cX0_learn 114 = .ok (.iload 7, 2) := by decide +kernel
theorem dX0_learn_116 : decode cX0_learn 116 = .ok (.iadd, 1) := by decide +kernel
theorem dX0_learn_117 : decode cX0_learn 117 = .ok (.imul, 1) := by decide +kernel
theorem dX0_learn_118 : decode cX0_learn 118 = .ok (.lshl, 1) := by decide +kernel
theorem dX0_learn_119 : decode cX0_learn 119 = .ok (.invokevirtual 60, 3) := by decide +kernel
theorem dX0_learn_122 : decode cX0_learn 122 = .ok (.iinc 4 1, 3) := by decide +kernel
theorem dX0_learn_125 : decode cX0_learn 125 = .ok (.goto (-88), 3) := by decide +kernel
theorem dX0_learn_128 : decode cX0_learn 128 = .ok (.iinc 3 1, 3) := by decide +kernel
theorem dX0_learn_131 : decode cX0_learn 131 = .ok (.goto (-103), 3) := by decide +kernel
theorem dX0_learn_134 : decode cX0_learn 134 = .ok (.iinc 2 1, 3) := by decide +kernel
theorem dX0_learn_137 : decode cX0_learn 137 = .ok (.goto (-119), 3) := by decide +kernel
theorem dX0_learn_140 : decode cX0_learn 140 = .ok (.return_, 1) := by decide +kernel
theorem dX0_addCells_0 : decode cX0_addCells 0 = .ok (.iload_n 1, 1) := by decide +kernel
theorem dX0_addCells_1 : decode cX0_addCells 1 = .ok (.iconst 0, 1) := by decide +kernel
theorem dX0_addCells_2 : decode cX0_addCells 2 = .ok (.aload_n 0, 1) := by decide +kernel
theorem dX0_addCells_3 : decode cX0_addCells 3 = .ok (.invokevirtual 66, 3) := by decide +kernel
theorem dX0_addCells_6 : decode cX0_addCells 6 = .ok (.iconst 1, 1) := by decide +kernel
theorem dX0_addCells_7 : decode cX0_addCells 7 = .ok (.isub, 1) := by decide +kernel
theorem dX0_addCells_8 : decode cX0_addCells 8 = .ok (.invokestatic 29, 3) := by decide +kernel
theorem dX0_addCells_11 : decode cX0_addCells 11 = .ok (.ifCond .eq 27, 3) := by decide +kernel
theorem dX0_addCells_14 : decode cX0_addCells 14 = .ok (.iload_n 2, 1) := by decide +kernel
theorem dX0_addCells_15 : decode cX0_addCells 15 = .ok (.iconst 0, 1) := by decide +kernel
theorem dX0_addCells_16 : decode cX0_addCells 16 = .ok (.iconst 5, 1) := by decide +kernel
theorem dX0_addCells_17 : decode cX0_addCells 17 = .ok (.invokestatic 29, 3) := by decide +kernel
theorem dX0_addCells_20 : decode cX0_addCells 20 = .ok (.ifCond .eq 18, 3) := by decide +kernel
theorem dX0_addCells_23 : decode cX0_addCells 23 = .ok (.aload_n 0, 1) := by decide +kernel
theorem dX0_addCells_24 : decode cX0_addCells 24 = .ok (.getfield 11, 3) := by decide +kernel
theorem dX0_addCells_27 : decode cX0_addCells 27 = .ok (.iload_n 1, 1) := by decide +kernel
theorem dX0_addCells_28 : decode cX0_addCells 28 = .ok (.invokestatic 69, 3) := by decide +kernel
theorem dX0_addCells_31 : decode cX0_addCells 31 = .ok (.iload_n 2, 1) := by decide +kernel
theorem dX0_addCells_32 : decode cX0_addCells 32 = .ok (.iadd, 1) := by decide +kernel
theorem dX0_addCells_33 : decode cX0_addCells 33 = .ok (.dup2, 1) := by decide +kernel
theorem dX0_addCells_34 : decode cX0_addCells 34 = .ok (.laload, 1) := by decide +kernel
theorem dX0_addCells_35 : decode cX0_addCells 35 = .ok (.lload_n 3, 1) := by decide +kernel
theorem dX0_addCells_36 : decode cX0_addCells 36 = .ok (.lor, 1) := by decide +kernel
theorem dX0_addCells_37 : decode cX0_addCells 37 = .ok (.lastore, 1) := by decide +kernel
theorem dX0_addCells_38 : decode cX0_addCells 38 = .ok (.return_, 1) := by decide +kernel
theorem dX0_toldCells_0 : decode cX0_toldCells 0 = .ok (.iload_n 1, 1) := by decide +kernel
theorem dX0_toldCells_1 : decode cX0_toldCells 1 = .ok (.iconst 0, 1) := by decide +kernel
theorem dX0_toldCells_2 : decode cX0_toldCells 2 = .ok (.aload_n 0, 1) := by decide +kernel
theorem dX0_toldCells_3 : decode cX0_toldCells 3 = .ok (.invokevirtual 66, 3) := by decide +kernel
theorem dX0_toldCells_6 : decode cX0_toldCells 6 = .ok (.iconst 1, 1) := by decide +kernel
theorem dX0_toldCells_7 : decode cX0_toldCells 7 = .ok (.isub, 1) := by decide +kernel
theorem dX0_toldCells_8 : decode cX0_toldCells 8 = .ok (.invokestatic 29, 3) := by decide +kernel
theorem dX0_toldCells_11 : decode cX0_toldCells 11 = .ok (.ifCond .eq 12, 3) := by decide +kernel
theorem dX0_toldCells_14 : decode cX0_toldCells 14 = .ok (.iload_n 2, 1) := by decide +kernel
theorem dX0_toldCells_15 : decode cX0_toldCells 15 = .ok (.iconst 0, 1) := by decide +kernel
theorem dX0_toldCells_16 : decode cX0_toldCells 16 = .ok (.iconst 5, 1) := by decide +kernel
theorem dX0_toldCells_17 : decode cX0_toldCells 17 = .ok (.invokestatic 29, 3) := by decide +kernel
theorem dX0_toldCells_20 : decode cX0_toldCells 20 = .ok (.ifCond .ne 5, 3) := by decide +kernel
theorem dX0_toldCells_23 : decode cX0_toldCells 23 = .ok (.lconst 0, 1) := by decide +kernel
theorem dX0_toldCells_24 : decode cX0_toldCells 24 = .ok (.lreturn, 1) := by decide +kernel
theorem dX0_toldCells_25 : decode cX0_toldCells 25 = .ok (.aload_n 0, 1) := by decide +kernel
theorem dX0_toldCells_26 : decode cX0_toldCells 26 = .ok (.getfield 11, 3) := by decide +kernel
theorem dX0_toldCells_29 : decode cX0_toldCells 29 = .ok (.iload_n 1, 1) := by decide +kernel
theorem dX0_toldCells_30 : decode cX0_toldCells 30 = .ok (.invokestatic 69, 3) := by decide +kernel
theorem dX0_toldCells_33 : decode cX0_toldCells 33 = .ok (.iload_n 2, 1) := by decide +kernel
theorem dX0_toldCells_34 : decode cX0_toldCells 34 = .ok (.iadd, 1) := by decide +kernel
theorem dX0_toldCells_35 : decode cX0_toldCells 35 = .ok (.laload, 1) := by decide +kernel
theorem dX0_toldCells_36 : decode cX0_toldCells 36 = .ok (.iload_n 1, 1) := by decide +kernel
theorem dX0_toldCells_37 : decode cX0_toldCells 37 = .ok (.invokestatic 72, 3) := by decide +kernel
theorem dX0_toldCells_40 : decode cX0_toldCells 40 = .ok (.lshl, 1) := by decide +kernel
theorem dX0_toldCells_41 : decode cX0_toldCells 41 = .ok (.lreturn, 1) := by decide +kernel
theorem dX0_agreesIn_0 : decode cX0_agreesIn 0 = .ok (.iconst 0, 1) := by decide +kernel
theorem dX0_agreesIn_1 : decode cX0_agreesIn 1 = .ok (.istore_n 3, 1) := by decide +kernel
theorem dX0_agreesIn_2 : decode cX0_agreesIn 2 = .ok (.iconst 0, 1) := by decide +kernel
theorem dX0_agreesIn_3 : decode cX0_agreesIn 3 = .ok (.istore 4, 2) := by decide +kernel
theorem dX0_agreesIn_5 : decode cX0_agreesIn 5 = .ok (.iload 4, 2) := by decide +kernel
theorem dX0_agreesIn_7 : decode cX0_agreesIn 7 = .ok (.bipush 6, 2) := by decide +kernel
theorem dX0_agreesIn_9 : decode cX0_agreesIn 9 = .ok (.if_icmp .ge 29, 3) := by decide +kernel
theorem dX0_agreesIn_12 : decode cX0_agreesIn 12 = .ok (.iload_n 3, 1) := by decide +kernel
theorem dX0_agreesIn_13 : decode cX0_agreesIn 13 = .ok (.aload_n 0, 1) := by decide +kernel
theorem dX0_agreesIn_14 : decode cX0_agreesIn 14 = .ok (.iload_n 1, 1) := by decide +kernel
theorem dX0_agreesIn_15 : decode cX0_agreesIn 15 = .ok (.iload 4, 2) := by decide +kernel
theorem dX0_agreesIn_17 : decode cX0_agreesIn 17 = .ok (.invokevirtual 75, 3) := by decide +kernel
theorem dX0_agreesIn_20 : decode cX0_agreesIn 20 = .ok (.aload_n 2, 1) := by decide +kernel
theorem dX0_agreesIn_21 : decode cX0_agreesIn 21 = .ok (.iload 4, 2) := by decide +kernel
theorem dX0_agreesIn_23 : decode cX0_agreesIn 23 = .ok (.invokevirtual 79, 3) := by decide +kernel
theorem dX0_agreesIn_26 : decode cX0_agreesIn 26 = .ok (.land, 1) := by decide +kernel
theorem dX0_agreesIn_27 : decode cX0_agreesIn 27 = .ok (.invokestatic 85, 3) := by decide +kernel
theorem dX0_agreesIn_30 : decode cX0_agreesIn 30 = .ok (.iadd, 1) := by decide +kernel
theorem dX0_agreesIn_31 : decode cX0_agreesIn 31 = .ok (.istore_n 3, 1) := by decide +kernel
theorem dX0_agreesIn_32 : decode cX0_agreesIn 32 = .ok (.iinc 4 1, 3) := by decide +kernel
theorem dX0_agreesIn_35 : decode cX0_agreesIn 35 = .ok (.goto (-30), 3) := by decide +kernel
theorem dX0_agreesIn_38 : decode cX0_agreesIn 38 = .ok (.iload_n 3, 1) := by decide +kernel
theorem dX0_agreesIn_39 : decode cX0_agreesIn 39 = .ok (.ireturn, 1) := by decide +kernel
theorem dX0_clashesIn_0 : decode cX0_clashesIn 0 = .ok (.iconst 0, 1) := by decide +kernel
theorem dX0_clashesIn_1 : decode cX0_clashesIn 1 = .ok (.istore_n 3, 1) := by decide +kernel
theorem dX0_clashesIn_2 : decode cX0_clashesIn 2 = .ok (.aload_n 2, 1) := by decide +kernel
theorem dX0_clashesIn_3 : decode cX0_clashesIn 3 = .ok (.invokevirtual 91, 3) := by decide +kernel
theorem dX0_clashesIn_6 : decode cX0_clashesIn 6 = .ok (.ldc2_w 95, 3) := by decide +kernel
theorem dX0_clashesIn_9 : decode cX0_clashesIn 9 = .ok (.lxor, 1) := by decide +kernel
theorem dX0_clashesIn_10 : decode cX0_clashesIn 10 = .ok (.lstore 4, 2) := by decide +kernel
theorem dX0_clashesIn_12 : decode cX0_clashesIn 12 = .ok (.iconst 0, 1) := by decide +kernel
theorem dX0_clashesIn_13 : decode cX0_clashesIn 13 = .ok (.istore 6, 2) := by decide +kernel
theorem dX0_clashesIn_15 : decode cX0_clashesIn 15 = .ok (.iload 6, 2) := by decide +kernel
theorem dX0_clashesIn_17 : decode cX0_clashesIn 17 = .ok (.bipush 6, 2) := by decide +kernel
theorem dX0_clashesIn_19 : decode cX0_clashesIn 19 = .ok (.if_icmp .ge 36, 3) := by decide +kernel
theorem dX0_clashesIn_22 : decode cX0_clashesIn 22 = .ok (.iload_n 3, 1) := by decide +kernel
theorem dX0_clashesIn_23 : decode cX0_clashesIn 23 = .ok (.aload_n 0, 1) := by decide +kernel
theorem dX0_clashesIn_24 : decode cX0_clashesIn 24 = .ok (.iload_n 1, 1) := by decide +kernel
theorem dX0_clashesIn_25 : decode cX0_clashesIn 25 = .ok (.iload 6, 2) := by decide +kernel
theorem dX0_clashesIn_27 : decode cX0_clashesIn 27 = .ok (.invokevirtual 75, 3) := by decide +kernel
theorem dX0_clashesIn_30 : decode cX0_clashesIn 30 = .ok (.lload 4, 2) := by decide +kernel
theorem dX0_clashesIn_32 : decode cX0_clashesIn 32 = .ok (.land, 1) := by decide +kernel
theorem dX0_clashesIn_33 : decode cX0_clashesIn 33 = .ok (.aload_n 2, 1) := by decide +kernel
theorem dX0_clashesIn_34 : decode cX0_clashesIn 34 = .ok (.iload 6, 2) := by decide +kernel
theorem dX0_clashesIn_36 : decode cX0_clashesIn 36 = .ok (.invokevirtual 79, 3) := by decide +kernel
theorem dX0_clashesIn_39 : decode cX0_clashesIn 39 = .ok (.ldc2_w 95, 3) := by decide +kernel
theorem dX0_clashesIn_42 : decode cX0_clashesIn 42 = .ok (.lxor, 1) := by decide +kernel
theorem dX0_clashesIn_43 : decode cX0_clashesIn 43 = .ok (.land, 1) := by decide +kernel
theorem dX0_clashesIn_44 : decode cX0_clashesIn 44 = .ok (.invokestatic 85, 3) := by decide +kernel
theorem dX0_clashesIn_47 : decode cX0_clashesIn 47 = .ok (.iadd, 1) := by decide +kernel
theorem dX0_clashesIn_48 : decode cX0_clashesIn 48 = .ok (.istore_n 3, 1) := by decide +kernel
theorem dX0_clashesIn_49 : decode cX0_clashesIn 49 = .ok (.iinc 6 1, 3) := by decide +kernel
theorem dX0_clashesIn_52 : decode cX0_clashesIn 52 = .ok (.goto (-37), 3) := by decide +kernel
theorem dX0_clashesIn_55 : decode cX0_clashesIn 55 = .ok (.iload_n 3, 1) := by decide +kernel
theorem dX0_clashesIn_56 : decode cX0_clashesIn 56 = .ok (.ireturn, 1) := by decide +kernel
theorem dX0_wouldFill_0 : decode cX0_wouldFill 0 = .ok (.iconst 0, 1) := by decide +kernel
theorem dX0_wouldFill_1 : decode cX0_wouldFill 1 = .ok (.istore_n 3, 1) := by decide +kernel
theorem dX0_wouldFill_2 : decode cX0_wouldFill 2 = .ok (.aload_n 2, 1) := by decide +kernel
theorem dX0_wouldFill_3 : decode cX0_wouldFill 3 = .ok (.invokevirtual 91, 3) := by decide +kernel
theorem dX0_wouldFill_6 : decode cX0_wouldFill 6 = .ok (.lstore 4, 2) := by decide +kernel
theorem dX0_wouldFill_8 : decode cX0_wouldFill 8 = .ok (.iconst 0, 1) := by decide +kernel
theorem dX0_wouldFill_9 : decode cX0_wouldFill 9 = .ok (.istore 6, 2) := by decide +kernel
theorem dX0_wouldFill_11 : decode cX0_wouldFill 11 = .ok (.iload 6, 2) := by decide +kernel
theorem dX0_wouldFill_13 : decode cX0_wouldFill 13 = .ok (.bipush 6, 2) := by decide +kernel
theorem dX0_wouldFill_15 : decode cX0_wouldFill 15 = .ok (.if_icmp .ge 25, 3) := by decide +kernel
theorem dX0_wouldFill_18 : decode cX0_wouldFill 18 = .ok (.iload_n 3, 1) := by decide +kernel
theorem dX0_wouldFill_19 : decode cX0_wouldFill 19 = .ok (.aload_n 0, 1) := by decide +kernel
theorem dX0_wouldFill_20 : decode cX0_wouldFill 20 = .ok (.iload_n 1, 1) := by decide +kernel
theorem dX0_wouldFill_21 : decode cX0_wouldFill 21 = .ok (.iload 6, 2) := by decide +kernel
theorem dX0_wouldFill_23 : decode cX0_wouldFill 23 = .ok (.invokevirtual 75, 3) := by decide +kernel
theorem dX0_wouldFill_26 : decode cX0_wouldFill 26 = .ok (.lload 4, 2) := by decide +kernel
theorem dX0_wouldFill_28 : decode cX0_wouldFill 28 = .ok (.land, 1) := by decide +kernel
theorem dX0_wouldFill_29 : decode cX0_wouldFill 29 = .ok (.invokestatic 85, 3) := by decide +kernel
theorem dX0_wouldFill_32 : decode cX0_wouldFill 32 = .ok (.iadd, 1) := by decide +kernel
theorem dX0_wouldFill_33 : decode cX0_wouldFill 33 = .ok (.istore_n 3, 1) := by decide +kernel
theorem dX0_wouldFill_34 : decode cX0_wouldFill 34 = .ok (.iinc 6 1, 3) := by decide +kernel
theorem dX0_wouldFill_37 : decode cX0_wouldFill 37 = .ok (.goto (-26), 3) := by decide +kernel
theorem dX0_wouldFill_40 : decode cX0_wouldFill 40 = .ok (.iload_n 3, 1) := by decide +kernel
theorem dX0_wouldFill_41 : decode cX0_wouldFill 41 = .ok (.ireturn, 1) := by decide +kernel
theorem dX0_layOn_0 : decode cX0_layOn 0 = .ok (.aload_n 2, 1) := by decide +kernel
theorem dX0_layOn_1 : decode cX0_layOn 1 = .ok (.invokevirtual 91, 3) := by decide +kernel
theorem dX0_layOn_4 : decode cX0_layOn 4 = .ok (.lstore_n 3, 1) := by decide +kernel
theorem dX0_layOn_5 : decode cX0_layOn 5 = .ok (.iconst 0, 1) := by decide +kernel
theorem dX0_layOn_6 : decode cX0_layOn 6 = .ok (.istore 5, 2) := by decide +kernel
theorem dX0_layOn_8 : decode cX0_layOn 8 = .ok (.iload 5, 2) := by decide +kernel
theorem dX0_layOn_10 : decode cX0_layOn 10 = .ok (.bipush 6, 2) := by decide +kernel
theorem dX0_layOn_12 : decode cX0_layOn 12 = .ok (.if_icmp .ge 61, 3) := by decide +kernel
theorem dX0_layOn_15 : decode cX0_layOn 15 = .ok (.aload_n 0, 1) := by decide +kernel
theorem dX0_layOn_16 : decode cX0_layOn 16 = .ok (.iload_n 1, 1) := by decide +kernel
theorem dX0_layOn_17 : decode cX0_layOn 17 = .ok (.iload 5, 2) := by decide +kernel
theorem dX0_layOn_19 : decode cX0_layOn 19 = .ok (.invokevirtual 75, 3) := by decide +kernel
theorem dX0_layOn_22 : decode cX0_layOn 22 = .ok (.lload_n 3, 1) := by decide +kernel
theorem dX0_layOn_23 : decode cX0_layOn 23 = .ok (.land, 1) := by decide +kernel
theorem dX0_layOn_24 : decode cX0_layOn 24 = .ok (.lstore 6, 2) := by decide +kernel
theorem dX0_layOn_26 : decode cX0_layOn 26 = .ok (.iconst 0, 1) := by decide +kernel
theorem dX0_layOn_27 : decode cX0_layOn 27 = .ok (.istore 8, 2) := by decide +kernel
theorem dX0_layOn_29 : decode cX0_layOn 29 = .ok (.iload 8, 2) := by decide +kernel
theorem dX0_layOn_31 : decode cX0_layOn 31 = .ok (.bipush 64, 2) := by decide +kernel
theorem dX0_layOn_33 : decode cX0_layOn 33 = .ok (.if_icmp .ge 34, 3) := by decide +kernel
theorem dX0_layOn_36 : decode cX0_layOn 36 = .ok (.lload 6, 2) := by decide +kernel
theorem dX0_layOn_38 : decode cX0_layOn 38 = .ok (.lconst 0, 1) := by decide +kernel
theorem dX0_layOn_39 : decode cX0_layOn 39 = .ok (.lcmp, 1) := by decide +kernel
theorem dX0_layOn_40 : decode cX0_layOn 40 = .ok (.ifCond .eq 27, 3) := by decide +kernel
theorem dX0_layOn_43 : decode cX0_layOn 43 = .ok (.lload 6, 2) := by decide +kernel
theorem dX0_layOn_45 : decode cX0_layOn 45 = .ok (.iload 8, 2) := by decide +kernel
theorem dX0_layOn_47 : decode cX0_layOn 47 = .ok (.invokestatic 97, 3) := by decide +kernel
theorem dX0_layOn_50 : decode cX0_layOn 50 = .ok (.ifCond .eq 11, 3) := by decide +kernel
theorem dX0_layOn_53 : decode cX0_layOn 53 = .ok (.aload_n 2, 1) := by decide +kernel
theorem dX0_layOn_54 : decode cX0_layOn 54 = .ok (.iload 8, 2) := by decide +kernel
theorem dX0_layOn_56 : decode cX0_layOn 56 = .ok (.iload 5, 2) := by decide +kernel
theorem dX0_layOn_58 : decode cX0_layOn 58 = .ok (.invokevirtual 101, 3) := by decide +kernel
theorem dX0_layOn_61 : decode cX0_layOn 61 = .ok (.iinc 8 1, 3) := by decide +kernel
theorem dX0_layOn_64 : decode cX0_layOn 64 = .ok (.goto (-35), 3) := by decide +kernel
theorem dX0_layOn_67 : decode cX0_layOn 67 = .ok (.iinc 5 1, 3) := by decide +kernel
theorem dX0_layOn_70 : decode cX0_layOn 70 = .ok (.goto (-62), 3) := by decide +kernel
theorem dX0_layOn_73 : decode cX0_layOn 73 = .ok (.return_, 1) := by decide +kernel
theorem dX0_agreesCleanly_0 : decode cX0_agreesCleanly 0 = .ok (.iload_n 1, 1) := by decide +kernel
theorem dX0_agreesCleanly_1 : decode cX0_agreesCleanly 1 = .ok (.iconst 0, 1) := by decide +kernel
theorem dX0_agreesCleanly_2 : decode cX0_agreesCleanly 2 = .ok (.aload_n 0, 1) := by decide +kernel
theorem dX0_agreesCleanly_3 : decode cX0_agreesCleanly 3 = .ok (.invokevirtual 66, 3) := by decide +kernel
theorem dX0_agreesCleanly_6 : decode cX0_agreesCleanly 6 = .ok (.iconst 1, 1) := by decide +kernel
theorem dX0_agreesCleanly_7 : decode cX0_agreesCleanly 7 = .ok (.isub, 1) := by decide +kernel
theorem dX0_agreesCleanly_8 : decode cX0_agreesCleanly 8 = .ok (.invokestatic 29, 3) := by decide +kernel
theorem dX0_agreesCleanly_11 : decode cX0_agreesCleanly 11 = .ok (.ifCond .ne 5, 3) := by decide +kernel
theorem dX0_agreesCleanly_14 : decode cX0_agreesCleanly 14 = .ok (.iconst (-1), 1) := by decide +kernel
theorem dX0_agreesCleanly_15 : decode cX0_agreesCleanly 15 = .ok (.ireturn, 1) := by decide +kernel
theorem dX0_agreesCleanly_16 : decode cX0_agreesCleanly 16 = .ok (.iconst 0, 1) := by decide +kernel
theorem dX0_agreesCleanly_17 : decode cX0_agreesCleanly 17 = .ok (.istore_n 3, 1) := by decide +kernel
theorem dX0_agreesCleanly_18 : decode cX0_agreesCleanly 18 = .ok (.iload_n 1, 1) := by decide +kernel
theorem dX0_agreesCleanly_19 : decode cX0_agreesCleanly 19 = .ok (.invokestatic 69, 3) := by decide +kernel
theorem dX0_agreesCleanly_22 : decode cX0_agreesCleanly 22 = .ok (.istore 4, 2) := by decide +kernel
theorem dX0_agreesCleanly_24 : decode cX0_agreesCleanly 24 = .ok (.iload_n 1, 1) := by decide +kernel
theorem dX0_agreesCleanly_25 : decode cX0_agreesCleanly 25 = .ok (.invokestatic 72, 3) := by decide +kernel
theorem dX0_agreesCleanly_28 : decode cX0_agreesCleanly 28 = .ok (.istore 5, 2) := by decide +kernel
theorem dX0_agreesCleanly_30 : decode cX0_agreesCleanly 30 = .ok (.aload_n 2, 1) := by decide +kernel
theorem dX0_agreesCleanly_31 : decode cX0_agreesCleanly 31 = .ok (.invokevirtual 91, 3) := by decide +kernel
theorem dX0_agreesCleanly_34 : decode cX0_agreesCleanly 34 = .ok (.ldc2_w 95, 3) := by decide +kernel
theorem dX0_agreesCleanly_37 : decode cX0_agreesCleanly 37 = .ok (.lxor, 1) := by decide +kernel
theorem dX0_agreesCleanly_38 : decode cX0_agreesCleanly 38 = .ok (.lstore 6, 2) := by decide +kernel
theorem dX0_agreesCleanly_40 : decode cX0_agreesCleanly 40 = .ok (.iconst 0, 1) := by decide +kernel
theorem dX0_agreesCleanly_41 : decode cX0_agreesCleanly 41 = .ok (.istore 8, 2) := by decide +kernel
theorem dX0_agreesCleanly_43 : decode cX0_agreesCleanly 43 = .ok (.iload 8, 2) := by decide +kernel
theorem dX0_agreesCleanly_45 : decode cX0_agreesCleanly 45 = .ok (.bipush 6, 2) := by decide +kernel
theorem dX0_agreesCleanly_47 : decode cX0_agreesCleanly 47 = .ok (.if_icmp .ge 56, 3) := by decide +kernel
theorem dX0_agreesCleanly_50 : decode cX0_agreesCleanly 50 = .ok (.aload_n 0, 1) := by decide +kernel
theorem dX0_agreesCleanly_51 : decode cX0_agreesCleanly 51 = .ok (.getfield 11, 3) := by decide +kernel
theorem dX0_agreesCleanly_54 : decode cX0_agreesCleanly 54 = .ok (.iload 4, 2) := by decide +kernel
theorem dX0_agreesCleanly_56 : decode cX0_agreesCleanly 56 = .ok (.iload 8, 2) := by decide +kernel
theorem dX0_agreesCleanly_58 : decode cX0_agreesCleanly 58 = .ok (.iadd, 1) := by decide +kernel
theorem dX0_agreesCleanly_59 : decode cX0_agreesCleanly 59 = .ok (.laload, 1) := by decide +kernel
theorem dX0_agreesCleanly_60 : decode cX0_agreesCleanly 60 = .ok (.iload 5, 2) := by decide +kernel
theorem dX0_agreesCleanly_62 : decode cX0_agreesCleanly 62 = .ok (.lshl, 1) := by decide +kernel
theorem dX0_agreesCleanly_63 : decode cX0_agreesCleanly 63 = .ok (.lload 6, 2) := by decide +kernel
theorem dX0_agreesCleanly_65 : decode cX0_agreesCleanly 65 = .ok (.land, 1) := by decide +kernel
theorem dX0_agreesCleanly_66 : decode cX0_agreesCleanly 66 = .ok (.lstore 9, 2) := by decide +kernel
theorem dX0_agreesCleanly_68 : decode cX0_agreesCleanly 68 = .ok (.lload 9, 2) := by decide +kernel
theorem dX0_agreesCleanly_70 : decode cX0_agreesCleanly 70 = .ok (.aload_n 2, 1) := by decide +kernel
theorem dX0_agreesCleanly_71 : decode cX0_agreesCleanly 71 = .ok (.iload 8, 2) := by decide +kernel
theorem dX0_agreesCleanly_73 : decode cX0_agreesCleanly 73 = .ok (.invokevirtual 79, 3) := by decide +kernel
theorem dX0_agreesCleanly_76 : decode cX0_agreesCleanly 76 = .ok (.land, 1) := by decide +kernel
theorem dX0_agreesCleanly_77 : decode cX0_agreesCleanly 77 = .ok (.lstore 11, 2) := by decide +kernel
theorem dX0_agreesCleanly_79 : decode cX0_agreesCleanly 79 = .ok (.lload 11, 2) := by decide +kernel
theorem dX0_agreesCleanly_81 : decode cX0_agreesCleanly 81 = .ok (.lload 9, 2) := by decide +kernel
theorem dX0_agreesCleanly_83 : decode cX0_agreesCleanly 83 = .ok (.lcmp, 1) := by decide +kernel
theorem dX0_agreesCleanly_84 : decode cX0_agreesCleanly 84 = .ok (.ifCond .eq 5, 3) := by decide +kernel
theorem dX0_agreesCleanly_87 : decode cX0_agreesCleanly 87 = .ok (.iconst (-1), 1) := by decide +kernel
theorem dX0_agreesCleanly_88 : decode cX0_agreesCleanly 88 = .ok (.ireturn, 1) := by decide +kernel
theorem dX0_agreesCleanly_89 : decode cX0_agreesCleanly 89 = .ok (.iload_n 3, 1) := by decide +kernel
theorem dX0_agreesCleanly_90 : decode cX0_agreesCleanly 90 = .ok (.lload 11, 2) := by decide +kernel
theorem dX0_agreesCleanly_92 : decode cX0_agreesCleanly 92 = .ok (.invokestatic 85, 3) := by decide +kernel
theorem dX0_agreesCleanly_95 : decode cX0_agreesCleanly 95 = .ok (.iadd, 1) := by decide +kernel
theorem dX0_agreesCleanly_96 : decode cX0_agreesCleanly 96 = .ok (.istore_n 3, 1) := by decide +kernel
theorem dX0_agreesCleanly_97 : decode cX0_agreesCleanly 97 = .ok (.iinc 8 1, 3) := by decide +kernel
theorem dX0_agreesCleanly_100 : decode cX0_agreesCleanly 100 = .ok (.goto (-57), 3) := by decide +kernel
theorem dX0_agreesCleanly_103 : decode cX0_agreesCleanly 103 = .ok (.iload_n 3, 1) := by decide +kernel
theorem dX0_agreesCleanly_104 : decode cX0_agreesCleanly 104 = .ok (.ireturn, 1) := by decide +kernel
theorem dX0_bestOn_0 : decode cX0_bestOn 0 = .ok (.iconst (-1), 1) := by decide +kernel
theorem dX0_bestOn_1 : decode cX0_bestOn 1 = .ok (.istore_n 2, 1) := by decide +kernel
theorem dX0_bestOn_2 : decode cX0_bestOn 2 = .ok (.iconst 0, 1) := by decide +kernel
theorem dX0_bestOn_3 : decode cX0_bestOn 3 = .ok (.istore_n 3, 1) := by decide +kernel
theorem dX0_bestOn_4 : decode cX0_bestOn 4 = .ok (.iconst 0, 1) := by decide +kernel
theorem dX0_bestOn_5 : decode cX0_bestOn 5 = .ok (.istore 4, 2) := by decide +kernel
theorem dX0_bestOn_7 : decode cX0_bestOn 7 = .ok (.iload 4, 2) := by decide +kernel
theorem dX0_bestOn_9 : decode cX0_bestOn 9 = .ok (.aload_n 0, 1) := by decide +kernel
theorem dX0_bestOn_10 : decode cX0_bestOn 10 = .ok (.invokevirtual 66, 3) := by decide +kernel
theorem dX0_bestOn_13 : decode cX0_bestOn 13 = .ok (.if_icmp .ge 30, 3) := by decide +kernel
theorem dX0_bestOn_16 : decode cX0_bestOn 16 = .ok (.aload_n 0, 1) := by decide +kernel
theorem dX0_bestOn_17 : decode cX0_bestOn 17 = .ok (.iload 4, 2) := by decide +kernel
theorem dX0_bestOn_19 : decode cX0_bestOn 19 = .ok (.aload_n 1, 1) := by decide +kernel
theorem dX0_bestOn_20 : decode cX0_bestOn 20 = .ok (.invokevirtual 105, 3) := by decide +kernel
theorem dX0_bestOn_23 : decode cX0_bestOn 23 = .ok (.istore 5, 2) := by decide +kernel
theorem dX0_bestOn_25 : decode cX0_bestOn 25 = .ok (.iload 5, 2) := by decide +kernel
theorem dX0_bestOn_27 : decode cX0_bestOn 27 = .ok (.iload_n 3, 1) := by decide +kernel
theorem dX0_bestOn_28 : decode cX0_bestOn 28 = .ok (.if_icmp .le 9, 3) := by decide +kernel
theorem dX0_bestOn_31 : decode cX0_bestOn 31 = .ok (.iload 4, 2) := by decide +kernel
theorem dX0_bestOn_33 : decode cX0_bestOn 33 = .ok (.istore_n 2, 1) := by decide +kernel
theorem dX0_bestOn_34 : decode cX0_bestOn 34 = .ok (.iload 5, 2) := by decide +kernel
theorem dX0_bestOn_36 : decode cX0_bestOn 36 = .ok (.istore_n 3, 1) := by decide +kernel
theorem dX0_bestOn_37 : decode cX0_bestOn 37 = .ok (.iinc 4 1, 3) := by decide +kernel
theorem dX0_bestOn_40 : decode cX0_bestOn 40 = .ok (.goto (-33), 3) := by decide +kernel
theorem dX0_bestOn_43 : decode cX0_bestOn 43 = .ok (.iload_n 2, 1) := by decide +kernel
theorem dX0_bestOn_44 : decode cX0_bestOn 44 = .ok (.ireturn, 1) := by decide +kernel
theorem dX0_countCopies_0 : decode cX0_countCopies 0 = .ok (.iconst 0, 1) := by decide +kernel
theorem dX0_countCopies_1 : decode cX0_countCopies 1 = .ok (.istore 4, 2) := by decide +kernel
theorem dX0_countCopies_3 : decode cX0_countCopies 3 = .ok (.iload_n 1, 1) := by decide +kernel
theorem dX0_countCopies_4 : decode cX0_countCopies 4 = .ok (.sipush 208, 3) := by decide +kernel
theorem dX0_countCopies_7 : decode cX0_countCopies 7 = .ok (.imul, 1) := by decide +kernel
theorem dX0_countCopies_8 : decode cX0_countCopies 8 = .ok (.istore 5, 2) := by decide +kernel
theorem dX0_countCopies_10 : decode cX0_countCopies 10 = .ok (.iload 5, 2) := by decide +kernel
theorem dX0_countCopies_12 : decode cX0_countCopies 12 = .ok (.iload_n 1, 1) := by decide +kernel
theorem dX0_countCopies_13 : decode cX0_countCopies 13 = .ok (.iconst 1, 1) := by decide +kernel
theorem dX0_countCopies_14 : decode cX0_countCopies 14 = .ok (.iadd, 1) := by decide +kernel
theorem dX0_countCopies_15 : decode cX0_countCopies 15 = .ok (.sipush 208, 3) := by decide +kernel
theorem dX0_countCopies_18 : decode cX0_countCopies 18 = .ok (.imul, 1) := by decide +kernel
theorem dX0_countCopies_19 : decode cX0_countCopies 19 = .ok (.if_icmp .ge 23, 3) := by decide +kernel
theorem dX0_countCopies_22 : decode cX0_countCopies 22 = .ok (.aload_n 0, 1) := by decide +kernel
theorem dX0_countCopies_23 : decode cX0_countCopies 23 = .ok (.iload 5, 2) := by decide +kernel
theorem dX0_countCopies_25 : decode cX0_countCopies 25 = .ok (.aload_n 3, 1) := by decide +kernel
theorem dX0_countCopies_26 : decode cX0_countCopies 26 = .ok (.invokevirtual 105, 3) := by decide +kernel
theorem dX0_countCopies_29 : decode cX0_countCopies 29 = .ok (.iload_n 2, 1) := by decide +kernel
theorem dX0_countCopies_30 : decode cX0_countCopies 30 = .ok (.if_icmp .lt 6, 3) := by decide +kernel
theorem dX0_countCopies_33 : decode cX0_countCopies 33 = .ok (.iinc 4 1, 3) := by decide +kernel
theorem dX0_countCopies_36 : decode cX0_countCopies 36 = .ok (.iinc 5 1, 3) := by decide +kernel
theorem dX0_countCopies_39 : decode cX0_countCopies 39 = .ok (.goto (-29), 3) := by decide +kernel
theorem dX0_countCopies_42 : decode cX0_countCopies 42 = .ok (.iload 4, 2) := by decide +kernel
theorem dX0_countCopies_44 : decode cX0_countCopies 44 = .ok (.ireturn, 1) := by decide +kernel
theorem dX1_init_0 : decode cX1_init 0 = .ok (.aload_n 0, 1) := by decide +kernel
theorem dX1_init_1 : decode cX1_init 1 = .ok (.invokespecial 3, 3) := by decide +kernel
theorem dX1_init_4 : decode cX1_init 4 = .ok (.aload_n 0, 1) := by decide +kernel
theorem dX1_init_5 : decode cX1_init 5 = .ok (.bipush 24, 2) := by decide +kernel
theorem dX1_init_7 : decode cX1_init 7 = .ok (.newarray .int, 2) := by decide +kernel
theorem dX1_init_9 : decode cX1_init 9 = .ok (.putfield 11, 3) := by decide +kernel
theorem dX1_init_12 : decode cX1_init 12 = .ok (.return_, 1) := by decide +kernel
theorem dX1_length_0 : decode cX1_length 0 = .ok (.aload_n 0, 1) := by decide +kernel
theorem dX1_length_1 : decode cX1_length 1 = .ok (.getfield 15, 3) := by decide +kernel
theorem dX1_length_4 : decode cX1_length 4 = .ok (.ireturn, 1) := by decide +kernel
theorem dX1_isBeyond_0 : decode cX1_isBeyond 0 = .ok (.iload_n 1, 1) := by decide +kernel
theorem dX1_isBeyond_1 : decode cX1_isBeyond 1 = .ok (.iconst 0, 1) := by decide +kernel
theorem dX1_isBeyond_2 : decode cX1_isBeyond 2 = .ok (.sipush 999, 3) := by decide +kernel
theorem dX1_isBeyond_5 : decode cX1_isBeyond 5 = .ok (.invokestatic 19, 3) := by decide +kernel
theorem dX1_isBeyond_8 : decode cX1_isBeyond 8 = .ok (.ifCond .eq 29, 3) := by decide +kernel
theorem dX1_isBeyond_11 : decode cX1_isBeyond 11 = .ok (.aload_n 0, 1) := by decide +kernel
theorem dX1_isBeyond_12 : decode cX1_isBeyond 12 = .ok (.getfield 15, 3) := by decide +kernel
theorem dX1_isBeyond_15 : decode cX1_isBeyond 15 = .ok (.ifCond .eq 18, 3) := by decide +kernel
theorem dX1_isBeyond_18 : decode cX1_isBeyond 18 = .ok (.iload_n 1, 1) := by decide +kernel
theorem dX1_isBeyond_19 : decode cX1_isBeyond 19 = .ok (.aload_n 0, 1) := by decide +kernel
theorem dX1_isBeyond_20 : decode cX1_isBeyond 20 = .ok (.getfield 11, 3) := by decide +kernel
theorem dX1_isBeyond_23 : decode cX1_isBeyond 23 = .ok (.aload_n 0, 1) := by decide +kernel
theorem dX1_isBeyond_24 : decode cX1_isBeyond 24 = .ok (.getfield 15, 3) := by decide +kernel
theorem dX1_isBeyond_27 : decode cX1_isBeyond 27 = .ok (.iconst 1, 1) := by decide +kernel
theorem dX1_isBeyond_28 : decode cX1_isBeyond 28 = .ok (.isub, 1) := by decide +kernel
theorem dX1_isBeyond_29 : decode cX1_isBeyond 29 = .ok (.iaload, 1) := by decide +kernel
theorem dX1_isBeyond_30 : decode cX1_isBeyond 30 = .ok (.if_icmp .le 7, 3) := by decide +kernel
theorem dX1_isBeyond_33 : decode cX1_isBeyond 33 = .ok (.iconst 1, 1) := by decide +kernel
theorem dX1_isBeyond_34 : decode cX1_isBeyond 34 = .ok (.goto 4, 3) := by decide +kernel
theorem dX1_isBeyond_37 : decode cX1_isBeyond 37 = .ok (.iconst 0, 1) := by decide +kernel
theorem dX1_isBeyond_38 : decode cX1_isBeyond 38 = .ok (.ireturn, 1) := by decide +kernel
theorem dX1_append_0 : decode cX1_append 0 = .ok (.aload_n 0, 1) := by decide +kernel
theorem dX1_append_1 : decode cX1_append 1 = .ok (.getfield 15, 3) := by decide +kernel
theorem dX1_append_4 : decode cX1_append 4 = .ok (.bipush 24, 2) := by decide +kernel
theorem dX1_append_6 : decode cX1_append 6 = .ok (.if_icmp .lt 5, 3) := by decide +kernel
theorem dX1_append_9 : decode cX1_append 9 = .ok (.iconst 0, 1) := by decide +kernel
theorem dX1_append_10 : decode cX1_append 10 = .ok (.ireturn, 1) := by decide +kernel
theorem dX1_append_11 : decode cX1_append 11 = .ok (.aload_n 0, 1) := by decide +kernel
theorem dX1_append_12 : decode cX1_append 12 = .ok (.getfield 11, 3) := by decide +kernel
theorem dX1_append_15 : decode cX1_append 15 = .ok (.aload_n 0, 1) := by decide +kernel
theorem dX1_append_16 : decode cX1_append 16 = .ok (.getfield 15, 3) := by decide +kernel
theorem dX1_append_19 : decode cX1_append 19 = .ok (.iload_n 1, 1) := by decide +kernel
theorem dX1_append_20 : decode cX1_append 20 = .ok (.iastore, 1) := by decide +kernel
theorem dX1_append_21 : decode cX1_append 21 = .ok (.aload_n 0, 1) := by decide +kernel
theorem dX1_append_22 : decode cX1_append 22 = .ok (.dup, 1) := by decide +kernel
theorem dX1_append_23 : decode cX1_append 23 = .ok (.getfield 15, 3) := by decide +kernel
theorem dX1_append_26 : decode cX1_append 26 = .ok (.iconst 1, 1) := by decide +kernel
theorem dX1_append_27 : decode cX1_append 27 = .ok (.iadd, 1) := by decide +kernel
theorem dX1_append_28 : decode cX1_append 28 = .ok (.putfield 15, 3) := by decide +kernel
theorem dX1_append_31 : decode cX1_append 31 = .ok (.iconst 1, 1) := by decide +kernel
theorem dX1_append_32 : decode cX1_append 32 = .ok (.ireturn, 1) := by decide +kernel
theorem dX1_clear_0 : decode cX1_clear 0 = .ok (.aload_n 0, 1) := by decide +kernel
theorem dX1_clear_1 : decode cX1_clear 1 = .ok (.getfield 15, 3) := by decide +kernel
theorem dX1_clear_4 : decode cX1_clear 4 = .ok (.istore_n 1, 1) := by decide +kernel
theorem dX1_clear_5 : decode cX1_clear 5 = .ok (.aload_n 0, 1) := by decide +kernel
theorem dX1_clear_6 : decode cX1_clear 6 = .ok (.iconst 0, 1) := by decide +kernel
theorem dX1_clear_7 : decode cX1_clear 7 = .ok (.putfield 15, 3) := by decide +kernel
theorem dX1_clear_10 : decode cX1_clear 10 = .ok (.iload_n 1, 1) := by decide +kernel
theorem dX1_clear_11 : decode cX1_clear 11 = .ok (.ireturn, 1) := by decide +kernel
theorem dX1_slipsBy_0 : decode cX1_slipsBy 0 = .ok (.iconst 0, 1) := by decide +kernel
theorem dX1_slipsBy_1 : decode cX1_slipsBy 1 = .ok (.istore_n 2, 1) := by decide +kernel
theorem dX1_slipsBy_2 : decode cX1_slipsBy 2 = .ok (.iconst 0, 1) := by decide +kernel
theorem dX1_slipsBy_3 : decode cX1_slipsBy 3 = .ok (.istore_n 3, 1) := by decide +kernel
theorem dX1_slipsBy_4 : decode cX1_slipsBy 4 = .ok (.iload_n 3, 1) := by decide +kernel
theorem dX1_slipsBy_5 : decode cX1_slipsBy 5 = .ok (.iconst 1, 1) := by decide +kernel
theorem dX1_slipsBy_6 : decode cX1_slipsBy 6 = .ok (.iadd, 1) := by decide +kernel
theorem dX1_slipsBy_7 : decode cX1_slipsBy 7 = .ok (.aload_n 0, 1) := by decide +kernel
theorem dX1_slipsBy_8 : decode cX1_slipsBy 8 = .ok (.getfield 15, 3) := by decide +kernel
theorem dX1_slipsBy_11 : decode cX1_slipsBy 11 = .ok (.if_icmp .ge 31, 3) := by decide +kernel
theorem dX1_slipsBy_14 : decode cX1_slipsBy 14 = .ok (.aload_n 0, 1) := by decide +kernel
theorem dX1_slipsBy_15 : decode cX1_slipsBy 15 = .ok (.getfield 11, 3) := by decide +kernel
theorem dX1_slipsBy_18 : decode cX1_slipsBy 18 = .ok (.iload_n 3, 1) := by decide +kernel
theorem dX1_slipsBy_19 : decode cX1_slipsBy 19 = .ok (.iconst 1, 1) := by decide +kernel
theorem dX1_slipsBy_20 : decode cX1_slipsBy 20 = .ok (.iadd, 1) := by decide +kernel
theorem dX1_slipsBy_21 : decode cX1_slipsBy 21 = .ok (.iaload, 1) := by decide +kernel
theorem dX1_slipsBy_22 : decode cX1_slipsBy 22 = .ok (.aload_n 0, 1) := by decide +kernel
theorem dX1_slipsBy_23 : decode cX1_slipsBy 23 = .ok (.getfield 11, 3) := by decide +kernel
theorem dX1_slipsBy_26 : decode cX1_slipsBy 26 = .ok (.iload_n 3, 1) := by decide +kernel
theorem dX1_slipsBy_27 : decode cX1_slipsBy 27 = .ok (.iaload, 1) := by decide +kernel
theorem dX1_slipsBy_28 : decode cX1_slipsBy 28 = .ok (.isub, 1) := by decide +kernel
theorem dX1_slipsBy_29 : decode cX1_slipsBy 29 = .ok (.iload_n 1, 1) := by decide +kernel
theorem dX1_slipsBy_30 : decode cX1_slipsBy 30 = .ok (.if_icmp .eq 6, 3) := by decide +kernel
theorem dX1_slipsBy_33 : decode cX1_slipsBy 33 = .ok (.iinc 2 1, 3) := by decide +kernel
theorem dX1_slipsBy_36 : decode cX1_slipsBy 36 = .ok (.iinc 3 1, 3) := by decide +kernel
theorem dX1_slipsBy_39 : decode cX1_slipsBy 39 = .ok (.goto (-35), 3) := by decide +kernel
theorem dX1_slipsBy_42 : decode cX1_slipsBy 42 = .ok (.iload_n 2, 1) := by decide +kernel
theorem dX1_slipsBy_43 : decode cX1_slipsBy 43 = .ok (.ireturn, 1) := by decide +kernel
theorem dX1_firstSlipBy_0 : decode cX1_firstSlipBy 0 = .ok (.iconst 0, 1) := by decide +kernel
theorem dX1_firstSlipBy_1 : decode cX1_firstSlipBy 1 = .ok (.istore_n 2, 1) := by decide +kernel
theorem dX1_firstSlipBy_2 : decode cX1_firstSlipBy 2 = .ok (.iload_n 2, 1) := by decide +kernel
theorem dX1_firstSlipBy_3 : decode cX1_firstSlipBy 3 = .ok (.iconst 1, 1) := by decide +kernel
theorem dX1_firstSlipBy_4 : decode cX1_firstSlipBy 4 = .ok (.iadd, 1) := by decide +kernel
theorem dX1_firstSlipBy_5 : decode cX1_firstSlipBy 5 = .ok (.aload_n 0, 1) := by decide +kernel
theorem dX1_firstSlipBy_6 : decode cX1_firstSlipBy 6 = .ok (.getfield 15, 3) := by decide +kernel
theorem dX1_firstSlipBy_9 : decode cX1_firstSlipBy 9 = .ok (.if_icmp .ge 30, 3) := by decide +kernel
theorem dX1_firstSlipBy_12 : decode cX1_firstSlipBy 12 = .ok (.aload_n 0, 1) := by decide +kernel
theorem dX1_firstSlipBy_13 : decode cX1_firstSlipBy 13 = .ok (.getfield 11, 3) := by decide +kernel
theorem dX1_firstSlipBy_16 : decode cX1_firstSlipBy 16 = .ok (.iload_n 2, 1) := by decide +kernel
theorem dX1_firstSlipBy_17 : decode cX1_firstSlipBy 17 = .ok (.iconst 1, 1) := by decide +kernel
theorem dX1_firstSlipBy_18 : decode cX1_firstSlipBy 18 = .ok (.iadd, 1) := by decide +kernel
theorem dX1_firstSlipBy_19 : decode cX1_firstSlipBy 19 = .ok (.iaload, 1) := by decide +kernel
theorem dX1_firstSlipBy_20 : decode cX1_firstSlipBy 20 = .ok (.aload_n 0, 1) := by decide +kernel
theorem dX1_firstSlipBy_21 : decode cX1_firstSlipBy 21 = .ok (.getfield 11, 3) := by decide +kernel
theorem dX1_firstSlipBy_24 : decode cX1_firstSlipBy 24 = .ok (.iload_n 2, 1) := by decide +kernel
theorem dX1_firstSlipBy_25 : decode cX1_firstSlipBy 25 = .ok (.iaload, 1) := by decide +kernel
theorem dX1_firstSlipBy_26 : decode cX1_firstSlipBy 26 = .ok (.isub, 1) := by decide +kernel
theorem dX1_firstSlipBy_27 : decode cX1_firstSlipBy 27 = .ok (.iload_n 1, 1) := by decide +kernel
theorem dX1_firstSlipBy_28 : decode cX1_firstSlipBy 28 = .ok (.if_icmp .eq 5, 3) := by decide +kernel
theorem dX1_firstSlipBy_31 : decode cX1_firstSlipBy 31 = .ok (.iload_n 2, 1) := by decide +kernel
theorem dX1_firstSlipBy_32 : decode cX1_firstSlipBy 32 = .ok (.ireturn, 1) := by decide +kernel
theorem dX1_firstSlipBy_33 : decode cX1_firstSlipBy 33 = .ok (.iinc 2 1, 3) := by decide +kernel
theorem dX1_firstSlipBy_36 : decode cX1_firstSlipBy 36 = .ok (.goto (-34), 3) := by decide +kernel
theorem dX1_firstSlipBy_39 : decode cX1_firstSlipBy 39 = .ok (.bipush (-4), 2) := by decide +kernel
theorem dX1_firstSlipBy_41 : decode cX1_firstSlipBy 41 = .ok (.ireturn, 1) := by decide +kernel
theorem dX1_driftBy_0 : decode cX1_driftBy 0 = .ok (.aload_n 0, 1) := by decide +kernel
theorem dX1_driftBy_1 : decode cX1_driftBy 1 = .ok (.getfield 15, 3) := by decide +kernel
theorem dX1_driftBy_4 : decode cX1_driftBy 4 = .ok (.iconst 1, 1) := by decide +kernel
theorem dX1_driftBy_5 : decode cX1_driftBy 5 = .ok (.if_icmp .ge 7, 3) := by decide +kernel
theorem dX1_driftBy_8 : decode cX1_driftBy 8 = .ok (.iconst 0, 1) := by decide +kernel
theorem dX1_driftBy_9 : decode cX1_driftBy 9 = .ok (.goto 30, 3) := by decide +kernel
theorem dX1_driftBy_12 : decode cX1_driftBy 12 = .ok (.aload_n 0, 1) := by decide +kernel
theorem dX1_driftBy_13 : decode cX1_driftBy 13 = .ok (.getfield 11, 3) := by decide +kernel
theorem dX1_driftBy_16 : decode cX1_driftBy 16 = .ok (.aload_n 0, 1) := by decide +kernel
theorem dX1_driftBy_17 : decode cX1_driftBy 17 = .ok (.getfield 15, 3) := by decide +kernel
theorem dX1_driftBy_20 : decode cX1_driftBy 20 = .ok (.iconst 1, 1) := by decide +kernel
theorem dX1_driftBy_21 : decode cX1_driftBy 21 = .ok (.isub, 1) := by decide +kernel
theorem dX1_driftBy_22 : decode cX1_driftBy 22 = .ok (.iaload, 1) := by decide +kernel
theorem dX1_driftBy_23 : decode cX1_driftBy 23 = .ok (.aload_n 0, 1) := by decide +kernel
theorem dX1_driftBy_24 : decode cX1_driftBy 24 = .ok (.getfield 11, 3) := by decide +kernel
theorem dX1_driftBy_27 : decode cX1_driftBy 27 = .ok (.iconst 0, 1) := by decide +kernel
theorem dX1_driftBy_28 : decode cX1_driftBy 28 = .ok (.iaload, 1) := by decide +kernel
theorem dX1_driftBy_29 : decode cX1_driftBy 29 = .ok (.isub, 1) := by decide +kernel
theorem dX1_driftBy_30 : decode cX1_driftBy 30 = .ok (.iload_n 1, 1) := by decide +kernel
theorem dX1_driftBy_31 : decode cX1_driftBy 31 = .ok (.aload_n 0, 1) := by decide +kernel
theorem dX1_driftBy_32 : decode cX1_driftBy 32 = .ok (.getfield 15, 3) := by decide +kernel
theorem dX1_driftBy_35 : decode cX1_driftBy 35 = .ok (.iconst 1, 1) := by decide +kernel
theorem dX1_driftBy_36 : decode cX1_driftBy 36 = .ok (.isub, 1) := by decide +kernel
theorem dX1_driftBy_37 : decode cX1_driftBy 37 = .ok (.imul, 1) := by decide +kernel
theorem dX1_driftBy_38 : decode cX1_driftBy 38 = .ok (.isub, 1) := by decide +kernel
theorem dX1_driftBy_39 : decode cX1_driftBy 39 = .ok (.ireturn, 1) := by decide +kernel
theorem dX1_bestLength_0 : decode cX1_bestLength 0 = .ok (.iconst 1, 1) := by decide +kernel
theorem dX1_bestLength_1 : decode cX1_bestLength 1 = .ok (.istore_n 1, 1) := by decide +kernel
theorem dX1_bestLength_2 : decode cX1_bestLength 2 = .ok (.aload_n 0, 1) := by decide +kernel
theorem dX1_bestLength_3 : decode cX1_bestLength 3 = .ok (.iconst 1, 1) := by decide +kernel
theorem dX1_bestLength_4 : decode cX1_bestLength 4 = .ok (.invokevirtual 23, 3) := by decide +kernel
theorem dX1_bestLength_7 : decode cX1_bestLength 7 = .ok (.istore_n 2, 1) := by decide +kernel
theorem dX1_bestLength_8 : decode cX1_bestLength 8 = .ok (.iconst 2, 1) := by decide +kernel
theorem dX1_bestLength_9 : decode cX1_bestLength 9 = .ok (.istore_n 3, 1) := by decide +kernel
theorem dX1_bestLength_10 : decode cX1_bestLength 10 = .ok (.iload_n 3, 1) := by decide +kernel
theorem dX1_bestLength_11 : decode cX1_bestLength 11 = .ok (.bipush 99, 2) := by decide +kernel
theorem dX1_bestLength_13 : decode cX1_bestLength 13 = .ok (.if_icmp .gt 27, 3) := by decide +kernel
theorem dX1_bestLength_16 : decode cX1_bestLength 16 = .ok (.aload_n 0, 1) := by decide +kernel
theorem dX1_bestLength_17 : decode cX1_bestLength 17 = .ok (.iload_n 3, 1) := by decide +kernel
theorem dX1_bestLength_18 : decode cX1_bestLength 18 = .ok (.invokevirtual 23, 3) := by decide +kernel
theorem dX1_bestLength_21 : decode cX1_bestLength 21 = .ok (.istore 4, 2) := by decide +kernel
theorem dX1_bestLength_23 : decode cX1_bestLength 23 = .ok (.iload 4, 2) := by decide +kernel
theorem dX1_bestLength_25 : decode cX1_bestLength 25 = .ok (.iload_n 2, 1) := by decide +kernel
theorem dX1_bestLength_26 : decode cX1_bestLength 26 = .ok (.if_icmp .ge 8, 3) := by decide +kernel
theorem dX1_bestLength_29 : decode cX1_bestLength 29 = .ok (.iload_n 3, 1) := by decide +kernel
theorem dX1_bestLength_30 : decode cX1_bestLength 30 = .ok (.istore_n 1, 1) := by decide +kernel
theorem dX1_bestLength_31 : decode cX1_bestLength 31 = .ok (.iload 4, 2) := by decide +kernel
theorem dX1_bestLength_33 : decode cX1_bestLength 33 = .ok (.istore_n 2, 1) := by decide +kernel
theorem dX1_bestLength_34 : decode cX1_bestLength 34 = .ok (.iinc 3 1, 3) := by decide +kernel
theorem dX1_bestLength_37 : decode cX1_bestLength 37 = .ok (.goto (-27), 3) := by decide +kernel
theorem dX1_bestLength_40 : decode cX1_bestLength 40 = .ok (.iload_n 1, 1) := by decide +kernel
theorem dX1_bestLength_41 : decode cX1_bestLength 41 = .ok (.ireturn, 1) := by decide +kernel
theorem dX2_init_0 : decode cX2_init 0 = .ok (.aload_n 0, 1) := by decide +kernel
theorem dX2_init_1 : decode cX2_init 1 = .ok (.invokespecial 3, 3) := by decide +kernel
theorem dX2_init_4 : decode cX2_init 4 = .ok (.aload_n 0, 1) := by decide +kernel
theorem dX2_init_5 : decode cX2_init 5 = .ok (.bipush 64, 2) := by decide +kernel
theorem dX2_init_7 : decode cX2_init 7 = .ok (.newarray .int, 2) := by decide +kernel
theorem dX2_init_9 : decode cX2_init 9 = .ok (.putfield 9, 3) := by decide +kernel
theorem dX2_init_12 : decode cX2_init 12 = .ok (.aload_n 0, 1) := by decide +kernel
theorem dX2_init_13 : decode cX2_init 13 = .ok (.bipush 6, 2) := by decide +kernel
theorem dX2_init_15 : decode cX2_init 15 = .ok (.newarray .long, 2) := by decide +kernel
theorem dX2_init_17 : decode cX2_init 17 = .ok (.putfield 15, 3) := by decide +kernel
theorem dX2_init_20 : decode cX2_init 20 = .ok (.aload_n 0, 1) := by decide +kernel
theorem dX2_init_21 : decode cX2_init 21 = .ok (.sipush 512, 3) := by decide +kernel
theorem dX2_init_24 : decode cX2_init 24 = .ok (.newarray .int, 2) := by decide +kernel
theorem dX2_init_26 : decode cX2_init 26 = .ok (.putfield 19, 3) := by decide +kernel
theorem dX2_init_29 : decode cX2_init 29 = .ok (.aload_n 0, 1) := by decide +kernel
theorem dX2_init_30 : decode cX2_init 30 = .ok (.bipush 64, 2) := by decide +kernel
theorem dX2_init_32 : decode cX2_init 32 = .ok (.newarray .int, 2) := by decide +kernel
theorem dX2_init_34 : decode cX2_init 34 = .ok (.putfield 22, 3) := by decide +kernel
theorem dX2_init_37 : decode cX2_init 37 = .ok (.aload_n 0, 1) := by decide +kernel
theorem dX2_init_38 : decode cX2_init 38 = .ok (.getfield 9, 3) := by decide +kernel
theorem dX2_init_41 : decode cX2_init 41 = .ok (.iconst (-1), 1) := by decide +kernel
theorem dX2_init_42 : decode cX2_init 42 = .ok (.invokestatic 25, 3) := by decide +kernel
theorem dX2_init_45 : decode cX2_init 45 = .ok (.iconst 0, 1) := by decide +kernel
theorem dX2_init_46 : decode cX2_init 46 = .ok (.istore_n 1, 1) := by decide +kernel
theorem dX2_init_47 : decode cX2_init 47 = .ok (.iload_n 1, 1) := by decide +kernel
theorem dX2_init_48 : decode cX2_init 48 = .ok (.bipush 8, 2) := by decide +kernel
theorem dX2_init_50 : decode cX2_init 50 = .ok (.if_icmp .ge 50, 3) := by decide +kernel
theorem dX2_init_53 : decode cX2_init 53 = .ok (.iconst 0, 1) := by decide +kernel
theorem dX2_init_54 : decode cX2_init 54 = .ok (.istore_n 2, 1) := by decide +kernel
theorem dX2_init_55 : decode cX2_init 55 = .ok (.iload_n 2, 1) := by decide +kernel
theorem dX2_init_56 : decode cX2_init 56 = .ok (.bipush 64, 2) := by decide +kernel
theorem dX2_init_58 : decode cX2_init 58 = .ok (.if_icmp .ge 36, 3) := by decide +kernel
theorem dX2_init_61 : decode cX2_init 61 = .ok (.iload_n 1, 1) := by decide +kernel
theorem dX2_init_62 : decode cX2_init 62 = .ok (.iload_n 2, 1) := by decide +kernel
theorem dX2_init_63 : decode cX2_init 63 = .ok (.bipush 8, 2) := by decide +kernel
theorem dX2_init_65 : decode cX2_init 65 = .ok (.invokestatic 31, 3) := by decide +kernel
theorem dX2_init_68 : decode cX2_init 68 = .ok (.istore_n 3, 1) := by decide +kernel
theorem dX2_init_69 : decode cX2_init 69 = .ok (.iload_n 3, 1) := by decide +kernel
theorem dX2_init_70 : decode cX2_init 70 = .ok (.invokestatic 35, 3) := by decide +kernel
theorem dX2_init_73 : decode cX2_init 73 = .ok (.ifCond .eq 15, 3) := by decide +kernel
theorem dX2_init_76 : decode cX2_init 76 = .ok (.aload_n 0, 1) := by decide +kernel
theorem dX2_init_77 : decode cX2_init 77 = .ok (.getfield 19, 3) := by decide +kernel
theorem dX2_init_80 : decode cX2_init 80 = .ok (.iload_n 1, 1) := by decide +kernel
theorem dX2_init_81 : decode cX2_init 81 = .ok (.bipush 64, 2) := by decide +kernel
theorem dX2_init_83 : decode cX2_init 83 = .ok (.imul, 1) := by decide +kernel
theorem dX2_init_84 : decode cX2_init 84 = .ok (.iload_n 3, 1) := by decide +kernel
theorem dX2_init_85 : decode cX2_init 85 = .ok (.iadd, 1) := by decide +kernel
theorem dX2_init_86 : decode cX2_init 86 = .ok (.iload_n 2, 1) := by decide +kernel
theorem dX2_init_87 : decode cX2_init 87 = .ok (.iastore, 1) := by decide +kernel
theorem dX2_init_88 : decode cX2_init 88 = .ok (.iinc 2 1, 3) := by decide +kernel
theorem dX2_init_91 : decode cX2_init 91 = .ok (.goto (-36), 3) := by decide +kernel
theorem dX2_init_94 : decode cX2_init 94 = .ok (.iinc 1 1, 3) := by decide +kernel
theorem dX2_init_97 : decode cX2_init 97 = .ok (.goto (-50), 3) := by decide +kernel
theorem dX2_init_100 : decode cX2_init 100 = .ok (.return_, 1) := by decide +kernel
theorem dX2_colourAt_0 : decode cX2_colourAt 0 = .ok (.iload_n 1, 1) := by decide +kernel
theorem dX2_colourAt_1 : decode cX2_colourAt 1 = .ok (.invokestatic 35, 3) := by decide +kernel
theorem dX2_colourAt_4 : decode cX2_colourAt 4 = .ok (.ifCond .eq 12, 3) := by decide +kernel
theorem dX2_colourAt_7 : decode cX2_colourAt 7 = .ok (.aload_n 0, 1) := by decide +kernel
theorem dX2_colourAt_8 : decode cX2_colourAt 8 = .ok (.getfield 9, 3) := by decide +kernel
theorem dX2_colourAt_11 : decode cX2_colourAt 11 = .ok (.iload_n 1, 1) := by decide +kernel
theorem dX2_colourAt_12 : decode cX2_colourAt 12 = .ok (.iaload, 1) := by decide +kernel
theorem dX2_colourAt_13 : decode cX2_colourAt 13 = .ok (.goto 4, 3) := by decide +kernel
theorem dX2_colourAt_16 : decode cX2_colourAt 16 = .ok (.iconst (-1), 1) := by decide +kernel
theorem dX2_colourAt_17 : decode cX2_colourAt 17 = .ok (.ireturn, 1) := by decide +kernel
theorem dX2_plane_0 : decode cX2_plane 0 = .ok (.iload_n 1, 1) := by decide +kernel
theorem dX2_plane_1 : decode cX2_plane 1 = .ok (.ifCond .lt 18, 3) := by decide +kernel
theorem dX2_plane_4 : decode cX2_plane 4 = .ok (.iload_n 1, 1) := by decide +kernel
theorem dX2_plane_5 : decode cX2_plane 5 = .ok (.bipush 6, 2) := by decide +kernel
theorem dX2_plane_7 : decode cX2_plane 7 = .ok (.if_icmp .ge 12, 3) := by decide +kernel
theorem dX2_plane_10 : decode cX2_plane 10 = .ok (.aload_n 0, 1) := by decide +kernel
theorem dX2_plane_11 : decode cX2_plane 11 = .ok (.getfield 15, 3) := by decide +kernel
theorem dX2_plane_14 : decode cX2_plane 14 = .ok (.iload_n 1, 1) := by decide +kernel
theorem dX2_plane_15 : decode cX2_plane 15 = .ok (.laload, 1) := by decide +kernel
theorem dX2_plane_16 : decode cX2_plane 16 = .ok (.goto 4, 3) := by decide +kernel
theorem dX2_plane_19 : decode cX2_plane 19 = .ok (.lconst 0, 1) := by decide +kernel
theorem dX2_plane_20 : decode cX2_plane 20 = .ok (.lreturn, 1) := by decide +kernel
theorem dX2_changes_0 : decode cX2_changes 0 = .ok (.aload_n 0, 1) := by decide +kernel
theorem dX2_changes_1 : decode cX2_changes 1 = .ok (.getfield 39, 3) := by decide +kernel
theorem dX2_changes_4 : decode cX2_changes 4 = .ok (.ireturn, 1) := by decide +kernel
theorem dX2_lostCells_0 : decode cX2_lostCells 0 = .ok (.aload_n 0, 1) := by decide +kernel
theorem dX2_lostCells_1 : decode cX2_lostCells 1 = .ok (.getfield 43, 3) := by decide +kernel
theorem dX2_lostCells_4 : decode cX2_lostCells 4 = .ok (.ldc2_w 47, 3) := by decide +kernel
theorem dX2_lostCells_7 : decode cX2_lostCells 7 = .ok (.lxor, 1) := by decide +kernel
theorem dX2_lostCells_8 : decode cX2_lostCells 8 = .ok (.lreturn, 1) := by decide +kernel
theorem dX2_change_0 : decode cX2_change 0 = .ok (.iload_n 1, 1) := by decide +kernel
theorem dX2_change_1 : decode cX2_change 1 = .ok (.invokestatic 35, 3) := by decide +kernel
theorem dX2_change_4 : decode cX2_change 4 = .ok (.ifCond .eq 12, 3) := by decide +kernel
theorem dX2_change_7 : decode cX2_change 7 = .ok (.iload_n 2, 1) := by decide +kernel
theorem dX2_change_8 : decode cX2_change 8 = .ok (.iconst (-1), 1) := by decide +kernel
theorem dX2_change_9 : decode cX2_change 9 = .ok (.iconst 5, 1) := by decide +kernel
theorem dX2_change_10 : decode cX2_change 10 = .ok (.invokestatic 49, 3) := by decide +kernel
theorem dX2_change_13 : decode cX2_change 13 = .ok (.ifCond .ne 4, 3) := by decide +kernel
theorem dX2_change_16 : decode cX2_change 16 = .ok (.return_, 1) := by decide +kernel
theorem dX2_change_17 : decode cX2_change 17 = .ok (.lconst 1, 1) := by decide +kernel
theorem dX2_change_18 : decode cX2_change 18 = .ok (.iload_n 1, 1) := by decide +kernel
theorem dX2_change_19 : decode cX2_change 19 = .ok (.lshl, 1) := by decide +kernel
theorem dX2_change_20 : decode cX2_change 20 = .ok (.lstore_n 3, 1) := by decide +kernel
theorem dX2_change_21 : decode cX2_change 21 = .ok (.aload_n 0, 1) := by decide +kernel
theorem dX2_change_22 : decode cX2_change 22 = .ok (.getfield 9, 3) := by decide +kernel
theorem dX2_change_25 : decode cX2_change 25 = .ok (.iload_n 1, 1) := by decide +kernel
theorem dX2_change_26 : decode cX2_change 26 = .ok (.iaload, 1) := by decide +kernel
theorem dX2_change_27 : decode cX2_change 27 = .ok (.istore 5, 2) := by decide +kernel
theorem dX2_change_29 : decode cX2_change 29 = .ok (.iload 5, 2) := by decide +kernel
theorem dX2_change_31 : decode cX2_change 31 = .ok (.iconst 0, 1) := by decide +kernel
theorem dX2_change_32 : decode cX2_change 32 = .ok (.iconst 5, 1) := by decide +kernel
theorem dX2_change_33 : decode cX2_change 33 = .ok (.invokestatic 49, 3) := by decide +kernel
theorem dX2_change_36 : decode cX2_change 36 = .ok (.ifCond .eq 32, 3) := by decide +kernel
theorem dX2_change_39 : decode cX2_change 39 = .ok (.aload_n 0, 1) := by decide +kernel
theorem dX2_change_40 : decode cX2_change 40 = .ok (.getfield 15, 3) := by decide +kernel
theorem dX2_change_43 : decode cX2_change 43 = .ok (.iload 5, 2) := by decide +kernel
theorem dX2_change_45 : decode cX2_change 45 = .ok (.dup2, 1) := by decide +kernel
theorem dX2_change_46 : decode cX2_change 46 = .ok (.laload, 1) := by decide +kernel
theorem dX2_change_47 : decode cX2_change 47 = .ok (.lload_n 3, 1) := by decide +kernel
theorem dX2_change_48 : decode cX2_change 48 = .ok (.ldc2_w 47, 3) := by decide +kernel
theorem dX2_change_51 : decode cX2_change 51 = .ok (.lxor, 1) := by decide +kernel
theorem dX2_change_52 : decode cX2_change 52 = .ok (.land, 1) := by decide +kernel
theorem dX2_change_53 : decode cX2_change 53 = .ok (.lastore, 1) := by decide +kernel
theorem dX2_change_54 : decode cX2_change 54 = .ok (.aload_n 0, 1) := by decide +kernel
theorem dX2_change_55 : decode cX2_change 55 = .ok (.dup, 1) := by decide +kernel
theorem dX2_change_56 : decode cX2_change 56 = .ok (.getfield 43, 3) := by decide +kernel
theorem dX2_change_59 : decode cX2_change 59 = .ok (.lload_n 3, 1) := by decide +kernel
theorem dX2_change_60 : decode cX2_change 60 = .ok (.ldc2_w 47, 3) := by decide +kernel
theorem dX2_change_63 : decode cX2_change 63 = .ok (.lxor, 1) := by decide +kernel
theorem dX2_change_64 : decode cX2_change 64 = .ok (.land, 1) := by decide +kernel
theorem dX2_change_65 : decode cX2_change 65 = .ok (.putfield 43, 3) := by decide +kernel
theorem dX2_change_68 : decode cX2_change 68 = .ok (.iload_n 2, 1) := by decide +kernel
theorem dX2_change_69 : decode cX2_change 69 = .ok (.iconst (-1), 1) := by decide +kernel
theorem dX2_change_70 : decode cX2_change 70 = .ok (.if_icmp .eq 23, 3) := by decide +kernel
theorem dX2_change_73 : decode cX2_change 73 = .ok (.aload_n 0, 1) := by decide +kernel
theorem dX2_change_74 : decode cX2_change 74 = .ok (.getfield 15, 3) := by decide +kernel
theorem dX2_change_77 : decode cX2_change 77 = .ok (.iload_n 2, 1) := by decide +kernel
theorem dX2_change_78 : decode cX2_change 78 = .ok (.dup2, 1) := by decide +kernel
theorem dX2_change_79 : decode cX2_change 79 = .ok (.laload, 1) := by decide +kernel
theorem dX2_change_80 : decode cX2_change 80 = .ok (.lload_n 3, 1) := by decide +kernel
theorem dX2_change_81 : decode cX2_change 81 = .ok (.lor, 1) := by decide +kernel
theorem dX2_change_82 : decode cX2_change 82 = .ok (.lastore, 1) := by decide +kernel
theorem dX2_change_83 : decode cX2_change 83 = .ok (.aload_n 0, 1) := by decide +kernel
theorem dX2_change_84 : decode cX2_change 84 = .ok (.dup, 1) := by decide +kernel
theorem dX2_change_85 : decode cX2_change 85 = .ok (.getfield 43, 3) := by decide +kernel
theorem dX2_change_88 : decode cX2_change 88 = .ok (.lload_n 3, 1) := by decide +kernel
theorem dX2_change_89 : decode cX2_change 89 = .ok (.lor, 1) := by decide +kernel
theorem dX2_change_90 : decode cX2_change 90 = .ok (.putfield 43, 3) := by decide +kernel
theorem dX2_change_93 : decode cX2_change 93 = .ok (.aload_n 0, 1) := by decide +kernel
theorem dX2_change_94 : decode cX2_change 94 = .ok (.getfield 9, 3) := by decide +kernel
theorem dX2_change_97 : decode cX2_change 97 = .ok (.iload_n 1, 1) := by decide +kernel
theorem dX2_change_98 : decode cX2_change 98 = .ok (.iload_n 2, 1) := by decide +kernel
theorem dX2_change_99 : decode cX2_change 99 = .ok (.iastore, 1) := by decide +kernel
theorem dX2_change_100 : decode cX2_change 100 = .ok (.aload_n 0, 1) := by decide +kernel
theorem dX2_change_101 : decode cX2_change 101 = .ok (.dup, 1) := by decide +kernel
theorem dX2_change_102 : decode cX2_change 102 = .ok (.getfield 53, 3) := by decide +kernel
theorem dX2_change_105 : decode cX2_change 105 = .ok (.lload_n 3, 1) := by decide +kernel
theorem dX2_change_106 : decode cX2_change 106 = .ok (.ldc2_w 47, 3) := by decide +kernel
theorem dX2_change_109 : decode cX2_change 109 = .ok (.lxor, 1) := by decide +kernel
theorem dX2_change_110 : decode cX2_change 110 = .ok (.land, 1) := by decide +kernel
theorem dX2_change_111 : decode cX2_change 111 = .ok (.putfield 53, 3) := by decide +kernel
theorem dX2_change_114 : decode cX2_change 114 = .ok (.aload_n 0, 1) := by decide +kernel
theorem dX2_change_115 : decode cX2_change 115 = .ok (.dup, 1) := by decide +kernel
theorem dX2_change_116 : decode cX2_change 116 = .ok (.getfield 39, 3) := by decide +kernel
theorem dX2_change_119 : decode cX2_change 119 = .ok (.iconst 1, 1) := by decide +kernel
theorem dX2_change_120 : decode cX2_change 120 = .ok (.iadd, 1) := by decide +kernel
theorem dX2_change_121 : decode cX2_change 121 = .ok (.putfield 39, 3) := by decide +kernel
theorem dX2_change_124 : decode cX2_change 124 = .ok (.return_, 1) := by decide +kernel
theorem dX2_noteFilled_0 : decode cX2_noteFilled 0 = .ok (.aload_n 0, 1) := by decide +kernel
theorem dX2_noteFilled_1 : decode cX2_noteFilled 1 = .ok (.lload_n 1, 1) := by decide +kernel
theorem dX2_noteFilled_2 : decode cX2_noteFilled 2 = .ok (.putfield 53, 3) := by decide +kernel
theorem dX2_noteFilled_5 : decode cX2_noteFilled 5 = .ok (.aload_n 0, 1) := by decide +kernel
theorem dX2_noteFilled_6 : decode cX2_noteFilled 6 = .ok (.iconst 1, 1) := by decide +kernel
theorem dX2_noteFilled_7 : decode cX2_noteFilled 7 = .ok (.putfield 56, 3) := by decide +kernel
theorem dX2_noteFilled_10 : decode cX2_noteFilled 10 = .ok (.return_, 1) := by decide +kernel
theorem dX2_canUndo_0 : decode cX2_canUndo 0 = .ok (.aload_n 0, 1) := by decide +kernel
theorem dX2_canUndo_1 : decode cX2_canUndo 1 = .ok (.getfield 56, 3) := by decide +kernel
theorem dX2_canUndo_4 : decode cX2_canUndo 4 = .ok (.ireturn, 1) := by decide +kernel
theorem dX2_unfill_0 : decode cX2_unfill 0 = .ok (.aload_n 0, 1) := by decide +kernel
theorem dX2_unfill_1 : decode cX2_unfill 1 = .ok (.getfield 53, 3) := by decide +kernel
theorem dX2_unfill_4 : decode cX2_unfill 4 = .ok (.lstore_n 1, 1) := by decide +kernel
theorem dX2_unfill_5 : decode cX2_unfill 5 = .ok (.iconst 0, 1) := by decide +kernel
theorem dX2_unfill_6 : decode cX2_unfill 6 = .ok (.istore_n 3, 1) := by decide +kernel
theorem dX2_unfill_7 : decode cX2_unfill 7 = .ok (.iload_n 3, 1) := by decide +kernel
theorem dX2_unfill_8 : decode cX2_unfill 8 = .ok (.bipush 64, 2) := by decide +kernel
theorem dX2_unfill_10 : decode cX2_unfill 10 = .ok (.if_icmp .ge 23, 3) := by decide +kernel
theorem dX2_unfill_13 : decode cX2_unfill 13 = .ok (.lload_n 1, 1) := by decide +kernel
theorem dX2_unfill_14 : decode cX2_unfill 14 = .ok (.iload_n 3, 1) := by decide +kernel
theorem dX2_unfill_15 : decode cX2_unfill 15 = .ok (.invokestatic 60, 3) := by decide +kernel
theorem dX2_unfill_18 : decode cX2_unfill 18 = .ok (.ifCond .eq 9, 3) := by decide +kernel
theorem dX2_unfill_21 : decode cX2_unfill 21 = .ok (.aload_n 0, 1) := by decide +kernel
theorem dX2_unfill_22 : decode cX2_unfill 22 = .ok (.iload_n 3, 1) := by decide +kernel
theorem dX2_unfill_23 : decode cX2_unfill 23 = .ok (.iconst (-1), 1) := by decide +kernel
theorem dX2_unfill_24 : decode cX2_unfill 24 = .ok (.invokevirtual 64, 3) := by decide +kernel
theorem dX2_unfill_27 : decode cX2_unfill 27 = .ok (.iinc 3 1, 3) := by decide +kernel
theorem dX2_unfill_30 : decode cX2_unfill 30 = .ok (.goto (-23), 3) := by decide +kernel
theorem dX2_unfill_33 : decode cX2_unfill 33 = .ok (.aload_n 0, 1) := by decide +kernel
theorem dX2_unfill_34 : decode cX2_unfill 34 = .ok (.iconst 0, 1) := by decide +kernel
theorem dX2_unfill_35 : decode cX2_unfill 35 = .ok (.putfield 56, 3) := by decide +kernel
theorem dX2_unfill_38 : decode cX2_unfill 38 = .ok (.lload_n 1, 1) := by decide +kernel
theorem dX2_unfill_39 : decode cX2_unfill 39 = .ok (.invokestatic 68, 3) := by decide +kernel
theorem dX2_unfill_42 : decode cX2_unfill 42 = .ok (.ireturn, 1) := by decide +kernel
theorem dX2_imageOf_0 : decode cX2_imageOf 0 = .ok (.iload_n 1, 1) := by decide +kernel
theorem dX2_imageOf_1 : decode cX2_imageOf 1 = .ok (.iconst 0, 1) := by decide +kernel
theorem dX2_imageOf_2 : decode cX2_imageOf 2 = .ok (.bipush 7, 2) := by decide +kernel
theorem dX2_imageOf_4 : decode cX2_imageOf 4 = .ok (.invokestatic 49, 3) := by decide +kernel
theorem dX2_imageOf_7 : decode cX2_imageOf 7 = .ok (.ifCond .eq 24, 3) := by decide +kernel
theorem dX2_imageOf_10 : decode cX2_imageOf 10 = .ok (.iload_n 2, 1) := by decide +kernel
theorem dX2_imageOf_11 : decode cX2_imageOf 11 = .ok (.invokestatic 35, 3) := by decide +kernel
theorem dX2_imageOf_14 : decode cX2_imageOf 14 = .ok (.ifCond .eq 17, 3) := by decide +kernel
theorem dX2_imageOf_17 : decode cX2_imageOf 17 = .ok (.aload_n 0, 1) := by decide +kernel
theorem dX2_imageOf_18 : decode cX2_imageOf 18 = .ok (.getfield 19, 3) := by decide +kernel
theorem dX2_imageOf_21 : decode cX2_imageOf 21 = .ok (.iload_n 1, 1) := by decide +kernel
theorem dX2_imageOf_22 : decode cX2_imageOf 22 = .ok (.bipush 64, 2) := by decide +kernel
theorem dX2_imageOf_24 : decode cX2_imageOf 24 = .ok (.imul, 1) := by decide +kernel
theorem dX2_imageOf_25 : decode cX2_imageOf 25 = .ok (.iload_n 2, 1) := by decide +kernel
theorem dX2_imageOf_26 : decode cX2_imageOf 26 = .ok (.iadd, 1) := by decide +kernel
theorem dX2_imageOf_27 : decode cX2_imageOf 27 = .ok (.iaload, 1) := by decide +kernel
theorem dX2_imageOf_28 : decode cX2_imageOf 28 = .ok (.goto 4, 3) := by decide +kernel
theorem dX2_imageOf_31 : decode cX2_imageOf 31 = .ok (.iload_n 2, 1) := by decide +kernel
theorem dX2_imageOf_32 : decode cX2_imageOf 32 = .ok (.ireturn, 1) := by decide +kernel
theorem dX2_holds_0 : decode cX2_holds 0 = .ok (.iconst 0, 1) := by decide +kernel
theorem dX2_holds_1 : decode cX2_holds 1 = .ok (.istore_n 2, 1) := by decide +kernel
theorem dX2_holds_2 : decode cX2_holds 2 = .ok (.iload_n 2, 1) := by decide +kernel
theorem dX2_holds_3 : decode cX2_holds 3 = .ok (.bipush 64, 2) := by decide +kernel
theorem dX2_holds_5 : decode cX2_holds 5 = .ok (.if_icmp .ge 46, 3) := by decide +kernel
theorem dX2_holds_8 : decode cX2_holds 8 = .ok (.aload_n 0, 1) := by decide +kernel
theorem dX2_holds_9 : decode cX2_holds 9 = .ok (.iload_n 2, 1) := by decide +kernel
theorem dX2_holds_10 : decode cX2_holds 10 = .ok (.invokevirtual 74, 3) := by decide +kernel
theorem dX2_holds_13 : decode cX2_holds 13 = .ok (.istore_n 3, 1) := by decide +kernel
theorem dX2_holds_14 : decode cX2_holds 14 = .ok (.aload_n 0, 1) := by decide +kernel
theorem dX2_holds_15 : decode cX2_holds 15 = .ok (.aload_n 0, 1) := by decide +kernel
theorem dX2_holds_16 : decode cX2_holds 16 = .ok (.iload_n 1, 1) := by decide +kernel
theorem dX2_holds_17 : decode cX2_holds 17 = .ok (.iload_n 2, 1) := by decide +kernel
theorem dX2_holds_18 : decode cX2_holds 18 = .ok (.invokevirtual 78, 3) := by decide +kernel
theorem dX2_holds_21 : decode cX2_holds 21 = .ok (.invokevirtual 74, 3) := by decide +kernel
theorem dX2_holds_24 : decode cX2_holds 24 = .ok (.istore 4, 2) := by decide +kernel
theorem dX2_holds_26 : decode cX2_holds 26 = .ok (.iload_n 3, 1) := by decide +kernel
theorem dX2_holds_27 : decode cX2_holds 27 = .ok (.iconst (-1), 1) := by decide +kernel
theorem dX2_holds_28 : decode cX2_holds 28 = .ok (.if_icmp .eq 17, 3) := by decide +kernel
theorem dX2_holds_31 : decode cX2_holds 31 = .ok (.iload 4, 2) := by decide +kernel
theorem dX2_holds_33 : decode cX2_holds 33 = .ok (.iconst (-1), 1) := by decide +kernel
theorem dX2_holds_34 : decode cX2_holds 34 = .ok (.if_icmp .eq 11, 3) := by decide +kernel
theorem dX2_holds_37 : decode cX2_holds 37 = .ok (.iload_n 3, 1) := by decide +kernel
theorem dX2_holds_38 : decode cX2_holds 38 = .ok (.iload 4, 2) := by decide +kernel
theorem dX2_holds_40 : decode cX2_holds 40 = .ok (.if_icmp .eq 5, 3) := by decide +kernel
theorem dX2_holds_43 : decode cX2_holds 43 = .ok (.iconst 0, 1) := by decide +kernel
theorem dX2_holds_44 : decode cX2_holds 44 = .ok (.ireturn, 1) := by decide +kernel
theorem dX2_holds_45 : decode cX2_holds 45 = .ok (.iinc 2 1, 3) := by decide +kernel
theorem dX2_holds_48 : decode cX2_holds 48 = .ok (.goto (-46), 3) := by decide +kernel
theorem dX2_holds_51 : decode cX2_holds 51 = .ok (.iconst 1, 1) := by decide +kernel
theorem dX2_holds_52 : decode cX2_holds 52 = .ok (.ireturn, 1) := by decide +kernel
theorem dX2_waysThatHold_0 : decode cX2_waysThatHold 0 = .ok (.iconst 0, 1) := by decide +kernel
theorem dX2_waysThatHold_1 : decode cX2_waysThatHold 1 = .ok (.istore_n 1, 1) := by decide +kernel
theorem dX2_waysThatHold_2 : decode cX2_waysThatHold 2 = .ok (.iconst 1, 1) := by decide +kernel
theorem dX2_waysThatHold_3 : decode cX2_waysThatHold 3 = .ok (.istore_n 2, 1) := by decide +kernel
theorem dX2_waysThatHold_4 : decode cX2_waysThatHold 4 = .ok (.iload_n 2, 1) := by decide +kernel
theorem dX2_waysThatHold_5 : decode cX2_waysThatHold 5 = .ok (.bipush 8, 2) := by decide +kernel
theorem dX2_waysThatHold_7 : decode cX2_waysThatHold 7 = .ok (.if_icmp .ge 23, 3) := by decide +kernel
theorem dX2_waysThatHold_10 : decode cX2_waysThatHold 10 = .ok (.aload_n 0, 1) := by decide +kernel
theorem dX2_waysThatHold_11 : decode cX2_waysThatHold 11 = .ok (.iload_n 2, 1) := by decide +kernel
theorem dX2_waysThatHold_12 : decode cX2_waysThatHold 12 = .ok (.invokevirtual 82, 3) := by decide +kernel
theorem dX2_waysThatHold_15 : decode cX2_waysThatHold 15 = .ok (.ifCond .eq 9, 3) := by decide +kernel
theorem dX2_waysThatHold_18 : decode cX2_waysThatHold 18 = .ok (.iload_n 1, 1) := by decide +kernel
theorem dX2_waysThatHold_19 : decode cX2_waysThatHold 19 = .ok (.iconst 1, 1) := by decide +kernel
theorem dX2_waysThatHold_20 : decode cX2_waysThatHold 20 = .ok (.iload_n 2, 1) := by decide +kernel
theorem dX2_waysThatHold_21 : decode cX2_waysThatHold 21 = .ok (.ishl, 1) := by decide +kernel
theorem dX2_waysThatHold_22 : decode cX2_waysThatHold 22 = .ok (.ior, 1) := by decide +kernel
theorem dX2_waysThatHold_23 : decode cX2_waysThatHold 23 = .ok (.istore_n 1, 1) := by decide +kernel
theorem dX2_waysThatHold_24 : decode cX2_waysThatHold 24 = .ok (.iinc 2 1, 3) := by decide +kernel
theorem dX2_waysThatHold_27 : decode cX2_waysThatHold 27 = .ok (.goto (-23), 3) := by decide +kernel
theorem dX2_waysThatHold_30 : decode cX2_waysThatHold 30 = .ok (.iload_n 1, 1) := by decide +kernel
theorem dX2_waysThatHold_31 : decode cX2_waysThatHold 31 = .ok (.ireturn, 1) := by decide +kernel
theorem dX2_mixPanels_0 : decode cX2_mixPanels 0 = .ok (.iconst 0, 1) := by decide +kernel
theorem dX2_mixPanels_1 : decode cX2_mixPanels 1 = .ok (.istore_n 3, 1) := by decide +kernel
theorem dX2_mixPanels_2 : decode cX2_mixPanels 2 = .ok (.iload_n 3, 1) := by decide +kernel
theorem dX2_mixPanels_3 : decode cX2_mixPanels 3 = .ok (.bipush 64, 2) := by decide +kernel
theorem dX2_mixPanels_5 : decode cX2_mixPanels 5 = .ok (.if_icmp .ge 21, 3) := by decide +kernel
theorem dX2_mixPanels_8 : decode cX2_mixPanels 8 = .ok (.aload_n 0, 1) := by decide +kernel
theorem dX2_mixPanels_9 : decode cX2_mixPanels 9 = .ok (.getfield 22, 3) := by decide +kernel
theorem dX2_mixPanels_12 : decode cX2_mixPanels 12 = .ok (.iload_n 3, 1) := by decide +kernel
theorem dX2_mixPanels_13 : decode cX2_mixPanels 13 = .ok (.aload_n 0, 1) := by decide +kernel
theorem dX2_mixPanels_14 : decode cX2_mixPanels 14 = .ok (.getfield 9, 3) := by decide +kernel
theorem dX2_mixPanels_17 : decode cX2_mixPanels 17 = .ok (.iload_n 3, 1) := by decide +kernel
theorem dX2_mixPanels_18 : decode cX2_mixPanels 18 = .ok (.iaload, 1) := by decide +kernel
theorem dX2_mixPanels_19 : decode cX2_mixPanels 19 = .ok (.iastore, 1) := by decide +kernel
theorem dX2_mixPanels_20 : decode cX2_mixPanels 20 = .ok (.iinc 3 1, 3) := by decide +kernel
theorem dX2_mixPanels_23 : decode cX2_mixPanels 23 = .ok (.goto (-21), 3) := by decide +kernel
theorem dX2_mixPanels_26 : decode cX2_mixPanels 26 = .ok (.iconst 0, 1) := by decide +kernel
theorem dX2_mixPanels_27 : decode cX2_mixPanels 27 = .ok (.istore_n 3, 1) := by decide +kernel
theorem dX2_mixPanels_28 : decode cX2_mixPanels 28 = .ok (.iload_n 3, 1) := by decide +kernel
theorem dX2_mixPanels_29 : decode cX2_mixPanels 29 = .ok (.iconst 4, 1) := by decide +kernel
theorem dX2_mixPanels_30 : decode cX2_mixPanels 30 = .ok (.if_icmp .ge 79, 3) := by decide +kernel
theorem dX2_mixPanels_33 : decode cX2_mixPanels 33 = .ok (.iload_n 1, 1) := by decide +kernel
theorem dX2_mixPanels_34 : decode cX2_mixPanels 34 = .ok (.iload_n 3, 1) := by decide +kernel
theorem dX2_mixPanels_35 : decode cX2_mixPanels 35 = .ok (.invokestatic 85, 3) := by decide +kernel
theorem dX2_mixPanels_38 : decode cX2_mixPanels 38 = .ok (.istore 4, 2) := by decide +kernel
theorem dX2_mixPanels_40 : decode cX2_mixPanels 40 = .ok (.iload_n 2, 1) := by decide +kernel
theorem dX2_mixPanels_41 : decode cX2_mixPanels 41 = .ok (.iload_n 3, 1) := by decide +kernel
theorem dX2_mixPanels_42 : decode cX2_mixPanels 42 = .ok (.invokestatic 85, 3) := by decide +kernel
theorem dX2_mixPanels_45 : decode cX2_mixPanels 45 = .ok (.istore 5, 2) := by decide +kernel
theorem dX2_mixPanels_47 : decode cX2_mixPanels 47 = .ok (.iconst 0, 1) := by decide +kernel
theorem dX2_mixPanels_48 : decode cX2_mixPanels 48 = .ok (.istore 6, 2) := by decide +kernel
theorem dX2_mixPanels_50 : decode cX2_mixPanels 50 = .ok (.iload 6, 2) := by decide +kernel
theorem dX2_mixPanels_52 : decode cX2_mixPanels 52 = .ok (.bipush 16, 2) := by decide +kernel
theorem dX2_mixPanels_54 : decode cX2_mixPanels 54 = .ok (.if_icmp .ge 49, 3) := by decide +kernel
theorem dX2_mixPanels_57 : decode cX2_mixPanels 57 = .ok (.iload_n 3, 1) := by decide +kernel
theorem dX2_mixPanels_58 : decode cX2_mixPanels 58 = .ok (.iload 5, 2) := by decide +kernel
theorem dX2_mixPanels_60 : decode cX2_mixPanels 60 = .ok (.iload 6, 2) := by decide +kernel
theorem dX2_mixPanels_62 : decode cX2_mixPanels 62 = .ok (.iconst 4, 1) := by decide +kernel
theorem dX2_mixPanels_63 : decode cX2_mixPanels 63 = .ok (.invokestatic 31, 3) := by decide +kernel
theorem dX2_mixPanels_66 : decode cX2_mixPanels 66 = .ok (.invokestatic 88, 3) := by decide +kernel
theorem dX2_mixPanels_69 : decode cX2_mixPanels 69 = .ok (.istore 7, 2) := by decide +kernel
theorem dX2_mixPanels_71 : decode cX2_mixPanels 71 = .ok (.iload 7, 2) := by decide +kernel
theorem dX2_mixPanels_73 : decode cX2_mixPanels 73 = .ok (.invokestatic 35, 3) := by decide +kernel
theorem dX2_mixPanels_76 : decode cX2_mixPanels 76 = .ok (.ifCond .eq 21, 3) := by decide +kernel
theorem dX2_mixPanels_79 : decode cX2_mixPanels 79 = .ok (.aload_n 0, 1) := by decide +kernel
theorem dX2_mixPanels_80 : decode cX2_mixPanels 80 = .ok (.iload 4, 2) := by decide +kernel
theorem dX2_mixPanels_82 : decode cX2_mixPanels 82 = .ok (.iload 6, 2) := by decide +kernel
theorem dX2_mixPanels_84 : decode cX2_mixPanels 84 = .ok (.invokestatic 88, 3) := by decide +kernel
theorem dX2_mixPanels_87 : decode cX2_mixPanels 87 = .ok (.aload_n 0, 1) := by decide +kernel
theorem dX2_mixPanels_88 : decode cX2_mixPanels 88 = .ok (.getfield 22, 3) := by decide +kernel
theorem dX2_mixPanels_91 : decode cX2_mixPanels 91 = .ok (.iload 7, 2) := by decide +kernel
theorem dX2_mixPanels_93 : decode cX2_mixPanels 93 = .ok (.iaload, 1) := by decide +kernel
theorem dX2_mixPanels_94 : decode cX2_mixPanels 94 = .ok (.invokevirtual 64, 3) := by decide +kernel
theorem dX2_mixPanels_97 : decode cX2_mixPanels 97 = .ok (.iinc 6 1, 3) := by decide +kernel
theorem dX2_mixPanels_100 : decode cX2_mixPanels 100 = .ok (.goto (-50), 3) := by decide +kernel
theorem dX2_mixPanels_103 : decode cX2_mixPanels 103 = .ok (.iinc 3 1, 3) := by decide +kernel
theorem dX2_mixPanels_106 : decode cX2_mixPanels 106 = .ok (.goto (-78), 3) := by decide +kernel
theorem dX2_mixPanels_109 : decode cX2_mixPanels 109 = .ok (.aload_n 0, 1) := by decide +kernel
theorem dX2_mixPanels_110 : decode cX2_mixPanels 110 = .ok (.iconst 0, 1) := by decide +kernel
theorem dX2_mixPanels_111 : decode cX2_mixPanels 111 = .ok (.putfield 56, 3) := by decide +kernel
theorem dX2_mixPanels_114 : decode cX2_mixPanels 114 = .ok (.return_, 1) := by decide +kernel
theorem dX2_seam_0 : decode cX2_seam 0 = .ok (.aload_n 0, 1) := by decide +kernel
theorem dX2_seam_1 : decode cX2_seam 1 = .ok (.iload_n 1, 1) := by decide +kernel
theorem dX2_seam_2 : decode cX2_seam 2 = .ok (.invokevirtual 74, 3) := by decide +kernel
theorem dX2_seam_5 : decode cX2_seam 5 = .ok (.istore_n 3, 1) := by decide +kernel
theorem dX2_seam_6 : decode cX2_seam 6 = .ok (.iload_n 3, 1) := by decide +kernel
theorem dX2_seam_7 : decode cX2_seam 7 = .ok (.iconst (-1), 1) := by decide +kernel
theorem dX2_seam_8 : decode cX2_seam 8 = .ok (.if_icmp .eq 16, 3) := by decide +kernel
theorem dX2_seam_11 : decode cX2_seam 11 = .ok (.iload_n 3, 1) := by decide +kernel
theorem dX2_seam_12 : decode cX2_seam 12 = .ok (.aload_n 0, 1) := by decide +kernel
theorem dX2_seam_13 : decode cX2_seam 13 = .ok (.iload_n 2, 1) := by decide +kernel
theorem dX2_seam_14 : decode cX2_seam 14 = .ok (.invokevirtual 74, 3) := by decide +kernel
theorem dX2_seam_17 : decode cX2_seam 17 = .ok (.if_icmp .ne 7, 3) := by decide +kernel
theorem dX2_seam_20 : decode cX2_seam 20 = .ok (.iconst 1, 1) := by decide +kernel
theorem dX2_seam_21 : decode cX2_seam 21 = .ok (.goto 4, 3) := by decide +kernel
theorem dX2_seam_24 : decode cX2_seam 24 = .ok (.iconst 0, 1) := by decide +kernel
theorem dX2_seam_25 : decode cX2_seam 25 = .ok (.ireturn, 1) := by decide +kernel
theorem dX2_seamsNow_0 : decode cX2_seamsNow 0 = .ok (.iconst 0, 1) := by decide +kernel
theorem dX2_seamsNow_1 : decode cX2_seamsNow 1 = .ok (.istore_n 1, 1) := by decide +kernel
theorem dX2_seamsNow_2 : decode cX2_seamsNow 2 = .ok (.iconst 3, 1) := by decide +kernel
theorem dX2_seamsNow_3 : decode cX2_seamsNow 3 = .ok (.istore_n 2, 1) := by decide +kernel
theorem dX2_seamsNow_4 : decode cX2_seamsNow 4 = .ok (.iconst 0, 1) := by decide +kernel
theorem dX2_seamsNow_5 : decode cX2_seamsNow 5 = .ok (.istore_n 3, 1) := by decide +kernel
theorem dX2_seamsNow_6 : decode cX2_seamsNow 6 = .ok (.iload_n 3, 1) := by decide +kernel
theorem dX2_seamsNow_7 : decode cX2_seamsNow 7 = .ok (.bipush 8, 2) := by decide +kernel
theorem dX2_seamsNow_9 : decode cX2_seamsNow 9 = .ok (.if_icmp .ge 51, 3) := by decide +kernel
theorem dX2_seamsNow_12 : decode cX2_seamsNow 12 = .ok (.iload_n 1, 1) := by decide +kernel
theorem dX2_seamsNow_13 : decode cX2_seamsNow 13 = .ok (.aload_n 0, 1) := by decide +kernel
theorem dX2_seamsNow_14 : decode cX2_seamsNow 14 = .ok (.iload_n 3, 1) := by decide +kernel
theorem dX2_seamsNow_15 : decode cX2_seamsNow 15 = .ok (.bipush 8, 2) := by decide +kernel
theorem dX2_seamsNow_17 : decode cX2_seamsNow 17 = .ok (.imul, 1) := by decide +kernel
theorem dX2_seamsNow_18 : decode cX2_seamsNow 18 = .ok (.iload_n 2, 1) := by decide +kernel
theorem dX2_seamsNow_19 : decode cX2_seamsNow 19 = .ok (.iadd, 1) := by decide +kernel
theorem dX2_seamsNow_20 : decode cX2_seamsNow 20 = .ok (.iload_n 3, 1) := by decide +kernel
theorem dX2_seamsNow_21 : decode cX2_seamsNow 21 = .ok (.bipush 8, 2) := by decide +kernel
theorem dX2_seamsNow_23 : decode cX2_seamsNow 23 = .ok (.imul, 1) := by decide +kernel
theorem dX2_seamsNow_24 : decode cX2_seamsNow 24 = .ok (.iload_n 2, 1) := by decide +kernel
theorem dX2_seamsNow_25 : decode cX2_seamsNow 25 = .ok (.iadd, 1) := by decide +kernel
theorem dX2_seamsNow_26 : decode cX2_seamsNow 26 = .ok (.iconst 1, 1) := by decide +kernel
theorem dX2_seamsNow_27 : decode cX2_seamsNow 27 = .ok (.iadd, 1) := by decide +kernel
theorem dX2_seamsNow_28 : decode cX2_seamsNow 28 = .ok (.invokevirtual 91, 3) := by decide +kernel
theorem dX2_seamsNow_31 : decode cX2_seamsNow 31 = .ok (.iadd, 1) := by decide +kernel
theorem dX2_seamsNow_32 : decode cX2_seamsNow 32 = .ok (.istore_n 1, 1) := by decide +kernel
theorem dX2_seamsNow_33 : decode cX2_seamsNow 33 = .ok (.iload_n 1, 1) := by decide +kernel
theorem dX2_seamsNow_34 : decode cX2_seamsNow 34 = .ok (.aload_n 0, 1) := by decide +kernel
theorem dX2_seamsNow_35 : decode cX2_seamsNow 35 = .ok (.iload_n 2, 1) := by decide +kernel
theorem dX2_seamsNow_36 : decode cX2_seamsNow 36 = .ok (.bipush 8, 2) := by decide +kernel
theorem dX2_seamsNow_38 : decode cX2_seamsNow 38 = .ok (.imul, 1) := by decide +kernel
theorem dX2_seamsNow_39 : decode cX2_seamsNow 39 = .ok (.iload_n 3, 1) := by decide +kernel
theorem dX2_seamsNow_40 : decode cX2_seamsNow 40 = .ok (.iadd, 1) := by decide +kernel
theorem dX2_seamsNow_41 : decode cX2_seamsNow 41 = .ok (.iload_n 2, 1) := by decide +kernel
theorem dX2_seamsNow_42 : decode cX2_seamsNow 42 = .ok (.iconst 1, 1) := by decide +kernel
theorem dX2_seamsNow_43 : decode cX2_seamsNow 43 = .ok (.iadd, 1) := by decide +kernel
theorem dX2_seamsNow_44 : decode cX2_seamsNow 44 = .ok (.bipush 8, 2) := by decide +kernel
theorem dX2_seamsNow_46 : decode cX2_seamsNow 46 = .ok (.imul, 1) := by decide +kernel
theorem dX2_seamsNow_47 : decode cX2_seamsNow 47 = .ok (.iload_n 3, 1) := by decide +kernel
theorem dX2_seamsNow_48 : decode cX2_seamsNow 48 = .ok (.iadd, 1) := by decide +kernel
theorem dX2_seamsNow_49 : decode cX2_seamsNow 49 = .ok (.invokevirtual 91, 3) := by decide +kernel
theorem dX2_seamsNow_52 : decode cX2_seamsNow 52 = .ok (.iadd, 1) := by decide +kernel
theorem dX2_seamsNow_53 : decode cX2_seamsNow 53 = .ok (.istore_n 1, 1) := by decide +kernel
theorem dX2_seamsNow_54 : decode cX2_seamsNow 54 = .ok (.iinc 3 1, 3) := by decide +kernel
theorem dX2_seamsNow_57 : decode cX2_seamsNow 57 = .ok (.goto (-51), 3) := by decide +kernel
theorem dX2_seamsNow_60 : decode cX2_seamsNow 60 = .ok (.iload_n 1, 1) := by decide +kernel
theorem dX2_seamsNow_61 : decode cX2_seamsNow 61 = .ok (.ireturn, 1) := by decide +kernel
theorem dX3_init_0 : decode cX3_init 0 = .ok (.aload_n 0, 1) := by decide +kernel
theorem dX3_init_1 : decode cX3_init 1 = .ok (.invokespecial 3, 3) := by decide +kernel
theorem dX3_init_4 : decode cX3_init 4 = .ok (.aload_n 0, 1) := by decide +kernel
theorem dX3_init_5 : decode cX3_init 5 = .ok (.bipush 6, 2) := by decide +kernel
theorem dX3_init_7 : decode cX3_init 7 = .ok (.newarray .long, 2) := by decide +kernel
theorem dX3_init_9 : decode cX3_init 9 = .ok (.putfield 9, 3) := by decide +kernel
theorem dX3_init_12 : decode cX3_init 12 = .ok (.return_, 1) := by decide +kernel
theorem dX3_gather_0 : decode cX3_gather 0 = .ok (.aload_n 0, 1) := by decide +kernel
theorem dX3_gather_1 : decode cX3_gather 1 = .ok (.getfield 9, 3) := by decide +kernel
theorem dX3_gather_4 : decode cX3_gather 4 = .ok (.lconst 0, 1) := by decide +kernel
theorem dX3_gather_5 : decode cX3_gather 5 = .ok (.invokestatic 15, 3) := by decide +kernel
theorem dX3_gather_8 : decode cX3_gather 8 = .ok (.iload_n 3, 1) := by decide +kernel
theorem dX3_gather_9 : decode cX3_gather 9 = .ok (.iconst 1, 1) := by decide +kernel
theorem dX3_gather_10 : decode cX3_gather 10 = .ok (.if_icmp .eq 8, 3) := by decide +kernel
theorem dX3_gather_13 : decode cX3_gather 13 = .ok (.aload_n 0, 1) := by decide +kernel
theorem dX3_gather_14 : decode cX3_gather 14 = .ok (.aload_n 1, 1) := by decide +kernel
theorem dX3_gather_15 : decode cX3_gather 15 = .ok (.invokevirtual 21, 3) := by decide +kernel
theorem dX3_gather_18 : decode cX3_gather 18 = .ok (.iload_n 3, 1) := by decide +kernel
theorem dX3_gather_19 : decode cX3_gather 19 = .ok (.ifCond .eq 9, 3) := by decide +kernel
theorem dX3_gather_22 : decode cX3_gather 22 = .ok (.aload_n 0, 1) := by decide +kernel
theorem dX3_gather_23 : decode cX3_gather 23 = .ok (.aload_n 1, 1) := by decide +kernel
theorem dX3_gather_24 : decode cX3_gather 24 = .ok (.aload_n 2, 1) := by decide +kernel
theorem dX3_gather_25 : decode cX3_gather 25 = .ok (.invokevirtual 25, 3) := by decide +kernel
theorem dX3_gather_28 : decode cX3_gather 28 = .ok (.return_, 1) := by decide +kernel
theorem dX3_say_0 : decode cX3_say 0 = .ok (.iload_n 1, 1) := by decide +kernel
theorem dX3_say_1 : decode cX3_say 1 = .ok (.iconst 0, 1) := by decide +kernel
theorem dX3_say_2 : decode cX3_say 2 = .ok (.iconst 5, 1) := by decide +kernel
theorem dX3_say_3 : decode cX3_say 3 = .ok (.invokestatic 29, 3) := by decide +kernel
theorem dX3_say_6 : decode cX3_say 6 = .ok (.ifCond .eq 13, 3) := by decide +kernel
theorem dX3_say_9 : decode cX3_say 9 = .ok (.aload_n 0, 1) := by decide +kernel
theorem dX3_say_10 : decode cX3_say 10 = .ok (.getfield 9, 3) := by decide +kernel
theorem dX3_say_13 : decode cX3_say 13 = .ok (.iload_n 1, 1) := by decide +kernel
theorem dX3_say_14 : decode cX3_say 14 = .ok (.dup2, 1) := by decide +kernel
theorem dX3_say_15 : decode cX3_say 15 = .ok (.laload, 1) := by decide +kernel
theorem dX3_say_16 : decode cX3_say 16 = .ok (.lload_n 2, 1) := by decide +kernel
theorem dX3_say_17 : decode cX3_say 17 = .ok (.lor, 1) := by decide +kernel
theorem dX3_say_18 : decode cX3_say 18 = .ok (.lastore, 1) := by decide +kernel
theorem dX3_say_19 : decode cX3_say 19 = .ok (.return_, 1) := by decide +kernel
theorem dX3_gatherSymmetry_0 : decode cX3_gatherSymmetry 0 = .ok (.aload_n 1, 1) := by decide +kernel
theorem dX3_gatherSymmetry_1 : decode cX3_gatherSymmetry 1 = .ok (.invokevirtual 33, 3) := by decide +kernel
theorem dX3_gatherSymmetry_4 : decode cX3_gatherSymmetry 4 = .ok (.istore_n 2, 1) := by decide +kernel
theorem dX3_gatherSymmetry_5 : decode cX3_gatherSymmetry 5 = .ok (.iconst 1, 1) := by decide +kernel
theorem dX3_gatherSymmetry_6 : decode cX3_gatherSymmetry 6 = .ok (.istore_n 3, 1) := by decide +kernel
theorem dX3_gatherSymmetry_7 : decode cX3_gatherSymmetry 7 = .ok (.iload_n 3, 1) := by decide +kernel
theorem dX3_gatherSymmetry_8 : decode cX3_gatherSymmetry 8 = .ok (.bipush 8, 2) := by decide +kernel
theorem dX3_gatherSymmetry_10 : decode cX3_gatherSymmetry 10 = .ok (.if_icmp .ge 70, 3) := by decide +kernel
theorem dX3_gatherSymmetry_13 : decode cX3_gatherSymmetry 13 = .ok (.iconst 0, 1) := by decide +kernel
theorem dX3_gatherSymmetry_14 : decode cX3_gatherSymmetry 14 = .ok (.istore 4, 2) := by decide +kernel
theorem dX3_gatherSymmetry_16 : decode cX3_gatherSymmetry 16 = .ok (.iload 4, 2) := by decide +kernel
theorem dX3_gatherSymmetry_18 : decode cX3_gatherSymmetry 18 = .ok (.bipush 64, 2) := by decide +kernel
theorem dX3_gatherSymmetry_20 : decode cX3_gatherSymmetry 20 = .ok (.if_icmp .ge 54, 3) := by decide +kernel
theorem dX3_gatherSymmetry_23 : decode cX3_gatherSymmetry 23 = .ok (.iload_n 2, 1) := by decide +kernel
theorem dX3_gatherSymmetry_24 : decode cX3_gatherSymmetry 24 = .ok (.iload_n 3, 1) := by decide +kernel
theorem dX3_gatherSymmetry_25 : decode cX3_gatherSymmetry 25 = .ok (.invokestatic 39, 3) := by decide +kernel
theorem dX3_gatherSymmetry_28 : decode cX3_gatherSymmetry 28 = .ok (.ifCond .eq 46, 3) := by decide +kernel
theorem dX3_gatherSymmetry_31 : decode cX3_gatherSymmetry 31 = .ok (.aload_n 1, 1) := by decide +kernel
theorem dX3_gatherSymmetry_32 : decode cX3_gatherSymmetry 32 = .ok (.iload_n 3, 1) := by decide +kernel
theorem dX3_gatherSymmetry_33 : decode cX3_gatherSymmetry 33 = .ok (.iload 4, 2) := by decide +kernel
theorem dX3_gatherSymmetry_35 : decode cX3_gatherSymmetry 35 = .ok (.invokevirtual 43, 3) := by decide +kernel
theorem dX3_gatherSymmetry_38 : decode cX3_gatherSymmetry 38 = .ok (.istore 5, 2) := by decide +kernel
theorem dX3_gatherSymmetry_40 : decode cX3_gatherSymmetry 40 = .ok (.aload_n 0, 1) := by decide +kernel
theorem dX3_gatherSymmetry_41 : decode cX3_gatherSymmetry 41 = .ok (.aload_n 1, 1) := by decide +kernel
theorem dX3_gatherSymmetry_42 : decode cX3_gatherSymmetry 42 = .ok (.iload 4, 2) := by decide +kernel
theorem dX3_gatherSymmetry_44 : decode cX3_gatherSymmetry 44 = .ok (.invokevirtual 47, 3) := by decide +kernel
theorem dX3_gatherSymmetry_47 : decode cX3_gatherSymmetry 47 = .ok (.lconst 1, 1) := by decide +kernel
theorem dX3_gatherSymmetry_48 : decode cX3_gatherSymmetry 48 = .ok (.iload 5, 2) := by decide +kernel
theorem dX3_gatherSymmetry_50 : decode cX3_gatherSymmetry 50 = .ok (.lshl, 1) := by decide +kernel
theorem dX3_gatherSymmetry_51 : decode cX3_gatherSymmetry 51 = .ok (.invokevirtual 51, 3) := by decide +kernel
theorem dX3_gatherSymmetry_54 : decode cX3_gatherSymmetry 54 = .ok (.aload_n 0, 1) := by decide +kernel
theorem dX3_gatherSymmetry_55 : decode cX3_gatherSymmetry 55 = .ok (.aload_n 1, 1) := by decide +kernel
theorem dX3_gatherSymmetry_56 : decode cX3_gatherSymmetry 56 = .ok (.iload 5, 2) := by decide +kernel
theorem dX3_gatherSymmetry_58 : decode cX3_gatherSymmetry 58 = .ok (.invokevirtual 47, 3) := by decide +kernel
theorem dX3_gatherSymmetry_61 : decode cX3_gatherSymmetry 61 = .ok (.lconst 1, 1) := by decide +kernel
theorem dX3_gatherSymmetry_62 : decode cX3_gatherSymmetry 62 = .ok (.iload 4, 2) := by decide +kernel
theorem dX3_gatherSymmetry_64 : decode cX3_gatherSymmetry 64 = .ok (.lshl, 1) := by decide +kernel
theorem dX3_gatherSymmetry_65 : decode cX3_gatherSymmetry 65 = .ok (.invokevirtual 51, 3) := by decide +kernel
theorem dX3_gatherSymmetry_68 : decode cX3_gatherSymmetry 68 = .ok (.iinc 4 1, 3) := by decide +kernel
theorem dX3_gatherSymmetry_71 : decode cX3_gatherSymmetry 71 = .ok (.goto (-55), 3) := by decide +kernel
theorem dX3_gatherSymmetry_74 : decode cX3_gatherSymmetry 74 = .ok (.iinc 3 1, 3) := by decide +kernel
theorem dX3_gatherSymmetry_77 : decode cX3_gatherSymmetry 77 = .ok (.goto (-70), 3) := by decide +kernel
theorem dX3_gatherSymmetry_80 : decode cX3_gatherSymmetry 80 = .ok (.return_, 1) := by decide +kernel
theorem dX3_gatherBook_0 : decode cX3_gatherBook 0 = .ok (.iconst 0, 1) := by decide +kernel
theorem dX3_gatherBook_1 : decode cX3_gatherBook 1 = .ok (.istore_n 3, 1) := by decide +kernel
theorem dX3_gatherBook_2 : decode cX3_gatherBook 2 = .ok (.iload_n 3, 1) := by decide +kernel
theorem dX3_gatherBook_3 : decode cX3_gatherBook 3 = .ok (.aload_n 2, 1) := by decide +kernel
theorem dX3_gatherBook_4 : decode cX3_gatherBook 4 = .ok (.invokevirtual 55, 3) := by decide +kernel
theorem dX3_gatherBook_7 : decode cX3_gatherBook 7 = .ok (.if_icmp .ge 48, 3) := by decide +kernel
theorem dX3_gatherBook_10 : decode cX3_gatherBook 10 = .ok (.aload_n 2, 1) := by decide +kernel
theorem dX3_gatherBook_11 : decode cX3_gatherBook 11 = .ok (.iload_n 3, 1) := by decide +kernel
theorem dX3_gatherBook_12 : decode cX3_gatherBook 12 = .ok (.aload_n 1, 1) := by decide +kernel
theorem dX3_gatherBook_13 : decode cX3_gatherBook 13 = .ok (.invokevirtual 60, 3) := by decide +kernel
theorem dX3_gatherBook_16 : decode cX3_gatherBook 16 = .ok (.iconst 4, 1) := by decide +kernel
theorem dX3_gatherBook_17 : decode cX3_gatherBook 17 = .ok (.if_icmp .lt 32, 3) := by decide +kernel
theorem dX3_gatherBook_20 : decode cX3_gatherBook 20 = .ok (.iconst 0, 1) := by decide +kernel
theorem dX3_gatherBook_21 : decode cX3_gatherBook 21 = .ok (.istore 4, 2) := by decide +kernel
theorem dX3_gatherBook_23 : decode cX3_gatherBook 23 = .ok (.iload 4, 2) := by decide +kernel
theorem dX3_gatherBook_25 : decode cX3_gatherBook 25 = .ok (.bipush 6, 2) := by decide +kernel
theorem dX3_gatherBook_27 : decode cX3_gatherBook 27 = .ok (.if_icmp .ge 22, 3) := by decide +kernel
theorem dX3_gatherBook_30 : decode cX3_gatherBook 30 = .ok (.aload_n 0, 1) := by decide +kernel
theorem dX3_gatherBook_31 : decode cX3_gatherBook 31 = .ok (.iload 4, 2) := by decide +kernel
theorem dX3_gatherBook_33 : decode cX3_gatherBook 33 = .ok (.aload_n 2, 1) := by decide +kernel
theorem dX3_gatherBook_34 : decode cX3_gatherBook 34 = .ok (.iload_n 3, 1) := by decide +kernel
theorem dX3_gatherBook_35 : decode cX3_gatherBook 35 = .ok (.iload 4, 2) := by decide +kernel
theorem dX3_gatherBook_37 : decode cX3_gatherBook 37 = .ok (.invokevirtual 64, 3) := by decide +kernel
theorem dX3_gatherBook_40 : decode cX3_gatherBook 40 = .ok (.invokevirtual 51, 3) := by decide +kernel
theorem dX3_gatherBook_43 : decode cX3_gatherBook 43 = .ok (.iinc 4 1, 3) := by decide +kernel
theorem dX3_gatherBook_46 : decode cX3_gatherBook 46 = .ok (.goto (-23), 3) := by decide +kernel
theorem dX3_gatherBook_49 : decode cX3_gatherBook 49 = .ok (.iinc 3 1, 3) := by decide +kernel
theorem dX3_gatherBook_52 : decode cX3_gatherBook 52 = .ok (.goto (-50), 3) := by decide +kernel
theorem dX3_gatherBook_55 : decode cX3_gatherBook 55 = .ok (.return_, 1) := by decide +kernel
theorem dX3_saidUnlike_0 : decode cX3_saidUnlike 0 = .ok (.lconst 0, 1) := by decide +kernel
theorem dX3_saidUnlike_1 : decode cX3_saidUnlike 1 = .ok (.lstore_n 1, 1) := by decide +kernel
theorem dX3_saidUnlike_2 : decode cX3_saidUnlike 2 = .ok (.lconst 0, 1) := by decide +kernel
theorem dX3_saidUnlike_3 : decode cX3_saidUnlike 3 = .ok (.lstore_n 3, 1) := by decide +kernel
theorem dX3_saidUnlike_4 : decode cX3_saidUnlike 4 = .ok (.iconst 0, 1) := by decide +kernel
theorem dX3_saidUnlike_5 : decode cX3_saidUnlike 5 = .ok (.istore 5, 2) := by decide +kernel
theorem dX3_saidUnlike_7 : decode cX3_saidUnlike 7 = .ok (.iload 5, 2) := by decide +kernel
theorem dX3_saidUnlike_9 : decode cX3_saidUnlike 9 = .ok (.bipush 6, 2) := by decide +kernel
theorem dX3_saidUnlike_11 : decode cX3_saidUnlike 11 = .ok (.if_icmp .ge 31, 3) := by decide +kernel
theorem dX3_saidUnlike_14 : decode cX3_saidUnlike 14 = .ok (.lload_n 3, 1) := by decide +kernel
theorem dX3_saidUnlike_15 : decode cX3_saidUnlike 15 = .ok (.lload_n 1, 1) := by decide +kernel
theorem dX3_saidUnlike_16 : decode cX3_saidUnlike 16 = .ok (.aload_n 0, 1) := by decide +kernel
theorem dX3_saidUnlike_17 : decode cX3_saidUnlike 17 = .ok (.getfield 9, 3) := by decide +kernel
theorem dX3_saidUnlike_20 : decode cX3_saidUnlike 20 = .ok (.iload 5, 2) := by decide +kernel
theorem dX3_saidUnlike_22 : decode cX3_saidUnlike 22 = .ok (.laload, 1) := by decide +kernel
theorem dX3_saidUnlike_23 : decode cX3_saidUnlike 23 = .ok (.land, 1) := by decide +kernel
theorem dX3_saidUnlike_24 : decode cX3_saidUnlike 24 = .ok (.lor, 1) := by decide +kernel
theorem dX3_saidUnlike_25 : decode cX3_saidUnlike 25 = .ok (.lstore_n 3, 1) := by decide +kernel
theorem dX3_saidUnlike_26 : decode cX3_saidUnlike 26 = .ok (.lload_n 1, 1) := by decide +kernel
theorem dX3_saidUnlike_27 : decode cX3_saidUnlike 27 = .ok (.aload_n 0, 1) := by decide +kernel
theorem dX3_saidUnlike_28 : decode cX3_saidUnlike 28 = .ok (.getfield 9, 3) := by decide +kernel
theorem dX3_saidUnlike_31 : decode cX3_saidUnlike 31 = .ok (.iload 5, 2) := by decide +kernel
theorem dX3_saidUnlike_33 : decode cX3_saidUnlike 33 = .ok (.laload, 1) := by decide +kernel
theorem dX3_saidUnlike_34 : decode cX3_saidUnlike 34 = .ok (.lor, 1) := by decide +kernel
theorem dX3_saidUnlike_35 : decode cX3_saidUnlike 35 = .ok (.lstore_n 1, 1) := by decide +kernel
theorem dX3_saidUnlike_36 : decode cX3_saidUnlike 36 = .ok (.iinc 5 1, 3) := by decide +kernel
theorem dX3_saidUnlike_39 : decode cX3_saidUnlike 39 = .ok (.goto (-32), 3) := by decide +kernel
theorem dX3_saidUnlike_42 : decode cX3_saidUnlike 42 = .ok (.lload_n 3, 1) := by decide +kernel
theorem dX3_saidUnlike_43 : decode cX3_saidUnlike 43 = .ok (.lreturn, 1) := by decide +kernel
theorem dX3_saidNothing_0 : decode cX3_saidNothing 0 = .ok (.lconst 0, 1) := by decide +kernel
theorem dX3_saidNothing_1 : decode cX3_saidNothing 1 = .ok (.lstore_n 1, 1) := by decide +kernel
theorem dX3_saidNothing_2 : decode cX3_saidNothing 2 = .ok (.iconst 0, 1) := by decide +kernel
theorem dX3_saidNothing_3 : decode cX3_saidNothing 3 = .ok (.istore_n 3, 1) := by decide +kernel
theorem dX3_saidNothing_4 : decode cX3_saidNothing 4 = .ok (.iload_n 3, 1) := by decide +kernel
theorem dX3_saidNothing_5 : decode cX3_saidNothing 5 = .ok (.bipush 6, 2) := by decide +kernel
theorem dX3_saidNothing_7 : decode cX3_saidNothing 7 = .ok (.if_icmp .ge 18, 3) := by decide +kernel
theorem dX3_saidNothing_10 : decode cX3_saidNothing 10 = .ok (.lload_n 1, 1) := by decide +kernel
theorem dX3_saidNothing_11 : decode cX3_saidNothing 11 = .ok (.aload_n 0, 1) := by decide +kernel
theorem dX3_saidNothing_12 : decode cX3_saidNothing 12 = .ok (.getfield 9, 3) := by decide +kernel
theorem dX3_saidNothing_15 : decode cX3_saidNothing 15 = .ok (.iload_n 3, 1) := by decide +kernel
theorem dX3_saidNothing_16 : decode cX3_saidNothing 16 = .ok (.laload, 1) := by decide +kernel
theorem dX3_saidNothing_17 : decode cX3_saidNothing 17 = .ok (.lor, 1) := by decide +kernel
theorem dX3_saidNothing_18 : decode cX3_saidNothing 18 = .ok (.lstore_n 1, 1) := by decide +kernel
theorem dX3_saidNothing_19 : decode cX3_saidNothing 19 = .ok (.iinc 3 1, 3) := by decide +kernel
theorem dX3_saidNothing_22 : decode cX3_saidNothing 22 = .ok (.goto (-18), 3) := by decide +kernel
theorem dX3_saidNothing_25 : decode cX3_saidNothing 25 = .ok (.lload_n 1, 1) := by decide +kernel
theorem dX3_saidNothing_26 : decode cX3_saidNothing 26 = .ok (.ldc2_w 68, 3) := by decide +kernel
theorem dX3_saidNothing_29 : decode cX3_saidNothing 29 = .ok (.lxor, 1) := by decide +kernel
theorem dX3_saidNothing_30 : decode cX3_saidNothing 30 = .ok (.lreturn, 1) := by decide +kernel
theorem dX3_saidOnce_0 : decode cX3_saidOnce 0 = .ok (.aload_n 0, 1) := by decide +kernel
theorem dX3_saidOnce_1 : decode cX3_saidOnce 1 = .ok (.invokevirtual 70, 3) := by decide +kernel
theorem dX3_saidOnce_4 : decode cX3_saidOnce 4 = .ok (.ldc2_w 68, 3) := by decide +kernel
theorem dX3_saidOnce_7 : decode cX3_saidOnce 7 = .ok (.lxor, 1) := by decide +kernel
theorem dX3_saidOnce_8 : decode cX3_saidOnce 8 = .ok (.aload_n 0, 1) := by decide +kernel
theorem dX3_saidOnce_9 : decode cX3_saidOnce 9 = .ok (.invokevirtual 74, 3) := by decide +kernel
theorem dX3_saidOnce_12 : decode cX3_saidOnce 12 = .ok (.ldc2_w 68, 3) := by decide +kernel
theorem dX3_saidOnce_15 : decode cX3_saidOnce 15 = .ok (.lxor, 1) := by decide +kernel
theorem dX3_saidOnce_16 : decode cX3_saidOnce 16 = .ok (.land, 1) := by decide +kernel
theorem dX3_saidOnce_17 : decode cX3_saidOnce 17 = .ok (.lreturn, 1) := by decide +kernel
theorem dX3_verdict_0 : decode cX3_verdict 0 = .ok (.bipush (-4), 2) := by decide +kernel
theorem dX3_verdict_2 : decode cX3_verdict 2 = .ok (.istore_n 2, 1) := by decide +kernel
theorem dX3_verdict_3 : decode cX3_verdict 3 = .ok (.iconst 0, 1) := by decide +kernel
theorem dX3_verdict_4 : decode cX3_verdict 4 = .ok (.istore_n 3, 1) := by decide +kernel
theorem dX3_verdict_5 : decode cX3_verdict 5 = .ok (.iload_n 3, 1) := by decide +kernel
theorem dX3_verdict_6 : decode cX3_verdict 6 = .ok (.bipush 6, 2) := by decide +kernel
theorem dX3_verdict_8 : decode cX3_verdict 8 = .ok (.if_icmp .ge 35, 3) := by decide +kernel
theorem dX3_verdict_11 : decode cX3_verdict 11 = .ok (.aload_n 0, 1) := by decide +kernel
theorem dX3_verdict_12 : decode cX3_verdict 12 = .ok (.getfield 9, 3) := by decide +kernel
theorem dX3_verdict_15 : decode cX3_verdict 15 = .ok (.iload_n 3, 1) := by decide +kernel
theorem dX3_verdict_16 : decode cX3_verdict 16 = .ok (.laload, 1) := by decide +kernel
theorem dX3_verdict_17 : decode cX3_verdict 17 = .ok (.iload_n 1, 1) := by decide +kernel
theorem dX3_verdict_18 : decode cX3_verdict 18 = .ok (.invokestatic 77, 3) := by decide +kernel
theorem dX3_verdict_21 : decode cX3_verdict 21 = .ok (.ifCond .eq 16, 3) := by decide +kernel
theorem dX3_verdict_24 : decode cX3_verdict 24 = .ok (.iload_n 2, 1) := by decide +kernel
theorem dX3_verdict_25 : decode cX3_verdict 25 = .ok (.bipush (-4), 2) := by decide +kernel
theorem dX3_verdict_27 : decode cX3_verdict 27 = .ok (.if_icmp .ne 7, 3) := by decide +kernel
theorem dX3_verdict_30 : decode cX3_verdict 30 = .ok (.iload_n 3, 1) := by decide +kernel
theorem dX3_verdict_31 : decode cX3_verdict 31 = .ok (.goto 5, 3) := by decide +kernel
theorem dX3_verdict_34 : decode cX3_verdict 34 = .ok (.bipush (-2), 2) := by decide +kernel
theorem dX3_verdict_36 : decode cX3_verdict 36 = .ok (.istore_n 2, 1) := by decide +kernel
theorem dX3_verdict_37 : decode cX3_verdict 37 = .ok (.iinc 3 1, 3) := by decide +kernel
theorem dX3_verdict_40 : decode cX3_verdict 40 = .ok (.goto (-35), 3) := by decide +kernel
theorem dX3_verdict_43 : decode cX3_verdict 43 = .ok (.iload_n 2, 1) := by decide +kernel
theorem dX3_verdict_44 : decode cX3_verdict 44 = .ok (.ireturn, 1) := by decide +kernel
theorem dX4_init_0 : decode cX4_init 0 = .ok (.aload_n 0, 1) := by decide +kernel
theorem dX4_init_1 : decode cX4_init 1 = .ok (.invokespecial 3, 3) := by decide +kernel
theorem dX4_init_4 : decode cX4_init 4 = .ok (.aload_n 0, 1) := by decide +kernel
theorem dX4_init_5 : decode cX4_init 5 = .ok (.sipush 256, 3) := by decide +kernel
theorem dX4_init_8 : decode cX4_init 8 = .ok (.newarray .int, 2) := by decide +kernel
theorem dX4_init_10 : decode cX4_init 10 = .ok (.putfield 11, 3) := by decide +kernel
theorem dX4_init_13 : decode cX4_init 13 = .ok (.aload_n 0, 1) := by decide +kernel
theorem dX4_init_14 : decode cX4_init 14 = .ok (.sipush 256, 3) := by decide +kernel
theorem dX4_init_17 : decode cX4_init 17 = .ok (.newarray .int, 2) := by decide +kernel
theorem dX4_init_19 : decode cX4_init 19 = .ok (.putfield 15, 3) := by decide +kernel
theorem dX4_init_22 : decode cX4_init 22 = .ok (.aload_n 0, 1) := by decide +kernel
theorem dX4_init_23 : decode cX4_init 23 = .ok (.sipush 256, 3) := by decide +kernel
theorem dX4_init_26 : decode cX4_init 26 = .ok (.newarray .int, 2) := by decide +kernel
theorem dX4_init_28 : decode cX4_init 28 = .ok (.putfield 18, 3) := by decide +kernel
theorem dX4_init_31 : decode cX4_init 31 = .ok (.aload_n 0, 1) := by decide +kernel
theorem dX4_init_32 : decode cX4_init 32 = .ok (.iconst (-1), 1) := by decide +kernel
theorem dX4_init_33 : decode cX4_init 33 = .ok (.putfield 21, 3) := by decide +kernel
theorem dX4_init_36 : decode cX4_init 36 = .ok (.return_, 1) := by decide +kernel
theorem dX4_allUnlike_0 : decode cX4_allUnlike 0 = .ok (.iload_n 0, 1) := by decide +kernel
theorem dX4_allUnlike_1 : decode cX4_allUnlike 1 = .ok (.iconst 0, 1) := by decide +kernel
theorem dX4_allUnlike_2 : decode cX4_allUnlike 2 = .ok (.sipush 255, 3) := by decide +kernel
theorem dX4_allUnlike_5 : decode cX4_allUnlike 5 = .ok (.invokestatic 25, 3) := by decide +kernel
theorem dX4_allUnlike_8 : decode cX4_allUnlike 8 = .ok (.ifCond .ne 5, 3) := by decide +kernel
theorem dX4_allUnlike_11 : decode cX4_allUnlike 11 = .ok (.iconst 0, 1) := by decide +kernel
theorem dX4_allUnlike_12 : decode cX4_allUnlike 12 = .ok (.ireturn, 1) := by decide +kernel
theorem dX4_allUnlike_13 : decode cX4_allUnlike 13 = .ok (.iconst 0, 1) := by decide +kernel
theorem dX4_allUnlike_14 : decode cX4_allUnlike 14 = .ok (.istore_n 1, 1) := by decide +kernel
theorem dX4_allUnlike_15 : decode cX4_allUnlike 15 = .ok (.iconst 0, 1) := by decide +kernel
theorem dX4_allUnlike_16 : decode cX4_allUnlike 16 = .ok (.istore_n 2, 1) := by decide +kernel
theorem dX4_allUnlike_17 : decode cX4_allUnlike 17 = .ok (.iload_n 2, 1) := by decide +kernel
theorem dX4_allUnlike_18 : decode cX4_allUnlike 18 = .ok (.iconst 4, 1) := by decide +kernel
theorem dX4_allUnlike_19 : decode cX4_allUnlike 19 = .ok (.if_icmp .ge 19, 3) := by decide +kernel
theorem dX4_allUnlike_22 : decode cX4_allUnlike 22 = .ok (.iload_n 1, 1) := by decide +kernel
theorem dX4_allUnlike_23 : decode cX4_allUnlike 23 = .ok (.iconst 1, 1) := by decide +kernel
theorem dX4_allUnlike_24 : decode cX4_allUnlike 24 = .ok (.iload_n 0, 1) := by decide +kernel
theorem dX4_allUnlike_25 : decode cX4_allUnlike 25 = .ok (.iload_n 2, 1) := by decide +kernel
theorem dX4_allUnlike_26 : decode cX4_allUnlike 26 = .ok (.invokestatic 29, 3) := by decide +kernel
theorem dX4_allUnlike_29 : decode cX4_allUnlike 29 = .ok (.ishl, 1) := by decide +kernel
theorem dX4_allUnlike_30 : decode cX4_allUnlike 30 = .ok (.ior, 1) := by decide +kernel
theorem dX4_allUnlike_31 : decode cX4_allUnlike 31 = .ok (.istore_n 1, 1) := by decide +kernel
theorem dX4_allUnlike_32 : decode cX4_allUnlike 32 = .ok (.iinc 2 1, 3) := by decide +kernel
theorem dX4_allUnlike_35 : decode cX4_allUnlike 35 = .ok (.goto (-18), 3) := by decide +kernel
theorem dX4_allUnlike_38 : decode cX4_allUnlike 38 = .ok (.iload_n 1, 1) := by decide +kernel
theorem dX4_allUnlike_39 : decode cX4_allUnlike 39 = .ok (.bipush 15, 2) := by decide +kernel
theorem dX4_allUnlike_41 : decode cX4_allUnlike 41 = .ok (.if_icmp .ne 7, 3) := by decide +kernel
theorem dX4_allUnlike_44 : decode cX4_allUnlike 44 = .ok (.iconst 1, 1) := by decide +kernel
theorem dX4_allUnlike_45 : decode cX4_allUnlike 45 = .ok (.goto 4, 3) := by decide +kernel
theorem dX4_allUnlike_48 : decode cX4_allUnlike 48 = .ok (.iconst 0, 1) := by decide +kernel
theorem dX4_allUnlike_49 : decode cX4_allUnlike 49 = .ok (.ireturn, 1) := by decide +kernel
theorem dX4_bestSum_0 : decode cX4_bestSum 0 = .ok (.aload_n 0, 1) := by decide +kernel
theorem dX4_bestSum_1 : decode cX4_bestSum 1 = .ok (.getfield 33, 3) := by decide +kernel
theorem dX4_bestSum_4 : decode cX4_bestSum 4 = .ok (.ireturn, 1) := by decide +kernel
theorem dX4_bestPlaces_0 : decode cX4_bestPlaces 0 = .ok (.aload_n 0, 1) := by decide +kernel
theorem dX4_bestPlaces_1 : decode cX4_bestPlaces 1 = .ok (.getfield 36, 3) := by decide +kernel
theorem dX4_bestPlaces_4 : decode cX4_bestPlaces 4 = .ok (.ireturn, 1) := by decide +kernel
theorem dX4_bestTurns_0 : decode cX4_bestTurns 0 = .ok (.aload_n 0, 1) := by decide +kernel
theorem dX4_bestTurns_1 : decode cX4_bestTurns 1 = .ok (.getfield 39, 3) := by decide +kernel
theorem dX4_bestTurns_4 : decode cX4_bestTurns 4 = .ok (.ireturn, 1) := by decide +kernel
theorem dX4_bestWays_0 : decode cX4_bestWays 0 = .ok (.aload_n 0, 1) := by decide +kernel
theorem dX4_bestWays_1 : decode cX4_bestWays 1 = .ok (.getfield 42, 3) := by decide +kernel
theorem dX4_bestWays_4 : decode cX4_bestWays 4 = .ok (.ireturn, 1) := by decide +kernel
theorem dX4_search_0 : decode cX4_search 0 = .ok (.aload_n 0, 1) := by decide +kernel
theorem dX4_search_1 : decode cX4_search 1 = .ok (.getfield 21, 3) := by decide +kernel
theorem dX4_search_4 : decode cX4_search 4 = .ok (.aload_n 1, 1) := by decide +kernel
theorem dX4_search_5 : decode cX4_search 5 = .ok (.invokevirtual 45, 3) := by decide +kernel
theorem dX4_search_8 : decode cX4_search 8 = .ok (.if_icmp .ne 4, 3) := by decide +kernel
theorem dX4_search_11 : decode cX4_search 11 = .ok (.return_, 1) := by decide +kernel
theorem dX4_search_12 : decode cX4_search 12 = .ok (.aload_n 0, 1) := by decide +kernel
theorem dX4_search_13 : decode cX4_search 13 = .ok (.aload_n 1, 1) := by decide +kernel
theorem dX4_search_14 : decode cX4_search 14 = .ok (.invokevirtual 45, 3) := by decide +kernel
theorem dX4_search_17 : decode cX4_search 17 = .ok (.putfield 21, 3) := by decide +kernel
theorem dX4_search_20 : decode cX4_search 20 = .ok (.aload_n 0, 1) := by decide +kernel
theorem dX4_search_21 : decode cX4_search 21 = .ok (.iconst (-1), 1) := by decide +kernel
theorem dX4_search_22 : decode cX4_search 22 = .ok (.putfield 33, 3) := by decide +kernel
theorem dX4_search_25 : decode cX4_search 25 = .ok (.aload_n 0, 1) := by decide +kernel
theorem dX4_search_26 : decode cX4_search 26 = .ok (.aload_n 1, 1) := by decide +kernel
theorem dX4_search_27 : decode cX4_search 27 = .ok (.invokevirtual 51, 3) := by decide +kernel
theorem dX4_search_30 : decode cX4_search 30 = .ok (.aload_n 0, 1) := by decide +kernel
theorem dX4_search_31 : decode cX4_search 31 = .ok (.invokevirtual 55, 3) := by decide +kernel
theorem dX4_search_34 : decode cX4_search 34 = .ok (.iconst 0, 1) := by decide +kernel
theorem dX4_search_35 : decode cX4_search 35 = .ok (.istore_n 2, 1) := by decide +kernel
theorem dX4_search_36 : decode cX4_search 36 = .ok (.iload_n 2, 1) := by decide +kernel
theorem dX4_search_37 : decode cX4_search 37 = .ok (.sipush 256, 3) := by decide +kernel
theorem dX4_search_40 : decode cX4_search 40 = .ok (.if_icmp .ge 21, 3) := by decide +kernel
theorem dX4_search_43 : decode cX4_search 43 = .ok (.iload_n 2, 1) := by decide +kernel
theorem dX4_search_44 : decode cX4_search 44 = .ok (.invokestatic 58, 3) := by decide +kernel
theorem dX4_search_47 : decode cX4_search 47 = .ok (.ifCond .eq 8, 3) := by decide +kernel
theorem dX4_search_50 : decode cX4_search 50 = .ok (.aload_n 0, 1) := by decide +kernel
theorem dX4_search_51 : decode cX4_search 51 = .ok (.iload_n 2, 1) := by decide +kernel
theorem dX4_search_52 : decode cX4_search 52 = .ok (.invokevirtual 62, 3) := by decide +kernel
theorem dX4_search_55 : decode cX4_search 55 = .ok (.iinc 2 1, 3) := by decide +kernel
theorem dX4_search_58 : decode cX4_search 58 = .ok (.goto (-22), 3) := by decide +kernel
theorem dX4_search_61 : decode cX4_search 61 = .ok (.return_, 1) := by decide +kernel
theorem dX4_noteEdges_0 : decode cX4_noteEdges 0 = .ok (.iconst 0, 1) := by decide +kernel
theorem dX4_noteEdges_1 : decode cX4_noteEdges 1 = .ok (.istore_n 2, 1) := by decide +kernel
theorem dX4_noteEdges_2 : decode cX4_noteEdges 2 = .ok (.iload_n 2, 1) := by decide +kernel
theorem dX4_noteEdges_3 : decode cX4_noteEdges 3 = .ok (.bipush 16, 2) := by decide +kernel
theorem dX4_noteEdges_5 : decode cX4_noteEdges 5 = .ok (.if_icmp .ge 101, 3) := by decide +kernel
theorem dX4_noteEdges_8 : decode cX4_noteEdges 8 = .ok (.iconst 0, 1) := by decide +kernel
theorem dX4_noteEdges_9 : decode cX4_noteEdges 9 = .ok (.istore_n 3, 1) := by decide +kernel
theorem dX4_noteEdges_10 : decode cX4_noteEdges 10 = .ok (.iload_n 3, 1) := by decide +kernel
theorem dX4_noteEdges_11 : decode cX4_noteEdges 11 = .ok (.iconst 4, 1) := by decide +kernel
theorem dX4_noteEdges_12 : decode cX4_noteEdges 12 = .ok (.if_icmp .ge 88, 3) := by decide +kernel
theorem dX4_noteEdges_15 : decode cX4_noteEdges 15 = .ok (.iload_n 2, 1) := by decide +kernel
theorem dX4_noteEdges_16 : decode cX4_noteEdges 16 = .ok (.bipush 16, 2) := by decide +kernel
theorem dX4_noteEdges_18 : decode cX4_noteEdges 18 = .ok (.imul, 1) := by decide +kernel
theorem dX4_noteEdges_19 : decode cX4_noteEdges 19 = .ok (.iload_n 3, 1) := by decide +kernel
theorem dX4_noteEdges_20 : decode cX4_noteEdges 20 = .ok (.iadd, 1) := by decide +kernel
theorem dX4_noteEdges_21 : decode cX4_noteEdges 21 = .ok (.istore 4, 2) := by decide +kernel
theorem dX4_noteEdges_23 : decode cX4_noteEdges 23 = .ok (.aload_n 0, 1) := by decide +kernel
theorem dX4_noteEdges_24 : decode cX4_noteEdges 24 = .ok (.getfield 18, 3) := by decide +kernel
theorem dX4_noteEdges_27 : decode cX4_noteEdges 27 = .ok (.iload 4, 2) := by decide +kernel
theorem dX4_noteEdges_29 : decode cX4_noteEdges 29 = .ok (.iconst 0, 1) := by decide +kernel
theorem dX4_noteEdges_30 : decode cX4_noteEdges 30 = .ok (.iadd, 1) := by decide +kernel
theorem dX4_noteEdges_31 : decode cX4_noteEdges 31 = .ok (.aload_n 1, 1) := by decide +kernel
theorem dX4_noteEdges_32 : decode cX4_noteEdges 32 = .ok (.iload_n 2, 1) := by decide +kernel
theorem dX4_noteEdges_33 : decode cX4_noteEdges 33 = .ok (.iconst 4, 1) := by decide +kernel
theorem dX4_noteEdges_34 : decode cX4_noteEdges 34 = .ok (.iload_n 3, 1) := by decide +kernel
theorem dX4_noteEdges_35 : decode cX4_noteEdges 35 = .ok (.imul, 1) := by decide +kernel
theorem dX4_noteEdges_36 : decode cX4_noteEdges 36 = .ok (.iconst 3, 1) := by decide +kernel
theorem dX4_noteEdges_37 : decode cX4_noteEdges 37 = .ok (.iadd, 1) := by decide +kernel
theorem dX4_noteEdges_38 : decode cX4_noteEdges 38 = .ok (.invokestatic 66, 3) := by decide +kernel
theorem dX4_noteEdges_41 : decode cX4_noteEdges 41 = .ok (.iastore, 1) := by decide +kernel
theorem dX4_noteEdges_42 : decode cX4_noteEdges 42 = .ok (.aload_n 0, 1) := by decide +kernel
theorem dX4_noteEdges_43 : decode cX4_noteEdges 43 = .ok (.getfield 18, 3) := by decide +kernel
theorem dX4_noteEdges_46 : decode cX4_noteEdges 46 = .ok (.iload 4, 2) := by decide +kernel
theorem dX4_noteEdges_48 : decode cX4_noteEdges 48 = .ok (.iconst 4, 1) := by decide +kernel
theorem dX4_noteEdges_49 : decode cX4_noteEdges 49 = .ok (.iadd, 1) := by decide +kernel
theorem dX4_noteEdges_50 : decode cX4_noteEdges 50 = .ok (.aload_n 1, 1) := by decide +kernel
theorem dX4_noteEdges_51 : decode cX4_noteEdges 51 = .ok (.iload_n 2, 1) := by decide +kernel
theorem dX4_noteEdges_52 : decode cX4_noteEdges 52 = .ok (.iconst 4, 1) := by decide +kernel
theorem dX4_noteEdges_53 : decode cX4_noteEdges 53 = .ok (.iload_n 3, 1) := by decide +kernel
theorem dX4_noteEdges_54 : decode cX4_noteEdges 54 = .ok (.imul, 1) := by decide +kernel
theorem dX4_noteEdges_55 : decode cX4_noteEdges 55 = .ok (.invokestatic 66, 3) := by decide +kernel
theorem dX4_noteEdges_58 : decode cX4_noteEdges 58 = .ok (.iastore, 1) := by decide +kernel
theorem dX4_noteEdges_59 : decode cX4_noteEdges 59 = .ok (.aload_n 0, 1) := by decide +kernel
theorem dX4_noteEdges_60 : decode cX4_noteEdges 60 = .ok (.getfield 18, 3) := by decide +kernel
theorem dX4_noteEdges_63 : decode cX4_noteEdges 63 = .ok (.iload 4, 2) := by decide +kernel
theorem dX4_noteEdges_65 : decode cX4_noteEdges 65 = .ok (.bipush 8, 2) := by decide +kernel
theorem dX4_noteEdges_67 : decode cX4_noteEdges 67 = .ok (.iadd, 1) := by decide +kernel
theorem dX4_noteEdges_68 : decode cX4_noteEdges 68 = .ok (.aload_n 1, 1) := by decide +kernel
theorem dX4_noteEdges_69 : decode cX4_noteEdges 69 = .ok (.iload_n 2, 1) := by decide +kernel
theorem dX4_noteEdges_70 : decode cX4_noteEdges 70 = .ok (.bipush 12, 2) := by decide +kernel
theorem dX4_noteEdges_72 : decode cX4_noteEdges 72 = .ok (.iload_n 3, 1) := by decide +kernel
theorem dX4_noteEdges_73 : decode cX4_noteEdges 73 = .ok (.iadd, 1) := by decide +kernel
theorem dX4_noteEdges_74 : decode cX4_noteEdges 74 = .ok (.invokestatic 66, 3) := by decide +kernel
theorem dX4_noteEdges_77 : decode cX4_noteEdges 77 = .ok (.iastore, 1) := by decide +kernel
theorem dX4_noteEdges_78 : decode cX4_noteEdges 78 = .ok (.aload_n 0, 1) := by decide +kernel
theorem dX4_noteEdges_79 : decode cX4_noteEdges 79 = .ok (.getfield 18, 3) := by decide +kernel
theorem dX4_noteEdges_82 : decode cX4_noteEdges 82 = .ok (.iload 4, 2) := by decide +kernel
theorem dX4_noteEdges_84 : decode cX4_noteEdges 84 = .ok (.bipush 12, 2) := by decide +kernel
theorem dX4_noteEdges_86 : decode cX4_noteEdges 86 = .ok (.iadd, 1) := by decide +kernel
theorem dX4_noteEdges_87 : decode cX4_noteEdges 87 = .ok (.aload_n 1, 1) := by decide +kernel
theorem dX4_noteEdges_88 : decode cX4_noteEdges 88 = .ok (.iload_n 2, 1) := by decide +kernel
theorem dX4_noteEdges_89 : decode cX4_noteEdges 89 = .ok (.iload_n 3, 1) := by decide +kernel
theorem dX4_noteEdges_90 : decode cX4_noteEdges 90 = .ok (.invokestatic 66, 3) := by decide +kernel
theorem dX4_noteEdges_93 : decode cX4_noteEdges 93 = .ok (.iastore, 1) := by decide +kernel
theorem dX4_noteEdges_94 : decode cX4_noteEdges 94 = .ok (.iinc 3 1, 3) := by decide +kernel
theorem dX4_noteEdges_97 : decode cX4_noteEdges 97 = .ok (.goto (-87), 3) := by decide +kernel
theorem dX4_noteEdges_100 : decode cX4_noteEdges 100 = .ok (.iinc 2 1, 3) := by decide +kernel
theorem dX4_noteEdges_103 : decode cX4_noteEdges 103 = .ok (.goto (-101), 3) := by decide +kernel
theorem dX4_noteEdges_106 : decode cX4_noteEdges 106 = .ok (.return_, 1) := by decide +kernel
theorem dX4_colourOf_0 : decode cX4_colourOf 0 = .ok (.aload_n 0, 1) := by decide +kernel
theorem dX4_colourOf_1 : decode cX4_colourOf 1 = .ok (.iload_n 1, 1) := by decide +kernel
theorem dX4_colourOf_2 : decode cX4_colourOf 2 = .ok (.iconst 2, 1) := by decide +kernel
theorem dX4_colourOf_3 : decode cX4_colourOf 3 = .ok (.ishr, 1) := by decide +kernel
theorem dX4_colourOf_4 : decode cX4_colourOf 4 = .ok (.iload_n 1, 1) := by decide +kernel
theorem dX4_colourOf_5 : decode cX4_colourOf 5 = .ok (.iconst 3, 1) := by decide +kernel
theorem dX4_colourOf_6 : decode cX4_colourOf 6 = .ok (.iand, 1) := by decide +kernel
theorem dX4_colourOf_7 : decode cX4_colourOf 7 = .ok (.iload_n 2, 1) := by decide +kernel
theorem dX4_colourOf_8 : decode cX4_colourOf 8 = .ok (.iconst 4, 1) := by decide +kernel
theorem dX4_colourOf_9 : decode cX4_colourOf 9 = .ok (.invokestatic 70, 3) := by decide +kernel
theorem dX4_colourOf_12 : decode cX4_colourOf 12 = .ok (.invokestatic 74, 3) := by decide +kernel
theorem dX4_colourOf_15 : decode cX4_colourOf 15 = .ok (.invokevirtual 77, 3) := by decide +kernel
theorem dX4_colourOf_18 : decode cX4_colourOf 18 = .ok (.ireturn, 1) := by decide +kernel
theorem dX4_matchEdges_0 : decode cX4_matchEdges 0 = .ok (.iconst 0, 1) := by decide +kernel
theorem dX4_matchEdges_1 : decode cX4_matchEdges 1 = .ok (.istore_n 1, 1) := by decide +kernel
theorem dX4_matchEdges_2 : decode cX4_matchEdges 2 = .ok (.iload_n 1, 1) := by decide +kernel
theorem dX4_matchEdges_3 : decode cX4_matchEdges 3 = .ok (.bipush 16, 2) := by decide +kernel
theorem dX4_matchEdges_5 : decode cX4_matchEdges 5 = .ok (.if_icmp .ge 76, 3) := by decide +kernel
theorem dX4_matchEdges_8 : decode cX4_matchEdges 8 = .ok (.iconst 0, 1) := by decide +kernel
theorem dX4_matchEdges_9 : decode cX4_matchEdges 9 = .ok (.istore_n 2, 1) := by decide +kernel
theorem dX4_matchEdges_10 : decode cX4_matchEdges 10 = .ok (.iload_n 2, 1) := by decide +kernel
theorem dX4_matchEdges_11 : decode cX4_matchEdges 11 = .ok (.bipush 16, 2) := by decide +kernel
theorem dX4_matchEdges_13 : decode cX4_matchEdges 13 = .ok (.if_icmp .ge 62, 3) := by decide +kernel
theorem dX4_matchEdges_16 : decode cX4_matchEdges 16 = .ok (.iload_n 1, 1) := by decide +kernel
theorem dX4_matchEdges_17 : decode cX4_matchEdges 17 = .ok (.bipush 16, 2) := by decide +kernel
theorem dX4_matchEdges_19 : decode cX4_matchEdges 19 = .ok (.imul, 1) := by decide +kernel
theorem dX4_matchEdges_20 : decode cX4_matchEdges 20 = .ok (.iload_n 2, 1) := by decide +kernel
theorem dX4_matchEdges_21 : decode cX4_matchEdges 21 = .ok (.iadd, 1) := by decide +kernel
theorem dX4_matchEdges_22 : decode cX4_matchEdges 22 = .ok (.istore_n 3, 1) := by decide +kernel
theorem dX4_matchEdges_23 : decode cX4_matchEdges 23 = .ok (.aload_n 0, 1) := by decide +kernel
theorem dX4_matchEdges_24 : decode cX4_matchEdges 24 = .ok (.getfield 11, 3) := by decide +kernel
theorem dX4_matchEdges_27 : decode cX4_matchEdges 27 = .ok (.iload_n 3, 1) := by decide +kernel
theorem dX4_matchEdges_28 : decode cX4_matchEdges 28 = .ok (.aload_n 0, 1) := by decide +kernel
theorem dX4_matchEdges_29 : decode cX4_matchEdges 29 = .ok (.iload_n 1, 1) := by decide +kernel
theorem dX4_matchEdges_30 : decode cX4_matchEdges 30 = .ok (.bipush 16, 2) := by decide +kernel
theorem dX4_matchEdges_32 : decode cX4_matchEdges 32 = .ok (.imul, 1) := by decide +kernel
theorem dX4_matchEdges_33 : decode cX4_matchEdges 33 = .ok (.iconst 0, 1) := by decide +kernel
theorem dX4_matchEdges_34 : decode cX4_matchEdges 34 = .ok (.iadd, 1) := by decide +kernel
theorem dX4_matchEdges_35 : decode cX4_matchEdges 35 = .ok (.iload_n 2, 1) := by decide +kernel
theorem dX4_matchEdges_36 : decode cX4_matchEdges 36 = .ok (.bipush 16, 2) := by decide +kernel
theorem dX4_matchEdges_38 : decode cX4_matchEdges 38 = .ok (.imul, 1) := by decide +kernel
theorem dX4_matchEdges_39 : decode cX4_matchEdges 39 = .ok (.iconst 4, 1) := by decide +kernel
theorem dX4_matchEdges_40 : decode cX4_matchEdges 40 = .ok (.iadd, 1) := by decide +kernel
theorem dX4_matchEdges_41 : decode cX4_matchEdges 41 = .ok (.invokevirtual 81, 3) := by decide +kernel
theorem dX4_matchEdges_44 : decode cX4_matchEdges 44 = .ok (.iastore, 1) := by decide +kernel
theorem dX4_matchEdges_45 : decode cX4_matchEdges 45 = .ok (.aload_n 0, 1) := by decide +kernel
theorem dX4_matchEdges_46 : decode cX4_matchEdges 46 = .ok (.getfield 15, 3) := by decide +kernel
theorem dX4_matchEdges_49 : decode cX4_matchEdges 49 = .ok (.iload_n 3, 1) := by decide +kernel
theorem dX4_matchEdges_50 : decode cX4_matchEdges 50 = .ok (.aload_n 0, 1) := by decide +kernel
theorem dX4_matchEdges_51 : decode cX4_matchEdges 51 = .ok (.iload_n 1, 1) := by decide +kernel
theorem dX4_matchEdges_52 : decode cX4_matchEdges 52 = .ok (.bipush 16, 2) := by decide +kernel
theorem dX4_matchEdges_54 : decode cX4_matchEdges 54 = .ok (.imul, 1) := by decide +kernel
theorem dX4_matchEdges_55 : decode cX4_matchEdges 55 = .ok (.bipush 8, 2) := by decide +kernel
theorem dX4_matchEdges_57 : decode cX4_matchEdges 57 = .ok (.iadd, 1) := by decide +kernel
theorem dX4_matchEdges_58 : decode cX4_matchEdges 58 = .ok (.iload_n 2, 1) := by decide +kernel
theorem dX4_matchEdges_59 : decode cX4_matchEdges 59 = .ok (.bipush 16, 2) := by decide +kernel
theorem dX4_matchEdges_61 : decode cX4_matchEdges 61 = .ok (.imul, 1) := by decide +kernel
theorem dX4_matchEdges_62 : decode cX4_matchEdges 62 = .ok (.bipush 12, 2) := by decide +kernel
theorem dX4_matchEdges_64 : decode cX4_matchEdges 64 = .ok (.iadd, 1) := by decide +kernel
theorem dX4_matchEdges_65 : decode cX4_matchEdges 65 = .ok (.invokevirtual 81, 3) := by decide +kernel
theorem dX4_matchEdges_68 : decode cX4_matchEdges 68 = .ok (.iastore, 1) := by decide +kernel
theorem dX4_matchEdges_69 : decode cX4_matchEdges 69 = .ok (.iinc 2 1, 3) := by decide +kernel
theorem dX4_matchEdges_72 : decode cX4_matchEdges 72 = .ok (.goto (-62), 3) := by decide +kernel
theorem dX4_matchEdges_75 : decode cX4_matchEdges 75 = .ok (.iinc 1 1, 3) := by decide +kernel
theorem dX4_matchEdges_78 : decode cX4_matchEdges 78 = .ok (.goto (-76), 3) := by decide +kernel
theorem dX4_matchEdges_81 : decode cX4_matchEdges 81 = .ok (.return_, 1) := by decide +kernel
theorem dX4_alike_0 : decode cX4_alike 0 = .ok (.iconst 0, 1) := by decide +kernel
theorem dX4_alike_1 : decode cX4_alike 1 = .ok (.istore_n 3, 1) := by decide +kernel
theorem dX4_alike_2 : decode cX4_alike 2 = .ok (.iconst 0, 1) := by decide +kernel
theorem dX4_alike_3 : decode cX4_alike 3 = .ok (.istore 4, 2) := by decide +kernel
theorem dX4_alike_5 : decode cX4_alike 5 = .ok (.iload 4, 2) := by decide +kernel
theorem dX4_alike_7 : decode cX4_alike 7 = .ok (.iconst 4, 1) := by decide +kernel
theorem dX4_alike_8 : decode cX4_alike 8 = .ok (.if_icmp .ge 43, 3) := by decide +kernel
theorem dX4_alike_11 : decode cX4_alike 11 = .ok (.aload_n 0, 1) := by decide +kernel
theorem dX4_alike_12 : decode cX4_alike 12 = .ok (.getfield 18, 3) := by decide +kernel
theorem dX4_alike_15 : decode cX4_alike 15 = .ok (.iload_n 1, 1) := by decide +kernel
theorem dX4_alike_16 : decode cX4_alike 16 = .ok (.iload 4, 2) := by decide +kernel
theorem dX4_alike_18 : decode cX4_alike 18 = .ok (.iadd, 1) := by decide +kernel
theorem dX4_alike_19 : decode cX4_alike 19 = .ok (.iaload, 1) := by decide +kernel
theorem dX4_alike_20 : decode cX4_alike 20 = .ok (.istore 5, 2) := by decide +kernel
theorem dX4_alike_22 : decode cX4_alike 22 = .ok (.iload 5, 2) := by decide +kernel
theorem dX4_alike_24 : decode cX4_alike 24 = .ok (.iconst (-1), 1) := by decide +kernel
theorem dX4_alike_25 : decode cX4_alike 25 = .ok (.if_icmp .eq 20, 3) := by decide +kernel
theorem dX4_alike_28 : decode cX4_alike 28 = .ok (.iload 5, 2) := by decide +kernel
theorem dX4_alike_30 : decode cX4_alike 30 = .ok (.aload_n 0, 1) := by decide +kernel
theorem dX4_alike_31 : decode cX4_alike 31 = .ok (.getfield 18, 3) := by decide +kernel
theorem dX4_alike_34 : decode cX4_alike 34 = .ok (.iload_n 2, 1) := by decide +kernel
theorem dX4_alike_35 : decode cX4_alike 35 = .ok (.iload 4, 2) := by decide +kernel
theorem dX4_alike_37 : decode cX4_alike 37 = .ok (.iadd, 1) := by decide +kernel
theorem dX4_alike_38 : decode cX4_alike 38 = .ok (.iaload, 1) := by decide +kernel
theorem dX4_alike_39 : decode cX4_alike 39 = .ok (.if_icmp .ne 6, 3) := by decide +kernel
theorem dX4_alike_42 : decode cX4_alike 42 = .ok (.iinc 3 1, 3) := by decide +kernel
theorem dX4_alike_45 : decode cX4_alike 45 = .ok (.iinc 4 1, 3) := by decide +kernel
theorem dX4_alike_48 : decode cX4_alike 48 = .ok (.goto (-43), 3) := by decide +kernel
theorem dX4_alike_51 : decode cX4_alike 51 = .ok (.iload_n 3, 1) := by decide +kernel
theorem dX4_alike_52 : decode cX4_alike 52 = .ok (.ireturn, 1) := by decide +kernel
theorem dX4_weighTurns_0 : decode cX4_weighTurns 0 = .ok (.iload_n 1, 1) := by decide +kernel
theorem dX4_weighTurns_1 : decode cX4_weighTurns 1 = .ok (.iconst 0, 1) := by decide +kernel
theorem dX4_weighTurns_2 : decode cX4_weighTurns 2 = .ok (.invokestatic 29, 3) := by decide +kernel
theorem dX4_weighTurns_5 : decode cX4_weighTurns 5 = .ok (.iconst 4, 1) := by decide +kernel
theorem dX4_weighTurns_6 : decode cX4_weighTurns 6 = .ok (.imul, 1) := by decide +kernel
theorem dX4_weighTurns_7 : decode cX4_weighTurns 7 = .ok (.istore_n 2, 1) := by decide +kernel
theorem dX4_weighTurns_8 : decode cX4_weighTurns 8 = .ok (.iload_n 1, 1) := by decide +kernel
theorem dX4_weighTurns_9 : decode cX4_weighTurns 9 = .ok (.iconst 1, 1) := by decide +kernel
theorem dX4_weighTurns_10 : decode cX4_weighTurns 10 = .ok (.invokestatic 29, 3) := by decide +kernel
theorem dX4_weighTurns_13 : decode cX4_weighTurns 13 = .ok (.iconst 4, 1) := by decide +kernel
theorem dX4_weighTurns_14 : decode cX4_weighTurns 14 = .ok (.imul, 1) := by decide +kernel
theorem dX4_weighTurns_15 : decode cX4_weighTurns 15 = .ok (.istore_n 3, 1) := by decide +kernel
theorem dX4_weighTurns_16 : decode cX4_weighTurns 16 = .ok (.iload_n 1, 1) := by decide +kernel
theorem dX4_weighTurns_17 : decode cX4_weighTurns 17 = .ok (.iconst 2, 1) := by decide +kernel
theorem dX4_weighTurns_18 : decode cX4_weighTurns 18 = .ok (.invokestatic 29, 3) := by decide +kernel
theorem dX4_weighTurns_21 : decode cX4_weighTurns 21 = .ok (.iconst 4, 1) := by decide +kernel
theorem dX4_weighTurns_22 : decode cX4_weighTurns 22 = .ok (.imul, 1) := by decide +kernel
theorem dX4_weighTurns_23 : decode cX4_weighTurns 23 = .ok (.istore 4, 2) := by decide +kernel
theorem dX4_weighTurns_25 : decode cX4_weighTurns 25 = .ok (.iload_n 1, 1) := by decide +kernel
theorem dX4_weighTurns_26 : decode cX4_weighTurns 26 = .ok (.iconst 3, 1) := by decide +kernel
theorem dX4_weighTurns_27 : decode cX4_weighTurns 27 = .ok (.invokestatic 29, 3) := by decide +kernel
theorem dX4_weighTurns_30 : decode cX4_weighTurns 30 = .ok (.iconst 4, 1) := by decide +kernel
theorem dX4_weighTurns_31 : decode cX4_weighTurns 31 = .ok (.imul, 1) := by decide +kernel
theorem dX4_weighTurns_32 : decode cX4_weighTurns 32 = .ok (.istore 5, 2) := by decide +kernel
theorem dX4_weighTurns_34 : decode cX4_weighTurns 34 = .ok (.iconst 0, 1) := by decide +kernel
theorem dX4_weighTurns_35 : decode cX4_weighTurns 35 = .ok (.istore 6, 2) := by decide +kernel
theorem dX4_weighTurns_37 : decode cX4_weighTurns 37 = .ok (.iload 6, 2) := by decide +kernel
theorem dX4_weighTurns_39 : decode cX4_weighTurns 39 = .ok (.bipush 16, 2) := by decide +kernel
theorem dX4_weighTurns_41 : decode cX4_weighTurns 41 = .ok (.if_icmp .ge 176, 3) := by decide +kernel
theorem dX4_weighTurns_44 : decode cX4_weighTurns 44 = .ok (.iload_n 2, 1) := by decide +kernel
theorem dX4_weighTurns_45 : decode cX4_weighTurns 45 = .ok (.iload 6, 2) := by decide +kernel
theorem dX4_weighTurns_47 : decode cX4_weighTurns 47 = .ok (.iconst 2, 1) := by decide +kernel
theorem dX4_weighTurns_48 : decode cX4_weighTurns 48 = .ok (.ishr, 1) := by decide +kernel
theorem dX4_weighTurns_49 : decode cX4_weighTurns 49 = .ok (.iadd, 1) := by decide +kernel
theorem dX4_weighTurns_50 : decode cX4_weighTurns 50 = .ok (.istore 7, 2) := by decide +kernel
theorem dX4_weighTurns_52 : decode cX4_weighTurns 52 = .ok (.iload_n 3, 1) := by decide +kernel
theorem dX4_weighTurns_53 : decode cX4_weighTurns 53 = .ok (.iload 6, 2) := by decide +kernel
theorem dX4_weighTurns_55 : decode cX4_weighTurns 55 = .ok (.iconst 3, 1) := by decide +kernel
theorem dX4_weighTurns_56 : decode cX4_weighTurns 56 = .ok (.iand, 1) := by decide +kernel
theorem dX4_weighTurns_57 : decode cX4_weighTurns 57 = .ok (.iadd, 1) := by decide +kernel
theorem dX4_weighTurns_58 : decode cX4_weighTurns 58 = .ok (.istore 8, 2) := by decide +kernel
theorem dX4_weighTurns_60 : decode cX4_weighTurns 60 = .ok (.aload_n 0, 1) := by decide +kernel
theorem dX4_weighTurns_61 : decode cX4_weighTurns 61 = .ok (.getfield 11, 3) := by decide +kernel
theorem dX4_weighTurns_64 : decode cX4_weighTurns 64 = .ok (.iload 7, 2) := by decide +kernel
theorem dX4_weighTurns_66 : decode cX4_weighTurns 66 = .ok (.bipush 16, 2) := by decide +kernel
theorem dX4_weighTurns_68 : decode cX4_weighTurns 68 = .ok (.imul, 1) := by decide +kernel
theorem dX4_weighTurns_69 : decode cX4_weighTurns 69 = .ok (.iload 8, 2) := by decide +kernel
theorem dX4_weighTurns_71 : decode cX4_weighTurns 71 = .ok (.iadd, 1) := by decide +kernel
theorem dX4_weighTurns_72 : decode cX4_weighTurns 72 = .ok (.iaload, 1) := by decide +kernel
theorem dX4_weighTurns_73 : decode cX4_weighTurns 73 = .ok (.istore 9, 2) := by decide +kernel
theorem dX4_weighTurns_75 : decode cX4_weighTurns 75 = .ok (.iconst 0, 1) := by decide +kernel
theorem dX4_weighTurns_76 : decode cX4_weighTurns 76 = .ok (.istore 10, 2) := by decide +kernel
theorem dX4_weighTurns_78 : decode cX4_weighTurns 78 = .ok (.iload 10, 2) := by decide +kernel
theorem dX4_weighTurns_80 : decode cX4_weighTurns 80 = .ok (.bipush 16, 2) := by decide +kernel
theorem dX4_weighTurns_82 : decode cX4_weighTurns 82 = .ok (.if_icmp .ge 129, 3) := by decide +kernel
theorem dX4_weighTurns_85 : decode cX4_weighTurns 85 = .ok (.iload 4, 2) := by decide +kernel
theorem dX4_weighTurns_87 : decode cX4_weighTurns 87 = .ok (.iload 10, 2) := by decide +kernel
theorem dX4_weighTurns_89 : decode cX4_weighTurns 89 = .ok (.iconst 2, 1) := by decide +kernel
theorem dX4_weighTurns_90 : decode cX4_weighTurns 90 = .ok (.ishr, 1) := by decide +kernel
theorem dX4_weighTurns_91 : decode cX4_weighTurns 91 = .ok (.iadd, 1) := by decide +kernel
theorem dX4_weighTurns_92 : decode cX4_weighTurns 92 = .ok (.istore 11, 2) := by decide +kernel
theorem dX4_weighTurns_94 : decode cX4_weighTurns 94 = .ok (.iload 5, 2) := by decide +kernel
theorem dX4_weighTurns_96 : decode cX4_weighTurns 96 = .ok (.iload 10, 2) := by decide +kernel
theorem dX4_weighTurns_98 : decode cX4_weighTurns 98 = .ok (.iconst 3, 1) := by decide +kernel
theorem dX4_weighTurns_99 : decode cX4_weighTurns 99 = .ok (.iand, 1) := by decide +kernel
theorem dX4_weighTurns_100 : decode cX4_weighTurns 100 = .ok (.iadd, 1) := by decide +kernel
theorem dX4_weighTurns_101 : decode cX4_weighTurns 101 = .ok (.istore 12, 2) := by decide +kernel
theorem dX4_weighTurns_103 : decode cX4_weighTurns 103 = .ok (.iload 9, 2) := by decide +kernel
theorem dX4_weighTurns_105 : decode cX4_weighTurns 105 = .ok (.aload_n 0, 1) := by decide +kernel
theorem dX4_weighTurns_106 : decode cX4_weighTurns 106 = .ok (.getfield 15, 3) := by decide +kernel
theorem dX4_weighTurns_109 : decode cX4_weighTurns 109 = .ok (.iload 7, 2) := by decide +kernel
theorem dX4_weighTurns_111 : decode cX4_weighTurns 111 = .ok (.bipush 16, 2) := by decide +kernel
theorem dX4_weighTurns_113 : decode cX4_weighTurns 113 = .ok (.imul, 1) := by decide +kernel
theorem dX4_weighTurns_114 : decode cX4_weighTurns 114 = .ok (.iload 11, 2) := by decide +kernel
theorem dX4_weighTurns_116 : decode cX4_weighTurns 116 = .ok (.iadd, 1) := by decide +kernel
theorem dX4_weighTurns_117 : decode cX4_weighTurns 117 = .ok (.iaload, 1) := by decide +kernel
theorem dX4_weighTurns_118 : decode cX4_weighTurns 118 = .ok (.iadd, 1) := by decide +kernel
theorem dX4_weighTurns_119 : decode cX4_weighTurns 119 = .ok (.aload_n 0, 1) := by decide +kernel
theorem dX4_weighTurns_120 : decode cX4_weighTurns 120 = .ok (.getfield 15, 3) := by decide +kernel
theorem dX4_weighTurns_123 : decode cX4_weighTurns 123 = .ok (.iload 8, 2) := by decide +kernel
theorem dX4_weighTurns_125 : decode cX4_weighTurns 125 = .ok (.bipush 16, 2) := by decide +kernel
theorem dX4_weighTurns_127 : decode cX4_weighTurns 127 = .ok (.imul, 1) := by decide +kernel
theorem dX4_weighTurns_128 : decode cX4_weighTurns 128 = .ok (.iload 12, 2) := by decide +kernel
theorem dX4_weighTurns_130 : decode cX4_weighTurns 130 = .ok (.iadd, 1) := by decide +kernel
theorem dX4_weighTurns_131 : decode cX4_weighTurns 131 = .ok (.iaload, 1) := by decide +kernel
theorem dX4_weighTurns_132 : decode cX4_weighTurns 132 = .ok (.iadd, 1) := by decide +kernel
theorem dX4_weighTurns_133 : decode cX4_weighTurns 133 = .ok (.aload_n 0, 1) := by decide +kernel
theorem dX4_weighTurns_134 : decode cX4_weighTurns 134 = .ok (.getfield 11, 3) := by decide +kernel
theorem dX4_weighTurns_137 : decode cX4_weighTurns 137 = .ok (.iload 11, 2) := by decide +kernel
theorem dX4_weighTurns_139 : decode cX4_weighTurns 139 = .ok (.bipush 16, 2) := by decide +kernel
theorem dX4_weighTurns_141 : decode cX4_weighTurns 141 = .ok (.imul, 1) := by decide +kernel
theorem dX4_weighTurns_142 : decode cX4_weighTurns 142 = .ok (.iload 12, 2) := by decide +kernel
theorem dX4_weighTurns_144 : decode cX4_weighTurns 144 = .ok (.iadd, 1) := by decide +kernel
theorem dX4_weighTurns_145 : decode cX4_weighTurns 145 = .ok (.iaload, 1) := by decide +kernel
theorem dX4_weighTurns_146 : decode cX4_weighTurns 146 = .ok (.iadd, 1) := by decide +kernel
theorem dX4_weighTurns_147 : decode cX4_weighTurns 147 = .ok (.istore 13, 2) := by decide +kernel
theorem dX4_weighTurns_149 : decode cX4_weighTurns 149 = .ok (.iload 13, 2) := by decide +kernel
theorem dX4_weighTurns_151 : decode cX4_weighTurns 151 = .ok (.aload_n 0, 1) := by decide +kernel
theorem dX4_weighTurns_152 : decode cX4_weighTurns 152 = .ok (.getfield 33, 3) := by decide +kernel
theorem dX4_weighTurns_155 : decode cX4_weighTurns 155 = .ok (.if_icmp .le 31, 3) := by decide +kernel
theorem dX4_weighTurns_158 : decode cX4_weighTurns 158 = .ok (.aload_n 0, 1) := by decide +kernel
theorem dX4_weighTurns_159 : decode cX4_weighTurns 159 = .ok (.iload 13, 2) := by decide +kernel
theorem dX4_weighTurns_161 : decode cX4_weighTurns 161 = .ok (.putfield 33, 3) := by decide +kernel
theorem dX4_weighTurns_164 : decode cX4_weighTurns 164 = .ok (.aload_n 0, 1) := by decide +kernel
theorem dX4_weighTurns_165 : decode cX4_weighTurns 165 = .ok (.iload_n 1, 1) := by decide +kernel
theorem dX4_weighTurns_166 : decode cX4_weighTurns 166 = .ok (.putfield 36, 3) := by decide +kernel
theorem dX4_weighTurns_169 : decode cX4_weighTurns 169 = .ok (.aload_n 0, 1) := by decide +kernel
theorem dX4_weighTurns_170 : decode cX4_weighTurns 170 = .ok (.iload 6, 2) := by decide +kernel
theorem dX4_weighTurns_172 : decode cX4_weighTurns 172 = .ok (.bipush 16, 2) := by decide +kernel
theorem dX4_weighTurns_174 : decode cX4_weighTurns 174 = .ok (.imul, 1) := by decide +kernel
theorem dX4_weighTurns_175 : decode cX4_weighTurns 175 = .ok (.iload 10, 2) := by decide +kernel
theorem dX4_weighTurns_177 : decode cX4_weighTurns 177 = .ok (.iadd, 1) := by decide +kernel
theorem dX4_weighTurns_178 : decode cX4_weighTurns 178 = .ok (.putfield 39, 3) := by decide +kernel
theorem dX4_weighTurns_181 : decode cX4_weighTurns 181 = .ok (.aload_n 0, 1) := by decide +kernel
theorem dX4_weighTurns_182 : decode cX4_weighTurns 182 = .ok (.iconst 0, 1) := by decide +kernel
theorem dX4_weighTurns_183 : decode cX4_weighTurns 183 = .ok (.putfield 42, 3) := by decide +kernel
theorem dX4_weighTurns_186 : decode cX4_weighTurns 186 = .ok (.iload 13, 2) := by decide +kernel
theorem dX4_weighTurns_188 : decode cX4_weighTurns 188 = .ok (.aload_n 0, 1) := by decide +kernel
theorem dX4_weighTurns_189 : decode cX4_weighTurns 189 = .ok (.getfield 33, 3) := by decide +kernel
theorem dX4_weighTurns_192 : decode cX4_weighTurns 192 = .ok (.if_icmp .ne 13, 3) := by decide +kernel
theorem dX4_weighTurns_195 : decode cX4_weighTurns 195 = .ok (.aload_n 0, 1) := by decide +kernel
theorem dX4_weighTurns_196 : decode cX4_weighTurns 196 = .ok (.dup, 1) := by decide +kernel
theorem dX4_weighTurns_197 : decode cX4_weighTurns 197 = .ok (.getfield 42, 3) := by decide +kernel
theorem dX4_weighTurns_200 : decode cX4_weighTurns 200 = .ok (.iconst 1, 1) := by decide +kernel
theorem dX4_weighTurns_201 : decode cX4_weighTurns 201 = .ok (.iadd, 1) := by decide +kernel
theorem dX4_weighTurns_202 : decode cX4_weighTurns 202 = .ok (.putfield 42, 3) := by decide +kernel
theorem dX4_weighTurns_205 : decode cX4_weighTurns 205 = .ok (.iinc 10 1, 3) := by decide +kernel
theorem dX4_weighTurns_208 : decode cX4_weighTurns 208 = .ok (.goto (-130), 3) := by decide +kernel
theorem dX4_weighTurns_211 : decode cX4_weighTurns 211 = .ok (.iinc 6 1, 3) := by decide +kernel
theorem dX4_weighTurns_214 : decode cX4_weighTurns 214 = .ok (.goto (-177), 3) := by decide +kernel
theorem dX4_weighTurns_217 : decode cX4_weighTurns 217 = .ok (.return_, 1) := by decide +kernel
theorem dX5_init_0 : decode cX5_init 0 = .ok (.aload_n 0, 1) := by decide +kernel
theorem dX5_init_1 : decode cX5_init 1 = .ok (.invokespecial 3, 3) := by decide +kernel
theorem dX5_init_4 : decode cX5_init 4 = .ok (.aload_n 0, 1) := by decide +kernel
theorem dX5_init_5 : decode cX5_init 5 = .ok (.aload_n 1, 1) := by decide +kernel
theorem dX5_init_6 : decode cX5_init 6 = .ok (.putfield 9, 3) := by decide +kernel
theorem dX5_init_9 : decode cX5_init 9 = .ok (.aload_n 0, 1) := by decide +kernel
theorem dX5_init_10 : decode cX5_init 10 = .ok (.aload_n 2, 1) := by decide +kernel
theorem dX5_init_11 : decode cX5_init 11 = .ok (.putfield 15, 3) := by decide +kernel
theorem dX5_init_14 : decode cX5_init 14 = .ok (.return_, 1) := by decide +kernel
theorem dX5_faultFound_0 : decode cX5_faultFound 0 = .ok (.aload_n 0, 1) := by decide +kernel
theorem dX5_faultFound_1 : decode cX5_faultFound 1 = .ok (.getfield 19, 3) := by decide +kernel
theorem dX5_faultFound_4 : decode cX5_faultFound 4 = .ok (.ireturn, 1) := by decide +kernel
theorem dX5_faultPlace_0 : decode cX5_faultPlace 0 = .ok (.aload_n 0, 1) := by decide +kernel
theorem dX5_faultPlace_1 : decode cX5_faultPlace 1 = .ok (.getfield 23, 3) := by decide +kernel
theorem dX5_faultPlace_4 : decode cX5_faultPlace 4 = .ok (.ireturn, 1) := by decide +kernel
theorem dX5_begin_0 : decode cX5_begin 0 = .ok (.aload_n 0, 1) := by decide +kernel
theorem dX5_begin_1 : decode cX5_begin 1 = .ok (.aload_n 1, 1) := by decide +kernel
theorem dX5_begin_2 : decode cX5_begin 2 = .ok (.putfield 15, 3) := by decide +kernel
theorem dX5_begin_5 : decode cX5_begin 5 = .ok (.aload_n 0, 1) := by decide +kernel
theorem dX5_begin_6 : decode cX5_begin 6 = .ok (.getfield 15, 3) := by decide +kernel
theorem dX5_begin_9 : decode cX5_begin 9 = .ok (.invokevirtual 26, 3) := by decide +kernel
theorem dX5_begin_12 : decode cX5_begin 12 = .ok (.aload_n 0, 1) := by decide +kernel
theorem dX5_begin_13 : decode cX5_begin 13 = .ok (.getfield 9, 3) := by decide +kernel
theorem dX5_begin_16 : decode cX5_begin 16 = .ok (.invokevirtual 31, 3) := by decide +kernel
theorem dX5_begin_19 : decode cX5_begin 19 = .ok (.aload_n 0, 1) := by decide +kernel
theorem dX5_begin_20 : decode cX5_begin 20 = .ok (.iconst 0, 1) := by decide +kernel
theorem dX5_begin_21 : decode cX5_begin 21 = .ok (.putfield 19, 3) := by decide +kernel
theorem dX5_begin_24 : decode cX5_begin 24 = .ok (.aload_n 0, 1) := by decide +kernel
theorem dX5_begin_25 : decode cX5_begin 25 = .ok (.iconst 0, 1) := by decide +kernel
theorem dX5_begin_26 : decode cX5_begin 26 = .ok (.putfield 23, 3) := by decide +kernel
theorem dX5_begin_29 : decode cX5_begin 29 = .ok (.return_, 1) := by decide +kernel
theorem dX5_refuse_0 : decode cX5_refuse 0 = .ok (.aload_n 0, 1) := by decide +kernel
theorem dX5_refuse_1 : decode cX5_refuse 1 = .ok (.iload_n 1, 1) := by decide +kernel
theorem dX5_refuse_2 : decode cX5_refuse 2 = .ok (.putfield 19, 3) := by decide +kernel
theorem dX5_refuse_5 : decode cX5_refuse 5 = .ok (.aload_n 0, 1) := by decide +kernel
theorem dX5_refuse_6 : decode cX5_refuse 6 = .ok (.aload_n 0, 1) := by decide +kernel
theorem dX5_refuse_7 : decode cX5_refuse 7 = .ok (.getfield 9, 3) := by decide +kernel
theorem dX5_refuse_10 : decode cX5_refuse 10 = .ok (.invokevirtual 36, 3) := by decide +kernel
theorem dX5_refuse_13 : decode cX5_refuse 13 = .ok (.putfield 23, 3) := by decide +kernel
theorem dX5_refuse_16 : decode cX5_refuse 16 = .ok (.iconst 0, 1) := by decide +kernel
theorem dX5_refuse_17 : decode cX5_refuse 17 = .ok (.ireturn, 1) := by decide +kernel
theorem dX5_refuseKind_0 : decode cX5_refuseKind 0 = .ok (.aload_n 0, 1) := by decide +kernel
theorem dX5_refuseKind_1 : decode cX5_refuseKind 1 = .ok (.iload_n 1, 1) := by decide +kernel
theorem dX5_refuseKind_2 : decode cX5_refuseKind 2 = .ok (.ifCond .ne 7, 3) := by decide +kernel
theorem dX5_refuseKind_5 : decode cX5_refuseKind 5 = .ok (.iconst 1, 1) := by decide +kernel
theorem dX5_refuseKind_6 : decode cX5_refuseKind 6 = .ok (.goto 4, 3) := by decide +kernel
theorem dX5_refuseKind_9 : decode cX5_refuseKind 9 = .ok (.iconst 2, 1) := by decide +kernel
theorem dX5_refuseKind_10 : decode cX5_refuseKind 10 = .ok (.invokevirtual 40, 3) := by decide +kernel
theorem dX5_refuseKind_13 : decode cX5_refuseKind 13 = .ok (.ireturn, 1) := by decide +kernel
theorem dX5_takeKind_0 : decode cX5_takeKind 0 = .ok (.aload_n 0, 1) := by decide +kernel
theorem dX5_takeKind_1 : decode cX5_takeKind 1 = .ok (.getfield 9, 3) := by decide +kernel
theorem dX5_takeKind_4 : decode cX5_takeKind 4 = .ok (.invokevirtual 44, 3) := by decide +kernel
theorem dX5_takeKind_7 : decode cX5_takeKind 7 = .ok (.istore_n 2, 1) := by decide +kernel
theorem dX5_takeKind_8 : decode cX5_takeKind 8 = .ok (.iload_n 2, 1) := by decide +kernel
theorem dX5_takeKind_9 : decode cX5_takeKind 9 = .ok (.iload_n 1, 1) := by decide +kernel
theorem dX5_takeKind_10 : decode cX5_takeKind 10 = .ok (.if_icmp .eq 11, 3) := by decide +kernel
theorem dX5_takeKind_13 : decode cX5_takeKind 13 = .ok (.aload_n 0, 1) := by decide +kernel
theorem dX5_takeKind_14 : decode cX5_takeKind 14 = .ok (.iload_n 2, 1) := by decide +kernel
theorem dX5_takeKind_15 : decode cX5_takeKind 15 = .ok (.invokevirtual 47, 3) := by decide +kernel
theorem dX5_takeKind_18 : decode cX5_takeKind 18 = .ok (.ifCond .eq 7, 3) := by decide +kernel
theorem dX5_takeKind_21 : decode cX5_takeKind 21 = .ok (.iconst 1, 1) := by decide +kernel
theorem dX5_takeKind_22 : decode cX5_takeKind 22 = .ok (.goto 4, 3) := by decide +kernel
theorem dX5_takeKind_25 : decode cX5_takeKind 25 = .ok (.iconst 0, 1) := by decide +kernel
theorem dX5_takeKind_26 : decode cX5_takeKind 26 = .ok (.ireturn, 1) := by decide +kernel
theorem dX5_takeNumber_0 : decode cX5_takeNumber 0 = .ok (.aload_n 0, 1) := by decide +kernel
theorem dX5_takeNumber_1 : decode cX5_takeNumber 1 = .ok (.iconst 3, 1) := by decide +kernel
theorem dX5_takeNumber_2 : decode cX5_takeNumber 2 = .ok (.invokevirtual 50, 3) := by decide +kernel
theorem dX5_takeNumber_5 : decode cX5_takeNumber 5 = .ok (.ifCond .ne 5, 3) := by decide +kernel
theorem dX5_takeNumber_8 : decode cX5_takeNumber 8 = .ok (.iconst 0, 1) := by decide +kernel
theorem dX5_takeNumber_9 : decode cX5_takeNumber 9 = .ok (.ireturn, 1) := by decide +kernel
theorem dX5_takeNumber_10 : decode cX5_takeNumber 10 = .ok (.aload_n 0, 1) := by decide +kernel
theorem dX5_takeNumber_11 : decode cX5_takeNumber 11 = .ok (.aload_n 0, 1) := by decide +kernel
theorem dX5_takeNumber_12 : decode cX5_takeNumber 12 = .ok (.getfield 9, 3) := by decide +kernel
theorem dX5_takeNumber_15 : decode cX5_takeNumber 15 = .ok (.invokevirtual 53, 3) := by decide +kernel
theorem dX5_takeNumber_18 : decode cX5_takeNumber 18 = .ok (.putfield 56, 3) := by decide +kernel
theorem dX5_takeNumber_21 : decode cX5_takeNumber 21 = .ok (.aload_n 0, 1) := by decide +kernel
theorem dX5_takeNumber_22 : decode cX5_takeNumber 22 = .ok (.getfield 56, 3) := by decide +kernel
theorem dX5_takeNumber_25 : decode cX5_takeNumber 25 = .ok (.iload_n 1, 1) := by decide +kernel
theorem dX5_takeNumber_26 : decode cX5_takeNumber 26 = .ok (.iload_n 2, 1) := by decide +kernel
theorem dX5_takeNumber_27 : decode cX5_takeNumber 27 = .ok (.invokestatic 59, 3) := by decide +kernel
theorem dX5_takeNumber_30 : decode cX5_takeNumber 30 = .ok (.ifCond .ne 11, 3) := by decide +kernel
theorem dX5_takeNumber_33 : decode cX5_takeNumber 33 = .ok (.aload_n 0, 1) := by decide +kernel
theorem dX5_takeNumber_34 : decode cX5_takeNumber 34 = .ok (.iconst 3, 1) := by decide +kernel
theorem dX5_takeNumber_35 : decode cX5_takeNumber 35 = .ok (.invokevirtual 40, 3) := by decide +kernel
theorem dX5_takeNumber_38 : decode cX5_takeNumber 38 = .ok (.ifCond .eq 7, 3) := by decide +kernel
theorem dX5_takeNumber_41 : decode cX5_takeNumber 41 = .ok (.iconst 1, 1) := by decide +kernel
theorem dX5_takeNumber_42 : decode cX5_takeNumber 42 = .ok (.goto 4, 3) := by decide +kernel
theorem dX5_takeNumber_45 : decode cX5_takeNumber 45 = .ok (.iconst 0, 1) := by decide +kernel
theorem dX5_takeNumber_46 : decode cX5_takeNumber 46 = .ok (.ireturn, 1) := by decide +kernel
theorem dX5_takeLine_0 : decode cX5_takeLine 0 = .ok (.aload_n 0, 1) := by decide +kernel
theorem dX5_takeLine_1 : decode cX5_takeLine 1 = .ok (.getfield 9, 3) := by decide +kernel
theorem dX5_takeLine_4 : decode cX5_takeLine 4 = .ok (.invokevirtual 44, 3) := by decide +kernel
theorem dX5_takeLine_7 : decode cX5_takeLine 7 = .ok (.istore_n 1, 1) := by decide +kernel
theorem dX5_takeLine_8 : decode cX5_takeLine 8 = .ok (.iload_n 1, 1) := by decide +kernel
theorem dX5_takeLine_9 : decode cX5_takeLine 9 = .ok (.iconst 1, 1) := by decide +kernel
theorem dX5_takeLine_10 : decode cX5_takeLine 10 = .ok (.if_icmp .ne 5, 3) := by decide +kernel
theorem dX5_takeLine_13 : decode cX5_takeLine 13 = .ok (.iconst 0, 1) := by decide +kernel
theorem dX5_takeLine_14 : decode cX5_takeLine 14 = .ok (.ireturn, 1) := by decide +kernel
theorem dX5_takeLine_15 : decode cX5_takeLine 15 = .ok (.iload_n 1, 1) := by decide +kernel
theorem dX5_takeLine_16 : decode cX5_takeLine 16 = .ok (.iconst 2, 1) := by decide +kernel
theorem dX5_takeLine_17 : decode cX5_takeLine 17 = .ok (.if_icmp .eq 9, 3) := by decide +kernel
theorem dX5_takeLine_20 : decode cX5_takeLine 20 = .ok (.aload_n 0, 1) := by decide +kernel
theorem dX5_takeLine_21 : decode cX5_takeLine 21 = .ok (.iload_n 1, 1) := by decide +kernel
theorem dX5_takeLine_22 : decode cX5_takeLine 22 = .ok (.invokevirtual 47, 3) := by decide +kernel
theorem dX5_takeLine_25 : decode cX5_takeLine 25 = .ok (.ireturn, 1) := by decide +kernel
theorem dX5_takeLine_26 : decode cX5_takeLine 26 = .ok (.aload_n 0, 1) := by decide +kernel
theorem dX5_takeLine_27 : decode cX5_takeLine 27 = .ok (.getfield 9, 3) := by decide +kernel
theorem dX5_takeLine_30 : decode cX5_takeLine 30 = .ok (.ldc 63, 2) := by decide +kernel
theorem dX5_takeLine_32 : decode cX5_takeLine 32 = .ok (.invokevirtual 65, 3) := by decide +kernel
theorem dX5_takeLine_35 : decode cX5_takeLine 35 = .ok (.ifCond .eq 8, 3) := by decide +kernel
theorem dX5_takeLine_38 : decode cX5_takeLine 38 = .ok (.aload_n 0, 1) := by decide +kernel
theorem dX5_takeLine_39 : decode cX5_takeLine 39 = .ok (.invokevirtual 69, 3) := by decide +kernel
theorem dX5_takeLine_42 : decode cX5_takeLine 42 = .ok (.ireturn, 1) := by decide +kernel
theorem dX5_takeLine_43 : decode cX5_takeLine 43 = .ok (.aload_n 0, 1) := by decide +kernel
theorem dX5_takeLine_44 : decode cX5_takeLine 44 = .ok (.getfield 9, 3) := by decide +kernel
theorem dX5_takeLine_47 : decode cX5_takeLine 47 = .ok (.ldc 73, 2) := by decide +kernel
theorem dX5_takeLine_49 : decode cX5_takeLine 49 = .ok (.invokevirtual 65, 3) := by decide +kernel
theorem dX5_takeLine_52 : decode cX5_takeLine 52 = .ok (.ifCond .eq 8, 3) := by decide +kernel
theorem dX5_takeLine_55 : decode cX5_takeLine 55 = .ok (.aload_n 0, 1) := by decide +kernel
theorem dX5_takeLine_56 : decode cX5_takeLine 56 = .ok (.invokevirtual 75, 3) := by decide +kernel
theorem dX5_takeLine_59 : decode cX5_takeLine 59 = .ok (.ireturn, 1) := by decide +kernel
theorem dX5_takeLine_60 : decode cX5_takeLine 60 = .ok (.aload_n 0, 1) := by decide +kernel
theorem dX5_takeLine_61 : decode cX5_takeLine 61 = .ok (.getfield 9, 3) := by decide +kernel
theorem dX5_takeLine_64 : decode cX5_takeLine 64 = .ok (.ldc 78, 2) := by decide +kernel
theorem dX5_takeLine_66 : decode cX5_takeLine 66 = .ok (.invokevirtual 65, 3) := by decide +kernel
theorem dX5_takeLine_69 : decode cX5_takeLine 69 = .ok (.ifCond .eq 8, 3) := by decide +kernel
theorem dX5_takeLine_72 : decode cX5_takeLine 72 = .ok (.aload_n 0, 1) := by decide +kernel
theorem dX5_takeLine_73 : decode cX5_takeLine 73 = .ok (.invokevirtual 80, 3) := by decide +kernel
theorem dX5_takeLine_76 : decode cX5_takeLine 76 = .ok (.ireturn, 1) := by decide +kernel
theorem dX5_takeLine_77 : decode cX5_takeLine 77 = .ok (.aload_n 0, 1) := by decide +kernel
theorem dX5_takeLine_78 : decode cX5_takeLine 78 = .ok (.getfield 9, 3) := by decide +kernel
theorem dX5_takeLine_81 : decode cX5_takeLine 81 = .ok (.ldc 83, 2) := by decide +kernel
theorem dX5_takeLine_83 : decode cX5_takeLine 83 = .ok (.invokevirtual 65, 3) := by decide +kernel
theorem dX5_takeLine_86 : decode cX5_takeLine 86 = .ok (.ifCond .eq 8, 3) := by decide +kernel
theorem dX5_takeLine_89 : decode cX5_takeLine 89 = .ok (.aload_n 0, 1) := by decide +kernel
theorem dX5_takeLine_90 : decode cX5_takeLine 90 = .ok (.invokevirtual 85, 3) := by decide +kernel
theorem dX5_takeLine_93 : decode cX5_takeLine 93 = .ok (.ireturn, 1) := by decide +kernel
theorem dX5_takeLine_94 : decode cX5_takeLine 94 = .ok (.aload_n 0, 1) := by decide +kernel
theorem dX5_takeLine_95 : decode cX5_takeLine 95 = .ok (.getfield 9, 3) := by decide +kernel
theorem dX5_takeLine_98 : decode cX5_takeLine 98 = .ok (.ldc 88, 2) := by decide +kernel
theorem dX5_takeLine_100 : decode cX5_takeLine 100 = .ok (.invokevirtual 65, 3) := by decide +kernel
theorem dX5_takeLine_103 : decode cX5_takeLine 103 = .ok (.ifCond .eq 8, 3) := by decide +kernel
theorem dX5_takeLine_106 : decode cX5_takeLine 106 = .ok (.aload_n 0, 1) := by decide +kernel
theorem dX5_takeLine_107 : decode cX5_takeLine 107 = .ok (.invokevirtual 90, 3) := by decide +kernel
theorem dX5_takeLine_110 : decode cX5_takeLine 110 = .ok (.ireturn, 1) := by decide +kernel
theorem dX5_takeLine_111 : decode cX5_takeLine 111 = .ok (.aload_n 0, 1) := by decide +kernel
theorem dX5_takeLine_112 : decode cX5_takeLine 112 = .ok (.getfield 9, 3) := by decide +kernel
theorem dX5_takeLine_115 : decode cX5_takeLine 115 = .ok (.ldc 93, 2) := by decide +kernel
theorem dX5_takeLine_117 : decode cX5_takeLine 117 = .ok (.invokevirtual 65, 3) := by decide +kernel
theorem dX5_takeLine_120 : decode cX5_takeLine 120 = .ok (.ifCond .eq 10, 3) := by decide +kernel
theorem dX5_takeLine_123 : decode cX5_takeLine 123 = .ok (.aload_n 0, 1) := by decide +kernel
theorem dX5_takeLine_124 : decode cX5_takeLine 124 = .ok (.invokevirtual 95, 3) := by decide +kernel
theorem dX5_takeLine_127 : decode cX5_takeLine 127 = .ok (.goto 8, 3) := by decide +kernel
theorem dX5_takeLine_130 : decode cX5_takeLine 130 = .ok (.aload_n 0, 1) := by decide +kernel
theorem dX5_takeLine_131 : decode cX5_takeLine 131 = .ok (.iconst 2, 1) := by decide +kernel
theorem dX5_takeLine_132 : decode cX5_takeLine 132 = .ok (.invokevirtual 40, 3) := by decide +kernel
theorem dX5_takeLine_135 : decode cX5_takeLine 135 = .ok (.ireturn, 1) := by decide +kernel
theorem dX5_takeRow_0 : decode cX5_takeRow 0 = .ok (.aload_n 0, 1) := by decide +kernel
theorem dX5_takeRow_1 : decode cX5_takeRow 1 = .ok (.getfield 15, 3) := by decide +kernel
theorem dX5_takeRow_4 : decode cX5_takeRow 4 = .ok (.invokevirtual 98, 3) := by decide +kernel
theorem dX5_takeRow_7 : decode cX5_takeRow 7 = .ok (.bipush 12, 2) := by decide +kernel
theorem dX5_takeRow_9 : decode cX5_takeRow 9 = .ok (.if_icmp .lt 9, 3) := by decide +kernel
theorem dX5_takeRow_12 : decode cX5_takeRow 12 = .ok (.aload_n 0, 1) := by decide +kernel
theorem dX5_takeRow_13 : decode cX5_takeRow 13 = .ok (.iconst 5, 1) := by decide +kernel
theorem dX5_takeRow_14 : decode cX5_takeRow 14 = .ok (.invokevirtual 40, 3) := by decide +kernel
theorem dX5_takeRow_17 : decode cX5_takeRow 17 = .ok (.ireturn, 1) := by decide +kernel
theorem dX5_takeRow_18 : decode cX5_takeRow 18 = .ok (.aload_n 0, 1) := by decide +kernel
theorem dX5_takeRow_19 : decode cX5_takeRow 19 = .ok (.iconst 1, 1) := by decide +kernel
theorem dX5_takeRow_20 : decode cX5_takeRow 20 = .ok (.bipush 99, 2) := by decide +kernel
theorem dX5_takeRow_22 : decode cX5_takeRow 22 = .ok (.invokevirtual 101, 3) := by decide +kernel
theorem dX5_takeRow_25 : decode cX5_takeRow 25 = .ok (.ifCond .ne 5, 3) := by decide +kernel
theorem dX5_takeRow_28 : decode cX5_takeRow 28 = .ok (.iconst 0, 1) := by decide +kernel
theorem dX5_takeRow_29 : decode cX5_takeRow 29 = .ok (.ireturn, 1) := by decide +kernel
theorem dX5_takeRow_30 : decode cX5_takeRow 30 = .ok (.aload_n 0, 1) := by decide +kernel
theorem dX5_takeRow_31 : decode cX5_takeRow 31 = .ok (.getfield 56, 3) := by decide +kernel
theorem dX5_takeRow_34 : decode cX5_takeRow 34 = .ok (.istore_n 1, 1) := by decide +kernel
theorem dX5_takeRow_35 : decode cX5_takeRow 35 = .ok (.aload_n 0, 1) := by decide +kernel
theorem dX5_takeRow_36 : decode cX5_takeRow 36 = .ok (.iconst 1, 1) := by decide +kernel
theorem dX5_takeRow_37 : decode cX5_takeRow 37 = .ok (.sipush 999, 3) := by decide +kernel
theorem dX5_takeRow_40 : decode cX5_takeRow 40 = .ok (.invokevirtual 101, 3) := by decide +kernel
theorem dX5_takeRow_43 : decode cX5_takeRow 43 = .ok (.ifCond .ne 5, 3) := by decide +kernel
theorem dX5_takeRow_46 : decode cX5_takeRow 46 = .ok (.iconst 0, 1) := by decide +kernel
theorem dX5_takeRow_47 : decode cX5_takeRow 47 = .ok (.ireturn, 1) := by decide +kernel
theorem dX5_takeRow_48 : decode cX5_takeRow 48 = .ok (.aload_n 0, 1) := by decide +kernel
theorem dX5_takeRow_49 : decode cX5_takeRow 49 = .ok (.getfield 15, 3) := by decide +kernel
theorem dX5_takeRow_52 : decode cX5_takeRow 52 = .ok (.iload_n 1, 1) := by decide +kernel
theorem dX5_takeRow_53 : decode cX5_takeRow 53 = .ok (.aload_n 0, 1) := by decide +kernel
theorem dX5_takeRow_54 : decode cX5_takeRow 54 = .ok (.getfield 56, 3) := by decide +kernel
theorem dX5_takeRow_57 : decode cX5_takeRow 57 = .ok (.invokevirtual 105, 3) := by decide +kernel
theorem dX5_takeRow_60 : decode cX5_takeRow 60 = .ok (.aload_n 0, 1) := by decide +kernel
theorem dX5_takeRow_61 : decode cX5_takeRow 61 = .ok (.iconst 4, 1) := by decide +kernel
theorem dX5_takeRow_62 : decode cX5_takeRow 62 = .ok (.invokevirtual 50, 3) := by decide +kernel
theorem dX5_takeRow_65 : decode cX5_takeRow 65 = .ok (.ireturn, 1) := by decide +kernel
theorem dX5_takePatch_0 : decode cX5_takePatch 0 = .ok (.aload_n 0, 1) := by decide +kernel
theorem dX5_takePatch_1 : decode cX5_takePatch 1 = .ok (.getfield 15, 3) := by decide +kernel
theorem dX5_takePatch_4 : decode cX5_takePatch 4 = .ok (.invokevirtual 98, 3) := by decide +kernel
theorem dX5_takePatch_7 : decode cX5_takePatch 7 = .ok (.bipush 12, 2) := by decide +kernel
theorem dX5_takePatch_9 : decode cX5_takePatch 9 = .ok (.if_icmp .lt 9, 3) := by decide +kernel
theorem dX5_takePatch_12 : decode cX5_takePatch 12 = .ok (.aload_n 0, 1) := by decide +kernel
theorem dX5_takePatch_13 : decode cX5_takePatch 13 = .ok (.iconst 5, 1) := by decide +kernel
theorem dX5_takePatch_14 : decode cX5_takePatch 14 = .ok (.invokevirtual 40, 3) := by decide +kernel
theorem dX5_takePatch_17 : decode cX5_takePatch 17 = .ok (.ireturn, 1) := by decide +kernel
theorem dX5_takePatch_18 : decode cX5_takePatch 18 = .ok (.iconst 0, 1) := by decide +kernel
theorem dX5_takePatch_19 : decode cX5_takePatch 19 = .ok (.istore_n 1, 1) := by decide +kernel
theorem dX5_takePatch_20 : decode cX5_takePatch 20 = .ok (.iconst 0, 1) := by decide +kernel
theorem dX5_takePatch_21 : decode cX5_takePatch 21 = .ok (.istore_n 2, 1) := by decide +kernel
theorem dX5_takePatch_22 : decode cX5_takePatch 22 = .ok (.iload_n 2, 1) := by decide +kernel
theorem dX5_takePatch_23 : decode cX5_takePatch 23 = .ok (.bipush 12, 2) := by decide +kernel
theorem dX5_takePatch_25 : decode cX5_takePatch 25 = .ok (.if_icmp .gt 92, 3) := by decide +kernel
theorem dX5_takePatch_28 : decode cX5_takePatch 28 = .ok (.aload_n 0, 1) := by decide +kernel
theorem dX5_takePatch_29 : decode cX5_takePatch 29 = .ok (.getfield 9, 3) := by decide +kernel
theorem dX5_takePatch_32 : decode cX5_takePatch 32 = .ok (.invokevirtual 44, 3) := by decide +kernel
theorem dX5_takePatch_35 : decode cX5_takePatch 35 = .ok (.istore_n 3, 1) := by decide +kernel
theorem dX5_takePatch_36 : decode cX5_takePatch 36 = .ok (.iload_n 3, 1) := by decide +kernel
theorem dX5_takePatch_37 : decode cX5_takePatch 37 = .ok (.iconst 4, 1) := by decide +kernel
theorem dX5_takePatch_38 : decode cX5_takePatch 38 = .ok (.if_icmp .ne 13, 3) := by decide +kernel
theorem dX5_takePatch_41 : decode cX5_takePatch 41 = .ok (.aload_n 0, 1) := by decide +kernel
theorem dX5_takePatch_42 : decode cX5_takePatch 42 = .ok (.getfield 15, 3) := by decide +kernel
theorem dX5_takePatch_45 : decode cX5_takePatch 45 = .ok (.iload_n 1, 1) := by decide +kernel
theorem dX5_takePatch_46 : decode cX5_takePatch 46 = .ok (.invokevirtual 109, 3) := by decide +kernel
theorem dX5_takePatch_49 : decode cX5_takePatch 49 = .ok (.iconst 1, 1) := by decide +kernel
theorem dX5_takePatch_50 : decode cX5_takePatch 50 = .ok (.ireturn, 1) := by decide +kernel
theorem dX5_takePatch_51 : decode cX5_takePatch 51 = .ok (.iload_n 3, 1) := by decide +kernel
theorem dX5_takePatch_52 : decode cX5_takePatch 52 = .ok (.iconst 3, 1) := by decide +kernel
theorem dX5_takePatch_53 : decode cX5_takePatch 53 = .ok (.if_icmp .eq 9, 3) := by decide +kernel
theorem dX5_takePatch_56 : decode cX5_takePatch 56 = .ok (.aload_n 0, 1) := by decide +kernel
theorem dX5_takePatch_57 : decode cX5_takePatch 57 = .ok (.iload_n 3, 1) := by decide +kernel
theorem dX5_takePatch_58 : decode cX5_takePatch 58 = .ok (.invokevirtual 47, 3) := by decide +kernel
theorem dX5_takePatch_61 : decode cX5_takePatch 61 = .ok (.ireturn, 1) := by decide +kernel
theorem dX5_takePatch_62 : decode cX5_takePatch 62 = .ok (.aload_n 0, 1) := by decide +kernel
theorem dX5_takePatch_63 : decode cX5_takePatch 63 = .ok (.getfield 9, 3) := by decide +kernel
theorem dX5_takePatch_66 : decode cX5_takePatch 66 = .ok (.invokevirtual 53, 3) := by decide +kernel
theorem dX5_takePatch_69 : decode cX5_takePatch 69 = .ok (.istore 4, 2) := by decide +kernel
theorem dX5_takePatch_71 : decode cX5_takePatch 71 = .ok (.aload_n 0, 1) := by decide +kernel
theorem dX5_takePatch_72 : decode cX5_takePatch 72 = .ok (.getfield 15, 3) := by decide +kernel
theorem dX5_takePatch_75 : decode cX5_takePatch 75 = .ok (.iload 4, 2) := by decide +kernel
theorem dX5_takePatch_77 : decode cX5_takePatch 77 = .ok (.invokevirtual 113, 3) := by decide +kernel
theorem dX5_takePatch_80 : decode cX5_takePatch 80 = .ok (.ifCond .ne 9, 3) := by decide +kernel
theorem dX5_takePatch_83 : decode cX5_takePatch 83 = .ok (.aload_n 0, 1) := by decide +kernel
theorem dX5_takePatch_84 : decode cX5_takePatch 84 = .ok (.iconst 3, 1) := by decide +kernel
theorem dX5_takePatch_85 : decode cX5_takePatch 85 = .ok (.invokevirtual 40, 3) := by decide +kernel
theorem dX5_takePatch_88 : decode cX5_takePatch 88 = .ok (.ireturn, 1) := by decide +kernel
theorem dX5_takePatch_89 : decode cX5_takePatch 89 = .ok (.iload_n 1, 1) := by decide +kernel
theorem dX5_takePatch_90 : decode cX5_takePatch 90 = .ok (.iload 4, 2) := by decide +kernel
theorem dX5_takePatch_92 : decode cX5_takePatch 92 = .ok (.invokestatic 116, 3) := by decide +kernel
theorem dX5_takePatch_95 : decode cX5_takePatch 95 = .ok (.ifCond .eq 9, 3) := by decide +kernel
theorem dX5_takePatch_98 : decode cX5_takePatch 98 = .ok (.aload_n 0, 1) := by decide +kernel
theorem dX5_takePatch_99 : decode cX5_takePatch 99 = .ok (.iconst 4, 1) := by decide +kernel
theorem dX5_takePatch_100 : decode cX5_takePatch 100 = .ok (.invokevirtual 40, 3) := by decide +kernel
theorem dX5_takePatch_103 : decode cX5_takePatch 103 = .ok (.ireturn, 1) := by decide +kernel
theorem dX5_takePatch_104 : decode cX5_takePatch 104 = .ok (.iload_n 1, 1) := by decide +kernel
theorem dX5_takePatch_105 : decode cX5_takePatch 105 = .ok (.iconst 1, 1) := by decide +kernel
theorem dX5_takePatch_106 : decode cX5_takePatch 106 = .ok (.iload 4, 2) := by decide +kernel
theorem dX5_takePatch_108 : decode cX5_takePatch 108 = .ok (.ishl, 1) := by decide +kernel
theorem dX5_takePatch_109 : decode cX5_takePatch 109 = .ok (.ior, 1) := by decide +kernel
theorem dX5_takePatch_110 : decode cX5_takePatch 110 = .ok (.istore_n 1, 1) := by decide +kernel
theorem dX5_takePatch_111 : decode cX5_takePatch 111 = .ok (.iinc 2 1, 3) := by decide +kernel
theorem dX5_takePatch_114 : decode cX5_takePatch 114 = .ok (.goto (-92), 3) := by decide +kernel
theorem dX5_takePatch_117 : decode cX5_takePatch 117 = .ok (.aload_n 0, 1) := by decide +kernel
theorem dX5_takePatch_118 : decode cX5_takePatch 118 = .ok (.iconst 2, 1) := by decide +kernel
theorem dX5_takePatch_119 : decode cX5_takePatch 119 = .ok (.invokevirtual 40, 3) := by decide +kernel
theorem dX5_takePatch_122 : decode cX5_takePatch 122 = .ok (.ireturn, 1) := by decide +kernel
theorem dX5_takeGives_0 : decode cX5_takeGives 0 = .ok (.aload_n 0, 1) := by decide +kernel
theorem dX5_takeGives_1 : decode cX5_takeGives 1 = .ok (.getfield 15, 3) := by decide +kernel
theorem dX5_takeGives_4 : decode cX5_takeGives 4 = .ok (.invokevirtual 98, 3) := by decide +kernel
theorem dX5_takeGives_7 : decode cX5_takeGives 7 = .ok (.iconst 1, 1) := by decide +kernel
theorem dX5_takeGives_8 : decode cX5_takeGives 8 = .ok (.isub, 1) := by decide +kernel
theorem dX5_takeGives_9 : decode cX5_takeGives 9 = .ok (.istore_n 1, 1) := by decide +kernel
theorem dX5_takeGives_10 : decode cX5_takeGives 10 = .ok (.aload_n 0, 1) := by decide +kernel
theorem dX5_takeGives_11 : decode cX5_takeGives 11 = .ok (.iconst 0, 1) := by decide +kernel
theorem dX5_takeGives_12 : decode cX5_takeGives 12 = .ok (.iload_n 1, 1) := by decide +kernel
theorem dX5_takeGives_13 : decode cX5_takeGives 13 = .ok (.invokevirtual 101, 3) := by decide +kernel
theorem dX5_takeGives_16 : decode cX5_takeGives 16 = .ok (.ifCond .ne 5, 3) := by decide +kernel
theorem dX5_takeGives_19 : decode cX5_takeGives 19 = .ok (.iconst 0, 1) := by decide +kernel
theorem dX5_takeGives_20 : decode cX5_takeGives 20 = .ok (.ireturn, 1) := by decide +kernel
theorem dX5_takeGives_21 : decode cX5_takeGives 21 = .ok (.aload_n 0, 1) := by decide +kernel
theorem dX5_takeGives_22 : decode cX5_takeGives 22 = .ok (.getfield 56, 3) := by decide +kernel
theorem dX5_takeGives_25 : decode cX5_takeGives 25 = .ok (.istore_n 2, 1) := by decide +kernel
theorem dX5_takeGives_26 : decode cX5_takeGives 26 = .ok (.aload_n 0, 1) := by decide +kernel
theorem dX5_takeGives_27 : decode cX5_takeGives 27 = .ok (.iconst 0, 1) := by decide +kernel
theorem dX5_takeGives_28 : decode cX5_takeGives 28 = .ok (.iload_n 1, 1) := by decide +kernel
theorem dX5_takeGives_29 : decode cX5_takeGives 29 = .ok (.invokevirtual 101, 3) := by decide +kernel
theorem dX5_takeGives_32 : decode cX5_takeGives 32 = .ok (.ifCond .ne 5, 3) := by decide +kernel
theorem dX5_takeGives_35 : decode cX5_takeGives 35 = .ok (.iconst 0, 1) := by decide +kernel
theorem dX5_takeGives_36 : decode cX5_takeGives 36 = .ok (.ireturn, 1) := by decide +kernel
theorem dX5_takeGives_37 : decode cX5_takeGives 37 = .ok (.aload_n 0, 1) := by decide +kernel
theorem dX5_takeGives_38 : decode cX5_takeGives 38 = .ok (.getfield 56, 3) := by decide +kernel
theorem dX5_takeGives_41 : decode cX5_takeGives 41 = .ok (.iload_n 2, 1) := by decide +kernel
theorem dX5_takeGives_42 : decode cX5_takeGives 42 = .ok (.if_icmp .ne 9, 3) := by decide +kernel
theorem dX5_takeGives_45 : decode cX5_takeGives 45 = .ok (.aload_n 0, 1) := by decide +kernel
theorem dX5_takeGives_46 : decode cX5_takeGives 46 = .ok (.iconst 3, 1) := by decide +kernel
theorem dX5_takeGives_47 : decode cX5_takeGives 47 = .ok (.invokevirtual 40, 3) := by decide +kernel
theorem dX5_takeGives_50 : decode cX5_takeGives 50 = .ok (.ireturn, 1) := by decide +kernel
theorem dX5_takeGives_51 : decode cX5_takeGives 51 = .ok (.aload_n 0, 1) := by decide +kernel
theorem dX5_takeGives_52 : decode cX5_takeGives 52 = .ok (.getfield 15, 3) := by decide +kernel
theorem dX5_takeGives_55 : decode cX5_takeGives 55 = .ok (.iload_n 2, 1) := by decide +kernel
theorem dX5_takeGives_56 : decode cX5_takeGives 56 = .ok (.aload_n 0, 1) := by decide +kernel
theorem dX5_takeGives_57 : decode cX5_takeGives 57 = .ok (.getfield 56, 3) := by decide +kernel
theorem dX5_takeGives_60 : decode cX5_takeGives 60 = .ok (.invokevirtual 119, 3) := by decide +kernel
theorem dX5_takeGives_63 : decode cX5_takeGives 63 = .ok (.ifCond .eq 11, 3) := by decide +kernel
theorem dX5_takeGives_66 : decode cX5_takeGives 66 = .ok (.aload_n 0, 1) := by decide +kernel
theorem dX5_takeGives_67 : decode cX5_takeGives 67 = .ok (.iconst 4, 1) := by decide +kernel
theorem dX5_takeGives_68 : decode cX5_takeGives 68 = .ok (.invokevirtual 50, 3) := by decide +kernel
theorem dX5_takeGives_71 : decode cX5_takeGives 71 = .ok (.goto 8, 3) := by decide +kernel
theorem dX5_takeGives_74 : decode cX5_takeGives 74 = .ok (.aload_n 0, 1) := by decide +kernel
theorem dX5_takeGives_75 : decode cX5_takeGives 75 = .ok (.iconst 4, 1) := by decide +kernel
theorem dX5_takeGives_76 : decode cX5_takeGives 76 = .ok (.invokevirtual 40, 3) := by decide +kernel
theorem dX5_takeGives_79 : decode cX5_takeGives 79 = .ok (.ireturn, 1) := by decide +kernel
theorem dX5_takeApart_0 : decode cX5_takeApart 0 = .ok (.aload_n 0, 1) := by decide +kernel
theorem dX5_takeApart_1 : decode cX5_takeApart 1 = .ok (.getfield 15, 3) := by decide +kernel
theorem dX5_takeApart_4 : decode cX5_takeApart 4 = .ok (.invokevirtual 122, 3) := by decide +kernel
theorem dX5_takeApart_7 : decode cX5_takeApart 7 = .ok (.ifCond .eq 9, 3) := by decide +kernel
theorem dX5_takeApart_10 : decode cX5_takeApart 10 = .ok (.aload_n 0, 1) := by decide +kernel
theorem dX5_takeApart_11 : decode cX5_takeApart 11 = .ok (.iconst 4, 1) := by decide +kernel
theorem dX5_takeApart_12 : decode cX5_takeApart 12 = .ok (.invokevirtual 40, 3) := by decide +kernel
theorem dX5_takeApart_15 : decode cX5_takeApart 15 = .ok (.ireturn, 1) := by decide +kernel
theorem dX5_takeApart_16 : decode cX5_takeApart 16 = .ok (.aload_n 0, 1) := by decide +kernel
theorem dX5_takeApart_17 : decode cX5_takeApart 17 = .ok (.iconst 0, 1) := by decide +kernel
theorem dX5_takeApart_18 : decode cX5_takeApart 18 = .ok (.bipush 99, 2) := by decide +kernel
theorem dX5_takeApart_20 : decode cX5_takeApart 20 = .ok (.invokevirtual 101, 3) := by decide +kernel
theorem dX5_takeApart_23 : decode cX5_takeApart 23 = .ok (.ifCond .ne 5, 3) := by decide +kernel
theorem dX5_takeApart_26 : decode cX5_takeApart 26 = .ok (.iconst 0, 1) := by decide +kernel
theorem dX5_takeApart_27 : decode cX5_takeApart 27 = .ok (.ireturn, 1) := by decide +kernel
theorem dX5_takeApart_28 : decode cX5_takeApart 28 = .ok (.aload_n 0, 1) := by decide +kernel
theorem dX5_takeApart_29 : decode cX5_takeApart 29 = .ok (.getfield 15, 3) := by decide +kernel
theorem dX5_takeApart_32 : decode cX5_takeApart 32 = .ok (.aload_n 0, 1) := by decide +kernel
theorem dX5_takeApart_33 : decode cX5_takeApart 33 = .ok (.getfield 56, 3) := by decide +kernel
theorem dX5_takeApart_36 : decode cX5_takeApart 36 = .ok (.invokevirtual 125, 3) := by decide +kernel
theorem dX5_takeApart_39 : decode cX5_takeApart 39 = .ok (.aload_n 0, 1) := by decide +kernel
theorem dX5_takeApart_40 : decode cX5_takeApart 40 = .ok (.iconst 4, 1) := by decide +kernel
theorem dX5_takeApart_41 : decode cX5_takeApart 41 = .ok (.invokevirtual 50, 3) := by decide +kernel
theorem dX5_takeApart_44 : decode cX5_takeApart 44 = .ok (.ireturn, 1) := by decide +kernel
theorem dX5_takeQuarry_0 : decode cX5_takeQuarry 0 = .ok (.aload_n 0, 1) := by decide +kernel
theorem dX5_takeQuarry_1 : decode cX5_takeQuarry 1 = .ok (.iconst 2, 1) := by decide +kernel
theorem dX5_takeQuarry_2 : decode cX5_takeQuarry 2 = .ok (.invokevirtual 50, 3) := by decide +kernel
theorem dX5_takeQuarry_5 : decode cX5_takeQuarry 5 = .ok (.ifCond .ne 5, 3) := by decide +kernel
theorem dX5_takeQuarry_8 : decode cX5_takeQuarry 8 = .ok (.iconst 0, 1) := by decide +kernel
theorem dX5_takeQuarry_9 : decode cX5_takeQuarry 9 = .ok (.ireturn, 1) := by decide +kernel
theorem dX5_takeQuarry_10 : decode cX5_takeQuarry 10 = .ok (.aload_n 0, 1) := by decide +kernel
theorem dX5_takeQuarry_11 : decode cX5_takeQuarry 11 = .ok (.getfield 9, 3) := by decide +kernel
theorem dX5_takeQuarry_14 : decode cX5_takeQuarry 14 = .ok (.iconst 0, 1) := by decide +kernel
theorem dX5_takeQuarry_15 : decode cX5_takeQuarry 15 = .ok (.invokevirtual 128, 3) := by decide +kernel
theorem dX5_takeQuarry_18 : decode cX5_takeQuarry 18 = .ok (.bipush 97, 2) := by decide +kernel
theorem dX5_takeQuarry_20 : decode cX5_takeQuarry 20 = .ok (.isub, 1) := by decide +kernel
theorem dX5_takeQuarry_21 : decode cX5_takeQuarry 21 = .ok (.istore_n 1, 1) := by decide +kernel
theorem dX5_takeQuarry_22 : decode cX5_takeQuarry 22 = .ok (.aload_n 0, 1) := by decide +kernel
theorem dX5_takeQuarry_23 : decode cX5_takeQuarry 23 = .ok (.getfield 9, 3) := by decide +kernel
theorem dX5_takeQuarry_26 : decode cX5_takeQuarry 26 = .ok (.invokevirtual 132, 3) := by decide +kernel
theorem dX5_takeQuarry_29 : decode cX5_takeQuarry 29 = .ok (.iconst 1, 1) := by decide +kernel
theorem dX5_takeQuarry_30 : decode cX5_takeQuarry 30 = .ok (.if_icmp .ne 12, 3) := by decide +kernel
theorem dX5_takeQuarry_33 : decode cX5_takeQuarry 33 = .ok (.iload_n 1, 1) := by decide +kernel
theorem dX5_takeQuarry_34 : decode cX5_takeQuarry 34 = .ok (.iconst 0, 1) := by decide +kernel
theorem dX5_takeQuarry_35 : decode cX5_takeQuarry 35 = .ok (.iconst 5, 1) := by decide +kernel
theorem dX5_takeQuarry_36 : decode cX5_takeQuarry 36 = .ok (.invokestatic 59, 3) := by decide +kernel
theorem dX5_takeQuarry_39 : decode cX5_takeQuarry 39 = .ok (.ifCond .ne 9, 3) := by decide +kernel
theorem dX5_takeQuarry_42 : decode cX5_takeQuarry 42 = .ok (.aload_n 0, 1) := by decide +kernel
theorem dX5_takeQuarry_43 : decode cX5_takeQuarry 43 = .ok (.iconst 3, 1) := by decide +kernel
theorem dX5_takeQuarry_44 : decode cX5_takeQuarry 44 = .ok (.invokevirtual 40, 3) := by decide +kernel
theorem dX5_takeQuarry_47 : decode cX5_takeQuarry 47 = .ok (.ireturn, 1) := by decide +kernel
theorem dX5_takeQuarry_48 : decode cX5_takeQuarry 48 = .ok (.aload_n 0, 1) := by decide +kernel
theorem dX5_takeQuarry_49 : decode cX5_takeQuarry 49 = .ok (.getfield 15, 3) := by decide +kernel
theorem dX5_takeQuarry_52 : decode cX5_takeQuarry 52 = .ok (.iload_n 1, 1) := by decide +kernel
theorem dX5_takeQuarry_53 : decode cX5_takeQuarry 53 = .ok (.invokevirtual 135, 3) := by decide +kernel
theorem dX5_takeQuarry_56 : decode cX5_takeQuarry 56 = .ok (.ifCond .eq 9, 3) := by decide +kernel
theorem dX5_takeQuarry_59 : decode cX5_takeQuarry 59 = .ok (.aload_n 0, 1) := by decide +kernel
theorem dX5_takeQuarry_60 : decode cX5_takeQuarry 60 = .ok (.iconst 4, 1) := by decide +kernel
theorem dX5_takeQuarry_61 : decode cX5_takeQuarry 61 = .ok (.invokevirtual 40, 3) := by decide +kernel
theorem dX5_takeQuarry_64 : decode cX5_takeQuarry 64 = .ok (.ireturn, 1) := by decide +kernel
theorem dX5_takeQuarry_65 : decode cX5_takeQuarry 65 = .ok (.aload_n 0, 1) := by decide +kernel
theorem dX5_takeQuarry_66 : decode cX5_takeQuarry 66 = .ok (.iconst 0, 1) := by decide +kernel
theorem dX5_takeQuarry_67 : decode cX5_takeQuarry 67 = .ok (.bipush 99, 2) := by decide +kernel
theorem dX5_takeQuarry_69 : decode cX5_takeQuarry 69 = .ok (.invokevirtual 101, 3) := by decide +kernel
theorem dX5_takeQuarry_72 : decode cX5_takeQuarry 72 = .ok (.ifCond .ne 5, 3) := by decide +kernel
theorem dX5_takeQuarry_75 : decode cX5_takeQuarry 75 = .ok (.iconst 0, 1) := by decide +kernel
theorem dX5_takeQuarry_76 : decode cX5_takeQuarry 76 = .ok (.ireturn, 1) := by decide +kernel
theorem dX5_takeQuarry_77 : decode cX5_takeQuarry 77 = .ok (.aload_n 0, 1) := by decide +kernel
theorem dX5_takeQuarry_78 : decode cX5_takeQuarry 78 = .ok (.getfield 56, 3) := by decide +kernel
theorem dX5_takeQuarry_81 : decode cX5_takeQuarry 81 = .ok (.istore_n 2, 1) := by decide +kernel
theorem dX5_takeQuarry_82 : decode cX5_takeQuarry 82 = .ok (.aload_n 0, 1) := by decide +kernel
theorem dX5_takeQuarry_83 : decode cX5_takeQuarry 83 = .ok (.iconst 1, 1) := by decide +kernel
theorem dX5_takeQuarry_84 : decode cX5_takeQuarry 84 = .ok (.bipush 99, 2) := by decide +kernel
theorem dX5_takeQuarry_86 : decode cX5_takeQuarry 86 = .ok (.invokevirtual 101, 3) := by decide +kernel
theorem dX5_takeQuarry_89 : decode cX5_takeQuarry 89 = .ok (.ifCond .ne 5, 3) := by decide +kernel
theorem dX5_takeQuarry_92 : decode cX5_takeQuarry 92 = .ok (.iconst 0, 1) := by decide +kernel
theorem dX5_takeQuarry_93 : decode cX5_takeQuarry 93 = .ok (.ireturn, 1) := by decide +kernel
theorem dX5_takeQuarry_94 : decode cX5_takeQuarry 94 = .ok (.aload_n 0, 1) := by decide +kernel
theorem dX5_takeQuarry_95 : decode cX5_takeQuarry 95 = .ok (.getfield 15, 3) := by decide +kernel
theorem dX5_takeQuarry_98 : decode cX5_takeQuarry 98 = .ok (.iload_n 1, 1) := by decide +kernel
theorem dX5_takeQuarry_99 : decode cX5_takeQuarry 99 = .ok (.iload_n 2, 1) := by decide +kernel
theorem dX5_takeQuarry_100 : decode cX5_takeQuarry 100 = .ok (.aload_n 0, 1) := by decide +kernel
theorem dX5_takeQuarry_101 : decode cX5_takeQuarry 101 = .ok (.getfield 56, 3) := by decide +kernel
theorem dX5_takeQuarry_104 : decode cX5_takeQuarry 104 = .ok (.invokevirtual 138, 3) := by decide +kernel
theorem dX5_takeQuarry_107 : decode cX5_takeQuarry 107 = .ok (.aload_n 0, 1) := by decide +kernel
theorem dX5_takeQuarry_108 : decode cX5_takeQuarry 108 = .ok (.iconst 4, 1) := by decide +kernel
theorem dX5_takeQuarry_109 : decode cX5_takeQuarry 109 = .ok (.invokevirtual 50, 3) := by decide +kernel
theorem dX5_takeQuarry_112 : decode cX5_takeQuarry 112 = .ok (.ireturn, 1) := by decide +kernel
theorem dX5_takeBook_0 : decode cX5_takeBook 0 = .ok (.aload_n 0, 1) := by decide +kernel
theorem dX5_takeBook_1 : decode cX5_takeBook 1 = .ok (.getfield 15, 3) := by decide +kernel
theorem dX5_takeBook_4 : decode cX5_takeBook 4 = .ok (.invokevirtual 142, 3) := by decide +kernel
theorem dX5_takeBook_7 : decode cX5_takeBook 7 = .ok (.iconst 4, 1) := by decide +kernel
theorem dX5_takeBook_8 : decode cX5_takeBook 8 = .ok (.if_icmp .lt 9, 3) := by decide +kernel
theorem dX5_takeBook_11 : decode cX5_takeBook 11 = .ok (.aload_n 0, 1) := by decide +kernel
theorem dX5_takeBook_12 : decode cX5_takeBook 12 = .ok (.iconst 5, 1) := by decide +kernel
theorem dX5_takeBook_13 : decode cX5_takeBook 13 = .ok (.invokevirtual 40, 3) := by decide +kernel
theorem dX5_takeBook_16 : decode cX5_takeBook 16 = .ok (.ireturn, 1) := by decide +kernel
theorem dX5_takeBook_17 : decode cX5_takeBook 17 = .ok (.iconst 0, 1) := by decide +kernel
theorem dX5_takeBook_18 : decode cX5_takeBook 18 = .ok (.istore_n 1, 1) := by decide +kernel
theorem dX5_takeBook_19 : decode cX5_takeBook 19 = .ok (.iload_n 1, 1) := by decide +kernel
theorem dX5_takeBook_20 : decode cX5_takeBook 20 = .ok (.iconst 4, 1) := by decide +kernel
theorem dX5_takeBook_21 : decode cX5_takeBook 21 = .ok (.if_icmp .ge 27, 3) := by decide +kernel
theorem dX5_takeBook_24 : decode cX5_takeBook 24 = .ok (.aload_n 0, 1) := by decide +kernel
theorem dX5_takeBook_25 : decode cX5_takeBook 25 = .ok (.iconst 2, 1) := by decide +kernel
theorem dX5_takeBook_26 : decode cX5_takeBook 26 = .ok (.invokevirtual 50, 3) := by decide +kernel
theorem dX5_takeBook_29 : decode cX5_takeBook 29 = .ok (.ifCond .eq 11, 3) := by decide +kernel
theorem dX5_takeBook_32 : decode cX5_takeBook 32 = .ok (.aload_n 0, 1) := by decide +kernel
theorem dX5_takeBook_33 : decode cX5_takeBook 33 = .ok (.iload_n 1, 1) := by decide +kernel
theorem dX5_takeBook_34 : decode cX5_takeBook 34 = .ok (.invokevirtual 145, 3) := by decide +kernel
theorem dX5_takeBook_37 : decode cX5_takeBook 37 = .ok (.ifCond .ne 5, 3) := by decide +kernel
theorem dX5_takeBook_40 : decode cX5_takeBook 40 = .ok (.iconst 0, 1) := by decide +kernel
theorem dX5_takeBook_41 : decode cX5_takeBook 41 = .ok (.ireturn, 1) := by decide +kernel
theorem dX5_takeBook_42 : decode cX5_takeBook 42 = .ok (.iinc 1 1, 3) := by decide +kernel
theorem dX5_takeBook_45 : decode cX5_takeBook 45 = .ok (.goto (-26), 3) := by decide +kernel
theorem dX5_takeBook_48 : decode cX5_takeBook 48 = .ok (.aload_n 0, 1) := by decide +kernel
theorem dX5_takeBook_49 : decode cX5_takeBook 49 = .ok (.getfield 15, 3) := by decide +kernel
theorem dX5_takeBook_52 : decode cX5_takeBook 52 = .ok (.invokevirtual 148, 3) := by decide +kernel
theorem dX5_takeBook_55 : decode cX5_takeBook 55 = .ok (.aload_n 0, 1) := by decide +kernel
theorem dX5_takeBook_56 : decode cX5_takeBook 56 = .ok (.iconst 4, 1) := by decide +kernel
theorem dX5_takeBook_57 : decode cX5_takeBook 57 = .ok (.invokevirtual 50, 3) := by decide +kernel
theorem dX5_takeBook_60 : decode cX5_takeBook 60 = .ok (.ireturn, 1) := by decide +kernel
theorem dX5_takePatternRow_0 : decode cX5_takePatternRow 0 = .ok (.aload_n 0, 1) := by decide +kernel
theorem dX5_takePatternRow_1 : decode cX5_takePatternRow 1 = .ok (.getfield 9, 3) := by decide +kernel
theorem dX5_takePatternRow_4 : decode cX5_takePatternRow 4 = .ok (.invokevirtual 132, 3) := by decide +kernel
theorem dX5_takePatternRow_7 : decode cX5_takePatternRow 7 = .ok (.iconst 4, 1) := by decide +kernel
theorem dX5_takePatternRow_8 : decode cX5_takePatternRow 8 = .ok (.if_icmp .eq 9, 3) := by decide +kernel
theorem dX5_takePatternRow_11 : decode cX5_takePatternRow 11 = .ok (.aload_n 0, 1) := by decide +kernel
theorem dX5_takePatternRow_12 : decode cX5_takePatternRow 12 = .ok (.iconst 3, 1) := by decide +kernel
theorem dX5_takePatternRow_13 : decode cX5_takePatternRow 13 = .ok (.invokevirtual 40, 3) := by decide +kernel
theorem dX5_takePatternRow_16 : decode cX5_takePatternRow 16 = .ok (.ireturn, 1) := by decide +kernel
theorem dX5_takePatternRow_17 : decode cX5_takePatternRow 17 = .ok (.iconst 0, 1) := by decide +kernel
theorem dX5_takePatternRow_18 : decode cX5_takePatternRow 18 = .ok (.istore_n 2, 1) := by decide +kernel
theorem dX5_takePatternRow_19 : decode cX5_takePatternRow 19 = .ok (.iload_n 2, 1) := by decide +kernel
theorem dX5_takePatternRow_20 : decode cX5_takePatternRow 20 = .ok (.iconst 4, 1) := by decide +kernel
theorem dX5_takePatternRow_21 : decode cX5_takePatternRow 21 = .ok (.if_icmp .ge 64, 3) := by decide +kernel
theorem dX5_takePatternRow_24 : decode cX5_takePatternRow 24 = .ok (.aload_n 0, 1) := by decide +kernel
theorem dX5_takePatternRow_25 : decode cX5_takePatternRow 25 = .ok (.getfield 9, 3) := by decide +kernel
theorem dX5_takePatternRow_28 : decode cX5_takePatternRow 28 = .ok (.iload_n 2, 1) := by decide +kernel
theorem dX5_takePatternRow_29 : decode cX5_takePatternRow 29 = .ok (.invokevirtual 128, 3) := by decide +kernel
theorem dX5_takePatternRow_32 : decode cX5_takePatternRow 32 = .ok (.istore_n 3, 1) := by decide +kernel
theorem dX5_takePatternRow_33 : decode cX5_takePatternRow 33 = .ok (.iload_n 3, 1) := by decide +kernel
theorem dX5_takePatternRow_34 : decode cX5_takePatternRow 34 = .ok (.bipush 120, 2) := by decide +kernel
theorem dX5_takePatternRow_36 : decode cX5_takePatternRow 36 = .ok (.if_icmp .ne 7, 3) := by decide +kernel
theorem dX5_takePatternRow_39 : decode cX5_takePatternRow 39 = .ok (.iconst (-1), 1) := by decide +kernel
theorem dX5_takePatternRow_40 : decode cX5_takePatternRow 40 = .ok (.goto 7, 3) := by decide +kernel
theorem dX5_takePatternRow_43 : decode cX5_takePatternRow 43 = .ok (.iload_n 3, 1) := by decide +kernel
theorem dX5_takePatternRow_44 : decode cX5_takePatternRow 44 = .ok (.bipush 97, 2) := by decide +kernel
theorem dX5_takePatternRow_46 : decode cX5_takePatternRow 46 = .ok (.isub, 1) := by decide +kernel
theorem dX5_takePatternRow_47 : decode cX5_takePatternRow 47 = .ok (.istore 4, 2) := by decide +kernel
theorem dX5_takePatternRow_49 : decode cX5_takePatternRow 49 = .ok (.iload 4, 2) := by decide +kernel
theorem dX5_takePatternRow_51 : decode cX5_takePatternRow 51 = .ok (.iconst (-1), 1) := by decide +kernel
theorem dX5_takePatternRow_52 : decode cX5_takePatternRow 52 = .ok (.iconst 5, 1) := by decide +kernel
theorem dX5_takePatternRow_53 : decode cX5_takePatternRow 53 = .ok (.invokestatic 59, 3) := by decide +kernel
theorem dX5_takePatternRow_56 : decode cX5_takePatternRow 56 = .ok (.ifCond .ne 9, 3) := by decide +kernel
theorem dX5_takePatternRow_59 : decode cX5_takePatternRow 59 = .ok (.aload_n 0, 1) := by decide +kernel
theorem dX5_takePatternRow_60 : decode cX5_takePatternRow 60 = .ok (.iconst 3, 1) := by decide +kernel
theorem dX5_takePatternRow_61 : decode cX5_takePatternRow 61 = .ok (.invokevirtual 40, 3) := by decide +kernel
theorem dX5_takePatternRow_64 : decode cX5_takePatternRow 64 = .ok (.ireturn, 1) := by decide +kernel
theorem dX5_takePatternRow_65 : decode cX5_takePatternRow 65 = .ok (.aload_n 0, 1) := by decide +kernel
theorem dX5_takePatternRow_66 : decode cX5_takePatternRow 66 = .ok (.getfield 15, 3) := by decide +kernel
theorem dX5_takePatternRow_69 : decode cX5_takePatternRow 69 = .ok (.iload_n 1, 1) := by decide +kernel
theorem dX5_takePatternRow_70 : decode cX5_takePatternRow 70 = .ok (.iconst 4, 1) := by decide +kernel
theorem dX5_takePatternRow_71 : decode cX5_takePatternRow 71 = .ok (.imul, 1) := by decide +kernel
theorem dX5_takePatternRow_72 : decode cX5_takePatternRow 72 = .ok (.iload_n 2, 1) := by decide +kernel
theorem dX5_takePatternRow_73 : decode cX5_takePatternRow 73 = .ok (.iadd, 1) := by decide +kernel
theorem dX5_takePatternRow_74 : decode cX5_takePatternRow 74 = .ok (.iload 4, 2) := by decide +kernel
theorem dX5_takePatternRow_76 : decode cX5_takePatternRow 76 = .ok (.invokevirtual 151, 3) := by decide +kernel
theorem dX5_takePatternRow_79 : decode cX5_takePatternRow 79 = .ok (.iinc 2 1, 3) := by decide +kernel
theorem dX5_takePatternRow_82 : decode cX5_takePatternRow 82 = .ok (.goto (-63), 3) := by decide +kernel
theorem dX5_takePatternRow_85 : decode cX5_takePatternRow 85 = .ok (.iconst 1, 1) := by decide +kernel
theorem dX5_takePatternRow_86 : decode cX5_takePatternRow 86 = .ok (.ireturn, 1) := by decide +kernel
theorem dX6_init_0 : decode cX6_init 0 = .ok (.aload_n 0, 1) := by decide +kernel
theorem dX6_init_1 : decode cX6_init 1 = .ok (.invokespecial 3, 3) := by decide +kernel
theorem dX6_init_4 : decode cX6_init 4 = .ok (.aload_n 0, 1) := by decide +kernel
theorem dX6_init_5 : decode cX6_init 5 = .ok (.bipush 12, 2) := by decide +kernel
theorem dX6_init_7 : decode cX6_init 7 = .ok (.newarray .int, 2) := by decide +kernel
theorem dX6_init_9 : decode cX6_init 9 = .ok (.putfield 9, 3) := by decide +kernel
theorem dX6_init_12 : decode cX6_init 12 = .ok (.aload_n 0, 1) := by decide +kernel
theorem dX6_init_13 : decode cX6_init 13 = .ok (.bipush 12, 2) := by decide +kernel
theorem dX6_init_15 : decode cX6_init 15 = .ok (.newarray .int, 2) := by decide +kernel
theorem dX6_init_17 : decode cX6_init 17 = .ok (.putfield 15, 3) := by decide +kernel
theorem dX6_init_20 : decode cX6_init 20 = .ok (.aload_n 0, 1) := by decide +kernel
theorem dX6_init_21 : decode cX6_init 21 = .ok (.sipush 4096, 3) := by decide +kernel
theorem dX6_init_24 : decode cX6_init 24 = .ok (.newarray .int, 2) := by decide +kernel
theorem dX6_init_26 : decode cX6_init 26 = .ok (.putfield 18, 3) := by decide +kernel
theorem dX6_init_29 : decode cX6_init 29 = .ok (.aload_n 0, 1) := by decide +kernel
theorem dX6_init_30 : decode cX6_init 30 = .ok (.sipush 4096, 3) := by decide +kernel
theorem dX6_init_33 : decode cX6_init 33 = .ok (.newarray .int, 2) := by decide +kernel
theorem dX6_init_35 : decode cX6_init 35 = .ok (.putfield 21, 3) := by decide +kernel
theorem dX6_init_38 : decode cX6_init 38 = .ok (.return_, 1) := by decide +kernel
theorem dX6_learn_0 : decode cX6_learn 0 = .ok (.aload_n 0, 1) := by decide +kernel
theorem dX6_learn_1 : decode cX6_learn 1 = .ok (.aload_n 1, 1) := by decide +kernel
theorem dX6_learn_2 : decode cX6_learn 2 = .ok (.invokevirtual 24, 3) := by decide +kernel
theorem dX6_learn_5 : decode cX6_learn 5 = .ok (.bipush 12, 2) := by decide +kernel
theorem dX6_learn_7 : decode cX6_learn 7 = .ok (.invokestatic 30, 3) := by decide +kernel
theorem dX6_learn_10 : decode cX6_learn 10 = .ok (.putfield 36, 3) := by decide +kernel
theorem dX6_learn_13 : decode cX6_learn 13 = .ok (.iconst 0, 1) := by decide +kernel
theorem dX6_learn_14 : decode cX6_learn 14 = .ok (.istore_n 2, 1) := by decide +kernel
theorem dX6_learn_15 : decode cX6_learn 15 = .ok (.iload_n 2, 1) := by decide +kernel
theorem dX6_learn_16 : decode cX6_learn 16 = .ok (.aload_n 0, 1) := by decide +kernel
theorem dX6_learn_17 : decode cX6_learn 17 = .ok (.getfield 36, 3) := by decide +kernel
theorem dX6_learn_20 : decode cX6_learn 20 = .ok (.if_icmp .ge 32, 3) := by decide +kernel
theorem dX6_learn_23 : decode cX6_learn 23 = .ok (.aload_n 0, 1) := by decide +kernel
theorem dX6_learn_24 : decode cX6_learn 24 = .ok (.getfield 9, 3) := by decide +kernel
theorem dX6_learn_27 : decode cX6_learn 27 = .ok (.iload_n 2, 1) := by decide +kernel
theorem dX6_learn_28 : decode cX6_learn 28 = .ok (.aload_n 1, 1) := by decide +kernel
theorem dX6_learn_29 : decode cX6_learn 29 = .ok (.iload_n 2, 1) := by decide +kernel
theorem dX6_learn_30 : decode cX6_learn 30 = .ok (.invokevirtual 39, 3) := by decide +kernel
theorem dX6_learn_33 : decode cX6_learn 33 = .ok (.iastore, 1) := by decide +kernel
theorem dX6_learn_34 : decode cX6_learn 34 = .ok (.aload_n 0, 1) := by decide +kernel
theorem dX6_learn_35 : decode cX6_learn 35 = .ok (.getfield 15, 3) := by decide +kernel
theorem dX6_learn_38 : decode cX6_learn 38 = .ok (.iload_n 2, 1) := by decide +kernel
theorem dX6_learn_39 : decode cX6_learn 39 = .ok (.aload_n 0, 1) := by decide +kernel
theorem dX6_learn_40 : decode cX6_learn 40 = .ok (.getfield 9, 3) := by decide +kernel
theorem dX6_learn_43 : decode cX6_learn 43 = .ok (.iload_n 2, 1) := by decide +kernel
theorem dX6_learn_44 : decode cX6_learn 44 = .ok (.iaload, 1) := by decide +kernel
theorem dX6_learn_45 : decode cX6_learn 45 = .ok (.iastore, 1) := by decide +kernel
theorem dX6_learn_46 : decode cX6_learn 46 = .ok (.iinc 2 1, 3) := by decide +kernel
theorem dX6_learn_49 : decode cX6_learn 49 = .ok (.goto (-34), 3) := by decide +kernel
theorem dX6_learn_52 : decode cX6_learn 52 = .ok (.iconst 0, 1) := by decide +kernel
theorem dX6_learn_53 : decode cX6_learn 53 = .ok (.istore_n 2, 1) := by decide +kernel
theorem dX6_learn_54 : decode cX6_learn 54 = .ok (.iload_n 2, 1) := by decide +kernel
theorem dX6_learn_55 : decode cX6_learn 55 = .ok (.aload_n 0, 1) := by decide +kernel
theorem dX6_learn_56 : decode cX6_learn 56 = .ok (.getfield 36, 3) := by decide +kernel
theorem dX6_learn_59 : decode cX6_learn 59 = .ok (.if_icmp .ge 53, 3) := by decide +kernel
theorem dX6_learn_62 : decode cX6_learn 62 = .ok (.iconst 0, 1) := by decide +kernel
theorem dX6_learn_63 : decode cX6_learn 63 = .ok (.istore_n 3, 1) := by decide +kernel
theorem dX6_learn_64 : decode cX6_learn 64 = .ok (.iload_n 3, 1) := by decide +kernel
theorem dX6_learn_65 : decode cX6_learn 65 = .ok (.aload_n 0, 1) := by decide +kernel
theorem dX6_learn_66 : decode cX6_learn 66 = .ok (.getfield 36, 3) := by decide +kernel
theorem dX6_learn_69 : decode cX6_learn 69 = .ok (.if_icmp .ge 37, 3) := by decide +kernel
theorem dX6_learn_72 : decode cX6_learn 72 = .ok (.aload_n 0, 1) := by decide +kernel
theorem dX6_learn_73 : decode cX6_learn 73 = .ok (.getfield 15, 3) := by decide +kernel
theorem dX6_learn_76 : decode cX6_learn 76 = .ok (.iload_n 3, 1) := by decide +kernel
theorem dX6_learn_77 : decode cX6_learn 77 = .ok (.iaload, 1) := by decide +kernel
theorem dX6_learn_78 : decode cX6_learn 78 = .ok (.iload_n 2, 1) := by decide +kernel
theorem dX6_learn_79 : decode cX6_learn 79 = .ok (.invokestatic 42, 3) := by decide +kernel
theorem dX6_learn_82 : decode cX6_learn 82 = .ok (.ifCond .eq 18, 3) := by decide +kernel
theorem dX6_learn_85 : decode cX6_learn 85 = .ok (.aload_n 0, 1) := by decide +kernel
theorem dX6_learn_86 : decode cX6_learn 86 = .ok (.getfield 15, 3) := by decide +kernel
theorem dX6_learn_89 : decode cX6_learn 89 = .ok (.iload_n 3, 1) := by decide +kernel
theorem dX6_learn_90 : decode cX6_learn 90 = .ok (.dup2, 1) := by decide +kernel
theorem dX6_learn_91 : decode cX6_learn 91 = .ok (.iaload, 1) := by decide +kernel
theorem dX6_learn_92 : decode cX6_learn 92 = .ok (.aload_n 0, 1) := by decide +kernel
theorem dX6_learn_93 : decode cX6_learn 93 = .ok (.getfield 15, 3) := by decide +kernel
theorem dX6_learn_96 : decode cX6_learn 96 = .ok (.iload_n 2, 1) := by decide +kernel
theorem dX6_learn_97 : decode cX6_learn 97 = .ok (.iaload, 1) := by decide +kernel
theorem dX6_learn_98 : decode cX6_learn 98 = .ok (.ior, 1) := by decide +kernel
theorem dX6_learn_99 : decode cX6_learn 99 = .ok (.iastore, 1) := by decide +kernel
