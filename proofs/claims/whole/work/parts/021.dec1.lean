theorem dq_1 : decode cX0_init 0 = .ok (.aload_n 0, 1) ∧ decode cX0_init 1 = .ok (.invokespecial 5, 3) ∧ decode cX0_init 4 = .ok (.aload_n 0, 1) ∧ decode cX0_init 5 = .ok (.sipush 384, 3) ∧ decode cX0_init 8 = .ok (.newarray .long, 2) ∧ decode cX0_init 10 = .ok (.putfield 11, 3) ∧ decode cX0_init 13 = .ok (.return_, 1) := by decide +kernel
theorem dX0_init_0 : decode cX0_init 0 = .ok (.aload_n 0, 1) := dq_1.1
theorem dX0_init_1 : decode cX0_init 1 = .ok (.invokespecial 5, 3) := dq_1.2.1
theorem dX0_init_4 : decode cX0_init 4 = .ok (.aload_n 0, 1) := dq_1.2.2.1
theorem dX0_init_5 : decode cX0_init 5 = .ok (.sipush 384, 3) := dq_1.2.2.2.1
theorem dX0_init_8 : decode cX0_init 8 = .ok (.newarray .long, 2) := dq_1.2.2.2.2.1
theorem dX0_init_10 : decode cX0_init 10 = .ok (.putfield 11, 3) := dq_1.2.2.2.2.2.1
theorem dX0_init_13 : decode cX0_init 13 = .ok (.return_, 1) := dq_1.2.2.2.2.2.2
theorem dq_2 : decode cX0_patternOf 0 = .ok (.iload_n 0, 1) ∧ decode cX0_patternOf 1 = .ok (.sipush 208, 3) ∧ decode cX0_patternOf 4 = .ok (.idiv, 1) ∧ decode cX0_patternOf 5 = .ok (.ireturn, 1) := by decide +kernel
theorem dX0_patternOf_0 : decode cX0_patternOf 0 = .ok (.iload_n 0, 1) := dq_2.1
theorem dX0_patternOf_1 : decode cX0_patternOf 1 = .ok (.sipush 208, 3) := dq_2.2.1
theorem dX0_patternOf_4 : decode cX0_patternOf 4 = .ok (.idiv, 1) := dq_2.2.2.1
theorem dX0_patternOf_5 : decode cX0_patternOf 5 = .ok (.ireturn, 1) := dq_2.2.2.2
theorem dq_3 : decode cX0_scaleOf 0 = .ok (.iload_n 0, 1) ∧ decode cX0_scaleOf 1 = .ok (.sipush 208, 3) ∧ decode cX0_scaleOf 4 = .ok (.irem, 1) ∧ decode cX0_scaleOf 5 = .ok (.sipush 200, 3) ∧ decode cX0_scaleOf 8 = .ok (.if_icmp .ge 7, 3) ∧ decode cX0_scaleOf 11 = .ok (.iconst 1, 1) ∧ decode cX0_scaleOf 12 = .ok (.goto 4, 3) ∧ decode cX0_scaleOf 15 = .ok (.iconst 2, 1) ∧ decode cX0_scaleOf 16 = .ok (.ireturn, 1) := by decide +kernel
theorem dX0_scaleOf_0 : decode cX0_scaleOf 0 = .ok (.iload_n 0, 1) := dq_3.1
theorem dX0_scaleOf_1 : decode cX0_scaleOf 1 = .ok (.sipush 208, 3) := dq_3.2.1
theorem dX0_scaleOf_4 : decode cX0_scaleOf 4 = .ok (.irem, 1) := dq_3.2.2.1
theorem dX0_scaleOf_5 : decode cX0_scaleOf 5 = .ok (.sipush 200, 3) := dq_3.2.2.2.1
theorem dX0_scaleOf_8 : decode cX0_scaleOf 8 = .ok (.if_icmp .ge 7, 3) := dq_3.2.2.2.2.1
theorem dX0_scaleOf_11 : decode cX0_scaleOf 11 = .ok (.iconst 1, 1) := dq_3.2.2.2.2.2.1
theorem dX0_scaleOf_12 : decode cX0_scaleOf 12 = .ok (.goto 4, 3) := dq_3.2.2.2.2.2.2.1
theorem dX0_scaleOf_15 : decode cX0_scaleOf 15 = .ok (.iconst 2, 1) := dq_3.2.2.2.2.2.2.2.1
theorem dX0_scaleOf_16 : decode cX0_scaleOf 16 = .ok (.ireturn, 1) := dq_3.2.2.2.2.2.2.2.2
theorem dq_4 : decode cX0_wayOf 0 = .ok (.iload_n 0, 1) ∧ decode cX0_wayOf 1 = .ok (.sipush 208, 3) ∧ decode cX0_wayOf 4 = .ok (.irem, 1) ∧ decode cX0_wayOf 5 = .ok (.istore_n 1, 1) ∧ decode cX0_wayOf 6 = .ok (.iload_n 1, 1) ∧ decode cX0_wayOf 7 = .ok (.sipush 200, 3) ∧ decode cX0_wayOf 10 = .ok (.if_icmp .ge 10, 3) ∧ decode cX0_wayOf 13 = .ok (.iload_n 1, 1) ∧ decode cX0_wayOf 14 = .ok (.bipush 25, 2) ∧ decode cX0_wayOf 16 = .ok (.idiv, 1) ∧ decode cX0_wayOf 17 = .ok (.goto 8, 3) ∧ decode cX0_wayOf 20 = .ok (.iload_n 1, 1) := by decide +kernel
theorem dX0_wayOf_0 : decode cX0_wayOf 0 = .ok (.iload_n 0, 1) := dq_4.1
theorem dX0_wayOf_1 : decode cX0_wayOf 1 = .ok (.sipush 208, 3) := dq_4.2.1
theorem dX0_wayOf_4 : decode cX0_wayOf 4 = .ok (.irem, 1) := dq_4.2.2.1
theorem dX0_wayOf_5 : decode cX0_wayOf 5 = .ok (.istore_n 1, 1) := dq_4.2.2.2.1
theorem dX0_wayOf_6 : decode cX0_wayOf 6 = .ok (.iload_n 1, 1) := dq_4.2.2.2.2.1
theorem dX0_wayOf_7 : decode cX0_wayOf 7 = .ok (.sipush 200, 3) := dq_4.2.2.2.2.2.1
theorem dX0_wayOf_10 : decode cX0_wayOf 10 = .ok (.if_icmp .ge 10, 3) := dq_4.2.2.2.2.2.2.1
theorem dX0_wayOf_13 : decode cX0_wayOf 13 = .ok (.iload_n 1, 1) := dq_4.2.2.2.2.2.2.2.1
theorem dX0_wayOf_14 : decode cX0_wayOf 14 = .ok (.bipush 25, 2) := dq_4.2.2.2.2.2.2.2.2.1
theorem dX0_wayOf_16 : decode cX0_wayOf 16 = .ok (.idiv, 1) := dq_4.2.2.2.2.2.2.2.2.2.1
theorem dX0_wayOf_17 : decode cX0_wayOf 17 = .ok (.goto 8, 3) := dq_4.2.2.2.2.2.2.2.2.2.2.1
theorem dX0_wayOf_20 : decode cX0_wayOf 20 = .ok (.iload_n 1, 1) := dq_4.2.2.2.2.2.2.2.2.2.2.2
theorem dq_5 : decode cX0_wayOf 21 = .ok (.sipush 200, 3) ∧ decode cX0_wayOf 24 = .ok (.isub, 1) ∧ decode cX0_wayOf 25 = .ok (.ireturn, 1) := by decide +kernel
theorem dX0_wayOf_21 : decode cX0_wayOf 21 = .ok (.sipush 200, 3) := dq_5.1
theorem dX0_wayOf_24 : decode cX0_wayOf 24 = .ok (.isub, 1) := dq_5.2.1
theorem dX0_wayOf_25 : decode cX0_wayOf 25 = .ok (.ireturn, 1) := dq_5.2.2
theorem dq_6 : decode cX0_cellOf 0 = .ok (.iload_n 0, 1) ∧ decode cX0_cellOf 1 = .ok (.sipush 208, 3) ∧ decode cX0_cellOf 4 = .ok (.irem, 1) ∧ decode cX0_cellOf 5 = .ok (.istore_n 1, 1) ∧ decode cX0_cellOf 6 = .ok (.iload_n 1, 1) ∧ decode cX0_cellOf 7 = .ok (.sipush 200, 3) ∧ decode cX0_cellOf 10 = .ok (.if_icmp .ge 10, 3) ∧ decode cX0_cellOf 13 = .ok (.iload_n 1, 1) ∧ decode cX0_cellOf 14 = .ok (.bipush 25, 2) ∧ decode cX0_cellOf 16 = .ok (.irem, 1) ∧ decode cX0_cellOf 17 = .ok (.goto 4, 3) ∧ decode cX0_cellOf 20 = .ok (.iconst 0, 1) := by decide +kernel
theorem dX0_cellOf_0 : decode cX0_cellOf 0 = .ok (.iload_n 0, 1) := dq_6.1
theorem dX0_cellOf_1 : decode cX0_cellOf 1 = .ok (.sipush 208, 3) := dq_6.2.1
theorem dX0_cellOf_4 : decode cX0_cellOf 4 = .ok (.irem, 1) := dq_6.2.2.1
theorem dX0_cellOf_5 : decode cX0_cellOf 5 = .ok (.istore_n 1, 1) := dq_6.2.2.2.1
theorem dX0_cellOf_6 : decode cX0_cellOf 6 = .ok (.iload_n 1, 1) := dq_6.2.2.2.2.1
theorem dX0_cellOf_7 : decode cX0_cellOf 7 = .ok (.sipush 200, 3) := dq_6.2.2.2.2.2.1
theorem dX0_cellOf_10 : decode cX0_cellOf 10 = .ok (.if_icmp .ge 10, 3) := dq_6.2.2.2.2.2.2.1
theorem dX0_cellOf_13 : decode cX0_cellOf 13 = .ok (.iload_n 1, 1) := dq_6.2.2.2.2.2.2.2.1
theorem dX0_cellOf_14 : decode cX0_cellOf 14 = .ok (.bipush 25, 2) := dq_6.2.2.2.2.2.2.2.2.1
theorem dX0_cellOf_16 : decode cX0_cellOf 16 = .ok (.irem, 1) := dq_6.2.2.2.2.2.2.2.2.2.1
theorem dX0_cellOf_17 : decode cX0_cellOf 17 = .ok (.goto 4, 3) := dq_6.2.2.2.2.2.2.2.2.2.2.1
theorem dX0_cellOf_20 : decode cX0_cellOf 20 = .ok (.iconst 0, 1) := dq_6.2.2.2.2.2.2.2.2.2.2.2
theorem dq_7 : decode cX0_cellOf 21 = .ok (.istore_n 2, 1) ∧ decode cX0_cellOf 22 = .ok (.iload_n 2, 1) ∧ decode cX0_cellOf 23 = .ok (.iconst 5, 1) ∧ decode cX0_cellOf 24 = .ok (.idiv, 1) ∧ decode cX0_cellOf 25 = .ok (.bipush 8, 2) ∧ decode cX0_cellOf 27 = .ok (.imul, 1) ∧ decode cX0_cellOf 28 = .ok (.iload_n 2, 1) ∧ decode cX0_cellOf 29 = .ok (.iconst 5, 1) ∧ decode cX0_cellOf 30 = .ok (.irem, 1) ∧ decode cX0_cellOf 31 = .ok (.iadd, 1) ∧ decode cX0_cellOf 32 = .ok (.ireturn, 1) := by decide +kernel
theorem dX0_cellOf_21 : decode cX0_cellOf 21 = .ok (.istore_n 2, 1) := dq_7.1
theorem dX0_cellOf_22 : decode cX0_cellOf 22 = .ok (.iload_n 2, 1) := dq_7.2.1
theorem dX0_cellOf_23 : decode cX0_cellOf 23 = .ok (.iconst 5, 1) := dq_7.2.2.1
theorem dX0_cellOf_24 : decode cX0_cellOf 24 = .ok (.idiv, 1) := dq_7.2.2.2.1
theorem dX0_cellOf_25 : decode cX0_cellOf 25 = .ok (.bipush 8, 2) := dq_7.2.2.2.2.1
theorem dX0_cellOf_27 : decode cX0_cellOf 27 = .ok (.imul, 1) := dq_7.2.2.2.2.2.1
theorem dX0_cellOf_28 : decode cX0_cellOf 28 = .ok (.iload_n 2, 1) := dq_7.2.2.2.2.2.2.1
theorem dX0_cellOf_29 : decode cX0_cellOf 29 = .ok (.iconst 5, 1) := dq_7.2.2.2.2.2.2.2.1
theorem dX0_cellOf_30 : decode cX0_cellOf 30 = .ok (.irem, 1) := dq_7.2.2.2.2.2.2.2.2.1
theorem dX0_cellOf_31 : decode cX0_cellOf 31 = .ok (.iadd, 1) := dq_7.2.2.2.2.2.2.2.2.2.1
theorem dX0_cellOf_32 : decode cX0_cellOf 32 = .ok (.ireturn, 1) := dq_7.2.2.2.2.2.2.2.2.2.2
theorem dq_8 : decode cX0_shapeOf 0 = .ok (.iload_n 0, 1) ∧ decode cX0_shapeOf 1 = .ok (.invokestatic 15, 3) ∧ decode cX0_shapeOf 4 = .ok (.iconst 2, 1) ∧ decode cX0_shapeOf 5 = .ok (.imul, 1) ∧ decode cX0_shapeOf 6 = .ok (.iload_n 0, 1) ∧ decode cX0_shapeOf 7 = .ok (.invokestatic 19, 3) ∧ decode cX0_shapeOf 10 = .ok (.iadd, 1) ∧ decode cX0_shapeOf 11 = .ok (.iconst 1, 1) ∧ decode cX0_shapeOf 12 = .ok (.isub, 1) ∧ decode cX0_shapeOf 13 = .ok (.bipush 8, 2) ∧ decode cX0_shapeOf 15 = .ok (.imul, 1) ∧ decode cX0_shapeOf 16 = .ok (.iload_n 0, 1) := by decide +kernel
theorem dX0_shapeOf_0 : decode cX0_shapeOf 0 = .ok (.iload_n 0, 1) := dq_8.1
theorem dX0_shapeOf_1 : decode cX0_shapeOf 1 = .ok (.invokestatic 15, 3) := dq_8.2.1
theorem dX0_shapeOf_4 : decode cX0_shapeOf 4 = .ok (.iconst 2, 1) := dq_8.2.2.1
theorem dX0_shapeOf_5 : decode cX0_shapeOf 5 = .ok (.imul, 1) := dq_8.2.2.2.1
theorem dX0_shapeOf_6 : decode cX0_shapeOf 6 = .ok (.iload_n 0, 1) := dq_8.2.2.2.2.1
theorem dX0_shapeOf_7 : decode cX0_shapeOf 7 = .ok (.invokestatic 19, 3) := dq_8.2.2.2.2.2.1
theorem dX0_shapeOf_10 : decode cX0_shapeOf 10 = .ok (.iadd, 1) := dq_8.2.2.2.2.2.2.1
theorem dX0_shapeOf_11 : decode cX0_shapeOf 11 = .ok (.iconst 1, 1) := dq_8.2.2.2.2.2.2.2.1
theorem dX0_shapeOf_12 : decode cX0_shapeOf 12 = .ok (.isub, 1) := dq_8.2.2.2.2.2.2.2.2.1
theorem dX0_shapeOf_13 : decode cX0_shapeOf 13 = .ok (.bipush 8, 2) := dq_8.2.2.2.2.2.2.2.2.2.1
theorem dX0_shapeOf_15 : decode cX0_shapeOf 15 = .ok (.imul, 1) := dq_8.2.2.2.2.2.2.2.2.2.2.1
theorem dX0_shapeOf_16 : decode cX0_shapeOf 16 = .ok (.iload_n 0, 1) := dq_8.2.2.2.2.2.2.2.2.2.2.2
theorem dq_9 : decode cX0_shapeOf 17 = .ok (.invokestatic 22, 3) ∧ decode cX0_shapeOf 20 = .ok (.iadd, 1) ∧ decode cX0_shapeOf 21 = .ok (.bipush 6, 2) ∧ decode cX0_shapeOf 23 = .ok (.imul, 1) ∧ decode cX0_shapeOf 24 = .ok (.ireturn, 1) := by decide +kernel
theorem dX0_shapeOf_17 : decode cX0_shapeOf 17 = .ok (.invokestatic 22, 3) := dq_9.1
theorem dX0_shapeOf_20 : decode cX0_shapeOf 20 = .ok (.iadd, 1) := dq_9.2.1
theorem dX0_shapeOf_21 : decode cX0_shapeOf 21 = .ok (.bipush 6, 2) := dq_9.2.2.1
theorem dX0_shapeOf_23 : decode cX0_shapeOf 23 = .ok (.imul, 1) := dq_9.2.2.2.1
theorem dX0_shapeOf_24 : decode cX0_shapeOf 24 = .ok (.ireturn, 1) := dq_9.2.2.2.2
theorem dq_10 : decode cX0_copyNumber 0 = .ok (.iload_n 1, 1) ∧ decode cX0_copyNumber 1 = .ok (.iconst 0, 1) ∧ decode cX0_copyNumber 2 = .ok (.aload_n 0, 1) ∧ decode cX0_copyNumber 3 = .ok (.getfield 25, 3) ∧ decode cX0_copyNumber 6 = .ok (.iconst 1, 1) ∧ decode cX0_copyNumber 7 = .ok (.isub, 1) ∧ decode cX0_copyNumber 8 = .ok (.invokestatic 29, 3) ∧ decode cX0_copyNumber 11 = .ok (.ifCond .eq 30, 3) ∧ decode cX0_copyNumber 14 = .ok (.iload_n 2, 1) ∧ decode cX0_copyNumber 15 = .ok (.iconst 0, 1) ∧ decode cX0_copyNumber 16 = .ok (.bipush 7, 2) ∧ decode cX0_copyNumber 18 = .ok (.invokestatic 29, 3) := by decide +kernel
theorem dX0_copyNumber_0 : decode cX0_copyNumber 0 = .ok (.iload_n 1, 1) := dq_10.1
theorem dX0_copyNumber_1 : decode cX0_copyNumber 1 = .ok (.iconst 0, 1) := dq_10.2.1
theorem dX0_copyNumber_2 : decode cX0_copyNumber 2 = .ok (.aload_n 0, 1) := dq_10.2.2.1
theorem dX0_copyNumber_3 : decode cX0_copyNumber 3 = .ok (.getfield 25, 3) := dq_10.2.2.2.1
theorem dX0_copyNumber_6 : decode cX0_copyNumber 6 = .ok (.iconst 1, 1) := dq_10.2.2.2.2.1
theorem dX0_copyNumber_7 : decode cX0_copyNumber 7 = .ok (.isub, 1) := dq_10.2.2.2.2.2.1
theorem dX0_copyNumber_8 : decode cX0_copyNumber 8 = .ok (.invokestatic 29, 3) := dq_10.2.2.2.2.2.2.1
theorem dX0_copyNumber_11 : decode cX0_copyNumber 11 = .ok (.ifCond .eq 30, 3) := dq_10.2.2.2.2.2.2.2.1
theorem dX0_copyNumber_14 : decode cX0_copyNumber 14 = .ok (.iload_n 2, 1) := dq_10.2.2.2.2.2.2.2.2.1
theorem dX0_copyNumber_15 : decode cX0_copyNumber 15 = .ok (.iconst 0, 1) := dq_10.2.2.2.2.2.2.2.2.2.1
theorem dX0_copyNumber_16 : decode cX0_copyNumber 16 = .ok (.bipush 7, 2) := dq_10.2.2.2.2.2.2.2.2.2.2.1
theorem dX0_copyNumber_18 : decode cX0_copyNumber 18 = .ok (.invokestatic 29, 3) := dq_10.2.2.2.2.2.2.2.2.2.2.2
theorem dq_11 : decode cX0_copyNumber 21 = .ok (.ifCond .eq 20, 3) ∧ decode cX0_copyNumber 24 = .ok (.iload_n 3, 1) ∧ decode cX0_copyNumber 25 = .ok (.iconst 1, 1) ∧ decode cX0_copyNumber 26 = .ok (.iconst 2, 1) ∧ decode cX0_copyNumber 27 = .ok (.invokestatic 29, 3) ∧ decode cX0_copyNumber 30 = .ok (.ifCond .eq 11, 3) ∧ decode cX0_copyNumber 33 = .ok (.iload 4, 2) ∧ decode cX0_copyNumber 35 = .ok (.invokestatic 33, 3) ∧ decode cX0_copyNumber 38 = .ok (.ifCond .ne 5, 3) ∧ decode cX0_copyNumber 41 = .ok (.iconst (-1), 1) ∧ decode cX0_copyNumber 42 = .ok (.ireturn, 1) ∧ decode cX0_copyNumber 43 = .ok (.iload 4, 2) := by decide +kernel
theorem dX0_copyNumber_21 : decode cX0_copyNumber 21 = .ok (.ifCond .eq 20, 3) := dq_11.1
theorem dX0_copyNumber_24 : decode cX0_copyNumber 24 = .ok (.iload_n 3, 1) := dq_11.2.1
theorem dX0_copyNumber_25 : decode cX0_copyNumber 25 = .ok (.iconst 1, 1) := dq_11.2.2.1
theorem dX0_copyNumber_26 : decode cX0_copyNumber 26 = .ok (.iconst 2, 1) := dq_11.2.2.2.1
theorem dX0_copyNumber_27 : decode cX0_copyNumber 27 = .ok (.invokestatic 29, 3) := dq_11.2.2.2.2.1
theorem dX0_copyNumber_30 : decode cX0_copyNumber 30 = .ok (.ifCond .eq 11, 3) := dq_11.2.2.2.2.2.1
theorem dX0_copyNumber_33 : decode cX0_copyNumber 33 = .ok (.iload 4, 2) := dq_11.2.2.2.2.2.2.1
theorem dX0_copyNumber_35 : decode cX0_copyNumber 35 = .ok (.invokestatic 33, 3) := dq_11.2.2.2.2.2.2.2.1
theorem dX0_copyNumber_38 : decode cX0_copyNumber 38 = .ok (.ifCond .ne 5, 3) := dq_11.2.2.2.2.2.2.2.2.1
theorem dX0_copyNumber_41 : decode cX0_copyNumber 41 = .ok (.iconst (-1), 1) := dq_11.2.2.2.2.2.2.2.2.2.1
theorem dX0_copyNumber_42 : decode cX0_copyNumber 42 = .ok (.ireturn, 1) := dq_11.2.2.2.2.2.2.2.2.2.2.1
theorem dX0_copyNumber_43 : decode cX0_copyNumber 43 = .ok (.iload 4, 2) := dq_11.2.2.2.2.2.2.2.2.2.2.2
theorem dq_12 : decode cX0_copyNumber 45 = .ok (.bipush 8, 2) ∧ decode cX0_copyNumber 47 = .ok (.idiv, 1) ∧ decode cX0_copyNumber 48 = .ok (.istore 5, 2) ∧ decode cX0_copyNumber 50 = .ok (.iload 4, 2) ∧ decode cX0_copyNumber 52 = .ok (.bipush 8, 2) ∧ decode cX0_copyNumber 54 = .ok (.irem, 1) ∧ decode cX0_copyNumber 55 = .ok (.istore 6, 2) ∧ decode cX0_copyNumber 57 = .ok (.bipush 8, 2) ∧ decode cX0_copyNumber 59 = .ok (.iconst 4, 1) ∧ decode cX0_copyNumber 60 = .ok (.iload_n 3, 1) ∧ decode cX0_copyNumber 61 = .ok (.imul, 1) ∧ decode cX0_copyNumber 62 = .ok (.isub, 1) := by decide +kernel
theorem dX0_copyNumber_45 : decode cX0_copyNumber 45 = .ok (.bipush 8, 2) := dq_12.1
theorem dX0_copyNumber_47 : decode cX0_copyNumber 47 = .ok (.idiv, 1) := dq_12.2.1
theorem dX0_copyNumber_48 : decode cX0_copyNumber 48 = .ok (.istore 5, 2) := dq_12.2.2.1
theorem dX0_copyNumber_50 : decode cX0_copyNumber 50 = .ok (.iload 4, 2) := dq_12.2.2.2.1
theorem dX0_copyNumber_52 : decode cX0_copyNumber 52 = .ok (.bipush 8, 2) := dq_12.2.2.2.2.1
theorem dX0_copyNumber_54 : decode cX0_copyNumber 54 = .ok (.irem, 1) := dq_12.2.2.2.2.2.1
theorem dX0_copyNumber_55 : decode cX0_copyNumber 55 = .ok (.istore 6, 2) := dq_12.2.2.2.2.2.2.1
theorem dX0_copyNumber_57 : decode cX0_copyNumber 57 = .ok (.bipush 8, 2) := dq_12.2.2.2.2.2.2.2.1
theorem dX0_copyNumber_59 : decode cX0_copyNumber 59 = .ok (.iconst 4, 1) := dq_12.2.2.2.2.2.2.2.2.1
theorem dX0_copyNumber_60 : decode cX0_copyNumber 60 = .ok (.iload_n 3, 1) := dq_12.2.2.2.2.2.2.2.2.2.1
theorem dX0_copyNumber_61 : decode cX0_copyNumber 61 = .ok (.imul, 1) := dq_12.2.2.2.2.2.2.2.2.2.2.1
theorem dX0_copyNumber_62 : decode cX0_copyNumber 62 = .ok (.isub, 1) := dq_12.2.2.2.2.2.2.2.2.2.2.2
theorem dq_13 : decode cX0_copyNumber 63 = .ok (.istore 7, 2) ∧ decode cX0_copyNumber 65 = .ok (.iload 5, 2) ∧ decode cX0_copyNumber 67 = .ok (.iload 7, 2) ∧ decode cX0_copyNumber 69 = .ok (.if_icmp .gt 10, 3) ∧ decode cX0_copyNumber 72 = .ok (.iload 6, 2) ∧ decode cX0_copyNumber 74 = .ok (.iload 7, 2) ∧ decode cX0_copyNumber 76 = .ok (.if_icmp .le 5, 3) ∧ decode cX0_copyNumber 79 = .ok (.iconst (-1), 1) ∧ decode cX0_copyNumber 80 = .ok (.ireturn, 1) ∧ decode cX0_copyNumber 81 = .ok (.iload_n 1, 1) ∧ decode cX0_copyNumber 82 = .ok (.sipush 208, 3) ∧ decode cX0_copyNumber 85 = .ok (.imul, 1) := by decide +kernel
theorem dX0_copyNumber_63 : decode cX0_copyNumber 63 = .ok (.istore 7, 2) := dq_13.1
theorem dX0_copyNumber_65 : decode cX0_copyNumber 65 = .ok (.iload 5, 2) := dq_13.2.1
theorem dX0_copyNumber_67 : decode cX0_copyNumber 67 = .ok (.iload 7, 2) := dq_13.2.2.1
theorem dX0_copyNumber_69 : decode cX0_copyNumber 69 = .ok (.if_icmp .gt 10, 3) := dq_13.2.2.2.1
theorem dX0_copyNumber_72 : decode cX0_copyNumber 72 = .ok (.iload 6, 2) := dq_13.2.2.2.2.1
theorem dX0_copyNumber_74 : decode cX0_copyNumber 74 = .ok (.iload 7, 2) := dq_13.2.2.2.2.2.1
theorem dX0_copyNumber_76 : decode cX0_copyNumber 76 = .ok (.if_icmp .le 5, 3) := dq_13.2.2.2.2.2.2.1
theorem dX0_copyNumber_79 : decode cX0_copyNumber 79 = .ok (.iconst (-1), 1) := dq_13.2.2.2.2.2.2.2.1
theorem dX0_copyNumber_80 : decode cX0_copyNumber 80 = .ok (.ireturn, 1) := dq_13.2.2.2.2.2.2.2.2.1
theorem dX0_copyNumber_81 : decode cX0_copyNumber 81 = .ok (.iload_n 1, 1) := dq_13.2.2.2.2.2.2.2.2.2.1
theorem dX0_copyNumber_82 : decode cX0_copyNumber 82 = .ok (.sipush 208, 3) := dq_13.2.2.2.2.2.2.2.2.2.2.1
theorem dX0_copyNumber_85 : decode cX0_copyNumber 85 = .ok (.imul, 1) := dq_13.2.2.2.2.2.2.2.2.2.2.2
theorem dq_14 : decode cX0_copyNumber 86 = .ok (.iload_n 3, 1) ∧ decode cX0_copyNumber 87 = .ok (.iconst 2, 1) ∧ decode cX0_copyNumber 88 = .ok (.if_icmp .ne 11, 3) ∧ decode cX0_copyNumber 91 = .ok (.sipush 200, 3) ∧ decode cX0_copyNumber 94 = .ok (.iload_n 2, 1) ∧ decode cX0_copyNumber 95 = .ok (.iadd, 1) ∧ decode cX0_copyNumber 96 = .ok (.goto 15, 3) ∧ decode cX0_copyNumber 99 = .ok (.iload_n 2, 1) ∧ decode cX0_copyNumber 100 = .ok (.bipush 25, 2) ∧ decode cX0_copyNumber 102 = .ok (.imul, 1) ∧ decode cX0_copyNumber 103 = .ok (.iload 5, 2) ∧ decode cX0_copyNumber 105 = .ok (.iconst 5, 1) := by decide +kernel
theorem dX0_copyNumber_86 : decode cX0_copyNumber 86 = .ok (.iload_n 3, 1) := dq_14.1
theorem dX0_copyNumber_87 : decode cX0_copyNumber 87 = .ok (.iconst 2, 1) := dq_14.2.1
theorem dX0_copyNumber_88 : decode cX0_copyNumber 88 = .ok (.if_icmp .ne 11, 3) := dq_14.2.2.1
theorem dX0_copyNumber_91 : decode cX0_copyNumber 91 = .ok (.sipush 200, 3) := dq_14.2.2.2.1
theorem dX0_copyNumber_94 : decode cX0_copyNumber 94 = .ok (.iload_n 2, 1) := dq_14.2.2.2.2.1
theorem dX0_copyNumber_95 : decode cX0_copyNumber 95 = .ok (.iadd, 1) := dq_14.2.2.2.2.2.1
theorem dX0_copyNumber_96 : decode cX0_copyNumber 96 = .ok (.goto 15, 3) := dq_14.2.2.2.2.2.2.1
theorem dX0_copyNumber_99 : decode cX0_copyNumber 99 = .ok (.iload_n 2, 1) := dq_14.2.2.2.2.2.2.2.1
theorem dX0_copyNumber_100 : decode cX0_copyNumber 100 = .ok (.bipush 25, 2) := dq_14.2.2.2.2.2.2.2.2.1
theorem dX0_copyNumber_102 : decode cX0_copyNumber 102 = .ok (.imul, 1) := dq_14.2.2.2.2.2.2.2.2.2.1
theorem dX0_copyNumber_103 : decode cX0_copyNumber 103 = .ok (.iload 5, 2) := dq_14.2.2.2.2.2.2.2.2.2.2.1
theorem dX0_copyNumber_105 : decode cX0_copyNumber 105 = .ok (.iconst 5, 1) := dq_14.2.2.2.2.2.2.2.2.2.2.2
theorem dq_15 : decode cX0_copyNumber 106 = .ok (.imul, 1) ∧ decode cX0_copyNumber 107 = .ok (.iadd, 1) ∧ decode cX0_copyNumber 108 = .ok (.iload 6, 2) ∧ decode cX0_copyNumber 110 = .ok (.iadd, 1) ∧ decode cX0_copyNumber 111 = .ok (.iadd, 1) ∧ decode cX0_copyNumber 112 = .ok (.ireturn, 1) := by decide +kernel
theorem dX0_copyNumber_106 : decode cX0_copyNumber 106 = .ok (.imul, 1) := dq_15.1
theorem dX0_copyNumber_107 : decode cX0_copyNumber 107 = .ok (.iadd, 1) := dq_15.2.1
theorem dX0_copyNumber_108 : decode cX0_copyNumber 108 = .ok (.iload 6, 2) := dq_15.2.2.1
theorem dX0_copyNumber_110 : decode cX0_copyNumber 110 = .ok (.iadd, 1) := dq_15.2.2.2.1
theorem dX0_copyNumber_111 : decode cX0_copyNumber 111 = .ok (.iadd, 1) := dq_15.2.2.2.2.1
theorem dX0_copyNumber_112 : decode cX0_copyNumber 112 = .ok (.ireturn, 1) := dq_15.2.2.2.2.2
theorem dq_16 : decode cX0_numbers 0 = .ok (.aload_n 0, 1) ∧ decode cX0_numbers 1 = .ok (.getfield 25, 3) ∧ decode cX0_numbers 4 = .ok (.sipush 208, 3) ∧ decode cX0_numbers 7 = .ok (.imul, 1) ∧ decode cX0_numbers 8 = .ok (.ireturn, 1) := by decide +kernel
theorem dX0_numbers_0 : decode cX0_numbers 0 = .ok (.aload_n 0, 1) := dq_16.1
theorem dX0_numbers_1 : decode cX0_numbers 1 = .ok (.getfield 25, 3) := dq_16.2.1
theorem dX0_numbers_4 : decode cX0_numbers 4 = .ok (.sipush 208, 3) := dq_16.2.2.1
theorem dX0_numbers_7 : decode cX0_numbers 7 = .ok (.imul, 1) := dq_16.2.2.2.1
theorem dX0_numbers_8 : decode cX0_numbers 8 = .ok (.ireturn, 1) := dq_16.2.2.2.2
theorem dq_17 : decode cX0_learn 0 = .ok (.aload_n 0, 1) ∧ decode cX0_learn 1 = .ok (.getfield 11, 3) ∧ decode cX0_learn 4 = .ok (.lconst 0, 1) ∧ decode cX0_learn 5 = .ok (.invokestatic 37, 3) ∧ decode cX0_learn 8 = .ok (.aload_n 0, 1) ∧ decode cX0_learn 9 = .ok (.aload_n 1, 1) ∧ decode cX0_learn 10 = .ok (.invokevirtual 43, 3) ∧ decode cX0_learn 13 = .ok (.putfield 25, 3) ∧ decode cX0_learn 16 = .ok (.iconst 0, 1) ∧ decode cX0_learn 17 = .ok (.istore_n 2, 1) ∧ decode cX0_learn 18 = .ok (.iload_n 2, 1) ∧ decode cX0_learn 19 = .ok (.aload_n 0, 1) := by decide +kernel
theorem dX0_learn_0 : decode cX0_learn 0 = .ok (.aload_n 0, 1) := dq_17.1
theorem dX0_learn_1 : decode cX0_learn 1 = .ok (.getfield 11, 3) := dq_17.2.1
theorem dX0_learn_4 : decode cX0_learn 4 = .ok (.lconst 0, 1) := dq_17.2.2.1
theorem dX0_learn_5 : decode cX0_learn 5 = .ok (.invokestatic 37, 3) := dq_17.2.2.2.1
theorem dX0_learn_8 : decode cX0_learn 8 = .ok (.aload_n 0, 1) := dq_17.2.2.2.2.1
theorem dX0_learn_9 : decode cX0_learn 9 = .ok (.aload_n 1, 1) := dq_17.2.2.2.2.2.1
theorem dX0_learn_10 : decode cX0_learn 10 = .ok (.invokevirtual 43, 3) := dq_17.2.2.2.2.2.2.1
theorem dX0_learn_13 : decode cX0_learn 13 = .ok (.putfield 25, 3) := dq_17.2.2.2.2.2.2.2.1
theorem dX0_learn_16 : decode cX0_learn 16 = .ok (.iconst 0, 1) := dq_17.2.2.2.2.2.2.2.2.1
theorem dX0_learn_17 : decode cX0_learn 17 = .ok (.istore_n 2, 1) := dq_17.2.2.2.2.2.2.2.2.2.1
theorem dX0_learn_18 : decode cX0_learn 18 = .ok (.iload_n 2, 1) := dq_17.2.2.2.2.2.2.2.2.2.2.1
theorem dX0_learn_19 : decode cX0_learn 19 = .ok (.aload_n 0, 1) := dq_17.2.2.2.2.2.2.2.2.2.2.2
theorem dq_18 : decode cX0_learn 20 = .ok (.getfield 25, 3) ∧ decode cX0_learn 23 = .ok (.if_icmp .ge 117, 3) ∧ decode cX0_learn 26 = .ok (.iconst 0, 1) ∧ decode cX0_learn 27 = .ok (.istore_n 3, 1) ∧ decode cX0_learn 28 = .ok (.iload_n 3, 1) ∧ decode cX0_learn 29 = .ok (.bipush 8, 2) ∧ decode cX0_learn 31 = .ok (.if_icmp .ge 103, 3) ∧ decode cX0_learn 34 = .ok (.iconst 0, 1) ∧ decode cX0_learn 35 = .ok (.istore 4, 2) ∧ decode cX0_learn 37 = .ok (.iload 4, 2) ∧ decode cX0_learn 39 = .ok (.bipush 16, 2) ∧ decode cX0_learn 41 = .ok (.if_icmp .ge 87, 3) := by decide +kernel
theorem dX0_learn_20 : decode cX0_learn 20 = .ok (.getfield 25, 3) := dq_18.1
theorem dX0_learn_23 : decode cX0_learn 23 = .ok (.if_icmp .ge 117, 3) := dq_18.2.1
theorem dX0_learn_26 : decode cX0_learn 26 = .ok (.iconst 0, 1) := dq_18.2.2.1
theorem dX0_learn_27 : decode cX0_learn 27 = .ok (.istore_n 3, 1) := dq_18.2.2.2.1
theorem dX0_learn_28 : decode cX0_learn 28 = .ok (.iload_n 3, 1) := dq_18.2.2.2.2.1
theorem dX0_learn_29 : decode cX0_learn 29 = .ok (.bipush 8, 2) := dq_18.2.2.2.2.2.1
theorem dX0_learn_31 : decode cX0_learn 31 = .ok (.if_icmp .ge 103, 3) := dq_18.2.2.2.2.2.2.1
theorem dX0_learn_34 : decode cX0_learn 34 = .ok (.iconst 0, 1) := dq_18.2.2.2.2.2.2.2.1
theorem dX0_learn_35 : decode cX0_learn 35 = .ok (.istore 4, 2) := dq_18.2.2.2.2.2.2.2.2.1
theorem dX0_learn_37 : decode cX0_learn 37 = .ok (.iload 4, 2) := dq_18.2.2.2.2.2.2.2.2.2.1
theorem dX0_learn_39 : decode cX0_learn 39 = .ok (.bipush 16, 2) := dq_18.2.2.2.2.2.2.2.2.2.2.1
theorem dX0_learn_41 : decode cX0_learn 41 = .ok (.if_icmp .ge 87, 3) := dq_18.2.2.2.2.2.2.2.2.2.2.2
theorem dq_19 : decode cX0_learn 44 = .ok (.aload_n 1, 1) ∧ decode cX0_learn 45 = .ok (.iload_n 2, 1) ∧ decode cX0_learn 46 = .ok (.iload_n 3, 1) ∧ decode cX0_learn 47 = .ok (.iload 4, 2) ∧ decode cX0_learn 49 = .ok (.iconst 4, 1) ∧ decode cX0_learn 50 = .ok (.invokestatic 48, 3) ∧ decode cX0_learn 53 = .ok (.invokevirtual 52, 3) ∧ decode cX0_learn 56 = .ok (.istore 5, 2) ∧ decode cX0_learn 58 = .ok (.iload 4, 2) ∧ decode cX0_learn 60 = .ok (.iconst 4, 1) ∧ decode cX0_learn 61 = .ok (.idiv, 1) ∧ decode cX0_learn 62 = .ok (.istore 6, 2) := by decide +kernel
theorem dX0_learn_44 : decode cX0_learn 44 = .ok (.aload_n 1, 1) := dq_19.1
theorem dX0_learn_45 : decode cX0_learn 45 = .ok (.iload_n 2, 1) := dq_19.2.1
theorem dX0_learn_46 : decode cX0_learn 46 = .ok (.iload_n 3, 1) := dq_19.2.2.1
theorem dX0_learn_47 : decode cX0_learn 47 = .ok (.iload 4, 2) := dq_19.2.2.2.1
theorem dX0_learn_49 : decode cX0_learn 49 = .ok (.iconst 4, 1) := dq_19.2.2.2.2.1
theorem dX0_learn_50 : decode cX0_learn 50 = .ok (.invokestatic 48, 3) := dq_19.2.2.2.2.2.1
theorem dX0_learn_53 : decode cX0_learn 53 = .ok (.invokevirtual 52, 3) := dq_19.2.2.2.2.2.2.1
theorem dX0_learn_56 : decode cX0_learn 56 = .ok (.istore 5, 2) := dq_19.2.2.2.2.2.2.2.1
theorem dX0_learn_58 : decode cX0_learn 58 = .ok (.iload 4, 2) := dq_19.2.2.2.2.2.2.2.2.1
theorem dX0_learn_60 : decode cX0_learn 60 = .ok (.iconst 4, 1) := dq_19.2.2.2.2.2.2.2.2.2.1
theorem dX0_learn_61 : decode cX0_learn 61 = .ok (.idiv, 1) := dq_19.2.2.2.2.2.2.2.2.2.2.1
theorem dX0_learn_62 : decode cX0_learn 62 = .ok (.istore 6, 2) := dq_19.2.2.2.2.2.2.2.2.2.2.2
theorem dq_20 : decode cX0_learn 64 = .ok (.iload 4, 2) ∧ decode cX0_learn 66 = .ok (.iconst 4, 1) ∧ decode cX0_learn 67 = .ok (.irem, 1) ∧ decode cX0_learn 68 = .ok (.istore 7, 2) ∧ decode cX0_learn 70 = .ok (.aload_n 0, 1) ∧ decode cX0_learn 71 = .ok (.aload_n 0, 1) ∧ decode cX0_learn 72 = .ok (.iload_n 2, 1) ∧ decode cX0_learn 73 = .ok (.iload_n 3, 1) ∧ decode cX0_learn 74 = .ok (.iconst 1, 1) ∧ decode cX0_learn 75 = .ok (.iconst 0, 1) ∧ decode cX0_learn 76 = .ok (.invokevirtual 56, 3) ∧ decode cX0_learn 79 = .ok (.iload 5, 2) := by decide +kernel
theorem dX0_learn_64 : decode cX0_learn 64 = .ok (.iload 4, 2) := dq_20.1
theorem dX0_learn_66 : decode cX0_learn 66 = .ok (.iconst 4, 1) := dq_20.2.1
theorem dX0_learn_67 : decode cX0_learn 67 = .ok (.irem, 1) := dq_20.2.2.1
theorem dX0_learn_68 : decode cX0_learn 68 = .ok (.istore 7, 2) := dq_20.2.2.2.1
theorem dX0_learn_70 : decode cX0_learn 70 = .ok (.aload_n 0, 1) := dq_20.2.2.2.2.1
theorem dX0_learn_71 : decode cX0_learn 71 = .ok (.aload_n 0, 1) := dq_20.2.2.2.2.2.1
theorem dX0_learn_72 : decode cX0_learn 72 = .ok (.iload_n 2, 1) := dq_20.2.2.2.2.2.2.1
theorem dX0_learn_73 : decode cX0_learn 73 = .ok (.iload_n 3, 1) := dq_20.2.2.2.2.2.2.2.1
theorem dX0_learn_74 : decode cX0_learn 74 = .ok (.iconst 1, 1) := dq_20.2.2.2.2.2.2.2.2.1
theorem dX0_learn_75 : decode cX0_learn 75 = .ok (.iconst 0, 1) := dq_20.2.2.2.2.2.2.2.2.2.1
theorem dX0_learn_76 : decode cX0_learn 76 = .ok (.invokevirtual 56, 3) := dq_20.2.2.2.2.2.2.2.2.2.2.1
theorem dX0_learn_79 : decode cX0_learn 79 = .ok (.iload 5, 2) := dq_20.2.2.2.2.2.2.2.2.2.2.2
theorem dq_21 : decode cX0_learn 81 = .ok (.lconst 1, 1) ∧ decode cX0_learn 82 = .ok (.iload 6, 2) ∧ decode cX0_learn 84 = .ok (.bipush 8, 2) ∧ decode cX0_learn 86 = .ok (.imul, 1) ∧ decode cX0_learn 87 = .ok (.iload 7, 2) ∧ decode cX0_learn 89 = .ok (.iadd, 1) ∧ decode cX0_learn 90 = .ok (.lshl, 1) ∧ decode cX0_learn 91 = .ok (.invokevirtual 60, 3) ∧ decode cX0_learn 94 = .ok (.aload_n 0, 1) ∧ decode cX0_learn 95 = .ok (.aload_n 0, 1) ∧ decode cX0_learn 96 = .ok (.iload_n 2, 1) ∧ decode cX0_learn 97 = .ok (.iload_n 3, 1) := by decide +kernel
theorem dX0_learn_81 : decode cX0_learn 81 = .ok (.lconst 1, 1) := dq_21.1
theorem dX0_learn_82 : decode cX0_learn 82 = .ok (.iload 6, 2) := dq_21.2.1
theorem dX0_learn_84 : decode cX0_learn 84 = .ok (.bipush 8, 2) := dq_21.2.2.1
theorem dX0_learn_86 : decode cX0_learn 86 = .ok (.imul, 1) := dq_21.2.2.2.1
theorem dX0_learn_87 : decode cX0_learn 87 = .ok (.iload 7, 2) := dq_21.2.2.2.2.1
theorem dX0_learn_89 : decode cX0_learn 89 = .ok (.iadd, 1) := dq_21.2.2.2.2.2.1
theorem dX0_learn_90 : decode cX0_learn 90 = .ok (.lshl, 1) := dq_21.2.2.2.2.2.2.1
theorem dX0_learn_91 : decode cX0_learn 91 = .ok (.invokevirtual 60, 3) := dq_21.2.2.2.2.2.2.2.1
theorem dX0_learn_94 : decode cX0_learn 94 = .ok (.aload_n 0, 1) := dq_21.2.2.2.2.2.2.2.2.1
theorem dX0_learn_95 : decode cX0_learn 95 = .ok (.aload_n 0, 1) := dq_21.2.2.2.2.2.2.2.2.2.1
theorem dX0_learn_96 : decode cX0_learn 96 = .ok (.iload_n 2, 1) := dq_21.2.2.2.2.2.2.2.2.2.2.1
theorem dX0_learn_97 : decode cX0_learn 97 = .ok (.iload_n 3, 1) := dq_21.2.2.2.2.2.2.2.2.2.2.2
theorem dq_22 : decode cX0_learn 98 = .ok (.iconst 2, 1) ∧ decode cX0_learn 99 = .ok (.iconst 0, 1) ∧ decode cX0_learn 100 = .ok (.invokevirtual 56, 3) ∧ decode cX0_learn 103 = .ok (.iload 5, 2) ∧ decode cX0_learn 105 = .ok (.ldc2_w 64, 3) ∧ decode cX0_learn 108 = .ok (.iconst 2, 1) ∧ decode cX0_learn 109 = .ok (.iload 6, 2) ∧ decode cX0_learn 111 = .ok (.bipush 8, 2) ∧ decode cX0_learn 113 = .ok (.imul, 1) ∧ decode cX0_learn 114 = .ok (.iload 7, 2) ∧ decode cX0_learn 116 = .ok (.iadd, 1) ∧ decode cX0_learn 117 = .ok (.imul, 1) := by decide +kernel
theorem dX0_learn_98 : decode cX0_learn 98 = .ok (.iconst 2, 1) := dq_22.1
theorem dX0_learn_99 : decode cX0_learn 99 = .ok (.iconst 0, 1) := dq_22.2.1
theorem dX0_learn_100 : decode cX0_learn 100 = .ok (.invokevirtual 56, 3) := dq_22.2.2.1
theorem dX0_learn_103 : decode cX0_learn 103 = .ok (.iload 5, 2) := dq_22.2.2.2.1
theorem dX0_learn_105 : decode cX0_learn 105 = .ok (.ldc2_w 64, 3) := dq_22.2.2.2.2.1
theorem dX0_learn_108 : decode cX0_learn 108 = .ok (.iconst 2, 1) := dq_22.2.2.2.2.2.1
theorem dX0_learn_109 : decode cX0_learn 109 = .ok (.iload 6, 2) := dq_22.2.2.2.2.2.2.1
theorem dX0_learn_111 : decode cX0_learn 111 = .ok (.bipush 8, 2) := dq_22.2.2.2.2.2.2.2.1
theorem dX0_learn_113 : decode cX0_learn 113 = .ok (.imul, 1) := dq_22.2.2.2.2.2.2.2.2.1
theorem dX0_learn_114 : decode cX0_learn 114 = .ok (.iload 7, 2) := dq_22.2.2.2.2.2.2.2.2.2.1
theorem dX0_learn_116 : decode cX0_learn 116 = .ok (.iadd, 1) := dq_22.2.2.2.2.2.2.2.2.2.2.1
theorem dX0_learn_117 : decode cX0_learn 117 = .ok (.imul, 1) := dq_22.2.2.2.2.2.2.2.2.2.2.2
theorem dq_23 : decode cX0_learn 118 = .ok (.lshl, 1) ∧ decode cX0_learn 119 = .ok (.invokevirtual 60, 3) ∧ decode cX0_learn 122 = .ok (.iinc 4 1, 3) ∧ decode cX0_learn 125 = .ok (.goto (-88), 3) ∧ decode cX0_learn 128 = .ok (.iinc 3 1, 3) ∧ decode cX0_learn 131 = .ok (.goto (-103), 3) ∧ decode cX0_learn 134 = .ok (.iinc 2 1, 3) ∧ decode cX0_learn 137 = .ok (.goto (-119), 3) ∧ decode cX0_learn 140 = .ok (.return_, 1) := by decide +kernel
theorem dX0_learn_118 : decode cX0_learn 118 = .ok (.lshl, 1) := dq_23.1
theorem dX0_learn_119 : decode cX0_learn 119 = .ok (.invokevirtual 60, 3) := dq_23.2.1
theorem dX0_learn_122 : decode cX0_learn 122 = .ok (.iinc 4 1, 3) := dq_23.2.2.1
theorem dX0_learn_125 : decode cX0_learn 125 = .ok (.goto (-88), 3) := dq_23.2.2.2.1
theorem dX0_learn_128 : decode cX0_learn 128 = .ok (.iinc 3 1, 3) := dq_23.2.2.2.2.1
theorem dX0_learn_131 : decode cX0_learn 131 = .ok (.goto (-103), 3) := dq_23.2.2.2.2.2.1
theorem dX0_learn_134 : decode cX0_learn 134 = .ok (.iinc 2 1, 3) := dq_23.2.2.2.2.2.2.1
theorem dX0_learn_137 : decode cX0_learn 137 = .ok (.goto (-119), 3) := dq_23.2.2.2.2.2.2.2.1
theorem dX0_learn_140 : decode cX0_learn 140 = .ok (.return_, 1) := dq_23.2.2.2.2.2.2.2.2
theorem dq_24 : decode cX0_addCells 0 = .ok (.iload_n 1, 1) ∧ decode cX0_addCells 1 = .ok (.iconst 0, 1) ∧ decode cX0_addCells 2 = .ok (.aload_n 0, 1) ∧ decode cX0_addCells 3 = .ok (.invokevirtual 66, 3) ∧ decode cX0_addCells 6 = .ok (.iconst 1, 1) ∧ decode cX0_addCells 7 = .ok (.isub, 1) ∧ decode cX0_addCells 8 = .ok (.invokestatic 29, 3) ∧ decode cX0_addCells 11 = .ok (.ifCond .eq 27, 3) ∧ decode cX0_addCells 14 = .ok (.iload_n 2, 1) ∧ decode cX0_addCells 15 = .ok (.iconst 0, 1) ∧ decode cX0_addCells 16 = .ok (.iconst 5, 1) ∧ decode cX0_addCells 17 = .ok (.invokestatic 29, 3) := by decide +kernel
theorem dX0_addCells_0 : decode cX0_addCells 0 = .ok (.iload_n 1, 1) := dq_24.1
theorem dX0_addCells_1 : decode cX0_addCells 1 = .ok (.iconst 0, 1) := dq_24.2.1
theorem dX0_addCells_2 : decode cX0_addCells 2 = .ok (.aload_n 0, 1) := dq_24.2.2.1
theorem dX0_addCells_3 : decode cX0_addCells 3 = .ok (.invokevirtual 66, 3) := dq_24.2.2.2.1
theorem dX0_addCells_6 : decode cX0_addCells 6 = .ok (.iconst 1, 1) := dq_24.2.2.2.2.1
theorem dX0_addCells_7 : decode cX0_addCells 7 = .ok (.isub, 1) := dq_24.2.2.2.2.2.1
theorem dX0_addCells_8 : decode cX0_addCells 8 = .ok (.invokestatic 29, 3) := dq_24.2.2.2.2.2.2.1
theorem dX0_addCells_11 : decode cX0_addCells 11 = .ok (.ifCond .eq 27, 3) := dq_24.2.2.2.2.2.2.2.1
theorem dX0_addCells_14 : decode cX0_addCells 14 = .ok (.iload_n 2, 1) := dq_24.2.2.2.2.2.2.2.2.1
theorem dX0_addCells_15 : decode cX0_addCells 15 = .ok (.iconst 0, 1) := dq_24.2.2.2.2.2.2.2.2.2.1
theorem dX0_addCells_16 : decode cX0_addCells 16 = .ok (.iconst 5, 1) := dq_24.2.2.2.2.2.2.2.2.2.2.1
theorem dX0_addCells_17 : decode cX0_addCells 17 = .ok (.invokestatic 29, 3) := dq_24.2.2.2.2.2.2.2.2.2.2.2
theorem dq_25 : decode cX0_addCells 20 = .ok (.ifCond .eq 18, 3) ∧ decode cX0_addCells 23 = .ok (.aload_n 0, 1) ∧ decode cX0_addCells 24 = .ok (.getfield 11, 3) ∧ decode cX0_addCells 27 = .ok (.iload_n 1, 1) ∧ decode cX0_addCells 28 = .ok (.invokestatic 69, 3) ∧ decode cX0_addCells 31 = .ok (.iload_n 2, 1) ∧ decode cX0_addCells 32 = .ok (.iadd, 1) ∧ decode cX0_addCells 33 = .ok (.dup2, 1) ∧ decode cX0_addCells 34 = .ok (.laload, 1) ∧ decode cX0_addCells 35 = .ok (.lload_n 3, 1) ∧ decode cX0_addCells 36 = .ok (.lor, 1) ∧ decode cX0_addCells 37 = .ok (.lastore, 1) := by decide +kernel
theorem dX0_addCells_20 : decode cX0_addCells 20 = .ok (.ifCond .eq 18, 3) := dq_25.1
theorem dX0_addCells_23 : decode cX0_addCells 23 = .ok (.aload_n 0, 1) := dq_25.2.1
theorem dX0_addCells_24 : decode cX0_addCells 24 = .ok (.getfield 11, 3) := dq_25.2.2.1
theorem dX0_addCells_27 : decode cX0_addCells 27 = .ok (.iload_n 1, 1) := dq_25.2.2.2.1
theorem dX0_addCells_28 : decode cX0_addCells 28 = .ok (.invokestatic 69, 3) := dq_25.2.2.2.2.1
theorem dX0_addCells_31 : decode cX0_addCells 31 = .ok (.iload_n 2, 1) := dq_25.2.2.2.2.2.1
theorem dX0_addCells_32 : decode cX0_addCells 32 = .ok (.iadd, 1) := dq_25.2.2.2.2.2.2.1
theorem dX0_addCells_33 : decode cX0_addCells 33 = .ok (.dup2, 1) := dq_25.2.2.2.2.2.2.2.1
theorem dX0_addCells_34 : decode cX0_addCells 34 = .ok (.laload, 1) := dq_25.2.2.2.2.2.2.2.2.1
theorem dX0_addCells_35 : decode cX0_addCells 35 = .ok (.lload_n 3, 1) := dq_25.2.2.2.2.2.2.2.2.2.1
theorem dX0_addCells_36 : decode cX0_addCells 36 = .ok (.lor, 1) := dq_25.2.2.2.2.2.2.2.2.2.2.1
theorem dX0_addCells_37 : decode cX0_addCells 37 = .ok (.lastore, 1) := dq_25.2.2.2.2.2.2.2.2.2.2.2
theorem dX0_addCells_38 : decode cX0_addCells 38 = .ok (.return_, 1) := by decide +kernel
theorem dq_27 : decode cX0_toldCells 0 = .ok (.iload_n 1, 1) ∧ decode cX0_toldCells 1 = .ok (.iconst 0, 1) ∧ decode cX0_toldCells 2 = .ok (.aload_n 0, 1) ∧ decode cX0_toldCells 3 = .ok (.invokevirtual 66, 3) ∧ decode cX0_toldCells 6 = .ok (.iconst 1, 1) ∧ decode cX0_toldCells 7 = .ok (.isub, 1) ∧ decode cX0_toldCells 8 = .ok (.invokestatic 29, 3) ∧ decode cX0_toldCells 11 = .ok (.ifCond .eq 12, 3) ∧ decode cX0_toldCells 14 = .ok (.iload_n 2, 1) ∧ decode cX0_toldCells 15 = .ok (.iconst 0, 1) ∧ decode cX0_toldCells 16 = .ok (.iconst 5, 1) ∧ decode cX0_toldCells 17 = .ok (.invokestatic 29, 3) := by decide +kernel
theorem dX0_toldCells_0 : decode cX0_toldCells 0 = .ok (.iload_n 1, 1) := dq_27.1
theorem dX0_toldCells_1 : decode cX0_toldCells 1 = .ok (.iconst 0, 1) := dq_27.2.1
theorem dX0_toldCells_2 : decode cX0_toldCells 2 = .ok (.aload_n 0, 1) := dq_27.2.2.1
theorem dX0_toldCells_3 : decode cX0_toldCells 3 = .ok (.invokevirtual 66, 3) := dq_27.2.2.2.1
theorem dX0_toldCells_6 : decode cX0_toldCells 6 = .ok (.iconst 1, 1) := dq_27.2.2.2.2.1
theorem dX0_toldCells_7 : decode cX0_toldCells 7 = .ok (.isub, 1) := dq_27.2.2.2.2.2.1
theorem dX0_toldCells_8 : decode cX0_toldCells 8 = .ok (.invokestatic 29, 3) := dq_27.2.2.2.2.2.2.1
theorem dX0_toldCells_11 : decode cX0_toldCells 11 = .ok (.ifCond .eq 12, 3) := dq_27.2.2.2.2.2.2.2.1
theorem dX0_toldCells_14 : decode cX0_toldCells 14 = .ok (.iload_n 2, 1) := dq_27.2.2.2.2.2.2.2.2.1
theorem dX0_toldCells_15 : decode cX0_toldCells 15 = .ok (.iconst 0, 1) := dq_27.2.2.2.2.2.2.2.2.2.1
theorem dX0_toldCells_16 : decode cX0_toldCells 16 = .ok (.iconst 5, 1) := dq_27.2.2.2.2.2.2.2.2.2.2.1
theorem dX0_toldCells_17 : decode cX0_toldCells 17 = .ok (.invokestatic 29, 3) := dq_27.2.2.2.2.2.2.2.2.2.2.2
theorem dq_28 : decode cX0_toldCells 20 = .ok (.ifCond .ne 5, 3) ∧ decode cX0_toldCells 23 = .ok (.lconst 0, 1) ∧ decode cX0_toldCells 24 = .ok (.lreturn, 1) ∧ decode cX0_toldCells 25 = .ok (.aload_n 0, 1) ∧ decode cX0_toldCells 26 = .ok (.getfield 11, 3) ∧ decode cX0_toldCells 29 = .ok (.iload_n 1, 1) ∧ decode cX0_toldCells 30 = .ok (.invokestatic 69, 3) ∧ decode cX0_toldCells 33 = .ok (.iload_n 2, 1) ∧ decode cX0_toldCells 34 = .ok (.iadd, 1) ∧ decode cX0_toldCells 35 = .ok (.laload, 1) ∧ decode cX0_toldCells 36 = .ok (.iload_n 1, 1) ∧ decode cX0_toldCells 37 = .ok (.invokestatic 72, 3) := by decide +kernel
theorem dX0_toldCells_20 : decode cX0_toldCells 20 = .ok (.ifCond .ne 5, 3) := dq_28.1
theorem dX0_toldCells_23 : decode cX0_toldCells 23 = .ok (.lconst 0, 1) := dq_28.2.1
theorem dX0_toldCells_24 : decode cX0_toldCells 24 = .ok (.lreturn, 1) := dq_28.2.2.1
theorem dX0_toldCells_25 : decode cX0_toldCells 25 = .ok (.aload_n 0, 1) := dq_28.2.2.2.1
theorem dX0_toldCells_26 : decode cX0_toldCells 26 = .ok (.getfield 11, 3) := dq_28.2.2.2.2.1
theorem dX0_toldCells_29 : decode cX0_toldCells 29 = .ok (.iload_n 1, 1) := dq_28.2.2.2.2.2.1
theorem dX0_toldCells_30 : decode cX0_toldCells 30 = .ok (.invokestatic 69, 3) := dq_28.2.2.2.2.2.2.1
theorem dX0_toldCells_33 : decode cX0_toldCells 33 = .ok (.iload_n 2, 1) := dq_28.2.2.2.2.2.2.2.1
theorem dX0_toldCells_34 : decode cX0_toldCells 34 = .ok (.iadd, 1) := dq_28.2.2.2.2.2.2.2.2.1
theorem dX0_toldCells_35 : decode cX0_toldCells 35 = .ok (.laload, 1) := dq_28.2.2.2.2.2.2.2.2.2.1
theorem dX0_toldCells_36 : decode cX0_toldCells 36 = .ok (.iload_n 1, 1) := dq_28.2.2.2.2.2.2.2.2.2.2.1
theorem dX0_toldCells_37 : decode cX0_toldCells 37 = .ok (.invokestatic 72, 3) := dq_28.2.2.2.2.2.2.2.2.2.2.2
theorem dq_29 : decode cX0_toldCells 40 = .ok (.lshl, 1) ∧ decode cX0_toldCells 41 = .ok (.lreturn, 1) := by decide +kernel
theorem dX0_toldCells_40 : decode cX0_toldCells 40 = .ok (.lshl, 1) := dq_29.1
theorem dX0_toldCells_41 : decode cX0_toldCells 41 = .ok (.lreturn, 1) := dq_29.2
theorem dq_30 : decode cX0_agreesIn 0 = .ok (.iconst 0, 1) ∧ decode cX0_agreesIn 1 = .ok (.istore_n 3, 1) ∧ decode cX0_agreesIn 2 = .ok (.iconst 0, 1) ∧ decode cX0_agreesIn 3 = .ok (.istore 4, 2) ∧ decode cX0_agreesIn 5 = .ok (.iload 4, 2) ∧ decode cX0_agreesIn 7 = .ok (.bipush 6, 2) ∧ decode cX0_agreesIn 9 = .ok (.if_icmp .ge 29, 3) ∧ decode cX0_agreesIn 12 = .ok (.iload_n 3, 1) ∧ decode cX0_agreesIn 13 = .ok (.aload_n 0, 1) ∧ decode cX0_agreesIn 14 = .ok (.iload_n 1, 1) ∧ decode cX0_agreesIn 15 = .ok (.iload 4, 2) ∧ decode cX0_agreesIn 17 = .ok (.invokevirtual 75, 3) := by decide +kernel
theorem dX0_agreesIn_0 : decode cX0_agreesIn 0 = .ok (.iconst 0, 1) := dq_30.1
theorem dX0_agreesIn_1 : decode cX0_agreesIn 1 = .ok (.istore_n 3, 1) := dq_30.2.1
theorem dX0_agreesIn_2 : decode cX0_agreesIn 2 = .ok (.iconst 0, 1) := dq_30.2.2.1
theorem dX0_agreesIn_3 : decode cX0_agreesIn 3 = .ok (.istore 4, 2) := dq_30.2.2.2.1
theorem dX0_agreesIn_5 : decode cX0_agreesIn 5 = .ok (.iload 4, 2) := dq_30.2.2.2.2.1
theorem dX0_agreesIn_7 : decode cX0_agreesIn 7 = .ok (.bipush 6, 2) := dq_30.2.2.2.2.2.1
theorem dX0_agreesIn_9 : decode cX0_agreesIn 9 = .ok (.if_icmp .ge 29, 3) := dq_30.2.2.2.2.2.2.1
theorem dX0_agreesIn_12 : decode cX0_agreesIn 12 = .ok (.iload_n 3, 1) := dq_30.2.2.2.2.2.2.2.1
theorem dX0_agreesIn_13 : decode cX0_agreesIn 13 = .ok (.aload_n 0, 1) := dq_30.2.2.2.2.2.2.2.2.1
theorem dX0_agreesIn_14 : decode cX0_agreesIn 14 = .ok (.iload_n 1, 1) := dq_30.2.2.2.2.2.2.2.2.2.1
theorem dX0_agreesIn_15 : decode cX0_agreesIn 15 = .ok (.iload 4, 2) := dq_30.2.2.2.2.2.2.2.2.2.2.1
theorem dX0_agreesIn_17 : decode cX0_agreesIn 17 = .ok (.invokevirtual 75, 3) := dq_30.2.2.2.2.2.2.2.2.2.2.2
theorem dq_31 : decode cX0_agreesIn 20 = .ok (.aload_n 2, 1) ∧ decode cX0_agreesIn 21 = .ok (.iload 4, 2) ∧ decode cX0_agreesIn 23 = .ok (.invokevirtual 79, 3) ∧ decode cX0_agreesIn 26 = .ok (.land, 1) ∧ decode cX0_agreesIn 27 = .ok (.invokestatic 85, 3) ∧ decode cX0_agreesIn 30 = .ok (.iadd, 1) ∧ decode cX0_agreesIn 31 = .ok (.istore_n 3, 1) ∧ decode cX0_agreesIn 32 = .ok (.iinc 4 1, 3) ∧ decode cX0_agreesIn 35 = .ok (.goto (-30), 3) ∧ decode cX0_agreesIn 38 = .ok (.iload_n 3, 1) ∧ decode cX0_agreesIn 39 = .ok (.ireturn, 1) := by decide +kernel
theorem dX0_agreesIn_20 : decode cX0_agreesIn 20 = .ok (.aload_n 2, 1) := dq_31.1
theorem dX0_agreesIn_21 : decode cX0_agreesIn 21 = .ok (.iload 4, 2) := dq_31.2.1
theorem dX0_agreesIn_23 : decode cX0_agreesIn 23 = .ok (.invokevirtual 79, 3) := dq_31.2.2.1
theorem dX0_agreesIn_26 : decode cX0_agreesIn 26 = .ok (.land, 1) := dq_31.2.2.2.1
theorem dX0_agreesIn_27 : decode cX0_agreesIn 27 = .ok (.invokestatic 85, 3) := dq_31.2.2.2.2.1
theorem dX0_agreesIn_30 : decode cX0_agreesIn 30 = .ok (.iadd, 1) := dq_31.2.2.2.2.2.1
theorem dX0_agreesIn_31 : decode cX0_agreesIn 31 = .ok (.istore_n 3, 1) := dq_31.2.2.2.2.2.2.1
theorem dX0_agreesIn_32 : decode cX0_agreesIn 32 = .ok (.iinc 4 1, 3) := dq_31.2.2.2.2.2.2.2.1
theorem dX0_agreesIn_35 : decode cX0_agreesIn 35 = .ok (.goto (-30), 3) := dq_31.2.2.2.2.2.2.2.2.1
theorem dX0_agreesIn_38 : decode cX0_agreesIn 38 = .ok (.iload_n 3, 1) := dq_31.2.2.2.2.2.2.2.2.2.1
theorem dX0_agreesIn_39 : decode cX0_agreesIn 39 = .ok (.ireturn, 1) := dq_31.2.2.2.2.2.2.2.2.2.2
theorem dq_32 : decode cX0_clashesIn 0 = .ok (.iconst 0, 1) ∧ decode cX0_clashesIn 1 = .ok (.istore_n 3, 1) ∧ decode cX0_clashesIn 2 = .ok (.aload_n 2, 1) ∧ decode cX0_clashesIn 3 = .ok (.invokevirtual 91, 3) ∧ decode cX0_clashesIn 6 = .ok (.ldc2_w 95, 3) ∧ decode cX0_clashesIn 9 = .ok (.lxor, 1) ∧ decode cX0_clashesIn 10 = .ok (.lstore 4, 2) ∧ decode cX0_clashesIn 12 = .ok (.iconst 0, 1) ∧ decode cX0_clashesIn 13 = .ok (.istore 6, 2) ∧ decode cX0_clashesIn 15 = .ok (.iload 6, 2) ∧ decode cX0_clashesIn 17 = .ok (.bipush 6, 2) ∧ decode cX0_clashesIn 19 = .ok (.if_icmp .ge 36, 3) := by decide +kernel
theorem dX0_clashesIn_0 : decode cX0_clashesIn 0 = .ok (.iconst 0, 1) := dq_32.1
theorem dX0_clashesIn_1 : decode cX0_clashesIn 1 = .ok (.istore_n 3, 1) := dq_32.2.1
theorem dX0_clashesIn_2 : decode cX0_clashesIn 2 = .ok (.aload_n 2, 1) := dq_32.2.2.1
theorem dX0_clashesIn_3 : decode cX0_clashesIn 3 = .ok (.invokevirtual 91, 3) := dq_32.2.2.2.1
theorem dX0_clashesIn_6 : decode cX0_clashesIn 6 = .ok (.ldc2_w 95, 3) := dq_32.2.2.2.2.1
theorem dX0_clashesIn_9 : decode cX0_clashesIn 9 = .ok (.lxor, 1) := dq_32.2.2.2.2.2.1
theorem dX0_clashesIn_10 : decode cX0_clashesIn 10 = .ok (.lstore 4, 2) := dq_32.2.2.2.2.2.2.1
theorem dX0_clashesIn_12 : decode cX0_clashesIn 12 = .ok (.iconst 0, 1) := dq_32.2.2.2.2.2.2.2.1
theorem dX0_clashesIn_13 : decode cX0_clashesIn 13 = .ok (.istore 6, 2) := dq_32.2.2.2.2.2.2.2.2.1
theorem dX0_clashesIn_15 : decode cX0_clashesIn 15 = .ok (.iload 6, 2) := dq_32.2.2.2.2.2.2.2.2.2.1
theorem dX0_clashesIn_17 : decode cX0_clashesIn 17 = .ok (.bipush 6, 2) := dq_32.2.2.2.2.2.2.2.2.2.2.1
theorem dX0_clashesIn_19 : decode cX0_clashesIn 19 = .ok (.if_icmp .ge 36, 3) := dq_32.2.2.2.2.2.2.2.2.2.2.2
theorem dq_33 : decode cX0_clashesIn 22 = .ok (.iload_n 3, 1) ∧ decode cX0_clashesIn 23 = .ok (.aload_n 0, 1) ∧ decode cX0_clashesIn 24 = .ok (.iload_n 1, 1) ∧ decode cX0_clashesIn 25 = .ok (.iload 6, 2) ∧ decode cX0_clashesIn 27 = .ok (.invokevirtual 75, 3) ∧ decode cX0_clashesIn 30 = .ok (.lload 4, 2) ∧ decode cX0_clashesIn 32 = .ok (.land, 1) ∧ decode cX0_clashesIn 33 = .ok (.aload_n 2, 1) ∧ decode cX0_clashesIn 34 = .ok (.iload 6, 2) ∧ decode cX0_clashesIn 36 = .ok (.invokevirtual 79, 3) ∧ decode cX0_clashesIn 39 = .ok (.ldc2_w 95, 3) ∧ decode cX0_clashesIn 42 = .ok (.lxor, 1) := by decide +kernel
theorem dX0_clashesIn_22 : decode cX0_clashesIn 22 = .ok (.iload_n 3, 1) := dq_33.1
theorem dX0_clashesIn_23 : decode cX0_clashesIn 23 = .ok (.aload_n 0, 1) := dq_33.2.1
theorem dX0_clashesIn_24 : decode cX0_clashesIn 24 = .ok (.iload_n 1, 1) := dq_33.2.2.1
theorem dX0_clashesIn_25 : decode cX0_clashesIn 25 = .ok (.iload 6, 2) := dq_33.2.2.2.1
theorem dX0_clashesIn_27 : decode cX0_clashesIn 27 = .ok (.invokevirtual 75, 3) := dq_33.2.2.2.2.1
theorem dX0_clashesIn_30 : decode cX0_clashesIn 30 = .ok (.lload 4, 2) := dq_33.2.2.2.2.2.1
theorem dX0_clashesIn_32 : decode cX0_clashesIn 32 = .ok (.land, 1) := dq_33.2.2.2.2.2.2.1
theorem dX0_clashesIn_33 : decode cX0_clashesIn 33 = .ok (.aload_n 2, 1) := dq_33.2.2.2.2.2.2.2.1
theorem dX0_clashesIn_34 : decode cX0_clashesIn 34 = .ok (.iload 6, 2) := dq_33.2.2.2.2.2.2.2.2.1
theorem dX0_clashesIn_36 : decode cX0_clashesIn 36 = .ok (.invokevirtual 79, 3) := dq_33.2.2.2.2.2.2.2.2.2.1
theorem dX0_clashesIn_39 : decode cX0_clashesIn 39 = .ok (.ldc2_w 95, 3) := dq_33.2.2.2.2.2.2.2.2.2.2.1
theorem dX0_clashesIn_42 : decode cX0_clashesIn 42 = .ok (.lxor, 1) := dq_33.2.2.2.2.2.2.2.2.2.2.2
theorem dq_34 : decode cX0_clashesIn 43 = .ok (.land, 1) ∧ decode cX0_clashesIn 44 = .ok (.invokestatic 85, 3) ∧ decode cX0_clashesIn 47 = .ok (.iadd, 1) ∧ decode cX0_clashesIn 48 = .ok (.istore_n 3, 1) ∧ decode cX0_clashesIn 49 = .ok (.iinc 6 1, 3) ∧ decode cX0_clashesIn 52 = .ok (.goto (-37), 3) ∧ decode cX0_clashesIn 55 = .ok (.iload_n 3, 1) ∧ decode cX0_clashesIn 56 = .ok (.ireturn, 1) := by decide +kernel
theorem dX0_clashesIn_43 : decode cX0_clashesIn 43 = .ok (.land, 1) := dq_34.1
theorem dX0_clashesIn_44 : decode cX0_clashesIn 44 = .ok (.invokestatic 85, 3) := dq_34.2.1
theorem dX0_clashesIn_47 : decode cX0_clashesIn 47 = .ok (.iadd, 1) := dq_34.2.2.1
theorem dX0_clashesIn_48 : decode cX0_clashesIn 48 = .ok (.istore_n 3, 1) := dq_34.2.2.2.1
theorem dX0_clashesIn_49 : decode cX0_clashesIn 49 = .ok (.iinc 6 1, 3) := dq_34.2.2.2.2.1
theorem dX0_clashesIn_52 : decode cX0_clashesIn 52 = .ok (.goto (-37), 3) := dq_34.2.2.2.2.2.1
theorem dX0_clashesIn_55 : decode cX0_clashesIn 55 = .ok (.iload_n 3, 1) := dq_34.2.2.2.2.2.2.1
theorem dX0_clashesIn_56 : decode cX0_clashesIn 56 = .ok (.ireturn, 1) := dq_34.2.2.2.2.2.2.2
theorem dq_35 : decode cX0_wouldFill 0 = .ok (.iconst 0, 1) ∧ decode cX0_wouldFill 1 = .ok (.istore_n 3, 1) ∧ decode cX0_wouldFill 2 = .ok (.aload_n 2, 1) ∧ decode cX0_wouldFill 3 = .ok (.invokevirtual 91, 3) ∧ decode cX0_wouldFill 6 = .ok (.lstore 4, 2) ∧ decode cX0_wouldFill 8 = .ok (.iconst 0, 1) ∧ decode cX0_wouldFill 9 = .ok (.istore 6, 2) ∧ decode cX0_wouldFill 11 = .ok (.iload 6, 2) ∧ decode cX0_wouldFill 13 = .ok (.bipush 6, 2) ∧ decode cX0_wouldFill 15 = .ok (.if_icmp .ge 25, 3) ∧ decode cX0_wouldFill 18 = .ok (.iload_n 3, 1) ∧ decode cX0_wouldFill 19 = .ok (.aload_n 0, 1) := by decide +kernel
theorem dX0_wouldFill_0 : decode cX0_wouldFill 0 = .ok (.iconst 0, 1) := dq_35.1
theorem dX0_wouldFill_1 : decode cX0_wouldFill 1 = .ok (.istore_n 3, 1) := dq_35.2.1
theorem dX0_wouldFill_2 : decode cX0_wouldFill 2 = .ok (.aload_n 2, 1) := dq_35.2.2.1
theorem dX0_wouldFill_3 : decode cX0_wouldFill 3 = .ok (.invokevirtual 91, 3) := dq_35.2.2.2.1
theorem dX0_wouldFill_6 : decode cX0_wouldFill 6 = .ok (.lstore 4, 2) := dq_35.2.2.2.2.1
theorem dX0_wouldFill_8 : decode cX0_wouldFill 8 = .ok (.iconst 0, 1) := dq_35.2.2.2.2.2.1
theorem dX0_wouldFill_9 : decode cX0_wouldFill 9 = .ok (.istore 6, 2) := dq_35.2.2.2.2.2.2.1
theorem dX0_wouldFill_11 : decode cX0_wouldFill 11 = .ok (.iload 6, 2) := dq_35.2.2.2.2.2.2.2.1
theorem dX0_wouldFill_13 : decode cX0_wouldFill 13 = .ok (.bipush 6, 2) := dq_35.2.2.2.2.2.2.2.2.1
theorem dX0_wouldFill_15 : decode cX0_wouldFill 15 = .ok (.if_icmp .ge 25, 3) := dq_35.2.2.2.2.2.2.2.2.2.1
theorem dX0_wouldFill_18 : decode cX0_wouldFill 18 = .ok (.iload_n 3, 1) := dq_35.2.2.2.2.2.2.2.2.2.2.1
theorem dX0_wouldFill_19 : decode cX0_wouldFill 19 = .ok (.aload_n 0, 1) := dq_35.2.2.2.2.2.2.2.2.2.2.2
theorem dq_36 : decode cX0_wouldFill 20 = .ok (.iload_n 1, 1) ∧ decode cX0_wouldFill 21 = .ok (.iload 6, 2) ∧ decode cX0_wouldFill 23 = .ok (.invokevirtual 75, 3) ∧ decode cX0_wouldFill 26 = .ok (.lload 4, 2) ∧ decode cX0_wouldFill 28 = .ok (.land, 1) ∧ decode cX0_wouldFill 29 = .ok (.invokestatic 85, 3) ∧ decode cX0_wouldFill 32 = .ok (.iadd, 1) ∧ decode cX0_wouldFill 33 = .ok (.istore_n 3, 1) ∧ decode cX0_wouldFill 34 = .ok (.iinc 6 1, 3) ∧ decode cX0_wouldFill 37 = .ok (.goto (-26), 3) ∧ decode cX0_wouldFill 40 = .ok (.iload_n 3, 1) ∧ decode cX0_wouldFill 41 = .ok (.ireturn, 1) := by decide +kernel
theorem dX0_wouldFill_20 : decode cX0_wouldFill 20 = .ok (.iload_n 1, 1) := dq_36.1
theorem dX0_wouldFill_21 : decode cX0_wouldFill 21 = .ok (.iload 6, 2) := dq_36.2.1
theorem dX0_wouldFill_23 : decode cX0_wouldFill 23 = .ok (.invokevirtual 75, 3) := dq_36.2.2.1
theorem dX0_wouldFill_26 : decode cX0_wouldFill 26 = .ok (.lload 4, 2) := dq_36.2.2.2.1
theorem dX0_wouldFill_28 : decode cX0_wouldFill 28 = .ok (.land, 1) := dq_36.2.2.2.2.1
theorem dX0_wouldFill_29 : decode cX0_wouldFill 29 = .ok (.invokestatic 85, 3) := dq_36.2.2.2.2.2.1
theorem dX0_wouldFill_32 : decode cX0_wouldFill 32 = .ok (.iadd, 1) := dq_36.2.2.2.2.2.2.1
theorem dX0_wouldFill_33 : decode cX0_wouldFill 33 = .ok (.istore_n 3, 1) := dq_36.2.2.2.2.2.2.2.1
theorem dX0_wouldFill_34 : decode cX0_wouldFill 34 = .ok (.iinc 6 1, 3) := dq_36.2.2.2.2.2.2.2.2.1
theorem dX0_wouldFill_37 : decode cX0_wouldFill 37 = .ok (.goto (-26), 3) := dq_36.2.2.2.2.2.2.2.2.2.1
theorem dX0_wouldFill_40 : decode cX0_wouldFill 40 = .ok (.iload_n 3, 1) := dq_36.2.2.2.2.2.2.2.2.2.2.1
theorem dX0_wouldFill_41 : decode cX0_wouldFill 41 = .ok (.ireturn, 1) := dq_36.2.2.2.2.2.2.2.2.2.2.2
theorem dq_37 : decode cX0_layOn 0 = .ok (.aload_n 2, 1) ∧ decode cX0_layOn 1 = .ok (.invokevirtual 91, 3) ∧ decode cX0_layOn 4 = .ok (.lstore_n 3, 1) ∧ decode cX0_layOn 5 = .ok (.iconst 0, 1) ∧ decode cX0_layOn 6 = .ok (.istore 5, 2) ∧ decode cX0_layOn 8 = .ok (.iload 5, 2) ∧ decode cX0_layOn 10 = .ok (.bipush 6, 2) ∧ decode cX0_layOn 12 = .ok (.if_icmp .ge 61, 3) ∧ decode cX0_layOn 15 = .ok (.aload_n 0, 1) ∧ decode cX0_layOn 16 = .ok (.iload_n 1, 1) ∧ decode cX0_layOn 17 = .ok (.iload 5, 2) ∧ decode cX0_layOn 19 = .ok (.invokevirtual 75, 3) := by decide +kernel
theorem dX0_layOn_0 : decode cX0_layOn 0 = .ok (.aload_n 2, 1) := dq_37.1
theorem dX0_layOn_1 : decode cX0_layOn 1 = .ok (.invokevirtual 91, 3) := dq_37.2.1
theorem dX0_layOn_4 : decode cX0_layOn 4 = .ok (.lstore_n 3, 1) := dq_37.2.2.1
theorem dX0_layOn_5 : decode cX0_layOn 5 = .ok (.iconst 0, 1) := dq_37.2.2.2.1
theorem dX0_layOn_6 : decode cX0_layOn 6 = .ok (.istore 5, 2) := dq_37.2.2.2.2.1
theorem dX0_layOn_8 : decode cX0_layOn 8 = .ok (.iload 5, 2) := dq_37.2.2.2.2.2.1
theorem dX0_layOn_10 : decode cX0_layOn 10 = .ok (.bipush 6, 2) := dq_37.2.2.2.2.2.2.1
theorem dX0_layOn_12 : decode cX0_layOn 12 = .ok (.if_icmp .ge 61, 3) := dq_37.2.2.2.2.2.2.2.1
theorem dX0_layOn_15 : decode cX0_layOn 15 = .ok (.aload_n 0, 1) := dq_37.2.2.2.2.2.2.2.2.1
theorem dX0_layOn_16 : decode cX0_layOn 16 = .ok (.iload_n 1, 1) := dq_37.2.2.2.2.2.2.2.2.2.1
theorem dX0_layOn_17 : decode cX0_layOn 17 = .ok (.iload 5, 2) := dq_37.2.2.2.2.2.2.2.2.2.2.1
theorem dX0_layOn_19 : decode cX0_layOn 19 = .ok (.invokevirtual 75, 3) := dq_37.2.2.2.2.2.2.2.2.2.2.2
theorem dq_38 : decode cX0_layOn 22 = .ok (.lload_n 3, 1) ∧ decode cX0_layOn 23 = .ok (.land, 1) ∧ decode cX0_layOn 24 = .ok (.lstore 6, 2) ∧ decode cX0_layOn 26 = .ok (.iconst 0, 1) ∧ decode cX0_layOn 27 = .ok (.istore 8, 2) ∧ decode cX0_layOn 29 = .ok (.iload 8, 2) ∧ decode cX0_layOn 31 = .ok (.bipush 64, 2) ∧ decode cX0_layOn 33 = .ok (.if_icmp .ge 34, 3) ∧ decode cX0_layOn 36 = .ok (.lload 6, 2) ∧ decode cX0_layOn 38 = .ok (.lconst 0, 1) ∧ decode cX0_layOn 39 = .ok (.lcmp, 1) ∧ decode cX0_layOn 40 = .ok (.ifCond .eq 27, 3) := by decide +kernel
theorem dX0_layOn_22 : decode cX0_layOn 22 = .ok (.lload_n 3, 1) := dq_38.1
theorem dX0_layOn_23 : decode cX0_layOn 23 = .ok (.land, 1) := dq_38.2.1
theorem dX0_layOn_24 : decode cX0_layOn 24 = .ok (.lstore 6, 2) := dq_38.2.2.1
theorem dX0_layOn_26 : decode cX0_layOn 26 = .ok (.iconst 0, 1) := dq_38.2.2.2.1
theorem dX0_layOn_27 : decode cX0_layOn 27 = .ok (.istore 8, 2) := dq_38.2.2.2.2.1
theorem dX0_layOn_29 : decode cX0_layOn 29 = .ok (.iload 8, 2) := dq_38.2.2.2.2.2.1
theorem dX0_layOn_31 : decode cX0_layOn 31 = .ok (.bipush 64, 2) := dq_38.2.2.2.2.2.2.1
theorem dX0_layOn_33 : decode cX0_layOn 33 = .ok (.if_icmp .ge 34, 3) := dq_38.2.2.2.2.2.2.2.1
theorem dX0_layOn_36 : decode cX0_layOn 36 = .ok (.lload 6, 2) := dq_38.2.2.2.2.2.2.2.2.1
theorem dX0_layOn_38 : decode cX0_layOn 38 = .ok (.lconst 0, 1) := dq_38.2.2.2.2.2.2.2.2.2.1
theorem dX0_layOn_39 : decode cX0_layOn 39 = .ok (.lcmp, 1) := dq_38.2.2.2.2.2.2.2.2.2.2.1
theorem dX0_layOn_40 : decode cX0_layOn 40 = .ok (.ifCond .eq 27, 3) := dq_38.2.2.2.2.2.2.2.2.2.2.2
theorem dq_39 : decode cX0_layOn 43 = .ok (.lload 6, 2) ∧ decode cX0_layOn 45 = .ok (.iload 8, 2) ∧ decode cX0_layOn 47 = .ok (.invokestatic 97, 3) ∧ decode cX0_layOn 50 = .ok (.ifCond .eq 11, 3) ∧ decode cX0_layOn 53 = .ok (.aload_n 2, 1) ∧ decode cX0_layOn 54 = .ok (.iload 8, 2) ∧ decode cX0_layOn 56 = .ok (.iload 5, 2) ∧ decode cX0_layOn 58 = .ok (.invokevirtual 101, 3) ∧ decode cX0_layOn 61 = .ok (.iinc 8 1, 3) ∧ decode cX0_layOn 64 = .ok (.goto (-35), 3) ∧ decode cX0_layOn 67 = .ok (.iinc 5 1, 3) ∧ decode cX0_layOn 70 = .ok (.goto (-62), 3) := by decide +kernel
theorem dX0_layOn_43 : decode cX0_layOn 43 = .ok (.lload 6, 2) := dq_39.1
theorem dX0_layOn_45 : decode cX0_layOn 45 = .ok (.iload 8, 2) := dq_39.2.1
theorem dX0_layOn_47 : decode cX0_layOn 47 = .ok (.invokestatic 97, 3) := dq_39.2.2.1
theorem dX0_layOn_50 : decode cX0_layOn 50 = .ok (.ifCond .eq 11, 3) := dq_39.2.2.2.1
theorem dX0_layOn_53 : decode cX0_layOn 53 = .ok (.aload_n 2, 1) := dq_39.2.2.2.2.1
theorem dX0_layOn_54 : decode cX0_layOn 54 = .ok (.iload 8, 2) := dq_39.2.2.2.2.2.1
theorem dX0_layOn_56 : decode cX0_layOn 56 = .ok (.iload 5, 2) := dq_39.2.2.2.2.2.2.1
theorem dX0_layOn_58 : decode cX0_layOn 58 = .ok (.invokevirtual 101, 3) := dq_39.2.2.2.2.2.2.2.1
theorem dX0_layOn_61 : decode cX0_layOn 61 = .ok (.iinc 8 1, 3) := dq_39.2.2.2.2.2.2.2.2.1
theorem dX0_layOn_64 : decode cX0_layOn 64 = .ok (.goto (-35), 3) := dq_39.2.2.2.2.2.2.2.2.2.1
theorem dX0_layOn_67 : decode cX0_layOn 67 = .ok (.iinc 5 1, 3) := dq_39.2.2.2.2.2.2.2.2.2.2.1
theorem dX0_layOn_70 : decode cX0_layOn 70 = .ok (.goto (-62), 3) := dq_39.2.2.2.2.2.2.2.2.2.2.2
theorem dX0_layOn_73 : decode cX0_layOn 73 = .ok (.return_, 1) := by decide +kernel
theorem dq_41 : decode cX0_agreesCleanly 0 = .ok (.iload_n 1, 1) ∧ decode cX0_agreesCleanly 1 = .ok (.iconst 0, 1) ∧ decode cX0_agreesCleanly 2 = .ok (.aload_n 0, 1) ∧ decode cX0_agreesCleanly 3 = .ok (.invokevirtual 66, 3) ∧ decode cX0_agreesCleanly 6 = .ok (.iconst 1, 1) ∧ decode cX0_agreesCleanly 7 = .ok (.isub, 1) ∧ decode cX0_agreesCleanly 8 = .ok (.invokestatic 29, 3) ∧ decode cX0_agreesCleanly 11 = .ok (.ifCond .ne 5, 3) ∧ decode cX0_agreesCleanly 14 = .ok (.iconst (-1), 1) ∧ decode cX0_agreesCleanly 15 = .ok (.ireturn, 1) ∧ decode cX0_agreesCleanly 16 = .ok (.iconst 0, 1) ∧ decode cX0_agreesCleanly 17 = .ok (.istore_n 3, 1) := by decide +kernel
theorem dX0_agreesCleanly_0 : decode cX0_agreesCleanly 0 = .ok (.iload_n 1, 1) := dq_41.1
theorem dX0_agreesCleanly_1 : decode cX0_agreesCleanly 1 = .ok (.iconst 0, 1) := dq_41.2.1
theorem dX0_agreesCleanly_2 : decode cX0_agreesCleanly 2 = .ok (.aload_n 0, 1) := dq_41.2.2.1
theorem dX0_agreesCleanly_3 : decode cX0_agreesCleanly 3 = .ok (.invokevirtual 66, 3) := dq_41.2.2.2.1
theorem dX0_agreesCleanly_6 : decode cX0_agreesCleanly 6 = .ok (.iconst 1, 1) := dq_41.2.2.2.2.1
theorem dX0_agreesCleanly_7 : decode cX0_agreesCleanly 7 = .ok (.isub, 1) := dq_41.2.2.2.2.2.1
theorem dX0_agreesCleanly_8 : decode cX0_agreesCleanly 8 = .ok (.invokestatic 29, 3) := dq_41.2.2.2.2.2.2.1
theorem dX0_agreesCleanly_11 : decode cX0_agreesCleanly 11 = .ok (.ifCond .ne 5, 3) := dq_41.2.2.2.2.2.2.2.1
theorem dX0_agreesCleanly_14 : decode cX0_agreesCleanly 14 = .ok (.iconst (-1), 1) := dq_41.2.2.2.2.2.2.2.2.1
theorem dX0_agreesCleanly_15 : decode cX0_agreesCleanly 15 = .ok (.ireturn, 1) := dq_41.2.2.2.2.2.2.2.2.2.1
theorem dX0_agreesCleanly_16 : decode cX0_agreesCleanly 16 = .ok (.iconst 0, 1) := dq_41.2.2.2.2.2.2.2.2.2.2.1
theorem dX0_agreesCleanly_17 : decode cX0_agreesCleanly 17 = .ok (.istore_n 3, 1) := dq_41.2.2.2.2.2.2.2.2.2.2.2
theorem dq_42 : decode cX0_agreesCleanly 18 = .ok (.iload_n 1, 1) ∧ decode cX0_agreesCleanly 19 = .ok (.invokestatic 69, 3) ∧ decode cX0_agreesCleanly 22 = .ok (.istore 4, 2) ∧ decode cX0_agreesCleanly 24 = .ok (.iload_n 1, 1) ∧ decode cX0_agreesCleanly 25 = .ok (.invokestatic 72, 3) ∧ decode cX0_agreesCleanly 28 = .ok (.istore 5, 2) ∧ decode cX0_agreesCleanly 30 = .ok (.aload_n 2, 1) ∧ decode cX0_agreesCleanly 31 = .ok (.invokevirtual 91, 3) ∧ decode cX0_agreesCleanly 34 = .ok (.ldc2_w 95, 3) ∧ decode cX0_agreesCleanly 37 = .ok (.lxor, 1) ∧ decode cX0_agreesCleanly 38 = .ok (.lstore 6, 2) ∧ decode cX0_agreesCleanly 40 = .ok (.iconst 0, 1) := by decide +kernel
theorem dX0_agreesCleanly_18 : decode cX0_agreesCleanly 18 = .ok (.iload_n 1, 1) := dq_42.1
theorem dX0_agreesCleanly_19 : decode cX0_agreesCleanly 19 = .ok (.invokestatic 69, 3) := dq_42.2.1
theorem dX0_agreesCleanly_22 : decode cX0_agreesCleanly 22 = .ok (.istore 4, 2) := dq_42.2.2.1
theorem dX0_agreesCleanly_24 : decode cX0_agreesCleanly 24 = .ok (.iload_n 1, 1) := dq_42.2.2.2.1
theorem dX0_agreesCleanly_25 : decode cX0_agreesCleanly 25 = .ok (.invokestatic 72, 3) := dq_42.2.2.2.2.1
theorem dX0_agreesCleanly_28 : decode cX0_agreesCleanly 28 = .ok (.istore 5, 2) := dq_42.2.2.2.2.2.1
theorem dX0_agreesCleanly_30 : decode cX0_agreesCleanly 30 = .ok (.aload_n 2, 1) := dq_42.2.2.2.2.2.2.1
theorem dX0_agreesCleanly_31 : decode cX0_agreesCleanly 31 = .ok (.invokevirtual 91, 3) := dq_42.2.2.2.2.2.2.2.1
theorem dX0_agreesCleanly_34 : decode cX0_agreesCleanly 34 = .ok (.ldc2_w 95, 3) := dq_42.2.2.2.2.2.2.2.2.1
theorem dX0_agreesCleanly_37 : decode cX0_agreesCleanly 37 = .ok (.lxor, 1) := dq_42.2.2.2.2.2.2.2.2.2.1
theorem dX0_agreesCleanly_38 : decode cX0_agreesCleanly 38 = .ok (.lstore 6, 2) := dq_42.2.2.2.2.2.2.2.2.2.2.1
theorem dX0_agreesCleanly_40 : decode cX0_agreesCleanly 40 = .ok (.iconst 0, 1) := dq_42.2.2.2.2.2.2.2.2.2.2.2
theorem dq_43 : decode cX0_agreesCleanly 41 = .ok (.istore 8, 2) ∧ decode cX0_agreesCleanly 43 = .ok (.iload 8, 2) ∧ decode cX0_agreesCleanly 45 = .ok (.bipush 6, 2) ∧ decode cX0_agreesCleanly 47 = .ok (.if_icmp .ge 56, 3) ∧ decode cX0_agreesCleanly 50 = .ok (.aload_n 0, 1) ∧ decode cX0_agreesCleanly 51 = .ok (.getfield 11, 3) ∧ decode cX0_agreesCleanly 54 = .ok (.iload 4, 2) ∧ decode cX0_agreesCleanly 56 = .ok (.iload 8, 2) ∧ decode cX0_agreesCleanly 58 = .ok (.iadd, 1) ∧ decode cX0_agreesCleanly 59 = .ok (.laload, 1) ∧ decode cX0_agreesCleanly 60 = .ok (.iload 5, 2) ∧ decode cX0_agreesCleanly 62 = .ok (.lshl, 1) := by decide +kernel
theorem dX0_agreesCleanly_41 : decode cX0_agreesCleanly 41 = .ok (.istore 8, 2) := dq_43.1
theorem dX0_agreesCleanly_43 : decode cX0_agreesCleanly 43 = .ok (.iload 8, 2) := dq_43.2.1
theorem dX0_agreesCleanly_45 : decode cX0_agreesCleanly 45 = .ok (.bipush 6, 2) := dq_43.2.2.1
theorem dX0_agreesCleanly_47 : decode cX0_agreesCleanly 47 = .ok (.if_icmp .ge 56, 3) := dq_43.2.2.2.1
theorem dX0_agreesCleanly_50 : decode cX0_agreesCleanly 50 = .ok (.aload_n 0, 1) := dq_43.2.2.2.2.1
theorem dX0_agreesCleanly_51 : decode cX0_agreesCleanly 51 = .ok (.getfield 11, 3) := dq_43.2.2.2.2.2.1
theorem dX0_agreesCleanly_54 : decode cX0_agreesCleanly 54 = .ok (.iload 4, 2) := dq_43.2.2.2.2.2.2.1
theorem dX0_agreesCleanly_56 : decode cX0_agreesCleanly 56 = .ok (.iload 8, 2) := dq_43.2.2.2.2.2.2.2.1
theorem dX0_agreesCleanly_58 : decode cX0_agreesCleanly 58 = .ok (.iadd, 1) := dq_43.2.2.2.2.2.2.2.2.1
theorem dX0_agreesCleanly_59 : decode cX0_agreesCleanly 59 = .ok (.laload, 1) := dq_43.2.2.2.2.2.2.2.2.2.1
theorem dX0_agreesCleanly_60 : decode cX0_agreesCleanly 60 = .ok (.iload 5, 2) := dq_43.2.2.2.2.2.2.2.2.2.2.1
theorem dX0_agreesCleanly_62 : decode cX0_agreesCleanly 62 = .ok (.lshl, 1) := dq_43.2.2.2.2.2.2.2.2.2.2.2
theorem dq_44 : decode cX0_agreesCleanly 63 = .ok (.lload 6, 2) ∧ decode cX0_agreesCleanly 65 = .ok (.land, 1) ∧ decode cX0_agreesCleanly 66 = .ok (.lstore 9, 2) ∧ decode cX0_agreesCleanly 68 = .ok (.lload 9, 2) ∧ decode cX0_agreesCleanly 70 = .ok (.aload_n 2, 1) ∧ decode cX0_agreesCleanly 71 = .ok (.iload 8, 2) ∧ decode cX0_agreesCleanly 73 = .ok (.invokevirtual 79, 3) ∧ decode cX0_agreesCleanly 76 = .ok (.land, 1) ∧ decode cX0_agreesCleanly 77 = .ok (.lstore 11, 2) ∧ decode cX0_agreesCleanly 79 = .ok (.lload 11, 2) ∧ decode cX0_agreesCleanly 81 = .ok (.lload 9, 2) ∧ decode cX0_agreesCleanly 83 = .ok (.lcmp, 1) := by decide +kernel
theorem dX0_agreesCleanly_63 : decode cX0_agreesCleanly 63 = .ok (.lload 6, 2) := dq_44.1
theorem dX0_agreesCleanly_65 : decode cX0_agreesCleanly 65 = .ok (.land, 1) := dq_44.2.1
theorem dX0_agreesCleanly_66 : decode cX0_agreesCleanly 66 = .ok (.lstore 9, 2) := dq_44.2.2.1
theorem dX0_agreesCleanly_68 : decode cX0_agreesCleanly 68 = .ok (.lload 9, 2) := dq_44.2.2.2.1
theorem dX0_agreesCleanly_70 : decode cX0_agreesCleanly 70 = .ok (.aload_n 2, 1) := dq_44.2.2.2.2.1
theorem dX0_agreesCleanly_71 : decode cX0_agreesCleanly 71 = .ok (.iload 8, 2) := dq_44.2.2.2.2.2.1
theorem dX0_agreesCleanly_73 : decode cX0_agreesCleanly 73 = .ok (.invokevirtual 79, 3) := dq_44.2.2.2.2.2.2.1
theorem dX0_agreesCleanly_76 : decode cX0_agreesCleanly 76 = .ok (.land, 1) := dq_44.2.2.2.2.2.2.2.1
theorem dX0_agreesCleanly_77 : decode cX0_agreesCleanly 77 = .ok (.lstore 11, 2) := dq_44.2.2.2.2.2.2.2.2.1
theorem dX0_agreesCleanly_79 : decode cX0_agreesCleanly 79 = .ok (.lload 11, 2) := dq_44.2.2.2.2.2.2.2.2.2.1
theorem dX0_agreesCleanly_81 : decode cX0_agreesCleanly 81 = .ok (.lload 9, 2) := dq_44.2.2.2.2.2.2.2.2.2.2.1
theorem dX0_agreesCleanly_83 : decode cX0_agreesCleanly 83 = .ok (.lcmp, 1) := dq_44.2.2.2.2.2.2.2.2.2.2.2
theorem dq_45 : decode cX0_agreesCleanly 84 = .ok (.ifCond .eq 5, 3) ∧ decode cX0_agreesCleanly 87 = .ok (.iconst (-1), 1) ∧ decode cX0_agreesCleanly 88 = .ok (.ireturn, 1) ∧ decode cX0_agreesCleanly 89 = .ok (.iload_n 3, 1) ∧ decode cX0_agreesCleanly 90 = .ok (.lload 11, 2) ∧ decode cX0_agreesCleanly 92 = .ok (.invokestatic 85, 3) ∧ decode cX0_agreesCleanly 95 = .ok (.iadd, 1) ∧ decode cX0_agreesCleanly 96 = .ok (.istore_n 3, 1) ∧ decode cX0_agreesCleanly 97 = .ok (.iinc 8 1, 3) ∧ decode cX0_agreesCleanly 100 = .ok (.goto (-57), 3) ∧ decode cX0_agreesCleanly 103 = .ok (.iload_n 3, 1) ∧ decode cX0_agreesCleanly 104 = .ok (.ireturn, 1) := by decide +kernel
theorem dX0_agreesCleanly_84 : decode cX0_agreesCleanly 84 = .ok (.ifCond .eq 5, 3) := dq_45.1
theorem dX0_agreesCleanly_87 : decode cX0_agreesCleanly 87 = .ok (.iconst (-1), 1) := dq_45.2.1
theorem dX0_agreesCleanly_88 : decode cX0_agreesCleanly 88 = .ok (.ireturn, 1) := dq_45.2.2.1
theorem dX0_agreesCleanly_89 : decode cX0_agreesCleanly 89 = .ok (.iload_n 3, 1) := dq_45.2.2.2.1
theorem dX0_agreesCleanly_90 : decode cX0_agreesCleanly 90 = .ok (.lload 11, 2) := dq_45.2.2.2.2.1
theorem dX0_agreesCleanly_92 : decode cX0_agreesCleanly 92 = .ok (.invokestatic 85, 3) := dq_45.2.2.2.2.2.1
theorem dX0_agreesCleanly_95 : decode cX0_agreesCleanly 95 = .ok (.iadd, 1) := dq_45.2.2.2.2.2.2.1
theorem dX0_agreesCleanly_96 : decode cX0_agreesCleanly 96 = .ok (.istore_n 3, 1) := dq_45.2.2.2.2.2.2.2.1
theorem dX0_agreesCleanly_97 : decode cX0_agreesCleanly 97 = .ok (.iinc 8 1, 3) := dq_45.2.2.2.2.2.2.2.2.1
theorem dX0_agreesCleanly_100 : decode cX0_agreesCleanly 100 = .ok (.goto (-57), 3) := dq_45.2.2.2.2.2.2.2.2.2.1
theorem dX0_agreesCleanly_103 : decode cX0_agreesCleanly 103 = .ok (.iload_n 3, 1) := dq_45.2.2.2.2.2.2.2.2.2.2.1
theorem dX0_agreesCleanly_104 : decode cX0_agreesCleanly 104 = .ok (.ireturn, 1) := dq_45.2.2.2.2.2.2.2.2.2.2.2
theorem dq_46 : decode cX0_bestOn 0 = .ok (.iconst (-1), 1) ∧ decode cX0_bestOn 1 = .ok (.istore_n 2, 1) ∧ decode cX0_bestOn 2 = .ok (.iconst 0, 1) ∧ decode cX0_bestOn 3 = .ok (.istore_n 3, 1) ∧ decode cX0_bestOn 4 = .ok (.iconst 0, 1) ∧ decode cX0_bestOn 5 = .ok (.istore 4, 2) ∧ decode cX0_bestOn 7 = .ok (.iload 4, 2) ∧ decode cX0_bestOn 9 = .ok (.aload_n 0, 1) ∧ decode cX0_bestOn 10 = .ok (.invokevirtual 66, 3) ∧ decode cX0_bestOn 13 = .ok (.if_icmp .ge 30, 3) ∧ decode cX0_bestOn 16 = .ok (.aload_n 0, 1) ∧ decode cX0_bestOn 17 = .ok (.iload 4, 2) := by decide +kernel
theorem dX0_bestOn_0 : decode cX0_bestOn 0 = .ok (.iconst (-1), 1) := dq_46.1
theorem dX0_bestOn_1 : decode cX0_bestOn 1 = .ok (.istore_n 2, 1) := dq_46.2.1
theorem dX0_bestOn_2 : decode cX0_bestOn 2 = .ok (.iconst 0, 1) := dq_46.2.2.1
theorem dX0_bestOn_3 : decode cX0_bestOn 3 = .ok (.istore_n 3, 1) := dq_46.2.2.2.1
theorem dX0_bestOn_4 : decode cX0_bestOn 4 = .ok (.iconst 0, 1) := dq_46.2.2.2.2.1
theorem dX0_bestOn_5 : decode cX0_bestOn 5 = .ok (.istore 4, 2) := dq_46.2.2.2.2.2.1
theorem dX0_bestOn_7 : decode cX0_bestOn 7 = .ok (.iload 4, 2) := dq_46.2.2.2.2.2.2.1
theorem dX0_bestOn_9 : decode cX0_bestOn 9 = .ok (.aload_n 0, 1) := dq_46.2.2.2.2.2.2.2.1
theorem dX0_bestOn_10 : decode cX0_bestOn 10 = .ok (.invokevirtual 66, 3) := dq_46.2.2.2.2.2.2.2.2.1
theorem dX0_bestOn_13 : decode cX0_bestOn 13 = .ok (.if_icmp .ge 30, 3) := dq_46.2.2.2.2.2.2.2.2.2.1
theorem dX0_bestOn_16 : decode cX0_bestOn 16 = .ok (.aload_n 0, 1) := dq_46.2.2.2.2.2.2.2.2.2.2.1
theorem dX0_bestOn_17 : decode cX0_bestOn 17 = .ok (.iload 4, 2) := dq_46.2.2.2.2.2.2.2.2.2.2.2
theorem dq_47 : decode cX0_bestOn 19 = .ok (.aload_n 1, 1) ∧ decode cX0_bestOn 20 = .ok (.invokevirtual 105, 3) ∧ decode cX0_bestOn 23 = .ok (.istore 5, 2) ∧ decode cX0_bestOn 25 = .ok (.iload 5, 2) ∧ decode cX0_bestOn 27 = .ok (.iload_n 3, 1) ∧ decode cX0_bestOn 28 = .ok (.if_icmp .le 9, 3) ∧ decode cX0_bestOn 31 = .ok (.iload 4, 2) ∧ decode cX0_bestOn 33 = .ok (.istore_n 2, 1) ∧ decode cX0_bestOn 34 = .ok (.iload 5, 2) ∧ decode cX0_bestOn 36 = .ok (.istore_n 3, 1) ∧ decode cX0_bestOn 37 = .ok (.iinc 4 1, 3) ∧ decode cX0_bestOn 40 = .ok (.goto (-33), 3) := by decide +kernel
theorem dX0_bestOn_19 : decode cX0_bestOn 19 = .ok (.aload_n 1, 1) := dq_47.1
theorem dX0_bestOn_20 : decode cX0_bestOn 20 = .ok (.invokevirtual 105, 3) := dq_47.2.1
theorem dX0_bestOn_23 : decode cX0_bestOn 23 = .ok (.istore 5, 2) := dq_47.2.2.1
theorem dX0_bestOn_25 : decode cX0_bestOn 25 = .ok (.iload 5, 2) := dq_47.2.2.2.1
theorem dX0_bestOn_27 : decode cX0_bestOn 27 = .ok (.iload_n 3, 1) := dq_47.2.2.2.2.1
theorem dX0_bestOn_28 : decode cX0_bestOn 28 = .ok (.if_icmp .le 9, 3) := dq_47.2.2.2.2.2.1
theorem dX0_bestOn_31 : decode cX0_bestOn 31 = .ok (.iload 4, 2) := dq_47.2.2.2.2.2.2.1
theorem dX0_bestOn_33 : decode cX0_bestOn 33 = .ok (.istore_n 2, 1) := dq_47.2.2.2.2.2.2.2.1
theorem dX0_bestOn_34 : decode cX0_bestOn 34 = .ok (.iload 5, 2) := dq_47.2.2.2.2.2.2.2.2.1
theorem dX0_bestOn_36 : decode cX0_bestOn 36 = .ok (.istore_n 3, 1) := dq_47.2.2.2.2.2.2.2.2.2.1
theorem dX0_bestOn_37 : decode cX0_bestOn 37 = .ok (.iinc 4 1, 3) := dq_47.2.2.2.2.2.2.2.2.2.2.1
theorem dX0_bestOn_40 : decode cX0_bestOn 40 = .ok (.goto (-33), 3) := dq_47.2.2.2.2.2.2.2.2.2.2.2
theorem dq_48 : decode cX0_bestOn 43 = .ok (.iload_n 2, 1) ∧ decode cX0_bestOn 44 = .ok (.ireturn, 1) := by decide +kernel
theorem dX0_bestOn_43 : decode cX0_bestOn 43 = .ok (.iload_n 2, 1) := dq_48.1
theorem dX0_bestOn_44 : decode cX0_bestOn 44 = .ok (.ireturn, 1) := dq_48.2
theorem dq_49 : decode cX0_countCopies 0 = .ok (.iconst 0, 1) ∧ decode cX0_countCopies 1 = .ok (.istore 4, 2) ∧ decode cX0_countCopies 3 = .ok (.iload_n 1, 1) ∧ decode cX0_countCopies 4 = .ok (.sipush 208, 3) ∧ decode cX0_countCopies 7 = .ok (.imul, 1) ∧ decode cX0_countCopies 8 = .ok (.istore 5, 2) ∧ decode cX0_countCopies 10 = .ok (.iload 5, 2) ∧ decode cX0_countCopies 12 = .ok (.iload_n 1, 1) ∧ decode cX0_countCopies 13 = .ok (.iconst 1, 1) ∧ decode cX0_countCopies 14 = .ok (.iadd, 1) ∧ decode cX0_countCopies 15 = .ok (.sipush 208, 3) ∧ decode cX0_countCopies 18 = .ok (.imul, 1) := by decide +kernel
theorem dX0_countCopies_0 : decode cX0_countCopies 0 = .ok (.iconst 0, 1) := dq_49.1
theorem dX0_countCopies_1 : decode cX0_countCopies 1 = .ok (.istore 4, 2) := dq_49.2.1
theorem dX0_countCopies_3 : decode cX0_countCopies 3 = .ok (.iload_n 1, 1) := dq_49.2.2.1
theorem dX0_countCopies_4 : decode cX0_countCopies 4 = .ok (.sipush 208, 3) := dq_49.2.2.2.1
theorem dX0_countCopies_7 : decode cX0_countCopies 7 = .ok (.imul, 1) := dq_49.2.2.2.2.1
theorem dX0_countCopies_8 : decode cX0_countCopies 8 = .ok (.istore 5, 2) := dq_49.2.2.2.2.2.1
theorem dX0_countCopies_10 : decode cX0_countCopies 10 = .ok (.iload 5, 2) := dq_49.2.2.2.2.2.2.1
theorem dX0_countCopies_12 : decode cX0_countCopies 12 = .ok (.iload_n 1, 1) := dq_49.2.2.2.2.2.2.2.1
theorem dX0_countCopies_13 : decode cX0_countCopies 13 = .ok (.iconst 1, 1) := dq_49.2.2.2.2.2.2.2.2.1
theorem dX0_countCopies_14 : decode cX0_countCopies 14 = .ok (.iadd, 1) := dq_49.2.2.2.2.2.2.2.2.2.1
theorem dX0_countCopies_15 : decode cX0_countCopies 15 = .ok (.sipush 208, 3) := dq_49.2.2.2.2.2.2.2.2.2.2.1
theorem dX0_countCopies_18 : decode cX0_countCopies 18 = .ok (.imul, 1) := dq_49.2.2.2.2.2.2.2.2.2.2.2
theorem dq_50 : decode cX0_countCopies 19 = .ok (.if_icmp .ge 23, 3) ∧ decode cX0_countCopies 22 = .ok (.aload_n 0, 1) ∧ decode cX0_countCopies 23 = .ok (.iload 5, 2) ∧ decode cX0_countCopies 25 = .ok (.aload_n 3, 1) ∧ decode cX0_countCopies 26 = .ok (.invokevirtual 105, 3) ∧ decode cX0_countCopies 29 = .ok (.iload_n 2, 1) ∧ decode cX0_countCopies 30 = .ok (.if_icmp .lt 6, 3) ∧ decode cX0_countCopies 33 = .ok (.iinc 4 1, 3) ∧ decode cX0_countCopies 36 = .ok (.iinc 5 1, 3) ∧ decode cX0_countCopies 39 = .ok (.goto (-29), 3) ∧ decode cX0_countCopies 42 = .ok (.iload 4, 2) ∧ decode cX0_countCopies 44 = .ok (.ireturn, 1) := by decide +kernel
theorem dX0_countCopies_19 : decode cX0_countCopies 19 = .ok (.if_icmp .ge 23, 3) := dq_50.1
theorem dX0_countCopies_22 : decode cX0_countCopies 22 = .ok (.aload_n 0, 1) := dq_50.2.1
theorem dX0_countCopies_23 : decode cX0_countCopies 23 = .ok (.iload 5, 2) := dq_50.2.2.1
theorem dX0_countCopies_25 : decode cX0_countCopies 25 = .ok (.aload_n 3, 1) := dq_50.2.2.2.1
theorem dX0_countCopies_26 : decode cX0_countCopies 26 = .ok (.invokevirtual 105, 3) := dq_50.2.2.2.2.1
theorem dX0_countCopies_29 : decode cX0_countCopies 29 = .ok (.iload_n 2, 1) := dq_50.2.2.2.2.2.1
theorem dX0_countCopies_30 : decode cX0_countCopies 30 = .ok (.if_icmp .lt 6, 3) := dq_50.2.2.2.2.2.2.1
theorem dX0_countCopies_33 : decode cX0_countCopies 33 = .ok (.iinc 4 1, 3) := dq_50.2.2.2.2.2.2.2.1
theorem dX0_countCopies_36 : decode cX0_countCopies 36 = .ok (.iinc 5 1, 3) := dq_50.2.2.2.2.2.2.2.2.1
theorem dX0_countCopies_39 : decode cX0_countCopies 39 = .ok (.goto (-29), 3) := dq_50.2.2.2.2.2.2.2.2.2.1
theorem dX0_countCopies_42 : decode cX0_countCopies 42 = .ok (.iload 4, 2) := dq_50.2.2.2.2.2.2.2.2.2.2.1
theorem dX0_countCopies_44 : decode cX0_countCopies 44 = .ok (.ireturn, 1) := dq_50.2.2.2.2.2.2.2.2.2.2.2
theorem dq_51 : decode cX1_init 0 = .ok (.aload_n 0, 1) ∧ decode cX1_init 1 = .ok (.invokespecial 3, 3) ∧ decode cX1_init 4 = .ok (.aload_n 0, 1) ∧ decode cX1_init 5 = .ok (.bipush 24, 2) ∧ decode cX1_init 7 = .ok (.newarray .int, 2) ∧ decode cX1_init 9 = .ok (.putfield 11, 3) ∧ decode cX1_init 12 = .ok (.return_, 1) := by decide +kernel
theorem dX1_init_0 : decode cX1_init 0 = .ok (.aload_n 0, 1) := dq_51.1
theorem dX1_init_1 : decode cX1_init 1 = .ok (.invokespecial 3, 3) := dq_51.2.1
theorem dX1_init_4 : decode cX1_init 4 = .ok (.aload_n 0, 1) := dq_51.2.2.1
theorem dX1_init_5 : decode cX1_init 5 = .ok (.bipush 24, 2) := dq_51.2.2.2.1
theorem dX1_init_7 : decode cX1_init 7 = .ok (.newarray .int, 2) := dq_51.2.2.2.2.1
theorem dX1_init_9 : decode cX1_init 9 = .ok (.putfield 11, 3) := dq_51.2.2.2.2.2.1
theorem dX1_init_12 : decode cX1_init 12 = .ok (.return_, 1) := dq_51.2.2.2.2.2.2
theorem dq_52 : decode cX1_length 0 = .ok (.aload_n 0, 1) ∧ decode cX1_length 1 = .ok (.getfield 15, 3) ∧ decode cX1_length 4 = .ok (.ireturn, 1) := by decide +kernel
theorem dX1_length_0 : decode cX1_length 0 = .ok (.aload_n 0, 1) := dq_52.1
theorem dX1_length_1 : decode cX1_length 1 = .ok (.getfield 15, 3) := dq_52.2.1
theorem dX1_length_4 : decode cX1_length 4 = .ok (.ireturn, 1) := dq_52.2.2
theorem dq_53 : decode cX1_isBeyond 0 = .ok (.iload_n 1, 1) ∧ decode cX1_isBeyond 1 = .ok (.iconst 0, 1) ∧ decode cX1_isBeyond 2 = .ok (.sipush 999, 3) ∧ decode cX1_isBeyond 5 = .ok (.invokestatic 19, 3) ∧ decode cX1_isBeyond 8 = .ok (.ifCond .eq 29, 3) ∧ decode cX1_isBeyond 11 = .ok (.aload_n 0, 1) ∧ decode cX1_isBeyond 12 = .ok (.getfield 15, 3) ∧ decode cX1_isBeyond 15 = .ok (.ifCond .eq 18, 3) ∧ decode cX1_isBeyond 18 = .ok (.iload_n 1, 1) ∧ decode cX1_isBeyond 19 = .ok (.aload_n 0, 1) ∧ decode cX1_isBeyond 20 = .ok (.getfield 11, 3) ∧ decode cX1_isBeyond 23 = .ok (.aload_n 0, 1) := by decide +kernel
theorem dX1_isBeyond_0 : decode cX1_isBeyond 0 = .ok (.iload_n 1, 1) := dq_53.1
theorem dX1_isBeyond_1 : decode cX1_isBeyond 1 = .ok (.iconst 0, 1) := dq_53.2.1
theorem dX1_isBeyond_2 : decode cX1_isBeyond 2 = .ok (.sipush 999, 3) := dq_53.2.2.1
theorem dX1_isBeyond_5 : decode cX1_isBeyond 5 = .ok (.invokestatic 19, 3) := dq_53.2.2.2.1
theorem dX1_isBeyond_8 : decode cX1_isBeyond 8 = .ok (.ifCond .eq 29, 3) := dq_53.2.2.2.2.1
theorem dX1_isBeyond_11 : decode cX1_isBeyond 11 = .ok (.aload_n 0, 1) := dq_53.2.2.2.2.2.1
theorem dX1_isBeyond_12 : decode cX1_isBeyond 12 = .ok (.getfield 15, 3) := dq_53.2.2.2.2.2.2.1
theorem dX1_isBeyond_15 : decode cX1_isBeyond 15 = .ok (.ifCond .eq 18, 3) := dq_53.2.2.2.2.2.2.2.1
theorem dX1_isBeyond_18 : decode cX1_isBeyond 18 = .ok (.iload_n 1, 1) := dq_53.2.2.2.2.2.2.2.2.1
theorem dX1_isBeyond_19 : decode cX1_isBeyond 19 = .ok (.aload_n 0, 1) := dq_53.2.2.2.2.2.2.2.2.2.1
theorem dX1_isBeyond_20 : decode cX1_isBeyond 20 = .ok (.getfield 11, 3) := dq_53.2.2.2.2.2.2.2.2.2.2.1
theorem dX1_isBeyond_23 : decode cX1_isBeyond 23 = .ok (.aload_n 0, 1) := dq_53.2.2.2.2.2.2.2.2.2.2.2
theorem dq_54 : decode cX1_isBeyond 24 = .ok (.getfield 15, 3) ∧ decode cX1_isBeyond 27 = .ok (.iconst 1, 1) ∧ decode cX1_isBeyond 28 = .ok (.isub, 1) ∧ decode cX1_isBeyond 29 = .ok (.iaload, 1) ∧ decode cX1_isBeyond 30 = .ok (.if_icmp .le 7, 3) ∧ decode cX1_isBeyond 33 = .ok (.iconst 1, 1) ∧ decode cX1_isBeyond 34 = .ok (.goto 4, 3) ∧ decode cX1_isBeyond 37 = .ok (.iconst 0, 1) ∧ decode cX1_isBeyond 38 = .ok (.ireturn, 1) := by decide +kernel
theorem dX1_isBeyond_24 : decode cX1_isBeyond 24 = .ok (.getfield 15, 3) := dq_54.1
theorem dX1_isBeyond_27 : decode cX1_isBeyond 27 = .ok (.iconst 1, 1) := dq_54.2.1
theorem dX1_isBeyond_28 : decode cX1_isBeyond 28 = .ok (.isub, 1) := dq_54.2.2.1
theorem dX1_isBeyond_29 : decode cX1_isBeyond 29 = .ok (.iaload, 1) := dq_54.2.2.2.1
theorem dX1_isBeyond_30 : decode cX1_isBeyond 30 = .ok (.if_icmp .le 7, 3) := dq_54.2.2.2.2.1
theorem dX1_isBeyond_33 : decode cX1_isBeyond 33 = .ok (.iconst 1, 1) := dq_54.2.2.2.2.2.1
theorem dX1_isBeyond_34 : decode cX1_isBeyond 34 = .ok (.goto 4, 3) := dq_54.2.2.2.2.2.2.1
theorem dX1_isBeyond_37 : decode cX1_isBeyond 37 = .ok (.iconst 0, 1) := dq_54.2.2.2.2.2.2.2.1
theorem dX1_isBeyond_38 : decode cX1_isBeyond 38 = .ok (.ireturn, 1) := dq_54.2.2.2.2.2.2.2.2
theorem dq_55 : decode cX1_append 0 = .ok (.aload_n 0, 1) ∧ decode cX1_append 1 = .ok (.getfield 15, 3) ∧ decode cX1_append 4 = .ok (.bipush 24, 2) ∧ decode cX1_append 6 = .ok (.if_icmp .lt 5, 3) ∧ decode cX1_append 9 = .ok (.iconst 0, 1) ∧ decode cX1_append 10 = .ok (.ireturn, 1) ∧ decode cX1_append 11 = .ok (.aload_n 0, 1) ∧ decode cX1_append 12 = .ok (.getfield 11, 3) ∧ decode cX1_append 15 = .ok (.aload_n 0, 1) ∧ decode cX1_append 16 = .ok (.getfield 15, 3) ∧ decode cX1_append 19 = .ok (.iload_n 1, 1) ∧ decode cX1_append 20 = .ok (.iastore, 1) := by decide +kernel
theorem dX1_append_0 : decode cX1_append 0 = .ok (.aload_n 0, 1) := dq_55.1
theorem dX1_append_1 : decode cX1_append 1 = .ok (.getfield 15, 3) := dq_55.2.1
theorem dX1_append_4 : decode cX1_append 4 = .ok (.bipush 24, 2) := dq_55.2.2.1
theorem dX1_append_6 : decode cX1_append 6 = .ok (.if_icmp .lt 5, 3) := dq_55.2.2.2.1
theorem dX1_append_9 : decode cX1_append 9 = .ok (.iconst 0, 1) := dq_55.2.2.2.2.1
theorem dX1_append_10 : decode cX1_append 10 = .ok (.ireturn, 1) := dq_55.2.2.2.2.2.1
theorem dX1_append_11 : decode cX1_append 11 = .ok (.aload_n 0, 1) := dq_55.2.2.2.2.2.2.1
theorem dX1_append_12 : decode cX1_append 12 = .ok (.getfield 11, 3) := dq_55.2.2.2.2.2.2.2.1
theorem dX1_append_15 : decode cX1_append 15 = .ok (.aload_n 0, 1) := dq_55.2.2.2.2.2.2.2.2.1
theorem dX1_append_16 : decode cX1_append 16 = .ok (.getfield 15, 3) := dq_55.2.2.2.2.2.2.2.2.2.1
theorem dX1_append_19 : decode cX1_append 19 = .ok (.iload_n 1, 1) := dq_55.2.2.2.2.2.2.2.2.2.2.1
theorem dX1_append_20 : decode cX1_append 20 = .ok (.iastore, 1) := dq_55.2.2.2.2.2.2.2.2.2.2.2
theorem dq_56 : decode cX1_append 21 = .ok (.aload_n 0, 1) ∧ decode cX1_append 22 = .ok (.dup, 1) ∧ decode cX1_append 23 = .ok (.getfield 15, 3) ∧ decode cX1_append 26 = .ok (.iconst 1, 1) ∧ decode cX1_append 27 = .ok (.iadd, 1) ∧ decode cX1_append 28 = .ok (.putfield 15, 3) ∧ decode cX1_append 31 = .ok (.iconst 1, 1) ∧ decode cX1_append 32 = .ok (.ireturn, 1) := by decide +kernel
theorem dX1_append_21 : decode cX1_append 21 = .ok (.aload_n 0, 1) := dq_56.1
theorem dX1_append_22 : decode cX1_append 22 = .ok (.dup, 1) := dq_56.2.1
theorem dX1_append_23 : decode cX1_append 23 = .ok (.getfield 15, 3) := dq_56.2.2.1
theorem dX1_append_26 : decode cX1_append 26 = .ok (.iconst 1, 1) := dq_56.2.2.2.1
theorem dX1_append_27 : decode cX1_append 27 = .ok (.iadd, 1) := dq_56.2.2.2.2.1
theorem dX1_append_28 : decode cX1_append 28 = .ok (.putfield 15, 3) := dq_56.2.2.2.2.2.1
theorem dX1_append_31 : decode cX1_append 31 = .ok (.iconst 1, 1) := dq_56.2.2.2.2.2.2.1
theorem dX1_append_32 : decode cX1_append 32 = .ok (.ireturn, 1) := dq_56.2.2.2.2.2.2.2
theorem dq_57 : decode cX1_clear 0 = .ok (.aload_n 0, 1) ∧ decode cX1_clear 1 = .ok (.getfield 15, 3) ∧ decode cX1_clear 4 = .ok (.istore_n 1, 1) ∧ decode cX1_clear 5 = .ok (.aload_n 0, 1) ∧ decode cX1_clear 6 = .ok (.iconst 0, 1) ∧ decode cX1_clear 7 = .ok (.putfield 15, 3) ∧ decode cX1_clear 10 = .ok (.iload_n 1, 1) ∧ decode cX1_clear 11 = .ok (.ireturn, 1) := by decide +kernel
theorem dX1_clear_0 : decode cX1_clear 0 = .ok (.aload_n 0, 1) := dq_57.1
theorem dX1_clear_1 : decode cX1_clear 1 = .ok (.getfield 15, 3) := dq_57.2.1
theorem dX1_clear_4 : decode cX1_clear 4 = .ok (.istore_n 1, 1) := dq_57.2.2.1
theorem dX1_clear_5 : decode cX1_clear 5 = .ok (.aload_n 0, 1) := dq_57.2.2.2.1
theorem dX1_clear_6 : decode cX1_clear 6 = .ok (.iconst 0, 1) := dq_57.2.2.2.2.1
theorem dX1_clear_7 : decode cX1_clear 7 = .ok (.putfield 15, 3) := dq_57.2.2.2.2.2.1
theorem dX1_clear_10 : decode cX1_clear 10 = .ok (.iload_n 1, 1) := dq_57.2.2.2.2.2.2.1
theorem dX1_clear_11 : decode cX1_clear 11 = .ok (.ireturn, 1) := dq_57.2.2.2.2.2.2.2
theorem dq_58 : decode cX1_slipsBy 0 = .ok (.iconst 0, 1) ∧ decode cX1_slipsBy 1 = .ok (.istore_n 2, 1) ∧ decode cX1_slipsBy 2 = .ok (.iconst 0, 1) ∧ decode cX1_slipsBy 3 = .ok (.istore_n 3, 1) ∧ decode cX1_slipsBy 4 = .ok (.iload_n 3, 1) ∧ decode cX1_slipsBy 5 = .ok (.iconst 1, 1) ∧ decode cX1_slipsBy 6 = .ok (.iadd, 1) ∧ decode cX1_slipsBy 7 = .ok (.aload_n 0, 1) ∧ decode cX1_slipsBy 8 = .ok (.getfield 15, 3) ∧ decode cX1_slipsBy 11 = .ok (.if_icmp .ge 31, 3) ∧ decode cX1_slipsBy 14 = .ok (.aload_n 0, 1) ∧ decode cX1_slipsBy 15 = .ok (.getfield 11, 3) := by decide +kernel
theorem dX1_slipsBy_0 : decode cX1_slipsBy 0 = .ok (.iconst 0, 1) := dq_58.1
theorem dX1_slipsBy_1 : decode cX1_slipsBy 1 = .ok (.istore_n 2, 1) := dq_58.2.1
theorem dX1_slipsBy_2 : decode cX1_slipsBy 2 = .ok (.iconst 0, 1) := dq_58.2.2.1
theorem dX1_slipsBy_3 : decode cX1_slipsBy 3 = .ok (.istore_n 3, 1) := dq_58.2.2.2.1
theorem dX1_slipsBy_4 : decode cX1_slipsBy 4 = .ok (.iload_n 3, 1) := dq_58.2.2.2.2.1
theorem dX1_slipsBy_5 : decode cX1_slipsBy 5 = .ok (.iconst 1, 1) := dq_58.2.2.2.2.2.1
theorem dX1_slipsBy_6 : decode cX1_slipsBy 6 = .ok (.iadd, 1) := dq_58.2.2.2.2.2.2.1
theorem dX1_slipsBy_7 : decode cX1_slipsBy 7 = .ok (.aload_n 0, 1) := dq_58.2.2.2.2.2.2.2.1
theorem dX1_slipsBy_8 : decode cX1_slipsBy 8 = .ok (.getfield 15, 3) := dq_58.2.2.2.2.2.2.2.2.1
theorem dX1_slipsBy_11 : decode cX1_slipsBy 11 = .ok (.if_icmp .ge 31, 3) := dq_58.2.2.2.2.2.2.2.2.2.1
theorem dX1_slipsBy_14 : decode cX1_slipsBy 14 = .ok (.aload_n 0, 1) := dq_58.2.2.2.2.2.2.2.2.2.2.1
theorem dX1_slipsBy_15 : decode cX1_slipsBy 15 = .ok (.getfield 11, 3) := dq_58.2.2.2.2.2.2.2.2.2.2.2
theorem dq_59 : decode cX1_slipsBy 18 = .ok (.iload_n 3, 1) ∧ decode cX1_slipsBy 19 = .ok (.iconst 1, 1) ∧ decode cX1_slipsBy 20 = .ok (.iadd, 1) ∧ decode cX1_slipsBy 21 = .ok (.iaload, 1) ∧ decode cX1_slipsBy 22 = .ok (.aload_n 0, 1) ∧ decode cX1_slipsBy 23 = .ok (.getfield 11, 3) ∧ decode cX1_slipsBy 26 = .ok (.iload_n 3, 1) ∧ decode cX1_slipsBy 27 = .ok (.iaload, 1) ∧ decode cX1_slipsBy 28 = .ok (.isub, 1) ∧ decode cX1_slipsBy 29 = .ok (.iload_n 1, 1) ∧ decode cX1_slipsBy 30 = .ok (.if_icmp .eq 6, 3) ∧ decode cX1_slipsBy 33 = .ok (.iinc 2 1, 3) := by decide +kernel
theorem dX1_slipsBy_18 : decode cX1_slipsBy 18 = .ok (.iload_n 3, 1) := dq_59.1
theorem dX1_slipsBy_19 : decode cX1_slipsBy 19 = .ok (.iconst 1, 1) := dq_59.2.1
theorem dX1_slipsBy_20 : decode cX1_slipsBy 20 = .ok (.iadd, 1) := dq_59.2.2.1
theorem dX1_slipsBy_21 : decode cX1_slipsBy 21 = .ok (.iaload, 1) := dq_59.2.2.2.1
theorem dX1_slipsBy_22 : decode cX1_slipsBy 22 = .ok (.aload_n 0, 1) := dq_59.2.2.2.2.1
theorem dX1_slipsBy_23 : decode cX1_slipsBy 23 = .ok (.getfield 11, 3) := dq_59.2.2.2.2.2.1
theorem dX1_slipsBy_26 : decode cX1_slipsBy 26 = .ok (.iload_n 3, 1) := dq_59.2.2.2.2.2.2.1
theorem dX1_slipsBy_27 : decode cX1_slipsBy 27 = .ok (.iaload, 1) := dq_59.2.2.2.2.2.2.2.1
theorem dX1_slipsBy_28 : decode cX1_slipsBy 28 = .ok (.isub, 1) := dq_59.2.2.2.2.2.2.2.2.1
theorem dX1_slipsBy_29 : decode cX1_slipsBy 29 = .ok (.iload_n 1, 1) := dq_59.2.2.2.2.2.2.2.2.2.1
theorem dX1_slipsBy_30 : decode cX1_slipsBy 30 = .ok (.if_icmp .eq 6, 3) := dq_59.2.2.2.2.2.2.2.2.2.2.1
theorem dX1_slipsBy_33 : decode cX1_slipsBy 33 = .ok (.iinc 2 1, 3) := dq_59.2.2.2.2.2.2.2.2.2.2.2
theorem dq_60 : decode cX1_slipsBy 36 = .ok (.iinc 3 1, 3) ∧ decode cX1_slipsBy 39 = .ok (.goto (-35), 3) ∧ decode cX1_slipsBy 42 = .ok (.iload_n 2, 1) ∧ decode cX1_slipsBy 43 = .ok (.ireturn, 1) := by decide +kernel
theorem dX1_slipsBy_36 : decode cX1_slipsBy 36 = .ok (.iinc 3 1, 3) := dq_60.1
theorem dX1_slipsBy_39 : decode cX1_slipsBy 39 = .ok (.goto (-35), 3) := dq_60.2.1
theorem dX1_slipsBy_42 : decode cX1_slipsBy 42 = .ok (.iload_n 2, 1) := dq_60.2.2.1
theorem dX1_slipsBy_43 : decode cX1_slipsBy 43 = .ok (.ireturn, 1) := dq_60.2.2.2
theorem dq_61 : decode cX1_firstSlipBy 0 = .ok (.iconst 0, 1) ∧ decode cX1_firstSlipBy 1 = .ok (.istore_n 2, 1) ∧ decode cX1_firstSlipBy 2 = .ok (.iload_n 2, 1) ∧ decode cX1_firstSlipBy 3 = .ok (.iconst 1, 1) ∧ decode cX1_firstSlipBy 4 = .ok (.iadd, 1) ∧ decode cX1_firstSlipBy 5 = .ok (.aload_n 0, 1) ∧ decode cX1_firstSlipBy 6 = .ok (.getfield 15, 3) ∧ decode cX1_firstSlipBy 9 = .ok (.if_icmp .ge 30, 3) ∧ decode cX1_firstSlipBy 12 = .ok (.aload_n 0, 1) ∧ decode cX1_firstSlipBy 13 = .ok (.getfield 11, 3) ∧ decode cX1_firstSlipBy 16 = .ok (.iload_n 2, 1) ∧ decode cX1_firstSlipBy 17 = .ok (.iconst 1, 1) := by decide +kernel
theorem dX1_firstSlipBy_0 : decode cX1_firstSlipBy 0 = .ok (.iconst 0, 1) := dq_61.1
theorem dX1_firstSlipBy_1 : decode cX1_firstSlipBy 1 = .ok (.istore_n 2, 1) := dq_61.2.1
theorem dX1_firstSlipBy_2 : decode cX1_firstSlipBy 2 = .ok (.iload_n 2, 1) := dq_61.2.2.1
theorem dX1_firstSlipBy_3 : decode cX1_firstSlipBy 3 = .ok (.iconst 1, 1) := dq_61.2.2.2.1
theorem dX1_firstSlipBy_4 : decode cX1_firstSlipBy 4 = .ok (.iadd, 1) := dq_61.2.2.2.2.1
theorem dX1_firstSlipBy_5 : decode cX1_firstSlipBy 5 = .ok (.aload_n 0, 1) := dq_61.2.2.2.2.2.1
theorem dX1_firstSlipBy_6 : decode cX1_firstSlipBy 6 = .ok (.getfield 15, 3) := dq_61.2.2.2.2.2.2.1
theorem dX1_firstSlipBy_9 : decode cX1_firstSlipBy 9 = .ok (.if_icmp .ge 30, 3) := dq_61.2.2.2.2.2.2.2.1
theorem dX1_firstSlipBy_12 : decode cX1_firstSlipBy 12 = .ok (.aload_n 0, 1) := dq_61.2.2.2.2.2.2.2.2.1
theorem dX1_firstSlipBy_13 : decode cX1_firstSlipBy 13 = .ok (.getfield 11, 3) := dq_61.2.2.2.2.2.2.2.2.2.1
theorem dX1_firstSlipBy_16 : decode cX1_firstSlipBy 16 = .ok (.iload_n 2, 1) := dq_61.2.2.2.2.2.2.2.2.2.2.1
theorem dX1_firstSlipBy_17 : decode cX1_firstSlipBy 17 = .ok (.iconst 1, 1) := dq_61.2.2.2.2.2.2.2.2.2.2.2
theorem dq_62 : decode cX1_firstSlipBy 18 = .ok (.iadd, 1) ∧ decode cX1_firstSlipBy 19 = .ok (.iaload, 1) ∧ decode cX1_firstSlipBy 20 = .ok (.aload_n 0, 1) ∧ decode cX1_firstSlipBy 21 = .ok (.getfield 11, 3) ∧ decode cX1_firstSlipBy 24 = .ok (.iload_n 2, 1) ∧ decode cX1_firstSlipBy 25 = .ok (.iaload, 1) ∧ decode cX1_firstSlipBy 26 = .ok (.isub, 1) ∧ decode cX1_firstSlipBy 27 = .ok (.iload_n 1, 1) ∧ decode cX1_firstSlipBy 28 = .ok (.if_icmp .eq 5, 3) ∧ decode cX1_firstSlipBy 31 = .ok (.iload_n 2, 1) ∧ decode cX1_firstSlipBy 32 = .ok (.ireturn, 1) ∧ decode cX1_firstSlipBy 33 = .ok (.iinc 2 1, 3) := by decide +kernel
theorem dX1_firstSlipBy_18 : decode cX1_firstSlipBy 18 = .ok (.iadd, 1) := dq_62.1
theorem dX1_firstSlipBy_19 : decode cX1_firstSlipBy 19 = .ok (.iaload, 1) := dq_62.2.1
theorem dX1_firstSlipBy_20 : decode cX1_firstSlipBy 20 = .ok (.aload_n 0, 1) := dq_62.2.2.1
theorem dX1_firstSlipBy_21 : decode cX1_firstSlipBy 21 = .ok (.getfield 11, 3) := dq_62.2.2.2.1
theorem dX1_firstSlipBy_24 : decode cX1_firstSlipBy 24 = .ok (.iload_n 2, 1) := dq_62.2.2.2.2.1
theorem dX1_firstSlipBy_25 : decode cX1_firstSlipBy 25 = .ok (.iaload, 1) := dq_62.2.2.2.2.2.1
theorem dX1_firstSlipBy_26 : decode cX1_firstSlipBy 26 = .ok (.isub, 1) := dq_62.2.2.2.2.2.2.1
theorem dX1_firstSlipBy_27 : decode cX1_firstSlipBy 27 = .ok (.iload_n 1, 1) := dq_62.2.2.2.2.2.2.2.1
theorem dX1_firstSlipBy_28 : decode cX1_firstSlipBy 28 = .ok (.if_icmp .eq 5, 3) := dq_62.2.2.2.2.2.2.2.2.1
theorem dX1_firstSlipBy_31 : decode cX1_firstSlipBy 31 = .ok (.iload_n 2, 1) := dq_62.2.2.2.2.2.2.2.2.2.1
theorem dX1_firstSlipBy_32 : decode cX1_firstSlipBy 32 = .ok (.ireturn, 1) := dq_62.2.2.2.2.2.2.2.2.2.2.1
theorem dX1_firstSlipBy_33 : decode cX1_firstSlipBy 33 = .ok (.iinc 2 1, 3) := dq_62.2.2.2.2.2.2.2.2.2.2.2
theorem dq_63 : decode cX1_firstSlipBy 36 = .ok (.goto (-34), 3) ∧ decode cX1_firstSlipBy 39 = .ok (.bipush (-4), 2) ∧ decode cX1_firstSlipBy 41 = .ok (.ireturn, 1) := by decide +kernel
theorem dX1_firstSlipBy_36 : decode cX1_firstSlipBy 36 = .ok (.goto (-34), 3) := dq_63.1
theorem dX1_firstSlipBy_39 : decode cX1_firstSlipBy 39 = .ok (.bipush (-4), 2) := dq_63.2.1
theorem dX1_firstSlipBy_41 : decode cX1_firstSlipBy 41 = .ok (.ireturn, 1) := dq_63.2.2
theorem dq_64 : decode cX1_driftBy 0 = .ok (.aload_n 0, 1) ∧ decode cX1_driftBy 1 = .ok (.getfield 15, 3) ∧ decode cX1_driftBy 4 = .ok (.iconst 1, 1) ∧ decode cX1_driftBy 5 = .ok (.if_icmp .ge 7, 3) ∧ decode cX1_driftBy 8 = .ok (.iconst 0, 1) ∧ decode cX1_driftBy 9 = .ok (.goto 30, 3) ∧ decode cX1_driftBy 12 = .ok (.aload_n 0, 1) ∧ decode cX1_driftBy 13 = .ok (.getfield 11, 3) ∧ decode cX1_driftBy 16 = .ok (.aload_n 0, 1) ∧ decode cX1_driftBy 17 = .ok (.getfield 15, 3) ∧ decode cX1_driftBy 20 = .ok (.iconst 1, 1) ∧ decode cX1_driftBy 21 = .ok (.isub, 1) := by decide +kernel
theorem dX1_driftBy_0 : decode cX1_driftBy 0 = .ok (.aload_n 0, 1) := dq_64.1
theorem dX1_driftBy_1 : decode cX1_driftBy 1 = .ok (.getfield 15, 3) := dq_64.2.1
theorem dX1_driftBy_4 : decode cX1_driftBy 4 = .ok (.iconst 1, 1) := dq_64.2.2.1
theorem dX1_driftBy_5 : decode cX1_driftBy 5 = .ok (.if_icmp .ge 7, 3) := dq_64.2.2.2.1
theorem dX1_driftBy_8 : decode cX1_driftBy 8 = .ok (.iconst 0, 1) := dq_64.2.2.2.2.1
theorem dX1_driftBy_9 : decode cX1_driftBy 9 = .ok (.goto 30, 3) := dq_64.2.2.2.2.2.1
theorem dX1_driftBy_12 : decode cX1_driftBy 12 = .ok (.aload_n 0, 1) := dq_64.2.2.2.2.2.2.1
theorem dX1_driftBy_13 : decode cX1_driftBy 13 = .ok (.getfield 11, 3) := dq_64.2.2.2.2.2.2.2.1
theorem dX1_driftBy_16 : decode cX1_driftBy 16 = .ok (.aload_n 0, 1) := dq_64.2.2.2.2.2.2.2.2.1
theorem dX1_driftBy_17 : decode cX1_driftBy 17 = .ok (.getfield 15, 3) := dq_64.2.2.2.2.2.2.2.2.2.1
theorem dX1_driftBy_20 : decode cX1_driftBy 20 = .ok (.iconst 1, 1) := dq_64.2.2.2.2.2.2.2.2.2.2.1
theorem dX1_driftBy_21 : decode cX1_driftBy 21 = .ok (.isub, 1) := dq_64.2.2.2.2.2.2.2.2.2.2.2
theorem dq_65 : decode cX1_driftBy 22 = .ok (.iaload, 1) ∧ decode cX1_driftBy 23 = .ok (.aload_n 0, 1) ∧ decode cX1_driftBy 24 = .ok (.getfield 11, 3) ∧ decode cX1_driftBy 27 = .ok (.iconst 0, 1) ∧ decode cX1_driftBy 28 = .ok (.iaload, 1) ∧ decode cX1_driftBy 29 = .ok (.isub, 1) ∧ decode cX1_driftBy 30 = .ok (.iload_n 1, 1) ∧ decode cX1_driftBy 31 = .ok (.aload_n 0, 1) ∧ decode cX1_driftBy 32 = .ok (.getfield 15, 3) ∧ decode cX1_driftBy 35 = .ok (.iconst 1, 1) ∧ decode cX1_driftBy 36 = .ok (.isub, 1) ∧ decode cX1_driftBy 37 = .ok (.imul, 1) := by decide +kernel
theorem dX1_driftBy_22 : decode cX1_driftBy 22 = .ok (.iaload, 1) := dq_65.1
theorem dX1_driftBy_23 : decode cX1_driftBy 23 = .ok (.aload_n 0, 1) := dq_65.2.1
theorem dX1_driftBy_24 : decode cX1_driftBy 24 = .ok (.getfield 11, 3) := dq_65.2.2.1
theorem dX1_driftBy_27 : decode cX1_driftBy 27 = .ok (.iconst 0, 1) := dq_65.2.2.2.1
theorem dX1_driftBy_28 : decode cX1_driftBy 28 = .ok (.iaload, 1) := dq_65.2.2.2.2.1
theorem dX1_driftBy_29 : decode cX1_driftBy 29 = .ok (.isub, 1) := dq_65.2.2.2.2.2.1
theorem dX1_driftBy_30 : decode cX1_driftBy 30 = .ok (.iload_n 1, 1) := dq_65.2.2.2.2.2.2.1
theorem dX1_driftBy_31 : decode cX1_driftBy 31 = .ok (.aload_n 0, 1) := dq_65.2.2.2.2.2.2.2.1
theorem dX1_driftBy_32 : decode cX1_driftBy 32 = .ok (.getfield 15, 3) := dq_65.2.2.2.2.2.2.2.2.1
theorem dX1_driftBy_35 : decode cX1_driftBy 35 = .ok (.iconst 1, 1) := dq_65.2.2.2.2.2.2.2.2.2.1
theorem dX1_driftBy_36 : decode cX1_driftBy 36 = .ok (.isub, 1) := dq_65.2.2.2.2.2.2.2.2.2.2.1
theorem dX1_driftBy_37 : decode cX1_driftBy 37 = .ok (.imul, 1) := dq_65.2.2.2.2.2.2.2.2.2.2.2
theorem dq_66 : decode cX1_driftBy 38 = .ok (.isub, 1) ∧ decode cX1_driftBy 39 = .ok (.ireturn, 1) := by decide +kernel
theorem dX1_driftBy_38 : decode cX1_driftBy 38 = .ok (.isub, 1) := dq_66.1
theorem dX1_driftBy_39 : decode cX1_driftBy 39 = .ok (.ireturn, 1) := dq_66.2
theorem dq_67 : decode cX1_bestLength 0 = .ok (.iconst 1, 1) ∧ decode cX1_bestLength 1 = .ok (.istore_n 1, 1) ∧ decode cX1_bestLength 2 = .ok (.aload_n 0, 1) ∧ decode cX1_bestLength 3 = .ok (.iconst 1, 1) ∧ decode cX1_bestLength 4 = .ok (.invokevirtual 23, 3) ∧ decode cX1_bestLength 7 = .ok (.istore_n 2, 1) ∧ decode cX1_bestLength 8 = .ok (.iconst 2, 1) ∧ decode cX1_bestLength 9 = .ok (.istore_n 3, 1) ∧ decode cX1_bestLength 10 = .ok (.iload_n 3, 1) ∧ decode cX1_bestLength 11 = .ok (.bipush 99, 2) ∧ decode cX1_bestLength 13 = .ok (.if_icmp .gt 27, 3) ∧ decode cX1_bestLength 16 = .ok (.aload_n 0, 1) := by decide +kernel
theorem dX1_bestLength_0 : decode cX1_bestLength 0 = .ok (.iconst 1, 1) := dq_67.1
theorem dX1_bestLength_1 : decode cX1_bestLength 1 = .ok (.istore_n 1, 1) := dq_67.2.1
theorem dX1_bestLength_2 : decode cX1_bestLength 2 = .ok (.aload_n 0, 1) := dq_67.2.2.1
theorem dX1_bestLength_3 : decode cX1_bestLength 3 = .ok (.iconst 1, 1) := dq_67.2.2.2.1
theorem dX1_bestLength_4 : decode cX1_bestLength 4 = .ok (.invokevirtual 23, 3) := dq_67.2.2.2.2.1
theorem dX1_bestLength_7 : decode cX1_bestLength 7 = .ok (.istore_n 2, 1) := dq_67.2.2.2.2.2.1
theorem dX1_bestLength_8 : decode cX1_bestLength 8 = .ok (.iconst 2, 1) := dq_67.2.2.2.2.2.2.1
theorem dX1_bestLength_9 : decode cX1_bestLength 9 = .ok (.istore_n 3, 1) := dq_67.2.2.2.2.2.2.2.1
theorem dX1_bestLength_10 : decode cX1_bestLength 10 = .ok (.iload_n 3, 1) := dq_67.2.2.2.2.2.2.2.2.1
theorem dX1_bestLength_11 : decode cX1_bestLength 11 = .ok (.bipush 99, 2) := dq_67.2.2.2.2.2.2.2.2.2.1
theorem dX1_bestLength_13 : decode cX1_bestLength 13 = .ok (.if_icmp .gt 27, 3) := dq_67.2.2.2.2.2.2.2.2.2.2.1
theorem dX1_bestLength_16 : decode cX1_bestLength 16 = .ok (.aload_n 0, 1) := dq_67.2.2.2.2.2.2.2.2.2.2.2
theorem dq_68 : decode cX1_bestLength 17 = .ok (.iload_n 3, 1) ∧ decode cX1_bestLength 18 = .ok (.invokevirtual 23, 3) ∧ decode cX1_bestLength 21 = .ok (.istore 4, 2) ∧ decode cX1_bestLength 23 = .ok (.iload 4, 2) ∧ decode cX1_bestLength 25 = .ok (.iload_n 2, 1) ∧ decode cX1_bestLength 26 = .ok (.if_icmp .ge 8, 3) ∧ decode cX1_bestLength 29 = .ok (.iload_n 3, 1) ∧ decode cX1_bestLength 30 = .ok (.istore_n 1, 1) ∧ decode cX1_bestLength 31 = .ok (.iload 4, 2) ∧ decode cX1_bestLength 33 = .ok (.istore_n 2, 1) ∧ decode cX1_bestLength 34 = .ok (.iinc 3 1, 3) ∧ decode cX1_bestLength 37 = .ok (.goto (-27), 3) := by decide +kernel
theorem dX1_bestLength_17 : decode cX1_bestLength 17 = .ok (.iload_n 3, 1) := dq_68.1
theorem dX1_bestLength_18 : decode cX1_bestLength 18 = .ok (.invokevirtual 23, 3) := dq_68.2.1
theorem dX1_bestLength_21 : decode cX1_bestLength 21 = .ok (.istore 4, 2) := dq_68.2.2.1
theorem dX1_bestLength_23 : decode cX1_bestLength 23 = .ok (.iload 4, 2) := dq_68.2.2.2.1
theorem dX1_bestLength_25 : decode cX1_bestLength 25 = .ok (.iload_n 2, 1) := dq_68.2.2.2.2.1
theorem dX1_bestLength_26 : decode cX1_bestLength 26 = .ok (.if_icmp .ge 8, 3) := dq_68.2.2.2.2.2.1
theorem dX1_bestLength_29 : decode cX1_bestLength 29 = .ok (.iload_n 3, 1) := dq_68.2.2.2.2.2.2.1
theorem dX1_bestLength_30 : decode cX1_bestLength 30 = .ok (.istore_n 1, 1) := dq_68.2.2.2.2.2.2.2.1
theorem dX1_bestLength_31 : decode cX1_bestLength 31 = .ok (.iload 4, 2) := dq_68.2.2.2.2.2.2.2.2.1
theorem dX1_bestLength_33 : decode cX1_bestLength 33 = .ok (.istore_n 2, 1) := dq_68.2.2.2.2.2.2.2.2.2.1
theorem dX1_bestLength_34 : decode cX1_bestLength 34 = .ok (.iinc 3 1, 3) := dq_68.2.2.2.2.2.2.2.2.2.2.1
theorem dX1_bestLength_37 : decode cX1_bestLength 37 = .ok (.goto (-27), 3) := dq_68.2.2.2.2.2.2.2.2.2.2.2
theorem dq_69 : decode cX1_bestLength 40 = .ok (.iload_n 1, 1) ∧ decode cX1_bestLength 41 = .ok (.ireturn, 1) := by decide +kernel
theorem dX1_bestLength_40 : decode cX1_bestLength 40 = .ok (.iload_n 1, 1) := dq_69.1
theorem dX1_bestLength_41 : decode cX1_bestLength 41 = .ok (.ireturn, 1) := dq_69.2
theorem dq_70 : decode cX2_init 0 = .ok (.aload_n 0, 1) ∧ decode cX2_init 1 = .ok (.invokespecial 3, 3) ∧ decode cX2_init 4 = .ok (.aload_n 0, 1) ∧ decode cX2_init 5 = .ok (.bipush 64, 2) ∧ decode cX2_init 7 = .ok (.newarray .int, 2) ∧ decode cX2_init 9 = .ok (.putfield 9, 3) ∧ decode cX2_init 12 = .ok (.aload_n 0, 1) ∧ decode cX2_init 13 = .ok (.bipush 6, 2) ∧ decode cX2_init 15 = .ok (.newarray .long, 2) ∧ decode cX2_init 17 = .ok (.putfield 15, 3) ∧ decode cX2_init 20 = .ok (.aload_n 0, 1) ∧ decode cX2_init 21 = .ok (.sipush 512, 3) := by decide +kernel
theorem dX2_init_0 : decode cX2_init 0 = .ok (.aload_n 0, 1) := dq_70.1
theorem dX2_init_1 : decode cX2_init 1 = .ok (.invokespecial 3, 3) := dq_70.2.1
theorem dX2_init_4 : decode cX2_init 4 = .ok (.aload_n 0, 1) := dq_70.2.2.1
theorem dX2_init_5 : decode cX2_init 5 = .ok (.bipush 64, 2) := dq_70.2.2.2.1
theorem dX2_init_7 : decode cX2_init 7 = .ok (.newarray .int, 2) := dq_70.2.2.2.2.1
theorem dX2_init_9 : decode cX2_init 9 = .ok (.putfield 9, 3) := dq_70.2.2.2.2.2.1
theorem dX2_init_12 : decode cX2_init 12 = .ok (.aload_n 0, 1) := dq_70.2.2.2.2.2.2.1
theorem dX2_init_13 : decode cX2_init 13 = .ok (.bipush 6, 2) := dq_70.2.2.2.2.2.2.2.1
theorem dX2_init_15 : decode cX2_init 15 = .ok (.newarray .long, 2) := dq_70.2.2.2.2.2.2.2.2.1
theorem dX2_init_17 : decode cX2_init 17 = .ok (.putfield 15, 3) := dq_70.2.2.2.2.2.2.2.2.2.1
theorem dX2_init_20 : decode cX2_init 20 = .ok (.aload_n 0, 1) := dq_70.2.2.2.2.2.2.2.2.2.2.1
theorem dX2_init_21 : decode cX2_init 21 = .ok (.sipush 512, 3) := dq_70.2.2.2.2.2.2.2.2.2.2.2
theorem dq_71 : decode cX2_init 24 = .ok (.newarray .int, 2) ∧ decode cX2_init 26 = .ok (.putfield 19, 3) ∧ decode cX2_init 29 = .ok (.aload_n 0, 1) ∧ decode cX2_init 30 = .ok (.bipush 64, 2) ∧ decode cX2_init 32 = .ok (.newarray .int, 2) ∧ decode cX2_init 34 = .ok (.putfield 22, 3) ∧ decode cX2_init 37 = .ok (.aload_n 0, 1) ∧ decode cX2_init 38 = .ok (.getfield 9, 3) ∧ decode cX2_init 41 = .ok (.iconst (-1), 1) ∧ decode cX2_init 42 = .ok (.invokestatic 25, 3) ∧ decode cX2_init 45 = .ok (.iconst 0, 1) ∧ decode cX2_init 46 = .ok (.istore_n 1, 1) := by decide +kernel
theorem dX2_init_24 : decode cX2_init 24 = .ok (.newarray .int, 2) := dq_71.1
theorem dX2_init_26 : decode cX2_init 26 = .ok (.putfield 19, 3) := dq_71.2.1
theorem dX2_init_29 : decode cX2_init 29 = .ok (.aload_n 0, 1) := dq_71.2.2.1
theorem dX2_init_30 : decode cX2_init 30 = .ok (.bipush 64, 2) := dq_71.2.2.2.1
theorem dX2_init_32 : decode cX2_init 32 = .ok (.newarray .int, 2) := dq_71.2.2.2.2.1
theorem dX2_init_34 : decode cX2_init 34 = .ok (.putfield 22, 3) := dq_71.2.2.2.2.2.1
theorem dX2_init_37 : decode cX2_init 37 = .ok (.aload_n 0, 1) := dq_71.2.2.2.2.2.2.1
theorem dX2_init_38 : decode cX2_init 38 = .ok (.getfield 9, 3) := dq_71.2.2.2.2.2.2.2.1
theorem dX2_init_41 : decode cX2_init 41 = .ok (.iconst (-1), 1) := dq_71.2.2.2.2.2.2.2.2.1
theorem dX2_init_42 : decode cX2_init 42 = .ok (.invokestatic 25, 3) := dq_71.2.2.2.2.2.2.2.2.2.1
theorem dX2_init_45 : decode cX2_init 45 = .ok (.iconst 0, 1) := dq_71.2.2.2.2.2.2.2.2.2.2.1
theorem dX2_init_46 : decode cX2_init 46 = .ok (.istore_n 1, 1) := dq_71.2.2.2.2.2.2.2.2.2.2.2
theorem dq_72 : decode cX2_init 47 = .ok (.iload_n 1, 1) ∧ decode cX2_init 48 = .ok (.bipush 8, 2) ∧ decode cX2_init 50 = .ok (.if_icmp .ge 50, 3) ∧ decode cX2_init 53 = .ok (.iconst 0, 1) ∧ decode cX2_init 54 = .ok (.istore_n 2, 1) ∧ decode cX2_init 55 = .ok (.iload_n 2, 1) ∧ decode cX2_init 56 = .ok (.bipush 64, 2) ∧ decode cX2_init 58 = .ok (.if_icmp .ge 36, 3) ∧ decode cX2_init 61 = .ok (.iload_n 1, 1) ∧ decode cX2_init 62 = .ok (.iload_n 2, 1) ∧ decode cX2_init 63 = .ok (.bipush 8, 2) ∧ decode cX2_init 65 = .ok (.invokestatic 31, 3) := by decide +kernel
theorem dX2_init_47 : decode cX2_init 47 = .ok (.iload_n 1, 1) := dq_72.1
theorem dX2_init_48 : decode cX2_init 48 = .ok (.bipush 8, 2) := dq_72.2.1
theorem dX2_init_50 : decode cX2_init 50 = .ok (.if_icmp .ge 50, 3) := dq_72.2.2.1
theorem dX2_init_53 : decode cX2_init 53 = .ok (.iconst 0, 1) := dq_72.2.2.2.1
theorem dX2_init_54 : decode cX2_init 54 = .ok (.istore_n 2, 1) := dq_72.2.2.2.2.1
theorem dX2_init_55 : decode cX2_init 55 = .ok (.iload_n 2, 1) := dq_72.2.2.2.2.2.1
theorem dX2_init_56 : decode cX2_init 56 = .ok (.bipush 64, 2) := dq_72.2.2.2.2.2.2.1
theorem dX2_init_58 : decode cX2_init 58 = .ok (.if_icmp .ge 36, 3) := dq_72.2.2.2.2.2.2.2.1
theorem dX2_init_61 : decode cX2_init 61 = .ok (.iload_n 1, 1) := dq_72.2.2.2.2.2.2.2.2.1
theorem dX2_init_62 : decode cX2_init 62 = .ok (.iload_n 2, 1) := dq_72.2.2.2.2.2.2.2.2.2.1
theorem dX2_init_63 : decode cX2_init 63 = .ok (.bipush 8, 2) := dq_72.2.2.2.2.2.2.2.2.2.2.1
theorem dX2_init_65 : decode cX2_init 65 = .ok (.invokestatic 31, 3) := dq_72.2.2.2.2.2.2.2.2.2.2.2
theorem dq_73 : decode cX2_init 68 = .ok (.istore_n 3, 1) ∧ decode cX2_init 69 = .ok (.iload_n 3, 1) ∧ decode cX2_init 70 = .ok (.invokestatic 35, 3) ∧ decode cX2_init 73 = .ok (.ifCond .eq 15, 3) ∧ decode cX2_init 76 = .ok (.aload_n 0, 1) ∧ decode cX2_init 77 = .ok (.getfield 19, 3) ∧ decode cX2_init 80 = .ok (.iload_n 1, 1) ∧ decode cX2_init 81 = .ok (.bipush 64, 2) ∧ decode cX2_init 83 = .ok (.imul, 1) ∧ decode cX2_init 84 = .ok (.iload_n 3, 1) ∧ decode cX2_init 85 = .ok (.iadd, 1) ∧ decode cX2_init 86 = .ok (.iload_n 2, 1) := by decide +kernel
theorem dX2_init_68 : decode cX2_init 68 = .ok (.istore_n 3, 1) := dq_73.1
theorem dX2_init_69 : decode cX2_init 69 = .ok (.iload_n 3, 1) := dq_73.2.1
theorem dX2_init_70 : decode cX2_init 70 = .ok (.invokestatic 35, 3) := dq_73.2.2.1
theorem dX2_init_73 : decode cX2_init 73 = .ok (.ifCond .eq 15, 3) := dq_73.2.2.2.1
theorem dX2_init_76 : decode cX2_init 76 = .ok (.aload_n 0, 1) := dq_73.2.2.2.2.1
theorem dX2_init_77 : decode cX2_init 77 = .ok (.getfield 19, 3) := dq_73.2.2.2.2.2.1
theorem dX2_init_80 : decode cX2_init 80 = .ok (.iload_n 1, 1) := dq_73.2.2.2.2.2.2.1
theorem dX2_init_81 : decode cX2_init 81 = .ok (.bipush 64, 2) := dq_73.2.2.2.2.2.2.2.1
theorem dX2_init_83 : decode cX2_init 83 = .ok (.imul, 1) := dq_73.2.2.2.2.2.2.2.2.1
theorem dX2_init_84 : decode cX2_init 84 = .ok (.iload_n 3, 1) := dq_73.2.2.2.2.2.2.2.2.2.1
theorem dX2_init_85 : decode cX2_init 85 = .ok (.iadd, 1) := dq_73.2.2.2.2.2.2.2.2.2.2.1
theorem dX2_init_86 : decode cX2_init 86 = .ok (.iload_n 2, 1) := dq_73.2.2.2.2.2.2.2.2.2.2.2
theorem dq_74 : decode cX2_init 87 = .ok (.iastore, 1) ∧ decode cX2_init 88 = .ok (.iinc 2 1, 3) ∧ decode cX2_init 91 = .ok (.goto (-36), 3) ∧ decode cX2_init 94 = .ok (.iinc 1 1, 3) ∧ decode cX2_init 97 = .ok (.goto (-50), 3) ∧ decode cX2_init 100 = .ok (.return_, 1) := by decide +kernel
theorem dX2_init_87 : decode cX2_init 87 = .ok (.iastore, 1) := dq_74.1
theorem dX2_init_88 : decode cX2_init 88 = .ok (.iinc 2 1, 3) := dq_74.2.1
theorem dX2_init_91 : decode cX2_init 91 = .ok (.goto (-36), 3) := dq_74.2.2.1
theorem dX2_init_94 : decode cX2_init 94 = .ok (.iinc 1 1, 3) := dq_74.2.2.2.1
theorem dX2_init_97 : decode cX2_init 97 = .ok (.goto (-50), 3) := dq_74.2.2.2.2.1
theorem dX2_init_100 : decode cX2_init 100 = .ok (.return_, 1) := dq_74.2.2.2.2.2
theorem dq_75 : decode cX2_colourAt 0 = .ok (.iload_n 1, 1) ∧ decode cX2_colourAt 1 = .ok (.invokestatic 35, 3) ∧ decode cX2_colourAt 4 = .ok (.ifCond .eq 12, 3) ∧ decode cX2_colourAt 7 = .ok (.aload_n 0, 1) ∧ decode cX2_colourAt 8 = .ok (.getfield 9, 3) ∧ decode cX2_colourAt 11 = .ok (.iload_n 1, 1) ∧ decode cX2_colourAt 12 = .ok (.iaload, 1) ∧ decode cX2_colourAt 13 = .ok (.goto 4, 3) ∧ decode cX2_colourAt 16 = .ok (.iconst (-1), 1) ∧ decode cX2_colourAt 17 = .ok (.ireturn, 1) := by decide +kernel
theorem dX2_colourAt_0 : decode cX2_colourAt 0 = .ok (.iload_n 1, 1) := dq_75.1
theorem dX2_colourAt_1 : decode cX2_colourAt 1 = .ok (.invokestatic 35, 3) := dq_75.2.1
theorem dX2_colourAt_4 : decode cX2_colourAt 4 = .ok (.ifCond .eq 12, 3) := dq_75.2.2.1
theorem dX2_colourAt_7 : decode cX2_colourAt 7 = .ok (.aload_n 0, 1) := dq_75.2.2.2.1
theorem dX2_colourAt_8 : decode cX2_colourAt 8 = .ok (.getfield 9, 3) := dq_75.2.2.2.2.1
theorem dX2_colourAt_11 : decode cX2_colourAt 11 = .ok (.iload_n 1, 1) := dq_75.2.2.2.2.2.1
theorem dX2_colourAt_12 : decode cX2_colourAt 12 = .ok (.iaload, 1) := dq_75.2.2.2.2.2.2.1
theorem dX2_colourAt_13 : decode cX2_colourAt 13 = .ok (.goto 4, 3) := dq_75.2.2.2.2.2.2.2.1
theorem dX2_colourAt_16 : decode cX2_colourAt 16 = .ok (.iconst (-1), 1) := dq_75.2.2.2.2.2.2.2.2.1
theorem dX2_colourAt_17 : decode cX2_colourAt 17 = .ok (.ireturn, 1) := dq_75.2.2.2.2.2.2.2.2.2
theorem dq_76 : decode cX2_plane 0 = .ok (.iload_n 1, 1) ∧ decode cX2_plane 1 = .ok (.ifCond .lt 18, 3) ∧ decode cX2_plane 4 = .ok (.iload_n 1, 1) ∧ decode cX2_plane 5 = .ok (.bipush 6, 2) ∧ decode cX2_plane 7 = .ok (.if_icmp .ge 12, 3) ∧ decode cX2_plane 10 = .ok (.aload_n 0, 1) ∧ decode cX2_plane 11 = .ok (.getfield 15, 3) ∧ decode cX2_plane 14 = .ok (.iload_n 1, 1) ∧ decode cX2_plane 15 = .ok (.laload, 1) ∧ decode cX2_plane 16 = .ok (.goto 4, 3) ∧ decode cX2_plane 19 = .ok (.lconst 0, 1) ∧ decode cX2_plane 20 = .ok (.lreturn, 1) := by decide +kernel
theorem dX2_plane_0 : decode cX2_plane 0 = .ok (.iload_n 1, 1) := dq_76.1
theorem dX2_plane_1 : decode cX2_plane 1 = .ok (.ifCond .lt 18, 3) := dq_76.2.1
theorem dX2_plane_4 : decode cX2_plane 4 = .ok (.iload_n 1, 1) := dq_76.2.2.1
theorem dX2_plane_5 : decode cX2_plane 5 = .ok (.bipush 6, 2) := dq_76.2.2.2.1
theorem dX2_plane_7 : decode cX2_plane 7 = .ok (.if_icmp .ge 12, 3) := dq_76.2.2.2.2.1
theorem dX2_plane_10 : decode cX2_plane 10 = .ok (.aload_n 0, 1) := dq_76.2.2.2.2.2.1
theorem dX2_plane_11 : decode cX2_plane 11 = .ok (.getfield 15, 3) := dq_76.2.2.2.2.2.2.1
theorem dX2_plane_14 : decode cX2_plane 14 = .ok (.iload_n 1, 1) := dq_76.2.2.2.2.2.2.2.1
theorem dX2_plane_15 : decode cX2_plane 15 = .ok (.laload, 1) := dq_76.2.2.2.2.2.2.2.2.1
theorem dX2_plane_16 : decode cX2_plane 16 = .ok (.goto 4, 3) := dq_76.2.2.2.2.2.2.2.2.2.1
theorem dX2_plane_19 : decode cX2_plane 19 = .ok (.lconst 0, 1) := dq_76.2.2.2.2.2.2.2.2.2.2.1
theorem dX2_plane_20 : decode cX2_plane 20 = .ok (.lreturn, 1) := dq_76.2.2.2.2.2.2.2.2.2.2.2
theorem dq_77 : decode cX2_changes 0 = .ok (.aload_n 0, 1) ∧ decode cX2_changes 1 = .ok (.getfield 39, 3) ∧ decode cX2_changes 4 = .ok (.ireturn, 1) := by decide +kernel
theorem dX2_changes_0 : decode cX2_changes 0 = .ok (.aload_n 0, 1) := dq_77.1
theorem dX2_changes_1 : decode cX2_changes 1 = .ok (.getfield 39, 3) := dq_77.2.1
theorem dX2_changes_4 : decode cX2_changes 4 = .ok (.ireturn, 1) := dq_77.2.2
theorem dq_78 : decode cX2_lostCells 0 = .ok (.aload_n 0, 1) ∧ decode cX2_lostCells 1 = .ok (.getfield 43, 3) ∧ decode cX2_lostCells 4 = .ok (.ldc2_w 47, 3) ∧ decode cX2_lostCells 7 = .ok (.lxor, 1) ∧ decode cX2_lostCells 8 = .ok (.lreturn, 1) := by decide +kernel
theorem dX2_lostCells_0 : decode cX2_lostCells 0 = .ok (.aload_n 0, 1) := dq_78.1
theorem dX2_lostCells_1 : decode cX2_lostCells 1 = .ok (.getfield 43, 3) := dq_78.2.1
theorem dX2_lostCells_4 : decode cX2_lostCells 4 = .ok (.ldc2_w 47, 3) := dq_78.2.2.1
theorem dX2_lostCells_7 : decode cX2_lostCells 7 = .ok (.lxor, 1) := dq_78.2.2.2.1
theorem dX2_lostCells_8 : decode cX2_lostCells 8 = .ok (.lreturn, 1) := dq_78.2.2.2.2
theorem dq_79 : decode cX2_change 0 = .ok (.iload_n 1, 1) ∧ decode cX2_change 1 = .ok (.invokestatic 35, 3) ∧ decode cX2_change 4 = .ok (.ifCond .eq 12, 3) ∧ decode cX2_change 7 = .ok (.iload_n 2, 1) ∧ decode cX2_change 8 = .ok (.iconst (-1), 1) ∧ decode cX2_change 9 = .ok (.iconst 5, 1) ∧ decode cX2_change 10 = .ok (.invokestatic 49, 3) ∧ decode cX2_change 13 = .ok (.ifCond .ne 4, 3) ∧ decode cX2_change 16 = .ok (.return_, 1) ∧ decode cX2_change 17 = .ok (.lconst 1, 1) ∧ decode cX2_change 18 = .ok (.iload_n 1, 1) ∧ decode cX2_change 19 = .ok (.lshl, 1) := by decide +kernel
theorem dX2_change_0 : decode cX2_change 0 = .ok (.iload_n 1, 1) := dq_79.1
theorem dX2_change_1 : decode cX2_change 1 = .ok (.invokestatic 35, 3) := dq_79.2.1
theorem dX2_change_4 : decode cX2_change 4 = .ok (.ifCond .eq 12, 3) := dq_79.2.2.1
theorem dX2_change_7 : decode cX2_change 7 = .ok (.iload_n 2, 1) := dq_79.2.2.2.1
theorem dX2_change_8 : decode cX2_change 8 = .ok (.iconst (-1), 1) := dq_79.2.2.2.2.1
theorem dX2_change_9 : decode cX2_change 9 = .ok (.iconst 5, 1) := dq_79.2.2.2.2.2.1
theorem dX2_change_10 : decode cX2_change 10 = .ok (.invokestatic 49, 3) := dq_79.2.2.2.2.2.2.1
theorem dX2_change_13 : decode cX2_change 13 = .ok (.ifCond .ne 4, 3) := dq_79.2.2.2.2.2.2.2.1
theorem dX2_change_16 : decode cX2_change 16 = .ok (.return_, 1) := dq_79.2.2.2.2.2.2.2.2.1
theorem dX2_change_17 : decode cX2_change 17 = .ok (.lconst 1, 1) := dq_79.2.2.2.2.2.2.2.2.2.1
theorem dX2_change_18 : decode cX2_change 18 = .ok (.iload_n 1, 1) := dq_79.2.2.2.2.2.2.2.2.2.2.1
theorem dX2_change_19 : decode cX2_change 19 = .ok (.lshl, 1) := dq_79.2.2.2.2.2.2.2.2.2.2.2
theorem dq_80 : decode cX2_change 20 = .ok (.lstore_n 3, 1) ∧ decode cX2_change 21 = .ok (.aload_n 0, 1) ∧ decode cX2_change 22 = .ok (.getfield 9, 3) ∧ decode cX2_change 25 = .ok (.iload_n 1, 1) ∧ decode cX2_change 26 = .ok (.iaload, 1) ∧ decode cX2_change 27 = .ok (.istore 5, 2) ∧ decode cX2_change 29 = .ok (.iload 5, 2) ∧ decode cX2_change 31 = .ok (.iconst 0, 1) ∧ decode cX2_change 32 = .ok (.iconst 5, 1) ∧ decode cX2_change 33 = .ok (.invokestatic 49, 3) ∧ decode cX2_change 36 = .ok (.ifCond .eq 32, 3) ∧ decode cX2_change 39 = .ok (.aload_n 0, 1) := by decide +kernel
theorem dX2_change_20 : decode cX2_change 20 = .ok (.lstore_n 3, 1) := dq_80.1
theorem dX2_change_21 : decode cX2_change 21 = .ok (.aload_n 0, 1) := dq_80.2.1
theorem dX2_change_22 : decode cX2_change 22 = .ok (.getfield 9, 3) := dq_80.2.2.1
theorem dX2_change_25 : decode cX2_change 25 = .ok (.iload_n 1, 1) := dq_80.2.2.2.1
theorem dX2_change_26 : decode cX2_change 26 = .ok (.iaload, 1) := dq_80.2.2.2.2.1
theorem dX2_change_27 : decode cX2_change 27 = .ok (.istore 5, 2) := dq_80.2.2.2.2.2.1
theorem dX2_change_29 : decode cX2_change 29 = .ok (.iload 5, 2) := dq_80.2.2.2.2.2.2.1
theorem dX2_change_31 : decode cX2_change 31 = .ok (.iconst 0, 1) := dq_80.2.2.2.2.2.2.2.1
theorem dX2_change_32 : decode cX2_change 32 = .ok (.iconst 5, 1) := dq_80.2.2.2.2.2.2.2.2.1
theorem dX2_change_33 : decode cX2_change 33 = .ok (.invokestatic 49, 3) := dq_80.2.2.2.2.2.2.2.2.2.1
theorem dX2_change_36 : decode cX2_change 36 = .ok (.ifCond .eq 32, 3) := dq_80.2.2.2.2.2.2.2.2.2.2.1
theorem dX2_change_39 : decode cX2_change 39 = .ok (.aload_n 0, 1) := dq_80.2.2.2.2.2.2.2.2.2.2.2
theorem dq_81 : decode cX2_change 40 = .ok (.getfield 15, 3) ∧ decode cX2_change 43 = .ok (.iload 5, 2) ∧ decode cX2_change 45 = .ok (.dup2, 1) ∧ decode cX2_change 46 = .ok (.laload, 1) ∧ decode cX2_change 47 = .ok (.lload_n 3, 1) ∧ decode cX2_change 48 = .ok (.ldc2_w 47, 3) ∧ decode cX2_change 51 = .ok (.lxor, 1) ∧ decode cX2_change 52 = .ok (.land, 1) ∧ decode cX2_change 53 = .ok (.lastore, 1) ∧ decode cX2_change 54 = .ok (.aload_n 0, 1) ∧ decode cX2_change 55 = .ok (.dup, 1) ∧ decode cX2_change 56 = .ok (.getfield 43, 3) := by decide +kernel
theorem dX2_change_40 : decode cX2_change 40 = .ok (.getfield 15, 3) := dq_81.1
theorem dX2_change_43 : decode cX2_change 43 = .ok (.iload 5, 2) := dq_81.2.1
theorem dX2_change_45 : decode cX2_change 45 = .ok (.dup2, 1) := dq_81.2.2.1
theorem dX2_change_46 : decode cX2_change 46 = .ok (.laload, 1) := dq_81.2.2.2.1
theorem dX2_change_47 : decode cX2_change 47 = .ok (.lload_n 3, 1) := dq_81.2.2.2.2.1
theorem dX2_change_48 : decode cX2_change 48 = .ok (.ldc2_w 47, 3) := dq_81.2.2.2.2.2.1
theorem dX2_change_51 : decode cX2_change 51 = .ok (.lxor, 1) := dq_81.2.2.2.2.2.2.1
theorem dX2_change_52 : decode cX2_change 52 = .ok (.land, 1) := dq_81.2.2.2.2.2.2.2.1
theorem dX2_change_53 : decode cX2_change 53 = .ok (.lastore, 1) := dq_81.2.2.2.2.2.2.2.2.1
theorem dX2_change_54 : decode cX2_change 54 = .ok (.aload_n 0, 1) := dq_81.2.2.2.2.2.2.2.2.2.1
theorem dX2_change_55 : decode cX2_change 55 = .ok (.dup, 1) := dq_81.2.2.2.2.2.2.2.2.2.2.1
theorem dX2_change_56 : decode cX2_change 56 = .ok (.getfield 43, 3) := dq_81.2.2.2.2.2.2.2.2.2.2.2
theorem dq_82 : decode cX2_change 59 = .ok (.lload_n 3, 1) ∧ decode cX2_change 60 = .ok (.ldc2_w 47, 3) ∧ decode cX2_change 63 = .ok (.lxor, 1) ∧ decode cX2_change 64 = .ok (.land, 1) ∧ decode cX2_change 65 = .ok (.putfield 43, 3) ∧ decode cX2_change 68 = .ok (.iload_n 2, 1) ∧ decode cX2_change 69 = .ok (.iconst (-1), 1) ∧ decode cX2_change 70 = .ok (.if_icmp .eq 23, 3) ∧ decode cX2_change 73 = .ok (.aload_n 0, 1) ∧ decode cX2_change 74 = .ok (.getfield 15, 3) ∧ decode cX2_change 77 = .ok (.iload_n 2, 1) ∧ decode cX2_change 78 = .ok (.dup2, 1) := by decide +kernel
theorem dX2_change_59 : decode cX2_change 59 = .ok (.lload_n 3, 1) := dq_82.1
theorem dX2_change_60 : decode cX2_change 60 = .ok (.ldc2_w 47, 3) := dq_82.2.1
theorem dX2_change_63 : decode cX2_change 63 = .ok (.lxor, 1) := dq_82.2.2.1
theorem dX2_change_64 : decode cX2_change 64 = .ok (.land, 1) := dq_82.2.2.2.1
theorem dX2_change_65 : decode cX2_change 65 = .ok (.putfield 43, 3) := dq_82.2.2.2.2.1
theorem dX2_change_68 : decode cX2_change 68 = .ok (.iload_n 2, 1) := dq_82.2.2.2.2.2.1
theorem dX2_change_69 : decode cX2_change 69 = .ok (.iconst (-1), 1) := dq_82.2.2.2.2.2.2.1
theorem dX2_change_70 : decode cX2_change 70 = .ok (.if_icmp .eq 23, 3) := dq_82.2.2.2.2.2.2.2.1
theorem dX2_change_73 : decode cX2_change 73 = .ok (.aload_n 0, 1) := dq_82.2.2.2.2.2.2.2.2.1
theorem dX2_change_74 : decode cX2_change 74 = .ok (.getfield 15, 3) := dq_82.2.2.2.2.2.2.2.2.2.1
theorem dX2_change_77 : decode cX2_change 77 = .ok (.iload_n 2, 1) := dq_82.2.2.2.2.2.2.2.2.2.2.1
theorem dX2_change_78 : decode cX2_change 78 = .ok (.dup2, 1) := dq_82.2.2.2.2.2.2.2.2.2.2.2
theorem dq_83 : decode cX2_change 79 = .ok (.laload, 1) ∧ decode cX2_change 80 = .ok (.lload_n 3, 1) ∧ decode cX2_change 81 = .ok (.lor, 1) ∧ decode cX2_change 82 = .ok (.lastore, 1) ∧ decode cX2_change 83 = .ok (.aload_n 0, 1) ∧ decode cX2_change 84 = .ok (.dup, 1) ∧ decode cX2_change 85 = .ok (.getfield 43, 3) ∧ decode cX2_change 88 = .ok (.lload_n 3, 1) ∧ decode cX2_change 89 = .ok (.lor, 1) ∧ decode cX2_change 90 = .ok (.putfield 43, 3) ∧ decode cX2_change 93 = .ok (.aload_n 0, 1) ∧ decode cX2_change 94 = .ok (.getfield 9, 3) := by decide +kernel
theorem dX2_change_79 : decode cX2_change 79 = .ok (.laload, 1) := dq_83.1
theorem dX2_change_80 : decode cX2_change 80 = .ok (.lload_n 3, 1) := dq_83.2.1
theorem dX2_change_81 : decode cX2_change 81 = .ok (.lor, 1) := dq_83.2.2.1
theorem dX2_change_82 : decode cX2_change 82 = .ok (.lastore, 1) := dq_83.2.2.2.1
theorem dX2_change_83 : decode cX2_change 83 = .ok (.aload_n 0, 1) := dq_83.2.2.2.2.1
theorem dX2_change_84 : decode cX2_change 84 = .ok (.dup, 1) := dq_83.2.2.2.2.2.1
theorem dX2_change_85 : decode cX2_change 85 = .ok (.getfield 43, 3) := dq_83.2.2.2.2.2.2.1
theorem dX2_change_88 : decode cX2_change 88 = .ok (.lload_n 3, 1) := dq_83.2.2.2.2.2.2.2.1
theorem dX2_change_89 : decode cX2_change 89 = .ok (.lor, 1) := dq_83.2.2.2.2.2.2.2.2.1
theorem dX2_change_90 : decode cX2_change 90 = .ok (.putfield 43, 3) := dq_83.2.2.2.2.2.2.2.2.2.1
theorem dX2_change_93 : decode cX2_change 93 = .ok (.aload_n 0, 1) := dq_83.2.2.2.2.2.2.2.2.2.2.1
theorem dX2_change_94 : decode cX2_change 94 = .ok (.getfield 9, 3) := dq_83.2.2.2.2.2.2.2.2.2.2.2
theorem dq_84 : decode cX2_change 97 = .ok (.iload_n 1, 1) ∧ decode cX2_change 98 = .ok (.iload_n 2, 1) ∧ decode cX2_change 99 = .ok (.iastore, 1) ∧ decode cX2_change 100 = .ok (.aload_n 0, 1) ∧ decode cX2_change 101 = .ok (.dup, 1) ∧ decode cX2_change 102 = .ok (.getfield 53, 3) ∧ decode cX2_change 105 = .ok (.lload_n 3, 1) ∧ decode cX2_change 106 = .ok (.ldc2_w 47, 3) ∧ decode cX2_change 109 = .ok (.lxor, 1) ∧ decode cX2_change 110 = .ok (.land, 1) ∧ decode cX2_change 111 = .ok (.putfield 53, 3) ∧ decode cX2_change 114 = .ok (.aload_n 0, 1) := by decide +kernel
theorem dX2_change_97 : decode cX2_change 97 = .ok (.iload_n 1, 1) := dq_84.1
theorem dX2_change_98 : decode cX2_change 98 = .ok (.iload_n 2, 1) := dq_84.2.1
theorem dX2_change_99 : decode cX2_change 99 = .ok (.iastore, 1) := dq_84.2.2.1
theorem dX2_change_100 : decode cX2_change 100 = .ok (.aload_n 0, 1) := dq_84.2.2.2.1
theorem dX2_change_101 : decode cX2_change 101 = .ok (.dup, 1) := dq_84.2.2.2.2.1
theorem dX2_change_102 : decode cX2_change 102 = .ok (.getfield 53, 3) := dq_84.2.2.2.2.2.1
theorem dX2_change_105 : decode cX2_change 105 = .ok (.lload_n 3, 1) := dq_84.2.2.2.2.2.2.1
theorem dX2_change_106 : decode cX2_change 106 = .ok (.ldc2_w 47, 3) := dq_84.2.2.2.2.2.2.2.1
theorem dX2_change_109 : decode cX2_change 109 = .ok (.lxor, 1) := dq_84.2.2.2.2.2.2.2.2.1
theorem dX2_change_110 : decode cX2_change 110 = .ok (.land, 1) := dq_84.2.2.2.2.2.2.2.2.2.1
theorem dX2_change_111 : decode cX2_change 111 = .ok (.putfield 53, 3) := dq_84.2.2.2.2.2.2.2.2.2.2.1
theorem dX2_change_114 : decode cX2_change 114 = .ok (.aload_n 0, 1) := dq_84.2.2.2.2.2.2.2.2.2.2.2
theorem dq_85 : decode cX2_change 115 = .ok (.dup, 1) ∧ decode cX2_change 116 = .ok (.getfield 39, 3) ∧ decode cX2_change 119 = .ok (.iconst 1, 1) ∧ decode cX2_change 120 = .ok (.iadd, 1) ∧ decode cX2_change 121 = .ok (.putfield 39, 3) ∧ decode cX2_change 124 = .ok (.return_, 1) := by decide +kernel
theorem dX2_change_115 : decode cX2_change 115 = .ok (.dup, 1) := dq_85.1
theorem dX2_change_116 : decode cX2_change 116 = .ok (.getfield 39, 3) := dq_85.2.1
theorem dX2_change_119 : decode cX2_change 119 = .ok (.iconst 1, 1) := dq_85.2.2.1
theorem dX2_change_120 : decode cX2_change 120 = .ok (.iadd, 1) := dq_85.2.2.2.1
theorem dX2_change_121 : decode cX2_change 121 = .ok (.putfield 39, 3) := dq_85.2.2.2.2.1
theorem dX2_change_124 : decode cX2_change 124 = .ok (.return_, 1) := dq_85.2.2.2.2.2
theorem dq_86 : decode cX2_noteFilled 0 = .ok (.aload_n 0, 1) ∧ decode cX2_noteFilled 1 = .ok (.lload_n 1, 1) ∧ decode cX2_noteFilled 2 = .ok (.putfield 53, 3) ∧ decode cX2_noteFilled 5 = .ok (.aload_n 0, 1) ∧ decode cX2_noteFilled 6 = .ok (.iconst 1, 1) ∧ decode cX2_noteFilled 7 = .ok (.putfield 56, 3) ∧ decode cX2_noteFilled 10 = .ok (.return_, 1) := by decide +kernel
theorem dX2_noteFilled_0 : decode cX2_noteFilled 0 = .ok (.aload_n 0, 1) := dq_86.1
theorem dX2_noteFilled_1 : decode cX2_noteFilled 1 = .ok (.lload_n 1, 1) := dq_86.2.1
theorem dX2_noteFilled_2 : decode cX2_noteFilled 2 = .ok (.putfield 53, 3) := dq_86.2.2.1
theorem dX2_noteFilled_5 : decode cX2_noteFilled 5 = .ok (.aload_n 0, 1) := dq_86.2.2.2.1
theorem dX2_noteFilled_6 : decode cX2_noteFilled 6 = .ok (.iconst 1, 1) := dq_86.2.2.2.2.1
theorem dX2_noteFilled_7 : decode cX2_noteFilled 7 = .ok (.putfield 56, 3) := dq_86.2.2.2.2.2.1
theorem dX2_noteFilled_10 : decode cX2_noteFilled 10 = .ok (.return_, 1) := dq_86.2.2.2.2.2.2
theorem dq_87 : decode cX2_canUndo 0 = .ok (.aload_n 0, 1) ∧ decode cX2_canUndo 1 = .ok (.getfield 56, 3) ∧ decode cX2_canUndo 4 = .ok (.ireturn, 1) := by decide +kernel
theorem dX2_canUndo_0 : decode cX2_canUndo 0 = .ok (.aload_n 0, 1) := dq_87.1
theorem dX2_canUndo_1 : decode cX2_canUndo 1 = .ok (.getfield 56, 3) := dq_87.2.1
theorem dX2_canUndo_4 : decode cX2_canUndo 4 = .ok (.ireturn, 1) := dq_87.2.2
theorem dq_88 : decode cX2_unfill 0 = .ok (.aload_n 0, 1) ∧ decode cX2_unfill 1 = .ok (.getfield 53, 3) ∧ decode cX2_unfill 4 = .ok (.lstore_n 1, 1) ∧ decode cX2_unfill 5 = .ok (.iconst 0, 1) ∧ decode cX2_unfill 6 = .ok (.istore_n 3, 1) ∧ decode cX2_unfill 7 = .ok (.iload_n 3, 1) ∧ decode cX2_unfill 8 = .ok (.bipush 64, 2) ∧ decode cX2_unfill 10 = .ok (.if_icmp .ge 23, 3) ∧ decode cX2_unfill 13 = .ok (.lload_n 1, 1) ∧ decode cX2_unfill 14 = .ok (.iload_n 3, 1) ∧ decode cX2_unfill 15 = .ok (.invokestatic 60, 3) ∧ decode cX2_unfill 18 = .ok (.ifCond .eq 9, 3) := by decide +kernel
theorem dX2_unfill_0 : decode cX2_unfill 0 = .ok (.aload_n 0, 1) := dq_88.1
theorem dX2_unfill_1 : decode cX2_unfill 1 = .ok (.getfield 53, 3) := dq_88.2.1
theorem dX2_unfill_4 : decode cX2_unfill 4 = .ok (.lstore_n 1, 1) := dq_88.2.2.1
theorem dX2_unfill_5 : decode cX2_unfill 5 = .ok (.iconst 0, 1) := dq_88.2.2.2.1
theorem dX2_unfill_6 : decode cX2_unfill 6 = .ok (.istore_n 3, 1) := dq_88.2.2.2.2.1
theorem dX2_unfill_7 : decode cX2_unfill 7 = .ok (.iload_n 3, 1) := dq_88.2.2.2.2.2.1
theorem dX2_unfill_8 : decode cX2_unfill 8 = .ok (.bipush 64, 2) := dq_88.2.2.2.2.2.2.1
theorem dX2_unfill_10 : decode cX2_unfill 10 = .ok (.if_icmp .ge 23, 3) := dq_88.2.2.2.2.2.2.2.1
theorem dX2_unfill_13 : decode cX2_unfill 13 = .ok (.lload_n 1, 1) := dq_88.2.2.2.2.2.2.2.2.1
theorem dX2_unfill_14 : decode cX2_unfill 14 = .ok (.iload_n 3, 1) := dq_88.2.2.2.2.2.2.2.2.2.1
theorem dX2_unfill_15 : decode cX2_unfill 15 = .ok (.invokestatic 60, 3) := dq_88.2.2.2.2.2.2.2.2.2.2.1
theorem dX2_unfill_18 : decode cX2_unfill 18 = .ok (.ifCond .eq 9, 3) := dq_88.2.2.2.2.2.2.2.2.2.2.2
theorem dq_89 : decode cX2_unfill 21 = .ok (.aload_n 0, 1) ∧ decode cX2_unfill 22 = .ok (.iload_n 3, 1) ∧ decode cX2_unfill 23 = .ok (.iconst (-1), 1) ∧ decode cX2_unfill 24 = .ok (.invokevirtual 64, 3) ∧ decode cX2_unfill 27 = .ok (.iinc 3 1, 3) ∧ decode cX2_unfill 30 = .ok (.goto (-23), 3) ∧ decode cX2_unfill 33 = .ok (.aload_n 0, 1) ∧ decode cX2_unfill 34 = .ok (.iconst 0, 1) ∧ decode cX2_unfill 35 = .ok (.putfield 56, 3) ∧ decode cX2_unfill 38 = .ok (.lload_n 1, 1) ∧ decode cX2_unfill 39 = .ok (.invokestatic 68, 3) ∧ decode cX2_unfill 42 = .ok (.ireturn, 1) := by decide +kernel
theorem dX2_unfill_21 : decode cX2_unfill 21 = .ok (.aload_n 0, 1) := dq_89.1
theorem dX2_unfill_22 : decode cX2_unfill 22 = .ok (.iload_n 3, 1) := dq_89.2.1
theorem dX2_unfill_23 : decode cX2_unfill 23 = .ok (.iconst (-1), 1) := dq_89.2.2.1
theorem dX2_unfill_24 : decode cX2_unfill 24 = .ok (.invokevirtual 64, 3) := dq_89.2.2.2.1
theorem dX2_unfill_27 : decode cX2_unfill 27 = .ok (.iinc 3 1, 3) := dq_89.2.2.2.2.1
theorem dX2_unfill_30 : decode cX2_unfill 30 = .ok (.goto (-23), 3) := dq_89.2.2.2.2.2.1
theorem dX2_unfill_33 : decode cX2_unfill 33 = .ok (.aload_n 0, 1) := dq_89.2.2.2.2.2.2.1
theorem dX2_unfill_34 : decode cX2_unfill 34 = .ok (.iconst 0, 1) := dq_89.2.2.2.2.2.2.2.1
theorem dX2_unfill_35 : decode cX2_unfill 35 = .ok (.putfield 56, 3) := dq_89.2.2.2.2.2.2.2.2.1
theorem dX2_unfill_38 : decode cX2_unfill 38 = .ok (.lload_n 1, 1) := dq_89.2.2.2.2.2.2.2.2.2.1
theorem dX2_unfill_39 : decode cX2_unfill 39 = .ok (.invokestatic 68, 3) := dq_89.2.2.2.2.2.2.2.2.2.2.1
theorem dX2_unfill_42 : decode cX2_unfill 42 = .ok (.ireturn, 1) := dq_89.2.2.2.2.2.2.2.2.2.2.2
theorem dq_90 : decode cX2_imageOf 0 = .ok (.iload_n 1, 1) ∧ decode cX2_imageOf 1 = .ok (.iconst 0, 1) ∧ decode cX2_imageOf 2 = .ok (.bipush 7, 2) ∧ decode cX2_imageOf 4 = .ok (.invokestatic 49, 3) ∧ decode cX2_imageOf 7 = .ok (.ifCond .eq 24, 3) ∧ decode cX2_imageOf 10 = .ok (.iload_n 2, 1) ∧ decode cX2_imageOf 11 = .ok (.invokestatic 35, 3) ∧ decode cX2_imageOf 14 = .ok (.ifCond .eq 17, 3) ∧ decode cX2_imageOf 17 = .ok (.aload_n 0, 1) ∧ decode cX2_imageOf 18 = .ok (.getfield 19, 3) ∧ decode cX2_imageOf 21 = .ok (.iload_n 1, 1) ∧ decode cX2_imageOf 22 = .ok (.bipush 64, 2) := by decide +kernel
theorem dX2_imageOf_0 : decode cX2_imageOf 0 = .ok (.iload_n 1, 1) := dq_90.1
theorem dX2_imageOf_1 : decode cX2_imageOf 1 = .ok (.iconst 0, 1) := dq_90.2.1
theorem dX2_imageOf_2 : decode cX2_imageOf 2 = .ok (.bipush 7, 2) := dq_90.2.2.1
theorem dX2_imageOf_4 : decode cX2_imageOf 4 = .ok (.invokestatic 49, 3) := dq_90.2.2.2.1
theorem dX2_imageOf_7 : decode cX2_imageOf 7 = .ok (.ifCond .eq 24, 3) := dq_90.2.2.2.2.1
theorem dX2_imageOf_10 : decode cX2_imageOf 10 = .ok (.iload_n 2, 1) := dq_90.2.2.2.2.2.1
theorem dX2_imageOf_11 : decode cX2_imageOf 11 = .ok (.invokestatic 35, 3) := dq_90.2.2.2.2.2.2.1
theorem dX2_imageOf_14 : decode cX2_imageOf 14 = .ok (.ifCond .eq 17, 3) := dq_90.2.2.2.2.2.2.2.1
theorem dX2_imageOf_17 : decode cX2_imageOf 17 = .ok (.aload_n 0, 1) := dq_90.2.2.2.2.2.2.2.2.1
theorem dX2_imageOf_18 : decode cX2_imageOf 18 = .ok (.getfield 19, 3) := dq_90.2.2.2.2.2.2.2.2.2.1
theorem dX2_imageOf_21 : decode cX2_imageOf 21 = .ok (.iload_n 1, 1) := dq_90.2.2.2.2.2.2.2.2.2.2.1
theorem dX2_imageOf_22 : decode cX2_imageOf 22 = .ok (.bipush 64, 2) := dq_90.2.2.2.2.2.2.2.2.2.2.2
theorem dq_91 : decode cX2_imageOf 24 = .ok (.imul, 1) ∧ decode cX2_imageOf 25 = .ok (.iload_n 2, 1) ∧ decode cX2_imageOf 26 = .ok (.iadd, 1) ∧ decode cX2_imageOf 27 = .ok (.iaload, 1) ∧ decode cX2_imageOf 28 = .ok (.goto 4, 3) ∧ decode cX2_imageOf 31 = .ok (.iload_n 2, 1) ∧ decode cX2_imageOf 32 = .ok (.ireturn, 1) := by decide +kernel
theorem dX2_imageOf_24 : decode cX2_imageOf 24 = .ok (.imul, 1) := dq_91.1
theorem dX2_imageOf_25 : decode cX2_imageOf 25 = .ok (.iload_n 2, 1) := dq_91.2.1
theorem dX2_imageOf_26 : decode cX2_imageOf 26 = .ok (.iadd, 1) := dq_91.2.2.1
theorem dX2_imageOf_27 : decode cX2_imageOf 27 = .ok (.iaload, 1) := dq_91.2.2.2.1
theorem dX2_imageOf_28 : decode cX2_imageOf 28 = .ok (.goto 4, 3) := dq_91.2.2.2.2.1
theorem dX2_imageOf_31 : decode cX2_imageOf 31 = .ok (.iload_n 2, 1) := dq_91.2.2.2.2.2.1
theorem dX2_imageOf_32 : decode cX2_imageOf 32 = .ok (.ireturn, 1) := dq_91.2.2.2.2.2.2
theorem dq_92 : decode cX2_holds 0 = .ok (.iconst 0, 1) ∧ decode cX2_holds 1 = .ok (.istore_n 2, 1) ∧ decode cX2_holds 2 = .ok (.iload_n 2, 1) ∧ decode cX2_holds 3 = .ok (.bipush 64, 2) ∧ decode cX2_holds 5 = .ok (.if_icmp .ge 46, 3) ∧ decode cX2_holds 8 = .ok (.aload_n 0, 1) ∧ decode cX2_holds 9 = .ok (.iload_n 2, 1) ∧ decode cX2_holds 10 = .ok (.invokevirtual 74, 3) ∧ decode cX2_holds 13 = .ok (.istore_n 3, 1) ∧ decode cX2_holds 14 = .ok (.aload_n 0, 1) ∧ decode cX2_holds 15 = .ok (.aload_n 0, 1) ∧ decode cX2_holds 16 = .ok (.iload_n 1, 1) := by decide +kernel
theorem dX2_holds_0 : decode cX2_holds 0 = .ok (.iconst 0, 1) := dq_92.1
theorem dX2_holds_1 : decode cX2_holds 1 = .ok (.istore_n 2, 1) := dq_92.2.1
theorem dX2_holds_2 : decode cX2_holds 2 = .ok (.iload_n 2, 1) := dq_92.2.2.1
theorem dX2_holds_3 : decode cX2_holds 3 = .ok (.bipush 64, 2) := dq_92.2.2.2.1
theorem dX2_holds_5 : decode cX2_holds 5 = .ok (.if_icmp .ge 46, 3) := dq_92.2.2.2.2.1
theorem dX2_holds_8 : decode cX2_holds 8 = .ok (.aload_n 0, 1) := dq_92.2.2.2.2.2.1
theorem dX2_holds_9 : decode cX2_holds 9 = .ok (.iload_n 2, 1) := dq_92.2.2.2.2.2.2.1
theorem dX2_holds_10 : decode cX2_holds 10 = .ok (.invokevirtual 74, 3) := dq_92.2.2.2.2.2.2.2.1
theorem dX2_holds_13 : decode cX2_holds 13 = .ok (.istore_n 3, 1) := dq_92.2.2.2.2.2.2.2.2.1
theorem dX2_holds_14 : decode cX2_holds 14 = .ok (.aload_n 0, 1) := dq_92.2.2.2.2.2.2.2.2.2.1
theorem dX2_holds_15 : decode cX2_holds 15 = .ok (.aload_n 0, 1) := dq_92.2.2.2.2.2.2.2.2.2.2.1
theorem dX2_holds_16 : decode cX2_holds 16 = .ok (.iload_n 1, 1) := dq_92.2.2.2.2.2.2.2.2.2.2.2
theorem dq_93 : decode cX2_holds 17 = .ok (.iload_n 2, 1) ∧ decode cX2_holds 18 = .ok (.invokevirtual 78, 3) ∧ decode cX2_holds 21 = .ok (.invokevirtual 74, 3) ∧ decode cX2_holds 24 = .ok (.istore 4, 2) ∧ decode cX2_holds 26 = .ok (.iload_n 3, 1) ∧ decode cX2_holds 27 = .ok (.iconst (-1), 1) ∧ decode cX2_holds 28 = .ok (.if_icmp .eq 17, 3) ∧ decode cX2_holds 31 = .ok (.iload 4, 2) ∧ decode cX2_holds 33 = .ok (.iconst (-1), 1) ∧ decode cX2_holds 34 = .ok (.if_icmp .eq 11, 3) ∧ decode cX2_holds 37 = .ok (.iload_n 3, 1) ∧ decode cX2_holds 38 = .ok (.iload 4, 2) := by decide +kernel
theorem dX2_holds_17 : decode cX2_holds 17 = .ok (.iload_n 2, 1) := dq_93.1
theorem dX2_holds_18 : decode cX2_holds 18 = .ok (.invokevirtual 78, 3) := dq_93.2.1
theorem dX2_holds_21 : decode cX2_holds 21 = .ok (.invokevirtual 74, 3) := dq_93.2.2.1
theorem dX2_holds_24 : decode cX2_holds 24 = .ok (.istore 4, 2) := dq_93.2.2.2.1
theorem dX2_holds_26 : decode cX2_holds 26 = .ok (.iload_n 3, 1) := dq_93.2.2.2.2.1
theorem dX2_holds_27 : decode cX2_holds 27 = .ok (.iconst (-1), 1) := dq_93.2.2.2.2.2.1
theorem dX2_holds_28 : decode cX2_holds 28 = .ok (.if_icmp .eq 17, 3) := dq_93.2.2.2.2.2.2.1
theorem dX2_holds_31 : decode cX2_holds 31 = .ok (.iload 4, 2) := dq_93.2.2.2.2.2.2.2.1
theorem dX2_holds_33 : decode cX2_holds 33 = .ok (.iconst (-1), 1) := dq_93.2.2.2.2.2.2.2.2.1
theorem dX2_holds_34 : decode cX2_holds 34 = .ok (.if_icmp .eq 11, 3) := dq_93.2.2.2.2.2.2.2.2.2.1
theorem dX2_holds_37 : decode cX2_holds 37 = .ok (.iload_n 3, 1) := dq_93.2.2.2.2.2.2.2.2.2.2.1
theorem dX2_holds_38 : decode cX2_holds 38 = .ok (.iload 4, 2) := dq_93.2.2.2.2.2.2.2.2.2.2.2
theorem dq_94 : decode cX2_holds 40 = .ok (.if_icmp .eq 5, 3) ∧ decode cX2_holds 43 = .ok (.iconst 0, 1) ∧ decode cX2_holds 44 = .ok (.ireturn, 1) ∧ decode cX2_holds 45 = .ok (.iinc 2 1, 3) ∧ decode cX2_holds 48 = .ok (.goto (-46), 3) ∧ decode cX2_holds 51 = .ok (.iconst 1, 1) ∧ decode cX2_holds 52 = .ok (.ireturn, 1) := by decide +kernel
theorem dX2_holds_40 : decode cX2_holds 40 = .ok (.if_icmp .eq 5, 3) := dq_94.1
theorem dX2_holds_43 : decode cX2_holds 43 = .ok (.iconst 0, 1) := dq_94.2.1
theorem dX2_holds_44 : decode cX2_holds 44 = .ok (.ireturn, 1) := dq_94.2.2.1
theorem dX2_holds_45 : decode cX2_holds 45 = .ok (.iinc 2 1, 3) := dq_94.2.2.2.1
theorem dX2_holds_48 : decode cX2_holds 48 = .ok (.goto (-46), 3) := dq_94.2.2.2.2.1
theorem dX2_holds_51 : decode cX2_holds 51 = .ok (.iconst 1, 1) := dq_94.2.2.2.2.2.1
theorem dX2_holds_52 : decode cX2_holds 52 = .ok (.ireturn, 1) := dq_94.2.2.2.2.2.2
theorem dq_95 : decode cX2_waysThatHold 0 = .ok (.iconst 0, 1) ∧ decode cX2_waysThatHold 1 = .ok (.istore_n 1, 1) ∧ decode cX2_waysThatHold 2 = .ok (.iconst 1, 1) ∧ decode cX2_waysThatHold 3 = .ok (.istore_n 2, 1) ∧ decode cX2_waysThatHold 4 = .ok (.iload_n 2, 1) ∧ decode cX2_waysThatHold 5 = .ok (.bipush 8, 2) ∧ decode cX2_waysThatHold 7 = .ok (.if_icmp .ge 23, 3) ∧ decode cX2_waysThatHold 10 = .ok (.aload_n 0, 1) ∧ decode cX2_waysThatHold 11 = .ok (.iload_n 2, 1) ∧ decode cX2_waysThatHold 12 = .ok (.invokevirtual 82, 3) ∧ decode cX2_waysThatHold 15 = .ok (.ifCond .eq 9, 3) ∧ decode cX2_waysThatHold 18 = .ok (.iload_n 1, 1) := by decide +kernel
theorem dX2_waysThatHold_0 : decode cX2_waysThatHold 0 = .ok (.iconst 0, 1) := dq_95.1
theorem dX2_waysThatHold_1 : decode cX2_waysThatHold 1 = .ok (.istore_n 1, 1) := dq_95.2.1
theorem dX2_waysThatHold_2 : decode cX2_waysThatHold 2 = .ok (.iconst 1, 1) := dq_95.2.2.1
theorem dX2_waysThatHold_3 : decode cX2_waysThatHold 3 = .ok (.istore_n 2, 1) := dq_95.2.2.2.1
theorem dX2_waysThatHold_4 : decode cX2_waysThatHold 4 = .ok (.iload_n 2, 1) := dq_95.2.2.2.2.1
theorem dX2_waysThatHold_5 : decode cX2_waysThatHold 5 = .ok (.bipush 8, 2) := dq_95.2.2.2.2.2.1
theorem dX2_waysThatHold_7 : decode cX2_waysThatHold 7 = .ok (.if_icmp .ge 23, 3) := dq_95.2.2.2.2.2.2.1
theorem dX2_waysThatHold_10 : decode cX2_waysThatHold 10 = .ok (.aload_n 0, 1) := dq_95.2.2.2.2.2.2.2.1
theorem dX2_waysThatHold_11 : decode cX2_waysThatHold 11 = .ok (.iload_n 2, 1) := dq_95.2.2.2.2.2.2.2.2.1
theorem dX2_waysThatHold_12 : decode cX2_waysThatHold 12 = .ok (.invokevirtual 82, 3) := dq_95.2.2.2.2.2.2.2.2.2.1
theorem dX2_waysThatHold_15 : decode cX2_waysThatHold 15 = .ok (.ifCond .eq 9, 3) := dq_95.2.2.2.2.2.2.2.2.2.2.1
theorem dX2_waysThatHold_18 : decode cX2_waysThatHold 18 = .ok (.iload_n 1, 1) := dq_95.2.2.2.2.2.2.2.2.2.2.2
theorem dq_96 : decode cX2_waysThatHold 19 = .ok (.iconst 1, 1) ∧ decode cX2_waysThatHold 20 = .ok (.iload_n 2, 1) ∧ decode cX2_waysThatHold 21 = .ok (.ishl, 1) ∧ decode cX2_waysThatHold 22 = .ok (.ior, 1) ∧ decode cX2_waysThatHold 23 = .ok (.istore_n 1, 1) ∧ decode cX2_waysThatHold 24 = .ok (.iinc 2 1, 3) ∧ decode cX2_waysThatHold 27 = .ok (.goto (-23), 3) ∧ decode cX2_waysThatHold 30 = .ok (.iload_n 1, 1) ∧ decode cX2_waysThatHold 31 = .ok (.ireturn, 1) := by decide +kernel
theorem dX2_waysThatHold_19 : decode cX2_waysThatHold 19 = .ok (.iconst 1, 1) := dq_96.1
theorem dX2_waysThatHold_20 : decode cX2_waysThatHold 20 = .ok (.iload_n 2, 1) := dq_96.2.1
theorem dX2_waysThatHold_21 : decode cX2_waysThatHold 21 = .ok (.ishl, 1) := dq_96.2.2.1
theorem dX2_waysThatHold_22 : decode cX2_waysThatHold 22 = .ok (.ior, 1) := dq_96.2.2.2.1
theorem dX2_waysThatHold_23 : decode cX2_waysThatHold 23 = .ok (.istore_n 1, 1) := dq_96.2.2.2.2.1
theorem dX2_waysThatHold_24 : decode cX2_waysThatHold 24 = .ok (.iinc 2 1, 3) := dq_96.2.2.2.2.2.1
theorem dX2_waysThatHold_27 : decode cX2_waysThatHold 27 = .ok (.goto (-23), 3) := dq_96.2.2.2.2.2.2.1
theorem dX2_waysThatHold_30 : decode cX2_waysThatHold 30 = .ok (.iload_n 1, 1) := dq_96.2.2.2.2.2.2.2.1
theorem dX2_waysThatHold_31 : decode cX2_waysThatHold 31 = .ok (.ireturn, 1) := dq_96.2.2.2.2.2.2.2.2
theorem dq_97 : decode cX2_mixPanels 0 = .ok (.iconst 0, 1) ∧ decode cX2_mixPanels 1 = .ok (.istore_n 3, 1) ∧ decode cX2_mixPanels 2 = .ok (.iload_n 3, 1) ∧ decode cX2_mixPanels 3 = .ok (.bipush 64, 2) ∧ decode cX2_mixPanels 5 = .ok (.if_icmp .ge 21, 3) ∧ decode cX2_mixPanels 8 = .ok (.aload_n 0, 1) ∧ decode cX2_mixPanels 9 = .ok (.getfield 22, 3) ∧ decode cX2_mixPanels 12 = .ok (.iload_n 3, 1) ∧ decode cX2_mixPanels 13 = .ok (.aload_n 0, 1) ∧ decode cX2_mixPanels 14 = .ok (.getfield 9, 3) ∧ decode cX2_mixPanels 17 = .ok (.iload_n 3, 1) ∧ decode cX2_mixPanels 18 = .ok (.iaload, 1) := by decide +kernel
theorem dX2_mixPanels_0 : decode cX2_mixPanels 0 = .ok (.iconst 0, 1) := dq_97.1
theorem dX2_mixPanels_1 : decode cX2_mixPanels 1 = .ok (.istore_n 3, 1) := dq_97.2.1
theorem dX2_mixPanels_2 : decode cX2_mixPanels 2 = .ok (.iload_n 3, 1) := dq_97.2.2.1
theorem dX2_mixPanels_3 : decode cX2_mixPanels 3 = .ok (.bipush 64, 2) := dq_97.2.2.2.1
theorem dX2_mixPanels_5 : decode cX2_mixPanels 5 = .ok (.if_icmp .ge 21, 3) := dq_97.2.2.2.2.1
theorem dX2_mixPanels_8 : decode cX2_mixPanels 8 = .ok (.aload_n 0, 1) := dq_97.2.2.2.2.2.1
theorem dX2_mixPanels_9 : decode cX2_mixPanels 9 = .ok (.getfield 22, 3) := dq_97.2.2.2.2.2.2.1
theorem dX2_mixPanels_12 : decode cX2_mixPanels 12 = .ok (.iload_n 3, 1) := dq_97.2.2.2.2.2.2.2.1
theorem dX2_mixPanels_13 : decode cX2_mixPanels 13 = .ok (.aload_n 0, 1) := dq_97.2.2.2.2.2.2.2.2.1
theorem dX2_mixPanels_14 : decode cX2_mixPanels 14 = .ok (.getfield 9, 3) := dq_97.2.2.2.2.2.2.2.2.2.1
theorem dX2_mixPanels_17 : decode cX2_mixPanels 17 = .ok (.iload_n 3, 1) := dq_97.2.2.2.2.2.2.2.2.2.2.1
theorem dX2_mixPanels_18 : decode cX2_mixPanels 18 = .ok (.iaload, 1) := dq_97.2.2.2.2.2.2.2.2.2.2.2
theorem dq_98 : decode cX2_mixPanels 19 = .ok (.iastore, 1) ∧ decode cX2_mixPanels 20 = .ok (.iinc 3 1, 3) ∧ decode cX2_mixPanels 23 = .ok (.goto (-21), 3) ∧ decode cX2_mixPanels 26 = .ok (.iconst 0, 1) ∧ decode cX2_mixPanels 27 = .ok (.istore_n 3, 1) ∧ decode cX2_mixPanels 28 = .ok (.iload_n 3, 1) ∧ decode cX2_mixPanels 29 = .ok (.iconst 4, 1) ∧ decode cX2_mixPanels 30 = .ok (.if_icmp .ge 79, 3) ∧ decode cX2_mixPanels 33 = .ok (.iload_n 1, 1) ∧ decode cX2_mixPanels 34 = .ok (.iload_n 3, 1) ∧ decode cX2_mixPanels 35 = .ok (.invokestatic 85, 3) ∧ decode cX2_mixPanels 38 = .ok (.istore 4, 2) := by decide +kernel
theorem dX2_mixPanels_19 : decode cX2_mixPanels 19 = .ok (.iastore, 1) := dq_98.1
theorem dX2_mixPanels_20 : decode cX2_mixPanels 20 = .ok (.iinc 3 1, 3) := dq_98.2.1
theorem dX2_mixPanels_23 : decode cX2_mixPanels 23 = .ok (.goto (-21), 3) := dq_98.2.2.1
theorem dX2_mixPanels_26 : decode cX2_mixPanels 26 = .ok (.iconst 0, 1) := dq_98.2.2.2.1
theorem dX2_mixPanels_27 : decode cX2_mixPanels 27 = .ok (.istore_n 3, 1) := dq_98.2.2.2.2.1
theorem dX2_mixPanels_28 : decode cX2_mixPanels 28 = .ok (.iload_n 3, 1) := dq_98.2.2.2.2.2.1
theorem dX2_mixPanels_29 : decode cX2_mixPanels 29 = .ok (.iconst 4, 1) := dq_98.2.2.2.2.2.2.1
theorem dX2_mixPanels_30 : decode cX2_mixPanels 30 = .ok (.if_icmp .ge 79, 3) := dq_98.2.2.2.2.2.2.2.1
theorem dX2_mixPanels_33 : decode cX2_mixPanels 33 = .ok (.iload_n 1, 1) := dq_98.2.2.2.2.2.2.2.2.1
theorem dX2_mixPanels_34 : decode cX2_mixPanels 34 = .ok (.iload_n 3, 1) := dq_98.2.2.2.2.2.2.2.2.2.1
theorem dX2_mixPanels_35 : decode cX2_mixPanels 35 = .ok (.invokestatic 85, 3) := dq_98.2.2.2.2.2.2.2.2.2.2.1
theorem dX2_mixPanels_38 : decode cX2_mixPanels 38 = .ok (.istore 4, 2) := dq_98.2.2.2.2.2.2.2.2.2.2.2
theorem dq_99 : decode cX2_mixPanels 40 = .ok (.iload_n 2, 1) ∧ decode cX2_mixPanels 41 = .ok (.iload_n 3, 1) ∧ decode cX2_mixPanels 42 = .ok (.invokestatic 85, 3) ∧ decode cX2_mixPanels 45 = .ok (.istore 5, 2) ∧ decode cX2_mixPanels 47 = .ok (.iconst 0, 1) ∧ decode cX2_mixPanels 48 = .ok (.istore 6, 2) ∧ decode cX2_mixPanels 50 = .ok (.iload 6, 2) ∧ decode cX2_mixPanels 52 = .ok (.bipush 16, 2) ∧ decode cX2_mixPanels 54 = .ok (.if_icmp .ge 49, 3) ∧ decode cX2_mixPanels 57 = .ok (.iload_n 3, 1) ∧ decode cX2_mixPanels 58 = .ok (.iload 5, 2) ∧ decode cX2_mixPanels 60 = .ok (.iload 6, 2) := by decide +kernel
theorem dX2_mixPanels_40 : decode cX2_mixPanels 40 = .ok (.iload_n 2, 1) := dq_99.1
theorem dX2_mixPanels_41 : decode cX2_mixPanels 41 = .ok (.iload_n 3, 1) := dq_99.2.1
theorem dX2_mixPanels_42 : decode cX2_mixPanels 42 = .ok (.invokestatic 85, 3) := dq_99.2.2.1
theorem dX2_mixPanels_45 : decode cX2_mixPanels 45 = .ok (.istore 5, 2) := dq_99.2.2.2.1
theorem dX2_mixPanels_47 : decode cX2_mixPanels 47 = .ok (.iconst 0, 1) := dq_99.2.2.2.2.1
theorem dX2_mixPanels_48 : decode cX2_mixPanels 48 = .ok (.istore 6, 2) := dq_99.2.2.2.2.2.1
theorem dX2_mixPanels_50 : decode cX2_mixPanels 50 = .ok (.iload 6, 2) := dq_99.2.2.2.2.2.2.1
theorem dX2_mixPanels_52 : decode cX2_mixPanels 52 = .ok (.bipush 16, 2) := dq_99.2.2.2.2.2.2.2.1
theorem dX2_mixPanels_54 : decode cX2_mixPanels 54 = .ok (.if_icmp .ge 49, 3) := dq_99.2.2.2.2.2.2.2.2.1
theorem dX2_mixPanels_57 : decode cX2_mixPanels 57 = .ok (.iload_n 3, 1) := dq_99.2.2.2.2.2.2.2.2.2.1
theorem dX2_mixPanels_58 : decode cX2_mixPanels 58 = .ok (.iload 5, 2) := dq_99.2.2.2.2.2.2.2.2.2.2.1
theorem dX2_mixPanels_60 : decode cX2_mixPanels 60 = .ok (.iload 6, 2) := dq_99.2.2.2.2.2.2.2.2.2.2.2
theorem dq_100 : decode cX2_mixPanels 62 = .ok (.iconst 4, 1) ∧ decode cX2_mixPanels 63 = .ok (.invokestatic 31, 3) ∧ decode cX2_mixPanels 66 = .ok (.invokestatic 88, 3) ∧ decode cX2_mixPanels 69 = .ok (.istore 7, 2) ∧ decode cX2_mixPanels 71 = .ok (.iload 7, 2) ∧ decode cX2_mixPanels 73 = .ok (.invokestatic 35, 3) ∧ decode cX2_mixPanels 76 = .ok (.ifCond .eq 21, 3) ∧ decode cX2_mixPanels 79 = .ok (.aload_n 0, 1) ∧ decode cX2_mixPanels 80 = .ok (.iload 4, 2) ∧ decode cX2_mixPanels 82 = .ok (.iload 6, 2) ∧ decode cX2_mixPanels 84 = .ok (.invokestatic 88, 3) ∧ decode cX2_mixPanels 87 = .ok (.aload_n 0, 1) := by decide +kernel
theorem dX2_mixPanels_62 : decode cX2_mixPanels 62 = .ok (.iconst 4, 1) := dq_100.1
theorem dX2_mixPanels_63 : decode cX2_mixPanels 63 = .ok (.invokestatic 31, 3) := dq_100.2.1
theorem dX2_mixPanels_66 : decode cX2_mixPanels 66 = .ok (.invokestatic 88, 3) := dq_100.2.2.1
theorem dX2_mixPanels_69 : decode cX2_mixPanels 69 = .ok (.istore 7, 2) := dq_100.2.2.2.1
theorem dX2_mixPanels_71 : decode cX2_mixPanels 71 = .ok (.iload 7, 2) := dq_100.2.2.2.2.1
theorem dX2_mixPanels_73 : decode cX2_mixPanels 73 = .ok (.invokestatic 35, 3) := dq_100.2.2.2.2.2.1
theorem dX2_mixPanels_76 : decode cX2_mixPanels 76 = .ok (.ifCond .eq 21, 3) := dq_100.2.2.2.2.2.2.1
theorem dX2_mixPanels_79 : decode cX2_mixPanels 79 = .ok (.aload_n 0, 1) := dq_100.2.2.2.2.2.2.2.1
theorem dX2_mixPanels_80 : decode cX2_mixPanels 80 = .ok (.iload 4, 2) := dq_100.2.2.2.2.2.2.2.2.1
theorem dX2_mixPanels_82 : decode cX2_mixPanels 82 = .ok (.iload 6, 2) := dq_100.2.2.2.2.2.2.2.2.2.1
theorem dX2_mixPanels_84 : decode cX2_mixPanels 84 = .ok (.invokestatic 88, 3) := dq_100.2.2.2.2.2.2.2.2.2.2.1
theorem dX2_mixPanels_87 : decode cX2_mixPanels 87 = .ok (.aload_n 0, 1) := dq_100.2.2.2.2.2.2.2.2.2.2.2
theorem dq_101 : decode cX2_mixPanels 88 = .ok (.getfield 22, 3) ∧ decode cX2_mixPanels 91 = .ok (.iload 7, 2) ∧ decode cX2_mixPanels 93 = .ok (.iaload, 1) ∧ decode cX2_mixPanels 94 = .ok (.invokevirtual 64, 3) ∧ decode cX2_mixPanels 97 = .ok (.iinc 6 1, 3) ∧ decode cX2_mixPanels 100 = .ok (.goto (-50), 3) ∧ decode cX2_mixPanels 103 = .ok (.iinc 3 1, 3) ∧ decode cX2_mixPanels 106 = .ok (.goto (-78), 3) ∧ decode cX2_mixPanels 109 = .ok (.aload_n 0, 1) ∧ decode cX2_mixPanels 110 = .ok (.iconst 0, 1) ∧ decode cX2_mixPanels 111 = .ok (.putfield 56, 3) ∧ decode cX2_mixPanels 114 = .ok (.return_, 1) := by decide +kernel
theorem dX2_mixPanels_88 : decode cX2_mixPanels 88 = .ok (.getfield 22, 3) := dq_101.1
theorem dX2_mixPanels_91 : decode cX2_mixPanels 91 = .ok (.iload 7, 2) := dq_101.2.1
theorem dX2_mixPanels_93 : decode cX2_mixPanels 93 = .ok (.iaload, 1) := dq_101.2.2.1
theorem dX2_mixPanels_94 : decode cX2_mixPanels 94 = .ok (.invokevirtual 64, 3) := dq_101.2.2.2.1
theorem dX2_mixPanels_97 : decode cX2_mixPanels 97 = .ok (.iinc 6 1, 3) := dq_101.2.2.2.2.1
theorem dX2_mixPanels_100 : decode cX2_mixPanels 100 = .ok (.goto (-50), 3) := dq_101.2.2.2.2.2.1
theorem dX2_mixPanels_103 : decode cX2_mixPanels 103 = .ok (.iinc 3 1, 3) := dq_101.2.2.2.2.2.2.1
theorem dX2_mixPanels_106 : decode cX2_mixPanels 106 = .ok (.goto (-78), 3) := dq_101.2.2.2.2.2.2.2.1
theorem dX2_mixPanels_109 : decode cX2_mixPanels 109 = .ok (.aload_n 0, 1) := dq_101.2.2.2.2.2.2.2.2.1
theorem dX2_mixPanels_110 : decode cX2_mixPanels 110 = .ok (.iconst 0, 1) := dq_101.2.2.2.2.2.2.2.2.2.1
theorem dX2_mixPanels_111 : decode cX2_mixPanels 111 = .ok (.putfield 56, 3) := dq_101.2.2.2.2.2.2.2.2.2.2.1
theorem dX2_mixPanels_114 : decode cX2_mixPanels 114 = .ok (.return_, 1) := dq_101.2.2.2.2.2.2.2.2.2.2.2
theorem dq_102 : decode cX2_seam 0 = .ok (.aload_n 0, 1) ∧ decode cX2_seam 1 = .ok (.iload_n 1, 1) ∧ decode cX2_seam 2 = .ok (.invokevirtual 74, 3) ∧ decode cX2_seam 5 = .ok (.istore_n 3, 1) ∧ decode cX2_seam 6 = .ok (.iload_n 3, 1) ∧ decode cX2_seam 7 = .ok (.iconst (-1), 1) ∧ decode cX2_seam 8 = .ok (.if_icmp .eq 16, 3) ∧ decode cX2_seam 11 = .ok (.iload_n 3, 1) ∧ decode cX2_seam 12 = .ok (.aload_n 0, 1) ∧ decode cX2_seam 13 = .ok (.iload_n 2, 1) ∧ decode cX2_seam 14 = .ok (.invokevirtual 74, 3) ∧ decode cX2_seam 17 = .ok (.if_icmp .ne 7, 3) := by decide +kernel
theorem dX2_seam_0 : decode cX2_seam 0 = .ok (.aload_n 0, 1) := dq_102.1
theorem dX2_seam_1 : decode cX2_seam 1 = .ok (.iload_n 1, 1) := dq_102.2.1
theorem dX2_seam_2 : decode cX2_seam 2 = .ok (.invokevirtual 74, 3) := dq_102.2.2.1
theorem dX2_seam_5 : decode cX2_seam 5 = .ok (.istore_n 3, 1) := dq_102.2.2.2.1
theorem dX2_seam_6 : decode cX2_seam 6 = .ok (.iload_n 3, 1) := dq_102.2.2.2.2.1
theorem dX2_seam_7 : decode cX2_seam 7 = .ok (.iconst (-1), 1) := dq_102.2.2.2.2.2.1
theorem dX2_seam_8 : decode cX2_seam 8 = .ok (.if_icmp .eq 16, 3) := dq_102.2.2.2.2.2.2.1
theorem dX2_seam_11 : decode cX2_seam 11 = .ok (.iload_n 3, 1) := dq_102.2.2.2.2.2.2.2.1
theorem dX2_seam_12 : decode cX2_seam 12 = .ok (.aload_n 0, 1) := dq_102.2.2.2.2.2.2.2.2.1
theorem dX2_seam_13 : decode cX2_seam 13 = .ok (.iload_n 2, 1) := dq_102.2.2.2.2.2.2.2.2.2.1
theorem dX2_seam_14 : decode cX2_seam 14 = .ok (.invokevirtual 74, 3) := dq_102.2.2.2.2.2.2.2.2.2.2.1
theorem dX2_seam_17 : decode cX2_seam 17 = .ok (.if_icmp .ne 7, 3) := dq_102.2.2.2.2.2.2.2.2.2.2.2
theorem dq_103 : decode cX2_seam 20 = .ok (.iconst 1, 1) ∧ decode cX2_seam 21 = .ok (.goto 4, 3) ∧ decode cX2_seam 24 = .ok (.iconst 0, 1) ∧ decode cX2_seam 25 = .ok (.ireturn, 1) := by decide +kernel
theorem dX2_seam_20 : decode cX2_seam 20 = .ok (.iconst 1, 1) := dq_103.1
theorem dX2_seam_21 : decode cX2_seam 21 = .ok (.goto 4, 3) := dq_103.2.1
theorem dX2_seam_24 : decode cX2_seam 24 = .ok (.iconst 0, 1) := dq_103.2.2.1
theorem dX2_seam_25 : decode cX2_seam 25 = .ok (.ireturn, 1) := dq_103.2.2.2
theorem dq_104 : decode cX2_seamsNow 0 = .ok (.iconst 0, 1) ∧ decode cX2_seamsNow 1 = .ok (.istore_n 1, 1) ∧ decode cX2_seamsNow 2 = .ok (.iconst 3, 1) ∧ decode cX2_seamsNow 3 = .ok (.istore_n 2, 1) ∧ decode cX2_seamsNow 4 = .ok (.iconst 0, 1) ∧ decode cX2_seamsNow 5 = .ok (.istore_n 3, 1) ∧ decode cX2_seamsNow 6 = .ok (.iload_n 3, 1) ∧ decode cX2_seamsNow 7 = .ok (.bipush 8, 2) ∧ decode cX2_seamsNow 9 = .ok (.if_icmp .ge 51, 3) ∧ decode cX2_seamsNow 12 = .ok (.iload_n 1, 1) ∧ decode cX2_seamsNow 13 = .ok (.aload_n 0, 1) ∧ decode cX2_seamsNow 14 = .ok (.iload_n 3, 1) := by decide +kernel
theorem dX2_seamsNow_0 : decode cX2_seamsNow 0 = .ok (.iconst 0, 1) := dq_104.1
theorem dX2_seamsNow_1 : decode cX2_seamsNow 1 = .ok (.istore_n 1, 1) := dq_104.2.1
theorem dX2_seamsNow_2 : decode cX2_seamsNow 2 = .ok (.iconst 3, 1) := dq_104.2.2.1
theorem dX2_seamsNow_3 : decode cX2_seamsNow 3 = .ok (.istore_n 2, 1) := dq_104.2.2.2.1
theorem dX2_seamsNow_4 : decode cX2_seamsNow 4 = .ok (.iconst 0, 1) := dq_104.2.2.2.2.1
theorem dX2_seamsNow_5 : decode cX2_seamsNow 5 = .ok (.istore_n 3, 1) := dq_104.2.2.2.2.2.1
theorem dX2_seamsNow_6 : decode cX2_seamsNow 6 = .ok (.iload_n 3, 1) := dq_104.2.2.2.2.2.2.1
theorem dX2_seamsNow_7 : decode cX2_seamsNow 7 = .ok (.bipush 8, 2) := dq_104.2.2.2.2.2.2.2.1
theorem dX2_seamsNow_9 : decode cX2_seamsNow 9 = .ok (.if_icmp .ge 51, 3) := dq_104.2.2.2.2.2.2.2.2.1
theorem dX2_seamsNow_12 : decode cX2_seamsNow 12 = .ok (.iload_n 1, 1) := dq_104.2.2.2.2.2.2.2.2.2.1
theorem dX2_seamsNow_13 : decode cX2_seamsNow 13 = .ok (.aload_n 0, 1) := dq_104.2.2.2.2.2.2.2.2.2.2.1
theorem dX2_seamsNow_14 : decode cX2_seamsNow 14 = .ok (.iload_n 3, 1) := dq_104.2.2.2.2.2.2.2.2.2.2.2
theorem dq_105 : decode cX2_seamsNow 15 = .ok (.bipush 8, 2) ∧ decode cX2_seamsNow 17 = .ok (.imul, 1) ∧ decode cX2_seamsNow 18 = .ok (.iload_n 2, 1) ∧ decode cX2_seamsNow 19 = .ok (.iadd, 1) ∧ decode cX2_seamsNow 20 = .ok (.iload_n 3, 1) ∧ decode cX2_seamsNow 21 = .ok (.bipush 8, 2) ∧ decode cX2_seamsNow 23 = .ok (.imul, 1) ∧ decode cX2_seamsNow 24 = .ok (.iload_n 2, 1) ∧ decode cX2_seamsNow 25 = .ok (.iadd, 1) ∧ decode cX2_seamsNow 26 = .ok (.iconst 1, 1) ∧ decode cX2_seamsNow 27 = .ok (.iadd, 1) ∧ decode cX2_seamsNow 28 = .ok (.invokevirtual 91, 3) := by decide +kernel
theorem dX2_seamsNow_15 : decode cX2_seamsNow 15 = .ok (.bipush 8, 2) := dq_105.1
theorem dX2_seamsNow_17 : decode cX2_seamsNow 17 = .ok (.imul, 1) := dq_105.2.1
theorem dX2_seamsNow_18 : decode cX2_seamsNow 18 = .ok (.iload_n 2, 1) := dq_105.2.2.1
theorem dX2_seamsNow_19 : decode cX2_seamsNow 19 = .ok (.iadd, 1) := dq_105.2.2.2.1
theorem dX2_seamsNow_20 : decode cX2_seamsNow 20 = .ok (.iload_n 3, 1) := dq_105.2.2.2.2.1
theorem dX2_seamsNow_21 : decode cX2_seamsNow 21 = .ok (.bipush 8, 2) := dq_105.2.2.2.2.2.1
theorem dX2_seamsNow_23 : decode cX2_seamsNow 23 = .ok (.imul, 1) := dq_105.2.2.2.2.2.2.1
theorem dX2_seamsNow_24 : decode cX2_seamsNow 24 = .ok (.iload_n 2, 1) := dq_105.2.2.2.2.2.2.2.1
theorem dX2_seamsNow_25 : decode cX2_seamsNow 25 = .ok (.iadd, 1) := dq_105.2.2.2.2.2.2.2.2.1
theorem dX2_seamsNow_26 : decode cX2_seamsNow 26 = .ok (.iconst 1, 1) := dq_105.2.2.2.2.2.2.2.2.2.1
theorem dX2_seamsNow_27 : decode cX2_seamsNow 27 = .ok (.iadd, 1) := dq_105.2.2.2.2.2.2.2.2.2.2.1
theorem dX2_seamsNow_28 : decode cX2_seamsNow 28 = .ok (.invokevirtual 91, 3) := dq_105.2.2.2.2.2.2.2.2.2.2.2
theorem dq_106 : decode cX2_seamsNow 31 = .ok (.iadd, 1) ∧ decode cX2_seamsNow 32 = .ok (.istore_n 1, 1) ∧ decode cX2_seamsNow 33 = .ok (.iload_n 1, 1) ∧ decode cX2_seamsNow 34 = .ok (.aload_n 0, 1) ∧ decode cX2_seamsNow 35 = .ok (.iload_n 2, 1) ∧ decode cX2_seamsNow 36 = .ok (.bipush 8, 2) ∧ decode cX2_seamsNow 38 = .ok (.imul, 1) ∧ decode cX2_seamsNow 39 = .ok (.iload_n 3, 1) ∧ decode cX2_seamsNow 40 = .ok (.iadd, 1) ∧ decode cX2_seamsNow 41 = .ok (.iload_n 2, 1) ∧ decode cX2_seamsNow 42 = .ok (.iconst 1, 1) ∧ decode cX2_seamsNow 43 = .ok (.iadd, 1) := by decide +kernel
theorem dX2_seamsNow_31 : decode cX2_seamsNow 31 = .ok (.iadd, 1) := dq_106.1
theorem dX2_seamsNow_32 : decode cX2_seamsNow 32 = .ok (.istore_n 1, 1) := dq_106.2.1
theorem dX2_seamsNow_33 : decode cX2_seamsNow 33 = .ok (.iload_n 1, 1) := dq_106.2.2.1
theorem dX2_seamsNow_34 : decode cX2_seamsNow 34 = .ok (.aload_n 0, 1) := dq_106.2.2.2.1
theorem dX2_seamsNow_35 : decode cX2_seamsNow 35 = .ok (.iload_n 2, 1) := dq_106.2.2.2.2.1
theorem dX2_seamsNow_36 : decode cX2_seamsNow 36 = .ok (.bipush 8, 2) := dq_106.2.2.2.2.2.1
theorem dX2_seamsNow_38 : decode cX2_seamsNow 38 = .ok (.imul, 1) := dq_106.2.2.2.2.2.2.1
theorem dX2_seamsNow_39 : decode cX2_seamsNow 39 = .ok (.iload_n 3, 1) := dq_106.2.2.2.2.2.2.2.1
theorem dX2_seamsNow_40 : decode cX2_seamsNow 40 = .ok (.iadd, 1) := dq_106.2.2.2.2.2.2.2.2.1
theorem dX2_seamsNow_41 : decode cX2_seamsNow 41 = .ok (.iload_n 2, 1) := dq_106.2.2.2.2.2.2.2.2.2.1
theorem dX2_seamsNow_42 : decode cX2_seamsNow 42 = .ok (.iconst 1, 1) := dq_106.2.2.2.2.2.2.2.2.2.2.1
theorem dX2_seamsNow_43 : decode cX2_seamsNow 43 = .ok (.iadd, 1) := dq_106.2.2.2.2.2.2.2.2.2.2.2
theorem dq_107 : decode cX2_seamsNow 44 = .ok (.bipush 8, 2) ∧ decode cX2_seamsNow 46 = .ok (.imul, 1) ∧ decode cX2_seamsNow 47 = .ok (.iload_n 3, 1) ∧ decode cX2_seamsNow 48 = .ok (.iadd, 1) ∧ decode cX2_seamsNow 49 = .ok (.invokevirtual 91, 3) ∧ decode cX2_seamsNow 52 = .ok (.iadd, 1) ∧ decode cX2_seamsNow 53 = .ok (.istore_n 1, 1) ∧ decode cX2_seamsNow 54 = .ok (.iinc 3 1, 3) ∧ decode cX2_seamsNow 57 = .ok (.goto (-51), 3) ∧ decode cX2_seamsNow 60 = .ok (.iload_n 1, 1) ∧ decode cX2_seamsNow 61 = .ok (.ireturn, 1) := by decide +kernel
theorem dX2_seamsNow_44 : decode cX2_seamsNow 44 = .ok (.bipush 8, 2) := dq_107.1
theorem dX2_seamsNow_46 : decode cX2_seamsNow 46 = .ok (.imul, 1) := dq_107.2.1
theorem dX2_seamsNow_47 : decode cX2_seamsNow 47 = .ok (.iload_n 3, 1) := dq_107.2.2.1
theorem dX2_seamsNow_48 : decode cX2_seamsNow 48 = .ok (.iadd, 1) := dq_107.2.2.2.1
theorem dX2_seamsNow_49 : decode cX2_seamsNow 49 = .ok (.invokevirtual 91, 3) := dq_107.2.2.2.2.1
theorem dX2_seamsNow_52 : decode cX2_seamsNow 52 = .ok (.iadd, 1) := dq_107.2.2.2.2.2.1
theorem dX2_seamsNow_53 : decode cX2_seamsNow 53 = .ok (.istore_n 1, 1) := dq_107.2.2.2.2.2.2.1
theorem dX2_seamsNow_54 : decode cX2_seamsNow 54 = .ok (.iinc 3 1, 3) := dq_107.2.2.2.2.2.2.2.1
theorem dX2_seamsNow_57 : decode cX2_seamsNow 57 = .ok (.goto (-51), 3) := dq_107.2.2.2.2.2.2.2.2.1
theorem dX2_seamsNow_60 : decode cX2_seamsNow 60 = .ok (.iload_n 1, 1) := dq_107.2.2.2.2.2.2.2.2.2.1
theorem dX2_seamsNow_61 : decode cX2_seamsNow 61 = .ok (.ireturn, 1) := dq_107.2.2.2.2.2.2.2.2.2.2
theorem dq_108 : decode cX3_init 0 = .ok (.aload_n 0, 1) ∧ decode cX3_init 1 = .ok (.invokespecial 3, 3) ∧ decode cX3_init 4 = .ok (.aload_n 0, 1) ∧ decode cX3_init 5 = .ok (.bipush 6, 2) ∧ decode cX3_init 7 = .ok (.newarray .long, 2) ∧ decode cX3_init 9 = .ok (.putfield 9, 3) ∧ decode cX3_init 12 = .ok (.return_, 1) := by decide +kernel
theorem dX3_init_0 : decode cX3_init 0 = .ok (.aload_n 0, 1) := dq_108.1
theorem dX3_init_1 : decode cX3_init 1 = .ok (.invokespecial 3, 3) := dq_108.2.1
theorem dX3_init_4 : decode cX3_init 4 = .ok (.aload_n 0, 1) := dq_108.2.2.1
theorem dX3_init_5 : decode cX3_init 5 = .ok (.bipush 6, 2) := dq_108.2.2.2.1
theorem dX3_init_7 : decode cX3_init 7 = .ok (.newarray .long, 2) := dq_108.2.2.2.2.1
theorem dX3_init_9 : decode cX3_init 9 = .ok (.putfield 9, 3) := dq_108.2.2.2.2.2.1
theorem dX3_init_12 : decode cX3_init 12 = .ok (.return_, 1) := dq_108.2.2.2.2.2.2
theorem dq_109 : decode cX3_gather 0 = .ok (.aload_n 0, 1) ∧ decode cX3_gather 1 = .ok (.getfield 9, 3) ∧ decode cX3_gather 4 = .ok (.lconst 0, 1) ∧ decode cX3_gather 5 = .ok (.invokestatic 15, 3) ∧ decode cX3_gather 8 = .ok (.iload_n 3, 1) ∧ decode cX3_gather 9 = .ok (.iconst 1, 1) ∧ decode cX3_gather 10 = .ok (.if_icmp .eq 8, 3) ∧ decode cX3_gather 13 = .ok (.aload_n 0, 1) ∧ decode cX3_gather 14 = .ok (.aload_n 1, 1) ∧ decode cX3_gather 15 = .ok (.invokevirtual 21, 3) ∧ decode cX3_gather 18 = .ok (.iload_n 3, 1) ∧ decode cX3_gather 19 = .ok (.ifCond .eq 9, 3) := by decide +kernel
theorem dX3_gather_0 : decode cX3_gather 0 = .ok (.aload_n 0, 1) := dq_109.1
theorem dX3_gather_1 : decode cX3_gather 1 = .ok (.getfield 9, 3) := dq_109.2.1
theorem dX3_gather_4 : decode cX3_gather 4 = .ok (.lconst 0, 1) := dq_109.2.2.1
theorem dX3_gather_5 : decode cX3_gather 5 = .ok (.invokestatic 15, 3) := dq_109.2.2.2.1
theorem dX3_gather_8 : decode cX3_gather 8 = .ok (.iload_n 3, 1) := dq_109.2.2.2.2.1
theorem dX3_gather_9 : decode cX3_gather 9 = .ok (.iconst 1, 1) := dq_109.2.2.2.2.2.1
theorem dX3_gather_10 : decode cX3_gather 10 = .ok (.if_icmp .eq 8, 3) := dq_109.2.2.2.2.2.2.1
theorem dX3_gather_13 : decode cX3_gather 13 = .ok (.aload_n 0, 1) := dq_109.2.2.2.2.2.2.2.1
theorem dX3_gather_14 : decode cX3_gather 14 = .ok (.aload_n 1, 1) := dq_109.2.2.2.2.2.2.2.2.1
theorem dX3_gather_15 : decode cX3_gather 15 = .ok (.invokevirtual 21, 3) := dq_109.2.2.2.2.2.2.2.2.2.1
theorem dX3_gather_18 : decode cX3_gather 18 = .ok (.iload_n 3, 1) := dq_109.2.2.2.2.2.2.2.2.2.2.1
theorem dX3_gather_19 : decode cX3_gather 19 = .ok (.ifCond .eq 9, 3) := dq_109.2.2.2.2.2.2.2.2.2.2.2
theorem dq_110 : decode cX3_gather 22 = .ok (.aload_n 0, 1) ∧ decode cX3_gather 23 = .ok (.aload_n 1, 1) ∧ decode cX3_gather 24 = .ok (.aload_n 2, 1) ∧ decode cX3_gather 25 = .ok (.invokevirtual 25, 3) ∧ decode cX3_gather 28 = .ok (.return_, 1) := by decide +kernel
theorem dX3_gather_22 : decode cX3_gather 22 = .ok (.aload_n 0, 1) := dq_110.1
theorem dX3_gather_23 : decode cX3_gather 23 = .ok (.aload_n 1, 1) := dq_110.2.1
theorem dX3_gather_24 : decode cX3_gather 24 = .ok (.aload_n 2, 1) := dq_110.2.2.1
theorem dX3_gather_25 : decode cX3_gather 25 = .ok (.invokevirtual 25, 3) := dq_110.2.2.2.1
theorem dX3_gather_28 : decode cX3_gather 28 = .ok (.return_, 1) := dq_110.2.2.2.2
theorem dq_111 : decode cX3_say 0 = .ok (.iload_n 1, 1) ∧ decode cX3_say 1 = .ok (.iconst 0, 1) ∧ decode cX3_say 2 = .ok (.iconst 5, 1) ∧ decode cX3_say 3 = .ok (.invokestatic 29, 3) ∧ decode cX3_say 6 = .ok (.ifCond .eq 13, 3) ∧ decode cX3_say 9 = .ok (.aload_n 0, 1) ∧ decode cX3_say 10 = .ok (.getfield 9, 3) ∧ decode cX3_say 13 = .ok (.iload_n 1, 1) ∧ decode cX3_say 14 = .ok (.dup2, 1) ∧ decode cX3_say 15 = .ok (.laload, 1) ∧ decode cX3_say 16 = .ok (.lload_n 2, 1) ∧ decode cX3_say 17 = .ok (.lor, 1) := by decide +kernel
theorem dX3_say_0 : decode cX3_say 0 = .ok (.iload_n 1, 1) := dq_111.1
theorem dX3_say_1 : decode cX3_say 1 = .ok (.iconst 0, 1) := dq_111.2.1
theorem dX3_say_2 : decode cX3_say 2 = .ok (.iconst 5, 1) := dq_111.2.2.1
theorem dX3_say_3 : decode cX3_say 3 = .ok (.invokestatic 29, 3) := dq_111.2.2.2.1
theorem dX3_say_6 : decode cX3_say 6 = .ok (.ifCond .eq 13, 3) := dq_111.2.2.2.2.1
theorem dX3_say_9 : decode cX3_say 9 = .ok (.aload_n 0, 1) := dq_111.2.2.2.2.2.1
theorem dX3_say_10 : decode cX3_say 10 = .ok (.getfield 9, 3) := dq_111.2.2.2.2.2.2.1
theorem dX3_say_13 : decode cX3_say 13 = .ok (.iload_n 1, 1) := dq_111.2.2.2.2.2.2.2.1
theorem dX3_say_14 : decode cX3_say 14 = .ok (.dup2, 1) := dq_111.2.2.2.2.2.2.2.2.1
theorem dX3_say_15 : decode cX3_say 15 = .ok (.laload, 1) := dq_111.2.2.2.2.2.2.2.2.2.1
theorem dX3_say_16 : decode cX3_say 16 = .ok (.lload_n 2, 1) := dq_111.2.2.2.2.2.2.2.2.2.2.1
theorem dX3_say_17 : decode cX3_say 17 = .ok (.lor, 1) := dq_111.2.2.2.2.2.2.2.2.2.2.2
theorem dq_112 : decode cX3_say 18 = .ok (.lastore, 1) ∧ decode cX3_say 19 = .ok (.return_, 1) := by decide +kernel
theorem dX3_say_18 : decode cX3_say 18 = .ok (.lastore, 1) := dq_112.1
theorem dX3_say_19 : decode cX3_say 19 = .ok (.return_, 1) := dq_112.2
theorem dq_113 : decode cX3_gatherSymmetry 0 = .ok (.aload_n 1, 1) ∧ decode cX3_gatherSymmetry 1 = .ok (.invokevirtual 33, 3) ∧ decode cX3_gatherSymmetry 4 = .ok (.istore_n 2, 1) ∧ decode cX3_gatherSymmetry 5 = .ok (.iconst 1, 1) ∧ decode cX3_gatherSymmetry 6 = .ok (.istore_n 3, 1) ∧ decode cX3_gatherSymmetry 7 = .ok (.iload_n 3, 1) ∧ decode cX3_gatherSymmetry 8 = .ok (.bipush 8, 2) ∧ decode cX3_gatherSymmetry 10 = .ok (.if_icmp .ge 70, 3) ∧ decode cX3_gatherSymmetry 13 = .ok (.iconst 0, 1) ∧ decode cX3_gatherSymmetry 14 = .ok (.istore 4, 2) ∧ decode cX3_gatherSymmetry 16 = .ok (.iload 4, 2) ∧ decode cX3_gatherSymmetry 18 = .ok (.bipush 64, 2) := by decide +kernel
theorem dX3_gatherSymmetry_0 : decode cX3_gatherSymmetry 0 = .ok (.aload_n 1, 1) := dq_113.1
theorem dX3_gatherSymmetry_1 : decode cX3_gatherSymmetry 1 = .ok (.invokevirtual 33, 3) := dq_113.2.1
theorem dX3_gatherSymmetry_4 : decode cX3_gatherSymmetry 4 = .ok (.istore_n 2, 1) := dq_113.2.2.1
theorem dX3_gatherSymmetry_5 : decode cX3_gatherSymmetry 5 = .ok (.iconst 1, 1) := dq_113.2.2.2.1
theorem dX3_gatherSymmetry_6 : decode cX3_gatherSymmetry 6 = .ok (.istore_n 3, 1) := dq_113.2.2.2.2.1
theorem dX3_gatherSymmetry_7 : decode cX3_gatherSymmetry 7 = .ok (.iload_n 3, 1) := dq_113.2.2.2.2.2.1
theorem dX3_gatherSymmetry_8 : decode cX3_gatherSymmetry 8 = .ok (.bipush 8, 2) := dq_113.2.2.2.2.2.2.1
theorem dX3_gatherSymmetry_10 : decode cX3_gatherSymmetry 10 = .ok (.if_icmp .ge 70, 3) := dq_113.2.2.2.2.2.2.2.1
theorem dX3_gatherSymmetry_13 : decode cX3_gatherSymmetry 13 = .ok (.iconst 0, 1) := dq_113.2.2.2.2.2.2.2.2.1
theorem dX3_gatherSymmetry_14 : decode cX3_gatherSymmetry 14 = .ok (.istore 4, 2) := dq_113.2.2.2.2.2.2.2.2.2.1
theorem dX3_gatherSymmetry_16 : decode cX3_gatherSymmetry 16 = .ok (.iload 4, 2) := dq_113.2.2.2.2.2.2.2.2.2.2.1
theorem dX3_gatherSymmetry_18 : decode cX3_gatherSymmetry 18 = .ok (.bipush 64, 2) := dq_113.2.2.2.2.2.2.2.2.2.2.2
theorem dq_114 : decode cX3_gatherSymmetry 20 = .ok (.if_icmp .ge 54, 3) ∧ decode cX3_gatherSymmetry 23 = .ok (.iload_n 2, 1) ∧ decode cX3_gatherSymmetry 24 = .ok (.iload_n 3, 1) ∧ decode cX3_gatherSymmetry 25 = .ok (.invokestatic 39, 3) ∧ decode cX3_gatherSymmetry 28 = .ok (.ifCond .eq 46, 3) ∧ decode cX3_gatherSymmetry 31 = .ok (.aload_n 1, 1) ∧ decode cX3_gatherSymmetry 32 = .ok (.iload_n 3, 1) ∧ decode cX3_gatherSymmetry 33 = .ok (.iload 4, 2) ∧ decode cX3_gatherSymmetry 35 = .ok (.invokevirtual 43, 3) ∧ decode cX3_gatherSymmetry 38 = .ok (.istore 5, 2) ∧ decode cX3_gatherSymmetry 40 = .ok (.aload_n 0, 1) ∧ decode cX3_gatherSymmetry 41 = .ok (.aload_n 1, 1) := by decide +kernel
theorem dX3_gatherSymmetry_20 : decode cX3_gatherSymmetry 20 = .ok (.if_icmp .ge 54, 3) := dq_114.1
theorem dX3_gatherSymmetry_23 : decode cX3_gatherSymmetry 23 = .ok (.iload_n 2, 1) := dq_114.2.1
theorem dX3_gatherSymmetry_24 : decode cX3_gatherSymmetry 24 = .ok (.iload_n 3, 1) := dq_114.2.2.1
theorem dX3_gatherSymmetry_25 : decode cX3_gatherSymmetry 25 = .ok (.invokestatic 39, 3) := dq_114.2.2.2.1
theorem dX3_gatherSymmetry_28 : decode cX3_gatherSymmetry 28 = .ok (.ifCond .eq 46, 3) := dq_114.2.2.2.2.1
theorem dX3_gatherSymmetry_31 : decode cX3_gatherSymmetry 31 = .ok (.aload_n 1, 1) := dq_114.2.2.2.2.2.1
theorem dX3_gatherSymmetry_32 : decode cX3_gatherSymmetry 32 = .ok (.iload_n 3, 1) := dq_114.2.2.2.2.2.2.1
theorem dX3_gatherSymmetry_33 : decode cX3_gatherSymmetry 33 = .ok (.iload 4, 2) := dq_114.2.2.2.2.2.2.2.1
theorem dX3_gatherSymmetry_35 : decode cX3_gatherSymmetry 35 = .ok (.invokevirtual 43, 3) := dq_114.2.2.2.2.2.2.2.2.1
theorem dX3_gatherSymmetry_38 : decode cX3_gatherSymmetry 38 = .ok (.istore 5, 2) := dq_114.2.2.2.2.2.2.2.2.2.1
theorem dX3_gatherSymmetry_40 : decode cX3_gatherSymmetry 40 = .ok (.aload_n 0, 1) := dq_114.2.2.2.2.2.2.2.2.2.2.1
theorem dX3_gatherSymmetry_41 : decode cX3_gatherSymmetry 41 = .ok (.aload_n 1, 1) := dq_114.2.2.2.2.2.2.2.2.2.2.2
theorem dq_115 : decode cX3_gatherSymmetry 42 = .ok (.iload 4, 2) ∧ decode cX3_gatherSymmetry 44 = .ok (.invokevirtual 47, 3) ∧ decode cX3_gatherSymmetry 47 = .ok (.lconst 1, 1) ∧ decode cX3_gatherSymmetry 48 = .ok (.iload 5, 2) ∧ decode cX3_gatherSymmetry 50 = .ok (.lshl, 1) ∧ decode cX3_gatherSymmetry 51 = .ok (.invokevirtual 51, 3) ∧ decode cX3_gatherSymmetry 54 = .ok (.aload_n 0, 1) ∧ decode cX3_gatherSymmetry 55 = .ok (.aload_n 1, 1) ∧ decode cX3_gatherSymmetry 56 = .ok (.iload 5, 2) ∧ decode cX3_gatherSymmetry 58 = .ok (.invokevirtual 47, 3) ∧ decode cX3_gatherSymmetry 61 = .ok (.lconst 1, 1) ∧ decode cX3_gatherSymmetry 62 = .ok (.iload 4, 2) := by decide +kernel
theorem dX3_gatherSymmetry_42 : decode cX3_gatherSymmetry 42 = .ok (.iload 4, 2) := dq_115.1
theorem dX3_gatherSymmetry_44 : decode cX3_gatherSymmetry 44 = .ok (.invokevirtual 47, 3) := dq_115.2.1
theorem dX3_gatherSymmetry_47 : decode cX3_gatherSymmetry 47 = .ok (.lconst 1, 1) := dq_115.2.2.1
theorem dX3_gatherSymmetry_48 : decode cX3_gatherSymmetry 48 = .ok (.iload 5, 2) := dq_115.2.2.2.1
theorem dX3_gatherSymmetry_50 : decode cX3_gatherSymmetry 50 = .ok (.lshl, 1) := dq_115.2.2.2.2.1
theorem dX3_gatherSymmetry_51 : decode cX3_gatherSymmetry 51 = .ok (.invokevirtual 51, 3) := dq_115.2.2.2.2.2.1
theorem dX3_gatherSymmetry_54 : decode cX3_gatherSymmetry 54 = .ok (.aload_n 0, 1) := dq_115.2.2.2.2.2.2.1
theorem dX3_gatherSymmetry_55 : decode cX3_gatherSymmetry 55 = .ok (.aload_n 1, 1) := dq_115.2.2.2.2.2.2.2.1
theorem dX3_gatherSymmetry_56 : decode cX3_gatherSymmetry 56 = .ok (.iload 5, 2) := dq_115.2.2.2.2.2.2.2.2.1
theorem dX3_gatherSymmetry_58 : decode cX3_gatherSymmetry 58 = .ok (.invokevirtual 47, 3) := dq_115.2.2.2.2.2.2.2.2.2.1
theorem dX3_gatherSymmetry_61 : decode cX3_gatherSymmetry 61 = .ok (.lconst 1, 1) := dq_115.2.2.2.2.2.2.2.2.2.2.1
theorem dX3_gatherSymmetry_62 : decode cX3_gatherSymmetry 62 = .ok (.iload 4, 2) := dq_115.2.2.2.2.2.2.2.2.2.2.2
theorem dq_116 : decode cX3_gatherSymmetry 64 = .ok (.lshl, 1) ∧ decode cX3_gatherSymmetry 65 = .ok (.invokevirtual 51, 3) ∧ decode cX3_gatherSymmetry 68 = .ok (.iinc 4 1, 3) ∧ decode cX3_gatherSymmetry 71 = .ok (.goto (-55), 3) ∧ decode cX3_gatherSymmetry 74 = .ok (.iinc 3 1, 3) ∧ decode cX3_gatherSymmetry 77 = .ok (.goto (-70), 3) ∧ decode cX3_gatherSymmetry 80 = .ok (.return_, 1) := by decide +kernel
theorem dX3_gatherSymmetry_64 : decode cX3_gatherSymmetry 64 = .ok (.lshl, 1) := dq_116.1
theorem dX3_gatherSymmetry_65 : decode cX3_gatherSymmetry 65 = .ok (.invokevirtual 51, 3) := dq_116.2.1
theorem dX3_gatherSymmetry_68 : decode cX3_gatherSymmetry 68 = .ok (.iinc 4 1, 3) := dq_116.2.2.1
theorem dX3_gatherSymmetry_71 : decode cX3_gatherSymmetry 71 = .ok (.goto (-55), 3) := dq_116.2.2.2.1
theorem dX3_gatherSymmetry_74 : decode cX3_gatherSymmetry 74 = .ok (.iinc 3 1, 3) := dq_116.2.2.2.2.1
theorem dX3_gatherSymmetry_77 : decode cX3_gatherSymmetry 77 = .ok (.goto (-70), 3) := dq_116.2.2.2.2.2.1
theorem dX3_gatherSymmetry_80 : decode cX3_gatherSymmetry 80 = .ok (.return_, 1) := dq_116.2.2.2.2.2.2
theorem dq_117 : decode cX3_gatherBook 0 = .ok (.iconst 0, 1) ∧ decode cX3_gatherBook 1 = .ok (.istore_n 3, 1) ∧ decode cX3_gatherBook 2 = .ok (.iload_n 3, 1) ∧ decode cX3_gatherBook 3 = .ok (.aload_n 2, 1) ∧ decode cX3_gatherBook 4 = .ok (.invokevirtual 55, 3) ∧ decode cX3_gatherBook 7 = .ok (.if_icmp .ge 48, 3) ∧ decode cX3_gatherBook 10 = .ok (.aload_n 2, 1) ∧ decode cX3_gatherBook 11 = .ok (.iload_n 3, 1) ∧ decode cX3_gatherBook 12 = .ok (.aload_n 1, 1) ∧ decode cX3_gatherBook 13 = .ok (.invokevirtual 60, 3) ∧ decode cX3_gatherBook 16 = .ok (.iconst 4, 1) ∧ decode cX3_gatherBook 17 = .ok (.if_icmp .lt 32, 3) := by decide +kernel
theorem dX3_gatherBook_0 : decode cX3_gatherBook 0 = .ok (.iconst 0, 1) := dq_117.1
theorem dX3_gatherBook_1 : decode cX3_gatherBook 1 = .ok (.istore_n 3, 1) := dq_117.2.1
theorem dX3_gatherBook_2 : decode cX3_gatherBook 2 = .ok (.iload_n 3, 1) := dq_117.2.2.1
theorem dX3_gatherBook_3 : decode cX3_gatherBook 3 = .ok (.aload_n 2, 1) := dq_117.2.2.2.1
theorem dX3_gatherBook_4 : decode cX3_gatherBook 4 = .ok (.invokevirtual 55, 3) := dq_117.2.2.2.2.1
theorem dX3_gatherBook_7 : decode cX3_gatherBook 7 = .ok (.if_icmp .ge 48, 3) := dq_117.2.2.2.2.2.1
theorem dX3_gatherBook_10 : decode cX3_gatherBook 10 = .ok (.aload_n 2, 1) := dq_117.2.2.2.2.2.2.1
theorem dX3_gatherBook_11 : decode cX3_gatherBook 11 = .ok (.iload_n 3, 1) := dq_117.2.2.2.2.2.2.2.1
theorem dX3_gatherBook_12 : decode cX3_gatherBook 12 = .ok (.aload_n 1, 1) := dq_117.2.2.2.2.2.2.2.2.1
theorem dX3_gatherBook_13 : decode cX3_gatherBook 13 = .ok (.invokevirtual 60, 3) := dq_117.2.2.2.2.2.2.2.2.2.1
theorem dX3_gatherBook_16 : decode cX3_gatherBook 16 = .ok (.iconst 4, 1) := dq_117.2.2.2.2.2.2.2.2.2.2.1
theorem dX3_gatherBook_17 : decode cX3_gatherBook 17 = .ok (.if_icmp .lt 32, 3) := dq_117.2.2.2.2.2.2.2.2.2.2.2
theorem dq_118 : decode cX3_gatherBook 20 = .ok (.iconst 0, 1) ∧ decode cX3_gatherBook 21 = .ok (.istore 4, 2) ∧ decode cX3_gatherBook 23 = .ok (.iload 4, 2) ∧ decode cX3_gatherBook 25 = .ok (.bipush 6, 2) ∧ decode cX3_gatherBook 27 = .ok (.if_icmp .ge 22, 3) ∧ decode cX3_gatherBook 30 = .ok (.aload_n 0, 1) ∧ decode cX3_gatherBook 31 = .ok (.iload 4, 2) ∧ decode cX3_gatherBook 33 = .ok (.aload_n 2, 1) ∧ decode cX3_gatherBook 34 = .ok (.iload_n 3, 1) ∧ decode cX3_gatherBook 35 = .ok (.iload 4, 2) ∧ decode cX3_gatherBook 37 = .ok (.invokevirtual 64, 3) ∧ decode cX3_gatherBook 40 = .ok (.invokevirtual 51, 3) := by decide +kernel
theorem dX3_gatherBook_20 : decode cX3_gatherBook 20 = .ok (.iconst 0, 1) := dq_118.1
theorem dX3_gatherBook_21 : decode cX3_gatherBook 21 = .ok (.istore 4, 2) := dq_118.2.1
theorem dX3_gatherBook_23 : decode cX3_gatherBook 23 = .ok (.iload 4, 2) := dq_118.2.2.1
theorem dX3_gatherBook_25 : decode cX3_gatherBook 25 = .ok (.bipush 6, 2) := dq_118.2.2.2.1
theorem dX3_gatherBook_27 : decode cX3_gatherBook 27 = .ok (.if_icmp .ge 22, 3) := dq_118.2.2.2.2.1
theorem dX3_gatherBook_30 : decode cX3_gatherBook 30 = .ok (.aload_n 0, 1) := dq_118.2.2.2.2.2.1
theorem dX3_gatherBook_31 : decode cX3_gatherBook 31 = .ok (.iload 4, 2) := dq_118.2.2.2.2.2.2.1
theorem dX3_gatherBook_33 : decode cX3_gatherBook 33 = .ok (.aload_n 2, 1) := dq_118.2.2.2.2.2.2.2.1
theorem dX3_gatherBook_34 : decode cX3_gatherBook 34 = .ok (.iload_n 3, 1) := dq_118.2.2.2.2.2.2.2.2.1
theorem dX3_gatherBook_35 : decode cX3_gatherBook 35 = .ok (.iload 4, 2) := dq_118.2.2.2.2.2.2.2.2.2.1
theorem dX3_gatherBook_37 : decode cX3_gatherBook 37 = .ok (.invokevirtual 64, 3) := dq_118.2.2.2.2.2.2.2.2.2.2.1
theorem dX3_gatherBook_40 : decode cX3_gatherBook 40 = .ok (.invokevirtual 51, 3) := dq_118.2.2.2.2.2.2.2.2.2.2.2
theorem dq_119 : decode cX3_gatherBook 43 = .ok (.iinc 4 1, 3) ∧ decode cX3_gatherBook 46 = .ok (.goto (-23), 3) ∧ decode cX3_gatherBook 49 = .ok (.iinc 3 1, 3) ∧ decode cX3_gatherBook 52 = .ok (.goto (-50), 3) ∧ decode cX3_gatherBook 55 = .ok (.return_, 1) := by decide +kernel
theorem dX3_gatherBook_43 : decode cX3_gatherBook 43 = .ok (.iinc 4 1, 3) := dq_119.1
theorem dX3_gatherBook_46 : decode cX3_gatherBook 46 = .ok (.goto (-23), 3) := dq_119.2.1
theorem dX3_gatherBook_49 : decode cX3_gatherBook 49 = .ok (.iinc 3 1, 3) := dq_119.2.2.1
theorem dX3_gatherBook_52 : decode cX3_gatherBook 52 = .ok (.goto (-50), 3) := dq_119.2.2.2.1
theorem dX3_gatherBook_55 : decode cX3_gatherBook 55 = .ok (.return_, 1) := dq_119.2.2.2.2
theorem dq_120 : decode cX3_saidUnlike 0 = .ok (.lconst 0, 1) ∧ decode cX3_saidUnlike 1 = .ok (.lstore_n 1, 1) ∧ decode cX3_saidUnlike 2 = .ok (.lconst 0, 1) ∧ decode cX3_saidUnlike 3 = .ok (.lstore_n 3, 1) ∧ decode cX3_saidUnlike 4 = .ok (.iconst 0, 1) ∧ decode cX3_saidUnlike 5 = .ok (.istore 5, 2) ∧ decode cX3_saidUnlike 7 = .ok (.iload 5, 2) ∧ decode cX3_saidUnlike 9 = .ok (.bipush 6, 2) ∧ decode cX3_saidUnlike 11 = .ok (.if_icmp .ge 31, 3) ∧ decode cX3_saidUnlike 14 = .ok (.lload_n 3, 1) ∧ decode cX3_saidUnlike 15 = .ok (.lload_n 1, 1) ∧ decode cX3_saidUnlike 16 = .ok (.aload_n 0, 1) := by decide +kernel
theorem dX3_saidUnlike_0 : decode cX3_saidUnlike 0 = .ok (.lconst 0, 1) := dq_120.1
theorem dX3_saidUnlike_1 : decode cX3_saidUnlike 1 = .ok (.lstore_n 1, 1) := dq_120.2.1
theorem dX3_saidUnlike_2 : decode cX3_saidUnlike 2 = .ok (.lconst 0, 1) := dq_120.2.2.1
theorem dX3_saidUnlike_3 : decode cX3_saidUnlike 3 = .ok (.lstore_n 3, 1) := dq_120.2.2.2.1
theorem dX3_saidUnlike_4 : decode cX3_saidUnlike 4 = .ok (.iconst 0, 1) := dq_120.2.2.2.2.1
theorem dX3_saidUnlike_5 : decode cX3_saidUnlike 5 = .ok (.istore 5, 2) := dq_120.2.2.2.2.2.1
theorem dX3_saidUnlike_7 : decode cX3_saidUnlike 7 = .ok (.iload 5, 2) := dq_120.2.2.2.2.2.2.1
theorem dX3_saidUnlike_9 : decode cX3_saidUnlike 9 = .ok (.bipush 6, 2) := dq_120.2.2.2.2.2.2.2.1
theorem dX3_saidUnlike_11 : decode cX3_saidUnlike 11 = .ok (.if_icmp .ge 31, 3) := dq_120.2.2.2.2.2.2.2.2.1
theorem dX3_saidUnlike_14 : decode cX3_saidUnlike 14 = .ok (.lload_n 3, 1) := dq_120.2.2.2.2.2.2.2.2.2.1
theorem dX3_saidUnlike_15 : decode cX3_saidUnlike 15 = .ok (.lload_n 1, 1) := dq_120.2.2.2.2.2.2.2.2.2.2.1
theorem dX3_saidUnlike_16 : decode cX3_saidUnlike 16 = .ok (.aload_n 0, 1) := dq_120.2.2.2.2.2.2.2.2.2.2.2
theorem dq_121 : decode cX3_saidUnlike 17 = .ok (.getfield 9, 3) ∧ decode cX3_saidUnlike 20 = .ok (.iload 5, 2) ∧ decode cX3_saidUnlike 22 = .ok (.laload, 1) ∧ decode cX3_saidUnlike 23 = .ok (.land, 1) ∧ decode cX3_saidUnlike 24 = .ok (.lor, 1) ∧ decode cX3_saidUnlike 25 = .ok (.lstore_n 3, 1) ∧ decode cX3_saidUnlike 26 = .ok (.lload_n 1, 1) ∧ decode cX3_saidUnlike 27 = .ok (.aload_n 0, 1) ∧ decode cX3_saidUnlike 28 = .ok (.getfield 9, 3) ∧ decode cX3_saidUnlike 31 = .ok (.iload 5, 2) ∧ decode cX3_saidUnlike 33 = .ok (.laload, 1) ∧ decode cX3_saidUnlike 34 = .ok (.lor, 1) := by decide +kernel
theorem dX3_saidUnlike_17 : decode cX3_saidUnlike 17 = .ok (.getfield 9, 3) := dq_121.1
theorem dX3_saidUnlike_20 : decode cX3_saidUnlike 20 = .ok (.iload 5, 2) := dq_121.2.1
theorem dX3_saidUnlike_22 : decode cX3_saidUnlike 22 = .ok (.laload, 1) := dq_121.2.2.1
theorem dX3_saidUnlike_23 : decode cX3_saidUnlike 23 = .ok (.land, 1) := dq_121.2.2.2.1
theorem dX3_saidUnlike_24 : decode cX3_saidUnlike 24 = .ok (.lor, 1) := dq_121.2.2.2.2.1
theorem dX3_saidUnlike_25 : decode cX3_saidUnlike 25 = .ok (.lstore_n 3, 1) := dq_121.2.2.2.2.2.1
theorem dX3_saidUnlike_26 : decode cX3_saidUnlike 26 = .ok (.lload_n 1, 1) := dq_121.2.2.2.2.2.2.1
theorem dX3_saidUnlike_27 : decode cX3_saidUnlike 27 = .ok (.aload_n 0, 1) := dq_121.2.2.2.2.2.2.2.1
theorem dX3_saidUnlike_28 : decode cX3_saidUnlike 28 = .ok (.getfield 9, 3) := dq_121.2.2.2.2.2.2.2.2.1
theorem dX3_saidUnlike_31 : decode cX3_saidUnlike 31 = .ok (.iload 5, 2) := dq_121.2.2.2.2.2.2.2.2.2.1
theorem dX3_saidUnlike_33 : decode cX3_saidUnlike 33 = .ok (.laload, 1) := dq_121.2.2.2.2.2.2.2.2.2.2.1
theorem dX3_saidUnlike_34 : decode cX3_saidUnlike 34 = .ok (.lor, 1) := dq_121.2.2.2.2.2.2.2.2.2.2.2
theorem dq_122 : decode cX3_saidUnlike 35 = .ok (.lstore_n 1, 1) ∧ decode cX3_saidUnlike 36 = .ok (.iinc 5 1, 3) ∧ decode cX3_saidUnlike 39 = .ok (.goto (-32), 3) ∧ decode cX3_saidUnlike 42 = .ok (.lload_n 3, 1) ∧ decode cX3_saidUnlike 43 = .ok (.lreturn, 1) := by decide +kernel
theorem dX3_saidUnlike_35 : decode cX3_saidUnlike 35 = .ok (.lstore_n 1, 1) := dq_122.1
theorem dX3_saidUnlike_36 : decode cX3_saidUnlike 36 = .ok (.iinc 5 1, 3) := dq_122.2.1
theorem dX3_saidUnlike_39 : decode cX3_saidUnlike 39 = .ok (.goto (-32), 3) := dq_122.2.2.1
theorem dX3_saidUnlike_42 : decode cX3_saidUnlike 42 = .ok (.lload_n 3, 1) := dq_122.2.2.2.1
theorem dX3_saidUnlike_43 : decode cX3_saidUnlike 43 = .ok (.lreturn, 1) := dq_122.2.2.2.2
theorem dq_123 : decode cX3_saidNothing 0 = .ok (.lconst 0, 1) ∧ decode cX3_saidNothing 1 = .ok (.lstore_n 1, 1) ∧ decode cX3_saidNothing 2 = .ok (.iconst 0, 1) ∧ decode cX3_saidNothing 3 = .ok (.istore_n 3, 1) ∧ decode cX3_saidNothing 4 = .ok (.iload_n 3, 1) ∧ decode cX3_saidNothing 5 = .ok (.bipush 6, 2) ∧ decode cX3_saidNothing 7 = .ok (.if_icmp .ge 18, 3) ∧ decode cX3_saidNothing 10 = .ok (.lload_n 1, 1) ∧ decode cX3_saidNothing 11 = .ok (.aload_n 0, 1) ∧ decode cX3_saidNothing 12 = .ok (.getfield 9, 3) ∧ decode cX3_saidNothing 15 = .ok (.iload_n 3, 1) ∧ decode cX3_saidNothing 16 = .ok (.laload, 1) := by decide +kernel
theorem dX3_saidNothing_0 : decode cX3_saidNothing 0 = .ok (.lconst 0, 1) := dq_123.1
theorem dX3_saidNothing_1 : decode cX3_saidNothing 1 = .ok (.lstore_n 1, 1) := dq_123.2.1
theorem dX3_saidNothing_2 : decode cX3_saidNothing 2 = .ok (.iconst 0, 1) := dq_123.2.2.1
theorem dX3_saidNothing_3 : decode cX3_saidNothing 3 = .ok (.istore_n 3, 1) := dq_123.2.2.2.1
theorem dX3_saidNothing_4 : decode cX3_saidNothing 4 = .ok (.iload_n 3, 1) := dq_123.2.2.2.2.1
theorem dX3_saidNothing_5 : decode cX3_saidNothing 5 = .ok (.bipush 6, 2) := dq_123.2.2.2.2.2.1
theorem dX3_saidNothing_7 : decode cX3_saidNothing 7 = .ok (.if_icmp .ge 18, 3) := dq_123.2.2.2.2.2.2.1
theorem dX3_saidNothing_10 : decode cX3_saidNothing 10 = .ok (.lload_n 1, 1) := dq_123.2.2.2.2.2.2.2.1
theorem dX3_saidNothing_11 : decode cX3_saidNothing 11 = .ok (.aload_n 0, 1) := dq_123.2.2.2.2.2.2.2.2.1
theorem dX3_saidNothing_12 : decode cX3_saidNothing 12 = .ok (.getfield 9, 3) := dq_123.2.2.2.2.2.2.2.2.2.1
theorem dX3_saidNothing_15 : decode cX3_saidNothing 15 = .ok (.iload_n 3, 1) := dq_123.2.2.2.2.2.2.2.2.2.2.1
theorem dX3_saidNothing_16 : decode cX3_saidNothing 16 = .ok (.laload, 1) := dq_123.2.2.2.2.2.2.2.2.2.2.2
theorem dq_124 : decode cX3_saidNothing 17 = .ok (.lor, 1) ∧ decode cX3_saidNothing 18 = .ok (.lstore_n 1, 1) ∧ decode cX3_saidNothing 19 = .ok (.iinc 3 1, 3) ∧ decode cX3_saidNothing 22 = .ok (.goto (-18), 3) ∧ decode cX3_saidNothing 25 = .ok (.lload_n 1, 1) ∧ decode cX3_saidNothing 26 = .ok (.ldc2_w 68, 3) ∧ decode cX3_saidNothing 29 = .ok (.lxor, 1) ∧ decode cX3_saidNothing 30 = .ok (.lreturn, 1) := by decide +kernel
theorem dX3_saidNothing_17 : decode cX3_saidNothing 17 = .ok (.lor, 1) := dq_124.1
theorem dX3_saidNothing_18 : decode cX3_saidNothing 18 = .ok (.lstore_n 1, 1) := dq_124.2.1
theorem dX3_saidNothing_19 : decode cX3_saidNothing 19 = .ok (.iinc 3 1, 3) := dq_124.2.2.1
theorem dX3_saidNothing_22 : decode cX3_saidNothing 22 = .ok (.goto (-18), 3) := dq_124.2.2.2.1
theorem dX3_saidNothing_25 : decode cX3_saidNothing 25 = .ok (.lload_n 1, 1) := dq_124.2.2.2.2.1
theorem dX3_saidNothing_26 : decode cX3_saidNothing 26 = .ok (.ldc2_w 68, 3) := dq_124.2.2.2.2.2.1
theorem dX3_saidNothing_29 : decode cX3_saidNothing 29 = .ok (.lxor, 1) := dq_124.2.2.2.2.2.2.1
theorem dX3_saidNothing_30 : decode cX3_saidNothing 30 = .ok (.lreturn, 1) := dq_124.2.2.2.2.2.2.2
theorem dq_125 : decode cX3_saidOnce 0 = .ok (.aload_n 0, 1) ∧ decode cX3_saidOnce 1 = .ok (.invokevirtual 70, 3) ∧ decode cX3_saidOnce 4 = .ok (.ldc2_w 68, 3) ∧ decode cX3_saidOnce 7 = .ok (.lxor, 1) ∧ decode cX3_saidOnce 8 = .ok (.aload_n 0, 1) ∧ decode cX3_saidOnce 9 = .ok (.invokevirtual 74, 3) ∧ decode cX3_saidOnce 12 = .ok (.ldc2_w 68, 3) ∧ decode cX3_saidOnce 15 = .ok (.lxor, 1) ∧ decode cX3_saidOnce 16 = .ok (.land, 1) ∧ decode cX3_saidOnce 17 = .ok (.lreturn, 1) := by decide +kernel
theorem dX3_saidOnce_0 : decode cX3_saidOnce 0 = .ok (.aload_n 0, 1) := dq_125.1
theorem dX3_saidOnce_1 : decode cX3_saidOnce 1 = .ok (.invokevirtual 70, 3) := dq_125.2.1
theorem dX3_saidOnce_4 : decode cX3_saidOnce 4 = .ok (.ldc2_w 68, 3) := dq_125.2.2.1
theorem dX3_saidOnce_7 : decode cX3_saidOnce 7 = .ok (.lxor, 1) := dq_125.2.2.2.1
theorem dX3_saidOnce_8 : decode cX3_saidOnce 8 = .ok (.aload_n 0, 1) := dq_125.2.2.2.2.1
theorem dX3_saidOnce_9 : decode cX3_saidOnce 9 = .ok (.invokevirtual 74, 3) := dq_125.2.2.2.2.2.1
theorem dX3_saidOnce_12 : decode cX3_saidOnce 12 = .ok (.ldc2_w 68, 3) := dq_125.2.2.2.2.2.2.1
theorem dX3_saidOnce_15 : decode cX3_saidOnce 15 = .ok (.lxor, 1) := dq_125.2.2.2.2.2.2.2.1
theorem dX3_saidOnce_16 : decode cX3_saidOnce 16 = .ok (.land, 1) := dq_125.2.2.2.2.2.2.2.2.1
theorem dX3_saidOnce_17 : decode cX3_saidOnce 17 = .ok (.lreturn, 1) := dq_125.2.2.2.2.2.2.2.2.2
theorem dq_126 : decode cX3_verdict 0 = .ok (.bipush (-4), 2) ∧ decode cX3_verdict 2 = .ok (.istore_n 2, 1) ∧ decode cX3_verdict 3 = .ok (.iconst 0, 1) ∧ decode cX3_verdict 4 = .ok (.istore_n 3, 1) ∧ decode cX3_verdict 5 = .ok (.iload_n 3, 1) ∧ decode cX3_verdict 6 = .ok (.bipush 6, 2) ∧ decode cX3_verdict 8 = .ok (.if_icmp .ge 35, 3) ∧ decode cX3_verdict 11 = .ok (.aload_n 0, 1) ∧ decode cX3_verdict 12 = .ok (.getfield 9, 3) ∧ decode cX3_verdict 15 = .ok (.iload_n 3, 1) ∧ decode cX3_verdict 16 = .ok (.laload, 1) ∧ decode cX3_verdict 17 = .ok (.iload_n 1, 1) := by decide +kernel
theorem dX3_verdict_0 : decode cX3_verdict 0 = .ok (.bipush (-4), 2) := dq_126.1
theorem dX3_verdict_2 : decode cX3_verdict 2 = .ok (.istore_n 2, 1) := dq_126.2.1
theorem dX3_verdict_3 : decode cX3_verdict 3 = .ok (.iconst 0, 1) := dq_126.2.2.1
theorem dX3_verdict_4 : decode cX3_verdict 4 = .ok (.istore_n 3, 1) := dq_126.2.2.2.1
theorem dX3_verdict_5 : decode cX3_verdict 5 = .ok (.iload_n 3, 1) := dq_126.2.2.2.2.1
theorem dX3_verdict_6 : decode cX3_verdict 6 = .ok (.bipush 6, 2) := dq_126.2.2.2.2.2.1
theorem dX3_verdict_8 : decode cX3_verdict 8 = .ok (.if_icmp .ge 35, 3) := dq_126.2.2.2.2.2.2.1
theorem dX3_verdict_11 : decode cX3_verdict 11 = .ok (.aload_n 0, 1) := dq_126.2.2.2.2.2.2.2.1
theorem dX3_verdict_12 : decode cX3_verdict 12 = .ok (.getfield 9, 3) := dq_126.2.2.2.2.2.2.2.2.1
theorem dX3_verdict_15 : decode cX3_verdict 15 = .ok (.iload_n 3, 1) := dq_126.2.2.2.2.2.2.2.2.2.1
theorem dX3_verdict_16 : decode cX3_verdict 16 = .ok (.laload, 1) := dq_126.2.2.2.2.2.2.2.2.2.2.1
theorem dX3_verdict_17 : decode cX3_verdict 17 = .ok (.iload_n 1, 1) := dq_126.2.2.2.2.2.2.2.2.2.2.2
theorem dq_127 : decode cX3_verdict 18 = .ok (.invokestatic 77, 3) ∧ decode cX3_verdict 21 = .ok (.ifCond .eq 16, 3) ∧ decode cX3_verdict 24 = .ok (.iload_n 2, 1) ∧ decode cX3_verdict 25 = .ok (.bipush (-4), 2) ∧ decode cX3_verdict 27 = .ok (.if_icmp .ne 7, 3) ∧ decode cX3_verdict 30 = .ok (.iload_n 3, 1) ∧ decode cX3_verdict 31 = .ok (.goto 5, 3) ∧ decode cX3_verdict 34 = .ok (.bipush (-2), 2) ∧ decode cX3_verdict 36 = .ok (.istore_n 2, 1) ∧ decode cX3_verdict 37 = .ok (.iinc 3 1, 3) ∧ decode cX3_verdict 40 = .ok (.goto (-35), 3) ∧ decode cX3_verdict 43 = .ok (.iload_n 2, 1) := by decide +kernel
theorem dX3_verdict_18 : decode cX3_verdict 18 = .ok (.invokestatic 77, 3) := dq_127.1
theorem dX3_verdict_21 : decode cX3_verdict 21 = .ok (.ifCond .eq 16, 3) := dq_127.2.1
theorem dX3_verdict_24 : decode cX3_verdict 24 = .ok (.iload_n 2, 1) := dq_127.2.2.1
theorem dX3_verdict_25 : decode cX3_verdict 25 = .ok (.bipush (-4), 2) := dq_127.2.2.2.1
theorem dX3_verdict_27 : decode cX3_verdict 27 = .ok (.if_icmp .ne 7, 3) := dq_127.2.2.2.2.1
theorem dX3_verdict_30 : decode cX3_verdict 30 = .ok (.iload_n 3, 1) := dq_127.2.2.2.2.2.1
theorem dX3_verdict_31 : decode cX3_verdict 31 = .ok (.goto 5, 3) := dq_127.2.2.2.2.2.2.1
theorem dX3_verdict_34 : decode cX3_verdict 34 = .ok (.bipush (-2), 2) := dq_127.2.2.2.2.2.2.2.1
theorem dX3_verdict_36 : decode cX3_verdict 36 = .ok (.istore_n 2, 1) := dq_127.2.2.2.2.2.2.2.2.1
theorem dX3_verdict_37 : decode cX3_verdict 37 = .ok (.iinc 3 1, 3) := dq_127.2.2.2.2.2.2.2.2.2.1
theorem dX3_verdict_40 : decode cX3_verdict 40 = .ok (.goto (-35), 3) := dq_127.2.2.2.2.2.2.2.2.2.2.1
theorem dX3_verdict_43 : decode cX3_verdict 43 = .ok (.iload_n 2, 1) := dq_127.2.2.2.2.2.2.2.2.2.2.2
theorem dX3_verdict_44 : decode cX3_verdict 44 = .ok (.ireturn, 1) := by decide +kernel
theorem dq_129 : decode cX4_init 0 = .ok (.aload_n 0, 1) ∧ decode cX4_init 1 = .ok (.invokespecial 3, 3) ∧ decode cX4_init 4 = .ok (.aload_n 0, 1) ∧ decode cX4_init 5 = .ok (.sipush 256, 3) ∧ decode cX4_init 8 = .ok (.newarray .int, 2) ∧ decode cX4_init 10 = .ok (.putfield 11, 3) ∧ decode cX4_init 13 = .ok (.aload_n 0, 1) ∧ decode cX4_init 14 = .ok (.sipush 256, 3) ∧ decode cX4_init 17 = .ok (.newarray .int, 2) ∧ decode cX4_init 19 = .ok (.putfield 15, 3) ∧ decode cX4_init 22 = .ok (.aload_n 0, 1) ∧ decode cX4_init 23 = .ok (.sipush 256, 3) := by decide +kernel
theorem dX4_init_0 : decode cX4_init 0 = .ok (.aload_n 0, 1) := dq_129.1
theorem dX4_init_1 : decode cX4_init 1 = .ok (.invokespecial 3, 3) := dq_129.2.1
theorem dX4_init_4 : decode cX4_init 4 = .ok (.aload_n 0, 1) := dq_129.2.2.1
theorem dX4_init_5 : decode cX4_init 5 = .ok (.sipush 256, 3) := dq_129.2.2.2.1
theorem dX4_init_8 : decode cX4_init 8 = .ok (.newarray .int, 2) := dq_129.2.2.2.2.1
theorem dX4_init_10 : decode cX4_init 10 = .ok (.putfield 11, 3) := dq_129.2.2.2.2.2.1
theorem dX4_init_13 : decode cX4_init 13 = .ok (.aload_n 0, 1) := dq_129.2.2.2.2.2.2.1
theorem dX4_init_14 : decode cX4_init 14 = .ok (.sipush 256, 3) := dq_129.2.2.2.2.2.2.2.1
theorem dX4_init_17 : decode cX4_init 17 = .ok (.newarray .int, 2) := dq_129.2.2.2.2.2.2.2.2.1
theorem dX4_init_19 : decode cX4_init 19 = .ok (.putfield 15, 3) := dq_129.2.2.2.2.2.2.2.2.2.1
theorem dX4_init_22 : decode cX4_init 22 = .ok (.aload_n 0, 1) := dq_129.2.2.2.2.2.2.2.2.2.2.1
theorem dX4_init_23 : decode cX4_init 23 = .ok (.sipush 256, 3) := dq_129.2.2.2.2.2.2.2.2.2.2.2
theorem dq_130 : decode cX4_init 26 = .ok (.newarray .int, 2) ∧ decode cX4_init 28 = .ok (.putfield 18, 3) ∧ decode cX4_init 31 = .ok (.aload_n 0, 1) ∧ decode cX4_init 32 = .ok (.iconst (-1), 1) ∧ decode cX4_init 33 = .ok (.putfield 21, 3) ∧ decode cX4_init 36 = .ok (.return_, 1) := by decide +kernel
theorem dX4_init_26 : decode cX4_init 26 = .ok (.newarray .int, 2) := dq_130.1
theorem dX4_init_28 : decode cX4_init 28 = .ok (.putfield 18, 3) := dq_130.2.1
theorem dX4_init_31 : decode cX4_init 31 = .ok (.aload_n 0, 1) := dq_130.2.2.1
theorem dX4_init_32 : decode cX4_init 32 = .ok (.iconst (-1), 1) := dq_130.2.2.2.1
theorem dX4_init_33 : decode cX4_init 33 = .ok (.putfield 21, 3) := dq_130.2.2.2.2.1
theorem dX4_init_36 : decode cX4_init 36 = .ok (.return_, 1) := dq_130.2.2.2.2.2
theorem dq_131 : decode cX4_allUnlike 0 = .ok (.iload_n 0, 1) ∧ decode cX4_allUnlike 1 = .ok (.iconst 0, 1) ∧ decode cX4_allUnlike 2 = .ok (.sipush 255, 3) ∧ decode cX4_allUnlike 5 = .ok (.invokestatic 25, 3) ∧ decode cX4_allUnlike 8 = .ok (.ifCond .ne 5, 3) ∧ decode cX4_allUnlike 11 = .ok (.iconst 0, 1) ∧ decode cX4_allUnlike 12 = .ok (.ireturn, 1) ∧ decode cX4_allUnlike 13 = .ok (.iconst 0, 1) ∧ decode cX4_allUnlike 14 = .ok (.istore_n 1, 1) ∧ decode cX4_allUnlike 15 = .ok (.iconst 0, 1) ∧ decode cX4_allUnlike 16 = .ok (.istore_n 2, 1) ∧ decode cX4_allUnlike 17 = .ok (.iload_n 2, 1) := by decide +kernel
theorem dX4_allUnlike_0 : decode cX4_allUnlike 0 = .ok (.iload_n 0, 1) := dq_131.1
theorem dX4_allUnlike_1 : decode cX4_allUnlike 1 = .ok (.iconst 0, 1) := dq_131.2.1
theorem dX4_allUnlike_2 : decode cX4_allUnlike 2 = .ok (.sipush 255, 3) := dq_131.2.2.1
theorem dX4_allUnlike_5 : decode cX4_allUnlike 5 = .ok (.invokestatic 25, 3) := dq_131.2.2.2.1
theorem dX4_allUnlike_8 : decode cX4_allUnlike 8 = .ok (.ifCond .ne 5, 3) := dq_131.2.2.2.2.1
theorem dX4_allUnlike_11 : decode cX4_allUnlike 11 = .ok (.iconst 0, 1) := dq_131.2.2.2.2.2.1
theorem dX4_allUnlike_12 : decode cX4_allUnlike 12 = .ok (.ireturn, 1) := dq_131.2.2.2.2.2.2.1
theorem dX4_allUnlike_13 : decode cX4_allUnlike 13 = .ok (.iconst 0, 1) := dq_131.2.2.2.2.2.2.2.1
theorem dX4_allUnlike_14 : decode cX4_allUnlike 14 = .ok (.istore_n 1, 1) := dq_131.2.2.2.2.2.2.2.2.1
theorem dX4_allUnlike_15 : decode cX4_allUnlike 15 = .ok (.iconst 0, 1) := dq_131.2.2.2.2.2.2.2.2.2.1
theorem dX4_allUnlike_16 : decode cX4_allUnlike 16 = .ok (.istore_n 2, 1) := dq_131.2.2.2.2.2.2.2.2.2.2.1
theorem dX4_allUnlike_17 : decode cX4_allUnlike 17 = .ok (.iload_n 2, 1) := dq_131.2.2.2.2.2.2.2.2.2.2.2
theorem dq_132 : decode cX4_allUnlike 18 = .ok (.iconst 4, 1) ∧ decode cX4_allUnlike 19 = .ok (.if_icmp .ge 19, 3) ∧ decode cX4_allUnlike 22 = .ok (.iload_n 1, 1) ∧ decode cX4_allUnlike 23 = .ok (.iconst 1, 1) ∧ decode cX4_allUnlike 24 = .ok (.iload_n 0, 1) ∧ decode cX4_allUnlike 25 = .ok (.iload_n 2, 1) ∧ decode cX4_allUnlike 26 = .ok (.invokestatic 29, 3) ∧ decode cX4_allUnlike 29 = .ok (.ishl, 1) ∧ decode cX4_allUnlike 30 = .ok (.ior, 1) ∧ decode cX4_allUnlike 31 = .ok (.istore_n 1, 1) ∧ decode cX4_allUnlike 32 = .ok (.iinc 2 1, 3) ∧ decode cX4_allUnlike 35 = .ok (.goto (-18), 3) := by decide +kernel
theorem dX4_allUnlike_18 : decode cX4_allUnlike 18 = .ok (.iconst 4, 1) := dq_132.1
theorem dX4_allUnlike_19 : decode cX4_allUnlike 19 = .ok (.if_icmp .ge 19, 3) := dq_132.2.1
theorem dX4_allUnlike_22 : decode cX4_allUnlike 22 = .ok (.iload_n 1, 1) := dq_132.2.2.1
theorem dX4_allUnlike_23 : decode cX4_allUnlike 23 = .ok (.iconst 1, 1) := dq_132.2.2.2.1
theorem dX4_allUnlike_24 : decode cX4_allUnlike 24 = .ok (.iload_n 0, 1) := dq_132.2.2.2.2.1
theorem dX4_allUnlike_25 : decode cX4_allUnlike 25 = .ok (.iload_n 2, 1) := dq_132.2.2.2.2.2.1
theorem dX4_allUnlike_26 : decode cX4_allUnlike 26 = .ok (.invokestatic 29, 3) := dq_132.2.2.2.2.2.2.1
theorem dX4_allUnlike_29 : decode cX4_allUnlike 29 = .ok (.ishl, 1) := dq_132.2.2.2.2.2.2.2.1
theorem dX4_allUnlike_30 : decode cX4_allUnlike 30 = .ok (.ior, 1) := dq_132.2.2.2.2.2.2.2.2.1
theorem dX4_allUnlike_31 : decode cX4_allUnlike 31 = .ok (.istore_n 1, 1) := dq_132.2.2.2.2.2.2.2.2.2.1
theorem dX4_allUnlike_32 : decode cX4_allUnlike 32 = .ok (.iinc 2 1, 3) := dq_132.2.2.2.2.2.2.2.2.2.2.1
theorem dX4_allUnlike_35 : decode cX4_allUnlike 35 = .ok (.goto (-18), 3) := dq_132.2.2.2.2.2.2.2.2.2.2.2
theorem dq_133 : decode cX4_allUnlike 38 = .ok (.iload_n 1, 1) ∧ decode cX4_allUnlike 39 = .ok (.bipush 15, 2) ∧ decode cX4_allUnlike 41 = .ok (.if_icmp .ne 7, 3) ∧ decode cX4_allUnlike 44 = .ok (.iconst 1, 1) ∧ decode cX4_allUnlike 45 = .ok (.goto 4, 3) ∧ decode cX4_allUnlike 48 = .ok (.iconst 0, 1) ∧ decode cX4_allUnlike 49 = .ok (.ireturn, 1) := by decide +kernel
theorem dX4_allUnlike_38 : decode cX4_allUnlike 38 = .ok (.iload_n 1, 1) := dq_133.1
theorem dX4_allUnlike_39 : decode cX4_allUnlike 39 = .ok (.bipush 15, 2) := dq_133.2.1
theorem dX4_allUnlike_41 : decode cX4_allUnlike 41 = .ok (.if_icmp .ne 7, 3) := dq_133.2.2.1
theorem dX4_allUnlike_44 : decode cX4_allUnlike 44 = .ok (.iconst 1, 1) := dq_133.2.2.2.1
theorem dX4_allUnlike_45 : decode cX4_allUnlike 45 = .ok (.goto 4, 3) := dq_133.2.2.2.2.1
theorem dX4_allUnlike_48 : decode cX4_allUnlike 48 = .ok (.iconst 0, 1) := dq_133.2.2.2.2.2.1
theorem dX4_allUnlike_49 : decode cX4_allUnlike 49 = .ok (.ireturn, 1) := dq_133.2.2.2.2.2.2
theorem dq_134 : decode cX4_bestSum 0 = .ok (.aload_n 0, 1) ∧ decode cX4_bestSum 1 = .ok (.getfield 33, 3) ∧ decode cX4_bestSum 4 = .ok (.ireturn, 1) := by decide +kernel
theorem dX4_bestSum_0 : decode cX4_bestSum 0 = .ok (.aload_n 0, 1) := dq_134.1
theorem dX4_bestSum_1 : decode cX4_bestSum 1 = .ok (.getfield 33, 3) := dq_134.2.1
theorem dX4_bestSum_4 : decode cX4_bestSum 4 = .ok (.ireturn, 1) := dq_134.2.2
theorem dq_135 : decode cX4_bestPlaces 0 = .ok (.aload_n 0, 1) ∧ decode cX4_bestPlaces 1 = .ok (.getfield 36, 3) ∧ decode cX4_bestPlaces 4 = .ok (.ireturn, 1) := by decide +kernel
theorem dX4_bestPlaces_0 : decode cX4_bestPlaces 0 = .ok (.aload_n 0, 1) := dq_135.1
theorem dX4_bestPlaces_1 : decode cX4_bestPlaces 1 = .ok (.getfield 36, 3) := dq_135.2.1
theorem dX4_bestPlaces_4 : decode cX4_bestPlaces 4 = .ok (.ireturn, 1) := dq_135.2.2
theorem dq_136 : decode cX4_bestTurns 0 = .ok (.aload_n 0, 1) ∧ decode cX4_bestTurns 1 = .ok (.getfield 39, 3) ∧ decode cX4_bestTurns 4 = .ok (.ireturn, 1) := by decide +kernel
theorem dX4_bestTurns_0 : decode cX4_bestTurns 0 = .ok (.aload_n 0, 1) := dq_136.1
theorem dX4_bestTurns_1 : decode cX4_bestTurns 1 = .ok (.getfield 39, 3) := dq_136.2.1
theorem dX4_bestTurns_4 : decode cX4_bestTurns 4 = .ok (.ireturn, 1) := dq_136.2.2
theorem dq_137 : decode cX4_bestWays 0 = .ok (.aload_n 0, 1) ∧ decode cX4_bestWays 1 = .ok (.getfield 42, 3) ∧ decode cX4_bestWays 4 = .ok (.ireturn, 1) := by decide +kernel
theorem dX4_bestWays_0 : decode cX4_bestWays 0 = .ok (.aload_n 0, 1) := dq_137.1
theorem dX4_bestWays_1 : decode cX4_bestWays 1 = .ok (.getfield 42, 3) := dq_137.2.1
theorem dX4_bestWays_4 : decode cX4_bestWays 4 = .ok (.ireturn, 1) := dq_137.2.2
theorem dq_138 : decode cX4_search 0 = .ok (.aload_n 0, 1) ∧ decode cX4_search 1 = .ok (.getfield 21, 3) ∧ decode cX4_search 4 = .ok (.aload_n 1, 1) ∧ decode cX4_search 5 = .ok (.invokevirtual 45, 3) ∧ decode cX4_search 8 = .ok (.if_icmp .ne 4, 3) ∧ decode cX4_search 11 = .ok (.return_, 1) ∧ decode cX4_search 12 = .ok (.aload_n 0, 1) ∧ decode cX4_search 13 = .ok (.aload_n 1, 1) ∧ decode cX4_search 14 = .ok (.invokevirtual 45, 3) ∧ decode cX4_search 17 = .ok (.putfield 21, 3) ∧ decode cX4_search 20 = .ok (.aload_n 0, 1) ∧ decode cX4_search 21 = .ok (.iconst (-1), 1) := by decide +kernel
theorem dX4_search_0 : decode cX4_search 0 = .ok (.aload_n 0, 1) := dq_138.1
theorem dX4_search_1 : decode cX4_search 1 = .ok (.getfield 21, 3) := dq_138.2.1
theorem dX4_search_4 : decode cX4_search 4 = .ok (.aload_n 1, 1) := dq_138.2.2.1
theorem dX4_search_5 : decode cX4_search 5 = .ok (.invokevirtual 45, 3) := dq_138.2.2.2.1
theorem dX4_search_8 : decode cX4_search 8 = .ok (.if_icmp .ne 4, 3) := dq_138.2.2.2.2.1
theorem dX4_search_11 : decode cX4_search 11 = .ok (.return_, 1) := dq_138.2.2.2.2.2.1
theorem dX4_search_12 : decode cX4_search 12 = .ok (.aload_n 0, 1) := dq_138.2.2.2.2.2.2.1
theorem dX4_search_13 : decode cX4_search 13 = .ok (.aload_n 1, 1) := dq_138.2.2.2.2.2.2.2.1
theorem dX4_search_14 : decode cX4_search 14 = .ok (.invokevirtual 45, 3) := dq_138.2.2.2.2.2.2.2.2.1
theorem dX4_search_17 : decode cX4_search 17 = .ok (.putfield 21, 3) := dq_138.2.2.2.2.2.2.2.2.2.1
theorem dX4_search_20 : decode cX4_search 20 = .ok (.aload_n 0, 1) := dq_138.2.2.2.2.2.2.2.2.2.2.1
theorem dX4_search_21 : decode cX4_search 21 = .ok (.iconst (-1), 1) := dq_138.2.2.2.2.2.2.2.2.2.2.2
theorem dq_139 : decode cX4_search 22 = .ok (.putfield 33, 3) ∧ decode cX4_search 25 = .ok (.aload_n 0, 1) ∧ decode cX4_search 26 = .ok (.aload_n 1, 1) ∧ decode cX4_search 27 = .ok (.invokevirtual 51, 3) ∧ decode cX4_search 30 = .ok (.aload_n 0, 1) ∧ decode cX4_search 31 = .ok (.invokevirtual 55, 3) ∧ decode cX4_search 34 = .ok (.iconst 0, 1) ∧ decode cX4_search 35 = .ok (.istore_n 2, 1) ∧ decode cX4_search 36 = .ok (.iload_n 2, 1) ∧ decode cX4_search 37 = .ok (.sipush 256, 3) ∧ decode cX4_search 40 = .ok (.if_icmp .ge 21, 3) ∧ decode cX4_search 43 = .ok (.iload_n 2, 1) := by decide +kernel
theorem dX4_search_22 : decode cX4_search 22 = .ok (.putfield 33, 3) := dq_139.1
theorem dX4_search_25 : decode cX4_search 25 = .ok (.aload_n 0, 1) := dq_139.2.1
theorem dX4_search_26 : decode cX4_search 26 = .ok (.aload_n 1, 1) := dq_139.2.2.1
theorem dX4_search_27 : decode cX4_search 27 = .ok (.invokevirtual 51, 3) := dq_139.2.2.2.1
theorem dX4_search_30 : decode cX4_search 30 = .ok (.aload_n 0, 1) := dq_139.2.2.2.2.1
theorem dX4_search_31 : decode cX4_search 31 = .ok (.invokevirtual 55, 3) := dq_139.2.2.2.2.2.1
theorem dX4_search_34 : decode cX4_search 34 = .ok (.iconst 0, 1) := dq_139.2.2.2.2.2.2.1
theorem dX4_search_35 : decode cX4_search 35 = .ok (.istore_n 2, 1) := dq_139.2.2.2.2.2.2.2.1
theorem dX4_search_36 : decode cX4_search 36 = .ok (.iload_n 2, 1) := dq_139.2.2.2.2.2.2.2.2.1
theorem dX4_search_37 : decode cX4_search 37 = .ok (.sipush 256, 3) := dq_139.2.2.2.2.2.2.2.2.2.1
theorem dX4_search_40 : decode cX4_search 40 = .ok (.if_icmp .ge 21, 3) := dq_139.2.2.2.2.2.2.2.2.2.2.1
theorem dX4_search_43 : decode cX4_search 43 = .ok (.iload_n 2, 1) := dq_139.2.2.2.2.2.2.2.2.2.2.2
theorem dq_140 : decode cX4_search 44 = .ok (.invokestatic 58, 3) ∧ decode cX4_search 47 = .ok (.ifCond .eq 8, 3) ∧ decode cX4_search 50 = .ok (.aload_n 0, 1) ∧ decode cX4_search 51 = .ok (.iload_n 2, 1) ∧ decode cX4_search 52 = .ok (.invokevirtual 62, 3) ∧ decode cX4_search 55 = .ok (.iinc 2 1, 3) ∧ decode cX4_search 58 = .ok (.goto (-22), 3) ∧ decode cX4_search 61 = .ok (.return_, 1) := by decide +kernel
theorem dX4_search_44 : decode cX4_search 44 = .ok (.invokestatic 58, 3) := dq_140.1
theorem dX4_search_47 : decode cX4_search 47 = .ok (.ifCond .eq 8, 3) := dq_140.2.1
theorem dX4_search_50 : decode cX4_search 50 = .ok (.aload_n 0, 1) := dq_140.2.2.1
theorem dX4_search_51 : decode cX4_search 51 = .ok (.iload_n 2, 1) := dq_140.2.2.2.1
theorem dX4_search_52 : decode cX4_search 52 = .ok (.invokevirtual 62, 3) := dq_140.2.2.2.2.1
theorem dX4_search_55 : decode cX4_search 55 = .ok (.iinc 2 1, 3) := dq_140.2.2.2.2.2.1
theorem dX4_search_58 : decode cX4_search 58 = .ok (.goto (-22), 3) := dq_140.2.2.2.2.2.2.1
theorem dX4_search_61 : decode cX4_search 61 = .ok (.return_, 1) := dq_140.2.2.2.2.2.2.2
theorem dq_141 : decode cX4_noteEdges 0 = .ok (.iconst 0, 1) ∧ decode cX4_noteEdges 1 = .ok (.istore_n 2, 1) ∧ decode cX4_noteEdges 2 = .ok (.iload_n 2, 1) ∧ decode cX4_noteEdges 3 = .ok (.bipush 16, 2) ∧ decode cX4_noteEdges 5 = .ok (.if_icmp .ge 101, 3) ∧ decode cX4_noteEdges 8 = .ok (.iconst 0, 1) ∧ decode cX4_noteEdges 9 = .ok (.istore_n 3, 1) ∧ decode cX4_noteEdges 10 = .ok (.iload_n 3, 1) ∧ decode cX4_noteEdges 11 = .ok (.iconst 4, 1) ∧ decode cX4_noteEdges 12 = .ok (.if_icmp .ge 88, 3) ∧ decode cX4_noteEdges 15 = .ok (.iload_n 2, 1) ∧ decode cX4_noteEdges 16 = .ok (.bipush 16, 2) := by decide +kernel
theorem dX4_noteEdges_0 : decode cX4_noteEdges 0 = .ok (.iconst 0, 1) := dq_141.1
theorem dX4_noteEdges_1 : decode cX4_noteEdges 1 = .ok (.istore_n 2, 1) := dq_141.2.1
theorem dX4_noteEdges_2 : decode cX4_noteEdges 2 = .ok (.iload_n 2, 1) := dq_141.2.2.1
theorem dX4_noteEdges_3 : decode cX4_noteEdges 3 = .ok (.bipush 16, 2) := dq_141.2.2.2.1
theorem dX4_noteEdges_5 : decode cX4_noteEdges 5 = .ok (.if_icmp .ge 101, 3) := dq_141.2.2.2.2.1
theorem dX4_noteEdges_8 : decode cX4_noteEdges 8 = .ok (.iconst 0, 1) := dq_141.2.2.2.2.2.1
theorem dX4_noteEdges_9 : decode cX4_noteEdges 9 = .ok (.istore_n 3, 1) := dq_141.2.2.2.2.2.2.1
theorem dX4_noteEdges_10 : decode cX4_noteEdges 10 = .ok (.iload_n 3, 1) := dq_141.2.2.2.2.2.2.2.1
theorem dX4_noteEdges_11 : decode cX4_noteEdges 11 = .ok (.iconst 4, 1) := dq_141.2.2.2.2.2.2.2.2.1
theorem dX4_noteEdges_12 : decode cX4_noteEdges 12 = .ok (.if_icmp .ge 88, 3) := dq_141.2.2.2.2.2.2.2.2.2.1
theorem dX4_noteEdges_15 : decode cX4_noteEdges 15 = .ok (.iload_n 2, 1) := dq_141.2.2.2.2.2.2.2.2.2.2.1
theorem dX4_noteEdges_16 : decode cX4_noteEdges 16 = .ok (.bipush 16, 2) := dq_141.2.2.2.2.2.2.2.2.2.2.2
theorem dq_142 : decode cX4_noteEdges 18 = .ok (.imul, 1) ∧ decode cX4_noteEdges 19 = .ok (.iload_n 3, 1) ∧ decode cX4_noteEdges 20 = .ok (.iadd, 1) ∧ decode cX4_noteEdges 21 = .ok (.istore 4, 2) ∧ decode cX4_noteEdges 23 = .ok (.aload_n 0, 1) ∧ decode cX4_noteEdges 24 = .ok (.getfield 18, 3) ∧ decode cX4_noteEdges 27 = .ok (.iload 4, 2) ∧ decode cX4_noteEdges 29 = .ok (.iconst 0, 1) ∧ decode cX4_noteEdges 30 = .ok (.iadd, 1) ∧ decode cX4_noteEdges 31 = .ok (.aload_n 1, 1) ∧ decode cX4_noteEdges 32 = .ok (.iload_n 2, 1) ∧ decode cX4_noteEdges 33 = .ok (.iconst 4, 1) := by decide +kernel
theorem dX4_noteEdges_18 : decode cX4_noteEdges 18 = .ok (.imul, 1) := dq_142.1
theorem dX4_noteEdges_19 : decode cX4_noteEdges 19 = .ok (.iload_n 3, 1) := dq_142.2.1
theorem dX4_noteEdges_20 : decode cX4_noteEdges 20 = .ok (.iadd, 1) := dq_142.2.2.1
theorem dX4_noteEdges_21 : decode cX4_noteEdges 21 = .ok (.istore 4, 2) := dq_142.2.2.2.1
theorem dX4_noteEdges_23 : decode cX4_noteEdges 23 = .ok (.aload_n 0, 1) := dq_142.2.2.2.2.1
theorem dX4_noteEdges_24 : decode cX4_noteEdges 24 = .ok (.getfield 18, 3) := dq_142.2.2.2.2.2.1
theorem dX4_noteEdges_27 : decode cX4_noteEdges 27 = .ok (.iload 4, 2) := dq_142.2.2.2.2.2.2.1
theorem dX4_noteEdges_29 : decode cX4_noteEdges 29 = .ok (.iconst 0, 1) := dq_142.2.2.2.2.2.2.2.1
theorem dX4_noteEdges_30 : decode cX4_noteEdges 30 = .ok (.iadd, 1) := dq_142.2.2.2.2.2.2.2.2.1
theorem dX4_noteEdges_31 : decode cX4_noteEdges 31 = .ok (.aload_n 1, 1) := dq_142.2.2.2.2.2.2.2.2.2.1
theorem dX4_noteEdges_32 : decode cX4_noteEdges 32 = .ok (.iload_n 2, 1) := dq_142.2.2.2.2.2.2.2.2.2.2.1
theorem dX4_noteEdges_33 : decode cX4_noteEdges 33 = .ok (.iconst 4, 1) := dq_142.2.2.2.2.2.2.2.2.2.2.2
theorem dq_143 : decode cX4_noteEdges 34 = .ok (.iload_n 3, 1) ∧ decode cX4_noteEdges 35 = .ok (.imul, 1) ∧ decode cX4_noteEdges 36 = .ok (.iconst 3, 1) ∧ decode cX4_noteEdges 37 = .ok (.iadd, 1) ∧ decode cX4_noteEdges 38 = .ok (.invokestatic 66, 3) ∧ decode cX4_noteEdges 41 = .ok (.iastore, 1) ∧ decode cX4_noteEdges 42 = .ok (.aload_n 0, 1) ∧ decode cX4_noteEdges 43 = .ok (.getfield 18, 3) ∧ decode cX4_noteEdges 46 = .ok (.iload 4, 2) ∧ decode cX4_noteEdges 48 = .ok (.iconst 4, 1) ∧ decode cX4_noteEdges 49 = .ok (.iadd, 1) ∧ decode cX4_noteEdges 50 = .ok (.aload_n 1, 1) := by decide +kernel
theorem dX4_noteEdges_34 : decode cX4_noteEdges 34 = .ok (.iload_n 3, 1) := dq_143.1
theorem dX4_noteEdges_35 : decode cX4_noteEdges 35 = .ok (.imul, 1) := dq_143.2.1
theorem dX4_noteEdges_36 : decode cX4_noteEdges 36 = .ok (.iconst 3, 1) := dq_143.2.2.1
theorem dX4_noteEdges_37 : decode cX4_noteEdges 37 = .ok (.iadd, 1) := dq_143.2.2.2.1
theorem dX4_noteEdges_38 : decode cX4_noteEdges 38 = .ok (.invokestatic 66, 3) := dq_143.2.2.2.2.1
theorem dX4_noteEdges_41 : decode cX4_noteEdges 41 = .ok (.iastore, 1) := dq_143.2.2.2.2.2.1
theorem dX4_noteEdges_42 : decode cX4_noteEdges 42 = .ok (.aload_n 0, 1) := dq_143.2.2.2.2.2.2.1
theorem dX4_noteEdges_43 : decode cX4_noteEdges 43 = .ok (.getfield 18, 3) := dq_143.2.2.2.2.2.2.2.1
theorem dX4_noteEdges_46 : decode cX4_noteEdges 46 = .ok (.iload 4, 2) := dq_143.2.2.2.2.2.2.2.2.1
theorem dX4_noteEdges_48 : decode cX4_noteEdges 48 = .ok (.iconst 4, 1) := dq_143.2.2.2.2.2.2.2.2.2.1
theorem dX4_noteEdges_49 : decode cX4_noteEdges 49 = .ok (.iadd, 1) := dq_143.2.2.2.2.2.2.2.2.2.2.1
theorem dX4_noteEdges_50 : decode cX4_noteEdges 50 = .ok (.aload_n 1, 1) := dq_143.2.2.2.2.2.2.2.2.2.2.2
theorem dq_144 : decode cX4_noteEdges 51 = .ok (.iload_n 2, 1) ∧ decode cX4_noteEdges 52 = .ok (.iconst 4, 1) ∧ decode cX4_noteEdges 53 = .ok (.iload_n 3, 1) ∧ decode cX4_noteEdges 54 = .ok (.imul, 1) ∧ decode cX4_noteEdges 55 = .ok (.invokestatic 66, 3) ∧ decode cX4_noteEdges 58 = .ok (.iastore, 1) ∧ decode cX4_noteEdges 59 = .ok (.aload_n 0, 1) ∧ decode cX4_noteEdges 60 = .ok (.getfield 18, 3) ∧ decode cX4_noteEdges 63 = .ok (.iload 4, 2) ∧ decode cX4_noteEdges 65 = .ok (.bipush 8, 2) ∧ decode cX4_noteEdges 67 = .ok (.iadd, 1) ∧ decode cX4_noteEdges 68 = .ok (.aload_n 1, 1) := by decide +kernel
theorem dX4_noteEdges_51 : decode cX4_noteEdges 51 = .ok (.iload_n 2, 1) := dq_144.1
theorem dX4_noteEdges_52 : decode cX4_noteEdges 52 = .ok (.iconst 4, 1) := dq_144.2.1
theorem dX4_noteEdges_53 : decode cX4_noteEdges 53 = .ok (.iload_n 3, 1) := dq_144.2.2.1
theorem dX4_noteEdges_54 : decode cX4_noteEdges 54 = .ok (.imul, 1) := dq_144.2.2.2.1
theorem dX4_noteEdges_55 : decode cX4_noteEdges 55 = .ok (.invokestatic 66, 3) := dq_144.2.2.2.2.1
theorem dX4_noteEdges_58 : decode cX4_noteEdges 58 = .ok (.iastore, 1) := dq_144.2.2.2.2.2.1
theorem dX4_noteEdges_59 : decode cX4_noteEdges 59 = .ok (.aload_n 0, 1) := dq_144.2.2.2.2.2.2.1
theorem dX4_noteEdges_60 : decode cX4_noteEdges 60 = .ok (.getfield 18, 3) := dq_144.2.2.2.2.2.2.2.1
theorem dX4_noteEdges_63 : decode cX4_noteEdges 63 = .ok (.iload 4, 2) := dq_144.2.2.2.2.2.2.2.2.1
theorem dX4_noteEdges_65 : decode cX4_noteEdges 65 = .ok (.bipush 8, 2) := dq_144.2.2.2.2.2.2.2.2.2.1
theorem dX4_noteEdges_67 : decode cX4_noteEdges 67 = .ok (.iadd, 1) := dq_144.2.2.2.2.2.2.2.2.2.2.1
theorem dX4_noteEdges_68 : decode cX4_noteEdges 68 = .ok (.aload_n 1, 1) := dq_144.2.2.2.2.2.2.2.2.2.2.2
theorem dq_145 : decode cX4_noteEdges 69 = .ok (.iload_n 2, 1) ∧ decode cX4_noteEdges 70 = .ok (.bipush 12, 2) ∧ decode cX4_noteEdges 72 = .ok (.iload_n 3, 1) ∧ decode cX4_noteEdges 73 = .ok (.iadd, 1) ∧ decode cX4_noteEdges 74 = .ok (.invokestatic 66, 3) ∧ decode cX4_noteEdges 77 = .ok (.iastore, 1) ∧ decode cX4_noteEdges 78 = .ok (.aload_n 0, 1) ∧ decode cX4_noteEdges 79 = .ok (.getfield 18, 3) ∧ decode cX4_noteEdges 82 = .ok (.iload 4, 2) ∧ decode cX4_noteEdges 84 = .ok (.bipush 12, 2) ∧ decode cX4_noteEdges 86 = .ok (.iadd, 1) ∧ decode cX4_noteEdges 87 = .ok (.aload_n 1, 1) := by decide +kernel
theorem dX4_noteEdges_69 : decode cX4_noteEdges 69 = .ok (.iload_n 2, 1) := dq_145.1
theorem dX4_noteEdges_70 : decode cX4_noteEdges 70 = .ok (.bipush 12, 2) := dq_145.2.1
theorem dX4_noteEdges_72 : decode cX4_noteEdges 72 = .ok (.iload_n 3, 1) := dq_145.2.2.1
theorem dX4_noteEdges_73 : decode cX4_noteEdges 73 = .ok (.iadd, 1) := dq_145.2.2.2.1
theorem dX4_noteEdges_74 : decode cX4_noteEdges 74 = .ok (.invokestatic 66, 3) := dq_145.2.2.2.2.1
theorem dX4_noteEdges_77 : decode cX4_noteEdges 77 = .ok (.iastore, 1) := dq_145.2.2.2.2.2.1
theorem dX4_noteEdges_78 : decode cX4_noteEdges 78 = .ok (.aload_n 0, 1) := dq_145.2.2.2.2.2.2.1
theorem dX4_noteEdges_79 : decode cX4_noteEdges 79 = .ok (.getfield 18, 3) := dq_145.2.2.2.2.2.2.2.1
theorem dX4_noteEdges_82 : decode cX4_noteEdges 82 = .ok (.iload 4, 2) := dq_145.2.2.2.2.2.2.2.2.1
theorem dX4_noteEdges_84 : decode cX4_noteEdges 84 = .ok (.bipush 12, 2) := dq_145.2.2.2.2.2.2.2.2.2.1
theorem dX4_noteEdges_86 : decode cX4_noteEdges 86 = .ok (.iadd, 1) := dq_145.2.2.2.2.2.2.2.2.2.2.1
theorem dX4_noteEdges_87 : decode cX4_noteEdges 87 = .ok (.aload_n 1, 1) := dq_145.2.2.2.2.2.2.2.2.2.2.2
theorem dq_146 : decode cX4_noteEdges 88 = .ok (.iload_n 2, 1) ∧ decode cX4_noteEdges 89 = .ok (.iload_n 3, 1) ∧ decode cX4_noteEdges 90 = .ok (.invokestatic 66, 3) ∧ decode cX4_noteEdges 93 = .ok (.iastore, 1) ∧ decode cX4_noteEdges 94 = .ok (.iinc 3 1, 3) ∧ decode cX4_noteEdges 97 = .ok (.goto (-87), 3) ∧ decode cX4_noteEdges 100 = .ok (.iinc 2 1, 3) ∧ decode cX4_noteEdges 103 = .ok (.goto (-101), 3) ∧ decode cX4_noteEdges 106 = .ok (.return_, 1) := by decide +kernel
theorem dX4_noteEdges_88 : decode cX4_noteEdges 88 = .ok (.iload_n 2, 1) := dq_146.1
theorem dX4_noteEdges_89 : decode cX4_noteEdges 89 = .ok (.iload_n 3, 1) := dq_146.2.1
theorem dX4_noteEdges_90 : decode cX4_noteEdges 90 = .ok (.invokestatic 66, 3) := dq_146.2.2.1
theorem dX4_noteEdges_93 : decode cX4_noteEdges 93 = .ok (.iastore, 1) := dq_146.2.2.2.1
theorem dX4_noteEdges_94 : decode cX4_noteEdges 94 = .ok (.iinc 3 1, 3) := dq_146.2.2.2.2.1
theorem dX4_noteEdges_97 : decode cX4_noteEdges 97 = .ok (.goto (-87), 3) := dq_146.2.2.2.2.2.1
theorem dX4_noteEdges_100 : decode cX4_noteEdges 100 = .ok (.iinc 2 1, 3) := dq_146.2.2.2.2.2.2.1
theorem dX4_noteEdges_103 : decode cX4_noteEdges 103 = .ok (.goto (-101), 3) := dq_146.2.2.2.2.2.2.2.1
theorem dX4_noteEdges_106 : decode cX4_noteEdges 106 = .ok (.return_, 1) := dq_146.2.2.2.2.2.2.2.2
theorem dq_147 : decode cX4_colourOf 0 = .ok (.aload_n 0, 1) ∧ decode cX4_colourOf 1 = .ok (.iload_n 1, 1) ∧ decode cX4_colourOf 2 = .ok (.iconst 2, 1) ∧ decode cX4_colourOf 3 = .ok (.ishr, 1) ∧ decode cX4_colourOf 4 = .ok (.iload_n 1, 1) ∧ decode cX4_colourOf 5 = .ok (.iconst 3, 1) ∧ decode cX4_colourOf 6 = .ok (.iand, 1) ∧ decode cX4_colourOf 7 = .ok (.iload_n 2, 1) ∧ decode cX4_colourOf 8 = .ok (.iconst 4, 1) ∧ decode cX4_colourOf 9 = .ok (.invokestatic 70, 3) ∧ decode cX4_colourOf 12 = .ok (.invokestatic 74, 3) ∧ decode cX4_colourOf 15 = .ok (.invokevirtual 77, 3) := by decide +kernel
theorem dX4_colourOf_0 : decode cX4_colourOf 0 = .ok (.aload_n 0, 1) := dq_147.1
theorem dX4_colourOf_1 : decode cX4_colourOf 1 = .ok (.iload_n 1, 1) := dq_147.2.1
theorem dX4_colourOf_2 : decode cX4_colourOf 2 = .ok (.iconst 2, 1) := dq_147.2.2.1
theorem dX4_colourOf_3 : decode cX4_colourOf 3 = .ok (.ishr, 1) := dq_147.2.2.2.1
theorem dX4_colourOf_4 : decode cX4_colourOf 4 = .ok (.iload_n 1, 1) := dq_147.2.2.2.2.1
theorem dX4_colourOf_5 : decode cX4_colourOf 5 = .ok (.iconst 3, 1) := dq_147.2.2.2.2.2.1
theorem dX4_colourOf_6 : decode cX4_colourOf 6 = .ok (.iand, 1) := dq_147.2.2.2.2.2.2.1
theorem dX4_colourOf_7 : decode cX4_colourOf 7 = .ok (.iload_n 2, 1) := dq_147.2.2.2.2.2.2.2.1
theorem dX4_colourOf_8 : decode cX4_colourOf 8 = .ok (.iconst 4, 1) := dq_147.2.2.2.2.2.2.2.2.1
theorem dX4_colourOf_9 : decode cX4_colourOf 9 = .ok (.invokestatic 70, 3) := dq_147.2.2.2.2.2.2.2.2.2.1
theorem dX4_colourOf_12 : decode cX4_colourOf 12 = .ok (.invokestatic 74, 3) := dq_147.2.2.2.2.2.2.2.2.2.2.1
theorem dX4_colourOf_15 : decode cX4_colourOf 15 = .ok (.invokevirtual 77, 3) := dq_147.2.2.2.2.2.2.2.2.2.2.2
theorem dX4_colourOf_18 : decode cX4_colourOf 18 = .ok (.ireturn, 1) := by decide +kernel
theorem dq_149 : decode cX4_matchEdges 0 = .ok (.iconst 0, 1) ∧ decode cX4_matchEdges 1 = .ok (.istore_n 1, 1) ∧ decode cX4_matchEdges 2 = .ok (.iload_n 1, 1) ∧ decode cX4_matchEdges 3 = .ok (.bipush 16, 2) ∧ decode cX4_matchEdges 5 = .ok (.if_icmp .ge 76, 3) ∧ decode cX4_matchEdges 8 = .ok (.iconst 0, 1) ∧ decode cX4_matchEdges 9 = .ok (.istore_n 2, 1) ∧ decode cX4_matchEdges 10 = .ok (.iload_n 2, 1) ∧ decode cX4_matchEdges 11 = .ok (.bipush 16, 2) ∧ decode cX4_matchEdges 13 = .ok (.if_icmp .ge 62, 3) ∧ decode cX4_matchEdges 16 = .ok (.iload_n 1, 1) ∧ decode cX4_matchEdges 17 = .ok (.bipush 16, 2) := by decide +kernel
theorem dX4_matchEdges_0 : decode cX4_matchEdges 0 = .ok (.iconst 0, 1) := dq_149.1
theorem dX4_matchEdges_1 : decode cX4_matchEdges 1 = .ok (.istore_n 1, 1) := dq_149.2.1
theorem dX4_matchEdges_2 : decode cX4_matchEdges 2 = .ok (.iload_n 1, 1) := dq_149.2.2.1
theorem dX4_matchEdges_3 : decode cX4_matchEdges 3 = .ok (.bipush 16, 2) := dq_149.2.2.2.1
theorem dX4_matchEdges_5 : decode cX4_matchEdges 5 = .ok (.if_icmp .ge 76, 3) := dq_149.2.2.2.2.1
theorem dX4_matchEdges_8 : decode cX4_matchEdges 8 = .ok (.iconst 0, 1) := dq_149.2.2.2.2.2.1
theorem dX4_matchEdges_9 : decode cX4_matchEdges 9 = .ok (.istore_n 2, 1) := dq_149.2.2.2.2.2.2.1
theorem dX4_matchEdges_10 : decode cX4_matchEdges 10 = .ok (.iload_n 2, 1) := dq_149.2.2.2.2.2.2.2.1
theorem dX4_matchEdges_11 : decode cX4_matchEdges 11 = .ok (.bipush 16, 2) := dq_149.2.2.2.2.2.2.2.2.1
theorem dX4_matchEdges_13 : decode cX4_matchEdges 13 = .ok (.if_icmp .ge 62, 3) := dq_149.2.2.2.2.2.2.2.2.2.1
theorem dX4_matchEdges_16 : decode cX4_matchEdges 16 = .ok (.iload_n 1, 1) := dq_149.2.2.2.2.2.2.2.2.2.2.1
theorem dX4_matchEdges_17 : decode cX4_matchEdges 17 = .ok (.bipush 16, 2) := dq_149.2.2.2.2.2.2.2.2.2.2.2
theorem dq_150 : decode cX4_matchEdges 19 = .ok (.imul, 1) ∧ decode cX4_matchEdges 20 = .ok (.iload_n 2, 1) ∧ decode cX4_matchEdges 21 = .ok (.iadd, 1) ∧ decode cX4_matchEdges 22 = .ok (.istore_n 3, 1) ∧ decode cX4_matchEdges 23 = .ok (.aload_n 0, 1) ∧ decode cX4_matchEdges 24 = .ok (.getfield 11, 3) ∧ decode cX4_matchEdges 27 = .ok (.iload_n 3, 1) ∧ decode cX4_matchEdges 28 = .ok (.aload_n 0, 1) ∧ decode cX4_matchEdges 29 = .ok (.iload_n 1, 1) ∧ decode cX4_matchEdges 30 = .ok (.bipush 16, 2) ∧ decode cX4_matchEdges 32 = .ok (.imul, 1) ∧ decode cX4_matchEdges 33 = .ok (.iconst 0, 1) := by decide +kernel
theorem dX4_matchEdges_19 : decode cX4_matchEdges 19 = .ok (.imul, 1) := dq_150.1
theorem dX4_matchEdges_20 : decode cX4_matchEdges 20 = .ok (.iload_n 2, 1) := dq_150.2.1
theorem dX4_matchEdges_21 : decode cX4_matchEdges 21 = .ok (.iadd, 1) := dq_150.2.2.1
theorem dX4_matchEdges_22 : decode cX4_matchEdges 22 = .ok (.istore_n 3, 1) := dq_150.2.2.2.1
theorem dX4_matchEdges_23 : decode cX4_matchEdges 23 = .ok (.aload_n 0, 1) := dq_150.2.2.2.2.1
theorem dX4_matchEdges_24 : decode cX4_matchEdges 24 = .ok (.getfield 11, 3) := dq_150.2.2.2.2.2.1
theorem dX4_matchEdges_27 : decode cX4_matchEdges 27 = .ok (.iload_n 3, 1) := dq_150.2.2.2.2.2.2.1
theorem dX4_matchEdges_28 : decode cX4_matchEdges 28 = .ok (.aload_n 0, 1) := dq_150.2.2.2.2.2.2.2.1
theorem dX4_matchEdges_29 : decode cX4_matchEdges 29 = .ok (.iload_n 1, 1) := dq_150.2.2.2.2.2.2.2.2.1
theorem dX4_matchEdges_30 : decode cX4_matchEdges 30 = .ok (.bipush 16, 2) := dq_150.2.2.2.2.2.2.2.2.2.1
theorem dX4_matchEdges_32 : decode cX4_matchEdges 32 = .ok (.imul, 1) := dq_150.2.2.2.2.2.2.2.2.2.2.1
theorem dX4_matchEdges_33 : decode cX4_matchEdges 33 = .ok (.iconst 0, 1) := dq_150.2.2.2.2.2.2.2.2.2.2.2
theorem dq_151 : decode cX4_matchEdges 34 = .ok (.iadd, 1) ∧ decode cX4_matchEdges 35 = .ok (.iload_n 2, 1) ∧ decode cX4_matchEdges 36 = .ok (.bipush 16, 2) ∧ decode cX4_matchEdges 38 = .ok (.imul, 1) ∧ decode cX4_matchEdges 39 = .ok (.iconst 4, 1) ∧ decode cX4_matchEdges 40 = .ok (.iadd, 1) ∧ decode cX4_matchEdges 41 = .ok (.invokevirtual 81, 3) ∧ decode cX4_matchEdges 44 = .ok (.iastore, 1) ∧ decode cX4_matchEdges 45 = .ok (.aload_n 0, 1) ∧ decode cX4_matchEdges 46 = .ok (.getfield 15, 3) ∧ decode cX4_matchEdges 49 = .ok (.iload_n 3, 1) ∧ decode cX4_matchEdges 50 = .ok (.aload_n 0, 1) := by decide +kernel
theorem dX4_matchEdges_34 : decode cX4_matchEdges 34 = .ok (.iadd, 1) := dq_151.1
theorem dX4_matchEdges_35 : decode cX4_matchEdges 35 = .ok (.iload_n 2, 1) := dq_151.2.1
theorem dX4_matchEdges_36 : decode cX4_matchEdges 36 = .ok (.bipush 16, 2) := dq_151.2.2.1
theorem dX4_matchEdges_38 : decode cX4_matchEdges 38 = .ok (.imul, 1) := dq_151.2.2.2.1
theorem dX4_matchEdges_39 : decode cX4_matchEdges 39 = .ok (.iconst 4, 1) := dq_151.2.2.2.2.1
theorem dX4_matchEdges_40 : decode cX4_matchEdges 40 = .ok (.iadd, 1) := dq_151.2.2.2.2.2.1
theorem dX4_matchEdges_41 : decode cX4_matchEdges 41 = .ok (.invokevirtual 81, 3) := dq_151.2.2.2.2.2.2.1
theorem dX4_matchEdges_44 : decode cX4_matchEdges 44 = .ok (.iastore, 1) := dq_151.2.2.2.2.2.2.2.1
theorem dX4_matchEdges_45 : decode cX4_matchEdges 45 = .ok (.aload_n 0, 1) := dq_151.2.2.2.2.2.2.2.2.1
theorem dX4_matchEdges_46 : decode cX4_matchEdges 46 = .ok (.getfield 15, 3) := dq_151.2.2.2.2.2.2.2.2.2.1
theorem dX4_matchEdges_49 : decode cX4_matchEdges 49 = .ok (.iload_n 3, 1) := dq_151.2.2.2.2.2.2.2.2.2.2.1
theorem dX4_matchEdges_50 : decode cX4_matchEdges 50 = .ok (.aload_n 0, 1) := dq_151.2.2.2.2.2.2.2.2.2.2.2
theorem dq_152 : decode cX4_matchEdges 51 = .ok (.iload_n 1, 1) ∧ decode cX4_matchEdges 52 = .ok (.bipush 16, 2) ∧ decode cX4_matchEdges 54 = .ok (.imul, 1) ∧ decode cX4_matchEdges 55 = .ok (.bipush 8, 2) ∧ decode cX4_matchEdges 57 = .ok (.iadd, 1) ∧ decode cX4_matchEdges 58 = .ok (.iload_n 2, 1) ∧ decode cX4_matchEdges 59 = .ok (.bipush 16, 2) ∧ decode cX4_matchEdges 61 = .ok (.imul, 1) ∧ decode cX4_matchEdges 62 = .ok (.bipush 12, 2) ∧ decode cX4_matchEdges 64 = .ok (.iadd, 1) ∧ decode cX4_matchEdges 65 = .ok (.invokevirtual 81, 3) ∧ decode cX4_matchEdges 68 = .ok (.iastore, 1) := by decide +kernel
theorem dX4_matchEdges_51 : decode cX4_matchEdges 51 = .ok (.iload_n 1, 1) := dq_152.1
theorem dX4_matchEdges_52 : decode cX4_matchEdges 52 = .ok (.bipush 16, 2) := dq_152.2.1
theorem dX4_matchEdges_54 : decode cX4_matchEdges 54 = .ok (.imul, 1) := dq_152.2.2.1
theorem dX4_matchEdges_55 : decode cX4_matchEdges 55 = .ok (.bipush 8, 2) := dq_152.2.2.2.1
theorem dX4_matchEdges_57 : decode cX4_matchEdges 57 = .ok (.iadd, 1) := dq_152.2.2.2.2.1
theorem dX4_matchEdges_58 : decode cX4_matchEdges 58 = .ok (.iload_n 2, 1) := dq_152.2.2.2.2.2.1
theorem dX4_matchEdges_59 : decode cX4_matchEdges 59 = .ok (.bipush 16, 2) := dq_152.2.2.2.2.2.2.1
theorem dX4_matchEdges_61 : decode cX4_matchEdges 61 = .ok (.imul, 1) := dq_152.2.2.2.2.2.2.2.1
theorem dX4_matchEdges_62 : decode cX4_matchEdges 62 = .ok (.bipush 12, 2) := dq_152.2.2.2.2.2.2.2.2.1
theorem dX4_matchEdges_64 : decode cX4_matchEdges 64 = .ok (.iadd, 1) := dq_152.2.2.2.2.2.2.2.2.2.1
theorem dX4_matchEdges_65 : decode cX4_matchEdges 65 = .ok (.invokevirtual 81, 3) := dq_152.2.2.2.2.2.2.2.2.2.2.1
theorem dX4_matchEdges_68 : decode cX4_matchEdges 68 = .ok (.iastore, 1) := dq_152.2.2.2.2.2.2.2.2.2.2.2
theorem dq_153 : decode cX4_matchEdges 69 = .ok (.iinc 2 1, 3) ∧ decode cX4_matchEdges 72 = .ok (.goto (-62), 3) ∧ decode cX4_matchEdges 75 = .ok (.iinc 1 1, 3) ∧ decode cX4_matchEdges 78 = .ok (.goto (-76), 3) ∧ decode cX4_matchEdges 81 = .ok (.return_, 1) := by decide +kernel
theorem dX4_matchEdges_69 : decode cX4_matchEdges 69 = .ok (.iinc 2 1, 3) := dq_153.1
theorem dX4_matchEdges_72 : decode cX4_matchEdges 72 = .ok (.goto (-62), 3) := dq_153.2.1
theorem dX4_matchEdges_75 : decode cX4_matchEdges 75 = .ok (.iinc 1 1, 3) := dq_153.2.2.1
theorem dX4_matchEdges_78 : decode cX4_matchEdges 78 = .ok (.goto (-76), 3) := dq_153.2.2.2.1
theorem dX4_matchEdges_81 : decode cX4_matchEdges 81 = .ok (.return_, 1) := dq_153.2.2.2.2
theorem dq_154 : decode cX4_alike 0 = .ok (.iconst 0, 1) ∧ decode cX4_alike 1 = .ok (.istore_n 3, 1) ∧ decode cX4_alike 2 = .ok (.iconst 0, 1) ∧ decode cX4_alike 3 = .ok (.istore 4, 2) ∧ decode cX4_alike 5 = .ok (.iload 4, 2) ∧ decode cX4_alike 7 = .ok (.iconst 4, 1) ∧ decode cX4_alike 8 = .ok (.if_icmp .ge 43, 3) ∧ decode cX4_alike 11 = .ok (.aload_n 0, 1) ∧ decode cX4_alike 12 = .ok (.getfield 18, 3) ∧ decode cX4_alike 15 = .ok (.iload_n 1, 1) ∧ decode cX4_alike 16 = .ok (.iload 4, 2) ∧ decode cX4_alike 18 = .ok (.iadd, 1) := by decide +kernel
theorem dX4_alike_0 : decode cX4_alike 0 = .ok (.iconst 0, 1) := dq_154.1
theorem dX4_alike_1 : decode cX4_alike 1 = .ok (.istore_n 3, 1) := dq_154.2.1
theorem dX4_alike_2 : decode cX4_alike 2 = .ok (.iconst 0, 1) := dq_154.2.2.1
theorem dX4_alike_3 : decode cX4_alike 3 = .ok (.istore 4, 2) := dq_154.2.2.2.1
theorem dX4_alike_5 : decode cX4_alike 5 = .ok (.iload 4, 2) := dq_154.2.2.2.2.1
theorem dX4_alike_7 : decode cX4_alike 7 = .ok (.iconst 4, 1) := dq_154.2.2.2.2.2.1
theorem dX4_alike_8 : decode cX4_alike 8 = .ok (.if_icmp .ge 43, 3) := dq_154.2.2.2.2.2.2.1
theorem dX4_alike_11 : decode cX4_alike 11 = .ok (.aload_n 0, 1) := dq_154.2.2.2.2.2.2.2.1
theorem dX4_alike_12 : decode cX4_alike 12 = .ok (.getfield 18, 3) := dq_154.2.2.2.2.2.2.2.2.1
theorem dX4_alike_15 : decode cX4_alike 15 = .ok (.iload_n 1, 1) := dq_154.2.2.2.2.2.2.2.2.2.1
theorem dX4_alike_16 : decode cX4_alike 16 = .ok (.iload 4, 2) := dq_154.2.2.2.2.2.2.2.2.2.2.1
theorem dX4_alike_18 : decode cX4_alike 18 = .ok (.iadd, 1) := dq_154.2.2.2.2.2.2.2.2.2.2.2
theorem dq_155 : decode cX4_alike 19 = .ok (.iaload, 1) ∧ decode cX4_alike 20 = .ok (.istore 5, 2) ∧ decode cX4_alike 22 = .ok (.iload 5, 2) ∧ decode cX4_alike 24 = .ok (.iconst (-1), 1) ∧ decode cX4_alike 25 = .ok (.if_icmp .eq 20, 3) ∧ decode cX4_alike 28 = .ok (.iload 5, 2) ∧ decode cX4_alike 30 = .ok (.aload_n 0, 1) ∧ decode cX4_alike 31 = .ok (.getfield 18, 3) ∧ decode cX4_alike 34 = .ok (.iload_n 2, 1) ∧ decode cX4_alike 35 = .ok (.iload 4, 2) ∧ decode cX4_alike 37 = .ok (.iadd, 1) ∧ decode cX4_alike 38 = .ok (.iaload, 1) := by decide +kernel
theorem dX4_alike_19 : decode cX4_alike 19 = .ok (.iaload, 1) := dq_155.1
theorem dX4_alike_20 : decode cX4_alike 20 = .ok (.istore 5, 2) := dq_155.2.1
theorem dX4_alike_22 : decode cX4_alike 22 = .ok (.iload 5, 2) := dq_155.2.2.1
theorem dX4_alike_24 : decode cX4_alike 24 = .ok (.iconst (-1), 1) := dq_155.2.2.2.1
theorem dX4_alike_25 : decode cX4_alike 25 = .ok (.if_icmp .eq 20, 3) := dq_155.2.2.2.2.1
theorem dX4_alike_28 : decode cX4_alike 28 = .ok (.iload 5, 2) := dq_155.2.2.2.2.2.1
theorem dX4_alike_30 : decode cX4_alike 30 = .ok (.aload_n 0, 1) := dq_155.2.2.2.2.2.2.1
theorem dX4_alike_31 : decode cX4_alike 31 = .ok (.getfield 18, 3) := dq_155.2.2.2.2.2.2.2.1
theorem dX4_alike_34 : decode cX4_alike 34 = .ok (.iload_n 2, 1) := dq_155.2.2.2.2.2.2.2.2.1
theorem dX4_alike_35 : decode cX4_alike 35 = .ok (.iload 4, 2) := dq_155.2.2.2.2.2.2.2.2.2.1
theorem dX4_alike_37 : decode cX4_alike 37 = .ok (.iadd, 1) := dq_155.2.2.2.2.2.2.2.2.2.2.1
theorem dX4_alike_38 : decode cX4_alike 38 = .ok (.iaload, 1) := dq_155.2.2.2.2.2.2.2.2.2.2.2
theorem dq_156 : decode cX4_alike 39 = .ok (.if_icmp .ne 6, 3) ∧ decode cX4_alike 42 = .ok (.iinc 3 1, 3) ∧ decode cX4_alike 45 = .ok (.iinc 4 1, 3) ∧ decode cX4_alike 48 = .ok (.goto (-43), 3) ∧ decode cX4_alike 51 = .ok (.iload_n 3, 1) ∧ decode cX4_alike 52 = .ok (.ireturn, 1) := by decide +kernel
theorem dX4_alike_39 : decode cX4_alike 39 = .ok (.if_icmp .ne 6, 3) := dq_156.1
theorem dX4_alike_42 : decode cX4_alike 42 = .ok (.iinc 3 1, 3) := dq_156.2.1
theorem dX4_alike_45 : decode cX4_alike 45 = .ok (.iinc 4 1, 3) := dq_156.2.2.1
theorem dX4_alike_48 : decode cX4_alike 48 = .ok (.goto (-43), 3) := dq_156.2.2.2.1
theorem dX4_alike_51 : decode cX4_alike 51 = .ok (.iload_n 3, 1) := dq_156.2.2.2.2.1
theorem dX4_alike_52 : decode cX4_alike 52 = .ok (.ireturn, 1) := dq_156.2.2.2.2.2
theorem dq_157 : decode cX4_weighTurns 0 = .ok (.iload_n 1, 1) ∧ decode cX4_weighTurns 1 = .ok (.iconst 0, 1) ∧ decode cX4_weighTurns 2 = .ok (.invokestatic 29, 3) ∧ decode cX4_weighTurns 5 = .ok (.iconst 4, 1) ∧ decode cX4_weighTurns 6 = .ok (.imul, 1) ∧ decode cX4_weighTurns 7 = .ok (.istore_n 2, 1) ∧ decode cX4_weighTurns 8 = .ok (.iload_n 1, 1) ∧ decode cX4_weighTurns 9 = .ok (.iconst 1, 1) ∧ decode cX4_weighTurns 10 = .ok (.invokestatic 29, 3) ∧ decode cX4_weighTurns 13 = .ok (.iconst 4, 1) ∧ decode cX4_weighTurns 14 = .ok (.imul, 1) ∧ decode cX4_weighTurns 15 = .ok (.istore_n 3, 1) := by decide +kernel
theorem dX4_weighTurns_0 : decode cX4_weighTurns 0 = .ok (.iload_n 1, 1) := dq_157.1
theorem dX4_weighTurns_1 : decode cX4_weighTurns 1 = .ok (.iconst 0, 1) := dq_157.2.1
theorem dX4_weighTurns_2 : decode cX4_weighTurns 2 = .ok (.invokestatic 29, 3) := dq_157.2.2.1
theorem dX4_weighTurns_5 : decode cX4_weighTurns 5 = .ok (.iconst 4, 1) := dq_157.2.2.2.1
theorem dX4_weighTurns_6 : decode cX4_weighTurns 6 = .ok (.imul, 1) := dq_157.2.2.2.2.1
theorem dX4_weighTurns_7 : decode cX4_weighTurns 7 = .ok (.istore_n 2, 1) := dq_157.2.2.2.2.2.1
theorem dX4_weighTurns_8 : decode cX4_weighTurns 8 = .ok (.iload_n 1, 1) := dq_157.2.2.2.2.2.2.1
theorem dX4_weighTurns_9 : decode cX4_weighTurns 9 = .ok (.iconst 1, 1) := dq_157.2.2.2.2.2.2.2.1
theorem dX4_weighTurns_10 : decode cX4_weighTurns 10 = .ok (.invokestatic 29, 3) := dq_157.2.2.2.2.2.2.2.2.1
theorem dX4_weighTurns_13 : decode cX4_weighTurns 13 = .ok (.iconst 4, 1) := dq_157.2.2.2.2.2.2.2.2.2.1
theorem dX4_weighTurns_14 : decode cX4_weighTurns 14 = .ok (.imul, 1) := dq_157.2.2.2.2.2.2.2.2.2.2.1
theorem dX4_weighTurns_15 : decode cX4_weighTurns 15 = .ok (.istore_n 3, 1) := dq_157.2.2.2.2.2.2.2.2.2.2.2
theorem dq_158 : decode cX4_weighTurns 16 = .ok (.iload_n 1, 1) ∧ decode cX4_weighTurns 17 = .ok (.iconst 2, 1) ∧ decode cX4_weighTurns 18 = .ok (.invokestatic 29, 3) ∧ decode cX4_weighTurns 21 = .ok (.iconst 4, 1) ∧ decode cX4_weighTurns 22 = .ok (.imul, 1) ∧ decode cX4_weighTurns 23 = .ok (.istore 4, 2) ∧ decode cX4_weighTurns 25 = .ok (.iload_n 1, 1) ∧ decode cX4_weighTurns 26 = .ok (.iconst 3, 1) ∧ decode cX4_weighTurns 27 = .ok (.invokestatic 29, 3) ∧ decode cX4_weighTurns 30 = .ok (.iconst 4, 1) ∧ decode cX4_weighTurns 31 = .ok (.imul, 1) ∧ decode cX4_weighTurns 32 = .ok (.istore 5, 2) := by decide +kernel
theorem dX4_weighTurns_16 : decode cX4_weighTurns 16 = .ok (.iload_n 1, 1) := dq_158.1
theorem dX4_weighTurns_17 : decode cX4_weighTurns 17 = .ok (.iconst 2, 1) := dq_158.2.1
theorem dX4_weighTurns_18 : decode cX4_weighTurns 18 = .ok (.invokestatic 29, 3) := dq_158.2.2.1
theorem dX4_weighTurns_21 : decode cX4_weighTurns 21 = .ok (.iconst 4, 1) := dq_158.2.2.2.1
theorem dX4_weighTurns_22 : decode cX4_weighTurns 22 = .ok (.imul, 1) := dq_158.2.2.2.2.1
theorem dX4_weighTurns_23 : decode cX4_weighTurns 23 = .ok (.istore 4, 2) := dq_158.2.2.2.2.2.1
theorem dX4_weighTurns_25 : decode cX4_weighTurns 25 = .ok (.iload_n 1, 1) := dq_158.2.2.2.2.2.2.1
theorem dX4_weighTurns_26 : decode cX4_weighTurns 26 = .ok (.iconst 3, 1) := dq_158.2.2.2.2.2.2.2.1
theorem dX4_weighTurns_27 : decode cX4_weighTurns 27 = .ok (.invokestatic 29, 3) := dq_158.2.2.2.2.2.2.2.2.1
theorem dX4_weighTurns_30 : decode cX4_weighTurns 30 = .ok (.iconst 4, 1) := dq_158.2.2.2.2.2.2.2.2.2.1
theorem dX4_weighTurns_31 : decode cX4_weighTurns 31 = .ok (.imul, 1) := dq_158.2.2.2.2.2.2.2.2.2.2.1
theorem dX4_weighTurns_32 : decode cX4_weighTurns 32 = .ok (.istore 5, 2) := dq_158.2.2.2.2.2.2.2.2.2.2.2
theorem dq_159 : decode cX4_weighTurns 34 = .ok (.iconst 0, 1) ∧ decode cX4_weighTurns 35 = .ok (.istore 6, 2) ∧ decode cX4_weighTurns 37 = .ok (.iload 6, 2) ∧ decode cX4_weighTurns 39 = .ok (.bipush 16, 2) ∧ decode cX4_weighTurns 41 = .ok (.if_icmp .ge 176, 3) ∧ decode cX4_weighTurns 44 = .ok (.iload_n 2, 1) ∧ decode cX4_weighTurns 45 = .ok (.iload 6, 2) ∧ decode cX4_weighTurns 47 = .ok (.iconst 2, 1) ∧ decode cX4_weighTurns 48 = .ok (.ishr, 1) ∧ decode cX4_weighTurns 49 = .ok (.iadd, 1) ∧ decode cX4_weighTurns 50 = .ok (.istore 7, 2) ∧ decode cX4_weighTurns 52 = .ok (.iload_n 3, 1) := by decide +kernel
theorem dX4_weighTurns_34 : decode cX4_weighTurns 34 = .ok (.iconst 0, 1) := dq_159.1
theorem dX4_weighTurns_35 : decode cX4_weighTurns 35 = .ok (.istore 6, 2) := dq_159.2.1
theorem dX4_weighTurns_37 : decode cX4_weighTurns 37 = .ok (.iload 6, 2) := dq_159.2.2.1
theorem dX4_weighTurns_39 : decode cX4_weighTurns 39 = .ok (.bipush 16, 2) := dq_159.2.2.2.1
theorem dX4_weighTurns_41 : decode cX4_weighTurns 41 = .ok (.if_icmp .ge 176, 3) := dq_159.2.2.2.2.1
theorem dX4_weighTurns_44 : decode cX4_weighTurns 44 = .ok (.iload_n 2, 1) := dq_159.2.2.2.2.2.1
theorem dX4_weighTurns_45 : decode cX4_weighTurns 45 = .ok (.iload 6, 2) := dq_159.2.2.2.2.2.2.1
theorem dX4_weighTurns_47 : decode cX4_weighTurns 47 = .ok (.iconst 2, 1) := dq_159.2.2.2.2.2.2.2.1
theorem dX4_weighTurns_48 : decode cX4_weighTurns 48 = .ok (.ishr, 1) := dq_159.2.2.2.2.2.2.2.2.1
theorem dX4_weighTurns_49 : decode cX4_weighTurns 49 = .ok (.iadd, 1) := dq_159.2.2.2.2.2.2.2.2.2.1
theorem dX4_weighTurns_50 : decode cX4_weighTurns 50 = .ok (.istore 7, 2) := dq_159.2.2.2.2.2.2.2.2.2.2.1
theorem dX4_weighTurns_52 : decode cX4_weighTurns 52 = .ok (.iload_n 3, 1) := dq_159.2.2.2.2.2.2.2.2.2.2.2
theorem dq_160 : decode cX4_weighTurns 53 = .ok (.iload 6, 2) ∧ decode cX4_weighTurns 55 = .ok (.iconst 3, 1) ∧ decode cX4_weighTurns 56 = .ok (.iand, 1) ∧ decode cX4_weighTurns 57 = .ok (.iadd, 1) ∧ decode cX4_weighTurns 58 = .ok (.istore 8, 2) ∧ decode cX4_weighTurns 60 = .ok (.aload_n 0, 1) ∧ decode cX4_weighTurns 61 = .ok (.getfield 11, 3) ∧ decode cX4_weighTurns 64 = .ok (.iload 7, 2) ∧ decode cX4_weighTurns 66 = .ok (.bipush 16, 2) ∧ decode cX4_weighTurns 68 = .ok (.imul, 1) ∧ decode cX4_weighTurns 69 = .ok (.iload 8, 2) ∧ decode cX4_weighTurns 71 = .ok (.iadd, 1) := by decide +kernel
theorem dX4_weighTurns_53 : decode cX4_weighTurns 53 = .ok (.iload 6, 2) := dq_160.1
theorem dX4_weighTurns_55 : decode cX4_weighTurns 55 = .ok (.iconst 3, 1) := dq_160.2.1
theorem dX4_weighTurns_56 : decode cX4_weighTurns 56 = .ok (.iand, 1) := dq_160.2.2.1
theorem dX4_weighTurns_57 : decode cX4_weighTurns 57 = .ok (.iadd, 1) := dq_160.2.2.2.1
theorem dX4_weighTurns_58 : decode cX4_weighTurns 58 = .ok (.istore 8, 2) := dq_160.2.2.2.2.1
theorem dX4_weighTurns_60 : decode cX4_weighTurns 60 = .ok (.aload_n 0, 1) := dq_160.2.2.2.2.2.1
theorem dX4_weighTurns_61 : decode cX4_weighTurns 61 = .ok (.getfield 11, 3) := dq_160.2.2.2.2.2.2.1
theorem dX4_weighTurns_64 : decode cX4_weighTurns 64 = .ok (.iload 7, 2) := dq_160.2.2.2.2.2.2.2.1
theorem dX4_weighTurns_66 : decode cX4_weighTurns 66 = .ok (.bipush 16, 2) := dq_160.2.2.2.2.2.2.2.2.1
theorem dX4_weighTurns_68 : decode cX4_weighTurns 68 = .ok (.imul, 1) := dq_160.2.2.2.2.2.2.2.2.2.1
theorem dX4_weighTurns_69 : decode cX4_weighTurns 69 = .ok (.iload 8, 2) := dq_160.2.2.2.2.2.2.2.2.2.2.1
theorem dX4_weighTurns_71 : decode cX4_weighTurns 71 = .ok (.iadd, 1) := dq_160.2.2.2.2.2.2.2.2.2.2.2
theorem dq_161 : decode cX4_weighTurns 72 = .ok (.iaload, 1) ∧ decode cX4_weighTurns 73 = .ok (.istore 9, 2) ∧ decode cX4_weighTurns 75 = .ok (.iconst 0, 1) ∧ decode cX4_weighTurns 76 = .ok (.istore 10, 2) ∧ decode cX4_weighTurns 78 = .ok (.iload 10, 2) ∧ decode cX4_weighTurns 80 = .ok (.bipush 16, 2) ∧ decode cX4_weighTurns 82 = .ok (.if_icmp .ge 129, 3) ∧ decode cX4_weighTurns 85 = .ok (.iload 4, 2) ∧ decode cX4_weighTurns 87 = .ok (.iload 10, 2) ∧ decode cX4_weighTurns 89 = .ok (.iconst 2, 1) ∧ decode cX4_weighTurns 90 = .ok (.ishr, 1) ∧ decode cX4_weighTurns 91 = .ok (.iadd, 1) := by decide +kernel
theorem dX4_weighTurns_72 : decode cX4_weighTurns 72 = .ok (.iaload, 1) := dq_161.1
theorem dX4_weighTurns_73 : decode cX4_weighTurns 73 = .ok (.istore 9, 2) := dq_161.2.1
theorem dX4_weighTurns_75 : decode cX4_weighTurns 75 = .ok (.iconst 0, 1) := dq_161.2.2.1
theorem dX4_weighTurns_76 : decode cX4_weighTurns 76 = .ok (.istore 10, 2) := dq_161.2.2.2.1
theorem dX4_weighTurns_78 : decode cX4_weighTurns 78 = .ok (.iload 10, 2) := dq_161.2.2.2.2.1
theorem dX4_weighTurns_80 : decode cX4_weighTurns 80 = .ok (.bipush 16, 2) := dq_161.2.2.2.2.2.1
theorem dX4_weighTurns_82 : decode cX4_weighTurns 82 = .ok (.if_icmp .ge 129, 3) := dq_161.2.2.2.2.2.2.1
theorem dX4_weighTurns_85 : decode cX4_weighTurns 85 = .ok (.iload 4, 2) := dq_161.2.2.2.2.2.2.2.1
theorem dX4_weighTurns_87 : decode cX4_weighTurns 87 = .ok (.iload 10, 2) := dq_161.2.2.2.2.2.2.2.2.1
theorem dX4_weighTurns_89 : decode cX4_weighTurns 89 = .ok (.iconst 2, 1) := dq_161.2.2.2.2.2.2.2.2.2.1
theorem dX4_weighTurns_90 : decode cX4_weighTurns 90 = .ok (.ishr, 1) := dq_161.2.2.2.2.2.2.2.2.2.2.1
theorem dX4_weighTurns_91 : decode cX4_weighTurns 91 = .ok (.iadd, 1) := dq_161.2.2.2.2.2.2.2.2.2.2.2
theorem dq_162 : decode cX4_weighTurns 92 = .ok (.istore 11, 2) ∧ decode cX4_weighTurns 94 = .ok (.iload 5, 2) ∧ decode cX4_weighTurns 96 = .ok (.iload 10, 2) ∧ decode cX4_weighTurns 98 = .ok (.iconst 3, 1) ∧ decode cX4_weighTurns 99 = .ok (.iand, 1) ∧ decode cX4_weighTurns 100 = .ok (.iadd, 1) ∧ decode cX4_weighTurns 101 = .ok (.istore 12, 2) ∧ decode cX4_weighTurns 103 = .ok (.iload 9, 2) ∧ decode cX4_weighTurns 105 = .ok (.aload_n 0, 1) ∧ decode cX4_weighTurns 106 = .ok (.getfield 15, 3) ∧ decode cX4_weighTurns 109 = .ok (.iload 7, 2) ∧ decode cX4_weighTurns 111 = .ok (.bipush 16, 2) := by decide +kernel
theorem dX4_weighTurns_92 : decode cX4_weighTurns 92 = .ok (.istore 11, 2) := dq_162.1
theorem dX4_weighTurns_94 : decode cX4_weighTurns 94 = .ok (.iload 5, 2) := dq_162.2.1
theorem dX4_weighTurns_96 : decode cX4_weighTurns 96 = .ok (.iload 10, 2) := dq_162.2.2.1
theorem dX4_weighTurns_98 : decode cX4_weighTurns 98 = .ok (.iconst 3, 1) := dq_162.2.2.2.1
theorem dX4_weighTurns_99 : decode cX4_weighTurns 99 = .ok (.iand, 1) := dq_162.2.2.2.2.1
theorem dX4_weighTurns_100 : decode cX4_weighTurns 100 = .ok (.iadd, 1) := dq_162.2.2.2.2.2.1
theorem dX4_weighTurns_101 : decode cX4_weighTurns 101 = .ok (.istore 12, 2) := dq_162.2.2.2.2.2.2.1
theorem dX4_weighTurns_103 : decode cX4_weighTurns 103 = .ok (.iload 9, 2) := dq_162.2.2.2.2.2.2.2.1
theorem dX4_weighTurns_105 : decode cX4_weighTurns 105 = .ok (.aload_n 0, 1) := dq_162.2.2.2.2.2.2.2.2.1
theorem dX4_weighTurns_106 : decode cX4_weighTurns 106 = .ok (.getfield 15, 3) := dq_162.2.2.2.2.2.2.2.2.2.1
theorem dX4_weighTurns_109 : decode cX4_weighTurns 109 = .ok (.iload 7, 2) := dq_162.2.2.2.2.2.2.2.2.2.2.1
theorem dX4_weighTurns_111 : decode cX4_weighTurns 111 = .ok (.bipush 16, 2) := dq_162.2.2.2.2.2.2.2.2.2.2.2
theorem dq_163 : decode cX4_weighTurns 113 = .ok (.imul, 1) ∧ decode cX4_weighTurns 114 = .ok (.iload 11, 2) ∧ decode cX4_weighTurns 116 = .ok (.iadd, 1) ∧ decode cX4_weighTurns 117 = .ok (.iaload, 1) ∧ decode cX4_weighTurns 118 = .ok (.iadd, 1) ∧ decode cX4_weighTurns 119 = .ok (.aload_n 0, 1) ∧ decode cX4_weighTurns 120 = .ok (.getfield 15, 3) ∧ decode cX4_weighTurns 123 = .ok (.iload 8, 2) ∧ decode cX4_weighTurns 125 = .ok (.bipush 16, 2) ∧ decode cX4_weighTurns 127 = .ok (.imul, 1) ∧ decode cX4_weighTurns 128 = .ok (.iload 12, 2) ∧ decode cX4_weighTurns 130 = .ok (.iadd, 1) := by decide +kernel
theorem dX4_weighTurns_113 : decode cX4_weighTurns 113 = .ok (.imul, 1) := dq_163.1
theorem dX4_weighTurns_114 : decode cX4_weighTurns 114 = .ok (.iload 11, 2) := dq_163.2.1
theorem dX4_weighTurns_116 : decode cX4_weighTurns 116 = .ok (.iadd, 1) := dq_163.2.2.1
theorem dX4_weighTurns_117 : decode cX4_weighTurns 117 = .ok (.iaload, 1) := dq_163.2.2.2.1
theorem dX4_weighTurns_118 : decode cX4_weighTurns 118 = .ok (.iadd, 1) := dq_163.2.2.2.2.1
theorem dX4_weighTurns_119 : decode cX4_weighTurns 119 = .ok (.aload_n 0, 1) := dq_163.2.2.2.2.2.1
theorem dX4_weighTurns_120 : decode cX4_weighTurns 120 = .ok (.getfield 15, 3) := dq_163.2.2.2.2.2.2.1
theorem dX4_weighTurns_123 : decode cX4_weighTurns 123 = .ok (.iload 8, 2) := dq_163.2.2.2.2.2.2.2.1
theorem dX4_weighTurns_125 : decode cX4_weighTurns 125 = .ok (.bipush 16, 2) := dq_163.2.2.2.2.2.2.2.2.1
theorem dX4_weighTurns_127 : decode cX4_weighTurns 127 = .ok (.imul, 1) := dq_163.2.2.2.2.2.2.2.2.2.1
theorem dX4_weighTurns_128 : decode cX4_weighTurns 128 = .ok (.iload 12, 2) := dq_163.2.2.2.2.2.2.2.2.2.2.1
theorem dX4_weighTurns_130 : decode cX4_weighTurns 130 = .ok (.iadd, 1) := dq_163.2.2.2.2.2.2.2.2.2.2.2
theorem dq_164 : decode cX4_weighTurns 131 = .ok (.iaload, 1) ∧ decode cX4_weighTurns 132 = .ok (.iadd, 1) ∧ decode cX4_weighTurns 133 = .ok (.aload_n 0, 1) ∧ decode cX4_weighTurns 134 = .ok (.getfield 11, 3) ∧ decode cX4_weighTurns 137 = .ok (.iload 11, 2) ∧ decode cX4_weighTurns 139 = .ok (.bipush 16, 2) ∧ decode cX4_weighTurns 141 = .ok (.imul, 1) ∧ decode cX4_weighTurns 142 = .ok (.iload 12, 2) ∧ decode cX4_weighTurns 144 = .ok (.iadd, 1) ∧ decode cX4_weighTurns 145 = .ok (.iaload, 1) ∧ decode cX4_weighTurns 146 = .ok (.iadd, 1) ∧ decode cX4_weighTurns 147 = .ok (.istore 13, 2) := by decide +kernel
theorem dX4_weighTurns_131 : decode cX4_weighTurns 131 = .ok (.iaload, 1) := dq_164.1
theorem dX4_weighTurns_132 : decode cX4_weighTurns 132 = .ok (.iadd, 1) := dq_164.2.1
theorem dX4_weighTurns_133 : decode cX4_weighTurns 133 = .ok (.aload_n 0, 1) := dq_164.2.2.1
theorem dX4_weighTurns_134 : decode cX4_weighTurns 134 = .ok (.getfield 11, 3) := dq_164.2.2.2.1
theorem dX4_weighTurns_137 : decode cX4_weighTurns 137 = .ok (.iload 11, 2) := dq_164.2.2.2.2.1
theorem dX4_weighTurns_139 : decode cX4_weighTurns 139 = .ok (.bipush 16, 2) := dq_164.2.2.2.2.2.1
theorem dX4_weighTurns_141 : decode cX4_weighTurns 141 = .ok (.imul, 1) := dq_164.2.2.2.2.2.2.1
theorem dX4_weighTurns_142 : decode cX4_weighTurns 142 = .ok (.iload 12, 2) := dq_164.2.2.2.2.2.2.2.1
theorem dX4_weighTurns_144 : decode cX4_weighTurns 144 = .ok (.iadd, 1) := dq_164.2.2.2.2.2.2.2.2.1
theorem dX4_weighTurns_145 : decode cX4_weighTurns 145 = .ok (.iaload, 1) := dq_164.2.2.2.2.2.2.2.2.2.1
theorem dX4_weighTurns_146 : decode cX4_weighTurns 146 = .ok (.iadd, 1) := dq_164.2.2.2.2.2.2.2.2.2.2.1
theorem dX4_weighTurns_147 : decode cX4_weighTurns 147 = .ok (.istore 13, 2) := dq_164.2.2.2.2.2.2.2.2.2.2.2
theorem dq_165 : decode cX4_weighTurns 149 = .ok (.iload 13, 2) ∧ decode cX4_weighTurns 151 = .ok (.aload_n 0, 1) ∧ decode cX4_weighTurns 152 = .ok (.getfield 33, 3) ∧ decode cX4_weighTurns 155 = .ok (.if_icmp .le 31, 3) ∧ decode cX4_weighTurns 158 = .ok (.aload_n 0, 1) ∧ decode cX4_weighTurns 159 = .ok (.iload 13, 2) ∧ decode cX4_weighTurns 161 = .ok (.putfield 33, 3) ∧ decode cX4_weighTurns 164 = .ok (.aload_n 0, 1) ∧ decode cX4_weighTurns 165 = .ok (.iload_n 1, 1) ∧ decode cX4_weighTurns 166 = .ok (.putfield 36, 3) ∧ decode cX4_weighTurns 169 = .ok (.aload_n 0, 1) ∧ decode cX4_weighTurns 170 = .ok (.iload 6, 2) := by decide +kernel
theorem dX4_weighTurns_149 : decode cX4_weighTurns 149 = .ok (.iload 13, 2) := dq_165.1
theorem dX4_weighTurns_151 : decode cX4_weighTurns 151 = .ok (.aload_n 0, 1) := dq_165.2.1
theorem dX4_weighTurns_152 : decode cX4_weighTurns 152 = .ok (.getfield 33, 3) := dq_165.2.2.1
theorem dX4_weighTurns_155 : decode cX4_weighTurns 155 = .ok (.if_icmp .le 31, 3) := dq_165.2.2.2.1
theorem dX4_weighTurns_158 : decode cX4_weighTurns 158 = .ok (.aload_n 0, 1) := dq_165.2.2.2.2.1
theorem dX4_weighTurns_159 : decode cX4_weighTurns 159 = .ok (.iload 13, 2) := dq_165.2.2.2.2.2.1
theorem dX4_weighTurns_161 : decode cX4_weighTurns 161 = .ok (.putfield 33, 3) := dq_165.2.2.2.2.2.2.1
theorem dX4_weighTurns_164 : decode cX4_weighTurns 164 = .ok (.aload_n 0, 1) := dq_165.2.2.2.2.2.2.2.1
theorem dX4_weighTurns_165 : decode cX4_weighTurns 165 = .ok (.iload_n 1, 1) := dq_165.2.2.2.2.2.2.2.2.1
theorem dX4_weighTurns_166 : decode cX4_weighTurns 166 = .ok (.putfield 36, 3) := dq_165.2.2.2.2.2.2.2.2.2.1
theorem dX4_weighTurns_169 : decode cX4_weighTurns 169 = .ok (.aload_n 0, 1) := dq_165.2.2.2.2.2.2.2.2.2.2.1
theorem dX4_weighTurns_170 : decode cX4_weighTurns 170 = .ok (.iload 6, 2) := dq_165.2.2.2.2.2.2.2.2.2.2.2
theorem dq_166 : decode cX4_weighTurns 172 = .ok (.bipush 16, 2) ∧ decode cX4_weighTurns 174 = .ok (.imul, 1) ∧ decode cX4_weighTurns 175 = .ok (.iload 10, 2) ∧ decode cX4_weighTurns 177 = .ok (.iadd, 1) ∧ decode cX4_weighTurns 178 = .ok (.putfield 39, 3) ∧ decode cX4_weighTurns 181 = .ok (.aload_n 0, 1) ∧ decode cX4_weighTurns 182 = .ok (.iconst 0, 1) ∧ decode cX4_weighTurns 183 = .ok (.putfield 42, 3) ∧ decode cX4_weighTurns 186 = .ok (.iload 13, 2) ∧ decode cX4_weighTurns 188 = .ok (.aload_n 0, 1) ∧ decode cX4_weighTurns 189 = .ok (.getfield 33, 3) ∧ decode cX4_weighTurns 192 = .ok (.if_icmp .ne 13, 3) := by decide +kernel
theorem dX4_weighTurns_172 : decode cX4_weighTurns 172 = .ok (.bipush 16, 2) := dq_166.1
theorem dX4_weighTurns_174 : decode cX4_weighTurns 174 = .ok (.imul, 1) := dq_166.2.1
theorem dX4_weighTurns_175 : decode cX4_weighTurns 175 = .ok (.iload 10, 2) := dq_166.2.2.1
theorem dX4_weighTurns_177 : decode cX4_weighTurns 177 = .ok (.iadd, 1) := dq_166.2.2.2.1
theorem dX4_weighTurns_178 : decode cX4_weighTurns 178 = .ok (.putfield 39, 3) := dq_166.2.2.2.2.1
theorem dX4_weighTurns_181 : decode cX4_weighTurns 181 = .ok (.aload_n 0, 1) := dq_166.2.2.2.2.2.1
theorem dX4_weighTurns_182 : decode cX4_weighTurns 182 = .ok (.iconst 0, 1) := dq_166.2.2.2.2.2.2.1
theorem dX4_weighTurns_183 : decode cX4_weighTurns 183 = .ok (.putfield 42, 3) := dq_166.2.2.2.2.2.2.2.1
theorem dX4_weighTurns_186 : decode cX4_weighTurns 186 = .ok (.iload 13, 2) := dq_166.2.2.2.2.2.2.2.2.1
theorem dX4_weighTurns_188 : decode cX4_weighTurns 188 = .ok (.aload_n 0, 1) := dq_166.2.2.2.2.2.2.2.2.2.1
theorem dX4_weighTurns_189 : decode cX4_weighTurns 189 = .ok (.getfield 33, 3) := dq_166.2.2.2.2.2.2.2.2.2.2.1
theorem dX4_weighTurns_192 : decode cX4_weighTurns 192 = .ok (.if_icmp .ne 13, 3) := dq_166.2.2.2.2.2.2.2.2.2.2.2
theorem dq_167 : decode cX4_weighTurns 195 = .ok (.aload_n 0, 1) ∧ decode cX4_weighTurns 196 = .ok (.dup, 1) ∧ decode cX4_weighTurns 197 = .ok (.getfield 42, 3) ∧ decode cX4_weighTurns 200 = .ok (.iconst 1, 1) ∧ decode cX4_weighTurns 201 = .ok (.iadd, 1) ∧ decode cX4_weighTurns 202 = .ok (.putfield 42, 3) ∧ decode cX4_weighTurns 205 = .ok (.iinc 10 1, 3) ∧ decode cX4_weighTurns 208 = .ok (.goto (-130), 3) ∧ decode cX4_weighTurns 211 = .ok (.iinc 6 1, 3) ∧ decode cX4_weighTurns 214 = .ok (.goto (-177), 3) ∧ decode cX4_weighTurns 217 = .ok (.return_, 1) := by decide +kernel
theorem dX4_weighTurns_195 : decode cX4_weighTurns 195 = .ok (.aload_n 0, 1) := dq_167.1
theorem dX4_weighTurns_196 : decode cX4_weighTurns 196 = .ok (.dup, 1) := dq_167.2.1
theorem dX4_weighTurns_197 : decode cX4_weighTurns 197 = .ok (.getfield 42, 3) := dq_167.2.2.1
theorem dX4_weighTurns_200 : decode cX4_weighTurns 200 = .ok (.iconst 1, 1) := dq_167.2.2.2.1
theorem dX4_weighTurns_201 : decode cX4_weighTurns 201 = .ok (.iadd, 1) := dq_167.2.2.2.2.1
theorem dX4_weighTurns_202 : decode cX4_weighTurns 202 = .ok (.putfield 42, 3) := dq_167.2.2.2.2.2.1
theorem dX4_weighTurns_205 : decode cX4_weighTurns 205 = .ok (.iinc 10 1, 3) := dq_167.2.2.2.2.2.2.1
theorem dX4_weighTurns_208 : decode cX4_weighTurns 208 = .ok (.goto (-130), 3) := dq_167.2.2.2.2.2.2.2.1
theorem dX4_weighTurns_211 : decode cX4_weighTurns 211 = .ok (.iinc 6 1, 3) := dq_167.2.2.2.2.2.2.2.2.1
theorem dX4_weighTurns_214 : decode cX4_weighTurns 214 = .ok (.goto (-177), 3) := dq_167.2.2.2.2.2.2.2.2.2.1
theorem dX4_weighTurns_217 : decode cX4_weighTurns 217 = .ok (.return_, 1) := dq_167.2.2.2.2.2.2.2.2.2.2
theorem dq_168 : decode cX5_init 0 = .ok (.aload_n 0, 1) ∧ decode cX5_init 1 = .ok (.invokespecial 3, 3) ∧ decode cX5_init 4 = .ok (.aload_n 0, 1) ∧ decode cX5_init 5 = .ok (.aload_n 1, 1) ∧ decode cX5_init 6 = .ok (.putfield 9, 3) ∧ decode cX5_init 9 = .ok (.aload_n 0, 1) ∧ decode cX5_init 10 = .ok (.aload_n 2, 1) ∧ decode cX5_init 11 = .ok (.putfield 15, 3) ∧ decode cX5_init 14 = .ok (.return_, 1) := by decide +kernel
theorem dX5_init_0 : decode cX5_init 0 = .ok (.aload_n 0, 1) := dq_168.1
theorem dX5_init_1 : decode cX5_init 1 = .ok (.invokespecial 3, 3) := dq_168.2.1
theorem dX5_init_4 : decode cX5_init 4 = .ok (.aload_n 0, 1) := dq_168.2.2.1
theorem dX5_init_5 : decode cX5_init 5 = .ok (.aload_n 1, 1) := dq_168.2.2.2.1
theorem dX5_init_6 : decode cX5_init 6 = .ok (.putfield 9, 3) := dq_168.2.2.2.2.1
theorem dX5_init_9 : decode cX5_init 9 = .ok (.aload_n 0, 1) := dq_168.2.2.2.2.2.1
theorem dX5_init_10 : decode cX5_init 10 = .ok (.aload_n 2, 1) := dq_168.2.2.2.2.2.2.1
theorem dX5_init_11 : decode cX5_init 11 = .ok (.putfield 15, 3) := dq_168.2.2.2.2.2.2.2.1
theorem dX5_init_14 : decode cX5_init 14 = .ok (.return_, 1) := dq_168.2.2.2.2.2.2.2.2
theorem dq_169 : decode cX5_faultFound 0 = .ok (.aload_n 0, 1) ∧ decode cX5_faultFound 1 = .ok (.getfield 19, 3) ∧ decode cX5_faultFound 4 = .ok (.ireturn, 1) := by decide +kernel
theorem dX5_faultFound_0 : decode cX5_faultFound 0 = .ok (.aload_n 0, 1) := dq_169.1
theorem dX5_faultFound_1 : decode cX5_faultFound 1 = .ok (.getfield 19, 3) := dq_169.2.1
theorem dX5_faultFound_4 : decode cX5_faultFound 4 = .ok (.ireturn, 1) := dq_169.2.2
theorem dq_170 : decode cX5_faultPlace 0 = .ok (.aload_n 0, 1) ∧ decode cX5_faultPlace 1 = .ok (.getfield 23, 3) ∧ decode cX5_faultPlace 4 = .ok (.ireturn, 1) := by decide +kernel
theorem dX5_faultPlace_0 : decode cX5_faultPlace 0 = .ok (.aload_n 0, 1) := dq_170.1
theorem dX5_faultPlace_1 : decode cX5_faultPlace 1 = .ok (.getfield 23, 3) := dq_170.2.1
theorem dX5_faultPlace_4 : decode cX5_faultPlace 4 = .ok (.ireturn, 1) := dq_170.2.2
theorem dq_171 : decode cX5_begin 0 = .ok (.aload_n 0, 1) ∧ decode cX5_begin 1 = .ok (.aload_n 1, 1) ∧ decode cX5_begin 2 = .ok (.putfield 15, 3) ∧ decode cX5_begin 5 = .ok (.aload_n 0, 1) ∧ decode cX5_begin 6 = .ok (.getfield 15, 3) ∧ decode cX5_begin 9 = .ok (.invokevirtual 26, 3) ∧ decode cX5_begin 12 = .ok (.aload_n 0, 1) ∧ decode cX5_begin 13 = .ok (.getfield 9, 3) ∧ decode cX5_begin 16 = .ok (.invokevirtual 31, 3) ∧ decode cX5_begin 19 = .ok (.aload_n 0, 1) ∧ decode cX5_begin 20 = .ok (.iconst 0, 1) ∧ decode cX5_begin 21 = .ok (.putfield 19, 3) := by decide +kernel
theorem dX5_begin_0 : decode cX5_begin 0 = .ok (.aload_n 0, 1) := dq_171.1
theorem dX5_begin_1 : decode cX5_begin 1 = .ok (.aload_n 1, 1) := dq_171.2.1
theorem dX5_begin_2 : decode cX5_begin 2 = .ok (.putfield 15, 3) := dq_171.2.2.1
theorem dX5_begin_5 : decode cX5_begin 5 = .ok (.aload_n 0, 1) := dq_171.2.2.2.1
theorem dX5_begin_6 : decode cX5_begin 6 = .ok (.getfield 15, 3) := dq_171.2.2.2.2.1
theorem dX5_begin_9 : decode cX5_begin 9 = .ok (.invokevirtual 26, 3) := dq_171.2.2.2.2.2.1
theorem dX5_begin_12 : decode cX5_begin 12 = .ok (.aload_n 0, 1) := dq_171.2.2.2.2.2.2.1
theorem dX5_begin_13 : decode cX5_begin 13 = .ok (.getfield 9, 3) := dq_171.2.2.2.2.2.2.2.1
theorem dX5_begin_16 : decode cX5_begin 16 = .ok (.invokevirtual 31, 3) := dq_171.2.2.2.2.2.2.2.2.1
theorem dX5_begin_19 : decode cX5_begin 19 = .ok (.aload_n 0, 1) := dq_171.2.2.2.2.2.2.2.2.2.1
theorem dX5_begin_20 : decode cX5_begin 20 = .ok (.iconst 0, 1) := dq_171.2.2.2.2.2.2.2.2.2.2.1
theorem dX5_begin_21 : decode cX5_begin 21 = .ok (.putfield 19, 3) := dq_171.2.2.2.2.2.2.2.2.2.2.2
theorem dq_172 : decode cX5_begin 24 = .ok (.aload_n 0, 1) ∧ decode cX5_begin 25 = .ok (.iconst 0, 1) ∧ decode cX5_begin 26 = .ok (.putfield 23, 3) ∧ decode cX5_begin 29 = .ok (.return_, 1) := by decide +kernel
theorem dX5_begin_24 : decode cX5_begin 24 = .ok (.aload_n 0, 1) := dq_172.1
theorem dX5_begin_25 : decode cX5_begin 25 = .ok (.iconst 0, 1) := dq_172.2.1
theorem dX5_begin_26 : decode cX5_begin 26 = .ok (.putfield 23, 3) := dq_172.2.2.1
theorem dX5_begin_29 : decode cX5_begin 29 = .ok (.return_, 1) := dq_172.2.2.2
theorem dq_173 : decode cX5_refuse 0 = .ok (.aload_n 0, 1) ∧ decode cX5_refuse 1 = .ok (.iload_n 1, 1) ∧ decode cX5_refuse 2 = .ok (.putfield 19, 3) ∧ decode cX5_refuse 5 = .ok (.aload_n 0, 1) ∧ decode cX5_refuse 6 = .ok (.aload_n 0, 1) ∧ decode cX5_refuse 7 = .ok (.getfield 9, 3) ∧ decode cX5_refuse 10 = .ok (.invokevirtual 36, 3) ∧ decode cX5_refuse 13 = .ok (.putfield 23, 3) ∧ decode cX5_refuse 16 = .ok (.iconst 0, 1) ∧ decode cX5_refuse 17 = .ok (.ireturn, 1) := by decide +kernel
theorem dX5_refuse_0 : decode cX5_refuse 0 = .ok (.aload_n 0, 1) := dq_173.1
theorem dX5_refuse_1 : decode cX5_refuse 1 = .ok (.iload_n 1, 1) := dq_173.2.1
theorem dX5_refuse_2 : decode cX5_refuse 2 = .ok (.putfield 19, 3) := dq_173.2.2.1
theorem dX5_refuse_5 : decode cX5_refuse 5 = .ok (.aload_n 0, 1) := dq_173.2.2.2.1
theorem dX5_refuse_6 : decode cX5_refuse 6 = .ok (.aload_n 0, 1) := dq_173.2.2.2.2.1
theorem dX5_refuse_7 : decode cX5_refuse 7 = .ok (.getfield 9, 3) := dq_173.2.2.2.2.2.1
theorem dX5_refuse_10 : decode cX5_refuse 10 = .ok (.invokevirtual 36, 3) := dq_173.2.2.2.2.2.2.1
theorem dX5_refuse_13 : decode cX5_refuse 13 = .ok (.putfield 23, 3) := dq_173.2.2.2.2.2.2.2.1
theorem dX5_refuse_16 : decode cX5_refuse 16 = .ok (.iconst 0, 1) := dq_173.2.2.2.2.2.2.2.2.1
theorem dX5_refuse_17 : decode cX5_refuse 17 = .ok (.ireturn, 1) := dq_173.2.2.2.2.2.2.2.2.2
theorem dq_174 : decode cX5_refuseKind 0 = .ok (.aload_n 0, 1) ∧ decode cX5_refuseKind 1 = .ok (.iload_n 1, 1) ∧ decode cX5_refuseKind 2 = .ok (.ifCond .ne 7, 3) ∧ decode cX5_refuseKind 5 = .ok (.iconst 1, 1) ∧ decode cX5_refuseKind 6 = .ok (.goto 4, 3) ∧ decode cX5_refuseKind 9 = .ok (.iconst 2, 1) ∧ decode cX5_refuseKind 10 = .ok (.invokevirtual 40, 3) ∧ decode cX5_refuseKind 13 = .ok (.ireturn, 1) := by decide +kernel
theorem dX5_refuseKind_0 : decode cX5_refuseKind 0 = .ok (.aload_n 0, 1) := dq_174.1
theorem dX5_refuseKind_1 : decode cX5_refuseKind 1 = .ok (.iload_n 1, 1) := dq_174.2.1
theorem dX5_refuseKind_2 : decode cX5_refuseKind 2 = .ok (.ifCond .ne 7, 3) := dq_174.2.2.1
theorem dX5_refuseKind_5 : decode cX5_refuseKind 5 = .ok (.iconst 1, 1) := dq_174.2.2.2.1
theorem dX5_refuseKind_6 : decode cX5_refuseKind 6 = .ok (.goto 4, 3) := dq_174.2.2.2.2.1
theorem dX5_refuseKind_9 : decode cX5_refuseKind 9 = .ok (.iconst 2, 1) := dq_174.2.2.2.2.2.1
theorem dX5_refuseKind_10 : decode cX5_refuseKind 10 = .ok (.invokevirtual 40, 3) := dq_174.2.2.2.2.2.2.1
theorem dX5_refuseKind_13 : decode cX5_refuseKind 13 = .ok (.ireturn, 1) := dq_174.2.2.2.2.2.2.2
theorem dq_175 : decode cX5_takeKind 0 = .ok (.aload_n 0, 1) ∧ decode cX5_takeKind 1 = .ok (.getfield 9, 3) ∧ decode cX5_takeKind 4 = .ok (.invokevirtual 44, 3) ∧ decode cX5_takeKind 7 = .ok (.istore_n 2, 1) ∧ decode cX5_takeKind 8 = .ok (.iload_n 2, 1) ∧ decode cX5_takeKind 9 = .ok (.iload_n 1, 1) ∧ decode cX5_takeKind 10 = .ok (.if_icmp .eq 11, 3) ∧ decode cX5_takeKind 13 = .ok (.aload_n 0, 1) ∧ decode cX5_takeKind 14 = .ok (.iload_n 2, 1) ∧ decode cX5_takeKind 15 = .ok (.invokevirtual 47, 3) ∧ decode cX5_takeKind 18 = .ok (.ifCond .eq 7, 3) ∧ decode cX5_takeKind 21 = .ok (.iconst 1, 1) := by decide +kernel
theorem dX5_takeKind_0 : decode cX5_takeKind 0 = .ok (.aload_n 0, 1) := dq_175.1
theorem dX5_takeKind_1 : decode cX5_takeKind 1 = .ok (.getfield 9, 3) := dq_175.2.1
theorem dX5_takeKind_4 : decode cX5_takeKind 4 = .ok (.invokevirtual 44, 3) := dq_175.2.2.1
theorem dX5_takeKind_7 : decode cX5_takeKind 7 = .ok (.istore_n 2, 1) := dq_175.2.2.2.1
theorem dX5_takeKind_8 : decode cX5_takeKind 8 = .ok (.iload_n 2, 1) := dq_175.2.2.2.2.1
theorem dX5_takeKind_9 : decode cX5_takeKind 9 = .ok (.iload_n 1, 1) := dq_175.2.2.2.2.2.1
theorem dX5_takeKind_10 : decode cX5_takeKind 10 = .ok (.if_icmp .eq 11, 3) := dq_175.2.2.2.2.2.2.1
theorem dX5_takeKind_13 : decode cX5_takeKind 13 = .ok (.aload_n 0, 1) := dq_175.2.2.2.2.2.2.2.1
theorem dX5_takeKind_14 : decode cX5_takeKind 14 = .ok (.iload_n 2, 1) := dq_175.2.2.2.2.2.2.2.2.1
theorem dX5_takeKind_15 : decode cX5_takeKind 15 = .ok (.invokevirtual 47, 3) := dq_175.2.2.2.2.2.2.2.2.2.1
theorem dX5_takeKind_18 : decode cX5_takeKind 18 = .ok (.ifCond .eq 7, 3) := dq_175.2.2.2.2.2.2.2.2.2.2.1
theorem dX5_takeKind_21 : decode cX5_takeKind 21 = .ok (.iconst 1, 1) := dq_175.2.2.2.2.2.2.2.2.2.2.2
theorem dq_176 : decode cX5_takeKind 22 = .ok (.goto 4, 3) ∧ decode cX5_takeKind 25 = .ok (.iconst 0, 1) ∧ decode cX5_takeKind 26 = .ok (.ireturn, 1) := by decide +kernel
theorem dX5_takeKind_22 : decode cX5_takeKind 22 = .ok (.goto 4, 3) := dq_176.1
theorem dX5_takeKind_25 : decode cX5_takeKind 25 = .ok (.iconst 0, 1) := dq_176.2.1
theorem dX5_takeKind_26 : decode cX5_takeKind 26 = .ok (.ireturn, 1) := dq_176.2.2
theorem dq_177 : decode cX5_takeNumber 0 = .ok (.aload_n 0, 1) ∧ decode cX5_takeNumber 1 = .ok (.iconst 3, 1) ∧ decode cX5_takeNumber 2 = .ok (.invokevirtual 50, 3) ∧ decode cX5_takeNumber 5 = .ok (.ifCond .ne 5, 3) ∧ decode cX5_takeNumber 8 = .ok (.iconst 0, 1) ∧ decode cX5_takeNumber 9 = .ok (.ireturn, 1) ∧ decode cX5_takeNumber 10 = .ok (.aload_n 0, 1) ∧ decode cX5_takeNumber 11 = .ok (.aload_n 0, 1) ∧ decode cX5_takeNumber 12 = .ok (.getfield 9, 3) ∧ decode cX5_takeNumber 15 = .ok (.invokevirtual 53, 3) ∧ decode cX5_takeNumber 18 = .ok (.putfield 56, 3) ∧ decode cX5_takeNumber 21 = .ok (.aload_n 0, 1) := by decide +kernel
theorem dX5_takeNumber_0 : decode cX5_takeNumber 0 = .ok (.aload_n 0, 1) := dq_177.1
theorem dX5_takeNumber_1 : decode cX5_takeNumber 1 = .ok (.iconst 3, 1) := dq_177.2.1
theorem dX5_takeNumber_2 : decode cX5_takeNumber 2 = .ok (.invokevirtual 50, 3) := dq_177.2.2.1
theorem dX5_takeNumber_5 : decode cX5_takeNumber 5 = .ok (.ifCond .ne 5, 3) := dq_177.2.2.2.1
theorem dX5_takeNumber_8 : decode cX5_takeNumber 8 = .ok (.iconst 0, 1) := dq_177.2.2.2.2.1
theorem dX5_takeNumber_9 : decode cX5_takeNumber 9 = .ok (.ireturn, 1) := dq_177.2.2.2.2.2.1
theorem dX5_takeNumber_10 : decode cX5_takeNumber 10 = .ok (.aload_n 0, 1) := dq_177.2.2.2.2.2.2.1
theorem dX5_takeNumber_11 : decode cX5_takeNumber 11 = .ok (.aload_n 0, 1) := dq_177.2.2.2.2.2.2.2.1
theorem dX5_takeNumber_12 : decode cX5_takeNumber 12 = .ok (.getfield 9, 3) := dq_177.2.2.2.2.2.2.2.2.1
theorem dX5_takeNumber_15 : decode cX5_takeNumber 15 = .ok (.invokevirtual 53, 3) := dq_177.2.2.2.2.2.2.2.2.2.1
theorem dX5_takeNumber_18 : decode cX5_takeNumber 18 = .ok (.putfield 56, 3) := dq_177.2.2.2.2.2.2.2.2.2.2.1
theorem dX5_takeNumber_21 : decode cX5_takeNumber 21 = .ok (.aload_n 0, 1) := dq_177.2.2.2.2.2.2.2.2.2.2.2
theorem dq_178 : decode cX5_takeNumber 22 = .ok (.getfield 56, 3) ∧ decode cX5_takeNumber 25 = .ok (.iload_n 1, 1) ∧ decode cX5_takeNumber 26 = .ok (.iload_n 2, 1) ∧ decode cX5_takeNumber 27 = .ok (.invokestatic 59, 3) ∧ decode cX5_takeNumber 30 = .ok (.ifCond .ne 11, 3) ∧ decode cX5_takeNumber 33 = .ok (.aload_n 0, 1) ∧ decode cX5_takeNumber 34 = .ok (.iconst 3, 1) ∧ decode cX5_takeNumber 35 = .ok (.invokevirtual 40, 3) ∧ decode cX5_takeNumber 38 = .ok (.ifCond .eq 7, 3) ∧ decode cX5_takeNumber 41 = .ok (.iconst 1, 1) ∧ decode cX5_takeNumber 42 = .ok (.goto 4, 3) ∧ decode cX5_takeNumber 45 = .ok (.iconst 0, 1) := by decide +kernel
theorem dX5_takeNumber_22 : decode cX5_takeNumber 22 = .ok (.getfield 56, 3) := dq_178.1
theorem dX5_takeNumber_25 : decode cX5_takeNumber 25 = .ok (.iload_n 1, 1) := dq_178.2.1
theorem dX5_takeNumber_26 : decode cX5_takeNumber 26 = .ok (.iload_n 2, 1) := dq_178.2.2.1
theorem dX5_takeNumber_27 : decode cX5_takeNumber 27 = .ok (.invokestatic 59, 3) := dq_178.2.2.2.1
theorem dX5_takeNumber_30 : decode cX5_takeNumber 30 = .ok (.ifCond .ne 11, 3) := dq_178.2.2.2.2.1
theorem dX5_takeNumber_33 : decode cX5_takeNumber 33 = .ok (.aload_n 0, 1) := dq_178.2.2.2.2.2.1
theorem dX5_takeNumber_34 : decode cX5_takeNumber 34 = .ok (.iconst 3, 1) := dq_178.2.2.2.2.2.2.1
theorem dX5_takeNumber_35 : decode cX5_takeNumber 35 = .ok (.invokevirtual 40, 3) := dq_178.2.2.2.2.2.2.2.1
theorem dX5_takeNumber_38 : decode cX5_takeNumber 38 = .ok (.ifCond .eq 7, 3) := dq_178.2.2.2.2.2.2.2.2.1
theorem dX5_takeNumber_41 : decode cX5_takeNumber 41 = .ok (.iconst 1, 1) := dq_178.2.2.2.2.2.2.2.2.2.1
theorem dX5_takeNumber_42 : decode cX5_takeNumber 42 = .ok (.goto 4, 3) := dq_178.2.2.2.2.2.2.2.2.2.2.1
theorem dX5_takeNumber_45 : decode cX5_takeNumber 45 = .ok (.iconst 0, 1) := dq_178.2.2.2.2.2.2.2.2.2.2.2
theorem dX5_takeNumber_46 : decode cX5_takeNumber 46 = .ok (.ireturn, 1) := by decide +kernel
theorem dq_180 : decode cX5_takeLine 0 = .ok (.aload_n 0, 1) ∧ decode cX5_takeLine 1 = .ok (.getfield 9, 3) ∧ decode cX5_takeLine 4 = .ok (.invokevirtual 44, 3) ∧ decode cX5_takeLine 7 = .ok (.istore_n 1, 1) ∧ decode cX5_takeLine 8 = .ok (.iload_n 1, 1) ∧ decode cX5_takeLine 9 = .ok (.iconst 1, 1) ∧ decode cX5_takeLine 10 = .ok (.if_icmp .ne 5, 3) ∧ decode cX5_takeLine 13 = .ok (.iconst 0, 1) ∧ decode cX5_takeLine 14 = .ok (.ireturn, 1) ∧ decode cX5_takeLine 15 = .ok (.iload_n 1, 1) ∧ decode cX5_takeLine 16 = .ok (.iconst 2, 1) ∧ decode cX5_takeLine 17 = .ok (.if_icmp .eq 9, 3) := by decide +kernel
theorem dX5_takeLine_0 : decode cX5_takeLine 0 = .ok (.aload_n 0, 1) := dq_180.1
theorem dX5_takeLine_1 : decode cX5_takeLine 1 = .ok (.getfield 9, 3) := dq_180.2.1
theorem dX5_takeLine_4 : decode cX5_takeLine 4 = .ok (.invokevirtual 44, 3) := dq_180.2.2.1
theorem dX5_takeLine_7 : decode cX5_takeLine 7 = .ok (.istore_n 1, 1) := dq_180.2.2.2.1
theorem dX5_takeLine_8 : decode cX5_takeLine 8 = .ok (.iload_n 1, 1) := dq_180.2.2.2.2.1
theorem dX5_takeLine_9 : decode cX5_takeLine 9 = .ok (.iconst 1, 1) := dq_180.2.2.2.2.2.1
theorem dX5_takeLine_10 : decode cX5_takeLine 10 = .ok (.if_icmp .ne 5, 3) := dq_180.2.2.2.2.2.2.1
theorem dX5_takeLine_13 : decode cX5_takeLine 13 = .ok (.iconst 0, 1) := dq_180.2.2.2.2.2.2.2.1
theorem dX5_takeLine_14 : decode cX5_takeLine 14 = .ok (.ireturn, 1) := dq_180.2.2.2.2.2.2.2.2.1
theorem dX5_takeLine_15 : decode cX5_takeLine 15 = .ok (.iload_n 1, 1) := dq_180.2.2.2.2.2.2.2.2.2.1
theorem dX5_takeLine_16 : decode cX5_takeLine 16 = .ok (.iconst 2, 1) := dq_180.2.2.2.2.2.2.2.2.2.2.1
theorem dX5_takeLine_17 : decode cX5_takeLine 17 = .ok (.if_icmp .eq 9, 3) := dq_180.2.2.2.2.2.2.2.2.2.2.2
theorem dq_181 : decode cX5_takeLine 20 = .ok (.aload_n 0, 1) ∧ decode cX5_takeLine 21 = .ok (.iload_n 1, 1) ∧ decode cX5_takeLine 22 = .ok (.invokevirtual 47, 3) ∧ decode cX5_takeLine 25 = .ok (.ireturn, 1) ∧ decode cX5_takeLine 26 = .ok (.aload_n 0, 1) ∧ decode cX5_takeLine 27 = .ok (.getfield 9, 3) ∧ decode cX5_takeLine 30 = .ok (.ldc 63, 2) ∧ decode cX5_takeLine 32 = .ok (.invokevirtual 65, 3) ∧ decode cX5_takeLine 35 = .ok (.ifCond .eq 8, 3) ∧ decode cX5_takeLine 38 = .ok (.aload_n 0, 1) ∧ decode cX5_takeLine 39 = .ok (.invokevirtual 69, 3) ∧ decode cX5_takeLine 42 = .ok (.ireturn, 1) := by decide +kernel
theorem dX5_takeLine_20 : decode cX5_takeLine 20 = .ok (.aload_n 0, 1) := dq_181.1
theorem dX5_takeLine_21 : decode cX5_takeLine 21 = .ok (.iload_n 1, 1) := dq_181.2.1
theorem dX5_takeLine_22 : decode cX5_takeLine 22 = .ok (.invokevirtual 47, 3) := dq_181.2.2.1
theorem dX5_takeLine_25 : decode cX5_takeLine 25 = .ok (.ireturn, 1) := dq_181.2.2.2.1
theorem dX5_takeLine_26 : decode cX5_takeLine 26 = .ok (.aload_n 0, 1) := dq_181.2.2.2.2.1
theorem dX5_takeLine_27 : decode cX5_takeLine 27 = .ok (.getfield 9, 3) := dq_181.2.2.2.2.2.1
theorem dX5_takeLine_30 : decode cX5_takeLine 30 = .ok (.ldc 63, 2) := dq_181.2.2.2.2.2.2.1
theorem dX5_takeLine_32 : decode cX5_takeLine 32 = .ok (.invokevirtual 65, 3) := dq_181.2.2.2.2.2.2.2.1
theorem dX5_takeLine_35 : decode cX5_takeLine 35 = .ok (.ifCond .eq 8, 3) := dq_181.2.2.2.2.2.2.2.2.1
theorem dX5_takeLine_38 : decode cX5_takeLine 38 = .ok (.aload_n 0, 1) := dq_181.2.2.2.2.2.2.2.2.2.1
theorem dX5_takeLine_39 : decode cX5_takeLine 39 = .ok (.invokevirtual 69, 3) := dq_181.2.2.2.2.2.2.2.2.2.2.1
theorem dX5_takeLine_42 : decode cX5_takeLine 42 = .ok (.ireturn, 1) := dq_181.2.2.2.2.2.2.2.2.2.2.2
theorem dq_182 : decode cX5_takeLine 43 = .ok (.aload_n 0, 1) ∧ decode cX5_takeLine 44 = .ok (.getfield 9, 3) ∧ decode cX5_takeLine 47 = .ok (.ldc 73, 2) ∧ decode cX5_takeLine 49 = .ok (.invokevirtual 65, 3) ∧ decode cX5_takeLine 52 = .ok (.ifCond .eq 8, 3) ∧ decode cX5_takeLine 55 = .ok (.aload_n 0, 1) ∧ decode cX5_takeLine 56 = .ok (.invokevirtual 75, 3) ∧ decode cX5_takeLine 59 = .ok (.ireturn, 1) ∧ decode cX5_takeLine 60 = .ok (.aload_n 0, 1) ∧ decode cX5_takeLine 61 = .ok (.getfield 9, 3) ∧ decode cX5_takeLine 64 = .ok (.ldc 78, 2) ∧ decode cX5_takeLine 66 = .ok (.invokevirtual 65, 3) := by decide +kernel
theorem dX5_takeLine_43 : decode cX5_takeLine 43 = .ok (.aload_n 0, 1) := dq_182.1
theorem dX5_takeLine_44 : decode cX5_takeLine 44 = .ok (.getfield 9, 3) := dq_182.2.1
theorem dX5_takeLine_47 : decode cX5_takeLine 47 = .ok (.ldc 73, 2) := dq_182.2.2.1
theorem dX5_takeLine_49 : decode cX5_takeLine 49 = .ok (.invokevirtual 65, 3) := dq_182.2.2.2.1
theorem dX5_takeLine_52 : decode cX5_takeLine 52 = .ok (.ifCond .eq 8, 3) := dq_182.2.2.2.2.1
theorem dX5_takeLine_55 : decode cX5_takeLine 55 = .ok (.aload_n 0, 1) := dq_182.2.2.2.2.2.1
theorem dX5_takeLine_56 : decode cX5_takeLine 56 = .ok (.invokevirtual 75, 3) := dq_182.2.2.2.2.2.2.1
theorem dX5_takeLine_59 : decode cX5_takeLine 59 = .ok (.ireturn, 1) := dq_182.2.2.2.2.2.2.2.1
theorem dX5_takeLine_60 : decode cX5_takeLine 60 = .ok (.aload_n 0, 1) := dq_182.2.2.2.2.2.2.2.2.1
theorem dX5_takeLine_61 : decode cX5_takeLine 61 = .ok (.getfield 9, 3) := dq_182.2.2.2.2.2.2.2.2.2.1
theorem dX5_takeLine_64 : decode cX5_takeLine 64 = .ok (.ldc 78, 2) := dq_182.2.2.2.2.2.2.2.2.2.2.1
theorem dX5_takeLine_66 : decode cX5_takeLine 66 = .ok (.invokevirtual 65, 3) := dq_182.2.2.2.2.2.2.2.2.2.2.2
theorem dq_183 : decode cX5_takeLine 69 = .ok (.ifCond .eq 8, 3) ∧ decode cX5_takeLine 72 = .ok (.aload_n 0, 1) ∧ decode cX5_takeLine 73 = .ok (.invokevirtual 80, 3) ∧ decode cX5_takeLine 76 = .ok (.ireturn, 1) ∧ decode cX5_takeLine 77 = .ok (.aload_n 0, 1) ∧ decode cX5_takeLine 78 = .ok (.getfield 9, 3) ∧ decode cX5_takeLine 81 = .ok (.ldc 83, 2) ∧ decode cX5_takeLine 83 = .ok (.invokevirtual 65, 3) ∧ decode cX5_takeLine 86 = .ok (.ifCond .eq 8, 3) ∧ decode cX5_takeLine 89 = .ok (.aload_n 0, 1) ∧ decode cX5_takeLine 90 = .ok (.invokevirtual 85, 3) ∧ decode cX5_takeLine 93 = .ok (.ireturn, 1) := by decide +kernel
theorem dX5_takeLine_69 : decode cX5_takeLine 69 = .ok (.ifCond .eq 8, 3) := dq_183.1
theorem dX5_takeLine_72 : decode cX5_takeLine 72 = .ok (.aload_n 0, 1) := dq_183.2.1
theorem dX5_takeLine_73 : decode cX5_takeLine 73 = .ok (.invokevirtual 80, 3) := dq_183.2.2.1
theorem dX5_takeLine_76 : decode cX5_takeLine 76 = .ok (.ireturn, 1) := dq_183.2.2.2.1
theorem dX5_takeLine_77 : decode cX5_takeLine 77 = .ok (.aload_n 0, 1) := dq_183.2.2.2.2.1
theorem dX5_takeLine_78 : decode cX5_takeLine 78 = .ok (.getfield 9, 3) := dq_183.2.2.2.2.2.1
theorem dX5_takeLine_81 : decode cX5_takeLine 81 = .ok (.ldc 83, 2) := dq_183.2.2.2.2.2.2.1
theorem dX5_takeLine_83 : decode cX5_takeLine 83 = .ok (.invokevirtual 65, 3) := dq_183.2.2.2.2.2.2.2.1
theorem dX5_takeLine_86 : decode cX5_takeLine 86 = .ok (.ifCond .eq 8, 3) := dq_183.2.2.2.2.2.2.2.2.1
theorem dX5_takeLine_89 : decode cX5_takeLine 89 = .ok (.aload_n 0, 1) := dq_183.2.2.2.2.2.2.2.2.2.1
theorem dX5_takeLine_90 : decode cX5_takeLine 90 = .ok (.invokevirtual 85, 3) := dq_183.2.2.2.2.2.2.2.2.2.2.1
theorem dX5_takeLine_93 : decode cX5_takeLine 93 = .ok (.ireturn, 1) := dq_183.2.2.2.2.2.2.2.2.2.2.2
theorem dq_184 : decode cX5_takeLine 94 = .ok (.aload_n 0, 1) ∧ decode cX5_takeLine 95 = .ok (.getfield 9, 3) ∧ decode cX5_takeLine 98 = .ok (.ldc 88, 2) ∧ decode cX5_takeLine 100 = .ok (.invokevirtual 65, 3) ∧ decode cX5_takeLine 103 = .ok (.ifCond .eq 8, 3) ∧ decode cX5_takeLine 106 = .ok (.aload_n 0, 1) ∧ decode cX5_takeLine 107 = .ok (.invokevirtual 90, 3) ∧ decode cX5_takeLine 110 = .ok (.ireturn, 1) ∧ decode cX5_takeLine 111 = .ok (.aload_n 0, 1) ∧ decode cX5_takeLine 112 = .ok (.getfield 9, 3) ∧ decode cX5_takeLine 115 = .ok (.ldc 93, 2) ∧ decode cX5_takeLine 117 = .ok (.invokevirtual 65, 3) := by decide +kernel
theorem dX5_takeLine_94 : decode cX5_takeLine 94 = .ok (.aload_n 0, 1) := dq_184.1
theorem dX5_takeLine_95 : decode cX5_takeLine 95 = .ok (.getfield 9, 3) := dq_184.2.1
theorem dX5_takeLine_98 : decode cX5_takeLine 98 = .ok (.ldc 88, 2) := dq_184.2.2.1
theorem dX5_takeLine_100 : decode cX5_takeLine 100 = .ok (.invokevirtual 65, 3) := dq_184.2.2.2.1
theorem dX5_takeLine_103 : decode cX5_takeLine 103 = .ok (.ifCond .eq 8, 3) := dq_184.2.2.2.2.1
theorem dX5_takeLine_106 : decode cX5_takeLine 106 = .ok (.aload_n 0, 1) := dq_184.2.2.2.2.2.1
theorem dX5_takeLine_107 : decode cX5_takeLine 107 = .ok (.invokevirtual 90, 3) := dq_184.2.2.2.2.2.2.1
theorem dX5_takeLine_110 : decode cX5_takeLine 110 = .ok (.ireturn, 1) := dq_184.2.2.2.2.2.2.2.1
theorem dX5_takeLine_111 : decode cX5_takeLine 111 = .ok (.aload_n 0, 1) := dq_184.2.2.2.2.2.2.2.2.1
theorem dX5_takeLine_112 : decode cX5_takeLine 112 = .ok (.getfield 9, 3) := dq_184.2.2.2.2.2.2.2.2.2.1
theorem dX5_takeLine_115 : decode cX5_takeLine 115 = .ok (.ldc 93, 2) := dq_184.2.2.2.2.2.2.2.2.2.2.1
theorem dX5_takeLine_117 : decode cX5_takeLine 117 = .ok (.invokevirtual 65, 3) := dq_184.2.2.2.2.2.2.2.2.2.2.2
theorem dq_185 : decode cX5_takeLine 120 = .ok (.ifCond .eq 10, 3) ∧ decode cX5_takeLine 123 = .ok (.aload_n 0, 1) ∧ decode cX5_takeLine 124 = .ok (.invokevirtual 95, 3) ∧ decode cX5_takeLine 127 = .ok (.goto 8, 3) ∧ decode cX5_takeLine 130 = .ok (.aload_n 0, 1) ∧ decode cX5_takeLine 131 = .ok (.iconst 2, 1) ∧ decode cX5_takeLine 132 = .ok (.invokevirtual 40, 3) ∧ decode cX5_takeLine 135 = .ok (.ireturn, 1) := by decide +kernel
theorem dX5_takeLine_120 : decode cX5_takeLine 120 = .ok (.ifCond .eq 10, 3) := dq_185.1
theorem dX5_takeLine_123 : decode cX5_takeLine 123 = .ok (.aload_n 0, 1) := dq_185.2.1
theorem dX5_takeLine_124 : decode cX5_takeLine 124 = .ok (.invokevirtual 95, 3) := dq_185.2.2.1
theorem dX5_takeLine_127 : decode cX5_takeLine 127 = .ok (.goto 8, 3) := dq_185.2.2.2.1
theorem dX5_takeLine_130 : decode cX5_takeLine 130 = .ok (.aload_n 0, 1) := dq_185.2.2.2.2.1
theorem dX5_takeLine_131 : decode cX5_takeLine 131 = .ok (.iconst 2, 1) := dq_185.2.2.2.2.2.1
theorem dX5_takeLine_132 : decode cX5_takeLine 132 = .ok (.invokevirtual 40, 3) := dq_185.2.2.2.2.2.2.1
theorem dX5_takeLine_135 : decode cX5_takeLine 135 = .ok (.ireturn, 1) := dq_185.2.2.2.2.2.2.2
theorem dq_186 : decode cX5_takeRow 0 = .ok (.aload_n 0, 1) ∧ decode cX5_takeRow 1 = .ok (.getfield 15, 3) ∧ decode cX5_takeRow 4 = .ok (.invokevirtual 98, 3) ∧ decode cX5_takeRow 7 = .ok (.bipush 12, 2) ∧ decode cX5_takeRow 9 = .ok (.if_icmp .lt 9, 3) ∧ decode cX5_takeRow 12 = .ok (.aload_n 0, 1) ∧ decode cX5_takeRow 13 = .ok (.iconst 5, 1) ∧ decode cX5_takeRow 14 = .ok (.invokevirtual 40, 3) ∧ decode cX5_takeRow 17 = .ok (.ireturn, 1) ∧ decode cX5_takeRow 18 = .ok (.aload_n 0, 1) ∧ decode cX5_takeRow 19 = .ok (.iconst 1, 1) ∧ decode cX5_takeRow 20 = .ok (.bipush 99, 2) := by decide +kernel
theorem dX5_takeRow_0 : decode cX5_takeRow 0 = .ok (.aload_n 0, 1) := dq_186.1
theorem dX5_takeRow_1 : decode cX5_takeRow 1 = .ok (.getfield 15, 3) := dq_186.2.1
theorem dX5_takeRow_4 : decode cX5_takeRow 4 = .ok (.invokevirtual 98, 3) := dq_186.2.2.1
theorem dX5_takeRow_7 : decode cX5_takeRow 7 = .ok (.bipush 12, 2) := dq_186.2.2.2.1
theorem dX5_takeRow_9 : decode cX5_takeRow 9 = .ok (.if_icmp .lt 9, 3) := dq_186.2.2.2.2.1
theorem dX5_takeRow_12 : decode cX5_takeRow 12 = .ok (.aload_n 0, 1) := dq_186.2.2.2.2.2.1
theorem dX5_takeRow_13 : decode cX5_takeRow 13 = .ok (.iconst 5, 1) := dq_186.2.2.2.2.2.2.1
theorem dX5_takeRow_14 : decode cX5_takeRow 14 = .ok (.invokevirtual 40, 3) := dq_186.2.2.2.2.2.2.2.1
theorem dX5_takeRow_17 : decode cX5_takeRow 17 = .ok (.ireturn, 1) := dq_186.2.2.2.2.2.2.2.2.1
theorem dX5_takeRow_18 : decode cX5_takeRow 18 = .ok (.aload_n 0, 1) := dq_186.2.2.2.2.2.2.2.2.2.1
theorem dX5_takeRow_19 : decode cX5_takeRow 19 = .ok (.iconst 1, 1) := dq_186.2.2.2.2.2.2.2.2.2.2.1
theorem dX5_takeRow_20 : decode cX5_takeRow 20 = .ok (.bipush 99, 2) := dq_186.2.2.2.2.2.2.2.2.2.2.2
theorem dq_187 : decode cX5_takeRow 22 = .ok (.invokevirtual 101, 3) ∧ decode cX5_takeRow 25 = .ok (.ifCond .ne 5, 3) ∧ decode cX5_takeRow 28 = .ok (.iconst 0, 1) ∧ decode cX5_takeRow 29 = .ok (.ireturn, 1) ∧ decode cX5_takeRow 30 = .ok (.aload_n 0, 1) ∧ decode cX5_takeRow 31 = .ok (.getfield 56, 3) ∧ decode cX5_takeRow 34 = .ok (.istore_n 1, 1) ∧ decode cX5_takeRow 35 = .ok (.aload_n 0, 1) ∧ decode cX5_takeRow 36 = .ok (.iconst 1, 1) ∧ decode cX5_takeRow 37 = .ok (.sipush 999, 3) ∧ decode cX5_takeRow 40 = .ok (.invokevirtual 101, 3) ∧ decode cX5_takeRow 43 = .ok (.ifCond .ne 5, 3) := by decide +kernel
theorem dX5_takeRow_22 : decode cX5_takeRow 22 = .ok (.invokevirtual 101, 3) := dq_187.1
theorem dX5_takeRow_25 : decode cX5_takeRow 25 = .ok (.ifCond .ne 5, 3) := dq_187.2.1
theorem dX5_takeRow_28 : decode cX5_takeRow 28 = .ok (.iconst 0, 1) := dq_187.2.2.1
theorem dX5_takeRow_29 : decode cX5_takeRow 29 = .ok (.ireturn, 1) := dq_187.2.2.2.1
theorem dX5_takeRow_30 : decode cX5_takeRow 30 = .ok (.aload_n 0, 1) := dq_187.2.2.2.2.1
theorem dX5_takeRow_31 : decode cX5_takeRow 31 = .ok (.getfield 56, 3) := dq_187.2.2.2.2.2.1
theorem dX5_takeRow_34 : decode cX5_takeRow 34 = .ok (.istore_n 1, 1) := dq_187.2.2.2.2.2.2.1
theorem dX5_takeRow_35 : decode cX5_takeRow 35 = .ok (.aload_n 0, 1) := dq_187.2.2.2.2.2.2.2.1
theorem dX5_takeRow_36 : decode cX5_takeRow 36 = .ok (.iconst 1, 1) := dq_187.2.2.2.2.2.2.2.2.1
theorem dX5_takeRow_37 : decode cX5_takeRow 37 = .ok (.sipush 999, 3) := dq_187.2.2.2.2.2.2.2.2.2.1
theorem dX5_takeRow_40 : decode cX5_takeRow 40 = .ok (.invokevirtual 101, 3) := dq_187.2.2.2.2.2.2.2.2.2.2.1
theorem dX5_takeRow_43 : decode cX5_takeRow 43 = .ok (.ifCond .ne 5, 3) := dq_187.2.2.2.2.2.2.2.2.2.2.2
theorem dq_188 : decode cX5_takeRow 46 = .ok (.iconst 0, 1) ∧ decode cX5_takeRow 47 = .ok (.ireturn, 1) ∧ decode cX5_takeRow 48 = .ok (.aload_n 0, 1) ∧ decode cX5_takeRow 49 = .ok (.getfield 15, 3) ∧ decode cX5_takeRow 52 = .ok (.iload_n 1, 1) ∧ decode cX5_takeRow 53 = .ok (.aload_n 0, 1) ∧ decode cX5_takeRow 54 = .ok (.getfield 56, 3) ∧ decode cX5_takeRow 57 = .ok (.invokevirtual 105, 3) ∧ decode cX5_takeRow 60 = .ok (.aload_n 0, 1) ∧ decode cX5_takeRow 61 = .ok (.iconst 4, 1) ∧ decode cX5_takeRow 62 = .ok (.invokevirtual 50, 3) ∧ decode cX5_takeRow 65 = .ok (.ireturn, 1) := by decide +kernel
theorem dX5_takeRow_46 : decode cX5_takeRow 46 = .ok (.iconst 0, 1) := dq_188.1
theorem dX5_takeRow_47 : decode cX5_takeRow 47 = .ok (.ireturn, 1) := dq_188.2.1
theorem dX5_takeRow_48 : decode cX5_takeRow 48 = .ok (.aload_n 0, 1) := dq_188.2.2.1
theorem dX5_takeRow_49 : decode cX5_takeRow 49 = .ok (.getfield 15, 3) := dq_188.2.2.2.1
theorem dX5_takeRow_52 : decode cX5_takeRow 52 = .ok (.iload_n 1, 1) := dq_188.2.2.2.2.1
theorem dX5_takeRow_53 : decode cX5_takeRow 53 = .ok (.aload_n 0, 1) := dq_188.2.2.2.2.2.1
theorem dX5_takeRow_54 : decode cX5_takeRow 54 = .ok (.getfield 56, 3) := dq_188.2.2.2.2.2.2.1
theorem dX5_takeRow_57 : decode cX5_takeRow 57 = .ok (.invokevirtual 105, 3) := dq_188.2.2.2.2.2.2.2.1
theorem dX5_takeRow_60 : decode cX5_takeRow 60 = .ok (.aload_n 0, 1) := dq_188.2.2.2.2.2.2.2.2.1
theorem dX5_takeRow_61 : decode cX5_takeRow 61 = .ok (.iconst 4, 1) := dq_188.2.2.2.2.2.2.2.2.2.1
theorem dX5_takeRow_62 : decode cX5_takeRow 62 = .ok (.invokevirtual 50, 3) := dq_188.2.2.2.2.2.2.2.2.2.2.1
theorem dX5_takeRow_65 : decode cX5_takeRow 65 = .ok (.ireturn, 1) := dq_188.2.2.2.2.2.2.2.2.2.2.2
theorem dq_189 : decode cX5_takePatch 0 = .ok (.aload_n 0, 1) ∧ decode cX5_takePatch 1 = .ok (.getfield 15, 3) ∧ decode cX5_takePatch 4 = .ok (.invokevirtual 98, 3) ∧ decode cX5_takePatch 7 = .ok (.bipush 12, 2) ∧ decode cX5_takePatch 9 = .ok (.if_icmp .lt 9, 3) ∧ decode cX5_takePatch 12 = .ok (.aload_n 0, 1) ∧ decode cX5_takePatch 13 = .ok (.iconst 5, 1) ∧ decode cX5_takePatch 14 = .ok (.invokevirtual 40, 3) ∧ decode cX5_takePatch 17 = .ok (.ireturn, 1) ∧ decode cX5_takePatch 18 = .ok (.iconst 0, 1) ∧ decode cX5_takePatch 19 = .ok (.istore_n 1, 1) ∧ decode cX5_takePatch 20 = .ok (.iconst 0, 1) := by decide +kernel
theorem dX5_takePatch_0 : decode cX5_takePatch 0 = .ok (.aload_n 0, 1) := dq_189.1
theorem dX5_takePatch_1 : decode cX5_takePatch 1 = .ok (.getfield 15, 3) := dq_189.2.1
theorem dX5_takePatch_4 : decode cX5_takePatch 4 = .ok (.invokevirtual 98, 3) := dq_189.2.2.1
theorem dX5_takePatch_7 : decode cX5_takePatch 7 = .ok (.bipush 12, 2) := dq_189.2.2.2.1
theorem dX5_takePatch_9 : decode cX5_takePatch 9 = .ok (.if_icmp .lt 9, 3) := dq_189.2.2.2.2.1
theorem dX5_takePatch_12 : decode cX5_takePatch 12 = .ok (.aload_n 0, 1) := dq_189.2.2.2.2.2.1
theorem dX5_takePatch_13 : decode cX5_takePatch 13 = .ok (.iconst 5, 1) := dq_189.2.2.2.2.2.2.1
theorem dX5_takePatch_14 : decode cX5_takePatch 14 = .ok (.invokevirtual 40, 3) := dq_189.2.2.2.2.2.2.2.1
theorem dX5_takePatch_17 : decode cX5_takePatch 17 = .ok (.ireturn, 1) := dq_189.2.2.2.2.2.2.2.2.1
theorem dX5_takePatch_18 : decode cX5_takePatch 18 = .ok (.iconst 0, 1) := dq_189.2.2.2.2.2.2.2.2.2.1
theorem dX5_takePatch_19 : decode cX5_takePatch 19 = .ok (.istore_n 1, 1) := dq_189.2.2.2.2.2.2.2.2.2.2.1
theorem dX5_takePatch_20 : decode cX5_takePatch 20 = .ok (.iconst 0, 1) := dq_189.2.2.2.2.2.2.2.2.2.2.2
theorem dq_190 : decode cX5_takePatch 21 = .ok (.istore_n 2, 1) ∧ decode cX5_takePatch 22 = .ok (.iload_n 2, 1) ∧ decode cX5_takePatch 23 = .ok (.bipush 12, 2) ∧ decode cX5_takePatch 25 = .ok (.if_icmp .gt 92, 3) ∧ decode cX5_takePatch 28 = .ok (.aload_n 0, 1) ∧ decode cX5_takePatch 29 = .ok (.getfield 9, 3) ∧ decode cX5_takePatch 32 = .ok (.invokevirtual 44, 3) ∧ decode cX5_takePatch 35 = .ok (.istore_n 3, 1) ∧ decode cX5_takePatch 36 = .ok (.iload_n 3, 1) ∧ decode cX5_takePatch 37 = .ok (.iconst 4, 1) ∧ decode cX5_takePatch 38 = .ok (.if_icmp .ne 13, 3) ∧ decode cX5_takePatch 41 = .ok (.aload_n 0, 1) := by decide +kernel
theorem dX5_takePatch_21 : decode cX5_takePatch 21 = .ok (.istore_n 2, 1) := dq_190.1
theorem dX5_takePatch_22 : decode cX5_takePatch 22 = .ok (.iload_n 2, 1) := dq_190.2.1
theorem dX5_takePatch_23 : decode cX5_takePatch 23 = .ok (.bipush 12, 2) := dq_190.2.2.1
theorem dX5_takePatch_25 : decode cX5_takePatch 25 = .ok (.if_icmp .gt 92, 3) := dq_190.2.2.2.1
theorem dX5_takePatch_28 : decode cX5_takePatch 28 = .ok (.aload_n 0, 1) := dq_190.2.2.2.2.1
theorem dX5_takePatch_29 : decode cX5_takePatch 29 = .ok (.getfield 9, 3) := dq_190.2.2.2.2.2.1
theorem dX5_takePatch_32 : decode cX5_takePatch 32 = .ok (.invokevirtual 44, 3) := dq_190.2.2.2.2.2.2.1
theorem dX5_takePatch_35 : decode cX5_takePatch 35 = .ok (.istore_n 3, 1) := dq_190.2.2.2.2.2.2.2.1
theorem dX5_takePatch_36 : decode cX5_takePatch 36 = .ok (.iload_n 3, 1) := dq_190.2.2.2.2.2.2.2.2.1
theorem dX5_takePatch_37 : decode cX5_takePatch 37 = .ok (.iconst 4, 1) := dq_190.2.2.2.2.2.2.2.2.2.1
theorem dX5_takePatch_38 : decode cX5_takePatch 38 = .ok (.if_icmp .ne 13, 3) := dq_190.2.2.2.2.2.2.2.2.2.2.1
theorem dX5_takePatch_41 : decode cX5_takePatch 41 = .ok (.aload_n 0, 1) := dq_190.2.2.2.2.2.2.2.2.2.2.2
theorem dq_191 : decode cX5_takePatch 42 = .ok (.getfield 15, 3) ∧ decode cX5_takePatch 45 = .ok (.iload_n 1, 1) ∧ decode cX5_takePatch 46 = .ok (.invokevirtual 109, 3) ∧ decode cX5_takePatch 49 = .ok (.iconst 1, 1) ∧ decode cX5_takePatch 50 = .ok (.ireturn, 1) ∧ decode cX5_takePatch 51 = .ok (.iload_n 3, 1) ∧ decode cX5_takePatch 52 = .ok (.iconst 3, 1) ∧ decode cX5_takePatch 53 = .ok (.if_icmp .eq 9, 3) ∧ decode cX5_takePatch 56 = .ok (.aload_n 0, 1) ∧ decode cX5_takePatch 57 = .ok (.iload_n 3, 1) ∧ decode cX5_takePatch 58 = .ok (.invokevirtual 47, 3) ∧ decode cX5_takePatch 61 = .ok (.ireturn, 1) := by decide +kernel
theorem dX5_takePatch_42 : decode cX5_takePatch 42 = .ok (.getfield 15, 3) := dq_191.1
theorem dX5_takePatch_45 : decode cX5_takePatch 45 = .ok (.iload_n 1, 1) := dq_191.2.1
theorem dX5_takePatch_46 : decode cX5_takePatch 46 = .ok (.invokevirtual 109, 3) := dq_191.2.2.1
theorem dX5_takePatch_49 : decode cX5_takePatch 49 = .ok (.iconst 1, 1) := dq_191.2.2.2.1
theorem dX5_takePatch_50 : decode cX5_takePatch 50 = .ok (.ireturn, 1) := dq_191.2.2.2.2.1
theorem dX5_takePatch_51 : decode cX5_takePatch 51 = .ok (.iload_n 3, 1) := dq_191.2.2.2.2.2.1
theorem dX5_takePatch_52 : decode cX5_takePatch 52 = .ok (.iconst 3, 1) := dq_191.2.2.2.2.2.2.1
theorem dX5_takePatch_53 : decode cX5_takePatch 53 = .ok (.if_icmp .eq 9, 3) := dq_191.2.2.2.2.2.2.2.1
theorem dX5_takePatch_56 : decode cX5_takePatch 56 = .ok (.aload_n 0, 1) := dq_191.2.2.2.2.2.2.2.2.1
theorem dX5_takePatch_57 : decode cX5_takePatch 57 = .ok (.iload_n 3, 1) := dq_191.2.2.2.2.2.2.2.2.2.1
theorem dX5_takePatch_58 : decode cX5_takePatch 58 = .ok (.invokevirtual 47, 3) := dq_191.2.2.2.2.2.2.2.2.2.2.1
theorem dX5_takePatch_61 : decode cX5_takePatch 61 = .ok (.ireturn, 1) := dq_191.2.2.2.2.2.2.2.2.2.2.2
theorem dq_192 : decode cX5_takePatch 62 = .ok (.aload_n 0, 1) ∧ decode cX5_takePatch 63 = .ok (.getfield 9, 3) ∧ decode cX5_takePatch 66 = .ok (.invokevirtual 53, 3) ∧ decode cX5_takePatch 69 = .ok (.istore 4, 2) ∧ decode cX5_takePatch 71 = .ok (.aload_n 0, 1) ∧ decode cX5_takePatch 72 = .ok (.getfield 15, 3) ∧ decode cX5_takePatch 75 = .ok (.iload 4, 2) ∧ decode cX5_takePatch 77 = .ok (.invokevirtual 113, 3) ∧ decode cX5_takePatch 80 = .ok (.ifCond .ne 9, 3) ∧ decode cX5_takePatch 83 = .ok (.aload_n 0, 1) ∧ decode cX5_takePatch 84 = .ok (.iconst 3, 1) ∧ decode cX5_takePatch 85 = .ok (.invokevirtual 40, 3) := by decide +kernel
theorem dX5_takePatch_62 : decode cX5_takePatch 62 = .ok (.aload_n 0, 1) := dq_192.1
theorem dX5_takePatch_63 : decode cX5_takePatch 63 = .ok (.getfield 9, 3) := dq_192.2.1
theorem dX5_takePatch_66 : decode cX5_takePatch 66 = .ok (.invokevirtual 53, 3) := dq_192.2.2.1
theorem dX5_takePatch_69 : decode cX5_takePatch 69 = .ok (.istore 4, 2) := dq_192.2.2.2.1
theorem dX5_takePatch_71 : decode cX5_takePatch 71 = .ok (.aload_n 0, 1) := dq_192.2.2.2.2.1
theorem dX5_takePatch_72 : decode cX5_takePatch 72 = .ok (.getfield 15, 3) := dq_192.2.2.2.2.2.1
theorem dX5_takePatch_75 : decode cX5_takePatch 75 = .ok (.iload 4, 2) := dq_192.2.2.2.2.2.2.1
theorem dX5_takePatch_77 : decode cX5_takePatch 77 = .ok (.invokevirtual 113, 3) := dq_192.2.2.2.2.2.2.2.1
theorem dX5_takePatch_80 : decode cX5_takePatch 80 = .ok (.ifCond .ne 9, 3) := dq_192.2.2.2.2.2.2.2.2.1
theorem dX5_takePatch_83 : decode cX5_takePatch 83 = .ok (.aload_n 0, 1) := dq_192.2.2.2.2.2.2.2.2.2.1
theorem dX5_takePatch_84 : decode cX5_takePatch 84 = .ok (.iconst 3, 1) := dq_192.2.2.2.2.2.2.2.2.2.2.1
theorem dX5_takePatch_85 : decode cX5_takePatch 85 = .ok (.invokevirtual 40, 3) := dq_192.2.2.2.2.2.2.2.2.2.2.2
theorem dq_193 : decode cX5_takePatch 88 = .ok (.ireturn, 1) ∧ decode cX5_takePatch 89 = .ok (.iload_n 1, 1) ∧ decode cX5_takePatch 90 = .ok (.iload 4, 2) ∧ decode cX5_takePatch 92 = .ok (.invokestatic 116, 3) ∧ decode cX5_takePatch 95 = .ok (.ifCond .eq 9, 3) ∧ decode cX5_takePatch 98 = .ok (.aload_n 0, 1) ∧ decode cX5_takePatch 99 = .ok (.iconst 4, 1) ∧ decode cX5_takePatch 100 = .ok (.invokevirtual 40, 3) ∧ decode cX5_takePatch 103 = .ok (.ireturn, 1) ∧ decode cX5_takePatch 104 = .ok (.iload_n 1, 1) ∧ decode cX5_takePatch 105 = .ok (.iconst 1, 1) ∧ decode cX5_takePatch 106 = .ok (.iload 4, 2) := by decide +kernel
theorem dX5_takePatch_88 : decode cX5_takePatch 88 = .ok (.ireturn, 1) := dq_193.1
theorem dX5_takePatch_89 : decode cX5_takePatch 89 = .ok (.iload_n 1, 1) := dq_193.2.1
theorem dX5_takePatch_90 : decode cX5_takePatch 90 = .ok (.iload 4, 2) := dq_193.2.2.1
theorem dX5_takePatch_92 : decode cX5_takePatch 92 = .ok (.invokestatic 116, 3) := dq_193.2.2.2.1
theorem dX5_takePatch_95 : decode cX5_takePatch 95 = .ok (.ifCond .eq 9, 3) := dq_193.2.2.2.2.1
theorem dX5_takePatch_98 : decode cX5_takePatch 98 = .ok (.aload_n 0, 1) := dq_193.2.2.2.2.2.1
theorem dX5_takePatch_99 : decode cX5_takePatch 99 = .ok (.iconst 4, 1) := dq_193.2.2.2.2.2.2.1
theorem dX5_takePatch_100 : decode cX5_takePatch 100 = .ok (.invokevirtual 40, 3) := dq_193.2.2.2.2.2.2.2.1
theorem dX5_takePatch_103 : decode cX5_takePatch 103 = .ok (.ireturn, 1) := dq_193.2.2.2.2.2.2.2.2.1
theorem dX5_takePatch_104 : decode cX5_takePatch 104 = .ok (.iload_n 1, 1) := dq_193.2.2.2.2.2.2.2.2.2.1
theorem dX5_takePatch_105 : decode cX5_takePatch 105 = .ok (.iconst 1, 1) := dq_193.2.2.2.2.2.2.2.2.2.2.1
theorem dX5_takePatch_106 : decode cX5_takePatch 106 = .ok (.iload 4, 2) := dq_193.2.2.2.2.2.2.2.2.2.2.2
theorem dq_194 : decode cX5_takePatch 108 = .ok (.ishl, 1) ∧ decode cX5_takePatch 109 = .ok (.ior, 1) ∧ decode cX5_takePatch 110 = .ok (.istore_n 1, 1) ∧ decode cX5_takePatch 111 = .ok (.iinc 2 1, 3) ∧ decode cX5_takePatch 114 = .ok (.goto (-92), 3) ∧ decode cX5_takePatch 117 = .ok (.aload_n 0, 1) ∧ decode cX5_takePatch 118 = .ok (.iconst 2, 1) ∧ decode cX5_takePatch 119 = .ok (.invokevirtual 40, 3) ∧ decode cX5_takePatch 122 = .ok (.ireturn, 1) := by decide +kernel
theorem dX5_takePatch_108 : decode cX5_takePatch 108 = .ok (.ishl, 1) := dq_194.1
theorem dX5_takePatch_109 : decode cX5_takePatch 109 = .ok (.ior, 1) := dq_194.2.1
theorem dX5_takePatch_110 : decode cX5_takePatch 110 = .ok (.istore_n 1, 1) := dq_194.2.2.1
theorem dX5_takePatch_111 : decode cX5_takePatch 111 = .ok (.iinc 2 1, 3) := dq_194.2.2.2.1
theorem dX5_takePatch_114 : decode cX5_takePatch 114 = .ok (.goto (-92), 3) := dq_194.2.2.2.2.1
theorem dX5_takePatch_117 : decode cX5_takePatch 117 = .ok (.aload_n 0, 1) := dq_194.2.2.2.2.2.1
theorem dX5_takePatch_118 : decode cX5_takePatch 118 = .ok (.iconst 2, 1) := dq_194.2.2.2.2.2.2.1
theorem dX5_takePatch_119 : decode cX5_takePatch 119 = .ok (.invokevirtual 40, 3) := dq_194.2.2.2.2.2.2.2.1
theorem dX5_takePatch_122 : decode cX5_takePatch 122 = .ok (.ireturn, 1) := dq_194.2.2.2.2.2.2.2.2
theorem dq_195 : decode cX5_takeGives 0 = .ok (.aload_n 0, 1) ∧ decode cX5_takeGives 1 = .ok (.getfield 15, 3) ∧ decode cX5_takeGives 4 = .ok (.invokevirtual 98, 3) ∧ decode cX5_takeGives 7 = .ok (.iconst 1, 1) ∧ decode cX5_takeGives 8 = .ok (.isub, 1) ∧ decode cX5_takeGives 9 = .ok (.istore_n 1, 1) ∧ decode cX5_takeGives 10 = .ok (.aload_n 0, 1) ∧ decode cX5_takeGives 11 = .ok (.iconst 0, 1) ∧ decode cX5_takeGives 12 = .ok (.iload_n 1, 1) ∧ decode cX5_takeGives 13 = .ok (.invokevirtual 101, 3) ∧ decode cX5_takeGives 16 = .ok (.ifCond .ne 5, 3) ∧ decode cX5_takeGives 19 = .ok (.iconst 0, 1) := by decide +kernel
theorem dX5_takeGives_0 : decode cX5_takeGives 0 = .ok (.aload_n 0, 1) := dq_195.1
theorem dX5_takeGives_1 : decode cX5_takeGives 1 = .ok (.getfield 15, 3) := dq_195.2.1
theorem dX5_takeGives_4 : decode cX5_takeGives 4 = .ok (.invokevirtual 98, 3) := dq_195.2.2.1
theorem dX5_takeGives_7 : decode cX5_takeGives 7 = .ok (.iconst 1, 1) := dq_195.2.2.2.1
theorem dX5_takeGives_8 : decode cX5_takeGives 8 = .ok (.isub, 1) := dq_195.2.2.2.2.1
theorem dX5_takeGives_9 : decode cX5_takeGives 9 = .ok (.istore_n 1, 1) := dq_195.2.2.2.2.2.1
theorem dX5_takeGives_10 : decode cX5_takeGives 10 = .ok (.aload_n 0, 1) := dq_195.2.2.2.2.2.2.1
theorem dX5_takeGives_11 : decode cX5_takeGives 11 = .ok (.iconst 0, 1) := dq_195.2.2.2.2.2.2.2.1
theorem dX5_takeGives_12 : decode cX5_takeGives 12 = .ok (.iload_n 1, 1) := dq_195.2.2.2.2.2.2.2.2.1
theorem dX5_takeGives_13 : decode cX5_takeGives 13 = .ok (.invokevirtual 101, 3) := dq_195.2.2.2.2.2.2.2.2.2.1
theorem dX5_takeGives_16 : decode cX5_takeGives 16 = .ok (.ifCond .ne 5, 3) := dq_195.2.2.2.2.2.2.2.2.2.2.1
theorem dX5_takeGives_19 : decode cX5_takeGives 19 = .ok (.iconst 0, 1) := dq_195.2.2.2.2.2.2.2.2.2.2.2
theorem dq_196 : decode cX5_takeGives 20 = .ok (.ireturn, 1) ∧ decode cX5_takeGives 21 = .ok (.aload_n 0, 1) ∧ decode cX5_takeGives 22 = .ok (.getfield 56, 3) ∧ decode cX5_takeGives 25 = .ok (.istore_n 2, 1) ∧ decode cX5_takeGives 26 = .ok (.aload_n 0, 1) ∧ decode cX5_takeGives 27 = .ok (.iconst 0, 1) ∧ decode cX5_takeGives 28 = .ok (.iload_n 1, 1) ∧ decode cX5_takeGives 29 = .ok (.invokevirtual 101, 3) ∧ decode cX5_takeGives 32 = .ok (.ifCond .ne 5, 3) ∧ decode cX5_takeGives 35 = .ok (.iconst 0, 1) ∧ decode cX5_takeGives 36 = .ok (.ireturn, 1) ∧ decode cX5_takeGives 37 = .ok (.aload_n 0, 1) := by decide +kernel
theorem dX5_takeGives_20 : decode cX5_takeGives 20 = .ok (.ireturn, 1) := dq_196.1
theorem dX5_takeGives_21 : decode cX5_takeGives 21 = .ok (.aload_n 0, 1) := dq_196.2.1
theorem dX5_takeGives_22 : decode cX5_takeGives 22 = .ok (.getfield 56, 3) := dq_196.2.2.1
theorem dX5_takeGives_25 : decode cX5_takeGives 25 = .ok (.istore_n 2, 1) := dq_196.2.2.2.1
theorem dX5_takeGives_26 : decode cX5_takeGives 26 = .ok (.aload_n 0, 1) := dq_196.2.2.2.2.1
theorem dX5_takeGives_27 : decode cX5_takeGives 27 = .ok (.iconst 0, 1) := dq_196.2.2.2.2.2.1
theorem dX5_takeGives_28 : decode cX5_takeGives 28 = .ok (.iload_n 1, 1) := dq_196.2.2.2.2.2.2.1
theorem dX5_takeGives_29 : decode cX5_takeGives 29 = .ok (.invokevirtual 101, 3) := dq_196.2.2.2.2.2.2.2.1
theorem dX5_takeGives_32 : decode cX5_takeGives 32 = .ok (.ifCond .ne 5, 3) := dq_196.2.2.2.2.2.2.2.2.1
theorem dX5_takeGives_35 : decode cX5_takeGives 35 = .ok (.iconst 0, 1) := dq_196.2.2.2.2.2.2.2.2.2.1
theorem dX5_takeGives_36 : decode cX5_takeGives 36 = .ok (.ireturn, 1) := dq_196.2.2.2.2.2.2.2.2.2.2.1
theorem dX5_takeGives_37 : decode cX5_takeGives 37 = .ok (.aload_n 0, 1) := dq_196.2.2.2.2.2.2.2.2.2.2.2
theorem dq_197 : decode cX5_takeGives 38 = .ok (.getfield 56, 3) ∧ decode cX5_takeGives 41 = .ok (.iload_n 2, 1) ∧ decode cX5_takeGives 42 = .ok (.if_icmp .ne 9, 3) ∧ decode cX5_takeGives 45 = .ok (.aload_n 0, 1) ∧ decode cX5_takeGives 46 = .ok (.iconst 3, 1) ∧ decode cX5_takeGives 47 = .ok (.invokevirtual 40, 3) ∧ decode cX5_takeGives 50 = .ok (.ireturn, 1) ∧ decode cX5_takeGives 51 = .ok (.aload_n 0, 1) ∧ decode cX5_takeGives 52 = .ok (.getfield 15, 3) ∧ decode cX5_takeGives 55 = .ok (.iload_n 2, 1) ∧ decode cX5_takeGives 56 = .ok (.aload_n 0, 1) ∧ decode cX5_takeGives 57 = .ok (.getfield 56, 3) := by decide +kernel
theorem dX5_takeGives_38 : decode cX5_takeGives 38 = .ok (.getfield 56, 3) := dq_197.1
theorem dX5_takeGives_41 : decode cX5_takeGives 41 = .ok (.iload_n 2, 1) := dq_197.2.1
theorem dX5_takeGives_42 : decode cX5_takeGives 42 = .ok (.if_icmp .ne 9, 3) := dq_197.2.2.1
theorem dX5_takeGives_45 : decode cX5_takeGives 45 = .ok (.aload_n 0, 1) := dq_197.2.2.2.1
theorem dX5_takeGives_46 : decode cX5_takeGives 46 = .ok (.iconst 3, 1) := dq_197.2.2.2.2.1
theorem dX5_takeGives_47 : decode cX5_takeGives 47 = .ok (.invokevirtual 40, 3) := dq_197.2.2.2.2.2.1
theorem dX5_takeGives_50 : decode cX5_takeGives 50 = .ok (.ireturn, 1) := dq_197.2.2.2.2.2.2.1
theorem dX5_takeGives_51 : decode cX5_takeGives 51 = .ok (.aload_n 0, 1) := dq_197.2.2.2.2.2.2.2.1
theorem dX5_takeGives_52 : decode cX5_takeGives 52 = .ok (.getfield 15, 3) := dq_197.2.2.2.2.2.2.2.2.1
theorem dX5_takeGives_55 : decode cX5_takeGives 55 = .ok (.iload_n 2, 1) := dq_197.2.2.2.2.2.2.2.2.2.1
theorem dX5_takeGives_56 : decode cX5_takeGives 56 = .ok (.aload_n 0, 1) := dq_197.2.2.2.2.2.2.2.2.2.2.1
theorem dX5_takeGives_57 : decode cX5_takeGives 57 = .ok (.getfield 56, 3) := dq_197.2.2.2.2.2.2.2.2.2.2.2
theorem dq_198 : decode cX5_takeGives 60 = .ok (.invokevirtual 119, 3) ∧ decode cX5_takeGives 63 = .ok (.ifCond .eq 11, 3) ∧ decode cX5_takeGives 66 = .ok (.aload_n 0, 1) ∧ decode cX5_takeGives 67 = .ok (.iconst 4, 1) ∧ decode cX5_takeGives 68 = .ok (.invokevirtual 50, 3) ∧ decode cX5_takeGives 71 = .ok (.goto 8, 3) ∧ decode cX5_takeGives 74 = .ok (.aload_n 0, 1) ∧ decode cX5_takeGives 75 = .ok (.iconst 4, 1) ∧ decode cX5_takeGives 76 = .ok (.invokevirtual 40, 3) ∧ decode cX5_takeGives 79 = .ok (.ireturn, 1) := by decide +kernel
theorem dX5_takeGives_60 : decode cX5_takeGives 60 = .ok (.invokevirtual 119, 3) := dq_198.1
theorem dX5_takeGives_63 : decode cX5_takeGives 63 = .ok (.ifCond .eq 11, 3) := dq_198.2.1
theorem dX5_takeGives_66 : decode cX5_takeGives 66 = .ok (.aload_n 0, 1) := dq_198.2.2.1
theorem dX5_takeGives_67 : decode cX5_takeGives 67 = .ok (.iconst 4, 1) := dq_198.2.2.2.1
theorem dX5_takeGives_68 : decode cX5_takeGives 68 = .ok (.invokevirtual 50, 3) := dq_198.2.2.2.2.1
theorem dX5_takeGives_71 : decode cX5_takeGives 71 = .ok (.goto 8, 3) := dq_198.2.2.2.2.2.1
theorem dX5_takeGives_74 : decode cX5_takeGives 74 = .ok (.aload_n 0, 1) := dq_198.2.2.2.2.2.2.1
theorem dX5_takeGives_75 : decode cX5_takeGives 75 = .ok (.iconst 4, 1) := dq_198.2.2.2.2.2.2.2.1
theorem dX5_takeGives_76 : decode cX5_takeGives 76 = .ok (.invokevirtual 40, 3) := dq_198.2.2.2.2.2.2.2.2.1
theorem dX5_takeGives_79 : decode cX5_takeGives 79 = .ok (.ireturn, 1) := dq_198.2.2.2.2.2.2.2.2.2
theorem dq_199 : decode cX5_takeApart 0 = .ok (.aload_n 0, 1) ∧ decode cX5_takeApart 1 = .ok (.getfield 15, 3) ∧ decode cX5_takeApart 4 = .ok (.invokevirtual 122, 3) ∧ decode cX5_takeApart 7 = .ok (.ifCond .eq 9, 3) ∧ decode cX5_takeApart 10 = .ok (.aload_n 0, 1) ∧ decode cX5_takeApart 11 = .ok (.iconst 4, 1) ∧ decode cX5_takeApart 12 = .ok (.invokevirtual 40, 3) ∧ decode cX5_takeApart 15 = .ok (.ireturn, 1) ∧ decode cX5_takeApart 16 = .ok (.aload_n 0, 1) ∧ decode cX5_takeApart 17 = .ok (.iconst 0, 1) ∧ decode cX5_takeApart 18 = .ok (.bipush 99, 2) ∧ decode cX5_takeApart 20 = .ok (.invokevirtual 101, 3) := by decide +kernel
theorem dX5_takeApart_0 : decode cX5_takeApart 0 = .ok (.aload_n 0, 1) := dq_199.1
theorem dX5_takeApart_1 : decode cX5_takeApart 1 = .ok (.getfield 15, 3) := dq_199.2.1
theorem dX5_takeApart_4 : decode cX5_takeApart 4 = .ok (.invokevirtual 122, 3) := dq_199.2.2.1
theorem dX5_takeApart_7 : decode cX5_takeApart 7 = .ok (.ifCond .eq 9, 3) := dq_199.2.2.2.1
theorem dX5_takeApart_10 : decode cX5_takeApart 10 = .ok (.aload_n 0, 1) := dq_199.2.2.2.2.1
theorem dX5_takeApart_11 : decode cX5_takeApart 11 = .ok (.iconst 4, 1) := dq_199.2.2.2.2.2.1
theorem dX5_takeApart_12 : decode cX5_takeApart 12 = .ok (.invokevirtual 40, 3) := dq_199.2.2.2.2.2.2.1
theorem dX5_takeApart_15 : decode cX5_takeApart 15 = .ok (.ireturn, 1) := dq_199.2.2.2.2.2.2.2.1
theorem dX5_takeApart_16 : decode cX5_takeApart 16 = .ok (.aload_n 0, 1) := dq_199.2.2.2.2.2.2.2.2.1
theorem dX5_takeApart_17 : decode cX5_takeApart 17 = .ok (.iconst 0, 1) := dq_199.2.2.2.2.2.2.2.2.2.1
theorem dX5_takeApart_18 : decode cX5_takeApart 18 = .ok (.bipush 99, 2) := dq_199.2.2.2.2.2.2.2.2.2.2.1
theorem dX5_takeApart_20 : decode cX5_takeApart 20 = .ok (.invokevirtual 101, 3) := dq_199.2.2.2.2.2.2.2.2.2.2.2
theorem dq_200 : decode cX5_takeApart 23 = .ok (.ifCond .ne 5, 3) ∧ decode cX5_takeApart 26 = .ok (.iconst 0, 1) ∧ decode cX5_takeApart 27 = .ok (.ireturn, 1) ∧ decode cX5_takeApart 28 = .ok (.aload_n 0, 1) ∧ decode cX5_takeApart 29 = .ok (.getfield 15, 3) ∧ decode cX5_takeApart 32 = .ok (.aload_n 0, 1) ∧ decode cX5_takeApart 33 = .ok (.getfield 56, 3) ∧ decode cX5_takeApart 36 = .ok (.invokevirtual 125, 3) ∧ decode cX5_takeApart 39 = .ok (.aload_n 0, 1) ∧ decode cX5_takeApart 40 = .ok (.iconst 4, 1) ∧ decode cX5_takeApart 41 = .ok (.invokevirtual 50, 3) ∧ decode cX5_takeApart 44 = .ok (.ireturn, 1) := by decide +kernel
theorem dX5_takeApart_23 : decode cX5_takeApart 23 = .ok (.ifCond .ne 5, 3) := dq_200.1
theorem dX5_takeApart_26 : decode cX5_takeApart 26 = .ok (.iconst 0, 1) := dq_200.2.1
theorem dX5_takeApart_27 : decode cX5_takeApart 27 = .ok (.ireturn, 1) := dq_200.2.2.1
theorem dX5_takeApart_28 : decode cX5_takeApart 28 = .ok (.aload_n 0, 1) := dq_200.2.2.2.1
theorem dX5_takeApart_29 : decode cX5_takeApart 29 = .ok (.getfield 15, 3) := dq_200.2.2.2.2.1
theorem dX5_takeApart_32 : decode cX5_takeApart 32 = .ok (.aload_n 0, 1) := dq_200.2.2.2.2.2.1
theorem dX5_takeApart_33 : decode cX5_takeApart 33 = .ok (.getfield 56, 3) := dq_200.2.2.2.2.2.2.1
theorem dX5_takeApart_36 : decode cX5_takeApart 36 = .ok (.invokevirtual 125, 3) := dq_200.2.2.2.2.2.2.2.1
theorem dX5_takeApart_39 : decode cX5_takeApart 39 = .ok (.aload_n 0, 1) := dq_200.2.2.2.2.2.2.2.2.1
theorem dX5_takeApart_40 : decode cX5_takeApart 40 = .ok (.iconst 4, 1) := dq_200.2.2.2.2.2.2.2.2.2.1
theorem dX5_takeApart_41 : decode cX5_takeApart 41 = .ok (.invokevirtual 50, 3) := dq_200.2.2.2.2.2.2.2.2.2.2.1
theorem dX5_takeApart_44 : decode cX5_takeApart 44 = .ok (.ireturn, 1) := dq_200.2.2.2.2.2.2.2.2.2.2.2
theorem dq_201 : decode cX5_takeQuarry 0 = .ok (.aload_n 0, 1) ∧ decode cX5_takeQuarry 1 = .ok (.iconst 2, 1) ∧ decode cX5_takeQuarry 2 = .ok (.invokevirtual 50, 3) ∧ decode cX5_takeQuarry 5 = .ok (.ifCond .ne 5, 3) ∧ decode cX5_takeQuarry 8 = .ok (.iconst 0, 1) ∧ decode cX5_takeQuarry 9 = .ok (.ireturn, 1) ∧ decode cX5_takeQuarry 10 = .ok (.aload_n 0, 1) ∧ decode cX5_takeQuarry 11 = .ok (.getfield 9, 3) ∧ decode cX5_takeQuarry 14 = .ok (.iconst 0, 1) ∧ decode cX5_takeQuarry 15 = .ok (.invokevirtual 128, 3) ∧ decode cX5_takeQuarry 18 = .ok (.bipush 97, 2) ∧ decode cX5_takeQuarry 20 = .ok (.isub, 1) := by decide +kernel
theorem dX5_takeQuarry_0 : decode cX5_takeQuarry 0 = .ok (.aload_n 0, 1) := dq_201.1
theorem dX5_takeQuarry_1 : decode cX5_takeQuarry 1 = .ok (.iconst 2, 1) := dq_201.2.1
theorem dX5_takeQuarry_2 : decode cX5_takeQuarry 2 = .ok (.invokevirtual 50, 3) := dq_201.2.2.1
theorem dX5_takeQuarry_5 : decode cX5_takeQuarry 5 = .ok (.ifCond .ne 5, 3) := dq_201.2.2.2.1
theorem dX5_takeQuarry_8 : decode cX5_takeQuarry 8 = .ok (.iconst 0, 1) := dq_201.2.2.2.2.1
theorem dX5_takeQuarry_9 : decode cX5_takeQuarry 9 = .ok (.ireturn, 1) := dq_201.2.2.2.2.2.1
theorem dX5_takeQuarry_10 : decode cX5_takeQuarry 10 = .ok (.aload_n 0, 1) := dq_201.2.2.2.2.2.2.1
theorem dX5_takeQuarry_11 : decode cX5_takeQuarry 11 = .ok (.getfield 9, 3) := dq_201.2.2.2.2.2.2.2.1
theorem dX5_takeQuarry_14 : decode cX5_takeQuarry 14 = .ok (.iconst 0, 1) := dq_201.2.2.2.2.2.2.2.2.1
theorem dX5_takeQuarry_15 : decode cX5_takeQuarry 15 = .ok (.invokevirtual 128, 3) := dq_201.2.2.2.2.2.2.2.2.2.1
theorem dX5_takeQuarry_18 : decode cX5_takeQuarry 18 = .ok (.bipush 97, 2) := dq_201.2.2.2.2.2.2.2.2.2.2.1
theorem dX5_takeQuarry_20 : decode cX5_takeQuarry 20 = .ok (.isub, 1) := dq_201.2.2.2.2.2.2.2.2.2.2.2
theorem dq_202 : decode cX5_takeQuarry 21 = .ok (.istore_n 1, 1) ∧ decode cX5_takeQuarry 22 = .ok (.aload_n 0, 1) ∧ decode cX5_takeQuarry 23 = .ok (.getfield 9, 3) ∧ decode cX5_takeQuarry 26 = .ok (.invokevirtual 132, 3) ∧ decode cX5_takeQuarry 29 = .ok (.iconst 1, 1) ∧ decode cX5_takeQuarry 30 = .ok (.if_icmp .ne 12, 3) ∧ decode cX5_takeQuarry 33 = .ok (.iload_n 1, 1) ∧ decode cX5_takeQuarry 34 = .ok (.iconst 0, 1) ∧ decode cX5_takeQuarry 35 = .ok (.iconst 5, 1) ∧ decode cX5_takeQuarry 36 = .ok (.invokestatic 59, 3) ∧ decode cX5_takeQuarry 39 = .ok (.ifCond .ne 9, 3) ∧ decode cX5_takeQuarry 42 = .ok (.aload_n 0, 1) := by decide +kernel
theorem dX5_takeQuarry_21 : decode cX5_takeQuarry 21 = .ok (.istore_n 1, 1) := dq_202.1
theorem dX5_takeQuarry_22 : decode cX5_takeQuarry 22 = .ok (.aload_n 0, 1) := dq_202.2.1
theorem dX5_takeQuarry_23 : decode cX5_takeQuarry 23 = .ok (.getfield 9, 3) := dq_202.2.2.1
theorem dX5_takeQuarry_26 : decode cX5_takeQuarry 26 = .ok (.invokevirtual 132, 3) := dq_202.2.2.2.1
theorem dX5_takeQuarry_29 : decode cX5_takeQuarry 29 = .ok (.iconst 1, 1) := dq_202.2.2.2.2.1
theorem dX5_takeQuarry_30 : decode cX5_takeQuarry 30 = .ok (.if_icmp .ne 12, 3) := dq_202.2.2.2.2.2.1
theorem dX5_takeQuarry_33 : decode cX5_takeQuarry 33 = .ok (.iload_n 1, 1) := dq_202.2.2.2.2.2.2.1
theorem dX5_takeQuarry_34 : decode cX5_takeQuarry 34 = .ok (.iconst 0, 1) := dq_202.2.2.2.2.2.2.2.1
theorem dX5_takeQuarry_35 : decode cX5_takeQuarry 35 = .ok (.iconst 5, 1) := dq_202.2.2.2.2.2.2.2.2.1
theorem dX5_takeQuarry_36 : decode cX5_takeQuarry 36 = .ok (.invokestatic 59, 3) := dq_202.2.2.2.2.2.2.2.2.2.1
theorem dX5_takeQuarry_39 : decode cX5_takeQuarry 39 = .ok (.ifCond .ne 9, 3) := dq_202.2.2.2.2.2.2.2.2.2.2.1
theorem dX5_takeQuarry_42 : decode cX5_takeQuarry 42 = .ok (.aload_n 0, 1) := dq_202.2.2.2.2.2.2.2.2.2.2.2
theorem dq_203 : decode cX5_takeQuarry 43 = .ok (.iconst 3, 1) ∧ decode cX5_takeQuarry 44 = .ok (.invokevirtual 40, 3) ∧ decode cX5_takeQuarry 47 = .ok (.ireturn, 1) ∧ decode cX5_takeQuarry 48 = .ok (.aload_n 0, 1) ∧ decode cX5_takeQuarry 49 = .ok (.getfield 15, 3) ∧ decode cX5_takeQuarry 52 = .ok (.iload_n 1, 1) ∧ decode cX5_takeQuarry 53 = .ok (.invokevirtual 135, 3) ∧ decode cX5_takeQuarry 56 = .ok (.ifCond .eq 9, 3) ∧ decode cX5_takeQuarry 59 = .ok (.aload_n 0, 1) ∧ decode cX5_takeQuarry 60 = .ok (.iconst 4, 1) ∧ decode cX5_takeQuarry 61 = .ok (.invokevirtual 40, 3) ∧ decode cX5_takeQuarry 64 = .ok (.ireturn, 1) := by decide +kernel
theorem dX5_takeQuarry_43 : decode cX5_takeQuarry 43 = .ok (.iconst 3, 1) := dq_203.1
theorem dX5_takeQuarry_44 : decode cX5_takeQuarry 44 = .ok (.invokevirtual 40, 3) := dq_203.2.1
theorem dX5_takeQuarry_47 : decode cX5_takeQuarry 47 = .ok (.ireturn, 1) := dq_203.2.2.1
theorem dX5_takeQuarry_48 : decode cX5_takeQuarry 48 = .ok (.aload_n 0, 1) := dq_203.2.2.2.1
theorem dX5_takeQuarry_49 : decode cX5_takeQuarry 49 = .ok (.getfield 15, 3) := dq_203.2.2.2.2.1
theorem dX5_takeQuarry_52 : decode cX5_takeQuarry 52 = .ok (.iload_n 1, 1) := dq_203.2.2.2.2.2.1
theorem dX5_takeQuarry_53 : decode cX5_takeQuarry 53 = .ok (.invokevirtual 135, 3) := dq_203.2.2.2.2.2.2.1
theorem dX5_takeQuarry_56 : decode cX5_takeQuarry 56 = .ok (.ifCond .eq 9, 3) := dq_203.2.2.2.2.2.2.2.1
theorem dX5_takeQuarry_59 : decode cX5_takeQuarry 59 = .ok (.aload_n 0, 1) := dq_203.2.2.2.2.2.2.2.2.1
theorem dX5_takeQuarry_60 : decode cX5_takeQuarry 60 = .ok (.iconst 4, 1) := dq_203.2.2.2.2.2.2.2.2.2.1
theorem dX5_takeQuarry_61 : decode cX5_takeQuarry 61 = .ok (.invokevirtual 40, 3) := dq_203.2.2.2.2.2.2.2.2.2.2.1
theorem dX5_takeQuarry_64 : decode cX5_takeQuarry 64 = .ok (.ireturn, 1) := dq_203.2.2.2.2.2.2.2.2.2.2.2
theorem dq_204 : decode cX5_takeQuarry 65 = .ok (.aload_n 0, 1) ∧ decode cX5_takeQuarry 66 = .ok (.iconst 0, 1) ∧ decode cX5_takeQuarry 67 = .ok (.bipush 99, 2) ∧ decode cX5_takeQuarry 69 = .ok (.invokevirtual 101, 3) ∧ decode cX5_takeQuarry 72 = .ok (.ifCond .ne 5, 3) ∧ decode cX5_takeQuarry 75 = .ok (.iconst 0, 1) ∧ decode cX5_takeQuarry 76 = .ok (.ireturn, 1) ∧ decode cX5_takeQuarry 77 = .ok (.aload_n 0, 1) ∧ decode cX5_takeQuarry 78 = .ok (.getfield 56, 3) ∧ decode cX5_takeQuarry 81 = .ok (.istore_n 2, 1) ∧ decode cX5_takeQuarry 82 = .ok (.aload_n 0, 1) ∧ decode cX5_takeQuarry 83 = .ok (.iconst 1, 1) := by decide +kernel
theorem dX5_takeQuarry_65 : decode cX5_takeQuarry 65 = .ok (.aload_n 0, 1) := dq_204.1
theorem dX5_takeQuarry_66 : decode cX5_takeQuarry 66 = .ok (.iconst 0, 1) := dq_204.2.1
theorem dX5_takeQuarry_67 : decode cX5_takeQuarry 67 = .ok (.bipush 99, 2) := dq_204.2.2.1
theorem dX5_takeQuarry_69 : decode cX5_takeQuarry 69 = .ok (.invokevirtual 101, 3) := dq_204.2.2.2.1
theorem dX5_takeQuarry_72 : decode cX5_takeQuarry 72 = .ok (.ifCond .ne 5, 3) := dq_204.2.2.2.2.1
theorem dX5_takeQuarry_75 : decode cX5_takeQuarry 75 = .ok (.iconst 0, 1) := dq_204.2.2.2.2.2.1
theorem dX5_takeQuarry_76 : decode cX5_takeQuarry 76 = .ok (.ireturn, 1) := dq_204.2.2.2.2.2.2.1
theorem dX5_takeQuarry_77 : decode cX5_takeQuarry 77 = .ok (.aload_n 0, 1) := dq_204.2.2.2.2.2.2.2.1
theorem dX5_takeQuarry_78 : decode cX5_takeQuarry 78 = .ok (.getfield 56, 3) := dq_204.2.2.2.2.2.2.2.2.1
theorem dX5_takeQuarry_81 : decode cX5_takeQuarry 81 = .ok (.istore_n 2, 1) := dq_204.2.2.2.2.2.2.2.2.2.1
theorem dX5_takeQuarry_82 : decode cX5_takeQuarry 82 = .ok (.aload_n 0, 1) := dq_204.2.2.2.2.2.2.2.2.2.2.1
theorem dX5_takeQuarry_83 : decode cX5_takeQuarry 83 = .ok (.iconst 1, 1) := dq_204.2.2.2.2.2.2.2.2.2.2.2
theorem dq_205 : decode cX5_takeQuarry 84 = .ok (.bipush 99, 2) ∧ decode cX5_takeQuarry 86 = .ok (.invokevirtual 101, 3) ∧ decode cX5_takeQuarry 89 = .ok (.ifCond .ne 5, 3) ∧ decode cX5_takeQuarry 92 = .ok (.iconst 0, 1) ∧ decode cX5_takeQuarry 93 = .ok (.ireturn, 1) ∧ decode cX5_takeQuarry 94 = .ok (.aload_n 0, 1) ∧ decode cX5_takeQuarry 95 = .ok (.getfield 15, 3) ∧ decode cX5_takeQuarry 98 = .ok (.iload_n 1, 1) ∧ decode cX5_takeQuarry 99 = .ok (.iload_n 2, 1) ∧ decode cX5_takeQuarry 100 = .ok (.aload_n 0, 1) ∧ decode cX5_takeQuarry 101 = .ok (.getfield 56, 3) ∧ decode cX5_takeQuarry 104 = .ok (.invokevirtual 138, 3) := by decide +kernel
theorem dX5_takeQuarry_84 : decode cX5_takeQuarry 84 = .ok (.bipush 99, 2) := dq_205.1
theorem dX5_takeQuarry_86 : decode cX5_takeQuarry 86 = .ok (.invokevirtual 101, 3) := dq_205.2.1
theorem dX5_takeQuarry_89 : decode cX5_takeQuarry 89 = .ok (.ifCond .ne 5, 3) := dq_205.2.2.1
theorem dX5_takeQuarry_92 : decode cX5_takeQuarry 92 = .ok (.iconst 0, 1) := dq_205.2.2.2.1
theorem dX5_takeQuarry_93 : decode cX5_takeQuarry 93 = .ok (.ireturn, 1) := dq_205.2.2.2.2.1
theorem dX5_takeQuarry_94 : decode cX5_takeQuarry 94 = .ok (.aload_n 0, 1) := dq_205.2.2.2.2.2.1
theorem dX5_takeQuarry_95 : decode cX5_takeQuarry 95 = .ok (.getfield 15, 3) := dq_205.2.2.2.2.2.2.1
theorem dX5_takeQuarry_98 : decode cX5_takeQuarry 98 = .ok (.iload_n 1, 1) := dq_205.2.2.2.2.2.2.2.1
theorem dX5_takeQuarry_99 : decode cX5_takeQuarry 99 = .ok (.iload_n 2, 1) := dq_205.2.2.2.2.2.2.2.2.1
theorem dX5_takeQuarry_100 : decode cX5_takeQuarry 100 = .ok (.aload_n 0, 1) := dq_205.2.2.2.2.2.2.2.2.2.1
theorem dX5_takeQuarry_101 : decode cX5_takeQuarry 101 = .ok (.getfield 56, 3) := dq_205.2.2.2.2.2.2.2.2.2.2.1
theorem dX5_takeQuarry_104 : decode cX5_takeQuarry 104 = .ok (.invokevirtual 138, 3) := dq_205.2.2.2.2.2.2.2.2.2.2.2
theorem dq_206 : decode cX5_takeQuarry 107 = .ok (.aload_n 0, 1) ∧ decode cX5_takeQuarry 108 = .ok (.iconst 4, 1) ∧ decode cX5_takeQuarry 109 = .ok (.invokevirtual 50, 3) ∧ decode cX5_takeQuarry 112 = .ok (.ireturn, 1) := by decide +kernel
theorem dX5_takeQuarry_107 : decode cX5_takeQuarry 107 = .ok (.aload_n 0, 1) := dq_206.1
theorem dX5_takeQuarry_108 : decode cX5_takeQuarry 108 = .ok (.iconst 4, 1) := dq_206.2.1
theorem dX5_takeQuarry_109 : decode cX5_takeQuarry 109 = .ok (.invokevirtual 50, 3) := dq_206.2.2.1
theorem dX5_takeQuarry_112 : decode cX5_takeQuarry 112 = .ok (.ireturn, 1) := dq_206.2.2.2
theorem dq_207 : decode cX5_takeBook 0 = .ok (.aload_n 0, 1) ∧ decode cX5_takeBook 1 = .ok (.getfield 15, 3) ∧ decode cX5_takeBook 4 = .ok (.invokevirtual 142, 3) ∧ decode cX5_takeBook 7 = .ok (.iconst 4, 1) ∧ decode cX5_takeBook 8 = .ok (.if_icmp .lt 9, 3) ∧ decode cX5_takeBook 11 = .ok (.aload_n 0, 1) ∧ decode cX5_takeBook 12 = .ok (.iconst 5, 1) ∧ decode cX5_takeBook 13 = .ok (.invokevirtual 40, 3) ∧ decode cX5_takeBook 16 = .ok (.ireturn, 1) ∧ decode cX5_takeBook 17 = .ok (.iconst 0, 1) ∧ decode cX5_takeBook 18 = .ok (.istore_n 1, 1) ∧ decode cX5_takeBook 19 = .ok (.iload_n 1, 1) := by decide +kernel
theorem dX5_takeBook_0 : decode cX5_takeBook 0 = .ok (.aload_n 0, 1) := dq_207.1
theorem dX5_takeBook_1 : decode cX5_takeBook 1 = .ok (.getfield 15, 3) := dq_207.2.1
theorem dX5_takeBook_4 : decode cX5_takeBook 4 = .ok (.invokevirtual 142, 3) := dq_207.2.2.1
theorem dX5_takeBook_7 : decode cX5_takeBook 7 = .ok (.iconst 4, 1) := dq_207.2.2.2.1
theorem dX5_takeBook_8 : decode cX5_takeBook 8 = .ok (.if_icmp .lt 9, 3) := dq_207.2.2.2.2.1
theorem dX5_takeBook_11 : decode cX5_takeBook 11 = .ok (.aload_n 0, 1) := dq_207.2.2.2.2.2.1
theorem dX5_takeBook_12 : decode cX5_takeBook 12 = .ok (.iconst 5, 1) := dq_207.2.2.2.2.2.2.1
theorem dX5_takeBook_13 : decode cX5_takeBook 13 = .ok (.invokevirtual 40, 3) := dq_207.2.2.2.2.2.2.2.1
theorem dX5_takeBook_16 : decode cX5_takeBook 16 = .ok (.ireturn, 1) := dq_207.2.2.2.2.2.2.2.2.1
theorem dX5_takeBook_17 : decode cX5_takeBook 17 = .ok (.iconst 0, 1) := dq_207.2.2.2.2.2.2.2.2.2.1
theorem dX5_takeBook_18 : decode cX5_takeBook 18 = .ok (.istore_n 1, 1) := dq_207.2.2.2.2.2.2.2.2.2.2.1
theorem dX5_takeBook_19 : decode cX5_takeBook 19 = .ok (.iload_n 1, 1) := dq_207.2.2.2.2.2.2.2.2.2.2.2
theorem dq_208 : decode cX5_takeBook 20 = .ok (.iconst 4, 1) ∧ decode cX5_takeBook 21 = .ok (.if_icmp .ge 27, 3) ∧ decode cX5_takeBook 24 = .ok (.aload_n 0, 1) ∧ decode cX5_takeBook 25 = .ok (.iconst 2, 1) ∧ decode cX5_takeBook 26 = .ok (.invokevirtual 50, 3) ∧ decode cX5_takeBook 29 = .ok (.ifCond .eq 11, 3) ∧ decode cX5_takeBook 32 = .ok (.aload_n 0, 1) ∧ decode cX5_takeBook 33 = .ok (.iload_n 1, 1) ∧ decode cX5_takeBook 34 = .ok (.invokevirtual 145, 3) ∧ decode cX5_takeBook 37 = .ok (.ifCond .ne 5, 3) ∧ decode cX5_takeBook 40 = .ok (.iconst 0, 1) ∧ decode cX5_takeBook 41 = .ok (.ireturn, 1) := by decide +kernel
theorem dX5_takeBook_20 : decode cX5_takeBook 20 = .ok (.iconst 4, 1) := dq_208.1
theorem dX5_takeBook_21 : decode cX5_takeBook 21 = .ok (.if_icmp .ge 27, 3) := dq_208.2.1
theorem dX5_takeBook_24 : decode cX5_takeBook 24 = .ok (.aload_n 0, 1) := dq_208.2.2.1
theorem dX5_takeBook_25 : decode cX5_takeBook 25 = .ok (.iconst 2, 1) := dq_208.2.2.2.1
theorem dX5_takeBook_26 : decode cX5_takeBook 26 = .ok (.invokevirtual 50, 3) := dq_208.2.2.2.2.1
theorem dX5_takeBook_29 : decode cX5_takeBook 29 = .ok (.ifCond .eq 11, 3) := dq_208.2.2.2.2.2.1
theorem dX5_takeBook_32 : decode cX5_takeBook 32 = .ok (.aload_n 0, 1) := dq_208.2.2.2.2.2.2.1
theorem dX5_takeBook_33 : decode cX5_takeBook 33 = .ok (.iload_n 1, 1) := dq_208.2.2.2.2.2.2.2.1
theorem dX5_takeBook_34 : decode cX5_takeBook 34 = .ok (.invokevirtual 145, 3) := dq_208.2.2.2.2.2.2.2.2.1
theorem dX5_takeBook_37 : decode cX5_takeBook 37 = .ok (.ifCond .ne 5, 3) := dq_208.2.2.2.2.2.2.2.2.2.1
theorem dX5_takeBook_40 : decode cX5_takeBook 40 = .ok (.iconst 0, 1) := dq_208.2.2.2.2.2.2.2.2.2.2.1
theorem dX5_takeBook_41 : decode cX5_takeBook 41 = .ok (.ireturn, 1) := dq_208.2.2.2.2.2.2.2.2.2.2.2
theorem dq_209 : decode cX5_takeBook 42 = .ok (.iinc 1 1, 3) ∧ decode cX5_takeBook 45 = .ok (.goto (-26), 3) ∧ decode cX5_takeBook 48 = .ok (.aload_n 0, 1) ∧ decode cX5_takeBook 49 = .ok (.getfield 15, 3) ∧ decode cX5_takeBook 52 = .ok (.invokevirtual 148, 3) ∧ decode cX5_takeBook 55 = .ok (.aload_n 0, 1) ∧ decode cX5_takeBook 56 = .ok (.iconst 4, 1) ∧ decode cX5_takeBook 57 = .ok (.invokevirtual 50, 3) ∧ decode cX5_takeBook 60 = .ok (.ireturn, 1) := by decide +kernel
theorem dX5_takeBook_42 : decode cX5_takeBook 42 = .ok (.iinc 1 1, 3) := dq_209.1
theorem dX5_takeBook_45 : decode cX5_takeBook 45 = .ok (.goto (-26), 3) := dq_209.2.1
theorem dX5_takeBook_48 : decode cX5_takeBook 48 = .ok (.aload_n 0, 1) := dq_209.2.2.1
theorem dX5_takeBook_49 : decode cX5_takeBook 49 = .ok (.getfield 15, 3) := dq_209.2.2.2.1
theorem dX5_takeBook_52 : decode cX5_takeBook 52 = .ok (.invokevirtual 148, 3) := dq_209.2.2.2.2.1
theorem dX5_takeBook_55 : decode cX5_takeBook 55 = .ok (.aload_n 0, 1) := dq_209.2.2.2.2.2.1
theorem dX5_takeBook_56 : decode cX5_takeBook 56 = .ok (.iconst 4, 1) := dq_209.2.2.2.2.2.2.1
theorem dX5_takeBook_57 : decode cX5_takeBook 57 = .ok (.invokevirtual 50, 3) := dq_209.2.2.2.2.2.2.2.1
theorem dX5_takeBook_60 : decode cX5_takeBook 60 = .ok (.ireturn, 1) := dq_209.2.2.2.2.2.2.2.2
theorem dq_210 : decode cX5_takePatternRow 0 = .ok (.aload_n 0, 1) ∧ decode cX5_takePatternRow 1 = .ok (.getfield 9, 3) ∧ decode cX5_takePatternRow 4 = .ok (.invokevirtual 132, 3) ∧ decode cX5_takePatternRow 7 = .ok (.iconst 4, 1) ∧ decode cX5_takePatternRow 8 = .ok (.if_icmp .eq 9, 3) ∧ decode cX5_takePatternRow 11 = .ok (.aload_n 0, 1) ∧ decode cX5_takePatternRow 12 = .ok (.iconst 3, 1) ∧ decode cX5_takePatternRow 13 = .ok (.invokevirtual 40, 3) ∧ decode cX5_takePatternRow 16 = .ok (.ireturn, 1) ∧ decode cX5_takePatternRow 17 = .ok (.iconst 0, 1) ∧ decode cX5_takePatternRow 18 = .ok (.istore_n 2, 1) ∧ decode cX5_takePatternRow 19 = .ok (.iload_n 2, 1) := by decide +kernel
theorem dX5_takePatternRow_0 : decode cX5_takePatternRow 0 = .ok (.aload_n 0, 1) := dq_210.1
theorem dX5_takePatternRow_1 : decode cX5_takePatternRow 1 = .ok (.getfield 9, 3) := dq_210.2.1
theorem dX5_takePatternRow_4 : decode cX5_takePatternRow 4 = .ok (.invokevirtual 132, 3) := dq_210.2.2.1
theorem dX5_takePatternRow_7 : decode cX5_takePatternRow 7 = .ok (.iconst 4, 1) := dq_210.2.2.2.1
theorem dX5_takePatternRow_8 : decode cX5_takePatternRow 8 = .ok (.if_icmp .eq 9, 3) := dq_210.2.2.2.2.1
theorem dX5_takePatternRow_11 : decode cX5_takePatternRow 11 = .ok (.aload_n 0, 1) := dq_210.2.2.2.2.2.1
theorem dX5_takePatternRow_12 : decode cX5_takePatternRow 12 = .ok (.iconst 3, 1) := dq_210.2.2.2.2.2.2.1
theorem dX5_takePatternRow_13 : decode cX5_takePatternRow 13 = .ok (.invokevirtual 40, 3) := dq_210.2.2.2.2.2.2.2.1
theorem dX5_takePatternRow_16 : decode cX5_takePatternRow 16 = .ok (.ireturn, 1) := dq_210.2.2.2.2.2.2.2.2.1
theorem dX5_takePatternRow_17 : decode cX5_takePatternRow 17 = .ok (.iconst 0, 1) := dq_210.2.2.2.2.2.2.2.2.2.1
theorem dX5_takePatternRow_18 : decode cX5_takePatternRow 18 = .ok (.istore_n 2, 1) := dq_210.2.2.2.2.2.2.2.2.2.2.1
theorem dX5_takePatternRow_19 : decode cX5_takePatternRow 19 = .ok (.iload_n 2, 1) := dq_210.2.2.2.2.2.2.2.2.2.2.2
theorem dq_211 : decode cX5_takePatternRow 20 = .ok (.iconst 4, 1) ∧ decode cX5_takePatternRow 21 = .ok (.if_icmp .ge 64, 3) ∧ decode cX5_takePatternRow 24 = .ok (.aload_n 0, 1) ∧ decode cX5_takePatternRow 25 = .ok (.getfield 9, 3) ∧ decode cX5_takePatternRow 28 = .ok (.iload_n 2, 1) ∧ decode cX5_takePatternRow 29 = .ok (.invokevirtual 128, 3) ∧ decode cX5_takePatternRow 32 = .ok (.istore_n 3, 1) ∧ decode cX5_takePatternRow 33 = .ok (.iload_n 3, 1) ∧ decode cX5_takePatternRow 34 = .ok (.bipush 120, 2) ∧ decode cX5_takePatternRow 36 = .ok (.if_icmp .ne 7, 3) ∧ decode cX5_takePatternRow 39 = .ok (.iconst (-1), 1) ∧ decode cX5_takePatternRow 40 = .ok (.goto 7, 3) := by decide +kernel
theorem dX5_takePatternRow_20 : decode cX5_takePatternRow 20 = .ok (.iconst 4, 1) := dq_211.1
theorem dX5_takePatternRow_21 : decode cX5_takePatternRow 21 = .ok (.if_icmp .ge 64, 3) := dq_211.2.1
theorem dX5_takePatternRow_24 : decode cX5_takePatternRow 24 = .ok (.aload_n 0, 1) := dq_211.2.2.1
theorem dX5_takePatternRow_25 : decode cX5_takePatternRow 25 = .ok (.getfield 9, 3) := dq_211.2.2.2.1
theorem dX5_takePatternRow_28 : decode cX5_takePatternRow 28 = .ok (.iload_n 2, 1) := dq_211.2.2.2.2.1
theorem dX5_takePatternRow_29 : decode cX5_takePatternRow 29 = .ok (.invokevirtual 128, 3) := dq_211.2.2.2.2.2.1
theorem dX5_takePatternRow_32 : decode cX5_takePatternRow 32 = .ok (.istore_n 3, 1) := dq_211.2.2.2.2.2.2.1
theorem dX5_takePatternRow_33 : decode cX5_takePatternRow 33 = .ok (.iload_n 3, 1) := dq_211.2.2.2.2.2.2.2.1
theorem dX5_takePatternRow_34 : decode cX5_takePatternRow 34 = .ok (.bipush 120, 2) := dq_211.2.2.2.2.2.2.2.2.1
theorem dX5_takePatternRow_36 : decode cX5_takePatternRow 36 = .ok (.if_icmp .ne 7, 3) := dq_211.2.2.2.2.2.2.2.2.2.1
theorem dX5_takePatternRow_39 : decode cX5_takePatternRow 39 = .ok (.iconst (-1), 1) := dq_211.2.2.2.2.2.2.2.2.2.2.1
theorem dX5_takePatternRow_40 : decode cX5_takePatternRow 40 = .ok (.goto 7, 3) := dq_211.2.2.2.2.2.2.2.2.2.2.2
theorem dq_212 : decode cX5_takePatternRow 43 = .ok (.iload_n 3, 1) ∧ decode cX5_takePatternRow 44 = .ok (.bipush 97, 2) ∧ decode cX5_takePatternRow 46 = .ok (.isub, 1) ∧ decode cX5_takePatternRow 47 = .ok (.istore 4, 2) ∧ decode cX5_takePatternRow 49 = .ok (.iload 4, 2) ∧ decode cX5_takePatternRow 51 = .ok (.iconst (-1), 1) ∧ decode cX5_takePatternRow 52 = .ok (.iconst 5, 1) ∧ decode cX5_takePatternRow 53 = .ok (.invokestatic 59, 3) ∧ decode cX5_takePatternRow 56 = .ok (.ifCond .ne 9, 3) ∧ decode cX5_takePatternRow 59 = .ok (.aload_n 0, 1) ∧ decode cX5_takePatternRow 60 = .ok (.iconst 3, 1) ∧ decode cX5_takePatternRow 61 = .ok (.invokevirtual 40, 3) := by decide +kernel
theorem dX5_takePatternRow_43 : decode cX5_takePatternRow 43 = .ok (.iload_n 3, 1) := dq_212.1
theorem dX5_takePatternRow_44 : decode cX5_takePatternRow 44 = .ok (.bipush 97, 2) := dq_212.2.1
theorem dX5_takePatternRow_46 : decode cX5_takePatternRow 46 = .ok (.isub, 1) := dq_212.2.2.1
theorem dX5_takePatternRow_47 : decode cX5_takePatternRow 47 = .ok (.istore 4, 2) := dq_212.2.2.2.1
theorem dX5_takePatternRow_49 : decode cX5_takePatternRow 49 = .ok (.iload 4, 2) := dq_212.2.2.2.2.1
theorem dX5_takePatternRow_51 : decode cX5_takePatternRow 51 = .ok (.iconst (-1), 1) := dq_212.2.2.2.2.2.1
theorem dX5_takePatternRow_52 : decode cX5_takePatternRow 52 = .ok (.iconst 5, 1) := dq_212.2.2.2.2.2.2.1
theorem dX5_takePatternRow_53 : decode cX5_takePatternRow 53 = .ok (.invokestatic 59, 3) := dq_212.2.2.2.2.2.2.2.1
theorem dX5_takePatternRow_56 : decode cX5_takePatternRow 56 = .ok (.ifCond .ne 9, 3) := dq_212.2.2.2.2.2.2.2.2.1
theorem dX5_takePatternRow_59 : decode cX5_takePatternRow 59 = .ok (.aload_n 0, 1) := dq_212.2.2.2.2.2.2.2.2.2.1
theorem dX5_takePatternRow_60 : decode cX5_takePatternRow 60 = .ok (.iconst 3, 1) := dq_212.2.2.2.2.2.2.2.2.2.2.1
theorem dX5_takePatternRow_61 : decode cX5_takePatternRow 61 = .ok (.invokevirtual 40, 3) := dq_212.2.2.2.2.2.2.2.2.2.2.2
theorem dq_213 : decode cX5_takePatternRow 64 = .ok (.ireturn, 1) ∧ decode cX5_takePatternRow 65 = .ok (.aload_n 0, 1) ∧ decode cX5_takePatternRow 66 = .ok (.getfield 15, 3) ∧ decode cX5_takePatternRow 69 = .ok (.iload_n 1, 1) ∧ decode cX5_takePatternRow 70 = .ok (.iconst 4, 1) ∧ decode cX5_takePatternRow 71 = .ok (.imul, 1) ∧ decode cX5_takePatternRow 72 = .ok (.iload_n 2, 1) ∧ decode cX5_takePatternRow 73 = .ok (.iadd, 1) ∧ decode cX5_takePatternRow 74 = .ok (.iload 4, 2) ∧ decode cX5_takePatternRow 76 = .ok (.invokevirtual 151, 3) ∧ decode cX5_takePatternRow 79 = .ok (.iinc 2 1, 3) ∧ decode cX5_takePatternRow 82 = .ok (.goto (-63), 3) := by decide +kernel
theorem dX5_takePatternRow_64 : decode cX5_takePatternRow 64 = .ok (.ireturn, 1) := dq_213.1
theorem dX5_takePatternRow_65 : decode cX5_takePatternRow 65 = .ok (.aload_n 0, 1) := dq_213.2.1
theorem dX5_takePatternRow_66 : decode cX5_takePatternRow 66 = .ok (.getfield 15, 3) := dq_213.2.2.1
theorem dX5_takePatternRow_69 : decode cX5_takePatternRow 69 = .ok (.iload_n 1, 1) := dq_213.2.2.2.1
theorem dX5_takePatternRow_70 : decode cX5_takePatternRow 70 = .ok (.iconst 4, 1) := dq_213.2.2.2.2.1
theorem dX5_takePatternRow_71 : decode cX5_takePatternRow 71 = .ok (.imul, 1) := dq_213.2.2.2.2.2.1
theorem dX5_takePatternRow_72 : decode cX5_takePatternRow 72 = .ok (.iload_n 2, 1) := dq_213.2.2.2.2.2.2.1
theorem dX5_takePatternRow_73 : decode cX5_takePatternRow 73 = .ok (.iadd, 1) := dq_213.2.2.2.2.2.2.2.1
theorem dX5_takePatternRow_74 : decode cX5_takePatternRow 74 = .ok (.iload 4, 2) := dq_213.2.2.2.2.2.2.2.2.1
theorem dX5_takePatternRow_76 : decode cX5_takePatternRow 76 = .ok (.invokevirtual 151, 3) := dq_213.2.2.2.2.2.2.2.2.2.1
theorem dX5_takePatternRow_79 : decode cX5_takePatternRow 79 = .ok (.iinc 2 1, 3) := dq_213.2.2.2.2.2.2.2.2.2.2.1
theorem dX5_takePatternRow_82 : decode cX5_takePatternRow 82 = .ok (.goto (-63), 3) := dq_213.2.2.2.2.2.2.2.2.2.2.2
theorem dq_214 : decode cX5_takePatternRow 85 = .ok (.iconst 1, 1) ∧ decode cX5_takePatternRow 86 = .ok (.ireturn, 1) := by decide +kernel
theorem dX5_takePatternRow_85 : decode cX5_takePatternRow 85 = .ok (.iconst 1, 1) := dq_214.1
theorem dX5_takePatternRow_86 : decode cX5_takePatternRow 86 = .ok (.ireturn, 1) := dq_214.2
theorem dq_215 : decode cX6_init 0 = .ok (.aload_n 0, 1) ∧ decode cX6_init 1 = .ok (.invokespecial 3, 3) ∧ decode cX6_init 4 = .ok (.aload_n 0, 1) ∧ decode cX6_init 5 = .ok (.bipush 12, 2) ∧ decode cX6_init 7 = .ok (.newarray .int, 2) ∧ decode cX6_init 9 = .ok (.putfield 9, 3) ∧ decode cX6_init 12 = .ok (.aload_n 0, 1) ∧ decode cX6_init 13 = .ok (.bipush 12, 2) ∧ decode cX6_init 15 = .ok (.newarray .int, 2) ∧ decode cX6_init 17 = .ok (.putfield 15, 3) ∧ decode cX6_init 20 = .ok (.aload_n 0, 1) ∧ decode cX6_init 21 = .ok (.sipush 4096, 3) := by decide +kernel
theorem dX6_init_0 : decode cX6_init 0 = .ok (.aload_n 0, 1) := dq_215.1
theorem dX6_init_1 : decode cX6_init 1 = .ok (.invokespecial 3, 3) := dq_215.2.1
theorem dX6_init_4 : decode cX6_init 4 = .ok (.aload_n 0, 1) := dq_215.2.2.1
theorem dX6_init_5 : decode cX6_init 5 = .ok (.bipush 12, 2) := dq_215.2.2.2.1
theorem dX6_init_7 : decode cX6_init 7 = .ok (.newarray .int, 2) := dq_215.2.2.2.2.1
theorem dX6_init_9 : decode cX6_init 9 = .ok (.putfield 9, 3) := dq_215.2.2.2.2.2.1
theorem dX6_init_12 : decode cX6_init 12 = .ok (.aload_n 0, 1) := dq_215.2.2.2.2.2.2.1
theorem dX6_init_13 : decode cX6_init 13 = .ok (.bipush 12, 2) := dq_215.2.2.2.2.2.2.2.1
theorem dX6_init_15 : decode cX6_init 15 = .ok (.newarray .int, 2) := dq_215.2.2.2.2.2.2.2.2.1
theorem dX6_init_17 : decode cX6_init 17 = .ok (.putfield 15, 3) := dq_215.2.2.2.2.2.2.2.2.2.1
theorem dX6_init_20 : decode cX6_init 20 = .ok (.aload_n 0, 1) := dq_215.2.2.2.2.2.2.2.2.2.2.1
theorem dX6_init_21 : decode cX6_init 21 = .ok (.sipush 4096, 3) := dq_215.2.2.2.2.2.2.2.2.2.2.2
theorem dq_216 : decode cX6_init 24 = .ok (.newarray .int, 2) ∧ decode cX6_init 26 = .ok (.putfield 18, 3) ∧ decode cX6_init 29 = .ok (.aload_n 0, 1) ∧ decode cX6_init 30 = .ok (.sipush 4096, 3) ∧ decode cX6_init 33 = .ok (.newarray .int, 2) ∧ decode cX6_init 35 = .ok (.putfield 21, 3) ∧ decode cX6_init 38 = .ok (.return_, 1) := by decide +kernel
theorem dX6_init_24 : decode cX6_init 24 = .ok (.newarray .int, 2) := dq_216.1
theorem dX6_init_26 : decode cX6_init 26 = .ok (.putfield 18, 3) := dq_216.2.1
theorem dX6_init_29 : decode cX6_init 29 = .ok (.aload_n 0, 1) := dq_216.2.2.1
theorem dX6_init_30 : decode cX6_init 30 = .ok (.sipush 4096, 3) := dq_216.2.2.2.1
theorem dX6_init_33 : decode cX6_init 33 = .ok (.newarray .int, 2) := dq_216.2.2.2.2.1
theorem dX6_init_35 : decode cX6_init 35 = .ok (.putfield 21, 3) := dq_216.2.2.2.2.2.1
theorem dX6_init_38 : decode cX6_init 38 = .ok (.return_, 1) := dq_216.2.2.2.2.2.2
theorem dq_217 : decode cX6_learn 0 = .ok (.aload_n 0, 1) ∧ decode cX6_learn 1 = .ok (.aload_n 1, 1) ∧ decode cX6_learn 2 = .ok (.invokevirtual 24, 3) ∧ decode cX6_learn 5 = .ok (.bipush 12, 2) ∧ decode cX6_learn 7 = .ok (.invokestatic 30, 3) ∧ decode cX6_learn 10 = .ok (.putfield 36, 3) ∧ decode cX6_learn 13 = .ok (.iconst 0, 1) ∧ decode cX6_learn 14 = .ok (.istore_n 2, 1) ∧ decode cX6_learn 15 = .ok (.iload_n 2, 1) ∧ decode cX6_learn 16 = .ok (.aload_n 0, 1) ∧ decode cX6_learn 17 = .ok (.getfield 36, 3) ∧ decode cX6_learn 20 = .ok (.if_icmp .ge 32, 3) := by decide +kernel
theorem dX6_learn_0 : decode cX6_learn 0 = .ok (.aload_n 0, 1) := dq_217.1
theorem dX6_learn_1 : decode cX6_learn 1 = .ok (.aload_n 1, 1) := dq_217.2.1
theorem dX6_learn_2 : decode cX6_learn 2 = .ok (.invokevirtual 24, 3) := dq_217.2.2.1
theorem dX6_learn_5 : decode cX6_learn 5 = .ok (.bipush 12, 2) := dq_217.2.2.2.1
theorem dX6_learn_7 : decode cX6_learn 7 = .ok (.invokestatic 30, 3) := dq_217.2.2.2.2.1
theorem dX6_learn_10 : decode cX6_learn 10 = .ok (.putfield 36, 3) := dq_217.2.2.2.2.2.1
theorem dX6_learn_13 : decode cX6_learn 13 = .ok (.iconst 0, 1) := dq_217.2.2.2.2.2.2.1
theorem dX6_learn_14 : decode cX6_learn 14 = .ok (.istore_n 2, 1) := dq_217.2.2.2.2.2.2.2.1
theorem dX6_learn_15 : decode cX6_learn 15 = .ok (.iload_n 2, 1) := dq_217.2.2.2.2.2.2.2.2.1
theorem dX6_learn_16 : decode cX6_learn 16 = .ok (.aload_n 0, 1) := dq_217.2.2.2.2.2.2.2.2.2.1
theorem dX6_learn_17 : decode cX6_learn 17 = .ok (.getfield 36, 3) := dq_217.2.2.2.2.2.2.2.2.2.2.1
theorem dX6_learn_20 : decode cX6_learn 20 = .ok (.if_icmp .ge 32, 3) := dq_217.2.2.2.2.2.2.2.2.2.2.2
theorem dq_218 : decode cX6_learn 23 = .ok (.aload_n 0, 1) ∧ decode cX6_learn 24 = .ok (.getfield 9, 3) ∧ decode cX6_learn 27 = .ok (.iload_n 2, 1) ∧ decode cX6_learn 28 = .ok (.aload_n 1, 1) ∧ decode cX6_learn 29 = .ok (.iload_n 2, 1) ∧ decode cX6_learn 30 = .ok (.invokevirtual 39, 3) ∧ decode cX6_learn 33 = .ok (.iastore, 1) ∧ decode cX6_learn 34 = .ok (.aload_n 0, 1) ∧ decode cX6_learn 35 = .ok (.getfield 15, 3) ∧ decode cX6_learn 38 = .ok (.iload_n 2, 1) ∧ decode cX6_learn 39 = .ok (.aload_n 0, 1) ∧ decode cX6_learn 40 = .ok (.getfield 9, 3) := by decide +kernel
theorem dX6_learn_23 : decode cX6_learn 23 = .ok (.aload_n 0, 1) := dq_218.1
theorem dX6_learn_24 : decode cX6_learn 24 = .ok (.getfield 9, 3) := dq_218.2.1
theorem dX6_learn_27 : decode cX6_learn 27 = .ok (.iload_n 2, 1) := dq_218.2.2.1
theorem dX6_learn_28 : decode cX6_learn 28 = .ok (.aload_n 1, 1) := dq_218.2.2.2.1
theorem dX6_learn_29 : decode cX6_learn 29 = .ok (.iload_n 2, 1) := dq_218.2.2.2.2.1
theorem dX6_learn_30 : decode cX6_learn 30 = .ok (.invokevirtual 39, 3) := dq_218.2.2.2.2.2.1
theorem dX6_learn_33 : decode cX6_learn 33 = .ok (.iastore, 1) := dq_218.2.2.2.2.2.2.1
theorem dX6_learn_34 : decode cX6_learn 34 = .ok (.aload_n 0, 1) := dq_218.2.2.2.2.2.2.2.1
theorem dX6_learn_35 : decode cX6_learn 35 = .ok (.getfield 15, 3) := dq_218.2.2.2.2.2.2.2.2.1
theorem dX6_learn_38 : decode cX6_learn 38 = .ok (.iload_n 2, 1) := dq_218.2.2.2.2.2.2.2.2.2.1
theorem dX6_learn_39 : decode cX6_learn 39 = .ok (.aload_n 0, 1) := dq_218.2.2.2.2.2.2.2.2.2.2.1
theorem dX6_learn_40 : decode cX6_learn 40 = .ok (.getfield 9, 3) := dq_218.2.2.2.2.2.2.2.2.2.2.2
theorem dq_219 : decode cX6_learn 43 = .ok (.iload_n 2, 1) ∧ decode cX6_learn 44 = .ok (.iaload, 1) ∧ decode cX6_learn 45 = .ok (.iastore, 1) ∧ decode cX6_learn 46 = .ok (.iinc 2 1, 3) ∧ decode cX6_learn 49 = .ok (.goto (-34), 3) ∧ decode cX6_learn 52 = .ok (.iconst 0, 1) ∧ decode cX6_learn 53 = .ok (.istore_n 2, 1) ∧ decode cX6_learn 54 = .ok (.iload_n 2, 1) ∧ decode cX6_learn 55 = .ok (.aload_n 0, 1) ∧ decode cX6_learn 56 = .ok (.getfield 36, 3) ∧ decode cX6_learn 59 = .ok (.if_icmp .ge 53, 3) ∧ decode cX6_learn 62 = .ok (.iconst 0, 1) := by decide +kernel
theorem dX6_learn_43 : decode cX6_learn 43 = .ok (.iload_n 2, 1) := dq_219.1
theorem dX6_learn_44 : decode cX6_learn 44 = .ok (.iaload, 1) := dq_219.2.1
theorem dX6_learn_45 : decode cX6_learn 45 = .ok (.iastore, 1) := dq_219.2.2.1
theorem dX6_learn_46 : decode cX6_learn 46 = .ok (.iinc 2 1, 3) := dq_219.2.2.2.1
theorem dX6_learn_49 : decode cX6_learn 49 = .ok (.goto (-34), 3) := dq_219.2.2.2.2.1
theorem dX6_learn_52 : decode cX6_learn 52 = .ok (.iconst 0, 1) := dq_219.2.2.2.2.2.1
theorem dX6_learn_53 : decode cX6_learn 53 = .ok (.istore_n 2, 1) := dq_219.2.2.2.2.2.2.1
theorem dX6_learn_54 : decode cX6_learn 54 = .ok (.iload_n 2, 1) := dq_219.2.2.2.2.2.2.2.1
theorem dX6_learn_55 : decode cX6_learn 55 = .ok (.aload_n 0, 1) := dq_219.2.2.2.2.2.2.2.2.1
theorem dX6_learn_56 : decode cX6_learn 56 = .ok (.getfield 36, 3) := dq_219.2.2.2.2.2.2.2.2.2.1
theorem dX6_learn_59 : decode cX6_learn 59 = .ok (.if_icmp .ge 53, 3) := dq_219.2.2.2.2.2.2.2.2.2.2.1
theorem dX6_learn_62 : decode cX6_learn 62 = .ok (.iconst 0, 1) := dq_219.2.2.2.2.2.2.2.2.2.2.2
theorem dq_220 : decode cX6_learn 63 = .ok (.istore_n 3, 1) ∧ decode cX6_learn 64 = .ok (.iload_n 3, 1) ∧ decode cX6_learn 65 = .ok (.aload_n 0, 1) ∧ decode cX6_learn 66 = .ok (.getfield 36, 3) ∧ decode cX6_learn 69 = .ok (.if_icmp .ge 37, 3) ∧ decode cX6_learn 72 = .ok (.aload_n 0, 1) ∧ decode cX6_learn 73 = .ok (.getfield 15, 3) ∧ decode cX6_learn 76 = .ok (.iload_n 3, 1) ∧ decode cX6_learn 77 = .ok (.iaload, 1) ∧ decode cX6_learn 78 = .ok (.iload_n 2, 1) ∧ decode cX6_learn 79 = .ok (.invokestatic 42, 3) ∧ decode cX6_learn 82 = .ok (.ifCond .eq 18, 3) := by decide +kernel
theorem dX6_learn_63 : decode cX6_learn 63 = .ok (.istore_n 3, 1) := dq_220.1
theorem dX6_learn_64 : decode cX6_learn 64 = .ok (.iload_n 3, 1) := dq_220.2.1
theorem dX6_learn_65 : decode cX6_learn 65 = .ok (.aload_n 0, 1) := dq_220.2.2.1
theorem dX6_learn_66 : decode cX6_learn 66 = .ok (.getfield 36, 3) := dq_220.2.2.2.1
theorem dX6_learn_69 : decode cX6_learn 69 = .ok (.if_icmp .ge 37, 3) := dq_220.2.2.2.2.1
theorem dX6_learn_72 : decode cX6_learn 72 = .ok (.aload_n 0, 1) := dq_220.2.2.2.2.2.1
theorem dX6_learn_73 : decode cX6_learn 73 = .ok (.getfield 15, 3) := dq_220.2.2.2.2.2.2.1
theorem dX6_learn_76 : decode cX6_learn 76 = .ok (.iload_n 3, 1) := dq_220.2.2.2.2.2.2.2.1
theorem dX6_learn_77 : decode cX6_learn 77 = .ok (.iaload, 1) := dq_220.2.2.2.2.2.2.2.2.1
theorem dX6_learn_78 : decode cX6_learn 78 = .ok (.iload_n 2, 1) := dq_220.2.2.2.2.2.2.2.2.2.1
theorem dX6_learn_79 : decode cX6_learn 79 = .ok (.invokestatic 42, 3) := dq_220.2.2.2.2.2.2.2.2.2.2.1
theorem dX6_learn_82 : decode cX6_learn 82 = .ok (.ifCond .eq 18, 3) := dq_220.2.2.2.2.2.2.2.2.2.2.2
theorem dq_221 : decode cX6_learn 85 = .ok (.aload_n 0, 1) ∧ decode cX6_learn 86 = .ok (.getfield 15, 3) ∧ decode cX6_learn 89 = .ok (.iload_n 3, 1) ∧ decode cX6_learn 90 = .ok (.dup2, 1) ∧ decode cX6_learn 91 = .ok (.iaload, 1) ∧ decode cX6_learn 92 = .ok (.aload_n 0, 1) ∧ decode cX6_learn 93 = .ok (.getfield 15, 3) ∧ decode cX6_learn 96 = .ok (.iload_n 2, 1) ∧ decode cX6_learn 97 = .ok (.iaload, 1) ∧ decode cX6_learn 98 = .ok (.ior, 1) ∧ decode cX6_learn 99 = .ok (.iastore, 1) ∧ decode cX6_learn 100 = .ok (.iinc 3 1, 3) := by decide +kernel
theorem dX6_learn_85 : decode cX6_learn 85 = .ok (.aload_n 0, 1) := dq_221.1
theorem dX6_learn_86 : decode cX6_learn 86 = .ok (.getfield 15, 3) := dq_221.2.1
theorem dX6_learn_89 : decode cX6_learn 89 = .ok (.iload_n 3, 1) := dq_221.2.2.1
theorem dX6_learn_90 : decode cX6_learn 90 = .ok (.dup2, 1) := dq_221.2.2.2.1
theorem dX6_learn_91 : decode cX6_learn 91 = .ok (.iaload, 1) := dq_221.2.2.2.2.1
theorem dX6_learn_92 : decode cX6_learn 92 = .ok (.aload_n 0, 1) := dq_221.2.2.2.2.2.1
theorem dX6_learn_93 : decode cX6_learn 93 = .ok (.getfield 15, 3) := dq_221.2.2.2.2.2.2.1
theorem dX6_learn_96 : decode cX6_learn 96 = .ok (.iload_n 2, 1) := dq_221.2.2.2.2.2.2.2.1
theorem dX6_learn_97 : decode cX6_learn 97 = .ok (.iaload, 1) := dq_221.2.2.2.2.2.2.2.2.1
theorem dX6_learn_98 : decode cX6_learn 98 = .ok (.ior, 1) := dq_221.2.2.2.2.2.2.2.2.2.1
theorem dX6_learn_99 : decode cX6_learn 99 = .ok (.iastore, 1) := dq_221.2.2.2.2.2.2.2.2.2.2.1
theorem dX6_learn_100 : decode cX6_learn 100 = .ok (.iinc 3 1, 3) := dq_221.2.2.2.2.2.2.2.2.2.2.2
theorem dq_222 : decode cX6_learn 103 = .ok (.goto (-39), 3) ∧ decode cX6_learn 106 = .ok (.iinc 2 1, 3) ∧ decode cX6_learn 109 = .ok (.goto (-55), 3) ∧ decode cX6_learn 112 = .ok (.aload_n 0, 1) ∧ decode cX6_learn 113 = .ok (.iconst 0, 1) ∧ decode cX6_learn 114 = .ok (.putfield 46, 3) ∧ decode cX6_learn 117 = .ok (.return_, 1) := by decide +kernel
theorem dX6_learn_103 : decode cX6_learn 103 = .ok (.goto (-39), 3) := dq_222.1
theorem dX6_learn_106 : decode cX6_learn 106 = .ok (.iinc 2 1, 3) := dq_222.2.1
theorem dX6_learn_109 : decode cX6_learn 109 = .ok (.goto (-55), 3) := dq_222.2.2.1
theorem dX6_learn_112 : decode cX6_learn 112 = .ok (.aload_n 0, 1) := dq_222.2.2.2.1
theorem dX6_learn_113 : decode cX6_learn 113 = .ok (.iconst 0, 1) := dq_222.2.2.2.2.1
theorem dX6_learn_114 : decode cX6_learn 114 = .ok (.putfield 46, 3) := dq_222.2.2.2.2.2.1
theorem dX6_learn_117 : decode cX6_learn 117 = .ok (.return_, 1) := dq_222.2.2.2.2.2.2
theorem dq_223 : decode cX6_aheadOf 0 = .ok (.iload_n 1, 1) ∧ decode cX6_aheadOf 1 = .ok (.iconst 0, 1) ∧ decode cX6_aheadOf 2 = .ok (.aload_n 0, 1) ∧ decode cX6_aheadOf 3 = .ok (.getfield 36, 3) ∧ decode cX6_aheadOf 6 = .ok (.iconst 1, 1) ∧ decode cX6_aheadOf 7 = .ok (.isub, 1) ∧ decode cX6_aheadOf 8 = .ok (.invokestatic 50, 3) ∧ decode cX6_aheadOf 11 = .ok (.ifCond .eq 12, 3) ∧ decode cX6_aheadOf 14 = .ok (.aload_n 0, 1) ∧ decode cX6_aheadOf 15 = .ok (.getfield 15, 3) ∧ decode cX6_aheadOf 18 = .ok (.iload_n 1, 1) ∧ decode cX6_aheadOf 19 = .ok (.iaload, 1) := by decide +kernel
theorem dX6_aheadOf_0 : decode cX6_aheadOf 0 = .ok (.iload_n 1, 1) := dq_223.1
theorem dX6_aheadOf_1 : decode cX6_aheadOf 1 = .ok (.iconst 0, 1) := dq_223.2.1
theorem dX6_aheadOf_2 : decode cX6_aheadOf 2 = .ok (.aload_n 0, 1) := dq_223.2.2.1
theorem dX6_aheadOf_3 : decode cX6_aheadOf 3 = .ok (.getfield 36, 3) := dq_223.2.2.2.1
theorem dX6_aheadOf_6 : decode cX6_aheadOf 6 = .ok (.iconst 1, 1) := dq_223.2.2.2.2.1
theorem dX6_aheadOf_7 : decode cX6_aheadOf 7 = .ok (.isub, 1) := dq_223.2.2.2.2.2.1
theorem dX6_aheadOf_8 : decode cX6_aheadOf 8 = .ok (.invokestatic 50, 3) := dq_223.2.2.2.2.2.2.1
theorem dX6_aheadOf_11 : decode cX6_aheadOf 11 = .ok (.ifCond .eq 12, 3) := dq_223.2.2.2.2.2.2.2.1
theorem dX6_aheadOf_14 : decode cX6_aheadOf 14 = .ok (.aload_n 0, 1) := dq_223.2.2.2.2.2.2.2.2.1
theorem dX6_aheadOf_15 : decode cX6_aheadOf 15 = .ok (.getfield 15, 3) := dq_223.2.2.2.2.2.2.2.2.2.1
theorem dX6_aheadOf_18 : decode cX6_aheadOf 18 = .ok (.iload_n 1, 1) := dq_223.2.2.2.2.2.2.2.2.2.2.1
theorem dX6_aheadOf_19 : decode cX6_aheadOf 19 = .ok (.iaload, 1) := dq_223.2.2.2.2.2.2.2.2.2.2.2
theorem dq_224 : decode cX6_aheadOf 20 = .ok (.goto 4, 3) ∧ decode cX6_aheadOf 23 = .ok (.iconst 0, 1) ∧ decode cX6_aheadOf 24 = .ok (.ireturn, 1) := by decide +kernel
theorem dX6_aheadOf_20 : decode cX6_aheadOf 20 = .ok (.goto 4, 3) := dq_224.1
theorem dX6_aheadOf_23 : decode cX6_aheadOf 23 = .ok (.iconst 0, 1) := dq_224.2.1
theorem dX6_aheadOf_24 : decode cX6_aheadOf 24 = .ok (.ireturn, 1) := dq_224.2.2
theorem dq_225 : decode cX6_behind 0 = .ok (.iconst 0, 1) ∧ decode cX6_behind 1 = .ok (.istore_n 2, 1) ∧ decode cX6_behind 2 = .ok (.iconst 0, 1) ∧ decode cX6_behind 3 = .ok (.istore_n 3, 1) ∧ decode cX6_behind 4 = .ok (.iload_n 3, 1) ∧ decode cX6_behind 5 = .ok (.aload_n 0, 1) ∧ decode cX6_behind 6 = .ok (.getfield 36, 3) ∧ decode cX6_behind 9 = .ok (.if_icmp .ge 28, 3) ∧ decode cX6_behind 12 = .ok (.aload_n 0, 1) ∧ decode cX6_behind 13 = .ok (.getfield 15, 3) ∧ decode cX6_behind 16 = .ok (.iload_n 3, 1) ∧ decode cX6_behind 17 = .ok (.iaload, 1) := by decide +kernel
theorem dX6_behind_0 : decode cX6_behind 0 = .ok (.iconst 0, 1) := dq_225.1
theorem dX6_behind_1 : decode cX6_behind 1 = .ok (.istore_n 2, 1) := dq_225.2.1
theorem dX6_behind_2 : decode cX6_behind 2 = .ok (.iconst 0, 1) := dq_225.2.2.1
theorem dX6_behind_3 : decode cX6_behind 3 = .ok (.istore_n 3, 1) := dq_225.2.2.2.1
theorem dX6_behind_4 : decode cX6_behind 4 = .ok (.iload_n 3, 1) := dq_225.2.2.2.2.1
theorem dX6_behind_5 : decode cX6_behind 5 = .ok (.aload_n 0, 1) := dq_225.2.2.2.2.2.1
theorem dX6_behind_6 : decode cX6_behind 6 = .ok (.getfield 36, 3) := dq_225.2.2.2.2.2.2.1
theorem dX6_behind_9 : decode cX6_behind 9 = .ok (.if_icmp .ge 28, 3) := dq_225.2.2.2.2.2.2.2.1
theorem dX6_behind_12 : decode cX6_behind 12 = .ok (.aload_n 0, 1) := dq_225.2.2.2.2.2.2.2.2.1
theorem dX6_behind_13 : decode cX6_behind 13 = .ok (.getfield 15, 3) := dq_225.2.2.2.2.2.2.2.2.2.1
theorem dX6_behind_16 : decode cX6_behind 16 = .ok (.iload_n 3, 1) := dq_225.2.2.2.2.2.2.2.2.2.2.1
theorem dX6_behind_17 : decode cX6_behind 17 = .ok (.iaload, 1) := dq_225.2.2.2.2.2.2.2.2.2.2.2
theorem dq_226 : decode cX6_behind 18 = .ok (.iload_n 1, 1) ∧ decode cX6_behind 19 = .ok (.invokestatic 42, 3) ∧ decode cX6_behind 22 = .ok (.ifCond .eq 9, 3) ∧ decode cX6_behind 25 = .ok (.iload_n 2, 1) ∧ decode cX6_behind 26 = .ok (.iconst 1, 1) ∧ decode cX6_behind 27 = .ok (.iload_n 3, 1) ∧ decode cX6_behind 28 = .ok (.ishl, 1) ∧ decode cX6_behind 29 = .ok (.ior, 1) ∧ decode cX6_behind 30 = .ok (.istore_n 2, 1) ∧ decode cX6_behind 31 = .ok (.iinc 3 1, 3) ∧ decode cX6_behind 34 = .ok (.goto (-30), 3) ∧ decode cX6_behind 37 = .ok (.iload_n 2, 1) := by decide +kernel
theorem dX6_behind_18 : decode cX6_behind 18 = .ok (.iload_n 1, 1) := dq_226.1
theorem dX6_behind_19 : decode cX6_behind 19 = .ok (.invokestatic 42, 3) := dq_226.2.1
theorem dX6_behind_22 : decode cX6_behind 22 = .ok (.ifCond .eq 9, 3) := dq_226.2.2.1
theorem dX6_behind_25 : decode cX6_behind 25 = .ok (.iload_n 2, 1) := dq_226.2.2.2.1
theorem dX6_behind_26 : decode cX6_behind 26 = .ok (.iconst 1, 1) := dq_226.2.2.2.2.1
theorem dX6_behind_27 : decode cX6_behind 27 = .ok (.iload_n 3, 1) := dq_226.2.2.2.2.2.1
theorem dX6_behind_28 : decode cX6_behind 28 = .ok (.ishl, 1) := dq_226.2.2.2.2.2.2.1
theorem dX6_behind_29 : decode cX6_behind 29 = .ok (.ior, 1) := dq_226.2.2.2.2.2.2.2.1
theorem dX6_behind_30 : decode cX6_behind 30 = .ok (.istore_n 2, 1) := dq_226.2.2.2.2.2.2.2.2.1
theorem dX6_behind_31 : decode cX6_behind 31 = .ok (.iinc 3 1, 3) := dq_226.2.2.2.2.2.2.2.2.2.1
theorem dX6_behind_34 : decode cX6_behind 34 = .ok (.goto (-30), 3) := dq_226.2.2.2.2.2.2.2.2.2.2.1
theorem dX6_behind_37 : decode cX6_behind 37 = .ok (.iload_n 2, 1) := dq_226.2.2.2.2.2.2.2.2.2.2.2
theorem dX6_behind_38 : decode cX6_behind 38 = .ok (.ireturn, 1) := by decide +kernel
theorem dq_228 : decode cX6_ringed 0 = .ok (.iconst 0, 1) ∧ decode cX6_ringed 1 = .ok (.istore_n 1, 1) ∧ decode cX6_ringed 2 = .ok (.iconst 0, 1) ∧ decode cX6_ringed 3 = .ok (.istore_n 2, 1) ∧ decode cX6_ringed 4 = .ok (.iload_n 2, 1) ∧ decode cX6_ringed 5 = .ok (.aload_n 0, 1) ∧ decode cX6_ringed 6 = .ok (.getfield 36, 3) ∧ decode cX6_ringed 9 = .ok (.if_icmp .ge 28, 3) ∧ decode cX6_ringed 12 = .ok (.aload_n 0, 1) ∧ decode cX6_ringed 13 = .ok (.getfield 15, 3) ∧ decode cX6_ringed 16 = .ok (.iload_n 2, 1) ∧ decode cX6_ringed 17 = .ok (.iaload, 1) := by decide +kernel
theorem dX6_ringed_0 : decode cX6_ringed 0 = .ok (.iconst 0, 1) := dq_228.1
theorem dX6_ringed_1 : decode cX6_ringed 1 = .ok (.istore_n 1, 1) := dq_228.2.1
theorem dX6_ringed_2 : decode cX6_ringed 2 = .ok (.iconst 0, 1) := dq_228.2.2.1
theorem dX6_ringed_3 : decode cX6_ringed 3 = .ok (.istore_n 2, 1) := dq_228.2.2.2.1
theorem dX6_ringed_4 : decode cX6_ringed 4 = .ok (.iload_n 2, 1) := dq_228.2.2.2.2.1
theorem dX6_ringed_5 : decode cX6_ringed 5 = .ok (.aload_n 0, 1) := dq_228.2.2.2.2.2.1
theorem dX6_ringed_6 : decode cX6_ringed 6 = .ok (.getfield 36, 3) := dq_228.2.2.2.2.2.2.1
theorem dX6_ringed_9 : decode cX6_ringed 9 = .ok (.if_icmp .ge 28, 3) := dq_228.2.2.2.2.2.2.2.1
theorem dX6_ringed_12 : decode cX6_ringed 12 = .ok (.aload_n 0, 1) := dq_228.2.2.2.2.2.2.2.2.1
theorem dX6_ringed_13 : decode cX6_ringed 13 = .ok (.getfield 15, 3) := dq_228.2.2.2.2.2.2.2.2.2.1
theorem dX6_ringed_16 : decode cX6_ringed 16 = .ok (.iload_n 2, 1) := dq_228.2.2.2.2.2.2.2.2.2.2.1
theorem dX6_ringed_17 : decode cX6_ringed 17 = .ok (.iaload, 1) := dq_228.2.2.2.2.2.2.2.2.2.2.2
theorem dq_229 : decode cX6_ringed 18 = .ok (.iload_n 2, 1) ∧ decode cX6_ringed 19 = .ok (.invokestatic 42, 3) ∧ decode cX6_ringed 22 = .ok (.ifCond .eq 9, 3) ∧ decode cX6_ringed 25 = .ok (.iload_n 1, 1) ∧ decode cX6_ringed 26 = .ok (.iconst 1, 1) ∧ decode cX6_ringed 27 = .ok (.iload_n 2, 1) ∧ decode cX6_ringed 28 = .ok (.ishl, 1) ∧ decode cX6_ringed 29 = .ok (.ior, 1) ∧ decode cX6_ringed 30 = .ok (.istore_n 1, 1) ∧ decode cX6_ringed 31 = .ok (.iinc 2 1, 3) ∧ decode cX6_ringed 34 = .ok (.goto (-30), 3) ∧ decode cX6_ringed 37 = .ok (.iload_n 1, 1) := by decide +kernel
theorem dX6_ringed_18 : decode cX6_ringed 18 = .ok (.iload_n 2, 1) := dq_229.1
theorem dX6_ringed_19 : decode cX6_ringed 19 = .ok (.invokestatic 42, 3) := dq_229.2.1
theorem dX6_ringed_22 : decode cX6_ringed 22 = .ok (.ifCond .eq 9, 3) := dq_229.2.2.1
theorem dX6_ringed_25 : decode cX6_ringed 25 = .ok (.iload_n 1, 1) := dq_229.2.2.2.1
theorem dX6_ringed_26 : decode cX6_ringed 26 = .ok (.iconst 1, 1) := dq_229.2.2.2.2.1
theorem dX6_ringed_27 : decode cX6_ringed 27 = .ok (.iload_n 2, 1) := dq_229.2.2.2.2.2.1
theorem dX6_ringed_28 : decode cX6_ringed 28 = .ok (.ishl, 1) := dq_229.2.2.2.2.2.2.1
theorem dX6_ringed_29 : decode cX6_ringed 29 = .ok (.ior, 1) := dq_229.2.2.2.2.2.2.2.1
theorem dX6_ringed_30 : decode cX6_ringed 30 = .ok (.istore_n 1, 1) := dq_229.2.2.2.2.2.2.2.2.1
theorem dX6_ringed_31 : decode cX6_ringed 31 = .ok (.iinc 2 1, 3) := dq_229.2.2.2.2.2.2.2.2.2.1
theorem dX6_ringed_34 : decode cX6_ringed 34 = .ok (.goto (-30), 3) := dq_229.2.2.2.2.2.2.2.2.2.2.1
theorem dX6_ringed_37 : decode cX6_ringed 37 = .ok (.iload_n 1, 1) := dq_229.2.2.2.2.2.2.2.2.2.2.2
theorem dX6_ringed_38 : decode cX6_ringed 38 = .ok (.ireturn, 1) := by decide +kernel
theorem dq_231 : decode cX6_leastRing 0 = .ok (.iconst 0, 1) ∧ decode cX6_leastRing 1 = .ok (.istore_n 1, 1) ∧ decode cX6_leastRing 2 = .ok (.iconst 0, 1) ∧ decode cX6_leastRing 3 = .ok (.istore_n 2, 1) ∧ decode cX6_leastRing 4 = .ok (.iload_n 2, 1) ∧ decode cX6_leastRing 5 = .ok (.aload_n 0, 1) ∧ decode cX6_leastRing 6 = .ok (.getfield 36, 3) ∧ decode cX6_leastRing 9 = .ok (.if_icmp .ge 30, 3) ∧ decode cX6_leastRing 12 = .ok (.aload_n 0, 1) ∧ decode cX6_leastRing 13 = .ok (.iload_n 2, 1) ∧ decode cX6_leastRing 14 = .ok (.invokevirtual 54, 3) ∧ decode cX6_leastRing 17 = .ok (.istore_n 3, 1) := by decide +kernel
theorem dX6_leastRing_0 : decode cX6_leastRing 0 = .ok (.iconst 0, 1) := dq_231.1
theorem dX6_leastRing_1 : decode cX6_leastRing 1 = .ok (.istore_n 1, 1) := dq_231.2.1
theorem dX6_leastRing_2 : decode cX6_leastRing 2 = .ok (.iconst 0, 1) := dq_231.2.2.1
theorem dX6_leastRing_3 : decode cX6_leastRing 3 = .ok (.istore_n 2, 1) := dq_231.2.2.2.1
theorem dX6_leastRing_4 : decode cX6_leastRing 4 = .ok (.iload_n 2, 1) := dq_231.2.2.2.2.1
theorem dX6_leastRing_5 : decode cX6_leastRing 5 = .ok (.aload_n 0, 1) := dq_231.2.2.2.2.2.1
theorem dX6_leastRing_6 : decode cX6_leastRing 6 = .ok (.getfield 36, 3) := dq_231.2.2.2.2.2.2.1
theorem dX6_leastRing_9 : decode cX6_leastRing 9 = .ok (.if_icmp .ge 30, 3) := dq_231.2.2.2.2.2.2.2.1
theorem dX6_leastRing_12 : decode cX6_leastRing 12 = .ok (.aload_n 0, 1) := dq_231.2.2.2.2.2.2.2.2.1
theorem dX6_leastRing_13 : decode cX6_leastRing 13 = .ok (.iload_n 2, 1) := dq_231.2.2.2.2.2.2.2.2.2.1
theorem dX6_leastRing_14 : decode cX6_leastRing 14 = .ok (.invokevirtual 54, 3) := dq_231.2.2.2.2.2.2.2.2.2.2.1
theorem dX6_leastRing_17 : decode cX6_leastRing 17 = .ok (.istore_n 3, 1) := dq_231.2.2.2.2.2.2.2.2.2.2.2
theorem dq_232 : decode cX6_leastRing 18 = .ok (.iload_n 3, 1) ∧ decode cX6_leastRing 19 = .ok (.ifCond .le 14, 3) ∧ decode cX6_leastRing 22 = .ok (.iload_n 1, 1) ∧ decode cX6_leastRing 23 = .ok (.ifCond .eq 8, 3) ∧ decode cX6_leastRing 26 = .ok (.iload_n 3, 1) ∧ decode cX6_leastRing 27 = .ok (.iload_n 1, 1) ∧ decode cX6_leastRing 28 = .ok (.if_icmp .ge 5, 3) ∧ decode cX6_leastRing 31 = .ok (.iload_n 3, 1) ∧ decode cX6_leastRing 32 = .ok (.istore_n 1, 1) ∧ decode cX6_leastRing 33 = .ok (.iinc 2 1, 3) ∧ decode cX6_leastRing 36 = .ok (.goto (-32), 3) ∧ decode cX6_leastRing 39 = .ok (.iload_n 1, 1) := by decide +kernel
theorem dX6_leastRing_18 : decode cX6_leastRing 18 = .ok (.iload_n 3, 1) := dq_232.1
theorem dX6_leastRing_19 : decode cX6_leastRing 19 = .ok (.ifCond .le 14, 3) := dq_232.2.1
theorem dX6_leastRing_22 : decode cX6_leastRing 22 = .ok (.iload_n 1, 1) := dq_232.2.2.1
theorem dX6_leastRing_23 : decode cX6_leastRing 23 = .ok (.ifCond .eq 8, 3) := dq_232.2.2.2.1
theorem dX6_leastRing_26 : decode cX6_leastRing 26 = .ok (.iload_n 3, 1) := dq_232.2.2.2.2.1
theorem dX6_leastRing_27 : decode cX6_leastRing 27 = .ok (.iload_n 1, 1) := dq_232.2.2.2.2.2.1
theorem dX6_leastRing_28 : decode cX6_leastRing 28 = .ok (.if_icmp .ge 5, 3) := dq_232.2.2.2.2.2.2.1
theorem dX6_leastRing_31 : decode cX6_leastRing 31 = .ok (.iload_n 3, 1) := dq_232.2.2.2.2.2.2.2.1
theorem dX6_leastRing_32 : decode cX6_leastRing 32 = .ok (.istore_n 1, 1) := dq_232.2.2.2.2.2.2.2.2.1
theorem dX6_leastRing_33 : decode cX6_leastRing 33 = .ok (.iinc 2 1, 3) := dq_232.2.2.2.2.2.2.2.2.2.1
theorem dX6_leastRing_36 : decode cX6_leastRing 36 = .ok (.goto (-32), 3) := dq_232.2.2.2.2.2.2.2.2.2.2.1
theorem dX6_leastRing_39 : decode cX6_leastRing 39 = .ok (.iload_n 1, 1) := dq_232.2.2.2.2.2.2.2.2.2.2.2
theorem dX6_leastRing_40 : decode cX6_leastRing 40 = .ok (.ireturn, 1) := by decide +kernel
theorem dq_234 : decode cX6_stepsToItself 0 = .ok (.iconst 1, 1) ∧ decode cX6_stepsToItself 1 = .ok (.iload_n 1, 1) ∧ decode cX6_stepsToItself 2 = .ok (.ishl, 1) ∧ decode cX6_stepsToItself 3 = .ok (.istore_n 2, 1) ∧ decode cX6_stepsToItself 4 = .ok (.iconst 1, 1) ∧ decode cX6_stepsToItself 5 = .ok (.istore_n 3, 1) ∧ decode cX6_stepsToItself 6 = .ok (.iload_n 3, 1) ∧ decode cX6_stepsToItself 7 = .ok (.aload_n 0, 1) ∧ decode cX6_stepsToItself 8 = .ok (.getfield 36, 3) ∧ decode cX6_stepsToItself 11 = .ok (.if_icmp .gt 65, 3) ∧ decode cX6_stepsToItself 14 = .ok (.iconst 0, 1) ∧ decode cX6_stepsToItself 15 = .ok (.istore 4, 2) := by decide +kernel
theorem dX6_stepsToItself_0 : decode cX6_stepsToItself 0 = .ok (.iconst 1, 1) := dq_234.1
theorem dX6_stepsToItself_1 : decode cX6_stepsToItself 1 = .ok (.iload_n 1, 1) := dq_234.2.1
theorem dX6_stepsToItself_2 : decode cX6_stepsToItself 2 = .ok (.ishl, 1) := dq_234.2.2.1
theorem dX6_stepsToItself_3 : decode cX6_stepsToItself 3 = .ok (.istore_n 2, 1) := dq_234.2.2.2.1
theorem dX6_stepsToItself_4 : decode cX6_stepsToItself 4 = .ok (.iconst 1, 1) := dq_234.2.2.2.2.1
theorem dX6_stepsToItself_5 : decode cX6_stepsToItself 5 = .ok (.istore_n 3, 1) := dq_234.2.2.2.2.2.1
theorem dX6_stepsToItself_6 : decode cX6_stepsToItself 6 = .ok (.iload_n 3, 1) := dq_234.2.2.2.2.2.2.1
theorem dX6_stepsToItself_7 : decode cX6_stepsToItself 7 = .ok (.aload_n 0, 1) := dq_234.2.2.2.2.2.2.2.1
theorem dX6_stepsToItself_8 : decode cX6_stepsToItself 8 = .ok (.getfield 36, 3) := dq_234.2.2.2.2.2.2.2.2.1
theorem dX6_stepsToItself_11 : decode cX6_stepsToItself 11 = .ok (.if_icmp .gt 65, 3) := dq_234.2.2.2.2.2.2.2.2.2.1
theorem dX6_stepsToItself_14 : decode cX6_stepsToItself 14 = .ok (.iconst 0, 1) := dq_234.2.2.2.2.2.2.2.2.2.2.1
theorem dX6_stepsToItself_15 : decode cX6_stepsToItself 15 = .ok (.istore 4, 2) := dq_234.2.2.2.2.2.2.2.2.2.2.2
theorem dq_235 : decode cX6_stepsToItself 17 = .ok (.iconst 0, 1) ∧ decode cX6_stepsToItself 18 = .ok (.istore 5, 2) ∧ decode cX6_stepsToItself 20 = .ok (.iload 5, 2) ∧ decode cX6_stepsToItself 22 = .ok (.aload_n 0, 1) ∧ decode cX6_stepsToItself 23 = .ok (.getfield 36, 3) ∧ decode cX6_stepsToItself 26 = .ok (.if_icmp .ge 30, 3) ∧ decode cX6_stepsToItself 29 = .ok (.iload_n 2, 1) ∧ decode cX6_stepsToItself 30 = .ok (.iload 5, 2) ∧ decode cX6_stepsToItself 32 = .ok (.invokestatic 42, 3) ∧ decode cX6_stepsToItself 35 = .ok (.ifCond .eq 15, 3) ∧ decode cX6_stepsToItself 38 = .ok (.iload 4, 2) ∧ decode cX6_stepsToItself 40 = .ok (.aload_n 0, 1) := by decide +kernel
theorem dX6_stepsToItself_17 : decode cX6_stepsToItself 17 = .ok (.iconst 0, 1) := dq_235.1
theorem dX6_stepsToItself_18 : decode cX6_stepsToItself 18 = .ok (.istore 5, 2) := dq_235.2.1
theorem dX6_stepsToItself_20 : decode cX6_stepsToItself 20 = .ok (.iload 5, 2) := dq_235.2.2.1
theorem dX6_stepsToItself_22 : decode cX6_stepsToItself 22 = .ok (.aload_n 0, 1) := dq_235.2.2.2.1
theorem dX6_stepsToItself_23 : decode cX6_stepsToItself 23 = .ok (.getfield 36, 3) := dq_235.2.2.2.2.1
theorem dX6_stepsToItself_26 : decode cX6_stepsToItself 26 = .ok (.if_icmp .ge 30, 3) := dq_235.2.2.2.2.2.1
theorem dX6_stepsToItself_29 : decode cX6_stepsToItself 29 = .ok (.iload_n 2, 1) := dq_235.2.2.2.2.2.2.1
theorem dX6_stepsToItself_30 : decode cX6_stepsToItself 30 = .ok (.iload 5, 2) := dq_235.2.2.2.2.2.2.2.1
theorem dX6_stepsToItself_32 : decode cX6_stepsToItself 32 = .ok (.invokestatic 42, 3) := dq_235.2.2.2.2.2.2.2.2.1
theorem dX6_stepsToItself_35 : decode cX6_stepsToItself 35 = .ok (.ifCond .eq 15, 3) := dq_235.2.2.2.2.2.2.2.2.2.1
theorem dX6_stepsToItself_38 : decode cX6_stepsToItself 38 = .ok (.iload 4, 2) := dq_235.2.2.2.2.2.2.2.2.2.2.1
theorem dX6_stepsToItself_40 : decode cX6_stepsToItself 40 = .ok (.aload_n 0, 1) := dq_235.2.2.2.2.2.2.2.2.2.2.2
theorem dq_236 : decode cX6_stepsToItself 41 = .ok (.getfield 9, 3) ∧ decode cX6_stepsToItself 44 = .ok (.iload 5, 2) ∧ decode cX6_stepsToItself 46 = .ok (.iaload, 1) ∧ decode cX6_stepsToItself 47 = .ok (.ior, 1) ∧ decode cX6_stepsToItself 48 = .ok (.istore 4, 2) ∧ decode cX6_stepsToItself 50 = .ok (.iinc 5 1, 3) ∧ decode cX6_stepsToItself 53 = .ok (.goto (-33), 3) ∧ decode cX6_stepsToItself 56 = .ok (.iload 4, 2) ∧ decode cX6_stepsToItself 58 = .ok (.iload_n 1, 1) ∧ decode cX6_stepsToItself 59 = .ok (.invokestatic 42, 3) ∧ decode cX6_stepsToItself 62 = .ok (.ifCond .eq 5, 3) ∧ decode cX6_stepsToItself 65 = .ok (.iload_n 3, 1) := by decide +kernel
theorem dX6_stepsToItself_41 : decode cX6_stepsToItself 41 = .ok (.getfield 9, 3) := dq_236.1
theorem dX6_stepsToItself_44 : decode cX6_stepsToItself 44 = .ok (.iload 5, 2) := dq_236.2.1
theorem dX6_stepsToItself_46 : decode cX6_stepsToItself 46 = .ok (.iaload, 1) := dq_236.2.2.1
theorem dX6_stepsToItself_47 : decode cX6_stepsToItself 47 = .ok (.ior, 1) := dq_236.2.2.2.1
theorem dX6_stepsToItself_48 : decode cX6_stepsToItself 48 = .ok (.istore 4, 2) := dq_236.2.2.2.2.1
theorem dX6_stepsToItself_50 : decode cX6_stepsToItself 50 = .ok (.iinc 5 1, 3) := dq_236.2.2.2.2.2.1
theorem dX6_stepsToItself_53 : decode cX6_stepsToItself 53 = .ok (.goto (-33), 3) := dq_236.2.2.2.2.2.2.1
theorem dX6_stepsToItself_56 : decode cX6_stepsToItself 56 = .ok (.iload 4, 2) := dq_236.2.2.2.2.2.2.2.1
theorem dX6_stepsToItself_58 : decode cX6_stepsToItself 58 = .ok (.iload_n 1, 1) := dq_236.2.2.2.2.2.2.2.2.1
theorem dX6_stepsToItself_59 : decode cX6_stepsToItself 59 = .ok (.invokestatic 42, 3) := dq_236.2.2.2.2.2.2.2.2.2.1
theorem dX6_stepsToItself_62 : decode cX6_stepsToItself 62 = .ok (.ifCond .eq 5, 3) := dq_236.2.2.2.2.2.2.2.2.2.2.1
theorem dX6_stepsToItself_65 : decode cX6_stepsToItself 65 = .ok (.iload_n 3, 1) := dq_236.2.2.2.2.2.2.2.2.2.2.2
theorem dq_237 : decode cX6_stepsToItself 66 = .ok (.ireturn, 1) ∧ decode cX6_stepsToItself 67 = .ok (.iload 4, 2) ∧ decode cX6_stepsToItself 69 = .ok (.istore_n 2, 1) ∧ decode cX6_stepsToItself 70 = .ok (.iinc 3 1, 3) ∧ decode cX6_stepsToItself 73 = .ok (.goto (-67), 3) ∧ decode cX6_stepsToItself 76 = .ok (.iconst 0, 1) ∧ decode cX6_stepsToItself 77 = .ok (.ireturn, 1) := by decide +kernel
theorem dX6_stepsToItself_66 : decode cX6_stepsToItself 66 = .ok (.ireturn, 1) := dq_237.1
theorem dX6_stepsToItself_67 : decode cX6_stepsToItself 67 = .ok (.iload 4, 2) := dq_237.2.1
theorem dX6_stepsToItself_69 : decode cX6_stepsToItself 69 = .ok (.istore_n 2, 1) := dq_237.2.2.1
theorem dX6_stepsToItself_70 : decode cX6_stepsToItself 70 = .ok (.iinc 3 1, 3) := dq_237.2.2.2.1
theorem dX6_stepsToItself_73 : decode cX6_stepsToItself 73 = .ok (.goto (-67), 3) := dq_237.2.2.2.2.1
theorem dX6_stepsToItself_76 : decode cX6_stepsToItself 76 = .ok (.iconst 0, 1) := dq_237.2.2.2.2.2.1
theorem dX6_stepsToItself_77 : decode cX6_stepsToItself 77 = .ok (.ireturn, 1) := dq_237.2.2.2.2.2.2
theorem dq_238 : decode cX6_firsts 0 = .ok (.iconst 0, 1) ∧ decode cX6_firsts 1 = .ok (.istore_n 1, 1) ∧ decode cX6_firsts 2 = .ok (.iconst 0, 1) ∧ decode cX6_firsts 3 = .ok (.istore_n 2, 1) ∧ decode cX6_firsts 4 = .ok (.iload_n 2, 1) ∧ decode cX6_firsts 5 = .ok (.aload_n 0, 1) ∧ decode cX6_firsts 6 = .ok (.getfield 36, 3) ∧ decode cX6_firsts 9 = .ok (.if_icmp .ge 24, 3) ∧ decode cX6_firsts 12 = .ok (.aload_n 0, 1) ∧ decode cX6_firsts 13 = .ok (.getfield 15, 3) ∧ decode cX6_firsts 16 = .ok (.iload_n 2, 1) ∧ decode cX6_firsts 17 = .ok (.iaload, 1) := by decide +kernel
theorem dX6_firsts_0 : decode cX6_firsts 0 = .ok (.iconst 0, 1) := dq_238.1
theorem dX6_firsts_1 : decode cX6_firsts 1 = .ok (.istore_n 1, 1) := dq_238.2.1
theorem dX6_firsts_2 : decode cX6_firsts 2 = .ok (.iconst 0, 1) := dq_238.2.2.1
theorem dX6_firsts_3 : decode cX6_firsts 3 = .ok (.istore_n 2, 1) := dq_238.2.2.2.1
theorem dX6_firsts_4 : decode cX6_firsts 4 = .ok (.iload_n 2, 1) := dq_238.2.2.2.2.1
theorem dX6_firsts_5 : decode cX6_firsts 5 = .ok (.aload_n 0, 1) := dq_238.2.2.2.2.2.1
theorem dX6_firsts_6 : decode cX6_firsts 6 = .ok (.getfield 36, 3) := dq_238.2.2.2.2.2.2.1
theorem dX6_firsts_9 : decode cX6_firsts 9 = .ok (.if_icmp .ge 24, 3) := dq_238.2.2.2.2.2.2.2.1
theorem dX6_firsts_12 : decode cX6_firsts 12 = .ok (.aload_n 0, 1) := dq_238.2.2.2.2.2.2.2.2.1
theorem dX6_firsts_13 : decode cX6_firsts 13 = .ok (.getfield 15, 3) := dq_238.2.2.2.2.2.2.2.2.2.1
theorem dX6_firsts_16 : decode cX6_firsts 16 = .ok (.iload_n 2, 1) := dq_238.2.2.2.2.2.2.2.2.2.2.1
theorem dX6_firsts_17 : decode cX6_firsts 17 = .ok (.iaload, 1) := dq_238.2.2.2.2.2.2.2.2.2.2.2
theorem dq_239 : decode cX6_firsts 18 = .ok (.ifCond .ne 9, 3) ∧ decode cX6_firsts 21 = .ok (.iload_n 1, 1) ∧ decode cX6_firsts 22 = .ok (.iconst 1, 1) ∧ decode cX6_firsts 23 = .ok (.iload_n 2, 1) ∧ decode cX6_firsts 24 = .ok (.ishl, 1) ∧ decode cX6_firsts 25 = .ok (.ior, 1) ∧ decode cX6_firsts 26 = .ok (.istore_n 1, 1) ∧ decode cX6_firsts 27 = .ok (.iinc 2 1, 3) ∧ decode cX6_firsts 30 = .ok (.goto (-26), 3) ∧ decode cX6_firsts 33 = .ok (.iload_n 1, 1) ∧ decode cX6_firsts 34 = .ok (.ireturn, 1) := by decide +kernel
theorem dX6_firsts_18 : decode cX6_firsts 18 = .ok (.ifCond .ne 9, 3) := dq_239.1
theorem dX6_firsts_21 : decode cX6_firsts 21 = .ok (.iload_n 1, 1) := dq_239.2.1
theorem dX6_firsts_22 : decode cX6_firsts 22 = .ok (.iconst 1, 1) := dq_239.2.2.1
theorem dX6_firsts_23 : decode cX6_firsts 23 = .ok (.iload_n 2, 1) := dq_239.2.2.2.1
theorem dX6_firsts_24 : decode cX6_firsts 24 = .ok (.ishl, 1) := dq_239.2.2.2.2.1
theorem dX6_firsts_25 : decode cX6_firsts 25 = .ok (.ior, 1) := dq_239.2.2.2.2.2.1
theorem dX6_firsts_26 : decode cX6_firsts 26 = .ok (.istore_n 1, 1) := dq_239.2.2.2.2.2.2.1
theorem dX6_firsts_27 : decode cX6_firsts 27 = .ok (.iinc 2 1, 3) := dq_239.2.2.2.2.2.2.2.1
theorem dX6_firsts_30 : decode cX6_firsts 30 = .ok (.goto (-26), 3) := dq_239.2.2.2.2.2.2.2.2.1
theorem dX6_firsts_33 : decode cX6_firsts 33 = .ok (.iload_n 1, 1) := dq_239.2.2.2.2.2.2.2.2.2.1
theorem dX6_firsts_34 : decode cX6_firsts 34 = .ok (.ireturn, 1) := dq_239.2.2.2.2.2.2.2.2.2.2
theorem dq_240 : decode cX6_lasts 0 = .ok (.iconst 0, 1) ∧ decode cX6_lasts 1 = .ok (.istore_n 1, 1) ∧ decode cX6_lasts 2 = .ok (.iconst 0, 1) ∧ decode cX6_lasts 3 = .ok (.istore_n 2, 1) ∧ decode cX6_lasts 4 = .ok (.iload_n 2, 1) ∧ decode cX6_lasts 5 = .ok (.aload_n 0, 1) ∧ decode cX6_lasts 6 = .ok (.getfield 36, 3) ∧ decode cX6_lasts 9 = .ok (.if_icmp .ge 23, 3) ∧ decode cX6_lasts 12 = .ok (.aload_n 0, 1) ∧ decode cX6_lasts 13 = .ok (.iload_n 2, 1) ∧ decode cX6_lasts 14 = .ok (.invokevirtual 57, 3) ∧ decode cX6_lasts 17 = .ok (.ifCond .ne 9, 3) := by decide +kernel
theorem dX6_lasts_0 : decode cX6_lasts 0 = .ok (.iconst 0, 1) := dq_240.1
theorem dX6_lasts_1 : decode cX6_lasts 1 = .ok (.istore_n 1, 1) := dq_240.2.1
theorem dX6_lasts_2 : decode cX6_lasts 2 = .ok (.iconst 0, 1) := dq_240.2.2.1
theorem dX6_lasts_3 : decode cX6_lasts 3 = .ok (.istore_n 2, 1) := dq_240.2.2.2.1
theorem dX6_lasts_4 : decode cX6_lasts 4 = .ok (.iload_n 2, 1) := dq_240.2.2.2.2.1
theorem dX6_lasts_5 : decode cX6_lasts 5 = .ok (.aload_n 0, 1) := dq_240.2.2.2.2.2.1
theorem dX6_lasts_6 : decode cX6_lasts 6 = .ok (.getfield 36, 3) := dq_240.2.2.2.2.2.2.1
theorem dX6_lasts_9 : decode cX6_lasts 9 = .ok (.if_icmp .ge 23, 3) := dq_240.2.2.2.2.2.2.2.1
theorem dX6_lasts_12 : decode cX6_lasts 12 = .ok (.aload_n 0, 1) := dq_240.2.2.2.2.2.2.2.2.1
theorem dX6_lasts_13 : decode cX6_lasts 13 = .ok (.iload_n 2, 1) := dq_240.2.2.2.2.2.2.2.2.2.1
theorem dX6_lasts_14 : decode cX6_lasts 14 = .ok (.invokevirtual 57, 3) := dq_240.2.2.2.2.2.2.2.2.2.2.1
theorem dX6_lasts_17 : decode cX6_lasts 17 = .ok (.ifCond .ne 9, 3) := dq_240.2.2.2.2.2.2.2.2.2.2.2
theorem dq_241 : decode cX6_lasts 20 = .ok (.iload_n 1, 1) ∧ decode cX6_lasts 21 = .ok (.iconst 1, 1) ∧ decode cX6_lasts 22 = .ok (.iload_n 2, 1) ∧ decode cX6_lasts 23 = .ok (.ishl, 1) ∧ decode cX6_lasts 24 = .ok (.ior, 1) ∧ decode cX6_lasts 25 = .ok (.istore_n 1, 1) ∧ decode cX6_lasts 26 = .ok (.iinc 2 1, 3) ∧ decode cX6_lasts 29 = .ok (.goto (-25), 3) ∧ decode cX6_lasts 32 = .ok (.iload_n 1, 1) ∧ decode cX6_lasts 33 = .ok (.ireturn, 1) := by decide +kernel
theorem dX6_lasts_20 : decode cX6_lasts 20 = .ok (.iload_n 1, 1) := dq_241.1
theorem dX6_lasts_21 : decode cX6_lasts 21 = .ok (.iconst 1, 1) := dq_241.2.1
theorem dX6_lasts_22 : decode cX6_lasts 22 = .ok (.iload_n 2, 1) := dq_241.2.2.1
theorem dX6_lasts_23 : decode cX6_lasts 23 = .ok (.ishl, 1) := dq_241.2.2.2.1
theorem dX6_lasts_24 : decode cX6_lasts 24 = .ok (.ior, 1) := dq_241.2.2.2.2.1
theorem dX6_lasts_25 : decode cX6_lasts 25 = .ok (.istore_n 1, 1) := dq_241.2.2.2.2.2.1
theorem dX6_lasts_26 : decode cX6_lasts 26 = .ok (.iinc 2 1, 3) := dq_241.2.2.2.2.2.2.1
theorem dX6_lasts_29 : decode cX6_lasts 29 = .ok (.goto (-25), 3) := dq_241.2.2.2.2.2.2.2.1
theorem dX6_lasts_32 : decode cX6_lasts 32 = .ok (.iload_n 1, 1) := dq_241.2.2.2.2.2.2.2.2.1
theorem dX6_lasts_33 : decode cX6_lasts 33 = .ok (.ireturn, 1) := dq_241.2.2.2.2.2.2.2.2.2
theorem dq_242 : decode cX6_mayFollow 0 = .ok (.iload_n 1, 1) ∧ decode cX6_mayFollow 1 = .ok (.iload_n 2, 1) ∧ decode cX6_mayFollow 2 = .ok (.invokestatic 42, 3) ∧ decode cX6_mayFollow 5 = .ok (.ifCond .ne 20, 3) ∧ decode cX6_mayFollow 8 = .ok (.aload_n 0, 1) ∧ decode cX6_mayFollow 9 = .ok (.getfield 15, 3) ∧ decode cX6_mayFollow 12 = .ok (.iload_n 2, 1) ∧ decode cX6_mayFollow 13 = .ok (.iaload, 1) ∧ decode cX6_mayFollow 14 = .ok (.iload_n 1, 1) ∧ decode cX6_mayFollow 15 = .ok (.iconst (-1), 1) ∧ decode cX6_mayFollow 16 = .ok (.ixor, 1) ∧ decode cX6_mayFollow 17 = .ok (.iand, 1) := by decide +kernel
theorem dX6_mayFollow_0 : decode cX6_mayFollow 0 = .ok (.iload_n 1, 1) := dq_242.1
theorem dX6_mayFollow_1 : decode cX6_mayFollow 1 = .ok (.iload_n 2, 1) := dq_242.2.1
theorem dX6_mayFollow_2 : decode cX6_mayFollow 2 = .ok (.invokestatic 42, 3) := dq_242.2.2.1
theorem dX6_mayFollow_5 : decode cX6_mayFollow 5 = .ok (.ifCond .ne 20, 3) := dq_242.2.2.2.1
theorem dX6_mayFollow_8 : decode cX6_mayFollow 8 = .ok (.aload_n 0, 1) := dq_242.2.2.2.2.1
theorem dX6_mayFollow_9 : decode cX6_mayFollow 9 = .ok (.getfield 15, 3) := dq_242.2.2.2.2.2.1
theorem dX6_mayFollow_12 : decode cX6_mayFollow 12 = .ok (.iload_n 2, 1) := dq_242.2.2.2.2.2.2.1
theorem dX6_mayFollow_13 : decode cX6_mayFollow 13 = .ok (.iaload, 1) := dq_242.2.2.2.2.2.2.2.1
theorem dX6_mayFollow_14 : decode cX6_mayFollow 14 = .ok (.iload_n 1, 1) := dq_242.2.2.2.2.2.2.2.2.1
theorem dX6_mayFollow_15 : decode cX6_mayFollow 15 = .ok (.iconst (-1), 1) := dq_242.2.2.2.2.2.2.2.2.2.1
theorem dX6_mayFollow_16 : decode cX6_mayFollow 16 = .ok (.ixor, 1) := dq_242.2.2.2.2.2.2.2.2.2.2.1
theorem dX6_mayFollow_17 : decode cX6_mayFollow 17 = .ok (.iand, 1) := dq_242.2.2.2.2.2.2.2.2.2.2.2
theorem dq_243 : decode cX6_mayFollow 18 = .ok (.ifCond .ne 7, 3) ∧ decode cX6_mayFollow 21 = .ok (.iconst 1, 1) ∧ decode cX6_mayFollow 22 = .ok (.goto 4, 3) ∧ decode cX6_mayFollow 25 = .ok (.iconst 0, 1) ∧ decode cX6_mayFollow 26 = .ok (.ireturn, 1) := by decide +kernel
theorem dX6_mayFollow_18 : decode cX6_mayFollow 18 = .ok (.ifCond .ne 7, 3) := dq_243.1
theorem dX6_mayFollow_21 : decode cX6_mayFollow 21 = .ok (.iconst 1, 1) := dq_243.2.1
theorem dX6_mayFollow_22 : decode cX6_mayFollow 22 = .ok (.goto 4, 3) := dq_243.2.2.1
theorem dX6_mayFollow_25 : decode cX6_mayFollow 25 = .ok (.iconst 0, 1) := dq_243.2.2.2.1
theorem dX6_mayFollow_26 : decode cX6_mayFollow 26 = .ok (.ireturn, 1) := dq_243.2.2.2.2
theorem dq_244 : decode cX6_countWays 0 = .ok (.aload_n 0, 1) ∧ decode cX6_countWays 1 = .ok (.getfield 46, 3) ∧ decode cX6_countWays 4 = .ok (.ifCond .eq 4, 3) ∧ decode cX6_countWays 7 = .ok (.return_, 1) ∧ decode cX6_countWays 8 = .ok (.iconst 1, 1) ∧ decode cX6_countWays 9 = .ok (.aload_n 0, 1) ∧ decode cX6_countWays 10 = .ok (.getfield 36, 3) ∧ decode cX6_countWays 13 = .ok (.ishl, 1) ∧ decode cX6_countWays 14 = .ok (.iconst 1, 1) ∧ decode cX6_countWays 15 = .ok (.isub, 1) ∧ decode cX6_countWays 16 = .ok (.istore_n 1, 1) ∧ decode cX6_countWays 17 = .ok (.iconst 0, 1) := by decide +kernel
theorem dX6_countWays_0 : decode cX6_countWays 0 = .ok (.aload_n 0, 1) := dq_244.1
theorem dX6_countWays_1 : decode cX6_countWays 1 = .ok (.getfield 46, 3) := dq_244.2.1
theorem dX6_countWays_4 : decode cX6_countWays 4 = .ok (.ifCond .eq 4, 3) := dq_244.2.2.1
theorem dX6_countWays_7 : decode cX6_countWays 7 = .ok (.return_, 1) := dq_244.2.2.2.1
theorem dX6_countWays_8 : decode cX6_countWays 8 = .ok (.iconst 1, 1) := dq_244.2.2.2.2.1
theorem dX6_countWays_9 : decode cX6_countWays 9 = .ok (.aload_n 0, 1) := dq_244.2.2.2.2.2.1
theorem dX6_countWays_10 : decode cX6_countWays 10 = .ok (.getfield 36, 3) := dq_244.2.2.2.2.2.2.1
theorem dX6_countWays_13 : decode cX6_countWays 13 = .ok (.ishl, 1) := dq_244.2.2.2.2.2.2.2.1
theorem dX6_countWays_14 : decode cX6_countWays 14 = .ok (.iconst 1, 1) := dq_244.2.2.2.2.2.2.2.2.1
theorem dX6_countWays_15 : decode cX6_countWays 15 = .ok (.isub, 1) := dq_244.2.2.2.2.2.2.2.2.2.1
theorem dX6_countWays_16 : decode cX6_countWays 16 = .ok (.istore_n 1, 1) := dq_244.2.2.2.2.2.2.2.2.2.2.1
theorem dX6_countWays_17 : decode cX6_countWays 17 = .ok (.iconst 0, 1) := dq_244.2.2.2.2.2.2.2.2.2.2.2
theorem dq_245 : decode cX6_countWays 18 = .ok (.istore_n 2, 1) ∧ decode cX6_countWays 19 = .ok (.iload_n 2, 1) ∧ decode cX6_countWays 20 = .ok (.iload_n 1, 1) ∧ decode cX6_countWays 21 = .ok (.if_icmp .gt 23, 3) ∧ decode cX6_countWays 24 = .ok (.aload_n 0, 1) ∧ decode cX6_countWays 25 = .ok (.getfield 18, 3) ∧ decode cX6_countWays 28 = .ok (.iload_n 2, 1) ∧ decode cX6_countWays 29 = .ok (.iconst 0, 1) ∧ decode cX6_countWays 30 = .ok (.iastore, 1) ∧ decode cX6_countWays 31 = .ok (.aload_n 0, 1) ∧ decode cX6_countWays 32 = .ok (.getfield 21, 3) ∧ decode cX6_countWays 35 = .ok (.iload_n 2, 1) := by decide +kernel
theorem dX6_countWays_18 : decode cX6_countWays 18 = .ok (.istore_n 2, 1) := dq_245.1
theorem dX6_countWays_19 : decode cX6_countWays 19 = .ok (.iload_n 2, 1) := dq_245.2.1
theorem dX6_countWays_20 : decode cX6_countWays 20 = .ok (.iload_n 1, 1) := dq_245.2.2.1
theorem dX6_countWays_21 : decode cX6_countWays 21 = .ok (.if_icmp .gt 23, 3) := dq_245.2.2.2.1
theorem dX6_countWays_24 : decode cX6_countWays 24 = .ok (.aload_n 0, 1) := dq_245.2.2.2.2.1
theorem dX6_countWays_25 : decode cX6_countWays 25 = .ok (.getfield 18, 3) := dq_245.2.2.2.2.2.1
theorem dX6_countWays_28 : decode cX6_countWays 28 = .ok (.iload_n 2, 1) := dq_245.2.2.2.2.2.2.1
theorem dX6_countWays_29 : decode cX6_countWays 29 = .ok (.iconst 0, 1) := dq_245.2.2.2.2.2.2.2.1
theorem dX6_countWays_30 : decode cX6_countWays 30 = .ok (.iastore, 1) := dq_245.2.2.2.2.2.2.2.2.1
theorem dX6_countWays_31 : decode cX6_countWays 31 = .ok (.aload_n 0, 1) := dq_245.2.2.2.2.2.2.2.2.2.1
theorem dX6_countWays_32 : decode cX6_countWays 32 = .ok (.getfield 21, 3) := dq_245.2.2.2.2.2.2.2.2.2.2.1
theorem dX6_countWays_35 : decode cX6_countWays 35 = .ok (.iload_n 2, 1) := dq_245.2.2.2.2.2.2.2.2.2.2.2
theorem dq_246 : decode cX6_countWays 36 = .ok (.iconst 0, 1) ∧ decode cX6_countWays 37 = .ok (.iastore, 1) ∧ decode cX6_countWays 38 = .ok (.iinc 2 1, 3) ∧ decode cX6_countWays 41 = .ok (.goto (-22), 3) ∧ decode cX6_countWays 44 = .ok (.aload_n 0, 1) ∧ decode cX6_countWays 45 = .ok (.getfield 18, 3) ∧ decode cX6_countWays 48 = .ok (.iconst 0, 1) ∧ decode cX6_countWays 49 = .ok (.iconst 1, 1) ∧ decode cX6_countWays 50 = .ok (.iastore, 1) ∧ decode cX6_countWays 51 = .ok (.iconst 0, 1) ∧ decode cX6_countWays 52 = .ok (.istore_n 2, 1) ∧ decode cX6_countWays 53 = .ok (.iload_n 2, 1) := by decide +kernel
theorem dX6_countWays_36 : decode cX6_countWays 36 = .ok (.iconst 0, 1) := dq_246.1
theorem dX6_countWays_37 : decode cX6_countWays 37 = .ok (.iastore, 1) := dq_246.2.1
theorem dX6_countWays_38 : decode cX6_countWays 38 = .ok (.iinc 2 1, 3) := dq_246.2.2.1
theorem dX6_countWays_41 : decode cX6_countWays 41 = .ok (.goto (-22), 3) := dq_246.2.2.2.1
theorem dX6_countWays_44 : decode cX6_countWays 44 = .ok (.aload_n 0, 1) := dq_246.2.2.2.2.1
theorem dX6_countWays_45 : decode cX6_countWays 45 = .ok (.getfield 18, 3) := dq_246.2.2.2.2.2.1
theorem dX6_countWays_48 : decode cX6_countWays 48 = .ok (.iconst 0, 1) := dq_246.2.2.2.2.2.2.1
theorem dX6_countWays_49 : decode cX6_countWays 49 = .ok (.iconst 1, 1) := dq_246.2.2.2.2.2.2.2.1
theorem dX6_countWays_50 : decode cX6_countWays 50 = .ok (.iastore, 1) := dq_246.2.2.2.2.2.2.2.2.1
theorem dX6_countWays_51 : decode cX6_countWays 51 = .ok (.iconst 0, 1) := dq_246.2.2.2.2.2.2.2.2.2.1
theorem dX6_countWays_52 : decode cX6_countWays 52 = .ok (.istore_n 2, 1) := dq_246.2.2.2.2.2.2.2.2.2.2.1
theorem dX6_countWays_53 : decode cX6_countWays 53 = .ok (.iload_n 2, 1) := dq_246.2.2.2.2.2.2.2.2.2.2.2
theorem dq_247 : decode cX6_countWays 54 = .ok (.iload_n 1, 1) ∧ decode cX6_countWays 55 = .ok (.if_icmp .gt 62, 3) ∧ decode cX6_countWays 58 = .ok (.iconst 0, 1) ∧ decode cX6_countWays 59 = .ok (.istore_n 3, 1) ∧ decode cX6_countWays 60 = .ok (.iload_n 3, 1) ∧ decode cX6_countWays 61 = .ok (.aload_n 0, 1) ∧ decode cX6_countWays 62 = .ok (.getfield 36, 3) ∧ decode cX6_countWays 65 = .ok (.if_icmp .ge 46, 3) ∧ decode cX6_countWays 68 = .ok (.aload_n 0, 1) ∧ decode cX6_countWays 69 = .ok (.getfield 18, 3) ∧ decode cX6_countWays 72 = .ok (.iload_n 2, 1) ∧ decode cX6_countWays 73 = .ok (.iaload, 1) := by decide +kernel
theorem dX6_countWays_54 : decode cX6_countWays 54 = .ok (.iload_n 1, 1) := dq_247.1
theorem dX6_countWays_55 : decode cX6_countWays 55 = .ok (.if_icmp .gt 62, 3) := dq_247.2.1
theorem dX6_countWays_58 : decode cX6_countWays 58 = .ok (.iconst 0, 1) := dq_247.2.2.1
theorem dX6_countWays_59 : decode cX6_countWays 59 = .ok (.istore_n 3, 1) := dq_247.2.2.2.1
theorem dX6_countWays_60 : decode cX6_countWays 60 = .ok (.iload_n 3, 1) := dq_247.2.2.2.2.1
theorem dX6_countWays_61 : decode cX6_countWays 61 = .ok (.aload_n 0, 1) := dq_247.2.2.2.2.2.1
theorem dX6_countWays_62 : decode cX6_countWays 62 = .ok (.getfield 36, 3) := dq_247.2.2.2.2.2.2.1
theorem dX6_countWays_65 : decode cX6_countWays 65 = .ok (.if_icmp .ge 46, 3) := dq_247.2.2.2.2.2.2.2.1
theorem dX6_countWays_68 : decode cX6_countWays 68 = .ok (.aload_n 0, 1) := dq_247.2.2.2.2.2.2.2.2.1
theorem dX6_countWays_69 : decode cX6_countWays 69 = .ok (.getfield 18, 3) := dq_247.2.2.2.2.2.2.2.2.2.1
theorem dX6_countWays_72 : decode cX6_countWays 72 = .ok (.iload_n 2, 1) := dq_247.2.2.2.2.2.2.2.2.2.2.1
theorem dX6_countWays_73 : decode cX6_countWays 73 = .ok (.iaload, 1) := dq_247.2.2.2.2.2.2.2.2.2.2.2
theorem dq_248 : decode cX6_countWays 74 = .ok (.ifCond .le 37, 3) ∧ decode cX6_countWays 77 = .ok (.aload_n 0, 1) ∧ decode cX6_countWays 78 = .ok (.iload_n 2, 1) ∧ decode cX6_countWays 79 = .ok (.iload_n 3, 1) ∧ decode cX6_countWays 80 = .ok (.invokevirtual 60, 3) ∧ decode cX6_countWays 83 = .ok (.ifCond .eq 22, 3) ∧ decode cX6_countWays 86 = .ok (.aload_n 0, 1) ∧ decode cX6_countWays 87 = .ok (.getfield 18, 3) ∧ decode cX6_countWays 90 = .ok (.iload_n 2, 1) ∧ decode cX6_countWays 91 = .ok (.iconst 1, 1) ∧ decode cX6_countWays 92 = .ok (.iload_n 3, 1) ∧ decode cX6_countWays 93 = .ok (.ishl, 1) := by decide +kernel
theorem dX6_countWays_74 : decode cX6_countWays 74 = .ok (.ifCond .le 37, 3) := dq_248.1
theorem dX6_countWays_77 : decode cX6_countWays 77 = .ok (.aload_n 0, 1) := dq_248.2.1
theorem dX6_countWays_78 : decode cX6_countWays 78 = .ok (.iload_n 2, 1) := dq_248.2.2.1
theorem dX6_countWays_79 : decode cX6_countWays 79 = .ok (.iload_n 3, 1) := dq_248.2.2.2.1
theorem dX6_countWays_80 : decode cX6_countWays 80 = .ok (.invokevirtual 60, 3) := dq_248.2.2.2.2.1
theorem dX6_countWays_83 : decode cX6_countWays 83 = .ok (.ifCond .eq 22, 3) := dq_248.2.2.2.2.2.1
theorem dX6_countWays_86 : decode cX6_countWays 86 = .ok (.aload_n 0, 1) := dq_248.2.2.2.2.2.2.1
theorem dX6_countWays_87 : decode cX6_countWays 87 = .ok (.getfield 18, 3) := dq_248.2.2.2.2.2.2.2.1
theorem dX6_countWays_90 : decode cX6_countWays 90 = .ok (.iload_n 2, 1) := dq_248.2.2.2.2.2.2.2.2.1
theorem dX6_countWays_91 : decode cX6_countWays 91 = .ok (.iconst 1, 1) := dq_248.2.2.2.2.2.2.2.2.2.1
theorem dX6_countWays_92 : decode cX6_countWays 92 = .ok (.iload_n 3, 1) := dq_248.2.2.2.2.2.2.2.2.2.2.1
theorem dX6_countWays_93 : decode cX6_countWays 93 = .ok (.ishl, 1) := dq_248.2.2.2.2.2.2.2.2.2.2.2
theorem dq_249 : decode cX6_countWays 94 = .ok (.ior, 1) ∧ decode cX6_countWays 95 = .ok (.dup2, 1) ∧ decode cX6_countWays 96 = .ok (.iaload, 1) ∧ decode cX6_countWays 97 = .ok (.aload_n 0, 1) ∧ decode cX6_countWays 98 = .ok (.getfield 18, 3) ∧ decode cX6_countWays 101 = .ok (.iload_n 2, 1) ∧ decode cX6_countWays 102 = .ok (.iaload, 1) ∧ decode cX6_countWays 103 = .ok (.iadd, 1) ∧ decode cX6_countWays 104 = .ok (.iastore, 1) ∧ decode cX6_countWays 105 = .ok (.iinc 3 1, 3) ∧ decode cX6_countWays 108 = .ok (.goto (-48), 3) ∧ decode cX6_countWays 111 = .ok (.iinc 2 1, 3) := by decide +kernel
theorem dX6_countWays_94 : decode cX6_countWays 94 = .ok (.ior, 1) := dq_249.1
theorem dX6_countWays_95 : decode cX6_countWays 95 = .ok (.dup2, 1) := dq_249.2.1
theorem dX6_countWays_96 : decode cX6_countWays 96 = .ok (.iaload, 1) := dq_249.2.2.1
theorem dX6_countWays_97 : decode cX6_countWays 97 = .ok (.aload_n 0, 1) := dq_249.2.2.2.1
theorem dX6_countWays_98 : decode cX6_countWays 98 = .ok (.getfield 18, 3) := dq_249.2.2.2.2.1
theorem dX6_countWays_101 : decode cX6_countWays 101 = .ok (.iload_n 2, 1) := dq_249.2.2.2.2.2.1
theorem dX6_countWays_102 : decode cX6_countWays 102 = .ok (.iaload, 1) := dq_249.2.2.2.2.2.2.1
theorem dX6_countWays_103 : decode cX6_countWays 103 = .ok (.iadd, 1) := dq_249.2.2.2.2.2.2.2.1
theorem dX6_countWays_104 : decode cX6_countWays 104 = .ok (.iastore, 1) := dq_249.2.2.2.2.2.2.2.2.1
theorem dX6_countWays_105 : decode cX6_countWays 105 = .ok (.iinc 3 1, 3) := dq_249.2.2.2.2.2.2.2.2.2.1
theorem dX6_countWays_108 : decode cX6_countWays 108 = .ok (.goto (-48), 3) := dq_249.2.2.2.2.2.2.2.2.2.2.1
theorem dX6_countWays_111 : decode cX6_countWays 111 = .ok (.iinc 2 1, 3) := dq_249.2.2.2.2.2.2.2.2.2.2.2
theorem dq_250 : decode cX6_countWays 114 = .ok (.goto (-61), 3) ∧ decode cX6_countWays 117 = .ok (.aload_n 0, 1) ∧ decode cX6_countWays 118 = .ok (.getfield 21, 3) ∧ decode cX6_countWays 121 = .ok (.iload_n 1, 1) ∧ decode cX6_countWays 122 = .ok (.iconst 1, 1) ∧ decode cX6_countWays 123 = .ok (.iastore, 1) ∧ decode cX6_countWays 124 = .ok (.iload_n 1, 1) ∧ decode cX6_countWays 125 = .ok (.iconst 1, 1) ∧ decode cX6_countWays 126 = .ok (.isub, 1) ∧ decode cX6_countWays 127 = .ok (.istore_n 2, 1) ∧ decode cX6_countWays 128 = .ok (.iload_n 2, 1) ∧ decode cX6_countWays 129 = .ok (.ifCond .lt 62, 3) := by decide +kernel
theorem dX6_countWays_114 : decode cX6_countWays 114 = .ok (.goto (-61), 3) := dq_250.1
theorem dX6_countWays_117 : decode cX6_countWays 117 = .ok (.aload_n 0, 1) := dq_250.2.1
theorem dX6_countWays_118 : decode cX6_countWays 118 = .ok (.getfield 21, 3) := dq_250.2.2.1
theorem dX6_countWays_121 : decode cX6_countWays 121 = .ok (.iload_n 1, 1) := dq_250.2.2.2.1
theorem dX6_countWays_122 : decode cX6_countWays 122 = .ok (.iconst 1, 1) := dq_250.2.2.2.2.1
theorem dX6_countWays_123 : decode cX6_countWays 123 = .ok (.iastore, 1) := dq_250.2.2.2.2.2.1
theorem dX6_countWays_124 : decode cX6_countWays 124 = .ok (.iload_n 1, 1) := dq_250.2.2.2.2.2.2.1
theorem dX6_countWays_125 : decode cX6_countWays 125 = .ok (.iconst 1, 1) := dq_250.2.2.2.2.2.2.2.1
theorem dX6_countWays_126 : decode cX6_countWays 126 = .ok (.isub, 1) := dq_250.2.2.2.2.2.2.2.2.1
theorem dX6_countWays_127 : decode cX6_countWays 127 = .ok (.istore_n 2, 1) := dq_250.2.2.2.2.2.2.2.2.2.1
theorem dX6_countWays_128 : decode cX6_countWays 128 = .ok (.iload_n 2, 1) := dq_250.2.2.2.2.2.2.2.2.2.2.1
theorem dX6_countWays_129 : decode cX6_countWays 129 = .ok (.ifCond .lt 62, 3) := dq_250.2.2.2.2.2.2.2.2.2.2.2
theorem dq_251 : decode cX6_countWays 132 = .ok (.iconst 0, 1) ∧ decode cX6_countWays 133 = .ok (.istore_n 3, 1) ∧ decode cX6_countWays 134 = .ok (.iload_n 3, 1) ∧ decode cX6_countWays 135 = .ok (.aload_n 0, 1) ∧ decode cX6_countWays 136 = .ok (.getfield 36, 3) ∧ decode cX6_countWays 139 = .ok (.if_icmp .ge 46, 3) ∧ decode cX6_countWays 142 = .ok (.aload_n 0, 1) ∧ decode cX6_countWays 143 = .ok (.getfield 18, 3) ∧ decode cX6_countWays 146 = .ok (.iload_n 2, 1) ∧ decode cX6_countWays 147 = .ok (.iaload, 1) ∧ decode cX6_countWays 148 = .ok (.ifCond .le 37, 3) ∧ decode cX6_countWays 151 = .ok (.aload_n 0, 1) := by decide +kernel
theorem dX6_countWays_132 : decode cX6_countWays 132 = .ok (.iconst 0, 1) := dq_251.1
theorem dX6_countWays_133 : decode cX6_countWays 133 = .ok (.istore_n 3, 1) := dq_251.2.1
theorem dX6_countWays_134 : decode cX6_countWays 134 = .ok (.iload_n 3, 1) := dq_251.2.2.1
theorem dX6_countWays_135 : decode cX6_countWays 135 = .ok (.aload_n 0, 1) := dq_251.2.2.2.1
theorem dX6_countWays_136 : decode cX6_countWays 136 = .ok (.getfield 36, 3) := dq_251.2.2.2.2.1
theorem dX6_countWays_139 : decode cX6_countWays 139 = .ok (.if_icmp .ge 46, 3) := dq_251.2.2.2.2.2.1
theorem dX6_countWays_142 : decode cX6_countWays 142 = .ok (.aload_n 0, 1) := dq_251.2.2.2.2.2.2.1
theorem dX6_countWays_143 : decode cX6_countWays 143 = .ok (.getfield 18, 3) := dq_251.2.2.2.2.2.2.2.1
theorem dX6_countWays_146 : decode cX6_countWays 146 = .ok (.iload_n 2, 1) := dq_251.2.2.2.2.2.2.2.2.1
theorem dX6_countWays_147 : decode cX6_countWays 147 = .ok (.iaload, 1) := dq_251.2.2.2.2.2.2.2.2.2.1
theorem dX6_countWays_148 : decode cX6_countWays 148 = .ok (.ifCond .le 37, 3) := dq_251.2.2.2.2.2.2.2.2.2.2.1
theorem dX6_countWays_151 : decode cX6_countWays 151 = .ok (.aload_n 0, 1) := dq_251.2.2.2.2.2.2.2.2.2.2.2
theorem dq_252 : decode cX6_countWays 152 = .ok (.iload_n 2, 1) ∧ decode cX6_countWays 153 = .ok (.iload_n 3, 1) ∧ decode cX6_countWays 154 = .ok (.invokevirtual 60, 3) ∧ decode cX6_countWays 157 = .ok (.ifCond .eq 22, 3) ∧ decode cX6_countWays 160 = .ok (.aload_n 0, 1) ∧ decode cX6_countWays 161 = .ok (.getfield 21, 3) ∧ decode cX6_countWays 164 = .ok (.iload_n 2, 1) ∧ decode cX6_countWays 165 = .ok (.dup2, 1) ∧ decode cX6_countWays 166 = .ok (.iaload, 1) ∧ decode cX6_countWays 167 = .ok (.aload_n 0, 1) ∧ decode cX6_countWays 168 = .ok (.getfield 21, 3) ∧ decode cX6_countWays 171 = .ok (.iload_n 2, 1) := by decide +kernel
theorem dX6_countWays_152 : decode cX6_countWays 152 = .ok (.iload_n 2, 1) := dq_252.1
theorem dX6_countWays_153 : decode cX6_countWays 153 = .ok (.iload_n 3, 1) := dq_252.2.1
theorem dX6_countWays_154 : decode cX6_countWays 154 = .ok (.invokevirtual 60, 3) := dq_252.2.2.1
theorem dX6_countWays_157 : decode cX6_countWays 157 = .ok (.ifCond .eq 22, 3) := dq_252.2.2.2.1
theorem dX6_countWays_160 : decode cX6_countWays 160 = .ok (.aload_n 0, 1) := dq_252.2.2.2.2.1
theorem dX6_countWays_161 : decode cX6_countWays 161 = .ok (.getfield 21, 3) := dq_252.2.2.2.2.2.1
theorem dX6_countWays_164 : decode cX6_countWays 164 = .ok (.iload_n 2, 1) := dq_252.2.2.2.2.2.2.1
theorem dX6_countWays_165 : decode cX6_countWays 165 = .ok (.dup2, 1) := dq_252.2.2.2.2.2.2.2.1
theorem dX6_countWays_166 : decode cX6_countWays 166 = .ok (.iaload, 1) := dq_252.2.2.2.2.2.2.2.2.1
theorem dX6_countWays_167 : decode cX6_countWays 167 = .ok (.aload_n 0, 1) := dq_252.2.2.2.2.2.2.2.2.2.1
theorem dX6_countWays_168 : decode cX6_countWays 168 = .ok (.getfield 21, 3) := dq_252.2.2.2.2.2.2.2.2.2.2.1
theorem dX6_countWays_171 : decode cX6_countWays 171 = .ok (.iload_n 2, 1) := dq_252.2.2.2.2.2.2.2.2.2.2.2
theorem dq_253 : decode cX6_countWays 172 = .ok (.iconst 1, 1) ∧ decode cX6_countWays 173 = .ok (.iload_n 3, 1) ∧ decode cX6_countWays 174 = .ok (.ishl, 1) ∧ decode cX6_countWays 175 = .ok (.ior, 1) ∧ decode cX6_countWays 176 = .ok (.iaload, 1) ∧ decode cX6_countWays 177 = .ok (.iadd, 1) ∧ decode cX6_countWays 178 = .ok (.iastore, 1) ∧ decode cX6_countWays 179 = .ok (.iinc 3 1, 3) ∧ decode cX6_countWays 182 = .ok (.goto (-48), 3) ∧ decode cX6_countWays 185 = .ok (.iinc 2 (-1), 3) ∧ decode cX6_countWays 188 = .ok (.goto (-60), 3) ∧ decode cX6_countWays 191 = .ok (.aload_n 0, 1) := by decide +kernel
theorem dX6_countWays_172 : decode cX6_countWays 172 = .ok (.iconst 1, 1) := dq_253.1
theorem dX6_countWays_173 : decode cX6_countWays 173 = .ok (.iload_n 3, 1) := dq_253.2.1
theorem dX6_countWays_174 : decode cX6_countWays 174 = .ok (.ishl, 1) := dq_253.2.2.1
theorem dX6_countWays_175 : decode cX6_countWays 175 = .ok (.ior, 1) := dq_253.2.2.2.1
theorem dX6_countWays_176 : decode cX6_countWays 176 = .ok (.iaload, 1) := dq_253.2.2.2.2.1
theorem dX6_countWays_177 : decode cX6_countWays 177 = .ok (.iadd, 1) := dq_253.2.2.2.2.2.1
theorem dX6_countWays_178 : decode cX6_countWays 178 = .ok (.iastore, 1) := dq_253.2.2.2.2.2.2.1
theorem dX6_countWays_179 : decode cX6_countWays 179 = .ok (.iinc 3 1, 3) := dq_253.2.2.2.2.2.2.2.1
theorem dX6_countWays_182 : decode cX6_countWays 182 = .ok (.goto (-48), 3) := dq_253.2.2.2.2.2.2.2.2.1
theorem dX6_countWays_185 : decode cX6_countWays 185 = .ok (.iinc 2 (-1), 3) := dq_253.2.2.2.2.2.2.2.2.2.1
theorem dX6_countWays_188 : decode cX6_countWays 188 = .ok (.goto (-60), 3) := dq_253.2.2.2.2.2.2.2.2.2.2.1
theorem dX6_countWays_191 : decode cX6_countWays 191 = .ok (.aload_n 0, 1) := dq_253.2.2.2.2.2.2.2.2.2.2.2
theorem dq_254 : decode cX6_countWays 192 = .ok (.iconst 1, 1) ∧ decode cX6_countWays 193 = .ok (.putfield 46, 3) ∧ decode cX6_countWays 196 = .ok (.return_, 1) := by decide +kernel
theorem dX6_countWays_192 : decode cX6_countWays 192 = .ok (.iconst 1, 1) := dq_254.1
theorem dX6_countWays_193 : decode cX6_countWays 193 = .ok (.putfield 46, 3) := dq_254.2.1
theorem dX6_countWays_196 : decode cX6_countWays 196 = .ok (.return_, 1) := dq_254.2.2
theorem dq_255 : decode cX6_allOrders 0 = .ok (.aload_n 0, 1) ∧ decode cX6_allOrders 1 = .ok (.invokevirtual 63, 3) ∧ decode cX6_allOrders 4 = .ok (.aload_n 0, 1) ∧ decode cX6_allOrders 5 = .ok (.getfield 21, 3) ∧ decode cX6_allOrders 8 = .ok (.iconst 0, 1) ∧ decode cX6_allOrders 9 = .ok (.iaload, 1) ∧ decode cX6_allOrders 10 = .ok (.i2l, 1) ∧ decode cX6_allOrders 11 = .ok (.lreturn, 1) := by decide +kernel
theorem dX6_allOrders_0 : decode cX6_allOrders 0 = .ok (.aload_n 0, 1) := dq_255.1
theorem dX6_allOrders_1 : decode cX6_allOrders 1 = .ok (.invokevirtual 63, 3) := dq_255.2.1
theorem dX6_allOrders_4 : decode cX6_allOrders 4 = .ok (.aload_n 0, 1) := dq_255.2.2.1
theorem dX6_allOrders_5 : decode cX6_allOrders 5 = .ok (.getfield 21, 3) := dq_255.2.2.2.1
theorem dX6_allOrders_8 : decode cX6_allOrders 8 = .ok (.iconst 0, 1) := dq_255.2.2.2.2.1
theorem dX6_allOrders_9 : decode cX6_allOrders 9 = .ok (.iaload, 1) := dq_255.2.2.2.2.2.1
theorem dX6_allOrders_10 : decode cX6_allOrders 10 = .ok (.i2l, 1) := dq_255.2.2.2.2.2.2.1
theorem dX6_allOrders_11 : decode cX6_allOrders 11 = .ok (.lreturn, 1) := dq_255.2.2.2.2.2.2.2
theorem dq_256 : decode cX6_ordersWith 0 = .ok (.aload_n 0, 1) ∧ decode cX6_ordersWith 1 = .ok (.invokevirtual 63, 3) ∧ decode cX6_ordersWith 4 = .ok (.iload_n 2, 1) ∧ decode cX6_ordersWith 5 = .ok (.iconst 0, 1) ∧ decode cX6_ordersWith 6 = .ok (.aload_n 0, 1) ∧ decode cX6_ordersWith 7 = .ok (.getfield 36, 3) ∧ decode cX6_ordersWith 10 = .ok (.iconst 1, 1) ∧ decode cX6_ordersWith 11 = .ok (.isub, 1) ∧ decode cX6_ordersWith 12 = .ok (.invokestatic 50, 3) ∧ decode cX6_ordersWith 15 = .ok (.ifCond .ne 5, 3) ∧ decode cX6_ordersWith 18 = .ok (.lconst 0, 1) ∧ decode cX6_ordersWith 19 = .ok (.lreturn, 1) := by decide +kernel
theorem dX6_ordersWith_0 : decode cX6_ordersWith 0 = .ok (.aload_n 0, 1) := dq_256.1
theorem dX6_ordersWith_1 : decode cX6_ordersWith 1 = .ok (.invokevirtual 63, 3) := dq_256.2.1
theorem dX6_ordersWith_4 : decode cX6_ordersWith 4 = .ok (.iload_n 2, 1) := dq_256.2.2.1
theorem dX6_ordersWith_5 : decode cX6_ordersWith 5 = .ok (.iconst 0, 1) := dq_256.2.2.2.1
theorem dX6_ordersWith_6 : decode cX6_ordersWith 6 = .ok (.aload_n 0, 1) := dq_256.2.2.2.2.1
theorem dX6_ordersWith_7 : decode cX6_ordersWith 7 = .ok (.getfield 36, 3) := dq_256.2.2.2.2.2.1
theorem dX6_ordersWith_10 : decode cX6_ordersWith 10 = .ok (.iconst 1, 1) := dq_256.2.2.2.2.2.2.1
theorem dX6_ordersWith_11 : decode cX6_ordersWith 11 = .ok (.isub, 1) := dq_256.2.2.2.2.2.2.2.1
theorem dX6_ordersWith_12 : decode cX6_ordersWith 12 = .ok (.invokestatic 50, 3) := dq_256.2.2.2.2.2.2.2.2.1
theorem dX6_ordersWith_15 : decode cX6_ordersWith 15 = .ok (.ifCond .ne 5, 3) := dq_256.2.2.2.2.2.2.2.2.2.1
theorem dX6_ordersWith_18 : decode cX6_ordersWith 18 = .ok (.lconst 0, 1) := dq_256.2.2.2.2.2.2.2.2.2.2.1
theorem dX6_ordersWith_19 : decode cX6_ordersWith 19 = .ok (.lreturn, 1) := dq_256.2.2.2.2.2.2.2.2.2.2.2
theorem dq_257 : decode cX6_ordersWith 20 = .ok (.lconst 0, 1) ∧ decode cX6_ordersWith 21 = .ok (.lstore_n 3, 1) ∧ decode cX6_ordersWith 22 = .ok (.iconst 0, 1) ∧ decode cX6_ordersWith 23 = .ok (.istore 5, 2) ∧ decode cX6_ordersWith 25 = .ok (.iload 5, 2) ∧ decode cX6_ordersWith 27 = .ok (.iconst 1, 1) ∧ decode cX6_ordersWith 28 = .ok (.aload_n 0, 1) ∧ decode cX6_ordersWith 29 = .ok (.getfield 36, 3) ∧ decode cX6_ordersWith 32 = .ok (.ishl, 1) ∧ decode cX6_ordersWith 33 = .ok (.if_icmp .ge 62, 3) ∧ decode cX6_ordersWith 36 = .ok (.aload_n 0, 1) ∧ decode cX6_ordersWith 37 = .ok (.getfield 18, 3) := by decide +kernel
theorem dX6_ordersWith_20 : decode cX6_ordersWith 20 = .ok (.lconst 0, 1) := dq_257.1
theorem dX6_ordersWith_21 : decode cX6_ordersWith 21 = .ok (.lstore_n 3, 1) := dq_257.2.1
theorem dX6_ordersWith_22 : decode cX6_ordersWith 22 = .ok (.iconst 0, 1) := dq_257.2.2.1
theorem dX6_ordersWith_23 : decode cX6_ordersWith 23 = .ok (.istore 5, 2) := dq_257.2.2.2.1
theorem dX6_ordersWith_25 : decode cX6_ordersWith 25 = .ok (.iload 5, 2) := dq_257.2.2.2.2.1
theorem dX6_ordersWith_27 : decode cX6_ordersWith 27 = .ok (.iconst 1, 1) := dq_257.2.2.2.2.2.1
theorem dX6_ordersWith_28 : decode cX6_ordersWith 28 = .ok (.aload_n 0, 1) := dq_257.2.2.2.2.2.2.1
theorem dX6_ordersWith_29 : decode cX6_ordersWith 29 = .ok (.getfield 36, 3) := dq_257.2.2.2.2.2.2.2.1
theorem dX6_ordersWith_32 : decode cX6_ordersWith 32 = .ok (.ishl, 1) := dq_257.2.2.2.2.2.2.2.2.1
theorem dX6_ordersWith_33 : decode cX6_ordersWith 33 = .ok (.if_icmp .ge 62, 3) := dq_257.2.2.2.2.2.2.2.2.2.1
theorem dX6_ordersWith_36 : decode cX6_ordersWith 36 = .ok (.aload_n 0, 1) := dq_257.2.2.2.2.2.2.2.2.2.2.1
theorem dX6_ordersWith_37 : decode cX6_ordersWith 37 = .ok (.getfield 18, 3) := dq_257.2.2.2.2.2.2.2.2.2.2.2
theorem dq_258 : decode cX6_ordersWith 40 = .ok (.iload 5, 2) ∧ decode cX6_ordersWith 42 = .ok (.iaload, 1) ∧ decode cX6_ordersWith 43 = .ok (.ifCond .le 46, 3) ∧ decode cX6_ordersWith 46 = .ok (.iload 5, 2) ∧ decode cX6_ordersWith 48 = .ok (.iload_n 1, 1) ∧ decode cX6_ordersWith 49 = .ok (.invokestatic 42, 3) ∧ decode cX6_ordersWith 52 = .ok (.ifCond .eq 37, 3) ∧ decode cX6_ordersWith 55 = .ok (.aload_n 0, 1) ∧ decode cX6_ordersWith 56 = .ok (.iload 5, 2) ∧ decode cX6_ordersWith 58 = .ok (.iload_n 2, 1) ∧ decode cX6_ordersWith 59 = .ok (.invokevirtual 60, 3) ∧ decode cX6_ordersWith 62 = .ok (.ifCond .eq 27, 3) := by decide +kernel
theorem dX6_ordersWith_40 : decode cX6_ordersWith 40 = .ok (.iload 5, 2) := dq_258.1
theorem dX6_ordersWith_42 : decode cX6_ordersWith 42 = .ok (.iaload, 1) := dq_258.2.1
theorem dX6_ordersWith_43 : decode cX6_ordersWith 43 = .ok (.ifCond .le 46, 3) := dq_258.2.2.1
theorem dX6_ordersWith_46 : decode cX6_ordersWith 46 = .ok (.iload 5, 2) := dq_258.2.2.2.1
theorem dX6_ordersWith_48 : decode cX6_ordersWith 48 = .ok (.iload_n 1, 1) := dq_258.2.2.2.2.1
theorem dX6_ordersWith_49 : decode cX6_ordersWith 49 = .ok (.invokestatic 42, 3) := dq_258.2.2.2.2.2.1
theorem dX6_ordersWith_52 : decode cX6_ordersWith 52 = .ok (.ifCond .eq 37, 3) := dq_258.2.2.2.2.2.2.1
theorem dX6_ordersWith_55 : decode cX6_ordersWith 55 = .ok (.aload_n 0, 1) := dq_258.2.2.2.2.2.2.2.1
theorem dX6_ordersWith_56 : decode cX6_ordersWith 56 = .ok (.iload 5, 2) := dq_258.2.2.2.2.2.2.2.2.1
theorem dX6_ordersWith_58 : decode cX6_ordersWith 58 = .ok (.iload_n 2, 1) := dq_258.2.2.2.2.2.2.2.2.2.1
theorem dX6_ordersWith_59 : decode cX6_ordersWith 59 = .ok (.invokevirtual 60, 3) := dq_258.2.2.2.2.2.2.2.2.2.2.1
theorem dX6_ordersWith_62 : decode cX6_ordersWith 62 = .ok (.ifCond .eq 27, 3) := dq_258.2.2.2.2.2.2.2.2.2.2.2
theorem dq_259 : decode cX6_ordersWith 65 = .ok (.lload_n 3, 1) ∧ decode cX6_ordersWith 66 = .ok (.aload_n 0, 1) ∧ decode cX6_ordersWith 67 = .ok (.getfield 18, 3) ∧ decode cX6_ordersWith 70 = .ok (.iload 5, 2) ∧ decode cX6_ordersWith 72 = .ok (.iaload, 1) ∧ decode cX6_ordersWith 73 = .ok (.i2l, 1) ∧ decode cX6_ordersWith 74 = .ok (.aload_n 0, 1) ∧ decode cX6_ordersWith 75 = .ok (.getfield 21, 3) ∧ decode cX6_ordersWith 78 = .ok (.iload 5, 2) ∧ decode cX6_ordersWith 80 = .ok (.iconst 1, 1) ∧ decode cX6_ordersWith 81 = .ok (.iload_n 2, 1) ∧ decode cX6_ordersWith 82 = .ok (.ishl, 1) := by decide +kernel
theorem dX6_ordersWith_65 : decode cX6_ordersWith 65 = .ok (.lload_n 3, 1) := dq_259.1
theorem dX6_ordersWith_66 : decode cX6_ordersWith 66 = .ok (.aload_n 0, 1) := dq_259.2.1
theorem dX6_ordersWith_67 : decode cX6_ordersWith 67 = .ok (.getfield 18, 3) := dq_259.2.2.1
theorem dX6_ordersWith_70 : decode cX6_ordersWith 70 = .ok (.iload 5, 2) := dq_259.2.2.2.1
theorem dX6_ordersWith_72 : decode cX6_ordersWith 72 = .ok (.iaload, 1) := dq_259.2.2.2.2.1
theorem dX6_ordersWith_73 : decode cX6_ordersWith 73 = .ok (.i2l, 1) := dq_259.2.2.2.2.2.1
theorem dX6_ordersWith_74 : decode cX6_ordersWith 74 = .ok (.aload_n 0, 1) := dq_259.2.2.2.2.2.2.1
theorem dX6_ordersWith_75 : decode cX6_ordersWith 75 = .ok (.getfield 21, 3) := dq_259.2.2.2.2.2.2.2.1
theorem dX6_ordersWith_78 : decode cX6_ordersWith 78 = .ok (.iload 5, 2) := dq_259.2.2.2.2.2.2.2.2.1
theorem dX6_ordersWith_80 : decode cX6_ordersWith 80 = .ok (.iconst 1, 1) := dq_259.2.2.2.2.2.2.2.2.2.1
theorem dX6_ordersWith_81 : decode cX6_ordersWith 81 = .ok (.iload_n 2, 1) := dq_259.2.2.2.2.2.2.2.2.2.2.1
theorem dX6_ordersWith_82 : decode cX6_ordersWith 82 = .ok (.ishl, 1) := dq_259.2.2.2.2.2.2.2.2.2.2.2
theorem dq_260 : decode cX6_ordersWith 83 = .ok (.ior, 1) ∧ decode cX6_ordersWith 84 = .ok (.iaload, 1) ∧ decode cX6_ordersWith 85 = .ok (.i2l, 1) ∧ decode cX6_ordersWith 86 = .ok (.lmul, 1) ∧ decode cX6_ordersWith 87 = .ok (.ladd, 1) ∧ decode cX6_ordersWith 88 = .ok (.lstore_n 3, 1) ∧ decode cX6_ordersWith 89 = .ok (.iinc 5 1, 3) ∧ decode cX6_ordersWith 92 = .ok (.goto (-67), 3) ∧ decode cX6_ordersWith 95 = .ok (.lload_n 3, 1) ∧ decode cX6_ordersWith 96 = .ok (.lreturn, 1) := by decide +kernel
theorem dX6_ordersWith_83 : decode cX6_ordersWith 83 = .ok (.ior, 1) := dq_260.1
theorem dX6_ordersWith_84 : decode cX6_ordersWith 84 = .ok (.iaload, 1) := dq_260.2.1
theorem dX6_ordersWith_85 : decode cX6_ordersWith 85 = .ok (.i2l, 1) := dq_260.2.2.1
theorem dX6_ordersWith_86 : decode cX6_ordersWith 86 = .ok (.lmul, 1) := dq_260.2.2.2.1
theorem dX6_ordersWith_87 : decode cX6_ordersWith 87 = .ok (.ladd, 1) := dq_260.2.2.2.2.1
theorem dX6_ordersWith_88 : decode cX6_ordersWith 88 = .ok (.lstore_n 3, 1) := dq_260.2.2.2.2.2.1
theorem dX6_ordersWith_89 : decode cX6_ordersWith 89 = .ok (.iinc 5 1, 3) := dq_260.2.2.2.2.2.2.1
theorem dX6_ordersWith_92 : decode cX6_ordersWith 92 = .ok (.goto (-67), 3) := dq_260.2.2.2.2.2.2.2.1
theorem dX6_ordersWith_95 : decode cX6_ordersWith 95 = .ok (.lload_n 3, 1) := dq_260.2.2.2.2.2.2.2.2.1
theorem dX6_ordersWith_96 : decode cX6_ordersWith 96 = .ok (.lreturn, 1) := dq_260.2.2.2.2.2.2.2.2.2
theorem dq_261 : decode cX6_thingAt 0 = .ok (.aload_n 0, 1) ∧ decode cX6_thingAt 1 = .ok (.invokevirtual 63, 3) ∧ decode cX6_thingAt 4 = .ok (.lload_n 1, 1) ∧ decode cX6_thingAt 5 = .ok (.lstore 4, 2) ∧ decode cX6_thingAt 7 = .ok (.iconst 0, 1) ∧ decode cX6_thingAt 8 = .ok (.istore 6, 2) ∧ decode cX6_thingAt 10 = .ok (.iconst (-1), 1) ∧ decode cX6_thingAt 11 = .ok (.istore 7, 2) ∧ decode cX6_thingAt 13 = .ok (.iconst 0, 1) ∧ decode cX6_thingAt 14 = .ok (.istore 8, 2) ∧ decode cX6_thingAt 16 = .ok (.iload 8, 2) ∧ decode cX6_thingAt 18 = .ok (.iload_n 3, 1) := by decide +kernel
theorem dX6_thingAt_0 : decode cX6_thingAt 0 = .ok (.aload_n 0, 1) := dq_261.1
theorem dX6_thingAt_1 : decode cX6_thingAt 1 = .ok (.invokevirtual 63, 3) := dq_261.2.1
theorem dX6_thingAt_4 : decode cX6_thingAt 4 = .ok (.lload_n 1, 1) := dq_261.2.2.1
theorem dX6_thingAt_5 : decode cX6_thingAt 5 = .ok (.lstore 4, 2) := dq_261.2.2.2.1
theorem dX6_thingAt_7 : decode cX6_thingAt 7 = .ok (.iconst 0, 1) := dq_261.2.2.2.2.1
theorem dX6_thingAt_8 : decode cX6_thingAt 8 = .ok (.istore 6, 2) := dq_261.2.2.2.2.2.1
theorem dX6_thingAt_10 : decode cX6_thingAt 10 = .ok (.iconst (-1), 1) := dq_261.2.2.2.2.2.2.1
theorem dX6_thingAt_11 : decode cX6_thingAt 11 = .ok (.istore 7, 2) := dq_261.2.2.2.2.2.2.2.1
theorem dX6_thingAt_13 : decode cX6_thingAt 13 = .ok (.iconst 0, 1) := dq_261.2.2.2.2.2.2.2.2.1
theorem dX6_thingAt_14 : decode cX6_thingAt 14 = .ok (.istore 8, 2) := dq_261.2.2.2.2.2.2.2.2.2.1
theorem dX6_thingAt_16 : decode cX6_thingAt 16 = .ok (.iload 8, 2) := dq_261.2.2.2.2.2.2.2.2.2.2.1
theorem dX6_thingAt_18 : decode cX6_thingAt 18 = .ok (.iload_n 3, 1) := dq_261.2.2.2.2.2.2.2.2.2.2.2
theorem dq_262 : decode cX6_thingAt 19 = .ok (.if_icmp .gt 109, 3) ∧ decode cX6_thingAt 22 = .ok (.iload 8, 2) ∧ decode cX6_thingAt 24 = .ok (.aload_n 0, 1) ∧ decode cX6_thingAt 25 = .ok (.getfield 36, 3) ∧ decode cX6_thingAt 28 = .ok (.if_icmp .ge 100, 3) ∧ decode cX6_thingAt 31 = .ok (.iconst (-1), 1) ∧ decode cX6_thingAt 32 = .ok (.istore 7, 2) ∧ decode cX6_thingAt 34 = .ok (.iconst 0, 1) ∧ decode cX6_thingAt 35 = .ok (.istore 9, 2) ∧ decode cX6_thingAt 37 = .ok (.iload 9, 2) ∧ decode cX6_thingAt 39 = .ok (.aload_n 0, 1) ∧ decode cX6_thingAt 40 = .ok (.getfield 36, 3) := by decide +kernel
theorem dX6_thingAt_19 : decode cX6_thingAt 19 = .ok (.if_icmp .gt 109, 3) := dq_262.1
theorem dX6_thingAt_22 : decode cX6_thingAt 22 = .ok (.iload 8, 2) := dq_262.2.1
theorem dX6_thingAt_24 : decode cX6_thingAt 24 = .ok (.aload_n 0, 1) := dq_262.2.2.1
theorem dX6_thingAt_25 : decode cX6_thingAt 25 = .ok (.getfield 36, 3) := dq_262.2.2.2.1
theorem dX6_thingAt_28 : decode cX6_thingAt 28 = .ok (.if_icmp .ge 100, 3) := dq_262.2.2.2.2.1
theorem dX6_thingAt_31 : decode cX6_thingAt 31 = .ok (.iconst (-1), 1) := dq_262.2.2.2.2.2.1
theorem dX6_thingAt_32 : decode cX6_thingAt 32 = .ok (.istore 7, 2) := dq_262.2.2.2.2.2.2.1
theorem dX6_thingAt_34 : decode cX6_thingAt 34 = .ok (.iconst 0, 1) := dq_262.2.2.2.2.2.2.2.1
theorem dX6_thingAt_35 : decode cX6_thingAt 35 = .ok (.istore 9, 2) := dq_262.2.2.2.2.2.2.2.2.1
theorem dX6_thingAt_37 : decode cX6_thingAt 37 = .ok (.iload 9, 2) := dq_262.2.2.2.2.2.2.2.2.2.1
theorem dX6_thingAt_39 : decode cX6_thingAt 39 = .ok (.aload_n 0, 1) := dq_262.2.2.2.2.2.2.2.2.2.2.1
theorem dX6_thingAt_40 : decode cX6_thingAt 40 = .ok (.getfield 36, 3) := dq_262.2.2.2.2.2.2.2.2.2.2.2
theorem dq_263 : decode cX6_thingAt 43 = .ok (.if_icmp .ge 63, 3) ∧ decode cX6_thingAt 46 = .ok (.iload 7, 2) ∧ decode cX6_thingAt 48 = .ok (.ifCond .ge 58, 3) ∧ decode cX6_thingAt 51 = .ok (.aload_n 0, 1) ∧ decode cX6_thingAt 52 = .ok (.iload 6, 2) ∧ decode cX6_thingAt 54 = .ok (.iload 9, 2) ∧ decode cX6_thingAt 56 = .ok (.invokevirtual 60, 3) ∧ decode cX6_thingAt 59 = .ok (.ifCond .eq 41, 3) ∧ decode cX6_thingAt 62 = .ok (.aload_n 0, 1) ∧ decode cX6_thingAt 63 = .ok (.getfield 21, 3) ∧ decode cX6_thingAt 66 = .ok (.iload 6, 2) ∧ decode cX6_thingAt 68 = .ok (.iconst 1, 1) := by decide +kernel
theorem dX6_thingAt_43 : decode cX6_thingAt 43 = .ok (.if_icmp .ge 63, 3) := dq_263.1
theorem dX6_thingAt_46 : decode cX6_thingAt 46 = .ok (.iload 7, 2) := dq_263.2.1
theorem dX6_thingAt_48 : decode cX6_thingAt 48 = .ok (.ifCond .ge 58, 3) := dq_263.2.2.1
theorem dX6_thingAt_51 : decode cX6_thingAt 51 = .ok (.aload_n 0, 1) := dq_263.2.2.2.1
theorem dX6_thingAt_52 : decode cX6_thingAt 52 = .ok (.iload 6, 2) := dq_263.2.2.2.2.1
theorem dX6_thingAt_54 : decode cX6_thingAt 54 = .ok (.iload 9, 2) := dq_263.2.2.2.2.2.1
theorem dX6_thingAt_56 : decode cX6_thingAt 56 = .ok (.invokevirtual 60, 3) := dq_263.2.2.2.2.2.2.1
theorem dX6_thingAt_59 : decode cX6_thingAt 59 = .ok (.ifCond .eq 41, 3) := dq_263.2.2.2.2.2.2.2.1
theorem dX6_thingAt_62 : decode cX6_thingAt 62 = .ok (.aload_n 0, 1) := dq_263.2.2.2.2.2.2.2.2.1
theorem dX6_thingAt_63 : decode cX6_thingAt 63 = .ok (.getfield 21, 3) := dq_263.2.2.2.2.2.2.2.2.2.1
theorem dX6_thingAt_66 : decode cX6_thingAt 66 = .ok (.iload 6, 2) := dq_263.2.2.2.2.2.2.2.2.2.2.1
theorem dX6_thingAt_68 : decode cX6_thingAt 68 = .ok (.iconst 1, 1) := dq_263.2.2.2.2.2.2.2.2.2.2.2
theorem dq_264 : decode cX6_thingAt 69 = .ok (.iload 9, 2) ∧ decode cX6_thingAt 71 = .ok (.ishl, 1) ∧ decode cX6_thingAt 72 = .ok (.ior, 1) ∧ decode cX6_thingAt 73 = .ok (.iaload, 1) ∧ decode cX6_thingAt 74 = .ok (.istore 10, 2) ∧ decode cX6_thingAt 76 = .ok (.lload 4, 2) ∧ decode cX6_thingAt 78 = .ok (.iload 10, 2) ∧ decode cX6_thingAt 80 = .ok (.i2l, 1) ∧ decode cX6_thingAt 81 = .ok (.lcmp, 1) ∧ decode cX6_thingAt 82 = .ok (.ifCond .ge 10, 3) ∧ decode cX6_thingAt 85 = .ok (.iload 9, 2) ∧ decode cX6_thingAt 87 = .ok (.istore 7, 2) := by decide +kernel
theorem dX6_thingAt_69 : decode cX6_thingAt 69 = .ok (.iload 9, 2) := dq_264.1
theorem dX6_thingAt_71 : decode cX6_thingAt 71 = .ok (.ishl, 1) := dq_264.2.1
theorem dX6_thingAt_72 : decode cX6_thingAt 72 = .ok (.ior, 1) := dq_264.2.2.1
theorem dX6_thingAt_73 : decode cX6_thingAt 73 = .ok (.iaload, 1) := dq_264.2.2.2.1
theorem dX6_thingAt_74 : decode cX6_thingAt 74 = .ok (.istore 10, 2) := dq_264.2.2.2.2.1
theorem dX6_thingAt_76 : decode cX6_thingAt 76 = .ok (.lload 4, 2) := dq_264.2.2.2.2.2.1
theorem dX6_thingAt_78 : decode cX6_thingAt 78 = .ok (.iload 10, 2) := dq_264.2.2.2.2.2.2.1
theorem dX6_thingAt_80 : decode cX6_thingAt 80 = .ok (.i2l, 1) := dq_264.2.2.2.2.2.2.2.1
theorem dX6_thingAt_81 : decode cX6_thingAt 81 = .ok (.lcmp, 1) := dq_264.2.2.2.2.2.2.2.2.1
theorem dX6_thingAt_82 : decode cX6_thingAt 82 = .ok (.ifCond .ge 10, 3) := dq_264.2.2.2.2.2.2.2.2.2.1
theorem dX6_thingAt_85 : decode cX6_thingAt 85 = .ok (.iload 9, 2) := dq_264.2.2.2.2.2.2.2.2.2.2.1
theorem dX6_thingAt_87 : decode cX6_thingAt 87 = .ok (.istore 7, 2) := dq_264.2.2.2.2.2.2.2.2.2.2.2
theorem dq_265 : decode cX6_thingAt 89 = .ok (.goto 11, 3) ∧ decode cX6_thingAt 92 = .ok (.lload 4, 2) ∧ decode cX6_thingAt 94 = .ok (.iload 10, 2) ∧ decode cX6_thingAt 96 = .ok (.i2l, 1) ∧ decode cX6_thingAt 97 = .ok (.lsub, 1) ∧ decode cX6_thingAt 98 = .ok (.lstore 4, 2) ∧ decode cX6_thingAt 100 = .ok (.iinc 9 1, 3) ∧ decode cX6_thingAt 103 = .ok (.goto (-66), 3) ∧ decode cX6_thingAt 106 = .ok (.iload 7, 2) ∧ decode cX6_thingAt 108 = .ok (.ifCond .ge 5, 3) ∧ decode cX6_thingAt 111 = .ok (.iconst (-1), 1) ∧ decode cX6_thingAt 112 = .ok (.ireturn, 1) := by decide +kernel
theorem dX6_thingAt_89 : decode cX6_thingAt 89 = .ok (.goto 11, 3) := dq_265.1
theorem dX6_thingAt_92 : decode cX6_thingAt 92 = .ok (.lload 4, 2) := dq_265.2.1
theorem dX6_thingAt_94 : decode cX6_thingAt 94 = .ok (.iload 10, 2) := dq_265.2.2.1
theorem dX6_thingAt_96 : decode cX6_thingAt 96 = .ok (.i2l, 1) := dq_265.2.2.2.1
theorem dX6_thingAt_97 : decode cX6_thingAt 97 = .ok (.lsub, 1) := dq_265.2.2.2.2.1
theorem dX6_thingAt_98 : decode cX6_thingAt 98 = .ok (.lstore 4, 2) := dq_265.2.2.2.2.2.1
theorem dX6_thingAt_100 : decode cX6_thingAt 100 = .ok (.iinc 9 1, 3) := dq_265.2.2.2.2.2.2.1
theorem dX6_thingAt_103 : decode cX6_thingAt 103 = .ok (.goto (-66), 3) := dq_265.2.2.2.2.2.2.2.1
theorem dX6_thingAt_106 : decode cX6_thingAt 106 = .ok (.iload 7, 2) := dq_265.2.2.2.2.2.2.2.2.1
theorem dX6_thingAt_108 : decode cX6_thingAt 108 = .ok (.ifCond .ge 5, 3) := dq_265.2.2.2.2.2.2.2.2.2.1
theorem dX6_thingAt_111 : decode cX6_thingAt 111 = .ok (.iconst (-1), 1) := dq_265.2.2.2.2.2.2.2.2.2.2.1
theorem dX6_thingAt_112 : decode cX6_thingAt 112 = .ok (.ireturn, 1) := dq_265.2.2.2.2.2.2.2.2.2.2.2
theorem dq_266 : decode cX6_thingAt 113 = .ok (.iload 6, 2) ∧ decode cX6_thingAt 115 = .ok (.iconst 1, 1) ∧ decode cX6_thingAt 116 = .ok (.iload 7, 2) ∧ decode cX6_thingAt 118 = .ok (.ishl, 1) ∧ decode cX6_thingAt 119 = .ok (.ior, 1) ∧ decode cX6_thingAt 120 = .ok (.istore 6, 2) ∧ decode cX6_thingAt 122 = .ok (.iinc 8 1, 3) ∧ decode cX6_thingAt 125 = .ok (.goto (-109), 3) ∧ decode cX6_thingAt 128 = .ok (.iload 7, 2) ∧ decode cX6_thingAt 130 = .ok (.ireturn, 1) := by decide +kernel
theorem dX6_thingAt_113 : decode cX6_thingAt 113 = .ok (.iload 6, 2) := dq_266.1
theorem dX6_thingAt_115 : decode cX6_thingAt 115 = .ok (.iconst 1, 1) := dq_266.2.1
theorem dX6_thingAt_116 : decode cX6_thingAt 116 = .ok (.iload 7, 2) := dq_266.2.2.1
theorem dX6_thingAt_118 : decode cX6_thingAt 118 = .ok (.ishl, 1) := dq_266.2.2.2.1
theorem dX6_thingAt_119 : decode cX6_thingAt 119 = .ok (.ior, 1) := dq_266.2.2.2.2.1
theorem dX6_thingAt_120 : decode cX6_thingAt 120 = .ok (.istore 6, 2) := dq_266.2.2.2.2.2.1
theorem dX6_thingAt_122 : decode cX6_thingAt 122 = .ok (.iinc 8 1, 3) := dq_266.2.2.2.2.2.2.1
theorem dX6_thingAt_125 : decode cX6_thingAt 125 = .ok (.goto (-109), 3) := dq_266.2.2.2.2.2.2.2.1
theorem dX6_thingAt_128 : decode cX6_thingAt 128 = .ok (.iload 7, 2) := dq_266.2.2.2.2.2.2.2.2.1
theorem dX6_thingAt_130 : decode cX6_thingAt 130 = .ok (.ireturn, 1) := dq_266.2.2.2.2.2.2.2.2.2
theorem dq_267 : decode cX7_init 0 = .ok (.aload_n 0, 1) ∧ decode cX7_init 1 = .ok (.invokespecial 3, 3) ∧ decode cX7_init 4 = .ok (.aload_n 0, 1) ∧ decode cX7_init 5 = .ok (.bipush 64, 2) ∧ decode cX7_init 7 = .ok (.newarray .int, 2) ∧ decode cX7_init 9 = .ok (.putfield 9, 3) ∧ decode cX7_init 12 = .ok (.return_, 1) := by decide +kernel
theorem dX7_init_0 : decode cX7_init 0 = .ok (.aload_n 0, 1) := dq_267.1
theorem dX7_init_1 : decode cX7_init 1 = .ok (.invokespecial 3, 3) := dq_267.2.1
theorem dX7_init_4 : decode cX7_init 4 = .ok (.aload_n 0, 1) := dq_267.2.2.1
theorem dX7_init_5 : decode cX7_init 5 = .ok (.bipush 64, 2) := dq_267.2.2.2.1
theorem dX7_init_7 : decode cX7_init 7 = .ok (.newarray .int, 2) := dq_267.2.2.2.2.1
theorem dX7_init_9 : decode cX7_init 9 = .ok (.putfield 9, 3) := dq_267.2.2.2.2.2.1
theorem dX7_init_12 : decode cX7_init 12 = .ok (.return_, 1) := dq_267.2.2.2.2.2.2
theorem dq_268 : decode cX7_isLane 0 = .ok (.iload_n 0, 1) ∧ decode cX7_isLane 1 = .ok (.iconst 0, 1) ∧ decode cX7_isLane 2 = .ok (.iconst 2, 1) ∧ decode cX7_isLane 3 = .ok (.invokestatic 15, 3) ∧ decode cX7_isLane 6 = .ok (.ireturn, 1) := by decide +kernel
theorem dX7_isLane_0 : decode cX7_isLane 0 = .ok (.iload_n 0, 1) := dq_268.1
theorem dX7_isLane_1 : decode cX7_isLane 1 = .ok (.iconst 0, 1) := dq_268.2.1
theorem dX7_isLane_2 : decode cX7_isLane 2 = .ok (.iconst 2, 1) := dq_268.2.2.1
theorem dX7_isLane_3 : decode cX7_isLane 3 = .ok (.invokestatic 15, 3) := dq_268.2.2.2.1
theorem dX7_isLane_6 : decode cX7_isLane 6 = .ok (.ireturn, 1) := dq_268.2.2.2.2
theorem dq_269 : decode cX7_isThere 0 = .ok (.aload_n 0, 1) ∧ decode cX7_isThere 1 = .ok (.getfield 19, 3) ∧ decode cX7_isThere 4 = .ok (.ireturn, 1) := by decide +kernel
theorem dX7_isThere_0 : decode cX7_isThere 0 = .ok (.aload_n 0, 1) := dq_269.1
theorem dX7_isThere_1 : decode cX7_isThere 1 = .ok (.getfield 19, 3) := dq_269.2.1
theorem dX7_isThere_4 : decode cX7_isThere 4 = .ok (.ireturn, 1) := dq_269.2.2
theorem dq_270 : decode cX7_length 0 = .ok (.aload_n 0, 1) ∧ decode cX7_length 1 = .ok (.getfield 23, 3) ∧ decode cX7_length 4 = .ok (.ireturn, 1) := by decide +kernel
theorem dX7_length_0 : decode cX7_length 0 = .ok (.aload_n 0, 1) := dq_270.1
theorem dX7_length_1 : decode cX7_length 1 = .ok (.getfield 23, 3) := dq_270.2.1
theorem dX7_length_4 : decode cX7_length 4 = .ok (.ireturn, 1) := dq_270.2.2
theorem dq_271 : decode cX7_renew 0 = .ok (.aload_n 0, 1) ∧ decode cX7_renew 1 = .ok (.getfield 9, 3) ∧ decode cX7_renew 4 = .ok (.iconst 0, 1) ∧ decode cX7_renew 5 = .ok (.invokestatic 27, 3) ∧ decode cX7_renew 8 = .ok (.aload_n 0, 1) ∧ decode cX7_renew 9 = .ok (.iconst 1, 1) ∧ decode cX7_renew 10 = .ok (.putfield 19, 3) ∧ decode cX7_renew 13 = .ok (.aload_n 0, 1) ∧ decode cX7_renew 14 = .ok (.iload_n 1, 1) ∧ decode cX7_renew 15 = .ok (.putfield 33, 3) ∧ decode cX7_renew 18 = .ok (.aload_n 0, 1) ∧ decode cX7_renew 19 = .ok (.iconst 0, 1) := by decide +kernel
theorem dX7_renew_0 : decode cX7_renew 0 = .ok (.aload_n 0, 1) := dq_271.1
theorem dX7_renew_1 : decode cX7_renew 1 = .ok (.getfield 9, 3) := dq_271.2.1
theorem dX7_renew_4 : decode cX7_renew 4 = .ok (.iconst 0, 1) := dq_271.2.2.1
theorem dX7_renew_5 : decode cX7_renew 5 = .ok (.invokestatic 27, 3) := dq_271.2.2.2.1
theorem dX7_renew_8 : decode cX7_renew 8 = .ok (.aload_n 0, 1) := dq_271.2.2.2.2.1
theorem dX7_renew_9 : decode cX7_renew 9 = .ok (.iconst 1, 1) := dq_271.2.2.2.2.2.1
theorem dX7_renew_10 : decode cX7_renew 10 = .ok (.putfield 19, 3) := dq_271.2.2.2.2.2.2.1
theorem dX7_renew_13 : decode cX7_renew 13 = .ok (.aload_n 0, 1) := dq_271.2.2.2.2.2.2.2.1
theorem dX7_renew_14 : decode cX7_renew 14 = .ok (.iload_n 1, 1) := dq_271.2.2.2.2.2.2.2.2.1
theorem dX7_renew_15 : decode cX7_renew 15 = .ok (.putfield 33, 3) := dq_271.2.2.2.2.2.2.2.2.2.1
theorem dX7_renew_18 : decode cX7_renew 18 = .ok (.aload_n 0, 1) := dq_271.2.2.2.2.2.2.2.2.2.2.1
theorem dX7_renew_19 : decode cX7_renew 19 = .ok (.iconst 0, 1) := dq_271.2.2.2.2.2.2.2.2.2.2.2
theorem dq_272 : decode cX7_renew 20 = .ok (.iload_n 2, 1) ∧ decode cX7_renew 21 = .ok (.bipush 64, 2) ∧ decode cX7_renew 23 = .ok (.invokestatic 36, 3) ∧ decode cX7_renew 26 = .ok (.invokestatic 42, 3) ∧ decode cX7_renew 29 = .ok (.putfield 23, 3) ∧ decode cX7_renew 32 = .ok (.return_, 1) := by decide +kernel
theorem dX7_renew_20 : decode cX7_renew 20 = .ok (.iload_n 2, 1) := dq_272.1
theorem dX7_renew_21 : decode cX7_renew 21 = .ok (.bipush 64, 2) := dq_272.2.1
theorem dX7_renew_23 : decode cX7_renew 23 = .ok (.invokestatic 36, 3) := dq_272.2.2.1
theorem dX7_renew_26 : decode cX7_renew 26 = .ok (.invokestatic 42, 3) := dq_272.2.2.2.1
theorem dX7_renew_29 : decode cX7_renew 29 = .ok (.putfield 23, 3) := dq_272.2.2.2.2.1
theorem dX7_renew_32 : decode cX7_renew 32 = .ok (.return_, 1) := dq_272.2.2.2.2.2
theorem dq_273 : decode cX7_faultOf 0 = .ok (.aload_n 0, 1) ∧ decode cX7_faultOf 1 = .ok (.getfield 19, 3) ∧ decode cX7_faultOf 4 = .ok (.ifCond .ne 5, 3) ∧ decode cX7_faultOf 7 = .ok (.iconst 1, 1) ∧ decode cX7_faultOf 8 = .ok (.ireturn, 1) ∧ decode cX7_faultOf 9 = .ok (.iload_n 1, 1) ∧ decode cX7_faultOf 10 = .ok (.iconst 0, 1) ∧ decode cX7_faultOf 11 = .ok (.aload_n 0, 1) ∧ decode cX7_faultOf 12 = .ok (.getfield 23, 3) ∧ decode cX7_faultOf 15 = .ok (.iconst 1, 1) ∧ decode cX7_faultOf 16 = .ok (.isub, 1) ∧ decode cX7_faultOf 17 = .ok (.invokestatic 15, 3) := by decide +kernel
theorem dX7_faultOf_0 : decode cX7_faultOf 0 = .ok (.aload_n 0, 1) := dq_273.1
theorem dX7_faultOf_1 : decode cX7_faultOf 1 = .ok (.getfield 19, 3) := dq_273.2.1
theorem dX7_faultOf_4 : decode cX7_faultOf 4 = .ok (.ifCond .ne 5, 3) := dq_273.2.2.1
theorem dX7_faultOf_7 : decode cX7_faultOf 7 = .ok (.iconst 1, 1) := dq_273.2.2.2.1
theorem dX7_faultOf_8 : decode cX7_faultOf 8 = .ok (.ireturn, 1) := dq_273.2.2.2.2.1
theorem dX7_faultOf_9 : decode cX7_faultOf 9 = .ok (.iload_n 1, 1) := dq_273.2.2.2.2.2.1
theorem dX7_faultOf_10 : decode cX7_faultOf 10 = .ok (.iconst 0, 1) := dq_273.2.2.2.2.2.2.1
theorem dX7_faultOf_11 : decode cX7_faultOf 11 = .ok (.aload_n 0, 1) := dq_273.2.2.2.2.2.2.2.1
theorem dX7_faultOf_12 : decode cX7_faultOf 12 = .ok (.getfield 23, 3) := dq_273.2.2.2.2.2.2.2.2.1
theorem dX7_faultOf_15 : decode cX7_faultOf 15 = .ok (.iconst 1, 1) := dq_273.2.2.2.2.2.2.2.2.2.1
theorem dX7_faultOf_16 : decode cX7_faultOf 16 = .ok (.isub, 1) := dq_273.2.2.2.2.2.2.2.2.2.2.1
theorem dX7_faultOf_17 : decode cX7_faultOf 17 = .ok (.invokestatic 15, 3) := dq_273.2.2.2.2.2.2.2.2.2.2.2
theorem dq_274 : decode cX7_faultOf 20 = .ok (.ifCond .eq 7, 3) ∧ decode cX7_faultOf 23 = .ok (.iconst 0, 1) ∧ decode cX7_faultOf 24 = .ok (.goto 4, 3) ∧ decode cX7_faultOf 27 = .ok (.iconst 2, 1) ∧ decode cX7_faultOf 28 = .ok (.ireturn, 1) := by decide +kernel
theorem dX7_faultOf_20 : decode cX7_faultOf 20 = .ok (.ifCond .eq 7, 3) := dq_274.1
theorem dX7_faultOf_23 : decode cX7_faultOf 23 = .ok (.iconst 0, 1) := dq_274.2.1
theorem dX7_faultOf_24 : decode cX7_faultOf 24 = .ok (.goto 4, 3) := dq_274.2.2.1
theorem dX7_faultOf_27 : decode cX7_faultOf 27 = .ok (.iconst 2, 1) := dq_274.2.2.2.1
theorem dX7_faultOf_28 : decode cX7_faultOf 28 = .ok (.ireturn, 1) := dq_274.2.2.2.2
theorem dq_275 : decode cX7_faultAs 0 = .ok (.aload_n 0, 1) ∧ decode cX7_faultAs 1 = .ok (.getfield 19, 3) ∧ decode cX7_faultAs 4 = .ok (.ifCond .eq 15, 3) ∧ decode cX7_faultAs 7 = .ok (.aload_n 0, 1) ∧ decode cX7_faultAs 8 = .ok (.getfield 33, 3) ∧ decode cX7_faultAs 11 = .ok (.iload_n 1, 1) ∧ decode cX7_faultAs 12 = .ok (.if_icmp .eq 7, 3) ∧ decode cX7_faultAs 15 = .ok (.iconst 3, 1) ∧ decode cX7_faultAs 16 = .ok (.goto 8, 3) ∧ decode cX7_faultAs 19 = .ok (.aload_n 0, 1) ∧ decode cX7_faultAs 20 = .ok (.iload_n 2, 1) ∧ decode cX7_faultAs 21 = .ok (.invokevirtual 45, 3) := by decide +kernel
theorem dX7_faultAs_0 : decode cX7_faultAs 0 = .ok (.aload_n 0, 1) := dq_275.1
theorem dX7_faultAs_1 : decode cX7_faultAs 1 = .ok (.getfield 19, 3) := dq_275.2.1
theorem dX7_faultAs_4 : decode cX7_faultAs 4 = .ok (.ifCond .eq 15, 3) := dq_275.2.2.1
theorem dX7_faultAs_7 : decode cX7_faultAs 7 = .ok (.aload_n 0, 1) := dq_275.2.2.2.1
theorem dX7_faultAs_8 : decode cX7_faultAs 8 = .ok (.getfield 33, 3) := dq_275.2.2.2.2.1
theorem dX7_faultAs_11 : decode cX7_faultAs 11 = .ok (.iload_n 1, 1) := dq_275.2.2.2.2.2.1
theorem dX7_faultAs_12 : decode cX7_faultAs 12 = .ok (.if_icmp .eq 7, 3) := dq_275.2.2.2.2.2.2.1
theorem dX7_faultAs_15 : decode cX7_faultAs 15 = .ok (.iconst 3, 1) := dq_275.2.2.2.2.2.2.2.1
theorem dX7_faultAs_16 : decode cX7_faultAs 16 = .ok (.goto 8, 3) := dq_275.2.2.2.2.2.2.2.2.1
theorem dX7_faultAs_19 : decode cX7_faultAs 19 = .ok (.aload_n 0, 1) := dq_275.2.2.2.2.2.2.2.2.2.1
theorem dX7_faultAs_20 : decode cX7_faultAs 20 = .ok (.iload_n 2, 1) := dq_275.2.2.2.2.2.2.2.2.2.2.1
theorem dX7_faultAs_21 : decode cX7_faultAs 21 = .ok (.invokevirtual 45, 3) := dq_275.2.2.2.2.2.2.2.2.2.2.2
theorem dX7_faultAs_24 : decode cX7_faultAs 24 = .ok (.ireturn, 1) := by decide +kernel
theorem dq_277 : decode cX7_store 0 = .ok (.aload_n 0, 1) ∧ decode cX7_store 1 = .ok (.iload_n 1, 1) ∧ decode cX7_store 2 = .ok (.invokevirtual 45, 3) ∧ decode cX7_store 5 = .ok (.ifCond .ne 35, 3) ∧ decode cX7_store 8 = .ok (.aload_n 0, 1) ∧ decode cX7_store 9 = .ok (.getfield 9, 3) ∧ decode cX7_store 12 = .ok (.iload_n 1, 1) ∧ decode cX7_store 13 = .ok (.aload_n 0, 1) ∧ decode cX7_store 14 = .ok (.getfield 33, 3) ∧ decode cX7_store 17 = .ok (.ifCond .ne 8, 3) ∧ decode cX7_store 20 = .ok (.iload_n 2, 1) ∧ decode cX7_store 21 = .ok (.i2b, 1) := by decide +kernel
theorem dX7_store_0 : decode cX7_store 0 = .ok (.aload_n 0, 1) := dq_277.1
theorem dX7_store_1 : decode cX7_store 1 = .ok (.iload_n 1, 1) := dq_277.2.1
theorem dX7_store_2 : decode cX7_store 2 = .ok (.invokevirtual 45, 3) := dq_277.2.2.1
theorem dX7_store_5 : decode cX7_store 5 = .ok (.ifCond .ne 35, 3) := dq_277.2.2.2.1
theorem dX7_store_8 : decode cX7_store 8 = .ok (.aload_n 0, 1) := dq_277.2.2.2.2.1
theorem dX7_store_9 : decode cX7_store 9 = .ok (.getfield 9, 3) := dq_277.2.2.2.2.2.1
theorem dX7_store_12 : decode cX7_store 12 = .ok (.iload_n 1, 1) := dq_277.2.2.2.2.2.2.1
theorem dX7_store_13 : decode cX7_store 13 = .ok (.aload_n 0, 1) := dq_277.2.2.2.2.2.2.2.1
theorem dX7_store_14 : decode cX7_store 14 = .ok (.getfield 33, 3) := dq_277.2.2.2.2.2.2.2.2.1
theorem dX7_store_17 : decode cX7_store 17 = .ok (.ifCond .ne 8, 3) := dq_277.2.2.2.2.2.2.2.2.2.1
theorem dX7_store_20 : decode cX7_store 20 = .ok (.iload_n 2, 1) := dq_277.2.2.2.2.2.2.2.2.2.2.1
theorem dX7_store_21 : decode cX7_store 21 = .ok (.i2b, 1) := dq_277.2.2.2.2.2.2.2.2.2.2.2
theorem dq_278 : decode cX7_store 22 = .ok (.goto 17, 3) ∧ decode cX7_store 25 = .ok (.aload_n 0, 1) ∧ decode cX7_store 26 = .ok (.getfield 33, 3) ∧ decode cX7_store 29 = .ok (.iconst 1, 1) ∧ decode cX7_store 30 = .ok (.if_icmp .ne 8, 3) ∧ decode cX7_store 33 = .ok (.iload_n 2, 1) ∧ decode cX7_store 34 = .ok (.i2s, 1) ∧ decode cX7_store 35 = .ok (.goto 4, 3) ∧ decode cX7_store 38 = .ok (.iload_n 2, 1) ∧ decode cX7_store 39 = .ok (.iastore, 1) ∧ decode cX7_store 40 = .ok (.return_, 1) := by decide +kernel
theorem dX7_store_22 : decode cX7_store 22 = .ok (.goto 17, 3) := dq_278.1
theorem dX7_store_25 : decode cX7_store 25 = .ok (.aload_n 0, 1) := dq_278.2.1
theorem dX7_store_26 : decode cX7_store 26 = .ok (.getfield 33, 3) := dq_278.2.2.1
theorem dX7_store_29 : decode cX7_store 29 = .ok (.iconst 1, 1) := dq_278.2.2.2.1
theorem dX7_store_30 : decode cX7_store 30 = .ok (.if_icmp .ne 8, 3) := dq_278.2.2.2.2.1
theorem dX7_store_33 : decode cX7_store 33 = .ok (.iload_n 2, 1) := dq_278.2.2.2.2.2.1
theorem dX7_store_34 : decode cX7_store 34 = .ok (.i2s, 1) := dq_278.2.2.2.2.2.2.1
theorem dX7_store_35 : decode cX7_store 35 = .ok (.goto 4, 3) := dq_278.2.2.2.2.2.2.2.1
theorem dX7_store_38 : decode cX7_store 38 = .ok (.iload_n 2, 1) := dq_278.2.2.2.2.2.2.2.2.1
theorem dX7_store_39 : decode cX7_store 39 = .ok (.iastore, 1) := dq_278.2.2.2.2.2.2.2.2.2.1
theorem dX7_store_40 : decode cX7_store 40 = .ok (.return_, 1) := dq_278.2.2.2.2.2.2.2.2.2.2
theorem dq_279 : decode cX7_valueAt 0 = .ok (.aload_n 0, 1) ∧ decode cX7_valueAt 1 = .ok (.iload_n 1, 1) ∧ decode cX7_valueAt 2 = .ok (.invokevirtual 45, 3) ∧ decode cX7_valueAt 5 = .ok (.ifCond .ne 12, 3) ∧ decode cX7_valueAt 8 = .ok (.aload_n 0, 1) ∧ decode cX7_valueAt 9 = .ok (.getfield 9, 3) ∧ decode cX7_valueAt 12 = .ok (.iload_n 1, 1) ∧ decode cX7_valueAt 13 = .ok (.iaload, 1) ∧ decode cX7_valueAt 14 = .ok (.goto 4, 3) ∧ decode cX7_valueAt 17 = .ok (.iconst (-1), 1) ∧ decode cX7_valueAt 18 = .ok (.ireturn, 1) := by decide +kernel
theorem dX7_valueAt_0 : decode cX7_valueAt 0 = .ok (.aload_n 0, 1) := dq_279.1
theorem dX7_valueAt_1 : decode cX7_valueAt 1 = .ok (.iload_n 1, 1) := dq_279.2.1
theorem dX7_valueAt_2 : decode cX7_valueAt 2 = .ok (.invokevirtual 45, 3) := dq_279.2.2.1
theorem dX7_valueAt_5 : decode cX7_valueAt 5 = .ok (.ifCond .ne 12, 3) := dq_279.2.2.2.1
theorem dX7_valueAt_8 : decode cX7_valueAt 8 = .ok (.aload_n 0, 1) := dq_279.2.2.2.2.1
theorem dX7_valueAt_9 : decode cX7_valueAt 9 = .ok (.getfield 9, 3) := dq_279.2.2.2.2.2.1
theorem dX7_valueAt_12 : decode cX7_valueAt 12 = .ok (.iload_n 1, 1) := dq_279.2.2.2.2.2.2.1
theorem dX7_valueAt_13 : decode cX7_valueAt 13 = .ok (.iaload, 1) := dq_279.2.2.2.2.2.2.2.1
theorem dX7_valueAt_14 : decode cX7_valueAt 14 = .ok (.goto 4, 3) := dq_279.2.2.2.2.2.2.2.2.1
theorem dX7_valueAt_17 : decode cX7_valueAt 17 = .ok (.iconst (-1), 1) := dq_279.2.2.2.2.2.2.2.2.2.1
theorem dX7_valueAt_18 : decode cX7_valueAt 18 = .ok (.ireturn, 1) := dq_279.2.2.2.2.2.2.2.2.2.2
theorem dq_280 : decode cX8_init 0 = .ok (.aload_n 0, 1) ∧ decode cX8_init 1 = .ok (.invokespecial 3, 3) ∧ decode cX8_init 4 = .ok (.aload_n 0, 1) ∧ decode cX8_init 5 = .ok (.bipush 12, 2) ∧ decode cX8_init 7 = .ok (.newarray .int, 2) ∧ decode cX8_init 9 = .ok (.putfield 9, 3) ∧ decode cX8_init 12 = .ok (.aload_n 0, 1) ∧ decode cX8_init 13 = .ok (.bipush 12, 2) ∧ decode cX8_init 15 = .ok (.newarray .int, 2) ∧ decode cX8_init 17 = .ok (.putfield 15, 3) ∧ decode cX8_init 20 = .ok (.aload_n 0, 1) ∧ decode cX8_init 21 = .ok (.bipush 12, 2) := by decide +kernel
theorem dX8_init_0 : decode cX8_init 0 = .ok (.aload_n 0, 1) := dq_280.1
theorem dX8_init_1 : decode cX8_init 1 = .ok (.invokespecial 3, 3) := dq_280.2.1
theorem dX8_init_4 : decode cX8_init 4 = .ok (.aload_n 0, 1) := dq_280.2.2.1
theorem dX8_init_5 : decode cX8_init 5 = .ok (.bipush 12, 2) := dq_280.2.2.2.1
theorem dX8_init_7 : decode cX8_init 7 = .ok (.newarray .int, 2) := dq_280.2.2.2.2.1
theorem dX8_init_9 : decode cX8_init 9 = .ok (.putfield 9, 3) := dq_280.2.2.2.2.2.1
theorem dX8_init_12 : decode cX8_init 12 = .ok (.aload_n 0, 1) := dq_280.2.2.2.2.2.2.1
theorem dX8_init_13 : decode cX8_init 13 = .ok (.bipush 12, 2) := dq_280.2.2.2.2.2.2.2.1
theorem dX8_init_15 : decode cX8_init 15 = .ok (.newarray .int, 2) := dq_280.2.2.2.2.2.2.2.2.1
theorem dX8_init_17 : decode cX8_init 17 = .ok (.putfield 15, 3) := dq_280.2.2.2.2.2.2.2.2.2.1
theorem dX8_init_20 : decode cX8_init 20 = .ok (.aload_n 0, 1) := dq_280.2.2.2.2.2.2.2.2.2.2.1
theorem dX8_init_21 : decode cX8_init 21 = .ok (.bipush 12, 2) := dq_280.2.2.2.2.2.2.2.2.2.2.2
theorem dq_281 : decode cX8_init 23 = .ok (.newarray .int, 2) ∧ decode cX8_init 25 = .ok (.putfield 18, 3) ∧ decode cX8_init 28 = .ok (.aload_n 0, 1) ∧ decode cX8_init 29 = .ok (.bipush 12, 2) ∧ decode cX8_init 31 = .ok (.newarray .int, 2) ∧ decode cX8_init 33 = .ok (.putfield 21, 3) ∧ decode cX8_init 36 = .ok (.aload_n 0, 1) ∧ decode cX8_init 37 = .ok (.bipush 6, 2) ∧ decode cX8_init 39 = .ok (.newarray .int, 2) ∧ decode cX8_init 41 = .ok (.putfield 24, 3) ∧ decode cX8_init 44 = .ok (.aload_n 0, 1) ∧ decode cX8_init 45 = .ok (.bipush 6, 2) := by decide +kernel
theorem dX8_init_23 : decode cX8_init 23 = .ok (.newarray .int, 2) := dq_281.1
theorem dX8_init_25 : decode cX8_init 25 = .ok (.putfield 18, 3) := dq_281.2.1
theorem dX8_init_28 : decode cX8_init 28 = .ok (.aload_n 0, 1) := dq_281.2.2.1
theorem dX8_init_29 : decode cX8_init 29 = .ok (.bipush 12, 2) := dq_281.2.2.2.1
theorem dX8_init_31 : decode cX8_init 31 = .ok (.newarray .int, 2) := dq_281.2.2.2.2.1
theorem dX8_init_33 : decode cX8_init 33 = .ok (.putfield 21, 3) := dq_281.2.2.2.2.2.1
theorem dX8_init_36 : decode cX8_init 36 = .ok (.aload_n 0, 1) := dq_281.2.2.2.2.2.2.1
theorem dX8_init_37 : decode cX8_init 37 = .ok (.bipush 6, 2) := dq_281.2.2.2.2.2.2.2.1
theorem dX8_init_39 : decode cX8_init 39 = .ok (.newarray .int, 2) := dq_281.2.2.2.2.2.2.2.2.1
theorem dX8_init_41 : decode cX8_init 41 = .ok (.putfield 24, 3) := dq_281.2.2.2.2.2.2.2.2.2.1
theorem dX8_init_44 : decode cX8_init 44 = .ok (.aload_n 0, 1) := dq_281.2.2.2.2.2.2.2.2.2.2.1
theorem dX8_init_45 : decode cX8_init 45 = .ok (.bipush 6, 2) := dq_281.2.2.2.2.2.2.2.2.2.2.2
theorem dq_282 : decode cX8_init 47 = .ok (.newarray .int, 2) ∧ decode cX8_init 49 = .ok (.putfield 27, 3) ∧ decode cX8_init 52 = .ok (.aload_n 0, 1) ∧ decode cX8_init 53 = .ok (.bipush 64, 2) ∧ decode cX8_init 55 = .ok (.newarray .int, 2) ∧ decode cX8_init 57 = .ok (.putfield 30, 3) ∧ decode cX8_init 60 = .ok (.aload_n 0, 1) ∧ decode cX8_init 61 = .ok (.invokevirtual 33, 3) ∧ decode cX8_init 64 = .ok (.return_, 1) := by decide +kernel
theorem dX8_init_47 : decode cX8_init 47 = .ok (.newarray .int, 2) := dq_282.1
theorem dX8_init_49 : decode cX8_init 49 = .ok (.putfield 27, 3) := dq_282.2.1
theorem dX8_init_52 : decode cX8_init 52 = .ok (.aload_n 0, 1) := dq_282.2.2.1
theorem dX8_init_53 : decode cX8_init 53 = .ok (.bipush 64, 2) := dq_282.2.2.2.1
theorem dX8_init_55 : decode cX8_init 55 = .ok (.newarray .int, 2) := dq_282.2.2.2.2.1
theorem dX8_init_57 : decode cX8_init 57 = .ok (.putfield 30, 3) := dq_282.2.2.2.2.2.1
theorem dX8_init_60 : decode cX8_init 60 = .ok (.aload_n 0, 1) := dq_282.2.2.2.2.2.2.1
theorem dX8_init_61 : decode cX8_init 61 = .ok (.invokevirtual 33, 3) := dq_282.2.2.2.2.2.2.2.1
theorem dX8_init_64 : decode cX8_init 64 = .ok (.return_, 1) := dq_282.2.2.2.2.2.2.2.2
theorem dq_283 : decode cX8_clear 0 = .ok (.aload_n 0, 1) ∧ decode cX8_clear 1 = .ok (.getfield 9, 3) ∧ decode cX8_clear 4 = .ok (.iconst 0, 1) ∧ decode cX8_clear 5 = .ok (.invokestatic 36, 3) ∧ decode cX8_clear 8 = .ok (.aload_n 0, 1) ∧ decode cX8_clear 9 = .ok (.getfield 15, 3) ∧ decode cX8_clear 12 = .ok (.iconst 0, 1) ∧ decode cX8_clear 13 = .ok (.invokestatic 36, 3) ∧ decode cX8_clear 16 = .ok (.aload_n 0, 1) ∧ decode cX8_clear 17 = .ok (.getfield 18, 3) ∧ decode cX8_clear 20 = .ok (.iconst 0, 1) ∧ decode cX8_clear 21 = .ok (.invokestatic 36, 3) := by decide +kernel
theorem dX8_clear_0 : decode cX8_clear 0 = .ok (.aload_n 0, 1) := dq_283.1
theorem dX8_clear_1 : decode cX8_clear 1 = .ok (.getfield 9, 3) := dq_283.2.1
theorem dX8_clear_4 : decode cX8_clear 4 = .ok (.iconst 0, 1) := dq_283.2.2.1
theorem dX8_clear_5 : decode cX8_clear 5 = .ok (.invokestatic 36, 3) := dq_283.2.2.2.1
theorem dX8_clear_8 : decode cX8_clear 8 = .ok (.aload_n 0, 1) := dq_283.2.2.2.2.1
theorem dX8_clear_9 : decode cX8_clear 9 = .ok (.getfield 15, 3) := dq_283.2.2.2.2.2.1
theorem dX8_clear_12 : decode cX8_clear 12 = .ok (.iconst 0, 1) := dq_283.2.2.2.2.2.2.1
theorem dX8_clear_13 : decode cX8_clear 13 = .ok (.invokestatic 36, 3) := dq_283.2.2.2.2.2.2.2.1
theorem dX8_clear_16 : decode cX8_clear 16 = .ok (.aload_n 0, 1) := dq_283.2.2.2.2.2.2.2.2.1
theorem dX8_clear_17 : decode cX8_clear 17 = .ok (.getfield 18, 3) := dq_283.2.2.2.2.2.2.2.2.2.1
theorem dX8_clear_20 : decode cX8_clear 20 = .ok (.iconst 0, 1) := dq_283.2.2.2.2.2.2.2.2.2.2.1
theorem dX8_clear_21 : decode cX8_clear 21 = .ok (.invokestatic 36, 3) := dq_283.2.2.2.2.2.2.2.2.2.2.2
theorem dq_284 : decode cX8_clear 24 = .ok (.aload_n 0, 1) ∧ decode cX8_clear 25 = .ok (.getfield 21, 3) ∧ decode cX8_clear 28 = .ok (.iconst 0, 1) ∧ decode cX8_clear 29 = .ok (.invokestatic 36, 3) ∧ decode cX8_clear 32 = .ok (.aload_n 0, 1) ∧ decode cX8_clear 33 = .ok (.getfield 24, 3) ∧ decode cX8_clear 36 = .ok (.iconst 1, 1) ∧ decode cX8_clear 37 = .ok (.invokestatic 36, 3) ∧ decode cX8_clear 40 = .ok (.aload_n 0, 1) ∧ decode cX8_clear 41 = .ok (.getfield 27, 3) ∧ decode cX8_clear 44 = .ok (.bipush 10, 2) ∧ decode cX8_clear 46 = .ok (.invokestatic 36, 3) := by decide +kernel
theorem dX8_clear_24 : decode cX8_clear 24 = .ok (.aload_n 0, 1) := dq_284.1
theorem dX8_clear_25 : decode cX8_clear 25 = .ok (.getfield 21, 3) := dq_284.2.1
theorem dX8_clear_28 : decode cX8_clear 28 = .ok (.iconst 0, 1) := dq_284.2.2.1
theorem dX8_clear_29 : decode cX8_clear 29 = .ok (.invokestatic 36, 3) := dq_284.2.2.2.1
theorem dX8_clear_32 : decode cX8_clear 32 = .ok (.aload_n 0, 1) := dq_284.2.2.2.2.1
theorem dX8_clear_33 : decode cX8_clear 33 = .ok (.getfield 24, 3) := dq_284.2.2.2.2.2.1
theorem dX8_clear_36 : decode cX8_clear 36 = .ok (.iconst 1, 1) := dq_284.2.2.2.2.2.2.1
theorem dX8_clear_37 : decode cX8_clear 37 = .ok (.invokestatic 36, 3) := dq_284.2.2.2.2.2.2.2.1
theorem dX8_clear_40 : decode cX8_clear 40 = .ok (.aload_n 0, 1) := dq_284.2.2.2.2.2.2.2.2.1
theorem dX8_clear_41 : decode cX8_clear 41 = .ok (.getfield 27, 3) := dq_284.2.2.2.2.2.2.2.2.2.1
theorem dX8_clear_44 : decode cX8_clear 44 = .ok (.bipush 10, 2) := dq_284.2.2.2.2.2.2.2.2.2.2.1
theorem dX8_clear_46 : decode cX8_clear 46 = .ok (.invokestatic 36, 3) := dq_284.2.2.2.2.2.2.2.2.2.2.2
theorem dq_285 : decode cX8_clear 49 = .ok (.aload_n 0, 1) ∧ decode cX8_clear 50 = .ok (.getfield 30, 3) ∧ decode cX8_clear 53 = .ok (.iconst (-1), 1) ∧ decode cX8_clear 54 = .ok (.invokestatic 36, 3) ∧ decode cX8_clear 57 = .ok (.aload_n 0, 1) ∧ decode cX8_clear 58 = .ok (.iconst 0, 1) ∧ decode cX8_clear 59 = .ok (.putfield 42, 3) ∧ decode cX8_clear 62 = .ok (.aload_n 0, 1) ∧ decode cX8_clear 63 = .ok (.iconst 0, 1) ∧ decode cX8_clear 64 = .ok (.putfield 46, 3) ∧ decode cX8_clear 67 = .ok (.aload_n 0, 1) ∧ decode cX8_clear 68 = .ok (.bipush 10, 2) := by decide +kernel
theorem dX8_clear_49 : decode cX8_clear 49 = .ok (.aload_n 0, 1) := dq_285.1
theorem dX8_clear_50 : decode cX8_clear 50 = .ok (.getfield 30, 3) := dq_285.2.1
theorem dX8_clear_53 : decode cX8_clear 53 = .ok (.iconst (-1), 1) := dq_285.2.2.1
theorem dX8_clear_54 : decode cX8_clear 54 = .ok (.invokestatic 36, 3) := dq_285.2.2.2.1
theorem dX8_clear_57 : decode cX8_clear 57 = .ok (.aload_n 0, 1) := dq_285.2.2.2.2.1
theorem dX8_clear_58 : decode cX8_clear 58 = .ok (.iconst 0, 1) := dq_285.2.2.2.2.2.1
theorem dX8_clear_59 : decode cX8_clear 59 = .ok (.putfield 42, 3) := dq_285.2.2.2.2.2.2.1
theorem dX8_clear_62 : decode cX8_clear 62 = .ok (.aload_n 0, 1) := dq_285.2.2.2.2.2.2.2.1
theorem dX8_clear_63 : decode cX8_clear 63 = .ok (.iconst 0, 1) := dq_285.2.2.2.2.2.2.2.2.1
theorem dX8_clear_64 : decode cX8_clear 64 = .ok (.putfield 46, 3) := dq_285.2.2.2.2.2.2.2.2.2.1
theorem dX8_clear_67 : decode cX8_clear 67 = .ok (.aload_n 0, 1) := dq_285.2.2.2.2.2.2.2.2.2.2.1
theorem dX8_clear_68 : decode cX8_clear 68 = .ok (.bipush 10, 2) := dq_285.2.2.2.2.2.2.2.2.2.2.2
theorem dq_286 : decode cX8_clear 70 = .ok (.putfield 49, 3) ∧ decode cX8_clear 73 = .ok (.aload_n 0, 1) ∧ decode cX8_clear 74 = .ok (.iconst 0, 1) ∧ decode cX8_clear 75 = .ok (.putfield 52, 3) ∧ decode cX8_clear 78 = .ok (.aload_n 0, 1) ∧ decode cX8_clear 79 = .ok (.iconst 0, 1) ∧ decode cX8_clear 80 = .ok (.putfield 56, 3) ∧ decode cX8_clear 83 = .ok (.return_, 1) := by decide +kernel
theorem dX8_clear_70 : decode cX8_clear 70 = .ok (.putfield 49, 3) := dq_286.1
theorem dX8_clear_73 : decode cX8_clear 73 = .ok (.aload_n 0, 1) := dq_286.2.1
theorem dX8_clear_74 : decode cX8_clear 74 = .ok (.iconst 0, 1) := dq_286.2.2.1
theorem dX8_clear_75 : decode cX8_clear 75 = .ok (.putfield 52, 3) := dq_286.2.2.2.1
theorem dX8_clear_78 : decode cX8_clear 78 = .ok (.aload_n 0, 1) := dq_286.2.2.2.2.1
theorem dX8_clear_79 : decode cX8_clear 79 = .ok (.iconst 0, 1) := dq_286.2.2.2.2.2.1
theorem dX8_clear_80 : decode cX8_clear 80 = .ok (.putfield 56, 3) := dq_286.2.2.2.2.2.2.1
theorem dX8_clear_83 : decode cX8_clear 83 = .ok (.return_, 1) := dq_286.2.2.2.2.2.2.2
theorem dq_287 : decode cX8_things 0 = .ok (.aload_n 0, 1) ∧ decode cX8_things 1 = .ok (.getfield 42, 3) ∧ decode cX8_things 4 = .ok (.ireturn, 1) := by decide +kernel
theorem dX8_things_0 : decode cX8_things 0 = .ok (.aload_n 0, 1) := dq_287.1
theorem dX8_things_1 : decode cX8_things 1 = .ok (.getfield 42, 3) := dq_287.2.1
theorem dX8_things_4 : decode cX8_things 4 = .ok (.ireturn, 1) := dq_287.2.2
theorem dq_288 : decode cX8_patterns 0 = .ok (.aload_n 0, 1) ∧ decode cX8_patterns 1 = .ok (.getfield 46, 3) ∧ decode cX8_patterns 4 = .ok (.ireturn, 1) := by decide +kernel
theorem dX8_patterns_0 : decode cX8_patterns 0 = .ok (.aload_n 0, 1) := dq_288.1
theorem dX8_patterns_1 : decode cX8_patterns 1 = .ok (.getfield 46, 3) := dq_288.2.1
theorem dX8_patterns_4 : decode cX8_patterns 4 = .ok (.ireturn, 1) := dq_288.2.2
theorem dq_289 : decode cX8_apart 0 = .ok (.aload_n 0, 1) ∧ decode cX8_apart 1 = .ok (.getfield 49, 3) ∧ decode cX8_apart 4 = .ok (.ireturn, 1) := by decide +kernel
theorem dX8_apart_0 : decode cX8_apart 0 = .ok (.aload_n 0, 1) := dq_289.1
theorem dX8_apart_1 : decode cX8_apart 1 = .ok (.getfield 49, 3) := dq_289.2.1
theorem dX8_apart_4 : decode cX8_apart 4 = .ok (.ireturn, 1) := dq_289.2.2
theorem dq_290 : decode cX8_apartIsTold 0 = .ok (.aload_n 0, 1) ∧ decode cX8_apartIsTold 1 = .ok (.getfield 52, 3) ∧ decode cX8_apartIsTold 4 = .ok (.ireturn, 1) := by decide +kernel
theorem dX8_apartIsTold_0 : decode cX8_apartIsTold 0 = .ok (.aload_n 0, 1) := dq_290.1
theorem dX8_apartIsTold_1 : decode cX8_apartIsTold 1 = .ok (.getfield 52, 3) := dq_290.2.1
theorem dX8_apartIsTold_4 : decode cX8_apartIsTold 4 = .ok (.ireturn, 1) := dq_290.2.2
theorem dq_291 : decode cX8_hasThing 0 = .ok (.iload_n 1, 1) ∧ decode cX8_hasThing 1 = .ok (.iconst 0, 1) ∧ decode cX8_hasThing 2 = .ok (.aload_n 0, 1) ∧ decode cX8_hasThing 3 = .ok (.getfield 42, 3) ∧ decode cX8_hasThing 6 = .ok (.iconst 1, 1) ∧ decode cX8_hasThing 7 = .ok (.isub, 1) ∧ decode cX8_hasThing 8 = .ok (.invokestatic 59, 3) ∧ decode cX8_hasThing 11 = .ok (.ireturn, 1) := by decide +kernel
theorem dX8_hasThing_0 : decode cX8_hasThing 0 = .ok (.iload_n 1, 1) := dq_291.1
theorem dX8_hasThing_1 : decode cX8_hasThing 1 = .ok (.iconst 0, 1) := dq_291.2.1
theorem dX8_hasThing_2 : decode cX8_hasThing 2 = .ok (.aload_n 0, 1) := dq_291.2.2.1
theorem dX8_hasThing_3 : decode cX8_hasThing 3 = .ok (.getfield 42, 3) := dq_291.2.2.2.1
theorem dX8_hasThing_6 : decode cX8_hasThing 6 = .ok (.iconst 1, 1) := dq_291.2.2.2.2.1
theorem dX8_hasThing_7 : decode cX8_hasThing 7 = .ok (.isub, 1) := dq_291.2.2.2.2.2.1
theorem dX8_hasThing_8 : decode cX8_hasThing 8 = .ok (.invokestatic 59, 3) := dq_291.2.2.2.2.2.2.1
theorem dX8_hasThing_11 : decode cX8_hasThing 11 = .ok (.ireturn, 1) := dq_291.2.2.2.2.2.2.2
theorem dq_292 : decode cX8_isRow 0 = .ok (.aload_n 0, 1) ∧ decode cX8_isRow 1 = .ok (.iload_n 1, 1) ∧ decode cX8_isRow 2 = .ok (.invokevirtual 63, 3) ∧ decode cX8_isRow 5 = .ok (.ifCond .eq 16, 3) ∧ decode cX8_isRow 8 = .ok (.aload_n 0, 1) ∧ decode cX8_isRow 9 = .ok (.getfield 9, 3) ∧ decode cX8_isRow 12 = .ok (.iload_n 1, 1) ∧ decode cX8_isRow 13 = .ok (.iaload, 1) ∧ decode cX8_isRow 14 = .ok (.ifCond .le 7, 3) ∧ decode cX8_isRow 17 = .ok (.iconst 1, 1) ∧ decode cX8_isRow 18 = .ok (.goto 4, 3) ∧ decode cX8_isRow 21 = .ok (.iconst 0, 1) := by decide +kernel
theorem dX8_isRow_0 : decode cX8_isRow 0 = .ok (.aload_n 0, 1) := dq_292.1
theorem dX8_isRow_1 : decode cX8_isRow 1 = .ok (.iload_n 1, 1) := dq_292.2.1
theorem dX8_isRow_2 : decode cX8_isRow 2 = .ok (.invokevirtual 63, 3) := dq_292.2.2.1
theorem dX8_isRow_5 : decode cX8_isRow 5 = .ok (.ifCond .eq 16, 3) := dq_292.2.2.2.1
theorem dX8_isRow_8 : decode cX8_isRow 8 = .ok (.aload_n 0, 1) := dq_292.2.2.2.2.1
theorem dX8_isRow_9 : decode cX8_isRow 9 = .ok (.getfield 9, 3) := dq_292.2.2.2.2.2.1
theorem dX8_isRow_12 : decode cX8_isRow 12 = .ok (.iload_n 1, 1) := dq_292.2.2.2.2.2.2.1
theorem dX8_isRow_13 : decode cX8_isRow 13 = .ok (.iaload, 1) := dq_292.2.2.2.2.2.2.2.1
theorem dX8_isRow_14 : decode cX8_isRow 14 = .ok (.ifCond .le 7, 3) := dq_292.2.2.2.2.2.2.2.2.1
theorem dX8_isRow_17 : decode cX8_isRow 17 = .ok (.iconst 1, 1) := dq_292.2.2.2.2.2.2.2.2.2.1
theorem dX8_isRow_18 : decode cX8_isRow 18 = .ok (.goto 4, 3) := dq_292.2.2.2.2.2.2.2.2.2.2.1
theorem dX8_isRow_21 : decode cX8_isRow 21 = .ok (.iconst 0, 1) := dq_292.2.2.2.2.2.2.2.2.2.2.2
theorem dX8_isRow_22 : decode cX8_isRow 22 = .ok (.ireturn, 1) := by decide +kernel
theorem dq_294 : decode cX8_hasPattern 0 = .ok (.iload_n 1, 1) ∧ decode cX8_hasPattern 1 = .ok (.iconst 0, 1) ∧ decode cX8_hasPattern 2 = .ok (.aload_n 0, 1) ∧ decode cX8_hasPattern 3 = .ok (.getfield 46, 3) ∧ decode cX8_hasPattern 6 = .ok (.iconst 1, 1) ∧ decode cX8_hasPattern 7 = .ok (.isub, 1) ∧ decode cX8_hasPattern 8 = .ok (.invokestatic 59, 3) ∧ decode cX8_hasPattern 11 = .ok (.ireturn, 1) := by decide +kernel
theorem dX8_hasPattern_0 : decode cX8_hasPattern 0 = .ok (.iload_n 1, 1) := dq_294.1
theorem dX8_hasPattern_1 : decode cX8_hasPattern 1 = .ok (.iconst 0, 1) := dq_294.2.1
theorem dX8_hasPattern_2 : decode cX8_hasPattern 2 = .ok (.aload_n 0, 1) := dq_294.2.2.1
theorem dX8_hasPattern_3 : decode cX8_hasPattern 3 = .ok (.getfield 46, 3) := dq_294.2.2.2.1
theorem dX8_hasPattern_6 : decode cX8_hasPattern 6 = .ok (.iconst 1, 1) := dq_294.2.2.2.2.1
theorem dX8_hasPattern_7 : decode cX8_hasPattern 7 = .ok (.isub, 1) := dq_294.2.2.2.2.2.1
theorem dX8_hasPattern_8 : decode cX8_hasPattern 8 = .ok (.invokestatic 59, 3) := dq_294.2.2.2.2.2.2.1
theorem dX8_hasPattern_11 : decode cX8_hasPattern 11 = .ok (.ireturn, 1) := dq_294.2.2.2.2.2.2.2
theorem dq_295 : decode cX8_cubesOf 0 = .ok (.aload_n 0, 1) ∧ decode cX8_cubesOf 1 = .ok (.iload_n 1, 1) ∧ decode cX8_cubesOf 2 = .ok (.invokevirtual 63, 3) ∧ decode cX8_cubesOf 5 = .ok (.ifCond .eq 12, 3) ∧ decode cX8_cubesOf 8 = .ok (.aload_n 0, 1) ∧ decode cX8_cubesOf 9 = .ok (.getfield 9, 3) ∧ decode cX8_cubesOf 12 = .ok (.iload_n 1, 1) ∧ decode cX8_cubesOf 13 = .ok (.iaload, 1) ∧ decode cX8_cubesOf 14 = .ok (.goto 4, 3) ∧ decode cX8_cubesOf 17 = .ok (.iconst 0, 1) ∧ decode cX8_cubesOf 18 = .ok (.ireturn, 1) := by decide +kernel
theorem dX8_cubesOf_0 : decode cX8_cubesOf 0 = .ok (.aload_n 0, 1) := dq_295.1
theorem dX8_cubesOf_1 : decode cX8_cubesOf 1 = .ok (.iload_n 1, 1) := dq_295.2.1
theorem dX8_cubesOf_2 : decode cX8_cubesOf 2 = .ok (.invokevirtual 63, 3) := dq_295.2.2.1
theorem dX8_cubesOf_5 : decode cX8_cubesOf 5 = .ok (.ifCond .eq 12, 3) := dq_295.2.2.2.1
theorem dX8_cubesOf_8 : decode cX8_cubesOf 8 = .ok (.aload_n 0, 1) := dq_295.2.2.2.2.1
theorem dX8_cubesOf_9 : decode cX8_cubesOf 9 = .ok (.getfield 9, 3) := dq_295.2.2.2.2.2.1
theorem dX8_cubesOf_12 : decode cX8_cubesOf 12 = .ok (.iload_n 1, 1) := dq_295.2.2.2.2.2.2.1
theorem dX8_cubesOf_13 : decode cX8_cubesOf 13 = .ok (.iaload, 1) := dq_295.2.2.2.2.2.2.2.1
theorem dX8_cubesOf_14 : decode cX8_cubesOf 14 = .ok (.goto 4, 3) := dq_295.2.2.2.2.2.2.2.2.1
theorem dX8_cubesOf_17 : decode cX8_cubesOf 17 = .ok (.iconst 0, 1) := dq_295.2.2.2.2.2.2.2.2.2.1
theorem dX8_cubesOf_18 : decode cX8_cubesOf 18 = .ok (.ireturn, 1) := dq_295.2.2.2.2.2.2.2.2.2.2
theorem dq_296 : decode cX8_lengthOf 0 = .ok (.aload_n 0, 1) ∧ decode cX8_lengthOf 1 = .ok (.iload_n 1, 1) ∧ decode cX8_lengthOf 2 = .ok (.invokevirtual 63, 3) ∧ decode cX8_lengthOf 5 = .ok (.ifCond .eq 12, 3) ∧ decode cX8_lengthOf 8 = .ok (.aload_n 0, 1) ∧ decode cX8_lengthOf 9 = .ok (.getfield 15, 3) ∧ decode cX8_lengthOf 12 = .ok (.iload_n 1, 1) ∧ decode cX8_lengthOf 13 = .ok (.iaload, 1) ∧ decode cX8_lengthOf 14 = .ok (.goto 4, 3) ∧ decode cX8_lengthOf 17 = .ok (.iconst 0, 1) ∧ decode cX8_lengthOf 18 = .ok (.ireturn, 1) := by decide +kernel
theorem dX8_lengthOf_0 : decode cX8_lengthOf 0 = .ok (.aload_n 0, 1) := dq_296.1
theorem dX8_lengthOf_1 : decode cX8_lengthOf 1 = .ok (.iload_n 1, 1) := dq_296.2.1
theorem dX8_lengthOf_2 : decode cX8_lengthOf 2 = .ok (.invokevirtual 63, 3) := dq_296.2.2.1
theorem dX8_lengthOf_5 : decode cX8_lengthOf 5 = .ok (.ifCond .eq 12, 3) := dq_296.2.2.2.1
theorem dX8_lengthOf_8 : decode cX8_lengthOf 8 = .ok (.aload_n 0, 1) := dq_296.2.2.2.2.1
theorem dX8_lengthOf_9 : decode cX8_lengthOf 9 = .ok (.getfield 15, 3) := dq_296.2.2.2.2.2.1
theorem dX8_lengthOf_12 : decode cX8_lengthOf 12 = .ok (.iload_n 1, 1) := dq_296.2.2.2.2.2.2.1
theorem dX8_lengthOf_13 : decode cX8_lengthOf 13 = .ok (.iaload, 1) := dq_296.2.2.2.2.2.2.2.1
theorem dX8_lengthOf_14 : decode cX8_lengthOf 14 = .ok (.goto 4, 3) := dq_296.2.2.2.2.2.2.2.2.1
theorem dX8_lengthOf_17 : decode cX8_lengthOf 17 = .ok (.iconst 0, 1) := dq_296.2.2.2.2.2.2.2.2.2.1
theorem dX8_lengthOf_18 : decode cX8_lengthOf 18 = .ok (.ireturn, 1) := dq_296.2.2.2.2.2.2.2.2.2.2
theorem dq_297 : decode cX8_laterThan 0 = .ok (.aload_n 0, 1) ∧ decode cX8_laterThan 1 = .ok (.iload_n 1, 1) ∧ decode cX8_laterThan 2 = .ok (.invokevirtual 63, 3) ∧ decode cX8_laterThan 5 = .ok (.ifCond .eq 19, 3) ∧ decode cX8_laterThan 8 = .ok (.aload_n 0, 1) ∧ decode cX8_laterThan 9 = .ok (.getfield 18, 3) ∧ decode cX8_laterThan 12 = .ok (.iload_n 1, 1) ∧ decode cX8_laterThan 13 = .ok (.iaload, 1) ∧ decode cX8_laterThan 14 = .ok (.aload_n 0, 1) ∧ decode cX8_laterThan 15 = .ok (.getfield 21, 3) ∧ decode cX8_laterThan 18 = .ok (.iload_n 1, 1) ∧ decode cX8_laterThan 19 = .ok (.iaload, 1) := by decide +kernel
theorem dX8_laterThan_0 : decode cX8_laterThan 0 = .ok (.aload_n 0, 1) := dq_297.1
theorem dX8_laterThan_1 : decode cX8_laterThan 1 = .ok (.iload_n 1, 1) := dq_297.2.1
theorem dX8_laterThan_2 : decode cX8_laterThan 2 = .ok (.invokevirtual 63, 3) := dq_297.2.2.1
theorem dX8_laterThan_5 : decode cX8_laterThan 5 = .ok (.ifCond .eq 19, 3) := dq_297.2.2.2.1
theorem dX8_laterThan_8 : decode cX8_laterThan 8 = .ok (.aload_n 0, 1) := dq_297.2.2.2.2.1
theorem dX8_laterThan_9 : decode cX8_laterThan 9 = .ok (.getfield 18, 3) := dq_297.2.2.2.2.2.1
theorem dX8_laterThan_12 : decode cX8_laterThan 12 = .ok (.iload_n 1, 1) := dq_297.2.2.2.2.2.2.1
theorem dX8_laterThan_13 : decode cX8_laterThan 13 = .ok (.iaload, 1) := dq_297.2.2.2.2.2.2.2.1
theorem dX8_laterThan_14 : decode cX8_laterThan 14 = .ok (.aload_n 0, 1) := dq_297.2.2.2.2.2.2.2.2.1
theorem dX8_laterThan_15 : decode cX8_laterThan 15 = .ok (.getfield 21, 3) := dq_297.2.2.2.2.2.2.2.2.2.1
theorem dX8_laterThan_18 : decode cX8_laterThan 18 = .ok (.iload_n 1, 1) := dq_297.2.2.2.2.2.2.2.2.2.2.1
theorem dX8_laterThan_19 : decode cX8_laterThan 19 = .ok (.iaload, 1) := dq_297.2.2.2.2.2.2.2.2.2.2.2
theorem dq_298 : decode cX8_laterThan 20 = .ok (.ior, 1) ∧ decode cX8_laterThan 21 = .ok (.goto 4, 3) ∧ decode cX8_laterThan 24 = .ok (.iconst 0, 1) ∧ decode cX8_laterThan 25 = .ok (.ireturn, 1) := by decide +kernel
theorem dX8_laterThan_20 : decode cX8_laterThan 20 = .ok (.ior, 1) := dq_298.1
theorem dX8_laterThan_21 : decode cX8_laterThan 21 = .ok (.goto 4, 3) := dq_298.2.1
theorem dX8_laterThan_24 : decode cX8_laterThan 24 = .ok (.iconst 0, 1) := dq_298.2.2.1
theorem dX8_laterThan_25 : decode cX8_laterThan 25 = .ok (.ireturn, 1) := dq_298.2.2.2
theorem dq_299 : decode cX8_priceOf 0 = .ok (.iload_n 1, 1) ∧ decode cX8_priceOf 1 = .ok (.iconst 0, 1) ∧ decode cX8_priceOf 2 = .ok (.iconst 5, 1) ∧ decode cX8_priceOf 3 = .ok (.invokestatic 59, 3) ∧ decode cX8_priceOf 6 = .ok (.ifCond .eq 12, 3) ∧ decode cX8_priceOf 9 = .ok (.aload_n 0, 1) ∧ decode cX8_priceOf 10 = .ok (.getfield 24, 3) ∧ decode cX8_priceOf 13 = .ok (.iload_n 1, 1) ∧ decode cX8_priceOf 14 = .ok (.iaload, 1) ∧ decode cX8_priceOf 15 = .ok (.goto 4, 3) ∧ decode cX8_priceOf 18 = .ok (.iconst 0, 1) ∧ decode cX8_priceOf 19 = .ok (.ireturn, 1) := by decide +kernel
theorem dX8_priceOf_0 : decode cX8_priceOf 0 = .ok (.iload_n 1, 1) := dq_299.1
theorem dX8_priceOf_1 : decode cX8_priceOf 1 = .ok (.iconst 0, 1) := dq_299.2.1
theorem dX8_priceOf_2 : decode cX8_priceOf 2 = .ok (.iconst 5, 1) := dq_299.2.2.1
theorem dX8_priceOf_3 : decode cX8_priceOf 3 = .ok (.invokestatic 59, 3) := dq_299.2.2.2.1
theorem dX8_priceOf_6 : decode cX8_priceOf 6 = .ok (.ifCond .eq 12, 3) := dq_299.2.2.2.2.1
theorem dX8_priceOf_9 : decode cX8_priceOf 9 = .ok (.aload_n 0, 1) := dq_299.2.2.2.2.2.1
theorem dX8_priceOf_10 : decode cX8_priceOf 10 = .ok (.getfield 24, 3) := dq_299.2.2.2.2.2.2.1
theorem dX8_priceOf_13 : decode cX8_priceOf 13 = .ok (.iload_n 1, 1) := dq_299.2.2.2.2.2.2.2.1
theorem dX8_priceOf_14 : decode cX8_priceOf 14 = .ok (.iaload, 1) := dq_299.2.2.2.2.2.2.2.2.1
theorem dX8_priceOf_15 : decode cX8_priceOf 15 = .ok (.goto 4, 3) := dq_299.2.2.2.2.2.2.2.2.2.1
theorem dX8_priceOf_18 : decode cX8_priceOf 18 = .ok (.iconst 0, 1) := dq_299.2.2.2.2.2.2.2.2.2.2.1
theorem dX8_priceOf_19 : decode cX8_priceOf 19 = .ok (.ireturn, 1) := dq_299.2.2.2.2.2.2.2.2.2.2.2
theorem dq_300 : decode cX8_dailyOf 0 = .ok (.iload_n 1, 1) ∧ decode cX8_dailyOf 1 = .ok (.iconst 0, 1) ∧ decode cX8_dailyOf 2 = .ok (.iconst 5, 1) ∧ decode cX8_dailyOf 3 = .ok (.invokestatic 59, 3) ∧ decode cX8_dailyOf 6 = .ok (.ifCond .eq 12, 3) ∧ decode cX8_dailyOf 9 = .ok (.aload_n 0, 1) ∧ decode cX8_dailyOf 10 = .ok (.getfield 27, 3) ∧ decode cX8_dailyOf 13 = .ok (.iload_n 1, 1) ∧ decode cX8_dailyOf 14 = .ok (.iaload, 1) ∧ decode cX8_dailyOf 15 = .ok (.goto 4, 3) ∧ decode cX8_dailyOf 18 = .ok (.iconst 1, 1) ∧ decode cX8_dailyOf 19 = .ok (.ireturn, 1) := by decide +kernel
theorem dX8_dailyOf_0 : decode cX8_dailyOf 0 = .ok (.iload_n 1, 1) := dq_300.1
theorem dX8_dailyOf_1 : decode cX8_dailyOf 1 = .ok (.iconst 0, 1) := dq_300.2.1
theorem dX8_dailyOf_2 : decode cX8_dailyOf 2 = .ok (.iconst 5, 1) := dq_300.2.2.1
theorem dX8_dailyOf_3 : decode cX8_dailyOf 3 = .ok (.invokestatic 59, 3) := dq_300.2.2.2.1
theorem dX8_dailyOf_6 : decode cX8_dailyOf 6 = .ok (.ifCond .eq 12, 3) := dq_300.2.2.2.2.1
theorem dX8_dailyOf_9 : decode cX8_dailyOf 9 = .ok (.aload_n 0, 1) := dq_300.2.2.2.2.2.1
theorem dX8_dailyOf_10 : decode cX8_dailyOf 10 = .ok (.getfield 27, 3) := dq_300.2.2.2.2.2.2.1
theorem dX8_dailyOf_13 : decode cX8_dailyOf 13 = .ok (.iload_n 1, 1) := dq_300.2.2.2.2.2.2.2.1
theorem dX8_dailyOf_14 : decode cX8_dailyOf 14 = .ok (.iaload, 1) := dq_300.2.2.2.2.2.2.2.2.1
theorem dX8_dailyOf_15 : decode cX8_dailyOf 15 = .ok (.goto 4, 3) := dq_300.2.2.2.2.2.2.2.2.2.1
theorem dX8_dailyOf_18 : decode cX8_dailyOf 18 = .ok (.iconst 1, 1) := dq_300.2.2.2.2.2.2.2.2.2.2.1
theorem dX8_dailyOf_19 : decode cX8_dailyOf 19 = .ok (.ireturn, 1) := dq_300.2.2.2.2.2.2.2.2.2.2.2
theorem dq_301 : decode cX8_patternColour 0 = .ok (.aload_n 0, 1) ∧ decode cX8_patternColour 1 = .ok (.iload_n 1, 1) ∧ decode cX8_patternColour 2 = .ok (.invokevirtual 67, 3) ∧ decode cX8_patternColour 5 = .ok (.ifCond .eq 13, 3) ∧ decode cX8_patternColour 8 = .ok (.iload_n 2, 1) ∧ decode cX8_patternColour 9 = .ok (.iconst 0, 1) ∧ decode cX8_patternColour 10 = .ok (.bipush 15, 2) ∧ decode cX8_patternColour 12 = .ok (.invokestatic 59, 3) ∧ decode cX8_patternColour 15 = .ok (.ifCond .ne 5, 3) ∧ decode cX8_patternColour 18 = .ok (.iconst (-1), 1) ∧ decode cX8_patternColour 19 = .ok (.ireturn, 1) ∧ decode cX8_patternColour 20 = .ok (.aload_n 0, 1) := by decide +kernel
theorem dX8_patternColour_0 : decode cX8_patternColour 0 = .ok (.aload_n 0, 1) := dq_301.1
theorem dX8_patternColour_1 : decode cX8_patternColour 1 = .ok (.iload_n 1, 1) := dq_301.2.1
theorem dX8_patternColour_2 : decode cX8_patternColour 2 = .ok (.invokevirtual 67, 3) := dq_301.2.2.1
theorem dX8_patternColour_5 : decode cX8_patternColour 5 = .ok (.ifCond .eq 13, 3) := dq_301.2.2.2.1
theorem dX8_patternColour_8 : decode cX8_patternColour 8 = .ok (.iload_n 2, 1) := dq_301.2.2.2.2.1
theorem dX8_patternColour_9 : decode cX8_patternColour 9 = .ok (.iconst 0, 1) := dq_301.2.2.2.2.2.1
theorem dX8_patternColour_10 : decode cX8_patternColour 10 = .ok (.bipush 15, 2) := dq_301.2.2.2.2.2.2.1
theorem dX8_patternColour_12 : decode cX8_patternColour 12 = .ok (.invokestatic 59, 3) := dq_301.2.2.2.2.2.2.2.1
theorem dX8_patternColour_15 : decode cX8_patternColour 15 = .ok (.ifCond .ne 5, 3) := dq_301.2.2.2.2.2.2.2.2.1
theorem dX8_patternColour_18 : decode cX8_patternColour 18 = .ok (.iconst (-1), 1) := dq_301.2.2.2.2.2.2.2.2.2.1
theorem dX8_patternColour_19 : decode cX8_patternColour 19 = .ok (.ireturn, 1) := dq_301.2.2.2.2.2.2.2.2.2.2.1
theorem dX8_patternColour_20 : decode cX8_patternColour 20 = .ok (.aload_n 0, 1) := dq_301.2.2.2.2.2.2.2.2.2.2.2
theorem dq_302 : decode cX8_patternColour 21 = .ok (.getfield 30, 3) ∧ decode cX8_patternColour 24 = .ok (.iload_n 1, 1) ∧ decode cX8_patternColour 25 = .ok (.bipush 16, 2) ∧ decode cX8_patternColour 27 = .ok (.imul, 1) ∧ decode cX8_patternColour 28 = .ok (.iload_n 2, 1) ∧ decode cX8_patternColour 29 = .ok (.iadd, 1) ∧ decode cX8_patternColour 30 = .ok (.iaload, 1) ∧ decode cX8_patternColour 31 = .ok (.ireturn, 1) := by decide +kernel
theorem dX8_patternColour_21 : decode cX8_patternColour 21 = .ok (.getfield 30, 3) := dq_302.1
theorem dX8_patternColour_24 : decode cX8_patternColour 24 = .ok (.iload_n 1, 1) := dq_302.2.1
theorem dX8_patternColour_25 : decode cX8_patternColour 25 = .ok (.bipush 16, 2) := dq_302.2.2.1
theorem dX8_patternColour_27 : decode cX8_patternColour 27 = .ok (.imul, 1) := dq_302.2.2.2.1
theorem dX8_patternColour_28 : decode cX8_patternColour 28 = .ok (.iload_n 2, 1) := dq_302.2.2.2.2.1
theorem dX8_patternColour_29 : decode cX8_patternColour 29 = .ok (.iadd, 1) := dq_302.2.2.2.2.2.1
theorem dX8_patternColour_30 : decode cX8_patternColour 30 = .ok (.iaload, 1) := dq_302.2.2.2.2.2.2.1
theorem dX8_patternColour_31 : decode cX8_patternColour 31 = .ok (.ireturn, 1) := dq_302.2.2.2.2.2.2.2
theorem dq_303 : decode cX8_addRow 0 = .ok (.aload_n 0, 1) ∧ decode cX8_addRow 1 = .ok (.getfield 42, 3) ∧ decode cX8_addRow 4 = .ok (.bipush 12, 2) ∧ decode cX8_addRow 6 = .ok (.if_icmp .ge 33, 3) ∧ decode cX8_addRow 9 = .ok (.aload_n 0, 1) ∧ decode cX8_addRow 10 = .ok (.getfield 9, 3) ∧ decode cX8_addRow 13 = .ok (.aload_n 0, 1) ∧ decode cX8_addRow 14 = .ok (.getfield 42, 3) ∧ decode cX8_addRow 17 = .ok (.iload_n 1, 1) ∧ decode cX8_addRow 18 = .ok (.iastore, 1) ∧ decode cX8_addRow 19 = .ok (.aload_n 0, 1) ∧ decode cX8_addRow 20 = .ok (.getfield 15, 3) := by decide +kernel
theorem dX8_addRow_0 : decode cX8_addRow 0 = .ok (.aload_n 0, 1) := dq_303.1
theorem dX8_addRow_1 : decode cX8_addRow 1 = .ok (.getfield 42, 3) := dq_303.2.1
theorem dX8_addRow_4 : decode cX8_addRow 4 = .ok (.bipush 12, 2) := dq_303.2.2.1
theorem dX8_addRow_6 : decode cX8_addRow 6 = .ok (.if_icmp .ge 33, 3) := dq_303.2.2.2.1
theorem dX8_addRow_9 : decode cX8_addRow 9 = .ok (.aload_n 0, 1) := dq_303.2.2.2.2.1
theorem dX8_addRow_10 : decode cX8_addRow 10 = .ok (.getfield 9, 3) := dq_303.2.2.2.2.2.1
theorem dX8_addRow_13 : decode cX8_addRow 13 = .ok (.aload_n 0, 1) := dq_303.2.2.2.2.2.2.1
theorem dX8_addRow_14 : decode cX8_addRow 14 = .ok (.getfield 42, 3) := dq_303.2.2.2.2.2.2.2.1
theorem dX8_addRow_17 : decode cX8_addRow 17 = .ok (.iload_n 1, 1) := dq_303.2.2.2.2.2.2.2.2.1
theorem dX8_addRow_18 : decode cX8_addRow 18 = .ok (.iastore, 1) := dq_303.2.2.2.2.2.2.2.2.2.1
theorem dX8_addRow_19 : decode cX8_addRow 19 = .ok (.aload_n 0, 1) := dq_303.2.2.2.2.2.2.2.2.2.2.1
theorem dX8_addRow_20 : decode cX8_addRow 20 = .ok (.getfield 15, 3) := dq_303.2.2.2.2.2.2.2.2.2.2.2
theorem dq_304 : decode cX8_addRow 23 = .ok (.aload_n 0, 1) ∧ decode cX8_addRow 24 = .ok (.getfield 42, 3) ∧ decode cX8_addRow 27 = .ok (.iload_n 2, 1) ∧ decode cX8_addRow 28 = .ok (.iastore, 1) ∧ decode cX8_addRow 29 = .ok (.aload_n 0, 1) ∧ decode cX8_addRow 30 = .ok (.dup, 1) ∧ decode cX8_addRow 31 = .ok (.getfield 42, 3) ∧ decode cX8_addRow 34 = .ok (.iconst 1, 1) ∧ decode cX8_addRow 35 = .ok (.iadd, 1) ∧ decode cX8_addRow 36 = .ok (.putfield 42, 3) ∧ decode cX8_addRow 39 = .ok (.return_, 1) := by decide +kernel
theorem dX8_addRow_23 : decode cX8_addRow 23 = .ok (.aload_n 0, 1) := dq_304.1
theorem dX8_addRow_24 : decode cX8_addRow 24 = .ok (.getfield 42, 3) := dq_304.2.1
theorem dX8_addRow_27 : decode cX8_addRow 27 = .ok (.iload_n 2, 1) := dq_304.2.2.1
theorem dX8_addRow_28 : decode cX8_addRow 28 = .ok (.iastore, 1) := dq_304.2.2.2.1
theorem dX8_addRow_29 : decode cX8_addRow 29 = .ok (.aload_n 0, 1) := dq_304.2.2.2.2.1
theorem dX8_addRow_30 : decode cX8_addRow 30 = .ok (.dup, 1) := dq_304.2.2.2.2.2.1
theorem dX8_addRow_31 : decode cX8_addRow 31 = .ok (.getfield 42, 3) := dq_304.2.2.2.2.2.2.1
theorem dX8_addRow_34 : decode cX8_addRow 34 = .ok (.iconst 1, 1) := dq_304.2.2.2.2.2.2.2.1
theorem dX8_addRow_35 : decode cX8_addRow 35 = .ok (.iadd, 1) := dq_304.2.2.2.2.2.2.2.2.1
theorem dX8_addRow_36 : decode cX8_addRow 36 = .ok (.putfield 42, 3) := dq_304.2.2.2.2.2.2.2.2.2.1
theorem dX8_addRow_39 : decode cX8_addRow 39 = .ok (.return_, 1) := dq_304.2.2.2.2.2.2.2.2.2.2
theorem dq_305 : decode cX8_addPatch 0 = .ok (.aload_n 0, 1) ∧ decode cX8_addPatch 1 = .ok (.getfield 42, 3) ∧ decode cX8_addPatch 4 = .ok (.bipush 12, 2) ∧ decode cX8_addPatch 6 = .ok (.if_icmp .ge 23, 3) ∧ decode cX8_addPatch 9 = .ok (.aload_n 0, 1) ∧ decode cX8_addPatch 10 = .ok (.getfield 18, 3) ∧ decode cX8_addPatch 13 = .ok (.aload_n 0, 1) ∧ decode cX8_addPatch 14 = .ok (.getfield 42, 3) ∧ decode cX8_addPatch 17 = .ok (.iload_n 1, 1) ∧ decode cX8_addPatch 18 = .ok (.iastore, 1) ∧ decode cX8_addPatch 19 = .ok (.aload_n 0, 1) ∧ decode cX8_addPatch 20 = .ok (.dup, 1) := by decide +kernel
theorem dX8_addPatch_0 : decode cX8_addPatch 0 = .ok (.aload_n 0, 1) := dq_305.1
theorem dX8_addPatch_1 : decode cX8_addPatch 1 = .ok (.getfield 42, 3) := dq_305.2.1
theorem dX8_addPatch_4 : decode cX8_addPatch 4 = .ok (.bipush 12, 2) := dq_305.2.2.1
theorem dX8_addPatch_6 : decode cX8_addPatch 6 = .ok (.if_icmp .ge 23, 3) := dq_305.2.2.2.1
theorem dX8_addPatch_9 : decode cX8_addPatch 9 = .ok (.aload_n 0, 1) := dq_305.2.2.2.2.1
theorem dX8_addPatch_10 : decode cX8_addPatch 10 = .ok (.getfield 18, 3) := dq_305.2.2.2.2.2.1
theorem dX8_addPatch_13 : decode cX8_addPatch 13 = .ok (.aload_n 0, 1) := dq_305.2.2.2.2.2.2.1
theorem dX8_addPatch_14 : decode cX8_addPatch 14 = .ok (.getfield 42, 3) := dq_305.2.2.2.2.2.2.2.1
theorem dX8_addPatch_17 : decode cX8_addPatch 17 = .ok (.iload_n 1, 1) := dq_305.2.2.2.2.2.2.2.2.1
theorem dX8_addPatch_18 : decode cX8_addPatch 18 = .ok (.iastore, 1) := dq_305.2.2.2.2.2.2.2.2.2.1
theorem dX8_addPatch_19 : decode cX8_addPatch 19 = .ok (.aload_n 0, 1) := dq_305.2.2.2.2.2.2.2.2.2.2.1
theorem dX8_addPatch_20 : decode cX8_addPatch 20 = .ok (.dup, 1) := dq_305.2.2.2.2.2.2.2.2.2.2.2
theorem dq_306 : decode cX8_addPatch 21 = .ok (.getfield 42, 3) ∧ decode cX8_addPatch 24 = .ok (.iconst 1, 1) ∧ decode cX8_addPatch 25 = .ok (.iadd, 1) ∧ decode cX8_addPatch 26 = .ok (.putfield 42, 3) ∧ decode cX8_addPatch 29 = .ok (.return_, 1) := by decide +kernel
theorem dX8_addPatch_21 : decode cX8_addPatch 21 = .ok (.getfield 42, 3) := dq_306.1
theorem dX8_addPatch_24 : decode cX8_addPatch 24 = .ok (.iconst 1, 1) := dq_306.2.1
theorem dX8_addPatch_25 : decode cX8_addPatch 25 = .ok (.iadd, 1) := dq_306.2.2.1
theorem dX8_addPatch_26 : decode cX8_addPatch 26 = .ok (.putfield 42, 3) := dq_306.2.2.2.1
theorem dX8_addPatch_29 : decode cX8_addPatch 29 = .ok (.return_, 1) := dq_306.2.2.2.2
theorem dq_307 : decode cX8_addGives 0 = .ok (.aload_n 0, 1) ∧ decode cX8_addGives 1 = .ok (.iload_n 1, 1) ∧ decode cX8_addGives 2 = .ok (.invokevirtual 63, 3) ∧ decode cX8_addGives 5 = .ok (.ifCond .eq 16, 3) ∧ decode cX8_addGives 8 = .ok (.aload_n 0, 1) ∧ decode cX8_addGives 9 = .ok (.getfield 21, 3) ∧ decode cX8_addGives 12 = .ok (.iload_n 1, 1) ∧ decode cX8_addGives 13 = .ok (.iaload, 1) ∧ decode cX8_addGives 14 = .ok (.iload_n 2, 1) ∧ decode cX8_addGives 15 = .ok (.invokestatic 70, 3) ∧ decode cX8_addGives 18 = .ok (.ifCond .eq 5, 3) ∧ decode cX8_addGives 21 = .ok (.iconst 0, 1) := by decide +kernel
theorem dX8_addGives_0 : decode cX8_addGives 0 = .ok (.aload_n 0, 1) := dq_307.1
theorem dX8_addGives_1 : decode cX8_addGives 1 = .ok (.iload_n 1, 1) := dq_307.2.1
theorem dX8_addGives_2 : decode cX8_addGives 2 = .ok (.invokevirtual 63, 3) := dq_307.2.2.1
theorem dX8_addGives_5 : decode cX8_addGives 5 = .ok (.ifCond .eq 16, 3) := dq_307.2.2.2.1
theorem dX8_addGives_8 : decode cX8_addGives 8 = .ok (.aload_n 0, 1) := dq_307.2.2.2.2.1
theorem dX8_addGives_9 : decode cX8_addGives 9 = .ok (.getfield 21, 3) := dq_307.2.2.2.2.2.1
theorem dX8_addGives_12 : decode cX8_addGives 12 = .ok (.iload_n 1, 1) := dq_307.2.2.2.2.2.2.1
theorem dX8_addGives_13 : decode cX8_addGives 13 = .ok (.iaload, 1) := dq_307.2.2.2.2.2.2.2.1
theorem dX8_addGives_14 : decode cX8_addGives 14 = .ok (.iload_n 2, 1) := dq_307.2.2.2.2.2.2.2.2.1
theorem dX8_addGives_15 : decode cX8_addGives 15 = .ok (.invokestatic 70, 3) := dq_307.2.2.2.2.2.2.2.2.2.1
theorem dX8_addGives_18 : decode cX8_addGives 18 = .ok (.ifCond .eq 5, 3) := dq_307.2.2.2.2.2.2.2.2.2.2.1
theorem dX8_addGives_21 : decode cX8_addGives 21 = .ok (.iconst 0, 1) := dq_307.2.2.2.2.2.2.2.2.2.2.2
theorem dq_308 : decode cX8_addGives 22 = .ok (.ireturn, 1) ∧ decode cX8_addGives 23 = .ok (.aload_n 0, 1) ∧ decode cX8_addGives 24 = .ok (.getfield 21, 3) ∧ decode cX8_addGives 27 = .ok (.iload_n 1, 1) ∧ decode cX8_addGives 28 = .ok (.dup2, 1) ∧ decode cX8_addGives 29 = .ok (.iaload, 1) ∧ decode cX8_addGives 30 = .ok (.iconst 1, 1) ∧ decode cX8_addGives 31 = .ok (.iload_n 2, 1) ∧ decode cX8_addGives 32 = .ok (.ishl, 1) ∧ decode cX8_addGives 33 = .ok (.ior, 1) ∧ decode cX8_addGives 34 = .ok (.iastore, 1) ∧ decode cX8_addGives 35 = .ok (.iconst 1, 1) := by decide +kernel
theorem dX8_addGives_22 : decode cX8_addGives 22 = .ok (.ireturn, 1) := dq_308.1
theorem dX8_addGives_23 : decode cX8_addGives 23 = .ok (.aload_n 0, 1) := dq_308.2.1
theorem dX8_addGives_24 : decode cX8_addGives 24 = .ok (.getfield 21, 3) := dq_308.2.2.1
theorem dX8_addGives_27 : decode cX8_addGives 27 = .ok (.iload_n 1, 1) := dq_308.2.2.2.1
theorem dX8_addGives_28 : decode cX8_addGives 28 = .ok (.dup2, 1) := dq_308.2.2.2.2.1
theorem dX8_addGives_29 : decode cX8_addGives 29 = .ok (.iaload, 1) := dq_308.2.2.2.2.2.1
theorem dX8_addGives_30 : decode cX8_addGives 30 = .ok (.iconst 1, 1) := dq_308.2.2.2.2.2.2.1
theorem dX8_addGives_31 : decode cX8_addGives 31 = .ok (.iload_n 2, 1) := dq_308.2.2.2.2.2.2.2.1
theorem dX8_addGives_32 : decode cX8_addGives 32 = .ok (.ishl, 1) := dq_308.2.2.2.2.2.2.2.2.1
theorem dX8_addGives_33 : decode cX8_addGives 33 = .ok (.ior, 1) := dq_308.2.2.2.2.2.2.2.2.2.1
theorem dX8_addGives_34 : decode cX8_addGives 34 = .ok (.iastore, 1) := dq_308.2.2.2.2.2.2.2.2.2.2.1
theorem dX8_addGives_35 : decode cX8_addGives 35 = .ok (.iconst 1, 1) := dq_308.2.2.2.2.2.2.2.2.2.2.2
theorem dX8_addGives_36 : decode cX8_addGives 36 = .ok (.ireturn, 1) := by decide +kernel
theorem dq_310 : decode cX8_tellApart 0 = .ok (.aload_n 0, 1) ∧ decode cX8_tellApart 1 = .ok (.iload_n 1, 1) ∧ decode cX8_tellApart 2 = .ok (.putfield 49, 3) ∧ decode cX8_tellApart 5 = .ok (.aload_n 0, 1) ∧ decode cX8_tellApart 6 = .ok (.iconst 1, 1) ∧ decode cX8_tellApart 7 = .ok (.putfield 52, 3) ∧ decode cX8_tellApart 10 = .ok (.return_, 1) := by decide +kernel
theorem dX8_tellApart_0 : decode cX8_tellApart 0 = .ok (.aload_n 0, 1) := dq_310.1
theorem dX8_tellApart_1 : decode cX8_tellApart 1 = .ok (.iload_n 1, 1) := dq_310.2.1
theorem dX8_tellApart_2 : decode cX8_tellApart 2 = .ok (.putfield 49, 3) := dq_310.2.2.1
theorem dX8_tellApart_5 : decode cX8_tellApart 5 = .ok (.aload_n 0, 1) := dq_310.2.2.2.1
theorem dX8_tellApart_6 : decode cX8_tellApart 6 = .ok (.iconst 1, 1) := dq_310.2.2.2.2.1
theorem dX8_tellApart_7 : decode cX8_tellApart 7 = .ok (.putfield 52, 3) := dq_310.2.2.2.2.2.1
theorem dX8_tellApart_10 : decode cX8_tellApart 10 = .ok (.return_, 1) := dq_310.2.2.2.2.2.2
theorem dq_311 : decode cX8_quarryIsTold 0 = .ok (.aload_n 0, 1) ∧ decode cX8_quarryIsTold 1 = .ok (.getfield 56, 3) ∧ decode cX8_quarryIsTold 4 = .ok (.iload_n 1, 1) ∧ decode cX8_quarryIsTold 5 = .ok (.invokestatic 70, 3) ∧ decode cX8_quarryIsTold 8 = .ok (.ireturn, 1) := by decide +kernel
theorem dX8_quarryIsTold_0 : decode cX8_quarryIsTold 0 = .ok (.aload_n 0, 1) := dq_311.1
theorem dX8_quarryIsTold_1 : decode cX8_quarryIsTold 1 = .ok (.getfield 56, 3) := dq_311.2.1
theorem dX8_quarryIsTold_4 : decode cX8_quarryIsTold 4 = .ok (.iload_n 1, 1) := dq_311.2.2.1
theorem dX8_quarryIsTold_5 : decode cX8_quarryIsTold 5 = .ok (.invokestatic 70, 3) := dq_311.2.2.2.1
theorem dX8_quarryIsTold_8 : decode cX8_quarryIsTold 8 = .ok (.ireturn, 1) := dq_311.2.2.2.2
theorem dq_312 : decode cX8_tellQuarry 0 = .ok (.iload_n 1, 1) ∧ decode cX8_tellQuarry 1 = .ok (.iconst 0, 1) ∧ decode cX8_tellQuarry 2 = .ok (.iconst 5, 1) ∧ decode cX8_tellQuarry 3 = .ok (.invokestatic 59, 3) ∧ decode cX8_tellQuarry 6 = .ok (.ifCond .eq 29, 3) ∧ decode cX8_tellQuarry 9 = .ok (.aload_n 0, 1) ∧ decode cX8_tellQuarry 10 = .ok (.getfield 24, 3) ∧ decode cX8_tellQuarry 13 = .ok (.iload_n 1, 1) ∧ decode cX8_tellQuarry 14 = .ok (.iload_n 2, 1) ∧ decode cX8_tellQuarry 15 = .ok (.iastore, 1) ∧ decode cX8_tellQuarry 16 = .ok (.aload_n 0, 1) ∧ decode cX8_tellQuarry 17 = .ok (.getfield 27, 3) := by decide +kernel
theorem dX8_tellQuarry_0 : decode cX8_tellQuarry 0 = .ok (.iload_n 1, 1) := dq_312.1
theorem dX8_tellQuarry_1 : decode cX8_tellQuarry 1 = .ok (.iconst 0, 1) := dq_312.2.1
theorem dX8_tellQuarry_2 : decode cX8_tellQuarry 2 = .ok (.iconst 5, 1) := dq_312.2.2.1
theorem dX8_tellQuarry_3 : decode cX8_tellQuarry 3 = .ok (.invokestatic 59, 3) := dq_312.2.2.2.1
theorem dX8_tellQuarry_6 : decode cX8_tellQuarry 6 = .ok (.ifCond .eq 29, 3) := dq_312.2.2.2.2.1
theorem dX8_tellQuarry_9 : decode cX8_tellQuarry 9 = .ok (.aload_n 0, 1) := dq_312.2.2.2.2.2.1
theorem dX8_tellQuarry_10 : decode cX8_tellQuarry 10 = .ok (.getfield 24, 3) := dq_312.2.2.2.2.2.2.1
theorem dX8_tellQuarry_13 : decode cX8_tellQuarry 13 = .ok (.iload_n 1, 1) := dq_312.2.2.2.2.2.2.2.1
theorem dX8_tellQuarry_14 : decode cX8_tellQuarry 14 = .ok (.iload_n 2, 1) := dq_312.2.2.2.2.2.2.2.2.1
theorem dX8_tellQuarry_15 : decode cX8_tellQuarry 15 = .ok (.iastore, 1) := dq_312.2.2.2.2.2.2.2.2.2.1
theorem dX8_tellQuarry_16 : decode cX8_tellQuarry 16 = .ok (.aload_n 0, 1) := dq_312.2.2.2.2.2.2.2.2.2.2.1
theorem dX8_tellQuarry_17 : decode cX8_tellQuarry 17 = .ok (.getfield 27, 3) := dq_312.2.2.2.2.2.2.2.2.2.2.2
theorem dq_313 : decode cX8_tellQuarry 20 = .ok (.iload_n 1, 1) ∧ decode cX8_tellQuarry 21 = .ok (.iload_n 3, 1) ∧ decode cX8_tellQuarry 22 = .ok (.iastore, 1) ∧ decode cX8_tellQuarry 23 = .ok (.aload_n 0, 1) ∧ decode cX8_tellQuarry 24 = .ok (.dup, 1) ∧ decode cX8_tellQuarry 25 = .ok (.getfield 56, 3) ∧ decode cX8_tellQuarry 28 = .ok (.iconst 1, 1) ∧ decode cX8_tellQuarry 29 = .ok (.iload_n 1, 1) ∧ decode cX8_tellQuarry 30 = .ok (.ishl, 1) ∧ decode cX8_tellQuarry 31 = .ok (.ior, 1) ∧ decode cX8_tellQuarry 32 = .ok (.putfield 56, 3) ∧ decode cX8_tellQuarry 35 = .ok (.return_, 1) := by decide +kernel
theorem dX8_tellQuarry_20 : decode cX8_tellQuarry 20 = .ok (.iload_n 1, 1) := dq_313.1
theorem dX8_tellQuarry_21 : decode cX8_tellQuarry 21 = .ok (.iload_n 3, 1) := dq_313.2.1
theorem dX8_tellQuarry_22 : decode cX8_tellQuarry 22 = .ok (.iastore, 1) := dq_313.2.2.1
theorem dX8_tellQuarry_23 : decode cX8_tellQuarry 23 = .ok (.aload_n 0, 1) := dq_313.2.2.2.1
theorem dX8_tellQuarry_24 : decode cX8_tellQuarry 24 = .ok (.dup, 1) := dq_313.2.2.2.2.1
theorem dX8_tellQuarry_25 : decode cX8_tellQuarry 25 = .ok (.getfield 56, 3) := dq_313.2.2.2.2.2.1
theorem dX8_tellQuarry_28 : decode cX8_tellQuarry 28 = .ok (.iconst 1, 1) := dq_313.2.2.2.2.2.2.1
theorem dX8_tellQuarry_29 : decode cX8_tellQuarry 29 = .ok (.iload_n 1, 1) := dq_313.2.2.2.2.2.2.2.1
theorem dX8_tellQuarry_30 : decode cX8_tellQuarry 30 = .ok (.ishl, 1) := dq_313.2.2.2.2.2.2.2.2.1
theorem dX8_tellQuarry_31 : decode cX8_tellQuarry 31 = .ok (.ior, 1) := dq_313.2.2.2.2.2.2.2.2.2.1
theorem dX8_tellQuarry_32 : decode cX8_tellQuarry 32 = .ok (.putfield 56, 3) := dq_313.2.2.2.2.2.2.2.2.2.2.1
theorem dX8_tellQuarry_35 : decode cX8_tellQuarry 35 = .ok (.return_, 1) := dq_313.2.2.2.2.2.2.2.2.2.2.2
theorem dq_314 : decode cX8_tellPatternCell 0 = .ok (.aload_n 0, 1) ∧ decode cX8_tellPatternCell 1 = .ok (.getfield 46, 3) ∧ decode cX8_tellPatternCell 4 = .ok (.iconst 4, 1) ∧ decode cX8_tellPatternCell 5 = .ok (.if_icmp .ge 28, 3) ∧ decode cX8_tellPatternCell 8 = .ok (.iload_n 1, 1) ∧ decode cX8_tellPatternCell 9 = .ok (.iconst 0, 1) ∧ decode cX8_tellPatternCell 10 = .ok (.bipush 15, 2) ∧ decode cX8_tellPatternCell 12 = .ok (.invokestatic 59, 3) ∧ decode cX8_tellPatternCell 15 = .ok (.ifCond .eq 18, 3) ∧ decode cX8_tellPatternCell 18 = .ok (.aload_n 0, 1) ∧ decode cX8_tellPatternCell 19 = .ok (.getfield 30, 3) ∧ decode cX8_tellPatternCell 22 = .ok (.aload_n 0, 1) := by decide +kernel
theorem dX8_tellPatternCell_0 : decode cX8_tellPatternCell 0 = .ok (.aload_n 0, 1) := dq_314.1
theorem dX8_tellPatternCell_1 : decode cX8_tellPatternCell 1 = .ok (.getfield 46, 3) := dq_314.2.1
theorem dX8_tellPatternCell_4 : decode cX8_tellPatternCell 4 = .ok (.iconst 4, 1) := dq_314.2.2.1
theorem dX8_tellPatternCell_5 : decode cX8_tellPatternCell 5 = .ok (.if_icmp .ge 28, 3) := dq_314.2.2.2.1
theorem dX8_tellPatternCell_8 : decode cX8_tellPatternCell 8 = .ok (.iload_n 1, 1) := dq_314.2.2.2.2.1
theorem dX8_tellPatternCell_9 : decode cX8_tellPatternCell 9 = .ok (.iconst 0, 1) := dq_314.2.2.2.2.2.1
theorem dX8_tellPatternCell_10 : decode cX8_tellPatternCell 10 = .ok (.bipush 15, 2) := dq_314.2.2.2.2.2.2.1
theorem dX8_tellPatternCell_12 : decode cX8_tellPatternCell 12 = .ok (.invokestatic 59, 3) := dq_314.2.2.2.2.2.2.2.1
theorem dX8_tellPatternCell_15 : decode cX8_tellPatternCell 15 = .ok (.ifCond .eq 18, 3) := dq_314.2.2.2.2.2.2.2.2.1
theorem dX8_tellPatternCell_18 : decode cX8_tellPatternCell 18 = .ok (.aload_n 0, 1) := dq_314.2.2.2.2.2.2.2.2.2.1
theorem dX8_tellPatternCell_19 : decode cX8_tellPatternCell 19 = .ok (.getfield 30, 3) := dq_314.2.2.2.2.2.2.2.2.2.2.1
theorem dX8_tellPatternCell_22 : decode cX8_tellPatternCell 22 = .ok (.aload_n 0, 1) := dq_314.2.2.2.2.2.2.2.2.2.2.2
theorem dq_315 : decode cX8_tellPatternCell 23 = .ok (.getfield 46, 3) ∧ decode cX8_tellPatternCell 26 = .ok (.bipush 16, 2) ∧ decode cX8_tellPatternCell 28 = .ok (.imul, 1) ∧ decode cX8_tellPatternCell 29 = .ok (.iload_n 1, 1) ∧ decode cX8_tellPatternCell 30 = .ok (.iadd, 1) ∧ decode cX8_tellPatternCell 31 = .ok (.iload_n 2, 1) ∧ decode cX8_tellPatternCell 32 = .ok (.iastore, 1) ∧ decode cX8_tellPatternCell 33 = .ok (.return_, 1) := by decide +kernel
theorem dX8_tellPatternCell_23 : decode cX8_tellPatternCell 23 = .ok (.getfield 46, 3) := dq_315.1
theorem dX8_tellPatternCell_26 : decode cX8_tellPatternCell 26 = .ok (.bipush 16, 2) := dq_315.2.1
theorem dX8_tellPatternCell_28 : decode cX8_tellPatternCell 28 = .ok (.imul, 1) := dq_315.2.2.1
theorem dX8_tellPatternCell_29 : decode cX8_tellPatternCell 29 = .ok (.iload_n 1, 1) := dq_315.2.2.2.1
theorem dX8_tellPatternCell_30 : decode cX8_tellPatternCell 30 = .ok (.iadd, 1) := dq_315.2.2.2.2.1
theorem dX8_tellPatternCell_31 : decode cX8_tellPatternCell 31 = .ok (.iload_n 2, 1) := dq_315.2.2.2.2.2.1
theorem dX8_tellPatternCell_32 : decode cX8_tellPatternCell 32 = .ok (.iastore, 1) := dq_315.2.2.2.2.2.2.1
theorem dX8_tellPatternCell_33 : decode cX8_tellPatternCell 33 = .ok (.return_, 1) := dq_315.2.2.2.2.2.2.2
theorem dq_316 : decode cX8_addPattern 0 = .ok (.aload_n 0, 1) ∧ decode cX8_addPattern 1 = .ok (.getfield 46, 3) ∧ decode cX8_addPattern 4 = .ok (.iconst 4, 1) ∧ decode cX8_addPattern 5 = .ok (.if_icmp .ge 13, 3) ∧ decode cX8_addPattern 8 = .ok (.aload_n 0, 1) ∧ decode cX8_addPattern 9 = .ok (.dup, 1) ∧ decode cX8_addPattern 10 = .ok (.getfield 46, 3) ∧ decode cX8_addPattern 13 = .ok (.iconst 1, 1) ∧ decode cX8_addPattern 14 = .ok (.iadd, 1) ∧ decode cX8_addPattern 15 = .ok (.putfield 46, 3) ∧ decode cX8_addPattern 18 = .ok (.return_, 1) := by decide +kernel
theorem dX8_addPattern_0 : decode cX8_addPattern 0 = .ok (.aload_n 0, 1) := dq_316.1
theorem dX8_addPattern_1 : decode cX8_addPattern 1 = .ok (.getfield 46, 3) := dq_316.2.1
theorem dX8_addPattern_4 : decode cX8_addPattern 4 = .ok (.iconst 4, 1) := dq_316.2.2.1
theorem dX8_addPattern_5 : decode cX8_addPattern 5 = .ok (.if_icmp .ge 13, 3) := dq_316.2.2.2.1
theorem dX8_addPattern_8 : decode cX8_addPattern 8 = .ok (.aload_n 0, 1) := dq_316.2.2.2.2.1
theorem dX8_addPattern_9 : decode cX8_addPattern 9 = .ok (.dup, 1) := dq_316.2.2.2.2.2.1
theorem dX8_addPattern_10 : decode cX8_addPattern 10 = .ok (.getfield 46, 3) := dq_316.2.2.2.2.2.2.1
theorem dX8_addPattern_13 : decode cX8_addPattern 13 = .ok (.iconst 1, 1) := dq_316.2.2.2.2.2.2.2.1
theorem dX8_addPattern_14 : decode cX8_addPattern 14 = .ok (.iadd, 1) := dq_316.2.2.2.2.2.2.2.2.1
theorem dX8_addPattern_15 : decode cX8_addPattern 15 = .ok (.putfield 46, 3) := dq_316.2.2.2.2.2.2.2.2.2.1
theorem dX8_addPattern_18 : decode cX8_addPattern 18 = .ok (.return_, 1) := dq_316.2.2.2.2.2.2.2.2.2.2
theorem dq_317 : decode cX8_rows 0 = .ok (.iconst 0, 1) ∧ decode cX8_rows 1 = .ok (.istore_n 1, 1) ∧ decode cX8_rows 2 = .ok (.iconst 0, 1) ∧ decode cX8_rows 3 = .ok (.istore_n 2, 1) ∧ decode cX8_rows 4 = .ok (.iload_n 2, 1) ∧ decode cX8_rows 5 = .ok (.aload_n 0, 1) ∧ decode cX8_rows 6 = .ok (.getfield 42, 3) ∧ decode cX8_rows 9 = .ok (.if_icmp .ge 24, 3) ∧ decode cX8_rows 12 = .ok (.aload_n 0, 1) ∧ decode cX8_rows 13 = .ok (.getfield 9, 3) ∧ decode cX8_rows 16 = .ok (.iload_n 2, 1) ∧ decode cX8_rows 17 = .ok (.iaload, 1) := by decide +kernel
theorem dX8_rows_0 : decode cX8_rows 0 = .ok (.iconst 0, 1) := dq_317.1
theorem dX8_rows_1 : decode cX8_rows 1 = .ok (.istore_n 1, 1) := dq_317.2.1
theorem dX8_rows_2 : decode cX8_rows 2 = .ok (.iconst 0, 1) := dq_317.2.2.1
theorem dX8_rows_3 : decode cX8_rows 3 = .ok (.istore_n 2, 1) := dq_317.2.2.2.1
theorem dX8_rows_4 : decode cX8_rows 4 = .ok (.iload_n 2, 1) := dq_317.2.2.2.2.1
theorem dX8_rows_5 : decode cX8_rows 5 = .ok (.aload_n 0, 1) := dq_317.2.2.2.2.2.1
theorem dX8_rows_6 : decode cX8_rows 6 = .ok (.getfield 42, 3) := dq_317.2.2.2.2.2.2.1
theorem dX8_rows_9 : decode cX8_rows 9 = .ok (.if_icmp .ge 24, 3) := dq_317.2.2.2.2.2.2.2.1
theorem dX8_rows_12 : decode cX8_rows 12 = .ok (.aload_n 0, 1) := dq_317.2.2.2.2.2.2.2.2.1
theorem dX8_rows_13 : decode cX8_rows 13 = .ok (.getfield 9, 3) := dq_317.2.2.2.2.2.2.2.2.2.1
theorem dX8_rows_16 : decode cX8_rows 16 = .ok (.iload_n 2, 1) := dq_317.2.2.2.2.2.2.2.2.2.2.1
theorem dX8_rows_17 : decode cX8_rows 17 = .ok (.iaload, 1) := dq_317.2.2.2.2.2.2.2.2.2.2.2
theorem dq_318 : decode cX8_rows 18 = .ok (.ifCond .le 9, 3) ∧ decode cX8_rows 21 = .ok (.iload_n 1, 1) ∧ decode cX8_rows 22 = .ok (.iconst 1, 1) ∧ decode cX8_rows 23 = .ok (.iload_n 2, 1) ∧ decode cX8_rows 24 = .ok (.ishl, 1) ∧ decode cX8_rows 25 = .ok (.ior, 1) ∧ decode cX8_rows 26 = .ok (.istore_n 1, 1) ∧ decode cX8_rows 27 = .ok (.iinc 2 1, 3) ∧ decode cX8_rows 30 = .ok (.goto (-26), 3) ∧ decode cX8_rows 33 = .ok (.iload_n 1, 1) ∧ decode cX8_rows 34 = .ok (.ireturn, 1) := by decide +kernel
theorem dX8_rows_18 : decode cX8_rows 18 = .ok (.ifCond .le 9, 3) := dq_318.1
theorem dX8_rows_21 : decode cX8_rows 21 = .ok (.iload_n 1, 1) := dq_318.2.1
theorem dX8_rows_22 : decode cX8_rows 22 = .ok (.iconst 1, 1) := dq_318.2.2.1
theorem dX8_rows_23 : decode cX8_rows 23 = .ok (.iload_n 2, 1) := dq_318.2.2.2.1
theorem dX8_rows_24 : decode cX8_rows 24 = .ok (.ishl, 1) := dq_318.2.2.2.2.1
theorem dX8_rows_25 : decode cX8_rows 25 = .ok (.ior, 1) := dq_318.2.2.2.2.2.1
theorem dX8_rows_26 : decode cX8_rows 26 = .ok (.istore_n 1, 1) := dq_318.2.2.2.2.2.2.1
theorem dX8_rows_27 : decode cX8_rows 27 = .ok (.iinc 2 1, 3) := dq_318.2.2.2.2.2.2.2.1
theorem dX8_rows_30 : decode cX8_rows 30 = .ok (.goto (-26), 3) := dq_318.2.2.2.2.2.2.2.2.1
theorem dX8_rows_33 : decode cX8_rows 33 = .ok (.iload_n 1, 1) := dq_318.2.2.2.2.2.2.2.2.2.1
theorem dX8_rows_34 : decode cX8_rows 34 = .ok (.ireturn, 1) := dq_318.2.2.2.2.2.2.2.2.2.2
theorem dq_319 : decode cX8_areTwoHands 0 = .ok (.aload_n 0, 1) ∧ decode cX8_areTwoHands 1 = .ok (.iload_n 1, 1) ∧ decode cX8_areTwoHands 2 = .ok (.invokevirtual 74, 3) ∧ decode cX8_areTwoHands 5 = .ok (.ifCond .eq 11, 3) ∧ decode cX8_areTwoHands 8 = .ok (.aload_n 0, 1) ∧ decode cX8_areTwoHands 9 = .ok (.iload_n 2, 1) ∧ decode cX8_areTwoHands 10 = .ok (.invokevirtual 74, 3) ∧ decode cX8_areTwoHands 13 = .ok (.ifCond .ne 5, 3) ∧ decode cX8_areTwoHands 16 = .ok (.iconst 0, 1) ∧ decode cX8_areTwoHands 17 = .ok (.ireturn, 1) ∧ decode cX8_areTwoHands 18 = .ok (.aload_n 0, 1) ∧ decode cX8_areTwoHands 19 = .ok (.getfield 15, 3) := by decide +kernel
theorem dX8_areTwoHands_0 : decode cX8_areTwoHands 0 = .ok (.aload_n 0, 1) := dq_319.1
theorem dX8_areTwoHands_1 : decode cX8_areTwoHands 1 = .ok (.iload_n 1, 1) := dq_319.2.1
theorem dX8_areTwoHands_2 : decode cX8_areTwoHands 2 = .ok (.invokevirtual 74, 3) := dq_319.2.2.1
theorem dX8_areTwoHands_5 : decode cX8_areTwoHands 5 = .ok (.ifCond .eq 11, 3) := dq_319.2.2.2.1
theorem dX8_areTwoHands_8 : decode cX8_areTwoHands 8 = .ok (.aload_n 0, 1) := dq_319.2.2.2.2.1
theorem dX8_areTwoHands_9 : decode cX8_areTwoHands 9 = .ok (.iload_n 2, 1) := dq_319.2.2.2.2.2.1
theorem dX8_areTwoHands_10 : decode cX8_areTwoHands 10 = .ok (.invokevirtual 74, 3) := dq_319.2.2.2.2.2.2.1
theorem dX8_areTwoHands_13 : decode cX8_areTwoHands 13 = .ok (.ifCond .ne 5, 3) := dq_319.2.2.2.2.2.2.2.1
theorem dX8_areTwoHands_16 : decode cX8_areTwoHands 16 = .ok (.iconst 0, 1) := dq_319.2.2.2.2.2.2.2.2.1
theorem dX8_areTwoHands_17 : decode cX8_areTwoHands 17 = .ok (.ireturn, 1) := dq_319.2.2.2.2.2.2.2.2.2.1
theorem dX8_areTwoHands_18 : decode cX8_areTwoHands 18 = .ok (.aload_n 0, 1) := dq_319.2.2.2.2.2.2.2.2.2.2.1
theorem dX8_areTwoHands_19 : decode cX8_areTwoHands 19 = .ok (.getfield 15, 3) := dq_319.2.2.2.2.2.2.2.2.2.2.2
theorem dq_320 : decode cX8_areTwoHands 22 = .ok (.iload_n 1, 1) ∧ decode cX8_areTwoHands 23 = .ok (.iaload, 1) ∧ decode cX8_areTwoHands 24 = .ok (.aload_n 0, 1) ∧ decode cX8_areTwoHands 25 = .ok (.getfield 9, 3) ∧ decode cX8_areTwoHands 28 = .ok (.iload_n 2, 1) ∧ decode cX8_areTwoHands 29 = .ok (.iaload, 1) ∧ decode cX8_areTwoHands 30 = .ok (.imul, 1) ∧ decode cX8_areTwoHands 31 = .ok (.aload_n 0, 1) ∧ decode cX8_areTwoHands 32 = .ok (.getfield 15, 3) ∧ decode cX8_areTwoHands 35 = .ok (.iload_n 2, 1) ∧ decode cX8_areTwoHands 36 = .ok (.iaload, 1) ∧ decode cX8_areTwoHands 37 = .ok (.aload_n 0, 1) := by decide +kernel
theorem dX8_areTwoHands_22 : decode cX8_areTwoHands 22 = .ok (.iload_n 1, 1) := dq_320.1
theorem dX8_areTwoHands_23 : decode cX8_areTwoHands 23 = .ok (.iaload, 1) := dq_320.2.1
theorem dX8_areTwoHands_24 : decode cX8_areTwoHands 24 = .ok (.aload_n 0, 1) := dq_320.2.2.1
theorem dX8_areTwoHands_25 : decode cX8_areTwoHands 25 = .ok (.getfield 9, 3) := dq_320.2.2.2.1
theorem dX8_areTwoHands_28 : decode cX8_areTwoHands 28 = .ok (.iload_n 2, 1) := dq_320.2.2.2.2.1
theorem dX8_areTwoHands_29 : decode cX8_areTwoHands 29 = .ok (.iaload, 1) := dq_320.2.2.2.2.2.1
theorem dX8_areTwoHands_30 : decode cX8_areTwoHands 30 = .ok (.imul, 1) := dq_320.2.2.2.2.2.2.1
theorem dX8_areTwoHands_31 : decode cX8_areTwoHands 31 = .ok (.aload_n 0, 1) := dq_320.2.2.2.2.2.2.2.1
theorem dX8_areTwoHands_32 : decode cX8_areTwoHands 32 = .ok (.getfield 15, 3) := dq_320.2.2.2.2.2.2.2.2.1
theorem dX8_areTwoHands_35 : decode cX8_areTwoHands 35 = .ok (.iload_n 2, 1) := dq_320.2.2.2.2.2.2.2.2.2.1
theorem dX8_areTwoHands_36 : decode cX8_areTwoHands 36 = .ok (.iaload, 1) := dq_320.2.2.2.2.2.2.2.2.2.2.1
theorem dX8_areTwoHands_37 : decode cX8_areTwoHands 37 = .ok (.aload_n 0, 1) := dq_320.2.2.2.2.2.2.2.2.2.2.2
theorem dq_321 : decode cX8_areTwoHands 38 = .ok (.getfield 9, 3) ∧ decode cX8_areTwoHands 41 = .ok (.iload_n 1, 1) ∧ decode cX8_areTwoHands 42 = .ok (.iaload, 1) ∧ decode cX8_areTwoHands 43 = .ok (.imul, 1) ∧ decode cX8_areTwoHands 44 = .ok (.isub, 1) ∧ decode cX8_areTwoHands 45 = .ok (.invokestatic 77, 3) ∧ decode cX8_areTwoHands 48 = .ok (.istore_n 3, 1) ∧ decode cX8_areTwoHands 49 = .ok (.iload_n 3, 1) ∧ decode cX8_areTwoHands 50 = .ok (.bipush 10, 2) ∧ decode cX8_areTwoHands 52 = .ok (.imul, 1) ∧ decode cX8_areTwoHands 53 = .ok (.aload_n 0, 1) ∧ decode cX8_areTwoHands 54 = .ok (.getfield 49, 3) := by decide +kernel
theorem dX8_areTwoHands_38 : decode cX8_areTwoHands 38 = .ok (.getfield 9, 3) := dq_321.1
theorem dX8_areTwoHands_41 : decode cX8_areTwoHands 41 = .ok (.iload_n 1, 1) := dq_321.2.1
theorem dX8_areTwoHands_42 : decode cX8_areTwoHands 42 = .ok (.iaload, 1) := dq_321.2.2.1
theorem dX8_areTwoHands_43 : decode cX8_areTwoHands 43 = .ok (.imul, 1) := dq_321.2.2.2.1
theorem dX8_areTwoHands_44 : decode cX8_areTwoHands 44 = .ok (.isub, 1) := dq_321.2.2.2.2.1
theorem dX8_areTwoHands_45 : decode cX8_areTwoHands 45 = .ok (.invokestatic 77, 3) := dq_321.2.2.2.2.2.1
theorem dX8_areTwoHands_48 : decode cX8_areTwoHands 48 = .ok (.istore_n 3, 1) := dq_321.2.2.2.2.2.2.1
theorem dX8_areTwoHands_49 : decode cX8_areTwoHands 49 = .ok (.iload_n 3, 1) := dq_321.2.2.2.2.2.2.2.1
theorem dX8_areTwoHands_50 : decode cX8_areTwoHands 50 = .ok (.bipush 10, 2) := dq_321.2.2.2.2.2.2.2.2.1
theorem dX8_areTwoHands_52 : decode cX8_areTwoHands 52 = .ok (.imul, 1) := dq_321.2.2.2.2.2.2.2.2.2.1
theorem dX8_areTwoHands_53 : decode cX8_areTwoHands 53 = .ok (.aload_n 0, 1) := dq_321.2.2.2.2.2.2.2.2.2.2.1
theorem dX8_areTwoHands_54 : decode cX8_areTwoHands 54 = .ok (.getfield 49, 3) := dq_321.2.2.2.2.2.2.2.2.2.2.2
theorem dq_322 : decode cX8_areTwoHands 57 = .ok (.aload_n 0, 1) ∧ decode cX8_areTwoHands 58 = .ok (.getfield 9, 3) ∧ decode cX8_areTwoHands 61 = .ok (.iload_n 1, 1) ∧ decode cX8_areTwoHands 62 = .ok (.iaload, 1) ∧ decode cX8_areTwoHands 63 = .ok (.imul, 1) ∧ decode cX8_areTwoHands 64 = .ok (.aload_n 0, 1) ∧ decode cX8_areTwoHands 65 = .ok (.getfield 9, 3) ∧ decode cX8_areTwoHands 68 = .ok (.iload_n 2, 1) ∧ decode cX8_areTwoHands 69 = .ok (.iaload, 1) ∧ decode cX8_areTwoHands 70 = .ok (.imul, 1) ∧ decode cX8_areTwoHands 71 = .ok (.if_icmp .le 7, 3) ∧ decode cX8_areTwoHands 74 = .ok (.iconst 1, 1) := by decide +kernel
theorem dX8_areTwoHands_57 : decode cX8_areTwoHands 57 = .ok (.aload_n 0, 1) := dq_322.1
theorem dX8_areTwoHands_58 : decode cX8_areTwoHands 58 = .ok (.getfield 9, 3) := dq_322.2.1
theorem dX8_areTwoHands_61 : decode cX8_areTwoHands 61 = .ok (.iload_n 1, 1) := dq_322.2.2.1
theorem dX8_areTwoHands_62 : decode cX8_areTwoHands 62 = .ok (.iaload, 1) := dq_322.2.2.2.1
theorem dX8_areTwoHands_63 : decode cX8_areTwoHands 63 = .ok (.imul, 1) := dq_322.2.2.2.2.1
theorem dX8_areTwoHands_64 : decode cX8_areTwoHands 64 = .ok (.aload_n 0, 1) := dq_322.2.2.2.2.2.1
theorem dX8_areTwoHands_65 : decode cX8_areTwoHands 65 = .ok (.getfield 9, 3) := dq_322.2.2.2.2.2.2.1
theorem dX8_areTwoHands_68 : decode cX8_areTwoHands 68 = .ok (.iload_n 2, 1) := dq_322.2.2.2.2.2.2.2.1
theorem dX8_areTwoHands_69 : decode cX8_areTwoHands 69 = .ok (.iaload, 1) := dq_322.2.2.2.2.2.2.2.2.1
theorem dX8_areTwoHands_70 : decode cX8_areTwoHands 70 = .ok (.imul, 1) := dq_322.2.2.2.2.2.2.2.2.2.1
theorem dX8_areTwoHands_71 : decode cX8_areTwoHands 71 = .ok (.if_icmp .le 7, 3) := dq_322.2.2.2.2.2.2.2.2.2.2.1
theorem dX8_areTwoHands_74 : decode cX8_areTwoHands 74 = .ok (.iconst 1, 1) := dq_322.2.2.2.2.2.2.2.2.2.2.2
theorem dq_323 : decode cX8_areTwoHands 75 = .ok (.goto 4, 3) ∧ decode cX8_areTwoHands 78 = .ok (.iconst 0, 1) ∧ decode cX8_areTwoHands 79 = .ok (.ireturn, 1) := by decide +kernel
theorem dX8_areTwoHands_75 : decode cX8_areTwoHands 75 = .ok (.goto 4, 3) := dq_323.1
theorem dX8_areTwoHands_78 : decode cX8_areTwoHands 78 = .ok (.iconst 0, 1) := dq_323.2.1
theorem dX8_areTwoHands_79 : decode cX8_areTwoHands 79 = .ok (.ireturn, 1) := dq_323.2.2
theorem dq_324 : decode cX8_handOfLeast 0 = .ok (.iconst (-1), 1) ∧ decode cX8_handOfLeast 1 = .ok (.istore_n 2, 1) ∧ decode cX8_handOfLeast 2 = .ok (.iconst 0, 1) ∧ decode cX8_handOfLeast 3 = .ok (.istore_n 3, 1) ∧ decode cX8_handOfLeast 4 = .ok (.iload_n 3, 1) ∧ decode cX8_handOfLeast 5 = .ok (.aload_n 0, 1) ∧ decode cX8_handOfLeast 6 = .ok (.getfield 42, 3) ∧ decode cX8_handOfLeast 9 = .ok (.if_icmp .ge 52, 3) ∧ decode cX8_handOfLeast 12 = .ok (.iload_n 1, 1) ∧ decode cX8_handOfLeast 13 = .ok (.iload_n 3, 1) ∧ decode cX8_handOfLeast 14 = .ok (.invokestatic 70, 3) ∧ decode cX8_handOfLeast 17 = .ok (.ifCond .eq 38, 3) := by decide +kernel
theorem dX8_handOfLeast_0 : decode cX8_handOfLeast 0 = .ok (.iconst (-1), 1) := dq_324.1
theorem dX8_handOfLeast_1 : decode cX8_handOfLeast 1 = .ok (.istore_n 2, 1) := dq_324.2.1
theorem dX8_handOfLeast_2 : decode cX8_handOfLeast 2 = .ok (.iconst 0, 1) := dq_324.2.2.1
theorem dX8_handOfLeast_3 : decode cX8_handOfLeast 3 = .ok (.istore_n 3, 1) := dq_324.2.2.2.1
theorem dX8_handOfLeast_4 : decode cX8_handOfLeast 4 = .ok (.iload_n 3, 1) := dq_324.2.2.2.2.1
theorem dX8_handOfLeast_5 : decode cX8_handOfLeast 5 = .ok (.aload_n 0, 1) := dq_324.2.2.2.2.2.1
theorem dX8_handOfLeast_6 : decode cX8_handOfLeast 6 = .ok (.getfield 42, 3) := dq_324.2.2.2.2.2.2.1
theorem dX8_handOfLeast_9 : decode cX8_handOfLeast 9 = .ok (.if_icmp .ge 52, 3) := dq_324.2.2.2.2.2.2.2.1
theorem dX8_handOfLeast_12 : decode cX8_handOfLeast 12 = .ok (.iload_n 1, 1) := dq_324.2.2.2.2.2.2.2.2.1
theorem dX8_handOfLeast_13 : decode cX8_handOfLeast 13 = .ok (.iload_n 3, 1) := dq_324.2.2.2.2.2.2.2.2.2.1
theorem dX8_handOfLeast_14 : decode cX8_handOfLeast 14 = .ok (.invokestatic 70, 3) := dq_324.2.2.2.2.2.2.2.2.2.2.1
theorem dX8_handOfLeast_17 : decode cX8_handOfLeast 17 = .ok (.ifCond .eq 38, 3) := dq_324.2.2.2.2.2.2.2.2.2.2.2
theorem dq_325 : decode cX8_handOfLeast 20 = .ok (.iload_n 2, 1) ∧ decode cX8_handOfLeast 21 = .ok (.ifCond .lt 32, 3) ∧ decode cX8_handOfLeast 24 = .ok (.aload_n 0, 1) ∧ decode cX8_handOfLeast 25 = .ok (.getfield 15, 3) ∧ decode cX8_handOfLeast 28 = .ok (.iload_n 3, 1) ∧ decode cX8_handOfLeast 29 = .ok (.iaload, 1) ∧ decode cX8_handOfLeast 30 = .ok (.aload_n 0, 1) ∧ decode cX8_handOfLeast 31 = .ok (.getfield 9, 3) ∧ decode cX8_handOfLeast 34 = .ok (.iload_n 2, 1) ∧ decode cX8_handOfLeast 35 = .ok (.iaload, 1) ∧ decode cX8_handOfLeast 36 = .ok (.imul, 1) ∧ decode cX8_handOfLeast 37 = .ok (.aload_n 0, 1) := by decide +kernel
theorem dX8_handOfLeast_20 : decode cX8_handOfLeast 20 = .ok (.iload_n 2, 1) := dq_325.1
theorem dX8_handOfLeast_21 : decode cX8_handOfLeast 21 = .ok (.ifCond .lt 32, 3) := dq_325.2.1
theorem dX8_handOfLeast_24 : decode cX8_handOfLeast 24 = .ok (.aload_n 0, 1) := dq_325.2.2.1
theorem dX8_handOfLeast_25 : decode cX8_handOfLeast 25 = .ok (.getfield 15, 3) := dq_325.2.2.2.1
theorem dX8_handOfLeast_28 : decode cX8_handOfLeast 28 = .ok (.iload_n 3, 1) := dq_325.2.2.2.2.1
theorem dX8_handOfLeast_29 : decode cX8_handOfLeast 29 = .ok (.iaload, 1) := dq_325.2.2.2.2.2.1
theorem dX8_handOfLeast_30 : decode cX8_handOfLeast 30 = .ok (.aload_n 0, 1) := dq_325.2.2.2.2.2.2.1
theorem dX8_handOfLeast_31 : decode cX8_handOfLeast 31 = .ok (.getfield 9, 3) := dq_325.2.2.2.2.2.2.2.1
theorem dX8_handOfLeast_34 : decode cX8_handOfLeast 34 = .ok (.iload_n 2, 1) := dq_325.2.2.2.2.2.2.2.2.1
theorem dX8_handOfLeast_35 : decode cX8_handOfLeast 35 = .ok (.iaload, 1) := dq_325.2.2.2.2.2.2.2.2.2.1
theorem dX8_handOfLeast_36 : decode cX8_handOfLeast 36 = .ok (.imul, 1) := dq_325.2.2.2.2.2.2.2.2.2.2.1
theorem dX8_handOfLeast_37 : decode cX8_handOfLeast 37 = .ok (.aload_n 0, 1) := dq_325.2.2.2.2.2.2.2.2.2.2.2
theorem dq_326 : decode cX8_handOfLeast 38 = .ok (.getfield 15, 3) ∧ decode cX8_handOfLeast 41 = .ok (.iload_n 2, 1) ∧ decode cX8_handOfLeast 42 = .ok (.iaload, 1) ∧ decode cX8_handOfLeast 43 = .ok (.aload_n 0, 1) ∧ decode cX8_handOfLeast 44 = .ok (.getfield 9, 3) ∧ decode cX8_handOfLeast 47 = .ok (.iload_n 3, 1) ∧ decode cX8_handOfLeast 48 = .ok (.iaload, 1) ∧ decode cX8_handOfLeast 49 = .ok (.imul, 1) ∧ decode cX8_handOfLeast 50 = .ok (.if_icmp .ge 5, 3) ∧ decode cX8_handOfLeast 53 = .ok (.iload_n 3, 1) ∧ decode cX8_handOfLeast 54 = .ok (.istore_n 2, 1) ∧ decode cX8_handOfLeast 55 = .ok (.iinc 3 1, 3) := by decide +kernel
theorem dX8_handOfLeast_38 : decode cX8_handOfLeast 38 = .ok (.getfield 15, 3) := dq_326.1
theorem dX8_handOfLeast_41 : decode cX8_handOfLeast 41 = .ok (.iload_n 2, 1) := dq_326.2.1
theorem dX8_handOfLeast_42 : decode cX8_handOfLeast 42 = .ok (.iaload, 1) := dq_326.2.2.1
theorem dX8_handOfLeast_43 : decode cX8_handOfLeast 43 = .ok (.aload_n 0, 1) := dq_326.2.2.2.1
theorem dX8_handOfLeast_44 : decode cX8_handOfLeast 44 = .ok (.getfield 9, 3) := dq_326.2.2.2.2.1
theorem dX8_handOfLeast_47 : decode cX8_handOfLeast 47 = .ok (.iload_n 3, 1) := dq_326.2.2.2.2.2.1
theorem dX8_handOfLeast_48 : decode cX8_handOfLeast 48 = .ok (.iaload, 1) := dq_326.2.2.2.2.2.2.1
theorem dX8_handOfLeast_49 : decode cX8_handOfLeast 49 = .ok (.imul, 1) := dq_326.2.2.2.2.2.2.2.1
theorem dX8_handOfLeast_50 : decode cX8_handOfLeast 50 = .ok (.if_icmp .ge 5, 3) := dq_326.2.2.2.2.2.2.2.2.1
theorem dX8_handOfLeast_53 : decode cX8_handOfLeast 53 = .ok (.iload_n 3, 1) := dq_326.2.2.2.2.2.2.2.2.2.1
theorem dX8_handOfLeast_54 : decode cX8_handOfLeast 54 = .ok (.istore_n 2, 1) := dq_326.2.2.2.2.2.2.2.2.2.2.1
theorem dX8_handOfLeast_55 : decode cX8_handOfLeast 55 = .ok (.iinc 3 1, 3) := dq_326.2.2.2.2.2.2.2.2.2.2.2
theorem dq_327 : decode cX8_handOfLeast 58 = .ok (.goto (-54), 3) ∧ decode cX8_handOfLeast 61 = .ok (.iconst 0, 1) ∧ decode cX8_handOfLeast 62 = .ok (.istore_n 3, 1) ∧ decode cX8_handOfLeast 63 = .ok (.iconst 0, 1) ∧ decode cX8_handOfLeast 64 = .ok (.istore 4, 2) ∧ decode cX8_handOfLeast 66 = .ok (.iload 4, 2) ∧ decode cX8_handOfLeast 68 = .ok (.aload_n 0, 1) ∧ decode cX8_handOfLeast 69 = .ok (.getfield 42, 3) ∧ decode cX8_handOfLeast 72 = .ok (.if_icmp .ge 35, 3) ∧ decode cX8_handOfLeast 75 = .ok (.iload_n 1, 1) ∧ decode cX8_handOfLeast 76 = .ok (.iload 4, 2) ∧ decode cX8_handOfLeast 78 = .ok (.invokestatic 70, 3) := by decide +kernel
theorem dX8_handOfLeast_58 : decode cX8_handOfLeast 58 = .ok (.goto (-54), 3) := dq_327.1
theorem dX8_handOfLeast_61 : decode cX8_handOfLeast 61 = .ok (.iconst 0, 1) := dq_327.2.1
theorem dX8_handOfLeast_62 : decode cX8_handOfLeast 62 = .ok (.istore_n 3, 1) := dq_327.2.2.1
theorem dX8_handOfLeast_63 : decode cX8_handOfLeast 63 = .ok (.iconst 0, 1) := dq_327.2.2.2.1
theorem dX8_handOfLeast_64 : decode cX8_handOfLeast 64 = .ok (.istore 4, 2) := dq_327.2.2.2.2.1
theorem dX8_handOfLeast_66 : decode cX8_handOfLeast 66 = .ok (.iload 4, 2) := dq_327.2.2.2.2.2.1
theorem dX8_handOfLeast_68 : decode cX8_handOfLeast 68 = .ok (.aload_n 0, 1) := dq_327.2.2.2.2.2.2.1
theorem dX8_handOfLeast_69 : decode cX8_handOfLeast 69 = .ok (.getfield 42, 3) := dq_327.2.2.2.2.2.2.2.1
theorem dX8_handOfLeast_72 : decode cX8_handOfLeast 72 = .ok (.if_icmp .ge 35, 3) := dq_327.2.2.2.2.2.2.2.2.1
theorem dX8_handOfLeast_75 : decode cX8_handOfLeast 75 = .ok (.iload_n 1, 1) := dq_327.2.2.2.2.2.2.2.2.2.1
theorem dX8_handOfLeast_76 : decode cX8_handOfLeast 76 = .ok (.iload 4, 2) := dq_327.2.2.2.2.2.2.2.2.2.2.1
theorem dX8_handOfLeast_78 : decode cX8_handOfLeast 78 = .ok (.invokestatic 70, 3) := dq_327.2.2.2.2.2.2.2.2.2.2.2
theorem dq_328 : decode cX8_handOfLeast 81 = .ok (.ifCond .eq 20, 3) ∧ decode cX8_handOfLeast 84 = .ok (.aload_n 0, 1) ∧ decode cX8_handOfLeast 85 = .ok (.iload_n 2, 1) ∧ decode cX8_handOfLeast 86 = .ok (.iload 4, 2) ∧ decode cX8_handOfLeast 88 = .ok (.invokevirtual 83, 3) ∧ decode cX8_handOfLeast 91 = .ok (.ifCond .ne 10, 3) ∧ decode cX8_handOfLeast 94 = .ok (.iload_n 3, 1) ∧ decode cX8_handOfLeast 95 = .ok (.iconst 1, 1) ∧ decode cX8_handOfLeast 96 = .ok (.iload 4, 2) ∧ decode cX8_handOfLeast 98 = .ok (.ishl, 1) ∧ decode cX8_handOfLeast 99 = .ok (.ior, 1) ∧ decode cX8_handOfLeast 100 = .ok (.istore_n 3, 1) := by decide +kernel
theorem dX8_handOfLeast_81 : decode cX8_handOfLeast 81 = .ok (.ifCond .eq 20, 3) := dq_328.1
theorem dX8_handOfLeast_84 : decode cX8_handOfLeast 84 = .ok (.aload_n 0, 1) := dq_328.2.1
theorem dX8_handOfLeast_85 : decode cX8_handOfLeast 85 = .ok (.iload_n 2, 1) := dq_328.2.2.1
theorem dX8_handOfLeast_86 : decode cX8_handOfLeast 86 = .ok (.iload 4, 2) := dq_328.2.2.2.1
theorem dX8_handOfLeast_88 : decode cX8_handOfLeast 88 = .ok (.invokevirtual 83, 3) := dq_328.2.2.2.2.1
theorem dX8_handOfLeast_91 : decode cX8_handOfLeast 91 = .ok (.ifCond .ne 10, 3) := dq_328.2.2.2.2.2.1
theorem dX8_handOfLeast_94 : decode cX8_handOfLeast 94 = .ok (.iload_n 3, 1) := dq_328.2.2.2.2.2.2.1
theorem dX8_handOfLeast_95 : decode cX8_handOfLeast 95 = .ok (.iconst 1, 1) := dq_328.2.2.2.2.2.2.2.1
theorem dX8_handOfLeast_96 : decode cX8_handOfLeast 96 = .ok (.iload 4, 2) := dq_328.2.2.2.2.2.2.2.2.1
theorem dX8_handOfLeast_98 : decode cX8_handOfLeast 98 = .ok (.ishl, 1) := dq_328.2.2.2.2.2.2.2.2.2.1
theorem dX8_handOfLeast_99 : decode cX8_handOfLeast 99 = .ok (.ior, 1) := dq_328.2.2.2.2.2.2.2.2.2.2.1
theorem dX8_handOfLeast_100 : decode cX8_handOfLeast 100 = .ok (.istore_n 3, 1) := dq_328.2.2.2.2.2.2.2.2.2.2.2
theorem dq_329 : decode cX8_handOfLeast 101 = .ok (.iinc 4 1, 3) ∧ decode cX8_handOfLeast 104 = .ok (.goto (-38), 3) ∧ decode cX8_handOfLeast 107 = .ok (.iload_n 3, 1) ∧ decode cX8_handOfLeast 108 = .ok (.ireturn, 1) := by decide +kernel
theorem dX8_handOfLeast_101 : decode cX8_handOfLeast 101 = .ok (.iinc 4 1, 3) := dq_329.1
theorem dX8_handOfLeast_104 : decode cX8_handOfLeast 104 = .ok (.goto (-38), 3) := dq_329.2.1
theorem dX8_handOfLeast_107 : decode cX8_handOfLeast 107 = .ok (.iload_n 3, 1) := dq_329.2.2.1
theorem dX8_handOfLeast_108 : decode cX8_handOfLeast 108 = .ok (.ireturn, 1) := dq_329.2.2.2
theorem dq_330 : decode cX9_init 0 = .ok (.aload_n 0, 1) ∧ decode cX9_init 1 = .ok (.invokespecial 1, 3) ∧ decode cX9_init 4 = .ok (.aload_n 0, 1) ∧ decode cX9_init 5 = .ok (.sipush 400, 3) ∧ decode cX9_init 8 = .ok (.newarray .byte, 2) ∧ decode cX9_init 10 = .ok (.putfield 9, 3) ∧ decode cX9_init 13 = .ok (.return_, 1) := by decide +kernel
theorem dX9_init_0 : decode cX9_init 0 = .ok (.aload_n 0, 1) := dq_330.1
theorem dX9_init_1 : decode cX9_init 1 = .ok (.invokespecial 1, 3) := dq_330.2.1
theorem dX9_init_4 : decode cX9_init 4 = .ok (.aload_n 0, 1) := dq_330.2.2.1
theorem dX9_init_5 : decode cX9_init 5 = .ok (.sipush 400, 3) := dq_330.2.2.2.1
theorem dX9_init_8 : decode cX9_init 8 = .ok (.newarray .byte, 2) := dq_330.2.2.2.2.1
theorem dX9_init_10 : decode cX9_init 10 = .ok (.putfield 9, 3) := dq_330.2.2.2.2.2.1
theorem dX9_init_13 : decode cX9_init 13 = .ok (.return_, 1) := dq_330.2.2.2.2.2.2
theorem dq_331 : decode cX9_length 0 = .ok (.aload_n 0, 1) ∧ decode cX9_length 1 = .ok (.getfield 13, 3) ∧ decode cX9_length 4 = .ok (.ireturn, 1) := by decide +kernel
theorem dX9_length_0 : decode cX9_length 0 = .ok (.aload_n 0, 1) := dq_331.1
theorem dX9_length_1 : decode cX9_length 1 = .ok (.getfield 13, 3) := dq_331.2.1
theorem dX9_length_4 : decode cX9_length 4 = .ok (.ireturn, 1) := dq_331.2.2
theorem dq_332 : decode cX9_append 0 = .ok (.aload_n 0, 1) ∧ decode cX9_append 1 = .ok (.getfield 13, 3) ∧ decode cX9_append 4 = .ok (.bipush 8, 2) ∧ decode cX9_append 6 = .ok (.iadd, 1) ∧ decode cX9_append 7 = .ok (.sipush 400, 3) ∧ decode cX9_append 10 = .ok (.if_icmp .le 5, 3) ∧ decode cX9_append 13 = .ok (.iconst 0, 1) ∧ decode cX9_append 14 = .ok (.ireturn, 1) ∧ decode cX9_append 15 = .ok (.iconst 0, 1) ∧ decode cX9_append 16 = .ok (.istore_n 3, 1) ∧ decode cX9_append 17 = .ok (.iload_n 3, 1) ∧ decode cX9_append 18 = .ok (.bipush 8, 2) := by decide +kernel
theorem dX9_append_0 : decode cX9_append 0 = .ok (.aload_n 0, 1) := dq_332.1
theorem dX9_append_1 : decode cX9_append 1 = .ok (.getfield 13, 3) := dq_332.2.1
theorem dX9_append_4 : decode cX9_append 4 = .ok (.bipush 8, 2) := dq_332.2.2.1
theorem dX9_append_6 : decode cX9_append 6 = .ok (.iadd, 1) := dq_332.2.2.2.1
theorem dX9_append_7 : decode cX9_append 7 = .ok (.sipush 400, 3) := dq_332.2.2.2.2.1
theorem dX9_append_10 : decode cX9_append 10 = .ok (.if_icmp .le 5, 3) := dq_332.2.2.2.2.2.1
theorem dX9_append_13 : decode cX9_append 13 = .ok (.iconst 0, 1) := dq_332.2.2.2.2.2.2.1
theorem dX9_append_14 : decode cX9_append 14 = .ok (.ireturn, 1) := dq_332.2.2.2.2.2.2.2.1
theorem dX9_append_15 : decode cX9_append 15 = .ok (.iconst 0, 1) := dq_332.2.2.2.2.2.2.2.2.1
theorem dX9_append_16 : decode cX9_append 16 = .ok (.istore_n 3, 1) := dq_332.2.2.2.2.2.2.2.2.2.1
theorem dX9_append_17 : decode cX9_append 17 = .ok (.iload_n 3, 1) := dq_332.2.2.2.2.2.2.2.2.2.2.1
theorem dX9_append_18 : decode cX9_append 18 = .ok (.bipush 8, 2) := dq_332.2.2.2.2.2.2.2.2.2.2.2
theorem dq_333 : decode cX9_append 20 = .ok (.if_icmp .ge 31, 3) ∧ decode cX9_append 23 = .ok (.aload_n 0, 1) ∧ decode cX9_append 24 = .ok (.getfield 9, 3) ∧ decode cX9_append 27 = .ok (.aload_n 0, 1) ∧ decode cX9_append 28 = .ok (.getfield 13, 3) ∧ decode cX9_append 31 = .ok (.iload_n 3, 1) ∧ decode cX9_append 32 = .ok (.iadd, 1) ∧ decode cX9_append 33 = .ok (.lload_n 1, 1) ∧ decode cX9_append 34 = .ok (.bipush 56, 2) ∧ decode cX9_append 36 = .ok (.bipush 8, 2) ∧ decode cX9_append 38 = .ok (.iload_n 3, 1) ∧ decode cX9_append 39 = .ok (.imul, 1) := by decide +kernel
theorem dX9_append_20 : decode cX9_append 20 = .ok (.if_icmp .ge 31, 3) := dq_333.1
theorem dX9_append_23 : decode cX9_append 23 = .ok (.aload_n 0, 1) := dq_333.2.1
theorem dX9_append_24 : decode cX9_append 24 = .ok (.getfield 9, 3) := dq_333.2.2.1
theorem dX9_append_27 : decode cX9_append 27 = .ok (.aload_n 0, 1) := dq_333.2.2.2.1
theorem dX9_append_28 : decode cX9_append 28 = .ok (.getfield 13, 3) := dq_333.2.2.2.2.1
theorem dX9_append_31 : decode cX9_append 31 = .ok (.iload_n 3, 1) := dq_333.2.2.2.2.2.1
theorem dX9_append_32 : decode cX9_append 32 = .ok (.iadd, 1) := dq_333.2.2.2.2.2.2.1
theorem dX9_append_33 : decode cX9_append 33 = .ok (.lload_n 1, 1) := dq_333.2.2.2.2.2.2.2.1
theorem dX9_append_34 : decode cX9_append 34 = .ok (.bipush 56, 2) := dq_333.2.2.2.2.2.2.2.2.1
theorem dX9_append_36 : decode cX9_append 36 = .ok (.bipush 8, 2) := dq_333.2.2.2.2.2.2.2.2.2.1
theorem dX9_append_38 : decode cX9_append 38 = .ok (.iload_n 3, 1) := dq_333.2.2.2.2.2.2.2.2.2.2.1
theorem dX9_append_39 : decode cX9_append 39 = .ok (.imul, 1) := dq_333.2.2.2.2.2.2.2.2.2.2.2
theorem dq_334 : decode cX9_append 40 = .ok (.isub, 1) ∧ decode cX9_append 41 = .ok (.lushr, 1) ∧ decode cX9_append 42 = .ok (.l2i, 1) ∧ decode cX9_append 43 = .ok (.i2b, 1) ∧ decode cX9_append 44 = .ok (.bastore, 1) ∧ decode cX9_append 45 = .ok (.iinc 3 1, 3) ∧ decode cX9_append 48 = .ok (.goto (-31), 3) ∧ decode cX9_append 51 = .ok (.aload_n 0, 1) ∧ decode cX9_append 52 = .ok (.dup, 1) ∧ decode cX9_append 53 = .ok (.getfield 13, 3) ∧ decode cX9_append 56 = .ok (.bipush 8, 2) ∧ decode cX9_append 58 = .ok (.iadd, 1) := by decide +kernel
theorem dX9_append_40 : decode cX9_append 40 = .ok (.isub, 1) := dq_334.1
theorem dX9_append_41 : decode cX9_append 41 = .ok (.lushr, 1) := dq_334.2.1
theorem dX9_append_42 : decode cX9_append 42 = .ok (.l2i, 1) := dq_334.2.2.1
theorem dX9_append_43 : decode cX9_append 43 = .ok (.i2b, 1) := dq_334.2.2.2.1
theorem dX9_append_44 : decode cX9_append 44 = .ok (.bastore, 1) := dq_334.2.2.2.2.1
theorem dX9_append_45 : decode cX9_append 45 = .ok (.iinc 3 1, 3) := dq_334.2.2.2.2.2.1
theorem dX9_append_48 : decode cX9_append 48 = .ok (.goto (-31), 3) := dq_334.2.2.2.2.2.2.1
theorem dX9_append_51 : decode cX9_append 51 = .ok (.aload_n 0, 1) := dq_334.2.2.2.2.2.2.2.1
theorem dX9_append_52 : decode cX9_append 52 = .ok (.dup, 1) := dq_334.2.2.2.2.2.2.2.2.1
theorem dX9_append_53 : decode cX9_append 53 = .ok (.getfield 13, 3) := dq_334.2.2.2.2.2.2.2.2.2.1
theorem dX9_append_56 : decode cX9_append 56 = .ok (.bipush 8, 2) := dq_334.2.2.2.2.2.2.2.2.2.2.1
theorem dX9_append_58 : decode cX9_append 58 = .ok (.iadd, 1) := dq_334.2.2.2.2.2.2.2.2.2.2.2
theorem dq_335 : decode cX9_append 59 = .ok (.putfield 13, 3) ∧ decode cX9_append 62 = .ok (.iconst 1, 1) ∧ decode cX9_append 63 = .ok (.ireturn, 1) := by decide +kernel
theorem dX9_append_59 : decode cX9_append 59 = .ok (.putfield 13, 3) := dq_335.1
theorem dX9_append_62 : decode cX9_append 62 = .ok (.iconst 1, 1) := dq_335.2.1
theorem dX9_append_63 : decode cX9_append 63 = .ok (.ireturn, 1) := dq_335.2.2
theorem dq_336 : decode cX9_keep 0 = .ok (.iload_n 1, 1) ∧ decode cX9_keep 1 = .ok (.ifCond .lt 11, 3) ∧ decode cX9_keep 4 = .ok (.iload_n 1, 1) ∧ decode cX9_keep 5 = .ok (.aload_n 0, 1) ∧ decode cX9_keep 6 = .ok (.getfield 13, 3) ∧ decode cX9_keep 9 = .ok (.if_icmp .le 5, 3) ∧ decode cX9_keep 12 = .ok (.iconst 0, 1) ∧ decode cX9_keep 13 = .ok (.ireturn, 1) ∧ decode cX9_keep 14 = .ok (.aload_n 0, 1) ∧ decode cX9_keep 15 = .ok (.iload_n 1, 1) ∧ decode cX9_keep 16 = .ok (.putfield 13, 3) ∧ decode cX9_keep 19 = .ok (.iconst 1, 1) := by decide +kernel
theorem dX9_keep_0 : decode cX9_keep 0 = .ok (.iload_n 1, 1) := dq_336.1
theorem dX9_keep_1 : decode cX9_keep 1 = .ok (.ifCond .lt 11, 3) := dq_336.2.1
theorem dX9_keep_4 : decode cX9_keep 4 = .ok (.iload_n 1, 1) := dq_336.2.2.1
theorem dX9_keep_5 : decode cX9_keep 5 = .ok (.aload_n 0, 1) := dq_336.2.2.2.1
theorem dX9_keep_6 : decode cX9_keep 6 = .ok (.getfield 13, 3) := dq_336.2.2.2.2.1
theorem dX9_keep_9 : decode cX9_keep 9 = .ok (.if_icmp .le 5, 3) := dq_336.2.2.2.2.2.1
theorem dX9_keep_12 : decode cX9_keep 12 = .ok (.iconst 0, 1) := dq_336.2.2.2.2.2.2.1
theorem dX9_keep_13 : decode cX9_keep 13 = .ok (.ireturn, 1) := dq_336.2.2.2.2.2.2.2.1
theorem dX9_keep_14 : decode cX9_keep 14 = .ok (.aload_n 0, 1) := dq_336.2.2.2.2.2.2.2.2.1
theorem dX9_keep_15 : decode cX9_keep 15 = .ok (.iload_n 1, 1) := dq_336.2.2.2.2.2.2.2.2.2.1
theorem dX9_keep_16 : decode cX9_keep 16 = .ok (.putfield 13, 3) := dq_336.2.2.2.2.2.2.2.2.2.2.1
theorem dX9_keep_19 : decode cX9_keep 19 = .ok (.iconst 1, 1) := dq_336.2.2.2.2.2.2.2.2.2.2.2
theorem dX9_keep_20 : decode cX9_keep 20 = .ok (.ireturn, 1) := by decide +kernel
theorem dq_338 : decode cX9_rewind 0 = .ok (.aload_n 0, 1) ∧ decode cX9_rewind 1 = .ok (.iconst 0, 1) ∧ decode cX9_rewind 2 = .ok (.putfield 17, 3) ∧ decode cX9_rewind 5 = .ok (.aload_n 0, 1) ∧ decode cX9_rewind 6 = .ok (.iconst 0, 1) ∧ decode cX9_rewind 7 = .ok (.putfield 20, 3) ∧ decode cX9_rewind 10 = .ok (.return_, 1) := by decide +kernel
theorem dX9_rewind_0 : decode cX9_rewind 0 = .ok (.aload_n 0, 1) := dq_338.1
theorem dX9_rewind_1 : decode cX9_rewind 1 = .ok (.iconst 0, 1) := dq_338.2.1
theorem dX9_rewind_2 : decode cX9_rewind 2 = .ok (.putfield 17, 3) := dq_338.2.2.1
theorem dX9_rewind_5 : decode cX9_rewind 5 = .ok (.aload_n 0, 1) := dq_338.2.2.2.1
theorem dX9_rewind_6 : decode cX9_rewind 6 = .ok (.iconst 0, 1) := dq_338.2.2.2.2.1
theorem dX9_rewind_7 : decode cX9_rewind 7 = .ok (.putfield 20, 3) := dq_338.2.2.2.2.2.1
theorem dX9_rewind_10 : decode cX9_rewind 10 = .ok (.return_, 1) := dq_338.2.2.2.2.2.2
theorem dq_339 : decode cX9_scan 0 = .ok (.aload_n 0, 1) ∧ decode cX9_scan 1 = .ok (.getfield 20, 3) ∧ decode cX9_scan 4 = .ok (.aload_n 0, 1) ∧ decode cX9_scan 5 = .ok (.getfield 13, 3) ∧ decode cX9_scan 8 = .ok (.if_icmp .ge 30, 3) ∧ decode cX9_scan 11 = .ok (.aload_n 0, 1) ∧ decode cX9_scan 12 = .ok (.getfield 9, 3) ∧ decode cX9_scan 15 = .ok (.aload_n 0, 1) ∧ decode cX9_scan 16 = .ok (.getfield 20, 3) ∧ decode cX9_scan 19 = .ok (.baload, 1) ∧ decode cX9_scan 20 = .ok (.bipush 32, 2) ∧ decode cX9_scan 22 = .ok (.if_icmp .ne 16, 3) := by decide +kernel
theorem dX9_scan_0 : decode cX9_scan 0 = .ok (.aload_n 0, 1) := dq_339.1
theorem dX9_scan_1 : decode cX9_scan 1 = .ok (.getfield 20, 3) := dq_339.2.1
theorem dX9_scan_4 : decode cX9_scan 4 = .ok (.aload_n 0, 1) := dq_339.2.2.1
theorem dX9_scan_5 : decode cX9_scan 5 = .ok (.getfield 13, 3) := dq_339.2.2.2.1
theorem dX9_scan_8 : decode cX9_scan 8 = .ok (.if_icmp .ge 30, 3) := dq_339.2.2.2.2.1
theorem dX9_scan_11 : decode cX9_scan 11 = .ok (.aload_n 0, 1) := dq_339.2.2.2.2.2.1
theorem dX9_scan_12 : decode cX9_scan 12 = .ok (.getfield 9, 3) := dq_339.2.2.2.2.2.2.1
theorem dX9_scan_15 : decode cX9_scan 15 = .ok (.aload_n 0, 1) := dq_339.2.2.2.2.2.2.2.1
theorem dX9_scan_16 : decode cX9_scan 16 = .ok (.getfield 20, 3) := dq_339.2.2.2.2.2.2.2.2.1
theorem dX9_scan_19 : decode cX9_scan 19 = .ok (.baload, 1) := dq_339.2.2.2.2.2.2.2.2.2.1
theorem dX9_scan_20 : decode cX9_scan 20 = .ok (.bipush 32, 2) := dq_339.2.2.2.2.2.2.2.2.2.2.1
theorem dX9_scan_22 : decode cX9_scan 22 = .ok (.if_icmp .ne 16, 3) := dq_339.2.2.2.2.2.2.2.2.2.2.2
theorem dq_340 : decode cX9_scan 25 = .ok (.aload_n 0, 1) ∧ decode cX9_scan 26 = .ok (.dup, 1) ∧ decode cX9_scan 27 = .ok (.getfield 20, 3) ∧ decode cX9_scan 30 = .ok (.iconst 1, 1) ∧ decode cX9_scan 31 = .ok (.iadd, 1) ∧ decode cX9_scan 32 = .ok (.putfield 20, 3) ∧ decode cX9_scan 35 = .ok (.goto (-35), 3) ∧ decode cX9_scan 38 = .ok (.aload_n 0, 1) ∧ decode cX9_scan 39 = .ok (.aload_n 0, 1) ∧ decode cX9_scan 40 = .ok (.getfield 20, 3) ∧ decode cX9_scan 43 = .ok (.putfield 17, 3) ∧ decode cX9_scan 46 = .ok (.aload_n 0, 1) := by decide +kernel
theorem dX9_scan_25 : decode cX9_scan 25 = .ok (.aload_n 0, 1) := dq_340.1
theorem dX9_scan_26 : decode cX9_scan 26 = .ok (.dup, 1) := dq_340.2.1
theorem dX9_scan_27 : decode cX9_scan 27 = .ok (.getfield 20, 3) := dq_340.2.2.1
theorem dX9_scan_30 : decode cX9_scan 30 = .ok (.iconst 1, 1) := dq_340.2.2.2.1
theorem dX9_scan_31 : decode cX9_scan 31 = .ok (.iadd, 1) := dq_340.2.2.2.2.1
theorem dX9_scan_32 : decode cX9_scan 32 = .ok (.putfield 20, 3) := dq_340.2.2.2.2.2.1
theorem dX9_scan_35 : decode cX9_scan 35 = .ok (.goto (-35), 3) := dq_340.2.2.2.2.2.2.1
theorem dX9_scan_38 : decode cX9_scan 38 = .ok (.aload_n 0, 1) := dq_340.2.2.2.2.2.2.2.1
theorem dX9_scan_39 : decode cX9_scan 39 = .ok (.aload_n 0, 1) := dq_340.2.2.2.2.2.2.2.2.1
theorem dX9_scan_40 : decode cX9_scan 40 = .ok (.getfield 20, 3) := dq_340.2.2.2.2.2.2.2.2.2.1
theorem dX9_scan_43 : decode cX9_scan 43 = .ok (.putfield 17, 3) := dq_340.2.2.2.2.2.2.2.2.2.2.1
theorem dX9_scan_46 : decode cX9_scan 46 = .ok (.aload_n 0, 1) := dq_340.2.2.2.2.2.2.2.2.2.2.2
theorem dq_341 : decode cX9_scan 47 = .ok (.getfield 20, 3) ∧ decode cX9_scan 50 = .ok (.aload_n 0, 1) ∧ decode cX9_scan 51 = .ok (.getfield 13, 3) ∧ decode cX9_scan 54 = .ok (.if_icmp .lt 5, 3) ∧ decode cX9_scan 57 = .ok (.iconst 1, 1) ∧ decode cX9_scan 58 = .ok (.ireturn, 1) ∧ decode cX9_scan 59 = .ok (.aload_n 0, 1) ∧ decode cX9_scan 60 = .ok (.getfield 9, 3) ∧ decode cX9_scan 63 = .ok (.aload_n 0, 1) ∧ decode cX9_scan 64 = .ok (.getfield 20, 3) ∧ decode cX9_scan 67 = .ok (.baload, 1) ∧ decode cX9_scan 68 = .ok (.invokestatic 23, 3) := by decide +kernel
theorem dX9_scan_47 : decode cX9_scan 47 = .ok (.getfield 20, 3) := dq_341.1
theorem dX9_scan_50 : decode cX9_scan 50 = .ok (.aload_n 0, 1) := dq_341.2.1
theorem dX9_scan_51 : decode cX9_scan 51 = .ok (.getfield 13, 3) := dq_341.2.2.1
theorem dX9_scan_54 : decode cX9_scan 54 = .ok (.if_icmp .lt 5, 3) := dq_341.2.2.2.1
theorem dX9_scan_57 : decode cX9_scan 57 = .ok (.iconst 1, 1) := dq_341.2.2.2.2.1
theorem dX9_scan_58 : decode cX9_scan 58 = .ok (.ireturn, 1) := dq_341.2.2.2.2.2.1
theorem dX9_scan_59 : decode cX9_scan 59 = .ok (.aload_n 0, 1) := dq_341.2.2.2.2.2.2.1
theorem dX9_scan_60 : decode cX9_scan 60 = .ok (.getfield 9, 3) := dq_341.2.2.2.2.2.2.2.1
theorem dX9_scan_63 : decode cX9_scan 63 = .ok (.aload_n 0, 1) := dq_341.2.2.2.2.2.2.2.2.1
theorem dX9_scan_64 : decode cX9_scan 64 = .ok (.getfield 20, 3) := dq_341.2.2.2.2.2.2.2.2.2.1
theorem dX9_scan_67 : decode cX9_scan 67 = .ok (.baload, 1) := dq_341.2.2.2.2.2.2.2.2.2.2.1
theorem dX9_scan_68 : decode cX9_scan 68 = .ok (.invokestatic 23, 3) := dq_341.2.2.2.2.2.2.2.2.2.2.2
theorem dq_342 : decode cX9_scan 71 = .ok (.istore_n 1, 1) ∧ decode cX9_scan 72 = .ok (.aload_n 0, 1) ∧ decode cX9_scan 73 = .ok (.dup, 1) ∧ decode cX9_scan 74 = .ok (.getfield 20, 3) ∧ decode cX9_scan 77 = .ok (.iconst 1, 1) ∧ decode cX9_scan 78 = .ok (.iadd, 1) ∧ decode cX9_scan 79 = .ok (.putfield 20, 3) ∧ decode cX9_scan 82 = .ok (.iload_n 1, 1) ∧ decode cX9_scan 83 = .ok (.iconst 2, 1) ∧ decode cX9_scan 84 = .ok (.if_icmp .eq 8, 3) ∧ decode cX9_scan 87 = .ok (.iload_n 1, 1) ∧ decode cX9_scan 88 = .ok (.iconst 3, 1) := by decide +kernel
theorem dX9_scan_71 : decode cX9_scan 71 = .ok (.istore_n 1, 1) := dq_342.1
theorem dX9_scan_72 : decode cX9_scan 72 = .ok (.aload_n 0, 1) := dq_342.2.1
theorem dX9_scan_73 : decode cX9_scan 73 = .ok (.dup, 1) := dq_342.2.2.1
theorem dX9_scan_74 : decode cX9_scan 74 = .ok (.getfield 20, 3) := dq_342.2.2.2.1
theorem dX9_scan_77 : decode cX9_scan 77 = .ok (.iconst 1, 1) := dq_342.2.2.2.2.1
theorem dX9_scan_78 : decode cX9_scan 78 = .ok (.iadd, 1) := dq_342.2.2.2.2.2.1
theorem dX9_scan_79 : decode cX9_scan 79 = .ok (.putfield 20, 3) := dq_342.2.2.2.2.2.2.1
theorem dX9_scan_82 : decode cX9_scan 82 = .ok (.iload_n 1, 1) := dq_342.2.2.2.2.2.2.2.1
theorem dX9_scan_83 : decode cX9_scan 83 = .ok (.iconst 2, 1) := dq_342.2.2.2.2.2.2.2.2.1
theorem dX9_scan_84 : decode cX9_scan 84 = .ok (.if_icmp .eq 8, 3) := dq_342.2.2.2.2.2.2.2.2.2.1
theorem dX9_scan_87 : decode cX9_scan 87 = .ok (.iload_n 1, 1) := dq_342.2.2.2.2.2.2.2.2.2.2.1
theorem dX9_scan_88 : decode cX9_scan 88 = .ok (.iconst 3, 1) := dq_342.2.2.2.2.2.2.2.2.2.2.2
theorem dq_343 : decode cX9_scan 89 = .ok (.if_icmp .ne 7, 3) ∧ decode cX9_scan 92 = .ok (.iconst 1, 1) ∧ decode cX9_scan 93 = .ok (.goto 4, 3) ∧ decode cX9_scan 96 = .ok (.iconst 0, 1) ∧ decode cX9_scan 97 = .ok (.istore_n 2, 1) ∧ decode cX9_scan 98 = .ok (.iload_n 2, 1) ∧ decode cX9_scan 99 = .ok (.ifCond .eq 43, 3) ∧ decode cX9_scan 102 = .ok (.aload_n 0, 1) ∧ decode cX9_scan 103 = .ok (.getfield 20, 3) ∧ decode cX9_scan 106 = .ok (.aload_n 0, 1) ∧ decode cX9_scan 107 = .ok (.getfield 13, 3) ∧ decode cX9_scan 110 = .ok (.if_icmp .ge 32, 3) := by decide +kernel
theorem dX9_scan_89 : decode cX9_scan 89 = .ok (.if_icmp .ne 7, 3) := dq_343.1
theorem dX9_scan_92 : decode cX9_scan 92 = .ok (.iconst 1, 1) := dq_343.2.1
theorem dX9_scan_93 : decode cX9_scan 93 = .ok (.goto 4, 3) := dq_343.2.2.1
theorem dX9_scan_96 : decode cX9_scan 96 = .ok (.iconst 0, 1) := dq_343.2.2.2.1
theorem dX9_scan_97 : decode cX9_scan 97 = .ok (.istore_n 2, 1) := dq_343.2.2.2.2.1
theorem dX9_scan_98 : decode cX9_scan 98 = .ok (.iload_n 2, 1) := dq_343.2.2.2.2.2.1
theorem dX9_scan_99 : decode cX9_scan 99 = .ok (.ifCond .eq 43, 3) := dq_343.2.2.2.2.2.2.1
theorem dX9_scan_102 : decode cX9_scan 102 = .ok (.aload_n 0, 1) := dq_343.2.2.2.2.2.2.2.1
theorem dX9_scan_103 : decode cX9_scan 103 = .ok (.getfield 20, 3) := dq_343.2.2.2.2.2.2.2.2.1
theorem dX9_scan_106 : decode cX9_scan 106 = .ok (.aload_n 0, 1) := dq_343.2.2.2.2.2.2.2.2.2.1
theorem dX9_scan_107 : decode cX9_scan 107 = .ok (.getfield 13, 3) := dq_343.2.2.2.2.2.2.2.2.2.2.1
theorem dX9_scan_110 : decode cX9_scan 110 = .ok (.if_icmp .ge 32, 3) := dq_343.2.2.2.2.2.2.2.2.2.2.2
theorem dq_344 : decode cX9_scan 113 = .ok (.aload_n 0, 1) ∧ decode cX9_scan 114 = .ok (.getfield 9, 3) ∧ decode cX9_scan 117 = .ok (.aload_n 0, 1) ∧ decode cX9_scan 118 = .ok (.getfield 20, 3) ∧ decode cX9_scan 121 = .ok (.baload, 1) ∧ decode cX9_scan 122 = .ok (.invokestatic 23, 3) ∧ decode cX9_scan 125 = .ok (.iload_n 1, 1) ∧ decode cX9_scan 126 = .ok (.if_icmp .ne 16, 3) ∧ decode cX9_scan 129 = .ok (.aload_n 0, 1) ∧ decode cX9_scan 130 = .ok (.dup, 1) ∧ decode cX9_scan 131 = .ok (.getfield 20, 3) ∧ decode cX9_scan 134 = .ok (.iconst 1, 1) := by decide +kernel
theorem dX9_scan_113 : decode cX9_scan 113 = .ok (.aload_n 0, 1) := dq_344.1
theorem dX9_scan_114 : decode cX9_scan 114 = .ok (.getfield 9, 3) := dq_344.2.1
theorem dX9_scan_117 : decode cX9_scan 117 = .ok (.aload_n 0, 1) := dq_344.2.2.1
theorem dX9_scan_118 : decode cX9_scan 118 = .ok (.getfield 20, 3) := dq_344.2.2.2.1
theorem dX9_scan_121 : decode cX9_scan 121 = .ok (.baload, 1) := dq_344.2.2.2.2.1
theorem dX9_scan_122 : decode cX9_scan 122 = .ok (.invokestatic 23, 3) := dq_344.2.2.2.2.2.1
theorem dX9_scan_125 : decode cX9_scan 125 = .ok (.iload_n 1, 1) := dq_344.2.2.2.2.2.2.1
theorem dX9_scan_126 : decode cX9_scan 126 = .ok (.if_icmp .ne 16, 3) := dq_344.2.2.2.2.2.2.2.1
theorem dX9_scan_129 : decode cX9_scan 129 = .ok (.aload_n 0, 1) := dq_344.2.2.2.2.2.2.2.2.1
theorem dX9_scan_130 : decode cX9_scan 130 = .ok (.dup, 1) := dq_344.2.2.2.2.2.2.2.2.2.1
theorem dX9_scan_131 : decode cX9_scan 131 = .ok (.getfield 20, 3) := dq_344.2.2.2.2.2.2.2.2.2.2.1
theorem dX9_scan_134 : decode cX9_scan 134 = .ok (.iconst 1, 1) := dq_344.2.2.2.2.2.2.2.2.2.2.2
theorem dq_345 : decode cX9_scan 135 = .ok (.iadd, 1) ∧ decode cX9_scan 136 = .ok (.putfield 20, 3) ∧ decode cX9_scan 139 = .ok (.goto (-41), 3) ∧ decode cX9_scan 142 = .ok (.iload_n 1, 1) ∧ decode cX9_scan 143 = .ok (.iconst 3, 1) ∧ decode cX9_scan 144 = .ok (.if_icmp .ne 20, 3) ∧ decode cX9_scan 147 = .ok (.aload_n 0, 1) ∧ decode cX9_scan 148 = .ok (.getfield 20, 3) ∧ decode cX9_scan 151 = .ok (.aload_n 0, 1) ∧ decode cX9_scan 152 = .ok (.getfield 17, 3) ∧ decode cX9_scan 155 = .ok (.isub, 1) ∧ decode cX9_scan 156 = .ok (.iconst 3, 1) := by decide +kernel
theorem dX9_scan_135 : decode cX9_scan 135 = .ok (.iadd, 1) := dq_345.1
theorem dX9_scan_136 : decode cX9_scan 136 = .ok (.putfield 20, 3) := dq_345.2.1
theorem dX9_scan_139 : decode cX9_scan 139 = .ok (.goto (-41), 3) := dq_345.2.2.1
theorem dX9_scan_142 : decode cX9_scan 142 = .ok (.iload_n 1, 1) := dq_345.2.2.2.1
theorem dX9_scan_143 : decode cX9_scan 143 = .ok (.iconst 3, 1) := dq_345.2.2.2.2.1
theorem dX9_scan_144 : decode cX9_scan 144 = .ok (.if_icmp .ne 20, 3) := dq_345.2.2.2.2.2.1
theorem dX9_scan_147 : decode cX9_scan 147 = .ok (.aload_n 0, 1) := dq_345.2.2.2.2.2.2.1
theorem dX9_scan_148 : decode cX9_scan 148 = .ok (.getfield 20, 3) := dq_345.2.2.2.2.2.2.2.1
theorem dX9_scan_151 : decode cX9_scan 151 = .ok (.aload_n 0, 1) := dq_345.2.2.2.2.2.2.2.2.1
theorem dX9_scan_152 : decode cX9_scan 152 = .ok (.getfield 17, 3) := dq_345.2.2.2.2.2.2.2.2.2.1
theorem dX9_scan_155 : decode cX9_scan 155 = .ok (.isub, 1) := dq_345.2.2.2.2.2.2.2.2.2.2.1
theorem dX9_scan_156 : decode cX9_scan 156 = .ok (.iconst 3, 1) := dq_345.2.2.2.2.2.2.2.2.2.2.2
theorem dq_346 : decode cX9_scan 157 = .ok (.if_icmp .le 7, 3) ∧ decode cX9_scan 160 = .ok (.iconst 0, 1) ∧ decode cX9_scan 161 = .ok (.goto 4, 3) ∧ decode cX9_scan 164 = .ok (.iload_n 1, 1) ∧ decode cX9_scan 165 = .ok (.ireturn, 1) := by decide +kernel
theorem dX9_scan_157 : decode cX9_scan 157 = .ok (.if_icmp .le 7, 3) := dq_346.1
theorem dX9_scan_160 : decode cX9_scan 160 = .ok (.iconst 0, 1) := dq_346.2.1
theorem dX9_scan_161 : decode cX9_scan 161 = .ok (.goto 4, 3) := dq_346.2.2.1
theorem dX9_scan_164 : decode cX9_scan 164 = .ok (.iload_n 1, 1) := dq_346.2.2.2.1
theorem dX9_scan_165 : decode cX9_scan 165 = .ok (.ireturn, 1) := dq_346.2.2.2.2
theorem dq_347 : decode cX9_kindOf 0 = .ok (.iload_n 0, 1) ∧ decode cX9_kindOf 1 = .ok (.bipush 97, 2) ∧ decode cX9_kindOf 3 = .ok (.if_icmp .lt 11, 3) ∧ decode cX9_kindOf 6 = .ok (.iload_n 0, 1) ∧ decode cX9_kindOf 7 = .ok (.bipush 122, 2) ∧ decode cX9_kindOf 9 = .ok (.if_icmp .gt 5, 3) ∧ decode cX9_kindOf 12 = .ok (.iconst 2, 1) ∧ decode cX9_kindOf 13 = .ok (.ireturn, 1) ∧ decode cX9_kindOf 14 = .ok (.iload_n 0, 1) ∧ decode cX9_kindOf 15 = .ok (.bipush 48, 2) ∧ decode cX9_kindOf 17 = .ok (.if_icmp .lt 11, 3) ∧ decode cX9_kindOf 20 = .ok (.iload_n 0, 1) := by decide +kernel
theorem dX9_kindOf_0 : decode cX9_kindOf 0 = .ok (.iload_n 0, 1) := dq_347.1
theorem dX9_kindOf_1 : decode cX9_kindOf 1 = .ok (.bipush 97, 2) := dq_347.2.1
theorem dX9_kindOf_3 : decode cX9_kindOf 3 = .ok (.if_icmp .lt 11, 3) := dq_347.2.2.1
theorem dX9_kindOf_6 : decode cX9_kindOf 6 = .ok (.iload_n 0, 1) := dq_347.2.2.2.1
theorem dX9_kindOf_7 : decode cX9_kindOf 7 = .ok (.bipush 122, 2) := dq_347.2.2.2.2.1
theorem dX9_kindOf_9 : decode cX9_kindOf 9 = .ok (.if_icmp .gt 5, 3) := dq_347.2.2.2.2.2.1
theorem dX9_kindOf_12 : decode cX9_kindOf 12 = .ok (.iconst 2, 1) := dq_347.2.2.2.2.2.2.1
theorem dX9_kindOf_13 : decode cX9_kindOf 13 = .ok (.ireturn, 1) := dq_347.2.2.2.2.2.2.2.1
theorem dX9_kindOf_14 : decode cX9_kindOf 14 = .ok (.iload_n 0, 1) := dq_347.2.2.2.2.2.2.2.2.1
theorem dX9_kindOf_15 : decode cX9_kindOf 15 = .ok (.bipush 48, 2) := dq_347.2.2.2.2.2.2.2.2.2.1
theorem dX9_kindOf_17 : decode cX9_kindOf 17 = .ok (.if_icmp .lt 11, 3) := dq_347.2.2.2.2.2.2.2.2.2.2.1
theorem dX9_kindOf_20 : decode cX9_kindOf 20 = .ok (.iload_n 0, 1) := dq_347.2.2.2.2.2.2.2.2.2.2.2
theorem dq_348 : decode cX9_kindOf 21 = .ok (.bipush 57, 2) ∧ decode cX9_kindOf 23 = .ok (.if_icmp .gt 5, 3) ∧ decode cX9_kindOf 26 = .ok (.iconst 3, 1) ∧ decode cX9_kindOf 27 = .ok (.ireturn, 1) ∧ decode cX9_kindOf 28 = .ok (.iload_n 0, 1) ∧ decode cX9_kindOf 29 = .ok (.bipush 59, 2) ∧ decode cX9_kindOf 31 = .ok (.if_icmp .ne 7, 3) ∧ decode cX9_kindOf 34 = .ok (.iconst 4, 1) ∧ decode cX9_kindOf 35 = .ok (.goto 4, 3) ∧ decode cX9_kindOf 38 = .ok (.iconst 0, 1) ∧ decode cX9_kindOf 39 = .ok (.ireturn, 1) := by decide +kernel
theorem dX9_kindOf_21 : decode cX9_kindOf 21 = .ok (.bipush 57, 2) := dq_348.1
theorem dX9_kindOf_23 : decode cX9_kindOf 23 = .ok (.if_icmp .gt 5, 3) := dq_348.2.1
theorem dX9_kindOf_26 : decode cX9_kindOf 26 = .ok (.iconst 3, 1) := dq_348.2.2.1
theorem dX9_kindOf_27 : decode cX9_kindOf 27 = .ok (.ireturn, 1) := dq_348.2.2.2.1
theorem dX9_kindOf_28 : decode cX9_kindOf 28 = .ok (.iload_n 0, 1) := dq_348.2.2.2.2.1
theorem dX9_kindOf_29 : decode cX9_kindOf 29 = .ok (.bipush 59, 2) := dq_348.2.2.2.2.2.1
theorem dX9_kindOf_31 : decode cX9_kindOf 31 = .ok (.if_icmp .ne 7, 3) := dq_348.2.2.2.2.2.2.1
theorem dX9_kindOf_34 : decode cX9_kindOf 34 = .ok (.iconst 4, 1) := dq_348.2.2.2.2.2.2.2.1
theorem dX9_kindOf_35 : decode cX9_kindOf 35 = .ok (.goto 4, 3) := dq_348.2.2.2.2.2.2.2.2.1
theorem dX9_kindOf_38 : decode cX9_kindOf 38 = .ok (.iconst 0, 1) := dq_348.2.2.2.2.2.2.2.2.2.1
theorem dX9_kindOf_39 : decode cX9_kindOf 39 = .ok (.ireturn, 1) := dq_348.2.2.2.2.2.2.2.2.2.2
theorem dq_349 : decode cX9_tokenPlace 0 = .ok (.aload_n 0, 1) ∧ decode cX9_tokenPlace 1 = .ok (.getfield 17, 3) ∧ decode cX9_tokenPlace 4 = .ok (.ireturn, 1) := by decide +kernel
theorem dX9_tokenPlace_0 : decode cX9_tokenPlace 0 = .ok (.aload_n 0, 1) := dq_349.1
theorem dX9_tokenPlace_1 : decode cX9_tokenPlace 1 = .ok (.getfield 17, 3) := dq_349.2.1
theorem dX9_tokenPlace_4 : decode cX9_tokenPlace 4 = .ok (.ireturn, 1) := dq_349.2.2
theorem dq_350 : decode cX9_tokenLength 0 = .ok (.aload_n 0, 1) ∧ decode cX9_tokenLength 1 = .ok (.getfield 20, 3) ∧ decode cX9_tokenLength 4 = .ok (.aload_n 0, 1) ∧ decode cX9_tokenLength 5 = .ok (.getfield 17, 3) ∧ decode cX9_tokenLength 8 = .ok (.isub, 1) ∧ decode cX9_tokenLength 9 = .ok (.ireturn, 1) := by decide +kernel
theorem dX9_tokenLength_0 : decode cX9_tokenLength 0 = .ok (.aload_n 0, 1) := dq_350.1
theorem dX9_tokenLength_1 : decode cX9_tokenLength 1 = .ok (.getfield 20, 3) := dq_350.2.1
theorem dX9_tokenLength_4 : decode cX9_tokenLength 4 = .ok (.aload_n 0, 1) := dq_350.2.2.1
theorem dX9_tokenLength_5 : decode cX9_tokenLength 5 = .ok (.getfield 17, 3) := dq_350.2.2.2.1
theorem dX9_tokenLength_8 : decode cX9_tokenLength 8 = .ok (.isub, 1) := dq_350.2.2.2.2.1
theorem dX9_tokenLength_9 : decode cX9_tokenLength 9 = .ok (.ireturn, 1) := dq_350.2.2.2.2.2
theorem dq_351 : decode cX9_tokenByte 0 = .ok (.aload_n 0, 1) ∧ decode cX9_tokenByte 1 = .ok (.getfield 17, 3) ∧ decode cX9_tokenByte 4 = .ok (.iload_n 1, 1) ∧ decode cX9_tokenByte 5 = .ok (.iadd, 1) ∧ decode cX9_tokenByte 6 = .ok (.istore_n 2, 1) ∧ decode cX9_tokenByte 7 = .ok (.iload_n 1, 1) ∧ decode cX9_tokenByte 8 = .ok (.ifCond .lt 32, 3) ∧ decode cX9_tokenByte 11 = .ok (.iload_n 2, 1) ∧ decode cX9_tokenByte 12 = .ok (.ifCond .lt 28, 3) ∧ decode cX9_tokenByte 15 = .ok (.iload_n 2, 1) ∧ decode cX9_tokenByte 16 = .ok (.aload_n 0, 1) ∧ decode cX9_tokenByte 17 = .ok (.getfield 20, 3) := by decide +kernel
theorem dX9_tokenByte_0 : decode cX9_tokenByte 0 = .ok (.aload_n 0, 1) := dq_351.1
theorem dX9_tokenByte_1 : decode cX9_tokenByte 1 = .ok (.getfield 17, 3) := dq_351.2.1
theorem dX9_tokenByte_4 : decode cX9_tokenByte 4 = .ok (.iload_n 1, 1) := dq_351.2.2.1
theorem dX9_tokenByte_5 : decode cX9_tokenByte 5 = .ok (.iadd, 1) := dq_351.2.2.2.1
theorem dX9_tokenByte_6 : decode cX9_tokenByte 6 = .ok (.istore_n 2, 1) := dq_351.2.2.2.2.1
theorem dX9_tokenByte_7 : decode cX9_tokenByte 7 = .ok (.iload_n 1, 1) := dq_351.2.2.2.2.2.1
theorem dX9_tokenByte_8 : decode cX9_tokenByte 8 = .ok (.ifCond .lt 32, 3) := dq_351.2.2.2.2.2.2.1
theorem dX9_tokenByte_11 : decode cX9_tokenByte 11 = .ok (.iload_n 2, 1) := dq_351.2.2.2.2.2.2.2.1
theorem dX9_tokenByte_12 : decode cX9_tokenByte 12 = .ok (.ifCond .lt 28, 3) := dq_351.2.2.2.2.2.2.2.2.1
theorem dX9_tokenByte_15 : decode cX9_tokenByte 15 = .ok (.iload_n 2, 1) := dq_351.2.2.2.2.2.2.2.2.2.1
theorem dX9_tokenByte_16 : decode cX9_tokenByte 16 = .ok (.aload_n 0, 1) := dq_351.2.2.2.2.2.2.2.2.2.2.1
theorem dX9_tokenByte_17 : decode cX9_tokenByte 17 = .ok (.getfield 20, 3) := dq_351.2.2.2.2.2.2.2.2.2.2.2
theorem dq_352 : decode cX9_tokenByte 20 = .ok (.if_icmp .ge 20, 3) ∧ decode cX9_tokenByte 23 = .ok (.iload_n 2, 1) ∧ decode cX9_tokenByte 24 = .ok (.aload_n 0, 1) ∧ decode cX9_tokenByte 25 = .ok (.getfield 13, 3) ∧ decode cX9_tokenByte 28 = .ok (.if_icmp .ge 12, 3) ∧ decode cX9_tokenByte 31 = .ok (.aload_n 0, 1) ∧ decode cX9_tokenByte 32 = .ok (.getfield 9, 3) ∧ decode cX9_tokenByte 35 = .ok (.iload_n 2, 1) ∧ decode cX9_tokenByte 36 = .ok (.baload, 1) ∧ decode cX9_tokenByte 37 = .ok (.goto 4, 3) ∧ decode cX9_tokenByte 40 = .ok (.iconst 0, 1) ∧ decode cX9_tokenByte 41 = .ok (.ireturn, 1) := by decide +kernel
theorem dX9_tokenByte_20 : decode cX9_tokenByte 20 = .ok (.if_icmp .ge 20, 3) := dq_352.1
theorem dX9_tokenByte_23 : decode cX9_tokenByte 23 = .ok (.iload_n 2, 1) := dq_352.2.1
theorem dX9_tokenByte_24 : decode cX9_tokenByte 24 = .ok (.aload_n 0, 1) := dq_352.2.2.1
theorem dX9_tokenByte_25 : decode cX9_tokenByte 25 = .ok (.getfield 13, 3) := dq_352.2.2.2.1
theorem dX9_tokenByte_28 : decode cX9_tokenByte 28 = .ok (.if_icmp .ge 12, 3) := dq_352.2.2.2.2.1
theorem dX9_tokenByte_31 : decode cX9_tokenByte 31 = .ok (.aload_n 0, 1) := dq_352.2.2.2.2.2.1
theorem dX9_tokenByte_32 : decode cX9_tokenByte 32 = .ok (.getfield 9, 3) := dq_352.2.2.2.2.2.2.1
theorem dX9_tokenByte_35 : decode cX9_tokenByte 35 = .ok (.iload_n 2, 1) := dq_352.2.2.2.2.2.2.2.1
theorem dX9_tokenByte_36 : decode cX9_tokenByte 36 = .ok (.baload, 1) := dq_352.2.2.2.2.2.2.2.2.1
theorem dX9_tokenByte_37 : decode cX9_tokenByte 37 = .ok (.goto 4, 3) := dq_352.2.2.2.2.2.2.2.2.2.1
theorem dX9_tokenByte_40 : decode cX9_tokenByte 40 = .ok (.iconst 0, 1) := dq_352.2.2.2.2.2.2.2.2.2.2.1
theorem dX9_tokenByte_41 : decode cX9_tokenByte 41 = .ok (.ireturn, 1) := dq_352.2.2.2.2.2.2.2.2.2.2.2
theorem dq_353 : decode cX9_tokenNumber 0 = .ok (.iconst 0, 1) ∧ decode cX9_tokenNumber 1 = .ok (.istore_n 1, 1) ∧ decode cX9_tokenNumber 2 = .ok (.iconst 0, 1) ∧ decode cX9_tokenNumber 3 = .ok (.istore_n 2, 1) ∧ decode cX9_tokenNumber 4 = .ok (.iload_n 2, 1) ∧ decode cX9_tokenNumber 5 = .ok (.aload_n 0, 1) ∧ decode cX9_tokenNumber 6 = .ok (.invokevirtual 27, 3) ∧ decode cX9_tokenNumber 9 = .ok (.if_icmp .ge 23, 3) ∧ decode cX9_tokenNumber 12 = .ok (.iload_n 1, 1) ∧ decode cX9_tokenNumber 13 = .ok (.bipush 10, 2) ∧ decode cX9_tokenNumber 15 = .ok (.imul, 1) ∧ decode cX9_tokenNumber 16 = .ok (.aload_n 0, 1) := by decide +kernel
theorem dX9_tokenNumber_0 : decode cX9_tokenNumber 0 = .ok (.iconst 0, 1) := dq_353.1
theorem dX9_tokenNumber_1 : decode cX9_tokenNumber 1 = .ok (.istore_n 1, 1) := dq_353.2.1
theorem dX9_tokenNumber_2 : decode cX9_tokenNumber 2 = .ok (.iconst 0, 1) := dq_353.2.2.1
theorem dX9_tokenNumber_3 : decode cX9_tokenNumber 3 = .ok (.istore_n 2, 1) := dq_353.2.2.2.1
theorem dX9_tokenNumber_4 : decode cX9_tokenNumber 4 = .ok (.iload_n 2, 1) := dq_353.2.2.2.2.1
theorem dX9_tokenNumber_5 : decode cX9_tokenNumber 5 = .ok (.aload_n 0, 1) := dq_353.2.2.2.2.2.1
theorem dX9_tokenNumber_6 : decode cX9_tokenNumber 6 = .ok (.invokevirtual 27, 3) := dq_353.2.2.2.2.2.2.1
theorem dX9_tokenNumber_9 : decode cX9_tokenNumber 9 = .ok (.if_icmp .ge 23, 3) := dq_353.2.2.2.2.2.2.2.1
theorem dX9_tokenNumber_12 : decode cX9_tokenNumber 12 = .ok (.iload_n 1, 1) := dq_353.2.2.2.2.2.2.2.2.1
theorem dX9_tokenNumber_13 : decode cX9_tokenNumber 13 = .ok (.bipush 10, 2) := dq_353.2.2.2.2.2.2.2.2.2.1
theorem dX9_tokenNumber_15 : decode cX9_tokenNumber 15 = .ok (.imul, 1) := dq_353.2.2.2.2.2.2.2.2.2.2.1
theorem dX9_tokenNumber_16 : decode cX9_tokenNumber 16 = .ok (.aload_n 0, 1) := dq_353.2.2.2.2.2.2.2.2.2.2.2
theorem dq_354 : decode cX9_tokenNumber 17 = .ok (.iload_n 2, 1) ∧ decode cX9_tokenNumber 18 = .ok (.invokevirtual 31, 3) ∧ decode cX9_tokenNumber 21 = .ok (.iadd, 1) ∧ decode cX9_tokenNumber 22 = .ok (.bipush 48, 2) ∧ decode cX9_tokenNumber 24 = .ok (.isub, 1) ∧ decode cX9_tokenNumber 25 = .ok (.istore_n 1, 1) ∧ decode cX9_tokenNumber 26 = .ok (.iinc 2 1, 3) ∧ decode cX9_tokenNumber 29 = .ok (.goto (-25), 3) ∧ decode cX9_tokenNumber 32 = .ok (.iload_n 1, 1) ∧ decode cX9_tokenNumber 33 = .ok (.ireturn, 1) := by decide +kernel
theorem dX9_tokenNumber_17 : decode cX9_tokenNumber 17 = .ok (.iload_n 2, 1) := dq_354.1
theorem dX9_tokenNumber_18 : decode cX9_tokenNumber 18 = .ok (.invokevirtual 31, 3) := dq_354.2.1
theorem dX9_tokenNumber_21 : decode cX9_tokenNumber 21 = .ok (.iadd, 1) := dq_354.2.2.1
theorem dX9_tokenNumber_22 : decode cX9_tokenNumber 22 = .ok (.bipush 48, 2) := dq_354.2.2.2.1
theorem dX9_tokenNumber_24 : decode cX9_tokenNumber 24 = .ok (.isub, 1) := dq_354.2.2.2.2.1
theorem dX9_tokenNumber_25 : decode cX9_tokenNumber 25 = .ok (.istore_n 1, 1) := dq_354.2.2.2.2.2.1
theorem dX9_tokenNumber_26 : decode cX9_tokenNumber 26 = .ok (.iinc 2 1, 3) := dq_354.2.2.2.2.2.2.1
theorem dX9_tokenNumber_29 : decode cX9_tokenNumber 29 = .ok (.goto (-25), 3) := dq_354.2.2.2.2.2.2.2.1
theorem dX9_tokenNumber_32 : decode cX9_tokenNumber 32 = .ok (.iload_n 1, 1) := dq_354.2.2.2.2.2.2.2.2.1
theorem dX9_tokenNumber_33 : decode cX9_tokenNumber 33 = .ok (.ireturn, 1) := dq_354.2.2.2.2.2.2.2.2.2
theorem dq_355 : decode cX9_tokenIs 0 = .ok (.aload_n 0, 1) ∧ decode cX9_tokenIs 1 = .ok (.invokevirtual 27, 3) ∧ decode cX9_tokenIs 4 = .ok (.aload_n 1, 1) ∧ decode cX9_tokenIs 5 = .ok (.invokevirtual 34, 3) ∧ decode cX9_tokenIs 8 = .ok (.if_icmp .eq 5, 3) ∧ decode cX9_tokenIs 11 = .ok (.iconst 0, 1) ∧ decode cX9_tokenIs 12 = .ok (.ireturn, 1) ∧ decode cX9_tokenIs 13 = .ok (.iconst 0, 1) ∧ decode cX9_tokenIs 14 = .ok (.istore_n 2, 1) ∧ decode cX9_tokenIs 15 = .ok (.iload_n 2, 1) ∧ decode cX9_tokenIs 16 = .ok (.aload_n 1, 1) ∧ decode cX9_tokenIs 17 = .ok (.invokevirtual 34, 3) := by decide +kernel
theorem dX9_tokenIs_0 : decode cX9_tokenIs 0 = .ok (.aload_n 0, 1) := dq_355.1
theorem dX9_tokenIs_1 : decode cX9_tokenIs 1 = .ok (.invokevirtual 27, 3) := dq_355.2.1
theorem dX9_tokenIs_4 : decode cX9_tokenIs 4 = .ok (.aload_n 1, 1) := dq_355.2.2.1
theorem dX9_tokenIs_5 : decode cX9_tokenIs 5 = .ok (.invokevirtual 34, 3) := dq_355.2.2.2.1
theorem dX9_tokenIs_8 : decode cX9_tokenIs 8 = .ok (.if_icmp .eq 5, 3) := dq_355.2.2.2.2.1
theorem dX9_tokenIs_11 : decode cX9_tokenIs 11 = .ok (.iconst 0, 1) := dq_355.2.2.2.2.2.1
theorem dX9_tokenIs_12 : decode cX9_tokenIs 12 = .ok (.ireturn, 1) := dq_355.2.2.2.2.2.2.1
theorem dX9_tokenIs_13 : decode cX9_tokenIs 13 = .ok (.iconst 0, 1) := dq_355.2.2.2.2.2.2.2.1
theorem dX9_tokenIs_14 : decode cX9_tokenIs 14 = .ok (.istore_n 2, 1) := dq_355.2.2.2.2.2.2.2.2.1
theorem dX9_tokenIs_15 : decode cX9_tokenIs 15 = .ok (.iload_n 2, 1) := dq_355.2.2.2.2.2.2.2.2.2.1
theorem dX9_tokenIs_16 : decode cX9_tokenIs 16 = .ok (.aload_n 1, 1) := dq_355.2.2.2.2.2.2.2.2.2.2.1
theorem dX9_tokenIs_17 : decode cX9_tokenIs 17 = .ok (.invokevirtual 34, 3) := dq_355.2.2.2.2.2.2.2.2.2.2.2
theorem dq_356 : decode cX9_tokenIs 20 = .ok (.if_icmp .ge 24, 3) ∧ decode cX9_tokenIs 23 = .ok (.aload_n 0, 1) ∧ decode cX9_tokenIs 24 = .ok (.iload_n 2, 1) ∧ decode cX9_tokenIs 25 = .ok (.invokevirtual 31, 3) ∧ decode cX9_tokenIs 28 = .ok (.aload_n 1, 1) ∧ decode cX9_tokenIs 29 = .ok (.iload_n 2, 1) ∧ decode cX9_tokenIs 30 = .ok (.invokevirtual 38, 3) ∧ decode cX9_tokenIs 33 = .ok (.if_icmp .eq 5, 3) ∧ decode cX9_tokenIs 36 = .ok (.iconst 0, 1) ∧ decode cX9_tokenIs 37 = .ok (.ireturn, 1) ∧ decode cX9_tokenIs 38 = .ok (.iinc 2 1, 3) ∧ decode cX9_tokenIs 41 = .ok (.goto (-26), 3) := by decide +kernel
theorem dX9_tokenIs_20 : decode cX9_tokenIs 20 = .ok (.if_icmp .ge 24, 3) := dq_356.1
theorem dX9_tokenIs_23 : decode cX9_tokenIs 23 = .ok (.aload_n 0, 1) := dq_356.2.1
theorem dX9_tokenIs_24 : decode cX9_tokenIs 24 = .ok (.iload_n 2, 1) := dq_356.2.2.1
theorem dX9_tokenIs_25 : decode cX9_tokenIs 25 = .ok (.invokevirtual 31, 3) := dq_356.2.2.2.1
theorem dX9_tokenIs_28 : decode cX9_tokenIs 28 = .ok (.aload_n 1, 1) := dq_356.2.2.2.2.1
theorem dX9_tokenIs_29 : decode cX9_tokenIs 29 = .ok (.iload_n 2, 1) := dq_356.2.2.2.2.2.1
theorem dX9_tokenIs_30 : decode cX9_tokenIs 30 = .ok (.invokevirtual 38, 3) := dq_356.2.2.2.2.2.2.1
theorem dX9_tokenIs_33 : decode cX9_tokenIs 33 = .ok (.if_icmp .eq 5, 3) := dq_356.2.2.2.2.2.2.2.1
theorem dX9_tokenIs_36 : decode cX9_tokenIs 36 = .ok (.iconst 0, 1) := dq_356.2.2.2.2.2.2.2.2.1
theorem dX9_tokenIs_37 : decode cX9_tokenIs 37 = .ok (.ireturn, 1) := dq_356.2.2.2.2.2.2.2.2.2.1
theorem dX9_tokenIs_38 : decode cX9_tokenIs 38 = .ok (.iinc 2 1, 3) := dq_356.2.2.2.2.2.2.2.2.2.2.1
theorem dX9_tokenIs_41 : decode cX9_tokenIs 41 = .ok (.goto (-26), 3) := dq_356.2.2.2.2.2.2.2.2.2.2.2
theorem dq_357 : decode cX9_tokenIs 44 = .ok (.iconst 1, 1) ∧ decode cX9_tokenIs 45 = .ok (.ireturn, 1) := by decide +kernel
theorem dX9_tokenIs_44 : decode cX9_tokenIs 44 = .ok (.iconst 1, 1) := dq_357.1
theorem dX9_tokenIs_45 : decode cX9_tokenIs 45 = .ok (.ireturn, 1) := dq_357.2
theorem dq_358 : decode cX10_init 0 = .ok (.aload_n 0, 1) ∧ decode cX10_init 1 = .ok (.invokespecial 1, 3) ∧ decode cX10_init 4 = .ok (.aload_n 0, 1) ∧ decode cX10_init 5 = .ok (.new 7, 3) ∧ decode cX10_init 8 = .ok (.dup, 1) ∧ decode cX10_init 9 = .ok (.invokespecial 9, 3) ∧ decode cX10_init 12 = .ok (.putfield 10, 3) ∧ decode cX10_init 15 = .ok (.aload_n 0, 1) ∧ decode cX10_init 16 = .ok (.new 16, 3) ∧ decode cX10_init 19 = .ok (.dup, 1) ∧ decode cX10_init 20 = .ok (.invokespecial 18, 3) ∧ decode cX10_init 23 = .ok (.putfield 19, 3) := by decide +kernel
theorem dX10_init_0 : decode cX10_init 0 = .ok (.aload_n 0, 1) := dq_358.1
theorem dX10_init_1 : decode cX10_init 1 = .ok (.invokespecial 1, 3) := dq_358.2.1
theorem dX10_init_4 : decode cX10_init 4 = .ok (.aload_n 0, 1) := dq_358.2.2.1
theorem dX10_init_5 : decode cX10_init 5 = .ok (.new 7, 3) := dq_358.2.2.2.1
theorem dX10_init_8 : decode cX10_init 8 = .ok (.dup, 1) := dq_358.2.2.2.2.1
theorem dX10_init_9 : decode cX10_init 9 = .ok (.invokespecial 9, 3) := dq_358.2.2.2.2.2.1
theorem dX10_init_12 : decode cX10_init 12 = .ok (.putfield 10, 3) := dq_358.2.2.2.2.2.2.1
theorem dX10_init_15 : decode cX10_init 15 = .ok (.aload_n 0, 1) := dq_358.2.2.2.2.2.2.2.1
theorem dX10_init_16 : decode cX10_init 16 = .ok (.new 16, 3) := dq_358.2.2.2.2.2.2.2.2.1
theorem dX10_init_19 : decode cX10_init 19 = .ok (.dup, 1) := dq_358.2.2.2.2.2.2.2.2.2.1
theorem dX10_init_20 : decode cX10_init 20 = .ok (.invokespecial 18, 3) := dq_358.2.2.2.2.2.2.2.2.2.2.1
theorem dX10_init_23 : decode cX10_init 23 = .ok (.putfield 19, 3) := dq_358.2.2.2.2.2.2.2.2.2.2.2
theorem dq_359 : decode cX10_init 26 = .ok (.aload_n 0, 1) ∧ decode cX10_init 27 = .ok (.new 16, 3) ∧ decode cX10_init 30 = .ok (.dup, 1) ∧ decode cX10_init 31 = .ok (.invokespecial 18, 3) ∧ decode cX10_init 34 = .ok (.putfield 23, 3) ∧ decode cX10_init 37 = .ok (.aload_n 0, 1) ∧ decode cX10_init 38 = .ok (.new 26, 3) ∧ decode cX10_init 41 = .ok (.dup, 1) ∧ decode cX10_init 42 = .ok (.aload_n 0, 1) ∧ decode cX10_init 43 = .ok (.getfield 10, 3) ∧ decode cX10_init 46 = .ok (.aload_n 0, 1) ∧ decode cX10_init 47 = .ok (.getfield 23, 3) := by decide +kernel
theorem dX10_init_26 : decode cX10_init 26 = .ok (.aload_n 0, 1) := dq_359.1
theorem dX10_init_27 : decode cX10_init 27 = .ok (.new 16, 3) := dq_359.2.1
theorem dX10_init_30 : decode cX10_init 30 = .ok (.dup, 1) := dq_359.2.2.1
theorem dX10_init_31 : decode cX10_init 31 = .ok (.invokespecial 18, 3) := dq_359.2.2.2.1
theorem dX10_init_34 : decode cX10_init 34 = .ok (.putfield 23, 3) := dq_359.2.2.2.2.1
theorem dX10_init_37 : decode cX10_init 37 = .ok (.aload_n 0, 1) := dq_359.2.2.2.2.2.1
theorem dX10_init_38 : decode cX10_init 38 = .ok (.new 26, 3) := dq_359.2.2.2.2.2.2.1
theorem dX10_init_41 : decode cX10_init 41 = .ok (.dup, 1) := dq_359.2.2.2.2.2.2.2.1
theorem dX10_init_42 : decode cX10_init 42 = .ok (.aload_n 0, 1) := dq_359.2.2.2.2.2.2.2.2.1
theorem dX10_init_43 : decode cX10_init 43 = .ok (.getfield 10, 3) := dq_359.2.2.2.2.2.2.2.2.2.1
theorem dX10_init_46 : decode cX10_init 46 = .ok (.aload_n 0, 1) := dq_359.2.2.2.2.2.2.2.2.2.2.1
theorem dX10_init_47 : decode cX10_init 47 = .ok (.getfield 23, 3) := dq_359.2.2.2.2.2.2.2.2.2.2.2
theorem dq_360 : decode cX10_init 50 = .ok (.invokespecial 28, 3) ∧ decode cX10_init 53 = .ok (.putfield 31, 3) ∧ decode cX10_init 56 = .ok (.aload_n 0, 1) ∧ decode cX10_init 57 = .ok (.new 35, 3) ∧ decode cX10_init 60 = .ok (.dup, 1) ∧ decode cX10_init 61 = .ok (.invokespecial 37, 3) ∧ decode cX10_init 64 = .ok (.putfield 38, 3) ∧ decode cX10_init 67 = .ok (.aload_n 0, 1) ∧ decode cX10_init 68 = .ok (.new 42, 3) ∧ decode cX10_init 71 = .ok (.dup, 1) ∧ decode cX10_init 72 = .ok (.invokespecial 44, 3) ∧ decode cX10_init 75 = .ok (.putfield 45, 3) := by decide +kernel
theorem dX10_init_50 : decode cX10_init 50 = .ok (.invokespecial 28, 3) := dq_360.1
theorem dX10_init_53 : decode cX10_init 53 = .ok (.putfield 31, 3) := dq_360.2.1
theorem dX10_init_56 : decode cX10_init 56 = .ok (.aload_n 0, 1) := dq_360.2.2.1
theorem dX10_init_57 : decode cX10_init 57 = .ok (.new 35, 3) := dq_360.2.2.2.1
theorem dX10_init_60 : decode cX10_init 60 = .ok (.dup, 1) := dq_360.2.2.2.2.1
theorem dX10_init_61 : decode cX10_init 61 = .ok (.invokespecial 37, 3) := dq_360.2.2.2.2.2.1
theorem dX10_init_64 : decode cX10_init 64 = .ok (.putfield 38, 3) := dq_360.2.2.2.2.2.2.1
theorem dX10_init_67 : decode cX10_init 67 = .ok (.aload_n 0, 1) := dq_360.2.2.2.2.2.2.2.1
theorem dX10_init_68 : decode cX10_init 68 = .ok (.new 42, 3) := dq_360.2.2.2.2.2.2.2.2.1
theorem dX10_init_71 : decode cX10_init 71 = .ok (.dup, 1) := dq_360.2.2.2.2.2.2.2.2.2.1
theorem dX10_init_72 : decode cX10_init 72 = .ok (.invokespecial 44, 3) := dq_360.2.2.2.2.2.2.2.2.2.2.1
theorem dX10_init_75 : decode cX10_init 75 = .ok (.putfield 45, 3) := dq_360.2.2.2.2.2.2.2.2.2.2.2
theorem dq_361 : decode cX10_init 78 = .ok (.aload_n 0, 1) ∧ decode cX10_init 79 = .ok (.new 49, 3) ∧ decode cX10_init 82 = .ok (.dup, 1) ∧ decode cX10_init 83 = .ok (.invokespecial 51, 3) ∧ decode cX10_init 86 = .ok (.putfield 52, 3) ∧ decode cX10_init 89 = .ok (.aload_n 0, 1) ∧ decode cX10_init 90 = .ok (.new 56, 3) ∧ decode cX10_init 93 = .ok (.dup, 1) ∧ decode cX10_init 94 = .ok (.invokespecial 58, 3) ∧ decode cX10_init 97 = .ok (.putfield 59, 3) ∧ decode cX10_init 100 = .ok (.aload_n 0, 1) ∧ decode cX10_init 101 = .ok (.new 63, 3) := by decide +kernel
theorem dX10_init_78 : decode cX10_init 78 = .ok (.aload_n 0, 1) := dq_361.1
theorem dX10_init_79 : decode cX10_init 79 = .ok (.new 49, 3) := dq_361.2.1
theorem dX10_init_82 : decode cX10_init 82 = .ok (.dup, 1) := dq_361.2.2.1
theorem dX10_init_83 : decode cX10_init 83 = .ok (.invokespecial 51, 3) := dq_361.2.2.2.1
theorem dX10_init_86 : decode cX10_init 86 = .ok (.putfield 52, 3) := dq_361.2.2.2.2.1
theorem dX10_init_89 : decode cX10_init 89 = .ok (.aload_n 0, 1) := dq_361.2.2.2.2.2.1
theorem dX10_init_90 : decode cX10_init 90 = .ok (.new 56, 3) := dq_361.2.2.2.2.2.2.1
theorem dX10_init_93 : decode cX10_init 93 = .ok (.dup, 1) := dq_361.2.2.2.2.2.2.2.1
theorem dX10_init_94 : decode cX10_init 94 = .ok (.invokespecial 58, 3) := dq_361.2.2.2.2.2.2.2.2.1
theorem dX10_init_97 : decode cX10_init 97 = .ok (.putfield 59, 3) := dq_361.2.2.2.2.2.2.2.2.2.1
theorem dX10_init_100 : decode cX10_init 100 = .ok (.aload_n 0, 1) := dq_361.2.2.2.2.2.2.2.2.2.2.1
theorem dX10_init_101 : decode cX10_init 101 = .ok (.new 63, 3) := dq_361.2.2.2.2.2.2.2.2.2.2.2
theorem dq_362 : decode cX10_init 104 = .ok (.dup, 1) ∧ decode cX10_init 105 = .ok (.invokespecial 65, 3) ∧ decode cX10_init 108 = .ok (.putfield 66, 3) ∧ decode cX10_init 111 = .ok (.aload_n 0, 1) ∧ decode cX10_init 112 = .ok (.new 70, 3) ∧ decode cX10_init 115 = .ok (.dup, 1) ∧ decode cX10_init 116 = .ok (.invokespecial 72, 3) ∧ decode cX10_init 119 = .ok (.putfield 73, 3) ∧ decode cX10_init 122 = .ok (.aload_n 0, 1) ∧ decode cX10_init 123 = .ok (.iconst 4, 1) ∧ decode cX10_init 124 = .ok (.anewarray 77, 3) ∧ decode cX10_init 127 = .ok (.putfield 79, 3) := by decide +kernel
theorem dX10_init_104 : decode cX10_init 104 = .ok (.dup, 1) := dq_362.1
theorem dX10_init_105 : decode cX10_init 105 = .ok (.invokespecial 65, 3) := dq_362.2.1
theorem dX10_init_108 : decode cX10_init 108 = .ok (.putfield 66, 3) := dq_362.2.2.1
theorem dX10_init_111 : decode cX10_init 111 = .ok (.aload_n 0, 1) := dq_362.2.2.2.1
theorem dX10_init_112 : decode cX10_init 112 = .ok (.new 70, 3) := dq_362.2.2.2.2.1
theorem dX10_init_115 : decode cX10_init 115 = .ok (.dup, 1) := dq_362.2.2.2.2.2.1
theorem dX10_init_116 : decode cX10_init 116 = .ok (.invokespecial 72, 3) := dq_362.2.2.2.2.2.2.1
theorem dX10_init_119 : decode cX10_init 119 = .ok (.putfield 73, 3) := dq_362.2.2.2.2.2.2.2.1
theorem dX10_init_122 : decode cX10_init 122 = .ok (.aload_n 0, 1) := dq_362.2.2.2.2.2.2.2.2.1
theorem dX10_init_123 : decode cX10_init 123 = .ok (.iconst 4, 1) := dq_362.2.2.2.2.2.2.2.2.2.1
theorem dX10_init_124 : decode cX10_init 124 = .ok (.anewarray 77, 3) := dq_362.2.2.2.2.2.2.2.2.2.2.1
theorem dX10_init_127 : decode cX10_init 127 = .ok (.putfield 79, 3) := dq_362.2.2.2.2.2.2.2.2.2.2.2
theorem dq_363 : decode cX10_init 130 = .ok (.iconst 0, 1) ∧ decode cX10_init 131 = .ok (.istore_n 1, 1) ∧ decode cX10_init 132 = .ok (.iload_n 1, 1) ∧ decode cX10_init 133 = .ok (.iconst 4, 1) ∧ decode cX10_init 134 = .ok (.if_icmp .ge 22, 3) ∧ decode cX10_init 137 = .ok (.aload_n 0, 1) ∧ decode cX10_init 138 = .ok (.getfield 79, 3) ∧ decode cX10_init 141 = .ok (.iload_n 1, 1) ∧ decode cX10_init 142 = .ok (.new 77, 3) ∧ decode cX10_init 145 = .ok (.dup, 1) ∧ decode cX10_init 146 = .ok (.invokespecial 83, 3) ∧ decode cX10_init 149 = .ok (.aastore, 1) := by decide +kernel
theorem dX10_init_130 : decode cX10_init 130 = .ok (.iconst 0, 1) := dq_363.1
theorem dX10_init_131 : decode cX10_init 131 = .ok (.istore_n 1, 1) := dq_363.2.1
theorem dX10_init_132 : decode cX10_init 132 = .ok (.iload_n 1, 1) := dq_363.2.2.1
theorem dX10_init_133 : decode cX10_init 133 = .ok (.iconst 4, 1) := dq_363.2.2.2.1
theorem dX10_init_134 : decode cX10_init 134 = .ok (.if_icmp .ge 22, 3) := dq_363.2.2.2.2.1
theorem dX10_init_137 : decode cX10_init 137 = .ok (.aload_n 0, 1) := dq_363.2.2.2.2.2.1
theorem dX10_init_138 : decode cX10_init 138 = .ok (.getfield 79, 3) := dq_363.2.2.2.2.2.2.1
theorem dX10_init_141 : decode cX10_init 141 = .ok (.iload_n 1, 1) := dq_363.2.2.2.2.2.2.2.1
theorem dX10_init_142 : decode cX10_init 142 = .ok (.new 77, 3) := dq_363.2.2.2.2.2.2.2.2.1
theorem dX10_init_145 : decode cX10_init 145 = .ok (.dup, 1) := dq_363.2.2.2.2.2.2.2.2.2.1
theorem dX10_init_146 : decode cX10_init 146 = .ok (.invokespecial 83, 3) := dq_363.2.2.2.2.2.2.2.2.2.2.1
theorem dX10_init_149 : decode cX10_init 149 = .ok (.aastore, 1) := dq_363.2.2.2.2.2.2.2.2.2.2.2
theorem dq_364 : decode cX10_init 150 = .ok (.iinc 1 1, 3) ∧ decode cX10_init 153 = .ok (.goto (-21), 3) ∧ decode cX10_init 156 = .ok (.return_, 1) := by decide +kernel
theorem dX10_init_150 : decode cX10_init 150 = .ok (.iinc 1 1, 3) := dq_364.1
theorem dX10_init_153 : decode cX10_init 153 = .ok (.goto (-21), 3) := dq_364.2.1
theorem dX10_init_156 : decode cX10_init 156 = .ok (.return_, 1) := dq_364.2.2
theorem dq_365 : decode cX10_feed 0 = .ok (.aload_n 0, 1) ∧ decode cX10_feed 1 = .ok (.getfield 10, 3) ∧ decode cX10_feed 4 = .ok (.lload_n 1, 1) ∧ decode cX10_feed 5 = .ok (.invokevirtual 84, 3) ∧ decode cX10_feed 8 = .ok (.ifCond .eq 13, 3) ∧ decode cX10_feed 11 = .ok (.aload_n 0, 1) ∧ decode cX10_feed 12 = .ok (.getfield 10, 3) ∧ decode cX10_feed 15 = .ok (.invokevirtual 88, 3) ∧ decode cX10_feed 18 = .ok (.goto 5, 3) ∧ decode cX10_feed 21 = .ok (.bipush (-3), 2) ∧ decode cX10_feed 23 = .ok (.ireturn, 1) := by decide +kernel
theorem dX10_feed_0 : decode cX10_feed 0 = .ok (.aload_n 0, 1) := dq_365.1
theorem dX10_feed_1 : decode cX10_feed 1 = .ok (.getfield 10, 3) := dq_365.2.1
theorem dX10_feed_4 : decode cX10_feed 4 = .ok (.lload_n 1, 1) := dq_365.2.2.1
theorem dX10_feed_5 : decode cX10_feed 5 = .ok (.invokevirtual 84, 3) := dq_365.2.2.2.1
theorem dX10_feed_8 : decode cX10_feed 8 = .ok (.ifCond .eq 13, 3) := dq_365.2.2.2.2.1
theorem dX10_feed_11 : decode cX10_feed 11 = .ok (.aload_n 0, 1) := dq_365.2.2.2.2.2.1
theorem dX10_feed_12 : decode cX10_feed 12 = .ok (.getfield 10, 3) := dq_365.2.2.2.2.2.2.1
theorem dX10_feed_15 : decode cX10_feed 15 = .ok (.invokevirtual 88, 3) := dq_365.2.2.2.2.2.2.2.1
theorem dX10_feed_18 : decode cX10_feed 18 = .ok (.goto 5, 3) := dq_365.2.2.2.2.2.2.2.2.1
theorem dX10_feed_21 : decode cX10_feed 21 = .ok (.bipush (-3), 2) := dq_365.2.2.2.2.2.2.2.2.2.1
theorem dX10_feed_23 : decode cX10_feed 23 = .ok (.ireturn, 1) := dq_365.2.2.2.2.2.2.2.2.2.2
theorem dq_366 : decode cX10_end 0 = .ok (.aload_n 0, 1) ∧ decode cX10_end 1 = .ok (.getfield 10, 3) ∧ decode cX10_end 4 = .ok (.invokevirtual 88, 3) ∧ decode cX10_end 7 = .ok (.istore_n 2, 1) ∧ decode cX10_end 8 = .ok (.aload_n 0, 1) ∧ decode cX10_end 9 = .ok (.getfield 10, 3) ∧ decode cX10_end 12 = .ok (.iload_n 1, 1) ∧ decode cX10_end 13 = .ok (.invokevirtual 92, 3) ∧ decode cX10_end 16 = .ok (.ifCond .eq 7, 3) ∧ decode cX10_end 19 = .ok (.iload_n 2, 1) ∧ decode cX10_end 20 = .ok (.goto 4, 3) ∧ decode cX10_end 23 = .ok (.iconst (-1), 1) := by decide +kernel
theorem dX10_end_0 : decode cX10_end 0 = .ok (.aload_n 0, 1) := dq_366.1
theorem dX10_end_1 : decode cX10_end 1 = .ok (.getfield 10, 3) := dq_366.2.1
theorem dX10_end_4 : decode cX10_end 4 = .ok (.invokevirtual 88, 3) := dq_366.2.2.1
theorem dX10_end_7 : decode cX10_end 7 = .ok (.istore_n 2, 1) := dq_366.2.2.2.1
theorem dX10_end_8 : decode cX10_end 8 = .ok (.aload_n 0, 1) := dq_366.2.2.2.2.1
theorem dX10_end_9 : decode cX10_end 9 = .ok (.getfield 10, 3) := dq_366.2.2.2.2.2.1
theorem dX10_end_12 : decode cX10_end 12 = .ok (.iload_n 1, 1) := dq_366.2.2.2.2.2.2.1
theorem dX10_end_13 : decode cX10_end 13 = .ok (.invokevirtual 92, 3) := dq_366.2.2.2.2.2.2.2.1
theorem dX10_end_16 : decode cX10_end 16 = .ok (.ifCond .eq 7, 3) := dq_366.2.2.2.2.2.2.2.2.1
theorem dX10_end_19 : decode cX10_end 19 = .ok (.iload_n 2, 1) := dq_366.2.2.2.2.2.2.2.2.2.1
theorem dX10_end_20 : decode cX10_end 20 = .ok (.goto 4, 3) := dq_366.2.2.2.2.2.2.2.2.2.2.1
theorem dX10_end_23 : decode cX10_end 23 = .ok (.iconst (-1), 1) := dq_366.2.2.2.2.2.2.2.2.2.2.2
theorem dX10_end_24 : decode cX10_end 24 = .ok (.ireturn, 1) := by decide +kernel
theorem dq_368 : decode cX10_text 0 = .ok (.aload_n 0, 1) ∧ decode cX10_text 1 = .ok (.getfield 31, 3) ∧ decode cX10_text 4 = .ok (.aload_n 0, 1) ∧ decode cX10_text 5 = .ok (.getfield 23, 3) ∧ decode cX10_text 8 = .ok (.invokevirtual 96, 3) ∧ decode cX10_text 11 = .ok (.iconst 0, 1) ∧ decode cX10_text 12 = .ok (.istore_n 1, 1) ∧ decode cX10_text 13 = .ok (.iload_n 1, 1) ∧ decode cX10_text 14 = .ok (.sipush 400, 3) ∧ decode cX10_text 17 = .ok (.if_icmp .gt 19, 3) ∧ decode cX10_text 20 = .ok (.aload_n 0, 1) ∧ decode cX10_text 21 = .ok (.getfield 31, 3) := by decide +kernel
theorem dX10_text_0 : decode cX10_text 0 = .ok (.aload_n 0, 1) := dq_368.1
theorem dX10_text_1 : decode cX10_text 1 = .ok (.getfield 31, 3) := dq_368.2.1
theorem dX10_text_4 : decode cX10_text 4 = .ok (.aload_n 0, 1) := dq_368.2.2.1
theorem dX10_text_5 : decode cX10_text 5 = .ok (.getfield 23, 3) := dq_368.2.2.2.1
theorem dX10_text_8 : decode cX10_text 8 = .ok (.invokevirtual 96, 3) := dq_368.2.2.2.2.1
theorem dX10_text_11 : decode cX10_text 11 = .ok (.iconst 0, 1) := dq_368.2.2.2.2.2.1
theorem dX10_text_12 : decode cX10_text 12 = .ok (.istore_n 1, 1) := dq_368.2.2.2.2.2.2.1
theorem dX10_text_13 : decode cX10_text 13 = .ok (.iload_n 1, 1) := dq_368.2.2.2.2.2.2.2.1
theorem dX10_text_14 : decode cX10_text 14 = .ok (.sipush 400, 3) := dq_368.2.2.2.2.2.2.2.2.1
theorem dX10_text_17 : decode cX10_text 17 = .ok (.if_icmp .gt 19, 3) := dq_368.2.2.2.2.2.2.2.2.2.1
theorem dX10_text_20 : decode cX10_text 20 = .ok (.aload_n 0, 1) := dq_368.2.2.2.2.2.2.2.2.2.2.1
theorem dX10_text_21 : decode cX10_text 21 = .ok (.getfield 31, 3) := dq_368.2.2.2.2.2.2.2.2.2.2.2
theorem dq_369 : decode cX10_text 24 = .ok (.invokevirtual 100, 3) ∧ decode cX10_text 27 = .ok (.ifCond .eq 9, 3) ∧ decode cX10_text 30 = .ok (.iinc 1 1, 3) ∧ decode cX10_text 33 = .ok (.goto (-20), 3) ∧ decode cX10_text 36 = .ok (.aload_n 0, 1) ∧ decode cX10_text 37 = .ok (.getfield 10, 3) ∧ decode cX10_text 40 = .ok (.iconst 0, 1) ∧ decode cX10_text 41 = .ok (.invokevirtual 92, 3) ∧ decode cX10_text 44 = .ok (.pop, 1) ∧ decode cX10_text 45 = .ok (.aload_n 0, 1) ∧ decode cX10_text 46 = .ok (.getfield 31, 3) ∧ decode cX10_text 49 = .ok (.invokevirtual 104, 3) := by decide +kernel
theorem dX10_text_24 : decode cX10_text 24 = .ok (.invokevirtual 100, 3) := dq_369.1
theorem dX10_text_27 : decode cX10_text 27 = .ok (.ifCond .eq 9, 3) := dq_369.2.1
theorem dX10_text_30 : decode cX10_text 30 = .ok (.iinc 1 1, 3) := dq_369.2.2.1
theorem dX10_text_33 : decode cX10_text 33 = .ok (.goto (-20), 3) := dq_369.2.2.2.1
theorem dX10_text_36 : decode cX10_text 36 = .ok (.aload_n 0, 1) := dq_369.2.2.2.2.1
theorem dX10_text_37 : decode cX10_text 37 = .ok (.getfield 10, 3) := dq_369.2.2.2.2.2.1
theorem dX10_text_40 : decode cX10_text 40 = .ok (.iconst 0, 1) := dq_369.2.2.2.2.2.2.1
theorem dX10_text_41 : decode cX10_text 41 = .ok (.invokevirtual 92, 3) := dq_369.2.2.2.2.2.2.2.1
theorem dX10_text_44 : decode cX10_text 44 = .ok (.pop, 1) := dq_369.2.2.2.2.2.2.2.2.1
theorem dX10_text_45 : decode cX10_text 45 = .ok (.aload_n 0, 1) := dq_369.2.2.2.2.2.2.2.2.2.1
theorem dX10_text_46 : decode cX10_text 46 = .ok (.getfield 31, 3) := dq_369.2.2.2.2.2.2.2.2.2.2.1
theorem dX10_text_49 : decode cX10_text 49 = .ok (.invokevirtual 104, 3) := dq_369.2.2.2.2.2.2.2.2.2.2.2
theorem dq_370 : decode cX10_text 52 = .ok (.ifCond .eq 14, 3) ∧ decode cX10_text 55 = .ok (.bipush (-10), 2) ∧ decode cX10_text 57 = .ok (.aload_n 0, 1) ∧ decode cX10_text 58 = .ok (.getfield 31, 3) ∧ decode cX10_text 61 = .ok (.invokevirtual 107, 3) ∧ decode cX10_text 64 = .ok (.isub, 1) ∧ decode cX10_text 65 = .ok (.ireturn, 1) ∧ decode cX10_text 66 = .ok (.aload_n 0, 1) ∧ decode cX10_text 67 = .ok (.getfield 19, 3) ∧ decode cX10_text 70 = .ok (.astore_n 2, 1) ∧ decode cX10_text 71 = .ok (.aload_n 0, 1) ∧ decode cX10_text 72 = .ok (.aload_n 0, 1) := by decide +kernel
theorem dX10_text_52 : decode cX10_text 52 = .ok (.ifCond .eq 14, 3) := dq_370.1
theorem dX10_text_55 : decode cX10_text 55 = .ok (.bipush (-10), 2) := dq_370.2.1
theorem dX10_text_57 : decode cX10_text 57 = .ok (.aload_n 0, 1) := dq_370.2.2.1
theorem dX10_text_58 : decode cX10_text 58 = .ok (.getfield 31, 3) := dq_370.2.2.2.1
theorem dX10_text_61 : decode cX10_text 61 = .ok (.invokevirtual 107, 3) := dq_370.2.2.2.2.1
theorem dX10_text_64 : decode cX10_text 64 = .ok (.isub, 1) := dq_370.2.2.2.2.2.1
theorem dX10_text_65 : decode cX10_text 65 = .ok (.ireturn, 1) := dq_370.2.2.2.2.2.2.1
theorem dX10_text_66 : decode cX10_text 66 = .ok (.aload_n 0, 1) := dq_370.2.2.2.2.2.2.2.1
theorem dX10_text_67 : decode cX10_text 67 = .ok (.getfield 19, 3) := dq_370.2.2.2.2.2.2.2.2.1
theorem dX10_text_70 : decode cX10_text 70 = .ok (.astore_n 2, 1) := dq_370.2.2.2.2.2.2.2.2.2.1
theorem dX10_text_71 : decode cX10_text 71 = .ok (.aload_n 0, 1) := dq_370.2.2.2.2.2.2.2.2.2.2.1
theorem dX10_text_72 : decode cX10_text 72 = .ok (.aload_n 0, 1) := dq_370.2.2.2.2.2.2.2.2.2.2.2
theorem dq_371 : decode cX10_text 73 = .ok (.getfield 23, 3) ∧ decode cX10_text 76 = .ok (.putfield 19, 3) ∧ decode cX10_text 79 = .ok (.aload_n 0, 1) ∧ decode cX10_text 80 = .ok (.aload_n 2, 1) ∧ decode cX10_text 81 = .ok (.putfield 23, 3) ∧ decode cX10_text 84 = .ok (.aload_n 0, 1) ∧ decode cX10_text 85 = .ok (.getfield 38, 3) ∧ decode cX10_text 88 = .ok (.aload_n 0, 1) ∧ decode cX10_text 89 = .ok (.getfield 19, 3) ∧ decode cX10_text 92 = .ok (.invokevirtual 110, 3) ∧ decode cX10_text 95 = .ok (.aload_n 0, 1) ∧ decode cX10_text 96 = .ok (.getfield 52, 3) := by decide +kernel
theorem dX10_text_73 : decode cX10_text 73 = .ok (.getfield 23, 3) := dq_371.1
theorem dX10_text_76 : decode cX10_text 76 = .ok (.putfield 19, 3) := dq_371.2.1
theorem dX10_text_79 : decode cX10_text 79 = .ok (.aload_n 0, 1) := dq_371.2.2.1
theorem dX10_text_80 : decode cX10_text 80 = .ok (.aload_n 2, 1) := dq_371.2.2.2.1
theorem dX10_text_81 : decode cX10_text 81 = .ok (.putfield 23, 3) := dq_371.2.2.2.2.1
theorem dX10_text_84 : decode cX10_text 84 = .ok (.aload_n 0, 1) := dq_371.2.2.2.2.2.1
theorem dX10_text_85 : decode cX10_text 85 = .ok (.getfield 38, 3) := dq_371.2.2.2.2.2.2.1
theorem dX10_text_88 : decode cX10_text 88 = .ok (.aload_n 0, 1) := dq_371.2.2.2.2.2.2.2.1
theorem dX10_text_89 : decode cX10_text 89 = .ok (.getfield 19, 3) := dq_371.2.2.2.2.2.2.2.2.1
theorem dX10_text_92 : decode cX10_text 92 = .ok (.invokevirtual 110, 3) := dq_371.2.2.2.2.2.2.2.2.2.1
theorem dX10_text_95 : decode cX10_text 95 = .ok (.aload_n 0, 1) := dq_371.2.2.2.2.2.2.2.2.2.2.1
theorem dX10_text_96 : decode cX10_text 96 = .ok (.getfield 52, 3) := dq_371.2.2.2.2.2.2.2.2.2.2.2
theorem dq_372 : decode cX10_text 99 = .ok (.aload_n 0, 1) ∧ decode cX10_text 100 = .ok (.getfield 19, 3) ∧ decode cX10_text 103 = .ok (.invokevirtual 113, 3) ∧ decode cX10_text 106 = .ok (.iload_n 1, 1) ∧ decode cX10_text 107 = .ok (.ireturn, 1) := by decide +kernel
theorem dX10_text_99 : decode cX10_text 99 = .ok (.aload_n 0, 1) := dq_372.1
theorem dX10_text_100 : decode cX10_text 100 = .ok (.getfield 19, 3) := dq_372.2.1
theorem dX10_text_103 : decode cX10_text 103 = .ok (.invokevirtual 113, 3) := dq_372.2.2.1
theorem dX10_text_106 : decode cX10_text 106 = .ok (.iload_n 1, 1) := dq_372.2.2.2.1
theorem dX10_text_107 : decode cX10_text 107 = .ok (.ireturn, 1) := dq_372.2.2.2.2
theorem dq_373 : decode cX10_fault 0 = .ok (.aload_n 0, 1) ∧ decode cX10_fault 1 = .ok (.getfield 31, 3) ∧ decode cX10_fault 4 = .ok (.invokevirtual 104, 3) ∧ decode cX10_fault 7 = .ok (.ireturn, 1) := by decide +kernel
theorem dX10_fault_0 : decode cX10_fault 0 = .ok (.aload_n 0, 1) := dq_373.1
theorem dX10_fault_1 : decode cX10_fault 1 = .ok (.getfield 31, 3) := dq_373.2.1
theorem dX10_fault_4 : decode cX10_fault 4 = .ok (.invokevirtual 104, 3) := dq_373.2.2.1
theorem dX10_fault_7 : decode cX10_fault 7 = .ok (.ireturn, 1) := dq_373.2.2.2
theorem dq_374 : decode cX10_told 0 = .ok (.iload_n 1, 1) ∧ decode cX10_told 1 = .ok (.tableswitch 51 0 2 #[27, 35, 43], 27) ∧ decode cX10_told 28 = .ok (.aload_n 0, 1) ∧ decode cX10_told 29 = .ok (.getfield 19, 3) ∧ decode cX10_told 32 = .ok (.invokevirtual 114, 3) ∧ decode cX10_told 35 = .ok (.ireturn, 1) ∧ decode cX10_told 36 = .ok (.aload_n 0, 1) ∧ decode cX10_told 37 = .ok (.getfield 19, 3) ∧ decode cX10_told 40 = .ok (.invokevirtual 117, 3) ∧ decode cX10_told 43 = .ok (.ireturn, 1) ∧ decode cX10_told 44 = .ok (.aload_n 0, 1) ∧ decode cX10_told 45 = .ok (.getfield 19, 3) := by decide +kernel
theorem dX10_told_0 : decode cX10_told 0 = .ok (.iload_n 1, 1) := dq_374.1
theorem dX10_told_1 : decode cX10_told 1 = .ok (.tableswitch 51 0 2 #[27, 35, 43], 27) := dq_374.2.1
theorem dX10_told_28 : decode cX10_told 28 = .ok (.aload_n 0, 1) := dq_374.2.2.1
theorem dX10_told_29 : decode cX10_told 29 = .ok (.getfield 19, 3) := dq_374.2.2.2.1
theorem dX10_told_32 : decode cX10_told 32 = .ok (.invokevirtual 114, 3) := dq_374.2.2.2.2.1
theorem dX10_told_35 : decode cX10_told 35 = .ok (.ireturn, 1) := dq_374.2.2.2.2.2.1
theorem dX10_told_36 : decode cX10_told 36 = .ok (.aload_n 0, 1) := dq_374.2.2.2.2.2.2.1
theorem dX10_told_37 : decode cX10_told 37 = .ok (.getfield 19, 3) := dq_374.2.2.2.2.2.2.2.1
theorem dX10_told_40 : decode cX10_told 40 = .ok (.invokevirtual 117, 3) := dq_374.2.2.2.2.2.2.2.2.1
theorem dX10_told_43 : decode cX10_told 43 = .ok (.ireturn, 1) := dq_374.2.2.2.2.2.2.2.2.2.1
theorem dX10_told_44 : decode cX10_told 44 = .ok (.aload_n 0, 1) := dq_374.2.2.2.2.2.2.2.2.2.2.1
theorem dX10_told_45 : decode cX10_told 45 = .ok (.getfield 19, 3) := dq_374.2.2.2.2.2.2.2.2.2.2.2
theorem dq_375 : decode cX10_told 48 = .ok (.invokevirtual 120, 3) ∧ decode cX10_told 51 = .ok (.ireturn, 1) ∧ decode cX10_told 52 = .ok (.iload_n 1, 1) ∧ decode cX10_told 53 = .ok (.bipush 10, 2) ∧ decode cX10_told 55 = .ok (.bipush 15, 2) ∧ decode cX10_told 57 = .ok (.invokestatic 123, 3) ∧ decode cX10_told 60 = .ok (.ifCond .eq 15, 3) ∧ decode cX10_told 63 = .ok (.aload_n 0, 1) ∧ decode cX10_told 64 = .ok (.getfield 19, 3) ∧ decode cX10_told 67 = .ok (.iload_n 1, 1) ∧ decode cX10_told 68 = .ok (.bipush 10, 2) ∧ decode cX10_told 70 = .ok (.isub, 1) := by decide +kernel
theorem dX10_told_48 : decode cX10_told 48 = .ok (.invokevirtual 120, 3) := dq_375.1
theorem dX10_told_51 : decode cX10_told 51 = .ok (.ireturn, 1) := dq_375.2.1
theorem dX10_told_52 : decode cX10_told 52 = .ok (.iload_n 1, 1) := dq_375.2.2.1
theorem dX10_told_53 : decode cX10_told 53 = .ok (.bipush 10, 2) := dq_375.2.2.2.1
theorem dX10_told_55 : decode cX10_told 55 = .ok (.bipush 15, 2) := dq_375.2.2.2.2.1
theorem dX10_told_57 : decode cX10_told 57 = .ok (.invokestatic 123, 3) := dq_375.2.2.2.2.2.1
theorem dX10_told_60 : decode cX10_told 60 = .ok (.ifCond .eq 15, 3) := dq_375.2.2.2.2.2.2.1
theorem dX10_told_63 : decode cX10_told 63 = .ok (.aload_n 0, 1) := dq_375.2.2.2.2.2.2.2.1
theorem dX10_told_64 : decode cX10_told 64 = .ok (.getfield 19, 3) := dq_375.2.2.2.2.2.2.2.2.1
theorem dX10_told_67 : decode cX10_told 67 = .ok (.iload_n 1, 1) := dq_375.2.2.2.2.2.2.2.2.2.1
theorem dX10_told_68 : decode cX10_told 68 = .ok (.bipush 10, 2) := dq_375.2.2.2.2.2.2.2.2.2.2.1
theorem dX10_told_70 : decode cX10_told 70 = .ok (.isub, 1) := dq_375.2.2.2.2.2.2.2.2.2.2.2
theorem dq_376 : decode cX10_told 71 = .ok (.invokevirtual 127, 3) ∧ decode cX10_told 74 = .ok (.ireturn, 1) ∧ decode cX10_told 75 = .ok (.iload_n 1, 1) ∧ decode cX10_told 76 = .ok (.bipush 20, 2) ∧ decode cX10_told 78 = .ok (.bipush 25, 2) ∧ decode cX10_told 80 = .ok (.invokestatic 123, 3) ∧ decode cX10_told 83 = .ok (.ifCond .eq 17, 3) ∧ decode cX10_told 86 = .ok (.aload_n 0, 1) ∧ decode cX10_told 87 = .ok (.getfield 19, 3) ∧ decode cX10_told 90 = .ok (.iload_n 1, 1) ∧ decode cX10_told 91 = .ok (.bipush 20, 2) ∧ decode cX10_told 93 = .ok (.isub, 1) := by decide +kernel
theorem dX10_told_71 : decode cX10_told 71 = .ok (.invokevirtual 127, 3) := dq_376.1
theorem dX10_told_74 : decode cX10_told 74 = .ok (.ireturn, 1) := dq_376.2.1
theorem dX10_told_75 : decode cX10_told 75 = .ok (.iload_n 1, 1) := dq_376.2.2.1
theorem dX10_told_76 : decode cX10_told 76 = .ok (.bipush 20, 2) := dq_376.2.2.2.1
theorem dX10_told_78 : decode cX10_told 78 = .ok (.bipush 25, 2) := dq_376.2.2.2.2.1
theorem dX10_told_80 : decode cX10_told 80 = .ok (.invokestatic 123, 3) := dq_376.2.2.2.2.2.1
theorem dX10_told_83 : decode cX10_told 83 = .ok (.ifCond .eq 17, 3) := dq_376.2.2.2.2.2.2.1
theorem dX10_told_86 : decode cX10_told 86 = .ok (.aload_n 0, 1) := dq_376.2.2.2.2.2.2.2.1
theorem dX10_told_87 : decode cX10_told 87 = .ok (.getfield 19, 3) := dq_376.2.2.2.2.2.2.2.2.1
theorem dX10_told_90 : decode cX10_told 90 = .ok (.iload_n 1, 1) := dq_376.2.2.2.2.2.2.2.2.2.1
theorem dX10_told_91 : decode cX10_told 91 = .ok (.bipush 20, 2) := dq_376.2.2.2.2.2.2.2.2.2.2.1
theorem dX10_told_93 : decode cX10_told 93 = .ok (.isub, 1) := dq_376.2.2.2.2.2.2.2.2.2.2.2
theorem dq_377 : decode cX10_told 94 = .ok (.invokevirtual 131, 3) ∧ decode cX10_told 97 = .ok (.goto 4, 3) ∧ decode cX10_told 100 = .ok (.iconst (-1), 1) ∧ decode cX10_told 101 = .ok (.ireturn, 1) := by decide +kernel
theorem dX10_told_94 : decode cX10_told 94 = .ok (.invokevirtual 131, 3) := dq_377.1
theorem dX10_told_97 : decode cX10_told 97 = .ok (.goto 4, 3) := dq_377.2.1
theorem dX10_told_100 : decode cX10_told 100 = .ok (.iconst (-1), 1) := dq_377.2.2.1
theorem dX10_told_101 : decode cX10_told 101 = .ok (.ireturn, 1) := dq_377.2.2.2
theorem dq_378 : decode cX10_thing 0 = .ok (.aload_n 0, 1) ∧ decode cX10_thing 1 = .ok (.getfield 19, 3) ∧ decode cX10_thing 4 = .ok (.iload_n 1, 1) ∧ decode cX10_thing 5 = .ok (.invokevirtual 134, 3) ∧ decode cX10_thing 8 = .ok (.ifCond .ne 5, 3) ∧ decode cX10_thing 11 = .ok (.iconst (-1), 1) ∧ decode cX10_thing 12 = .ok (.ireturn, 1) ∧ decode cX10_thing 13 = .ok (.iload_n 2, 1) ∧ decode cX10_thing 14 = .ok (.tableswitch 66 0 3 #[30, 39, 48, 57], 30) ∧ decode cX10_thing 44 = .ok (.aload_n 0, 1) ∧ decode cX10_thing 45 = .ok (.getfield 19, 3) ∧ decode cX10_thing 48 = .ok (.iload_n 1, 1) := by decide +kernel
theorem dX10_thing_0 : decode cX10_thing 0 = .ok (.aload_n 0, 1) := dq_378.1
theorem dX10_thing_1 : decode cX10_thing 1 = .ok (.getfield 19, 3) := dq_378.2.1
theorem dX10_thing_4 : decode cX10_thing 4 = .ok (.iload_n 1, 1) := dq_378.2.2.1
theorem dX10_thing_5 : decode cX10_thing 5 = .ok (.invokevirtual 134, 3) := dq_378.2.2.2.1
theorem dX10_thing_8 : decode cX10_thing 8 = .ok (.ifCond .ne 5, 3) := dq_378.2.2.2.2.1
theorem dX10_thing_11 : decode cX10_thing 11 = .ok (.iconst (-1), 1) := dq_378.2.2.2.2.2.1
theorem dX10_thing_12 : decode cX10_thing 12 = .ok (.ireturn, 1) := dq_378.2.2.2.2.2.2.1
theorem dX10_thing_13 : decode cX10_thing 13 = .ok (.iload_n 2, 1) := dq_378.2.2.2.2.2.2.2.1
theorem dX10_thing_14 : decode cX10_thing 14 = .ok (.tableswitch 66 0 3 #[30, 39, 48, 57], 30) := dq_378.2.2.2.2.2.2.2.2.1
theorem dX10_thing_44 : decode cX10_thing 44 = .ok (.aload_n 0, 1) := dq_378.2.2.2.2.2.2.2.2.2.1
theorem dX10_thing_45 : decode cX10_thing 45 = .ok (.getfield 19, 3) := dq_378.2.2.2.2.2.2.2.2.2.2.1
theorem dX10_thing_48 : decode cX10_thing 48 = .ok (.iload_n 1, 1) := dq_378.2.2.2.2.2.2.2.2.2.2.2
theorem dq_379 : decode cX10_thing 49 = .ok (.invokevirtual 137, 3) ∧ decode cX10_thing 52 = .ok (.ireturn, 1) ∧ decode cX10_thing 53 = .ok (.aload_n 0, 1) ∧ decode cX10_thing 54 = .ok (.getfield 19, 3) ∧ decode cX10_thing 57 = .ok (.iload_n 1, 1) ∧ decode cX10_thing 58 = .ok (.invokevirtual 140, 3) ∧ decode cX10_thing 61 = .ok (.ireturn, 1) ∧ decode cX10_thing 62 = .ok (.aload_n 0, 1) ∧ decode cX10_thing 63 = .ok (.getfield 19, 3) ∧ decode cX10_thing 66 = .ok (.iload_n 1, 1) ∧ decode cX10_thing 67 = .ok (.invokevirtual 143, 3) ∧ decode cX10_thing 70 = .ok (.ireturn, 1) := by decide +kernel
theorem dX10_thing_49 : decode cX10_thing 49 = .ok (.invokevirtual 137, 3) := dq_379.1
theorem dX10_thing_52 : decode cX10_thing 52 = .ok (.ireturn, 1) := dq_379.2.1
theorem dX10_thing_53 : decode cX10_thing 53 = .ok (.aload_n 0, 1) := dq_379.2.2.1
theorem dX10_thing_54 : decode cX10_thing 54 = .ok (.getfield 19, 3) := dq_379.2.2.2.1
theorem dX10_thing_57 : decode cX10_thing 57 = .ok (.iload_n 1, 1) := dq_379.2.2.2.2.1
theorem dX10_thing_58 : decode cX10_thing 58 = .ok (.invokevirtual 140, 3) := dq_379.2.2.2.2.2.1
theorem dX10_thing_61 : decode cX10_thing 61 = .ok (.ireturn, 1) := dq_379.2.2.2.2.2.2.1
theorem dX10_thing_62 : decode cX10_thing 62 = .ok (.aload_n 0, 1) := dq_379.2.2.2.2.2.2.2.1
theorem dX10_thing_63 : decode cX10_thing 63 = .ok (.getfield 19, 3) := dq_379.2.2.2.2.2.2.2.2.1
theorem dX10_thing_66 : decode cX10_thing 66 = .ok (.iload_n 1, 1) := dq_379.2.2.2.2.2.2.2.2.2.1
theorem dX10_thing_67 : decode cX10_thing 67 = .ok (.invokevirtual 143, 3) := dq_379.2.2.2.2.2.2.2.2.2.2.1
theorem dX10_thing_70 : decode cX10_thing 70 = .ok (.ireturn, 1) := dq_379.2.2.2.2.2.2.2.2.2.2.2
theorem dq_380 : decode cX10_thing 71 = .ok (.aload_n 0, 1) ∧ decode cX10_thing 72 = .ok (.getfield 38, 3) ∧ decode cX10_thing 75 = .ok (.iload_n 1, 1) ∧ decode cX10_thing 76 = .ok (.invokevirtual 146, 3) ∧ decode cX10_thing 79 = .ok (.ireturn, 1) ∧ decode cX10_thing 80 = .ok (.iconst (-1), 1) ∧ decode cX10_thing 81 = .ok (.ireturn, 1) := by decide +kernel
theorem dX10_thing_71 : decode cX10_thing 71 = .ok (.aload_n 0, 1) := dq_380.1
theorem dX10_thing_72 : decode cX10_thing 72 = .ok (.getfield 38, 3) := dq_380.2.1
theorem dX10_thing_75 : decode cX10_thing 75 = .ok (.iload_n 1, 1) := dq_380.2.2.1
theorem dX10_thing_76 : decode cX10_thing 76 = .ok (.invokevirtual 146, 3) := dq_380.2.2.2.1
theorem dX10_thing_79 : decode cX10_thing 79 = .ok (.ireturn, 1) := dq_380.2.2.2.2.1
theorem dX10_thing_80 : decode cX10_thing 80 = .ok (.iconst (-1), 1) := dq_380.2.2.2.2.2.1
theorem dX10_thing_81 : decode cX10_thing 81 = .ok (.ireturn, 1) := dq_380.2.2.2.2.2.2
theorem dq_381 : decode cX10_pattern 0 = .ok (.aload_n 0, 1) ∧ decode cX10_pattern 1 = .ok (.getfield 19, 3) ∧ decode cX10_pattern 4 = .ok (.iload_n 1, 1) ∧ decode cX10_pattern 5 = .ok (.invokevirtual 149, 3) ∧ decode cX10_pattern 8 = .ok (.ifCond .eq 23, 3) ∧ decode cX10_pattern 11 = .ok (.iload_n 2, 1) ∧ decode cX10_pattern 12 = .ok (.iconst 0, 1) ∧ decode cX10_pattern 13 = .ok (.bipush 7, 2) ∧ decode cX10_pattern 15 = .ok (.invokestatic 123, 3) ∧ decode cX10_pattern 18 = .ok (.ifCond .eq 13, 3) ∧ decode cX10_pattern 21 = .ok (.iload_n 3, 1) ∧ decode cX10_pattern 22 = .ok (.iconst 0, 1) := by decide +kernel
theorem dX10_pattern_0 : decode cX10_pattern 0 = .ok (.aload_n 0, 1) := dq_381.1
theorem dX10_pattern_1 : decode cX10_pattern 1 = .ok (.getfield 19, 3) := dq_381.2.1
theorem dX10_pattern_4 : decode cX10_pattern 4 = .ok (.iload_n 1, 1) := dq_381.2.2.1
theorem dX10_pattern_5 : decode cX10_pattern 5 = .ok (.invokevirtual 149, 3) := dq_381.2.2.2.1
theorem dX10_pattern_8 : decode cX10_pattern 8 = .ok (.ifCond .eq 23, 3) := dq_381.2.2.2.2.1
theorem dX10_pattern_11 : decode cX10_pattern 11 = .ok (.iload_n 2, 1) := dq_381.2.2.2.2.2.1
theorem dX10_pattern_12 : decode cX10_pattern 12 = .ok (.iconst 0, 1) := dq_381.2.2.2.2.2.2.1
theorem dX10_pattern_13 : decode cX10_pattern 13 = .ok (.bipush 7, 2) := dq_381.2.2.2.2.2.2.2.1
theorem dX10_pattern_15 : decode cX10_pattern 15 = .ok (.invokestatic 123, 3) := dq_381.2.2.2.2.2.2.2.2.1
theorem dX10_pattern_18 : decode cX10_pattern 18 = .ok (.ifCond .eq 13, 3) := dq_381.2.2.2.2.2.2.2.2.2.1
theorem dX10_pattern_21 : decode cX10_pattern 21 = .ok (.iload_n 3, 1) := dq_381.2.2.2.2.2.2.2.2.2.2.1
theorem dX10_pattern_22 : decode cX10_pattern 22 = .ok (.iconst 0, 1) := dq_381.2.2.2.2.2.2.2.2.2.2.2
theorem dq_382 : decode cX10_pattern 23 = .ok (.bipush 15, 2) ∧ decode cX10_pattern 25 = .ok (.invokestatic 123, 3) ∧ decode cX10_pattern 28 = .ok (.ifCond .ne 5, 3) ∧ decode cX10_pattern 31 = .ok (.iconst (-1), 1) ∧ decode cX10_pattern 32 = .ok (.ireturn, 1) ∧ decode cX10_pattern 33 = .ok (.aload_n 0, 1) ∧ decode cX10_pattern 34 = .ok (.getfield 19, 3) ∧ decode cX10_pattern 37 = .ok (.iload_n 1, 1) ∧ decode cX10_pattern 38 = .ok (.iload_n 2, 1) ∧ decode cX10_pattern 39 = .ok (.iload_n 3, 1) ∧ decode cX10_pattern 40 = .ok (.iconst 4, 1) ∧ decode cX10_pattern 41 = .ok (.invokestatic 152, 3) := by decide +kernel
theorem dX10_pattern_23 : decode cX10_pattern 23 = .ok (.bipush 15, 2) := dq_382.1
theorem dX10_pattern_25 : decode cX10_pattern 25 = .ok (.invokestatic 123, 3) := dq_382.2.1
theorem dX10_pattern_28 : decode cX10_pattern 28 = .ok (.ifCond .ne 5, 3) := dq_382.2.2.1
theorem dX10_pattern_31 : decode cX10_pattern 31 = .ok (.iconst (-1), 1) := dq_382.2.2.2.1
theorem dX10_pattern_32 : decode cX10_pattern 32 = .ok (.ireturn, 1) := dq_382.2.2.2.2.1
theorem dX10_pattern_33 : decode cX10_pattern 33 = .ok (.aload_n 0, 1) := dq_382.2.2.2.2.2.1
theorem dX10_pattern_34 : decode cX10_pattern 34 = .ok (.getfield 19, 3) := dq_382.2.2.2.2.2.2.1
theorem dX10_pattern_37 : decode cX10_pattern 37 = .ok (.iload_n 1, 1) := dq_382.2.2.2.2.2.2.2.1
theorem dX10_pattern_38 : decode cX10_pattern 38 = .ok (.iload_n 2, 1) := dq_382.2.2.2.2.2.2.2.2.1
theorem dX10_pattern_39 : decode cX10_pattern 39 = .ok (.iload_n 3, 1) := dq_382.2.2.2.2.2.2.2.2.2.1
theorem dX10_pattern_40 : decode cX10_pattern 40 = .ok (.iconst 4, 1) := dq_382.2.2.2.2.2.2.2.2.2.2.1
theorem dX10_pattern_41 : decode cX10_pattern 41 = .ok (.invokestatic 152, 3) := dq_382.2.2.2.2.2.2.2.2.2.2.2
theorem dq_383 : decode cX10_pattern 44 = .ok (.invokevirtual 156, 3) ∧ decode cX10_pattern 47 = .ok (.istore 4, 2) ∧ decode cX10_pattern 49 = .ok (.iload 4, 2) ∧ decode cX10_pattern 51 = .ok (.ifCond .ge 8, 3) ∧ decode cX10_pattern 54 = .ok (.bipush (-4), 2) ∧ decode cX10_pattern 56 = .ok (.goto 5, 3) ∧ decode cX10_pattern 59 = .ok (.iload 4, 2) ∧ decode cX10_pattern 61 = .ok (.ireturn, 1) := by decide +kernel
theorem dX10_pattern_44 : decode cX10_pattern 44 = .ok (.invokevirtual 156, 3) := dq_383.1
theorem dX10_pattern_47 : decode cX10_pattern 47 = .ok (.istore 4, 2) := dq_383.2.1
theorem dX10_pattern_49 : decode cX10_pattern 49 = .ok (.iload 4, 2) := dq_383.2.2.1
theorem dX10_pattern_51 : decode cX10_pattern 51 = .ok (.ifCond .ge 8, 3) := dq_383.2.2.2.1
theorem dX10_pattern_54 : decode cX10_pattern 54 = .ok (.bipush (-4), 2) := dq_383.2.2.2.2.1
theorem dX10_pattern_56 : decode cX10_pattern 56 = .ok (.goto 5, 3) := dq_383.2.2.2.2.2.1
theorem dX10_pattern_59 : decode cX10_pattern 59 = .ok (.iload 4, 2) := dq_383.2.2.2.2.2.2.1
theorem dX10_pattern_61 : decode cX10_pattern 61 = .ok (.ireturn, 1) := dq_383.2.2.2.2.2.2.2
theorem dq_384 : decode cX10_put 0 = .ok (.iload_n 1, 1) ∧ decode cX10_put 1 = .ok (.invokestatic 160, 3) ∧ decode cX10_put 4 = .ok (.ifCond .eq 12, 3) ∧ decode cX10_put 7 = .ok (.iload_n 2, 1) ∧ decode cX10_put 8 = .ok (.iconst (-1), 1) ∧ decode cX10_put 9 = .ok (.iconst 5, 1) ∧ decode cX10_put 10 = .ok (.invokestatic 123, 3) ∧ decode cX10_put 13 = .ok (.ifCond .ne 6, 3) ∧ decode cX10_put 16 = .ok (.bipush (-9), 2) ∧ decode cX10_put 18 = .ok (.ireturn, 1) ∧ decode cX10_put 19 = .ok (.aload_n 0, 1) ∧ decode cX10_put 20 = .ok (.getfield 45, 3) := by decide +kernel
theorem dX10_put_0 : decode cX10_put 0 = .ok (.iload_n 1, 1) := dq_384.1
theorem dX10_put_1 : decode cX10_put 1 = .ok (.invokestatic 160, 3) := dq_384.2.1
theorem dX10_put_4 : decode cX10_put 4 = .ok (.ifCond .eq 12, 3) := dq_384.2.2.1
theorem dX10_put_7 : decode cX10_put 7 = .ok (.iload_n 2, 1) := dq_384.2.2.2.1
theorem dX10_put_8 : decode cX10_put 8 = .ok (.iconst (-1), 1) := dq_384.2.2.2.2.1
theorem dX10_put_9 : decode cX10_put 9 = .ok (.iconst 5, 1) := dq_384.2.2.2.2.2.1
theorem dX10_put_10 : decode cX10_put 10 = .ok (.invokestatic 123, 3) := dq_384.2.2.2.2.2.2.1
theorem dX10_put_13 : decode cX10_put 13 = .ok (.ifCond .ne 6, 3) := dq_384.2.2.2.2.2.2.2.1
theorem dX10_put_16 : decode cX10_put 16 = .ok (.bipush (-9), 2) := dq_384.2.2.2.2.2.2.2.2.1
theorem dX10_put_18 : decode cX10_put 18 = .ok (.ireturn, 1) := dq_384.2.2.2.2.2.2.2.2.2.1
theorem dX10_put_19 : decode cX10_put 19 = .ok (.aload_n 0, 1) := dq_384.2.2.2.2.2.2.2.2.2.2.1
theorem dX10_put_20 : decode cX10_put 20 = .ok (.getfield 45, 3) := dq_384.2.2.2.2.2.2.2.2.2.2.2
theorem dq_385 : decode cX10_put 23 = .ok (.iload_n 1, 1) ∧ decode cX10_put 24 = .ok (.invokevirtual 163, 3) ∧ decode cX10_put 27 = .ok (.istore_n 3, 1) ∧ decode cX10_put 28 = .ok (.aload_n 0, 1) ∧ decode cX10_put 29 = .ok (.getfield 45, 3) ∧ decode cX10_put 32 = .ok (.iload_n 1, 1) ∧ decode cX10_put 33 = .ok (.iload_n 2, 1) ∧ decode cX10_put 34 = .ok (.invokevirtual 166, 3) ∧ decode cX10_put 37 = .ok (.iload_n 3, 1) ∧ decode cX10_put 38 = .ok (.ireturn, 1) := by decide +kernel
theorem dX10_put_23 : decode cX10_put 23 = .ok (.iload_n 1, 1) := dq_385.1
theorem dX10_put_24 : decode cX10_put 24 = .ok (.invokevirtual 163, 3) := dq_385.2.1
theorem dX10_put_27 : decode cX10_put 27 = .ok (.istore_n 3, 1) := dq_385.2.2.1
theorem dX10_put_28 : decode cX10_put 28 = .ok (.aload_n 0, 1) := dq_385.2.2.2.1
theorem dX10_put_29 : decode cX10_put 29 = .ok (.getfield 45, 3) := dq_385.2.2.2.2.1
theorem dX10_put_32 : decode cX10_put 32 = .ok (.iload_n 1, 1) := dq_385.2.2.2.2.2.1
theorem dX10_put_33 : decode cX10_put 33 = .ok (.iload_n 2, 1) := dq_385.2.2.2.2.2.2.1
theorem dX10_put_34 : decode cX10_put 34 = .ok (.invokevirtual 166, 3) := dq_385.2.2.2.2.2.2.2.1
theorem dX10_put_37 : decode cX10_put 37 = .ok (.iload_n 3, 1) := dq_385.2.2.2.2.2.2.2.2.1
theorem dX10_put_38 : decode cX10_put 38 = .ok (.ireturn, 1) := dq_385.2.2.2.2.2.2.2.2.2
theorem dq_386 : decode cX10_at 0 = .ok (.iload_n 1, 1) ∧ decode cX10_at 1 = .ok (.invokestatic 160, 3) ∧ decode cX10_at 4 = .ok (.ifCond .eq 14, 3) ∧ decode cX10_at 7 = .ok (.aload_n 0, 1) ∧ decode cX10_at 8 = .ok (.getfield 45, 3) ∧ decode cX10_at 11 = .ok (.iload_n 1, 1) ∧ decode cX10_at 12 = .ok (.invokevirtual 163, 3) ∧ decode cX10_at 15 = .ok (.goto 5, 3) ∧ decode cX10_at 18 = .ok (.bipush (-9), 2) ∧ decode cX10_at 20 = .ok (.ireturn, 1) := by decide +kernel
theorem dX10_at_0 : decode cX10_at 0 = .ok (.iload_n 1, 1) := dq_386.1
theorem dX10_at_1 : decode cX10_at 1 = .ok (.invokestatic 160, 3) := dq_386.2.1
theorem dX10_at_4 : decode cX10_at 4 = .ok (.ifCond .eq 14, 3) := dq_386.2.2.1
theorem dX10_at_7 : decode cX10_at 7 = .ok (.aload_n 0, 1) := dq_386.2.2.2.1
theorem dX10_at_8 : decode cX10_at 8 = .ok (.getfield 45, 3) := dq_386.2.2.2.2.1
theorem dX10_at_11 : decode cX10_at 11 = .ok (.iload_n 1, 1) := dq_386.2.2.2.2.2.1
theorem dX10_at_12 : decode cX10_at 12 = .ok (.invokevirtual 163, 3) := dq_386.2.2.2.2.2.2.1
theorem dX10_at_15 : decode cX10_at 15 = .ok (.goto 5, 3) := dq_386.2.2.2.2.2.2.2.1
theorem dX10_at_18 : decode cX10_at 18 = .ok (.bipush (-9), 2) := dq_386.2.2.2.2.2.2.2.2.1
theorem dX10_at_20 : decode cX10_at 20 = .ok (.ireturn, 1) := dq_386.2.2.2.2.2.2.2.2.2
theorem dq_387 : decode cX10_lay 0 = .ok (.aload_n 0, 1) ∧ decode cX10_lay 1 = .ok (.getfield 52, 3) ∧ decode cX10_lay 4 = .ok (.iload_n 1, 1) ∧ decode cX10_lay 5 = .ok (.iload_n 2, 1) ∧ decode cX10_lay 6 = .ok (.iload_n 3, 1) ∧ decode cX10_lay 7 = .ok (.iload 4, 2) ∧ decode cX10_lay 9 = .ok (.invokevirtual 170, 3) ∧ decode cX10_lay 12 = .ok (.istore 5, 2) ∧ decode cX10_lay 14 = .ok (.iload 5, 2) ∧ decode cX10_lay 16 = .ok (.ifCond .ge 5, 3) ∧ decode cX10_lay 19 = .ok (.iconst (-1), 1) ∧ decode cX10_lay 20 = .ok (.ireturn, 1) := by decide +kernel
theorem dX10_lay_0 : decode cX10_lay 0 = .ok (.aload_n 0, 1) := dq_387.1
theorem dX10_lay_1 : decode cX10_lay 1 = .ok (.getfield 52, 3) := dq_387.2.1
theorem dX10_lay_4 : decode cX10_lay 4 = .ok (.iload_n 1, 1) := dq_387.2.2.1
theorem dX10_lay_5 : decode cX10_lay 5 = .ok (.iload_n 2, 1) := dq_387.2.2.2.1
theorem dX10_lay_6 : decode cX10_lay 6 = .ok (.iload_n 3, 1) := dq_387.2.2.2.2.1
theorem dX10_lay_7 : decode cX10_lay 7 = .ok (.iload 4, 2) := dq_387.2.2.2.2.2.1
theorem dX10_lay_9 : decode cX10_lay 9 = .ok (.invokevirtual 170, 3) := dq_387.2.2.2.2.2.2.1
theorem dX10_lay_12 : decode cX10_lay 12 = .ok (.istore 5, 2) := dq_387.2.2.2.2.2.2.2.1
theorem dX10_lay_14 : decode cX10_lay 14 = .ok (.iload 5, 2) := dq_387.2.2.2.2.2.2.2.2.1
theorem dX10_lay_16 : decode cX10_lay 16 = .ok (.ifCond .ge 5, 3) := dq_387.2.2.2.2.2.2.2.2.2.1
theorem dX10_lay_19 : decode cX10_lay 19 = .ok (.iconst (-1), 1) := dq_387.2.2.2.2.2.2.2.2.2.2.1
theorem dX10_lay_20 : decode cX10_lay 20 = .ok (.ireturn, 1) := dq_387.2.2.2.2.2.2.2.2.2.2.2
theorem dq_388 : decode cX10_lay 21 = .ok (.aload_n 0, 1) ∧ decode cX10_lay 22 = .ok (.getfield 52, 3) ∧ decode cX10_lay 25 = .ok (.iload 5, 2) ∧ decode cX10_lay 27 = .ok (.aload_n 0, 1) ∧ decode cX10_lay 28 = .ok (.getfield 45, 3) ∧ decode cX10_lay 31 = .ok (.invokevirtual 174, 3) ∧ decode cX10_lay 34 = .ok (.ifCond .le 6, 3) ∧ decode cX10_lay 37 = .ok (.bipush (-2), 2) ∧ decode cX10_lay 39 = .ok (.ireturn, 1) ∧ decode cX10_lay 40 = .ok (.aload_n 0, 1) ∧ decode cX10_lay 41 = .ok (.getfield 52, 3) ∧ decode cX10_lay 44 = .ok (.iload 5, 2) := by decide +kernel
theorem dX10_lay_21 : decode cX10_lay 21 = .ok (.aload_n 0, 1) := dq_388.1
theorem dX10_lay_22 : decode cX10_lay 22 = .ok (.getfield 52, 3) := dq_388.2.1
theorem dX10_lay_25 : decode cX10_lay 25 = .ok (.iload 5, 2) := dq_388.2.2.1
theorem dX10_lay_27 : decode cX10_lay 27 = .ok (.aload_n 0, 1) := dq_388.2.2.2.1
theorem dX10_lay_28 : decode cX10_lay 28 = .ok (.getfield 45, 3) := dq_388.2.2.2.2.1
theorem dX10_lay_31 : decode cX10_lay 31 = .ok (.invokevirtual 174, 3) := dq_388.2.2.2.2.2.1
theorem dX10_lay_34 : decode cX10_lay 34 = .ok (.ifCond .le 6, 3) := dq_388.2.2.2.2.2.2.1
theorem dX10_lay_37 : decode cX10_lay 37 = .ok (.bipush (-2), 2) := dq_388.2.2.2.2.2.2.2.1
theorem dX10_lay_39 : decode cX10_lay 39 = .ok (.ireturn, 1) := dq_388.2.2.2.2.2.2.2.2.1
theorem dX10_lay_40 : decode cX10_lay 40 = .ok (.aload_n 0, 1) := dq_388.2.2.2.2.2.2.2.2.2.1
theorem dX10_lay_41 : decode cX10_lay 41 = .ok (.getfield 52, 3) := dq_388.2.2.2.2.2.2.2.2.2.2.1
theorem dX10_lay_44 : decode cX10_lay 44 = .ok (.iload 5, 2) := dq_388.2.2.2.2.2.2.2.2.2.2.2
theorem dq_389 : decode cX10_lay 46 = .ok (.aload_n 0, 1) ∧ decode cX10_lay 47 = .ok (.getfield 45, 3) ∧ decode cX10_lay 50 = .ok (.invokevirtual 178, 3) ∧ decode cX10_lay 53 = .ok (.istore 6, 2) ∧ decode cX10_lay 55 = .ok (.aload_n 0, 1) ∧ decode cX10_lay 56 = .ok (.getfield 52, 3) ∧ decode cX10_lay 59 = .ok (.iload 5, 2) ∧ decode cX10_lay 61 = .ok (.aload_n 0, 1) ∧ decode cX10_lay 62 = .ok (.getfield 45, 3) ∧ decode cX10_lay 65 = .ok (.invokevirtual 181, 3) ∧ decode cX10_lay 68 = .ok (.iload 6, 2) ∧ decode cX10_lay 70 = .ok (.ireturn, 1) := by decide +kernel
theorem dX10_lay_46 : decode cX10_lay 46 = .ok (.aload_n 0, 1) := dq_389.1
theorem dX10_lay_47 : decode cX10_lay 47 = .ok (.getfield 45, 3) := dq_389.2.1
theorem dX10_lay_50 : decode cX10_lay 50 = .ok (.invokevirtual 178, 3) := dq_389.2.2.1
theorem dX10_lay_53 : decode cX10_lay 53 = .ok (.istore 6, 2) := dq_389.2.2.2.1
theorem dX10_lay_55 : decode cX10_lay 55 = .ok (.aload_n 0, 1) := dq_389.2.2.2.2.1
theorem dX10_lay_56 : decode cX10_lay 56 = .ok (.getfield 52, 3) := dq_389.2.2.2.2.2.1
theorem dX10_lay_59 : decode cX10_lay 59 = .ok (.iload 5, 2) := dq_389.2.2.2.2.2.2.1
theorem dX10_lay_61 : decode cX10_lay 61 = .ok (.aload_n 0, 1) := dq_389.2.2.2.2.2.2.2.1
theorem dX10_lay_62 : decode cX10_lay 62 = .ok (.getfield 45, 3) := dq_389.2.2.2.2.2.2.2.2.1
theorem dX10_lay_65 : decode cX10_lay 65 = .ok (.invokevirtual 181, 3) := dq_389.2.2.2.2.2.2.2.2.2.1
theorem dX10_lay_68 : decode cX10_lay 68 = .ok (.iload 6, 2) := dq_389.2.2.2.2.2.2.2.2.2.2.1
theorem dX10_lay_70 : decode cX10_lay 70 = .ok (.ireturn, 1) := dq_389.2.2.2.2.2.2.2.2.2.2.2
theorem dq_390 : decode cX10_ahead 0 = .ok (.aload_n 0, 1) ∧ decode cX10_ahead 1 = .ok (.iload_n 1, 1) ∧ decode cX10_ahead 2 = .ok (.iload_n 2, 1) ∧ decode cX10_ahead 3 = .ok (.invokevirtual 185, 3) ∧ decode cX10_ahead 6 = .ok (.ifCond .ne 5, 3) ∧ decode cX10_ahead 9 = .ok (.iconst (-1), 1) ∧ decode cX10_ahead 10 = .ok (.ireturn, 1) ∧ decode cX10_ahead 11 = .ok (.aload_n 0, 1) ∧ decode cX10_ahead 12 = .ok (.getfield 38, 3) ∧ decode cX10_ahead 15 = .ok (.iload_n 2, 1) ∧ decode cX10_ahead 16 = .ok (.invokevirtual 146, 3) ∧ decode cX10_ahead 19 = .ok (.iload_n 1, 1) := by decide +kernel
theorem dX10_ahead_0 : decode cX10_ahead 0 = .ok (.aload_n 0, 1) := dq_390.1
theorem dX10_ahead_1 : decode cX10_ahead 1 = .ok (.iload_n 1, 1) := dq_390.2.1
theorem dX10_ahead_2 : decode cX10_ahead 2 = .ok (.iload_n 2, 1) := dq_390.2.2.1
theorem dX10_ahead_3 : decode cX10_ahead 3 = .ok (.invokevirtual 185, 3) := dq_390.2.2.2.1
theorem dX10_ahead_6 : decode cX10_ahead 6 = .ok (.ifCond .ne 5, 3) := dq_390.2.2.2.2.1
theorem dX10_ahead_9 : decode cX10_ahead 9 = .ok (.iconst (-1), 1) := dq_390.2.2.2.2.2.1
theorem dX10_ahead_10 : decode cX10_ahead 10 = .ok (.ireturn, 1) := dq_390.2.2.2.2.2.2.1
theorem dX10_ahead_11 : decode cX10_ahead 11 = .ok (.aload_n 0, 1) := dq_390.2.2.2.2.2.2.2.1
theorem dX10_ahead_12 : decode cX10_ahead 12 = .ok (.getfield 38, 3) := dq_390.2.2.2.2.2.2.2.2.1
theorem dX10_ahead_15 : decode cX10_ahead 15 = .ok (.iload_n 2, 1) := dq_390.2.2.2.2.2.2.2.2.2.1
theorem dX10_ahead_16 : decode cX10_ahead 16 = .ok (.invokevirtual 146, 3) := dq_390.2.2.2.2.2.2.2.2.2.2.1
theorem dX10_ahead_19 : decode cX10_ahead 19 = .ok (.iload_n 1, 1) := dq_390.2.2.2.2.2.2.2.2.2.2.2
theorem dq_391 : decode cX10_ahead 20 = .ok (.invokestatic 189, 3) ∧ decode cX10_ahead 23 = .ok (.ifCond .eq 7, 3) ∧ decode cX10_ahead 26 = .ok (.iconst 1, 1) ∧ decode cX10_ahead 27 = .ok (.goto 4, 3) ∧ decode cX10_ahead 30 = .ok (.iconst 0, 1) ∧ decode cX10_ahead 31 = .ok (.ireturn, 1) := by decide +kernel
theorem dX10_ahead_20 : decode cX10_ahead 20 = .ok (.invokestatic 189, 3) := dq_391.1
theorem dX10_ahead_23 : decode cX10_ahead 23 = .ok (.ifCond .eq 7, 3) := dq_391.2.1
theorem dX10_ahead_26 : decode cX10_ahead 26 = .ok (.iconst 1, 1) := dq_391.2.2.1
theorem dX10_ahead_27 : decode cX10_ahead 27 = .ok (.goto 4, 3) := dq_391.2.2.2.1
theorem dX10_ahead_30 : decode cX10_ahead 30 = .ok (.iconst 0, 1) := dq_391.2.2.2.2.1
theorem dX10_ahead_31 : decode cX10_ahead 31 = .ok (.ireturn, 1) := dq_391.2.2.2.2.2
theorem dq_392 : decode cX10_rings 0 = .ok (.iload_n 1, 1) ∧ decode cX10_rings 1 = .ok (.lookupswitch 43 #[(0, 27), (1, 35)], 27) ∧ decode cX10_rings 28 = .ok (.aload_n 0, 1) ∧ decode cX10_rings 29 = .ok (.getfield 38, 3) ∧ decode cX10_rings 32 = .ok (.invokevirtual 192, 3) ∧ decode cX10_rings 35 = .ok (.ireturn, 1) ∧ decode cX10_rings 36 = .ok (.aload_n 0, 1) ∧ decode cX10_rings 37 = .ok (.getfield 38, 3) ∧ decode cX10_rings 40 = .ok (.invokevirtual 195, 3) ∧ decode cX10_rings 43 = .ok (.ireturn, 1) ∧ decode cX10_rings 44 = .ok (.iconst (-1), 1) ∧ decode cX10_rings 45 = .ok (.ireturn, 1) := by decide +kernel
theorem dX10_rings_0 : decode cX10_rings 0 = .ok (.iload_n 1, 1) := dq_392.1
theorem dX10_rings_1 : decode cX10_rings 1 = .ok (.lookupswitch 43 #[(0, 27), (1, 35)], 27) := dq_392.2.1
theorem dX10_rings_28 : decode cX10_rings 28 = .ok (.aload_n 0, 1) := dq_392.2.2.1
theorem dX10_rings_29 : decode cX10_rings 29 = .ok (.getfield 38, 3) := dq_392.2.2.2.1
theorem dX10_rings_32 : decode cX10_rings 32 = .ok (.invokevirtual 192, 3) := dq_392.2.2.2.2.1
theorem dX10_rings_35 : decode cX10_rings 35 = .ok (.ireturn, 1) := dq_392.2.2.2.2.2.1
theorem dX10_rings_36 : decode cX10_rings 36 = .ok (.aload_n 0, 1) := dq_392.2.2.2.2.2.2.1
theorem dX10_rings_37 : decode cX10_rings 37 = .ok (.getfield 38, 3) := dq_392.2.2.2.2.2.2.2.1
theorem dX10_rings_40 : decode cX10_rings 40 = .ok (.invokevirtual 195, 3) := dq_392.2.2.2.2.2.2.2.2.1
theorem dX10_rings_43 : decode cX10_rings 43 = .ok (.ireturn, 1) := dq_392.2.2.2.2.2.2.2.2.2.1
theorem dX10_rings_44 : decode cX10_rings 44 = .ok (.iconst (-1), 1) := dq_392.2.2.2.2.2.2.2.2.2.2.1
theorem dX10_rings_45 : decode cX10_rings 45 = .ok (.ireturn, 1) := dq_392.2.2.2.2.2.2.2.2.2.2.2
theorem dq_393 : decode cX10_rank 0 = .ok (.aload_n 0, 1) ∧ decode cX10_rank 1 = .ok (.getfield 19, 3) ∧ decode cX10_rank 4 = .ok (.iload_n 1, 1) ∧ decode cX10_rank 5 = .ok (.invokevirtual 134, 3) ∧ decode cX10_rank 8 = .ok (.ifCond .eq 12, 3) ∧ decode cX10_rank 11 = .ok (.iload_n 2, 1) ∧ decode cX10_rank 12 = .ok (.iconst 0, 1) ∧ decode cX10_rank 13 = .ok (.iconst 1, 1) ∧ decode cX10_rank 14 = .ok (.invokestatic 123, 3) ∧ decode cX10_rank 17 = .ok (.ifCond .ne 5, 3) ∧ decode cX10_rank 20 = .ok (.iconst (-1), 1) ∧ decode cX10_rank 21 = .ok (.ireturn, 1) := by decide +kernel
theorem dX10_rank_0 : decode cX10_rank 0 = .ok (.aload_n 0, 1) := dq_393.1
theorem dX10_rank_1 : decode cX10_rank 1 = .ok (.getfield 19, 3) := dq_393.2.1
theorem dX10_rank_4 : decode cX10_rank 4 = .ok (.iload_n 1, 1) := dq_393.2.2.1
theorem dX10_rank_5 : decode cX10_rank 5 = .ok (.invokevirtual 134, 3) := dq_393.2.2.2.1
theorem dX10_rank_8 : decode cX10_rank 8 = .ok (.ifCond .eq 12, 3) := dq_393.2.2.2.2.1
theorem dX10_rank_11 : decode cX10_rank 11 = .ok (.iload_n 2, 1) := dq_393.2.2.2.2.2.1
theorem dX10_rank_12 : decode cX10_rank 12 = .ok (.iconst 0, 1) := dq_393.2.2.2.2.2.2.1
theorem dX10_rank_13 : decode cX10_rank 13 = .ok (.iconst 1, 1) := dq_393.2.2.2.2.2.2.2.1
theorem dX10_rank_14 : decode cX10_rank 14 = .ok (.invokestatic 123, 3) := dq_393.2.2.2.2.2.2.2.2.1
theorem dX10_rank_17 : decode cX10_rank 17 = .ok (.ifCond .ne 5, 3) := dq_393.2.2.2.2.2.2.2.2.2.1
theorem dX10_rank_20 : decode cX10_rank 20 = .ok (.iconst (-1), 1) := dq_393.2.2.2.2.2.2.2.2.2.2.1
theorem dX10_rank_21 : decode cX10_rank 21 = .ok (.ireturn, 1) := dq_393.2.2.2.2.2.2.2.2.2.2.2
theorem dq_394 : decode cX10_rank 22 = .ok (.aload_n 0, 1) ∧ decode cX10_rank 23 = .ok (.getfield 38, 3) ∧ decode cX10_rank 26 = .ok (.invokevirtual 192, 3) ∧ decode cX10_rank 29 = .ok (.ifCond .eq 6, 3) ∧ decode cX10_rank 32 = .ok (.bipush (-2), 2) ∧ decode cX10_rank 34 = .ok (.ireturn, 1) ∧ decode cX10_rank 35 = .ok (.iload_n 2, 1) ∧ decode cX10_rank 36 = .ok (.ifCond .ne 15, 3) ∧ decode cX10_rank 39 = .ok (.aload_n 0, 1) ∧ decode cX10_rank 40 = .ok (.getfield 38, 3) ∧ decode cX10_rank 43 = .ok (.iload_n 1, 1) ∧ decode cX10_rank 44 = .ok (.invokevirtual 146, 3) := by decide +kernel
theorem dX10_rank_22 : decode cX10_rank 22 = .ok (.aload_n 0, 1) := dq_394.1
theorem dX10_rank_23 : decode cX10_rank 23 = .ok (.getfield 38, 3) := dq_394.2.1
theorem dX10_rank_26 : decode cX10_rank 26 = .ok (.invokevirtual 192, 3) := dq_394.2.2.1
theorem dX10_rank_29 : decode cX10_rank 29 = .ok (.ifCond .eq 6, 3) := dq_394.2.2.2.1
theorem dX10_rank_32 : decode cX10_rank 32 = .ok (.bipush (-2), 2) := dq_394.2.2.2.2.1
theorem dX10_rank_34 : decode cX10_rank 34 = .ok (.ireturn, 1) := dq_394.2.2.2.2.2.1
theorem dX10_rank_35 : decode cX10_rank 35 = .ok (.iload_n 2, 1) := dq_394.2.2.2.2.2.2.1
theorem dX10_rank_36 : decode cX10_rank 36 = .ok (.ifCond .ne 15, 3) := dq_394.2.2.2.2.2.2.2.1
theorem dX10_rank_39 : decode cX10_rank 39 = .ok (.aload_n 0, 1) := dq_394.2.2.2.2.2.2.2.2.1
theorem dX10_rank_40 : decode cX10_rank 40 = .ok (.getfield 38, 3) := dq_394.2.2.2.2.2.2.2.2.2.1
theorem dX10_rank_43 : decode cX10_rank 43 = .ok (.iload_n 1, 1) := dq_394.2.2.2.2.2.2.2.2.2.2.1
theorem dX10_rank_44 : decode cX10_rank 44 = .ok (.invokevirtual 146, 3) := dq_394.2.2.2.2.2.2.2.2.2.2.2
theorem dq_395 : decode cX10_rank 47 = .ok (.invokestatic 198, 3) ∧ decode cX10_rank 50 = .ok (.ireturn, 1) ∧ decode cX10_rank 51 = .ok (.aload_n 0, 1) ∧ decode cX10_rank 52 = .ok (.getfield 19, 3) ∧ decode cX10_rank 55 = .ok (.invokevirtual 114, 3) ∧ decode cX10_rank 58 = .ok (.iconst 1, 1) ∧ decode cX10_rank 59 = .ok (.isub, 1) ∧ decode cX10_rank 60 = .ok (.aload_n 0, 1) ∧ decode cX10_rank 61 = .ok (.getfield 38, 3) ∧ decode cX10_rank 64 = .ok (.iload_n 1, 1) ∧ decode cX10_rank 65 = .ok (.invokevirtual 203, 3) ∧ decode cX10_rank 68 = .ok (.invokestatic 198, 3) := by decide +kernel
theorem dX10_rank_47 : decode cX10_rank 47 = .ok (.invokestatic 198, 3) := dq_395.1
theorem dX10_rank_50 : decode cX10_rank 50 = .ok (.ireturn, 1) := dq_395.2.1
theorem dX10_rank_51 : decode cX10_rank 51 = .ok (.aload_n 0, 1) := dq_395.2.2.1
theorem dX10_rank_52 : decode cX10_rank 52 = .ok (.getfield 19, 3) := dq_395.2.2.2.1
theorem dX10_rank_55 : decode cX10_rank 55 = .ok (.invokevirtual 114, 3) := dq_395.2.2.2.2.1
theorem dX10_rank_58 : decode cX10_rank 58 = .ok (.iconst 1, 1) := dq_395.2.2.2.2.2.1
theorem dX10_rank_59 : decode cX10_rank 59 = .ok (.isub, 1) := dq_395.2.2.2.2.2.2.1
theorem dX10_rank_60 : decode cX10_rank 60 = .ok (.aload_n 0, 1) := dq_395.2.2.2.2.2.2.2.1
theorem dX10_rank_61 : decode cX10_rank 61 = .ok (.getfield 38, 3) := dq_395.2.2.2.2.2.2.2.2.1
theorem dX10_rank_64 : decode cX10_rank 64 = .ok (.iload_n 1, 1) := dq_395.2.2.2.2.2.2.2.2.2.1
theorem dX10_rank_65 : decode cX10_rank 65 = .ok (.invokevirtual 203, 3) := dq_395.2.2.2.2.2.2.2.2.2.2.1
theorem dX10_rank_68 : decode cX10_rank 68 = .ok (.invokestatic 198, 3) := dq_395.2.2.2.2.2.2.2.2.2.2.2
theorem dq_396 : decode cX10_rank 71 = .ok (.isub, 1) ∧ decode cX10_rank 72 = .ok (.ireturn, 1) := by decide +kernel
theorem dX10_rank_71 : decode cX10_rank 71 = .ok (.isub, 1) := dq_396.1
theorem dX10_rank_72 : decode cX10_rank 72 = .ok (.ireturn, 1) := dq_396.2
theorem dq_397 : decode cX10_orders 0 = .ok (.aload_n 0, 1) ∧ decode cX10_orders 1 = .ok (.getfield 38, 3) ∧ decode cX10_orders 4 = .ok (.invokevirtual 192, 3) ∧ decode cX10_orders 7 = .ok (.ifCond .eq 9, 3) ∧ decode cX10_orders 10 = .ok (.ldc2_w 206, 3) ∧ decode cX10_orders 13 = .ok (.goto 10, 3) ∧ decode cX10_orders 16 = .ok (.aload_n 0, 1) ∧ decode cX10_orders 17 = .ok (.getfield 38, 3) ∧ decode cX10_orders 20 = .ok (.invokevirtual 208, 3) ∧ decode cX10_orders 23 = .ok (.lreturn, 1) := by decide +kernel
theorem dX10_orders_0 : decode cX10_orders 0 = .ok (.aload_n 0, 1) := dq_397.1
theorem dX10_orders_1 : decode cX10_orders 1 = .ok (.getfield 38, 3) := dq_397.2.1
theorem dX10_orders_4 : decode cX10_orders 4 = .ok (.invokevirtual 192, 3) := dq_397.2.2.1
theorem dX10_orders_7 : decode cX10_orders 7 = .ok (.ifCond .eq 9, 3) := dq_397.2.2.2.1
theorem dX10_orders_10 : decode cX10_orders 10 = .ok (.ldc2_w 206, 3) := dq_397.2.2.2.2.1
theorem dX10_orders_13 : decode cX10_orders 13 = .ok (.goto 10, 3) := dq_397.2.2.2.2.2.1
theorem dX10_orders_16 : decode cX10_orders 16 = .ok (.aload_n 0, 1) := dq_397.2.2.2.2.2.2.1
theorem dX10_orders_17 : decode cX10_orders 17 = .ok (.getfield 38, 3) := dq_397.2.2.2.2.2.2.2.1
theorem dX10_orders_20 : decode cX10_orders 20 = .ok (.invokevirtual 208, 3) := dq_397.2.2.2.2.2.2.2.2.1
theorem dX10_orders_23 : decode cX10_orders 23 = .ok (.lreturn, 1) := dq_397.2.2.2.2.2.2.2.2.2
theorem dq_398 : decode cX10_likely 0 = .ok (.aload_n 0, 1) ∧ decode cX10_likely 1 = .ok (.iload_n 1, 1) ∧ decode cX10_likely 2 = .ok (.iload_n 2, 1) ∧ decode cX10_likely 3 = .ok (.invokevirtual 185, 3) ∧ decode cX10_likely 6 = .ok (.ifCond .eq 12, 3) ∧ decode cX10_likely 9 = .ok (.iload_n 3, 1) ∧ decode cX10_likely 10 = .ok (.iconst 0, 1) ∧ decode cX10_likely 11 = .ok (.iconst 1, 1) ∧ decode cX10_likely 12 = .ok (.invokestatic 123, 3) ∧ decode cX10_likely 15 = .ok (.ifCond .ne 7, 3) ∧ decode cX10_likely 18 = .ok (.ldc2_w 212, 3) ∧ decode cX10_likely 21 = .ok (.lreturn, 1) := by decide +kernel
theorem dX10_likely_0 : decode cX10_likely 0 = .ok (.aload_n 0, 1) := dq_398.1
theorem dX10_likely_1 : decode cX10_likely 1 = .ok (.iload_n 1, 1) := dq_398.2.1
theorem dX10_likely_2 : decode cX10_likely 2 = .ok (.iload_n 2, 1) := dq_398.2.2.1
theorem dX10_likely_3 : decode cX10_likely 3 = .ok (.invokevirtual 185, 3) := dq_398.2.2.2.1
theorem dX10_likely_6 : decode cX10_likely 6 = .ok (.ifCond .eq 12, 3) := dq_398.2.2.2.2.1
theorem dX10_likely_9 : decode cX10_likely 9 = .ok (.iload_n 3, 1) := dq_398.2.2.2.2.2.1
theorem dX10_likely_10 : decode cX10_likely 10 = .ok (.iconst 0, 1) := dq_398.2.2.2.2.2.2.1
theorem dX10_likely_11 : decode cX10_likely 11 = .ok (.iconst 1, 1) := dq_398.2.2.2.2.2.2.2.1
theorem dX10_likely_12 : decode cX10_likely 12 = .ok (.invokestatic 123, 3) := dq_398.2.2.2.2.2.2.2.2.1
theorem dX10_likely_15 : decode cX10_likely 15 = .ok (.ifCond .ne 7, 3) := dq_398.2.2.2.2.2.2.2.2.2.1
theorem dX10_likely_18 : decode cX10_likely 18 = .ok (.ldc2_w 212, 3) := dq_398.2.2.2.2.2.2.2.2.2.2.1
theorem dX10_likely_21 : decode cX10_likely 21 = .ok (.lreturn, 1) := dq_398.2.2.2.2.2.2.2.2.2.2.2
theorem dq_399 : decode cX10_likely 22 = .ok (.aload_n 0, 1) ∧ decode cX10_likely 23 = .ok (.getfield 38, 3) ∧ decode cX10_likely 26 = .ok (.invokevirtual 192, 3) ∧ decode cX10_likely 29 = .ok (.ifCond .eq 7, 3) ∧ decode cX10_likely 32 = .ok (.ldc2_w 206, 3) ∧ decode cX10_likely 35 = .ok (.lreturn, 1) ∧ decode cX10_likely 36 = .ok (.aload_n 0, 1) ∧ decode cX10_likely 37 = .ok (.getfield 38, 3) ∧ decode cX10_likely 40 = .ok (.invokevirtual 208, 3) ∧ decode cX10_likely 43 = .ok (.lstore 4, 2) ∧ decode cX10_likely 45 = .ok (.aload_n 0, 1) ∧ decode cX10_likely 46 = .ok (.getfield 38, 3) := by decide +kernel
theorem dX10_likely_22 : decode cX10_likely 22 = .ok (.aload_n 0, 1) := dq_399.1
theorem dX10_likely_23 : decode cX10_likely 23 = .ok (.getfield 38, 3) := dq_399.2.1
theorem dX10_likely_26 : decode cX10_likely 26 = .ok (.invokevirtual 192, 3) := dq_399.2.2.1
theorem dX10_likely_29 : decode cX10_likely 29 = .ok (.ifCond .eq 7, 3) := dq_399.2.2.2.1
theorem dX10_likely_32 : decode cX10_likely 32 = .ok (.ldc2_w 206, 3) := dq_399.2.2.2.2.1
theorem dX10_likely_35 : decode cX10_likely 35 = .ok (.lreturn, 1) := dq_399.2.2.2.2.2.1
theorem dX10_likely_36 : decode cX10_likely 36 = .ok (.aload_n 0, 1) := dq_399.2.2.2.2.2.2.1
theorem dX10_likely_37 : decode cX10_likely 37 = .ok (.getfield 38, 3) := dq_399.2.2.2.2.2.2.2.1
theorem dX10_likely_40 : decode cX10_likely 40 = .ok (.invokevirtual 208, 3) := dq_399.2.2.2.2.2.2.2.2.1
theorem dX10_likely_43 : decode cX10_likely 43 = .ok (.lstore 4, 2) := dq_399.2.2.2.2.2.2.2.2.2.1
theorem dX10_likely_45 : decode cX10_likely 45 = .ok (.aload_n 0, 1) := dq_399.2.2.2.2.2.2.2.2.2.2.1
theorem dX10_likely_46 : decode cX10_likely 46 = .ok (.getfield 38, 3) := dq_399.2.2.2.2.2.2.2.2.2.2.2
theorem dq_400 : decode cX10_likely 49 = .ok (.iload_n 1, 1) ∧ decode cX10_likely 50 = .ok (.iload_n 2, 1) ∧ decode cX10_likely 51 = .ok (.invokevirtual 214, 3) ∧ decode cX10_likely 54 = .ok (.lstore 6, 2) ∧ decode cX10_likely 56 = .ok (.lload 6, 2) ∧ decode cX10_likely 58 = .ok (.lload 4, 2) ∧ decode cX10_likely 60 = .ok (.invokestatic 218, 3) ∧ decode cX10_likely 63 = .ok (.lstore 8, 2) ∧ decode cX10_likely 65 = .ok (.iload_n 3, 1) ∧ decode cX10_likely 66 = .ok (.ifCond .ne 8, 3) ∧ decode cX10_likely 69 = .ok (.lload 6, 2) ∧ decode cX10_likely 71 = .ok (.goto 5, 3) := by decide +kernel
theorem dX10_likely_49 : decode cX10_likely 49 = .ok (.iload_n 1, 1) := dq_400.1
theorem dX10_likely_50 : decode cX10_likely 50 = .ok (.iload_n 2, 1) := dq_400.2.1
theorem dX10_likely_51 : decode cX10_likely 51 = .ok (.invokevirtual 214, 3) := dq_400.2.2.1
theorem dX10_likely_54 : decode cX10_likely 54 = .ok (.lstore 6, 2) := dq_400.2.2.2.1
theorem dX10_likely_56 : decode cX10_likely 56 = .ok (.lload 6, 2) := dq_400.2.2.2.2.1
theorem dX10_likely_58 : decode cX10_likely 58 = .ok (.lload 4, 2) := dq_400.2.2.2.2.2.1
theorem dX10_likely_60 : decode cX10_likely 60 = .ok (.invokestatic 218, 3) := dq_400.2.2.2.2.2.2.1
theorem dX10_likely_63 : decode cX10_likely 63 = .ok (.lstore 8, 2) := dq_400.2.2.2.2.2.2.2.1
theorem dX10_likely_65 : decode cX10_likely 65 = .ok (.iload_n 3, 1) := dq_400.2.2.2.2.2.2.2.2.1
theorem dX10_likely_66 : decode cX10_likely 66 = .ok (.ifCond .ne 8, 3) := dq_400.2.2.2.2.2.2.2.2.2.1
theorem dX10_likely_69 : decode cX10_likely 69 = .ok (.lload 6, 2) := dq_400.2.2.2.2.2.2.2.2.2.2.1
theorem dX10_likely_71 : decode cX10_likely 71 = .ok (.goto 5, 3) := dq_400.2.2.2.2.2.2.2.2.2.2.2
theorem dq_401 : decode cX10_likely 74 = .ok (.lload 4, 2) ∧ decode cX10_likely 76 = .ok (.lload 8, 2) ∧ decode cX10_likely 78 = .ok (.ldiv, 1) ∧ decode cX10_likely 79 = .ok (.lreturn, 1) := by decide +kernel
theorem dX10_likely_74 : decode cX10_likely 74 = .ok (.lload 4, 2) := dq_401.1
theorem dX10_likely_76 : decode cX10_likely 76 = .ok (.lload 8, 2) := dq_401.2.1
theorem dX10_likely_78 : decode cX10_likely 78 = .ok (.ldiv, 1) := dq_401.2.2.1
theorem dX10_likely_79 : decode cX10_likely 79 = .ok (.lreturn, 1) := dq_401.2.2.2
theorem dq_402 : decode cX10_begins 0 = .ok (.iload_n 1, 1) ∧ decode cX10_begins 1 = .ok (.iconst 0, 1) ∧ decode cX10_begins 2 = .ok (.iconst 1, 1) ∧ decode cX10_begins 3 = .ok (.invokestatic 123, 3) ∧ decode cX10_begins 6 = .ok (.ifCond .ne 5, 3) ∧ decode cX10_begins 9 = .ok (.iconst (-1), 1) ∧ decode cX10_begins 10 = .ok (.ireturn, 1) ∧ decode cX10_begins 11 = .ok (.aload_n 0, 1) ∧ decode cX10_begins 12 = .ok (.getfield 38, 3) ∧ decode cX10_begins 15 = .ok (.invokevirtual 192, 3) ∧ decode cX10_begins 18 = .ok (.ifCond .eq 6, 3) ∧ decode cX10_begins 21 = .ok (.bipush (-2), 2) := by decide +kernel
theorem dX10_begins_0 : decode cX10_begins 0 = .ok (.iload_n 1, 1) := dq_402.1
theorem dX10_begins_1 : decode cX10_begins 1 = .ok (.iconst 0, 1) := dq_402.2.1
theorem dX10_begins_2 : decode cX10_begins 2 = .ok (.iconst 1, 1) := dq_402.2.2.1
theorem dX10_begins_3 : decode cX10_begins 3 = .ok (.invokestatic 123, 3) := dq_402.2.2.2.1
theorem dX10_begins_6 : decode cX10_begins 6 = .ok (.ifCond .ne 5, 3) := dq_402.2.2.2.2.1
theorem dX10_begins_9 : decode cX10_begins 9 = .ok (.iconst (-1), 1) := dq_402.2.2.2.2.2.1
theorem dX10_begins_10 : decode cX10_begins 10 = .ok (.ireturn, 1) := dq_402.2.2.2.2.2.2.1
theorem dX10_begins_11 : decode cX10_begins 11 = .ok (.aload_n 0, 1) := dq_402.2.2.2.2.2.2.2.1
theorem dX10_begins_12 : decode cX10_begins 12 = .ok (.getfield 38, 3) := dq_402.2.2.2.2.2.2.2.2.1
theorem dX10_begins_15 : decode cX10_begins 15 = .ok (.invokevirtual 192, 3) := dq_402.2.2.2.2.2.2.2.2.2.1
theorem dX10_begins_18 : decode cX10_begins 18 = .ok (.ifCond .eq 6, 3) := dq_402.2.2.2.2.2.2.2.2.2.2.1
theorem dX10_begins_21 : decode cX10_begins 21 = .ok (.bipush (-2), 2) := dq_402.2.2.2.2.2.2.2.2.2.2.2
theorem dq_403 : decode cX10_begins 23 = .ok (.ireturn, 1) ∧ decode cX10_begins 24 = .ok (.iload_n 1, 1) ∧ decode cX10_begins 25 = .ok (.ifCond .ne 13, 3) ∧ decode cX10_begins 28 = .ok (.aload_n 0, 1) ∧ decode cX10_begins 29 = .ok (.getfield 38, 3) ∧ decode cX10_begins 32 = .ok (.invokevirtual 222, 3) ∧ decode cX10_begins 35 = .ok (.goto 10, 3) ∧ decode cX10_begins 38 = .ok (.aload_n 0, 1) ∧ decode cX10_begins 39 = .ok (.getfield 38, 3) ∧ decode cX10_begins 42 = .ok (.invokevirtual 225, 3) ∧ decode cX10_begins 45 = .ok (.ireturn, 1) := by decide +kernel
theorem dX10_begins_23 : decode cX10_begins 23 = .ok (.ireturn, 1) := dq_403.1
theorem dX10_begins_24 : decode cX10_begins 24 = .ok (.iload_n 1, 1) := dq_403.2.1
theorem dX10_begins_25 : decode cX10_begins 25 = .ok (.ifCond .ne 13, 3) := dq_403.2.2.1
theorem dX10_begins_28 : decode cX10_begins 28 = .ok (.aload_n 0, 1) := dq_403.2.2.2.1
theorem dX10_begins_29 : decode cX10_begins 29 = .ok (.getfield 38, 3) := dq_403.2.2.2.2.1
theorem dX10_begins_32 : decode cX10_begins 32 = .ok (.invokevirtual 222, 3) := dq_403.2.2.2.2.2.1
theorem dX10_begins_35 : decode cX10_begins 35 = .ok (.goto 10, 3) := dq_403.2.2.2.2.2.2.1
theorem dX10_begins_38 : decode cX10_begins 38 = .ok (.aload_n 0, 1) := dq_403.2.2.2.2.2.2.2.1
theorem dX10_begins_39 : decode cX10_begins 39 = .ok (.getfield 38, 3) := dq_403.2.2.2.2.2.2.2.2.1
theorem dX10_begins_42 : decode cX10_begins 42 = .ok (.invokevirtual 225, 3) := dq_403.2.2.2.2.2.2.2.2.2.1
theorem dX10_begins_45 : decode cX10_begins 45 = .ok (.ireturn, 1) := dq_403.2.2.2.2.2.2.2.2.2.2
theorem dq_404 : decode cX10_order 0 = .ok (.lload_n 1, 1) ∧ decode cX10_order 1 = .ok (.lconst 0, 1) ∧ decode cX10_order 2 = .ok (.lcmp, 1) ∧ decode cX10_order 3 = .ok (.ifCond .lt 14, 3) ∧ decode cX10_order 6 = .ok (.aload_n 0, 1) ∧ decode cX10_order 7 = .ok (.getfield 19, 3) ∧ decode cX10_order 10 = .ok (.iload_n 3, 1) ∧ decode cX10_order 11 = .ok (.invokevirtual 134, 3) ∧ decode cX10_order 14 = .ok (.ifCond .ne 5, 3) ∧ decode cX10_order 17 = .ok (.iconst (-1), 1) ∧ decode cX10_order 18 = .ok (.ireturn, 1) ∧ decode cX10_order 19 = .ok (.aload_n 0, 1) := by decide +kernel
theorem dX10_order_0 : decode cX10_order 0 = .ok (.lload_n 1, 1) := dq_404.1
theorem dX10_order_1 : decode cX10_order 1 = .ok (.lconst 0, 1) := dq_404.2.1
theorem dX10_order_2 : decode cX10_order 2 = .ok (.lcmp, 1) := dq_404.2.2.1
theorem dX10_order_3 : decode cX10_order 3 = .ok (.ifCond .lt 14, 3) := dq_404.2.2.2.1
theorem dX10_order_6 : decode cX10_order 6 = .ok (.aload_n 0, 1) := dq_404.2.2.2.2.1
theorem dX10_order_7 : decode cX10_order 7 = .ok (.getfield 19, 3) := dq_404.2.2.2.2.2.1
theorem dX10_order_10 : decode cX10_order 10 = .ok (.iload_n 3, 1) := dq_404.2.2.2.2.2.2.1
theorem dX10_order_11 : decode cX10_order 11 = .ok (.invokevirtual 134, 3) := dq_404.2.2.2.2.2.2.2.1
theorem dX10_order_14 : decode cX10_order 14 = .ok (.ifCond .ne 5, 3) := dq_404.2.2.2.2.2.2.2.2.1
theorem dX10_order_17 : decode cX10_order 17 = .ok (.iconst (-1), 1) := dq_404.2.2.2.2.2.2.2.2.2.1
theorem dX10_order_18 : decode cX10_order 18 = .ok (.ireturn, 1) := dq_404.2.2.2.2.2.2.2.2.2.2.1
theorem dX10_order_19 : decode cX10_order 19 = .ok (.aload_n 0, 1) := dq_404.2.2.2.2.2.2.2.2.2.2.2
theorem dq_405 : decode cX10_order 20 = .ok (.getfield 38, 3) ∧ decode cX10_order 23 = .ok (.invokevirtual 192, 3) ∧ decode cX10_order 26 = .ok (.ifCond .eq 6, 3) ∧ decode cX10_order 29 = .ok (.bipush (-2), 2) ∧ decode cX10_order 31 = .ok (.ireturn, 1) ∧ decode cX10_order 32 = .ok (.lload_n 1, 1) ∧ decode cX10_order 33 = .ok (.aload_n 0, 1) ∧ decode cX10_order 34 = .ok (.getfield 38, 3) ∧ decode cX10_order 37 = .ok (.invokevirtual 208, 3) ∧ decode cX10_order 40 = .ok (.lcmp, 1) ∧ decode cX10_order 41 = .ok (.ifCond .lt 7, 3) ∧ decode cX10_order 44 = .ok (.iconst (-1), 1) := by decide +kernel
theorem dX10_order_20 : decode cX10_order 20 = .ok (.getfield 38, 3) := dq_405.1
theorem dX10_order_23 : decode cX10_order 23 = .ok (.invokevirtual 192, 3) := dq_405.2.1
theorem dX10_order_26 : decode cX10_order 26 = .ok (.ifCond .eq 6, 3) := dq_405.2.2.1
theorem dX10_order_29 : decode cX10_order 29 = .ok (.bipush (-2), 2) := dq_405.2.2.2.1
theorem dX10_order_31 : decode cX10_order 31 = .ok (.ireturn, 1) := dq_405.2.2.2.2.1
theorem dX10_order_32 : decode cX10_order 32 = .ok (.lload_n 1, 1) := dq_405.2.2.2.2.2.1
theorem dX10_order_33 : decode cX10_order 33 = .ok (.aload_n 0, 1) := dq_405.2.2.2.2.2.2.1
theorem dX10_order_34 : decode cX10_order 34 = .ok (.getfield 38, 3) := dq_405.2.2.2.2.2.2.2.1
theorem dX10_order_37 : decode cX10_order 37 = .ok (.invokevirtual 208, 3) := dq_405.2.2.2.2.2.2.2.2.1
theorem dX10_order_40 : decode cX10_order 40 = .ok (.lcmp, 1) := dq_405.2.2.2.2.2.2.2.2.2.1
theorem dX10_order_41 : decode cX10_order 41 = .ok (.ifCond .lt 7, 3) := dq_405.2.2.2.2.2.2.2.2.2.2.1
theorem dX10_order_44 : decode cX10_order 44 = .ok (.iconst (-1), 1) := dq_405.2.2.2.2.2.2.2.2.2.2.2
theorem dq_406 : decode cX10_order 45 = .ok (.goto 12, 3) ∧ decode cX10_order 48 = .ok (.aload_n 0, 1) ∧ decode cX10_order 49 = .ok (.getfield 38, 3) ∧ decode cX10_order 52 = .ok (.lload_n 1, 1) ∧ decode cX10_order 53 = .ok (.iload_n 3, 1) ∧ decode cX10_order 54 = .ok (.invokevirtual 228, 3) ∧ decode cX10_order 57 = .ok (.ireturn, 1) := by decide +kernel
theorem dX10_order_45 : decode cX10_order 45 = .ok (.goto 12, 3) := dq_406.1
theorem dX10_order_48 : decode cX10_order 48 = .ok (.aload_n 0, 1) := dq_406.2.1
theorem dX10_order_49 : decode cX10_order 49 = .ok (.getfield 38, 3) := dq_406.2.2.1
theorem dX10_order_52 : decode cX10_order 52 = .ok (.lload_n 1, 1) := dq_406.2.2.2.1
theorem dX10_order_53 : decode cX10_order 53 = .ok (.iload_n 3, 1) := dq_406.2.2.2.2.1
theorem dX10_order_54 : decode cX10_order 54 = .ok (.invokevirtual 228, 3) := dq_406.2.2.2.2.2.1
theorem dX10_order_57 : decode cX10_order 57 = .ok (.ireturn, 1) := dq_406.2.2.2.2.2.2
theorem dq_407 : decode cX10_size 0 = .ok (.aload_n 0, 1) ∧ decode cX10_size 1 = .ok (.getfield 19, 3) ∧ decode cX10_size 4 = .ok (.iload_n 1, 1) ∧ decode cX10_size 5 = .ok (.invokevirtual 232, 3) ∧ decode cX10_size 8 = .ok (.ifCond .eq 12, 3) ∧ decode cX10_size 11 = .ok (.iload_n 2, 1) ∧ decode cX10_size 12 = .ok (.iconst 0, 1) ∧ decode cX10_size 13 = .ok (.iconst 1, 1) ∧ decode cX10_size 14 = .ok (.invokestatic 123, 3) ∧ decode cX10_size 17 = .ok (.ifCond .ne 5, 3) ∧ decode cX10_size 20 = .ok (.iconst (-1), 1) ∧ decode cX10_size 21 = .ok (.ireturn, 1) := by decide +kernel
theorem dX10_size_0 : decode cX10_size 0 = .ok (.aload_n 0, 1) := dq_407.1
theorem dX10_size_1 : decode cX10_size 1 = .ok (.getfield 19, 3) := dq_407.2.1
theorem dX10_size_4 : decode cX10_size 4 = .ok (.iload_n 1, 1) := dq_407.2.2.1
theorem dX10_size_5 : decode cX10_size 5 = .ok (.invokevirtual 232, 3) := dq_407.2.2.2.1
theorem dX10_size_8 : decode cX10_size 8 = .ok (.ifCond .eq 12, 3) := dq_407.2.2.2.2.1
theorem dX10_size_11 : decode cX10_size 11 = .ok (.iload_n 2, 1) := dq_407.2.2.2.2.2.1
theorem dX10_size_12 : decode cX10_size 12 = .ok (.iconst 0, 1) := dq_407.2.2.2.2.2.2.1
theorem dX10_size_13 : decode cX10_size 13 = .ok (.iconst 1, 1) := dq_407.2.2.2.2.2.2.2.1
theorem dX10_size_14 : decode cX10_size 14 = .ok (.invokestatic 123, 3) := dq_407.2.2.2.2.2.2.2.2.1
theorem dX10_size_17 : decode cX10_size 17 = .ok (.ifCond .ne 5, 3) := dq_407.2.2.2.2.2.2.2.2.2.1
theorem dX10_size_20 : decode cX10_size 20 = .ok (.iconst (-1), 1) := dq_407.2.2.2.2.2.2.2.2.2.2.1
theorem dX10_size_21 : decode cX10_size 21 = .ok (.ireturn, 1) := dq_407.2.2.2.2.2.2.2.2.2.2.2
theorem dq_408 : decode cX10_size 22 = .ok (.aload_n 0, 1) ∧ decode cX10_size 23 = .ok (.getfield 19, 3) ∧ decode cX10_size 26 = .ok (.iload_n 1, 1) ∧ decode cX10_size 27 = .ok (.invokevirtual 140, 3) ∧ decode cX10_size 30 = .ok (.istore_n 3, 1) ∧ decode cX10_size 31 = .ok (.aload_n 0, 1) ∧ decode cX10_size 32 = .ok (.getfield 19, 3) ∧ decode cX10_size 35 = .ok (.iload_n 1, 1) ∧ decode cX10_size 36 = .ok (.invokevirtual 137, 3) ∧ decode cX10_size 39 = .ok (.istore 4, 2) ∧ decode cX10_size 41 = .ok (.iload_n 3, 1) ∧ decode cX10_size 42 = .ok (.i2l, 1) := by decide +kernel
theorem dX10_size_22 : decode cX10_size 22 = .ok (.aload_n 0, 1) := dq_408.1
theorem dX10_size_23 : decode cX10_size 23 = .ok (.getfield 19, 3) := dq_408.2.1
theorem dX10_size_26 : decode cX10_size 26 = .ok (.iload_n 1, 1) := dq_408.2.2.1
theorem dX10_size_27 : decode cX10_size 27 = .ok (.invokevirtual 140, 3) := dq_408.2.2.2.1
theorem dX10_size_30 : decode cX10_size 30 = .ok (.istore_n 3, 1) := dq_408.2.2.2.2.1
theorem dX10_size_31 : decode cX10_size 31 = .ok (.aload_n 0, 1) := dq_408.2.2.2.2.2.1
theorem dX10_size_32 : decode cX10_size 32 = .ok (.getfield 19, 3) := dq_408.2.2.2.2.2.2.1
theorem dX10_size_35 : decode cX10_size 35 = .ok (.iload_n 1, 1) := dq_408.2.2.2.2.2.2.2.1
theorem dX10_size_36 : decode cX10_size 36 = .ok (.invokevirtual 137, 3) := dq_408.2.2.2.2.2.2.2.2.1
theorem dX10_size_39 : decode cX10_size 39 = .ok (.istore 4, 2) := dq_408.2.2.2.2.2.2.2.2.2.1
theorem dX10_size_41 : decode cX10_size 41 = .ok (.iload_n 3, 1) := dq_408.2.2.2.2.2.2.2.2.2.2.1
theorem dX10_size_42 : decode cX10_size 42 = .ok (.i2l, 1) := dq_408.2.2.2.2.2.2.2.2.2.2.2
theorem dq_409 : decode cX10_size 43 = .ok (.iload 4, 2) ∧ decode cX10_size 45 = .ok (.i2l, 1) ∧ decode cX10_size 46 = .ok (.invokestatic 218, 3) ∧ decode cX10_size 49 = .ok (.l2i, 1) ∧ decode cX10_size 50 = .ok (.istore 5, 2) ∧ decode cX10_size 52 = .ok (.iload_n 2, 1) ∧ decode cX10_size 53 = .ok (.ifCond .ne 7, 3) ∧ decode cX10_size 56 = .ok (.iload_n 3, 1) ∧ decode cX10_size 57 = .ok (.goto 5, 3) ∧ decode cX10_size 60 = .ok (.iload 4, 2) ∧ decode cX10_size 62 = .ok (.iconst 1, 1) ∧ decode cX10_size 63 = .ok (.iload 5, 2) := by decide +kernel
theorem dX10_size_43 : decode cX10_size 43 = .ok (.iload 4, 2) := dq_409.1
theorem dX10_size_45 : decode cX10_size 45 = .ok (.i2l, 1) := dq_409.2.1
theorem dX10_size_46 : decode cX10_size 46 = .ok (.invokestatic 218, 3) := dq_409.2.2.1
theorem dX10_size_49 : decode cX10_size 49 = .ok (.l2i, 1) := dq_409.2.2.2.1
theorem dX10_size_50 : decode cX10_size 50 = .ok (.istore 5, 2) := dq_409.2.2.2.2.1
theorem dX10_size_52 : decode cX10_size 52 = .ok (.iload_n 2, 1) := dq_409.2.2.2.2.2.1
theorem dX10_size_53 : decode cX10_size 53 = .ok (.ifCond .ne 7, 3) := dq_409.2.2.2.2.2.2.1
theorem dX10_size_56 : decode cX10_size 56 = .ok (.iload_n 3, 1) := dq_409.2.2.2.2.2.2.2.1
theorem dX10_size_57 : decode cX10_size 57 = .ok (.goto 5, 3) := dq_409.2.2.2.2.2.2.2.2.1
theorem dX10_size_60 : decode cX10_size 60 = .ok (.iload 4, 2) := dq_409.2.2.2.2.2.2.2.2.2.1
theorem dX10_size_62 : decode cX10_size 62 = .ok (.iconst 1, 1) := dq_409.2.2.2.2.2.2.2.2.2.2.1
theorem dX10_size_63 : decode cX10_size 63 = .ok (.iload 5, 2) := dq_409.2.2.2.2.2.2.2.2.2.2.2
theorem dq_410 : decode cX10_size 65 = .ok (.invokestatic 235, 3) ∧ decode cX10_size 68 = .ok (.idiv, 1) ∧ decode cX10_size 69 = .ok (.ireturn, 1) := by decide +kernel
theorem dX10_size_65 : decode cX10_size 65 = .ok (.invokestatic 235, 3) := dq_410.1
theorem dX10_size_68 : decode cX10_size 68 = .ok (.idiv, 1) := dq_410.2.1
theorem dX10_size_69 : decode cX10_size 69 = .ok (.ireturn, 1) := dq_410.2.2
theorem dq_411 : decode cX10_sure 0 = .ok (.iload_n 1, 1) ∧ decode cX10_sure 1 = .ok (.iload_n 2, 1) ∧ decode cX10_sure 2 = .ok (.if_icmp .eq 25, 3) ∧ decode cX10_sure 5 = .ok (.aload_n 0, 1) ∧ decode cX10_sure 6 = .ok (.getfield 19, 3) ∧ decode cX10_sure 9 = .ok (.iload_n 1, 1) ∧ decode cX10_sure 10 = .ok (.invokevirtual 232, 3) ∧ decode cX10_sure 13 = .ok (.ifCond .eq 14, 3) ∧ decode cX10_sure 16 = .ok (.aload_n 0, 1) ∧ decode cX10_sure 17 = .ok (.getfield 19, 3) ∧ decode cX10_sure 20 = .ok (.iload_n 2, 1) ∧ decode cX10_sure 21 = .ok (.invokevirtual 232, 3) := by decide +kernel
theorem dX10_sure_0 : decode cX10_sure 0 = .ok (.iload_n 1, 1) := dq_411.1
theorem dX10_sure_1 : decode cX10_sure 1 = .ok (.iload_n 2, 1) := dq_411.2.1
theorem dX10_sure_2 : decode cX10_sure 2 = .ok (.if_icmp .eq 25, 3) := dq_411.2.2.1
theorem dX10_sure_5 : decode cX10_sure 5 = .ok (.aload_n 0, 1) := dq_411.2.2.2.1
theorem dX10_sure_6 : decode cX10_sure 6 = .ok (.getfield 19, 3) := dq_411.2.2.2.2.1
theorem dX10_sure_9 : decode cX10_sure 9 = .ok (.iload_n 1, 1) := dq_411.2.2.2.2.2.1
theorem dX10_sure_10 : decode cX10_sure 10 = .ok (.invokevirtual 232, 3) := dq_411.2.2.2.2.2.2.1
theorem dX10_sure_13 : decode cX10_sure 13 = .ok (.ifCond .eq 14, 3) := dq_411.2.2.2.2.2.2.2.1
theorem dX10_sure_16 : decode cX10_sure 16 = .ok (.aload_n 0, 1) := dq_411.2.2.2.2.2.2.2.2.1
theorem dX10_sure_17 : decode cX10_sure 17 = .ok (.getfield 19, 3) := dq_411.2.2.2.2.2.2.2.2.2.1
theorem dX10_sure_20 : decode cX10_sure 20 = .ok (.iload_n 2, 1) := dq_411.2.2.2.2.2.2.2.2.2.2.1
theorem dX10_sure_21 : decode cX10_sure 21 = .ok (.invokevirtual 232, 3) := dq_411.2.2.2.2.2.2.2.2.2.2.2
theorem dq_412 : decode cX10_sure 24 = .ok (.ifCond .ne 5, 3) ∧ decode cX10_sure 27 = .ok (.iconst (-1), 1) ∧ decode cX10_sure 28 = .ok (.ireturn, 1) ∧ decode cX10_sure 29 = .ok (.aload_n 0, 1) ∧ decode cX10_sure 30 = .ok (.getfield 19, 3) ∧ decode cX10_sure 33 = .ok (.iload_n 1, 1) ∧ decode cX10_sure 34 = .ok (.iload_n 2, 1) ∧ decode cX10_sure 35 = .ok (.invokevirtual 240, 3) ∧ decode cX10_sure 38 = .ok (.ifCond .eq 7, 3) ∧ decode cX10_sure 41 = .ok (.iconst 1, 1) ∧ decode cX10_sure 42 = .ok (.goto 4, 3) ∧ decode cX10_sure 45 = .ok (.iconst 0, 1) := by decide +kernel
theorem dX10_sure_24 : decode cX10_sure 24 = .ok (.ifCond .ne 5, 3) := dq_412.1
theorem dX10_sure_27 : decode cX10_sure 27 = .ok (.iconst (-1), 1) := dq_412.2.1
theorem dX10_sure_28 : decode cX10_sure 28 = .ok (.ireturn, 1) := dq_412.2.2.1
theorem dX10_sure_29 : decode cX10_sure 29 = .ok (.aload_n 0, 1) := dq_412.2.2.2.1
theorem dX10_sure_30 : decode cX10_sure 30 = .ok (.getfield 19, 3) := dq_412.2.2.2.2.1
theorem dX10_sure_33 : decode cX10_sure 33 = .ok (.iload_n 1, 1) := dq_412.2.2.2.2.2.1
theorem dX10_sure_34 : decode cX10_sure 34 = .ok (.iload_n 2, 1) := dq_412.2.2.2.2.2.2.1
theorem dX10_sure_35 : decode cX10_sure 35 = .ok (.invokevirtual 240, 3) := dq_412.2.2.2.2.2.2.2.1
theorem dX10_sure_38 : decode cX10_sure 38 = .ok (.ifCond .eq 7, 3) := dq_412.2.2.2.2.2.2.2.2.1
theorem dX10_sure_41 : decode cX10_sure 41 = .ok (.iconst 1, 1) := dq_412.2.2.2.2.2.2.2.2.2.1
theorem dX10_sure_42 : decode cX10_sure 42 = .ok (.goto 4, 3) := dq_412.2.2.2.2.2.2.2.2.2.2.1
theorem dX10_sure_45 : decode cX10_sure 45 = .ok (.iconst 0, 1) := dq_412.2.2.2.2.2.2.2.2.2.2.2
theorem dX10_sure_46 : decode cX10_sure 46 = .ok (.ireturn, 1) := by decide +kernel
theorem dq_414 : decode cX10_hands 0 = .ok (.iload_n 1, 1) ∧ decode cX10_hands 1 = .ok (.ifCond .eq 16, 3) ∧ decode cX10_hands 4 = .ok (.iload_n 1, 1) ∧ decode cX10_hands 5 = .ok (.bipush 10, 2) ∧ decode cX10_hands 7 = .ok (.bipush 21, 2) ∧ decode cX10_hands 9 = .ok (.invokestatic 123, 3) ∧ decode cX10_hands 12 = .ok (.ifCond .ne 5, 3) ∧ decode cX10_hands 15 = .ok (.iconst (-1), 1) ∧ decode cX10_hands 16 = .ok (.ireturn, 1) ∧ decode cX10_hands 17 = .ok (.aload_n 0, 1) ∧ decode cX10_hands 18 = .ok (.getfield 19, 3) ∧ decode cX10_hands 21 = .ok (.invokevirtual 243, 3) := by decide +kernel
theorem dX10_hands_0 : decode cX10_hands 0 = .ok (.iload_n 1, 1) := dq_414.1
theorem dX10_hands_1 : decode cX10_hands 1 = .ok (.ifCond .eq 16, 3) := dq_414.2.1
theorem dX10_hands_4 : decode cX10_hands 4 = .ok (.iload_n 1, 1) := dq_414.2.2.1
theorem dX10_hands_5 : decode cX10_hands 5 = .ok (.bipush 10, 2) := dq_414.2.2.2.1
theorem dX10_hands_7 : decode cX10_hands 7 = .ok (.bipush 21, 2) := dq_414.2.2.2.2.1
theorem dX10_hands_9 : decode cX10_hands 9 = .ok (.invokestatic 123, 3) := dq_414.2.2.2.2.2.1
theorem dX10_hands_12 : decode cX10_hands 12 = .ok (.ifCond .ne 5, 3) := dq_414.2.2.2.2.2.2.1
theorem dX10_hands_15 : decode cX10_hands 15 = .ok (.iconst (-1), 1) := dq_414.2.2.2.2.2.2.2.1
theorem dX10_hands_16 : decode cX10_hands 16 = .ok (.ireturn, 1) := dq_414.2.2.2.2.2.2.2.2.1
theorem dX10_hands_17 : decode cX10_hands 17 = .ok (.aload_n 0, 1) := dq_414.2.2.2.2.2.2.2.2.2.1
theorem dX10_hands_18 : decode cX10_hands 18 = .ok (.getfield 19, 3) := dq_414.2.2.2.2.2.2.2.2.2.2.1
theorem dX10_hands_21 : decode cX10_hands 21 = .ok (.invokevirtual 243, 3) := dq_414.2.2.2.2.2.2.2.2.2.2.2
theorem dq_415 : decode cX10_hands 24 = .ok (.istore_n 2, 1) ∧ decode cX10_hands 25 = .ok (.iconst 0, 1) ∧ decode cX10_hands 26 = .ok (.istore_n 3, 1) ∧ decode cX10_hands 27 = .ok (.iload_n 3, 1) ∧ decode cX10_hands 28 = .ok (.bipush 12, 2) ∧ decode cX10_hands 30 = .ok (.if_icmp .gt 51, 3) ∧ decode cX10_hands 33 = .ok (.iload_n 2, 1) ∧ decode cX10_hands 34 = .ok (.ifCond .ne 13, 3) ∧ decode cX10_hands 37 = .ok (.iload_n 1, 1) ∧ decode cX10_hands 38 = .ok (.ifCond .ne 7, 3) ∧ decode cX10_hands 41 = .ok (.iload_n 3, 1) ∧ decode cX10_hands 42 = .ok (.goto 4, 3) := by decide +kernel
theorem dX10_hands_24 : decode cX10_hands 24 = .ok (.istore_n 2, 1) := dq_415.1
theorem dX10_hands_25 : decode cX10_hands 25 = .ok (.iconst 0, 1) := dq_415.2.1
theorem dX10_hands_26 : decode cX10_hands 26 = .ok (.istore_n 3, 1) := dq_415.2.2.1
theorem dX10_hands_27 : decode cX10_hands 27 = .ok (.iload_n 3, 1) := dq_415.2.2.2.1
theorem dX10_hands_28 : decode cX10_hands 28 = .ok (.bipush 12, 2) := dq_415.2.2.2.2.1
theorem dX10_hands_30 : decode cX10_hands 30 = .ok (.if_icmp .gt 51, 3) := dq_415.2.2.2.2.2.1
theorem dX10_hands_33 : decode cX10_hands 33 = .ok (.iload_n 2, 1) := dq_415.2.2.2.2.2.2.1
theorem dX10_hands_34 : decode cX10_hands 34 = .ok (.ifCond .ne 13, 3) := dq_415.2.2.2.2.2.2.2.1
theorem dX10_hands_37 : decode cX10_hands 37 = .ok (.iload_n 1, 1) := dq_415.2.2.2.2.2.2.2.2.1
theorem dX10_hands_38 : decode cX10_hands 38 = .ok (.ifCond .ne 7, 3) := dq_415.2.2.2.2.2.2.2.2.2.1
theorem dX10_hands_41 : decode cX10_hands 41 = .ok (.iload_n 3, 1) := dq_415.2.2.2.2.2.2.2.2.2.2.1
theorem dX10_hands_42 : decode cX10_hands 42 = .ok (.goto 4, 3) := dq_415.2.2.2.2.2.2.2.2.2.2.2
theorem dq_416 : decode cX10_hands 45 = .ok (.iconst (-1), 1) ∧ decode cX10_hands 46 = .ok (.ireturn, 1) ∧ decode cX10_hands 47 = .ok (.aload_n 0, 1) ∧ decode cX10_hands 48 = .ok (.getfield 19, 3) ∧ decode cX10_hands 51 = .ok (.iload_n 2, 1) ∧ decode cX10_hands 52 = .ok (.invokevirtual 246, 3) ∧ decode cX10_hands 55 = .ok (.istore 4, 2) ∧ decode cX10_hands 57 = .ok (.iload_n 1, 1) ∧ decode cX10_hands 58 = .ok (.bipush 10, 2) ∧ decode cX10_hands 60 = .ok (.iload_n 3, 1) ∧ decode cX10_hands 61 = .ok (.iadd, 1) ∧ decode cX10_hands 62 = .ok (.if_icmp .ne 6, 3) := by decide +kernel
theorem dX10_hands_45 : decode cX10_hands 45 = .ok (.iconst (-1), 1) := dq_416.1
theorem dX10_hands_46 : decode cX10_hands 46 = .ok (.ireturn, 1) := dq_416.2.1
theorem dX10_hands_47 : decode cX10_hands 47 = .ok (.aload_n 0, 1) := dq_416.2.2.1
theorem dX10_hands_48 : decode cX10_hands 48 = .ok (.getfield 19, 3) := dq_416.2.2.2.1
theorem dX10_hands_51 : decode cX10_hands 51 = .ok (.iload_n 2, 1) := dq_416.2.2.2.2.1
theorem dX10_hands_52 : decode cX10_hands 52 = .ok (.invokevirtual 246, 3) := dq_416.2.2.2.2.2.1
theorem dX10_hands_55 : decode cX10_hands 55 = .ok (.istore 4, 2) := dq_416.2.2.2.2.2.2.1
theorem dX10_hands_57 : decode cX10_hands 57 = .ok (.iload_n 1, 1) := dq_416.2.2.2.2.2.2.2.1
theorem dX10_hands_58 : decode cX10_hands 58 = .ok (.bipush 10, 2) := dq_416.2.2.2.2.2.2.2.2.1
theorem dX10_hands_60 : decode cX10_hands 60 = .ok (.iload_n 3, 1) := dq_416.2.2.2.2.2.2.2.2.2.1
theorem dX10_hands_61 : decode cX10_hands 61 = .ok (.iadd, 1) := dq_416.2.2.2.2.2.2.2.2.2.2.1
theorem dX10_hands_62 : decode cX10_hands 62 = .ok (.if_icmp .ne 6, 3) := dq_416.2.2.2.2.2.2.2.2.2.2.2
theorem dq_417 : decode cX10_hands 65 = .ok (.iload 4, 2) ∧ decode cX10_hands 67 = .ok (.ireturn, 1) ∧ decode cX10_hands 68 = .ok (.iload_n 2, 1) ∧ decode cX10_hands 69 = .ok (.iload 4, 2) ∧ decode cX10_hands 71 = .ok (.iconst (-1), 1) ∧ decode cX10_hands 72 = .ok (.ixor, 1) ∧ decode cX10_hands 73 = .ok (.iand, 1) ∧ decode cX10_hands 74 = .ok (.istore_n 2, 1) ∧ decode cX10_hands 75 = .ok (.iinc 3 1, 3) ∧ decode cX10_hands 78 = .ok (.goto (-51), 3) ∧ decode cX10_hands 81 = .ok (.iconst (-1), 1) ∧ decode cX10_hands 82 = .ok (.ireturn, 1) := by decide +kernel
theorem dX10_hands_65 : decode cX10_hands 65 = .ok (.iload 4, 2) := dq_417.1
theorem dX10_hands_67 : decode cX10_hands 67 = .ok (.ireturn, 1) := dq_417.2.1
theorem dX10_hands_68 : decode cX10_hands 68 = .ok (.iload_n 2, 1) := dq_417.2.2.1
theorem dX10_hands_69 : decode cX10_hands 69 = .ok (.iload 4, 2) := dq_417.2.2.2.1
theorem dX10_hands_71 : decode cX10_hands 71 = .ok (.iconst (-1), 1) := dq_417.2.2.2.2.1
theorem dX10_hands_72 : decode cX10_hands 72 = .ok (.ixor, 1) := dq_417.2.2.2.2.2.1
theorem dX10_hands_73 : decode cX10_hands 73 = .ok (.iand, 1) := dq_417.2.2.2.2.2.2.1
theorem dX10_hands_74 : decode cX10_hands 74 = .ok (.istore_n 2, 1) := dq_417.2.2.2.2.2.2.2.1
theorem dX10_hands_75 : decode cX10_hands 75 = .ok (.iinc 3 1, 3) := dq_417.2.2.2.2.2.2.2.2.1
theorem dX10_hands_78 : decode cX10_hands 78 = .ok (.goto (-51), 3) := dq_417.2.2.2.2.2.2.2.2.2.1
theorem dX10_hands_81 : decode cX10_hands 81 = .ok (.iconst (-1), 1) := dq_417.2.2.2.2.2.2.2.2.2.2.1
theorem dX10_hands_82 : decode cX10_hands 82 = .ok (.ireturn, 1) := dq_417.2.2.2.2.2.2.2.2.2.2.2
