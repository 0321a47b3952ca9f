theorem dq_418 : decode cX10_knot 0 = .ok (.aload_n 0, 1) ∧ decode cX10_knot 1 = .ok (.getfield 66, 3) ∧ decode cX10_knot 4 = .ok (.iload_n 1, 1) ∧ decode cX10_knot 5 = .ok (.invokevirtual 249, 3) ∧ decode cX10_knot 8 = .ok (.ifCond .ne 5, 3) ∧ decode cX10_knot 11 = .ok (.iconst (-1), 1) ∧ decode cX10_knot 12 = .ok (.ireturn, 1) ∧ decode cX10_knot 13 = .ok (.aload_n 0, 1) ∧ decode cX10_knot 14 = .ok (.getfield 66, 3) ∧ decode cX10_knot 17 = .ok (.iload_n 1, 1) ∧ decode cX10_knot 18 = .ok (.invokevirtual 252, 3) ∧ decode cX10_knot 21 = .ok (.ifCond .eq 13, 3) := by decide +kernel
theorem dX10_knot_0 : decode cX10_knot 0 = .ok (.aload_n 0, 1) := dq_418.1
theorem dX10_knot_1 : decode cX10_knot 1 = .ok (.getfield 66, 3) := dq_418.2.1
theorem dX10_knot_4 : decode cX10_knot 4 = .ok (.iload_n 1, 1) := dq_418.2.2.1
theorem dX10_knot_5 : decode cX10_knot 5 = .ok (.invokevirtual 249, 3) := dq_418.2.2.2.1
theorem dX10_knot_8 : decode cX10_knot 8 = .ok (.ifCond .ne 5, 3) := dq_418.2.2.2.2.1
theorem dX10_knot_11 : decode cX10_knot 11 = .ok (.iconst (-1), 1) := dq_418.2.2.2.2.2.1
theorem dX10_knot_12 : decode cX10_knot 12 = .ok (.ireturn, 1) := dq_418.2.2.2.2.2.2.1
theorem dX10_knot_13 : decode cX10_knot 13 = .ok (.aload_n 0, 1) := dq_418.2.2.2.2.2.2.2.1
theorem dX10_knot_14 : decode cX10_knot 14 = .ok (.getfield 66, 3) := dq_418.2.2.2.2.2.2.2.2.1
theorem dX10_knot_17 : decode cX10_knot 17 = .ok (.iload_n 1, 1) := dq_418.2.2.2.2.2.2.2.2.2.1
theorem dX10_knot_18 : decode cX10_knot 18 = .ok (.invokevirtual 252, 3) := dq_418.2.2.2.2.2.2.2.2.2.2.1
theorem dX10_knot_21 : decode cX10_knot 21 = .ok (.ifCond .eq 13, 3) := dq_418.2.2.2.2.2.2.2.2.2.2.2
theorem dq_419 : decode cX10_knot 24 = .ok (.aload_n 0, 1) ∧ decode cX10_knot 25 = .ok (.getfield 66, 3) ∧ decode cX10_knot 28 = .ok (.invokevirtual 254, 3) ∧ decode cX10_knot 31 = .ok (.goto 5, 3) ∧ decode cX10_knot 34 = .ok (.bipush (-3), 2) ∧ decode cX10_knot 36 = .ok (.ireturn, 1) := by decide +kernel
theorem dX10_knot_24 : decode cX10_knot 24 = .ok (.aload_n 0, 1) := dq_419.1
theorem dX10_knot_25 : decode cX10_knot 25 = .ok (.getfield 66, 3) := dq_419.2.1
theorem dX10_knot_28 : decode cX10_knot 28 = .ok (.invokevirtual 254, 3) := dq_419.2.2.1
theorem dX10_knot_31 : decode cX10_knot 31 = .ok (.goto 5, 3) := dq_419.2.2.2.1
theorem dX10_knot_34 : decode cX10_knot 34 = .ok (.bipush (-3), 2) := dq_419.2.2.2.2.1
theorem dX10_knot_36 : decode cX10_knot 36 = .ok (.ireturn, 1) := dq_419.2.2.2.2.2
theorem dq_420 : decode cX10_wipe 0 = .ok (.aload_n 0, 1) ∧ decode cX10_wipe 1 = .ok (.getfield 66, 3) ∧ decode cX10_wipe 4 = .ok (.invokevirtual 255, 3) ∧ decode cX10_wipe 7 = .ok (.ireturn, 1) := by decide +kernel
theorem dX10_wipe_0 : decode cX10_wipe 0 = .ok (.aload_n 0, 1) := dq_420.1
theorem dX10_wipe_1 : decode cX10_wipe 1 = .ok (.getfield 66, 3) := dq_420.2.1
theorem dX10_wipe_4 : decode cX10_wipe 4 = .ok (.invokevirtual 255, 3) := dq_420.2.2.1
theorem dX10_wipe_7 : decode cX10_wipe 7 = .ok (.ireturn, 1) := dq_420.2.2.2
theorem dq_421 : decode cX10_slips 0 = .ok (.iload_n 1, 1) ∧ decode cX10_slips 1 = .ok (.iconst 1, 1) ∧ decode cX10_slips 2 = .ok (.bipush 99, 2) ∧ decode cX10_slips 4 = .ok (.invokestatic 123, 3) ∧ decode cX10_slips 7 = .ok (.ifCond .eq 12, 3) ∧ decode cX10_slips 10 = .ok (.iload_n 2, 1) ∧ decode cX10_slips 11 = .ok (.iconst 0, 1) ∧ decode cX10_slips 12 = .ok (.iconst 2, 1) ∧ decode cX10_slips 13 = .ok (.invokestatic 123, 3) ∧ decode cX10_slips 16 = .ok (.ifCond .ne 7, 3) ∧ decode cX10_slips 19 = .ok (.ldc_w 258, 3) ∧ decode cX10_slips 22 = .ok (.ireturn, 1) := by decide +kernel
theorem dX10_slips_0 : decode cX10_slips 0 = .ok (.iload_n 1, 1) := dq_421.1
theorem dX10_slips_1 : decode cX10_slips 1 = .ok (.iconst 1, 1) := dq_421.2.1
theorem dX10_slips_2 : decode cX10_slips 2 = .ok (.bipush 99, 2) := dq_421.2.2.1
theorem dX10_slips_4 : decode cX10_slips 4 = .ok (.invokestatic 123, 3) := dq_421.2.2.2.1
theorem dX10_slips_7 : decode cX10_slips 7 = .ok (.ifCond .eq 12, 3) := dq_421.2.2.2.2.1
theorem dX10_slips_10 : decode cX10_slips 10 = .ok (.iload_n 2, 1) := dq_421.2.2.2.2.2.1
theorem dX10_slips_11 : decode cX10_slips 11 = .ok (.iconst 0, 1) := dq_421.2.2.2.2.2.2.1
theorem dX10_slips_12 : decode cX10_slips 12 = .ok (.iconst 2, 1) := dq_421.2.2.2.2.2.2.2.1
theorem dX10_slips_13 : decode cX10_slips 13 = .ok (.invokestatic 123, 3) := dq_421.2.2.2.2.2.2.2.2.1
theorem dX10_slips_16 : decode cX10_slips 16 = .ok (.ifCond .ne 7, 3) := dq_421.2.2.2.2.2.2.2.2.2.1
theorem dX10_slips_19 : decode cX10_slips 19 = .ok (.ldc_w 258, 3) := dq_421.2.2.2.2.2.2.2.2.2.2.1
theorem dX10_slips_22 : decode cX10_slips 22 = .ok (.ireturn, 1) := dq_421.2.2.2.2.2.2.2.2.2.2.2
theorem dq_422 : decode cX10_slips 23 = .ok (.aload_n 0, 1) ∧ decode cX10_slips 24 = .ok (.getfield 66, 3) ∧ decode cX10_slips 27 = .ok (.invokevirtual 254, 3) ∧ decode cX10_slips 30 = .ok (.iconst 2, 1) ∧ decode cX10_slips 31 = .ok (.if_icmp .ge 7, 3) ∧ decode cX10_slips 34 = .ok (.ldc_w 259, 3) ∧ decode cX10_slips 37 = .ok (.ireturn, 1) ∧ decode cX10_slips 38 = .ok (.iload_n 2, 1) ∧ decode cX10_slips 39 = .ok (.lookupswitch 43 #[(0, 25), (1, 34)], 25) ∧ decode cX10_slips 64 = .ok (.aload_n 0, 1) ∧ decode cX10_slips 65 = .ok (.getfield 66, 3) ∧ decode cX10_slips 68 = .ok (.iload_n 1, 1) := by decide +kernel
theorem dX10_slips_23 : decode cX10_slips 23 = .ok (.aload_n 0, 1) := dq_422.1
theorem dX10_slips_24 : decode cX10_slips 24 = .ok (.getfield 66, 3) := dq_422.2.1
theorem dX10_slips_27 : decode cX10_slips 27 = .ok (.invokevirtual 254, 3) := dq_422.2.2.1
theorem dX10_slips_30 : decode cX10_slips 30 = .ok (.iconst 2, 1) := dq_422.2.2.2.1
theorem dX10_slips_31 : decode cX10_slips 31 = .ok (.if_icmp .ge 7, 3) := dq_422.2.2.2.2.1
theorem dX10_slips_34 : decode cX10_slips 34 = .ok (.ldc_w 259, 3) := dq_422.2.2.2.2.2.1
theorem dX10_slips_37 : decode cX10_slips 37 = .ok (.ireturn, 1) := dq_422.2.2.2.2.2.2.1
theorem dX10_slips_38 : decode cX10_slips 38 = .ok (.iload_n 2, 1) := dq_422.2.2.2.2.2.2.2.1
theorem dX10_slips_39 : decode cX10_slips 39 = .ok (.lookupswitch 43 #[(0, 25), (1, 34)], 25) := dq_422.2.2.2.2.2.2.2.2.1
theorem dX10_slips_64 : decode cX10_slips 64 = .ok (.aload_n 0, 1) := dq_422.2.2.2.2.2.2.2.2.2.1
theorem dX10_slips_65 : decode cX10_slips 65 = .ok (.getfield 66, 3) := dq_422.2.2.2.2.2.2.2.2.2.2.1
theorem dX10_slips_68 : decode cX10_slips 68 = .ok (.iload_n 1, 1) := dq_422.2.2.2.2.2.2.2.2.2.2.2
theorem dq_423 : decode cX10_slips 69 = .ok (.invokevirtual 260, 3) ∧ decode cX10_slips 72 = .ok (.ireturn, 1) ∧ decode cX10_slips 73 = .ok (.aload_n 0, 1) ∧ decode cX10_slips 74 = .ok (.getfield 66, 3) ∧ decode cX10_slips 77 = .ok (.iload_n 1, 1) ∧ decode cX10_slips 78 = .ok (.invokevirtual 263, 3) ∧ decode cX10_slips 81 = .ok (.ireturn, 1) ∧ decode cX10_slips 82 = .ok (.aload_n 0, 1) ∧ decode cX10_slips 83 = .ok (.getfield 66, 3) ∧ decode cX10_slips 86 = .ok (.iload_n 1, 1) ∧ decode cX10_slips 87 = .ok (.invokevirtual 266, 3) ∧ decode cX10_slips 90 = .ok (.ireturn, 1) := by decide +kernel
theorem dX10_slips_69 : decode cX10_slips 69 = .ok (.invokevirtual 260, 3) := dq_423.1
theorem dX10_slips_72 : decode cX10_slips 72 = .ok (.ireturn, 1) := dq_423.2.1
theorem dX10_slips_73 : decode cX10_slips 73 = .ok (.aload_n 0, 1) := dq_423.2.2.1
theorem dX10_slips_74 : decode cX10_slips 74 = .ok (.getfield 66, 3) := dq_423.2.2.2.1
theorem dX10_slips_77 : decode cX10_slips 77 = .ok (.iload_n 1, 1) := dq_423.2.2.2.2.1
theorem dX10_slips_78 : decode cX10_slips 78 = .ok (.invokevirtual 263, 3) := dq_423.2.2.2.2.2.1
theorem dX10_slips_81 : decode cX10_slips 81 = .ok (.ireturn, 1) := dq_423.2.2.2.2.2.2.1
theorem dX10_slips_82 : decode cX10_slips 82 = .ok (.aload_n 0, 1) := dq_423.2.2.2.2.2.2.2.1
theorem dX10_slips_83 : decode cX10_slips 83 = .ok (.getfield 66, 3) := dq_423.2.2.2.2.2.2.2.2.1
theorem dX10_slips_86 : decode cX10_slips 86 = .ok (.iload_n 1, 1) := dq_423.2.2.2.2.2.2.2.2.2.1
theorem dX10_slips_87 : decode cX10_slips 87 = .ok (.invokevirtual 266, 3) := dq_423.2.2.2.2.2.2.2.2.2.2.1
theorem dX10_slips_90 : decode cX10_slips 90 = .ok (.ireturn, 1) := dq_423.2.2.2.2.2.2.2.2.2.2.2
theorem dq_424 : decode cX10_knots 0 = .ok (.aload_n 0, 1) ∧ decode cX10_knots 1 = .ok (.getfield 66, 3) ∧ decode cX10_knots 4 = .ok (.invokevirtual 254, 3) ∧ decode cX10_knots 7 = .ok (.iconst 2, 1) ∧ decode cX10_knots 8 = .ok (.if_icmp .ge 8, 3) ∧ decode cX10_knots 11 = .ok (.bipush (-2), 2) ∧ decode cX10_knots 13 = .ok (.goto 10, 3) ∧ decode cX10_knots 16 = .ok (.aload_n 0, 1) ∧ decode cX10_knots 17 = .ok (.getfield 66, 3) ∧ decode cX10_knots 20 = .ok (.invokevirtual 269, 3) ∧ decode cX10_knots 23 = .ok (.ireturn, 1) := by decide +kernel
theorem dX10_knots_0 : decode cX10_knots 0 = .ok (.aload_n 0, 1) := dq_424.1
theorem dX10_knots_1 : decode cX10_knots 1 = .ok (.getfield 66, 3) := dq_424.2.1
theorem dX10_knots_4 : decode cX10_knots 4 = .ok (.invokevirtual 254, 3) := dq_424.2.2.1
theorem dX10_knots_7 : decode cX10_knots 7 = .ok (.iconst 2, 1) := dq_424.2.2.2.1
theorem dX10_knots_8 : decode cX10_knots 8 = .ok (.if_icmp .ge 8, 3) := dq_424.2.2.2.2.1
theorem dX10_knots_11 : decode cX10_knots 11 = .ok (.bipush (-2), 2) := dq_424.2.2.2.2.2.1
theorem dX10_knots_13 : decode cX10_knots 13 = .ok (.goto 10, 3) := dq_424.2.2.2.2.2.2.1
theorem dX10_knots_16 : decode cX10_knots 16 = .ok (.aload_n 0, 1) := dq_424.2.2.2.2.2.2.2.1
theorem dX10_knots_17 : decode cX10_knots 17 = .ok (.getfield 66, 3) := dq_424.2.2.2.2.2.2.2.2.1
theorem dX10_knots_20 : decode cX10_knots 20 = .ok (.invokevirtual 269, 3) := dq_424.2.2.2.2.2.2.2.2.2.1
theorem dX10_knots_23 : decode cX10_knots 23 = .ok (.ireturn, 1) := dq_424.2.2.2.2.2.2.2.2.2.2
theorem dq_425 : decode cX10_fits 0 = .ok (.iload_n 1, 1) ∧ decode cX10_fits 1 = .ok (.iconst 1, 1) ∧ decode cX10_fits 2 = .ok (.sipush 999, 3) ∧ decode cX10_fits 5 = .ok (.invokestatic 123, 3) ∧ decode cX10_fits 8 = .ok (.ifCond .eq 33, 3) ∧ decode cX10_fits 11 = .ok (.iload_n 2, 1) ∧ decode cX10_fits 12 = .ok (.iconst 1, 1) ∧ decode cX10_fits 13 = .ok (.bipush 99, 2) ∧ decode cX10_fits 15 = .ok (.invokestatic 123, 3) ∧ decode cX10_fits 18 = .ok (.ifCond .eq 23, 3) ∧ decode cX10_fits 21 = .ok (.iload_n 3, 1) ∧ decode cX10_fits 22 = .ok (.iconst 0, 1) := by decide +kernel
theorem dX10_fits_0 : decode cX10_fits 0 = .ok (.iload_n 1, 1) := dq_425.1
theorem dX10_fits_1 : decode cX10_fits 1 = .ok (.iconst 1, 1) := dq_425.2.1
theorem dX10_fits_2 : decode cX10_fits 2 = .ok (.sipush 999, 3) := dq_425.2.2.1
theorem dX10_fits_5 : decode cX10_fits 5 = .ok (.invokestatic 123, 3) := dq_425.2.2.2.1
theorem dX10_fits_8 : decode cX10_fits 8 = .ok (.ifCond .eq 33, 3) := dq_425.2.2.2.2.1
theorem dX10_fits_11 : decode cX10_fits 11 = .ok (.iload_n 2, 1) := dq_425.2.2.2.2.2.1
theorem dX10_fits_12 : decode cX10_fits 12 = .ok (.iconst 1, 1) := dq_425.2.2.2.2.2.2.1
theorem dX10_fits_13 : decode cX10_fits 13 = .ok (.bipush 99, 2) := dq_425.2.2.2.2.2.2.2.1
theorem dX10_fits_15 : decode cX10_fits 15 = .ok (.invokestatic 123, 3) := dq_425.2.2.2.2.2.2.2.2.1
theorem dX10_fits_18 : decode cX10_fits 18 = .ok (.ifCond .eq 23, 3) := dq_425.2.2.2.2.2.2.2.2.2.1
theorem dX10_fits_21 : decode cX10_fits 21 = .ok (.iload_n 3, 1) := dq_425.2.2.2.2.2.2.2.2.2.2.1
theorem dX10_fits_22 : decode cX10_fits 22 = .ok (.iconst 0, 1) := dq_425.2.2.2.2.2.2.2.2.2.2.2
theorem dq_426 : decode cX10_fits 23 = .ok (.bipush 9, 2) ∧ decode cX10_fits 25 = .ok (.invokestatic 123, 3) ∧ decode cX10_fits 28 = .ok (.ifCond .eq 13, 3) ∧ decode cX10_fits 31 = .ok (.iload 4, 2) ∧ decode cX10_fits 33 = .ok (.iconst 0, 1) ∧ decode cX10_fits 34 = .ok (.iconst 2, 1) ∧ decode cX10_fits 35 = .ok (.invokestatic 123, 3) ∧ decode cX10_fits 38 = .ok (.ifCond .ne 5, 3) ∧ decode cX10_fits 41 = .ok (.iconst (-1), 1) ∧ decode cX10_fits 42 = .ok (.ireturn, 1) ∧ decode cX10_fits 43 = .ok (.iload_n 1, 1) ∧ decode cX10_fits 44 = .ok (.iload_n 2, 1) := by decide +kernel
theorem dX10_fits_23 : decode cX10_fits 23 = .ok (.bipush 9, 2) := dq_426.1
theorem dX10_fits_25 : decode cX10_fits 25 = .ok (.invokestatic 123, 3) := dq_426.2.1
theorem dX10_fits_28 : decode cX10_fits 28 = .ok (.ifCond .eq 13, 3) := dq_426.2.2.1
theorem dX10_fits_31 : decode cX10_fits 31 = .ok (.iload 4, 2) := dq_426.2.2.2.1
theorem dX10_fits_33 : decode cX10_fits 33 = .ok (.iconst 0, 1) := dq_426.2.2.2.2.1
theorem dX10_fits_34 : decode cX10_fits 34 = .ok (.iconst 2, 1) := dq_426.2.2.2.2.2.1
theorem dX10_fits_35 : decode cX10_fits 35 = .ok (.invokestatic 123, 3) := dq_426.2.2.2.2.2.2.1
theorem dX10_fits_38 : decode cX10_fits 38 = .ok (.ifCond .ne 5, 3) := dq_426.2.2.2.2.2.2.2.1
theorem dX10_fits_41 : decode cX10_fits 41 = .ok (.iconst (-1), 1) := dq_426.2.2.2.2.2.2.2.2.1
theorem dX10_fits_42 : decode cX10_fits 42 = .ok (.ireturn, 1) := dq_426.2.2.2.2.2.2.2.2.2.1
theorem dX10_fits_43 : decode cX10_fits 43 = .ok (.iload_n 1, 1) := dq_426.2.2.2.2.2.2.2.2.2.2.1
theorem dX10_fits_44 : decode cX10_fits 44 = .ok (.iload_n 2, 1) := dq_426.2.2.2.2.2.2.2.2.2.2.2
theorem dq_427 : decode cX10_fits 45 = .ok (.idiv, 1) ∧ decode cX10_fits 46 = .ok (.istore 5, 2) ∧ decode cX10_fits 48 = .ok (.iload_n 1, 1) ∧ decode cX10_fits 49 = .ok (.iload_n 2, 1) ∧ decode cX10_fits 50 = .ok (.iadd, 1) ∧ decode cX10_fits 51 = .ok (.iload_n 3, 1) ∧ decode cX10_fits 52 = .ok (.iadd, 1) ∧ decode cX10_fits 53 = .ok (.iconst 1, 1) ∧ decode cX10_fits 54 = .ok (.isub, 1) ∧ decode cX10_fits 55 = .ok (.iload_n 2, 1) ∧ decode cX10_fits 56 = .ok (.iload_n 3, 1) ∧ decode cX10_fits 57 = .ok (.iadd, 1) := by decide +kernel
theorem dX10_fits_45 : decode cX10_fits 45 = .ok (.idiv, 1) := dq_427.1
theorem dX10_fits_46 : decode cX10_fits 46 = .ok (.istore 5, 2) := dq_427.2.1
theorem dX10_fits_48 : decode cX10_fits 48 = .ok (.iload_n 1, 1) := dq_427.2.2.1
theorem dX10_fits_49 : decode cX10_fits 49 = .ok (.iload_n 2, 1) := dq_427.2.2.2.1
theorem dX10_fits_50 : decode cX10_fits 50 = .ok (.iadd, 1) := dq_427.2.2.2.2.1
theorem dX10_fits_51 : decode cX10_fits 51 = .ok (.iload_n 3, 1) := dq_427.2.2.2.2.2.1
theorem dX10_fits_52 : decode cX10_fits 52 = .ok (.iadd, 1) := dq_427.2.2.2.2.2.2.1
theorem dX10_fits_53 : decode cX10_fits 53 = .ok (.iconst 1, 1) := dq_427.2.2.2.2.2.2.2.1
theorem dX10_fits_54 : decode cX10_fits 54 = .ok (.isub, 1) := dq_427.2.2.2.2.2.2.2.2.1
theorem dX10_fits_55 : decode cX10_fits 55 = .ok (.iload_n 2, 1) := dq_427.2.2.2.2.2.2.2.2.2.1
theorem dX10_fits_56 : decode cX10_fits 56 = .ok (.iload_n 3, 1) := dq_427.2.2.2.2.2.2.2.2.2.2.1
theorem dX10_fits_57 : decode cX10_fits 57 = .ok (.iadd, 1) := dq_427.2.2.2.2.2.2.2.2.2.2.2
theorem dq_428 : decode cX10_fits 58 = .ok (.idiv, 1) ∧ decode cX10_fits 59 = .ok (.istore 6, 2) ∧ decode cX10_fits 61 = .ok (.iload 6, 2) ∧ decode cX10_fits 63 = .ok (.iload 5, 2) ∧ decode cX10_fits 65 = .ok (.if_icmp .le 6, 3) ∧ decode cX10_fits 68 = .ok (.bipush (-4), 2) ∧ decode cX10_fits 70 = .ok (.ireturn, 1) ∧ decode cX10_fits 71 = .ok (.iload 4, 2) ∧ decode cX10_fits 73 = .ok (.iconst 2, 1) ∧ decode cX10_fits 74 = .ok (.if_icmp .ge 16, 3) ∧ decode cX10_fits 77 = .ok (.iload 4, 2) ∧ decode cX10_fits 79 = .ok (.ifCond .ne 8, 3) := by decide +kernel
theorem dX10_fits_58 : decode cX10_fits 58 = .ok (.idiv, 1) := dq_428.1
theorem dX10_fits_59 : decode cX10_fits 59 = .ok (.istore 6, 2) := dq_428.2.1
theorem dX10_fits_61 : decode cX10_fits 61 = .ok (.iload 6, 2) := dq_428.2.2.1
theorem dX10_fits_63 : decode cX10_fits 63 = .ok (.iload 5, 2) := dq_428.2.2.2.1
theorem dX10_fits_65 : decode cX10_fits 65 = .ok (.if_icmp .le 6, 3) := dq_428.2.2.2.2.1
theorem dX10_fits_68 : decode cX10_fits 68 = .ok (.bipush (-4), 2) := dq_428.2.2.2.2.2.1
theorem dX10_fits_70 : decode cX10_fits 70 = .ok (.ireturn, 1) := dq_428.2.2.2.2.2.2.1
theorem dX10_fits_71 : decode cX10_fits 71 = .ok (.iload 4, 2) := dq_428.2.2.2.2.2.2.2.1
theorem dX10_fits_73 : decode cX10_fits 73 = .ok (.iconst 2, 1) := dq_428.2.2.2.2.2.2.2.2.1
theorem dX10_fits_74 : decode cX10_fits 74 = .ok (.if_icmp .ge 16, 3) := dq_428.2.2.2.2.2.2.2.2.2.1
theorem dX10_fits_77 : decode cX10_fits 77 = .ok (.iload 4, 2) := dq_428.2.2.2.2.2.2.2.2.2.2.1
theorem dX10_fits_79 : decode cX10_fits 79 = .ok (.ifCond .ne 8, 3) := dq_428.2.2.2.2.2.2.2.2.2.2.2
theorem dq_429 : decode cX10_fits 82 = .ok (.iload 5, 2) ∧ decode cX10_fits 84 = .ok (.goto 5, 3) ∧ decode cX10_fits 87 = .ok (.iload 6, 2) ∧ decode cX10_fits 89 = .ok (.ireturn, 1) ∧ decode cX10_fits 90 = .ok (.iload_n 1, 1) ∧ decode cX10_fits 91 = .ok (.iload 5, 2) ∧ decode cX10_fits 93 = .ok (.iload_n 2, 1) ∧ decode cX10_fits 94 = .ok (.imul, 1) ∧ decode cX10_fits 95 = .ok (.isub, 1) ∧ decode cX10_fits 96 = .ok (.istore 7, 2) ∧ decode cX10_fits 98 = .ok (.iload_n 3, 1) ∧ decode cX10_fits 99 = .ok (.ifCond .ne 7, 3) := by decide +kernel
theorem dX10_fits_82 : decode cX10_fits 82 = .ok (.iload 5, 2) := dq_429.1
theorem dX10_fits_84 : decode cX10_fits 84 = .ok (.goto 5, 3) := dq_429.2.1
theorem dX10_fits_87 : decode cX10_fits 87 = .ok (.iload 6, 2) := dq_429.2.2.1
theorem dX10_fits_89 : decode cX10_fits 89 = .ok (.ireturn, 1) := dq_429.2.2.2.1
theorem dX10_fits_90 : decode cX10_fits 90 = .ok (.iload_n 1, 1) := dq_429.2.2.2.2.1
theorem dX10_fits_91 : decode cX10_fits 91 = .ok (.iload 5, 2) := dq_429.2.2.2.2.2.1
theorem dX10_fits_93 : decode cX10_fits 93 = .ok (.iload_n 2, 1) := dq_429.2.2.2.2.2.2.1
theorem dX10_fits_94 : decode cX10_fits 94 = .ok (.imul, 1) := dq_429.2.2.2.2.2.2.2.1
theorem dX10_fits_95 : decode cX10_fits 95 = .ok (.isub, 1) := dq_429.2.2.2.2.2.2.2.2.1
theorem dX10_fits_96 : decode cX10_fits 96 = .ok (.istore 7, 2) := dq_429.2.2.2.2.2.2.2.2.2.1
theorem dX10_fits_98 : decode cX10_fits 98 = .ok (.iload_n 3, 1) := dq_429.2.2.2.2.2.2.2.2.2.2.1
theorem dX10_fits_99 : decode cX10_fits 99 = .ok (.ifCond .ne 7, 3) := dq_429.2.2.2.2.2.2.2.2.2.2.2
theorem dq_430 : decode cX10_fits 102 = .ok (.iconst 0, 1) ∧ decode cX10_fits 103 = .ok (.goto 11, 3) ∧ decode cX10_fits 106 = .ok (.iload 7, 2) ∧ decode cX10_fits 108 = .ok (.iload_n 3, 1) ∧ decode cX10_fits 109 = .ok (.iadd, 1) ∧ decode cX10_fits 110 = .ok (.iconst 1, 1) ∧ decode cX10_fits 111 = .ok (.isub, 1) ∧ decode cX10_fits 112 = .ok (.iload_n 3, 1) ∧ decode cX10_fits 113 = .ok (.idiv, 1) ∧ decode cX10_fits 114 = .ok (.ireturn, 1) := by decide +kernel
theorem dX10_fits_102 : decode cX10_fits 102 = .ok (.iconst 0, 1) := dq_430.1
theorem dX10_fits_103 : decode cX10_fits 103 = .ok (.goto 11, 3) := dq_430.2.1
theorem dX10_fits_106 : decode cX10_fits 106 = .ok (.iload 7, 2) := dq_430.2.2.1
theorem dX10_fits_108 : decode cX10_fits 108 = .ok (.iload_n 3, 1) := dq_430.2.2.2.1
theorem dX10_fits_109 : decode cX10_fits 109 = .ok (.iadd, 1) := dq_430.2.2.2.2.1
theorem dX10_fits_110 : decode cX10_fits 110 = .ok (.iconst 1, 1) := dq_430.2.2.2.2.2.1
theorem dX10_fits_111 : decode cX10_fits 111 = .ok (.isub, 1) := dq_430.2.2.2.2.2.2.1
theorem dX10_fits_112 : decode cX10_fits 112 = .ok (.iload_n 3, 1) := dq_430.2.2.2.2.2.2.2.1
theorem dX10_fits_113 : decode cX10_fits 113 = .ok (.idiv, 1) := dq_430.2.2.2.2.2.2.2.2.1
theorem dX10_fits_114 : decode cX10_fits 114 = .ok (.ireturn, 1) := dq_430.2.2.2.2.2.2.2.2.2
theorem dq_431 : decode cX10_copy 0 = .ok (.aload_n 0, 1) ∧ decode cX10_copy 1 = .ok (.getfield 52, 3) ∧ decode cX10_copy 4 = .ok (.iload_n 1, 1) ∧ decode cX10_copy 5 = .ok (.iload_n 2, 1) ∧ decode cX10_copy 6 = .ok (.iload_n 3, 1) ∧ decode cX10_copy 7 = .ok (.iload 4, 2) ∧ decode cX10_copy 9 = .ok (.invokevirtual 170, 3) ∧ decode cX10_copy 12 = .ok (.istore 6, 2) ∧ decode cX10_copy 14 = .ok (.iload 6, 2) ∧ decode cX10_copy 16 = .ok (.ifCond .ge 5, 3) ∧ decode cX10_copy 19 = .ok (.iconst (-1), 1) ∧ decode cX10_copy 20 = .ok (.ireturn, 1) := by decide +kernel
theorem dX10_copy_0 : decode cX10_copy 0 = .ok (.aload_n 0, 1) := dq_431.1
theorem dX10_copy_1 : decode cX10_copy 1 = .ok (.getfield 52, 3) := dq_431.2.1
theorem dX10_copy_4 : decode cX10_copy 4 = .ok (.iload_n 1, 1) := dq_431.2.2.1
theorem dX10_copy_5 : decode cX10_copy 5 = .ok (.iload_n 2, 1) := dq_431.2.2.2.1
theorem dX10_copy_6 : decode cX10_copy 6 = .ok (.iload_n 3, 1) := dq_431.2.2.2.2.1
theorem dX10_copy_7 : decode cX10_copy 7 = .ok (.iload 4, 2) := dq_431.2.2.2.2.2.1
theorem dX10_copy_9 : decode cX10_copy 9 = .ok (.invokevirtual 170, 3) := dq_431.2.2.2.2.2.2.1
theorem dX10_copy_12 : decode cX10_copy 12 = .ok (.istore 6, 2) := dq_431.2.2.2.2.2.2.2.1
theorem dX10_copy_14 : decode cX10_copy 14 = .ok (.iload 6, 2) := dq_431.2.2.2.2.2.2.2.2.1
theorem dX10_copy_16 : decode cX10_copy 16 = .ok (.ifCond .ge 5, 3) := dq_431.2.2.2.2.2.2.2.2.2.1
theorem dX10_copy_19 : decode cX10_copy 19 = .ok (.iconst (-1), 1) := dq_431.2.2.2.2.2.2.2.2.2.2.1
theorem dX10_copy_20 : decode cX10_copy 20 = .ok (.ireturn, 1) := dq_431.2.2.2.2.2.2.2.2.2.2.2
theorem dq_432 : decode cX10_copy 21 = .ok (.iload 5, 2) ∧ decode cX10_copy 23 = .ok (.tableswitch 67 0 2 #[25, 39, 53], 25) ∧ decode cX10_copy 48 = .ok (.aload_n 0, 1) ∧ decode cX10_copy 49 = .ok (.getfield 52, 3) ∧ decode cX10_copy 52 = .ok (.iload 6, 2) ∧ decode cX10_copy 54 = .ok (.aload_n 0, 1) ∧ decode cX10_copy 55 = .ok (.getfield 45, 3) ∧ decode cX10_copy 58 = .ok (.invokevirtual 272, 3) ∧ decode cX10_copy 61 = .ok (.ireturn, 1) ∧ decode cX10_copy 62 = .ok (.aload_n 0, 1) ∧ decode cX10_copy 63 = .ok (.getfield 52, 3) ∧ decode cX10_copy 66 = .ok (.iload 6, 2) := by decide +kernel
theorem dX10_copy_21 : decode cX10_copy 21 = .ok (.iload 5, 2) := dq_432.1
theorem dX10_copy_23 : decode cX10_copy 23 = .ok (.tableswitch 67 0 2 #[25, 39, 53], 25) := dq_432.2.1
theorem dX10_copy_48 : decode cX10_copy 48 = .ok (.aload_n 0, 1) := dq_432.2.2.1
theorem dX10_copy_49 : decode cX10_copy 49 = .ok (.getfield 52, 3) := dq_432.2.2.2.1
theorem dX10_copy_52 : decode cX10_copy 52 = .ok (.iload 6, 2) := dq_432.2.2.2.2.1
theorem dX10_copy_54 : decode cX10_copy 54 = .ok (.aload_n 0, 1) := dq_432.2.2.2.2.2.1
theorem dX10_copy_55 : decode cX10_copy 55 = .ok (.getfield 45, 3) := dq_432.2.2.2.2.2.2.1
theorem dX10_copy_58 : decode cX10_copy 58 = .ok (.invokevirtual 272, 3) := dq_432.2.2.2.2.2.2.2.1
theorem dX10_copy_61 : decode cX10_copy 61 = .ok (.ireturn, 1) := dq_432.2.2.2.2.2.2.2.2.1
theorem dX10_copy_62 : decode cX10_copy 62 = .ok (.aload_n 0, 1) := dq_432.2.2.2.2.2.2.2.2.2.1
theorem dX10_copy_63 : decode cX10_copy 63 = .ok (.getfield 52, 3) := dq_432.2.2.2.2.2.2.2.2.2.2.1
theorem dX10_copy_66 : decode cX10_copy 66 = .ok (.iload 6, 2) := dq_432.2.2.2.2.2.2.2.2.2.2.2
theorem dq_433 : decode cX10_copy 68 = .ok (.aload_n 0, 1) ∧ decode cX10_copy 69 = .ok (.getfield 45, 3) ∧ decode cX10_copy 72 = .ok (.invokevirtual 174, 3) ∧ decode cX10_copy 75 = .ok (.ireturn, 1) ∧ decode cX10_copy 76 = .ok (.aload_n 0, 1) ∧ decode cX10_copy 77 = .ok (.getfield 52, 3) ∧ decode cX10_copy 80 = .ok (.iload 6, 2) ∧ decode cX10_copy 82 = .ok (.aload_n 0, 1) ∧ decode cX10_copy 83 = .ok (.getfield 45, 3) ∧ decode cX10_copy 86 = .ok (.invokevirtual 178, 3) ∧ decode cX10_copy 89 = .ok (.ireturn, 1) ∧ decode cX10_copy 90 = .ok (.iconst (-1), 1) := by decide +kernel
theorem dX10_copy_68 : decode cX10_copy 68 = .ok (.aload_n 0, 1) := dq_433.1
theorem dX10_copy_69 : decode cX10_copy 69 = .ok (.getfield 45, 3) := dq_433.2.1
theorem dX10_copy_72 : decode cX10_copy 72 = .ok (.invokevirtual 174, 3) := dq_433.2.2.1
theorem dX10_copy_75 : decode cX10_copy 75 = .ok (.ireturn, 1) := dq_433.2.2.2.1
theorem dX10_copy_76 : decode cX10_copy 76 = .ok (.aload_n 0, 1) := dq_433.2.2.2.2.1
theorem dX10_copy_77 : decode cX10_copy 77 = .ok (.getfield 52, 3) := dq_433.2.2.2.2.2.1
theorem dX10_copy_80 : decode cX10_copy 80 = .ok (.iload 6, 2) := dq_433.2.2.2.2.2.2.1
theorem dX10_copy_82 : decode cX10_copy 82 = .ok (.aload_n 0, 1) := dq_433.2.2.2.2.2.2.2.1
theorem dX10_copy_83 : decode cX10_copy 83 = .ok (.getfield 45, 3) := dq_433.2.2.2.2.2.2.2.2.1
theorem dX10_copy_86 : decode cX10_copy 86 = .ok (.invokevirtual 178, 3) := dq_433.2.2.2.2.2.2.2.2.2.1
theorem dX10_copy_89 : decode cX10_copy 89 = .ok (.ireturn, 1) := dq_433.2.2.2.2.2.2.2.2.2.2.1
theorem dX10_copy_90 : decode cX10_copy 90 = .ok (.iconst (-1), 1) := dq_433.2.2.2.2.2.2.2.2.2.2.2
theorem dX10_copy_91 : decode cX10_copy 91 = .ok (.ireturn, 1) := by decide +kernel
theorem dq_435 : decode cX10_best 0 = .ok (.iload_n 1, 1) ∧ decode cX10_best 1 = .ok (.iconst 0, 1) ∧ decode cX10_best 2 = .ok (.iconst 4, 1) ∧ decode cX10_best 3 = .ok (.invokestatic 123, 3) ∧ decode cX10_best 6 = .ok (.ifCond .ne 5, 3) ∧ decode cX10_best 9 = .ok (.iconst (-1), 1) ∧ decode cX10_best 10 = .ok (.ireturn, 1) ∧ decode cX10_best 11 = .ok (.aload_n 0, 1) ∧ decode cX10_best 12 = .ok (.getfield 52, 3) ∧ decode cX10_best 15 = .ok (.aload_n 0, 1) ∧ decode cX10_best 16 = .ok (.getfield 45, 3) ∧ decode cX10_best 19 = .ok (.invokevirtual 275, 3) := by decide +kernel
theorem dX10_best_0 : decode cX10_best 0 = .ok (.iload_n 1, 1) := dq_435.1
theorem dX10_best_1 : decode cX10_best 1 = .ok (.iconst 0, 1) := dq_435.2.1
theorem dX10_best_2 : decode cX10_best 2 = .ok (.iconst 4, 1) := dq_435.2.2.1
theorem dX10_best_3 : decode cX10_best 3 = .ok (.invokestatic 123, 3) := dq_435.2.2.2.1
theorem dX10_best_6 : decode cX10_best 6 = .ok (.ifCond .ne 5, 3) := dq_435.2.2.2.2.1
theorem dX10_best_9 : decode cX10_best 9 = .ok (.iconst (-1), 1) := dq_435.2.2.2.2.2.1
theorem dX10_best_10 : decode cX10_best 10 = .ok (.ireturn, 1) := dq_435.2.2.2.2.2.2.1
theorem dX10_best_11 : decode cX10_best 11 = .ok (.aload_n 0, 1) := dq_435.2.2.2.2.2.2.2.1
theorem dX10_best_12 : decode cX10_best 12 = .ok (.getfield 52, 3) := dq_435.2.2.2.2.2.2.2.2.1
theorem dX10_best_15 : decode cX10_best 15 = .ok (.aload_n 0, 1) := dq_435.2.2.2.2.2.2.2.2.2.1
theorem dX10_best_16 : decode cX10_best 16 = .ok (.getfield 45, 3) := dq_435.2.2.2.2.2.2.2.2.2.2.1
theorem dX10_best_19 : decode cX10_best 19 = .ok (.invokevirtual 275, 3) := dq_435.2.2.2.2.2.2.2.2.2.2.2
theorem dq_436 : decode cX10_best 22 = .ok (.istore_n 2, 1) ∧ decode cX10_best 23 = .ok (.iload_n 2, 1) ∧ decode cX10_best 24 = .ok (.ifCond .ge 6, 3) ∧ decode cX10_best 27 = .ok (.bipush (-4), 2) ∧ decode cX10_best 29 = .ok (.ireturn, 1) ∧ decode cX10_best 30 = .ok (.iload_n 1, 1) ∧ decode cX10_best 31 = .ok (.tableswitch 49 0 3 #[29, 34, 39, 44], 29) ∧ decode cX10_best 60 = .ok (.iload_n 2, 1) ∧ decode cX10_best 61 = .ok (.invokestatic 279, 3) ∧ decode cX10_best 64 = .ok (.ireturn, 1) ∧ decode cX10_best 65 = .ok (.iload_n 2, 1) ∧ decode cX10_best 66 = .ok (.invokestatic 282, 3) := by decide +kernel
theorem dX10_best_22 : decode cX10_best 22 = .ok (.istore_n 2, 1) := dq_436.1
theorem dX10_best_23 : decode cX10_best 23 = .ok (.iload_n 2, 1) := dq_436.2.1
theorem dX10_best_24 : decode cX10_best 24 = .ok (.ifCond .ge 6, 3) := dq_436.2.2.1
theorem dX10_best_27 : decode cX10_best 27 = .ok (.bipush (-4), 2) := dq_436.2.2.2.1
theorem dX10_best_29 : decode cX10_best 29 = .ok (.ireturn, 1) := dq_436.2.2.2.2.1
theorem dX10_best_30 : decode cX10_best 30 = .ok (.iload_n 1, 1) := dq_436.2.2.2.2.2.1
theorem dX10_best_31 : decode cX10_best 31 = .ok (.tableswitch 49 0 3 #[29, 34, 39, 44], 29) := dq_436.2.2.2.2.2.2.1
theorem dX10_best_60 : decode cX10_best 60 = .ok (.iload_n 2, 1) := dq_436.2.2.2.2.2.2.2.1
theorem dX10_best_61 : decode cX10_best 61 = .ok (.invokestatic 279, 3) := dq_436.2.2.2.2.2.2.2.2.1
theorem dX10_best_64 : decode cX10_best 64 = .ok (.ireturn, 1) := dq_436.2.2.2.2.2.2.2.2.2.1
theorem dX10_best_65 : decode cX10_best 65 = .ok (.iload_n 2, 1) := dq_436.2.2.2.2.2.2.2.2.2.2.1
theorem dX10_best_66 : decode cX10_best 66 = .ok (.invokestatic 282, 3) := dq_436.2.2.2.2.2.2.2.2.2.2.2
theorem dq_437 : decode cX10_best 69 = .ok (.ireturn, 1) ∧ decode cX10_best 70 = .ok (.iload_n 2, 1) ∧ decode cX10_best 71 = .ok (.invokestatic 285, 3) ∧ decode cX10_best 74 = .ok (.ireturn, 1) ∧ decode cX10_best 75 = .ok (.iload_n 2, 1) ∧ decode cX10_best 76 = .ok (.invokestatic 288, 3) ∧ decode cX10_best 79 = .ok (.ireturn, 1) ∧ decode cX10_best 80 = .ok (.aload_n 0, 1) ∧ decode cX10_best 81 = .ok (.getfield 52, 3) ∧ decode cX10_best 84 = .ok (.iload_n 2, 1) ∧ decode cX10_best 85 = .ok (.aload_n 0, 1) ∧ decode cX10_best 86 = .ok (.getfield 45, 3) := by decide +kernel
theorem dX10_best_69 : decode cX10_best 69 = .ok (.ireturn, 1) := dq_437.1
theorem dX10_best_70 : decode cX10_best 70 = .ok (.iload_n 2, 1) := dq_437.2.1
theorem dX10_best_71 : decode cX10_best 71 = .ok (.invokestatic 285, 3) := dq_437.2.2.1
theorem dX10_best_74 : decode cX10_best 74 = .ok (.ireturn, 1) := dq_437.2.2.2.1
theorem dX10_best_75 : decode cX10_best 75 = .ok (.iload_n 2, 1) := dq_437.2.2.2.2.1
theorem dX10_best_76 : decode cX10_best 76 = .ok (.invokestatic 288, 3) := dq_437.2.2.2.2.2.1
theorem dX10_best_79 : decode cX10_best 79 = .ok (.ireturn, 1) := dq_437.2.2.2.2.2.2.1
theorem dX10_best_80 : decode cX10_best 80 = .ok (.aload_n 0, 1) := dq_437.2.2.2.2.2.2.2.1
theorem dX10_best_81 : decode cX10_best 81 = .ok (.getfield 52, 3) := dq_437.2.2.2.2.2.2.2.2.1
theorem dX10_best_84 : decode cX10_best 84 = .ok (.iload_n 2, 1) := dq_437.2.2.2.2.2.2.2.2.2.1
theorem dX10_best_85 : decode cX10_best 85 = .ok (.aload_n 0, 1) := dq_437.2.2.2.2.2.2.2.2.2.2.1
theorem dX10_best_86 : decode cX10_best 86 = .ok (.getfield 45, 3) := dq_437.2.2.2.2.2.2.2.2.2.2.2
theorem dq_438 : decode cX10_best 89 = .ok (.invokevirtual 272, 3) ∧ decode cX10_best 92 = .ok (.ireturn, 1) := by decide +kernel
theorem dX10_best_89 : decode cX10_best 89 = .ok (.invokevirtual 272, 3) := dq_438.1
theorem dX10_best_92 : decode cX10_best 92 = .ok (.ireturn, 1) := dq_438.2
theorem dq_439 : decode cX10_copies 0 = .ok (.aload_n 0, 1) ∧ decode cX10_copies 1 = .ok (.getfield 19, 3) ∧ decode cX10_copies 4 = .ok (.iload_n 1, 1) ∧ decode cX10_copies 5 = .ok (.invokevirtual 149, 3) ∧ decode cX10_copies 8 = .ok (.ifCond .eq 13, 3) ∧ decode cX10_copies 11 = .ok (.iload_n 2, 1) ∧ decode cX10_copies 12 = .ok (.iconst 0, 1) ∧ decode cX10_copies 13 = .ok (.bipush 64, 2) ∧ decode cX10_copies 15 = .ok (.invokestatic 123, 3) ∧ decode cX10_copies 18 = .ok (.ifCond .ne 5, 3) ∧ decode cX10_copies 21 = .ok (.iconst (-1), 1) ∧ decode cX10_copies 22 = .ok (.ireturn, 1) := by decide +kernel
theorem dX10_copies_0 : decode cX10_copies 0 = .ok (.aload_n 0, 1) := dq_439.1
theorem dX10_copies_1 : decode cX10_copies 1 = .ok (.getfield 19, 3) := dq_439.2.1
theorem dX10_copies_4 : decode cX10_copies 4 = .ok (.iload_n 1, 1) := dq_439.2.2.1
theorem dX10_copies_5 : decode cX10_copies 5 = .ok (.invokevirtual 149, 3) := dq_439.2.2.2.1
theorem dX10_copies_8 : decode cX10_copies 8 = .ok (.ifCond .eq 13, 3) := dq_439.2.2.2.2.1
theorem dX10_copies_11 : decode cX10_copies 11 = .ok (.iload_n 2, 1) := dq_439.2.2.2.2.2.1
theorem dX10_copies_12 : decode cX10_copies 12 = .ok (.iconst 0, 1) := dq_439.2.2.2.2.2.2.1
theorem dX10_copies_13 : decode cX10_copies 13 = .ok (.bipush 64, 2) := dq_439.2.2.2.2.2.2.2.1
theorem dX10_copies_15 : decode cX10_copies 15 = .ok (.invokestatic 123, 3) := dq_439.2.2.2.2.2.2.2.2.1
theorem dX10_copies_18 : decode cX10_copies 18 = .ok (.ifCond .ne 5, 3) := dq_439.2.2.2.2.2.2.2.2.2.1
theorem dX10_copies_21 : decode cX10_copies 21 = .ok (.iconst (-1), 1) := dq_439.2.2.2.2.2.2.2.2.2.2.1
theorem dX10_copies_22 : decode cX10_copies 22 = .ok (.ireturn, 1) := dq_439.2.2.2.2.2.2.2.2.2.2.2
theorem dq_440 : decode cX10_copies 23 = .ok (.aload_n 0, 1) ∧ decode cX10_copies 24 = .ok (.getfield 52, 3) ∧ decode cX10_copies 27 = .ok (.iload_n 1, 1) ∧ decode cX10_copies 28 = .ok (.iload_n 2, 1) ∧ decode cX10_copies 29 = .ok (.aload_n 0, 1) ∧ decode cX10_copies 30 = .ok (.getfield 45, 3) ∧ decode cX10_copies 33 = .ok (.invokevirtual 291, 3) ∧ decode cX10_copies 36 = .ok (.ireturn, 1) := by decide +kernel
theorem dX10_copies_23 : decode cX10_copies 23 = .ok (.aload_n 0, 1) := dq_440.1
theorem dX10_copies_24 : decode cX10_copies 24 = .ok (.getfield 52, 3) := dq_440.2.1
theorem dX10_copies_27 : decode cX10_copies 27 = .ok (.iload_n 1, 1) := dq_440.2.2.1
theorem dX10_copies_28 : decode cX10_copies 28 = .ok (.iload_n 2, 1) := dq_440.2.2.2.1
theorem dX10_copies_29 : decode cX10_copies 29 = .ok (.aload_n 0, 1) := dq_440.2.2.2.2.1
theorem dX10_copies_30 : decode cX10_copies 30 = .ok (.getfield 45, 3) := dq_440.2.2.2.2.2.1
theorem dX10_copies_33 : decode cX10_copies 33 = .ok (.invokevirtual 291, 3) := dq_440.2.2.2.2.2.2.1
theorem dX10_copies_36 : decode cX10_copies 36 = .ok (.ireturn, 1) := dq_440.2.2.2.2.2.2.2
theorem dq_441 : decode cX10_symmetries 0 = .ok (.aload_n 0, 1) ∧ decode cX10_symmetries 1 = .ok (.getfield 45, 3) ∧ decode cX10_symmetries 4 = .ok (.invokevirtual 295, 3) ∧ decode cX10_symmetries 7 = .ok (.ireturn, 1) := by decide +kernel
theorem dX10_symmetries_0 : decode cX10_symmetries 0 = .ok (.aload_n 0, 1) := dq_441.1
theorem dX10_symmetries_1 : decode cX10_symmetries 1 = .ok (.getfield 45, 3) := dq_441.2.1
theorem dX10_symmetries_4 : decode cX10_symmetries 4 = .ok (.invokevirtual 295, 3) := dq_441.2.2.1
theorem dX10_symmetries_7 : decode cX10_symmetries 7 = .ok (.ireturn, 1) := dq_441.2.2.2
theorem dq_442 : decode cX10_may 0 = .ok (.iload_n 1, 1) ∧ decode cX10_may 1 = .ok (.invokestatic 160, 3) ∧ decode cX10_may 4 = .ok (.ifCond .eq 24, 3) ∧ decode cX10_may 7 = .ok (.iload_n 2, 1) ∧ decode cX10_may 8 = .ok (.iconst 0, 1) ∧ decode cX10_may 9 = .ok (.iconst 2, 1) ∧ decode cX10_may 10 = .ok (.invokestatic 123, 3) ∧ decode cX10_may 13 = .ok (.ifCond .eq 15, 3) ∧ decode cX10_may 16 = .ok (.aload_n 0, 1) ∧ decode cX10_may 17 = .ok (.getfield 45, 3) ∧ decode cX10_may 20 = .ok (.iload_n 1, 1) ∧ decode cX10_may 21 = .ok (.invokevirtual 163, 3) := by decide +kernel
theorem dX10_may_0 : decode cX10_may 0 = .ok (.iload_n 1, 1) := dq_442.1
theorem dX10_may_1 : decode cX10_may 1 = .ok (.invokestatic 160, 3) := dq_442.2.1
theorem dX10_may_4 : decode cX10_may 4 = .ok (.ifCond .eq 24, 3) := dq_442.2.2.1
theorem dX10_may_7 : decode cX10_may 7 = .ok (.iload_n 2, 1) := dq_442.2.2.2.1
theorem dX10_may_8 : decode cX10_may 8 = .ok (.iconst 0, 1) := dq_442.2.2.2.2.1
theorem dX10_may_9 : decode cX10_may 9 = .ok (.iconst 2, 1) := dq_442.2.2.2.2.2.1
theorem dX10_may_10 : decode cX10_may 10 = .ok (.invokestatic 123, 3) := dq_442.2.2.2.2.2.2.1
theorem dX10_may_13 : decode cX10_may 13 = .ok (.ifCond .eq 15, 3) := dq_442.2.2.2.2.2.2.2.1
theorem dX10_may_16 : decode cX10_may 16 = .ok (.aload_n 0, 1) := dq_442.2.2.2.2.2.2.2.2.1
theorem dX10_may_17 : decode cX10_may 17 = .ok (.getfield 45, 3) := dq_442.2.2.2.2.2.2.2.2.2.1
theorem dX10_may_20 : decode cX10_may 20 = .ok (.iload_n 1, 1) := dq_442.2.2.2.2.2.2.2.2.2.2.1
theorem dX10_may_21 : decode cX10_may 21 = .ok (.invokevirtual 163, 3) := dq_442.2.2.2.2.2.2.2.2.2.2.2
theorem dq_443 : decode cX10_may 24 = .ok (.iconst (-1), 1) ∧ decode cX10_may 25 = .ok (.if_icmp .eq 5, 3) ∧ decode cX10_may 28 = .ok (.iconst (-1), 1) ∧ decode cX10_may 29 = .ok (.ireturn, 1) ∧ decode cX10_may 30 = .ok (.aload_n 0, 1) ∧ decode cX10_may 31 = .ok (.getfield 59, 3) ∧ decode cX10_may 34 = .ok (.aload_n 0, 1) ∧ decode cX10_may 35 = .ok (.getfield 45, 3) ∧ decode cX10_may 38 = .ok (.aload_n 0, 1) ∧ decode cX10_may 39 = .ok (.getfield 52, 3) ∧ decode cX10_may 42 = .ok (.iload_n 2, 1) ∧ decode cX10_may 43 = .ok (.invokevirtual 298, 3) := by decide +kernel
theorem dX10_may_24 : decode cX10_may 24 = .ok (.iconst (-1), 1) := dq_443.1
theorem dX10_may_25 : decode cX10_may 25 = .ok (.if_icmp .eq 5, 3) := dq_443.2.1
theorem dX10_may_28 : decode cX10_may 28 = .ok (.iconst (-1), 1) := dq_443.2.2.1
theorem dX10_may_29 : decode cX10_may 29 = .ok (.ireturn, 1) := dq_443.2.2.2.1
theorem dX10_may_30 : decode cX10_may 30 = .ok (.aload_n 0, 1) := dq_443.2.2.2.2.1
theorem dX10_may_31 : decode cX10_may 31 = .ok (.getfield 59, 3) := dq_443.2.2.2.2.2.1
theorem dX10_may_34 : decode cX10_may 34 = .ok (.aload_n 0, 1) := dq_443.2.2.2.2.2.2.1
theorem dX10_may_35 : decode cX10_may 35 = .ok (.getfield 45, 3) := dq_443.2.2.2.2.2.2.2.1
theorem dX10_may_38 : decode cX10_may 38 = .ok (.aload_n 0, 1) := dq_443.2.2.2.2.2.2.2.2.1
theorem dX10_may_39 : decode cX10_may 39 = .ok (.getfield 52, 3) := dq_443.2.2.2.2.2.2.2.2.2.1
theorem dX10_may_42 : decode cX10_may 42 = .ok (.iload_n 2, 1) := dq_443.2.2.2.2.2.2.2.2.2.2.1
theorem dX10_may_43 : decode cX10_may 43 = .ok (.invokevirtual 298, 3) := dq_443.2.2.2.2.2.2.2.2.2.2.2
theorem dq_444 : decode cX10_may 46 = .ok (.aload_n 0, 1) ∧ decode cX10_may 47 = .ok (.getfield 59, 3) ∧ decode cX10_may 50 = .ok (.iload_n 1, 1) ∧ decode cX10_may 51 = .ok (.invokevirtual 302, 3) ∧ decode cX10_may 54 = .ok (.ireturn, 1) := by decide +kernel
theorem dX10_may_46 : decode cX10_may 46 = .ok (.aload_n 0, 1) := dq_444.1
theorem dX10_may_47 : decode cX10_may 47 = .ok (.getfield 59, 3) := dq_444.2.1
theorem dX10_may_50 : decode cX10_may 50 = .ok (.iload_n 1, 1) := dq_444.2.2.1
theorem dX10_may_51 : decode cX10_may 51 = .ok (.invokevirtual 302, 3) := dq_444.2.2.2.1
theorem dX10_may_54 : decode cX10_may 54 = .ok (.ireturn, 1) := dq_444.2.2.2.2
theorem dq_445 : decode cX10_lost 0 = .ok (.iload_n 1, 1) ∧ decode cX10_lost 1 = .ok (.iconst 0, 1) ∧ decode cX10_lost 2 = .ok (.iconst 2, 1) ∧ decode cX10_lost 3 = .ok (.invokestatic 123, 3) ∧ decode cX10_lost 6 = .ok (.ifCond .ne 5, 3) ∧ decode cX10_lost 9 = .ok (.iconst (-1), 1) ∧ decode cX10_lost 10 = .ok (.ireturn, 1) ∧ decode cX10_lost 11 = .ok (.aload_n 0, 1) ∧ decode cX10_lost 12 = .ok (.getfield 59, 3) ∧ decode cX10_lost 15 = .ok (.aload_n 0, 1) ∧ decode cX10_lost 16 = .ok (.getfield 45, 3) ∧ decode cX10_lost 19 = .ok (.aload_n 0, 1) := by decide +kernel
theorem dX10_lost_0 : decode cX10_lost 0 = .ok (.iload_n 1, 1) := dq_445.1
theorem dX10_lost_1 : decode cX10_lost 1 = .ok (.iconst 0, 1) := dq_445.2.1
theorem dX10_lost_2 : decode cX10_lost 2 = .ok (.iconst 2, 1) := dq_445.2.2.1
theorem dX10_lost_3 : decode cX10_lost 3 = .ok (.invokestatic 123, 3) := dq_445.2.2.2.1
theorem dX10_lost_6 : decode cX10_lost 6 = .ok (.ifCond .ne 5, 3) := dq_445.2.2.2.2.1
theorem dX10_lost_9 : decode cX10_lost 9 = .ok (.iconst (-1), 1) := dq_445.2.2.2.2.2.1
theorem dX10_lost_10 : decode cX10_lost 10 = .ok (.ireturn, 1) := dq_445.2.2.2.2.2.2.1
theorem dX10_lost_11 : decode cX10_lost 11 = .ok (.aload_n 0, 1) := dq_445.2.2.2.2.2.2.2.1
theorem dX10_lost_12 : decode cX10_lost 12 = .ok (.getfield 59, 3) := dq_445.2.2.2.2.2.2.2.2.1
theorem dX10_lost_15 : decode cX10_lost 15 = .ok (.aload_n 0, 1) := dq_445.2.2.2.2.2.2.2.2.2.1
theorem dX10_lost_16 : decode cX10_lost 16 = .ok (.getfield 45, 3) := dq_445.2.2.2.2.2.2.2.2.2.2.1
theorem dX10_lost_19 : decode cX10_lost 19 = .ok (.aload_n 0, 1) := dq_445.2.2.2.2.2.2.2.2.2.2.2
theorem dq_446 : decode cX10_lost 20 = .ok (.getfield 52, 3) ∧ decode cX10_lost 23 = .ok (.iconst 2, 1) ∧ decode cX10_lost 24 = .ok (.invokevirtual 298, 3) ∧ decode cX10_lost 27 = .ok (.aload_n 0, 1) ∧ decode cX10_lost 28 = .ok (.getfield 45, 3) ∧ decode cX10_lost 31 = .ok (.invokevirtual 305, 3) ∧ decode cX10_lost 34 = .ok (.lstore_n 2, 1) ∧ decode cX10_lost 35 = .ok (.iload_n 1, 1) ∧ decode cX10_lost 36 = .ok (.lookupswitch 54 #[(0, 28), (1, 41)], 28) ∧ decode cX10_lost 64 = .ok (.lload_n 2, 1) ∧ decode cX10_lost 65 = .ok (.aload_n 0, 1) ∧ decode cX10_lost 66 = .ok (.getfield 59, 3) := by decide +kernel
theorem dX10_lost_20 : decode cX10_lost 20 = .ok (.getfield 52, 3) := dq_446.1
theorem dX10_lost_23 : decode cX10_lost 23 = .ok (.iconst 2, 1) := dq_446.2.1
theorem dX10_lost_24 : decode cX10_lost 24 = .ok (.invokevirtual 298, 3) := dq_446.2.2.1
theorem dX10_lost_27 : decode cX10_lost 27 = .ok (.aload_n 0, 1) := dq_446.2.2.2.1
theorem dX10_lost_28 : decode cX10_lost 28 = .ok (.getfield 45, 3) := dq_446.2.2.2.2.1
theorem dX10_lost_31 : decode cX10_lost 31 = .ok (.invokevirtual 305, 3) := dq_446.2.2.2.2.2.1
theorem dX10_lost_34 : decode cX10_lost 34 = .ok (.lstore_n 2, 1) := dq_446.2.2.2.2.2.2.1
theorem dX10_lost_35 : decode cX10_lost 35 = .ok (.iload_n 1, 1) := dq_446.2.2.2.2.2.2.2.1
theorem dX10_lost_36 : decode cX10_lost 36 = .ok (.lookupswitch 54 #[(0, 28), (1, 41)], 28) := dq_446.2.2.2.2.2.2.2.2.1
theorem dX10_lost_64 : decode cX10_lost 64 = .ok (.lload_n 2, 1) := dq_446.2.2.2.2.2.2.2.2.2.1
theorem dX10_lost_65 : decode cX10_lost 65 = .ok (.aload_n 0, 1) := dq_446.2.2.2.2.2.2.2.2.2.2.1
theorem dX10_lost_66 : decode cX10_lost 66 = .ok (.getfield 59, 3) := dq_446.2.2.2.2.2.2.2.2.2.2.2
theorem dq_447 : decode cX10_lost 69 = .ok (.invokevirtual 308, 3) ∧ decode cX10_lost 72 = .ok (.land, 1) ∧ decode cX10_lost 73 = .ok (.invokestatic 311, 3) ∧ decode cX10_lost 76 = .ok (.ireturn, 1) ∧ decode cX10_lost 77 = .ok (.lload_n 2, 1) ∧ decode cX10_lost 78 = .ok (.aload_n 0, 1) ∧ decode cX10_lost 79 = .ok (.getfield 59, 3) ∧ decode cX10_lost 82 = .ok (.invokevirtual 316, 3) ∧ decode cX10_lost 85 = .ok (.land, 1) ∧ decode cX10_lost 86 = .ok (.invokestatic 311, 3) ∧ decode cX10_lost 89 = .ok (.ireturn, 1) ∧ decode cX10_lost 90 = .ok (.lload_n 2, 1) := by decide +kernel
theorem dX10_lost_69 : decode cX10_lost 69 = .ok (.invokevirtual 308, 3) := dq_447.1
theorem dX10_lost_72 : decode cX10_lost 72 = .ok (.land, 1) := dq_447.2.1
theorem dX10_lost_73 : decode cX10_lost 73 = .ok (.invokestatic 311, 3) := dq_447.2.2.1
theorem dX10_lost_76 : decode cX10_lost 76 = .ok (.ireturn, 1) := dq_447.2.2.2.1
theorem dX10_lost_77 : decode cX10_lost 77 = .ok (.lload_n 2, 1) := dq_447.2.2.2.2.1
theorem dX10_lost_78 : decode cX10_lost 78 = .ok (.aload_n 0, 1) := dq_447.2.2.2.2.2.1
theorem dX10_lost_79 : decode cX10_lost 79 = .ok (.getfield 59, 3) := dq_447.2.2.2.2.2.2.1
theorem dX10_lost_82 : decode cX10_lost 82 = .ok (.invokevirtual 316, 3) := dq_447.2.2.2.2.2.2.2.1
theorem dX10_lost_85 : decode cX10_lost 85 = .ok (.land, 1) := dq_447.2.2.2.2.2.2.2.2.1
theorem dX10_lost_86 : decode cX10_lost 86 = .ok (.invokestatic 311, 3) := dq_447.2.2.2.2.2.2.2.2.2.1
theorem dX10_lost_89 : decode cX10_lost 89 = .ok (.ireturn, 1) := dq_447.2.2.2.2.2.2.2.2.2.2.1
theorem dX10_lost_90 : decode cX10_lost 90 = .ok (.lload_n 2, 1) := dq_447.2.2.2.2.2.2.2.2.2.2.2
theorem dq_448 : decode cX10_lost 91 = .ok (.aload_n 0, 1) ∧ decode cX10_lost 92 = .ok (.getfield 59, 3) ∧ decode cX10_lost 95 = .ok (.invokevirtual 319, 3) ∧ decode cX10_lost 98 = .ok (.land, 1) ∧ decode cX10_lost 99 = .ok (.invokestatic 311, 3) ∧ decode cX10_lost 102 = .ok (.ireturn, 1) := by decide +kernel
theorem dX10_lost_91 : decode cX10_lost 91 = .ok (.aload_n 0, 1) := dq_448.1
theorem dX10_lost_92 : decode cX10_lost 92 = .ok (.getfield 59, 3) := dq_448.2.1
theorem dX10_lost_95 : decode cX10_lost 95 = .ok (.invokevirtual 319, 3) := dq_448.2.2.1
theorem dX10_lost_98 : decode cX10_lost 98 = .ok (.land, 1) := dq_448.2.2.2.1
theorem dX10_lost_99 : decode cX10_lost 99 = .ok (.invokestatic 311, 3) := dq_448.2.2.2.2.1
theorem dX10_lost_102 : decode cX10_lost 102 = .ok (.ireturn, 1) := dq_448.2.2.2.2.2
theorem dq_449 : decode cX10_fill 0 = .ok (.aload_n 0, 1) ∧ decode cX10_fill 1 = .ok (.getfield 59, 3) ∧ decode cX10_fill 4 = .ok (.aload_n 0, 1) ∧ decode cX10_fill 5 = .ok (.getfield 45, 3) ∧ decode cX10_fill 8 = .ok (.aload_n 0, 1) ∧ decode cX10_fill 9 = .ok (.getfield 52, 3) ∧ decode cX10_fill 12 = .ok (.iconst 2, 1) ∧ decode cX10_fill 13 = .ok (.invokevirtual 298, 3) ∧ decode cX10_fill 16 = .ok (.aload_n 0, 1) ∧ decode cX10_fill 17 = .ok (.getfield 45, 3) ∧ decode cX10_fill 20 = .ok (.invokevirtual 305, 3) ∧ decode cX10_fill 23 = .ok (.aload_n 0, 1) := by decide +kernel
theorem dX10_fill_0 : decode cX10_fill 0 = .ok (.aload_n 0, 1) := dq_449.1
theorem dX10_fill_1 : decode cX10_fill 1 = .ok (.getfield 59, 3) := dq_449.2.1
theorem dX10_fill_4 : decode cX10_fill 4 = .ok (.aload_n 0, 1) := dq_449.2.2.1
theorem dX10_fill_5 : decode cX10_fill 5 = .ok (.getfield 45, 3) := dq_449.2.2.2.1
theorem dX10_fill_8 : decode cX10_fill 8 = .ok (.aload_n 0, 1) := dq_449.2.2.2.2.1
theorem dX10_fill_9 : decode cX10_fill 9 = .ok (.getfield 52, 3) := dq_449.2.2.2.2.2.1
theorem dX10_fill_12 : decode cX10_fill 12 = .ok (.iconst 2, 1) := dq_449.2.2.2.2.2.2.1
theorem dX10_fill_13 : decode cX10_fill 13 = .ok (.invokevirtual 298, 3) := dq_449.2.2.2.2.2.2.2.1
theorem dX10_fill_16 : decode cX10_fill 16 = .ok (.aload_n 0, 1) := dq_449.2.2.2.2.2.2.2.2.1
theorem dX10_fill_17 : decode cX10_fill 17 = .ok (.getfield 45, 3) := dq_449.2.2.2.2.2.2.2.2.2.1
theorem dX10_fill_20 : decode cX10_fill 20 = .ok (.invokevirtual 305, 3) := dq_449.2.2.2.2.2.2.2.2.2.2.1
theorem dX10_fill_23 : decode cX10_fill 23 = .ok (.aload_n 0, 1) := dq_449.2.2.2.2.2.2.2.2.2.2.2
theorem dq_450 : decode cX10_fill 24 = .ok (.getfield 59, 3) ∧ decode cX10_fill 27 = .ok (.invokevirtual 308, 3) ∧ decode cX10_fill 30 = .ok (.land, 1) ∧ decode cX10_fill 31 = .ok (.lstore_n 1, 1) ∧ decode cX10_fill 32 = .ok (.iconst 0, 1) ∧ decode cX10_fill 33 = .ok (.istore_n 3, 1) ∧ decode cX10_fill 34 = .ok (.iload_n 3, 1) ∧ decode cX10_fill 35 = .ok (.bipush 64, 2) ∧ decode cX10_fill 37 = .ok (.if_icmp .ge 33, 3) ∧ decode cX10_fill 40 = .ok (.lload_n 1, 1) ∧ decode cX10_fill 41 = .ok (.iload_n 3, 1) ∧ decode cX10_fill 42 = .ok (.invokestatic 322, 3) := by decide +kernel
theorem dX10_fill_24 : decode cX10_fill 24 = .ok (.getfield 59, 3) := dq_450.1
theorem dX10_fill_27 : decode cX10_fill 27 = .ok (.invokevirtual 308, 3) := dq_450.2.1
theorem dX10_fill_30 : decode cX10_fill 30 = .ok (.land, 1) := dq_450.2.2.1
theorem dX10_fill_31 : decode cX10_fill 31 = .ok (.lstore_n 1, 1) := dq_450.2.2.2.1
theorem dX10_fill_32 : decode cX10_fill 32 = .ok (.iconst 0, 1) := dq_450.2.2.2.2.1
theorem dX10_fill_33 : decode cX10_fill 33 = .ok (.istore_n 3, 1) := dq_450.2.2.2.2.2.1
theorem dX10_fill_34 : decode cX10_fill 34 = .ok (.iload_n 3, 1) := dq_450.2.2.2.2.2.2.1
theorem dX10_fill_35 : decode cX10_fill 35 = .ok (.bipush 64, 2) := dq_450.2.2.2.2.2.2.2.1
theorem dX10_fill_37 : decode cX10_fill 37 = .ok (.if_icmp .ge 33, 3) := dq_450.2.2.2.2.2.2.2.2.1
theorem dX10_fill_40 : decode cX10_fill 40 = .ok (.lload_n 1, 1) := dq_450.2.2.2.2.2.2.2.2.2.1
theorem dX10_fill_41 : decode cX10_fill 41 = .ok (.iload_n 3, 1) := dq_450.2.2.2.2.2.2.2.2.2.2.1
theorem dX10_fill_42 : decode cX10_fill 42 = .ok (.invokestatic 322, 3) := dq_450.2.2.2.2.2.2.2.2.2.2.2
theorem dq_451 : decode cX10_fill 45 = .ok (.ifCond .eq 19, 3) ∧ decode cX10_fill 48 = .ok (.aload_n 0, 1) ∧ decode cX10_fill 49 = .ok (.getfield 45, 3) ∧ decode cX10_fill 52 = .ok (.iload_n 3, 1) ∧ decode cX10_fill 53 = .ok (.aload_n 0, 1) ∧ decode cX10_fill 54 = .ok (.getfield 59, 3) ∧ decode cX10_fill 57 = .ok (.iload_n 3, 1) ∧ decode cX10_fill 58 = .ok (.invokevirtual 302, 3) ∧ decode cX10_fill 61 = .ok (.invokevirtual 166, 3) ∧ decode cX10_fill 64 = .ok (.iinc 3 1, 3) ∧ decode cX10_fill 67 = .ok (.goto (-33), 3) ∧ decode cX10_fill 70 = .ok (.aload_n 0, 1) := by decide +kernel
theorem dX10_fill_45 : decode cX10_fill 45 = .ok (.ifCond .eq 19, 3) := dq_451.1
theorem dX10_fill_48 : decode cX10_fill 48 = .ok (.aload_n 0, 1) := dq_451.2.1
theorem dX10_fill_49 : decode cX10_fill 49 = .ok (.getfield 45, 3) := dq_451.2.2.1
theorem dX10_fill_52 : decode cX10_fill 52 = .ok (.iload_n 3, 1) := dq_451.2.2.2.1
theorem dX10_fill_53 : decode cX10_fill 53 = .ok (.aload_n 0, 1) := dq_451.2.2.2.2.1
theorem dX10_fill_54 : decode cX10_fill 54 = .ok (.getfield 59, 3) := dq_451.2.2.2.2.2.1
theorem dX10_fill_57 : decode cX10_fill 57 = .ok (.iload_n 3, 1) := dq_451.2.2.2.2.2.2.1
theorem dX10_fill_58 : decode cX10_fill 58 = .ok (.invokevirtual 302, 3) := dq_451.2.2.2.2.2.2.2.1
theorem dX10_fill_61 : decode cX10_fill 61 = .ok (.invokevirtual 166, 3) := dq_451.2.2.2.2.2.2.2.2.1
theorem dX10_fill_64 : decode cX10_fill 64 = .ok (.iinc 3 1, 3) := dq_451.2.2.2.2.2.2.2.2.2.1
theorem dX10_fill_67 : decode cX10_fill 67 = .ok (.goto (-33), 3) := dq_451.2.2.2.2.2.2.2.2.2.2.1
theorem dX10_fill_70 : decode cX10_fill 70 = .ok (.aload_n 0, 1) := dq_451.2.2.2.2.2.2.2.2.2.2.2
theorem dq_452 : decode cX10_fill 71 = .ok (.getfield 45, 3) ∧ decode cX10_fill 74 = .ok (.lload_n 1, 1) ∧ decode cX10_fill 75 = .ok (.invokevirtual 326, 3) ∧ decode cX10_fill 78 = .ok (.lload_n 1, 1) ∧ decode cX10_fill 79 = .ok (.invokestatic 311, 3) ∧ decode cX10_fill 82 = .ok (.ireturn, 1) := by decide +kernel
theorem dX10_fill_71 : decode cX10_fill 71 = .ok (.getfield 45, 3) := dq_452.1
theorem dX10_fill_74 : decode cX10_fill 74 = .ok (.lload_n 1, 1) := dq_452.2.1
theorem dX10_fill_75 : decode cX10_fill 75 = .ok (.invokevirtual 326, 3) := dq_452.2.2.1
theorem dX10_fill_78 : decode cX10_fill 78 = .ok (.lload_n 1, 1) := dq_452.2.2.2.1
theorem dX10_fill_79 : decode cX10_fill 79 = .ok (.invokestatic 311, 3) := dq_452.2.2.2.2.1
theorem dX10_fill_82 : decode cX10_fill 82 = .ok (.ireturn, 1) := dq_452.2.2.2.2.2
theorem dq_453 : decode cX10_undo 0 = .ok (.aload_n 0, 1) ∧ decode cX10_undo 1 = .ok (.getfield 45, 3) ∧ decode cX10_undo 4 = .ok (.invokevirtual 330, 3) ∧ decode cX10_undo 7 = .ok (.ifCond .eq 13, 3) ∧ decode cX10_undo 10 = .ok (.aload_n 0, 1) ∧ decode cX10_undo 11 = .ok (.getfield 45, 3) ∧ decode cX10_undo 14 = .ok (.invokevirtual 333, 3) ∧ decode cX10_undo 17 = .ok (.goto 5, 3) ∧ decode cX10_undo 20 = .ok (.bipush (-2), 2) ∧ decode cX10_undo 22 = .ok (.ireturn, 1) := by decide +kernel
theorem dX10_undo_0 : decode cX10_undo 0 = .ok (.aload_n 0, 1) := dq_453.1
theorem dX10_undo_1 : decode cX10_undo 1 = .ok (.getfield 45, 3) := dq_453.2.1
theorem dX10_undo_4 : decode cX10_undo 4 = .ok (.invokevirtual 330, 3) := dq_453.2.2.1
theorem dX10_undo_7 : decode cX10_undo 7 = .ok (.ifCond .eq 13, 3) := dq_453.2.2.2.1
theorem dX10_undo_10 : decode cX10_undo 10 = .ok (.aload_n 0, 1) := dq_453.2.2.2.2.1
theorem dX10_undo_11 : decode cX10_undo 11 = .ok (.getfield 45, 3) := dq_453.2.2.2.2.2.1
theorem dX10_undo_14 : decode cX10_undo 14 = .ok (.invokevirtual 333, 3) := dq_453.2.2.2.2.2.2.1
theorem dX10_undo_17 : decode cX10_undo 17 = .ok (.goto 5, 3) := dq_453.2.2.2.2.2.2.2.1
theorem dX10_undo_20 : decode cX10_undo 20 = .ok (.bipush (-2), 2) := dq_453.2.2.2.2.2.2.2.2.1
theorem dX10_undo_22 : decode cX10_undo 22 = .ok (.ireturn, 1) := dq_453.2.2.2.2.2.2.2.2.2
theorem dq_454 : decode cX10_stones 0 = .ok (.iload_n 1, 1) ∧ decode cX10_stones 1 = .ok (.iconst 0, 1) ∧ decode cX10_stones 2 = .ok (.iconst 5, 1) ∧ decode cX10_stones 3 = .ok (.invokestatic 123, 3) ∧ decode cX10_stones 6 = .ok (.ifCond .eq 17, 3) ∧ decode cX10_stones 9 = .ok (.aload_n 0, 1) ∧ decode cX10_stones 10 = .ok (.getfield 45, 3) ∧ decode cX10_stones 13 = .ok (.iload_n 1, 1) ∧ decode cX10_stones 14 = .ok (.invokevirtual 336, 3) ∧ decode cX10_stones 17 = .ok (.invokestatic 311, 3) ∧ decode cX10_stones 20 = .ok (.goto 4, 3) ∧ decode cX10_stones 23 = .ok (.iconst (-1), 1) := by decide +kernel
theorem dX10_stones_0 : decode cX10_stones 0 = .ok (.iload_n 1, 1) := dq_454.1
theorem dX10_stones_1 : decode cX10_stones 1 = .ok (.iconst 0, 1) := dq_454.2.1
theorem dX10_stones_2 : decode cX10_stones 2 = .ok (.iconst 5, 1) := dq_454.2.2.1
theorem dX10_stones_3 : decode cX10_stones 3 = .ok (.invokestatic 123, 3) := dq_454.2.2.2.1
theorem dX10_stones_6 : decode cX10_stones 6 = .ok (.ifCond .eq 17, 3) := dq_454.2.2.2.2.1
theorem dX10_stones_9 : decode cX10_stones 9 = .ok (.aload_n 0, 1) := dq_454.2.2.2.2.2.1
theorem dX10_stones_10 : decode cX10_stones 10 = .ok (.getfield 45, 3) := dq_454.2.2.2.2.2.2.1
theorem dX10_stones_13 : decode cX10_stones 13 = .ok (.iload_n 1, 1) := dq_454.2.2.2.2.2.2.2.1
theorem dX10_stones_14 : decode cX10_stones 14 = .ok (.invokevirtual 336, 3) := dq_454.2.2.2.2.2.2.2.2.1
theorem dX10_stones_17 : decode cX10_stones 17 = .ok (.invokestatic 311, 3) := dq_454.2.2.2.2.2.2.2.2.2.1
theorem dX10_stones_20 : decode cX10_stones 20 = .ok (.goto 4, 3) := dq_454.2.2.2.2.2.2.2.2.2.2.1
theorem dX10_stones_23 : decode cX10_stones 23 = .ok (.iconst (-1), 1) := dq_454.2.2.2.2.2.2.2.2.2.2.2
theorem dX10_stones_24 : decode cX10_stones 24 = .ok (.ireturn, 1) := by decide +kernel
theorem dq_456 : decode cX10_works 0 = .ok (.iload_n 1, 1) ∧ decode cX10_works 1 = .ok (.tableswitch 47 0 2 #[27, 32, 32], 27) ∧ decode cX10_works 28 = .ok (.aload_n 0, 1) ∧ decode cX10_works 29 = .ok (.invokevirtual 340, 3) ∧ decode cX10_works 32 = .ok (.lreturn, 1) ∧ decode cX10_works 33 = .ok (.aload_n 0, 1) ∧ decode cX10_works 34 = .ok (.iload_n 1, 1) ∧ decode cX10_works 35 = .ok (.iconst 1, 1) ∧ decode cX10_works 36 = .ok (.if_icmp .ne 7, 3) ∧ decode cX10_works 39 = .ok (.iconst 1, 1) ∧ decode cX10_works 40 = .ok (.goto 4, 3) ∧ decode cX10_works 43 = .ok (.iconst 0, 1) := by decide +kernel
theorem dX10_works_0 : decode cX10_works 0 = .ok (.iload_n 1, 1) := dq_456.1
theorem dX10_works_1 : decode cX10_works 1 = .ok (.tableswitch 47 0 2 #[27, 32, 32], 27) := dq_456.2.1
theorem dX10_works_28 : decode cX10_works 28 = .ok (.aload_n 0, 1) := dq_456.2.2.1
theorem dX10_works_29 : decode cX10_works 29 = .ok (.invokevirtual 340, 3) := dq_456.2.2.2.1
theorem dX10_works_32 : decode cX10_works 32 = .ok (.lreturn, 1) := dq_456.2.2.2.2.1
theorem dX10_works_33 : decode cX10_works 33 = .ok (.aload_n 0, 1) := dq_456.2.2.2.2.2.1
theorem dX10_works_34 : decode cX10_works 34 = .ok (.iload_n 1, 1) := dq_456.2.2.2.2.2.2.1
theorem dX10_works_35 : decode cX10_works 35 = .ok (.iconst 1, 1) := dq_456.2.2.2.2.2.2.2.1
theorem dX10_works_36 : decode cX10_works 36 = .ok (.if_icmp .ne 7, 3) := dq_456.2.2.2.2.2.2.2.2.1
theorem dX10_works_39 : decode cX10_works 39 = .ok (.iconst 1, 1) := dq_456.2.2.2.2.2.2.2.2.2.1
theorem dX10_works_40 : decode cX10_works 40 = .ok (.goto 4, 3) := dq_456.2.2.2.2.2.2.2.2.2.2.1
theorem dX10_works_43 : decode cX10_works 43 = .ok (.iconst 0, 1) := dq_456.2.2.2.2.2.2.2.2.2.2.2
theorem dq_457 : decode cX10_works 44 = .ok (.invokevirtual 343, 3) ∧ decode cX10_works 47 = .ok (.lreturn, 1) ∧ decode cX10_works 48 = .ok (.ldc2_w 212, 3) ∧ decode cX10_works 51 = .ok (.lreturn, 1) := by decide +kernel
theorem dX10_works_44 : decode cX10_works 44 = .ok (.invokevirtual 343, 3) := dq_457.1
theorem dX10_works_47 : decode cX10_works 47 = .ok (.lreturn, 1) := dq_457.2.1
theorem dX10_works_48 : decode cX10_works 48 = .ok (.ldc2_w 212, 3) := dq_457.2.2.1
theorem dX10_works_51 : decode cX10_works 51 = .ok (.lreturn, 1) := dq_457.2.2.2
theorem dq_458 : decode cX10_mix 0 = .ok (.iload_n 1, 1) ∧ decode cX10_mix 1 = .ok (.invokestatic 347, 3) ∧ decode cX10_mix 4 = .ok (.ifCond .eq 14, 3) ∧ decode cX10_mix 7 = .ok (.iload_n 2, 1) ∧ decode cX10_mix 8 = .ok (.iconst 0, 1) ∧ decode cX10_mix 9 = .ok (.sipush 255, 3) ∧ decode cX10_mix 12 = .ok (.invokestatic 123, 3) ∧ decode cX10_mix 15 = .ok (.ifCond .ne 5, 3) ∧ decode cX10_mix 18 = .ok (.iconst (-1), 1) ∧ decode cX10_mix 19 = .ok (.ireturn, 1) ∧ decode cX10_mix 20 = .ok (.aload_n 0, 1) ∧ decode cX10_mix 21 = .ok (.getfield 45, 3) := by decide +kernel
theorem dX10_mix_0 : decode cX10_mix 0 = .ok (.iload_n 1, 1) := dq_458.1
theorem dX10_mix_1 : decode cX10_mix 1 = .ok (.invokestatic 347, 3) := dq_458.2.1
theorem dX10_mix_4 : decode cX10_mix 4 = .ok (.ifCond .eq 14, 3) := dq_458.2.2.1
theorem dX10_mix_7 : decode cX10_mix 7 = .ok (.iload_n 2, 1) := dq_458.2.2.2.1
theorem dX10_mix_8 : decode cX10_mix 8 = .ok (.iconst 0, 1) := dq_458.2.2.2.2.1
theorem dX10_mix_9 : decode cX10_mix 9 = .ok (.sipush 255, 3) := dq_458.2.2.2.2.2.1
theorem dX10_mix_12 : decode cX10_mix 12 = .ok (.invokestatic 123, 3) := dq_458.2.2.2.2.2.2.1
theorem dX10_mix_15 : decode cX10_mix 15 = .ok (.ifCond .ne 5, 3) := dq_458.2.2.2.2.2.2.2.1
theorem dX10_mix_18 : decode cX10_mix 18 = .ok (.iconst (-1), 1) := dq_458.2.2.2.2.2.2.2.2.1
theorem dX10_mix_19 : decode cX10_mix 19 = .ok (.ireturn, 1) := dq_458.2.2.2.2.2.2.2.2.2.1
theorem dX10_mix_20 : decode cX10_mix 20 = .ok (.aload_n 0, 1) := dq_458.2.2.2.2.2.2.2.2.2.2.1
theorem dX10_mix_21 : decode cX10_mix 21 = .ok (.getfield 45, 3) := dq_458.2.2.2.2.2.2.2.2.2.2.2
theorem dq_459 : decode cX10_mix 24 = .ok (.iload_n 1, 1) ∧ decode cX10_mix 25 = .ok (.iload_n 2, 1) ∧ decode cX10_mix 26 = .ok (.invokevirtual 350, 3) ∧ decode cX10_mix 29 = .ok (.iconst 1, 1) ∧ decode cX10_mix 30 = .ok (.ireturn, 1) := by decide +kernel
theorem dX10_mix_24 : decode cX10_mix 24 = .ok (.iload_n 1, 1) := dq_459.1
theorem dX10_mix_25 : decode cX10_mix 25 = .ok (.iload_n 2, 1) := dq_459.2.1
theorem dX10_mix_26 : decode cX10_mix 26 = .ok (.invokevirtual 350, 3) := dq_459.2.2.1
theorem dX10_mix_29 : decode cX10_mix 29 = .ok (.iconst 1, 1) := dq_459.2.2.2.1
theorem dX10_mix_30 : decode cX10_mix 30 = .ok (.ireturn, 1) := dq_459.2.2.2.2
theorem dq_460 : decode cX10_seams 0 = .ok (.aload_n 0, 1) ∧ decode cX10_seams 1 = .ok (.getfield 45, 3) ∧ decode cX10_seams 4 = .ok (.invokevirtual 353, 3) ∧ decode cX10_seams 7 = .ok (.ireturn, 1) := by decide +kernel
theorem dX10_seams_0 : decode cX10_seams 0 = .ok (.aload_n 0, 1) := dq_460.1
theorem dX10_seams_1 : decode cX10_seams 1 = .ok (.getfield 45, 3) := dq_460.2.1
theorem dX10_seams_4 : decode cX10_seams 4 = .ok (.invokevirtual 353, 3) := dq_460.2.2.1
theorem dX10_seams_7 : decode cX10_seams 7 = .ok (.ireturn, 1) := dq_460.2.2.2
theorem dq_461 : decode cX10_together 0 = .ok (.iload_n 1, 1) ∧ decode cX10_together 1 = .ok (.iconst 0, 1) ∧ decode cX10_together 2 = .ok (.iconst 3, 1) ∧ decode cX10_together 3 = .ok (.invokestatic 123, 3) ∧ decode cX10_together 6 = .ok (.ifCond .ne 5, 3) ∧ decode cX10_together 9 = .ok (.iconst (-1), 1) ∧ decode cX10_together 10 = .ok (.ireturn, 1) ∧ decode cX10_together 11 = .ok (.aload_n 0, 1) ∧ decode cX10_together 12 = .ok (.getfield 73, 3) ∧ decode cX10_together 15 = .ok (.aload_n 0, 1) ∧ decode cX10_together 16 = .ok (.getfield 45, 3) ∧ decode cX10_together 19 = .ok (.invokevirtual 356, 3) := by decide +kernel
theorem dX10_together_0 : decode cX10_together 0 = .ok (.iload_n 1, 1) := dq_461.1
theorem dX10_together_1 : decode cX10_together 1 = .ok (.iconst 0, 1) := dq_461.2.1
theorem dX10_together_2 : decode cX10_together 2 = .ok (.iconst 3, 1) := dq_461.2.2.1
theorem dX10_together_3 : decode cX10_together 3 = .ok (.invokestatic 123, 3) := dq_461.2.2.2.1
theorem dX10_together_6 : decode cX10_together 6 = .ok (.ifCond .ne 5, 3) := dq_461.2.2.2.2.1
theorem dX10_together_9 : decode cX10_together 9 = .ok (.iconst (-1), 1) := dq_461.2.2.2.2.2.1
theorem dX10_together_10 : decode cX10_together 10 = .ok (.ireturn, 1) := dq_461.2.2.2.2.2.2.1
theorem dX10_together_11 : decode cX10_together 11 = .ok (.aload_n 0, 1) := dq_461.2.2.2.2.2.2.2.1
theorem dX10_together_12 : decode cX10_together 12 = .ok (.getfield 73, 3) := dq_461.2.2.2.2.2.2.2.2.1
theorem dX10_together_15 : decode cX10_together 15 = .ok (.aload_n 0, 1) := dq_461.2.2.2.2.2.2.2.2.2.1
theorem dX10_together_16 : decode cX10_together 16 = .ok (.getfield 45, 3) := dq_461.2.2.2.2.2.2.2.2.2.2.1
theorem dX10_together_19 : decode cX10_together 19 = .ok (.invokevirtual 356, 3) := dq_461.2.2.2.2.2.2.2.2.2.2.2
theorem dq_462 : decode cX10_together 22 = .ok (.iload_n 1, 1) ∧ decode cX10_together 23 = .ok (.tableswitch 49 0 2 #[25, 33, 41], 25) ∧ decode cX10_together 48 = .ok (.aload_n 0, 1) ∧ decode cX10_together 49 = .ok (.getfield 73, 3) ∧ decode cX10_together 52 = .ok (.invokevirtual 360, 3) ∧ decode cX10_together 55 = .ok (.ireturn, 1) ∧ decode cX10_together 56 = .ok (.aload_n 0, 1) ∧ decode cX10_together 57 = .ok (.getfield 73, 3) ∧ decode cX10_together 60 = .ok (.invokevirtual 363, 3) ∧ decode cX10_together 63 = .ok (.ireturn, 1) ∧ decode cX10_together 64 = .ok (.aload_n 0, 1) ∧ decode cX10_together 65 = .ok (.getfield 73, 3) := by decide +kernel
theorem dX10_together_22 : decode cX10_together 22 = .ok (.iload_n 1, 1) := dq_462.1
theorem dX10_together_23 : decode cX10_together 23 = .ok (.tableswitch 49 0 2 #[25, 33, 41], 25) := dq_462.2.1
theorem dX10_together_48 : decode cX10_together 48 = .ok (.aload_n 0, 1) := dq_462.2.2.1
theorem dX10_together_49 : decode cX10_together 49 = .ok (.getfield 73, 3) := dq_462.2.2.2.1
theorem dX10_together_52 : decode cX10_together 52 = .ok (.invokevirtual 360, 3) := dq_462.2.2.2.2.1
theorem dX10_together_55 : decode cX10_together 55 = .ok (.ireturn, 1) := dq_462.2.2.2.2.2.1
theorem dX10_together_56 : decode cX10_together 56 = .ok (.aload_n 0, 1) := dq_462.2.2.2.2.2.2.1
theorem dX10_together_57 : decode cX10_together 57 = .ok (.getfield 73, 3) := dq_462.2.2.2.2.2.2.2.1
theorem dX10_together_60 : decode cX10_together 60 = .ok (.invokevirtual 363, 3) := dq_462.2.2.2.2.2.2.2.2.1
theorem dX10_together_63 : decode cX10_together 63 = .ok (.ireturn, 1) := dq_462.2.2.2.2.2.2.2.2.2.1
theorem dX10_together_64 : decode cX10_together 64 = .ok (.aload_n 0, 1) := dq_462.2.2.2.2.2.2.2.2.2.2.1
theorem dX10_together_65 : decode cX10_together 65 = .ok (.getfield 73, 3) := dq_462.2.2.2.2.2.2.2.2.2.2.2
theorem dq_463 : decode cX10_together 68 = .ok (.invokevirtual 366, 3) ∧ decode cX10_together 71 = .ok (.ireturn, 1) ∧ decode cX10_together 72 = .ok (.aload_n 0, 1) ∧ decode cX10_together 73 = .ok (.getfield 73, 3) ∧ decode cX10_together 76 = .ok (.invokevirtual 369, 3) ∧ decode cX10_together 79 = .ok (.ireturn, 1) := by decide +kernel
theorem dX10_together_68 : decode cX10_together 68 = .ok (.invokevirtual 366, 3) := dq_463.1
theorem dX10_together_71 : decode cX10_together 71 = .ok (.ireturn, 1) := dq_463.2.1
theorem dX10_together_72 : decode cX10_together 72 = .ok (.aload_n 0, 1) := dq_463.2.2.1
theorem dX10_together_73 : decode cX10_together 73 = .ok (.getfield 73, 3) := dq_463.2.2.2.1
theorem dX10_together_76 : decode cX10_together 76 = .ok (.invokevirtual 369, 3) := dq_463.2.2.2.2.1
theorem dX10_together_79 : decode cX10_together 79 = .ok (.ireturn, 1) := dq_463.2.2.2.2.2
theorem dq_464 : decode cX10_sheet 0 = .ok (.iload_n 1, 1) ∧ decode cX10_sheet 1 = .ok (.invokestatic 372, 3) ∧ decode cX10_sheet 4 = .ok (.ifCond .eq 16, 3) ∧ decode cX10_sheet 7 = .ok (.iload_n 2, 1) ∧ decode cX10_sheet 8 = .ok (.invokestatic 375, 3) ∧ decode cX10_sheet 11 = .ok (.ifCond .eq 9, 3) ∧ decode cX10_sheet 14 = .ok (.iload_n 3, 1) ∧ decode cX10_sheet 15 = .ok (.bipush 64, 2) ∧ decode cX10_sheet 17 = .ok (.if_icmp .le 5, 3) ∧ decode cX10_sheet 20 = .ok (.iconst (-1), 1) ∧ decode cX10_sheet 21 = .ok (.ireturn, 1) ∧ decode cX10_sheet 22 = .ok (.iload_n 3, 1) := by decide +kernel
theorem dX10_sheet_0 : decode cX10_sheet 0 = .ok (.iload_n 1, 1) := dq_464.1
theorem dX10_sheet_1 : decode cX10_sheet 1 = .ok (.invokestatic 372, 3) := dq_464.2.1
theorem dX10_sheet_4 : decode cX10_sheet 4 = .ok (.ifCond .eq 16, 3) := dq_464.2.2.1
theorem dX10_sheet_7 : decode cX10_sheet 7 = .ok (.iload_n 2, 1) := dq_464.2.2.2.1
theorem dX10_sheet_8 : decode cX10_sheet 8 = .ok (.invokestatic 375, 3) := dq_464.2.2.2.2.1
theorem dX10_sheet_11 : decode cX10_sheet 11 = .ok (.ifCond .eq 9, 3) := dq_464.2.2.2.2.2.1
theorem dX10_sheet_14 : decode cX10_sheet 14 = .ok (.iload_n 3, 1) := dq_464.2.2.2.2.2.2.1
theorem dX10_sheet_15 : decode cX10_sheet 15 = .ok (.bipush 64, 2) := dq_464.2.2.2.2.2.2.2.1
theorem dX10_sheet_17 : decode cX10_sheet 17 = .ok (.if_icmp .le 5, 3) := dq_464.2.2.2.2.2.2.2.2.1
theorem dX10_sheet_20 : decode cX10_sheet 20 = .ok (.iconst (-1), 1) := dq_464.2.2.2.2.2.2.2.2.2.1
theorem dX10_sheet_21 : decode cX10_sheet 21 = .ok (.ireturn, 1) := dq_464.2.2.2.2.2.2.2.2.2.2.1
theorem dX10_sheet_22 : decode cX10_sheet 22 = .ok (.iload_n 3, 1) := dq_464.2.2.2.2.2.2.2.2.2.2.2
theorem dq_465 : decode cX10_sheet 23 = .ok (.ifCond .ge 6, 3) ∧ decode cX10_sheet 26 = .ok (.bipush (-14), 2) ∧ decode cX10_sheet 28 = .ok (.ireturn, 1) ∧ decode cX10_sheet 29 = .ok (.aload_n 0, 1) ∧ decode cX10_sheet 30 = .ok (.getfield 79, 3) ∧ decode cX10_sheet 33 = .ok (.iload_n 1, 1) ∧ decode cX10_sheet 34 = .ok (.aaload, 1) ∧ decode cX10_sheet 35 = .ok (.iload_n 2, 1) ∧ decode cX10_sheet 36 = .ok (.iload_n 3, 1) ∧ decode cX10_sheet 37 = .ok (.invokevirtual 378, 3) ∧ decode cX10_sheet 40 = .ok (.iconst 1, 1) ∧ decode cX10_sheet 41 = .ok (.ireturn, 1) := by decide +kernel
theorem dX10_sheet_23 : decode cX10_sheet 23 = .ok (.ifCond .ge 6, 3) := dq_465.1
theorem dX10_sheet_26 : decode cX10_sheet 26 = .ok (.bipush (-14), 2) := dq_465.2.1
theorem dX10_sheet_28 : decode cX10_sheet 28 = .ok (.ireturn, 1) := dq_465.2.2.1
theorem dX10_sheet_29 : decode cX10_sheet 29 = .ok (.aload_n 0, 1) := dq_465.2.2.2.1
theorem dX10_sheet_30 : decode cX10_sheet 30 = .ok (.getfield 79, 3) := dq_465.2.2.2.2.1
theorem dX10_sheet_33 : decode cX10_sheet 33 = .ok (.iload_n 1, 1) := dq_465.2.2.2.2.2.1
theorem dX10_sheet_34 : decode cX10_sheet 34 = .ok (.aaload, 1) := dq_465.2.2.2.2.2.2.1
theorem dX10_sheet_35 : decode cX10_sheet 35 = .ok (.iload_n 2, 1) := dq_465.2.2.2.2.2.2.2.1
theorem dX10_sheet_36 : decode cX10_sheet 36 = .ok (.iload_n 3, 1) := dq_465.2.2.2.2.2.2.2.2.1
theorem dX10_sheet_37 : decode cX10_sheet 37 = .ok (.invokevirtual 378, 3) := dq_465.2.2.2.2.2.2.2.2.2.1
theorem dX10_sheet_40 : decode cX10_sheet 40 = .ok (.iconst 1, 1) := dq_465.2.2.2.2.2.2.2.2.2.2.1
theorem dX10_sheet_41 : decode cX10_sheet 41 = .ok (.ireturn, 1) := dq_465.2.2.2.2.2.2.2.2.2.2.2
theorem dq_466 : decode cX10_write 0 = .ok (.iload_n 1, 1) ∧ decode cX10_write 1 = .ok (.invokestatic 372, 3) ∧ decode cX10_write 4 = .ok (.ifCond .ne 5, 3) ∧ decode cX10_write 7 = .ok (.iconst (-1), 1) ∧ decode cX10_write 8 = .ok (.ireturn, 1) ∧ decode cX10_write 9 = .ok (.aload_n 0, 1) ∧ decode cX10_write 10 = .ok (.getfield 79, 3) ∧ decode cX10_write 13 = .ok (.iload_n 1, 1) ∧ decode cX10_write 14 = .ok (.aaload, 1) ∧ decode cX10_write 15 = .ok (.iload_n 2, 1) ∧ decode cX10_write 16 = .ok (.invokevirtual 381, 3) ∧ decode cX10_write 19 = .ok (.istore 4, 2) := by decide +kernel
theorem dX10_write_0 : decode cX10_write 0 = .ok (.iload_n 1, 1) := dq_466.1
theorem dX10_write_1 : decode cX10_write 1 = .ok (.invokestatic 372, 3) := dq_466.2.1
theorem dX10_write_4 : decode cX10_write 4 = .ok (.ifCond .ne 5, 3) := dq_466.2.2.1
theorem dX10_write_7 : decode cX10_write 7 = .ok (.iconst (-1), 1) := dq_466.2.2.2.1
theorem dX10_write_8 : decode cX10_write 8 = .ok (.ireturn, 1) := dq_466.2.2.2.2.1
theorem dX10_write_9 : decode cX10_write 9 = .ok (.aload_n 0, 1) := dq_466.2.2.2.2.2.1
theorem dX10_write_10 : decode cX10_write 10 = .ok (.getfield 79, 3) := dq_466.2.2.2.2.2.2.1
theorem dX10_write_13 : decode cX10_write 13 = .ok (.iload_n 1, 1) := dq_466.2.2.2.2.2.2.2.1
theorem dX10_write_14 : decode cX10_write 14 = .ok (.aaload, 1) := dq_466.2.2.2.2.2.2.2.2.1
theorem dX10_write_15 : decode cX10_write 15 = .ok (.iload_n 2, 1) := dq_466.2.2.2.2.2.2.2.2.2.1
theorem dX10_write_16 : decode cX10_write 16 = .ok (.invokevirtual 381, 3) := dq_466.2.2.2.2.2.2.2.2.2.2.1
theorem dX10_write_19 : decode cX10_write 19 = .ok (.istore 4, 2) := dq_466.2.2.2.2.2.2.2.2.2.2.2
theorem dq_467 : decode cX10_write 21 = .ok (.iload 4, 2) ∧ decode cX10_write 23 = .ok (.ifCond .eq 9, 3) ∧ decode cX10_write 26 = .ok (.bipush (-10), 2) ∧ decode cX10_write 28 = .ok (.iload 4, 2) ∧ decode cX10_write 30 = .ok (.isub, 1) ∧ decode cX10_write 31 = .ok (.ireturn, 1) ∧ decode cX10_write 32 = .ok (.aload_n 0, 1) ∧ decode cX10_write 33 = .ok (.getfield 79, 3) ∧ decode cX10_write 36 = .ok (.iload_n 1, 1) ∧ decode cX10_write 37 = .ok (.aaload, 1) ∧ decode cX10_write 38 = .ok (.iload_n 2, 1) ∧ decode cX10_write 39 = .ok (.iload_n 3, 1) := by decide +kernel
theorem dX10_write_21 : decode cX10_write 21 = .ok (.iload 4, 2) := dq_467.1
theorem dX10_write_23 : decode cX10_write 23 = .ok (.ifCond .eq 9, 3) := dq_467.2.1
theorem dX10_write_26 : decode cX10_write 26 = .ok (.bipush (-10), 2) := dq_467.2.2.1
theorem dX10_write_28 : decode cX10_write 28 = .ok (.iload 4, 2) := dq_467.2.2.2.1
theorem dX10_write_30 : decode cX10_write 30 = .ok (.isub, 1) := dq_467.2.2.2.2.1
theorem dX10_write_31 : decode cX10_write 31 = .ok (.ireturn, 1) := dq_467.2.2.2.2.2.1
theorem dX10_write_32 : decode cX10_write 32 = .ok (.aload_n 0, 1) := dq_467.2.2.2.2.2.2.1
theorem dX10_write_33 : decode cX10_write 33 = .ok (.getfield 79, 3) := dq_467.2.2.2.2.2.2.2.1
theorem dX10_write_36 : decode cX10_write 36 = .ok (.iload_n 1, 1) := dq_467.2.2.2.2.2.2.2.2.1
theorem dX10_write_37 : decode cX10_write 37 = .ok (.aaload, 1) := dq_467.2.2.2.2.2.2.2.2.2.1
theorem dX10_write_38 : decode cX10_write 38 = .ok (.iload_n 2, 1) := dq_467.2.2.2.2.2.2.2.2.2.2.1
theorem dX10_write_39 : decode cX10_write 39 = .ok (.iload_n 3, 1) := dq_467.2.2.2.2.2.2.2.2.2.2.2
theorem dq_468 : decode cX10_write 40 = .ok (.invokevirtual 384, 3) ∧ decode cX10_write 43 = .ok (.iconst 1, 1) ∧ decode cX10_write 44 = .ok (.ireturn, 1) := by decide +kernel
theorem dX10_write_40 : decode cX10_write 40 = .ok (.invokevirtual 384, 3) := dq_468.1
theorem dX10_write_43 : decode cX10_write 43 = .ok (.iconst 1, 1) := dq_468.2.1
theorem dX10_write_44 : decode cX10_write 44 = .ok (.ireturn, 1) := dq_468.2.2
theorem dq_469 : decode cX10_read 0 = .ok (.iload_n 1, 1) ∧ decode cX10_read 1 = .ok (.invokestatic 372, 3) ∧ decode cX10_read 4 = .ok (.ifCond .eq 35, 3) ∧ decode cX10_read 7 = .ok (.iload_n 2, 1) ∧ decode cX10_read 8 = .ok (.invokestatic 375, 3) ∧ decode cX10_read 11 = .ok (.ifCond .eq 28, 3) ∧ decode cX10_read 14 = .ok (.iload 5, 2) ∧ decode cX10_read 16 = .ok (.iconst 0, 1) ∧ decode cX10_read 17 = .ok (.bipush 64, 2) ∧ decode cX10_read 19 = .ok (.invokestatic 123, 3) ∧ decode cX10_read 22 = .ok (.ifCond .eq 17, 3) ∧ decode cX10_read 25 = .ok (.iload 4, 2) := by decide +kernel
theorem dX10_read_0 : decode cX10_read 0 = .ok (.iload_n 1, 1) := dq_469.1
theorem dX10_read_1 : decode cX10_read 1 = .ok (.invokestatic 372, 3) := dq_469.2.1
theorem dX10_read_4 : decode cX10_read 4 = .ok (.ifCond .eq 35, 3) := dq_469.2.2.1
theorem dX10_read_7 : decode cX10_read 7 = .ok (.iload_n 2, 1) := dq_469.2.2.2.1
theorem dX10_read_8 : decode cX10_read 8 = .ok (.invokestatic 375, 3) := dq_469.2.2.2.2.1
theorem dX10_read_11 : decode cX10_read 11 = .ok (.ifCond .eq 28, 3) := dq_469.2.2.2.2.2.1
theorem dX10_read_14 : decode cX10_read 14 = .ok (.iload 5, 2) := dq_469.2.2.2.2.2.2.1
theorem dX10_read_16 : decode cX10_read 16 = .ok (.iconst 0, 1) := dq_469.2.2.2.2.2.2.2.1
theorem dX10_read_17 : decode cX10_read 17 = .ok (.bipush 64, 2) := dq_469.2.2.2.2.2.2.2.2.1
theorem dX10_read_19 : decode cX10_read 19 = .ok (.invokestatic 123, 3) := dq_469.2.2.2.2.2.2.2.2.2.1
theorem dX10_read_22 : decode cX10_read 22 = .ok (.ifCond .eq 17, 3) := dq_469.2.2.2.2.2.2.2.2.2.2.1
theorem dX10_read_25 : decode cX10_read 25 = .ok (.iload 4, 2) := dq_469.2.2.2.2.2.2.2.2.2.2.2
theorem dq_470 : decode cX10_read 27 = .ok (.iconst 0, 1) ∧ decode cX10_read 28 = .ok (.bipush 64, 2) ∧ decode cX10_read 30 = .ok (.iload 5, 2) ∧ decode cX10_read 32 = .ok (.isub, 1) ∧ decode cX10_read 33 = .ok (.invokestatic 123, 3) ∧ decode cX10_read 36 = .ok (.ifCond .ne 5, 3) ∧ decode cX10_read 39 = .ok (.iconst (-1), 1) ∧ decode cX10_read 40 = .ok (.ireturn, 1) ∧ decode cX10_read 41 = .ok (.aload_n 0, 1) ∧ decode cX10_read 42 = .ok (.getfield 79, 3) ∧ decode cX10_read 45 = .ok (.iload_n 1, 1) ∧ decode cX10_read 46 = .ok (.aaload, 1) := by decide +kernel
theorem dX10_read_27 : decode cX10_read 27 = .ok (.iconst 0, 1) := dq_470.1
theorem dX10_read_28 : decode cX10_read 28 = .ok (.bipush 64, 2) := dq_470.2.1
theorem dX10_read_30 : decode cX10_read 30 = .ok (.iload 5, 2) := dq_470.2.2.1
theorem dX10_read_32 : decode cX10_read 32 = .ok (.isub, 1) := dq_470.2.2.2.1
theorem dX10_read_33 : decode cX10_read 33 = .ok (.invokestatic 123, 3) := dq_470.2.2.2.2.1
theorem dX10_read_36 : decode cX10_read 36 = .ok (.ifCond .ne 5, 3) := dq_470.2.2.2.2.2.1
theorem dX10_read_39 : decode cX10_read 39 = .ok (.iconst (-1), 1) := dq_470.2.2.2.2.2.2.1
theorem dX10_read_40 : decode cX10_read 40 = .ok (.ireturn, 1) := dq_470.2.2.2.2.2.2.2.1
theorem dX10_read_41 : decode cX10_read 41 = .ok (.aload_n 0, 1) := dq_470.2.2.2.2.2.2.2.2.1
theorem dX10_read_42 : decode cX10_read 42 = .ok (.getfield 79, 3) := dq_470.2.2.2.2.2.2.2.2.2.1
theorem dX10_read_45 : decode cX10_read 45 = .ok (.iload_n 1, 1) := dq_470.2.2.2.2.2.2.2.2.2.2.1
theorem dX10_read_46 : decode cX10_read 46 = .ok (.aaload, 1) := dq_470.2.2.2.2.2.2.2.2.2.2.2
theorem dq_471 : decode cX10_read 47 = .ok (.astore 6, 2) ∧ decode cX10_read 49 = .ok (.iconst 0, 1) ∧ decode cX10_read 50 = .ok (.istore 7, 2) ∧ decode cX10_read 52 = .ok (.iconst 0, 1) ∧ decode cX10_read 53 = .ok (.istore 8, 2) ∧ decode cX10_read 55 = .ok (.iload 8, 2) ∧ decode cX10_read 57 = .ok (.iload 5, 2) ∧ decode cX10_read 59 = .ok (.if_icmp .ge 54, 3) ∧ decode cX10_read 62 = .ok (.iload 7, 2) ∧ decode cX10_read 64 = .ok (.ifCond .ne 49, 3) ∧ decode cX10_read 67 = .ok (.aload 6, 2) ∧ decode cX10_read 69 = .ok (.iload_n 2, 1) := by decide +kernel
theorem dX10_read_47 : decode cX10_read 47 = .ok (.astore 6, 2) := dq_471.1
theorem dX10_read_49 : decode cX10_read 49 = .ok (.iconst 0, 1) := dq_471.2.1
theorem dX10_read_50 : decode cX10_read 50 = .ok (.istore 7, 2) := dq_471.2.2.1
theorem dX10_read_52 : decode cX10_read 52 = .ok (.iconst 0, 1) := dq_471.2.2.2.1
theorem dX10_read_53 : decode cX10_read 53 = .ok (.istore 8, 2) := dq_471.2.2.2.2.1
theorem dX10_read_55 : decode cX10_read 55 = .ok (.iload 8, 2) := dq_471.2.2.2.2.2.1
theorem dX10_read_57 : decode cX10_read 57 = .ok (.iload 5, 2) := dq_471.2.2.2.2.2.2.1
theorem dX10_read_59 : decode cX10_read 59 = .ok (.if_icmp .ge 54, 3) := dq_471.2.2.2.2.2.2.2.1
theorem dX10_read_62 : decode cX10_read 62 = .ok (.iload 7, 2) := dq_471.2.2.2.2.2.2.2.2.1
theorem dX10_read_64 : decode cX10_read 64 = .ok (.ifCond .ne 49, 3) := dq_471.2.2.2.2.2.2.2.2.2.1
theorem dX10_read_67 : decode cX10_read 67 = .ok (.aload 6, 2) := dq_471.2.2.2.2.2.2.2.2.2.2.1
theorem dX10_read_69 : decode cX10_read 69 = .ok (.iload_n 2, 1) := dq_471.2.2.2.2.2.2.2.2.2.2.2
theorem dq_472 : decode cX10_read 70 = .ok (.iload_n 3, 1) ∧ decode cX10_read 71 = .ok (.iload 8, 2) ∧ decode cX10_read 73 = .ok (.iadd, 1) ∧ decode cX10_read 74 = .ok (.invokevirtual 387, 3) ∧ decode cX10_read 77 = .ok (.istore 7, 2) ∧ decode cX10_read 79 = .ok (.iload 7, 2) ∧ decode cX10_read 81 = .ok (.ifCond .ne (-26), 3) ∧ decode cX10_read 84 = .ok (.aload 6, 2) ∧ decode cX10_read 86 = .ok (.iload_n 3, 1) ∧ decode cX10_read 87 = .ok (.iload 8, 2) ∧ decode cX10_read 89 = .ok (.iadd, 1) ∧ decode cX10_read 90 = .ok (.invokevirtual 390, 3) := by decide +kernel
theorem dX10_read_70 : decode cX10_read 70 = .ok (.iload_n 3, 1) := dq_472.1
theorem dX10_read_71 : decode cX10_read 71 = .ok (.iload 8, 2) := dq_472.2.1
theorem dX10_read_73 : decode cX10_read 73 = .ok (.iadd, 1) := dq_472.2.2.1
theorem dX10_read_74 : decode cX10_read 74 = .ok (.invokevirtual 387, 3) := dq_472.2.2.2.1
theorem dX10_read_77 : decode cX10_read 77 = .ok (.istore 7, 2) := dq_472.2.2.2.2.1
theorem dX10_read_79 : decode cX10_read 79 = .ok (.iload 7, 2) := dq_472.2.2.2.2.2.1
theorem dX10_read_81 : decode cX10_read 81 = .ok (.ifCond .ne (-26), 3) := dq_472.2.2.2.2.2.2.1
theorem dX10_read_84 : decode cX10_read 84 = .ok (.aload 6, 2) := dq_472.2.2.2.2.2.2.2.1
theorem dX10_read_86 : decode cX10_read 86 = .ok (.iload_n 3, 1) := dq_472.2.2.2.2.2.2.2.2.1
theorem dX10_read_87 : decode cX10_read 87 = .ok (.iload 8, 2) := dq_472.2.2.2.2.2.2.2.2.2.1
theorem dX10_read_89 : decode cX10_read 89 = .ok (.iadd, 1) := dq_472.2.2.2.2.2.2.2.2.2.2.1
theorem dX10_read_90 : decode cX10_read 90 = .ok (.invokevirtual 390, 3) := dq_472.2.2.2.2.2.2.2.2.2.2.2
theorem dq_473 : decode cX10_read 93 = .ok (.iconst (-1), 1) ∧ decode cX10_read 94 = .ok (.iconst 5, 1) ∧ decode cX10_read 95 = .ok (.invokestatic 123, 3) ∧ decode cX10_read 98 = .ok (.ifCond .ne 9, 3) ∧ decode cX10_read 101 = .ok (.bipush (-20), 2) ∧ decode cX10_read 103 = .ok (.iload 8, 2) ∧ decode cX10_read 105 = .ok (.isub, 1) ∧ decode cX10_read 106 = .ok (.ireturn, 1) ∧ decode cX10_read 107 = .ok (.iinc 8 1, 3) ∧ decode cX10_read 110 = .ok (.goto (-55), 3) ∧ decode cX10_read 113 = .ok (.iconst 0, 1) ∧ decode cX10_read 114 = .ok (.istore 9, 2) := by decide +kernel
theorem dX10_read_93 : decode cX10_read 93 = .ok (.iconst (-1), 1) := dq_473.1
theorem dX10_read_94 : decode cX10_read 94 = .ok (.iconst 5, 1) := dq_473.2.1
theorem dX10_read_95 : decode cX10_read 95 = .ok (.invokestatic 123, 3) := dq_473.2.2.1
theorem dX10_read_98 : decode cX10_read 98 = .ok (.ifCond .ne 9, 3) := dq_473.2.2.2.1
theorem dX10_read_101 : decode cX10_read 101 = .ok (.bipush (-20), 2) := dq_473.2.2.2.2.1
theorem dX10_read_103 : decode cX10_read 103 = .ok (.iload 8, 2) := dq_473.2.2.2.2.2.1
theorem dX10_read_105 : decode cX10_read 105 = .ok (.isub, 1) := dq_473.2.2.2.2.2.2.1
theorem dX10_read_106 : decode cX10_read 106 = .ok (.ireturn, 1) := dq_473.2.2.2.2.2.2.2.1
theorem dX10_read_107 : decode cX10_read 107 = .ok (.iinc 8 1, 3) := dq_473.2.2.2.2.2.2.2.2.1
theorem dX10_read_110 : decode cX10_read 110 = .ok (.goto (-55), 3) := dq_473.2.2.2.2.2.2.2.2.2.1
theorem dX10_read_113 : decode cX10_read 113 = .ok (.iconst 0, 1) := dq_473.2.2.2.2.2.2.2.2.2.2.1
theorem dX10_read_114 : decode cX10_read 114 = .ok (.istore 9, 2) := dq_473.2.2.2.2.2.2.2.2.2.2.2
theorem dq_474 : decode cX10_read 116 = .ok (.iload 9, 2) ∧ decode cX10_read 118 = .ok (.iload 5, 2) ∧ decode cX10_read 120 = .ok (.if_icmp .ge 41, 3) ∧ decode cX10_read 123 = .ok (.aload_n 0, 1) ∧ decode cX10_read 124 = .ok (.getfield 45, 3) ∧ decode cX10_read 127 = .ok (.iload 4, 2) ∧ decode cX10_read 129 = .ok (.iload 9, 2) ∧ decode cX10_read 131 = .ok (.iadd, 1) ∧ decode cX10_read 132 = .ok (.iload 9, 2) ∧ decode cX10_read 134 = .ok (.iload 8, 2) ∧ decode cX10_read 136 = .ok (.if_icmp .ge 15, 3) ∧ decode cX10_read 139 = .ok (.aload 6, 2) := by decide +kernel
theorem dX10_read_116 : decode cX10_read 116 = .ok (.iload 9, 2) := dq_474.1
theorem dX10_read_118 : decode cX10_read 118 = .ok (.iload 5, 2) := dq_474.2.1
theorem dX10_read_120 : decode cX10_read 120 = .ok (.if_icmp .ge 41, 3) := dq_474.2.2.1
theorem dX10_read_123 : decode cX10_read 123 = .ok (.aload_n 0, 1) := dq_474.2.2.2.1
theorem dX10_read_124 : decode cX10_read 124 = .ok (.getfield 45, 3) := dq_474.2.2.2.2.1
theorem dX10_read_127 : decode cX10_read 127 = .ok (.iload 4, 2) := dq_474.2.2.2.2.2.1
theorem dX10_read_129 : decode cX10_read 129 = .ok (.iload 9, 2) := dq_474.2.2.2.2.2.2.1
theorem dX10_read_131 : decode cX10_read 131 = .ok (.iadd, 1) := dq_474.2.2.2.2.2.2.2.1
theorem dX10_read_132 : decode cX10_read 132 = .ok (.iload 9, 2) := dq_474.2.2.2.2.2.2.2.2.1
theorem dX10_read_134 : decode cX10_read 134 = .ok (.iload 8, 2) := dq_474.2.2.2.2.2.2.2.2.2.1
theorem dX10_read_136 : decode cX10_read 136 = .ok (.if_icmp .ge 15, 3) := dq_474.2.2.2.2.2.2.2.2.2.2.1
theorem dX10_read_139 : decode cX10_read 139 = .ok (.aload 6, 2) := dq_474.2.2.2.2.2.2.2.2.2.2.2
theorem dq_475 : decode cX10_read 141 = .ok (.iload_n 3, 1) ∧ decode cX10_read 142 = .ok (.iload 9, 2) ∧ decode cX10_read 144 = .ok (.iadd, 1) ∧ decode cX10_read 145 = .ok (.invokevirtual 390, 3) ∧ decode cX10_read 148 = .ok (.goto 4, 3) ∧ decode cX10_read 151 = .ok (.iconst (-1), 1) ∧ decode cX10_read 152 = .ok (.invokevirtual 166, 3) ∧ decode cX10_read 155 = .ok (.iinc 9 1, 3) ∧ decode cX10_read 158 = .ok (.goto (-42), 3) ∧ decode cX10_read 161 = .ok (.aload_n 0, 1) ∧ decode cX10_read 162 = .ok (.iload 7, 2) ∧ decode cX10_read 164 = .ok (.putfield 393, 3) := by decide +kernel
theorem dX10_read_141 : decode cX10_read 141 = .ok (.iload_n 3, 1) := dq_475.1
theorem dX10_read_142 : decode cX10_read 142 = .ok (.iload 9, 2) := dq_475.2.1
theorem dX10_read_144 : decode cX10_read 144 = .ok (.iadd, 1) := dq_475.2.2.1
theorem dX10_read_145 : decode cX10_read 145 = .ok (.invokevirtual 390, 3) := dq_475.2.2.2.1
theorem dX10_read_148 : decode cX10_read 148 = .ok (.goto 4, 3) := dq_475.2.2.2.2.1
theorem dX10_read_151 : decode cX10_read 151 = .ok (.iconst (-1), 1) := dq_475.2.2.2.2.2.1
theorem dX10_read_152 : decode cX10_read 152 = .ok (.invokevirtual 166, 3) := dq_475.2.2.2.2.2.2.1
theorem dX10_read_155 : decode cX10_read 155 = .ok (.iinc 9 1, 3) := dq_475.2.2.2.2.2.2.2.1
theorem dX10_read_158 : decode cX10_read 158 = .ok (.goto (-42), 3) := dq_475.2.2.2.2.2.2.2.2.1
theorem dX10_read_161 : decode cX10_read 161 = .ok (.aload_n 0, 1) := dq_475.2.2.2.2.2.2.2.2.2.1
theorem dX10_read_162 : decode cX10_read 162 = .ok (.iload 7, 2) := dq_475.2.2.2.2.2.2.2.2.2.2.1
theorem dX10_read_164 : decode cX10_read 164 = .ok (.putfield 393, 3) := dq_475.2.2.2.2.2.2.2.2.2.2.2
theorem dq_476 : decode cX10_read 167 = .ok (.iload 8, 2) ∧ decode cX10_read 169 = .ok (.ireturn, 1) := by decide +kernel
theorem dX10_read_167 : decode cX10_read 167 = .ok (.iload 8, 2) := dq_476.1
theorem dX10_read_169 : decode cX10_read 169 = .ok (.ireturn, 1) := dq_476.2
theorem dq_477 : decode cX10_torn 0 = .ok (.aload_n 0, 1) ∧ decode cX10_torn 1 = .ok (.getfield 393, 3) ∧ decode cX10_torn 4 = .ok (.ireturn, 1) := by decide +kernel
theorem dX10_torn_0 : decode cX10_torn 0 = .ok (.aload_n 0, 1) := dq_477.1
theorem dX10_torn_1 : decode cX10_torn 1 = .ok (.getfield 393, 3) := dq_477.2.1
theorem dX10_torn_4 : decode cX10_torn 4 = .ok (.ireturn, 1) := dq_477.2.2
theorem dq_478 : decode cX10_count 0 = .ok (.iload_n 1, 1) ∧ decode cX10_count 1 = .ok (.tableswitch 123 0 5 #[39, 50, 58, 69, 88, 96], 39) ∧ decode cX10_count 40 = .ok (.aload_n 0, 1) ∧ decode cX10_count 41 = .ok (.getfield 45, 3) ∧ decode cX10_count 44 = .ok (.invokevirtual 305, 3) ∧ decode cX10_count 47 = .ok (.invokestatic 311, 3) ∧ decode cX10_count 50 = .ok (.ireturn, 1) ∧ decode cX10_count 51 = .ok (.aload_n 0, 1) ∧ decode cX10_count 52 = .ok (.getfield 66, 3) ∧ decode cX10_count 55 = .ok (.invokevirtual 254, 3) ∧ decode cX10_count 58 = .ok (.ireturn, 1) ∧ decode cX10_count 59 = .ok (.aload_n 0, 1) := by decide +kernel
theorem dX10_count_0 : decode cX10_count 0 = .ok (.iload_n 1, 1) := dq_478.1
theorem dX10_count_1 : decode cX10_count 1 = .ok (.tableswitch 123 0 5 #[39, 50, 58, 69, 88, 96], 39) := dq_478.2.1
theorem dX10_count_40 : decode cX10_count 40 = .ok (.aload_n 0, 1) := dq_478.2.2.1
theorem dX10_count_41 : decode cX10_count 41 = .ok (.getfield 45, 3) := dq_478.2.2.2.1
theorem dX10_count_44 : decode cX10_count 44 = .ok (.invokevirtual 305, 3) := dq_478.2.2.2.2.1
theorem dX10_count_47 : decode cX10_count 47 = .ok (.invokestatic 311, 3) := dq_478.2.2.2.2.2.1
theorem dX10_count_50 : decode cX10_count 50 = .ok (.ireturn, 1) := dq_478.2.2.2.2.2.2.1
theorem dX10_count_51 : decode cX10_count 51 = .ok (.aload_n 0, 1) := dq_478.2.2.2.2.2.2.2.1
theorem dX10_count_52 : decode cX10_count 52 = .ok (.getfield 66, 3) := dq_478.2.2.2.2.2.2.2.2.1
theorem dX10_count_55 : decode cX10_count 55 = .ok (.invokevirtual 254, 3) := dq_478.2.2.2.2.2.2.2.2.2.1
theorem dX10_count_58 : decode cX10_count 58 = .ok (.ireturn, 1) := dq_478.2.2.2.2.2.2.2.2.2.2.1
theorem dX10_count_59 : decode cX10_count 59 = .ok (.aload_n 0, 1) := dq_478.2.2.2.2.2.2.2.2.2.2.2
theorem dq_479 : decode cX10_count 60 = .ok (.getfield 19, 3) ∧ decode cX10_count 63 = .ok (.invokevirtual 243, 3) ∧ decode cX10_count 66 = .ok (.invokestatic 198, 3) ∧ decode cX10_count 69 = .ok (.ireturn, 1) ∧ decode cX10_count 70 = .ok (.aload_n 0, 1) ∧ decode cX10_count 71 = .ok (.getfield 19, 3) ∧ decode cX10_count 74 = .ok (.invokevirtual 114, 3) ∧ decode cX10_count 77 = .ok (.aload_n 0, 1) ∧ decode cX10_count 78 = .ok (.getfield 19, 3) ∧ decode cX10_count 81 = .ok (.invokevirtual 243, 3) ∧ decode cX10_count 84 = .ok (.invokestatic 198, 3) ∧ decode cX10_count 87 = .ok (.isub, 1) := by decide +kernel
theorem dX10_count_60 : decode cX10_count 60 = .ok (.getfield 19, 3) := dq_479.1
theorem dX10_count_63 : decode cX10_count 63 = .ok (.invokevirtual 243, 3) := dq_479.2.1
theorem dX10_count_66 : decode cX10_count 66 = .ok (.invokestatic 198, 3) := dq_479.2.2.1
theorem dX10_count_69 : decode cX10_count 69 = .ok (.ireturn, 1) := dq_479.2.2.2.1
theorem dX10_count_70 : decode cX10_count 70 = .ok (.aload_n 0, 1) := dq_479.2.2.2.2.1
theorem dX10_count_71 : decode cX10_count 71 = .ok (.getfield 19, 3) := dq_479.2.2.2.2.2.1
theorem dX10_count_74 : decode cX10_count 74 = .ok (.invokevirtual 114, 3) := dq_479.2.2.2.2.2.2.1
theorem dX10_count_77 : decode cX10_count 77 = .ok (.aload_n 0, 1) := dq_479.2.2.2.2.2.2.2.1
theorem dX10_count_78 : decode cX10_count 78 = .ok (.getfield 19, 3) := dq_479.2.2.2.2.2.2.2.2.1
theorem dX10_count_81 : decode cX10_count 81 = .ok (.invokevirtual 243, 3) := dq_479.2.2.2.2.2.2.2.2.2.1
theorem dX10_count_84 : decode cX10_count 84 = .ok (.invokestatic 198, 3) := dq_479.2.2.2.2.2.2.2.2.2.2.1
theorem dX10_count_87 : decode cX10_count 87 = .ok (.isub, 1) := dq_479.2.2.2.2.2.2.2.2.2.2.2
theorem dq_480 : decode cX10_count 88 = .ok (.ireturn, 1) ∧ decode cX10_count 89 = .ok (.aload_n 0, 1) ∧ decode cX10_count 90 = .ok (.getfield 10, 3) ∧ decode cX10_count 93 = .ok (.invokevirtual 88, 3) ∧ decode cX10_count 96 = .ok (.ireturn, 1) ∧ decode cX10_count 97 = .ok (.aload_n 0, 1) ∧ decode cX10_count 98 = .ok (.getfield 79, 3) ∧ decode cX10_count 101 = .ok (.iconst 0, 1) ∧ decode cX10_count 102 = .ok (.aaload, 1) ∧ decode cX10_count 103 = .ok (.invokevirtual 397, 3) ∧ decode cX10_count 106 = .ok (.ifCond .eq 15, 3) ∧ decode cX10_count 109 = .ok (.aload_n 0, 1) := by decide +kernel
theorem dX10_count_88 : decode cX10_count 88 = .ok (.ireturn, 1) := dq_480.1
theorem dX10_count_89 : decode cX10_count 89 = .ok (.aload_n 0, 1) := dq_480.2.1
theorem dX10_count_90 : decode cX10_count 90 = .ok (.getfield 10, 3) := dq_480.2.2.1
theorem dX10_count_93 : decode cX10_count 93 = .ok (.invokevirtual 88, 3) := dq_480.2.2.2.1
theorem dX10_count_96 : decode cX10_count 96 = .ok (.ireturn, 1) := dq_480.2.2.2.2.1
theorem dX10_count_97 : decode cX10_count 97 = .ok (.aload_n 0, 1) := dq_480.2.2.2.2.2.1
theorem dX10_count_98 : decode cX10_count 98 = .ok (.getfield 79, 3) := dq_480.2.2.2.2.2.2.1
theorem dX10_count_101 : decode cX10_count 101 = .ok (.iconst 0, 1) := dq_480.2.2.2.2.2.2.2.1
theorem dX10_count_102 : decode cX10_count 102 = .ok (.aaload, 1) := dq_480.2.2.2.2.2.2.2.2.1
theorem dX10_count_103 : decode cX10_count 103 = .ok (.invokevirtual 397, 3) := dq_480.2.2.2.2.2.2.2.2.2.1
theorem dX10_count_106 : decode cX10_count 106 = .ok (.ifCond .eq 15, 3) := dq_480.2.2.2.2.2.2.2.2.2.2.1
theorem dX10_count_109 : decode cX10_count 109 = .ok (.aload_n 0, 1) := dq_480.2.2.2.2.2.2.2.2.2.2.2
theorem dq_481 : decode cX10_count 110 = .ok (.getfield 79, 3) ∧ decode cX10_count 113 = .ok (.iconst 0, 1) ∧ decode cX10_count 114 = .ok (.aaload, 1) ∧ decode cX10_count 115 = .ok (.invokevirtual 400, 3) ∧ decode cX10_count 118 = .ok (.goto 5, 3) ∧ decode cX10_count 121 = .ok (.bipush (-4), 2) ∧ decode cX10_count 123 = .ok (.ireturn, 1) ∧ decode cX10_count 124 = .ok (.iconst (-1), 1) ∧ decode cX10_count 125 = .ok (.ireturn, 1) := by decide +kernel
theorem dX10_count_110 : decode cX10_count 110 = .ok (.getfield 79, 3) := dq_481.1
theorem dX10_count_113 : decode cX10_count 113 = .ok (.iconst 0, 1) := dq_481.2.1
theorem dX10_count_114 : decode cX10_count 114 = .ok (.aaload, 1) := dq_481.2.2.1
theorem dX10_count_115 : decode cX10_count 115 = .ok (.invokevirtual 400, 3) := dq_481.2.2.2.1
theorem dX10_count_118 : decode cX10_count 118 = .ok (.goto 5, 3) := dq_481.2.2.2.2.1
theorem dX10_count_121 : decode cX10_count 121 = .ok (.bipush (-4), 2) := dq_481.2.2.2.2.2.1
theorem dX10_count_123 : decode cX10_count 123 = .ok (.ireturn, 1) := dq_481.2.2.2.2.2.2.1
theorem dX10_count_124 : decode cX10_count 124 = .ok (.iconst (-1), 1) := dq_481.2.2.2.2.2.2.2.1
theorem dX10_count_125 : decode cX10_count 125 = .ok (.ireturn, 1) := dq_481.2.2.2.2.2.2.2.2
theorem dq_482 : decode cX10_within 0 = .ok (.iload_n 0, 1) ∧ decode cX10_within 1 = .ok (.iload_n 1, 1) ∧ decode cX10_within 2 = .ok (.if_icmp .lt 12, 3) ∧ decode cX10_within 5 = .ok (.iload_n 0, 1) ∧ decode cX10_within 6 = .ok (.iload_n 2, 1) ∧ decode cX10_within 7 = .ok (.if_icmp .gt 7, 3) ∧ decode cX10_within 10 = .ok (.iconst 1, 1) ∧ decode cX10_within 11 = .ok (.goto 4, 3) ∧ decode cX10_within 14 = .ok (.iconst 0, 1) ∧ decode cX10_within 15 = .ok (.ireturn, 1) := by decide +kernel
theorem dX10_within_0 : decode cX10_within 0 = .ok (.iload_n 0, 1) := dq_482.1
theorem dX10_within_1 : decode cX10_within 1 = .ok (.iload_n 1, 1) := dq_482.2.1
theorem dX10_within_2 : decode cX10_within 2 = .ok (.if_icmp .lt 12, 3) := dq_482.2.2.1
theorem dX10_within_5 : decode cX10_within 5 = .ok (.iload_n 0, 1) := dq_482.2.2.2.1
theorem dX10_within_6 : decode cX10_within 6 = .ok (.iload_n 2, 1) := dq_482.2.2.2.2.1
theorem dX10_within_7 : decode cX10_within 7 = .ok (.if_icmp .gt 7, 3) := dq_482.2.2.2.2.2.1
theorem dX10_within_10 : decode cX10_within 10 = .ok (.iconst 1, 1) := dq_482.2.2.2.2.2.2.1
theorem dX10_within_11 : decode cX10_within 11 = .ok (.goto 4, 3) := dq_482.2.2.2.2.2.2.2.1
theorem dX10_within_14 : decode cX10_within 14 = .ok (.iconst 0, 1) := dq_482.2.2.2.2.2.2.2.2.1
theorem dX10_within_15 : decode cX10_within 15 = .ok (.ireturn, 1) := dq_482.2.2.2.2.2.2.2.2.2
theorem dq_483 : decode cX10_isCell 0 = .ok (.iload_n 0, 1) ∧ decode cX10_isCell 1 = .ok (.ifCond .lt 13, 3) ∧ decode cX10_isCell 4 = .ok (.iload_n 0, 1) ∧ decode cX10_isCell 5 = .ok (.bipush 64, 2) ∧ decode cX10_isCell 7 = .ok (.if_icmp .ge 7, 3) ∧ decode cX10_isCell 10 = .ok (.iconst 1, 1) ∧ decode cX10_isCell 11 = .ok (.goto 4, 3) ∧ decode cX10_isCell 14 = .ok (.iconst 0, 1) ∧ decode cX10_isCell 15 = .ok (.ireturn, 1) := by decide +kernel
theorem dX10_isCell_0 : decode cX10_isCell 0 = .ok (.iload_n 0, 1) := dq_483.1
theorem dX10_isCell_1 : decode cX10_isCell 1 = .ok (.ifCond .lt 13, 3) := dq_483.2.1
theorem dX10_isCell_4 : decode cX10_isCell 4 = .ok (.iload_n 0, 1) := dq_483.2.2.1
theorem dX10_isCell_5 : decode cX10_isCell 5 = .ok (.bipush 64, 2) := dq_483.2.2.2.1
theorem dX10_isCell_7 : decode cX10_isCell 7 = .ok (.if_icmp .ge 7, 3) := dq_483.2.2.2.2.1
theorem dX10_isCell_10 : decode cX10_isCell 10 = .ok (.iconst 1, 1) := dq_483.2.2.2.2.2.1
theorem dX10_isCell_11 : decode cX10_isCell 11 = .ok (.goto 4, 3) := dq_483.2.2.2.2.2.2.1
theorem dX10_isCell_14 : decode cX10_isCell 14 = .ok (.iconst 0, 1) := dq_483.2.2.2.2.2.2.2.1
theorem dX10_isCell_15 : decode cX10_isCell 15 = .ok (.ireturn, 1) := dq_483.2.2.2.2.2.2.2.2
theorem dq_484 : decode cX10_isSheet 0 = .ok (.iload_n 0, 1) ∧ decode cX10_isSheet 1 = .ok (.iconst 0, 1) ∧ decode cX10_isSheet 2 = .ok (.iconst 3, 1) ∧ decode cX10_isSheet 3 = .ok (.invokestatic 123, 3) ∧ decode cX10_isSheet 6 = .ok (.ireturn, 1) := by decide +kernel
theorem dX10_isSheet_0 : decode cX10_isSheet 0 = .ok (.iload_n 0, 1) := dq_484.1
theorem dX10_isSheet_1 : decode cX10_isSheet 1 = .ok (.iconst 0, 1) := dq_484.2.1
theorem dX10_isSheet_2 : decode cX10_isSheet 2 = .ok (.iconst 3, 1) := dq_484.2.2.1
theorem dX10_isSheet_3 : decode cX10_isSheet 3 = .ok (.invokestatic 123, 3) := dq_484.2.2.2.1
theorem dX10_isSheet_6 : decode cX10_isSheet 6 = .ok (.ireturn, 1) := dq_484.2.2.2.2
theorem dq_485 : decode cX10_has 0 = .ok (.iload_n 0, 1) ∧ decode cX10_has 1 = .ok (.iload_n 1, 1) ∧ decode cX10_has 2 = .ok (.ishr, 1) ∧ decode cX10_has 3 = .ok (.iconst 1, 1) ∧ decode cX10_has 4 = .ok (.iand, 1) ∧ decode cX10_has 5 = .ok (.ifCond .eq 7, 3) ∧ decode cX10_has 8 = .ok (.iconst 1, 1) ∧ decode cX10_has 9 = .ok (.goto 4, 3) ∧ decode cX10_has 12 = .ok (.iconst 0, 1) ∧ decode cX10_has 13 = .ok (.ireturn, 1) := by decide +kernel
theorem dX10_has_0 : decode cX10_has 0 = .ok (.iload_n 0, 1) := dq_485.1
theorem dX10_has_1 : decode cX10_has 1 = .ok (.iload_n 1, 1) := dq_485.2.1
theorem dX10_has_2 : decode cX10_has 2 = .ok (.ishr, 1) := dq_485.2.2.1
theorem dX10_has_3 : decode cX10_has 3 = .ok (.iconst 1, 1) := dq_485.2.2.2.1
theorem dX10_has_4 : decode cX10_has 4 = .ok (.iand, 1) := dq_485.2.2.2.2.1
theorem dX10_has_5 : decode cX10_has 5 = .ok (.ifCond .eq 7, 3) := dq_485.2.2.2.2.2.1
theorem dX10_has_8 : decode cX10_has 8 = .ok (.iconst 1, 1) := dq_485.2.2.2.2.2.2.1
theorem dX10_has_9 : decode cX10_has 9 = .ok (.goto 4, 3) := dq_485.2.2.2.2.2.2.2.1
theorem dX10_has_12 : decode cX10_has 12 = .ok (.iconst 0, 1) := dq_485.2.2.2.2.2.2.2.2.1
theorem dX10_has_13 : decode cX10_has 13 = .ok (.ireturn, 1) := dq_485.2.2.2.2.2.2.2.2.2
theorem dq_486 : decode cX10_hasCell 0 = .ok (.lload_n 0, 1) ∧ decode cX10_hasCell 1 = .ok (.iload_n 2, 1) ∧ decode cX10_hasCell 2 = .ok (.lushr, 1) ∧ decode cX10_hasCell 3 = .ok (.lconst 1, 1) ∧ decode cX10_hasCell 4 = .ok (.land, 1) ∧ decode cX10_hasCell 5 = .ok (.lconst 0, 1) ∧ decode cX10_hasCell 6 = .ok (.lcmp, 1) ∧ decode cX10_hasCell 7 = .ok (.ifCond .eq 7, 3) ∧ decode cX10_hasCell 10 = .ok (.iconst 1, 1) ∧ decode cX10_hasCell 11 = .ok (.goto 4, 3) ∧ decode cX10_hasCell 14 = .ok (.iconst 0, 1) ∧ decode cX10_hasCell 15 = .ok (.ireturn, 1) := by decide +kernel
theorem dX10_hasCell_0 : decode cX10_hasCell 0 = .ok (.lload_n 0, 1) := dq_486.1
theorem dX10_hasCell_1 : decode cX10_hasCell 1 = .ok (.iload_n 2, 1) := dq_486.2.1
theorem dX10_hasCell_2 : decode cX10_hasCell 2 = .ok (.lushr, 1) := dq_486.2.2.1
theorem dX10_hasCell_3 : decode cX10_hasCell 3 = .ok (.lconst 1, 1) := dq_486.2.2.2.1
theorem dX10_hasCell_4 : decode cX10_hasCell 4 = .ok (.land, 1) := dq_486.2.2.2.2.1
theorem dX10_hasCell_5 : decode cX10_hasCell 5 = .ok (.lconst 0, 1) := dq_486.2.2.2.2.2.1
theorem dX10_hasCell_6 : decode cX10_hasCell 6 = .ok (.lcmp, 1) := dq_486.2.2.2.2.2.2.1
theorem dX10_hasCell_7 : decode cX10_hasCell 7 = .ok (.ifCond .eq 7, 3) := dq_486.2.2.2.2.2.2.2.1
theorem dX10_hasCell_10 : decode cX10_hasCell 10 = .ok (.iconst 1, 1) := dq_486.2.2.2.2.2.2.2.2.1
theorem dX10_hasCell_11 : decode cX10_hasCell 11 = .ok (.goto 4, 3) := dq_486.2.2.2.2.2.2.2.2.2.1
theorem dX10_hasCell_14 : decode cX10_hasCell 14 = .ok (.iconst 0, 1) := dq_486.2.2.2.2.2.2.2.2.2.2.1
theorem dX10_hasCell_15 : decode cX10_hasCell 15 = .ok (.ireturn, 1) := dq_486.2.2.2.2.2.2.2.2.2.2.2
theorem dq_487 : decode cX10_areTwoThings 0 = .ok (.iload_n 1, 1) ∧ decode cX10_areTwoThings 1 = .ok (.iload_n 2, 1) ∧ decode cX10_areTwoThings 2 = .ok (.if_icmp .eq 29, 3) ∧ decode cX10_areTwoThings 5 = .ok (.aload_n 0, 1) ∧ decode cX10_areTwoThings 6 = .ok (.getfield 19, 3) ∧ decode cX10_areTwoThings 9 = .ok (.iload_n 1, 1) ∧ decode cX10_areTwoThings 10 = .ok (.invokevirtual 134, 3) ∧ decode cX10_areTwoThings 13 = .ok (.ifCond .eq 18, 3) ∧ decode cX10_areTwoThings 16 = .ok (.aload_n 0, 1) ∧ decode cX10_areTwoThings 17 = .ok (.getfield 19, 3) ∧ decode cX10_areTwoThings 20 = .ok (.iload_n 2, 1) ∧ decode cX10_areTwoThings 21 = .ok (.invokevirtual 134, 3) := by decide +kernel
theorem dX10_areTwoThings_0 : decode cX10_areTwoThings 0 = .ok (.iload_n 1, 1) := dq_487.1
theorem dX10_areTwoThings_1 : decode cX10_areTwoThings 1 = .ok (.iload_n 2, 1) := dq_487.2.1
theorem dX10_areTwoThings_2 : decode cX10_areTwoThings 2 = .ok (.if_icmp .eq 29, 3) := dq_487.2.2.1
theorem dX10_areTwoThings_5 : decode cX10_areTwoThings 5 = .ok (.aload_n 0, 1) := dq_487.2.2.2.1
theorem dX10_areTwoThings_6 : decode cX10_areTwoThings 6 = .ok (.getfield 19, 3) := dq_487.2.2.2.2.1
theorem dX10_areTwoThings_9 : decode cX10_areTwoThings 9 = .ok (.iload_n 1, 1) := dq_487.2.2.2.2.2.1
theorem dX10_areTwoThings_10 : decode cX10_areTwoThings 10 = .ok (.invokevirtual 134, 3) := dq_487.2.2.2.2.2.2.1
theorem dX10_areTwoThings_13 : decode cX10_areTwoThings 13 = .ok (.ifCond .eq 18, 3) := dq_487.2.2.2.2.2.2.2.1
theorem dX10_areTwoThings_16 : decode cX10_areTwoThings 16 = .ok (.aload_n 0, 1) := dq_487.2.2.2.2.2.2.2.2.1
theorem dX10_areTwoThings_17 : decode cX10_areTwoThings 17 = .ok (.getfield 19, 3) := dq_487.2.2.2.2.2.2.2.2.2.1
theorem dX10_areTwoThings_20 : decode cX10_areTwoThings 20 = .ok (.iload_n 2, 1) := dq_487.2.2.2.2.2.2.2.2.2.2.1
theorem dX10_areTwoThings_21 : decode cX10_areTwoThings 21 = .ok (.invokevirtual 134, 3) := dq_487.2.2.2.2.2.2.2.2.2.2.2
theorem dq_488 : decode cX10_areTwoThings 24 = .ok (.ifCond .eq 7, 3) ∧ decode cX10_areTwoThings 27 = .ok (.iconst 1, 1) ∧ decode cX10_areTwoThings 28 = .ok (.goto 4, 3) ∧ decode cX10_areTwoThings 31 = .ok (.iconst 0, 1) ∧ decode cX10_areTwoThings 32 = .ok (.ireturn, 1) := by decide +kernel
theorem dX10_areTwoThings_24 : decode cX10_areTwoThings 24 = .ok (.ifCond .eq 7, 3) := dq_488.1
theorem dX10_areTwoThings_27 : decode cX10_areTwoThings 27 = .ok (.iconst 1, 1) := dq_488.2.1
theorem dX10_areTwoThings_28 : decode cX10_areTwoThings 28 = .ok (.goto 4, 3) := dq_488.2.2.1
theorem dX10_areTwoThings_31 : decode cX10_areTwoThings 31 = .ok (.iconst 0, 1) := dq_488.2.2.2.1
theorem dX10_areTwoThings_32 : decode cX10_areTwoThings 32 = .ok (.ireturn, 1) := dq_488.2.2.2.2
theorem dq_489 : decode cX10_sharedDivisor 0 = .ok (.lload_n 0, 1) ∧ decode cX10_sharedDivisor 1 = .ok (.lstore 4, 2) ∧ decode cX10_sharedDivisor 3 = .ok (.lload_n 2, 1) ∧ decode cX10_sharedDivisor 4 = .ok (.lstore 6, 2) ∧ decode cX10_sharedDivisor 6 = .ok (.iconst 0, 1) ∧ decode cX10_sharedDivisor 7 = .ok (.istore 8, 2) ∧ decode cX10_sharedDivisor 9 = .ok (.iload 8, 2) ∧ decode cX10_sharedDivisor 11 = .ok (.bipush 100, 2) ∧ decode cX10_sharedDivisor 13 = .ok (.if_icmp .ge 31, 3) ∧ decode cX10_sharedDivisor 16 = .ok (.lload 6, 2) ∧ decode cX10_sharedDivisor 18 = .ok (.lconst 0, 1) ∧ decode cX10_sharedDivisor 19 = .ok (.lcmp, 1) := by decide +kernel
theorem dX10_sharedDivisor_0 : decode cX10_sharedDivisor 0 = .ok (.lload_n 0, 1) := dq_489.1
theorem dX10_sharedDivisor_1 : decode cX10_sharedDivisor 1 = .ok (.lstore 4, 2) := dq_489.2.1
theorem dX10_sharedDivisor_3 : decode cX10_sharedDivisor 3 = .ok (.lload_n 2, 1) := dq_489.2.2.1
theorem dX10_sharedDivisor_4 : decode cX10_sharedDivisor 4 = .ok (.lstore 6, 2) := dq_489.2.2.2.1
theorem dX10_sharedDivisor_6 : decode cX10_sharedDivisor 6 = .ok (.iconst 0, 1) := dq_489.2.2.2.2.1
theorem dX10_sharedDivisor_7 : decode cX10_sharedDivisor 7 = .ok (.istore 8, 2) := dq_489.2.2.2.2.2.1
theorem dX10_sharedDivisor_9 : decode cX10_sharedDivisor 9 = .ok (.iload 8, 2) := dq_489.2.2.2.2.2.2.1
theorem dX10_sharedDivisor_11 : decode cX10_sharedDivisor 11 = .ok (.bipush 100, 2) := dq_489.2.2.2.2.2.2.2.1
theorem dX10_sharedDivisor_13 : decode cX10_sharedDivisor 13 = .ok (.if_icmp .ge 31, 3) := dq_489.2.2.2.2.2.2.2.2.1
theorem dX10_sharedDivisor_16 : decode cX10_sharedDivisor 16 = .ok (.lload 6, 2) := dq_489.2.2.2.2.2.2.2.2.2.1
theorem dX10_sharedDivisor_18 : decode cX10_sharedDivisor 18 = .ok (.lconst 0, 1) := dq_489.2.2.2.2.2.2.2.2.2.2.1
theorem dX10_sharedDivisor_19 : decode cX10_sharedDivisor 19 = .ok (.lcmp, 1) := dq_489.2.2.2.2.2.2.2.2.2.2.2
theorem dq_490 : decode cX10_sharedDivisor 20 = .ok (.ifCond .eq 24, 3) ∧ decode cX10_sharedDivisor 23 = .ok (.lload 4, 2) ∧ decode cX10_sharedDivisor 25 = .ok (.lload 6, 2) ∧ decode cX10_sharedDivisor 27 = .ok (.lrem, 1) ∧ decode cX10_sharedDivisor 28 = .ok (.lstore 9, 2) ∧ decode cX10_sharedDivisor 30 = .ok (.lload 6, 2) ∧ decode cX10_sharedDivisor 32 = .ok (.lstore 4, 2) ∧ decode cX10_sharedDivisor 34 = .ok (.lload 9, 2) ∧ decode cX10_sharedDivisor 36 = .ok (.lstore 6, 2) ∧ decode cX10_sharedDivisor 38 = .ok (.iinc 8 1, 3) ∧ decode cX10_sharedDivisor 41 = .ok (.goto (-32), 3) ∧ decode cX10_sharedDivisor 44 = .ok (.lconst 1, 1) := by decide +kernel
theorem dX10_sharedDivisor_20 : decode cX10_sharedDivisor 20 = .ok (.ifCond .eq 24, 3) := dq_490.1
theorem dX10_sharedDivisor_23 : decode cX10_sharedDivisor 23 = .ok (.lload 4, 2) := dq_490.2.1
theorem dX10_sharedDivisor_25 : decode cX10_sharedDivisor 25 = .ok (.lload 6, 2) := dq_490.2.2.1
theorem dX10_sharedDivisor_27 : decode cX10_sharedDivisor 27 = .ok (.lrem, 1) := dq_490.2.2.2.1
theorem dX10_sharedDivisor_28 : decode cX10_sharedDivisor 28 = .ok (.lstore 9, 2) := dq_490.2.2.2.2.1
theorem dX10_sharedDivisor_30 : decode cX10_sharedDivisor 30 = .ok (.lload 6, 2) := dq_490.2.2.2.2.2.1
theorem dX10_sharedDivisor_32 : decode cX10_sharedDivisor 32 = .ok (.lstore 4, 2) := dq_490.2.2.2.2.2.2.1
theorem dX10_sharedDivisor_34 : decode cX10_sharedDivisor 34 = .ok (.lload 9, 2) := dq_490.2.2.2.2.2.2.2.1
theorem dX10_sharedDivisor_36 : decode cX10_sharedDivisor 36 = .ok (.lstore 6, 2) := dq_490.2.2.2.2.2.2.2.2.1
theorem dX10_sharedDivisor_38 : decode cX10_sharedDivisor 38 = .ok (.iinc 8 1, 3) := dq_490.2.2.2.2.2.2.2.2.2.1
theorem dX10_sharedDivisor_41 : decode cX10_sharedDivisor 41 = .ok (.goto (-32), 3) := dq_490.2.2.2.2.2.2.2.2.2.2.1
theorem dX10_sharedDivisor_44 : decode cX10_sharedDivisor 44 = .ok (.lconst 1, 1) := dq_490.2.2.2.2.2.2.2.2.2.2.2
theorem dq_491 : decode cX10_sharedDivisor 45 = .ok (.lload 4, 2) ∧ decode cX10_sharedDivisor 47 = .ok (.invokestatic 401, 3) ∧ decode cX10_sharedDivisor 50 = .ok (.lreturn, 1) := by decide +kernel
theorem dX10_sharedDivisor_45 : decode cX10_sharedDivisor 45 = .ok (.lload 4, 2) := dq_491.1
theorem dX10_sharedDivisor_47 : decode cX10_sharedDivisor 47 = .ok (.invokestatic 401, 3) := dq_491.2.1
theorem dX10_sharedDivisor_50 : decode cX10_sharedDivisor 50 = .ok (.lreturn, 1) := dq_491.2.2
theorem dq_492 : decode cX10_source 0 = .ok (.iload_n 2, 1) ∧ decode cX10_source 1 = .ok (.ifCond .gt 5, 3) ∧ decode cX10_source 4 = .ok (.iconst 0, 1) ∧ decode cX10_source 5 = .ok (.ireturn, 1) ∧ decode cX10_source 6 = .ok (.iload_n 1, 1) ∧ decode cX10_source 7 = .ok (.iload_n 2, 1) ∧ decode cX10_source 8 = .ok (.idiv, 1) ∧ decode cX10_source 9 = .ok (.istore_n 3, 1) ∧ decode cX10_source 10 = .ok (.iload_n 1, 1) ∧ decode cX10_source 11 = .ok (.iload_n 2, 1) ∧ decode cX10_source 12 = .ok (.irem, 1) ∧ decode cX10_source 13 = .ok (.istore 4, 2) := by decide +kernel
theorem dX10_source_0 : decode cX10_source 0 = .ok (.iload_n 2, 1) := dq_492.1
theorem dX10_source_1 : decode cX10_source 1 = .ok (.ifCond .gt 5, 3) := dq_492.2.1
theorem dX10_source_4 : decode cX10_source 4 = .ok (.iconst 0, 1) := dq_492.2.2.1
theorem dX10_source_5 : decode cX10_source 5 = .ok (.ireturn, 1) := dq_492.2.2.2.1
theorem dX10_source_6 : decode cX10_source 6 = .ok (.iload_n 1, 1) := dq_492.2.2.2.2.1
theorem dX10_source_7 : decode cX10_source 7 = .ok (.iload_n 2, 1) := dq_492.2.2.2.2.2.1
theorem dX10_source_8 : decode cX10_source 8 = .ok (.idiv, 1) := dq_492.2.2.2.2.2.2.1
theorem dX10_source_9 : decode cX10_source 9 = .ok (.istore_n 3, 1) := dq_492.2.2.2.2.2.2.2.1
theorem dX10_source_10 : decode cX10_source 10 = .ok (.iload_n 1, 1) := dq_492.2.2.2.2.2.2.2.2.1
theorem dX10_source_11 : decode cX10_source 11 = .ok (.iload_n 2, 1) := dq_492.2.2.2.2.2.2.2.2.2.1
theorem dX10_source_12 : decode cX10_source 12 = .ok (.irem, 1) := dq_492.2.2.2.2.2.2.2.2.2.2.1
theorem dX10_source_13 : decode cX10_source 13 = .ok (.istore 4, 2) := dq_492.2.2.2.2.2.2.2.2.2.2.2
theorem dq_493 : decode cX10_source 15 = .ok (.iconst 0, 1) ∧ decode cX10_source 16 = .ok (.istore 5, 2) ∧ decode cX10_source 18 = .ok (.iload 5, 2) ∧ decode cX10_source 20 = .ok (.iload_n 0, 1) ∧ decode cX10_source 21 = .ok (.iconst 3, 1) ∧ decode cX10_source 22 = .ok (.iand, 1) ∧ decode cX10_source 23 = .ok (.if_icmp .ge 23, 3) ∧ decode cX10_source 26 = .ok (.iload_n 3, 1) ∧ decode cX10_source 27 = .ok (.istore 6, 2) ∧ decode cX10_source 29 = .ok (.iload_n 2, 1) ∧ decode cX10_source 30 = .ok (.iconst 1, 1) ∧ decode cX10_source 31 = .ok (.isub, 1) := by decide +kernel
theorem dX10_source_15 : decode cX10_source 15 = .ok (.iconst 0, 1) := dq_493.1
theorem dX10_source_16 : decode cX10_source 16 = .ok (.istore 5, 2) := dq_493.2.1
theorem dX10_source_18 : decode cX10_source 18 = .ok (.iload 5, 2) := dq_493.2.2.1
theorem dX10_source_20 : decode cX10_source 20 = .ok (.iload_n 0, 1) := dq_493.2.2.2.1
theorem dX10_source_21 : decode cX10_source 21 = .ok (.iconst 3, 1) := dq_493.2.2.2.2.1
theorem dX10_source_22 : decode cX10_source 22 = .ok (.iand, 1) := dq_493.2.2.2.2.2.1
theorem dX10_source_23 : decode cX10_source 23 = .ok (.if_icmp .ge 23, 3) := dq_493.2.2.2.2.2.2.1
theorem dX10_source_26 : decode cX10_source 26 = .ok (.iload_n 3, 1) := dq_493.2.2.2.2.2.2.2.1
theorem dX10_source_27 : decode cX10_source 27 = .ok (.istore 6, 2) := dq_493.2.2.2.2.2.2.2.2.1
theorem dX10_source_29 : decode cX10_source 29 = .ok (.iload_n 2, 1) := dq_493.2.2.2.2.2.2.2.2.2.1
theorem dX10_source_30 : decode cX10_source 30 = .ok (.iconst 1, 1) := dq_493.2.2.2.2.2.2.2.2.2.2.1
theorem dX10_source_31 : decode cX10_source 31 = .ok (.isub, 1) := dq_493.2.2.2.2.2.2.2.2.2.2.2
theorem dq_494 : decode cX10_source 32 = .ok (.iload 4, 2) ∧ decode cX10_source 34 = .ok (.isub, 1) ∧ decode cX10_source 35 = .ok (.istore_n 3, 1) ∧ decode cX10_source 36 = .ok (.iload 6, 2) ∧ decode cX10_source 38 = .ok (.istore 4, 2) ∧ decode cX10_source 40 = .ok (.iinc 5 1, 3) ∧ decode cX10_source 43 = .ok (.goto (-25), 3) ∧ decode cX10_source 46 = .ok (.iload_n 0, 1) ∧ decode cX10_source 47 = .ok (.iconst 4, 1) ∧ decode cX10_source 48 = .ok (.if_icmp .lt 11, 3) ∧ decode cX10_source 51 = .ok (.iload_n 2, 1) ∧ decode cX10_source 52 = .ok (.iconst 1, 1) := by decide +kernel
theorem dX10_source_32 : decode cX10_source 32 = .ok (.iload 4, 2) := dq_494.1
theorem dX10_source_34 : decode cX10_source 34 = .ok (.isub, 1) := dq_494.2.1
theorem dX10_source_35 : decode cX10_source 35 = .ok (.istore_n 3, 1) := dq_494.2.2.1
theorem dX10_source_36 : decode cX10_source 36 = .ok (.iload 6, 2) := dq_494.2.2.2.1
theorem dX10_source_38 : decode cX10_source 38 = .ok (.istore 4, 2) := dq_494.2.2.2.2.1
theorem dX10_source_40 : decode cX10_source 40 = .ok (.iinc 5 1, 3) := dq_494.2.2.2.2.2.1
theorem dX10_source_43 : decode cX10_source 43 = .ok (.goto (-25), 3) := dq_494.2.2.2.2.2.2.1
theorem dX10_source_46 : decode cX10_source 46 = .ok (.iload_n 0, 1) := dq_494.2.2.2.2.2.2.2.1
theorem dX10_source_47 : decode cX10_source 47 = .ok (.iconst 4, 1) := dq_494.2.2.2.2.2.2.2.2.1
theorem dX10_source_48 : decode cX10_source 48 = .ok (.if_icmp .lt 11, 3) := dq_494.2.2.2.2.2.2.2.2.2.1
theorem dX10_source_51 : decode cX10_source 51 = .ok (.iload_n 2, 1) := dq_494.2.2.2.2.2.2.2.2.2.2.1
theorem dX10_source_52 : decode cX10_source 52 = .ok (.iconst 1, 1) := dq_494.2.2.2.2.2.2.2.2.2.2.2
theorem dq_495 : decode cX10_source 53 = .ok (.isub, 1) ∧ decode cX10_source 54 = .ok (.iload 4, 2) ∧ decode cX10_source 56 = .ok (.isub, 1) ∧ decode cX10_source 57 = .ok (.istore 4, 2) ∧ decode cX10_source 59 = .ok (.iload_n 3, 1) ∧ decode cX10_source 60 = .ok (.iload_n 2, 1) ∧ decode cX10_source 61 = .ok (.imul, 1) ∧ decode cX10_source 62 = .ok (.iload 4, 2) ∧ decode cX10_source 64 = .ok (.iadd, 1) ∧ decode cX10_source 65 = .ok (.ireturn, 1) := by decide +kernel
theorem dX10_source_53 : decode cX10_source 53 = .ok (.isub, 1) := dq_495.1
theorem dX10_source_54 : decode cX10_source 54 = .ok (.iload 4, 2) := dq_495.2.1
theorem dX10_source_56 : decode cX10_source 56 = .ok (.isub, 1) := dq_495.2.2.1
theorem dX10_source_57 : decode cX10_source 57 = .ok (.istore 4, 2) := dq_495.2.2.2.1
theorem dX10_source_59 : decode cX10_source 59 = .ok (.iload_n 3, 1) := dq_495.2.2.2.2.1
theorem dX10_source_60 : decode cX10_source 60 = .ok (.iload_n 2, 1) := dq_495.2.2.2.2.2.1
theorem dX10_source_61 : decode cX10_source 61 = .ok (.imul, 1) := dq_495.2.2.2.2.2.2.1
theorem dX10_source_62 : decode cX10_source 62 = .ok (.iload 4, 2) := dq_495.2.2.2.2.2.2.2.1
theorem dX10_source_64 : decode cX10_source 64 = .ok (.iadd, 1) := dq_495.2.2.2.2.2.2.2.2.1
theorem dX10_source_65 : decode cX10_source 65 = .ok (.ireturn, 1) := dq_495.2.2.2.2.2.2.2.2.2
theorem dq_496 : decode cX10_panelCell 0 = .ok (.iload_n 0, 1) ∧ decode cX10_panelCell 1 = .ok (.iconst 1, 1) ∧ decode cX10_panelCell 2 = .ok (.ishr, 1) ∧ decode cX10_panelCell 3 = .ok (.iconst 4, 1) ∧ decode cX10_panelCell 4 = .ok (.imul, 1) ∧ decode cX10_panelCell 5 = .ok (.iload_n 1, 1) ∧ decode cX10_panelCell 6 = .ok (.iconst 2, 1) ∧ decode cX10_panelCell 7 = .ok (.ishr, 1) ∧ decode cX10_panelCell 8 = .ok (.iadd, 1) ∧ decode cX10_panelCell 9 = .ok (.istore_n 2, 1) ∧ decode cX10_panelCell 10 = .ok (.iload_n 0, 1) ∧ decode cX10_panelCell 11 = .ok (.iconst 1, 1) := by decide +kernel
theorem dX10_panelCell_0 : decode cX10_panelCell 0 = .ok (.iload_n 0, 1) := dq_496.1
theorem dX10_panelCell_1 : decode cX10_panelCell 1 = .ok (.iconst 1, 1) := dq_496.2.1
theorem dX10_panelCell_2 : decode cX10_panelCell 2 = .ok (.ishr, 1) := dq_496.2.2.1
theorem dX10_panelCell_3 : decode cX10_panelCell 3 = .ok (.iconst 4, 1) := dq_496.2.2.2.1
theorem dX10_panelCell_4 : decode cX10_panelCell 4 = .ok (.imul, 1) := dq_496.2.2.2.2.1
theorem dX10_panelCell_5 : decode cX10_panelCell 5 = .ok (.iload_n 1, 1) := dq_496.2.2.2.2.2.1
theorem dX10_panelCell_6 : decode cX10_panelCell 6 = .ok (.iconst 2, 1) := dq_496.2.2.2.2.2.2.1
theorem dX10_panelCell_7 : decode cX10_panelCell 7 = .ok (.ishr, 1) := dq_496.2.2.2.2.2.2.2.1
theorem dX10_panelCell_8 : decode cX10_panelCell 8 = .ok (.iadd, 1) := dq_496.2.2.2.2.2.2.2.2.1
theorem dX10_panelCell_9 : decode cX10_panelCell 9 = .ok (.istore_n 2, 1) := dq_496.2.2.2.2.2.2.2.2.2.1
theorem dX10_panelCell_10 : decode cX10_panelCell 10 = .ok (.iload_n 0, 1) := dq_496.2.2.2.2.2.2.2.2.2.2.1
theorem dX10_panelCell_11 : decode cX10_panelCell 11 = .ok (.iconst 1, 1) := dq_496.2.2.2.2.2.2.2.2.2.2.2
theorem dq_497 : decode cX10_panelCell 12 = .ok (.iand, 1) ∧ decode cX10_panelCell 13 = .ok (.iconst 4, 1) ∧ decode cX10_panelCell 14 = .ok (.imul, 1) ∧ decode cX10_panelCell 15 = .ok (.iload_n 1, 1) ∧ decode cX10_panelCell 16 = .ok (.iconst 3, 1) ∧ decode cX10_panelCell 17 = .ok (.iand, 1) ∧ decode cX10_panelCell 18 = .ok (.iadd, 1) ∧ decode cX10_panelCell 19 = .ok (.istore_n 3, 1) ∧ decode cX10_panelCell 20 = .ok (.iload_n 2, 1) ∧ decode cX10_panelCell 21 = .ok (.bipush 8, 2) ∧ decode cX10_panelCell 23 = .ok (.imul, 1) ∧ decode cX10_panelCell 24 = .ok (.iload_n 3, 1) := by decide +kernel
theorem dX10_panelCell_12 : decode cX10_panelCell 12 = .ok (.iand, 1) := dq_497.1
theorem dX10_panelCell_13 : decode cX10_panelCell 13 = .ok (.iconst 4, 1) := dq_497.2.1
theorem dX10_panelCell_14 : decode cX10_panelCell 14 = .ok (.imul, 1) := dq_497.2.2.1
theorem dX10_panelCell_15 : decode cX10_panelCell 15 = .ok (.iload_n 1, 1) := dq_497.2.2.2.1
theorem dX10_panelCell_16 : decode cX10_panelCell 16 = .ok (.iconst 3, 1) := dq_497.2.2.2.2.1
theorem dX10_panelCell_17 : decode cX10_panelCell 17 = .ok (.iand, 1) := dq_497.2.2.2.2.2.1
theorem dX10_panelCell_18 : decode cX10_panelCell 18 = .ok (.iadd, 1) := dq_497.2.2.2.2.2.2.1
theorem dX10_panelCell_19 : decode cX10_panelCell 19 = .ok (.istore_n 3, 1) := dq_497.2.2.2.2.2.2.2.1
theorem dX10_panelCell_20 : decode cX10_panelCell 20 = .ok (.iload_n 2, 1) := dq_497.2.2.2.2.2.2.2.2.1
theorem dX10_panelCell_21 : decode cX10_panelCell 21 = .ok (.bipush 8, 2) := dq_497.2.2.2.2.2.2.2.2.2.1
theorem dX10_panelCell_23 : decode cX10_panelCell 23 = .ok (.imul, 1) := dq_497.2.2.2.2.2.2.2.2.2.2.1
theorem dX10_panelCell_24 : decode cX10_panelCell 24 = .ok (.iload_n 3, 1) := dq_497.2.2.2.2.2.2.2.2.2.2.2
theorem dq_498 : decode cX10_panelCell 25 = .ok (.iadd, 1) ∧ decode cX10_panelCell 26 = .ok (.ireturn, 1) := by decide +kernel
theorem dX10_panelCell_25 : decode cX10_panelCell 25 = .ok (.iadd, 1) := dq_498.1
theorem dX10_panelCell_26 : decode cX10_panelCell 26 = .ok (.ireturn, 1) := dq_498.2
theorem dq_499 : decode cX10_figure 0 = .ok (.iload_n 0, 1) ∧ decode cX10_figure 1 = .ok (.bipush 6, 2) ∧ decode cX10_figure 3 = .ok (.iconst 2, 1) ∧ decode cX10_figure 4 = .ok (.iload_n 1, 1) ∧ decode cX10_figure 5 = .ok (.imul, 1) ∧ decode cX10_figure 6 = .ok (.isub, 1) ∧ decode cX10_figure 7 = .ok (.ishr, 1) ∧ decode cX10_figure 8 = .ok (.iconst 3, 1) ∧ decode cX10_figure 9 = .ok (.iand, 1) ∧ decode cX10_figure 10 = .ok (.ireturn, 1) := by decide +kernel
theorem dX10_figure_0 : decode cX10_figure 0 = .ok (.iload_n 0, 1) := dq_499.1
theorem dX10_figure_1 : decode cX10_figure 1 = .ok (.bipush 6, 2) := dq_499.2.1
theorem dX10_figure_3 : decode cX10_figure 3 = .ok (.iconst 2, 1) := dq_499.2.2.1
theorem dX10_figure_4 : decode cX10_figure 4 = .ok (.iload_n 1, 1) := dq_499.2.2.2.1
theorem dX10_figure_5 : decode cX10_figure 5 = .ok (.imul, 1) := dq_499.2.2.2.2.1
theorem dX10_figure_6 : decode cX10_figure 6 = .ok (.isub, 1) := dq_499.2.2.2.2.2.1
theorem dX10_figure_7 : decode cX10_figure 7 = .ok (.ishr, 1) := dq_499.2.2.2.2.2.2.1
theorem dX10_figure_8 : decode cX10_figure 8 = .ok (.iconst 3, 1) := dq_499.2.2.2.2.2.2.2.1
theorem dX10_figure_9 : decode cX10_figure 9 = .ok (.iand, 1) := dq_499.2.2.2.2.2.2.2.2.1
theorem dX10_figure_10 : decode cX10_figure 10 = .ok (.ireturn, 1) := dq_499.2.2.2.2.2.2.2.2.2
theorem dq_500 : decode cX10_cost 0 = .ok (.lconst 0, 1) ∧ decode cX10_cost 1 = .ok (.lstore_n 1, 1) ∧ decode cX10_cost 2 = .ok (.iconst 0, 1) ∧ decode cX10_cost 3 = .ok (.istore_n 3, 1) ∧ decode cX10_cost 4 = .ok (.iload_n 3, 1) ∧ decode cX10_cost 5 = .ok (.bipush 6, 2) ∧ decode cX10_cost 7 = .ok (.if_icmp .ge 34, 3) ∧ decode cX10_cost 10 = .ok (.lload_n 1, 1) ∧ decode cX10_cost 11 = .ok (.aload_n 0, 1) ∧ decode cX10_cost 12 = .ok (.getfield 45, 3) ∧ decode cX10_cost 15 = .ok (.iload_n 3, 1) ∧ decode cX10_cost 16 = .ok (.invokevirtual 336, 3) := by decide +kernel
theorem dX10_cost_0 : decode cX10_cost 0 = .ok (.lconst 0, 1) := dq_500.1
theorem dX10_cost_1 : decode cX10_cost 1 = .ok (.lstore_n 1, 1) := dq_500.2.1
theorem dX10_cost_2 : decode cX10_cost 2 = .ok (.iconst 0, 1) := dq_500.2.2.1
theorem dX10_cost_3 : decode cX10_cost 3 = .ok (.istore_n 3, 1) := dq_500.2.2.2.1
theorem dX10_cost_4 : decode cX10_cost 4 = .ok (.iload_n 3, 1) := dq_500.2.2.2.2.1
theorem dX10_cost_5 : decode cX10_cost 5 = .ok (.bipush 6, 2) := dq_500.2.2.2.2.2.1
theorem dX10_cost_7 : decode cX10_cost 7 = .ok (.if_icmp .ge 34, 3) := dq_500.2.2.2.2.2.2.1
theorem dX10_cost_10 : decode cX10_cost 10 = .ok (.lload_n 1, 1) := dq_500.2.2.2.2.2.2.2.1
theorem dX10_cost_11 : decode cX10_cost 11 = .ok (.aload_n 0, 1) := dq_500.2.2.2.2.2.2.2.2.1
theorem dX10_cost_12 : decode cX10_cost 12 = .ok (.getfield 45, 3) := dq_500.2.2.2.2.2.2.2.2.2.1
theorem dX10_cost_15 : decode cX10_cost 15 = .ok (.iload_n 3, 1) := dq_500.2.2.2.2.2.2.2.2.2.2.1
theorem dX10_cost_16 : decode cX10_cost 16 = .ok (.invokevirtual 336, 3) := dq_500.2.2.2.2.2.2.2.2.2.2.2
theorem dq_501 : decode cX10_cost 19 = .ok (.invokestatic 311, 3) ∧ decode cX10_cost 22 = .ok (.i2l, 1) ∧ decode cX10_cost 23 = .ok (.aload_n 0, 1) ∧ decode cX10_cost 24 = .ok (.getfield 19, 3) ∧ decode cX10_cost 27 = .ok (.iload_n 3, 1) ∧ decode cX10_cost 28 = .ok (.invokevirtual 127, 3) ∧ decode cX10_cost 31 = .ok (.i2l, 1) ∧ decode cX10_cost 32 = .ok (.lmul, 1) ∧ decode cX10_cost 33 = .ok (.ladd, 1) ∧ decode cX10_cost 34 = .ok (.lstore_n 1, 1) ∧ decode cX10_cost 35 = .ok (.iinc 3 1, 3) ∧ decode cX10_cost 38 = .ok (.goto (-34), 3) := by decide +kernel
theorem dX10_cost_19 : decode cX10_cost 19 = .ok (.invokestatic 311, 3) := dq_501.1
theorem dX10_cost_22 : decode cX10_cost 22 = .ok (.i2l, 1) := dq_501.2.1
theorem dX10_cost_23 : decode cX10_cost 23 = .ok (.aload_n 0, 1) := dq_501.2.2.1
theorem dX10_cost_24 : decode cX10_cost 24 = .ok (.getfield 19, 3) := dq_501.2.2.2.1
theorem dX10_cost_27 : decode cX10_cost 27 = .ok (.iload_n 3, 1) := dq_501.2.2.2.2.1
theorem dX10_cost_28 : decode cX10_cost 28 = .ok (.invokevirtual 127, 3) := dq_501.2.2.2.2.2.1
theorem dX10_cost_31 : decode cX10_cost 31 = .ok (.i2l, 1) := dq_501.2.2.2.2.2.2.1
theorem dX10_cost_32 : decode cX10_cost 32 = .ok (.lmul, 1) := dq_501.2.2.2.2.2.2.2.1
theorem dX10_cost_33 : decode cX10_cost 33 = .ok (.ladd, 1) := dq_501.2.2.2.2.2.2.2.2.1
theorem dX10_cost_34 : decode cX10_cost 34 = .ok (.lstore_n 1, 1) := dq_501.2.2.2.2.2.2.2.2.2.1
theorem dX10_cost_35 : decode cX10_cost 35 = .ok (.iinc 3 1, 3) := dq_501.2.2.2.2.2.2.2.2.2.2.1
theorem dX10_cost_38 : decode cX10_cost 38 = .ok (.goto (-34), 3) := dq_501.2.2.2.2.2.2.2.2.2.2.2
theorem dq_502 : decode cX10_cost 41 = .ok (.lload_n 1, 1) ∧ decode cX10_cost 42 = .ok (.lreturn, 1) := by decide +kernel
theorem dX10_cost_41 : decode cX10_cost 41 = .ok (.lload_n 1, 1) := dq_502.1
theorem dX10_cost_42 : decode cX10_cost 42 = .ok (.lreturn, 1) := dq_502.2
theorem dq_503 : decode cX10_days 0 = .ok (.lconst 0, 1) ∧ decode cX10_days 1 = .ok (.lstore_n 2, 1) ∧ decode cX10_days 2 = .ok (.lconst 1, 1) ∧ decode cX10_days 3 = .ok (.lstore 4, 2) ∧ decode cX10_days 5 = .ok (.iconst 0, 1) ∧ decode cX10_days 6 = .ok (.istore 6, 2) ∧ decode cX10_days 8 = .ok (.iload 6, 2) ∧ decode cX10_days 10 = .ok (.bipush 6, 2) ∧ decode cX10_days 12 = .ok (.if_icmp .ge 70, 3) ∧ decode cX10_days 15 = .ok (.aload_n 0, 1) ∧ decode cX10_days 16 = .ok (.getfield 19, 3) ∧ decode cX10_days 19 = .ok (.iload 6, 2) := by decide +kernel
theorem dX10_days_0 : decode cX10_days 0 = .ok (.lconst 0, 1) := dq_503.1
theorem dX10_days_1 : decode cX10_days 1 = .ok (.lstore_n 2, 1) := dq_503.2.1
theorem dX10_days_2 : decode cX10_days 2 = .ok (.lconst 1, 1) := dq_503.2.2.1
theorem dX10_days_3 : decode cX10_days 3 = .ok (.lstore 4, 2) := dq_503.2.2.2.1
theorem dX10_days_5 : decode cX10_days 5 = .ok (.iconst 0, 1) := dq_503.2.2.2.2.1
theorem dX10_days_6 : decode cX10_days 6 = .ok (.istore 6, 2) := dq_503.2.2.2.2.2.1
theorem dX10_days_8 : decode cX10_days 8 = .ok (.iload 6, 2) := dq_503.2.2.2.2.2.2.1
theorem dX10_days_10 : decode cX10_days 10 = .ok (.bipush 6, 2) := dq_503.2.2.2.2.2.2.2.1
theorem dX10_days_12 : decode cX10_days 12 = .ok (.if_icmp .ge 70, 3) := dq_503.2.2.2.2.2.2.2.2.1
theorem dX10_days_15 : decode cX10_days 15 = .ok (.aload_n 0, 1) := dq_503.2.2.2.2.2.2.2.2.2.1
theorem dX10_days_16 : decode cX10_days 16 = .ok (.getfield 19, 3) := dq_503.2.2.2.2.2.2.2.2.2.2.1
theorem dX10_days_19 : decode cX10_days 19 = .ok (.iload 6, 2) := dq_503.2.2.2.2.2.2.2.2.2.2.2
theorem dq_504 : decode cX10_days 21 = .ok (.invokevirtual 131, 3) ∧ decode cX10_days 24 = .ok (.i2l, 1) ∧ decode cX10_days 25 = .ok (.lstore 7, 2) ∧ decode cX10_days 27 = .ok (.lload_n 2, 1) ∧ decode cX10_days 28 = .ok (.lload 7, 2) ∧ decode cX10_days 30 = .ok (.lmul, 1) ∧ decode cX10_days 31 = .ok (.aload_n 0, 1) ∧ decode cX10_days 32 = .ok (.getfield 45, 3) ∧ decode cX10_days 35 = .ok (.iload 6, 2) ∧ decode cX10_days 37 = .ok (.invokevirtual 336, 3) ∧ decode cX10_days 40 = .ok (.invokestatic 311, 3) ∧ decode cX10_days 43 = .ok (.i2l, 1) := by decide +kernel
theorem dX10_days_21 : decode cX10_days 21 = .ok (.invokevirtual 131, 3) := dq_504.1
theorem dX10_days_24 : decode cX10_days 24 = .ok (.i2l, 1) := dq_504.2.1
theorem dX10_days_25 : decode cX10_days 25 = .ok (.lstore 7, 2) := dq_504.2.2.1
theorem dX10_days_27 : decode cX10_days 27 = .ok (.lload_n 2, 1) := dq_504.2.2.2.1
theorem dX10_days_28 : decode cX10_days 28 = .ok (.lload 7, 2) := dq_504.2.2.2.2.1
theorem dX10_days_30 : decode cX10_days 30 = .ok (.lmul, 1) := dq_504.2.2.2.2.2.1
theorem dX10_days_31 : decode cX10_days 31 = .ok (.aload_n 0, 1) := dq_504.2.2.2.2.2.2.1
theorem dX10_days_32 : decode cX10_days 32 = .ok (.getfield 45, 3) := dq_504.2.2.2.2.2.2.2.1
theorem dX10_days_35 : decode cX10_days 35 = .ok (.iload 6, 2) := dq_504.2.2.2.2.2.2.2.2.1
theorem dX10_days_37 : decode cX10_days 37 = .ok (.invokevirtual 336, 3) := dq_504.2.2.2.2.2.2.2.2.2.1
theorem dX10_days_40 : decode cX10_days 40 = .ok (.invokestatic 311, 3) := dq_504.2.2.2.2.2.2.2.2.2.2.1
theorem dX10_days_43 : decode cX10_days 43 = .ok (.i2l, 1) := dq_504.2.2.2.2.2.2.2.2.2.2.2
theorem dq_505 : decode cX10_days 44 = .ok (.lload 4, 2) ∧ decode cX10_days 46 = .ok (.lmul, 1) ∧ decode cX10_days 47 = .ok (.ladd, 1) ∧ decode cX10_days 48 = .ok (.lstore_n 2, 1) ∧ decode cX10_days 49 = .ok (.lload 4, 2) ∧ decode cX10_days 51 = .ok (.lload 7, 2) ∧ decode cX10_days 53 = .ok (.lmul, 1) ∧ decode cX10_days 54 = .ok (.lstore 4, 2) ∧ decode cX10_days 56 = .ok (.lload_n 2, 1) ∧ decode cX10_days 57 = .ok (.lload 4, 2) ∧ decode cX10_days 59 = .ok (.invokestatic 218, 3) ∧ decode cX10_days 62 = .ok (.lstore 9, 2) := by decide +kernel
theorem dX10_days_44 : decode cX10_days 44 = .ok (.lload 4, 2) := dq_505.1
theorem dX10_days_46 : decode cX10_days 46 = .ok (.lmul, 1) := dq_505.2.1
theorem dX10_days_47 : decode cX10_days 47 = .ok (.ladd, 1) := dq_505.2.2.1
theorem dX10_days_48 : decode cX10_days 48 = .ok (.lstore_n 2, 1) := dq_505.2.2.2.1
theorem dX10_days_49 : decode cX10_days 49 = .ok (.lload 4, 2) := dq_505.2.2.2.2.1
theorem dX10_days_51 : decode cX10_days 51 = .ok (.lload 7, 2) := dq_505.2.2.2.2.2.1
theorem dX10_days_53 : decode cX10_days 53 = .ok (.lmul, 1) := dq_505.2.2.2.2.2.2.1
theorem dX10_days_54 : decode cX10_days 54 = .ok (.lstore 4, 2) := dq_505.2.2.2.2.2.2.2.1
theorem dX10_days_56 : decode cX10_days 56 = .ok (.lload_n 2, 1) := dq_505.2.2.2.2.2.2.2.2.1
theorem dX10_days_57 : decode cX10_days 57 = .ok (.lload 4, 2) := dq_505.2.2.2.2.2.2.2.2.2.1
theorem dX10_days_59 : decode cX10_days 59 = .ok (.invokestatic 218, 3) := dq_505.2.2.2.2.2.2.2.2.2.2.1
theorem dX10_days_62 : decode cX10_days 62 = .ok (.lstore 9, 2) := dq_505.2.2.2.2.2.2.2.2.2.2.2
theorem dq_506 : decode cX10_days 64 = .ok (.lload_n 2, 1) ∧ decode cX10_days 65 = .ok (.lload 9, 2) ∧ decode cX10_days 67 = .ok (.ldiv, 1) ∧ decode cX10_days 68 = .ok (.lstore_n 2, 1) ∧ decode cX10_days 69 = .ok (.lload 4, 2) ∧ decode cX10_days 71 = .ok (.lload 9, 2) ∧ decode cX10_days 73 = .ok (.ldiv, 1) ∧ decode cX10_days 74 = .ok (.lstore 4, 2) ∧ decode cX10_days 76 = .ok (.iinc 6 1, 3) ∧ decode cX10_days 79 = .ok (.goto (-71), 3) ∧ decode cX10_days 82 = .ok (.iload_n 1, 1) ∧ decode cX10_days 83 = .ok (.ifCond .eq 7, 3) := by decide +kernel
theorem dX10_days_64 : decode cX10_days 64 = .ok (.lload_n 2, 1) := dq_506.1
theorem dX10_days_65 : decode cX10_days 65 = .ok (.lload 9, 2) := dq_506.2.1
theorem dX10_days_67 : decode cX10_days 67 = .ok (.ldiv, 1) := dq_506.2.2.1
theorem dX10_days_68 : decode cX10_days 68 = .ok (.lstore_n 2, 1) := dq_506.2.2.2.1
theorem dX10_days_69 : decode cX10_days 69 = .ok (.lload 4, 2) := dq_506.2.2.2.2.1
theorem dX10_days_71 : decode cX10_days 71 = .ok (.lload 9, 2) := dq_506.2.2.2.2.2.1
theorem dX10_days_73 : decode cX10_days 73 = .ok (.ldiv, 1) := dq_506.2.2.2.2.2.2.1
theorem dX10_days_74 : decode cX10_days 74 = .ok (.lstore 4, 2) := dq_506.2.2.2.2.2.2.2.1
theorem dX10_days_76 : decode cX10_days 76 = .ok (.iinc 6 1, 3) := dq_506.2.2.2.2.2.2.2.2.1
theorem dX10_days_79 : decode cX10_days 79 = .ok (.goto (-71), 3) := dq_506.2.2.2.2.2.2.2.2.2.1
theorem dX10_days_82 : decode cX10_days 82 = .ok (.iload_n 1, 1) := dq_506.2.2.2.2.2.2.2.2.2.2.1
theorem dX10_days_83 : decode cX10_days 83 = .ok (.ifCond .eq 7, 3) := dq_506.2.2.2.2.2.2.2.2.2.2.2
theorem dq_507 : decode cX10_days 86 = .ok (.lload_n 2, 1) ∧ decode cX10_days 87 = .ok (.goto 5, 3) ∧ decode cX10_days 90 = .ok (.lload 4, 2) ∧ decode cX10_days 92 = .ok (.lreturn, 1) := by decide +kernel
theorem dX10_days_86 : decode cX10_days 86 = .ok (.lload_n 2, 1) := dq_507.1
theorem dX10_days_87 : decode cX10_days 87 = .ok (.goto 5, 3) := dq_507.2.1
theorem dX10_days_90 : decode cX10_days 90 = .ok (.lload 4, 2) := dq_507.2.2.1
theorem dX10_days_92 : decode cX10_days 92 = .ok (.lreturn, 1) := dq_507.2.2.2
theorem dq_508 : decode cX11_init 0 = .ok (.aload_n 0, 1) ∧ decode cX11_init 1 = .ok (.invokespecial 1, 3) ∧ decode cX11_init 4 = .ok (.aload_n 0, 1) ∧ decode cX11_init 5 = .ok (.sipush 400, 3) ∧ decode cX11_init 8 = .ok (.newarray .int, 2) ∧ decode cX11_init 10 = .ok (.putfield 7, 3) ∧ decode cX11_init 13 = .ok (.aload_n 0, 1) ∧ decode cX11_init 14 = .ok (.bipush 7, 2) ∧ decode cX11_init 16 = .ok (.newarray .int, 2) ∧ decode cX11_init 18 = .ok (.dup, 1) ∧ decode cX11_init 19 = .ok (.iconst 0, 1) ∧ decode cX11_init 20 = .ok (.iconst 0, 1) := by decide +kernel
theorem dX11_init_0 : decode cX11_init 0 = .ok (.aload_n 0, 1) := dq_508.1
theorem dX11_init_1 : decode cX11_init 1 = .ok (.invokespecial 1, 3) := dq_508.2.1
theorem dX11_init_4 : decode cX11_init 4 = .ok (.aload_n 0, 1) := dq_508.2.2.1
theorem dX11_init_5 : decode cX11_init 5 = .ok (.sipush 400, 3) := dq_508.2.2.2.1
theorem dX11_init_8 : decode cX11_init 8 = .ok (.newarray .int, 2) := dq_508.2.2.2.2.1
theorem dX11_init_10 : decode cX11_init 10 = .ok (.putfield 7, 3) := dq_508.2.2.2.2.2.1
theorem dX11_init_13 : decode cX11_init 13 = .ok (.aload_n 0, 1) := dq_508.2.2.2.2.2.2.1
theorem dX11_init_14 : decode cX11_init 14 = .ok (.bipush 7, 2) := dq_508.2.2.2.2.2.2.2.1
theorem dX11_init_16 : decode cX11_init 16 = .ok (.newarray .int, 2) := dq_508.2.2.2.2.2.2.2.2.1
theorem dX11_init_18 : decode cX11_init 18 = .ok (.dup, 1) := dq_508.2.2.2.2.2.2.2.2.2.1
theorem dX11_init_19 : decode cX11_init 19 = .ok (.iconst 0, 1) := dq_508.2.2.2.2.2.2.2.2.2.2.1
theorem dX11_init_20 : decode cX11_init 20 = .ok (.iconst 0, 1) := dq_508.2.2.2.2.2.2.2.2.2.2.2
theorem dq_509 : decode cX11_init 21 = .ok (.iastore, 1) ∧ decode cX11_init 22 = .ok (.dup, 1) ∧ decode cX11_init 23 = .ok (.iconst 1, 1) ∧ decode cX11_init 24 = .ok (.iconst 3, 1) ∧ decode cX11_init 25 = .ok (.iastore, 1) ∧ decode cX11_init 26 = .ok (.dup, 1) ∧ decode cX11_init 27 = .ok (.iconst 2, 1) ∧ decode cX11_init 28 = .ok (.bipush 8, 2) ∧ decode cX11_init 30 = .ok (.iastore, 1) ∧ decode cX11_init 31 = .ok (.dup, 1) ∧ decode cX11_init 32 = .ok (.iconst 3, 1) ∧ decode cX11_init 33 = .ok (.bipush 13, 2) := by decide +kernel
theorem dX11_init_21 : decode cX11_init 21 = .ok (.iastore, 1) := dq_509.1
theorem dX11_init_22 : decode cX11_init 22 = .ok (.dup, 1) := dq_509.2.1
theorem dX11_init_23 : decode cX11_init 23 = .ok (.iconst 1, 1) := dq_509.2.2.1
theorem dX11_init_24 : decode cX11_init 24 = .ok (.iconst 3, 1) := dq_509.2.2.2.1
theorem dX11_init_25 : decode cX11_init 25 = .ok (.iastore, 1) := dq_509.2.2.2.2.1
theorem dX11_init_26 : decode cX11_init 26 = .ok (.dup, 1) := dq_509.2.2.2.2.2.1
theorem dX11_init_27 : decode cX11_init 27 = .ok (.iconst 2, 1) := dq_509.2.2.2.2.2.2.1
theorem dX11_init_28 : decode cX11_init 28 = .ok (.bipush 8, 2) := dq_509.2.2.2.2.2.2.2.1
theorem dX11_init_30 : decode cX11_init 30 = .ok (.iastore, 1) := dq_509.2.2.2.2.2.2.2.2.1
theorem dX11_init_31 : decode cX11_init 31 = .ok (.dup, 1) := dq_509.2.2.2.2.2.2.2.2.2.1
theorem dX11_init_32 : decode cX11_init 32 = .ok (.iconst 3, 1) := dq_509.2.2.2.2.2.2.2.2.2.2.1
theorem dX11_init_33 : decode cX11_init 33 = .ok (.bipush 13, 2) := dq_509.2.2.2.2.2.2.2.2.2.2.2
theorem dq_510 : decode cX11_init 35 = .ok (.iastore, 1) ∧ decode cX11_init 36 = .ok (.dup, 1) ∧ decode cX11_init 37 = .ok (.iconst 4, 1) ∧ decode cX11_init 38 = .ok (.bipush 18, 2) ∧ decode cX11_init 40 = .ok (.iastore, 1) ∧ decode cX11_init 41 = .ok (.dup, 1) ∧ decode cX11_init 42 = .ok (.iconst 5, 1) ∧ decode cX11_init 43 = .ok (.bipush 24, 2) ∧ decode cX11_init 45 = .ok (.iastore, 1) ∧ decode cX11_init 46 = .ok (.dup, 1) ∧ decode cX11_init 47 = .ok (.bipush 6, 2) ∧ decode cX11_init 49 = .ok (.bipush 28, 2) := by decide +kernel
theorem dX11_init_35 : decode cX11_init 35 = .ok (.iastore, 1) := dq_510.1
theorem dX11_init_36 : decode cX11_init 36 = .ok (.dup, 1) := dq_510.2.1
theorem dX11_init_37 : decode cX11_init 37 = .ok (.iconst 4, 1) := dq_510.2.2.1
theorem dX11_init_38 : decode cX11_init 38 = .ok (.bipush 18, 2) := dq_510.2.2.2.1
theorem dX11_init_40 : decode cX11_init 40 = .ok (.iastore, 1) := dq_510.2.2.2.2.1
theorem dX11_init_41 : decode cX11_init 41 = .ok (.dup, 1) := dq_510.2.2.2.2.2.1
theorem dX11_init_42 : decode cX11_init 42 = .ok (.iconst 5, 1) := dq_510.2.2.2.2.2.2.1
theorem dX11_init_43 : decode cX11_init 43 = .ok (.bipush 24, 2) := dq_510.2.2.2.2.2.2.2.1
theorem dX11_init_45 : decode cX11_init 45 = .ok (.iastore, 1) := dq_510.2.2.2.2.2.2.2.2.1
theorem dX11_init_46 : decode cX11_init 46 = .ok (.dup, 1) := dq_510.2.2.2.2.2.2.2.2.2.1
theorem dX11_init_47 : decode cX11_init 47 = .ok (.bipush 6, 2) := dq_510.2.2.2.2.2.2.2.2.2.2.1
theorem dX11_init_49 : decode cX11_init 49 = .ok (.bipush 28, 2) := dq_510.2.2.2.2.2.2.2.2.2.2.2
theorem dq_511 : decode cX11_init 51 = .ok (.iastore, 1) ∧ decode cX11_init 52 = .ok (.putfield 13, 3) ∧ decode cX11_init 55 = .ok (.aload_n 0, 1) ∧ decode cX11_init 56 = .ok (.bipush 28, 2) ∧ decode cX11_init 58 = .ok (.newarray .int, 2) ∧ decode cX11_init 60 = .ok (.dup, 1) ∧ decode cX11_init 61 = .ok (.iconst 0, 1) ∧ decode cX11_init 62 = .ok (.bipush 114, 2) ∧ decode cX11_init 64 = .ok (.iastore, 1) ∧ decode cX11_init 65 = .ok (.dup, 1) ∧ decode cX11_init 66 = .ok (.iconst 1, 1) ∧ decode cX11_init 67 = .ok (.bipush 111, 2) := by decide +kernel
theorem dX11_init_51 : decode cX11_init 51 = .ok (.iastore, 1) := dq_511.1
theorem dX11_init_52 : decode cX11_init 52 = .ok (.putfield 13, 3) := dq_511.2.1
theorem dX11_init_55 : decode cX11_init 55 = .ok (.aload_n 0, 1) := dq_511.2.2.1
theorem dX11_init_56 : decode cX11_init 56 = .ok (.bipush 28, 2) := dq_511.2.2.2.1
theorem dX11_init_58 : decode cX11_init 58 = .ok (.newarray .int, 2) := dq_511.2.2.2.2.1
theorem dX11_init_60 : decode cX11_init 60 = .ok (.dup, 1) := dq_511.2.2.2.2.2.1
theorem dX11_init_61 : decode cX11_init 61 = .ok (.iconst 0, 1) := dq_511.2.2.2.2.2.2.1
theorem dX11_init_62 : decode cX11_init 62 = .ok (.bipush 114, 2) := dq_511.2.2.2.2.2.2.2.1
theorem dX11_init_64 : decode cX11_init 64 = .ok (.iastore, 1) := dq_511.2.2.2.2.2.2.2.2.1
theorem dX11_init_65 : decode cX11_init 65 = .ok (.dup, 1) := dq_511.2.2.2.2.2.2.2.2.2.1
theorem dX11_init_66 : decode cX11_init 66 = .ok (.iconst 1, 1) := dq_511.2.2.2.2.2.2.2.2.2.2.1
theorem dX11_init_67 : decode cX11_init 67 = .ok (.bipush 111, 2) := dq_511.2.2.2.2.2.2.2.2.2.2.2
theorem dq_512 : decode cX11_init 69 = .ok (.iastore, 1) ∧ decode cX11_init 70 = .ok (.dup, 1) ∧ decode cX11_init 71 = .ok (.iconst 2, 1) ∧ decode cX11_init 72 = .ok (.bipush 119, 2) ∧ decode cX11_init 74 = .ok (.iastore, 1) ∧ decode cX11_init 75 = .ok (.dup, 1) ∧ decode cX11_init 76 = .ok (.iconst 3, 1) ∧ decode cX11_init 77 = .ok (.bipush 112, 2) ∧ decode cX11_init 79 = .ok (.iastore, 1) ∧ decode cX11_init 80 = .ok (.dup, 1) ∧ decode cX11_init 81 = .ok (.iconst 4, 1) ∧ decode cX11_init 82 = .ok (.bipush 97, 2) := by decide +kernel
theorem dX11_init_69 : decode cX11_init 69 = .ok (.iastore, 1) := dq_512.1
theorem dX11_init_70 : decode cX11_init 70 = .ok (.dup, 1) := dq_512.2.1
theorem dX11_init_71 : decode cX11_init 71 = .ok (.iconst 2, 1) := dq_512.2.2.1
theorem dX11_init_72 : decode cX11_init 72 = .ok (.bipush 119, 2) := dq_512.2.2.2.1
theorem dX11_init_74 : decode cX11_init 74 = .ok (.iastore, 1) := dq_512.2.2.2.2.1
theorem dX11_init_75 : decode cX11_init 75 = .ok (.dup, 1) := dq_512.2.2.2.2.2.1
theorem dX11_init_76 : decode cX11_init 76 = .ok (.iconst 3, 1) := dq_512.2.2.2.2.2.2.1
theorem dX11_init_77 : decode cX11_init 77 = .ok (.bipush 112, 2) := dq_512.2.2.2.2.2.2.2.1
theorem dX11_init_79 : decode cX11_init 79 = .ok (.iastore, 1) := dq_512.2.2.2.2.2.2.2.2.1
theorem dX11_init_80 : decode cX11_init 80 = .ok (.dup, 1) := dq_512.2.2.2.2.2.2.2.2.2.1
theorem dX11_init_81 : decode cX11_init 81 = .ok (.iconst 4, 1) := dq_512.2.2.2.2.2.2.2.2.2.2.1
theorem dX11_init_82 : decode cX11_init 82 = .ok (.bipush 97, 2) := dq_512.2.2.2.2.2.2.2.2.2.2.2
theorem dq_513 : decode cX11_init 84 = .ok (.iastore, 1) ∧ decode cX11_init 85 = .ok (.dup, 1) ∧ decode cX11_init 86 = .ok (.iconst 5, 1) ∧ decode cX11_init 87 = .ok (.bipush 116, 2) ∧ decode cX11_init 89 = .ok (.iastore, 1) ∧ decode cX11_init 90 = .ok (.dup, 1) ∧ decode cX11_init 91 = .ok (.bipush 6, 2) ∧ decode cX11_init 93 = .ok (.bipush 99, 2) ∧ decode cX11_init 95 = .ok (.iastore, 1) ∧ decode cX11_init 96 = .ok (.dup, 1) ∧ decode cX11_init 97 = .ok (.bipush 7, 2) ∧ decode cX11_init 99 = .ok (.bipush 104, 2) := by decide +kernel
theorem dX11_init_84 : decode cX11_init 84 = .ok (.iastore, 1) := dq_513.1
theorem dX11_init_85 : decode cX11_init 85 = .ok (.dup, 1) := dq_513.2.1
theorem dX11_init_86 : decode cX11_init 86 = .ok (.iconst 5, 1) := dq_513.2.2.1
theorem dX11_init_87 : decode cX11_init 87 = .ok (.bipush 116, 2) := dq_513.2.2.2.1
theorem dX11_init_89 : decode cX11_init 89 = .ok (.iastore, 1) := dq_513.2.2.2.2.1
theorem dX11_init_90 : decode cX11_init 90 = .ok (.dup, 1) := dq_513.2.2.2.2.2.1
theorem dX11_init_91 : decode cX11_init 91 = .ok (.bipush 6, 2) := dq_513.2.2.2.2.2.2.1
theorem dX11_init_93 : decode cX11_init 93 = .ok (.bipush 99, 2) := dq_513.2.2.2.2.2.2.2.1
theorem dX11_init_95 : decode cX11_init 95 = .ok (.iastore, 1) := dq_513.2.2.2.2.2.2.2.2.1
theorem dX11_init_96 : decode cX11_init 96 = .ok (.dup, 1) := dq_513.2.2.2.2.2.2.2.2.2.1
theorem dX11_init_97 : decode cX11_init 97 = .ok (.bipush 7, 2) := dq_513.2.2.2.2.2.2.2.2.2.2.1
theorem dX11_init_99 : decode cX11_init 99 = .ok (.bipush 104, 2) := dq_513.2.2.2.2.2.2.2.2.2.2.2
theorem dq_514 : decode cX11_init 101 = .ok (.iastore, 1) ∧ decode cX11_init 102 = .ok (.dup, 1) ∧ decode cX11_init 103 = .ok (.bipush 8, 2) ∧ decode cX11_init 105 = .ok (.bipush 103, 2) ∧ decode cX11_init 107 = .ok (.iastore, 1) ∧ decode cX11_init 108 = .ok (.dup, 1) ∧ decode cX11_init 109 = .ok (.bipush 9, 2) ∧ decode cX11_init 111 = .ok (.bipush 105, 2) ∧ decode cX11_init 113 = .ok (.iastore, 1) ∧ decode cX11_init 114 = .ok (.dup, 1) ∧ decode cX11_init 115 = .ok (.bipush 10, 2) ∧ decode cX11_init 117 = .ok (.bipush 118, 2) := by decide +kernel
theorem dX11_init_101 : decode cX11_init 101 = .ok (.iastore, 1) := dq_514.1
theorem dX11_init_102 : decode cX11_init 102 = .ok (.dup, 1) := dq_514.2.1
theorem dX11_init_103 : decode cX11_init 103 = .ok (.bipush 8, 2) := dq_514.2.2.1
theorem dX11_init_105 : decode cX11_init 105 = .ok (.bipush 103, 2) := dq_514.2.2.2.1
theorem dX11_init_107 : decode cX11_init 107 = .ok (.iastore, 1) := dq_514.2.2.2.2.1
theorem dX11_init_108 : decode cX11_init 108 = .ok (.dup, 1) := dq_514.2.2.2.2.2.1
theorem dX11_init_109 : decode cX11_init 109 = .ok (.bipush 9, 2) := dq_514.2.2.2.2.2.2.1
theorem dX11_init_111 : decode cX11_init 111 = .ok (.bipush 105, 2) := dq_514.2.2.2.2.2.2.2.1
theorem dX11_init_113 : decode cX11_init 113 = .ok (.iastore, 1) := dq_514.2.2.2.2.2.2.2.2.1
theorem dX11_init_114 : decode cX11_init 114 = .ok (.dup, 1) := dq_514.2.2.2.2.2.2.2.2.2.1
theorem dX11_init_115 : decode cX11_init 115 = .ok (.bipush 10, 2) := dq_514.2.2.2.2.2.2.2.2.2.2.1
theorem dX11_init_117 : decode cX11_init 117 = .ok (.bipush 118, 2) := dq_514.2.2.2.2.2.2.2.2.2.2.2
theorem dq_515 : decode cX11_init 119 = .ok (.iastore, 1) ∧ decode cX11_init 120 = .ok (.dup, 1) ∧ decode cX11_init 121 = .ok (.bipush 11, 2) ∧ decode cX11_init 123 = .ok (.bipush 101, 2) ∧ decode cX11_init 125 = .ok (.iastore, 1) ∧ decode cX11_init 126 = .ok (.dup, 1) ∧ decode cX11_init 127 = .ok (.bipush 12, 2) ∧ decode cX11_init 129 = .ok (.bipush 115, 2) ∧ decode cX11_init 131 = .ok (.iastore, 1) ∧ decode cX11_init 132 = .ok (.dup, 1) ∧ decode cX11_init 133 = .ok (.bipush 13, 2) ∧ decode cX11_init 135 = .ok (.bipush 97, 2) := by decide +kernel
theorem dX11_init_119 : decode cX11_init 119 = .ok (.iastore, 1) := dq_515.1
theorem dX11_init_120 : decode cX11_init 120 = .ok (.dup, 1) := dq_515.2.1
theorem dX11_init_121 : decode cX11_init 121 = .ok (.bipush 11, 2) := dq_515.2.2.1
theorem dX11_init_123 : decode cX11_init 123 = .ok (.bipush 101, 2) := dq_515.2.2.2.1
theorem dX11_init_125 : decode cX11_init 125 = .ok (.iastore, 1) := dq_515.2.2.2.2.1
theorem dX11_init_126 : decode cX11_init 126 = .ok (.dup, 1) := dq_515.2.2.2.2.2.1
theorem dX11_init_127 : decode cX11_init 127 = .ok (.bipush 12, 2) := dq_515.2.2.2.2.2.2.1
theorem dX11_init_129 : decode cX11_init 129 = .ok (.bipush 115, 2) := dq_515.2.2.2.2.2.2.2.1
theorem dX11_init_131 : decode cX11_init 131 = .ok (.iastore, 1) := dq_515.2.2.2.2.2.2.2.2.1
theorem dX11_init_132 : decode cX11_init 132 = .ok (.dup, 1) := dq_515.2.2.2.2.2.2.2.2.2.1
theorem dX11_init_133 : decode cX11_init 133 = .ok (.bipush 13, 2) := dq_515.2.2.2.2.2.2.2.2.2.2.1
theorem dX11_init_135 : decode cX11_init 135 = .ok (.bipush 97, 2) := dq_515.2.2.2.2.2.2.2.2.2.2.2
theorem dq_516 : decode cX11_init 137 = .ok (.iastore, 1) ∧ decode cX11_init 138 = .ok (.dup, 1) ∧ decode cX11_init 139 = .ok (.bipush 14, 2) ∧ decode cX11_init 141 = .ok (.bipush 112, 2) ∧ decode cX11_init 143 = .ok (.iastore, 1) ∧ decode cX11_init 144 = .ok (.dup, 1) ∧ decode cX11_init 145 = .ok (.bipush 15, 2) ∧ decode cX11_init 147 = .ok (.bipush 97, 2) ∧ decode cX11_init 149 = .ok (.iastore, 1) ∧ decode cX11_init 150 = .ok (.dup, 1) ∧ decode cX11_init 151 = .ok (.bipush 16, 2) ∧ decode cX11_init 153 = .ok (.bipush 114, 2) := by decide +kernel
theorem dX11_init_137 : decode cX11_init 137 = .ok (.iastore, 1) := dq_516.1
theorem dX11_init_138 : decode cX11_init 138 = .ok (.dup, 1) := dq_516.2.1
theorem dX11_init_139 : decode cX11_init 139 = .ok (.bipush 14, 2) := dq_516.2.2.1
theorem dX11_init_141 : decode cX11_init 141 = .ok (.bipush 112, 2) := dq_516.2.2.2.1
theorem dX11_init_143 : decode cX11_init 143 = .ok (.iastore, 1) := dq_516.2.2.2.2.1
theorem dX11_init_144 : decode cX11_init 144 = .ok (.dup, 1) := dq_516.2.2.2.2.2.1
theorem dX11_init_145 : decode cX11_init 145 = .ok (.bipush 15, 2) := dq_516.2.2.2.2.2.2.1
theorem dX11_init_147 : decode cX11_init 147 = .ok (.bipush 97, 2) := dq_516.2.2.2.2.2.2.2.1
theorem dX11_init_149 : decode cX11_init 149 = .ok (.iastore, 1) := dq_516.2.2.2.2.2.2.2.2.1
theorem dX11_init_150 : decode cX11_init 150 = .ok (.dup, 1) := dq_516.2.2.2.2.2.2.2.2.2.1
theorem dX11_init_151 : decode cX11_init 151 = .ok (.bipush 16, 2) := dq_516.2.2.2.2.2.2.2.2.2.2.1
theorem dX11_init_153 : decode cX11_init 153 = .ok (.bipush 114, 2) := dq_516.2.2.2.2.2.2.2.2.2.2.2
theorem dq_517 : decode cX11_init 155 = .ok (.iastore, 1) ∧ decode cX11_init 156 = .ok (.dup, 1) ∧ decode cX11_init 157 = .ok (.bipush 17, 2) ∧ decode cX11_init 159 = .ok (.bipush 116, 2) ∧ decode cX11_init 161 = .ok (.iastore, 1) ∧ decode cX11_init 162 = .ok (.dup, 1) ∧ decode cX11_init 163 = .ok (.bipush 18, 2) ∧ decode cX11_init 165 = .ok (.bipush 113, 2) ∧ decode cX11_init 167 = .ok (.iastore, 1) ∧ decode cX11_init 168 = .ok (.dup, 1) ∧ decode cX11_init 169 = .ok (.bipush 19, 2) ∧ decode cX11_init 171 = .ok (.bipush 117, 2) := by decide +kernel
theorem dX11_init_155 : decode cX11_init 155 = .ok (.iastore, 1) := dq_517.1
theorem dX11_init_156 : decode cX11_init 156 = .ok (.dup, 1) := dq_517.2.1
theorem dX11_init_157 : decode cX11_init 157 = .ok (.bipush 17, 2) := dq_517.2.2.1
theorem dX11_init_159 : decode cX11_init 159 = .ok (.bipush 116, 2) := dq_517.2.2.2.1
theorem dX11_init_161 : decode cX11_init 161 = .ok (.iastore, 1) := dq_517.2.2.2.2.1
theorem dX11_init_162 : decode cX11_init 162 = .ok (.dup, 1) := dq_517.2.2.2.2.2.1
theorem dX11_init_163 : decode cX11_init 163 = .ok (.bipush 18, 2) := dq_517.2.2.2.2.2.2.1
theorem dX11_init_165 : decode cX11_init 165 = .ok (.bipush 113, 2) := dq_517.2.2.2.2.2.2.2.1
theorem dX11_init_167 : decode cX11_init 167 = .ok (.iastore, 1) := dq_517.2.2.2.2.2.2.2.2.1
theorem dX11_init_168 : decode cX11_init 168 = .ok (.dup, 1) := dq_517.2.2.2.2.2.2.2.2.2.1
theorem dX11_init_169 : decode cX11_init 169 = .ok (.bipush 19, 2) := dq_517.2.2.2.2.2.2.2.2.2.2.1
theorem dX11_init_171 : decode cX11_init 171 = .ok (.bipush 117, 2) := dq_517.2.2.2.2.2.2.2.2.2.2.2
theorem dq_518 : decode cX11_init 173 = .ok (.iastore, 1) ∧ decode cX11_init 174 = .ok (.dup, 1) ∧ decode cX11_init 175 = .ok (.bipush 20, 2) ∧ decode cX11_init 177 = .ok (.bipush 97, 2) ∧ decode cX11_init 179 = .ok (.iastore, 1) ∧ decode cX11_init 180 = .ok (.dup, 1) ∧ decode cX11_init 181 = .ok (.bipush 21, 2) ∧ decode cX11_init 183 = .ok (.bipush 114, 2) ∧ decode cX11_init 185 = .ok (.iastore, 1) ∧ decode cX11_init 186 = .ok (.dup, 1) ∧ decode cX11_init 187 = .ok (.bipush 22, 2) ∧ decode cX11_init 189 = .ok (.bipush 114, 2) := by decide +kernel
theorem dX11_init_173 : decode cX11_init 173 = .ok (.iastore, 1) := dq_518.1
theorem dX11_init_174 : decode cX11_init 174 = .ok (.dup, 1) := dq_518.2.1
theorem dX11_init_175 : decode cX11_init 175 = .ok (.bipush 20, 2) := dq_518.2.2.1
theorem dX11_init_177 : decode cX11_init 177 = .ok (.bipush 97, 2) := dq_518.2.2.2.1
theorem dX11_init_179 : decode cX11_init 179 = .ok (.iastore, 1) := dq_518.2.2.2.2.1
theorem dX11_init_180 : decode cX11_init 180 = .ok (.dup, 1) := dq_518.2.2.2.2.2.1
theorem dX11_init_181 : decode cX11_init 181 = .ok (.bipush 21, 2) := dq_518.2.2.2.2.2.2.1
theorem dX11_init_183 : decode cX11_init 183 = .ok (.bipush 114, 2) := dq_518.2.2.2.2.2.2.2.1
theorem dX11_init_185 : decode cX11_init 185 = .ok (.iastore, 1) := dq_518.2.2.2.2.2.2.2.2.1
theorem dX11_init_186 : decode cX11_init 186 = .ok (.dup, 1) := dq_518.2.2.2.2.2.2.2.2.2.1
theorem dX11_init_187 : decode cX11_init 187 = .ok (.bipush 22, 2) := dq_518.2.2.2.2.2.2.2.2.2.2.1
theorem dX11_init_189 : decode cX11_init 189 = .ok (.bipush 114, 2) := dq_518.2.2.2.2.2.2.2.2.2.2.2
theorem dq_519 : decode cX11_init 191 = .ok (.iastore, 1) ∧ decode cX11_init 192 = .ok (.dup, 1) ∧ decode cX11_init 193 = .ok (.bipush 23, 2) ∧ decode cX11_init 195 = .ok (.bipush 121, 2) ∧ decode cX11_init 197 = .ok (.iastore, 1) ∧ decode cX11_init 198 = .ok (.dup, 1) ∧ decode cX11_init 199 = .ok (.bipush 24, 2) ∧ decode cX11_init 201 = .ok (.bipush 98, 2) ∧ decode cX11_init 203 = .ok (.iastore, 1) ∧ decode cX11_init 204 = .ok (.dup, 1) ∧ decode cX11_init 205 = .ok (.bipush 25, 2) ∧ decode cX11_init 207 = .ok (.bipush 111, 2) := by decide +kernel
theorem dX11_init_191 : decode cX11_init 191 = .ok (.iastore, 1) := dq_519.1
theorem dX11_init_192 : decode cX11_init 192 = .ok (.dup, 1) := dq_519.2.1
theorem dX11_init_193 : decode cX11_init 193 = .ok (.bipush 23, 2) := dq_519.2.2.1
theorem dX11_init_195 : decode cX11_init 195 = .ok (.bipush 121, 2) := dq_519.2.2.2.1
theorem dX11_init_197 : decode cX11_init 197 = .ok (.iastore, 1) := dq_519.2.2.2.2.1
theorem dX11_init_198 : decode cX11_init 198 = .ok (.dup, 1) := dq_519.2.2.2.2.2.1
theorem dX11_init_199 : decode cX11_init 199 = .ok (.bipush 24, 2) := dq_519.2.2.2.2.2.2.1
theorem dX11_init_201 : decode cX11_init 201 = .ok (.bipush 98, 2) := dq_519.2.2.2.2.2.2.2.1
theorem dX11_init_203 : decode cX11_init 203 = .ok (.iastore, 1) := dq_519.2.2.2.2.2.2.2.2.1
theorem dX11_init_204 : decode cX11_init 204 = .ok (.dup, 1) := dq_519.2.2.2.2.2.2.2.2.2.1
theorem dX11_init_205 : decode cX11_init 205 = .ok (.bipush 25, 2) := dq_519.2.2.2.2.2.2.2.2.2.2.1
theorem dX11_init_207 : decode cX11_init 207 = .ok (.bipush 111, 2) := dq_519.2.2.2.2.2.2.2.2.2.2.2
theorem dq_520 : decode cX11_init 209 = .ok (.iastore, 1) ∧ decode cX11_init 210 = .ok (.dup, 1) ∧ decode cX11_init 211 = .ok (.bipush 26, 2) ∧ decode cX11_init 213 = .ok (.bipush 111, 2) ∧ decode cX11_init 215 = .ok (.iastore, 1) ∧ decode cX11_init 216 = .ok (.dup, 1) ∧ decode cX11_init 217 = .ok (.bipush 27, 2) ∧ decode cX11_init 219 = .ok (.bipush 107, 2) ∧ decode cX11_init 221 = .ok (.iastore, 1) ∧ decode cX11_init 222 = .ok (.putfield 16, 3) ∧ decode cX11_init 225 = .ok (.aload_n 0, 1) ∧ decode cX11_init 226 = .ok (.bipush 12, 2) := by decide +kernel
theorem dX11_init_209 : decode cX11_init 209 = .ok (.iastore, 1) := dq_520.1
theorem dX11_init_210 : decode cX11_init 210 = .ok (.dup, 1) := dq_520.2.1
theorem dX11_init_211 : decode cX11_init 211 = .ok (.bipush 26, 2) := dq_520.2.2.1
theorem dX11_init_213 : decode cX11_init 213 = .ok (.bipush 111, 2) := dq_520.2.2.2.1
theorem dX11_init_215 : decode cX11_init 215 = .ok (.iastore, 1) := dq_520.2.2.2.2.1
theorem dX11_init_216 : decode cX11_init 216 = .ok (.dup, 1) := dq_520.2.2.2.2.2.1
theorem dX11_init_217 : decode cX11_init 217 = .ok (.bipush 27, 2) := dq_520.2.2.2.2.2.2.1
theorem dX11_init_219 : decode cX11_init 219 = .ok (.bipush 107, 2) := dq_520.2.2.2.2.2.2.2.1
theorem dX11_init_221 : decode cX11_init 221 = .ok (.iastore, 1) := dq_520.2.2.2.2.2.2.2.2.1
theorem dX11_init_222 : decode cX11_init 222 = .ok (.putfield 16, 3) := dq_520.2.2.2.2.2.2.2.2.2.1
theorem dX11_init_225 : decode cX11_init 225 = .ok (.aload_n 0, 1) := dq_520.2.2.2.2.2.2.2.2.2.2.1
theorem dX11_init_226 : decode cX11_init 226 = .ok (.bipush 12, 2) := dq_520.2.2.2.2.2.2.2.2.2.2.2
theorem dq_521 : decode cX11_init 228 = .ok (.newarray .int, 2) ∧ decode cX11_init 230 = .ok (.putfield 19, 3) ∧ decode cX11_init 233 = .ok (.aload_n 0, 1) ∧ decode cX11_init 234 = .ok (.bipush 12, 2) ∧ decode cX11_init 236 = .ok (.newarray .int, 2) ∧ decode cX11_init 238 = .ok (.putfield 22, 3) ∧ decode cX11_init 241 = .ok (.aload_n 0, 1) ∧ decode cX11_init 242 = .ok (.bipush 12, 2) ∧ decode cX11_init 244 = .ok (.newarray .int, 2) ∧ decode cX11_init 246 = .ok (.putfield 25, 3) ∧ decode cX11_init 249 = .ok (.aload_n 0, 1) ∧ decode cX11_init 250 = .ok (.bipush 64, 2) := by decide +kernel
theorem dX11_init_228 : decode cX11_init 228 = .ok (.newarray .int, 2) := dq_521.1
theorem dX11_init_230 : decode cX11_init 230 = .ok (.putfield 19, 3) := dq_521.2.1
theorem dX11_init_233 : decode cX11_init 233 = .ok (.aload_n 0, 1) := dq_521.2.2.1
theorem dX11_init_234 : decode cX11_init 234 = .ok (.bipush 12, 2) := dq_521.2.2.2.1
theorem dX11_init_236 : decode cX11_init 236 = .ok (.newarray .int, 2) := dq_521.2.2.2.2.1
theorem dX11_init_238 : decode cX11_init 238 = .ok (.putfield 22, 3) := dq_521.2.2.2.2.2.1
theorem dX11_init_241 : decode cX11_init 241 = .ok (.aload_n 0, 1) := dq_521.2.2.2.2.2.2.1
theorem dX11_init_242 : decode cX11_init 242 = .ok (.bipush 12, 2) := dq_521.2.2.2.2.2.2.2.1
theorem dX11_init_244 : decode cX11_init 244 = .ok (.newarray .int, 2) := dq_521.2.2.2.2.2.2.2.2.1
theorem dX11_init_246 : decode cX11_init 246 = .ok (.putfield 25, 3) := dq_521.2.2.2.2.2.2.2.2.2.1
theorem dX11_init_249 : decode cX11_init 249 = .ok (.aload_n 0, 1) := dq_521.2.2.2.2.2.2.2.2.2.2.1
theorem dX11_init_250 : decode cX11_init 250 = .ok (.bipush 64, 2) := dq_521.2.2.2.2.2.2.2.2.2.2.2
theorem dq_522 : decode cX11_init 252 = .ok (.newarray .int, 2) ∧ decode cX11_init 254 = .ok (.putfield 28, 3) ∧ decode cX11_init 257 = .ok (.aload_n 0, 1) ∧ decode cX11_init 258 = .ok (.bipush 10, 2) ∧ decode cX11_init 260 = .ok (.putfield 31, 3) ∧ decode cX11_init 263 = .ok (.aload_n 0, 1) ∧ decode cX11_init 264 = .ok (.bipush 6, 2) ∧ decode cX11_init 266 = .ok (.newarray .int, 2) ∧ decode cX11_init 268 = .ok (.dup, 1) ∧ decode cX11_init 269 = .ok (.iconst 0, 1) ∧ decode cX11_init 270 = .ok (.iconst 1, 1) ∧ decode cX11_init 271 = .ok (.iastore, 1) := by decide +kernel
theorem dX11_init_252 : decode cX11_init 252 = .ok (.newarray .int, 2) := dq_522.1
theorem dX11_init_254 : decode cX11_init 254 = .ok (.putfield 28, 3) := dq_522.2.1
theorem dX11_init_257 : decode cX11_init 257 = .ok (.aload_n 0, 1) := dq_522.2.2.1
theorem dX11_init_258 : decode cX11_init 258 = .ok (.bipush 10, 2) := dq_522.2.2.2.1
theorem dX11_init_260 : decode cX11_init 260 = .ok (.putfield 31, 3) := dq_522.2.2.2.2.1
theorem dX11_init_263 : decode cX11_init 263 = .ok (.aload_n 0, 1) := dq_522.2.2.2.2.2.1
theorem dX11_init_264 : decode cX11_init 264 = .ok (.bipush 6, 2) := dq_522.2.2.2.2.2.2.1
theorem dX11_init_266 : decode cX11_init 266 = .ok (.newarray .int, 2) := dq_522.2.2.2.2.2.2.2.1
theorem dX11_init_268 : decode cX11_init 268 = .ok (.dup, 1) := dq_522.2.2.2.2.2.2.2.2.1
theorem dX11_init_269 : decode cX11_init 269 = .ok (.iconst 0, 1) := dq_522.2.2.2.2.2.2.2.2.2.1
theorem dX11_init_270 : decode cX11_init 270 = .ok (.iconst 1, 1) := dq_522.2.2.2.2.2.2.2.2.2.2.1
theorem dX11_init_271 : decode cX11_init 271 = .ok (.iastore, 1) := dq_522.2.2.2.2.2.2.2.2.2.2.2
theorem dq_523 : decode cX11_init 272 = .ok (.dup, 1) ∧ decode cX11_init 273 = .ok (.iconst 1, 1) ∧ decode cX11_init 274 = .ok (.iconst 1, 1) ∧ decode cX11_init 275 = .ok (.iastore, 1) ∧ decode cX11_init 276 = .ok (.dup, 1) ∧ decode cX11_init 277 = .ok (.iconst 2, 1) ∧ decode cX11_init 278 = .ok (.iconst 1, 1) ∧ decode cX11_init 279 = .ok (.iastore, 1) ∧ decode cX11_init 280 = .ok (.dup, 1) ∧ decode cX11_init 281 = .ok (.iconst 3, 1) ∧ decode cX11_init 282 = .ok (.iconst 1, 1) ∧ decode cX11_init 283 = .ok (.iastore, 1) := by decide +kernel
theorem dX11_init_272 : decode cX11_init 272 = .ok (.dup, 1) := dq_523.1
theorem dX11_init_273 : decode cX11_init 273 = .ok (.iconst 1, 1) := dq_523.2.1
theorem dX11_init_274 : decode cX11_init 274 = .ok (.iconst 1, 1) := dq_523.2.2.1
theorem dX11_init_275 : decode cX11_init 275 = .ok (.iastore, 1) := dq_523.2.2.2.1
theorem dX11_init_276 : decode cX11_init 276 = .ok (.dup, 1) := dq_523.2.2.2.2.1
theorem dX11_init_277 : decode cX11_init 277 = .ok (.iconst 2, 1) := dq_523.2.2.2.2.2.1
theorem dX11_init_278 : decode cX11_init 278 = .ok (.iconst 1, 1) := dq_523.2.2.2.2.2.2.1
theorem dX11_init_279 : decode cX11_init 279 = .ok (.iastore, 1) := dq_523.2.2.2.2.2.2.2.1
theorem dX11_init_280 : decode cX11_init 280 = .ok (.dup, 1) := dq_523.2.2.2.2.2.2.2.2.1
theorem dX11_init_281 : decode cX11_init 281 = .ok (.iconst 3, 1) := dq_523.2.2.2.2.2.2.2.2.2.1
theorem dX11_init_282 : decode cX11_init 282 = .ok (.iconst 1, 1) := dq_523.2.2.2.2.2.2.2.2.2.2.1
theorem dX11_init_283 : decode cX11_init 283 = .ok (.iastore, 1) := dq_523.2.2.2.2.2.2.2.2.2.2.2
theorem dq_524 : decode cX11_init 284 = .ok (.dup, 1) ∧ decode cX11_init 285 = .ok (.iconst 4, 1) ∧ decode cX11_init 286 = .ok (.iconst 1, 1) ∧ decode cX11_init 287 = .ok (.iastore, 1) ∧ decode cX11_init 288 = .ok (.dup, 1) ∧ decode cX11_init 289 = .ok (.iconst 5, 1) ∧ decode cX11_init 290 = .ok (.iconst 1, 1) ∧ decode cX11_init 291 = .ok (.iastore, 1) ∧ decode cX11_init 292 = .ok (.putfield 35, 3) ∧ decode cX11_init 295 = .ok (.aload_n 0, 1) ∧ decode cX11_init 296 = .ok (.bipush 6, 2) ∧ decode cX11_init 298 = .ok (.newarray .int, 2) := by decide +kernel
theorem dX11_init_284 : decode cX11_init 284 = .ok (.dup, 1) := dq_524.1
theorem dX11_init_285 : decode cX11_init 285 = .ok (.iconst 4, 1) := dq_524.2.1
theorem dX11_init_286 : decode cX11_init 286 = .ok (.iconst 1, 1) := dq_524.2.2.1
theorem dX11_init_287 : decode cX11_init 287 = .ok (.iastore, 1) := dq_524.2.2.2.1
theorem dX11_init_288 : decode cX11_init 288 = .ok (.dup, 1) := dq_524.2.2.2.2.1
theorem dX11_init_289 : decode cX11_init 289 = .ok (.iconst 5, 1) := dq_524.2.2.2.2.2.1
theorem dX11_init_290 : decode cX11_init 290 = .ok (.iconst 1, 1) := dq_524.2.2.2.2.2.2.1
theorem dX11_init_291 : decode cX11_init 291 = .ok (.iastore, 1) := dq_524.2.2.2.2.2.2.2.1
theorem dX11_init_292 : decode cX11_init 292 = .ok (.putfield 35, 3) := dq_524.2.2.2.2.2.2.2.2.1
theorem dX11_init_295 : decode cX11_init 295 = .ok (.aload_n 0, 1) := dq_524.2.2.2.2.2.2.2.2.2.1
theorem dX11_init_296 : decode cX11_init 296 = .ok (.bipush 6, 2) := dq_524.2.2.2.2.2.2.2.2.2.2.1
theorem dX11_init_298 : decode cX11_init 298 = .ok (.newarray .int, 2) := dq_524.2.2.2.2.2.2.2.2.2.2.2
theorem dq_525 : decode cX11_init 300 = .ok (.dup, 1) ∧ decode cX11_init 301 = .ok (.iconst 0, 1) ∧ decode cX11_init 302 = .ok (.bipush 10, 2) ∧ decode cX11_init 304 = .ok (.iastore, 1) ∧ decode cX11_init 305 = .ok (.dup, 1) ∧ decode cX11_init 306 = .ok (.iconst 1, 1) ∧ decode cX11_init 307 = .ok (.bipush 10, 2) ∧ decode cX11_init 309 = .ok (.iastore, 1) ∧ decode cX11_init 310 = .ok (.dup, 1) ∧ decode cX11_init 311 = .ok (.iconst 2, 1) ∧ decode cX11_init 312 = .ok (.bipush 10, 2) ∧ decode cX11_init 314 = .ok (.iastore, 1) := by decide +kernel
theorem dX11_init_300 : decode cX11_init 300 = .ok (.dup, 1) := dq_525.1
theorem dX11_init_301 : decode cX11_init 301 = .ok (.iconst 0, 1) := dq_525.2.1
theorem dX11_init_302 : decode cX11_init 302 = .ok (.bipush 10, 2) := dq_525.2.2.1
theorem dX11_init_304 : decode cX11_init 304 = .ok (.iastore, 1) := dq_525.2.2.2.1
theorem dX11_init_305 : decode cX11_init 305 = .ok (.dup, 1) := dq_525.2.2.2.2.1
theorem dX11_init_306 : decode cX11_init 306 = .ok (.iconst 1, 1) := dq_525.2.2.2.2.2.1
theorem dX11_init_307 : decode cX11_init 307 = .ok (.bipush 10, 2) := dq_525.2.2.2.2.2.2.1
theorem dX11_init_309 : decode cX11_init 309 = .ok (.iastore, 1) := dq_525.2.2.2.2.2.2.2.1
theorem dX11_init_310 : decode cX11_init 310 = .ok (.dup, 1) := dq_525.2.2.2.2.2.2.2.2.1
theorem dX11_init_311 : decode cX11_init 311 = .ok (.iconst 2, 1) := dq_525.2.2.2.2.2.2.2.2.2.1
theorem dX11_init_312 : decode cX11_init 312 = .ok (.bipush 10, 2) := dq_525.2.2.2.2.2.2.2.2.2.2.1
theorem dX11_init_314 : decode cX11_init 314 = .ok (.iastore, 1) := dq_525.2.2.2.2.2.2.2.2.2.2.2
theorem dq_526 : decode cX11_init 315 = .ok (.dup, 1) ∧ decode cX11_init 316 = .ok (.iconst 3, 1) ∧ decode cX11_init 317 = .ok (.bipush 10, 2) ∧ decode cX11_init 319 = .ok (.iastore, 1) ∧ decode cX11_init 320 = .ok (.dup, 1) ∧ decode cX11_init 321 = .ok (.iconst 4, 1) ∧ decode cX11_init 322 = .ok (.bipush 10, 2) ∧ decode cX11_init 324 = .ok (.iastore, 1) ∧ decode cX11_init 325 = .ok (.dup, 1) ∧ decode cX11_init 326 = .ok (.iconst 5, 1) ∧ decode cX11_init 327 = .ok (.bipush 10, 2) ∧ decode cX11_init 329 = .ok (.iastore, 1) := by decide +kernel
theorem dX11_init_315 : decode cX11_init 315 = .ok (.dup, 1) := dq_526.1
theorem dX11_init_316 : decode cX11_init 316 = .ok (.iconst 3, 1) := dq_526.2.1
theorem dX11_init_317 : decode cX11_init 317 = .ok (.bipush 10, 2) := dq_526.2.2.1
theorem dX11_init_319 : decode cX11_init 319 = .ok (.iastore, 1) := dq_526.2.2.2.1
theorem dX11_init_320 : decode cX11_init 320 = .ok (.dup, 1) := dq_526.2.2.2.2.1
theorem dX11_init_321 : decode cX11_init 321 = .ok (.iconst 4, 1) := dq_526.2.2.2.2.2.1
theorem dX11_init_322 : decode cX11_init 322 = .ok (.bipush 10, 2) := dq_526.2.2.2.2.2.2.1
theorem dX11_init_324 : decode cX11_init 324 = .ok (.iastore, 1) := dq_526.2.2.2.2.2.2.2.1
theorem dX11_init_325 : decode cX11_init 325 = .ok (.dup, 1) := dq_526.2.2.2.2.2.2.2.2.1
theorem dX11_init_326 : decode cX11_init 326 = .ok (.iconst 5, 1) := dq_526.2.2.2.2.2.2.2.2.2.1
theorem dX11_init_327 : decode cX11_init 327 = .ok (.bipush 10, 2) := dq_526.2.2.2.2.2.2.2.2.2.2.1
theorem dX11_init_329 : decode cX11_init 329 = .ok (.iastore, 1) := dq_526.2.2.2.2.2.2.2.2.2.2.2
theorem dq_527 : decode cX11_init 330 = .ok (.putfield 38, 3) ∧ decode cX11_init 333 = .ok (.aload_n 0, 1) ∧ decode cX11_init 334 = .ok (.bipush 12, 2) ∧ decode cX11_init 336 = .ok (.newarray .int, 2) ∧ decode cX11_init 338 = .ok (.putfield 41, 3) ∧ decode cX11_init 341 = .ok (.aload_n 0, 1) ∧ decode cX11_init 342 = .ok (.bipush 12, 2) ∧ decode cX11_init 344 = .ok (.newarray .int, 2) ∧ decode cX11_init 346 = .ok (.putfield 44, 3) ∧ decode cX11_init 349 = .ok (.aload_n 0, 1) ∧ decode cX11_init 350 = .ok (.bipush 12, 2) ∧ decode cX11_init 352 = .ok (.newarray .int, 2) := by decide +kernel
theorem dX11_init_330 : decode cX11_init 330 = .ok (.putfield 38, 3) := dq_527.1
theorem dX11_init_333 : decode cX11_init 333 = .ok (.aload_n 0, 1) := dq_527.2.1
theorem dX11_init_334 : decode cX11_init 334 = .ok (.bipush 12, 2) := dq_527.2.2.1
theorem dX11_init_336 : decode cX11_init 336 = .ok (.newarray .int, 2) := dq_527.2.2.2.1
theorem dX11_init_338 : decode cX11_init 338 = .ok (.putfield 41, 3) := dq_527.2.2.2.2.1
theorem dX11_init_341 : decode cX11_init 341 = .ok (.aload_n 0, 1) := dq_527.2.2.2.2.2.1
theorem dX11_init_342 : decode cX11_init 342 = .ok (.bipush 12, 2) := dq_527.2.2.2.2.2.2.1
theorem dX11_init_344 : decode cX11_init 344 = .ok (.newarray .int, 2) := dq_527.2.2.2.2.2.2.2.1
theorem dX11_init_346 : decode cX11_init 346 = .ok (.putfield 44, 3) := dq_527.2.2.2.2.2.2.2.2.1
theorem dX11_init_349 : decode cX11_init 349 = .ok (.aload_n 0, 1) := dq_527.2.2.2.2.2.2.2.2.2.1
theorem dX11_init_350 : decode cX11_init 350 = .ok (.bipush 12, 2) := dq_527.2.2.2.2.2.2.2.2.2.2.1
theorem dX11_init_352 : decode cX11_init 352 = .ok (.newarray .int, 2) := dq_527.2.2.2.2.2.2.2.2.2.2.2
theorem dq_528 : decode cX11_init 354 = .ok (.putfield 47, 3) ∧ decode cX11_init 357 = .ok (.aload_n 0, 1) ∧ decode cX11_init 358 = .ok (.bipush 12, 2) ∧ decode cX11_init 360 = .ok (.newarray .int, 2) ∧ decode cX11_init 362 = .ok (.putfield 50, 3) ∧ decode cX11_init 365 = .ok (.aload_n 0, 1) ∧ decode cX11_init 366 = .ok (.bipush 64, 2) ∧ decode cX11_init 368 = .ok (.newarray .int, 2) ∧ decode cX11_init 370 = .ok (.putfield 53, 3) ∧ decode cX11_init 373 = .ok (.aload_n 0, 1) ∧ decode cX11_init 374 = .ok (.bipush 6, 2) ∧ decode cX11_init 376 = .ok (.newarray .int, 2) := by decide +kernel
theorem dX11_init_354 : decode cX11_init 354 = .ok (.putfield 47, 3) := dq_528.1
theorem dX11_init_357 : decode cX11_init 357 = .ok (.aload_n 0, 1) := dq_528.2.1
theorem dX11_init_358 : decode cX11_init 358 = .ok (.bipush 12, 2) := dq_528.2.2.1
theorem dX11_init_360 : decode cX11_init 360 = .ok (.newarray .int, 2) := dq_528.2.2.2.1
theorem dX11_init_362 : decode cX11_init 362 = .ok (.putfield 50, 3) := dq_528.2.2.2.2.1
theorem dX11_init_365 : decode cX11_init 365 = .ok (.aload_n 0, 1) := dq_528.2.2.2.2.2.1
theorem dX11_init_366 : decode cX11_init 366 = .ok (.bipush 64, 2) := dq_528.2.2.2.2.2.2.1
theorem dX11_init_368 : decode cX11_init 368 = .ok (.newarray .int, 2) := dq_528.2.2.2.2.2.2.2.1
theorem dX11_init_370 : decode cX11_init 370 = .ok (.putfield 53, 3) := dq_528.2.2.2.2.2.2.2.2.1
theorem dX11_init_373 : decode cX11_init 373 = .ok (.aload_n 0, 1) := dq_528.2.2.2.2.2.2.2.2.2.1
theorem dX11_init_374 : decode cX11_init 374 = .ok (.bipush 6, 2) := dq_528.2.2.2.2.2.2.2.2.2.2.1
theorem dX11_init_376 : decode cX11_init 376 = .ok (.newarray .int, 2) := dq_528.2.2.2.2.2.2.2.2.2.2.2
theorem dq_529 : decode cX11_init 378 = .ok (.putfield 56, 3) ∧ decode cX11_init 381 = .ok (.aload_n 0, 1) ∧ decode cX11_init 382 = .ok (.bipush 6, 2) ∧ decode cX11_init 384 = .ok (.newarray .int, 2) ∧ decode cX11_init 386 = .ok (.putfield 59, 3) ∧ decode cX11_init 389 = .ok (.aload_n 0, 1) ∧ decode cX11_init 390 = .ok (.bipush 12, 2) ∧ decode cX11_init 392 = .ok (.newarray .int, 2) ∧ decode cX11_init 394 = .ok (.putfield 62, 3) ∧ decode cX11_init 397 = .ok (.aload_n 0, 1) ∧ decode cX11_init 398 = .ok (.sipush 4096, 3) ∧ decode cX11_init 401 = .ok (.newarray .long, 2) := by decide +kernel
theorem dX11_init_378 : decode cX11_init 378 = .ok (.putfield 56, 3) := dq_529.1
theorem dX11_init_381 : decode cX11_init 381 = .ok (.aload_n 0, 1) := dq_529.2.1
theorem dX11_init_382 : decode cX11_init 382 = .ok (.bipush 6, 2) := dq_529.2.2.1
theorem dX11_init_384 : decode cX11_init 384 = .ok (.newarray .int, 2) := dq_529.2.2.2.1
theorem dX11_init_386 : decode cX11_init 386 = .ok (.putfield 59, 3) := dq_529.2.2.2.2.1
theorem dX11_init_389 : decode cX11_init 389 = .ok (.aload_n 0, 1) := dq_529.2.2.2.2.2.1
theorem dX11_init_390 : decode cX11_init 390 = .ok (.bipush 12, 2) := dq_529.2.2.2.2.2.2.1
theorem dX11_init_392 : decode cX11_init 392 = .ok (.newarray .int, 2) := dq_529.2.2.2.2.2.2.2.1
theorem dX11_init_394 : decode cX11_init 394 = .ok (.putfield 62, 3) := dq_529.2.2.2.2.2.2.2.2.1
theorem dX11_init_397 : decode cX11_init 397 = .ok (.aload_n 0, 1) := dq_529.2.2.2.2.2.2.2.2.2.1
theorem dX11_init_398 : decode cX11_init 398 = .ok (.sipush 4096, 3) := dq_529.2.2.2.2.2.2.2.2.2.2.1
theorem dX11_init_401 : decode cX11_init 401 = .ok (.newarray .long, 2) := dq_529.2.2.2.2.2.2.2.2.2.2.2
theorem dq_530 : decode cX11_init 403 = .ok (.putfield 65, 3) ∧ decode cX11_init 406 = .ok (.aload_n 0, 1) ∧ decode cX11_init 407 = .ok (.bipush 24, 2) ∧ decode cX11_init 409 = .ok (.newarray .int, 2) ∧ decode cX11_init 411 = .ok (.putfield 69, 3) ∧ decode cX11_init 414 = .ok (.aload_n 0, 1) ∧ decode cX11_init 415 = .ok (.bipush 64, 2) ∧ decode cX11_init 417 = .ok (.newarray .int, 2) ∧ decode cX11_init 419 = .ok (.dup, 1) ∧ decode cX11_init 420 = .ok (.iconst 0, 1) ∧ decode cX11_init 421 = .ok (.iconst (-1), 1) ∧ decode cX11_init 422 = .ok (.iastore, 1) := by decide +kernel
theorem dX11_init_403 : decode cX11_init 403 = .ok (.putfield 65, 3) := dq_530.1
theorem dX11_init_406 : decode cX11_init 406 = .ok (.aload_n 0, 1) := dq_530.2.1
theorem dX11_init_407 : decode cX11_init 407 = .ok (.bipush 24, 2) := dq_530.2.2.1
theorem dX11_init_409 : decode cX11_init 409 = .ok (.newarray .int, 2) := dq_530.2.2.2.1
theorem dX11_init_411 : decode cX11_init 411 = .ok (.putfield 69, 3) := dq_530.2.2.2.2.1
theorem dX11_init_414 : decode cX11_init 414 = .ok (.aload_n 0, 1) := dq_530.2.2.2.2.2.1
theorem dX11_init_415 : decode cX11_init 415 = .ok (.bipush 64, 2) := dq_530.2.2.2.2.2.2.1
theorem dX11_init_417 : decode cX11_init 417 = .ok (.newarray .int, 2) := dq_530.2.2.2.2.2.2.2.1
theorem dX11_init_419 : decode cX11_init 419 = .ok (.dup, 1) := dq_530.2.2.2.2.2.2.2.2.1
theorem dX11_init_420 : decode cX11_init 420 = .ok (.iconst 0, 1) := dq_530.2.2.2.2.2.2.2.2.2.1
theorem dX11_init_421 : decode cX11_init 421 = .ok (.iconst (-1), 1) := dq_530.2.2.2.2.2.2.2.2.2.2.1
theorem dX11_init_422 : decode cX11_init 422 = .ok (.iastore, 1) := dq_530.2.2.2.2.2.2.2.2.2.2.2
theorem dq_531 : decode cX11_init 423 = .ok (.dup, 1) ∧ decode cX11_init 424 = .ok (.iconst 1, 1) ∧ decode cX11_init 425 = .ok (.iconst (-1), 1) ∧ decode cX11_init 426 = .ok (.iastore, 1) ∧ decode cX11_init 427 = .ok (.dup, 1) ∧ decode cX11_init 428 = .ok (.iconst 2, 1) ∧ decode cX11_init 429 = .ok (.iconst (-1), 1) ∧ decode cX11_init 430 = .ok (.iastore, 1) ∧ decode cX11_init 431 = .ok (.dup, 1) ∧ decode cX11_init 432 = .ok (.iconst 3, 1) ∧ decode cX11_init 433 = .ok (.iconst (-1), 1) ∧ decode cX11_init 434 = .ok (.iastore, 1) := by decide +kernel
theorem dX11_init_423 : decode cX11_init 423 = .ok (.dup, 1) := dq_531.1
theorem dX11_init_424 : decode cX11_init 424 = .ok (.iconst 1, 1) := dq_531.2.1
theorem dX11_init_425 : decode cX11_init 425 = .ok (.iconst (-1), 1) := dq_531.2.2.1
theorem dX11_init_426 : decode cX11_init 426 = .ok (.iastore, 1) := dq_531.2.2.2.1
theorem dX11_init_427 : decode cX11_init 427 = .ok (.dup, 1) := dq_531.2.2.2.2.1
theorem dX11_init_428 : decode cX11_init 428 = .ok (.iconst 2, 1) := dq_531.2.2.2.2.2.1
theorem dX11_init_429 : decode cX11_init 429 = .ok (.iconst (-1), 1) := dq_531.2.2.2.2.2.2.1
theorem dX11_init_430 : decode cX11_init 430 = .ok (.iastore, 1) := dq_531.2.2.2.2.2.2.2.1
theorem dX11_init_431 : decode cX11_init 431 = .ok (.dup, 1) := dq_531.2.2.2.2.2.2.2.2.1
theorem dX11_init_432 : decode cX11_init 432 = .ok (.iconst 3, 1) := dq_531.2.2.2.2.2.2.2.2.2.1
theorem dX11_init_433 : decode cX11_init 433 = .ok (.iconst (-1), 1) := dq_531.2.2.2.2.2.2.2.2.2.2.1
theorem dX11_init_434 : decode cX11_init 434 = .ok (.iastore, 1) := dq_531.2.2.2.2.2.2.2.2.2.2.2
theorem dq_532 : decode cX11_init 435 = .ok (.dup, 1) ∧ decode cX11_init 436 = .ok (.iconst 4, 1) ∧ decode cX11_init 437 = .ok (.iconst (-1), 1) ∧ decode cX11_init 438 = .ok (.iastore, 1) ∧ decode cX11_init 439 = .ok (.dup, 1) ∧ decode cX11_init 440 = .ok (.iconst 5, 1) ∧ decode cX11_init 441 = .ok (.iconst (-1), 1) ∧ decode cX11_init 442 = .ok (.iastore, 1) ∧ decode cX11_init 443 = .ok (.dup, 1) ∧ decode cX11_init 444 = .ok (.bipush 6, 2) ∧ decode cX11_init 446 = .ok (.iconst (-1), 1) ∧ decode cX11_init 447 = .ok (.iastore, 1) := by decide +kernel
theorem dX11_init_435 : decode cX11_init 435 = .ok (.dup, 1) := dq_532.1
theorem dX11_init_436 : decode cX11_init 436 = .ok (.iconst 4, 1) := dq_532.2.1
theorem dX11_init_437 : decode cX11_init 437 = .ok (.iconst (-1), 1) := dq_532.2.2.1
theorem dX11_init_438 : decode cX11_init 438 = .ok (.iastore, 1) := dq_532.2.2.2.1
theorem dX11_init_439 : decode cX11_init 439 = .ok (.dup, 1) := dq_532.2.2.2.2.1
theorem dX11_init_440 : decode cX11_init 440 = .ok (.iconst 5, 1) := dq_532.2.2.2.2.2.1
theorem dX11_init_441 : decode cX11_init 441 = .ok (.iconst (-1), 1) := dq_532.2.2.2.2.2.2.1
theorem dX11_init_442 : decode cX11_init 442 = .ok (.iastore, 1) := dq_532.2.2.2.2.2.2.2.1
theorem dX11_init_443 : decode cX11_init 443 = .ok (.dup, 1) := dq_532.2.2.2.2.2.2.2.2.1
theorem dX11_init_444 : decode cX11_init 444 = .ok (.bipush 6, 2) := dq_532.2.2.2.2.2.2.2.2.2.1
theorem dX11_init_446 : decode cX11_init 446 = .ok (.iconst (-1), 1) := dq_532.2.2.2.2.2.2.2.2.2.2.1
theorem dX11_init_447 : decode cX11_init 447 = .ok (.iastore, 1) := dq_532.2.2.2.2.2.2.2.2.2.2.2
theorem dq_533 : decode cX11_init 448 = .ok (.dup, 1) ∧ decode cX11_init 449 = .ok (.bipush 7, 2) ∧ decode cX11_init 451 = .ok (.iconst (-1), 1) ∧ decode cX11_init 452 = .ok (.iastore, 1) ∧ decode cX11_init 453 = .ok (.dup, 1) ∧ decode cX11_init 454 = .ok (.bipush 8, 2) ∧ decode cX11_init 456 = .ok (.iconst (-1), 1) ∧ decode cX11_init 457 = .ok (.iastore, 1) ∧ decode cX11_init 458 = .ok (.dup, 1) ∧ decode cX11_init 459 = .ok (.bipush 9, 2) ∧ decode cX11_init 461 = .ok (.iconst (-1), 1) ∧ decode cX11_init 462 = .ok (.iastore, 1) := by decide +kernel
theorem dX11_init_448 : decode cX11_init 448 = .ok (.dup, 1) := dq_533.1
theorem dX11_init_449 : decode cX11_init 449 = .ok (.bipush 7, 2) := dq_533.2.1
theorem dX11_init_451 : decode cX11_init 451 = .ok (.iconst (-1), 1) := dq_533.2.2.1
theorem dX11_init_452 : decode cX11_init 452 = .ok (.iastore, 1) := dq_533.2.2.2.1
theorem dX11_init_453 : decode cX11_init 453 = .ok (.dup, 1) := dq_533.2.2.2.2.1
theorem dX11_init_454 : decode cX11_init 454 = .ok (.bipush 8, 2) := dq_533.2.2.2.2.2.1
theorem dX11_init_456 : decode cX11_init 456 = .ok (.iconst (-1), 1) := dq_533.2.2.2.2.2.2.1
theorem dX11_init_457 : decode cX11_init 457 = .ok (.iastore, 1) := dq_533.2.2.2.2.2.2.2.1
theorem dX11_init_458 : decode cX11_init 458 = .ok (.dup, 1) := dq_533.2.2.2.2.2.2.2.2.1
theorem dX11_init_459 : decode cX11_init 459 = .ok (.bipush 9, 2) := dq_533.2.2.2.2.2.2.2.2.2.1
theorem dX11_init_461 : decode cX11_init 461 = .ok (.iconst (-1), 1) := dq_533.2.2.2.2.2.2.2.2.2.2.1
theorem dX11_init_462 : decode cX11_init 462 = .ok (.iastore, 1) := dq_533.2.2.2.2.2.2.2.2.2.2.2
theorem dq_534 : decode cX11_init 463 = .ok (.dup, 1) ∧ decode cX11_init 464 = .ok (.bipush 10, 2) ∧ decode cX11_init 466 = .ok (.iconst (-1), 1) ∧ decode cX11_init 467 = .ok (.iastore, 1) ∧ decode cX11_init 468 = .ok (.dup, 1) ∧ decode cX11_init 469 = .ok (.bipush 11, 2) ∧ decode cX11_init 471 = .ok (.iconst (-1), 1) ∧ decode cX11_init 472 = .ok (.iastore, 1) ∧ decode cX11_init 473 = .ok (.dup, 1) ∧ decode cX11_init 474 = .ok (.bipush 12, 2) ∧ decode cX11_init 476 = .ok (.iconst (-1), 1) ∧ decode cX11_init 477 = .ok (.iastore, 1) := by decide +kernel
theorem dX11_init_463 : decode cX11_init 463 = .ok (.dup, 1) := dq_534.1
theorem dX11_init_464 : decode cX11_init 464 = .ok (.bipush 10, 2) := dq_534.2.1
theorem dX11_init_466 : decode cX11_init 466 = .ok (.iconst (-1), 1) := dq_534.2.2.1
theorem dX11_init_467 : decode cX11_init 467 = .ok (.iastore, 1) := dq_534.2.2.2.1
theorem dX11_init_468 : decode cX11_init 468 = .ok (.dup, 1) := dq_534.2.2.2.2.1
theorem dX11_init_469 : decode cX11_init 469 = .ok (.bipush 11, 2) := dq_534.2.2.2.2.2.1
theorem dX11_init_471 : decode cX11_init 471 = .ok (.iconst (-1), 1) := dq_534.2.2.2.2.2.2.1
theorem dX11_init_472 : decode cX11_init 472 = .ok (.iastore, 1) := dq_534.2.2.2.2.2.2.2.1
theorem dX11_init_473 : decode cX11_init 473 = .ok (.dup, 1) := dq_534.2.2.2.2.2.2.2.2.1
theorem dX11_init_474 : decode cX11_init 474 = .ok (.bipush 12, 2) := dq_534.2.2.2.2.2.2.2.2.2.1
theorem dX11_init_476 : decode cX11_init 476 = .ok (.iconst (-1), 1) := dq_534.2.2.2.2.2.2.2.2.2.2.1
theorem dX11_init_477 : decode cX11_init 477 = .ok (.iastore, 1) := dq_534.2.2.2.2.2.2.2.2.2.2.2
theorem dq_535 : decode cX11_init 478 = .ok (.dup, 1) ∧ decode cX11_init 479 = .ok (.bipush 13, 2) ∧ decode cX11_init 481 = .ok (.iconst (-1), 1) ∧ decode cX11_init 482 = .ok (.iastore, 1) ∧ decode cX11_init 483 = .ok (.dup, 1) ∧ decode cX11_init 484 = .ok (.bipush 14, 2) ∧ decode cX11_init 486 = .ok (.iconst (-1), 1) ∧ decode cX11_init 487 = .ok (.iastore, 1) ∧ decode cX11_init 488 = .ok (.dup, 1) ∧ decode cX11_init 489 = .ok (.bipush 15, 2) ∧ decode cX11_init 491 = .ok (.iconst (-1), 1) ∧ decode cX11_init 492 = .ok (.iastore, 1) := by decide +kernel
theorem dX11_init_478 : decode cX11_init 478 = .ok (.dup, 1) := dq_535.1
theorem dX11_init_479 : decode cX11_init 479 = .ok (.bipush 13, 2) := dq_535.2.1
theorem dX11_init_481 : decode cX11_init 481 = .ok (.iconst (-1), 1) := dq_535.2.2.1
theorem dX11_init_482 : decode cX11_init 482 = .ok (.iastore, 1) := dq_535.2.2.2.1
theorem dX11_init_483 : decode cX11_init 483 = .ok (.dup, 1) := dq_535.2.2.2.2.1
theorem dX11_init_484 : decode cX11_init 484 = .ok (.bipush 14, 2) := dq_535.2.2.2.2.2.1
theorem dX11_init_486 : decode cX11_init 486 = .ok (.iconst (-1), 1) := dq_535.2.2.2.2.2.2.1
theorem dX11_init_487 : decode cX11_init 487 = .ok (.iastore, 1) := dq_535.2.2.2.2.2.2.2.1
theorem dX11_init_488 : decode cX11_init 488 = .ok (.dup, 1) := dq_535.2.2.2.2.2.2.2.2.1
theorem dX11_init_489 : decode cX11_init 489 = .ok (.bipush 15, 2) := dq_535.2.2.2.2.2.2.2.2.2.1
theorem dX11_init_491 : decode cX11_init 491 = .ok (.iconst (-1), 1) := dq_535.2.2.2.2.2.2.2.2.2.2.1
theorem dX11_init_492 : decode cX11_init 492 = .ok (.iastore, 1) := dq_535.2.2.2.2.2.2.2.2.2.2.2
theorem dq_536 : decode cX11_init 493 = .ok (.dup, 1) ∧ decode cX11_init 494 = .ok (.bipush 16, 2) ∧ decode cX11_init 496 = .ok (.iconst (-1), 1) ∧ decode cX11_init 497 = .ok (.iastore, 1) ∧ decode cX11_init 498 = .ok (.dup, 1) ∧ decode cX11_init 499 = .ok (.bipush 17, 2) ∧ decode cX11_init 501 = .ok (.iconst (-1), 1) ∧ decode cX11_init 502 = .ok (.iastore, 1) ∧ decode cX11_init 503 = .ok (.dup, 1) ∧ decode cX11_init 504 = .ok (.bipush 18, 2) ∧ decode cX11_init 506 = .ok (.iconst (-1), 1) ∧ decode cX11_init 507 = .ok (.iastore, 1) := by decide +kernel
theorem dX11_init_493 : decode cX11_init 493 = .ok (.dup, 1) := dq_536.1
theorem dX11_init_494 : decode cX11_init 494 = .ok (.bipush 16, 2) := dq_536.2.1
theorem dX11_init_496 : decode cX11_init 496 = .ok (.iconst (-1), 1) := dq_536.2.2.1
theorem dX11_init_497 : decode cX11_init 497 = .ok (.iastore, 1) := dq_536.2.2.2.1
theorem dX11_init_498 : decode cX11_init 498 = .ok (.dup, 1) := dq_536.2.2.2.2.1
theorem dX11_init_499 : decode cX11_init 499 = .ok (.bipush 17, 2) := dq_536.2.2.2.2.2.1
theorem dX11_init_501 : decode cX11_init 501 = .ok (.iconst (-1), 1) := dq_536.2.2.2.2.2.2.1
theorem dX11_init_502 : decode cX11_init 502 = .ok (.iastore, 1) := dq_536.2.2.2.2.2.2.2.1
theorem dX11_init_503 : decode cX11_init 503 = .ok (.dup, 1) := dq_536.2.2.2.2.2.2.2.2.1
theorem dX11_init_504 : decode cX11_init 504 = .ok (.bipush 18, 2) := dq_536.2.2.2.2.2.2.2.2.2.1
theorem dX11_init_506 : decode cX11_init 506 = .ok (.iconst (-1), 1) := dq_536.2.2.2.2.2.2.2.2.2.2.1
theorem dX11_init_507 : decode cX11_init 507 = .ok (.iastore, 1) := dq_536.2.2.2.2.2.2.2.2.2.2.2
theorem dq_537 : decode cX11_init 508 = .ok (.dup, 1) ∧ decode cX11_init 509 = .ok (.bipush 19, 2) ∧ decode cX11_init 511 = .ok (.iconst (-1), 1) ∧ decode cX11_init 512 = .ok (.iastore, 1) ∧ decode cX11_init 513 = .ok (.dup, 1) ∧ decode cX11_init 514 = .ok (.bipush 20, 2) ∧ decode cX11_init 516 = .ok (.iconst (-1), 1) ∧ decode cX11_init 517 = .ok (.iastore, 1) ∧ decode cX11_init 518 = .ok (.dup, 1) ∧ decode cX11_init 519 = .ok (.bipush 21, 2) ∧ decode cX11_init 521 = .ok (.iconst (-1), 1) ∧ decode cX11_init 522 = .ok (.iastore, 1) := by decide +kernel
theorem dX11_init_508 : decode cX11_init 508 = .ok (.dup, 1) := dq_537.1
theorem dX11_init_509 : decode cX11_init 509 = .ok (.bipush 19, 2) := dq_537.2.1
theorem dX11_init_511 : decode cX11_init 511 = .ok (.iconst (-1), 1) := dq_537.2.2.1
theorem dX11_init_512 : decode cX11_init 512 = .ok (.iastore, 1) := dq_537.2.2.2.1
theorem dX11_init_513 : decode cX11_init 513 = .ok (.dup, 1) := dq_537.2.2.2.2.1
theorem dX11_init_514 : decode cX11_init 514 = .ok (.bipush 20, 2) := dq_537.2.2.2.2.2.1
theorem dX11_init_516 : decode cX11_init 516 = .ok (.iconst (-1), 1) := dq_537.2.2.2.2.2.2.1
theorem dX11_init_517 : decode cX11_init 517 = .ok (.iastore, 1) := dq_537.2.2.2.2.2.2.2.1
theorem dX11_init_518 : decode cX11_init 518 = .ok (.dup, 1) := dq_537.2.2.2.2.2.2.2.2.1
theorem dX11_init_519 : decode cX11_init 519 = .ok (.bipush 21, 2) := dq_537.2.2.2.2.2.2.2.2.2.1
theorem dX11_init_521 : decode cX11_init 521 = .ok (.iconst (-1), 1) := dq_537.2.2.2.2.2.2.2.2.2.2.1
theorem dX11_init_522 : decode cX11_init 522 = .ok (.iastore, 1) := dq_537.2.2.2.2.2.2.2.2.2.2.2
theorem dq_538 : decode cX11_init 523 = .ok (.dup, 1) ∧ decode cX11_init 524 = .ok (.bipush 22, 2) ∧ decode cX11_init 526 = .ok (.iconst (-1), 1) ∧ decode cX11_init 527 = .ok (.iastore, 1) ∧ decode cX11_init 528 = .ok (.dup, 1) ∧ decode cX11_init 529 = .ok (.bipush 23, 2) ∧ decode cX11_init 531 = .ok (.iconst (-1), 1) ∧ decode cX11_init 532 = .ok (.iastore, 1) ∧ decode cX11_init 533 = .ok (.dup, 1) ∧ decode cX11_init 534 = .ok (.bipush 24, 2) ∧ decode cX11_init 536 = .ok (.iconst (-1), 1) ∧ decode cX11_init 537 = .ok (.iastore, 1) := by decide +kernel
theorem dX11_init_523 : decode cX11_init 523 = .ok (.dup, 1) := dq_538.1
theorem dX11_init_524 : decode cX11_init 524 = .ok (.bipush 22, 2) := dq_538.2.1
theorem dX11_init_526 : decode cX11_init 526 = .ok (.iconst (-1), 1) := dq_538.2.2.1
theorem dX11_init_527 : decode cX11_init 527 = .ok (.iastore, 1) := dq_538.2.2.2.1
theorem dX11_init_528 : decode cX11_init 528 = .ok (.dup, 1) := dq_538.2.2.2.2.1
theorem dX11_init_529 : decode cX11_init 529 = .ok (.bipush 23, 2) := dq_538.2.2.2.2.2.1
theorem dX11_init_531 : decode cX11_init 531 = .ok (.iconst (-1), 1) := dq_538.2.2.2.2.2.2.1
theorem dX11_init_532 : decode cX11_init 532 = .ok (.iastore, 1) := dq_538.2.2.2.2.2.2.2.1
theorem dX11_init_533 : decode cX11_init 533 = .ok (.dup, 1) := dq_538.2.2.2.2.2.2.2.2.1
theorem dX11_init_534 : decode cX11_init 534 = .ok (.bipush 24, 2) := dq_538.2.2.2.2.2.2.2.2.2.1
theorem dX11_init_536 : decode cX11_init 536 = .ok (.iconst (-1), 1) := dq_538.2.2.2.2.2.2.2.2.2.2.1
theorem dX11_init_537 : decode cX11_init 537 = .ok (.iastore, 1) := dq_538.2.2.2.2.2.2.2.2.2.2.2
theorem dq_539 : decode cX11_init 538 = .ok (.dup, 1) ∧ decode cX11_init 539 = .ok (.bipush 25, 2) ∧ decode cX11_init 541 = .ok (.iconst (-1), 1) ∧ decode cX11_init 542 = .ok (.iastore, 1) ∧ decode cX11_init 543 = .ok (.dup, 1) ∧ decode cX11_init 544 = .ok (.bipush 26, 2) ∧ decode cX11_init 546 = .ok (.iconst (-1), 1) ∧ decode cX11_init 547 = .ok (.iastore, 1) ∧ decode cX11_init 548 = .ok (.dup, 1) ∧ decode cX11_init 549 = .ok (.bipush 27, 2) ∧ decode cX11_init 551 = .ok (.iconst (-1), 1) ∧ decode cX11_init 552 = .ok (.iastore, 1) := by decide +kernel
theorem dX11_init_538 : decode cX11_init 538 = .ok (.dup, 1) := dq_539.1
theorem dX11_init_539 : decode cX11_init 539 = .ok (.bipush 25, 2) := dq_539.2.1
theorem dX11_init_541 : decode cX11_init 541 = .ok (.iconst (-1), 1) := dq_539.2.2.1
theorem dX11_init_542 : decode cX11_init 542 = .ok (.iastore, 1) := dq_539.2.2.2.1
theorem dX11_init_543 : decode cX11_init 543 = .ok (.dup, 1) := dq_539.2.2.2.2.1
theorem dX11_init_544 : decode cX11_init 544 = .ok (.bipush 26, 2) := dq_539.2.2.2.2.2.1
theorem dX11_init_546 : decode cX11_init 546 = .ok (.iconst (-1), 1) := dq_539.2.2.2.2.2.2.1
theorem dX11_init_547 : decode cX11_init 547 = .ok (.iastore, 1) := dq_539.2.2.2.2.2.2.2.1
theorem dX11_init_548 : decode cX11_init 548 = .ok (.dup, 1) := dq_539.2.2.2.2.2.2.2.2.1
theorem dX11_init_549 : decode cX11_init 549 = .ok (.bipush 27, 2) := dq_539.2.2.2.2.2.2.2.2.2.1
theorem dX11_init_551 : decode cX11_init 551 = .ok (.iconst (-1), 1) := dq_539.2.2.2.2.2.2.2.2.2.2.1
theorem dX11_init_552 : decode cX11_init 552 = .ok (.iastore, 1) := dq_539.2.2.2.2.2.2.2.2.2.2.2
theorem dq_540 : decode cX11_init 553 = .ok (.dup, 1) ∧ decode cX11_init 554 = .ok (.bipush 28, 2) ∧ decode cX11_init 556 = .ok (.iconst (-1), 1) ∧ decode cX11_init 557 = .ok (.iastore, 1) ∧ decode cX11_init 558 = .ok (.dup, 1) ∧ decode cX11_init 559 = .ok (.bipush 29, 2) ∧ decode cX11_init 561 = .ok (.iconst (-1), 1) ∧ decode cX11_init 562 = .ok (.iastore, 1) ∧ decode cX11_init 563 = .ok (.dup, 1) ∧ decode cX11_init 564 = .ok (.bipush 30, 2) ∧ decode cX11_init 566 = .ok (.iconst (-1), 1) ∧ decode cX11_init 567 = .ok (.iastore, 1) := by decide +kernel
theorem dX11_init_553 : decode cX11_init 553 = .ok (.dup, 1) := dq_540.1
theorem dX11_init_554 : decode cX11_init 554 = .ok (.bipush 28, 2) := dq_540.2.1
theorem dX11_init_556 : decode cX11_init 556 = .ok (.iconst (-1), 1) := dq_540.2.2.1
theorem dX11_init_557 : decode cX11_init 557 = .ok (.iastore, 1) := dq_540.2.2.2.1
theorem dX11_init_558 : decode cX11_init 558 = .ok (.dup, 1) := dq_540.2.2.2.2.1
theorem dX11_init_559 : decode cX11_init 559 = .ok (.bipush 29, 2) := dq_540.2.2.2.2.2.1
theorem dX11_init_561 : decode cX11_init 561 = .ok (.iconst (-1), 1) := dq_540.2.2.2.2.2.2.1
theorem dX11_init_562 : decode cX11_init 562 = .ok (.iastore, 1) := dq_540.2.2.2.2.2.2.2.1
theorem dX11_init_563 : decode cX11_init 563 = .ok (.dup, 1) := dq_540.2.2.2.2.2.2.2.2.1
theorem dX11_init_564 : decode cX11_init 564 = .ok (.bipush 30, 2) := dq_540.2.2.2.2.2.2.2.2.2.1
theorem dX11_init_566 : decode cX11_init 566 = .ok (.iconst (-1), 1) := dq_540.2.2.2.2.2.2.2.2.2.2.1
theorem dX11_init_567 : decode cX11_init 567 = .ok (.iastore, 1) := dq_540.2.2.2.2.2.2.2.2.2.2.2
theorem dq_541 : decode cX11_init 568 = .ok (.dup, 1) ∧ decode cX11_init 569 = .ok (.bipush 31, 2) ∧ decode cX11_init 571 = .ok (.iconst (-1), 1) ∧ decode cX11_init 572 = .ok (.iastore, 1) ∧ decode cX11_init 573 = .ok (.dup, 1) ∧ decode cX11_init 574 = .ok (.bipush 32, 2) ∧ decode cX11_init 576 = .ok (.iconst (-1), 1) ∧ decode cX11_init 577 = .ok (.iastore, 1) ∧ decode cX11_init 578 = .ok (.dup, 1) ∧ decode cX11_init 579 = .ok (.bipush 33, 2) ∧ decode cX11_init 581 = .ok (.iconst (-1), 1) ∧ decode cX11_init 582 = .ok (.iastore, 1) := by decide +kernel
theorem dX11_init_568 : decode cX11_init 568 = .ok (.dup, 1) := dq_541.1
theorem dX11_init_569 : decode cX11_init 569 = .ok (.bipush 31, 2) := dq_541.2.1
theorem dX11_init_571 : decode cX11_init 571 = .ok (.iconst (-1), 1) := dq_541.2.2.1
theorem dX11_init_572 : decode cX11_init 572 = .ok (.iastore, 1) := dq_541.2.2.2.1
theorem dX11_init_573 : decode cX11_init 573 = .ok (.dup, 1) := dq_541.2.2.2.2.1
theorem dX11_init_574 : decode cX11_init 574 = .ok (.bipush 32, 2) := dq_541.2.2.2.2.2.1
theorem dX11_init_576 : decode cX11_init 576 = .ok (.iconst (-1), 1) := dq_541.2.2.2.2.2.2.1
theorem dX11_init_577 : decode cX11_init 577 = .ok (.iastore, 1) := dq_541.2.2.2.2.2.2.2.1
theorem dX11_init_578 : decode cX11_init 578 = .ok (.dup, 1) := dq_541.2.2.2.2.2.2.2.2.1
theorem dX11_init_579 : decode cX11_init 579 = .ok (.bipush 33, 2) := dq_541.2.2.2.2.2.2.2.2.2.1
theorem dX11_init_581 : decode cX11_init 581 = .ok (.iconst (-1), 1) := dq_541.2.2.2.2.2.2.2.2.2.2.1
theorem dX11_init_582 : decode cX11_init 582 = .ok (.iastore, 1) := dq_541.2.2.2.2.2.2.2.2.2.2.2
theorem dq_542 : decode cX11_init 583 = .ok (.dup, 1) ∧ decode cX11_init 584 = .ok (.bipush 34, 2) ∧ decode cX11_init 586 = .ok (.iconst (-1), 1) ∧ decode cX11_init 587 = .ok (.iastore, 1) ∧ decode cX11_init 588 = .ok (.dup, 1) ∧ decode cX11_init 589 = .ok (.bipush 35, 2) ∧ decode cX11_init 591 = .ok (.iconst (-1), 1) ∧ decode cX11_init 592 = .ok (.iastore, 1) ∧ decode cX11_init 593 = .ok (.dup, 1) ∧ decode cX11_init 594 = .ok (.bipush 36, 2) ∧ decode cX11_init 596 = .ok (.iconst (-1), 1) ∧ decode cX11_init 597 = .ok (.iastore, 1) := by decide +kernel
theorem dX11_init_583 : decode cX11_init 583 = .ok (.dup, 1) := dq_542.1
theorem dX11_init_584 : decode cX11_init 584 = .ok (.bipush 34, 2) := dq_542.2.1
theorem dX11_init_586 : decode cX11_init 586 = .ok (.iconst (-1), 1) := dq_542.2.2.1
theorem dX11_init_587 : decode cX11_init 587 = .ok (.iastore, 1) := dq_542.2.2.2.1
theorem dX11_init_588 : decode cX11_init 588 = .ok (.dup, 1) := dq_542.2.2.2.2.1
theorem dX11_init_589 : decode cX11_init 589 = .ok (.bipush 35, 2) := dq_542.2.2.2.2.2.1
theorem dX11_init_591 : decode cX11_init 591 = .ok (.iconst (-1), 1) := dq_542.2.2.2.2.2.2.1
theorem dX11_init_592 : decode cX11_init 592 = .ok (.iastore, 1) := dq_542.2.2.2.2.2.2.2.1
theorem dX11_init_593 : decode cX11_init 593 = .ok (.dup, 1) := dq_542.2.2.2.2.2.2.2.2.1
theorem dX11_init_594 : decode cX11_init 594 = .ok (.bipush 36, 2) := dq_542.2.2.2.2.2.2.2.2.2.1
theorem dX11_init_596 : decode cX11_init 596 = .ok (.iconst (-1), 1) := dq_542.2.2.2.2.2.2.2.2.2.2.1
theorem dX11_init_597 : decode cX11_init 597 = .ok (.iastore, 1) := dq_542.2.2.2.2.2.2.2.2.2.2.2
theorem dq_543 : decode cX11_init 598 = .ok (.dup, 1) ∧ decode cX11_init 599 = .ok (.bipush 37, 2) ∧ decode cX11_init 601 = .ok (.iconst (-1), 1) ∧ decode cX11_init 602 = .ok (.iastore, 1) ∧ decode cX11_init 603 = .ok (.dup, 1) ∧ decode cX11_init 604 = .ok (.bipush 38, 2) ∧ decode cX11_init 606 = .ok (.iconst (-1), 1) ∧ decode cX11_init 607 = .ok (.iastore, 1) ∧ decode cX11_init 608 = .ok (.dup, 1) ∧ decode cX11_init 609 = .ok (.bipush 39, 2) ∧ decode cX11_init 611 = .ok (.iconst (-1), 1) ∧ decode cX11_init 612 = .ok (.iastore, 1) := by decide +kernel
theorem dX11_init_598 : decode cX11_init 598 = .ok (.dup, 1) := dq_543.1
theorem dX11_init_599 : decode cX11_init 599 = .ok (.bipush 37, 2) := dq_543.2.1
theorem dX11_init_601 : decode cX11_init 601 = .ok (.iconst (-1), 1) := dq_543.2.2.1
theorem dX11_init_602 : decode cX11_init 602 = .ok (.iastore, 1) := dq_543.2.2.2.1
theorem dX11_init_603 : decode cX11_init 603 = .ok (.dup, 1) := dq_543.2.2.2.2.1
theorem dX11_init_604 : decode cX11_init 604 = .ok (.bipush 38, 2) := dq_543.2.2.2.2.2.1
theorem dX11_init_606 : decode cX11_init 606 = .ok (.iconst (-1), 1) := dq_543.2.2.2.2.2.2.1
theorem dX11_init_607 : decode cX11_init 607 = .ok (.iastore, 1) := dq_543.2.2.2.2.2.2.2.1
theorem dX11_init_608 : decode cX11_init 608 = .ok (.dup, 1) := dq_543.2.2.2.2.2.2.2.2.1
theorem dX11_init_609 : decode cX11_init 609 = .ok (.bipush 39, 2) := dq_543.2.2.2.2.2.2.2.2.2.1
theorem dX11_init_611 : decode cX11_init 611 = .ok (.iconst (-1), 1) := dq_543.2.2.2.2.2.2.2.2.2.2.1
theorem dX11_init_612 : decode cX11_init 612 = .ok (.iastore, 1) := dq_543.2.2.2.2.2.2.2.2.2.2.2
theorem dq_544 : decode cX11_init 613 = .ok (.dup, 1) ∧ decode cX11_init 614 = .ok (.bipush 40, 2) ∧ decode cX11_init 616 = .ok (.iconst (-1), 1) ∧ decode cX11_init 617 = .ok (.iastore, 1) ∧ decode cX11_init 618 = .ok (.dup, 1) ∧ decode cX11_init 619 = .ok (.bipush 41, 2) ∧ decode cX11_init 621 = .ok (.iconst (-1), 1) ∧ decode cX11_init 622 = .ok (.iastore, 1) ∧ decode cX11_init 623 = .ok (.dup, 1) ∧ decode cX11_init 624 = .ok (.bipush 42, 2) ∧ decode cX11_init 626 = .ok (.iconst (-1), 1) ∧ decode cX11_init 627 = .ok (.iastore, 1) := by decide +kernel
theorem dX11_init_613 : decode cX11_init 613 = .ok (.dup, 1) := dq_544.1
theorem dX11_init_614 : decode cX11_init 614 = .ok (.bipush 40, 2) := dq_544.2.1
theorem dX11_init_616 : decode cX11_init 616 = .ok (.iconst (-1), 1) := dq_544.2.2.1
theorem dX11_init_617 : decode cX11_init 617 = .ok (.iastore, 1) := dq_544.2.2.2.1
theorem dX11_init_618 : decode cX11_init 618 = .ok (.dup, 1) := dq_544.2.2.2.2.1
theorem dX11_init_619 : decode cX11_init 619 = .ok (.bipush 41, 2) := dq_544.2.2.2.2.2.1
theorem dX11_init_621 : decode cX11_init 621 = .ok (.iconst (-1), 1) := dq_544.2.2.2.2.2.2.1
theorem dX11_init_622 : decode cX11_init 622 = .ok (.iastore, 1) := dq_544.2.2.2.2.2.2.2.1
theorem dX11_init_623 : decode cX11_init 623 = .ok (.dup, 1) := dq_544.2.2.2.2.2.2.2.2.1
theorem dX11_init_624 : decode cX11_init 624 = .ok (.bipush 42, 2) := dq_544.2.2.2.2.2.2.2.2.2.1
theorem dX11_init_626 : decode cX11_init 626 = .ok (.iconst (-1), 1) := dq_544.2.2.2.2.2.2.2.2.2.2.1
theorem dX11_init_627 : decode cX11_init 627 = .ok (.iastore, 1) := dq_544.2.2.2.2.2.2.2.2.2.2.2
theorem dq_545 : decode cX11_init 628 = .ok (.dup, 1) ∧ decode cX11_init 629 = .ok (.bipush 43, 2) ∧ decode cX11_init 631 = .ok (.iconst (-1), 1) ∧ decode cX11_init 632 = .ok (.iastore, 1) ∧ decode cX11_init 633 = .ok (.dup, 1) ∧ decode cX11_init 634 = .ok (.bipush 44, 2) ∧ decode cX11_init 636 = .ok (.iconst (-1), 1) ∧ decode cX11_init 637 = .ok (.iastore, 1) ∧ decode cX11_init 638 = .ok (.dup, 1) ∧ decode cX11_init 639 = .ok (.bipush 45, 2) ∧ decode cX11_init 641 = .ok (.iconst (-1), 1) ∧ decode cX11_init 642 = .ok (.iastore, 1) := by decide +kernel
theorem dX11_init_628 : decode cX11_init 628 = .ok (.dup, 1) := dq_545.1
theorem dX11_init_629 : decode cX11_init 629 = .ok (.bipush 43, 2) := dq_545.2.1
theorem dX11_init_631 : decode cX11_init 631 = .ok (.iconst (-1), 1) := dq_545.2.2.1
theorem dX11_init_632 : decode cX11_init 632 = .ok (.iastore, 1) := dq_545.2.2.2.1
theorem dX11_init_633 : decode cX11_init 633 = .ok (.dup, 1) := dq_545.2.2.2.2.1
theorem dX11_init_634 : decode cX11_init 634 = .ok (.bipush 44, 2) := dq_545.2.2.2.2.2.1
theorem dX11_init_636 : decode cX11_init 636 = .ok (.iconst (-1), 1) := dq_545.2.2.2.2.2.2.1
theorem dX11_init_637 : decode cX11_init 637 = .ok (.iastore, 1) := dq_545.2.2.2.2.2.2.2.1
theorem dX11_init_638 : decode cX11_init 638 = .ok (.dup, 1) := dq_545.2.2.2.2.2.2.2.2.1
theorem dX11_init_639 : decode cX11_init 639 = .ok (.bipush 45, 2) := dq_545.2.2.2.2.2.2.2.2.2.1
theorem dX11_init_641 : decode cX11_init 641 = .ok (.iconst (-1), 1) := dq_545.2.2.2.2.2.2.2.2.2.2.1
theorem dX11_init_642 : decode cX11_init 642 = .ok (.iastore, 1) := dq_545.2.2.2.2.2.2.2.2.2.2.2
theorem dq_546 : decode cX11_init 643 = .ok (.dup, 1) ∧ decode cX11_init 644 = .ok (.bipush 46, 2) ∧ decode cX11_init 646 = .ok (.iconst (-1), 1) ∧ decode cX11_init 647 = .ok (.iastore, 1) ∧ decode cX11_init 648 = .ok (.dup, 1) ∧ decode cX11_init 649 = .ok (.bipush 47, 2) ∧ decode cX11_init 651 = .ok (.iconst (-1), 1) ∧ decode cX11_init 652 = .ok (.iastore, 1) ∧ decode cX11_init 653 = .ok (.dup, 1) ∧ decode cX11_init 654 = .ok (.bipush 48, 2) ∧ decode cX11_init 656 = .ok (.iconst (-1), 1) ∧ decode cX11_init 657 = .ok (.iastore, 1) := by decide +kernel
theorem dX11_init_643 : decode cX11_init 643 = .ok (.dup, 1) := dq_546.1
theorem dX11_init_644 : decode cX11_init 644 = .ok (.bipush 46, 2) := dq_546.2.1
theorem dX11_init_646 : decode cX11_init 646 = .ok (.iconst (-1), 1) := dq_546.2.2.1
theorem dX11_init_647 : decode cX11_init 647 = .ok (.iastore, 1) := dq_546.2.2.2.1
theorem dX11_init_648 : decode cX11_init 648 = .ok (.dup, 1) := dq_546.2.2.2.2.1
theorem dX11_init_649 : decode cX11_init 649 = .ok (.bipush 47, 2) := dq_546.2.2.2.2.2.1
theorem dX11_init_651 : decode cX11_init 651 = .ok (.iconst (-1), 1) := dq_546.2.2.2.2.2.2.1
theorem dX11_init_652 : decode cX11_init 652 = .ok (.iastore, 1) := dq_546.2.2.2.2.2.2.2.1
theorem dX11_init_653 : decode cX11_init 653 = .ok (.dup, 1) := dq_546.2.2.2.2.2.2.2.2.1
theorem dX11_init_654 : decode cX11_init 654 = .ok (.bipush 48, 2) := dq_546.2.2.2.2.2.2.2.2.2.1
theorem dX11_init_656 : decode cX11_init 656 = .ok (.iconst (-1), 1) := dq_546.2.2.2.2.2.2.2.2.2.2.1
theorem dX11_init_657 : decode cX11_init 657 = .ok (.iastore, 1) := dq_546.2.2.2.2.2.2.2.2.2.2.2
theorem dq_547 : decode cX11_init 658 = .ok (.dup, 1) ∧ decode cX11_init 659 = .ok (.bipush 49, 2) ∧ decode cX11_init 661 = .ok (.iconst (-1), 1) ∧ decode cX11_init 662 = .ok (.iastore, 1) ∧ decode cX11_init 663 = .ok (.dup, 1) ∧ decode cX11_init 664 = .ok (.bipush 50, 2) ∧ decode cX11_init 666 = .ok (.iconst (-1), 1) ∧ decode cX11_init 667 = .ok (.iastore, 1) ∧ decode cX11_init 668 = .ok (.dup, 1) ∧ decode cX11_init 669 = .ok (.bipush 51, 2) ∧ decode cX11_init 671 = .ok (.iconst (-1), 1) ∧ decode cX11_init 672 = .ok (.iastore, 1) := by decide +kernel
theorem dX11_init_658 : decode cX11_init 658 = .ok (.dup, 1) := dq_547.1
theorem dX11_init_659 : decode cX11_init 659 = .ok (.bipush 49, 2) := dq_547.2.1
theorem dX11_init_661 : decode cX11_init 661 = .ok (.iconst (-1), 1) := dq_547.2.2.1
theorem dX11_init_662 : decode cX11_init 662 = .ok (.iastore, 1) := dq_547.2.2.2.1
theorem dX11_init_663 : decode cX11_init 663 = .ok (.dup, 1) := dq_547.2.2.2.2.1
theorem dX11_init_664 : decode cX11_init 664 = .ok (.bipush 50, 2) := dq_547.2.2.2.2.2.1
theorem dX11_init_666 : decode cX11_init 666 = .ok (.iconst (-1), 1) := dq_547.2.2.2.2.2.2.1
theorem dX11_init_667 : decode cX11_init 667 = .ok (.iastore, 1) := dq_547.2.2.2.2.2.2.2.1
theorem dX11_init_668 : decode cX11_init 668 = .ok (.dup, 1) := dq_547.2.2.2.2.2.2.2.2.1
theorem dX11_init_669 : decode cX11_init 669 = .ok (.bipush 51, 2) := dq_547.2.2.2.2.2.2.2.2.2.1
theorem dX11_init_671 : decode cX11_init 671 = .ok (.iconst (-1), 1) := dq_547.2.2.2.2.2.2.2.2.2.2.1
theorem dX11_init_672 : decode cX11_init 672 = .ok (.iastore, 1) := dq_547.2.2.2.2.2.2.2.2.2.2.2
theorem dq_548 : decode cX11_init 673 = .ok (.dup, 1) ∧ decode cX11_init 674 = .ok (.bipush 52, 2) ∧ decode cX11_init 676 = .ok (.iconst (-1), 1) ∧ decode cX11_init 677 = .ok (.iastore, 1) ∧ decode cX11_init 678 = .ok (.dup, 1) ∧ decode cX11_init 679 = .ok (.bipush 53, 2) ∧ decode cX11_init 681 = .ok (.iconst (-1), 1) ∧ decode cX11_init 682 = .ok (.iastore, 1) ∧ decode cX11_init 683 = .ok (.dup, 1) ∧ decode cX11_init 684 = .ok (.bipush 54, 2) ∧ decode cX11_init 686 = .ok (.iconst (-1), 1) ∧ decode cX11_init 687 = .ok (.iastore, 1) := by decide +kernel
theorem dX11_init_673 : decode cX11_init 673 = .ok (.dup, 1) := dq_548.1
theorem dX11_init_674 : decode cX11_init 674 = .ok (.bipush 52, 2) := dq_548.2.1
theorem dX11_init_676 : decode cX11_init 676 = .ok (.iconst (-1), 1) := dq_548.2.2.1
theorem dX11_init_677 : decode cX11_init 677 = .ok (.iastore, 1) := dq_548.2.2.2.1
theorem dX11_init_678 : decode cX11_init 678 = .ok (.dup, 1) := dq_548.2.2.2.2.1
theorem dX11_init_679 : decode cX11_init 679 = .ok (.bipush 53, 2) := dq_548.2.2.2.2.2.1
theorem dX11_init_681 : decode cX11_init 681 = .ok (.iconst (-1), 1) := dq_548.2.2.2.2.2.2.1
theorem dX11_init_682 : decode cX11_init 682 = .ok (.iastore, 1) := dq_548.2.2.2.2.2.2.2.1
theorem dX11_init_683 : decode cX11_init 683 = .ok (.dup, 1) := dq_548.2.2.2.2.2.2.2.2.1
theorem dX11_init_684 : decode cX11_init 684 = .ok (.bipush 54, 2) := dq_548.2.2.2.2.2.2.2.2.2.1
theorem dX11_init_686 : decode cX11_init 686 = .ok (.iconst (-1), 1) := dq_548.2.2.2.2.2.2.2.2.2.2.1
theorem dX11_init_687 : decode cX11_init 687 = .ok (.iastore, 1) := dq_548.2.2.2.2.2.2.2.2.2.2.2
theorem dq_549 : decode cX11_init 688 = .ok (.dup, 1) ∧ decode cX11_init 689 = .ok (.bipush 55, 2) ∧ decode cX11_init 691 = .ok (.iconst (-1), 1) ∧ decode cX11_init 692 = .ok (.iastore, 1) ∧ decode cX11_init 693 = .ok (.dup, 1) ∧ decode cX11_init 694 = .ok (.bipush 56, 2) ∧ decode cX11_init 696 = .ok (.iconst (-1), 1) ∧ decode cX11_init 697 = .ok (.iastore, 1) ∧ decode cX11_init 698 = .ok (.dup, 1) ∧ decode cX11_init 699 = .ok (.bipush 57, 2) ∧ decode cX11_init 701 = .ok (.iconst (-1), 1) ∧ decode cX11_init 702 = .ok (.iastore, 1) := by decide +kernel
theorem dX11_init_688 : decode cX11_init 688 = .ok (.dup, 1) := dq_549.1
theorem dX11_init_689 : decode cX11_init 689 = .ok (.bipush 55, 2) := dq_549.2.1
theorem dX11_init_691 : decode cX11_init 691 = .ok (.iconst (-1), 1) := dq_549.2.2.1
theorem dX11_init_692 : decode cX11_init 692 = .ok (.iastore, 1) := dq_549.2.2.2.1
theorem dX11_init_693 : decode cX11_init 693 = .ok (.dup, 1) := dq_549.2.2.2.2.1
theorem dX11_init_694 : decode cX11_init 694 = .ok (.bipush 56, 2) := dq_549.2.2.2.2.2.1
theorem dX11_init_696 : decode cX11_init 696 = .ok (.iconst (-1), 1) := dq_549.2.2.2.2.2.2.1
theorem dX11_init_697 : decode cX11_init 697 = .ok (.iastore, 1) := dq_549.2.2.2.2.2.2.2.1
theorem dX11_init_698 : decode cX11_init 698 = .ok (.dup, 1) := dq_549.2.2.2.2.2.2.2.2.1
theorem dX11_init_699 : decode cX11_init 699 = .ok (.bipush 57, 2) := dq_549.2.2.2.2.2.2.2.2.2.1
theorem dX11_init_701 : decode cX11_init 701 = .ok (.iconst (-1), 1) := dq_549.2.2.2.2.2.2.2.2.2.2.1
theorem dX11_init_702 : decode cX11_init 702 = .ok (.iastore, 1) := dq_549.2.2.2.2.2.2.2.2.2.2.2
theorem dq_550 : decode cX11_init 703 = .ok (.dup, 1) ∧ decode cX11_init 704 = .ok (.bipush 58, 2) ∧ decode cX11_init 706 = .ok (.iconst (-1), 1) ∧ decode cX11_init 707 = .ok (.iastore, 1) ∧ decode cX11_init 708 = .ok (.dup, 1) ∧ decode cX11_init 709 = .ok (.bipush 59, 2) ∧ decode cX11_init 711 = .ok (.iconst (-1), 1) ∧ decode cX11_init 712 = .ok (.iastore, 1) ∧ decode cX11_init 713 = .ok (.dup, 1) ∧ decode cX11_init 714 = .ok (.bipush 60, 2) ∧ decode cX11_init 716 = .ok (.iconst (-1), 1) ∧ decode cX11_init 717 = .ok (.iastore, 1) := by decide +kernel
theorem dX11_init_703 : decode cX11_init 703 = .ok (.dup, 1) := dq_550.1
theorem dX11_init_704 : decode cX11_init 704 = .ok (.bipush 58, 2) := dq_550.2.1
theorem dX11_init_706 : decode cX11_init 706 = .ok (.iconst (-1), 1) := dq_550.2.2.1
theorem dX11_init_707 : decode cX11_init 707 = .ok (.iastore, 1) := dq_550.2.2.2.1
theorem dX11_init_708 : decode cX11_init 708 = .ok (.dup, 1) := dq_550.2.2.2.2.1
theorem dX11_init_709 : decode cX11_init 709 = .ok (.bipush 59, 2) := dq_550.2.2.2.2.2.1
theorem dX11_init_711 : decode cX11_init 711 = .ok (.iconst (-1), 1) := dq_550.2.2.2.2.2.2.1
theorem dX11_init_712 : decode cX11_init 712 = .ok (.iastore, 1) := dq_550.2.2.2.2.2.2.2.1
theorem dX11_init_713 : decode cX11_init 713 = .ok (.dup, 1) := dq_550.2.2.2.2.2.2.2.2.1
theorem dX11_init_714 : decode cX11_init 714 = .ok (.bipush 60, 2) := dq_550.2.2.2.2.2.2.2.2.2.1
theorem dX11_init_716 : decode cX11_init 716 = .ok (.iconst (-1), 1) := dq_550.2.2.2.2.2.2.2.2.2.2.1
theorem dX11_init_717 : decode cX11_init 717 = .ok (.iastore, 1) := dq_550.2.2.2.2.2.2.2.2.2.2.2
theorem dq_551 : decode cX11_init 718 = .ok (.dup, 1) ∧ decode cX11_init 719 = .ok (.bipush 61, 2) ∧ decode cX11_init 721 = .ok (.iconst (-1), 1) ∧ decode cX11_init 722 = .ok (.iastore, 1) ∧ decode cX11_init 723 = .ok (.dup, 1) ∧ decode cX11_init 724 = .ok (.bipush 62, 2) ∧ decode cX11_init 726 = .ok (.iconst (-1), 1) ∧ decode cX11_init 727 = .ok (.iastore, 1) ∧ decode cX11_init 728 = .ok (.dup, 1) ∧ decode cX11_init 729 = .ok (.bipush 63, 2) ∧ decode cX11_init 731 = .ok (.iconst (-1), 1) ∧ decode cX11_init 732 = .ok (.iastore, 1) := by decide +kernel
theorem dX11_init_718 : decode cX11_init 718 = .ok (.dup, 1) := dq_551.1
theorem dX11_init_719 : decode cX11_init 719 = .ok (.bipush 61, 2) := dq_551.2.1
theorem dX11_init_721 : decode cX11_init 721 = .ok (.iconst (-1), 1) := dq_551.2.2.1
theorem dX11_init_722 : decode cX11_init 722 = .ok (.iastore, 1) := dq_551.2.2.2.1
theorem dX11_init_723 : decode cX11_init 723 = .ok (.dup, 1) := dq_551.2.2.2.2.1
theorem dX11_init_724 : decode cX11_init 724 = .ok (.bipush 62, 2) := dq_551.2.2.2.2.2.1
theorem dX11_init_726 : decode cX11_init 726 = .ok (.iconst (-1), 1) := dq_551.2.2.2.2.2.2.1
theorem dX11_init_727 : decode cX11_init 727 = .ok (.iastore, 1) := dq_551.2.2.2.2.2.2.2.1
theorem dX11_init_728 : decode cX11_init 728 = .ok (.dup, 1) := dq_551.2.2.2.2.2.2.2.2.1
theorem dX11_init_729 : decode cX11_init 729 = .ok (.bipush 63, 2) := dq_551.2.2.2.2.2.2.2.2.2.1
theorem dX11_init_731 : decode cX11_init 731 = .ok (.iconst (-1), 1) := dq_551.2.2.2.2.2.2.2.2.2.2.1
theorem dX11_init_732 : decode cX11_init 732 = .ok (.iastore, 1) := dq_551.2.2.2.2.2.2.2.2.2.2.2
theorem dq_552 : decode cX11_init 733 = .ok (.putfield 72, 3) ∧ decode cX11_init 736 = .ok (.aload_n 0, 1) ∧ decode cX11_init 737 = .ok (.bipush 64, 2) ∧ decode cX11_init 739 = .ok (.newarray .int, 2) ∧ decode cX11_init 741 = .ok (.putfield 75, 3) ∧ decode cX11_init 744 = .ok (.aload_n 0, 1) ∧ decode cX11_init 745 = .ok (.bipush 64, 2) ∧ decode cX11_init 747 = .ok (.newarray .int, 2) ∧ decode cX11_init 749 = .ok (.putfield 78, 3) ∧ decode cX11_init 752 = .ok (.aload_n 0, 1) ∧ decode cX11_init 753 = .ok (.bipush 64, 2) ∧ decode cX11_init 755 = .ok (.newarray .int, 2) := by decide +kernel
theorem dX11_init_733 : decode cX11_init 733 = .ok (.putfield 72, 3) := dq_552.1
theorem dX11_init_736 : decode cX11_init 736 = .ok (.aload_n 0, 1) := dq_552.2.1
theorem dX11_init_737 : decode cX11_init 737 = .ok (.bipush 64, 2) := dq_552.2.2.1
theorem dX11_init_739 : decode cX11_init 739 = .ok (.newarray .int, 2) := dq_552.2.2.2.1
theorem dX11_init_741 : decode cX11_init 741 = .ok (.putfield 75, 3) := dq_552.2.2.2.2.1
theorem dX11_init_744 : decode cX11_init 744 = .ok (.aload_n 0, 1) := dq_552.2.2.2.2.2.1
theorem dX11_init_745 : decode cX11_init 745 = .ok (.bipush 64, 2) := dq_552.2.2.2.2.2.2.1
theorem dX11_init_747 : decode cX11_init 747 = .ok (.newarray .int, 2) := dq_552.2.2.2.2.2.2.2.1
theorem dX11_init_749 : decode cX11_init 749 = .ok (.putfield 78, 3) := dq_552.2.2.2.2.2.2.2.2.1
theorem dX11_init_752 : decode cX11_init 752 = .ok (.aload_n 0, 1) := dq_552.2.2.2.2.2.2.2.2.2.1
theorem dX11_init_753 : decode cX11_init 753 = .ok (.bipush 64, 2) := dq_552.2.2.2.2.2.2.2.2.2.2.1
theorem dX11_init_755 : decode cX11_init 755 = .ok (.newarray .int, 2) := dq_552.2.2.2.2.2.2.2.2.2.2.2
theorem dq_553 : decode cX11_init 757 = .ok (.putfield 81, 3) ∧ decode cX11_init 760 = .ok (.aload_n 0, 1) ∧ decode cX11_init 761 = .ok (.iconst 4, 1) ∧ decode cX11_init 762 = .ok (.newarray .int, 2) ∧ decode cX11_init 764 = .ok (.dup, 1) ∧ decode cX11_init 765 = .ok (.iconst 0, 1) ∧ decode cX11_init 766 = .ok (.bipush (-4), 2) ∧ decode cX11_init 768 = .ok (.iastore, 1) ∧ decode cX11_init 769 = .ok (.dup, 1) ∧ decode cX11_init 770 = .ok (.iconst 1, 1) ∧ decode cX11_init 771 = .ok (.bipush (-4), 2) ∧ decode cX11_init 773 = .ok (.iastore, 1) := by decide +kernel
theorem dX11_init_757 : decode cX11_init 757 = .ok (.putfield 81, 3) := dq_553.1
theorem dX11_init_760 : decode cX11_init 760 = .ok (.aload_n 0, 1) := dq_553.2.1
theorem dX11_init_761 : decode cX11_init 761 = .ok (.iconst 4, 1) := dq_553.2.2.1
theorem dX11_init_762 : decode cX11_init 762 = .ok (.newarray .int, 2) := dq_553.2.2.2.1
theorem dX11_init_764 : decode cX11_init 764 = .ok (.dup, 1) := dq_553.2.2.2.2.1
theorem dX11_init_765 : decode cX11_init 765 = .ok (.iconst 0, 1) := dq_553.2.2.2.2.2.1
theorem dX11_init_766 : decode cX11_init 766 = .ok (.bipush (-4), 2) := dq_553.2.2.2.2.2.2.1
theorem dX11_init_768 : decode cX11_init 768 = .ok (.iastore, 1) := dq_553.2.2.2.2.2.2.2.1
theorem dX11_init_769 : decode cX11_init 769 = .ok (.dup, 1) := dq_553.2.2.2.2.2.2.2.2.1
theorem dX11_init_770 : decode cX11_init 770 = .ok (.iconst 1, 1) := dq_553.2.2.2.2.2.2.2.2.2.1
theorem dX11_init_771 : decode cX11_init 771 = .ok (.bipush (-4), 2) := dq_553.2.2.2.2.2.2.2.2.2.2.1
theorem dX11_init_773 : decode cX11_init 773 = .ok (.iastore, 1) := dq_553.2.2.2.2.2.2.2.2.2.2.2
theorem dq_554 : decode cX11_init 774 = .ok (.dup, 1) ∧ decode cX11_init 775 = .ok (.iconst 2, 1) ∧ decode cX11_init 776 = .ok (.bipush (-4), 2) ∧ decode cX11_init 778 = .ok (.iastore, 1) ∧ decode cX11_init 779 = .ok (.dup, 1) ∧ decode cX11_init 780 = .ok (.iconst 3, 1) ∧ decode cX11_init 781 = .ok (.bipush (-4), 2) ∧ decode cX11_init 783 = .ok (.iastore, 1) ∧ decode cX11_init 784 = .ok (.putfield 84, 3) ∧ decode cX11_init 787 = .ok (.aload_n 0, 1) ∧ decode cX11_init 788 = .ok (.iconst 4, 1) ∧ decode cX11_init 789 = .ok (.newarray .int, 2) := by decide +kernel
theorem dX11_init_774 : decode cX11_init 774 = .ok (.dup, 1) := dq_554.1
theorem dX11_init_775 : decode cX11_init 775 = .ok (.iconst 2, 1) := dq_554.2.1
theorem dX11_init_776 : decode cX11_init 776 = .ok (.bipush (-4), 2) := dq_554.2.2.1
theorem dX11_init_778 : decode cX11_init 778 = .ok (.iastore, 1) := dq_554.2.2.2.1
theorem dX11_init_779 : decode cX11_init 779 = .ok (.dup, 1) := dq_554.2.2.2.2.1
theorem dX11_init_780 : decode cX11_init 780 = .ok (.iconst 3, 1) := dq_554.2.2.2.2.2.1
theorem dX11_init_781 : decode cX11_init 781 = .ok (.bipush (-4), 2) := dq_554.2.2.2.2.2.2.1
theorem dX11_init_783 : decode cX11_init 783 = .ok (.iastore, 1) := dq_554.2.2.2.2.2.2.2.1
theorem dX11_init_784 : decode cX11_init 784 = .ok (.putfield 84, 3) := dq_554.2.2.2.2.2.2.2.2.1
theorem dX11_init_787 : decode cX11_init 787 = .ok (.aload_n 0, 1) := dq_554.2.2.2.2.2.2.2.2.2.1
theorem dX11_init_788 : decode cX11_init 788 = .ok (.iconst 4, 1) := dq_554.2.2.2.2.2.2.2.2.2.2.1
theorem dX11_init_789 : decode cX11_init 789 = .ok (.newarray .int, 2) := dq_554.2.2.2.2.2.2.2.2.2.2.2
theorem dq_555 : decode cX11_init 791 = .ok (.putfield 87, 3) ∧ decode cX11_init 794 = .ok (.aload_n 0, 1) ∧ decode cX11_init 795 = .ok (.sipush 256, 3) ∧ decode cX11_init 798 = .ok (.newarray .int, 2) ∧ decode cX11_init 800 = .ok (.putfield 90, 3) ∧ decode cX11_init 803 = .ok (.return_, 1) := by decide +kernel
theorem dX11_init_791 : decode cX11_init 791 = .ok (.putfield 87, 3) := dq_555.1
theorem dX11_init_794 : decode cX11_init 794 = .ok (.aload_n 0, 1) := dq_555.2.1
theorem dX11_init_795 : decode cX11_init 795 = .ok (.sipush 256, 3) := dq_555.2.2.1
theorem dX11_init_798 : decode cX11_init 798 = .ok (.newarray .int, 2) := dq_555.2.2.2.1
theorem dX11_init_800 : decode cX11_init 800 = .ok (.putfield 90, 3) := dq_555.2.2.2.2.1
theorem dX11_init_803 : decode cX11_init 803 = .ok (.return_, 1) := dq_555.2.2.2.2.2
theorem dq_556 : decode cX11_in 0 = .ok (.lload_n 0, 1) ∧ decode cX11_in 1 = .ok (.lload_n 2, 1) ∧ decode cX11_in 2 = .ok (.lcmp, 1) ∧ decode cX11_in 3 = .ok (.ifCond .lt 14, 3) ∧ decode cX11_in 6 = .ok (.lload_n 0, 1) ∧ decode cX11_in 7 = .ok (.lload 4, 2) ∧ decode cX11_in 9 = .ok (.lcmp, 1) ∧ decode cX11_in 10 = .ok (.ifCond .gt 7, 3) ∧ decode cX11_in 13 = .ok (.iconst 1, 1) ∧ decode cX11_in 14 = .ok (.goto 4, 3) ∧ decode cX11_in 17 = .ok (.iconst 0, 1) ∧ decode cX11_in 18 = .ok (.ireturn, 1) := by decide +kernel
theorem dX11_in_0 : decode cX11_in 0 = .ok (.lload_n 0, 1) := dq_556.1
theorem dX11_in_1 : decode cX11_in 1 = .ok (.lload_n 2, 1) := dq_556.2.1
theorem dX11_in_2 : decode cX11_in 2 = .ok (.lcmp, 1) := dq_556.2.2.1
theorem dX11_in_3 : decode cX11_in 3 = .ok (.ifCond .lt 14, 3) := dq_556.2.2.2.1
theorem dX11_in_6 : decode cX11_in 6 = .ok (.lload_n 0, 1) := dq_556.2.2.2.2.1
theorem dX11_in_7 : decode cX11_in 7 = .ok (.lload 4, 2) := dq_556.2.2.2.2.2.1
theorem dX11_in_9 : decode cX11_in 9 = .ok (.lcmp, 1) := dq_556.2.2.2.2.2.2.1
theorem dX11_in_10 : decode cX11_in 10 = .ok (.ifCond .gt 7, 3) := dq_556.2.2.2.2.2.2.2.1
theorem dX11_in_13 : decode cX11_in 13 = .ok (.iconst 1, 1) := dq_556.2.2.2.2.2.2.2.2.1
theorem dX11_in_14 : decode cX11_in 14 = .ok (.goto 4, 3) := dq_556.2.2.2.2.2.2.2.2.2.1
theorem dX11_in_17 : decode cX11_in 17 = .ok (.iconst 0, 1) := dq_556.2.2.2.2.2.2.2.2.2.2.1
theorem dX11_in_18 : decode cX11_in 18 = .ok (.ireturn, 1) := dq_556.2.2.2.2.2.2.2.2.2.2.2
theorem dq_557 : decode cX11_feed 0 = .ok (.aload_n 0, 1) ∧ decode cX11_feed 1 = .ok (.getfield 93, 3) ∧ decode cX11_feed 4 = .ok (.bipush 8, 2) ∧ decode cX11_feed 6 = .ok (.iadd, 1) ∧ decode cX11_feed 7 = .ok (.sipush 400, 3) ∧ decode cX11_feed 10 = .ok (.if_icmp .le 6, 3) ∧ decode cX11_feed 13 = .ok (.bipush (-3), 2) ∧ decode cX11_feed 15 = .ok (.ireturn, 1) ∧ decode cX11_feed 16 = .ok (.bipush 56, 2) ∧ decode cX11_feed 18 = .ok (.istore_n 3, 1) ∧ decode cX11_feed 19 = .ok (.iload_n 3, 1) ∧ decode cX11_feed 20 = .ok (.ifCond .lt 36, 3) := by decide +kernel
theorem dX11_feed_0 : decode cX11_feed 0 = .ok (.aload_n 0, 1) := dq_557.1
theorem dX11_feed_1 : decode cX11_feed 1 = .ok (.getfield 93, 3) := dq_557.2.1
theorem dX11_feed_4 : decode cX11_feed 4 = .ok (.bipush 8, 2) := dq_557.2.2.1
theorem dX11_feed_6 : decode cX11_feed 6 = .ok (.iadd, 1) := dq_557.2.2.2.1
theorem dX11_feed_7 : decode cX11_feed 7 = .ok (.sipush 400, 3) := dq_557.2.2.2.2.1
theorem dX11_feed_10 : decode cX11_feed 10 = .ok (.if_icmp .le 6, 3) := dq_557.2.2.2.2.2.1
theorem dX11_feed_13 : decode cX11_feed 13 = .ok (.bipush (-3), 2) := dq_557.2.2.2.2.2.2.1
theorem dX11_feed_15 : decode cX11_feed 15 = .ok (.ireturn, 1) := dq_557.2.2.2.2.2.2.2.1
theorem dX11_feed_16 : decode cX11_feed 16 = .ok (.bipush 56, 2) := dq_557.2.2.2.2.2.2.2.2.1
theorem dX11_feed_18 : decode cX11_feed 18 = .ok (.istore_n 3, 1) := dq_557.2.2.2.2.2.2.2.2.2.1
theorem dX11_feed_19 : decode cX11_feed 19 = .ok (.iload_n 3, 1) := dq_557.2.2.2.2.2.2.2.2.2.2.1
theorem dX11_feed_20 : decode cX11_feed 20 = .ok (.ifCond .lt 36, 3) := dq_557.2.2.2.2.2.2.2.2.2.2.2
theorem dq_558 : decode cX11_feed 23 = .ok (.aload_n 0, 1) ∧ decode cX11_feed 24 = .ok (.getfield 7, 3) ∧ decode cX11_feed 27 = .ok (.aload_n 0, 1) ∧ decode cX11_feed 28 = .ok (.getfield 93, 3) ∧ decode cX11_feed 31 = .ok (.lload_n 1, 1) ∧ decode cX11_feed 32 = .ok (.iload_n 3, 1) ∧ decode cX11_feed 33 = .ok (.lshr, 1) ∧ decode cX11_feed 34 = .ok (.l2i, 1) ∧ decode cX11_feed 35 = .ok (.sipush 255, 3) ∧ decode cX11_feed 38 = .ok (.iand, 1) ∧ decode cX11_feed 39 = .ok (.iastore, 1) ∧ decode cX11_feed 40 = .ok (.aload_n 0, 1) := by decide +kernel
theorem dX11_feed_23 : decode cX11_feed 23 = .ok (.aload_n 0, 1) := dq_558.1
theorem dX11_feed_24 : decode cX11_feed 24 = .ok (.getfield 7, 3) := dq_558.2.1
theorem dX11_feed_27 : decode cX11_feed 27 = .ok (.aload_n 0, 1) := dq_558.2.2.1
theorem dX11_feed_28 : decode cX11_feed 28 = .ok (.getfield 93, 3) := dq_558.2.2.2.1
theorem dX11_feed_31 : decode cX11_feed 31 = .ok (.lload_n 1, 1) := dq_558.2.2.2.2.1
theorem dX11_feed_32 : decode cX11_feed 32 = .ok (.iload_n 3, 1) := dq_558.2.2.2.2.2.1
theorem dX11_feed_33 : decode cX11_feed 33 = .ok (.lshr, 1) := dq_558.2.2.2.2.2.2.1
theorem dX11_feed_34 : decode cX11_feed 34 = .ok (.l2i, 1) := dq_558.2.2.2.2.2.2.2.1
theorem dX11_feed_35 : decode cX11_feed 35 = .ok (.sipush 255, 3) := dq_558.2.2.2.2.2.2.2.2.1
theorem dX11_feed_38 : decode cX11_feed 38 = .ok (.iand, 1) := dq_558.2.2.2.2.2.2.2.2.2.1
theorem dX11_feed_39 : decode cX11_feed 39 = .ok (.iastore, 1) := dq_558.2.2.2.2.2.2.2.2.2.2.1
theorem dX11_feed_40 : decode cX11_feed 40 = .ok (.aload_n 0, 1) := dq_558.2.2.2.2.2.2.2.2.2.2.2
theorem dq_559 : decode cX11_feed 41 = .ok (.dup, 1) ∧ decode cX11_feed 42 = .ok (.getfield 93, 3) ∧ decode cX11_feed 45 = .ok (.iconst 1, 1) ∧ decode cX11_feed 46 = .ok (.iadd, 1) ∧ decode cX11_feed 47 = .ok (.putfield 93, 3) ∧ decode cX11_feed 50 = .ok (.iinc 3 (-8), 3) ∧ decode cX11_feed 53 = .ok (.goto (-34), 3) ∧ decode cX11_feed 56 = .ok (.aload_n 0, 1) ∧ decode cX11_feed 57 = .ok (.getfield 93, 3) ∧ decode cX11_feed 60 = .ok (.ireturn, 1) := by decide +kernel
theorem dX11_feed_41 : decode cX11_feed 41 = .ok (.dup, 1) := dq_559.1
theorem dX11_feed_42 : decode cX11_feed 42 = .ok (.getfield 93, 3) := dq_559.2.1
theorem dX11_feed_45 : decode cX11_feed 45 = .ok (.iconst 1, 1) := dq_559.2.2.1
theorem dX11_feed_46 : decode cX11_feed 46 = .ok (.iadd, 1) := dq_559.2.2.2.1
theorem dX11_feed_47 : decode cX11_feed 47 = .ok (.putfield 93, 3) := dq_559.2.2.2.2.1
theorem dX11_feed_50 : decode cX11_feed 50 = .ok (.iinc 3 (-8), 3) := dq_559.2.2.2.2.2.1
theorem dX11_feed_53 : decode cX11_feed 53 = .ok (.goto (-34), 3) := dq_559.2.2.2.2.2.2.1
theorem dX11_feed_56 : decode cX11_feed 56 = .ok (.aload_n 0, 1) := dq_559.2.2.2.2.2.2.2.1
theorem dX11_feed_57 : decode cX11_feed 57 = .ok (.getfield 93, 3) := dq_559.2.2.2.2.2.2.2.2.1
theorem dX11_feed_60 : decode cX11_feed 60 = .ok (.ireturn, 1) := dq_559.2.2.2.2.2.2.2.2.2
theorem dq_560 : decode cX11_end 0 = .ok (.iload_n 1, 1) ∧ decode cX11_end 1 = .ok (.i2l, 1) ∧ decode cX11_end 2 = .ok (.lconst 0, 1) ∧ decode cX11_end 3 = .ok (.aload_n 0, 1) ∧ decode cX11_end 4 = .ok (.getfield 93, 3) ∧ decode cX11_end 7 = .ok (.i2l, 1) ∧ decode cX11_end 8 = .ok (.invokestatic 96, 3) ∧ decode cX11_end 11 = .ok (.ifCond .ne 5, 3) ∧ decode cX11_end 14 = .ok (.iconst (-1), 1) ∧ decode cX11_end 15 = .ok (.ireturn, 1) ∧ decode cX11_end 16 = .ok (.aload_n 0, 1) ∧ decode cX11_end 17 = .ok (.getfield 93, 3) := by decide +kernel
theorem dX11_end_0 : decode cX11_end 0 = .ok (.iload_n 1, 1) := dq_560.1
theorem dX11_end_1 : decode cX11_end 1 = .ok (.i2l, 1) := dq_560.2.1
theorem dX11_end_2 : decode cX11_end 2 = .ok (.lconst 0, 1) := dq_560.2.2.1
theorem dX11_end_3 : decode cX11_end 3 = .ok (.aload_n 0, 1) := dq_560.2.2.2.1
theorem dX11_end_4 : decode cX11_end 4 = .ok (.getfield 93, 3) := dq_560.2.2.2.2.1
theorem dX11_end_7 : decode cX11_end 7 = .ok (.i2l, 1) := dq_560.2.2.2.2.2.1
theorem dX11_end_8 : decode cX11_end 8 = .ok (.invokestatic 96, 3) := dq_560.2.2.2.2.2.2.1
theorem dX11_end_11 : decode cX11_end 11 = .ok (.ifCond .ne 5, 3) := dq_560.2.2.2.2.2.2.2.1
theorem dX11_end_14 : decode cX11_end 14 = .ok (.iconst (-1), 1) := dq_560.2.2.2.2.2.2.2.2.1
theorem dX11_end_15 : decode cX11_end 15 = .ok (.ireturn, 1) := dq_560.2.2.2.2.2.2.2.2.2.1
theorem dX11_end_16 : decode cX11_end 16 = .ok (.aload_n 0, 1) := dq_560.2.2.2.2.2.2.2.2.2.2.1
theorem dX11_end_17 : decode cX11_end 17 = .ok (.getfield 93, 3) := dq_560.2.2.2.2.2.2.2.2.2.2.2
theorem dq_561 : decode cX11_end 20 = .ok (.istore_n 2, 1) ∧ decode cX11_end 21 = .ok (.aload_n 0, 1) ∧ decode cX11_end 22 = .ok (.iload_n 1, 1) ∧ decode cX11_end 23 = .ok (.putfield 93, 3) ∧ decode cX11_end 26 = .ok (.iload_n 2, 1) ∧ decode cX11_end 27 = .ok (.ireturn, 1) := by decide +kernel
theorem dX11_end_20 : decode cX11_end 20 = .ok (.istore_n 2, 1) := dq_561.1
theorem dX11_end_21 : decode cX11_end 21 = .ok (.aload_n 0, 1) := dq_561.2.1
theorem dX11_end_22 : decode cX11_end 22 = .ok (.iload_n 1, 1) := dq_561.2.2.1
theorem dX11_end_23 : decode cX11_end 23 = .ok (.putfield 93, 3) := dq_561.2.2.2.1
theorem dX11_end_26 : decode cX11_end 26 = .ok (.iload_n 2, 1) := dq_561.2.2.2.2.1
theorem dX11_end_27 : decode cX11_end 27 = .ok (.ireturn, 1) := dq_561.2.2.2.2.2
theorem dq_562 : decode cX11_byteAt 0 = .ok (.iload_n 1, 1) ∧ decode cX11_byteAt 1 = .ok (.aload_n 0, 1) ∧ decode cX11_byteAt 2 = .ok (.getfield 93, 3) ∧ decode cX11_byteAt 5 = .ok (.if_icmp .ge 12, 3) ∧ decode cX11_byteAt 8 = .ok (.aload_n 0, 1) ∧ decode cX11_byteAt 9 = .ok (.getfield 7, 3) ∧ decode cX11_byteAt 12 = .ok (.iload_n 1, 1) ∧ decode cX11_byteAt 13 = .ok (.iaload, 1) ∧ decode cX11_byteAt 14 = .ok (.goto 5, 3) ∧ decode cX11_byteAt 17 = .ok (.bipush (-4), 2) ∧ decode cX11_byteAt 19 = .ok (.ireturn, 1) := by decide +kernel
theorem dX11_byteAt_0 : decode cX11_byteAt 0 = .ok (.iload_n 1, 1) := dq_562.1
theorem dX11_byteAt_1 : decode cX11_byteAt 1 = .ok (.aload_n 0, 1) := dq_562.2.1
theorem dX11_byteAt_2 : decode cX11_byteAt 2 = .ok (.getfield 93, 3) := dq_562.2.2.1
theorem dX11_byteAt_5 : decode cX11_byteAt 5 = .ok (.if_icmp .ge 12, 3) := dq_562.2.2.2.1
theorem dX11_byteAt_8 : decode cX11_byteAt 8 = .ok (.aload_n 0, 1) := dq_562.2.2.2.2.1
theorem dX11_byteAt_9 : decode cX11_byteAt 9 = .ok (.getfield 7, 3) := dq_562.2.2.2.2.2.1
theorem dX11_byteAt_12 : decode cX11_byteAt 12 = .ok (.iload_n 1, 1) := dq_562.2.2.2.2.2.2.1
theorem dX11_byteAt_13 : decode cX11_byteAt 13 = .ok (.iaload, 1) := dq_562.2.2.2.2.2.2.2.1
theorem dX11_byteAt_14 : decode cX11_byteAt 14 = .ok (.goto 5, 3) := dq_562.2.2.2.2.2.2.2.2.1
theorem dX11_byteAt_17 : decode cX11_byteAt 17 = .ok (.bipush (-4), 2) := dq_562.2.2.2.2.2.2.2.2.2.1
theorem dX11_byteAt_19 : decode cX11_byteAt 19 = .ok (.ireturn, 1) := dq_562.2.2.2.2.2.2.2.2.2.2
theorem dq_563 : decode cX11_fails 0 = .ok (.aload_n 0, 1) ∧ decode cX11_fails 1 = .ok (.getfield 100, 3) ∧ decode cX11_fails 4 = .ok (.ifCond .ne 16, 3) ∧ decode cX11_fails 7 = .ok (.aload_n 0, 1) ∧ decode cX11_fails 8 = .ok (.iload_n 1, 1) ∧ decode cX11_fails 9 = .ok (.putfield 100, 3) ∧ decode cX11_fails 12 = .ok (.aload_n 0, 1) ∧ decode cX11_fails 13 = .ok (.aload_n 0, 1) ∧ decode cX11_fails 14 = .ok (.getfield 103, 3) ∧ decode cX11_fails 17 = .ok (.putfield 106, 3) ∧ decode cX11_fails 20 = .ok (.return_, 1) := by decide +kernel
theorem dX11_fails_0 : decode cX11_fails 0 = .ok (.aload_n 0, 1) := dq_563.1
theorem dX11_fails_1 : decode cX11_fails 1 = .ok (.getfield 100, 3) := dq_563.2.1
theorem dX11_fails_4 : decode cX11_fails 4 = .ok (.ifCond .ne 16, 3) := dq_563.2.2.1
theorem dX11_fails_7 : decode cX11_fails 7 = .ok (.aload_n 0, 1) := dq_563.2.2.2.1
theorem dX11_fails_8 : decode cX11_fails 8 = .ok (.iload_n 1, 1) := dq_563.2.2.2.2.1
theorem dX11_fails_9 : decode cX11_fails 9 = .ok (.putfield 100, 3) := dq_563.2.2.2.2.2.1
theorem dX11_fails_12 : decode cX11_fails 12 = .ok (.aload_n 0, 1) := dq_563.2.2.2.2.2.2.1
theorem dX11_fails_13 : decode cX11_fails 13 = .ok (.aload_n 0, 1) := dq_563.2.2.2.2.2.2.2.1
theorem dX11_fails_14 : decode cX11_fails 14 = .ok (.getfield 103, 3) := dq_563.2.2.2.2.2.2.2.2.1
theorem dX11_fails_17 : decode cX11_fails 17 = .ok (.putfield 106, 3) := dq_563.2.2.2.2.2.2.2.2.2.1
theorem dX11_fails_20 : decode cX11_fails 20 = .ok (.return_, 1) := dq_563.2.2.2.2.2.2.2.2.2.2
theorem dq_564 : decode cX11_lineName 0 = .ok (.iconst 0, 1) ∧ decode cX11_lineName 1 = .ok (.istore_n 1, 1) ∧ decode cX11_lineName 2 = .ok (.iload_n 1, 1) ∧ decode cX11_lineName 3 = .ok (.bipush 6, 2) ∧ decode cX11_lineName 5 = .ok (.if_icmp .ge 105, 3) ∧ decode cX11_lineName 8 = .ok (.aload_n 0, 1) ∧ decode cX11_lineName 9 = .ok (.getfield 109, 3) ∧ decode cX11_lineName 12 = .ok (.aload_n 0, 1) ∧ decode cX11_lineName 13 = .ok (.getfield 103, 3) ∧ decode cX11_lineName 16 = .ok (.isub, 1) ∧ decode cX11_lineName 17 = .ok (.aload_n 0, 1) ∧ decode cX11_lineName 18 = .ok (.getfield 13, 3) := by decide +kernel
theorem dX11_lineName_0 : decode cX11_lineName 0 = .ok (.iconst 0, 1) := dq_564.1
theorem dX11_lineName_1 : decode cX11_lineName 1 = .ok (.istore_n 1, 1) := dq_564.2.1
theorem dX11_lineName_2 : decode cX11_lineName 2 = .ok (.iload_n 1, 1) := dq_564.2.2.1
theorem dX11_lineName_3 : decode cX11_lineName 3 = .ok (.bipush 6, 2) := dq_564.2.2.2.1
theorem dX11_lineName_5 : decode cX11_lineName 5 = .ok (.if_icmp .ge 105, 3) := dq_564.2.2.2.2.1
theorem dX11_lineName_8 : decode cX11_lineName 8 = .ok (.aload_n 0, 1) := dq_564.2.2.2.2.2.1
theorem dX11_lineName_9 : decode cX11_lineName 9 = .ok (.getfield 109, 3) := dq_564.2.2.2.2.2.2.1
theorem dX11_lineName_12 : decode cX11_lineName 12 = .ok (.aload_n 0, 1) := dq_564.2.2.2.2.2.2.2.1
theorem dX11_lineName_13 : decode cX11_lineName 13 = .ok (.getfield 103, 3) := dq_564.2.2.2.2.2.2.2.2.1
theorem dX11_lineName_16 : decode cX11_lineName 16 = .ok (.isub, 1) := dq_564.2.2.2.2.2.2.2.2.2.1
theorem dX11_lineName_17 : decode cX11_lineName 17 = .ok (.aload_n 0, 1) := dq_564.2.2.2.2.2.2.2.2.2.2.1
theorem dX11_lineName_18 : decode cX11_lineName 18 = .ok (.getfield 13, 3) := dq_564.2.2.2.2.2.2.2.2.2.2.2
theorem dq_565 : decode cX11_lineName 21 = .ok (.iload_n 1, 1) ∧ decode cX11_lineName 22 = .ok (.iconst 1, 1) ∧ decode cX11_lineName 23 = .ok (.iadd, 1) ∧ decode cX11_lineName 24 = .ok (.iaload, 1) ∧ decode cX11_lineName 25 = .ok (.aload_n 0, 1) ∧ decode cX11_lineName 26 = .ok (.getfield 13, 3) ∧ decode cX11_lineName 29 = .ok (.iload_n 1, 1) ∧ decode cX11_lineName 30 = .ok (.iaload, 1) ∧ decode cX11_lineName 31 = .ok (.isub, 1) ∧ decode cX11_lineName 32 = .ok (.if_icmp .ne 7, 3) ∧ decode cX11_lineName 35 = .ok (.iconst 1, 1) ∧ decode cX11_lineName 36 = .ok (.goto 4, 3) := by decide +kernel
theorem dX11_lineName_21 : decode cX11_lineName 21 = .ok (.iload_n 1, 1) := dq_565.1
theorem dX11_lineName_22 : decode cX11_lineName 22 = .ok (.iconst 1, 1) := dq_565.2.1
theorem dX11_lineName_23 : decode cX11_lineName 23 = .ok (.iadd, 1) := dq_565.2.2.1
theorem dX11_lineName_24 : decode cX11_lineName 24 = .ok (.iaload, 1) := dq_565.2.2.2.1
theorem dX11_lineName_25 : decode cX11_lineName 25 = .ok (.aload_n 0, 1) := dq_565.2.2.2.2.1
theorem dX11_lineName_26 : decode cX11_lineName 26 = .ok (.getfield 13, 3) := dq_565.2.2.2.2.2.1
theorem dX11_lineName_29 : decode cX11_lineName 29 = .ok (.iload_n 1, 1) := dq_565.2.2.2.2.2.2.1
theorem dX11_lineName_30 : decode cX11_lineName 30 = .ok (.iaload, 1) := dq_565.2.2.2.2.2.2.2.1
theorem dX11_lineName_31 : decode cX11_lineName 31 = .ok (.isub, 1) := dq_565.2.2.2.2.2.2.2.2.1
theorem dX11_lineName_32 : decode cX11_lineName 32 = .ok (.if_icmp .ne 7, 3) := dq_565.2.2.2.2.2.2.2.2.2.1
theorem dX11_lineName_35 : decode cX11_lineName 35 = .ok (.iconst 1, 1) := dq_565.2.2.2.2.2.2.2.2.2.2.1
theorem dX11_lineName_36 : decode cX11_lineName 36 = .ok (.goto 4, 3) := dq_565.2.2.2.2.2.2.2.2.2.2.2
theorem dq_566 : decode cX11_lineName 39 = .ok (.iconst 0, 1) ∧ decode cX11_lineName 40 = .ok (.istore_n 2, 1) ∧ decode cX11_lineName 41 = .ok (.iconst 0, 1) ∧ decode cX11_lineName 42 = .ok (.istore_n 3, 1) ∧ decode cX11_lineName 43 = .ok (.iload_n 2, 1) ∧ decode cX11_lineName 44 = .ok (.ifCond .eq 54, 3) ∧ decode cX11_lineName 47 = .ok (.iload_n 3, 1) ∧ decode cX11_lineName 48 = .ok (.aload_n 0, 1) ∧ decode cX11_lineName 49 = .ok (.getfield 109, 3) ∧ decode cX11_lineName 52 = .ok (.aload_n 0, 1) ∧ decode cX11_lineName 53 = .ok (.getfield 103, 3) ∧ decode cX11_lineName 56 = .ok (.isub, 1) := by decide +kernel
theorem dX11_lineName_39 : decode cX11_lineName 39 = .ok (.iconst 0, 1) := dq_566.1
theorem dX11_lineName_40 : decode cX11_lineName 40 = .ok (.istore_n 2, 1) := dq_566.2.1
theorem dX11_lineName_41 : decode cX11_lineName 41 = .ok (.iconst 0, 1) := dq_566.2.2.1
theorem dX11_lineName_42 : decode cX11_lineName 42 = .ok (.istore_n 3, 1) := dq_566.2.2.2.1
theorem dX11_lineName_43 : decode cX11_lineName 43 = .ok (.iload_n 2, 1) := dq_566.2.2.2.2.1
theorem dX11_lineName_44 : decode cX11_lineName 44 = .ok (.ifCond .eq 54, 3) := dq_566.2.2.2.2.2.1
theorem dX11_lineName_47 : decode cX11_lineName 47 = .ok (.iload_n 3, 1) := dq_566.2.2.2.2.2.2.1
theorem dX11_lineName_48 : decode cX11_lineName 48 = .ok (.aload_n 0, 1) := dq_566.2.2.2.2.2.2.2.1
theorem dX11_lineName_49 : decode cX11_lineName 49 = .ok (.getfield 109, 3) := dq_566.2.2.2.2.2.2.2.2.1
theorem dX11_lineName_52 : decode cX11_lineName 52 = .ok (.aload_n 0, 1) := dq_566.2.2.2.2.2.2.2.2.2.1
theorem dX11_lineName_53 : decode cX11_lineName 53 = .ok (.getfield 103, 3) := dq_566.2.2.2.2.2.2.2.2.2.2.1
theorem dX11_lineName_56 : decode cX11_lineName 56 = .ok (.isub, 1) := dq_566.2.2.2.2.2.2.2.2.2.2.2
theorem dq_567 : decode cX11_lineName 57 = .ok (.if_icmp .ge 41, 3) ∧ decode cX11_lineName 60 = .ok (.aload_n 0, 1) ∧ decode cX11_lineName 61 = .ok (.aload_n 0, 1) ∧ decode cX11_lineName 62 = .ok (.getfield 103, 3) ∧ decode cX11_lineName 65 = .ok (.iload_n 3, 1) ∧ decode cX11_lineName 66 = .ok (.iadd, 1) ∧ decode cX11_lineName 67 = .ok (.invokevirtual 112, 3) ∧ decode cX11_lineName 70 = .ok (.aload_n 0, 1) ∧ decode cX11_lineName 71 = .ok (.getfield 16, 3) ∧ decode cX11_lineName 74 = .ok (.aload_n 0, 1) ∧ decode cX11_lineName 75 = .ok (.getfield 13, 3) ∧ decode cX11_lineName 78 = .ok (.iload_n 1, 1) := by decide +kernel
theorem dX11_lineName_57 : decode cX11_lineName 57 = .ok (.if_icmp .ge 41, 3) := dq_567.1
theorem dX11_lineName_60 : decode cX11_lineName 60 = .ok (.aload_n 0, 1) := dq_567.2.1
theorem dX11_lineName_61 : decode cX11_lineName 61 = .ok (.aload_n 0, 1) := dq_567.2.2.1
theorem dX11_lineName_62 : decode cX11_lineName 62 = .ok (.getfield 103, 3) := dq_567.2.2.2.1
theorem dX11_lineName_65 : decode cX11_lineName 65 = .ok (.iload_n 3, 1) := dq_567.2.2.2.2.1
theorem dX11_lineName_66 : decode cX11_lineName 66 = .ok (.iadd, 1) := dq_567.2.2.2.2.2.1
theorem dX11_lineName_67 : decode cX11_lineName 67 = .ok (.invokevirtual 112, 3) := dq_567.2.2.2.2.2.2.1
theorem dX11_lineName_70 : decode cX11_lineName 70 = .ok (.aload_n 0, 1) := dq_567.2.2.2.2.2.2.2.1
theorem dX11_lineName_71 : decode cX11_lineName 71 = .ok (.getfield 16, 3) := dq_567.2.2.2.2.2.2.2.2.1
theorem dX11_lineName_74 : decode cX11_lineName 74 = .ok (.aload_n 0, 1) := dq_567.2.2.2.2.2.2.2.2.2.1
theorem dX11_lineName_75 : decode cX11_lineName 75 = .ok (.getfield 13, 3) := dq_567.2.2.2.2.2.2.2.2.2.2.1
theorem dX11_lineName_78 : decode cX11_lineName 78 = .ok (.iload_n 1, 1) := dq_567.2.2.2.2.2.2.2.2.2.2.2
theorem dq_568 : decode cX11_lineName 79 = .ok (.iaload, 1) ∧ decode cX11_lineName 80 = .ok (.iload_n 3, 1) ∧ decode cX11_lineName 81 = .ok (.iadd, 1) ∧ decode cX11_lineName 82 = .ok (.iaload, 1) ∧ decode cX11_lineName 83 = .ok (.if_icmp .ne 7, 3) ∧ decode cX11_lineName 86 = .ok (.iconst 1, 1) ∧ decode cX11_lineName 87 = .ok (.goto 4, 3) ∧ decode cX11_lineName 90 = .ok (.iconst 0, 1) ∧ decode cX11_lineName 91 = .ok (.istore_n 2, 1) ∧ decode cX11_lineName 92 = .ok (.iinc 3 1, 3) ∧ decode cX11_lineName 95 = .ok (.goto (-52), 3) ∧ decode cX11_lineName 98 = .ok (.iload_n 2, 1) := by decide +kernel
theorem dX11_lineName_79 : decode cX11_lineName 79 = .ok (.iaload, 1) := dq_568.1
theorem dX11_lineName_80 : decode cX11_lineName 80 = .ok (.iload_n 3, 1) := dq_568.2.1
theorem dX11_lineName_81 : decode cX11_lineName 81 = .ok (.iadd, 1) := dq_568.2.2.1
theorem dX11_lineName_82 : decode cX11_lineName 82 = .ok (.iaload, 1) := dq_568.2.2.2.1
theorem dX11_lineName_83 : decode cX11_lineName 83 = .ok (.if_icmp .ne 7, 3) := dq_568.2.2.2.2.1
theorem dX11_lineName_86 : decode cX11_lineName 86 = .ok (.iconst 1, 1) := dq_568.2.2.2.2.2.1
theorem dX11_lineName_87 : decode cX11_lineName 87 = .ok (.goto 4, 3) := dq_568.2.2.2.2.2.2.1
theorem dX11_lineName_90 : decode cX11_lineName 90 = .ok (.iconst 0, 1) := dq_568.2.2.2.2.2.2.2.1
theorem dX11_lineName_91 : decode cX11_lineName 91 = .ok (.istore_n 2, 1) := dq_568.2.2.2.2.2.2.2.2.1
theorem dX11_lineName_92 : decode cX11_lineName 92 = .ok (.iinc 3 1, 3) := dq_568.2.2.2.2.2.2.2.2.2.1
theorem dX11_lineName_95 : decode cX11_lineName 95 = .ok (.goto (-52), 3) := dq_568.2.2.2.2.2.2.2.2.2.2.1
theorem dX11_lineName_98 : decode cX11_lineName 98 = .ok (.iload_n 2, 1) := dq_568.2.2.2.2.2.2.2.2.2.2.2
theorem dq_569 : decode cX11_lineName 99 = .ok (.ifCond .eq 5, 3) ∧ decode cX11_lineName 102 = .ok (.iload_n 1, 1) ∧ decode cX11_lineName 103 = .ok (.ireturn, 1) ∧ decode cX11_lineName 104 = .ok (.iinc 1 1, 3) ∧ decode cX11_lineName 107 = .ok (.goto (-105), 3) ∧ decode cX11_lineName 110 = .ok (.bipush (-4), 2) ∧ decode cX11_lineName 112 = .ok (.ireturn, 1) := by decide +kernel
theorem dX11_lineName_99 : decode cX11_lineName 99 = .ok (.ifCond .eq 5, 3) := dq_569.1
theorem dX11_lineName_102 : decode cX11_lineName 102 = .ok (.iload_n 1, 1) := dq_569.2.1
theorem dX11_lineName_103 : decode cX11_lineName 103 = .ok (.ireturn, 1) := dq_569.2.2.1
theorem dX11_lineName_104 : decode cX11_lineName 104 = .ok (.iinc 1 1, 3) := dq_569.2.2.2.1
theorem dX11_lineName_107 : decode cX11_lineName 107 = .ok (.goto (-105), 3) := dq_569.2.2.2.2.1
theorem dX11_lineName_110 : decode cX11_lineName 110 = .ok (.bipush (-4), 2) := dq_569.2.2.2.2.2.1
theorem dX11_lineName_112 : decode cX11_lineName 112 = .ok (.ireturn, 1) := dq_569.2.2.2.2.2.2
theorem dq_570 : decode cX11_next 0 = .ok (.aload_n 0, 1) ∧ decode cX11_next 1 = .ok (.getfield 100, 3) ∧ decode cX11_next 4 = .ok (.ifCond .le 4, 3) ∧ decode cX11_next 7 = .ok (.return_, 1) ∧ decode cX11_next 8 = .ok (.aload_n 0, 1) ∧ decode cX11_next 9 = .ok (.aload_n 0, 1) ∧ decode cX11_next 10 = .ok (.getfield 109, 3) ∧ decode cX11_next 13 = .ok (.invokevirtual 112, 3) ∧ decode cX11_next 16 = .ok (.bipush 32, 2) ∧ decode cX11_next 18 = .ok (.if_icmp .ne 16, 3) ∧ decode cX11_next 21 = .ok (.aload_n 0, 1) ∧ decode cX11_next 22 = .ok (.dup, 1) := by decide +kernel
theorem dX11_next_0 : decode cX11_next 0 = .ok (.aload_n 0, 1) := dq_570.1
theorem dX11_next_1 : decode cX11_next 1 = .ok (.getfield 100, 3) := dq_570.2.1
theorem dX11_next_4 : decode cX11_next 4 = .ok (.ifCond .le 4, 3) := dq_570.2.2.1
theorem dX11_next_7 : decode cX11_next 7 = .ok (.return_, 1) := dq_570.2.2.2.1
theorem dX11_next_8 : decode cX11_next 8 = .ok (.aload_n 0, 1) := dq_570.2.2.2.2.1
theorem dX11_next_9 : decode cX11_next 9 = .ok (.aload_n 0, 1) := dq_570.2.2.2.2.2.1
theorem dX11_next_10 : decode cX11_next 10 = .ok (.getfield 109, 3) := dq_570.2.2.2.2.2.2.1
theorem dX11_next_13 : decode cX11_next 13 = .ok (.invokevirtual 112, 3) := dq_570.2.2.2.2.2.2.2.1
theorem dX11_next_16 : decode cX11_next 16 = .ok (.bipush 32, 2) := dq_570.2.2.2.2.2.2.2.2.1
theorem dX11_next_18 : decode cX11_next 18 = .ok (.if_icmp .ne 16, 3) := dq_570.2.2.2.2.2.2.2.2.2.1
theorem dX11_next_21 : decode cX11_next 21 = .ok (.aload_n 0, 1) := dq_570.2.2.2.2.2.2.2.2.2.2.1
theorem dX11_next_22 : decode cX11_next 22 = .ok (.dup, 1) := dq_570.2.2.2.2.2.2.2.2.2.2.2
theorem dq_571 : decode cX11_next 23 = .ok (.getfield 109, 3) ∧ decode cX11_next 26 = .ok (.iconst 1, 1) ∧ decode cX11_next 27 = .ok (.iadd, 1) ∧ decode cX11_next 28 = .ok (.putfield 109, 3) ∧ decode cX11_next 31 = .ok (.goto (-23), 3) ∧ decode cX11_next 34 = .ok (.aload_n 0, 1) ∧ decode cX11_next 35 = .ok (.aload_n 0, 1) ∧ decode cX11_next 36 = .ok (.getfield 109, 3) ∧ decode cX11_next 39 = .ok (.putfield 103, 3) ∧ decode cX11_next 42 = .ok (.aload_n 0, 1) ∧ decode cX11_next 43 = .ok (.aload_n 0, 1) ∧ decode cX11_next 44 = .ok (.getfield 109, 3) := by decide +kernel
theorem dX11_next_23 : decode cX11_next 23 = .ok (.getfield 109, 3) := dq_571.1
theorem dX11_next_26 : decode cX11_next 26 = .ok (.iconst 1, 1) := dq_571.2.1
theorem dX11_next_27 : decode cX11_next 27 = .ok (.iadd, 1) := dq_571.2.2.1
theorem dX11_next_28 : decode cX11_next 28 = .ok (.putfield 109, 3) := dq_571.2.2.2.1
theorem dX11_next_31 : decode cX11_next 31 = .ok (.goto (-23), 3) := dq_571.2.2.2.2.1
theorem dX11_next_34 : decode cX11_next 34 = .ok (.aload_n 0, 1) := dq_571.2.2.2.2.2.1
theorem dX11_next_35 : decode cX11_next 35 = .ok (.aload_n 0, 1) := dq_571.2.2.2.2.2.2.1
theorem dX11_next_36 : decode cX11_next 36 = .ok (.getfield 109, 3) := dq_571.2.2.2.2.2.2.2.1
theorem dX11_next_39 : decode cX11_next 39 = .ok (.putfield 103, 3) := dq_571.2.2.2.2.2.2.2.2.1
theorem dX11_next_42 : decode cX11_next 42 = .ok (.aload_n 0, 1) := dq_571.2.2.2.2.2.2.2.2.2.1
theorem dX11_next_43 : decode cX11_next 43 = .ok (.aload_n 0, 1) := dq_571.2.2.2.2.2.2.2.2.2.2.1
theorem dX11_next_44 : decode cX11_next 44 = .ok (.getfield 109, 3) := dq_571.2.2.2.2.2.2.2.2.2.2.2
theorem dq_572 : decode cX11_next 47 = .ok (.invokevirtual 112, 3) ∧ decode cX11_next 50 = .ok (.istore_n 1, 1) ∧ decode cX11_next 51 = .ok (.aload_n 0, 1) ∧ decode cX11_next 52 = .ok (.iconst 0, 1) ∧ decode cX11_next 53 = .ok (.putfield 116, 3) ∧ decode cX11_next 56 = .ok (.iload_n 1, 1) ∧ decode cX11_next 57 = .ok (.bipush (-4), 2) ∧ decode cX11_next 59 = .ok (.if_icmp .ne 11, 3) ∧ decode cX11_next 62 = .ok (.aload_n 0, 1) ∧ decode cX11_next 63 = .ok (.iconst 0, 1) ∧ decode cX11_next 64 = .ok (.putfield 119, 3) ∧ decode cX11_next 67 = .ok (.goto 202, 3) := by decide +kernel
theorem dX11_next_47 : decode cX11_next 47 = .ok (.invokevirtual 112, 3) := dq_572.1
theorem dX11_next_50 : decode cX11_next 50 = .ok (.istore_n 1, 1) := dq_572.2.1
theorem dX11_next_51 : decode cX11_next 51 = .ok (.aload_n 0, 1) := dq_572.2.2.1
theorem dX11_next_52 : decode cX11_next 52 = .ok (.iconst 0, 1) := dq_572.2.2.2.1
theorem dX11_next_53 : decode cX11_next 53 = .ok (.putfield 116, 3) := dq_572.2.2.2.2.1
theorem dX11_next_56 : decode cX11_next 56 = .ok (.iload_n 1, 1) := dq_572.2.2.2.2.2.1
theorem dX11_next_57 : decode cX11_next 57 = .ok (.bipush (-4), 2) := dq_572.2.2.2.2.2.2.1
theorem dX11_next_59 : decode cX11_next 59 = .ok (.if_icmp .ne 11, 3) := dq_572.2.2.2.2.2.2.2.1
theorem dX11_next_62 : decode cX11_next 62 = .ok (.aload_n 0, 1) := dq_572.2.2.2.2.2.2.2.2.1
theorem dX11_next_63 : decode cX11_next 63 = .ok (.iconst 0, 1) := dq_572.2.2.2.2.2.2.2.2.2.1
theorem dX11_next_64 : decode cX11_next 64 = .ok (.putfield 119, 3) := dq_572.2.2.2.2.2.2.2.2.2.2.1
theorem dX11_next_67 : decode cX11_next 67 = .ok (.goto 202, 3) := dq_572.2.2.2.2.2.2.2.2.2.2.2
theorem dq_573 : decode cX11_next 70 = .ok (.iload_n 1, 1) ∧ decode cX11_next 71 = .ok (.i2l, 1) ∧ decode cX11_next 72 = .ok (.ldc2_w 122, 3) ∧ decode cX11_next 75 = .ok (.ldc2_w 124, 3) ∧ decode cX11_next 78 = .ok (.invokestatic 96, 3) ∧ decode cX11_next 81 = .ok (.ifCond .eq 45, 3) ∧ decode cX11_next 84 = .ok (.aload_n 0, 1) ∧ decode cX11_next 85 = .ok (.aload_n 0, 1) ∧ decode cX11_next 86 = .ok (.getfield 109, 3) ∧ decode cX11_next 89 = .ok (.invokevirtual 112, 3) ∧ decode cX11_next 92 = .ok (.i2l, 1) ∧ decode cX11_next 93 = .ok (.ldc2_w 122, 3) := by decide +kernel
theorem dX11_next_70 : decode cX11_next 70 = .ok (.iload_n 1, 1) := dq_573.1
theorem dX11_next_71 : decode cX11_next 71 = .ok (.i2l, 1) := dq_573.2.1
theorem dX11_next_72 : decode cX11_next 72 = .ok (.ldc2_w 122, 3) := dq_573.2.2.1
theorem dX11_next_75 : decode cX11_next 75 = .ok (.ldc2_w 124, 3) := dq_573.2.2.2.1
theorem dX11_next_78 : decode cX11_next 78 = .ok (.invokestatic 96, 3) := dq_573.2.2.2.2.1
theorem dX11_next_81 : decode cX11_next 81 = .ok (.ifCond .eq 45, 3) := dq_573.2.2.2.2.2.1
theorem dX11_next_84 : decode cX11_next 84 = .ok (.aload_n 0, 1) := dq_573.2.2.2.2.2.2.1
theorem dX11_next_85 : decode cX11_next 85 = .ok (.aload_n 0, 1) := dq_573.2.2.2.2.2.2.2.1
theorem dX11_next_86 : decode cX11_next 86 = .ok (.getfield 109, 3) := dq_573.2.2.2.2.2.2.2.2.1
theorem dX11_next_89 : decode cX11_next 89 = .ok (.invokevirtual 112, 3) := dq_573.2.2.2.2.2.2.2.2.2.1
theorem dX11_next_92 : decode cX11_next 92 = .ok (.i2l, 1) := dq_573.2.2.2.2.2.2.2.2.2.2.1
theorem dX11_next_93 : decode cX11_next 93 = .ok (.ldc2_w 122, 3) := dq_573.2.2.2.2.2.2.2.2.2.2.2
theorem dq_574 : decode cX11_next 96 = .ok (.ldc2_w 124, 3) ∧ decode cX11_next 99 = .ok (.invokestatic 96, 3) ∧ decode cX11_next 102 = .ok (.ifCond .eq 16, 3) ∧ decode cX11_next 105 = .ok (.aload_n 0, 1) ∧ decode cX11_next 106 = .ok (.dup, 1) ∧ decode cX11_next 107 = .ok (.getfield 109, 3) ∧ decode cX11_next 110 = .ok (.iconst 1, 1) ∧ decode cX11_next 111 = .ok (.iadd, 1) ∧ decode cX11_next 112 = .ok (.putfield 109, 3) ∧ decode cX11_next 115 = .ok (.goto (-31), 3) ∧ decode cX11_next 118 = .ok (.aload_n 0, 1) ∧ decode cX11_next 119 = .ok (.iconst 1, 1) := by decide +kernel
theorem dX11_next_96 : decode cX11_next 96 = .ok (.ldc2_w 124, 3) := dq_574.1
theorem dX11_next_99 : decode cX11_next 99 = .ok (.invokestatic 96, 3) := dq_574.2.1
theorem dX11_next_102 : decode cX11_next 102 = .ok (.ifCond .eq 16, 3) := dq_574.2.2.1
theorem dX11_next_105 : decode cX11_next 105 = .ok (.aload_n 0, 1) := dq_574.2.2.2.1
theorem dX11_next_106 : decode cX11_next 106 = .ok (.dup, 1) := dq_574.2.2.2.2.1
theorem dX11_next_107 : decode cX11_next 107 = .ok (.getfield 109, 3) := dq_574.2.2.2.2.2.1
theorem dX11_next_110 : decode cX11_next 110 = .ok (.iconst 1, 1) := dq_574.2.2.2.2.2.2.1
theorem dX11_next_111 : decode cX11_next 111 = .ok (.iadd, 1) := dq_574.2.2.2.2.2.2.2.1
theorem dX11_next_112 : decode cX11_next 112 = .ok (.putfield 109, 3) := dq_574.2.2.2.2.2.2.2.2.1
theorem dX11_next_115 : decode cX11_next 115 = .ok (.goto (-31), 3) := dq_574.2.2.2.2.2.2.2.2.2.1
theorem dX11_next_118 : decode cX11_next 118 = .ok (.aload_n 0, 1) := dq_574.2.2.2.2.2.2.2.2.2.2.1
theorem dX11_next_119 : decode cX11_next 119 = .ok (.iconst 1, 1) := dq_574.2.2.2.2.2.2.2.2.2.2.2
theorem dq_575 : decode cX11_next 120 = .ok (.putfield 119, 3) ∧ decode cX11_next 123 = .ok (.goto 146, 3) ∧ decode cX11_next 126 = .ok (.iload_n 1, 1) ∧ decode cX11_next 127 = .ok (.i2l, 1) ∧ decode cX11_next 128 = .ok (.ldc2_w 126, 3) ∧ decode cX11_next 131 = .ok (.ldc2_w 128, 3) ∧ decode cX11_next 134 = .ok (.invokestatic 96, 3) ∧ decode cX11_next 137 = .ok (.ifCond .eq 106, 3) ∧ decode cX11_next 140 = .ok (.aload_n 0, 1) ∧ decode cX11_next 141 = .ok (.aload_n 0, 1) ∧ decode cX11_next 142 = .ok (.getfield 109, 3) ∧ decode cX11_next 145 = .ok (.invokevirtual 112, 3) := by decide +kernel
theorem dX11_next_120 : decode cX11_next 120 = .ok (.putfield 119, 3) := dq_575.1
theorem dX11_next_123 : decode cX11_next 123 = .ok (.goto 146, 3) := dq_575.2.1
theorem dX11_next_126 : decode cX11_next 126 = .ok (.iload_n 1, 1) := dq_575.2.2.1
theorem dX11_next_127 : decode cX11_next 127 = .ok (.i2l, 1) := dq_575.2.2.2.1
theorem dX11_next_128 : decode cX11_next 128 = .ok (.ldc2_w 126, 3) := dq_575.2.2.2.2.1
theorem dX11_next_131 : decode cX11_next 131 = .ok (.ldc2_w 128, 3) := dq_575.2.2.2.2.2.1
theorem dX11_next_134 : decode cX11_next 134 = .ok (.invokestatic 96, 3) := dq_575.2.2.2.2.2.2.1
theorem dX11_next_137 : decode cX11_next 137 = .ok (.ifCond .eq 106, 3) := dq_575.2.2.2.2.2.2.2.1
theorem dX11_next_140 : decode cX11_next 140 = .ok (.aload_n 0, 1) := dq_575.2.2.2.2.2.2.2.2.1
theorem dX11_next_141 : decode cX11_next 141 = .ok (.aload_n 0, 1) := dq_575.2.2.2.2.2.2.2.2.2.1
theorem dX11_next_142 : decode cX11_next 142 = .ok (.getfield 109, 3) := dq_575.2.2.2.2.2.2.2.2.2.2.1
theorem dX11_next_145 : decode cX11_next 145 = .ok (.invokevirtual 112, 3) := dq_575.2.2.2.2.2.2.2.2.2.2.2
theorem dq_576 : decode cX11_next 148 = .ok (.i2l, 1) ∧ decode cX11_next 149 = .ok (.ldc2_w 126, 3) ∧ decode cX11_next 152 = .ok (.ldc2_w 128, 3) ∧ decode cX11_next 155 = .ok (.invokestatic 96, 3) ∧ decode cX11_next 158 = .ok (.ifCond .eq 59, 3) ∧ decode cX11_next 161 = .ok (.aload_n 0, 1) ∧ decode cX11_next 162 = .ok (.aload_n 0, 1) ∧ decode cX11_next 163 = .ok (.getfield 109, 3) ∧ decode cX11_next 166 = .ok (.aload_n 0, 1) ∧ decode cX11_next 167 = .ok (.getfield 103, 3) ∧ decode cX11_next 170 = .ok (.isub, 1) ∧ decode cX11_next 171 = .ok (.iconst 3, 1) := by decide +kernel
theorem dX11_next_148 : decode cX11_next 148 = .ok (.i2l, 1) := dq_576.1
theorem dX11_next_149 : decode cX11_next 149 = .ok (.ldc2_w 126, 3) := dq_576.2.1
theorem dX11_next_152 : decode cX11_next 152 = .ok (.ldc2_w 128, 3) := dq_576.2.2.1
theorem dX11_next_155 : decode cX11_next 155 = .ok (.invokestatic 96, 3) := dq_576.2.2.2.1
theorem dX11_next_158 : decode cX11_next 158 = .ok (.ifCond .eq 59, 3) := dq_576.2.2.2.2.1
theorem dX11_next_161 : decode cX11_next 161 = .ok (.aload_n 0, 1) := dq_576.2.2.2.2.2.1
theorem dX11_next_162 : decode cX11_next 162 = .ok (.aload_n 0, 1) := dq_576.2.2.2.2.2.2.1
theorem dX11_next_163 : decode cX11_next 163 = .ok (.getfield 109, 3) := dq_576.2.2.2.2.2.2.2.1
theorem dX11_next_166 : decode cX11_next 166 = .ok (.aload_n 0, 1) := dq_576.2.2.2.2.2.2.2.2.1
theorem dX11_next_167 : decode cX11_next 167 = .ok (.getfield 103, 3) := dq_576.2.2.2.2.2.2.2.2.2.1
theorem dX11_next_170 : decode cX11_next 170 = .ok (.isub, 1) := dq_576.2.2.2.2.2.2.2.2.2.2.1
theorem dX11_next_171 : decode cX11_next 171 = .ok (.iconst 3, 1) := dq_576.2.2.2.2.2.2.2.2.2.2.2
theorem dq_577 : decode cX11_next 172 = .ok (.if_icmp .ge 25, 3) ∧ decode cX11_next 175 = .ok (.bipush 10, 2) ∧ decode cX11_next 177 = .ok (.aload_n 0, 1) ∧ decode cX11_next 178 = .ok (.getfield 116, 3) ∧ decode cX11_next 181 = .ok (.imul, 1) ∧ decode cX11_next 182 = .ok (.aload_n 0, 1) ∧ decode cX11_next 183 = .ok (.aload_n 0, 1) ∧ decode cX11_next 184 = .ok (.getfield 109, 3) ∧ decode cX11_next 187 = .ok (.invokevirtual 112, 3) ∧ decode cX11_next 190 = .ok (.iadd, 1) ∧ decode cX11_next 191 = .ok (.bipush 48, 2) ∧ decode cX11_next 193 = .ok (.isub, 1) := by decide +kernel
theorem dX11_next_172 : decode cX11_next 172 = .ok (.if_icmp .ge 25, 3) := dq_577.1
theorem dX11_next_175 : decode cX11_next 175 = .ok (.bipush 10, 2) := dq_577.2.1
theorem dX11_next_177 : decode cX11_next 177 = .ok (.aload_n 0, 1) := dq_577.2.2.1
theorem dX11_next_178 : decode cX11_next 178 = .ok (.getfield 116, 3) := dq_577.2.2.2.1
theorem dX11_next_181 : decode cX11_next 181 = .ok (.imul, 1) := dq_577.2.2.2.2.1
theorem dX11_next_182 : decode cX11_next 182 = .ok (.aload_n 0, 1) := dq_577.2.2.2.2.2.1
theorem dX11_next_183 : decode cX11_next 183 = .ok (.aload_n 0, 1) := dq_577.2.2.2.2.2.2.1
theorem dX11_next_184 : decode cX11_next 184 = .ok (.getfield 109, 3) := dq_577.2.2.2.2.2.2.2.1
theorem dX11_next_187 : decode cX11_next 187 = .ok (.invokevirtual 112, 3) := dq_577.2.2.2.2.2.2.2.2.1
theorem dX11_next_190 : decode cX11_next 190 = .ok (.iadd, 1) := dq_577.2.2.2.2.2.2.2.2.2.1
theorem dX11_next_191 : decode cX11_next 191 = .ok (.bipush 48, 2) := dq_577.2.2.2.2.2.2.2.2.2.2.1
theorem dX11_next_193 : decode cX11_next 193 = .ok (.isub, 1) := dq_577.2.2.2.2.2.2.2.2.2.2.2
theorem dq_578 : decode cX11_next 194 = .ok (.goto 7, 3) ∧ decode cX11_next 197 = .ok (.aload_n 0, 1) ∧ decode cX11_next 198 = .ok (.getfield 116, 3) ∧ decode cX11_next 201 = .ok (.putfield 116, 3) ∧ decode cX11_next 204 = .ok (.aload_n 0, 1) ∧ decode cX11_next 205 = .ok (.dup, 1) ∧ decode cX11_next 206 = .ok (.getfield 109, 3) ∧ decode cX11_next 209 = .ok (.iconst 1, 1) ∧ decode cX11_next 210 = .ok (.iadd, 1) ∧ decode cX11_next 211 = .ok (.putfield 109, 3) ∧ decode cX11_next 214 = .ok (.goto (-74), 3) ∧ decode cX11_next 217 = .ok (.aload_n 0, 1) := by decide +kernel
theorem dX11_next_194 : decode cX11_next 194 = .ok (.goto 7, 3) := dq_578.1
theorem dX11_next_197 : decode cX11_next 197 = .ok (.aload_n 0, 1) := dq_578.2.1
theorem dX11_next_198 : decode cX11_next 198 = .ok (.getfield 116, 3) := dq_578.2.2.1
theorem dX11_next_201 : decode cX11_next 201 = .ok (.putfield 116, 3) := dq_578.2.2.2.1
theorem dX11_next_204 : decode cX11_next 204 = .ok (.aload_n 0, 1) := dq_578.2.2.2.2.1
theorem dX11_next_205 : decode cX11_next 205 = .ok (.dup, 1) := dq_578.2.2.2.2.2.1
theorem dX11_next_206 : decode cX11_next 206 = .ok (.getfield 109, 3) := dq_578.2.2.2.2.2.2.1
theorem dX11_next_209 : decode cX11_next 209 = .ok (.iconst 1, 1) := dq_578.2.2.2.2.2.2.2.1
theorem dX11_next_210 : decode cX11_next 210 = .ok (.iadd, 1) := dq_578.2.2.2.2.2.2.2.2.1
theorem dX11_next_211 : decode cX11_next 211 = .ok (.putfield 109, 3) := dq_578.2.2.2.2.2.2.2.2.2.1
theorem dX11_next_214 : decode cX11_next 214 = .ok (.goto (-74), 3) := dq_578.2.2.2.2.2.2.2.2.2.2.1
theorem dX11_next_217 : decode cX11_next 217 = .ok (.aload_n 0, 1) := dq_578.2.2.2.2.2.2.2.2.2.2.2
theorem dq_579 : decode cX11_next 218 = .ok (.iconst 2, 1) ∧ decode cX11_next 219 = .ok (.putfield 119, 3) ∧ decode cX11_next 222 = .ok (.aload_n 0, 1) ∧ decode cX11_next 223 = .ok (.getfield 109, 3) ∧ decode cX11_next 226 = .ok (.aload_n 0, 1) ∧ decode cX11_next 227 = .ok (.getfield 103, 3) ∧ decode cX11_next 230 = .ok (.isub, 1) ∧ decode cX11_next 231 = .ok (.iconst 3, 1) ∧ decode cX11_next 232 = .ok (.if_icmp .le 37, 3) ∧ decode cX11_next 235 = .ok (.aload_n 0, 1) ∧ decode cX11_next 236 = .ok (.iconst 1, 1) ∧ decode cX11_next 237 = .ok (.invokevirtual 130, 3) := by decide +kernel
theorem dX11_next_218 : decode cX11_next 218 = .ok (.iconst 2, 1) := dq_579.1
theorem dX11_next_219 : decode cX11_next 219 = .ok (.putfield 119, 3) := dq_579.2.1
theorem dX11_next_222 : decode cX11_next 222 = .ok (.aload_n 0, 1) := dq_579.2.2.1
theorem dX11_next_223 : decode cX11_next 223 = .ok (.getfield 109, 3) := dq_579.2.2.2.1
theorem dX11_next_226 : decode cX11_next 226 = .ok (.aload_n 0, 1) := dq_579.2.2.2.2.1
theorem dX11_next_227 : decode cX11_next 227 = .ok (.getfield 103, 3) := dq_579.2.2.2.2.2.1
theorem dX11_next_230 : decode cX11_next 230 = .ok (.isub, 1) := dq_579.2.2.2.2.2.2.1
theorem dX11_next_231 : decode cX11_next 231 = .ok (.iconst 3, 1) := dq_579.2.2.2.2.2.2.2.1
theorem dX11_next_232 : decode cX11_next 232 = .ok (.if_icmp .le 37, 3) := dq_579.2.2.2.2.2.2.2.2.1
theorem dX11_next_235 : decode cX11_next 235 = .ok (.aload_n 0, 1) := dq_579.2.2.2.2.2.2.2.2.2.1
theorem dX11_next_236 : decode cX11_next 236 = .ok (.iconst 1, 1) := dq_579.2.2.2.2.2.2.2.2.2.2.1
theorem dX11_next_237 : decode cX11_next 237 = .ok (.invokevirtual 130, 3) := dq_579.2.2.2.2.2.2.2.2.2.2.2
theorem dq_580 : decode cX11_next 240 = .ok (.goto 29, 3) ∧ decode cX11_next 243 = .ok (.aload_n 0, 1) ∧ decode cX11_next 244 = .ok (.iconst 3, 1) ∧ decode cX11_next 245 = .ok (.putfield 119, 3) ∧ decode cX11_next 248 = .ok (.aload_n 0, 1) ∧ decode cX11_next 249 = .ok (.dup, 1) ∧ decode cX11_next 250 = .ok (.getfield 109, 3) ∧ decode cX11_next 253 = .ok (.iconst 1, 1) ∧ decode cX11_next 254 = .ok (.iadd, 1) ∧ decode cX11_next 255 = .ok (.putfield 109, 3) ∧ decode cX11_next 258 = .ok (.iload_n 1, 1) ∧ decode cX11_next 259 = .ok (.bipush 59, 2) := by decide +kernel
theorem dX11_next_240 : decode cX11_next 240 = .ok (.goto 29, 3) := dq_580.1
theorem dX11_next_243 : decode cX11_next 243 = .ok (.aload_n 0, 1) := dq_580.2.1
theorem dX11_next_244 : decode cX11_next 244 = .ok (.iconst 3, 1) := dq_580.2.2.1
theorem dX11_next_245 : decode cX11_next 245 = .ok (.putfield 119, 3) := dq_580.2.2.2.1
theorem dX11_next_248 : decode cX11_next 248 = .ok (.aload_n 0, 1) := dq_580.2.2.2.2.1
theorem dX11_next_249 : decode cX11_next 249 = .ok (.dup, 1) := dq_580.2.2.2.2.2.1
theorem dX11_next_250 : decode cX11_next 250 = .ok (.getfield 109, 3) := dq_580.2.2.2.2.2.2.1
theorem dX11_next_253 : decode cX11_next 253 = .ok (.iconst 1, 1) := dq_580.2.2.2.2.2.2.2.1
theorem dX11_next_254 : decode cX11_next 254 = .ok (.iadd, 1) := dq_580.2.2.2.2.2.2.2.2.1
theorem dX11_next_255 : decode cX11_next 255 = .ok (.putfield 109, 3) := dq_580.2.2.2.2.2.2.2.2.2.1
theorem dX11_next_258 : decode cX11_next 258 = .ok (.iload_n 1, 1) := dq_580.2.2.2.2.2.2.2.2.2.2.1
theorem dX11_next_259 : decode cX11_next 259 = .ok (.bipush 59, 2) := dq_580.2.2.2.2.2.2.2.2.2.2.2
theorem dq_581 : decode cX11_next 261 = .ok (.if_icmp .eq 8, 3) ∧ decode cX11_next 264 = .ok (.aload_n 0, 1) ∧ decode cX11_next 265 = .ok (.iconst 1, 1) ∧ decode cX11_next 266 = .ok (.invokevirtual 130, 3) ∧ decode cX11_next 269 = .ok (.return_, 1) := by decide +kernel
theorem dX11_next_261 : decode cX11_next 261 = .ok (.if_icmp .eq 8, 3) := dq_581.1
theorem dX11_next_264 : decode cX11_next 264 = .ok (.aload_n 0, 1) := dq_581.2.1
theorem dX11_next_265 : decode cX11_next 265 = .ok (.iconst 1, 1) := dq_581.2.2.1
theorem dX11_next_266 : decode cX11_next 266 = .ok (.invokevirtual 130, 3) := dq_581.2.2.2.1
theorem dX11_next_269 : decode cX11_next 269 = .ok (.return_, 1) := dq_581.2.2.2.2
theorem dq_582 : decode cX11_number 0 = .ok (.aload_n 0, 1) ∧ decode cX11_number 1 = .ok (.getfield 100, 3) ∧ decode cX11_number 4 = .ok (.ifCond .ne 16, 3) ∧ decode cX11_number 7 = .ok (.aload_n 0, 1) ∧ decode cX11_number 8 = .ok (.getfield 119, 3) ∧ decode cX11_number 11 = .ok (.iconst 2, 1) ∧ decode cX11_number 12 = .ok (.if_icmp .eq 8, 3) ∧ decode cX11_number 15 = .ok (.aload_n 0, 1) ∧ decode cX11_number 16 = .ok (.iconst 2, 1) ∧ decode cX11_number 17 = .ok (.invokevirtual 130, 3) ∧ decode cX11_number 20 = .ok (.aload_n 0, 1) ∧ decode cX11_number 21 = .ok (.getfield 100, 3) := by decide +kernel
theorem dX11_number_0 : decode cX11_number 0 = .ok (.aload_n 0, 1) := dq_582.1
theorem dX11_number_1 : decode cX11_number 1 = .ok (.getfield 100, 3) := dq_582.2.1
theorem dX11_number_4 : decode cX11_number 4 = .ok (.ifCond .ne 16, 3) := dq_582.2.2.1
theorem dX11_number_7 : decode cX11_number 7 = .ok (.aload_n 0, 1) := dq_582.2.2.2.1
theorem dX11_number_8 : decode cX11_number 8 = .ok (.getfield 119, 3) := dq_582.2.2.2.2.1
theorem dX11_number_11 : decode cX11_number 11 = .ok (.iconst 2, 1) := dq_582.2.2.2.2.2.1
theorem dX11_number_12 : decode cX11_number 12 = .ok (.if_icmp .eq 8, 3) := dq_582.2.2.2.2.2.2.1
theorem dX11_number_15 : decode cX11_number 15 = .ok (.aload_n 0, 1) := dq_582.2.2.2.2.2.2.2.1
theorem dX11_number_16 : decode cX11_number 16 = .ok (.iconst 2, 1) := dq_582.2.2.2.2.2.2.2.2.1
theorem dX11_number_17 : decode cX11_number 17 = .ok (.invokevirtual 130, 3) := dq_582.2.2.2.2.2.2.2.2.2.1
theorem dX11_number_20 : decode cX11_number 20 = .ok (.aload_n 0, 1) := dq_582.2.2.2.2.2.2.2.2.2.2.1
theorem dX11_number_21 : decode cX11_number 21 = .ok (.getfield 100, 3) := dq_582.2.2.2.2.2.2.2.2.2.2.2
theorem dq_583 : decode cX11_number 24 = .ok (.ifCond .ne 23, 3) ∧ decode cX11_number 27 = .ok (.aload_n 0, 1) ∧ decode cX11_number 28 = .ok (.getfield 116, 3) ∧ decode cX11_number 31 = .ok (.i2l, 1) ∧ decode cX11_number 32 = .ok (.iload_n 1, 1) ∧ decode cX11_number 33 = .ok (.i2l, 1) ∧ decode cX11_number 34 = .ok (.iload_n 2, 1) ∧ decode cX11_number 35 = .ok (.i2l, 1) ∧ decode cX11_number 36 = .ok (.invokestatic 96, 3) ∧ decode cX11_number 39 = .ok (.ifCond .ne 8, 3) ∧ decode cX11_number 42 = .ok (.aload_n 0, 1) ∧ decode cX11_number 43 = .ok (.iconst 3, 1) := by decide +kernel
theorem dX11_number_24 : decode cX11_number 24 = .ok (.ifCond .ne 23, 3) := dq_583.1
theorem dX11_number_27 : decode cX11_number 27 = .ok (.aload_n 0, 1) := dq_583.2.1
theorem dX11_number_28 : decode cX11_number 28 = .ok (.getfield 116, 3) := dq_583.2.2.1
theorem dX11_number_31 : decode cX11_number 31 = .ok (.i2l, 1) := dq_583.2.2.2.1
theorem dX11_number_32 : decode cX11_number 32 = .ok (.iload_n 1, 1) := dq_583.2.2.2.2.1
theorem dX11_number_33 : decode cX11_number 33 = .ok (.i2l, 1) := dq_583.2.2.2.2.2.1
theorem dX11_number_34 : decode cX11_number 34 = .ok (.iload_n 2, 1) := dq_583.2.2.2.2.2.2.1
theorem dX11_number_35 : decode cX11_number 35 = .ok (.i2l, 1) := dq_583.2.2.2.2.2.2.2.1
theorem dX11_number_36 : decode cX11_number 36 = .ok (.invokestatic 96, 3) := dq_583.2.2.2.2.2.2.2.2.1
theorem dX11_number_39 : decode cX11_number 39 = .ok (.ifCond .ne 8, 3) := dq_583.2.2.2.2.2.2.2.2.2.1
theorem dX11_number_42 : decode cX11_number 42 = .ok (.aload_n 0, 1) := dq_583.2.2.2.2.2.2.2.2.2.2.1
theorem dX11_number_43 : decode cX11_number 43 = .ok (.iconst 3, 1) := dq_583.2.2.2.2.2.2.2.2.2.2.2
theorem dq_584 : decode cX11_number 44 = .ok (.invokevirtual 130, 3) ∧ decode cX11_number 47 = .ok (.aload_n 0, 1) ∧ decode cX11_number 48 = .ok (.getfield 100, 3) ∧ decode cX11_number 51 = .ok (.ifCond .ne 10, 3) ∧ decode cX11_number 54 = .ok (.aload_n 0, 1) ∧ decode cX11_number 55 = .ok (.getfield 116, 3) ∧ decode cX11_number 58 = .ok (.goto 4, 3) ∧ decode cX11_number 61 = .ok (.iload_n 1, 1) ∧ decode cX11_number 62 = .ok (.ireturn, 1) := by decide +kernel
theorem dX11_number_44 : decode cX11_number 44 = .ok (.invokevirtual 130, 3) := dq_584.1
theorem dX11_number_47 : decode cX11_number 47 = .ok (.aload_n 0, 1) := dq_584.2.1
theorem dX11_number_48 : decode cX11_number 48 = .ok (.getfield 100, 3) := dq_584.2.2.1
theorem dX11_number_51 : decode cX11_number 51 = .ok (.ifCond .ne 10, 3) := dq_584.2.2.2.1
theorem dX11_number_54 : decode cX11_number 54 = .ok (.aload_n 0, 1) := dq_584.2.2.2.2.1
theorem dX11_number_55 : decode cX11_number 55 = .ok (.getfield 116, 3) := dq_584.2.2.2.2.2.1
theorem dX11_number_58 : decode cX11_number 58 = .ok (.goto 4, 3) := dq_584.2.2.2.2.2.2.1
theorem dX11_number_61 : decode cX11_number 61 = .ok (.iload_n 1, 1) := dq_584.2.2.2.2.2.2.2.1
theorem dX11_number_62 : decode cX11_number 62 = .ok (.ireturn, 1) := dq_584.2.2.2.2.2.2.2.2
theorem dq_585 : decode cX11_readThing 0 = .ok (.aload_n 0, 1) ∧ decode cX11_readThing 1 = .ok (.getfield 134, 3) ∧ decode cX11_readThing 4 = .ok (.bipush 12, 2) ∧ decode cX11_readThing 6 = .ok (.if_icmp .ne 8, 3) ∧ decode cX11_readThing 9 = .ok (.aload_n 0, 1) ∧ decode cX11_readThing 10 = .ok (.iconst 5, 1) ∧ decode cX11_readThing 11 = .ok (.invokevirtual 130, 3) ∧ decode cX11_readThing 14 = .ok (.aload_n 0, 1) ∧ decode cX11_readThing 15 = .ok (.invokevirtual 137, 3) ∧ decode cX11_readThing 18 = .ok (.aload_n 0, 1) ∧ decode cX11_readThing 19 = .ok (.getfield 134, 3) ∧ decode cX11_readThing 22 = .ok (.bipush 12, 2) := by decide +kernel
theorem dX11_readThing_0 : decode cX11_readThing 0 = .ok (.aload_n 0, 1) := dq_585.1
theorem dX11_readThing_1 : decode cX11_readThing 1 = .ok (.getfield 134, 3) := dq_585.2.1
theorem dX11_readThing_4 : decode cX11_readThing 4 = .ok (.bipush 12, 2) := dq_585.2.2.1
theorem dX11_readThing_6 : decode cX11_readThing 6 = .ok (.if_icmp .ne 8, 3) := dq_585.2.2.2.1
theorem dX11_readThing_9 : decode cX11_readThing 9 = .ok (.aload_n 0, 1) := dq_585.2.2.2.2.1
theorem dX11_readThing_10 : decode cX11_readThing 10 = .ok (.iconst 5, 1) := dq_585.2.2.2.2.2.1
theorem dX11_readThing_11 : decode cX11_readThing 11 = .ok (.invokevirtual 130, 3) := dq_585.2.2.2.2.2.2.1
theorem dX11_readThing_14 : decode cX11_readThing 14 = .ok (.aload_n 0, 1) := dq_585.2.2.2.2.2.2.2.1
theorem dX11_readThing_15 : decode cX11_readThing 15 = .ok (.invokevirtual 137, 3) := dq_585.2.2.2.2.2.2.2.2.1
theorem dX11_readThing_18 : decode cX11_readThing 18 = .ok (.aload_n 0, 1) := dq_585.2.2.2.2.2.2.2.2.2.1
theorem dX11_readThing_19 : decode cX11_readThing 19 = .ok (.getfield 134, 3) := dq_585.2.2.2.2.2.2.2.2.2.2.1
theorem dX11_readThing_22 : decode cX11_readThing 22 = .ok (.bipush 12, 2) := dq_585.2.2.2.2.2.2.2.2.2.2.2
theorem dq_586 : decode cX11_readThing 24 = .ok (.if_icmp .ge 10, 3) ∧ decode cX11_readThing 27 = .ok (.aload_n 0, 1) ∧ decode cX11_readThing 28 = .ok (.getfield 134, 3) ∧ decode cX11_readThing 31 = .ok (.goto 4, 3) ∧ decode cX11_readThing 34 = .ok (.iconst 0, 1) ∧ decode cX11_readThing 35 = .ok (.istore_n 2, 1) ∧ decode cX11_readThing 36 = .ok (.aload_n 0, 1) ∧ decode cX11_readThing 37 = .ok (.getfield 100, 3) ∧ decode cX11_readThing 40 = .ok (.ifCond .ne 31, 3) ∧ decode cX11_readThing 43 = .ok (.aload_n 0, 1) ∧ decode cX11_readThing 44 = .ok (.getfield 41, 3) ∧ decode cX11_readThing 47 = .ok (.iload_n 2, 1) := by decide +kernel
theorem dX11_readThing_24 : decode cX11_readThing 24 = .ok (.if_icmp .ge 10, 3) := dq_586.1
theorem dX11_readThing_27 : decode cX11_readThing 27 = .ok (.aload_n 0, 1) := dq_586.2.1
theorem dX11_readThing_28 : decode cX11_readThing 28 = .ok (.getfield 134, 3) := dq_586.2.2.1
theorem dX11_readThing_31 : decode cX11_readThing 31 = .ok (.goto 4, 3) := dq_586.2.2.2.1
theorem dX11_readThing_34 : decode cX11_readThing 34 = .ok (.iconst 0, 1) := dq_586.2.2.2.2.1
theorem dX11_readThing_35 : decode cX11_readThing 35 = .ok (.istore_n 2, 1) := dq_586.2.2.2.2.2.1
theorem dX11_readThing_36 : decode cX11_readThing 36 = .ok (.aload_n 0, 1) := dq_586.2.2.2.2.2.2.1
theorem dX11_readThing_37 : decode cX11_readThing 37 = .ok (.getfield 100, 3) := dq_586.2.2.2.2.2.2.2.1
theorem dX11_readThing_40 : decode cX11_readThing 40 = .ok (.ifCond .ne 31, 3) := dq_586.2.2.2.2.2.2.2.2.1
theorem dX11_readThing_43 : decode cX11_readThing 43 = .ok (.aload_n 0, 1) := dq_586.2.2.2.2.2.2.2.2.2.1
theorem dX11_readThing_44 : decode cX11_readThing 44 = .ok (.getfield 41, 3) := dq_586.2.2.2.2.2.2.2.2.2.2.1
theorem dX11_readThing_47 : decode cX11_readThing 47 = .ok (.iload_n 2, 1) := dq_586.2.2.2.2.2.2.2.2.2.2.2
theorem dq_587 : decode cX11_readThing 48 = .ok (.iconst 0, 1) ∧ decode cX11_readThing 49 = .ok (.iastore, 1) ∧ decode cX11_readThing 50 = .ok (.aload_n 0, 1) ∧ decode cX11_readThing 51 = .ok (.getfield 44, 3) ∧ decode cX11_readThing 54 = .ok (.iload_n 2, 1) ∧ decode cX11_readThing 55 = .ok (.iconst 0, 1) ∧ decode cX11_readThing 56 = .ok (.iastore, 1) ∧ decode cX11_readThing 57 = .ok (.aload_n 0, 1) ∧ decode cX11_readThing 58 = .ok (.getfield 47, 3) ∧ decode cX11_readThing 61 = .ok (.iload_n 2, 1) ∧ decode cX11_readThing 62 = .ok (.iconst 0, 1) ∧ decode cX11_readThing 63 = .ok (.iastore, 1) := by decide +kernel
theorem dX11_readThing_48 : decode cX11_readThing 48 = .ok (.iconst 0, 1) := dq_587.1
theorem dX11_readThing_49 : decode cX11_readThing 49 = .ok (.iastore, 1) := dq_587.2.1
theorem dX11_readThing_50 : decode cX11_readThing 50 = .ok (.aload_n 0, 1) := dq_587.2.2.1
theorem dX11_readThing_51 : decode cX11_readThing 51 = .ok (.getfield 44, 3) := dq_587.2.2.2.1
theorem dX11_readThing_54 : decode cX11_readThing 54 = .ok (.iload_n 2, 1) := dq_587.2.2.2.2.1
theorem dX11_readThing_55 : decode cX11_readThing 55 = .ok (.iconst 0, 1) := dq_587.2.2.2.2.2.1
theorem dX11_readThing_56 : decode cX11_readThing 56 = .ok (.iastore, 1) := dq_587.2.2.2.2.2.2.1
theorem dX11_readThing_57 : decode cX11_readThing 57 = .ok (.aload_n 0, 1) := dq_587.2.2.2.2.2.2.2.1
theorem dX11_readThing_58 : decode cX11_readThing 58 = .ok (.getfield 47, 3) := dq_587.2.2.2.2.2.2.2.2.1
theorem dX11_readThing_61 : decode cX11_readThing 61 = .ok (.iload_n 2, 1) := dq_587.2.2.2.2.2.2.2.2.2.1
theorem dX11_readThing_62 : decode cX11_readThing 62 = .ok (.iconst 0, 1) := dq_587.2.2.2.2.2.2.2.2.2.2.1
theorem dX11_readThing_63 : decode cX11_readThing 63 = .ok (.iastore, 1) := dq_587.2.2.2.2.2.2.2.2.2.2.2
theorem dq_588 : decode cX11_readThing 64 = .ok (.aload_n 0, 1) ∧ decode cX11_readThing 65 = .ok (.getfield 50, 3) ∧ decode cX11_readThing 68 = .ok (.iload_n 2, 1) ∧ decode cX11_readThing 69 = .ok (.iconst 0, 1) ∧ decode cX11_readThing 70 = .ok (.iastore, 1) ∧ decode cX11_readThing 71 = .ok (.iload_n 1, 1) ∧ decode cX11_readThing 72 = .ok (.ifCond .eq 51, 3) ∧ decode cX11_readThing 75 = .ok (.aload_n 0, 1) ∧ decode cX11_readThing 76 = .ok (.iconst 1, 1) ∧ decode cX11_readThing 77 = .ok (.bipush 99, 2) ∧ decode cX11_readThing 79 = .ok (.invokevirtual 140, 3) ∧ decode cX11_readThing 82 = .ok (.istore_n 3, 1) := by decide +kernel
theorem dX11_readThing_64 : decode cX11_readThing 64 = .ok (.aload_n 0, 1) := dq_588.1
theorem dX11_readThing_65 : decode cX11_readThing 65 = .ok (.getfield 50, 3) := dq_588.2.1
theorem dX11_readThing_68 : decode cX11_readThing 68 = .ok (.iload_n 2, 1) := dq_588.2.2.1
theorem dX11_readThing_69 : decode cX11_readThing 69 = .ok (.iconst 0, 1) := dq_588.2.2.2.1
theorem dX11_readThing_70 : decode cX11_readThing 70 = .ok (.iastore, 1) := dq_588.2.2.2.2.1
theorem dX11_readThing_71 : decode cX11_readThing 71 = .ok (.iload_n 1, 1) := dq_588.2.2.2.2.2.1
theorem dX11_readThing_72 : decode cX11_readThing 72 = .ok (.ifCond .eq 51, 3) := dq_588.2.2.2.2.2.2.1
theorem dX11_readThing_75 : decode cX11_readThing 75 = .ok (.aload_n 0, 1) := dq_588.2.2.2.2.2.2.2.1
theorem dX11_readThing_76 : decode cX11_readThing 76 = .ok (.iconst 1, 1) := dq_588.2.2.2.2.2.2.2.2.1
theorem dX11_readThing_77 : decode cX11_readThing 77 = .ok (.bipush 99, 2) := dq_588.2.2.2.2.2.2.2.2.2.1
theorem dX11_readThing_79 : decode cX11_readThing 79 = .ok (.invokevirtual 140, 3) := dq_588.2.2.2.2.2.2.2.2.2.2.1
theorem dX11_readThing_82 : decode cX11_readThing 82 = .ok (.istore_n 3, 1) := dq_588.2.2.2.2.2.2.2.2.2.2.2
theorem dq_589 : decode cX11_readThing 83 = .ok (.aload_n 0, 1) ∧ decode cX11_readThing 84 = .ok (.invokevirtual 137, 3) ∧ decode cX11_readThing 87 = .ok (.aload_n 0, 1) ∧ decode cX11_readThing 88 = .ok (.iconst 1, 1) ∧ decode cX11_readThing 89 = .ok (.sipush 999, 3) ∧ decode cX11_readThing 92 = .ok (.invokevirtual 140, 3) ∧ decode cX11_readThing 95 = .ok (.istore 4, 2) ∧ decode cX11_readThing 97 = .ok (.aload_n 0, 1) ∧ decode cX11_readThing 98 = .ok (.invokevirtual 137, 3) ∧ decode cX11_readThing 101 = .ok (.aload_n 0, 1) ∧ decode cX11_readThing 102 = .ok (.getfield 100, 3) ∧ decode cX11_readThing 105 = .ok (.ifCond .ne 18, 3) := by decide +kernel
theorem dX11_readThing_83 : decode cX11_readThing 83 = .ok (.aload_n 0, 1) := dq_589.1
theorem dX11_readThing_84 : decode cX11_readThing 84 = .ok (.invokevirtual 137, 3) := dq_589.2.1
theorem dX11_readThing_87 : decode cX11_readThing 87 = .ok (.aload_n 0, 1) := dq_589.2.2.1
theorem dX11_readThing_88 : decode cX11_readThing 88 = .ok (.iconst 1, 1) := dq_589.2.2.2.1
theorem dX11_readThing_89 : decode cX11_readThing 89 = .ok (.sipush 999, 3) := dq_589.2.2.2.2.1
theorem dX11_readThing_92 : decode cX11_readThing 92 = .ok (.invokevirtual 140, 3) := dq_589.2.2.2.2.2.1
theorem dX11_readThing_95 : decode cX11_readThing 95 = .ok (.istore 4, 2) := dq_589.2.2.2.2.2.2.1
theorem dX11_readThing_97 : decode cX11_readThing 97 = .ok (.aload_n 0, 1) := dq_589.2.2.2.2.2.2.2.1
theorem dX11_readThing_98 : decode cX11_readThing 98 = .ok (.invokevirtual 137, 3) := dq_589.2.2.2.2.2.2.2.2.1
theorem dX11_readThing_101 : decode cX11_readThing 101 = .ok (.aload_n 0, 1) := dq_589.2.2.2.2.2.2.2.2.2.1
theorem dX11_readThing_102 : decode cX11_readThing 102 = .ok (.getfield 100, 3) := dq_589.2.2.2.2.2.2.2.2.2.2.1
theorem dX11_readThing_105 : decode cX11_readThing 105 = .ok (.ifCond .ne 18, 3) := dq_589.2.2.2.2.2.2.2.2.2.2.2
theorem dq_590 : decode cX11_readThing 108 = .ok (.aload_n 0, 1) ∧ decode cX11_readThing 109 = .ok (.getfield 41, 3) ∧ decode cX11_readThing 112 = .ok (.iload_n 2, 1) ∧ decode cX11_readThing 113 = .ok (.iload_n 3, 1) ∧ decode cX11_readThing 114 = .ok (.iastore, 1) ∧ decode cX11_readThing 115 = .ok (.aload_n 0, 1) ∧ decode cX11_readThing 116 = .ok (.getfield 44, 3) ∧ decode cX11_readThing 119 = .ok (.iload_n 2, 1) ∧ decode cX11_readThing 120 = .ok (.iload 4, 2) ∧ decode cX11_readThing 122 = .ok (.iastore, 1) ∧ decode cX11_readThing 123 = .ok (.iload_n 1, 1) ∧ decode cX11_readThing 124 = .ok (.ifCond .ne 86, 3) := by decide +kernel
theorem dX11_readThing_108 : decode cX11_readThing 108 = .ok (.aload_n 0, 1) := dq_590.1
theorem dX11_readThing_109 : decode cX11_readThing 109 = .ok (.getfield 41, 3) := dq_590.2.1
theorem dX11_readThing_112 : decode cX11_readThing 112 = .ok (.iload_n 2, 1) := dq_590.2.2.1
theorem dX11_readThing_113 : decode cX11_readThing 113 = .ok (.iload_n 3, 1) := dq_590.2.2.2.1
theorem dX11_readThing_114 : decode cX11_readThing 114 = .ok (.iastore, 1) := dq_590.2.2.2.2.1
theorem dX11_readThing_115 : decode cX11_readThing 115 = .ok (.aload_n 0, 1) := dq_590.2.2.2.2.2.1
theorem dX11_readThing_116 : decode cX11_readThing 116 = .ok (.getfield 44, 3) := dq_590.2.2.2.2.2.2.1
theorem dX11_readThing_119 : decode cX11_readThing 119 = .ok (.iload_n 2, 1) := dq_590.2.2.2.2.2.2.2.1
theorem dX11_readThing_120 : decode cX11_readThing 120 = .ok (.iload 4, 2) := dq_590.2.2.2.2.2.2.2.2.1
theorem dX11_readThing_122 : decode cX11_readThing 122 = .ok (.iastore, 1) := dq_590.2.2.2.2.2.2.2.2.2.1
theorem dX11_readThing_123 : decode cX11_readThing 123 = .ok (.iload_n 1, 1) := dq_590.2.2.2.2.2.2.2.2.2.2.1
theorem dX11_readThing_124 : decode cX11_readThing 124 = .ok (.ifCond .ne 86, 3) := dq_590.2.2.2.2.2.2.2.2.2.2.2
theorem dq_591 : decode cX11_readThing 127 = .ok (.aload_n 0, 1) ∧ decode cX11_readThing 128 = .ok (.getfield 100, 3) ∧ decode cX11_readThing 131 = .ok (.ifCond .ne 79, 3) ∧ decode cX11_readThing 134 = .ok (.aload_n 0, 1) ∧ decode cX11_readThing 135 = .ok (.getfield 119, 3) ∧ decode cX11_readThing 138 = .ok (.iconst 2, 1) ∧ decode cX11_readThing 139 = .ok (.if_icmp .ne 71, 3) ∧ decode cX11_readThing 142 = .ok (.aload_n 0, 1) ∧ decode cX11_readThing 143 = .ok (.iconst 0, 1) ∧ decode cX11_readThing 144 = .ok (.aload_n 0, 1) ∧ decode cX11_readThing 145 = .ok (.getfield 134, 3) ∧ decode cX11_readThing 148 = .ok (.iconst 1, 1) := by decide +kernel
theorem dX11_readThing_127 : decode cX11_readThing 127 = .ok (.aload_n 0, 1) := dq_591.1
theorem dX11_readThing_128 : decode cX11_readThing 128 = .ok (.getfield 100, 3) := dq_591.2.1
theorem dX11_readThing_131 : decode cX11_readThing 131 = .ok (.ifCond .ne 79, 3) := dq_591.2.2.1
theorem dX11_readThing_134 : decode cX11_readThing 134 = .ok (.aload_n 0, 1) := dq_591.2.2.2.1
theorem dX11_readThing_135 : decode cX11_readThing 135 = .ok (.getfield 119, 3) := dq_591.2.2.2.2.1
theorem dX11_readThing_138 : decode cX11_readThing 138 = .ok (.iconst 2, 1) := dq_591.2.2.2.2.2.1
theorem dX11_readThing_139 : decode cX11_readThing 139 = .ok (.if_icmp .ne 71, 3) := dq_591.2.2.2.2.2.2.1
theorem dX11_readThing_142 : decode cX11_readThing 142 = .ok (.aload_n 0, 1) := dq_591.2.2.2.2.2.2.2.1
theorem dX11_readThing_143 : decode cX11_readThing 143 = .ok (.iconst 0, 1) := dq_591.2.2.2.2.2.2.2.2.1
theorem dX11_readThing_144 : decode cX11_readThing 144 = .ok (.aload_n 0, 1) := dq_591.2.2.2.2.2.2.2.2.2.1
theorem dX11_readThing_145 : decode cX11_readThing 145 = .ok (.getfield 134, 3) := dq_591.2.2.2.2.2.2.2.2.2.2.1
theorem dX11_readThing_148 : decode cX11_readThing 148 = .ok (.iconst 1, 1) := dq_591.2.2.2.2.2.2.2.2.2.2.2
theorem dq_592 : decode cX11_readThing 149 = .ok (.isub, 1) ∧ decode cX11_readThing 150 = .ok (.invokevirtual 140, 3) ∧ decode cX11_readThing 153 = .ok (.istore_n 3, 1) ∧ decode cX11_readThing 154 = .ok (.aload_n 0, 1) ∧ decode cX11_readThing 155 = .ok (.getfield 100, 3) ∧ decode cX11_readThing 158 = .ok (.ifCond .ne 22, 3) ∧ decode cX11_readThing 161 = .ok (.aload_n 0, 1) ∧ decode cX11_readThing 162 = .ok (.getfield 47, 3) ∧ decode cX11_readThing 165 = .ok (.iload_n 2, 1) ∧ decode cX11_readThing 166 = .ok (.iaload, 1) ∧ decode cX11_readThing 167 = .ok (.iload_n 3, 1) ∧ decode cX11_readThing 168 = .ok (.ishr, 1) := by decide +kernel
theorem dX11_readThing_149 : decode cX11_readThing 149 = .ok (.isub, 1) := dq_592.1
theorem dX11_readThing_150 : decode cX11_readThing 150 = .ok (.invokevirtual 140, 3) := dq_592.2.1
theorem dX11_readThing_153 : decode cX11_readThing 153 = .ok (.istore_n 3, 1) := dq_592.2.2.1
theorem dX11_readThing_154 : decode cX11_readThing 154 = .ok (.aload_n 0, 1) := dq_592.2.2.2.1
theorem dX11_readThing_155 : decode cX11_readThing 155 = .ok (.getfield 100, 3) := dq_592.2.2.2.2.1
theorem dX11_readThing_158 : decode cX11_readThing 158 = .ok (.ifCond .ne 22, 3) := dq_592.2.2.2.2.2.1
theorem dX11_readThing_161 : decode cX11_readThing 161 = .ok (.aload_n 0, 1) := dq_592.2.2.2.2.2.2.1
theorem dX11_readThing_162 : decode cX11_readThing 162 = .ok (.getfield 47, 3) := dq_592.2.2.2.2.2.2.2.1
theorem dX11_readThing_165 : decode cX11_readThing 165 = .ok (.iload_n 2, 1) := dq_592.2.2.2.2.2.2.2.2.1
theorem dX11_readThing_166 : decode cX11_readThing 166 = .ok (.iaload, 1) := dq_592.2.2.2.2.2.2.2.2.2.1
theorem dX11_readThing_167 : decode cX11_readThing 167 = .ok (.iload_n 3, 1) := dq_592.2.2.2.2.2.2.2.2.2.2.1
theorem dX11_readThing_168 : decode cX11_readThing 168 = .ok (.ishr, 1) := dq_592.2.2.2.2.2.2.2.2.2.2.2
theorem dq_593 : decode cX11_readThing 169 = .ok (.iconst 1, 1) ∧ decode cX11_readThing 170 = .ok (.iand, 1) ∧ decode cX11_readThing 171 = .ok (.iconst 1, 1) ∧ decode cX11_readThing 172 = .ok (.if_icmp .ne 8, 3) ∧ decode cX11_readThing 175 = .ok (.aload_n 0, 1) ∧ decode cX11_readThing 176 = .ok (.iconst 4, 1) ∧ decode cX11_readThing 177 = .ok (.invokevirtual 130, 3) ∧ decode cX11_readThing 180 = .ok (.aload_n 0, 1) ∧ decode cX11_readThing 181 = .ok (.getfield 47, 3) ∧ decode cX11_readThing 184 = .ok (.iload_n 2, 1) ∧ decode cX11_readThing 185 = .ok (.dup2, 1) ∧ decode cX11_readThing 186 = .ok (.iaload, 1) := by decide +kernel
theorem dX11_readThing_169 : decode cX11_readThing 169 = .ok (.iconst 1, 1) := dq_593.1
theorem dX11_readThing_170 : decode cX11_readThing 170 = .ok (.iand, 1) := dq_593.2.1
theorem dX11_readThing_171 : decode cX11_readThing 171 = .ok (.iconst 1, 1) := dq_593.2.2.1
theorem dX11_readThing_172 : decode cX11_readThing 172 = .ok (.if_icmp .ne 8, 3) := dq_593.2.2.2.1
theorem dX11_readThing_175 : decode cX11_readThing 175 = .ok (.aload_n 0, 1) := dq_593.2.2.2.2.1
theorem dX11_readThing_176 : decode cX11_readThing 176 = .ok (.iconst 4, 1) := dq_593.2.2.2.2.2.1
theorem dX11_readThing_177 : decode cX11_readThing 177 = .ok (.invokevirtual 130, 3) := dq_593.2.2.2.2.2.2.1
theorem dX11_readThing_180 : decode cX11_readThing 180 = .ok (.aload_n 0, 1) := dq_593.2.2.2.2.2.2.2.1
theorem dX11_readThing_181 : decode cX11_readThing 181 = .ok (.getfield 47, 3) := dq_593.2.2.2.2.2.2.2.2.1
theorem dX11_readThing_184 : decode cX11_readThing 184 = .ok (.iload_n 2, 1) := dq_593.2.2.2.2.2.2.2.2.2.1
theorem dX11_readThing_185 : decode cX11_readThing 185 = .ok (.dup2, 1) := dq_593.2.2.2.2.2.2.2.2.2.2.1
theorem dX11_readThing_186 : decode cX11_readThing 186 = .ok (.iaload, 1) := dq_593.2.2.2.2.2.2.2.2.2.2.2
theorem dq_594 : decode cX11_readThing 187 = .ok (.aload_n 0, 1) ∧ decode cX11_readThing 188 = .ok (.getfield 100, 3) ∧ decode cX11_readThing 191 = .ok (.ifCond .ne 9, 3) ∧ decode cX11_readThing 194 = .ok (.iconst 1, 1) ∧ decode cX11_readThing 195 = .ok (.iload_n 3, 1) ∧ decode cX11_readThing 196 = .ok (.ishl, 1) ∧ decode cX11_readThing 197 = .ok (.goto 4, 3) ∧ decode cX11_readThing 200 = .ok (.iconst 0, 1) ∧ decode cX11_readThing 201 = .ok (.ior, 1) ∧ decode cX11_readThing 202 = .ok (.iastore, 1) ∧ decode cX11_readThing 203 = .ok (.aload_n 0, 1) ∧ decode cX11_readThing 204 = .ok (.invokevirtual 137, 3) := by decide +kernel
theorem dX11_readThing_187 : decode cX11_readThing 187 = .ok (.aload_n 0, 1) := dq_594.1
theorem dX11_readThing_188 : decode cX11_readThing 188 = .ok (.getfield 100, 3) := dq_594.2.1
theorem dX11_readThing_191 : decode cX11_readThing 191 = .ok (.ifCond .ne 9, 3) := dq_594.2.2.1
theorem dX11_readThing_194 : decode cX11_readThing 194 = .ok (.iconst 1, 1) := dq_594.2.2.2.1
theorem dX11_readThing_195 : decode cX11_readThing 195 = .ok (.iload_n 3, 1) := dq_594.2.2.2.2.1
theorem dX11_readThing_196 : decode cX11_readThing 196 = .ok (.ishl, 1) := dq_594.2.2.2.2.2.1
theorem dX11_readThing_197 : decode cX11_readThing 197 = .ok (.goto 4, 3) := dq_594.2.2.2.2.2.2.1
theorem dX11_readThing_200 : decode cX11_readThing 200 = .ok (.iconst 0, 1) := dq_594.2.2.2.2.2.2.2.1
theorem dX11_readThing_201 : decode cX11_readThing 201 = .ok (.ior, 1) := dq_594.2.2.2.2.2.2.2.2.1
theorem dX11_readThing_202 : decode cX11_readThing 202 = .ok (.iastore, 1) := dq_594.2.2.2.2.2.2.2.2.2.1
theorem dX11_readThing_203 : decode cX11_readThing 203 = .ok (.aload_n 0, 1) := dq_594.2.2.2.2.2.2.2.2.2.2.1
theorem dX11_readThing_204 : decode cX11_readThing 204 = .ok (.invokevirtual 137, 3) := dq_594.2.2.2.2.2.2.2.2.2.2.2
theorem dq_595 : decode cX11_readThing 207 = .ok (.goto (-84), 3) ∧ decode cX11_readThing 210 = .ok (.aload_n 0, 1) ∧ decode cX11_readThing 211 = .ok (.dup, 1) ∧ decode cX11_readThing 212 = .ok (.getfield 134, 3) ∧ decode cX11_readThing 215 = .ok (.aload_n 0, 1) ∧ decode cX11_readThing 216 = .ok (.getfield 100, 3) ∧ decode cX11_readThing 219 = .ok (.ifCond .ne 7, 3) ∧ decode cX11_readThing 222 = .ok (.iconst 1, 1) ∧ decode cX11_readThing 223 = .ok (.goto 4, 3) ∧ decode cX11_readThing 226 = .ok (.iconst 0, 1) ∧ decode cX11_readThing 227 = .ok (.iadd, 1) ∧ decode cX11_readThing 228 = .ok (.putfield 134, 3) := by decide +kernel
theorem dX11_readThing_207 : decode cX11_readThing 207 = .ok (.goto (-84), 3) := dq_595.1
theorem dX11_readThing_210 : decode cX11_readThing 210 = .ok (.aload_n 0, 1) := dq_595.2.1
theorem dX11_readThing_211 : decode cX11_readThing 211 = .ok (.dup, 1) := dq_595.2.2.1
theorem dX11_readThing_212 : decode cX11_readThing 212 = .ok (.getfield 134, 3) := dq_595.2.2.2.1
theorem dX11_readThing_215 : decode cX11_readThing 215 = .ok (.aload_n 0, 1) := dq_595.2.2.2.2.1
theorem dX11_readThing_216 : decode cX11_readThing 216 = .ok (.getfield 100, 3) := dq_595.2.2.2.2.2.1
theorem dX11_readThing_219 : decode cX11_readThing 219 = .ok (.ifCond .ne 7, 3) := dq_595.2.2.2.2.2.2.1
theorem dX11_readThing_222 : decode cX11_readThing 222 = .ok (.iconst 1, 1) := dq_595.2.2.2.2.2.2.2.1
theorem dX11_readThing_223 : decode cX11_readThing 223 = .ok (.goto 4, 3) := dq_595.2.2.2.2.2.2.2.2.1
theorem dX11_readThing_226 : decode cX11_readThing 226 = .ok (.iconst 0, 1) := dq_595.2.2.2.2.2.2.2.2.2.1
theorem dX11_readThing_227 : decode cX11_readThing 227 = .ok (.iadd, 1) := dq_595.2.2.2.2.2.2.2.2.2.2.1
theorem dX11_readThing_228 : decode cX11_readThing 228 = .ok (.putfield 134, 3) := dq_595.2.2.2.2.2.2.2.2.2.2.2
theorem dX11_readThing_231 : decode cX11_readThing 231 = .ok (.return_, 1) := by decide +kernel
theorem dq_597 : decode cX11_readGive 0 = .ok (.aload_n 0, 1) ∧ decode cX11_readGive 1 = .ok (.invokevirtual 137, 3) ∧ decode cX11_readGive 4 = .ok (.aload_n 0, 1) ∧ decode cX11_readGive 5 = .ok (.iconst 0, 1) ∧ decode cX11_readGive 6 = .ok (.aload_n 0, 1) ∧ decode cX11_readGive 7 = .ok (.getfield 134, 3) ∧ decode cX11_readGive 10 = .ok (.iconst 1, 1) ∧ decode cX11_readGive 11 = .ok (.isub, 1) ∧ decode cX11_readGive 12 = .ok (.invokevirtual 140, 3) ∧ decode cX11_readGive 15 = .ok (.istore_n 1, 1) ∧ decode cX11_readGive 16 = .ok (.aload_n 0, 1) ∧ decode cX11_readGive 17 = .ok (.invokevirtual 137, 3) := by decide +kernel
theorem dX11_readGive_0 : decode cX11_readGive 0 = .ok (.aload_n 0, 1) := dq_597.1
theorem dX11_readGive_1 : decode cX11_readGive 1 = .ok (.invokevirtual 137, 3) := dq_597.2.1
theorem dX11_readGive_4 : decode cX11_readGive 4 = .ok (.aload_n 0, 1) := dq_597.2.2.1
theorem dX11_readGive_5 : decode cX11_readGive 5 = .ok (.iconst 0, 1) := dq_597.2.2.2.1
theorem dX11_readGive_6 : decode cX11_readGive 6 = .ok (.aload_n 0, 1) := dq_597.2.2.2.2.1
theorem dX11_readGive_7 : decode cX11_readGive 7 = .ok (.getfield 134, 3) := dq_597.2.2.2.2.2.1
theorem dX11_readGive_10 : decode cX11_readGive 10 = .ok (.iconst 1, 1) := dq_597.2.2.2.2.2.2.1
theorem dX11_readGive_11 : decode cX11_readGive 11 = .ok (.isub, 1) := dq_597.2.2.2.2.2.2.2.1
theorem dX11_readGive_12 : decode cX11_readGive 12 = .ok (.invokevirtual 140, 3) := dq_597.2.2.2.2.2.2.2.2.1
theorem dX11_readGive_15 : decode cX11_readGive 15 = .ok (.istore_n 1, 1) := dq_597.2.2.2.2.2.2.2.2.2.1
theorem dX11_readGive_16 : decode cX11_readGive 16 = .ok (.aload_n 0, 1) := dq_597.2.2.2.2.2.2.2.2.2.2.1
theorem dX11_readGive_17 : decode cX11_readGive 17 = .ok (.invokevirtual 137, 3) := dq_597.2.2.2.2.2.2.2.2.2.2.2
theorem dq_598 : decode cX11_readGive 20 = .ok (.aload_n 0, 1) ∧ decode cX11_readGive 21 = .ok (.iconst 0, 1) ∧ decode cX11_readGive 22 = .ok (.aload_n 0, 1) ∧ decode cX11_readGive 23 = .ok (.getfield 134, 3) ∧ decode cX11_readGive 26 = .ok (.iconst 1, 1) ∧ decode cX11_readGive 27 = .ok (.isub, 1) ∧ decode cX11_readGive 28 = .ok (.invokevirtual 140, 3) ∧ decode cX11_readGive 31 = .ok (.istore_n 2, 1) ∧ decode cX11_readGive 32 = .ok (.aload_n 0, 1) ∧ decode cX11_readGive 33 = .ok (.getfield 100, 3) ∧ decode cX11_readGive 36 = .ok (.ifCond .ne 13, 3) ∧ decode cX11_readGive 39 = .ok (.iload_n 1, 1) := by decide +kernel
theorem dX11_readGive_20 : decode cX11_readGive 20 = .ok (.aload_n 0, 1) := dq_598.1
theorem dX11_readGive_21 : decode cX11_readGive 21 = .ok (.iconst 0, 1) := dq_598.2.1
theorem dX11_readGive_22 : decode cX11_readGive 22 = .ok (.aload_n 0, 1) := dq_598.2.2.1
theorem dX11_readGive_23 : decode cX11_readGive 23 = .ok (.getfield 134, 3) := dq_598.2.2.2.1
theorem dX11_readGive_26 : decode cX11_readGive 26 = .ok (.iconst 1, 1) := dq_598.2.2.2.2.1
theorem dX11_readGive_27 : decode cX11_readGive 27 = .ok (.isub, 1) := dq_598.2.2.2.2.2.1
theorem dX11_readGive_28 : decode cX11_readGive 28 = .ok (.invokevirtual 140, 3) := dq_598.2.2.2.2.2.2.1
theorem dX11_readGive_31 : decode cX11_readGive 31 = .ok (.istore_n 2, 1) := dq_598.2.2.2.2.2.2.2.1
theorem dX11_readGive_32 : decode cX11_readGive 32 = .ok (.aload_n 0, 1) := dq_598.2.2.2.2.2.2.2.2.1
theorem dX11_readGive_33 : decode cX11_readGive 33 = .ok (.getfield 100, 3) := dq_598.2.2.2.2.2.2.2.2.2.1
theorem dX11_readGive_36 : decode cX11_readGive 36 = .ok (.ifCond .ne 13, 3) := dq_598.2.2.2.2.2.2.2.2.2.2.1
theorem dX11_readGive_39 : decode cX11_readGive 39 = .ok (.iload_n 1, 1) := dq_598.2.2.2.2.2.2.2.2.2.2.2
theorem dq_599 : decode cX11_readGive 40 = .ok (.iload_n 2, 1) ∧ decode cX11_readGive 41 = .ok (.if_icmp .ne 8, 3) ∧ decode cX11_readGive 44 = .ok (.aload_n 0, 1) ∧ decode cX11_readGive 45 = .ok (.iconst 3, 1) ∧ decode cX11_readGive 46 = .ok (.invokevirtual 130, 3) ∧ decode cX11_readGive 49 = .ok (.aload_n 0, 1) ∧ decode cX11_readGive 50 = .ok (.getfield 100, 3) ∧ decode cX11_readGive 53 = .ok (.ifCond .ne 22, 3) ∧ decode cX11_readGive 56 = .ok (.aload_n 0, 1) ∧ decode cX11_readGive 57 = .ok (.getfield 50, 3) ∧ decode cX11_readGive 60 = .ok (.iload_n 1, 1) ∧ decode cX11_readGive 61 = .ok (.iaload, 1) := by decide +kernel
theorem dX11_readGive_40 : decode cX11_readGive 40 = .ok (.iload_n 2, 1) := dq_599.1
theorem dX11_readGive_41 : decode cX11_readGive 41 = .ok (.if_icmp .ne 8, 3) := dq_599.2.1
theorem dX11_readGive_44 : decode cX11_readGive 44 = .ok (.aload_n 0, 1) := dq_599.2.2.1
theorem dX11_readGive_45 : decode cX11_readGive 45 = .ok (.iconst 3, 1) := dq_599.2.2.2.1
theorem dX11_readGive_46 : decode cX11_readGive 46 = .ok (.invokevirtual 130, 3) := dq_599.2.2.2.2.1
theorem dX11_readGive_49 : decode cX11_readGive 49 = .ok (.aload_n 0, 1) := dq_599.2.2.2.2.2.1
theorem dX11_readGive_50 : decode cX11_readGive 50 = .ok (.getfield 100, 3) := dq_599.2.2.2.2.2.2.1
theorem dX11_readGive_53 : decode cX11_readGive 53 = .ok (.ifCond .ne 22, 3) := dq_599.2.2.2.2.2.2.2.1
theorem dX11_readGive_56 : decode cX11_readGive 56 = .ok (.aload_n 0, 1) := dq_599.2.2.2.2.2.2.2.2.1
theorem dX11_readGive_57 : decode cX11_readGive 57 = .ok (.getfield 50, 3) := dq_599.2.2.2.2.2.2.2.2.2.1
theorem dX11_readGive_60 : decode cX11_readGive 60 = .ok (.iload_n 1, 1) := dq_599.2.2.2.2.2.2.2.2.2.2.1
theorem dX11_readGive_61 : decode cX11_readGive 61 = .ok (.iaload, 1) := dq_599.2.2.2.2.2.2.2.2.2.2.2
theorem dq_600 : decode cX11_readGive 62 = .ok (.iload_n 2, 1) ∧ decode cX11_readGive 63 = .ok (.ishr, 1) ∧ decode cX11_readGive 64 = .ok (.iconst 1, 1) ∧ decode cX11_readGive 65 = .ok (.iand, 1) ∧ decode cX11_readGive 66 = .ok (.iconst 1, 1) ∧ decode cX11_readGive 67 = .ok (.if_icmp .ne 8, 3) ∧ decode cX11_readGive 70 = .ok (.aload_n 0, 1) ∧ decode cX11_readGive 71 = .ok (.iconst 4, 1) ∧ decode cX11_readGive 72 = .ok (.invokevirtual 130, 3) ∧ decode cX11_readGive 75 = .ok (.aload_n 0, 1) ∧ decode cX11_readGive 76 = .ok (.getfield 100, 3) ∧ decode cX11_readGive 79 = .ok (.ifCond .ne 27, 3) := by decide +kernel
theorem dX11_readGive_62 : decode cX11_readGive 62 = .ok (.iload_n 2, 1) := dq_600.1
theorem dX11_readGive_63 : decode cX11_readGive 63 = .ok (.ishr, 1) := dq_600.2.1
theorem dX11_readGive_64 : decode cX11_readGive 64 = .ok (.iconst 1, 1) := dq_600.2.2.1
theorem dX11_readGive_65 : decode cX11_readGive 65 = .ok (.iand, 1) := dq_600.2.2.2.1
theorem dX11_readGive_66 : decode cX11_readGive 66 = .ok (.iconst 1, 1) := dq_600.2.2.2.2.1
theorem dX11_readGive_67 : decode cX11_readGive 67 = .ok (.if_icmp .ne 8, 3) := dq_600.2.2.2.2.2.1
theorem dX11_readGive_70 : decode cX11_readGive 70 = .ok (.aload_n 0, 1) := dq_600.2.2.2.2.2.2.1
theorem dX11_readGive_71 : decode cX11_readGive 71 = .ok (.iconst 4, 1) := dq_600.2.2.2.2.2.2.2.1
theorem dX11_readGive_72 : decode cX11_readGive 72 = .ok (.invokevirtual 130, 3) := dq_600.2.2.2.2.2.2.2.2.1
theorem dX11_readGive_75 : decode cX11_readGive 75 = .ok (.aload_n 0, 1) := dq_600.2.2.2.2.2.2.2.2.2.1
theorem dX11_readGive_76 : decode cX11_readGive 76 = .ok (.getfield 100, 3) := dq_600.2.2.2.2.2.2.2.2.2.2.1
theorem dX11_readGive_79 : decode cX11_readGive 79 = .ok (.ifCond .ne 27, 3) := dq_600.2.2.2.2.2.2.2.2.2.2.2
theorem dq_601 : decode cX11_readGive 82 = .ok (.aload_n 0, 1) ∧ decode cX11_readGive 83 = .ok (.getfield 50, 3) ∧ decode cX11_readGive 86 = .ok (.iload_n 1, 1) ∧ decode cX11_readGive 87 = .ok (.dup2, 1) ∧ decode cX11_readGive 88 = .ok (.iaload, 1) ∧ decode cX11_readGive 89 = .ok (.iconst 1, 1) ∧ decode cX11_readGive 90 = .ok (.iload_n 2, 1) ∧ decode cX11_readGive 91 = .ok (.ishl, 1) ∧ decode cX11_readGive 92 = .ok (.ior, 1) ∧ decode cX11_readGive 93 = .ok (.iastore, 1) ∧ decode cX11_readGive 94 = .ok (.aload_n 0, 1) ∧ decode cX11_readGive 95 = .ok (.getfield 47, 3) := by decide +kernel
theorem dX11_readGive_82 : decode cX11_readGive 82 = .ok (.aload_n 0, 1) := dq_601.1
theorem dX11_readGive_83 : decode cX11_readGive 83 = .ok (.getfield 50, 3) := dq_601.2.1
theorem dX11_readGive_86 : decode cX11_readGive 86 = .ok (.iload_n 1, 1) := dq_601.2.2.1
theorem dX11_readGive_87 : decode cX11_readGive 87 = .ok (.dup2, 1) := dq_601.2.2.2.1
theorem dX11_readGive_88 : decode cX11_readGive 88 = .ok (.iaload, 1) := dq_601.2.2.2.2.1
theorem dX11_readGive_89 : decode cX11_readGive 89 = .ok (.iconst 1, 1) := dq_601.2.2.2.2.2.1
theorem dX11_readGive_90 : decode cX11_readGive 90 = .ok (.iload_n 2, 1) := dq_601.2.2.2.2.2.2.1
theorem dX11_readGive_91 : decode cX11_readGive 91 = .ok (.ishl, 1) := dq_601.2.2.2.2.2.2.2.1
theorem dX11_readGive_92 : decode cX11_readGive 92 = .ok (.ior, 1) := dq_601.2.2.2.2.2.2.2.2.1
theorem dX11_readGive_93 : decode cX11_readGive 93 = .ok (.iastore, 1) := dq_601.2.2.2.2.2.2.2.2.2.1
theorem dX11_readGive_94 : decode cX11_readGive 94 = .ok (.aload_n 0, 1) := dq_601.2.2.2.2.2.2.2.2.2.2.1
theorem dX11_readGive_95 : decode cX11_readGive 95 = .ok (.getfield 47, 3) := dq_601.2.2.2.2.2.2.2.2.2.2.2
theorem dq_602 : decode cX11_readGive 98 = .ok (.iload_n 1, 1) ∧ decode cX11_readGive 99 = .ok (.dup2, 1) ∧ decode cX11_readGive 100 = .ok (.iaload, 1) ∧ decode cX11_readGive 101 = .ok (.iconst 1, 1) ∧ decode cX11_readGive 102 = .ok (.iload_n 2, 1) ∧ decode cX11_readGive 103 = .ok (.ishl, 1) ∧ decode cX11_readGive 104 = .ok (.ior, 1) ∧ decode cX11_readGive 105 = .ok (.iastore, 1) ∧ decode cX11_readGive 106 = .ok (.aload_n 0, 1) ∧ decode cX11_readGive 107 = .ok (.invokevirtual 137, 3) ∧ decode cX11_readGive 110 = .ok (.return_, 1) := by decide +kernel
theorem dX11_readGive_98 : decode cX11_readGive 98 = .ok (.iload_n 1, 1) := dq_602.1
theorem dX11_readGive_99 : decode cX11_readGive 99 = .ok (.dup2, 1) := dq_602.2.1
theorem dX11_readGive_100 : decode cX11_readGive 100 = .ok (.iaload, 1) := dq_602.2.2.1
theorem dX11_readGive_101 : decode cX11_readGive 101 = .ok (.iconst 1, 1) := dq_602.2.2.2.1
theorem dX11_readGive_102 : decode cX11_readGive 102 = .ok (.iload_n 2, 1) := dq_602.2.2.2.2.1
theorem dX11_readGive_103 : decode cX11_readGive 103 = .ok (.ishl, 1) := dq_602.2.2.2.2.2.1
theorem dX11_readGive_104 : decode cX11_readGive 104 = .ok (.ior, 1) := dq_602.2.2.2.2.2.2.1
theorem dX11_readGive_105 : decode cX11_readGive 105 = .ok (.iastore, 1) := dq_602.2.2.2.2.2.2.2.1
theorem dX11_readGive_106 : decode cX11_readGive 106 = .ok (.aload_n 0, 1) := dq_602.2.2.2.2.2.2.2.2.1
theorem dX11_readGive_107 : decode cX11_readGive 107 = .ok (.invokevirtual 137, 3) := dq_602.2.2.2.2.2.2.2.2.2.1
theorem dX11_readGive_110 : decode cX11_readGive 110 = .ok (.return_, 1) := dq_602.2.2.2.2.2.2.2.2.2.2
theorem dq_603 : decode cX11_readQuarry 0 = .ok (.aload_n 0, 1) ∧ decode cX11_readQuarry 1 = .ok (.invokevirtual 137, 3) ∧ decode cX11_readQuarry 4 = .ok (.aload_n 0, 1) ∧ decode cX11_readQuarry 5 = .ok (.getfield 100, 3) ∧ decode cX11_readQuarry 8 = .ok (.ifCond .ne 16, 3) ∧ decode cX11_readQuarry 11 = .ok (.aload_n 0, 1) ∧ decode cX11_readQuarry 12 = .ok (.getfield 119, 3) ∧ decode cX11_readQuarry 15 = .ok (.iconst 1, 1) ∧ decode cX11_readQuarry 16 = .ok (.if_icmp .eq 8, 3) ∧ decode cX11_readQuarry 19 = .ok (.aload_n 0, 1) ∧ decode cX11_readQuarry 20 = .ok (.iconst 2, 1) ∧ decode cX11_readQuarry 21 = .ok (.invokevirtual 130, 3) := by decide +kernel
theorem dX11_readQuarry_0 : decode cX11_readQuarry 0 = .ok (.aload_n 0, 1) := dq_603.1
theorem dX11_readQuarry_1 : decode cX11_readQuarry 1 = .ok (.invokevirtual 137, 3) := dq_603.2.1
theorem dX11_readQuarry_4 : decode cX11_readQuarry 4 = .ok (.aload_n 0, 1) := dq_603.2.2.1
theorem dX11_readQuarry_5 : decode cX11_readQuarry 5 = .ok (.getfield 100, 3) := dq_603.2.2.2.1
theorem dX11_readQuarry_8 : decode cX11_readQuarry 8 = .ok (.ifCond .ne 16, 3) := dq_603.2.2.2.2.1
theorem dX11_readQuarry_11 : decode cX11_readQuarry 11 = .ok (.aload_n 0, 1) := dq_603.2.2.2.2.2.1
theorem dX11_readQuarry_12 : decode cX11_readQuarry 12 = .ok (.getfield 119, 3) := dq_603.2.2.2.2.2.2.1
theorem dX11_readQuarry_15 : decode cX11_readQuarry 15 = .ok (.iconst 1, 1) := dq_603.2.2.2.2.2.2.2.1
theorem dX11_readQuarry_16 : decode cX11_readQuarry 16 = .ok (.if_icmp .eq 8, 3) := dq_603.2.2.2.2.2.2.2.2.1
theorem dX11_readQuarry_19 : decode cX11_readQuarry 19 = .ok (.aload_n 0, 1) := dq_603.2.2.2.2.2.2.2.2.2.1
theorem dX11_readQuarry_20 : decode cX11_readQuarry 20 = .ok (.iconst 2, 1) := dq_603.2.2.2.2.2.2.2.2.2.2.1
theorem dX11_readQuarry_21 : decode cX11_readQuarry 21 = .ok (.invokevirtual 130, 3) := dq_603.2.2.2.2.2.2.2.2.2.2.2
theorem dq_604 : decode cX11_readQuarry 24 = .ok (.aload_n 0, 1) ∧ decode cX11_readQuarry 25 = .ok (.aload_n 0, 1) ∧ decode cX11_readQuarry 26 = .ok (.getfield 103, 3) ∧ decode cX11_readQuarry 29 = .ok (.invokevirtual 112, 3) ∧ decode cX11_readQuarry 32 = .ok (.bipush 97, 2) ∧ decode cX11_readQuarry 34 = .ok (.isub, 1) ∧ decode cX11_readQuarry 35 = .ok (.istore_n 1, 1) ∧ decode cX11_readQuarry 36 = .ok (.aload_n 0, 1) ∧ decode cX11_readQuarry 37 = .ok (.getfield 100, 3) ∧ decode cX11_readQuarry 40 = .ok (.ifCond .ne 33, 3) ∧ decode cX11_readQuarry 43 = .ok (.aload_n 0, 1) ∧ decode cX11_readQuarry 44 = .ok (.getfield 109, 3) := by decide +kernel
theorem dX11_readQuarry_24 : decode cX11_readQuarry 24 = .ok (.aload_n 0, 1) := dq_604.1
theorem dX11_readQuarry_25 : decode cX11_readQuarry 25 = .ok (.aload_n 0, 1) := dq_604.2.1
theorem dX11_readQuarry_26 : decode cX11_readQuarry 26 = .ok (.getfield 103, 3) := dq_604.2.2.1
theorem dX11_readQuarry_29 : decode cX11_readQuarry 29 = .ok (.invokevirtual 112, 3) := dq_604.2.2.2.1
theorem dX11_readQuarry_32 : decode cX11_readQuarry 32 = .ok (.bipush 97, 2) := dq_604.2.2.2.2.1
theorem dX11_readQuarry_34 : decode cX11_readQuarry 34 = .ok (.isub, 1) := dq_604.2.2.2.2.2.1
theorem dX11_readQuarry_35 : decode cX11_readQuarry 35 = .ok (.istore_n 1, 1) := dq_604.2.2.2.2.2.2.1
theorem dX11_readQuarry_36 : decode cX11_readQuarry 36 = .ok (.aload_n 0, 1) := dq_604.2.2.2.2.2.2.2.1
theorem dX11_readQuarry_37 : decode cX11_readQuarry 37 = .ok (.getfield 100, 3) := dq_604.2.2.2.2.2.2.2.2.1
theorem dX11_readQuarry_40 : decode cX11_readQuarry 40 = .ok (.ifCond .ne 33, 3) := dq_604.2.2.2.2.2.2.2.2.2.1
theorem dX11_readQuarry_43 : decode cX11_readQuarry 43 = .ok (.aload_n 0, 1) := dq_604.2.2.2.2.2.2.2.2.2.2.1
theorem dX11_readQuarry_44 : decode cX11_readQuarry 44 = .ok (.getfield 109, 3) := dq_604.2.2.2.2.2.2.2.2.2.2.2
theorem dq_605 : decode cX11_readQuarry 47 = .ok (.aload_n 0, 1) ∧ decode cX11_readQuarry 48 = .ok (.getfield 103, 3) ∧ decode cX11_readQuarry 51 = .ok (.isub, 1) ∧ decode cX11_readQuarry 52 = .ok (.iconst 1, 1) ∧ decode cX11_readQuarry 53 = .ok (.if_icmp .ne 15, 3) ∧ decode cX11_readQuarry 56 = .ok (.iload_n 1, 1) ∧ decode cX11_readQuarry 57 = .ok (.i2l, 1) ∧ decode cX11_readQuarry 58 = .ok (.lconst 0, 1) ∧ decode cX11_readQuarry 59 = .ok (.ldc2_w 144, 3) ∧ decode cX11_readQuarry 62 = .ok (.invokestatic 96, 3) ∧ decode cX11_readQuarry 65 = .ok (.ifCond .ne 8, 3) ∧ decode cX11_readQuarry 68 = .ok (.aload_n 0, 1) := by decide +kernel
theorem dX11_readQuarry_47 : decode cX11_readQuarry 47 = .ok (.aload_n 0, 1) := dq_605.1
theorem dX11_readQuarry_48 : decode cX11_readQuarry 48 = .ok (.getfield 103, 3) := dq_605.2.1
theorem dX11_readQuarry_51 : decode cX11_readQuarry 51 = .ok (.isub, 1) := dq_605.2.2.1
theorem dX11_readQuarry_52 : decode cX11_readQuarry 52 = .ok (.iconst 1, 1) := dq_605.2.2.2.1
theorem dX11_readQuarry_53 : decode cX11_readQuarry 53 = .ok (.if_icmp .ne 15, 3) := dq_605.2.2.2.2.1
theorem dX11_readQuarry_56 : decode cX11_readQuarry 56 = .ok (.iload_n 1, 1) := dq_605.2.2.2.2.2.1
theorem dX11_readQuarry_57 : decode cX11_readQuarry 57 = .ok (.i2l, 1) := dq_605.2.2.2.2.2.2.1
theorem dX11_readQuarry_58 : decode cX11_readQuarry 58 = .ok (.lconst 0, 1) := dq_605.2.2.2.2.2.2.2.1
theorem dX11_readQuarry_59 : decode cX11_readQuarry 59 = .ok (.ldc2_w 144, 3) := dq_605.2.2.2.2.2.2.2.2.1
theorem dX11_readQuarry_62 : decode cX11_readQuarry 62 = .ok (.invokestatic 96, 3) := dq_605.2.2.2.2.2.2.2.2.2.1
theorem dX11_readQuarry_65 : decode cX11_readQuarry 65 = .ok (.ifCond .ne 8, 3) := dq_605.2.2.2.2.2.2.2.2.2.2.1
theorem dX11_readQuarry_68 : decode cX11_readQuarry 68 = .ok (.aload_n 0, 1) := dq_605.2.2.2.2.2.2.2.2.2.2.2
theorem dq_606 : decode cX11_readQuarry 69 = .ok (.iconst 3, 1) ∧ decode cX11_readQuarry 70 = .ok (.invokevirtual 130, 3) ∧ decode cX11_readQuarry 73 = .ok (.aload_n 0, 1) ∧ decode cX11_readQuarry 74 = .ok (.getfield 100, 3) ∧ decode cX11_readQuarry 77 = .ok (.ifCond .ne 20, 3) ∧ decode cX11_readQuarry 80 = .ok (.aload_n 0, 1) ∧ decode cX11_readQuarry 81 = .ok (.getfield 146, 3) ∧ decode cX11_readQuarry 84 = .ok (.iload_n 1, 1) ∧ decode cX11_readQuarry 85 = .ok (.ishr, 1) ∧ decode cX11_readQuarry 86 = .ok (.iconst 1, 1) ∧ decode cX11_readQuarry 87 = .ok (.iand, 1) ∧ decode cX11_readQuarry 88 = .ok (.iconst 1, 1) := by decide +kernel
theorem dX11_readQuarry_69 : decode cX11_readQuarry 69 = .ok (.iconst 3, 1) := dq_606.1
theorem dX11_readQuarry_70 : decode cX11_readQuarry 70 = .ok (.invokevirtual 130, 3) := dq_606.2.1
theorem dX11_readQuarry_73 : decode cX11_readQuarry 73 = .ok (.aload_n 0, 1) := dq_606.2.2.1
theorem dX11_readQuarry_74 : decode cX11_readQuarry 74 = .ok (.getfield 100, 3) := dq_606.2.2.2.1
theorem dX11_readQuarry_77 : decode cX11_readQuarry 77 = .ok (.ifCond .ne 20, 3) := dq_606.2.2.2.2.1
theorem dX11_readQuarry_80 : decode cX11_readQuarry 80 = .ok (.aload_n 0, 1) := dq_606.2.2.2.2.2.1
theorem dX11_readQuarry_81 : decode cX11_readQuarry 81 = .ok (.getfield 146, 3) := dq_606.2.2.2.2.2.2.1
theorem dX11_readQuarry_84 : decode cX11_readQuarry 84 = .ok (.iload_n 1, 1) := dq_606.2.2.2.2.2.2.2.1
theorem dX11_readQuarry_85 : decode cX11_readQuarry 85 = .ok (.ishr, 1) := dq_606.2.2.2.2.2.2.2.2.1
theorem dX11_readQuarry_86 : decode cX11_readQuarry 86 = .ok (.iconst 1, 1) := dq_606.2.2.2.2.2.2.2.2.2.1
theorem dX11_readQuarry_87 : decode cX11_readQuarry 87 = .ok (.iand, 1) := dq_606.2.2.2.2.2.2.2.2.2.2.1
theorem dX11_readQuarry_88 : decode cX11_readQuarry 88 = .ok (.iconst 1, 1) := dq_606.2.2.2.2.2.2.2.2.2.2.2
theorem dq_607 : decode cX11_readQuarry 89 = .ok (.if_icmp .ne 8, 3) ∧ decode cX11_readQuarry 92 = .ok (.aload_n 0, 1) ∧ decode cX11_readQuarry 93 = .ok (.iconst 4, 1) ∧ decode cX11_readQuarry 94 = .ok (.invokevirtual 130, 3) ∧ decode cX11_readQuarry 97 = .ok (.aload_n 0, 1) ∧ decode cX11_readQuarry 98 = .ok (.getfield 100, 3) ∧ decode cX11_readQuarry 101 = .ok (.ifCond .ne 7, 3) ∧ decode cX11_readQuarry 104 = .ok (.iload_n 1, 1) ∧ decode cX11_readQuarry 105 = .ok (.goto 4, 3) ∧ decode cX11_readQuarry 108 = .ok (.iconst 0, 1) ∧ decode cX11_readQuarry 109 = .ok (.istore_n 2, 1) ∧ decode cX11_readQuarry 110 = .ok (.aload_n 0, 1) := by decide +kernel
theorem dX11_readQuarry_89 : decode cX11_readQuarry 89 = .ok (.if_icmp .ne 8, 3) := dq_607.1
theorem dX11_readQuarry_92 : decode cX11_readQuarry 92 = .ok (.aload_n 0, 1) := dq_607.2.1
theorem dX11_readQuarry_93 : decode cX11_readQuarry 93 = .ok (.iconst 4, 1) := dq_607.2.2.1
theorem dX11_readQuarry_94 : decode cX11_readQuarry 94 = .ok (.invokevirtual 130, 3) := dq_607.2.2.2.1
theorem dX11_readQuarry_97 : decode cX11_readQuarry 97 = .ok (.aload_n 0, 1) := dq_607.2.2.2.2.1
theorem dX11_readQuarry_98 : decode cX11_readQuarry 98 = .ok (.getfield 100, 3) := dq_607.2.2.2.2.2.1
theorem dX11_readQuarry_101 : decode cX11_readQuarry 101 = .ok (.ifCond .ne 7, 3) := dq_607.2.2.2.2.2.2.1
theorem dX11_readQuarry_104 : decode cX11_readQuarry 104 = .ok (.iload_n 1, 1) := dq_607.2.2.2.2.2.2.2.1
theorem dX11_readQuarry_105 : decode cX11_readQuarry 105 = .ok (.goto 4, 3) := dq_607.2.2.2.2.2.2.2.2.1
theorem dX11_readQuarry_108 : decode cX11_readQuarry 108 = .ok (.iconst 0, 1) := dq_607.2.2.2.2.2.2.2.2.2.1
theorem dX11_readQuarry_109 : decode cX11_readQuarry 109 = .ok (.istore_n 2, 1) := dq_607.2.2.2.2.2.2.2.2.2.2.1
theorem dX11_readQuarry_110 : decode cX11_readQuarry 110 = .ok (.aload_n 0, 1) := dq_607.2.2.2.2.2.2.2.2.2.2.2
theorem dq_608 : decode cX11_readQuarry 111 = .ok (.dup, 1) ∧ decode cX11_readQuarry 112 = .ok (.getfield 146, 3) ∧ decode cX11_readQuarry 115 = .ok (.aload_n 0, 1) ∧ decode cX11_readQuarry 116 = .ok (.getfield 100, 3) ∧ decode cX11_readQuarry 119 = .ok (.ifCond .ne 9, 3) ∧ decode cX11_readQuarry 122 = .ok (.iconst 1, 1) ∧ decode cX11_readQuarry 123 = .ok (.iload_n 2, 1) ∧ decode cX11_readQuarry 124 = .ok (.ishl, 1) ∧ decode cX11_readQuarry 125 = .ok (.goto 4, 3) ∧ decode cX11_readQuarry 128 = .ok (.iconst 0, 1) ∧ decode cX11_readQuarry 129 = .ok (.ior, 1) ∧ decode cX11_readQuarry 130 = .ok (.putfield 146, 3) := by decide +kernel
theorem dX11_readQuarry_111 : decode cX11_readQuarry 111 = .ok (.dup, 1) := dq_608.1
theorem dX11_readQuarry_112 : decode cX11_readQuarry 112 = .ok (.getfield 146, 3) := dq_608.2.1
theorem dX11_readQuarry_115 : decode cX11_readQuarry 115 = .ok (.aload_n 0, 1) := dq_608.2.2.1
theorem dX11_readQuarry_116 : decode cX11_readQuarry 116 = .ok (.getfield 100, 3) := dq_608.2.2.2.1
theorem dX11_readQuarry_119 : decode cX11_readQuarry 119 = .ok (.ifCond .ne 9, 3) := dq_608.2.2.2.2.1
theorem dX11_readQuarry_122 : decode cX11_readQuarry 122 = .ok (.iconst 1, 1) := dq_608.2.2.2.2.2.1
theorem dX11_readQuarry_123 : decode cX11_readQuarry 123 = .ok (.iload_n 2, 1) := dq_608.2.2.2.2.2.2.1
theorem dX11_readQuarry_124 : decode cX11_readQuarry 124 = .ok (.ishl, 1) := dq_608.2.2.2.2.2.2.2.1
theorem dX11_readQuarry_125 : decode cX11_readQuarry 125 = .ok (.goto 4, 3) := dq_608.2.2.2.2.2.2.2.2.1
theorem dX11_readQuarry_128 : decode cX11_readQuarry 128 = .ok (.iconst 0, 1) := dq_608.2.2.2.2.2.2.2.2.2.1
theorem dX11_readQuarry_129 : decode cX11_readQuarry 129 = .ok (.ior, 1) := dq_608.2.2.2.2.2.2.2.2.2.2.1
theorem dX11_readQuarry_130 : decode cX11_readQuarry 130 = .ok (.putfield 146, 3) := dq_608.2.2.2.2.2.2.2.2.2.2.2
theorem dq_609 : decode cX11_readQuarry 133 = .ok (.aload_n 0, 1) ∧ decode cX11_readQuarry 134 = .ok (.invokevirtual 137, 3) ∧ decode cX11_readQuarry 137 = .ok (.aload_n 0, 1) ∧ decode cX11_readQuarry 138 = .ok (.getfield 56, 3) ∧ decode cX11_readQuarry 141 = .ok (.iload_n 2, 1) ∧ decode cX11_readQuarry 142 = .ok (.aload_n 0, 1) ∧ decode cX11_readQuarry 143 = .ok (.iconst 0, 1) ∧ decode cX11_readQuarry 144 = .ok (.bipush 99, 2) ∧ decode cX11_readQuarry 146 = .ok (.invokevirtual 140, 3) ∧ decode cX11_readQuarry 149 = .ok (.iastore, 1) ∧ decode cX11_readQuarry 150 = .ok (.aload_n 0, 1) ∧ decode cX11_readQuarry 151 = .ok (.invokevirtual 137, 3) := by decide +kernel
theorem dX11_readQuarry_133 : decode cX11_readQuarry 133 = .ok (.aload_n 0, 1) := dq_609.1
theorem dX11_readQuarry_134 : decode cX11_readQuarry 134 = .ok (.invokevirtual 137, 3) := dq_609.2.1
theorem dX11_readQuarry_137 : decode cX11_readQuarry 137 = .ok (.aload_n 0, 1) := dq_609.2.2.1
theorem dX11_readQuarry_138 : decode cX11_readQuarry 138 = .ok (.getfield 56, 3) := dq_609.2.2.2.1
theorem dX11_readQuarry_141 : decode cX11_readQuarry 141 = .ok (.iload_n 2, 1) := dq_609.2.2.2.2.1
theorem dX11_readQuarry_142 : decode cX11_readQuarry 142 = .ok (.aload_n 0, 1) := dq_609.2.2.2.2.2.1
theorem dX11_readQuarry_143 : decode cX11_readQuarry 143 = .ok (.iconst 0, 1) := dq_609.2.2.2.2.2.2.1
theorem dX11_readQuarry_144 : decode cX11_readQuarry 144 = .ok (.bipush 99, 2) := dq_609.2.2.2.2.2.2.2.1
theorem dX11_readQuarry_146 : decode cX11_readQuarry 146 = .ok (.invokevirtual 140, 3) := dq_609.2.2.2.2.2.2.2.2.1
theorem dX11_readQuarry_149 : decode cX11_readQuarry 149 = .ok (.iastore, 1) := dq_609.2.2.2.2.2.2.2.2.2.1
theorem dX11_readQuarry_150 : decode cX11_readQuarry 150 = .ok (.aload_n 0, 1) := dq_609.2.2.2.2.2.2.2.2.2.2.1
theorem dX11_readQuarry_151 : decode cX11_readQuarry 151 = .ok (.invokevirtual 137, 3) := dq_609.2.2.2.2.2.2.2.2.2.2.2
theorem dq_610 : decode cX11_readQuarry 154 = .ok (.aload_n 0, 1) ∧ decode cX11_readQuarry 155 = .ok (.getfield 59, 3) ∧ decode cX11_readQuarry 158 = .ok (.iload_n 2, 1) ∧ decode cX11_readQuarry 159 = .ok (.aload_n 0, 1) ∧ decode cX11_readQuarry 160 = .ok (.iconst 1, 1) ∧ decode cX11_readQuarry 161 = .ok (.bipush 99, 2) ∧ decode cX11_readQuarry 163 = .ok (.invokevirtual 140, 3) ∧ decode cX11_readQuarry 166 = .ok (.iastore, 1) ∧ decode cX11_readQuarry 167 = .ok (.aload_n 0, 1) ∧ decode cX11_readQuarry 168 = .ok (.invokevirtual 137, 3) ∧ decode cX11_readQuarry 171 = .ok (.return_, 1) := by decide +kernel
theorem dX11_readQuarry_154 : decode cX11_readQuarry 154 = .ok (.aload_n 0, 1) := dq_610.1
theorem dX11_readQuarry_155 : decode cX11_readQuarry 155 = .ok (.getfield 59, 3) := dq_610.2.1
theorem dX11_readQuarry_158 : decode cX11_readQuarry 158 = .ok (.iload_n 2, 1) := dq_610.2.2.1
theorem dX11_readQuarry_159 : decode cX11_readQuarry 159 = .ok (.aload_n 0, 1) := dq_610.2.2.2.1
theorem dX11_readQuarry_160 : decode cX11_readQuarry 160 = .ok (.iconst 1, 1) := dq_610.2.2.2.2.1
theorem dX11_readQuarry_161 : decode cX11_readQuarry 161 = .ok (.bipush 99, 2) := dq_610.2.2.2.2.2.1
theorem dX11_readQuarry_163 : decode cX11_readQuarry 163 = .ok (.invokevirtual 140, 3) := dq_610.2.2.2.2.2.2.1
theorem dX11_readQuarry_166 : decode cX11_readQuarry 166 = .ok (.iastore, 1) := dq_610.2.2.2.2.2.2.2.1
theorem dX11_readQuarry_167 : decode cX11_readQuarry 167 = .ok (.aload_n 0, 1) := dq_610.2.2.2.2.2.2.2.2.1
theorem dX11_readQuarry_168 : decode cX11_readQuarry 168 = .ok (.invokevirtual 137, 3) := dq_610.2.2.2.2.2.2.2.2.2.1
theorem dX11_readQuarry_171 : decode cX11_readQuarry 171 = .ok (.return_, 1) := dq_610.2.2.2.2.2.2.2.2.2.2
theorem dq_611 : decode cX11_readBook 0 = .ok (.aload_n 0, 1) ∧ decode cX11_readBook 1 = .ok (.getfield 149, 3) ∧ decode cX11_readBook 4 = .ok (.iconst 4, 1) ∧ decode cX11_readBook 5 = .ok (.if_icmp .ne 8, 3) ∧ decode cX11_readBook 8 = .ok (.aload_n 0, 1) ∧ decode cX11_readBook 9 = .ok (.iconst 5, 1) ∧ decode cX11_readBook 10 = .ok (.invokevirtual 130, 3) ∧ decode cX11_readBook 13 = .ok (.aload_n 0, 1) ∧ decode cX11_readBook 14 = .ok (.invokevirtual 137, 3) ∧ decode cX11_readBook 17 = .ok (.iconst 0, 1) ∧ decode cX11_readBook 18 = .ok (.istore_n 1, 1) ∧ decode cX11_readBook 19 = .ok (.iload_n 1, 1) := by decide +kernel
theorem dX11_readBook_0 : decode cX11_readBook 0 = .ok (.aload_n 0, 1) := dq_611.1
theorem dX11_readBook_1 : decode cX11_readBook 1 = .ok (.getfield 149, 3) := dq_611.2.1
theorem dX11_readBook_4 : decode cX11_readBook 4 = .ok (.iconst 4, 1) := dq_611.2.2.1
theorem dX11_readBook_5 : decode cX11_readBook 5 = .ok (.if_icmp .ne 8, 3) := dq_611.2.2.2.1
theorem dX11_readBook_8 : decode cX11_readBook 8 = .ok (.aload_n 0, 1) := dq_611.2.2.2.2.1
theorem dX11_readBook_9 : decode cX11_readBook 9 = .ok (.iconst 5, 1) := dq_611.2.2.2.2.2.1
theorem dX11_readBook_10 : decode cX11_readBook 10 = .ok (.invokevirtual 130, 3) := dq_611.2.2.2.2.2.2.1
theorem dX11_readBook_13 : decode cX11_readBook 13 = .ok (.aload_n 0, 1) := dq_611.2.2.2.2.2.2.2.1
theorem dX11_readBook_14 : decode cX11_readBook 14 = .ok (.invokevirtual 137, 3) := dq_611.2.2.2.2.2.2.2.2.1
theorem dX11_readBook_17 : decode cX11_readBook 17 = .ok (.iconst 0, 1) := dq_611.2.2.2.2.2.2.2.2.2.1
theorem dX11_readBook_18 : decode cX11_readBook 18 = .ok (.istore_n 1, 1) := dq_611.2.2.2.2.2.2.2.2.2.2.1
theorem dX11_readBook_19 : decode cX11_readBook 19 = .ok (.iload_n 1, 1) := dq_611.2.2.2.2.2.2.2.2.2.2.2
theorem dq_612 : decode cX11_readBook 20 = .ok (.iconst 4, 1) ∧ decode cX11_readBook 21 = .ok (.if_icmp .ge 167, 3) ∧ decode cX11_readBook 24 = .ok (.aload_n 0, 1) ∧ decode cX11_readBook 25 = .ok (.getfield 100, 3) ∧ decode cX11_readBook 28 = .ok (.ifCond .ne 160, 3) ∧ decode cX11_readBook 31 = .ok (.aload_n 0, 1) ∧ decode cX11_readBook 32 = .ok (.getfield 119, 3) ∧ decode cX11_readBook 35 = .ok (.iconst 1, 1) ∧ decode cX11_readBook 36 = .ok (.if_icmp .eq 8, 3) ∧ decode cX11_readBook 39 = .ok (.aload_n 0, 1) ∧ decode cX11_readBook 40 = .ok (.iconst 2, 1) ∧ decode cX11_readBook 41 = .ok (.invokevirtual 130, 3) := by decide +kernel
theorem dX11_readBook_20 : decode cX11_readBook 20 = .ok (.iconst 4, 1) := dq_612.1
theorem dX11_readBook_21 : decode cX11_readBook 21 = .ok (.if_icmp .ge 167, 3) := dq_612.2.1
theorem dX11_readBook_24 : decode cX11_readBook 24 = .ok (.aload_n 0, 1) := dq_612.2.2.1
theorem dX11_readBook_25 : decode cX11_readBook 25 = .ok (.getfield 100, 3) := dq_612.2.2.2.1
theorem dX11_readBook_28 : decode cX11_readBook 28 = .ok (.ifCond .ne 160, 3) := dq_612.2.2.2.2.1
theorem dX11_readBook_31 : decode cX11_readBook 31 = .ok (.aload_n 0, 1) := dq_612.2.2.2.2.2.1
theorem dX11_readBook_32 : decode cX11_readBook 32 = .ok (.getfield 119, 3) := dq_612.2.2.2.2.2.2.1
theorem dX11_readBook_35 : decode cX11_readBook 35 = .ok (.iconst 1, 1) := dq_612.2.2.2.2.2.2.2.1
theorem dX11_readBook_36 : decode cX11_readBook 36 = .ok (.if_icmp .eq 8, 3) := dq_612.2.2.2.2.2.2.2.2.1
theorem dX11_readBook_39 : decode cX11_readBook 39 = .ok (.aload_n 0, 1) := dq_612.2.2.2.2.2.2.2.2.2.1
theorem dX11_readBook_40 : decode cX11_readBook 40 = .ok (.iconst 2, 1) := dq_612.2.2.2.2.2.2.2.2.2.2.1
theorem dX11_readBook_41 : decode cX11_readBook 41 = .ok (.invokevirtual 130, 3) := dq_612.2.2.2.2.2.2.2.2.2.2.2
theorem dq_613 : decode cX11_readBook 44 = .ok (.aload_n 0, 1) ∧ decode cX11_readBook 45 = .ok (.getfield 109, 3) ∧ decode cX11_readBook 48 = .ok (.aload_n 0, 1) ∧ decode cX11_readBook 49 = .ok (.getfield 103, 3) ∧ decode cX11_readBook 52 = .ok (.isub, 1) ∧ decode cX11_readBook 53 = .ok (.iconst 4, 1) ∧ decode cX11_readBook 54 = .ok (.if_icmp .ne 7, 3) ∧ decode cX11_readBook 57 = .ok (.iconst 1, 1) ∧ decode cX11_readBook 58 = .ok (.goto 4, 3) ∧ decode cX11_readBook 61 = .ok (.iconst 0, 1) ∧ decode cX11_readBook 62 = .ok (.istore_n 2, 1) ∧ decode cX11_readBook 63 = .ok (.iconst 0, 1) := by decide +kernel
theorem dX11_readBook_44 : decode cX11_readBook 44 = .ok (.aload_n 0, 1) := dq_613.1
theorem dX11_readBook_45 : decode cX11_readBook 45 = .ok (.getfield 109, 3) := dq_613.2.1
theorem dX11_readBook_48 : decode cX11_readBook 48 = .ok (.aload_n 0, 1) := dq_613.2.2.1
theorem dX11_readBook_49 : decode cX11_readBook 49 = .ok (.getfield 103, 3) := dq_613.2.2.2.1
theorem dX11_readBook_52 : decode cX11_readBook 52 = .ok (.isub, 1) := dq_613.2.2.2.2.1
theorem dX11_readBook_53 : decode cX11_readBook 53 = .ok (.iconst 4, 1) := dq_613.2.2.2.2.2.1
theorem dX11_readBook_54 : decode cX11_readBook 54 = .ok (.if_icmp .ne 7, 3) := dq_613.2.2.2.2.2.2.1
theorem dX11_readBook_57 : decode cX11_readBook 57 = .ok (.iconst 1, 1) := dq_613.2.2.2.2.2.2.2.1
theorem dX11_readBook_58 : decode cX11_readBook 58 = .ok (.goto 4, 3) := dq_613.2.2.2.2.2.2.2.2.1
theorem dX11_readBook_61 : decode cX11_readBook 61 = .ok (.iconst 0, 1) := dq_613.2.2.2.2.2.2.2.2.2.1
theorem dX11_readBook_62 : decode cX11_readBook 62 = .ok (.istore_n 2, 1) := dq_613.2.2.2.2.2.2.2.2.2.2.1
theorem dX11_readBook_63 : decode cX11_readBook 63 = .ok (.iconst 0, 1) := dq_613.2.2.2.2.2.2.2.2.2.2.2
theorem dq_614 : decode cX11_readBook 64 = .ok (.istore_n 3, 1) ∧ decode cX11_readBook 65 = .ok (.iload_n 3, 1) ∧ decode cX11_readBook 66 = .ok (.iconst 4, 1) ∧ decode cX11_readBook 67 = .ok (.if_icmp .ge 95, 3) ∧ decode cX11_readBook 70 = .ok (.aload_n 0, 1) ∧ decode cX11_readBook 71 = .ok (.getfield 100, 3) ∧ decode cX11_readBook 74 = .ok (.ifCond .ne 88, 3) ∧ decode cX11_readBook 77 = .ok (.iload_n 2, 1) ∧ decode cX11_readBook 78 = .ok (.ifCond .eq 84, 3) ∧ decode cX11_readBook 81 = .ok (.aload_n 0, 1) ∧ decode cX11_readBook 82 = .ok (.aload_n 0, 1) ∧ decode cX11_readBook 83 = .ok (.getfield 103, 3) := by decide +kernel
theorem dX11_readBook_64 : decode cX11_readBook 64 = .ok (.istore_n 3, 1) := dq_614.1
theorem dX11_readBook_65 : decode cX11_readBook 65 = .ok (.iload_n 3, 1) := dq_614.2.1
theorem dX11_readBook_66 : decode cX11_readBook 66 = .ok (.iconst 4, 1) := dq_614.2.2.1
theorem dX11_readBook_67 : decode cX11_readBook 67 = .ok (.if_icmp .ge 95, 3) := dq_614.2.2.2.1
theorem dX11_readBook_70 : decode cX11_readBook 70 = .ok (.aload_n 0, 1) := dq_614.2.2.2.2.1
theorem dX11_readBook_71 : decode cX11_readBook 71 = .ok (.getfield 100, 3) := dq_614.2.2.2.2.2.1
theorem dX11_readBook_74 : decode cX11_readBook 74 = .ok (.ifCond .ne 88, 3) := dq_614.2.2.2.2.2.2.1
theorem dX11_readBook_77 : decode cX11_readBook 77 = .ok (.iload_n 2, 1) := dq_614.2.2.2.2.2.2.2.1
theorem dX11_readBook_78 : decode cX11_readBook 78 = .ok (.ifCond .eq 84, 3) := dq_614.2.2.2.2.2.2.2.2.1
theorem dX11_readBook_81 : decode cX11_readBook 81 = .ok (.aload_n 0, 1) := dq_614.2.2.2.2.2.2.2.2.2.1
theorem dX11_readBook_82 : decode cX11_readBook 82 = .ok (.aload_n 0, 1) := dq_614.2.2.2.2.2.2.2.2.2.2.1
theorem dX11_readBook_83 : decode cX11_readBook 83 = .ok (.getfield 103, 3) := dq_614.2.2.2.2.2.2.2.2.2.2.2
theorem dq_615 : decode cX11_readBook 86 = .ok (.iload_n 3, 1) ∧ decode cX11_readBook 87 = .ok (.iadd, 1) ∧ decode cX11_readBook 88 = .ok (.invokevirtual 112, 3) ∧ decode cX11_readBook 91 = .ok (.istore 4, 2) ∧ decode cX11_readBook 93 = .ok (.iload 4, 2) ∧ decode cX11_readBook 95 = .ok (.bipush 120, 2) ∧ decode cX11_readBook 97 = .ok (.if_icmp .eq 18, 3) ∧ decode cX11_readBook 100 = .ok (.iload 4, 2) ∧ decode cX11_readBook 102 = .ok (.i2l, 1) ∧ decode cX11_readBook 103 = .ok (.ldc2_w 122, 3) ∧ decode cX11_readBook 106 = .ok (.ldc2_w 152, 3) ∧ decode cX11_readBook 109 = .ok (.invokestatic 96, 3) := by decide +kernel
theorem dX11_readBook_86 : decode cX11_readBook 86 = .ok (.iload_n 3, 1) := dq_615.1
theorem dX11_readBook_87 : decode cX11_readBook 87 = .ok (.iadd, 1) := dq_615.2.1
theorem dX11_readBook_88 : decode cX11_readBook 88 = .ok (.invokevirtual 112, 3) := dq_615.2.2.1
theorem dX11_readBook_91 : decode cX11_readBook 91 = .ok (.istore 4, 2) := dq_615.2.2.2.1
theorem dX11_readBook_93 : decode cX11_readBook 93 = .ok (.iload 4, 2) := dq_615.2.2.2.2.1
theorem dX11_readBook_95 : decode cX11_readBook 95 = .ok (.bipush 120, 2) := dq_615.2.2.2.2.2.1
theorem dX11_readBook_97 : decode cX11_readBook 97 = .ok (.if_icmp .eq 18, 3) := dq_615.2.2.2.2.2.2.1
theorem dX11_readBook_100 : decode cX11_readBook 100 = .ok (.iload 4, 2) := dq_615.2.2.2.2.2.2.2.1
theorem dX11_readBook_102 : decode cX11_readBook 102 = .ok (.i2l, 1) := dq_615.2.2.2.2.2.2.2.2.1
theorem dX11_readBook_103 : decode cX11_readBook 103 = .ok (.ldc2_w 122, 3) := dq_615.2.2.2.2.2.2.2.2.2.1
theorem dX11_readBook_106 : decode cX11_readBook 106 = .ok (.ldc2_w 152, 3) := dq_615.2.2.2.2.2.2.2.2.2.2.1
theorem dX11_readBook_109 : decode cX11_readBook 109 = .ok (.invokestatic 96, 3) := dq_615.2.2.2.2.2.2.2.2.2.2.2
theorem dq_616 : decode cX11_readBook 112 = .ok (.ifCond .eq 7, 3) ∧ decode cX11_readBook 115 = .ok (.iconst 1, 1) ∧ decode cX11_readBook 116 = .ok (.goto 4, 3) ∧ decode cX11_readBook 119 = .ok (.iconst 0, 1) ∧ decode cX11_readBook 120 = .ok (.istore_n 2, 1) ∧ decode cX11_readBook 121 = .ok (.aload_n 0, 1) ∧ decode cX11_readBook 122 = .ok (.getfield 53, 3) ∧ decode cX11_readBook 125 = .ok (.bipush 16, 2) ∧ decode cX11_readBook 127 = .ok (.aload_n 0, 1) ∧ decode cX11_readBook 128 = .ok (.getfield 149, 3) ∧ decode cX11_readBook 131 = .ok (.imul, 1) ∧ decode cX11_readBook 132 = .ok (.iconst 4, 1) := by decide +kernel
theorem dX11_readBook_112 : decode cX11_readBook 112 = .ok (.ifCond .eq 7, 3) := dq_616.1
theorem dX11_readBook_115 : decode cX11_readBook 115 = .ok (.iconst 1, 1) := dq_616.2.1
theorem dX11_readBook_116 : decode cX11_readBook 116 = .ok (.goto 4, 3) := dq_616.2.2.1
theorem dX11_readBook_119 : decode cX11_readBook 119 = .ok (.iconst 0, 1) := dq_616.2.2.2.1
theorem dX11_readBook_120 : decode cX11_readBook 120 = .ok (.istore_n 2, 1) := dq_616.2.2.2.2.1
theorem dX11_readBook_121 : decode cX11_readBook 121 = .ok (.aload_n 0, 1) := dq_616.2.2.2.2.2.1
theorem dX11_readBook_122 : decode cX11_readBook 122 = .ok (.getfield 53, 3) := dq_616.2.2.2.2.2.2.1
theorem dX11_readBook_125 : decode cX11_readBook 125 = .ok (.bipush 16, 2) := dq_616.2.2.2.2.2.2.2.1
theorem dX11_readBook_127 : decode cX11_readBook 127 = .ok (.aload_n 0, 1) := dq_616.2.2.2.2.2.2.2.2.1
theorem dX11_readBook_128 : decode cX11_readBook 128 = .ok (.getfield 149, 3) := dq_616.2.2.2.2.2.2.2.2.2.1
theorem dX11_readBook_131 : decode cX11_readBook 131 = .ok (.imul, 1) := dq_616.2.2.2.2.2.2.2.2.2.2.1
theorem dX11_readBook_132 : decode cX11_readBook 132 = .ok (.iconst 4, 1) := dq_616.2.2.2.2.2.2.2.2.2.2.2
theorem dq_617 : decode cX11_readBook 133 = .ok (.iload_n 1, 1) ∧ decode cX11_readBook 134 = .ok (.imul, 1) ∧ decode cX11_readBook 135 = .ok (.iadd, 1) ∧ decode cX11_readBook 136 = .ok (.iload_n 3, 1) ∧ decode cX11_readBook 137 = .ok (.iadd, 1) ∧ decode cX11_readBook 138 = .ok (.iload 4, 2) ∧ decode cX11_readBook 140 = .ok (.bipush 120, 2) ∧ decode cX11_readBook 142 = .ok (.if_icmp .ne 8, 3) ∧ decode cX11_readBook 145 = .ok (.bipush (-4), 2) ∧ decode cX11_readBook 147 = .ok (.goto 8, 3) ∧ decode cX11_readBook 150 = .ok (.iload 4, 2) ∧ decode cX11_readBook 152 = .ok (.bipush 97, 2) := by decide +kernel
theorem dX11_readBook_133 : decode cX11_readBook 133 = .ok (.iload_n 1, 1) := dq_617.1
theorem dX11_readBook_134 : decode cX11_readBook 134 = .ok (.imul, 1) := dq_617.2.1
theorem dX11_readBook_135 : decode cX11_readBook 135 = .ok (.iadd, 1) := dq_617.2.2.1
theorem dX11_readBook_136 : decode cX11_readBook 136 = .ok (.iload_n 3, 1) := dq_617.2.2.2.1
theorem dX11_readBook_137 : decode cX11_readBook 137 = .ok (.iadd, 1) := dq_617.2.2.2.2.1
theorem dX11_readBook_138 : decode cX11_readBook 138 = .ok (.iload 4, 2) := dq_617.2.2.2.2.2.1
theorem dX11_readBook_140 : decode cX11_readBook 140 = .ok (.bipush 120, 2) := dq_617.2.2.2.2.2.2.1
theorem dX11_readBook_142 : decode cX11_readBook 142 = .ok (.if_icmp .ne 8, 3) := dq_617.2.2.2.2.2.2.2.1
theorem dX11_readBook_145 : decode cX11_readBook 145 = .ok (.bipush (-4), 2) := dq_617.2.2.2.2.2.2.2.2.1
theorem dX11_readBook_147 : decode cX11_readBook 147 = .ok (.goto 8, 3) := dq_617.2.2.2.2.2.2.2.2.2.1
theorem dX11_readBook_150 : decode cX11_readBook 150 = .ok (.iload 4, 2) := dq_617.2.2.2.2.2.2.2.2.2.2.1
theorem dX11_readBook_152 : decode cX11_readBook 152 = .ok (.bipush 97, 2) := dq_617.2.2.2.2.2.2.2.2.2.2.2
theorem dq_618 : decode cX11_readBook 154 = .ok (.isub, 1) ∧ decode cX11_readBook 155 = .ok (.iastore, 1) ∧ decode cX11_readBook 156 = .ok (.iinc 3 1, 3) ∧ decode cX11_readBook 159 = .ok (.goto (-94), 3) ∧ decode cX11_readBook 162 = .ok (.aload_n 0, 1) ∧ decode cX11_readBook 163 = .ok (.getfield 100, 3) ∧ decode cX11_readBook 166 = .ok (.ifCond .ne 12, 3) ∧ decode cX11_readBook 169 = .ok (.iload_n 2, 1) ∧ decode cX11_readBook 170 = .ok (.ifCond .ne 8, 3) ∧ decode cX11_readBook 173 = .ok (.aload_n 0, 1) ∧ decode cX11_readBook 174 = .ok (.iconst 3, 1) ∧ decode cX11_readBook 175 = .ok (.invokevirtual 130, 3) := by decide +kernel
theorem dX11_readBook_154 : decode cX11_readBook 154 = .ok (.isub, 1) := dq_618.1
theorem dX11_readBook_155 : decode cX11_readBook 155 = .ok (.iastore, 1) := dq_618.2.1
theorem dX11_readBook_156 : decode cX11_readBook 156 = .ok (.iinc 3 1, 3) := dq_618.2.2.1
theorem dX11_readBook_159 : decode cX11_readBook 159 = .ok (.goto (-94), 3) := dq_618.2.2.2.1
theorem dX11_readBook_162 : decode cX11_readBook 162 = .ok (.aload_n 0, 1) := dq_618.2.2.2.2.1
theorem dX11_readBook_163 : decode cX11_readBook 163 = .ok (.getfield 100, 3) := dq_618.2.2.2.2.2.1
theorem dX11_readBook_166 : decode cX11_readBook 166 = .ok (.ifCond .ne 12, 3) := dq_618.2.2.2.2.2.2.1
theorem dX11_readBook_169 : decode cX11_readBook 169 = .ok (.iload_n 2, 1) := dq_618.2.2.2.2.2.2.2.1
theorem dX11_readBook_170 : decode cX11_readBook 170 = .ok (.ifCond .ne 8, 3) := dq_618.2.2.2.2.2.2.2.2.1
theorem dX11_readBook_173 : decode cX11_readBook 173 = .ok (.aload_n 0, 1) := dq_618.2.2.2.2.2.2.2.2.2.1
theorem dX11_readBook_174 : decode cX11_readBook 174 = .ok (.iconst 3, 1) := dq_618.2.2.2.2.2.2.2.2.2.2.1
theorem dX11_readBook_175 : decode cX11_readBook 175 = .ok (.invokevirtual 130, 3) := dq_618.2.2.2.2.2.2.2.2.2.2.2
theorem dq_619 : decode cX11_readBook 178 = .ok (.aload_n 0, 1) ∧ decode cX11_readBook 179 = .ok (.invokevirtual 137, 3) ∧ decode cX11_readBook 182 = .ok (.iinc 1 1, 3) ∧ decode cX11_readBook 185 = .ok (.goto (-166), 3) ∧ decode cX11_readBook 188 = .ok (.aload_n 0, 1) ∧ decode cX11_readBook 189 = .ok (.dup, 1) ∧ decode cX11_readBook 190 = .ok (.getfield 149, 3) ∧ decode cX11_readBook 193 = .ok (.aload_n 0, 1) ∧ decode cX11_readBook 194 = .ok (.getfield 100, 3) ∧ decode cX11_readBook 197 = .ok (.ifCond .ne 7, 3) ∧ decode cX11_readBook 200 = .ok (.iconst 1, 1) ∧ decode cX11_readBook 201 = .ok (.goto 4, 3) := by decide +kernel
theorem dX11_readBook_178 : decode cX11_readBook 178 = .ok (.aload_n 0, 1) := dq_619.1
theorem dX11_readBook_179 : decode cX11_readBook 179 = .ok (.invokevirtual 137, 3) := dq_619.2.1
theorem dX11_readBook_182 : decode cX11_readBook 182 = .ok (.iinc 1 1, 3) := dq_619.2.2.1
theorem dX11_readBook_185 : decode cX11_readBook 185 = .ok (.goto (-166), 3) := dq_619.2.2.2.1
theorem dX11_readBook_188 : decode cX11_readBook 188 = .ok (.aload_n 0, 1) := dq_619.2.2.2.2.1
theorem dX11_readBook_189 : decode cX11_readBook 189 = .ok (.dup, 1) := dq_619.2.2.2.2.2.1
theorem dX11_readBook_190 : decode cX11_readBook 190 = .ok (.getfield 149, 3) := dq_619.2.2.2.2.2.2.1
theorem dX11_readBook_193 : decode cX11_readBook 193 = .ok (.aload_n 0, 1) := dq_619.2.2.2.2.2.2.2.1
theorem dX11_readBook_194 : decode cX11_readBook 194 = .ok (.getfield 100, 3) := dq_619.2.2.2.2.2.2.2.2.1
theorem dX11_readBook_197 : decode cX11_readBook 197 = .ok (.ifCond .ne 7, 3) := dq_619.2.2.2.2.2.2.2.2.2.1
theorem dX11_readBook_200 : decode cX11_readBook 200 = .ok (.iconst 1, 1) := dq_619.2.2.2.2.2.2.2.2.2.2.1
theorem dX11_readBook_201 : decode cX11_readBook 201 = .ok (.goto 4, 3) := dq_619.2.2.2.2.2.2.2.2.2.2.2
theorem dq_620 : decode cX11_readBook 204 = .ok (.iconst 0, 1) ∧ decode cX11_readBook 205 = .ok (.iadd, 1) ∧ decode cX11_readBook 206 = .ok (.putfield 149, 3) ∧ decode cX11_readBook 209 = .ok (.return_, 1) := by decide +kernel
theorem dX11_readBook_204 : decode cX11_readBook 204 = .ok (.iconst 0, 1) := dq_620.1
theorem dX11_readBook_205 : decode cX11_readBook 205 = .ok (.iadd, 1) := dq_620.2.1
theorem dX11_readBook_206 : decode cX11_readBook 206 = .ok (.putfield 149, 3) := dq_620.2.2.1
theorem dX11_readBook_209 : decode cX11_readBook 209 = .ok (.return_, 1) := dq_620.2.2.2
theorem dq_621 : decode cX11_readLine 0 = .ok (.aload_n 0, 1) ∧ decode cX11_readLine 1 = .ok (.getfield 119, 3) ∧ decode cX11_readLine 4 = .ok (.iconst 1, 1) ∧ decode cX11_readLine 5 = .ok (.if_icmp .ne 10, 3) ∧ decode cX11_readLine 8 = .ok (.aload_n 0, 1) ∧ decode cX11_readLine 9 = .ok (.invokevirtual 154, 3) ∧ decode cX11_readLine 12 = .ok (.goto 5, 3) ∧ decode cX11_readLine 15 = .ok (.bipush (-4), 2) ∧ decode cX11_readLine 17 = .ok (.istore_n 1, 1) ∧ decode cX11_readLine 18 = .ok (.iload_n 1, 1) ∧ decode cX11_readLine 19 = .ok (.bipush (-4), 2) ∧ decode cX11_readLine 21 = .ok (.if_icmp .ne 9, 3) := by decide +kernel
theorem dX11_readLine_0 : decode cX11_readLine 0 = .ok (.aload_n 0, 1) := dq_621.1
theorem dX11_readLine_1 : decode cX11_readLine 1 = .ok (.getfield 119, 3) := dq_621.2.1
theorem dX11_readLine_4 : decode cX11_readLine 4 = .ok (.iconst 1, 1) := dq_621.2.2.1
theorem dX11_readLine_5 : decode cX11_readLine 5 = .ok (.if_icmp .ne 10, 3) := dq_621.2.2.2.1
theorem dX11_readLine_8 : decode cX11_readLine 8 = .ok (.aload_n 0, 1) := dq_621.2.2.2.2.1
theorem dX11_readLine_9 : decode cX11_readLine 9 = .ok (.invokevirtual 154, 3) := dq_621.2.2.2.2.2.1
theorem dX11_readLine_12 : decode cX11_readLine 12 = .ok (.goto 5, 3) := dq_621.2.2.2.2.2.2.1
theorem dX11_readLine_15 : decode cX11_readLine 15 = .ok (.bipush (-4), 2) := dq_621.2.2.2.2.2.2.2.1
theorem dX11_readLine_17 : decode cX11_readLine 17 = .ok (.istore_n 1, 1) := dq_621.2.2.2.2.2.2.2.2.1
theorem dX11_readLine_18 : decode cX11_readLine 18 = .ok (.iload_n 1, 1) := dq_621.2.2.2.2.2.2.2.2.2.1
theorem dX11_readLine_19 : decode cX11_readLine 19 = .ok (.bipush (-4), 2) := dq_621.2.2.2.2.2.2.2.2.2.2.1
theorem dX11_readLine_21 : decode cX11_readLine 21 = .ok (.if_icmp .ne 9, 3) := dq_621.2.2.2.2.2.2.2.2.2.2.2
theorem dq_622 : decode cX11_readLine 24 = .ok (.aload_n 0, 1) ∧ decode cX11_readLine 25 = .ok (.iconst 2, 1) ∧ decode cX11_readLine 26 = .ok (.invokevirtual 130, 3) ∧ decode cX11_readLine 29 = .ok (.return_, 1) ∧ decode cX11_readLine 30 = .ok (.iload_n 1, 1) ∧ decode cX11_readLine 31 = .ok (.iconst 1, 1) ∧ decode cX11_readLine 32 = .ok (.if_icmp .gt 19, 3) ∧ decode cX11_readLine 35 = .ok (.aload_n 0, 1) ∧ decode cX11_readLine 36 = .ok (.iload_n 1, 1) ∧ decode cX11_readLine 37 = .ok (.ifCond .ne 7, 3) ∧ decode cX11_readLine 40 = .ok (.iconst 1, 1) ∧ decode cX11_readLine 41 = .ok (.goto 4, 3) := by decide +kernel
theorem dX11_readLine_24 : decode cX11_readLine 24 = .ok (.aload_n 0, 1) := dq_622.1
theorem dX11_readLine_25 : decode cX11_readLine 25 = .ok (.iconst 2, 1) := dq_622.2.1
theorem dX11_readLine_26 : decode cX11_readLine 26 = .ok (.invokevirtual 130, 3) := dq_622.2.2.1
theorem dX11_readLine_29 : decode cX11_readLine 29 = .ok (.return_, 1) := dq_622.2.2.2.1
theorem dX11_readLine_30 : decode cX11_readLine 30 = .ok (.iload_n 1, 1) := dq_622.2.2.2.2.1
theorem dX11_readLine_31 : decode cX11_readLine 31 = .ok (.iconst 1, 1) := dq_622.2.2.2.2.2.1
theorem dX11_readLine_32 : decode cX11_readLine 32 = .ok (.if_icmp .gt 19, 3) := dq_622.2.2.2.2.2.2.1
theorem dX11_readLine_35 : decode cX11_readLine 35 = .ok (.aload_n 0, 1) := dq_622.2.2.2.2.2.2.2.1
theorem dX11_readLine_36 : decode cX11_readLine 36 = .ok (.iload_n 1, 1) := dq_622.2.2.2.2.2.2.2.2.1
theorem dX11_readLine_37 : decode cX11_readLine 37 = .ok (.ifCond .ne 7, 3) := dq_622.2.2.2.2.2.2.2.2.2.1
theorem dX11_readLine_40 : decode cX11_readLine 40 = .ok (.iconst 1, 1) := dq_622.2.2.2.2.2.2.2.2.2.2.1
theorem dX11_readLine_41 : decode cX11_readLine 41 = .ok (.goto 4, 3) := dq_622.2.2.2.2.2.2.2.2.2.2.2
theorem dq_623 : decode cX11_readLine 44 = .ok (.iconst 0, 1) ∧ decode cX11_readLine 45 = .ok (.invokevirtual 158, 3) ∧ decode cX11_readLine 48 = .ok (.goto 75, 3) ∧ decode cX11_readLine 51 = .ok (.iload_n 1, 1) ∧ decode cX11_readLine 52 = .ok (.iconst 2, 1) ∧ decode cX11_readLine 53 = .ok (.if_icmp .ne 10, 3) ∧ decode cX11_readLine 56 = .ok (.aload_n 0, 1) ∧ decode cX11_readLine 57 = .ok (.invokevirtual 162, 3) ∧ decode cX11_readLine 60 = .ok (.goto 63, 3) ∧ decode cX11_readLine 63 = .ok (.iload_n 1, 1) ∧ decode cX11_readLine 64 = .ok (.iconst 3, 1) ∧ decode cX11_readLine 65 = .ok (.if_icmp .ne 42, 3) := by decide +kernel
theorem dX11_readLine_44 : decode cX11_readLine 44 = .ok (.iconst 0, 1) := dq_623.1
theorem dX11_readLine_45 : decode cX11_readLine 45 = .ok (.invokevirtual 158, 3) := dq_623.2.1
theorem dX11_readLine_48 : decode cX11_readLine 48 = .ok (.goto 75, 3) := dq_623.2.2.1
theorem dX11_readLine_51 : decode cX11_readLine 51 = .ok (.iload_n 1, 1) := dq_623.2.2.2.1
theorem dX11_readLine_52 : decode cX11_readLine 52 = .ok (.iconst 2, 1) := dq_623.2.2.2.2.1
theorem dX11_readLine_53 : decode cX11_readLine 53 = .ok (.if_icmp .ne 10, 3) := dq_623.2.2.2.2.2.1
theorem dX11_readLine_56 : decode cX11_readLine 56 = .ok (.aload_n 0, 1) := dq_623.2.2.2.2.2.2.1
theorem dX11_readLine_57 : decode cX11_readLine 57 = .ok (.invokevirtual 162, 3) := dq_623.2.2.2.2.2.2.2.1
theorem dX11_readLine_60 : decode cX11_readLine 60 = .ok (.goto 63, 3) := dq_623.2.2.2.2.2.2.2.2.1
theorem dX11_readLine_63 : decode cX11_readLine 63 = .ok (.iload_n 1, 1) := dq_623.2.2.2.2.2.2.2.2.2.1
theorem dX11_readLine_64 : decode cX11_readLine 64 = .ok (.iconst 3, 1) := dq_623.2.2.2.2.2.2.2.2.2.2.1
theorem dX11_readLine_65 : decode cX11_readLine 65 = .ok (.if_icmp .ne 42, 3) := dq_623.2.2.2.2.2.2.2.2.2.2.2
theorem dq_624 : decode cX11_readLine 68 = .ok (.aload_n 0, 1) ∧ decode cX11_readLine 69 = .ok (.getfield 165, 3) ∧ decode cX11_readLine 72 = .ok (.ifCond .eq 8, 3) ∧ decode cX11_readLine 75 = .ok (.aload_n 0, 1) ∧ decode cX11_readLine 76 = .ok (.iconst 4, 1) ∧ decode cX11_readLine 77 = .ok (.invokevirtual 130, 3) ∧ decode cX11_readLine 80 = .ok (.aload_n 0, 1) ∧ decode cX11_readLine 81 = .ok (.iconst 1, 1) ∧ decode cX11_readLine 82 = .ok (.putfield 165, 3) ∧ decode cX11_readLine 85 = .ok (.aload_n 0, 1) ∧ decode cX11_readLine 86 = .ok (.invokevirtual 137, 3) ∧ decode cX11_readLine 89 = .ok (.aload_n 0, 1) := by decide +kernel
theorem dX11_readLine_68 : decode cX11_readLine 68 = .ok (.aload_n 0, 1) := dq_624.1
theorem dX11_readLine_69 : decode cX11_readLine 69 = .ok (.getfield 165, 3) := dq_624.2.1
theorem dX11_readLine_72 : decode cX11_readLine 72 = .ok (.ifCond .eq 8, 3) := dq_624.2.2.1
theorem dX11_readLine_75 : decode cX11_readLine 75 = .ok (.aload_n 0, 1) := dq_624.2.2.2.1
theorem dX11_readLine_76 : decode cX11_readLine 76 = .ok (.iconst 4, 1) := dq_624.2.2.2.2.1
theorem dX11_readLine_77 : decode cX11_readLine 77 = .ok (.invokevirtual 130, 3) := dq_624.2.2.2.2.2.1
theorem dX11_readLine_80 : decode cX11_readLine 80 = .ok (.aload_n 0, 1) := dq_624.2.2.2.2.2.2.1
theorem dX11_readLine_81 : decode cX11_readLine 81 = .ok (.iconst 1, 1) := dq_624.2.2.2.2.2.2.2.1
theorem dX11_readLine_82 : decode cX11_readLine 82 = .ok (.putfield 165, 3) := dq_624.2.2.2.2.2.2.2.2.1
theorem dX11_readLine_85 : decode cX11_readLine 85 = .ok (.aload_n 0, 1) := dq_624.2.2.2.2.2.2.2.2.2.1
theorem dX11_readLine_86 : decode cX11_readLine 86 = .ok (.invokevirtual 137, 3) := dq_624.2.2.2.2.2.2.2.2.2.2.1
theorem dX11_readLine_89 : decode cX11_readLine 89 = .ok (.aload_n 0, 1) := dq_624.2.2.2.2.2.2.2.2.2.2.2
theorem dq_625 : decode cX11_readLine 90 = .ok (.aload_n 0, 1) ∧ decode cX11_readLine 91 = .ok (.iconst 0, 1) ∧ decode cX11_readLine 92 = .ok (.bipush 99, 2) ∧ decode cX11_readLine 94 = .ok (.invokevirtual 140, 3) ∧ decode cX11_readLine 97 = .ok (.putfield 169, 3) ∧ decode cX11_readLine 100 = .ok (.aload_n 0, 1) ∧ decode cX11_readLine 101 = .ok (.invokevirtual 137, 3) ∧ decode cX11_readLine 104 = .ok (.goto 19, 3) ∧ decode cX11_readLine 107 = .ok (.iload_n 1, 1) ∧ decode cX11_readLine 108 = .ok (.iconst 4, 1) ∧ decode cX11_readLine 109 = .ok (.if_icmp .ne 10, 3) ∧ decode cX11_readLine 112 = .ok (.aload_n 0, 1) := by decide +kernel
theorem dX11_readLine_90 : decode cX11_readLine 90 = .ok (.aload_n 0, 1) := dq_625.1
theorem dX11_readLine_91 : decode cX11_readLine 91 = .ok (.iconst 0, 1) := dq_625.2.1
theorem dX11_readLine_92 : decode cX11_readLine 92 = .ok (.bipush 99, 2) := dq_625.2.2.1
theorem dX11_readLine_94 : decode cX11_readLine 94 = .ok (.invokevirtual 140, 3) := dq_625.2.2.2.1
theorem dX11_readLine_97 : decode cX11_readLine 97 = .ok (.putfield 169, 3) := dq_625.2.2.2.2.1
theorem dX11_readLine_100 : decode cX11_readLine 100 = .ok (.aload_n 0, 1) := dq_625.2.2.2.2.2.1
theorem dX11_readLine_101 : decode cX11_readLine 101 = .ok (.invokevirtual 137, 3) := dq_625.2.2.2.2.2.2.1
theorem dX11_readLine_104 : decode cX11_readLine 104 = .ok (.goto 19, 3) := dq_625.2.2.2.2.2.2.2.1
theorem dX11_readLine_107 : decode cX11_readLine 107 = .ok (.iload_n 1, 1) := dq_625.2.2.2.2.2.2.2.2.1
theorem dX11_readLine_108 : decode cX11_readLine 108 = .ok (.iconst 4, 1) := dq_625.2.2.2.2.2.2.2.2.2.1
theorem dX11_readLine_109 : decode cX11_readLine 109 = .ok (.if_icmp .ne 10, 3) := dq_625.2.2.2.2.2.2.2.2.2.2.1
theorem dX11_readLine_112 : decode cX11_readLine 112 = .ok (.aload_n 0, 1) := dq_625.2.2.2.2.2.2.2.2.2.2.2
theorem dq_626 : decode cX11_readLine 113 = .ok (.invokevirtual 172, 3) ∧ decode cX11_readLine 116 = .ok (.goto 7, 3) ∧ decode cX11_readLine 119 = .ok (.aload_n 0, 1) ∧ decode cX11_readLine 120 = .ok (.invokevirtual 175, 3) ∧ decode cX11_readLine 123 = .ok (.aload_n 0, 1) ∧ decode cX11_readLine 124 = .ok (.getfield 100, 3) ∧ decode cX11_readLine 127 = .ok (.ifCond .ne 16, 3) ∧ decode cX11_readLine 130 = .ok (.aload_n 0, 1) ∧ decode cX11_readLine 131 = .ok (.getfield 119, 3) ∧ decode cX11_readLine 134 = .ok (.iconst 3, 1) ∧ decode cX11_readLine 135 = .ok (.if_icmp .eq 8, 3) ∧ decode cX11_readLine 138 = .ok (.aload_n 0, 1) := by decide +kernel
theorem dX11_readLine_113 : decode cX11_readLine 113 = .ok (.invokevirtual 172, 3) := dq_626.1
theorem dX11_readLine_116 : decode cX11_readLine 116 = .ok (.goto 7, 3) := dq_626.2.1
theorem dX11_readLine_119 : decode cX11_readLine 119 = .ok (.aload_n 0, 1) := dq_626.2.2.1
theorem dX11_readLine_120 : decode cX11_readLine 120 = .ok (.invokevirtual 175, 3) := dq_626.2.2.2.1
theorem dX11_readLine_123 : decode cX11_readLine 123 = .ok (.aload_n 0, 1) := dq_626.2.2.2.2.1
theorem dX11_readLine_124 : decode cX11_readLine 124 = .ok (.getfield 100, 3) := dq_626.2.2.2.2.2.1
theorem dX11_readLine_127 : decode cX11_readLine 127 = .ok (.ifCond .ne 16, 3) := dq_626.2.2.2.2.2.2.1
theorem dX11_readLine_130 : decode cX11_readLine 130 = .ok (.aload_n 0, 1) := dq_626.2.2.2.2.2.2.2.1
theorem dX11_readLine_131 : decode cX11_readLine 131 = .ok (.getfield 119, 3) := dq_626.2.2.2.2.2.2.2.2.1
theorem dX11_readLine_134 : decode cX11_readLine 134 = .ok (.iconst 3, 1) := dq_626.2.2.2.2.2.2.2.2.2.1
theorem dX11_readLine_135 : decode cX11_readLine 135 = .ok (.if_icmp .eq 8, 3) := dq_626.2.2.2.2.2.2.2.2.2.2.1
theorem dX11_readLine_138 : decode cX11_readLine 138 = .ok (.aload_n 0, 1) := dq_626.2.2.2.2.2.2.2.2.2.2.2
theorem dq_627 : decode cX11_readLine 139 = .ok (.iconst 2, 1) ∧ decode cX11_readLine 140 = .ok (.invokevirtual 130, 3) ∧ decode cX11_readLine 143 = .ok (.aload_n 0, 1) ∧ decode cX11_readLine 144 = .ok (.invokevirtual 137, 3) ∧ decode cX11_readLine 147 = .ok (.return_, 1) := by decide +kernel
theorem dX11_readLine_139 : decode cX11_readLine 139 = .ok (.iconst 2, 1) := dq_627.1
theorem dX11_readLine_140 : decode cX11_readLine 140 = .ok (.invokevirtual 130, 3) := dq_627.2.1
theorem dX11_readLine_143 : decode cX11_readLine 143 = .ok (.aload_n 0, 1) := dq_627.2.2.1
theorem dX11_readLine_144 : decode cX11_readLine 144 = .ok (.invokevirtual 137, 3) := dq_627.2.2.2.1
theorem dX11_readLine_147 : decode cX11_readLine 147 = .ok (.return_, 1) := dq_627.2.2.2.2
theorem dq_628 : decode cX11_text 0 = .ok (.aload_n 0, 1) ∧ decode cX11_text 1 = .ok (.iconst 0, 1) ∧ decode cX11_text 2 = .ok (.putfield 100, 3) ∧ decode cX11_text 5 = .ok (.aload_n 0, 1) ∧ decode cX11_text 6 = .ok (.iconst 0, 1) ∧ decode cX11_text 7 = .ok (.putfield 109, 3) ∧ decode cX11_text 10 = .ok (.aload_n 0, 1) ∧ decode cX11_text 11 = .ok (.iconst 0, 1) ∧ decode cX11_text 12 = .ok (.putfield 134, 3) ∧ decode cX11_text 15 = .ok (.aload_n 0, 1) ∧ decode cX11_text 16 = .ok (.iconst 0, 1) ∧ decode cX11_text 17 = .ok (.putfield 149, 3) := by decide +kernel
theorem dX11_text_0 : decode cX11_text 0 = .ok (.aload_n 0, 1) := dq_628.1
theorem dX11_text_1 : decode cX11_text 1 = .ok (.iconst 0, 1) := dq_628.2.1
theorem dX11_text_2 : decode cX11_text 2 = .ok (.putfield 100, 3) := dq_628.2.2.1
theorem dX11_text_5 : decode cX11_text 5 = .ok (.aload_n 0, 1) := dq_628.2.2.2.1
theorem dX11_text_6 : decode cX11_text 6 = .ok (.iconst 0, 1) := dq_628.2.2.2.2.1
theorem dX11_text_7 : decode cX11_text 7 = .ok (.putfield 109, 3) := dq_628.2.2.2.2.2.1
theorem dX11_text_10 : decode cX11_text 10 = .ok (.aload_n 0, 1) := dq_628.2.2.2.2.2.2.1
theorem dX11_text_11 : decode cX11_text 11 = .ok (.iconst 0, 1) := dq_628.2.2.2.2.2.2.2.1
theorem dX11_text_12 : decode cX11_text 12 = .ok (.putfield 134, 3) := dq_628.2.2.2.2.2.2.2.2.1
theorem dX11_text_15 : decode cX11_text 15 = .ok (.aload_n 0, 1) := dq_628.2.2.2.2.2.2.2.2.2.1
theorem dX11_text_16 : decode cX11_text 16 = .ok (.iconst 0, 1) := dq_628.2.2.2.2.2.2.2.2.2.2.1
theorem dX11_text_17 : decode cX11_text 17 = .ok (.putfield 149, 3) := dq_628.2.2.2.2.2.2.2.2.2.2.2
theorem dq_629 : decode cX11_text 20 = .ok (.aload_n 0, 1) ∧ decode cX11_text 21 = .ok (.bipush 10, 2) ∧ decode cX11_text 23 = .ok (.putfield 169, 3) ∧ decode cX11_text 26 = .ok (.aload_n 0, 1) ∧ decode cX11_text 27 = .ok (.iconst 0, 1) ∧ decode cX11_text 28 = .ok (.putfield 165, 3) ∧ decode cX11_text 31 = .ok (.aload_n 0, 1) ∧ decode cX11_text 32 = .ok (.iconst 0, 1) ∧ decode cX11_text 33 = .ok (.putfield 146, 3) ∧ decode cX11_text 36 = .ok (.iconst 0, 1) ∧ decode cX11_text 37 = .ok (.istore_n 1, 1) ∧ decode cX11_text 38 = .ok (.iconst 0, 1) := by decide +kernel
theorem dX11_text_20 : decode cX11_text 20 = .ok (.aload_n 0, 1) := dq_629.1
theorem dX11_text_21 : decode cX11_text 21 = .ok (.bipush 10, 2) := dq_629.2.1
theorem dX11_text_23 : decode cX11_text 23 = .ok (.putfield 169, 3) := dq_629.2.2.1
theorem dX11_text_26 : decode cX11_text 26 = .ok (.aload_n 0, 1) := dq_629.2.2.2.1
theorem dX11_text_27 : decode cX11_text 27 = .ok (.iconst 0, 1) := dq_629.2.2.2.2.1
theorem dX11_text_28 : decode cX11_text 28 = .ok (.putfield 165, 3) := dq_629.2.2.2.2.2.1
theorem dX11_text_31 : decode cX11_text 31 = .ok (.aload_n 0, 1) := dq_629.2.2.2.2.2.2.1
theorem dX11_text_32 : decode cX11_text 32 = .ok (.iconst 0, 1) := dq_629.2.2.2.2.2.2.2.1
theorem dX11_text_33 : decode cX11_text 33 = .ok (.putfield 146, 3) := dq_629.2.2.2.2.2.2.2.2.1
theorem dX11_text_36 : decode cX11_text 36 = .ok (.iconst 0, 1) := dq_629.2.2.2.2.2.2.2.2.2.1
theorem dX11_text_37 : decode cX11_text 37 = .ok (.istore_n 1, 1) := dq_629.2.2.2.2.2.2.2.2.2.2.1
theorem dX11_text_38 : decode cX11_text 38 = .ok (.iconst 0, 1) := dq_629.2.2.2.2.2.2.2.2.2.2.2
theorem dq_630 : decode cX11_text 39 = .ok (.istore_n 2, 1) ∧ decode cX11_text 40 = .ok (.iload_n 2, 1) ∧ decode cX11_text 41 = .ok (.bipush 6, 2) ∧ decode cX11_text 43 = .ok (.if_icmp .ge 24, 3) ∧ decode cX11_text 46 = .ok (.aload_n 0, 1) ∧ decode cX11_text 47 = .ok (.getfield 56, 3) ∧ decode cX11_text 50 = .ok (.iload_n 2, 1) ∧ decode cX11_text 51 = .ok (.iconst 1, 1) ∧ decode cX11_text 52 = .ok (.iastore, 1) ∧ decode cX11_text 53 = .ok (.aload_n 0, 1) ∧ decode cX11_text 54 = .ok (.getfield 59, 3) ∧ decode cX11_text 57 = .ok (.iload_n 2, 1) := by decide +kernel
theorem dX11_text_39 : decode cX11_text 39 = .ok (.istore_n 2, 1) := dq_630.1
theorem dX11_text_40 : decode cX11_text 40 = .ok (.iload_n 2, 1) := dq_630.2.1
theorem dX11_text_41 : decode cX11_text 41 = .ok (.bipush 6, 2) := dq_630.2.2.1
theorem dX11_text_43 : decode cX11_text 43 = .ok (.if_icmp .ge 24, 3) := dq_630.2.2.2.1
theorem dX11_text_46 : decode cX11_text 46 = .ok (.aload_n 0, 1) := dq_630.2.2.2.2.1
theorem dX11_text_47 : decode cX11_text 47 = .ok (.getfield 56, 3) := dq_630.2.2.2.2.2.1
theorem dX11_text_50 : decode cX11_text 50 = .ok (.iload_n 2, 1) := dq_630.2.2.2.2.2.2.1
theorem dX11_text_51 : decode cX11_text 51 = .ok (.iconst 1, 1) := dq_630.2.2.2.2.2.2.2.1
theorem dX11_text_52 : decode cX11_text 52 = .ok (.iastore, 1) := dq_630.2.2.2.2.2.2.2.2.1
theorem dX11_text_53 : decode cX11_text 53 = .ok (.aload_n 0, 1) := dq_630.2.2.2.2.2.2.2.2.2.1
theorem dX11_text_54 : decode cX11_text 54 = .ok (.getfield 59, 3) := dq_630.2.2.2.2.2.2.2.2.2.2.1
theorem dX11_text_57 : decode cX11_text 57 = .ok (.iload_n 2, 1) := dq_630.2.2.2.2.2.2.2.2.2.2.2
theorem dq_631 : decode cX11_text 58 = .ok (.bipush 10, 2) ∧ decode cX11_text 60 = .ok (.iastore, 1) ∧ decode cX11_text 61 = .ok (.iinc 2 1, 3) ∧ decode cX11_text 64 = .ok (.goto (-24), 3) ∧ decode cX11_text 67 = .ok (.aload_n 0, 1) ∧ decode cX11_text 68 = .ok (.invokevirtual 137, 3) ∧ decode cX11_text 71 = .ok (.aload_n 0, 1) ∧ decode cX11_text 72 = .ok (.getfield 100, 3) ∧ decode cX11_text 75 = .ok (.ifCond .ne 20, 3) ∧ decode cX11_text 78 = .ok (.aload_n 0, 1) ∧ decode cX11_text 79 = .ok (.getfield 119, 3) ∧ decode cX11_text 82 = .ok (.ifCond .eq 13, 3) := by decide +kernel
theorem dX11_text_58 : decode cX11_text 58 = .ok (.bipush 10, 2) := dq_631.1
theorem dX11_text_60 : decode cX11_text 60 = .ok (.iastore, 1) := dq_631.2.1
theorem dX11_text_61 : decode cX11_text 61 = .ok (.iinc 2 1, 3) := dq_631.2.2.1
theorem dX11_text_64 : decode cX11_text 64 = .ok (.goto (-24), 3) := dq_631.2.2.2.1
theorem dX11_text_67 : decode cX11_text 67 = .ok (.aload_n 0, 1) := dq_631.2.2.2.2.1
theorem dX11_text_68 : decode cX11_text 68 = .ok (.invokevirtual 137, 3) := dq_631.2.2.2.2.2.1
theorem dX11_text_71 : decode cX11_text 71 = .ok (.aload_n 0, 1) := dq_631.2.2.2.2.2.2.1
theorem dX11_text_72 : decode cX11_text 72 = .ok (.getfield 100, 3) := dq_631.2.2.2.2.2.2.2.1
theorem dX11_text_75 : decode cX11_text 75 = .ok (.ifCond .ne 20, 3) := dq_631.2.2.2.2.2.2.2.2.1
theorem dX11_text_78 : decode cX11_text 78 = .ok (.aload_n 0, 1) := dq_631.2.2.2.2.2.2.2.2.2.1
theorem dX11_text_79 : decode cX11_text 79 = .ok (.getfield 119, 3) := dq_631.2.2.2.2.2.2.2.2.2.2.1
theorem dX11_text_82 : decode cX11_text 82 = .ok (.ifCond .eq 13, 3) := dq_631.2.2.2.2.2.2.2.2.2.2.2
theorem dq_632 : decode cX11_text 85 = .ok (.aload_n 0, 1) ∧ decode cX11_text 86 = .ok (.invokevirtual 178, 3) ∧ decode cX11_text 89 = .ok (.iinc 1 1, 3) ∧ decode cX11_text 92 = .ok (.goto (-21), 3) ∧ decode cX11_text 95 = .ok (.aload_n 0, 1) ∧ decode cX11_text 96 = .ok (.iconst 0, 1) ∧ decode cX11_text 97 = .ok (.putfield 93, 3) ∧ decode cX11_text 100 = .ok (.aload_n 0, 1) ∧ decode cX11_text 101 = .ok (.aload_n 0, 1) ∧ decode cX11_text 102 = .ok (.getfield 100, 3) ∧ decode cX11_text 105 = .ok (.putfield 181, 3) ∧ decode cX11_text 108 = .ok (.aload_n 0, 1) := by decide +kernel
theorem dX11_text_85 : decode cX11_text 85 = .ok (.aload_n 0, 1) := dq_632.1
theorem dX11_text_86 : decode cX11_text 86 = .ok (.invokevirtual 178, 3) := dq_632.2.1
theorem dX11_text_89 : decode cX11_text 89 = .ok (.iinc 1 1, 3) := dq_632.2.2.1
theorem dX11_text_92 : decode cX11_text 92 = .ok (.goto (-21), 3) := dq_632.2.2.2.1
theorem dX11_text_95 : decode cX11_text 95 = .ok (.aload_n 0, 1) := dq_632.2.2.2.2.1
theorem dX11_text_96 : decode cX11_text 96 = .ok (.iconst 0, 1) := dq_632.2.2.2.2.2.1
theorem dX11_text_97 : decode cX11_text 97 = .ok (.putfield 93, 3) := dq_632.2.2.2.2.2.2.1
theorem dX11_text_100 : decode cX11_text 100 = .ok (.aload_n 0, 1) := dq_632.2.2.2.2.2.2.2.1
theorem dX11_text_101 : decode cX11_text 101 = .ok (.aload_n 0, 1) := dq_632.2.2.2.2.2.2.2.2.1
theorem dX11_text_102 : decode cX11_text 102 = .ok (.getfield 100, 3) := dq_632.2.2.2.2.2.2.2.2.2.1
theorem dX11_text_105 : decode cX11_text 105 = .ok (.putfield 181, 3) := dq_632.2.2.2.2.2.2.2.2.2.2.1
theorem dX11_text_108 : decode cX11_text 108 = .ok (.aload_n 0, 1) := dq_632.2.2.2.2.2.2.2.2.2.2.2
theorem dq_633 : decode cX11_text 109 = .ok (.getfield 100, 3) ∧ decode cX11_text 112 = .ok (.ifCond .le 11, 3) ∧ decode cX11_text 115 = .ok (.bipush (-10), 2) ∧ decode cX11_text 117 = .ok (.aload_n 0, 1) ∧ decode cX11_text 118 = .ok (.getfield 106, 3) ∧ decode cX11_text 121 = .ok (.isub, 1) ∧ decode cX11_text 122 = .ok (.ireturn, 1) ∧ decode cX11_text 123 = .ok (.aload_n 0, 1) ∧ decode cX11_text 124 = .ok (.aload_n 0, 1) ∧ decode cX11_text 125 = .ok (.getfield 134, 3) ∧ decode cX11_text 128 = .ok (.putfield 184, 3) ∧ decode cX11_text 131 = .ok (.aload_n 0, 1) := by decide +kernel
theorem dX11_text_109 : decode cX11_text 109 = .ok (.getfield 100, 3) := dq_633.1
theorem dX11_text_112 : decode cX11_text 112 = .ok (.ifCond .le 11, 3) := dq_633.2.1
theorem dX11_text_115 : decode cX11_text 115 = .ok (.bipush (-10), 2) := dq_633.2.2.1
theorem dX11_text_117 : decode cX11_text 117 = .ok (.aload_n 0, 1) := dq_633.2.2.2.1
theorem dX11_text_118 : decode cX11_text 118 = .ok (.getfield 106, 3) := dq_633.2.2.2.2.1
theorem dX11_text_121 : decode cX11_text 121 = .ok (.isub, 1) := dq_633.2.2.2.2.2.1
theorem dX11_text_122 : decode cX11_text 122 = .ok (.ireturn, 1) := dq_633.2.2.2.2.2.2.1
theorem dX11_text_123 : decode cX11_text 123 = .ok (.aload_n 0, 1) := dq_633.2.2.2.2.2.2.2.1
theorem dX11_text_124 : decode cX11_text 124 = .ok (.aload_n 0, 1) := dq_633.2.2.2.2.2.2.2.2.1
theorem dX11_text_125 : decode cX11_text 125 = .ok (.getfield 134, 3) := dq_633.2.2.2.2.2.2.2.2.2.1
theorem dX11_text_128 : decode cX11_text 128 = .ok (.putfield 184, 3) := dq_633.2.2.2.2.2.2.2.2.2.2.1
theorem dX11_text_131 : decode cX11_text 131 = .ok (.aload_n 0, 1) := dq_633.2.2.2.2.2.2.2.2.2.2.2
theorem dq_634 : decode cX11_text 132 = .ok (.aload_n 0, 1) ∧ decode cX11_text 133 = .ok (.getfield 149, 3) ∧ decode cX11_text 136 = .ok (.putfield 187, 3) ∧ decode cX11_text 139 = .ok (.aload_n 0, 1) ∧ decode cX11_text 140 = .ok (.aload_n 0, 1) ∧ decode cX11_text 141 = .ok (.getfield 169, 3) ∧ decode cX11_text 144 = .ok (.putfield 31, 3) ∧ decode cX11_text 147 = .ok (.iconst 0, 1) ∧ decode cX11_text 148 = .ok (.istore_n 2, 1) ∧ decode cX11_text 149 = .ok (.iload_n 2, 1) ∧ decode cX11_text 150 = .ok (.aload_n 0, 1) ∧ decode cX11_text 151 = .ok (.getfield 184, 3) := by decide +kernel
theorem dX11_text_132 : decode cX11_text 132 = .ok (.aload_n 0, 1) := dq_634.1
theorem dX11_text_133 : decode cX11_text 133 = .ok (.getfield 149, 3) := dq_634.2.1
theorem dX11_text_136 : decode cX11_text 136 = .ok (.putfield 187, 3) := dq_634.2.2.1
theorem dX11_text_139 : decode cX11_text 139 = .ok (.aload_n 0, 1) := dq_634.2.2.2.1
theorem dX11_text_140 : decode cX11_text 140 = .ok (.aload_n 0, 1) := dq_634.2.2.2.2.1
theorem dX11_text_141 : decode cX11_text 141 = .ok (.getfield 169, 3) := dq_634.2.2.2.2.2.1
theorem dX11_text_144 : decode cX11_text 144 = .ok (.putfield 31, 3) := dq_634.2.2.2.2.2.2.1
theorem dX11_text_147 : decode cX11_text 147 = .ok (.iconst 0, 1) := dq_634.2.2.2.2.2.2.2.1
theorem dX11_text_148 : decode cX11_text 148 = .ok (.istore_n 2, 1) := dq_634.2.2.2.2.2.2.2.2.1
theorem dX11_text_149 : decode cX11_text 149 = .ok (.iload_n 2, 1) := dq_634.2.2.2.2.2.2.2.2.2.1
theorem dX11_text_150 : decode cX11_text 150 = .ok (.aload_n 0, 1) := dq_634.2.2.2.2.2.2.2.2.2.2.1
theorem dX11_text_151 : decode cX11_text 151 = .ok (.getfield 184, 3) := dq_634.2.2.2.2.2.2.2.2.2.2.2
theorem dq_635 : decode cX11_text 154 = .ok (.if_icmp .ge 45, 3) ∧ decode cX11_text 157 = .ok (.aload_n 0, 1) ∧ decode cX11_text 158 = .ok (.getfield 19, 3) ∧ decode cX11_text 161 = .ok (.iload_n 2, 1) ∧ decode cX11_text 162 = .ok (.aload_n 0, 1) ∧ decode cX11_text 163 = .ok (.getfield 41, 3) ∧ decode cX11_text 166 = .ok (.iload_n 2, 1) ∧ decode cX11_text 167 = .ok (.iaload, 1) ∧ decode cX11_text 168 = .ok (.iastore, 1) ∧ decode cX11_text 169 = .ok (.aload_n 0, 1) ∧ decode cX11_text 170 = .ok (.getfield 22, 3) ∧ decode cX11_text 173 = .ok (.iload_n 2, 1) := by decide +kernel
theorem dX11_text_154 : decode cX11_text 154 = .ok (.if_icmp .ge 45, 3) := dq_635.1
theorem dX11_text_157 : decode cX11_text 157 = .ok (.aload_n 0, 1) := dq_635.2.1
theorem dX11_text_158 : decode cX11_text 158 = .ok (.getfield 19, 3) := dq_635.2.2.1
theorem dX11_text_161 : decode cX11_text 161 = .ok (.iload_n 2, 1) := dq_635.2.2.2.1
theorem dX11_text_162 : decode cX11_text 162 = .ok (.aload_n 0, 1) := dq_635.2.2.2.2.1
theorem dX11_text_163 : decode cX11_text 163 = .ok (.getfield 41, 3) := dq_635.2.2.2.2.2.1
theorem dX11_text_166 : decode cX11_text 166 = .ok (.iload_n 2, 1) := dq_635.2.2.2.2.2.2.1
theorem dX11_text_167 : decode cX11_text 167 = .ok (.iaload, 1) := dq_635.2.2.2.2.2.2.2.1
theorem dX11_text_168 : decode cX11_text 168 = .ok (.iastore, 1) := dq_635.2.2.2.2.2.2.2.2.1
theorem dX11_text_169 : decode cX11_text 169 = .ok (.aload_n 0, 1) := dq_635.2.2.2.2.2.2.2.2.2.1
theorem dX11_text_170 : decode cX11_text 170 = .ok (.getfield 22, 3) := dq_635.2.2.2.2.2.2.2.2.2.2.1
theorem dX11_text_173 : decode cX11_text 173 = .ok (.iload_n 2, 1) := dq_635.2.2.2.2.2.2.2.2.2.2.2
theorem dq_636 : decode cX11_text 174 = .ok (.aload_n 0, 1) ∧ decode cX11_text 175 = .ok (.getfield 44, 3) ∧ decode cX11_text 178 = .ok (.iload_n 2, 1) ∧ decode cX11_text 179 = .ok (.iaload, 1) ∧ decode cX11_text 180 = .ok (.iastore, 1) ∧ decode cX11_text 181 = .ok (.aload_n 0, 1) ∧ decode cX11_text 182 = .ok (.getfield 25, 3) ∧ decode cX11_text 185 = .ok (.iload_n 2, 1) ∧ decode cX11_text 186 = .ok (.aload_n 0, 1) ∧ decode cX11_text 187 = .ok (.getfield 47, 3) ∧ decode cX11_text 190 = .ok (.iload_n 2, 1) ∧ decode cX11_text 191 = .ok (.iaload, 1) := by decide +kernel
theorem dX11_text_174 : decode cX11_text 174 = .ok (.aload_n 0, 1) := dq_636.1
theorem dX11_text_175 : decode cX11_text 175 = .ok (.getfield 44, 3) := dq_636.2.1
theorem dX11_text_178 : decode cX11_text 178 = .ok (.iload_n 2, 1) := dq_636.2.2.1
theorem dX11_text_179 : decode cX11_text 179 = .ok (.iaload, 1) := dq_636.2.2.2.1
theorem dX11_text_180 : decode cX11_text 180 = .ok (.iastore, 1) := dq_636.2.2.2.2.1
theorem dX11_text_181 : decode cX11_text 181 = .ok (.aload_n 0, 1) := dq_636.2.2.2.2.2.1
theorem dX11_text_182 : decode cX11_text 182 = .ok (.getfield 25, 3) := dq_636.2.2.2.2.2.2.1
theorem dX11_text_185 : decode cX11_text 185 = .ok (.iload_n 2, 1) := dq_636.2.2.2.2.2.2.2.1
theorem dX11_text_186 : decode cX11_text 186 = .ok (.aload_n 0, 1) := dq_636.2.2.2.2.2.2.2.2.1
theorem dX11_text_187 : decode cX11_text 187 = .ok (.getfield 47, 3) := dq_636.2.2.2.2.2.2.2.2.2.1
theorem dX11_text_190 : decode cX11_text 190 = .ok (.iload_n 2, 1) := dq_636.2.2.2.2.2.2.2.2.2.2.1
theorem dX11_text_191 : decode cX11_text 191 = .ok (.iaload, 1) := dq_636.2.2.2.2.2.2.2.2.2.2.2
theorem dq_637 : decode cX11_text 192 = .ok (.iastore, 1) ∧ decode cX11_text 193 = .ok (.iinc 2 1, 3) ∧ decode cX11_text 196 = .ok (.goto (-47), 3) ∧ decode cX11_text 199 = .ok (.iconst 0, 1) ∧ decode cX11_text 200 = .ok (.istore_n 2, 1) ∧ decode cX11_text 201 = .ok (.iload_n 2, 1) ∧ decode cX11_text 202 = .ok (.bipush 64, 2) ∧ decode cX11_text 204 = .ok (.if_icmp .ge 21, 3) ∧ decode cX11_text 207 = .ok (.aload_n 0, 1) ∧ decode cX11_text 208 = .ok (.getfield 28, 3) ∧ decode cX11_text 211 = .ok (.iload_n 2, 1) ∧ decode cX11_text 212 = .ok (.aload_n 0, 1) := by decide +kernel
theorem dX11_text_192 : decode cX11_text 192 = .ok (.iastore, 1) := dq_637.1
theorem dX11_text_193 : decode cX11_text 193 = .ok (.iinc 2 1, 3) := dq_637.2.1
theorem dX11_text_196 : decode cX11_text 196 = .ok (.goto (-47), 3) := dq_637.2.2.1
theorem dX11_text_199 : decode cX11_text 199 = .ok (.iconst 0, 1) := dq_637.2.2.2.1
theorem dX11_text_200 : decode cX11_text 200 = .ok (.istore_n 2, 1) := dq_637.2.2.2.2.1
theorem dX11_text_201 : decode cX11_text 201 = .ok (.iload_n 2, 1) := dq_637.2.2.2.2.2.1
theorem dX11_text_202 : decode cX11_text 202 = .ok (.bipush 64, 2) := dq_637.2.2.2.2.2.2.1
theorem dX11_text_204 : decode cX11_text 204 = .ok (.if_icmp .ge 21, 3) := dq_637.2.2.2.2.2.2.2.1
theorem dX11_text_207 : decode cX11_text 207 = .ok (.aload_n 0, 1) := dq_637.2.2.2.2.2.2.2.2.1
theorem dX11_text_208 : decode cX11_text 208 = .ok (.getfield 28, 3) := dq_637.2.2.2.2.2.2.2.2.2.1
theorem dX11_text_211 : decode cX11_text 211 = .ok (.iload_n 2, 1) := dq_637.2.2.2.2.2.2.2.2.2.2.1
theorem dX11_text_212 : decode cX11_text 212 = .ok (.aload_n 0, 1) := dq_637.2.2.2.2.2.2.2.2.2.2.2
theorem dq_638 : decode cX11_text 213 = .ok (.getfield 53, 3) ∧ decode cX11_text 216 = .ok (.iload_n 2, 1) ∧ decode cX11_text 217 = .ok (.iaload, 1) ∧ decode cX11_text 218 = .ok (.iastore, 1) ∧ decode cX11_text 219 = .ok (.iinc 2 1, 3) ∧ decode cX11_text 222 = .ok (.goto (-21), 3) ∧ decode cX11_text 225 = .ok (.iconst 0, 1) ∧ decode cX11_text 226 = .ok (.istore_n 2, 1) ∧ decode cX11_text 227 = .ok (.iload_n 2, 1) ∧ decode cX11_text 228 = .ok (.bipush 6, 2) ∧ decode cX11_text 230 = .ok (.if_icmp .ge 33, 3) ∧ decode cX11_text 233 = .ok (.aload_n 0, 1) := by decide +kernel
theorem dX11_text_213 : decode cX11_text 213 = .ok (.getfield 53, 3) := dq_638.1
theorem dX11_text_216 : decode cX11_text 216 = .ok (.iload_n 2, 1) := dq_638.2.1
theorem dX11_text_217 : decode cX11_text 217 = .ok (.iaload, 1) := dq_638.2.2.1
theorem dX11_text_218 : decode cX11_text 218 = .ok (.iastore, 1) := dq_638.2.2.2.1
theorem dX11_text_219 : decode cX11_text 219 = .ok (.iinc 2 1, 3) := dq_638.2.2.2.2.1
theorem dX11_text_222 : decode cX11_text 222 = .ok (.goto (-21), 3) := dq_638.2.2.2.2.2.1
theorem dX11_text_225 : decode cX11_text 225 = .ok (.iconst 0, 1) := dq_638.2.2.2.2.2.2.1
theorem dX11_text_226 : decode cX11_text 226 = .ok (.istore_n 2, 1) := dq_638.2.2.2.2.2.2.2.1
theorem dX11_text_227 : decode cX11_text 227 = .ok (.iload_n 2, 1) := dq_638.2.2.2.2.2.2.2.2.1
theorem dX11_text_228 : decode cX11_text 228 = .ok (.bipush 6, 2) := dq_638.2.2.2.2.2.2.2.2.2.1
theorem dX11_text_230 : decode cX11_text 230 = .ok (.if_icmp .ge 33, 3) := dq_638.2.2.2.2.2.2.2.2.2.2.1
theorem dX11_text_233 : decode cX11_text 233 = .ok (.aload_n 0, 1) := dq_638.2.2.2.2.2.2.2.2.2.2.2
theorem dq_639 : decode cX11_text 234 = .ok (.getfield 35, 3) ∧ decode cX11_text 237 = .ok (.iload_n 2, 1) ∧ decode cX11_text 238 = .ok (.aload_n 0, 1) ∧ decode cX11_text 239 = .ok (.getfield 56, 3) ∧ decode cX11_text 242 = .ok (.iload_n 2, 1) ∧ decode cX11_text 243 = .ok (.iaload, 1) ∧ decode cX11_text 244 = .ok (.iastore, 1) ∧ decode cX11_text 245 = .ok (.aload_n 0, 1) ∧ decode cX11_text 246 = .ok (.getfield 38, 3) ∧ decode cX11_text 249 = .ok (.iload_n 2, 1) ∧ decode cX11_text 250 = .ok (.aload_n 0, 1) ∧ decode cX11_text 251 = .ok (.getfield 59, 3) := by decide +kernel
theorem dX11_text_234 : decode cX11_text 234 = .ok (.getfield 35, 3) := dq_639.1
theorem dX11_text_237 : decode cX11_text 237 = .ok (.iload_n 2, 1) := dq_639.2.1
theorem dX11_text_238 : decode cX11_text 238 = .ok (.aload_n 0, 1) := dq_639.2.2.1
theorem dX11_text_239 : decode cX11_text 239 = .ok (.getfield 56, 3) := dq_639.2.2.2.1
theorem dX11_text_242 : decode cX11_text 242 = .ok (.iload_n 2, 1) := dq_639.2.2.2.2.1
theorem dX11_text_243 : decode cX11_text 243 = .ok (.iaload, 1) := dq_639.2.2.2.2.2.1
theorem dX11_text_244 : decode cX11_text 244 = .ok (.iastore, 1) := dq_639.2.2.2.2.2.2.1
theorem dX11_text_245 : decode cX11_text 245 = .ok (.aload_n 0, 1) := dq_639.2.2.2.2.2.2.2.1
theorem dX11_text_246 : decode cX11_text 246 = .ok (.getfield 38, 3) := dq_639.2.2.2.2.2.2.2.2.1
theorem dX11_text_249 : decode cX11_text 249 = .ok (.iload_n 2, 1) := dq_639.2.2.2.2.2.2.2.2.2.1
theorem dX11_text_250 : decode cX11_text 250 = .ok (.aload_n 0, 1) := dq_639.2.2.2.2.2.2.2.2.2.2.1
theorem dX11_text_251 : decode cX11_text 251 = .ok (.getfield 59, 3) := dq_639.2.2.2.2.2.2.2.2.2.2.2
theorem dq_640 : decode cX11_text 254 = .ok (.iload_n 2, 1) ∧ decode cX11_text 255 = .ok (.iaload, 1) ∧ decode cX11_text 256 = .ok (.iastore, 1) ∧ decode cX11_text 257 = .ok (.iinc 2 1, 3) ∧ decode cX11_text 260 = .ok (.goto (-33), 3) ∧ decode cX11_text 263 = .ok (.iload_n 1, 1) ∧ decode cX11_text 264 = .ok (.ireturn, 1) := by decide +kernel
theorem dX11_text_254 : decode cX11_text 254 = .ok (.iload_n 2, 1) := dq_640.1
theorem dX11_text_255 : decode cX11_text 255 = .ok (.iaload, 1) := dq_640.2.1
theorem dX11_text_256 : decode cX11_text 256 = .ok (.iastore, 1) := dq_640.2.2.1
theorem dX11_text_257 : decode cX11_text 257 = .ok (.iinc 2 1, 3) := dq_640.2.2.2.1
theorem dX11_text_260 : decode cX11_text 260 = .ok (.goto (-33), 3) := dq_640.2.2.2.2.1
theorem dX11_text_263 : decode cX11_text 263 = .ok (.iload_n 1, 1) := dq_640.2.2.2.2.2.1
theorem dX11_text_264 : decode cX11_text 264 = .ok (.ireturn, 1) := dq_640.2.2.2.2.2.2
theorem dq_641 : decode cX11_fault 0 = .ok (.aload_n 0, 1) ∧ decode cX11_fault 1 = .ok (.getfield 181, 3) ∧ decode cX11_fault 4 = .ok (.ireturn, 1) := by decide +kernel
theorem dX11_fault_0 : decode cX11_fault 0 = .ok (.aload_n 0, 1) := dq_641.1
theorem dX11_fault_1 : decode cX11_fault 1 = .ok (.getfield 181, 3) := dq_641.2.1
theorem dX11_fault_4 : decode cX11_fault 4 = .ok (.ireturn, 1) := dq_641.2.2
theorem dq_642 : decode cX11_isColour 0 = .ok (.iload_n 0, 1) ∧ decode cX11_isColour 1 = .ok (.i2l, 1) ∧ decode cX11_isColour 2 = .ok (.lconst 0, 1) ∧ decode cX11_isColour 3 = .ok (.ldc2_w 144, 3) ∧ decode cX11_isColour 6 = .ok (.invokestatic 96, 3) ∧ decode cX11_isColour 9 = .ok (.ireturn, 1) := by decide +kernel
theorem dX11_isColour_0 : decode cX11_isColour 0 = .ok (.iload_n 0, 1) := dq_642.1
theorem dX11_isColour_1 : decode cX11_isColour 1 = .ok (.i2l, 1) := dq_642.2.1
theorem dX11_isColour_2 : decode cX11_isColour 2 = .ok (.lconst 0, 1) := dq_642.2.2.1
theorem dX11_isColour_3 : decode cX11_isColour 3 = .ok (.ldc2_w 144, 3) := dq_642.2.2.2.1
theorem dX11_isColour_6 : decode cX11_isColour 6 = .ok (.invokestatic 96, 3) := dq_642.2.2.2.2.1
theorem dX11_isColour_9 : decode cX11_isColour 9 = .ok (.ireturn, 1) := dq_642.2.2.2.2.2
theorem dq_643 : decode cX11_told 0 = .ok (.iload_n 1, 1) ∧ decode cX11_told 1 = .ok (.ifCond .ne 10, 3) ∧ decode cX11_told 4 = .ok (.aload_n 0, 1) ∧ decode cX11_told 5 = .ok (.getfield 184, 3) ∧ decode cX11_told 8 = .ok (.goto 72, 3) ∧ decode cX11_told 11 = .ok (.iload_n 1, 1) ∧ decode cX11_told 12 = .ok (.iconst 1, 1) ∧ decode cX11_told 13 = .ok (.if_icmp .ne 10, 3) ∧ decode cX11_told 16 = .ok (.aload_n 0, 1) ∧ decode cX11_told 17 = .ok (.getfield 187, 3) ∧ decode cX11_told 20 = .ok (.goto 60, 3) ∧ decode cX11_told 23 = .ok (.iload_n 1, 1) := by decide +kernel
theorem dX11_told_0 : decode cX11_told 0 = .ok (.iload_n 1, 1) := dq_643.1
theorem dX11_told_1 : decode cX11_told 1 = .ok (.ifCond .ne 10, 3) := dq_643.2.1
theorem dX11_told_4 : decode cX11_told 4 = .ok (.aload_n 0, 1) := dq_643.2.2.1
theorem dX11_told_5 : decode cX11_told 5 = .ok (.getfield 184, 3) := dq_643.2.2.2.1
theorem dX11_told_8 : decode cX11_told 8 = .ok (.goto 72, 3) := dq_643.2.2.2.2.1
theorem dX11_told_11 : decode cX11_told 11 = .ok (.iload_n 1, 1) := dq_643.2.2.2.2.2.1
theorem dX11_told_12 : decode cX11_told 12 = .ok (.iconst 1, 1) := dq_643.2.2.2.2.2.2.1
theorem dX11_told_13 : decode cX11_told 13 = .ok (.if_icmp .ne 10, 3) := dq_643.2.2.2.2.2.2.2.1
theorem dX11_told_16 : decode cX11_told 16 = .ok (.aload_n 0, 1) := dq_643.2.2.2.2.2.2.2.2.1
theorem dX11_told_17 : decode cX11_told 17 = .ok (.getfield 187, 3) := dq_643.2.2.2.2.2.2.2.2.2.1
theorem dX11_told_20 : decode cX11_told 20 = .ok (.goto 60, 3) := dq_643.2.2.2.2.2.2.2.2.2.2.1
theorem dX11_told_23 : decode cX11_told 23 = .ok (.iload_n 1, 1) := dq_643.2.2.2.2.2.2.2.2.2.2.2
theorem dq_644 : decode cX11_told 24 = .ok (.iconst 2, 1) ∧ decode cX11_told 25 = .ok (.if_icmp .ne 10, 3) ∧ decode cX11_told 28 = .ok (.aload_n 0, 1) ∧ decode cX11_told 29 = .ok (.getfield 31, 3) ∧ decode cX11_told 32 = .ok (.goto 48, 3) ∧ decode cX11_told 35 = .ok (.iload_n 1, 1) ∧ decode cX11_told 36 = .ok (.bipush 10, 2) ∧ decode cX11_told 38 = .ok (.isub, 1) ∧ decode cX11_told 39 = .ok (.invokestatic 190, 3) ∧ decode cX11_told 42 = .ok (.ifCond .eq 15, 3) ∧ decode cX11_told 45 = .ok (.aload_n 0, 1) ∧ decode cX11_told 46 = .ok (.getfield 35, 3) := by decide +kernel
theorem dX11_told_24 : decode cX11_told 24 = .ok (.iconst 2, 1) := dq_644.1
theorem dX11_told_25 : decode cX11_told 25 = .ok (.if_icmp .ne 10, 3) := dq_644.2.1
theorem dX11_told_28 : decode cX11_told 28 = .ok (.aload_n 0, 1) := dq_644.2.2.1
theorem dX11_told_29 : decode cX11_told 29 = .ok (.getfield 31, 3) := dq_644.2.2.2.1
theorem dX11_told_32 : decode cX11_told 32 = .ok (.goto 48, 3) := dq_644.2.2.2.2.1
theorem dX11_told_35 : decode cX11_told 35 = .ok (.iload_n 1, 1) := dq_644.2.2.2.2.2.1
theorem dX11_told_36 : decode cX11_told 36 = .ok (.bipush 10, 2) := dq_644.2.2.2.2.2.2.1
theorem dX11_told_38 : decode cX11_told 38 = .ok (.isub, 1) := dq_644.2.2.2.2.2.2.2.1
theorem dX11_told_39 : decode cX11_told 39 = .ok (.invokestatic 190, 3) := dq_644.2.2.2.2.2.2.2.2.1
theorem dX11_told_42 : decode cX11_told 42 = .ok (.ifCond .eq 15, 3) := dq_644.2.2.2.2.2.2.2.2.2.1
theorem dX11_told_45 : decode cX11_told 45 = .ok (.aload_n 0, 1) := dq_644.2.2.2.2.2.2.2.2.2.2.1
theorem dX11_told_46 : decode cX11_told 46 = .ok (.getfield 35, 3) := dq_644.2.2.2.2.2.2.2.2.2.2.2
theorem dq_645 : decode cX11_told 49 = .ok (.iload_n 1, 1) ∧ decode cX11_told 50 = .ok (.bipush 10, 2) ∧ decode cX11_told 52 = .ok (.isub, 1) ∧ decode cX11_told 53 = .ok (.iaload, 1) ∧ decode cX11_told 54 = .ok (.goto 26, 3) ∧ decode cX11_told 57 = .ok (.iload_n 1, 1) ∧ decode cX11_told 58 = .ok (.bipush 20, 2) ∧ decode cX11_told 60 = .ok (.isub, 1) ∧ decode cX11_told 61 = .ok (.invokestatic 190, 3) ∧ decode cX11_told 64 = .ok (.ifCond .eq 15, 3) ∧ decode cX11_told 67 = .ok (.aload_n 0, 1) ∧ decode cX11_told 68 = .ok (.getfield 38, 3) := by decide +kernel
theorem dX11_told_49 : decode cX11_told 49 = .ok (.iload_n 1, 1) := dq_645.1
theorem dX11_told_50 : decode cX11_told 50 = .ok (.bipush 10, 2) := dq_645.2.1
theorem dX11_told_52 : decode cX11_told 52 = .ok (.isub, 1) := dq_645.2.2.1
theorem dX11_told_53 : decode cX11_told 53 = .ok (.iaload, 1) := dq_645.2.2.2.1
theorem dX11_told_54 : decode cX11_told 54 = .ok (.goto 26, 3) := dq_645.2.2.2.2.1
theorem dX11_told_57 : decode cX11_told 57 = .ok (.iload_n 1, 1) := dq_645.2.2.2.2.2.1
theorem dX11_told_58 : decode cX11_told 58 = .ok (.bipush 20, 2) := dq_645.2.2.2.2.2.2.1
theorem dX11_told_60 : decode cX11_told 60 = .ok (.isub, 1) := dq_645.2.2.2.2.2.2.2.1
theorem dX11_told_61 : decode cX11_told 61 = .ok (.invokestatic 190, 3) := dq_645.2.2.2.2.2.2.2.2.1
theorem dX11_told_64 : decode cX11_told 64 = .ok (.ifCond .eq 15, 3) := dq_645.2.2.2.2.2.2.2.2.2.1
theorem dX11_told_67 : decode cX11_told 67 = .ok (.aload_n 0, 1) := dq_645.2.2.2.2.2.2.2.2.2.2.1
theorem dX11_told_68 : decode cX11_told 68 = .ok (.getfield 38, 3) := dq_645.2.2.2.2.2.2.2.2.2.2.2
theorem dq_646 : decode cX11_told 71 = .ok (.iload_n 1, 1) ∧ decode cX11_told 72 = .ok (.bipush 20, 2) ∧ decode cX11_told 74 = .ok (.isub, 1) ∧ decode cX11_told 75 = .ok (.iaload, 1) ∧ decode cX11_told 76 = .ok (.goto 4, 3) ∧ decode cX11_told 79 = .ok (.iconst (-1), 1) ∧ decode cX11_told 80 = .ok (.ireturn, 1) := by decide +kernel
theorem dX11_told_71 : decode cX11_told 71 = .ok (.iload_n 1, 1) := dq_646.1
theorem dX11_told_72 : decode cX11_told 72 = .ok (.bipush 20, 2) := dq_646.2.1
theorem dX11_told_74 : decode cX11_told 74 = .ok (.isub, 1) := dq_646.2.2.1
theorem dX11_told_75 : decode cX11_told 75 = .ok (.iaload, 1) := dq_646.2.2.2.1
theorem dX11_told_76 : decode cX11_told 76 = .ok (.goto 4, 3) := dq_646.2.2.2.2.1
theorem dX11_told_79 : decode cX11_told 79 = .ok (.iconst (-1), 1) := dq_646.2.2.2.2.2.1
theorem dX11_told_80 : decode cX11_told 80 = .ok (.ireturn, 1) := dq_646.2.2.2.2.2.2
theorem dq_647 : decode cX11_isThing 0 = .ok (.iload_n 1, 1) ∧ decode cX11_isThing 1 = .ok (.i2l, 1) ∧ decode cX11_isThing 2 = .ok (.lconst 0, 1) ∧ decode cX11_isThing 3 = .ok (.aload_n 0, 1) ∧ decode cX11_isThing 4 = .ok (.getfield 184, 3) ∧ decode cX11_isThing 7 = .ok (.iconst 1, 1) ∧ decode cX11_isThing 8 = .ok (.isub, 1) ∧ decode cX11_isThing 9 = .ok (.i2l, 1) ∧ decode cX11_isThing 10 = .ok (.invokestatic 96, 3) ∧ decode cX11_isThing 13 = .ok (.ireturn, 1) := by decide +kernel
theorem dX11_isThing_0 : decode cX11_isThing 0 = .ok (.iload_n 1, 1) := dq_647.1
theorem dX11_isThing_1 : decode cX11_isThing 1 = .ok (.i2l, 1) := dq_647.2.1
theorem dX11_isThing_2 : decode cX11_isThing 2 = .ok (.lconst 0, 1) := dq_647.2.2.1
theorem dX11_isThing_3 : decode cX11_isThing 3 = .ok (.aload_n 0, 1) := dq_647.2.2.2.1
theorem dX11_isThing_4 : decode cX11_isThing 4 = .ok (.getfield 184, 3) := dq_647.2.2.2.2.1
theorem dX11_isThing_7 : decode cX11_isThing 7 = .ok (.iconst 1, 1) := dq_647.2.2.2.2.2.1
theorem dX11_isThing_8 : decode cX11_isThing 8 = .ok (.isub, 1) := dq_647.2.2.2.2.2.2.1
theorem dX11_isThing_9 : decode cX11_isThing 9 = .ok (.i2l, 1) := dq_647.2.2.2.2.2.2.2.1
theorem dX11_isThing_10 : decode cX11_isThing 10 = .ok (.invokestatic 96, 3) := dq_647.2.2.2.2.2.2.2.2.1
theorem dX11_isThing_13 : decode cX11_isThing 13 = .ok (.ireturn, 1) := dq_647.2.2.2.2.2.2.2.2.2
theorem dq_648 : decode cX11_layBefore 0 = .ok (.iconst 0, 1) ∧ decode cX11_layBefore 1 = .ok (.istore_n 1, 1) ∧ decode cX11_layBefore 2 = .ok (.iload_n 1, 1) ∧ decode cX11_layBefore 3 = .ok (.aload_n 0, 1) ∧ decode cX11_layBefore 4 = .ok (.getfield 184, 3) ∧ decode cX11_layBefore 7 = .ok (.if_icmp .ge 21, 3) ∧ decode cX11_layBefore 10 = .ok (.aload_n 0, 1) ∧ decode cX11_layBefore 11 = .ok (.getfield 62, 3) ∧ decode cX11_layBefore 14 = .ok (.iload_n 1, 1) ∧ decode cX11_layBefore 15 = .ok (.aload_n 0, 1) ∧ decode cX11_layBefore 16 = .ok (.getfield 25, 3) ∧ decode cX11_layBefore 19 = .ok (.iload_n 1, 1) := by decide +kernel
theorem dX11_layBefore_0 : decode cX11_layBefore 0 = .ok (.iconst 0, 1) := dq_648.1
theorem dX11_layBefore_1 : decode cX11_layBefore 1 = .ok (.istore_n 1, 1) := dq_648.2.1
theorem dX11_layBefore_2 : decode cX11_layBefore 2 = .ok (.iload_n 1, 1) := dq_648.2.2.1
theorem dX11_layBefore_3 : decode cX11_layBefore 3 = .ok (.aload_n 0, 1) := dq_648.2.2.2.1
theorem dX11_layBefore_4 : decode cX11_layBefore 4 = .ok (.getfield 184, 3) := dq_648.2.2.2.2.1
theorem dX11_layBefore_7 : decode cX11_layBefore 7 = .ok (.if_icmp .ge 21, 3) := dq_648.2.2.2.2.2.1
theorem dX11_layBefore_10 : decode cX11_layBefore 10 = .ok (.aload_n 0, 1) := dq_648.2.2.2.2.2.2.1
theorem dX11_layBefore_11 : decode cX11_layBefore 11 = .ok (.getfield 62, 3) := dq_648.2.2.2.2.2.2.2.1
theorem dX11_layBefore_14 : decode cX11_layBefore 14 = .ok (.iload_n 1, 1) := dq_648.2.2.2.2.2.2.2.2.1
theorem dX11_layBefore_15 : decode cX11_layBefore 15 = .ok (.aload_n 0, 1) := dq_648.2.2.2.2.2.2.2.2.2.1
theorem dX11_layBefore_16 : decode cX11_layBefore 16 = .ok (.getfield 25, 3) := dq_648.2.2.2.2.2.2.2.2.2.2.1
theorem dX11_layBefore_19 : decode cX11_layBefore 19 = .ok (.iload_n 1, 1) := dq_648.2.2.2.2.2.2.2.2.2.2.2
theorem dq_649 : decode cX11_layBefore 20 = .ok (.iaload, 1) ∧ decode cX11_layBefore 21 = .ok (.iastore, 1) ∧ decode cX11_layBefore 22 = .ok (.iinc 1 1, 3) ∧ decode cX11_layBefore 25 = .ok (.goto (-23), 3) ∧ decode cX11_layBefore 28 = .ok (.iconst 0, 1) ∧ decode cX11_layBefore 29 = .ok (.istore_n 1, 1) ∧ decode cX11_layBefore 30 = .ok (.iload_n 1, 1) ∧ decode cX11_layBefore 31 = .ok (.aload_n 0, 1) ∧ decode cX11_layBefore 32 = .ok (.getfield 184, 3) ∧ decode cX11_layBefore 35 = .ok (.if_icmp .ge 58, 3) ∧ decode cX11_layBefore 38 = .ok (.iconst 0, 1) ∧ decode cX11_layBefore 39 = .ok (.istore_n 2, 1) := by decide +kernel
theorem dX11_layBefore_20 : decode cX11_layBefore 20 = .ok (.iaload, 1) := dq_649.1
theorem dX11_layBefore_21 : decode cX11_layBefore 21 = .ok (.iastore, 1) := dq_649.2.1
theorem dX11_layBefore_22 : decode cX11_layBefore 22 = .ok (.iinc 1 1, 3) := dq_649.2.2.1
theorem dX11_layBefore_25 : decode cX11_layBefore 25 = .ok (.goto (-23), 3) := dq_649.2.2.2.1
theorem dX11_layBefore_28 : decode cX11_layBefore 28 = .ok (.iconst 0, 1) := dq_649.2.2.2.2.1
theorem dX11_layBefore_29 : decode cX11_layBefore 29 = .ok (.istore_n 1, 1) := dq_649.2.2.2.2.2.1
theorem dX11_layBefore_30 : decode cX11_layBefore 30 = .ok (.iload_n 1, 1) := dq_649.2.2.2.2.2.2.1
theorem dX11_layBefore_31 : decode cX11_layBefore 31 = .ok (.aload_n 0, 1) := dq_649.2.2.2.2.2.2.2.1
theorem dX11_layBefore_32 : decode cX11_layBefore 32 = .ok (.getfield 184, 3) := dq_649.2.2.2.2.2.2.2.2.1
theorem dX11_layBefore_35 : decode cX11_layBefore 35 = .ok (.if_icmp .ge 58, 3) := dq_649.2.2.2.2.2.2.2.2.2.1
theorem dX11_layBefore_38 : decode cX11_layBefore 38 = .ok (.iconst 0, 1) := dq_649.2.2.2.2.2.2.2.2.2.2.1
theorem dX11_layBefore_39 : decode cX11_layBefore 39 = .ok (.istore_n 2, 1) := dq_649.2.2.2.2.2.2.2.2.2.2.2
theorem dq_650 : decode cX11_layBefore 40 = .ok (.iload_n 2, 1) ∧ decode cX11_layBefore 41 = .ok (.aload_n 0, 1) ∧ decode cX11_layBefore 42 = .ok (.getfield 184, 3) ∧ decode cX11_layBefore 45 = .ok (.if_icmp .ge 42, 3) ∧ decode cX11_layBefore 48 = .ok (.aload_n 0, 1) ∧ decode cX11_layBefore 49 = .ok (.getfield 62, 3) ∧ decode cX11_layBefore 52 = .ok (.iload_n 2, 1) ∧ decode cX11_layBefore 53 = .ok (.dup2, 1) ∧ decode cX11_layBefore 54 = .ok (.iaload, 1) ∧ decode cX11_layBefore 55 = .ok (.aload_n 0, 1) ∧ decode cX11_layBefore 56 = .ok (.getfield 62, 3) ∧ decode cX11_layBefore 59 = .ok (.iload_n 2, 1) := by decide +kernel
theorem dX11_layBefore_40 : decode cX11_layBefore 40 = .ok (.iload_n 2, 1) := dq_650.1
theorem dX11_layBefore_41 : decode cX11_layBefore 41 = .ok (.aload_n 0, 1) := dq_650.2.1
theorem dX11_layBefore_42 : decode cX11_layBefore 42 = .ok (.getfield 184, 3) := dq_650.2.2.1
theorem dX11_layBefore_45 : decode cX11_layBefore 45 = .ok (.if_icmp .ge 42, 3) := dq_650.2.2.2.1
theorem dX11_layBefore_48 : decode cX11_layBefore 48 = .ok (.aload_n 0, 1) := dq_650.2.2.2.2.1
theorem dX11_layBefore_49 : decode cX11_layBefore 49 = .ok (.getfield 62, 3) := dq_650.2.2.2.2.2.1
theorem dX11_layBefore_52 : decode cX11_layBefore 52 = .ok (.iload_n 2, 1) := dq_650.2.2.2.2.2.2.1
theorem dX11_layBefore_53 : decode cX11_layBefore 53 = .ok (.dup2, 1) := dq_650.2.2.2.2.2.2.2.1
theorem dX11_layBefore_54 : decode cX11_layBefore 54 = .ok (.iaload, 1) := dq_650.2.2.2.2.2.2.2.2.1
theorem dX11_layBefore_55 : decode cX11_layBefore 55 = .ok (.aload_n 0, 1) := dq_650.2.2.2.2.2.2.2.2.2.1
theorem dX11_layBefore_56 : decode cX11_layBefore 56 = .ok (.getfield 62, 3) := dq_650.2.2.2.2.2.2.2.2.2.2.1
theorem dX11_layBefore_59 : decode cX11_layBefore 59 = .ok (.iload_n 2, 1) := dq_650.2.2.2.2.2.2.2.2.2.2.2
theorem dq_651 : decode cX11_layBefore 60 = .ok (.iaload, 1) ∧ decode cX11_layBefore 61 = .ok (.iload_n 1, 1) ∧ decode cX11_layBefore 62 = .ok (.ishr, 1) ∧ decode cX11_layBefore 63 = .ok (.iconst 1, 1) ∧ decode cX11_layBefore 64 = .ok (.iand, 1) ∧ decode cX11_layBefore 65 = .ok (.iconst 1, 1) ∧ decode cX11_layBefore 66 = .ok (.if_icmp .ne 12, 3) ∧ decode cX11_layBefore 69 = .ok (.aload_n 0, 1) ∧ decode cX11_layBefore 70 = .ok (.getfield 62, 3) ∧ decode cX11_layBefore 73 = .ok (.iload_n 1, 1) ∧ decode cX11_layBefore 74 = .ok (.iaload, 1) ∧ decode cX11_layBefore 75 = .ok (.goto 4, 3) := by decide +kernel
theorem dX11_layBefore_60 : decode cX11_layBefore 60 = .ok (.iaload, 1) := dq_651.1
theorem dX11_layBefore_61 : decode cX11_layBefore 61 = .ok (.iload_n 1, 1) := dq_651.2.1
theorem dX11_layBefore_62 : decode cX11_layBefore 62 = .ok (.ishr, 1) := dq_651.2.2.1
theorem dX11_layBefore_63 : decode cX11_layBefore 63 = .ok (.iconst 1, 1) := dq_651.2.2.2.1
theorem dX11_layBefore_64 : decode cX11_layBefore 64 = .ok (.iand, 1) := dq_651.2.2.2.2.1
theorem dX11_layBefore_65 : decode cX11_layBefore 65 = .ok (.iconst 1, 1) := dq_651.2.2.2.2.2.1
theorem dX11_layBefore_66 : decode cX11_layBefore 66 = .ok (.if_icmp .ne 12, 3) := dq_651.2.2.2.2.2.2.1
theorem dX11_layBefore_69 : decode cX11_layBefore 69 = .ok (.aload_n 0, 1) := dq_651.2.2.2.2.2.2.2.1
theorem dX11_layBefore_70 : decode cX11_layBefore 70 = .ok (.getfield 62, 3) := dq_651.2.2.2.2.2.2.2.2.1
theorem dX11_layBefore_73 : decode cX11_layBefore 73 = .ok (.iload_n 1, 1) := dq_651.2.2.2.2.2.2.2.2.2.1
theorem dX11_layBefore_74 : decode cX11_layBefore 74 = .ok (.iaload, 1) := dq_651.2.2.2.2.2.2.2.2.2.2.1
theorem dX11_layBefore_75 : decode cX11_layBefore 75 = .ok (.goto 4, 3) := dq_651.2.2.2.2.2.2.2.2.2.2.2
theorem dq_652 : decode cX11_layBefore 78 = .ok (.iconst 0, 1) ∧ decode cX11_layBefore 79 = .ok (.ior, 1) ∧ decode cX11_layBefore 80 = .ok (.iastore, 1) ∧ decode cX11_layBefore 81 = .ok (.iinc 2 1, 3) ∧ decode cX11_layBefore 84 = .ok (.goto (-44), 3) ∧ decode cX11_layBefore 87 = .ok (.iinc 1 1, 3) ∧ decode cX11_layBefore 90 = .ok (.goto (-60), 3) ∧ decode cX11_layBefore 93 = .ok (.return_, 1) := by decide +kernel
theorem dX11_layBefore_78 : decode cX11_layBefore 78 = .ok (.iconst 0, 1) := dq_652.1
theorem dX11_layBefore_79 : decode cX11_layBefore 79 = .ok (.ior, 1) := dq_652.2.1
theorem dX11_layBefore_80 : decode cX11_layBefore 80 = .ok (.iastore, 1) := dq_652.2.2.1
theorem dX11_layBefore_81 : decode cX11_layBefore 81 = .ok (.iinc 2 1, 3) := dq_652.2.2.2.1
theorem dX11_layBefore_84 : decode cX11_layBefore 84 = .ok (.goto (-44), 3) := dq_652.2.2.2.2.1
theorem dX11_layBefore_87 : decode cX11_layBefore 87 = .ok (.iinc 1 1, 3) := dq_652.2.2.2.2.2.1
theorem dX11_layBefore_90 : decode cX11_layBefore 90 = .ok (.goto (-60), 3) := dq_652.2.2.2.2.2.2.1
theorem dX11_layBefore_93 : decode cX11_layBefore 93 = .ok (.return_, 1) := dq_652.2.2.2.2.2.2.2
theorem dq_653 : decode cX11_ringed 0 = .ok (.iconst 0, 1) ∧ decode cX11_ringed 1 = .ok (.istore_n 1, 1) ∧ decode cX11_ringed 2 = .ok (.iconst 0, 1) ∧ decode cX11_ringed 3 = .ok (.istore_n 2, 1) ∧ decode cX11_ringed 4 = .ok (.iload_n 2, 1) ∧ decode cX11_ringed 5 = .ok (.aload_n 0, 1) ∧ decode cX11_ringed 6 = .ok (.getfield 184, 3) ∧ decode cX11_ringed 9 = .ok (.if_icmp .ge 22, 3) ∧ decode cX11_ringed 12 = .ok (.iload_n 1, 1) ∧ decode cX11_ringed 13 = .ok (.aload_n 0, 1) ∧ decode cX11_ringed 14 = .ok (.getfield 62, 3) ∧ decode cX11_ringed 17 = .ok (.iload_n 2, 1) := by decide +kernel
theorem dX11_ringed_0 : decode cX11_ringed 0 = .ok (.iconst 0, 1) := dq_653.1
theorem dX11_ringed_1 : decode cX11_ringed 1 = .ok (.istore_n 1, 1) := dq_653.2.1
theorem dX11_ringed_2 : decode cX11_ringed 2 = .ok (.iconst 0, 1) := dq_653.2.2.1
theorem dX11_ringed_3 : decode cX11_ringed 3 = .ok (.istore_n 2, 1) := dq_653.2.2.2.1
theorem dX11_ringed_4 : decode cX11_ringed 4 = .ok (.iload_n 2, 1) := dq_653.2.2.2.2.1
theorem dX11_ringed_5 : decode cX11_ringed 5 = .ok (.aload_n 0, 1) := dq_653.2.2.2.2.2.1
theorem dX11_ringed_6 : decode cX11_ringed 6 = .ok (.getfield 184, 3) := dq_653.2.2.2.2.2.2.1
theorem dX11_ringed_9 : decode cX11_ringed 9 = .ok (.if_icmp .ge 22, 3) := dq_653.2.2.2.2.2.2.2.1
theorem dX11_ringed_12 : decode cX11_ringed 12 = .ok (.iload_n 1, 1) := dq_653.2.2.2.2.2.2.2.2.1
theorem dX11_ringed_13 : decode cX11_ringed 13 = .ok (.aload_n 0, 1) := dq_653.2.2.2.2.2.2.2.2.2.1
theorem dX11_ringed_14 : decode cX11_ringed 14 = .ok (.getfield 62, 3) := dq_653.2.2.2.2.2.2.2.2.2.2.1
theorem dX11_ringed_17 : decode cX11_ringed 17 = .ok (.iload_n 2, 1) := dq_653.2.2.2.2.2.2.2.2.2.2.2
theorem dq_654 : decode cX11_ringed 18 = .ok (.iaload, 1) ∧ decode cX11_ringed 19 = .ok (.iconst 1, 1) ∧ decode cX11_ringed 20 = .ok (.iload_n 2, 1) ∧ decode cX11_ringed 21 = .ok (.ishl, 1) ∧ decode cX11_ringed 22 = .ok (.iand, 1) ∧ decode cX11_ringed 23 = .ok (.ior, 1) ∧ decode cX11_ringed 24 = .ok (.istore_n 1, 1) ∧ decode cX11_ringed 25 = .ok (.iinc 2 1, 3) ∧ decode cX11_ringed 28 = .ok (.goto (-24), 3) ∧ decode cX11_ringed 31 = .ok (.iload_n 1, 1) ∧ decode cX11_ringed 32 = .ok (.ireturn, 1) := by decide +kernel
theorem dX11_ringed_18 : decode cX11_ringed 18 = .ok (.iaload, 1) := dq_654.1
theorem dX11_ringed_19 : decode cX11_ringed 19 = .ok (.iconst 1, 1) := dq_654.2.1
theorem dX11_ringed_20 : decode cX11_ringed 20 = .ok (.iload_n 2, 1) := dq_654.2.2.1
theorem dX11_ringed_21 : decode cX11_ringed 21 = .ok (.ishl, 1) := dq_654.2.2.2.1
theorem dX11_ringed_22 : decode cX11_ringed 22 = .ok (.iand, 1) := dq_654.2.2.2.2.1
theorem dX11_ringed_23 : decode cX11_ringed 23 = .ok (.ior, 1) := dq_654.2.2.2.2.2.1
theorem dX11_ringed_24 : decode cX11_ringed 24 = .ok (.istore_n 1, 1) := dq_654.2.2.2.2.2.2.1
theorem dX11_ringed_25 : decode cX11_ringed 25 = .ok (.iinc 2 1, 3) := dq_654.2.2.2.2.2.2.2.1
theorem dX11_ringed_28 : decode cX11_ringed 28 = .ok (.goto (-24), 3) := dq_654.2.2.2.2.2.2.2.2.1
theorem dX11_ringed_31 : decode cX11_ringed 31 = .ok (.iload_n 1, 1) := dq_654.2.2.2.2.2.2.2.2.2.1
theorem dX11_ringed_32 : decode cX11_ringed 32 = .ok (.ireturn, 1) := dq_654.2.2.2.2.2.2.2.2.2.2
theorem dq_655 : decode cX11_thing 0 = .ok (.aload_n 0, 1) ∧ decode cX11_thing 1 = .ok (.iload_n 1, 1) ∧ decode cX11_thing 2 = .ok (.invokevirtual 194, 3) ∧ decode cX11_thing 5 = .ok (.ifCond .eq 15, 3) ∧ decode cX11_thing 8 = .ok (.iload_n 2, 1) ∧ decode cX11_thing 9 = .ok (.i2l, 1) ∧ decode cX11_thing 10 = .ok (.lconst 0, 1) ∧ decode cX11_thing 11 = .ok (.ldc2_w 197, 3) ∧ decode cX11_thing 14 = .ok (.invokestatic 96, 3) ∧ decode cX11_thing 17 = .ok (.ifCond .ne 5, 3) ∧ decode cX11_thing 20 = .ok (.iconst (-1), 1) ∧ decode cX11_thing 21 = .ok (.ireturn, 1) := by decide +kernel
theorem dX11_thing_0 : decode cX11_thing 0 = .ok (.aload_n 0, 1) := dq_655.1
theorem dX11_thing_1 : decode cX11_thing 1 = .ok (.iload_n 1, 1) := dq_655.2.1
theorem dX11_thing_2 : decode cX11_thing 2 = .ok (.invokevirtual 194, 3) := dq_655.2.2.1
theorem dX11_thing_5 : decode cX11_thing 5 = .ok (.ifCond .eq 15, 3) := dq_655.2.2.2.1
theorem dX11_thing_8 : decode cX11_thing 8 = .ok (.iload_n 2, 1) := dq_655.2.2.2.2.1
theorem dX11_thing_9 : decode cX11_thing 9 = .ok (.i2l, 1) := dq_655.2.2.2.2.2.1
theorem dX11_thing_10 : decode cX11_thing 10 = .ok (.lconst 0, 1) := dq_655.2.2.2.2.2.2.1
theorem dX11_thing_11 : decode cX11_thing 11 = .ok (.ldc2_w 197, 3) := dq_655.2.2.2.2.2.2.2.1
theorem dX11_thing_14 : decode cX11_thing 14 = .ok (.invokestatic 96, 3) := dq_655.2.2.2.2.2.2.2.2.1
theorem dX11_thing_17 : decode cX11_thing 17 = .ok (.ifCond .ne 5, 3) := dq_655.2.2.2.2.2.2.2.2.2.1
theorem dX11_thing_20 : decode cX11_thing 20 = .ok (.iconst (-1), 1) := dq_655.2.2.2.2.2.2.2.2.2.2.1
theorem dX11_thing_21 : decode cX11_thing 21 = .ok (.ireturn, 1) := dq_655.2.2.2.2.2.2.2.2.2.2.2
theorem dq_656 : decode cX11_thing 22 = .ok (.aload_n 0, 1) ∧ decode cX11_thing 23 = .ok (.invokevirtual 199, 3) ∧ decode cX11_thing 26 = .ok (.iload_n 2, 1) ∧ decode cX11_thing 27 = .ok (.ifCond .ne 12, 3) ∧ decode cX11_thing 30 = .ok (.aload_n 0, 1) ∧ decode cX11_thing 31 = .ok (.getfield 19, 3) ∧ decode cX11_thing 34 = .ok (.iload_n 1, 1) ∧ decode cX11_thing 35 = .ok (.iaload, 1) ∧ decode cX11_thing 36 = .ok (.goto 37, 3) ∧ decode cX11_thing 39 = .ok (.iload_n 2, 1) ∧ decode cX11_thing 40 = .ok (.iconst 1, 1) ∧ decode cX11_thing 41 = .ok (.if_icmp .ne 12, 3) := by decide +kernel
theorem dX11_thing_22 : decode cX11_thing 22 = .ok (.aload_n 0, 1) := dq_656.1
theorem dX11_thing_23 : decode cX11_thing 23 = .ok (.invokevirtual 199, 3) := dq_656.2.1
theorem dX11_thing_26 : decode cX11_thing 26 = .ok (.iload_n 2, 1) := dq_656.2.2.1
theorem dX11_thing_27 : decode cX11_thing 27 = .ok (.ifCond .ne 12, 3) := dq_656.2.2.2.1
theorem dX11_thing_30 : decode cX11_thing 30 = .ok (.aload_n 0, 1) := dq_656.2.2.2.2.1
theorem dX11_thing_31 : decode cX11_thing 31 = .ok (.getfield 19, 3) := dq_656.2.2.2.2.2.1
theorem dX11_thing_34 : decode cX11_thing 34 = .ok (.iload_n 1, 1) := dq_656.2.2.2.2.2.2.1
theorem dX11_thing_35 : decode cX11_thing 35 = .ok (.iaload, 1) := dq_656.2.2.2.2.2.2.2.1
theorem dX11_thing_36 : decode cX11_thing 36 = .ok (.goto 37, 3) := dq_656.2.2.2.2.2.2.2.2.1
theorem dX11_thing_39 : decode cX11_thing 39 = .ok (.iload_n 2, 1) := dq_656.2.2.2.2.2.2.2.2.2.1
theorem dX11_thing_40 : decode cX11_thing 40 = .ok (.iconst 1, 1) := dq_656.2.2.2.2.2.2.2.2.2.2.1
theorem dX11_thing_41 : decode cX11_thing 41 = .ok (.if_icmp .ne 12, 3) := dq_656.2.2.2.2.2.2.2.2.2.2.2
theorem dq_657 : decode cX11_thing 44 = .ok (.aload_n 0, 1) ∧ decode cX11_thing 45 = .ok (.getfield 22, 3) ∧ decode cX11_thing 48 = .ok (.iload_n 1, 1) ∧ decode cX11_thing 49 = .ok (.iaload, 1) ∧ decode cX11_thing 50 = .ok (.goto 23, 3) ∧ decode cX11_thing 53 = .ok (.iload_n 2, 1) ∧ decode cX11_thing 54 = .ok (.iconst 2, 1) ∧ decode cX11_thing 55 = .ok (.if_icmp .ne 12, 3) ∧ decode cX11_thing 58 = .ok (.aload_n 0, 1) ∧ decode cX11_thing 59 = .ok (.getfield 25, 3) ∧ decode cX11_thing 62 = .ok (.iload_n 1, 1) ∧ decode cX11_thing 63 = .ok (.iaload, 1) := by decide +kernel
theorem dX11_thing_44 : decode cX11_thing 44 = .ok (.aload_n 0, 1) := dq_657.1
theorem dX11_thing_45 : decode cX11_thing 45 = .ok (.getfield 22, 3) := dq_657.2.1
theorem dX11_thing_48 : decode cX11_thing 48 = .ok (.iload_n 1, 1) := dq_657.2.2.1
theorem dX11_thing_49 : decode cX11_thing 49 = .ok (.iaload, 1) := dq_657.2.2.2.1
theorem dX11_thing_50 : decode cX11_thing 50 = .ok (.goto 23, 3) := dq_657.2.2.2.2.1
theorem dX11_thing_53 : decode cX11_thing 53 = .ok (.iload_n 2, 1) := dq_657.2.2.2.2.2.1
theorem dX11_thing_54 : decode cX11_thing 54 = .ok (.iconst 2, 1) := dq_657.2.2.2.2.2.2.1
theorem dX11_thing_55 : decode cX11_thing 55 = .ok (.if_icmp .ne 12, 3) := dq_657.2.2.2.2.2.2.2.1
theorem dX11_thing_58 : decode cX11_thing 58 = .ok (.aload_n 0, 1) := dq_657.2.2.2.2.2.2.2.2.1
theorem dX11_thing_59 : decode cX11_thing 59 = .ok (.getfield 25, 3) := dq_657.2.2.2.2.2.2.2.2.2.1
theorem dX11_thing_62 : decode cX11_thing 62 = .ok (.iload_n 1, 1) := dq_657.2.2.2.2.2.2.2.2.2.2.1
theorem dX11_thing_63 : decode cX11_thing 63 = .ok (.iaload, 1) := dq_657.2.2.2.2.2.2.2.2.2.2.2
theorem dq_658 : decode cX11_thing 64 = .ok (.goto 9, 3) ∧ decode cX11_thing 67 = .ok (.aload_n 0, 1) ∧ decode cX11_thing 68 = .ok (.getfield 62, 3) ∧ decode cX11_thing 71 = .ok (.iload_n 1, 1) ∧ decode cX11_thing 72 = .ok (.iaload, 1) ∧ decode cX11_thing 73 = .ok (.ireturn, 1) := by decide +kernel
theorem dX11_thing_64 : decode cX11_thing 64 = .ok (.goto 9, 3) := dq_658.1
theorem dX11_thing_67 : decode cX11_thing 67 = .ok (.aload_n 0, 1) := dq_658.2.1
theorem dX11_thing_68 : decode cX11_thing 68 = .ok (.getfield 62, 3) := dq_658.2.2.1
theorem dX11_thing_71 : decode cX11_thing 71 = .ok (.iload_n 1, 1) := dq_658.2.2.2.1
theorem dX11_thing_72 : decode cX11_thing 72 = .ok (.iaload, 1) := dq_658.2.2.2.2.1
theorem dX11_thing_73 : decode cX11_thing 73 = .ok (.ireturn, 1) := dq_658.2.2.2.2.2
theorem dq_659 : decode cX11_ahead 0 = .ok (.aload_n 0, 1) ∧ decode cX11_ahead 1 = .ok (.iload_n 1, 1) ∧ decode cX11_ahead 2 = .ok (.invokevirtual 194, 3) ∧ decode cX11_ahead 5 = .ok (.ifCond .eq 16, 3) ∧ decode cX11_ahead 8 = .ok (.aload_n 0, 1) ∧ decode cX11_ahead 9 = .ok (.iload_n 2, 1) ∧ decode cX11_ahead 10 = .ok (.invokevirtual 194, 3) ∧ decode cX11_ahead 13 = .ok (.ifCond .eq 8, 3) ∧ decode cX11_ahead 16 = .ok (.iload_n 1, 1) ∧ decode cX11_ahead 17 = .ok (.iload_n 2, 1) ∧ decode cX11_ahead 18 = .ok (.if_icmp .ne 5, 3) ∧ decode cX11_ahead 21 = .ok (.iconst (-1), 1) := by decide +kernel
theorem dX11_ahead_0 : decode cX11_ahead 0 = .ok (.aload_n 0, 1) := dq_659.1
theorem dX11_ahead_1 : decode cX11_ahead 1 = .ok (.iload_n 1, 1) := dq_659.2.1
theorem dX11_ahead_2 : decode cX11_ahead 2 = .ok (.invokevirtual 194, 3) := dq_659.2.2.1
theorem dX11_ahead_5 : decode cX11_ahead 5 = .ok (.ifCond .eq 16, 3) := dq_659.2.2.2.1
theorem dX11_ahead_8 : decode cX11_ahead 8 = .ok (.aload_n 0, 1) := dq_659.2.2.2.2.1
theorem dX11_ahead_9 : decode cX11_ahead 9 = .ok (.iload_n 2, 1) := dq_659.2.2.2.2.2.1
theorem dX11_ahead_10 : decode cX11_ahead 10 = .ok (.invokevirtual 194, 3) := dq_659.2.2.2.2.2.2.1
theorem dX11_ahead_13 : decode cX11_ahead 13 = .ok (.ifCond .eq 8, 3) := dq_659.2.2.2.2.2.2.2.1
theorem dX11_ahead_16 : decode cX11_ahead 16 = .ok (.iload_n 1, 1) := dq_659.2.2.2.2.2.2.2.2.1
theorem dX11_ahead_17 : decode cX11_ahead 17 = .ok (.iload_n 2, 1) := dq_659.2.2.2.2.2.2.2.2.2.1
theorem dX11_ahead_18 : decode cX11_ahead 18 = .ok (.if_icmp .ne 5, 3) := dq_659.2.2.2.2.2.2.2.2.2.2.1
theorem dX11_ahead_21 : decode cX11_ahead 21 = .ok (.iconst (-1), 1) := dq_659.2.2.2.2.2.2.2.2.2.2.2
theorem dq_660 : decode cX11_ahead 22 = .ok (.ireturn, 1) ∧ decode cX11_ahead 23 = .ok (.aload_n 0, 1) ∧ decode cX11_ahead 24 = .ok (.invokevirtual 199, 3) ∧ decode cX11_ahead 27 = .ok (.aload_n 0, 1) ∧ decode cX11_ahead 28 = .ok (.getfield 62, 3) ∧ decode cX11_ahead 31 = .ok (.iload_n 2, 1) ∧ decode cX11_ahead 32 = .ok (.iaload, 1) ∧ decode cX11_ahead 33 = .ok (.iload_n 1, 1) ∧ decode cX11_ahead 34 = .ok (.ishr, 1) ∧ decode cX11_ahead 35 = .ok (.iconst 1, 1) ∧ decode cX11_ahead 36 = .ok (.iand, 1) ∧ decode cX11_ahead 37 = .ok (.ireturn, 1) := by decide +kernel
theorem dX11_ahead_22 : decode cX11_ahead 22 = .ok (.ireturn, 1) := dq_660.1
theorem dX11_ahead_23 : decode cX11_ahead 23 = .ok (.aload_n 0, 1) := dq_660.2.1
theorem dX11_ahead_24 : decode cX11_ahead 24 = .ok (.invokevirtual 199, 3) := dq_660.2.2.1
theorem dX11_ahead_27 : decode cX11_ahead 27 = .ok (.aload_n 0, 1) := dq_660.2.2.2.1
theorem dX11_ahead_28 : decode cX11_ahead 28 = .ok (.getfield 62, 3) := dq_660.2.2.2.2.1
theorem dX11_ahead_31 : decode cX11_ahead 31 = .ok (.iload_n 2, 1) := dq_660.2.2.2.2.2.1
theorem dX11_ahead_32 : decode cX11_ahead 32 = .ok (.iaload, 1) := dq_660.2.2.2.2.2.2.1
theorem dX11_ahead_33 : decode cX11_ahead 33 = .ok (.iload_n 1, 1) := dq_660.2.2.2.2.2.2.2.1
theorem dX11_ahead_34 : decode cX11_ahead 34 = .ok (.ishr, 1) := dq_660.2.2.2.2.2.2.2.2.1
theorem dX11_ahead_35 : decode cX11_ahead 35 = .ok (.iconst 1, 1) := dq_660.2.2.2.2.2.2.2.2.2.1
theorem dX11_ahead_36 : decode cX11_ahead 36 = .ok (.iand, 1) := dq_660.2.2.2.2.2.2.2.2.2.2.1
theorem dX11_ahead_37 : decode cX11_ahead 37 = .ok (.ireturn, 1) := dq_660.2.2.2.2.2.2.2.2.2.2.2
theorem dq_661 : decode cX11_ringOf 0 = .ok (.aload_n 0, 1) ∧ decode cX11_ringOf 1 = .ok (.getfield 25, 3) ∧ decode cX11_ringOf 4 = .ok (.iload_n 1, 1) ∧ decode cX11_ringOf 5 = .ok (.iaload, 1) ∧ decode cX11_ringOf 6 = .ok (.istore_n 2, 1) ∧ decode cX11_ringOf 7 = .ok (.iconst 1, 1) ∧ decode cX11_ringOf 8 = .ok (.istore_n 3, 1) ∧ decode cX11_ringOf 9 = .ok (.iload_n 3, 1) ∧ decode cX11_ringOf 10 = .ok (.aload_n 0, 1) ∧ decode cX11_ringOf 11 = .ok (.getfield 184, 3) ∧ decode cX11_ringOf 14 = .ok (.if_icmp .gt 70, 3) ∧ decode cX11_ringOf 17 = .ok (.iload_n 2, 1) := by decide +kernel
theorem dX11_ringOf_0 : decode cX11_ringOf 0 = .ok (.aload_n 0, 1) := dq_661.1
theorem dX11_ringOf_1 : decode cX11_ringOf 1 = .ok (.getfield 25, 3) := dq_661.2.1
theorem dX11_ringOf_4 : decode cX11_ringOf 4 = .ok (.iload_n 1, 1) := dq_661.2.2.1
theorem dX11_ringOf_5 : decode cX11_ringOf 5 = .ok (.iaload, 1) := dq_661.2.2.2.1
theorem dX11_ringOf_6 : decode cX11_ringOf 6 = .ok (.istore_n 2, 1) := dq_661.2.2.2.2.1
theorem dX11_ringOf_7 : decode cX11_ringOf 7 = .ok (.iconst 1, 1) := dq_661.2.2.2.2.2.1
theorem dX11_ringOf_8 : decode cX11_ringOf 8 = .ok (.istore_n 3, 1) := dq_661.2.2.2.2.2.2.1
theorem dX11_ringOf_9 : decode cX11_ringOf 9 = .ok (.iload_n 3, 1) := dq_661.2.2.2.2.2.2.2.1
theorem dX11_ringOf_10 : decode cX11_ringOf 10 = .ok (.aload_n 0, 1) := dq_661.2.2.2.2.2.2.2.2.1
theorem dX11_ringOf_11 : decode cX11_ringOf 11 = .ok (.getfield 184, 3) := dq_661.2.2.2.2.2.2.2.2.2.1
theorem dX11_ringOf_14 : decode cX11_ringOf 14 = .ok (.if_icmp .gt 70, 3) := dq_661.2.2.2.2.2.2.2.2.2.2.1
theorem dX11_ringOf_17 : decode cX11_ringOf 17 = .ok (.iload_n 2, 1) := dq_661.2.2.2.2.2.2.2.2.2.2.2
theorem dq_662 : decode cX11_ringOf 18 = .ok (.iload_n 1, 1) ∧ decode cX11_ringOf 19 = .ok (.ishr, 1) ∧ decode cX11_ringOf 20 = .ok (.iconst 1, 1) ∧ decode cX11_ringOf 21 = .ok (.iand, 1) ∧ decode cX11_ringOf 22 = .ok (.iconst 1, 1) ∧ decode cX11_ringOf 23 = .ok (.if_icmp .ne 5, 3) ∧ decode cX11_ringOf 26 = .ok (.iload_n 3, 1) ∧ decode cX11_ringOf 27 = .ok (.ireturn, 1) ∧ decode cX11_ringOf 28 = .ok (.iconst 0, 1) ∧ decode cX11_ringOf 29 = .ok (.istore 4, 2) ∧ decode cX11_ringOf 31 = .ok (.iconst 0, 1) ∧ decode cX11_ringOf 32 = .ok (.istore 5, 2) := by decide +kernel
theorem dX11_ringOf_18 : decode cX11_ringOf 18 = .ok (.iload_n 1, 1) := dq_662.1
theorem dX11_ringOf_19 : decode cX11_ringOf 19 = .ok (.ishr, 1) := dq_662.2.1
theorem dX11_ringOf_20 : decode cX11_ringOf 20 = .ok (.iconst 1, 1) := dq_662.2.2.1
theorem dX11_ringOf_21 : decode cX11_ringOf 21 = .ok (.iand, 1) := dq_662.2.2.2.1
theorem dX11_ringOf_22 : decode cX11_ringOf 22 = .ok (.iconst 1, 1) := dq_662.2.2.2.2.1
theorem dX11_ringOf_23 : decode cX11_ringOf 23 = .ok (.if_icmp .ne 5, 3) := dq_662.2.2.2.2.2.1
theorem dX11_ringOf_26 : decode cX11_ringOf 26 = .ok (.iload_n 3, 1) := dq_662.2.2.2.2.2.2.1
theorem dX11_ringOf_27 : decode cX11_ringOf 27 = .ok (.ireturn, 1) := dq_662.2.2.2.2.2.2.2.1
theorem dX11_ringOf_28 : decode cX11_ringOf 28 = .ok (.iconst 0, 1) := dq_662.2.2.2.2.2.2.2.2.1
theorem dX11_ringOf_29 : decode cX11_ringOf 29 = .ok (.istore 4, 2) := dq_662.2.2.2.2.2.2.2.2.2.1
theorem dX11_ringOf_31 : decode cX11_ringOf 31 = .ok (.iconst 0, 1) := dq_662.2.2.2.2.2.2.2.2.2.2.1
theorem dX11_ringOf_32 : decode cX11_ringOf 32 = .ok (.istore 5, 2) := dq_662.2.2.2.2.2.2.2.2.2.2.2
theorem dq_663 : decode cX11_ringOf 34 = .ok (.iload 5, 2) ∧ decode cX11_ringOf 36 = .ok (.aload_n 0, 1) ∧ decode cX11_ringOf 37 = .ok (.getfield 184, 3) ∧ decode cX11_ringOf 40 = .ok (.if_icmp .ge 35, 3) ∧ decode cX11_ringOf 43 = .ok (.iload 4, 2) ∧ decode cX11_ringOf 45 = .ok (.iload_n 2, 1) ∧ decode cX11_ringOf 46 = .ok (.iload 5, 2) ∧ decode cX11_ringOf 48 = .ok (.ishr, 1) ∧ decode cX11_ringOf 49 = .ok (.iconst 1, 1) ∧ decode cX11_ringOf 50 = .ok (.iand, 1) ∧ decode cX11_ringOf 51 = .ok (.iconst 1, 1) ∧ decode cX11_ringOf 52 = .ok (.if_icmp .ne 13, 3) := by decide +kernel
theorem dX11_ringOf_34 : decode cX11_ringOf 34 = .ok (.iload 5, 2) := dq_663.1
theorem dX11_ringOf_36 : decode cX11_ringOf 36 = .ok (.aload_n 0, 1) := dq_663.2.1
theorem dX11_ringOf_37 : decode cX11_ringOf 37 = .ok (.getfield 184, 3) := dq_663.2.2.1
theorem dX11_ringOf_40 : decode cX11_ringOf 40 = .ok (.if_icmp .ge 35, 3) := dq_663.2.2.2.1
theorem dX11_ringOf_43 : decode cX11_ringOf 43 = .ok (.iload 4, 2) := dq_663.2.2.2.2.1
theorem dX11_ringOf_45 : decode cX11_ringOf 45 = .ok (.iload_n 2, 1) := dq_663.2.2.2.2.2.1
theorem dX11_ringOf_46 : decode cX11_ringOf 46 = .ok (.iload 5, 2) := dq_663.2.2.2.2.2.2.1
theorem dX11_ringOf_48 : decode cX11_ringOf 48 = .ok (.ishr, 1) := dq_663.2.2.2.2.2.2.2.1
theorem dX11_ringOf_49 : decode cX11_ringOf 49 = .ok (.iconst 1, 1) := dq_663.2.2.2.2.2.2.2.2.1
theorem dX11_ringOf_50 : decode cX11_ringOf 50 = .ok (.iand, 1) := dq_663.2.2.2.2.2.2.2.2.2.1
theorem dX11_ringOf_51 : decode cX11_ringOf 51 = .ok (.iconst 1, 1) := dq_663.2.2.2.2.2.2.2.2.2.2.1
theorem dX11_ringOf_52 : decode cX11_ringOf 52 = .ok (.if_icmp .ne 13, 3) := dq_663.2.2.2.2.2.2.2.2.2.2.2
theorem dq_664 : decode cX11_ringOf 55 = .ok (.aload_n 0, 1) ∧ decode cX11_ringOf 56 = .ok (.getfield 25, 3) ∧ decode cX11_ringOf 59 = .ok (.iload 5, 2) ∧ decode cX11_ringOf 61 = .ok (.iaload, 1) ∧ decode cX11_ringOf 62 = .ok (.goto 4, 3) ∧ decode cX11_ringOf 65 = .ok (.iconst 0, 1) ∧ decode cX11_ringOf 66 = .ok (.ior, 1) ∧ decode cX11_ringOf 67 = .ok (.istore 4, 2) ∧ decode cX11_ringOf 69 = .ok (.iinc 5 1, 3) ∧ decode cX11_ringOf 72 = .ok (.goto (-38), 3) ∧ decode cX11_ringOf 75 = .ok (.iload 4, 2) ∧ decode cX11_ringOf 77 = .ok (.istore_n 2, 1) := by decide +kernel
theorem dX11_ringOf_55 : decode cX11_ringOf 55 = .ok (.aload_n 0, 1) := dq_664.1
theorem dX11_ringOf_56 : decode cX11_ringOf 56 = .ok (.getfield 25, 3) := dq_664.2.1
theorem dX11_ringOf_59 : decode cX11_ringOf 59 = .ok (.iload 5, 2) := dq_664.2.2.1
theorem dX11_ringOf_61 : decode cX11_ringOf 61 = .ok (.iaload, 1) := dq_664.2.2.2.1
theorem dX11_ringOf_62 : decode cX11_ringOf 62 = .ok (.goto 4, 3) := dq_664.2.2.2.2.1
theorem dX11_ringOf_65 : decode cX11_ringOf 65 = .ok (.iconst 0, 1) := dq_664.2.2.2.2.2.1
theorem dX11_ringOf_66 : decode cX11_ringOf 66 = .ok (.ior, 1) := dq_664.2.2.2.2.2.2.1
theorem dX11_ringOf_67 : decode cX11_ringOf 67 = .ok (.istore 4, 2) := dq_664.2.2.2.2.2.2.2.1
theorem dX11_ringOf_69 : decode cX11_ringOf 69 = .ok (.iinc 5 1, 3) := dq_664.2.2.2.2.2.2.2.2.1
theorem dX11_ringOf_72 : decode cX11_ringOf 72 = .ok (.goto (-38), 3) := dq_664.2.2.2.2.2.2.2.2.2.1
theorem dX11_ringOf_75 : decode cX11_ringOf 75 = .ok (.iload 4, 2) := dq_664.2.2.2.2.2.2.2.2.2.2.1
theorem dX11_ringOf_77 : decode cX11_ringOf 77 = .ok (.istore_n 2, 1) := dq_664.2.2.2.2.2.2.2.2.2.2.2
theorem dq_665 : decode cX11_ringOf 78 = .ok (.iinc 3 1, 3) ∧ decode cX11_ringOf 81 = .ok (.goto (-72), 3) ∧ decode cX11_ringOf 84 = .ok (.iconst 0, 1) ∧ decode cX11_ringOf 85 = .ok (.ireturn, 1) := by decide +kernel
theorem dX11_ringOf_78 : decode cX11_ringOf 78 = .ok (.iinc 3 1, 3) := dq_665.1
theorem dX11_ringOf_81 : decode cX11_ringOf 81 = .ok (.goto (-72), 3) := dq_665.2.1
theorem dX11_ringOf_84 : decode cX11_ringOf 84 = .ok (.iconst 0, 1) := dq_665.2.2.1
theorem dX11_ringOf_85 : decode cX11_ringOf 85 = .ok (.ireturn, 1) := dq_665.2.2.2
theorem dq_666 : decode cX11_rings 0 = .ok (.iload_n 1, 1) ∧ decode cX11_rings 1 = .ok (.i2l, 1) ∧ decode cX11_rings 2 = .ok (.lconst 0, 1) ∧ decode cX11_rings 3 = .ok (.lconst 1, 1) ∧ decode cX11_rings 4 = .ok (.invokestatic 96, 3) ∧ decode cX11_rings 7 = .ok (.ifCond .ne 5, 3) ∧ decode cX11_rings 10 = .ok (.iconst (-1), 1) ∧ decode cX11_rings 11 = .ok (.ireturn, 1) ∧ decode cX11_rings 12 = .ok (.aload_n 0, 1) ∧ decode cX11_rings 13 = .ok (.invokevirtual 199, 3) ∧ decode cX11_rings 16 = .ok (.iload_n 1, 1) ∧ decode cX11_rings 17 = .ok (.ifCond .ne 8, 3) := by decide +kernel
theorem dX11_rings_0 : decode cX11_rings 0 = .ok (.iload_n 1, 1) := dq_666.1
theorem dX11_rings_1 : decode cX11_rings 1 = .ok (.i2l, 1) := dq_666.2.1
theorem dX11_rings_2 : decode cX11_rings 2 = .ok (.lconst 0, 1) := dq_666.2.2.1
theorem dX11_rings_3 : decode cX11_rings 3 = .ok (.lconst 1, 1) := dq_666.2.2.2.1
theorem dX11_rings_4 : decode cX11_rings 4 = .ok (.invokestatic 96, 3) := dq_666.2.2.2.2.1
theorem dX11_rings_7 : decode cX11_rings 7 = .ok (.ifCond .ne 5, 3) := dq_666.2.2.2.2.2.1
theorem dX11_rings_10 : decode cX11_rings 10 = .ok (.iconst (-1), 1) := dq_666.2.2.2.2.2.2.1
theorem dX11_rings_11 : decode cX11_rings 11 = .ok (.ireturn, 1) := dq_666.2.2.2.2.2.2.2.1
theorem dX11_rings_12 : decode cX11_rings 12 = .ok (.aload_n 0, 1) := dq_666.2.2.2.2.2.2.2.2.1
theorem dX11_rings_13 : decode cX11_rings 13 = .ok (.invokevirtual 199, 3) := dq_666.2.2.2.2.2.2.2.2.2.1
theorem dX11_rings_16 : decode cX11_rings 16 = .ok (.iload_n 1, 1) := dq_666.2.2.2.2.2.2.2.2.2.2.1
theorem dX11_rings_17 : decode cX11_rings 17 = .ok (.ifCond .ne 8, 3) := dq_666.2.2.2.2.2.2.2.2.2.2.2
theorem dq_667 : decode cX11_rings 20 = .ok (.aload_n 0, 1) ∧ decode cX11_rings 21 = .ok (.invokevirtual 202, 3) ∧ decode cX11_rings 24 = .ok (.ireturn, 1) ∧ decode cX11_rings 25 = .ok (.iconst 0, 1) ∧ decode cX11_rings 26 = .ok (.istore_n 2, 1) ∧ decode cX11_rings 27 = .ok (.iconst 0, 1) ∧ decode cX11_rings 28 = .ok (.istore_n 3, 1) ∧ decode cX11_rings 29 = .ok (.iload_n 3, 1) ∧ decode cX11_rings 30 = .ok (.aload_n 0, 1) ∧ decode cX11_rings 31 = .ok (.getfield 184, 3) ∧ decode cX11_rings 34 = .ok (.if_icmp .ge 38, 3) ∧ decode cX11_rings 37 = .ok (.aload_n 0, 1) := by decide +kernel
theorem dX11_rings_20 : decode cX11_rings 20 = .ok (.aload_n 0, 1) := dq_667.1
theorem dX11_rings_21 : decode cX11_rings 21 = .ok (.invokevirtual 202, 3) := dq_667.2.1
theorem dX11_rings_24 : decode cX11_rings 24 = .ok (.ireturn, 1) := dq_667.2.2.1
theorem dX11_rings_25 : decode cX11_rings 25 = .ok (.iconst 0, 1) := dq_667.2.2.2.1
theorem dX11_rings_26 : decode cX11_rings 26 = .ok (.istore_n 2, 1) := dq_667.2.2.2.2.1
theorem dX11_rings_27 : decode cX11_rings 27 = .ok (.iconst 0, 1) := dq_667.2.2.2.2.2.1
theorem dX11_rings_28 : decode cX11_rings 28 = .ok (.istore_n 3, 1) := dq_667.2.2.2.2.2.2.1
theorem dX11_rings_29 : decode cX11_rings 29 = .ok (.iload_n 3, 1) := dq_667.2.2.2.2.2.2.2.1
theorem dX11_rings_30 : decode cX11_rings 30 = .ok (.aload_n 0, 1) := dq_667.2.2.2.2.2.2.2.2.1
theorem dX11_rings_31 : decode cX11_rings 31 = .ok (.getfield 184, 3) := dq_667.2.2.2.2.2.2.2.2.2.1
theorem dX11_rings_34 : decode cX11_rings 34 = .ok (.if_icmp .ge 38, 3) := dq_667.2.2.2.2.2.2.2.2.2.2.1
theorem dX11_rings_37 : decode cX11_rings 37 = .ok (.aload_n 0, 1) := dq_667.2.2.2.2.2.2.2.2.2.2.2
theorem dq_668 : decode cX11_rings 38 = .ok (.iload_n 3, 1) ∧ decode cX11_rings 39 = .ok (.invokevirtual 205, 3) ∧ decode cX11_rings 42 = .ok (.istore 4, 2) ∧ decode cX11_rings 44 = .ok (.iload 4, 2) ∧ decode cX11_rings 46 = .ok (.ifCond .le 18, 3) ∧ decode cX11_rings 49 = .ok (.iload_n 2, 1) ∧ decode cX11_rings 50 = .ok (.ifCond .eq 9, 3) ∧ decode cX11_rings 53 = .ok (.iload 4, 2) ∧ decode cX11_rings 55 = .ok (.iload_n 2, 1) ∧ decode cX11_rings 56 = .ok (.if_icmp .ge 8, 3) ∧ decode cX11_rings 59 = .ok (.iload 4, 2) ∧ decode cX11_rings 61 = .ok (.goto 4, 3) := by decide +kernel
theorem dX11_rings_38 : decode cX11_rings 38 = .ok (.iload_n 3, 1) := dq_668.1
theorem dX11_rings_39 : decode cX11_rings 39 = .ok (.invokevirtual 205, 3) := dq_668.2.1
theorem dX11_rings_42 : decode cX11_rings 42 = .ok (.istore 4, 2) := dq_668.2.2.1
theorem dX11_rings_44 : decode cX11_rings 44 = .ok (.iload 4, 2) := dq_668.2.2.2.1
theorem dX11_rings_46 : decode cX11_rings 46 = .ok (.ifCond .le 18, 3) := dq_668.2.2.2.2.1
theorem dX11_rings_49 : decode cX11_rings 49 = .ok (.iload_n 2, 1) := dq_668.2.2.2.2.2.1
theorem dX11_rings_50 : decode cX11_rings 50 = .ok (.ifCond .eq 9, 3) := dq_668.2.2.2.2.2.2.1
theorem dX11_rings_53 : decode cX11_rings 53 = .ok (.iload 4, 2) := dq_668.2.2.2.2.2.2.2.1
theorem dX11_rings_55 : decode cX11_rings 55 = .ok (.iload_n 2, 1) := dq_668.2.2.2.2.2.2.2.2.1
theorem dX11_rings_56 : decode cX11_rings 56 = .ok (.if_icmp .ge 8, 3) := dq_668.2.2.2.2.2.2.2.2.2.1
theorem dX11_rings_59 : decode cX11_rings 59 = .ok (.iload 4, 2) := dq_668.2.2.2.2.2.2.2.2.2.2.1
theorem dX11_rings_61 : decode cX11_rings 61 = .ok (.goto 4, 3) := dq_668.2.2.2.2.2.2.2.2.2.2.2
theorem dq_669 : decode cX11_rings 64 = .ok (.iload_n 2, 1) ∧ decode cX11_rings 65 = .ok (.istore_n 2, 1) ∧ decode cX11_rings 66 = .ok (.iinc 3 1, 3) ∧ decode cX11_rings 69 = .ok (.goto (-40), 3) ∧ decode cX11_rings 72 = .ok (.iload_n 2, 1) ∧ decode cX11_rings 73 = .ok (.ireturn, 1) := by decide +kernel
theorem dX11_rings_64 : decode cX11_rings 64 = .ok (.iload_n 2, 1) := dq_669.1
theorem dX11_rings_65 : decode cX11_rings 65 = .ok (.istore_n 2, 1) := dq_669.2.1
theorem dX11_rings_66 : decode cX11_rings 66 = .ok (.iinc 3 1, 3) := dq_669.2.2.1
theorem dX11_rings_69 : decode cX11_rings 69 = .ok (.goto (-40), 3) := dq_669.2.2.2.1
theorem dX11_rings_72 : decode cX11_rings 72 = .ok (.iload_n 2, 1) := dq_669.2.2.2.2.1
theorem dX11_rings_73 : decode cX11_rings 73 = .ok (.ireturn, 1) := dq_669.2.2.2.2.2
theorem dq_670 : decode cX11_countOf 0 = .ok (.iconst 0, 1) ∧ decode cX11_countOf 1 = .ok (.istore_n 1, 1) ∧ decode cX11_countOf 2 = .ok (.iconst 0, 1) ∧ decode cX11_countOf 3 = .ok (.istore_n 2, 1) ∧ decode cX11_countOf 4 = .ok (.iload_n 2, 1) ∧ decode cX11_countOf 5 = .ok (.bipush 16, 2) ∧ decode cX11_countOf 7 = .ok (.if_icmp .ge 17, 3) ∧ decode cX11_countOf 10 = .ok (.iload_n 1, 1) ∧ decode cX11_countOf 11 = .ok (.iload_n 0, 1) ∧ decode cX11_countOf 12 = .ok (.iload_n 2, 1) ∧ decode cX11_countOf 13 = .ok (.ishr, 1) ∧ decode cX11_countOf 14 = .ok (.iconst 1, 1) := by decide +kernel
theorem dX11_countOf_0 : decode cX11_countOf 0 = .ok (.iconst 0, 1) := dq_670.1
theorem dX11_countOf_1 : decode cX11_countOf 1 = .ok (.istore_n 1, 1) := dq_670.2.1
theorem dX11_countOf_2 : decode cX11_countOf 2 = .ok (.iconst 0, 1) := dq_670.2.2.1
theorem dX11_countOf_3 : decode cX11_countOf 3 = .ok (.istore_n 2, 1) := dq_670.2.2.2.1
theorem dX11_countOf_4 : decode cX11_countOf 4 = .ok (.iload_n 2, 1) := dq_670.2.2.2.2.1
theorem dX11_countOf_5 : decode cX11_countOf 5 = .ok (.bipush 16, 2) := dq_670.2.2.2.2.2.1
theorem dX11_countOf_7 : decode cX11_countOf 7 = .ok (.if_icmp .ge 17, 3) := dq_670.2.2.2.2.2.2.1
theorem dX11_countOf_10 : decode cX11_countOf 10 = .ok (.iload_n 1, 1) := dq_670.2.2.2.2.2.2.2.1
theorem dX11_countOf_11 : decode cX11_countOf 11 = .ok (.iload_n 0, 1) := dq_670.2.2.2.2.2.2.2.2.1
theorem dX11_countOf_12 : decode cX11_countOf 12 = .ok (.iload_n 2, 1) := dq_670.2.2.2.2.2.2.2.2.2.1
theorem dX11_countOf_13 : decode cX11_countOf 13 = .ok (.ishr, 1) := dq_670.2.2.2.2.2.2.2.2.2.2.1
theorem dX11_countOf_14 : decode cX11_countOf 14 = .ok (.iconst 1, 1) := dq_670.2.2.2.2.2.2.2.2.2.2.2
theorem dq_671 : decode cX11_countOf 15 = .ok (.iand, 1) ∧ decode cX11_countOf 16 = .ok (.iadd, 1) ∧ decode cX11_countOf 17 = .ok (.istore_n 1, 1) ∧ decode cX11_countOf 18 = .ok (.iinc 2 1, 3) ∧ decode cX11_countOf 21 = .ok (.goto (-17), 3) ∧ decode cX11_countOf 24 = .ok (.iload_n 1, 1) ∧ decode cX11_countOf 25 = .ok (.ireturn, 1) := by decide +kernel
theorem dX11_countOf_15 : decode cX11_countOf 15 = .ok (.iand, 1) := dq_671.1
theorem dX11_countOf_16 : decode cX11_countOf 16 = .ok (.iadd, 1) := dq_671.2.1
theorem dX11_countOf_17 : decode cX11_countOf 17 = .ok (.istore_n 1, 1) := dq_671.2.2.1
theorem dX11_countOf_18 : decode cX11_countOf 18 = .ok (.iinc 2 1, 3) := dq_671.2.2.2.1
theorem dX11_countOf_21 : decode cX11_countOf 21 = .ok (.goto (-17), 3) := dq_671.2.2.2.2.1
theorem dX11_countOf_24 : decode cX11_countOf 24 = .ok (.iload_n 1, 1) := dq_671.2.2.2.2.2.1
theorem dX11_countOf_25 : decode cX11_countOf 25 = .ok (.ireturn, 1) := dq_671.2.2.2.2.2.2
theorem dq_672 : decode cX11_behind 0 = .ok (.iconst 0, 1) ∧ decode cX11_behind 1 = .ok (.istore_n 2, 1) ∧ decode cX11_behind 2 = .ok (.iconst 0, 1) ∧ decode cX11_behind 3 = .ok (.istore_n 3, 1) ∧ decode cX11_behind 4 = .ok (.iload_n 3, 1) ∧ decode cX11_behind 5 = .ok (.aload_n 0, 1) ∧ decode cX11_behind 6 = .ok (.getfield 184, 3) ∧ decode cX11_behind 9 = .ok (.if_icmp .ge 33, 3) ∧ decode cX11_behind 12 = .ok (.iload_n 2, 1) ∧ decode cX11_behind 13 = .ok (.aload_n 0, 1) ∧ decode cX11_behind 14 = .ok (.getfield 62, 3) ∧ decode cX11_behind 17 = .ok (.iload_n 3, 1) := by decide +kernel
theorem dX11_behind_0 : decode cX11_behind 0 = .ok (.iconst 0, 1) := dq_672.1
theorem dX11_behind_1 : decode cX11_behind 1 = .ok (.istore_n 2, 1) := dq_672.2.1
theorem dX11_behind_2 : decode cX11_behind 2 = .ok (.iconst 0, 1) := dq_672.2.2.1
theorem dX11_behind_3 : decode cX11_behind 3 = .ok (.istore_n 3, 1) := dq_672.2.2.2.1
theorem dX11_behind_4 : decode cX11_behind 4 = .ok (.iload_n 3, 1) := dq_672.2.2.2.2.1
theorem dX11_behind_5 : decode cX11_behind 5 = .ok (.aload_n 0, 1) := dq_672.2.2.2.2.2.1
theorem dX11_behind_6 : decode cX11_behind 6 = .ok (.getfield 184, 3) := dq_672.2.2.2.2.2.2.1
theorem dX11_behind_9 : decode cX11_behind 9 = .ok (.if_icmp .ge 33, 3) := dq_672.2.2.2.2.2.2.2.1
theorem dX11_behind_12 : decode cX11_behind 12 = .ok (.iload_n 2, 1) := dq_672.2.2.2.2.2.2.2.2.1
theorem dX11_behind_13 : decode cX11_behind 13 = .ok (.aload_n 0, 1) := dq_672.2.2.2.2.2.2.2.2.2.1
theorem dX11_behind_14 : decode cX11_behind 14 = .ok (.getfield 62, 3) := dq_672.2.2.2.2.2.2.2.2.2.2.1
theorem dX11_behind_17 : decode cX11_behind 17 = .ok (.iload_n 3, 1) := dq_672.2.2.2.2.2.2.2.2.2.2.2
theorem dq_673 : decode cX11_behind 18 = .ok (.iaload, 1) ∧ decode cX11_behind 19 = .ok (.iload_n 1, 1) ∧ decode cX11_behind 20 = .ok (.ishr, 1) ∧ decode cX11_behind 21 = .ok (.iconst 1, 1) ∧ decode cX11_behind 22 = .ok (.iand, 1) ∧ decode cX11_behind 23 = .ok (.iconst 1, 1) ∧ decode cX11_behind 24 = .ok (.if_icmp .ne 9, 3) ∧ decode cX11_behind 27 = .ok (.iconst 1, 1) ∧ decode cX11_behind 28 = .ok (.iload_n 3, 1) ∧ decode cX11_behind 29 = .ok (.ishl, 1) ∧ decode cX11_behind 30 = .ok (.goto 4, 3) ∧ decode cX11_behind 33 = .ok (.iconst 0, 1) := by decide +kernel
theorem dX11_behind_18 : decode cX11_behind 18 = .ok (.iaload, 1) := dq_673.1
theorem dX11_behind_19 : decode cX11_behind 19 = .ok (.iload_n 1, 1) := dq_673.2.1
theorem dX11_behind_20 : decode cX11_behind 20 = .ok (.ishr, 1) := dq_673.2.2.1
theorem dX11_behind_21 : decode cX11_behind 21 = .ok (.iconst 1, 1) := dq_673.2.2.2.1
theorem dX11_behind_22 : decode cX11_behind 22 = .ok (.iand, 1) := dq_673.2.2.2.2.1
theorem dX11_behind_23 : decode cX11_behind 23 = .ok (.iconst 1, 1) := dq_673.2.2.2.2.2.1
theorem dX11_behind_24 : decode cX11_behind 24 = .ok (.if_icmp .ne 9, 3) := dq_673.2.2.2.2.2.2.1
theorem dX11_behind_27 : decode cX11_behind 27 = .ok (.iconst 1, 1) := dq_673.2.2.2.2.2.2.2.1
theorem dX11_behind_28 : decode cX11_behind 28 = .ok (.iload_n 3, 1) := dq_673.2.2.2.2.2.2.2.2.1
theorem dX11_behind_29 : decode cX11_behind 29 = .ok (.ishl, 1) := dq_673.2.2.2.2.2.2.2.2.2.1
theorem dX11_behind_30 : decode cX11_behind 30 = .ok (.goto 4, 3) := dq_673.2.2.2.2.2.2.2.2.2.2.1
theorem dX11_behind_33 : decode cX11_behind 33 = .ok (.iconst 0, 1) := dq_673.2.2.2.2.2.2.2.2.2.2.2
theorem dq_674 : decode cX11_behind 34 = .ok (.ior, 1) ∧ decode cX11_behind 35 = .ok (.istore_n 2, 1) ∧ decode cX11_behind 36 = .ok (.iinc 3 1, 3) ∧ decode cX11_behind 39 = .ok (.goto (-35), 3) ∧ decode cX11_behind 42 = .ok (.iload_n 2, 1) ∧ decode cX11_behind 43 = .ok (.ireturn, 1) := by decide +kernel
theorem dX11_behind_34 : decode cX11_behind 34 = .ok (.ior, 1) := dq_674.1
theorem dX11_behind_35 : decode cX11_behind 35 = .ok (.istore_n 2, 1) := dq_674.2.1
theorem dX11_behind_36 : decode cX11_behind 36 = .ok (.iinc 3 1, 3) := dq_674.2.2.1
theorem dX11_behind_39 : decode cX11_behind 39 = .ok (.goto (-35), 3) := dq_674.2.2.2.1
theorem dX11_behind_42 : decode cX11_behind 42 = .ok (.iload_n 2, 1) := dq_674.2.2.2.2.1
theorem dX11_behind_43 : decode cX11_behind 43 = .ok (.ireturn, 1) := dq_674.2.2.2.2.2
theorem dq_675 : decode cX11_rank 0 = .ok (.aload_n 0, 1) ∧ decode cX11_rank 1 = .ok (.iload_n 1, 1) ∧ decode cX11_rank 2 = .ok (.invokevirtual 194, 3) ∧ decode cX11_rank 5 = .ok (.ifCond .eq 13, 3) ∧ decode cX11_rank 8 = .ok (.iload_n 2, 1) ∧ decode cX11_rank 9 = .ok (.i2l, 1) ∧ decode cX11_rank 10 = .ok (.lconst 0, 1) ∧ decode cX11_rank 11 = .ok (.lconst 1, 1) ∧ decode cX11_rank 12 = .ok (.invokestatic 96, 3) ∧ decode cX11_rank 15 = .ok (.ifCond .ne 5, 3) ∧ decode cX11_rank 18 = .ok (.iconst (-1), 1) ∧ decode cX11_rank 19 = .ok (.ireturn, 1) := by decide +kernel
theorem dX11_rank_0 : decode cX11_rank 0 = .ok (.aload_n 0, 1) := dq_675.1
theorem dX11_rank_1 : decode cX11_rank 1 = .ok (.iload_n 1, 1) := dq_675.2.1
theorem dX11_rank_2 : decode cX11_rank 2 = .ok (.invokevirtual 194, 3) := dq_675.2.2.1
theorem dX11_rank_5 : decode cX11_rank 5 = .ok (.ifCond .eq 13, 3) := dq_675.2.2.2.1
theorem dX11_rank_8 : decode cX11_rank 8 = .ok (.iload_n 2, 1) := dq_675.2.2.2.2.1
theorem dX11_rank_9 : decode cX11_rank 9 = .ok (.i2l, 1) := dq_675.2.2.2.2.2.1
theorem dX11_rank_10 : decode cX11_rank 10 = .ok (.lconst 0, 1) := dq_675.2.2.2.2.2.2.1
theorem dX11_rank_11 : decode cX11_rank 11 = .ok (.lconst 1, 1) := dq_675.2.2.2.2.2.2.2.1
theorem dX11_rank_12 : decode cX11_rank 12 = .ok (.invokestatic 96, 3) := dq_675.2.2.2.2.2.2.2.2.1
theorem dX11_rank_15 : decode cX11_rank 15 = .ok (.ifCond .ne 5, 3) := dq_675.2.2.2.2.2.2.2.2.2.1
theorem dX11_rank_18 : decode cX11_rank 18 = .ok (.iconst (-1), 1) := dq_675.2.2.2.2.2.2.2.2.2.2.1
theorem dX11_rank_19 : decode cX11_rank 19 = .ok (.ireturn, 1) := dq_675.2.2.2.2.2.2.2.2.2.2.2
theorem dq_676 : decode cX11_rank 20 = .ok (.aload_n 0, 1) ∧ decode cX11_rank 21 = .ok (.invokevirtual 199, 3) ∧ decode cX11_rank 24 = .ok (.aload_n 0, 1) ∧ decode cX11_rank 25 = .ok (.invokevirtual 202, 3) ∧ decode cX11_rank 28 = .ok (.ifCond .eq 6, 3) ∧ decode cX11_rank 31 = .ok (.bipush (-2), 2) ∧ decode cX11_rank 33 = .ok (.ireturn, 1) ∧ decode cX11_rank 34 = .ok (.iload_n 2, 1) ∧ decode cX11_rank 35 = .ok (.ifCond .ne 15, 3) ∧ decode cX11_rank 38 = .ok (.aload_n 0, 1) ∧ decode cX11_rank 39 = .ok (.getfield 62, 3) ∧ decode cX11_rank 42 = .ok (.iload_n 1, 1) := by decide +kernel
theorem dX11_rank_20 : decode cX11_rank 20 = .ok (.aload_n 0, 1) := dq_676.1
theorem dX11_rank_21 : decode cX11_rank 21 = .ok (.invokevirtual 199, 3) := dq_676.2.1
theorem dX11_rank_24 : decode cX11_rank 24 = .ok (.aload_n 0, 1) := dq_676.2.2.1
theorem dX11_rank_25 : decode cX11_rank 25 = .ok (.invokevirtual 202, 3) := dq_676.2.2.2.1
theorem dX11_rank_28 : decode cX11_rank 28 = .ok (.ifCond .eq 6, 3) := dq_676.2.2.2.2.1
theorem dX11_rank_31 : decode cX11_rank 31 = .ok (.bipush (-2), 2) := dq_676.2.2.2.2.2.1
theorem dX11_rank_33 : decode cX11_rank 33 = .ok (.ireturn, 1) := dq_676.2.2.2.2.2.2.1
theorem dX11_rank_34 : decode cX11_rank 34 = .ok (.iload_n 2, 1) := dq_676.2.2.2.2.2.2.2.1
theorem dX11_rank_35 : decode cX11_rank 35 = .ok (.ifCond .ne 15, 3) := dq_676.2.2.2.2.2.2.2.2.1
theorem dX11_rank_38 : decode cX11_rank 38 = .ok (.aload_n 0, 1) := dq_676.2.2.2.2.2.2.2.2.2.1
theorem dX11_rank_39 : decode cX11_rank 39 = .ok (.getfield 62, 3) := dq_676.2.2.2.2.2.2.2.2.2.2.1
theorem dX11_rank_42 : decode cX11_rank 42 = .ok (.iload_n 1, 1) := dq_676.2.2.2.2.2.2.2.2.2.2.2
theorem dq_677 : decode cX11_rank 43 = .ok (.iaload, 1) ∧ decode cX11_rank 44 = .ok (.invokestatic 208, 3) ∧ decode cX11_rank 47 = .ok (.goto 18, 3) ∧ decode cX11_rank 50 = .ok (.aload_n 0, 1) ∧ decode cX11_rank 51 = .ok (.getfield 184, 3) ∧ decode cX11_rank 54 = .ok (.iconst 1, 1) ∧ decode cX11_rank 55 = .ok (.isub, 1) ∧ decode cX11_rank 56 = .ok (.aload_n 0, 1) ∧ decode cX11_rank 57 = .ok (.iload_n 1, 1) ∧ decode cX11_rank 58 = .ok (.invokevirtual 211, 3) ∧ decode cX11_rank 61 = .ok (.invokestatic 208, 3) ∧ decode cX11_rank 64 = .ok (.isub, 1) := by decide +kernel
theorem dX11_rank_43 : decode cX11_rank 43 = .ok (.iaload, 1) := dq_677.1
theorem dX11_rank_44 : decode cX11_rank 44 = .ok (.invokestatic 208, 3) := dq_677.2.1
theorem dX11_rank_47 : decode cX11_rank 47 = .ok (.goto 18, 3) := dq_677.2.2.1
theorem dX11_rank_50 : decode cX11_rank 50 = .ok (.aload_n 0, 1) := dq_677.2.2.2.1
theorem dX11_rank_51 : decode cX11_rank 51 = .ok (.getfield 184, 3) := dq_677.2.2.2.2.1
theorem dX11_rank_54 : decode cX11_rank 54 = .ok (.iconst 1, 1) := dq_677.2.2.2.2.2.1
theorem dX11_rank_55 : decode cX11_rank 55 = .ok (.isub, 1) := dq_677.2.2.2.2.2.2.1
theorem dX11_rank_56 : decode cX11_rank 56 = .ok (.aload_n 0, 1) := dq_677.2.2.2.2.2.2.2.1
theorem dX11_rank_57 : decode cX11_rank 57 = .ok (.iload_n 1, 1) := dq_677.2.2.2.2.2.2.2.2.1
theorem dX11_rank_58 : decode cX11_rank 58 = .ok (.invokevirtual 211, 3) := dq_677.2.2.2.2.2.2.2.2.2.1
theorem dX11_rank_61 : decode cX11_rank 61 = .ok (.invokestatic 208, 3) := dq_677.2.2.2.2.2.2.2.2.2.2.1
theorem dX11_rank_64 : decode cX11_rank 64 = .ok (.isub, 1) := dq_677.2.2.2.2.2.2.2.2.2.2.2
theorem dX11_rank_65 : decode cX11_rank 65 = .ok (.ireturn, 1) := by decide +kernel
theorem dq_679 : decode cX11_layWays 0 = .ok (.iconst 1, 1) ∧ decode cX11_layWays 1 = .ok (.aload_n 0, 1) ∧ decode cX11_layWays 2 = .ok (.getfield 184, 3) ∧ decode cX11_layWays 5 = .ok (.ishl, 1) ∧ decode cX11_layWays 6 = .ok (.iconst 1, 1) ∧ decode cX11_layWays 7 = .ok (.isub, 1) ∧ decode cX11_layWays 8 = .ok (.istore_n 3, 1) ∧ decode cX11_layWays 9 = .ok (.aload_n 0, 1) ∧ decode cX11_layWays 10 = .ok (.getfield 65, 3) ∧ decode cX11_layWays 13 = .ok (.iload_n 3, 1) ∧ decode cX11_layWays 14 = .ok (.lconst 1, 1) ∧ decode cX11_layWays 15 = .ok (.lastore, 1) := by decide +kernel
theorem dX11_layWays_0 : decode cX11_layWays 0 = .ok (.iconst 1, 1) := dq_679.1
theorem dX11_layWays_1 : decode cX11_layWays 1 = .ok (.aload_n 0, 1) := dq_679.2.1
theorem dX11_layWays_2 : decode cX11_layWays 2 = .ok (.getfield 184, 3) := dq_679.2.2.1
theorem dX11_layWays_5 : decode cX11_layWays 5 = .ok (.ishl, 1) := dq_679.2.2.2.1
theorem dX11_layWays_6 : decode cX11_layWays 6 = .ok (.iconst 1, 1) := dq_679.2.2.2.2.1
theorem dX11_layWays_7 : decode cX11_layWays 7 = .ok (.isub, 1) := dq_679.2.2.2.2.2.1
theorem dX11_layWays_8 : decode cX11_layWays 8 = .ok (.istore_n 3, 1) := dq_679.2.2.2.2.2.2.1
theorem dX11_layWays_9 : decode cX11_layWays 9 = .ok (.aload_n 0, 1) := dq_679.2.2.2.2.2.2.2.1
theorem dX11_layWays_10 : decode cX11_layWays 10 = .ok (.getfield 65, 3) := dq_679.2.2.2.2.2.2.2.2.1
theorem dX11_layWays_13 : decode cX11_layWays 13 = .ok (.iload_n 3, 1) := dq_679.2.2.2.2.2.2.2.2.2.1
theorem dX11_layWays_14 : decode cX11_layWays 14 = .ok (.lconst 1, 1) := dq_679.2.2.2.2.2.2.2.2.2.2.1
theorem dX11_layWays_15 : decode cX11_layWays 15 = .ok (.lastore, 1) := dq_679.2.2.2.2.2.2.2.2.2.2.2
theorem dq_680 : decode cX11_layWays 16 = .ok (.iload_n 3, 1) ∧ decode cX11_layWays 17 = .ok (.iconst 1, 1) ∧ decode cX11_layWays 18 = .ok (.isub, 1) ∧ decode cX11_layWays 19 = .ok (.istore 4, 2) ∧ decode cX11_layWays 21 = .ok (.iload 4, 2) ∧ decode cX11_layWays 23 = .ok (.ifCond .lt 100, 3) ∧ decode cX11_layWays 26 = .ok (.aload_n 0, 1) ∧ decode cX11_layWays 27 = .ok (.getfield 65, 3) ∧ decode cX11_layWays 30 = .ok (.iload 4, 2) ∧ decode cX11_layWays 32 = .ok (.lconst 0, 1) ∧ decode cX11_layWays 33 = .ok (.lastore, 1) ∧ decode cX11_layWays 34 = .ok (.iconst 0, 1) := by decide +kernel
theorem dX11_layWays_16 : decode cX11_layWays 16 = .ok (.iload_n 3, 1) := dq_680.1
theorem dX11_layWays_17 : decode cX11_layWays 17 = .ok (.iconst 1, 1) := dq_680.2.1
theorem dX11_layWays_18 : decode cX11_layWays 18 = .ok (.isub, 1) := dq_680.2.2.1
theorem dX11_layWays_19 : decode cX11_layWays 19 = .ok (.istore 4, 2) := dq_680.2.2.2.1
theorem dX11_layWays_21 : decode cX11_layWays 21 = .ok (.iload 4, 2) := dq_680.2.2.2.2.1
theorem dX11_layWays_23 : decode cX11_layWays 23 = .ok (.ifCond .lt 100, 3) := dq_680.2.2.2.2.2.1
theorem dX11_layWays_26 : decode cX11_layWays 26 = .ok (.aload_n 0, 1) := dq_680.2.2.2.2.2.2.1
theorem dX11_layWays_27 : decode cX11_layWays 27 = .ok (.getfield 65, 3) := dq_680.2.2.2.2.2.2.2.1
theorem dX11_layWays_30 : decode cX11_layWays 30 = .ok (.iload 4, 2) := dq_680.2.2.2.2.2.2.2.2.1
theorem dX11_layWays_32 : decode cX11_layWays 32 = .ok (.lconst 0, 1) := dq_680.2.2.2.2.2.2.2.2.2.1
theorem dX11_layWays_33 : decode cX11_layWays 33 = .ok (.lastore, 1) := dq_680.2.2.2.2.2.2.2.2.2.2.1
theorem dX11_layWays_34 : decode cX11_layWays 34 = .ok (.iconst 0, 1) := dq_680.2.2.2.2.2.2.2.2.2.2.2
theorem dq_681 : decode cX11_layWays 35 = .ok (.istore 5, 2) ∧ decode cX11_layWays 37 = .ok (.iload 5, 2) ∧ decode cX11_layWays 39 = .ok (.aload_n 0, 1) ∧ decode cX11_layWays 40 = .ok (.getfield 184, 3) ∧ decode cX11_layWays 43 = .ok (.if_icmp .ge 74, 3) ∧ decode cX11_layWays 46 = .ok (.aload_n 0, 1) ∧ decode cX11_layWays 47 = .ok (.getfield 62, 3) ∧ decode cX11_layWays 50 = .ok (.iload 5, 2) ∧ decode cX11_layWays 52 = .ok (.iaload, 1) ∧ decode cX11_layWays 53 = .ok (.iload 5, 2) ∧ decode cX11_layWays 55 = .ok (.iload_n 2, 1) ∧ decode cX11_layWays 56 = .ok (.if_icmp .ne 9, 3) := by decide +kernel
theorem dX11_layWays_35 : decode cX11_layWays 35 = .ok (.istore 5, 2) := dq_681.1
theorem dX11_layWays_37 : decode cX11_layWays 37 = .ok (.iload 5, 2) := dq_681.2.1
theorem dX11_layWays_39 : decode cX11_layWays 39 = .ok (.aload_n 0, 1) := dq_681.2.2.1
theorem dX11_layWays_40 : decode cX11_layWays 40 = .ok (.getfield 184, 3) := dq_681.2.2.2.1
theorem dX11_layWays_43 : decode cX11_layWays 43 = .ok (.if_icmp .ge 74, 3) := dq_681.2.2.2.2.1
theorem dX11_layWays_46 : decode cX11_layWays 46 = .ok (.aload_n 0, 1) := dq_681.2.2.2.2.2.1
theorem dX11_layWays_47 : decode cX11_layWays 47 = .ok (.getfield 62, 3) := dq_681.2.2.2.2.2.2.1
theorem dX11_layWays_50 : decode cX11_layWays 50 = .ok (.iload 5, 2) := dq_681.2.2.2.2.2.2.2.1
theorem dX11_layWays_52 : decode cX11_layWays 52 = .ok (.iaload, 1) := dq_681.2.2.2.2.2.2.2.2.1
theorem dX11_layWays_53 : decode cX11_layWays 53 = .ok (.iload 5, 2) := dq_681.2.2.2.2.2.2.2.2.2.1
theorem dX11_layWays_55 : decode cX11_layWays 55 = .ok (.iload_n 2, 1) := dq_681.2.2.2.2.2.2.2.2.2.2.1
theorem dX11_layWays_56 : decode cX11_layWays 56 = .ok (.if_icmp .ne 9, 3) := dq_681.2.2.2.2.2.2.2.2.2.2.2
theorem dq_682 : decode cX11_layWays 59 = .ok (.iconst 1, 1) ∧ decode cX11_layWays 60 = .ok (.iload_n 1, 1) ∧ decode cX11_layWays 61 = .ok (.ishl, 1) ∧ decode cX11_layWays 62 = .ok (.goto 4, 3) ∧ decode cX11_layWays 65 = .ok (.iconst 0, 1) ∧ decode cX11_layWays 66 = .ok (.ior, 1) ∧ decode cX11_layWays 67 = .ok (.istore 6, 2) ∧ decode cX11_layWays 69 = .ok (.iload 4, 2) ∧ decode cX11_layWays 71 = .ok (.iload 5, 2) ∧ decode cX11_layWays 73 = .ok (.ishr, 1) ∧ decode cX11_layWays 74 = .ok (.iconst 1, 1) ∧ decode cX11_layWays 75 = .ok (.iand, 1) := by decide +kernel
theorem dX11_layWays_59 : decode cX11_layWays 59 = .ok (.iconst 1, 1) := dq_682.1
theorem dX11_layWays_60 : decode cX11_layWays 60 = .ok (.iload_n 1, 1) := dq_682.2.1
theorem dX11_layWays_61 : decode cX11_layWays 61 = .ok (.ishl, 1) := dq_682.2.2.1
theorem dX11_layWays_62 : decode cX11_layWays 62 = .ok (.goto 4, 3) := dq_682.2.2.2.1
theorem dX11_layWays_65 : decode cX11_layWays 65 = .ok (.iconst 0, 1) := dq_682.2.2.2.2.1
theorem dX11_layWays_66 : decode cX11_layWays 66 = .ok (.ior, 1) := dq_682.2.2.2.2.2.1
theorem dX11_layWays_67 : decode cX11_layWays 67 = .ok (.istore 6, 2) := dq_682.2.2.2.2.2.2.1
theorem dX11_layWays_69 : decode cX11_layWays 69 = .ok (.iload 4, 2) := dq_682.2.2.2.2.2.2.2.1
theorem dX11_layWays_71 : decode cX11_layWays 71 = .ok (.iload 5, 2) := dq_682.2.2.2.2.2.2.2.2.1
theorem dX11_layWays_73 : decode cX11_layWays 73 = .ok (.ishr, 1) := dq_682.2.2.2.2.2.2.2.2.2.1
theorem dX11_layWays_74 : decode cX11_layWays 74 = .ok (.iconst 1, 1) := dq_682.2.2.2.2.2.2.2.2.2.2.1
theorem dX11_layWays_75 : decode cX11_layWays 75 = .ok (.iand, 1) := dq_682.2.2.2.2.2.2.2.2.2.2.2
theorem dq_683 : decode cX11_layWays 76 = .ok (.ifCond .ne 35, 3) ∧ decode cX11_layWays 79 = .ok (.iload 6, 2) ∧ decode cX11_layWays 81 = .ok (.iload 4, 2) ∧ decode cX11_layWays 83 = .ok (.iconst (-1), 1) ∧ decode cX11_layWays 84 = .ok (.ixor, 1) ∧ decode cX11_layWays 85 = .ok (.iand, 1) ∧ decode cX11_layWays 86 = .ok (.ifCond .ne 25, 3) ∧ decode cX11_layWays 89 = .ok (.aload_n 0, 1) ∧ decode cX11_layWays 90 = .ok (.getfield 65, 3) ∧ decode cX11_layWays 93 = .ok (.iload 4, 2) ∧ decode cX11_layWays 95 = .ok (.dup2, 1) ∧ decode cX11_layWays 96 = .ok (.laload, 1) := by decide +kernel
theorem dX11_layWays_76 : decode cX11_layWays 76 = .ok (.ifCond .ne 35, 3) := dq_683.1
theorem dX11_layWays_79 : decode cX11_layWays 79 = .ok (.iload 6, 2) := dq_683.2.1
theorem dX11_layWays_81 : decode cX11_layWays 81 = .ok (.iload 4, 2) := dq_683.2.2.1
theorem dX11_layWays_83 : decode cX11_layWays 83 = .ok (.iconst (-1), 1) := dq_683.2.2.2.1
theorem dX11_layWays_84 : decode cX11_layWays 84 = .ok (.ixor, 1) := dq_683.2.2.2.2.1
theorem dX11_layWays_85 : decode cX11_layWays 85 = .ok (.iand, 1) := dq_683.2.2.2.2.2.1
theorem dX11_layWays_86 : decode cX11_layWays 86 = .ok (.ifCond .ne 25, 3) := dq_683.2.2.2.2.2.2.1
theorem dX11_layWays_89 : decode cX11_layWays 89 = .ok (.aload_n 0, 1) := dq_683.2.2.2.2.2.2.2.1
theorem dX11_layWays_90 : decode cX11_layWays 90 = .ok (.getfield 65, 3) := dq_683.2.2.2.2.2.2.2.2.1
theorem dX11_layWays_93 : decode cX11_layWays 93 = .ok (.iload 4, 2) := dq_683.2.2.2.2.2.2.2.2.2.1
theorem dX11_layWays_95 : decode cX11_layWays 95 = .ok (.dup2, 1) := dq_683.2.2.2.2.2.2.2.2.2.2.1
theorem dX11_layWays_96 : decode cX11_layWays 96 = .ok (.laload, 1) := dq_683.2.2.2.2.2.2.2.2.2.2.2
theorem dq_684 : decode cX11_layWays 97 = .ok (.aload_n 0, 1) ∧ decode cX11_layWays 98 = .ok (.getfield 65, 3) ∧ decode cX11_layWays 101 = .ok (.iload 4, 2) ∧ decode cX11_layWays 103 = .ok (.iconst 1, 1) ∧ decode cX11_layWays 104 = .ok (.iload 5, 2) ∧ decode cX11_layWays 106 = .ok (.ishl, 1) ∧ decode cX11_layWays 107 = .ok (.ior, 1) ∧ decode cX11_layWays 108 = .ok (.laload, 1) ∧ decode cX11_layWays 109 = .ok (.ladd, 1) ∧ decode cX11_layWays 110 = .ok (.lastore, 1) ∧ decode cX11_layWays 111 = .ok (.iinc 5 1, 3) ∧ decode cX11_layWays 114 = .ok (.goto (-77), 3) := by decide +kernel
theorem dX11_layWays_97 : decode cX11_layWays 97 = .ok (.aload_n 0, 1) := dq_684.1
theorem dX11_layWays_98 : decode cX11_layWays 98 = .ok (.getfield 65, 3) := dq_684.2.1
theorem dX11_layWays_101 : decode cX11_layWays 101 = .ok (.iload 4, 2) := dq_684.2.2.1
theorem dX11_layWays_103 : decode cX11_layWays 103 = .ok (.iconst 1, 1) := dq_684.2.2.2.1
theorem dX11_layWays_104 : decode cX11_layWays 104 = .ok (.iload 5, 2) := dq_684.2.2.2.2.1
theorem dX11_layWays_106 : decode cX11_layWays 106 = .ok (.ishl, 1) := dq_684.2.2.2.2.2.1
theorem dX11_layWays_107 : decode cX11_layWays 107 = .ok (.ior, 1) := dq_684.2.2.2.2.2.2.1
theorem dX11_layWays_108 : decode cX11_layWays 108 = .ok (.laload, 1) := dq_684.2.2.2.2.2.2.2.1
theorem dX11_layWays_109 : decode cX11_layWays 109 = .ok (.ladd, 1) := dq_684.2.2.2.2.2.2.2.2.1
theorem dX11_layWays_110 : decode cX11_layWays 110 = .ok (.lastore, 1) := dq_684.2.2.2.2.2.2.2.2.2.1
theorem dX11_layWays_111 : decode cX11_layWays 111 = .ok (.iinc 5 1, 3) := dq_684.2.2.2.2.2.2.2.2.2.2.1
theorem dX11_layWays_114 : decode cX11_layWays 114 = .ok (.goto (-77), 3) := dq_684.2.2.2.2.2.2.2.2.2.2.2
theorem dq_685 : decode cX11_layWays 117 = .ok (.iinc 4 (-1), 3) ∧ decode cX11_layWays 120 = .ok (.goto (-99), 3) ∧ decode cX11_layWays 123 = .ok (.return_, 1) := by decide +kernel
theorem dX11_layWays_117 : decode cX11_layWays 117 = .ok (.iinc 4 (-1), 3) := dq_685.1
theorem dX11_layWays_120 : decode cX11_layWays 120 = .ok (.goto (-99), 3) := dq_685.2.1
theorem dX11_layWays_123 : decode cX11_layWays 123 = .ok (.return_, 1) := dq_685.2.2
theorem dq_686 : decode cX11_orders 0 = .ok (.aload_n 0, 1) ∧ decode cX11_orders 1 = .ok (.invokevirtual 199, 3) ∧ decode cX11_orders 4 = .ok (.aload_n 0, 1) ∧ decode cX11_orders 5 = .ok (.invokevirtual 202, 3) ∧ decode cX11_orders 8 = .ok (.ifCond .eq 7, 3) ∧ decode cX11_orders 11 = .ok (.ldc2_w 214, 3) ∧ decode cX11_orders 14 = .ok (.lreturn, 1) ∧ decode cX11_orders 15 = .ok (.aload_n 0, 1) ∧ decode cX11_orders 16 = .ok (.iconst 0, 1) ∧ decode cX11_orders 17 = .ok (.bipush (-4), 2) ∧ decode cX11_orders 19 = .ok (.invokevirtual 216, 3) ∧ decode cX11_orders 22 = .ok (.aload_n 0, 1) := by decide +kernel
theorem dX11_orders_0 : decode cX11_orders 0 = .ok (.aload_n 0, 1) := dq_686.1
theorem dX11_orders_1 : decode cX11_orders 1 = .ok (.invokevirtual 199, 3) := dq_686.2.1
theorem dX11_orders_4 : decode cX11_orders 4 = .ok (.aload_n 0, 1) := dq_686.2.2.1
theorem dX11_orders_5 : decode cX11_orders 5 = .ok (.invokevirtual 202, 3) := dq_686.2.2.2.1
theorem dX11_orders_8 : decode cX11_orders 8 = .ok (.ifCond .eq 7, 3) := dq_686.2.2.2.2.1
theorem dX11_orders_11 : decode cX11_orders 11 = .ok (.ldc2_w 214, 3) := dq_686.2.2.2.2.2.1
theorem dX11_orders_14 : decode cX11_orders 14 = .ok (.lreturn, 1) := dq_686.2.2.2.2.2.2.1
theorem dX11_orders_15 : decode cX11_orders 15 = .ok (.aload_n 0, 1) := dq_686.2.2.2.2.2.2.2.1
theorem dX11_orders_16 : decode cX11_orders 16 = .ok (.iconst 0, 1) := dq_686.2.2.2.2.2.2.2.2.1
theorem dX11_orders_17 : decode cX11_orders 17 = .ok (.bipush (-4), 2) := dq_686.2.2.2.2.2.2.2.2.2.1
theorem dX11_orders_19 : decode cX11_orders 19 = .ok (.invokevirtual 216, 3) := dq_686.2.2.2.2.2.2.2.2.2.2.1
theorem dX11_orders_22 : decode cX11_orders 22 = .ok (.aload_n 0, 1) := dq_686.2.2.2.2.2.2.2.2.2.2.2
theorem dq_687 : decode cX11_orders 23 = .ok (.getfield 65, 3) ∧ decode cX11_orders 26 = .ok (.iconst 0, 1) ∧ decode cX11_orders 27 = .ok (.laload, 1) ∧ decode cX11_orders 28 = .ok (.lreturn, 1) := by decide +kernel
theorem dX11_orders_23 : decode cX11_orders 23 = .ok (.getfield 65, 3) := dq_687.1
theorem dX11_orders_26 : decode cX11_orders 26 = .ok (.iconst 0, 1) := dq_687.2.1
theorem dX11_orders_27 : decode cX11_orders 27 = .ok (.laload, 1) := dq_687.2.2.1
theorem dX11_orders_28 : decode cX11_orders 28 = .ok (.lreturn, 1) := dq_687.2.2.2
theorem dq_688 : decode cX11_lowest 0 = .ok (.lload_n 0, 1) ∧ decode cX11_lowest 1 = .ok (.lstore 5, 2) ∧ decode cX11_lowest 3 = .ok (.lload_n 2, 1) ∧ decode cX11_lowest 4 = .ok (.lstore 7, 2) ∧ decode cX11_lowest 6 = .ok (.lload 7, 2) ∧ decode cX11_lowest 8 = .ok (.lconst 0, 1) ∧ decode cX11_lowest 9 = .ok (.lcmp, 1) ∧ decode cX11_lowest 10 = .ok (.ifCond .eq 21, 3) ∧ decode cX11_lowest 13 = .ok (.lload 5, 2) ∧ decode cX11_lowest 15 = .ok (.lload 7, 2) ∧ decode cX11_lowest 17 = .ok (.lrem, 1) ∧ decode cX11_lowest 18 = .ok (.lstore 9, 2) := by decide +kernel
theorem dX11_lowest_0 : decode cX11_lowest 0 = .ok (.lload_n 0, 1) := dq_688.1
theorem dX11_lowest_1 : decode cX11_lowest 1 = .ok (.lstore 5, 2) := dq_688.2.1
theorem dX11_lowest_3 : decode cX11_lowest 3 = .ok (.lload_n 2, 1) := dq_688.2.2.1
theorem dX11_lowest_4 : decode cX11_lowest 4 = .ok (.lstore 7, 2) := dq_688.2.2.2.1
theorem dX11_lowest_6 : decode cX11_lowest 6 = .ok (.lload 7, 2) := dq_688.2.2.2.2.1
theorem dX11_lowest_8 : decode cX11_lowest 8 = .ok (.lconst 0, 1) := dq_688.2.2.2.2.2.1
theorem dX11_lowest_9 : decode cX11_lowest 9 = .ok (.lcmp, 1) := dq_688.2.2.2.2.2.2.1
theorem dX11_lowest_10 : decode cX11_lowest 10 = .ok (.ifCond .eq 21, 3) := dq_688.2.2.2.2.2.2.2.1
theorem dX11_lowest_13 : decode cX11_lowest 13 = .ok (.lload 5, 2) := dq_688.2.2.2.2.2.2.2.2.1
theorem dX11_lowest_15 : decode cX11_lowest 15 = .ok (.lload 7, 2) := dq_688.2.2.2.2.2.2.2.2.2.1
theorem dX11_lowest_17 : decode cX11_lowest 17 = .ok (.lrem, 1) := dq_688.2.2.2.2.2.2.2.2.2.2.1
theorem dX11_lowest_18 : decode cX11_lowest 18 = .ok (.lstore 9, 2) := dq_688.2.2.2.2.2.2.2.2.2.2.2
theorem dq_689 : decode cX11_lowest 20 = .ok (.lload 7, 2) ∧ decode cX11_lowest 22 = .ok (.lstore 5, 2) ∧ decode cX11_lowest 24 = .ok (.lload 9, 2) ∧ decode cX11_lowest 26 = .ok (.lstore 7, 2) ∧ decode cX11_lowest 28 = .ok (.goto (-22), 3) ∧ decode cX11_lowest 31 = .ok (.iload 4, 2) ∧ decode cX11_lowest 33 = .ok (.ifCond .ne 7, 3) ∧ decode cX11_lowest 36 = .ok (.lload_n 0, 1) ∧ decode cX11_lowest 37 = .ok (.goto 4, 3) ∧ decode cX11_lowest 40 = .ok (.lload_n 2, 1) ∧ decode cX11_lowest 41 = .ok (.lload 5, 2) ∧ decode cX11_lowest 43 = .ok (.ldiv, 1) := by decide +kernel
theorem dX11_lowest_20 : decode cX11_lowest 20 = .ok (.lload 7, 2) := dq_689.1
theorem dX11_lowest_22 : decode cX11_lowest 22 = .ok (.lstore 5, 2) := dq_689.2.1
theorem dX11_lowest_24 : decode cX11_lowest 24 = .ok (.lload 9, 2) := dq_689.2.2.1
theorem dX11_lowest_26 : decode cX11_lowest 26 = .ok (.lstore 7, 2) := dq_689.2.2.2.1
theorem dX11_lowest_28 : decode cX11_lowest 28 = .ok (.goto (-22), 3) := dq_689.2.2.2.2.1
theorem dX11_lowest_31 : decode cX11_lowest 31 = .ok (.iload 4, 2) := dq_689.2.2.2.2.2.1
theorem dX11_lowest_33 : decode cX11_lowest 33 = .ok (.ifCond .ne 7, 3) := dq_689.2.2.2.2.2.2.1
theorem dX11_lowest_36 : decode cX11_lowest 36 = .ok (.lload_n 0, 1) := dq_689.2.2.2.2.2.2.2.1
theorem dX11_lowest_37 : decode cX11_lowest 37 = .ok (.goto 4, 3) := dq_689.2.2.2.2.2.2.2.2.1
theorem dX11_lowest_40 : decode cX11_lowest 40 = .ok (.lload_n 2, 1) := dq_689.2.2.2.2.2.2.2.2.2.1
theorem dX11_lowest_41 : decode cX11_lowest 41 = .ok (.lload 5, 2) := dq_689.2.2.2.2.2.2.2.2.2.2.1
theorem dX11_lowest_43 : decode cX11_lowest 43 = .ok (.ldiv, 1) := dq_689.2.2.2.2.2.2.2.2.2.2.2
theorem dX11_lowest_44 : decode cX11_lowest 44 = .ok (.lreturn, 1) := by decide +kernel
theorem dq_691 : decode cX11_likely 0 = .ok (.aload_n 0, 1) ∧ decode cX11_likely 1 = .ok (.iload_n 1, 1) ∧ decode cX11_likely 2 = .ok (.invokevirtual 194, 3) ∧ decode cX11_likely 5 = .ok (.ifCond .eq 26, 3) ∧ decode cX11_likely 8 = .ok (.aload_n 0, 1) ∧ decode cX11_likely 9 = .ok (.iload_n 2, 1) ∧ decode cX11_likely 10 = .ok (.invokevirtual 194, 3) ∧ decode cX11_likely 13 = .ok (.ifCond .eq 18, 3) ∧ decode cX11_likely 16 = .ok (.iload_n 1, 1) ∧ decode cX11_likely 17 = .ok (.iload_n 2, 1) ∧ decode cX11_likely 18 = .ok (.if_icmp .eq 13, 3) ∧ decode cX11_likely 21 = .ok (.iload_n 3, 1) := by decide +kernel
theorem dX11_likely_0 : decode cX11_likely 0 = .ok (.aload_n 0, 1) := dq_691.1
theorem dX11_likely_1 : decode cX11_likely 1 = .ok (.iload_n 1, 1) := dq_691.2.1
theorem dX11_likely_2 : decode cX11_likely 2 = .ok (.invokevirtual 194, 3) := dq_691.2.2.1
theorem dX11_likely_5 : decode cX11_likely 5 = .ok (.ifCond .eq 26, 3) := dq_691.2.2.2.1
theorem dX11_likely_8 : decode cX11_likely 8 = .ok (.aload_n 0, 1) := dq_691.2.2.2.2.1
theorem dX11_likely_9 : decode cX11_likely 9 = .ok (.iload_n 2, 1) := dq_691.2.2.2.2.2.1
theorem dX11_likely_10 : decode cX11_likely 10 = .ok (.invokevirtual 194, 3) := dq_691.2.2.2.2.2.2.1
theorem dX11_likely_13 : decode cX11_likely 13 = .ok (.ifCond .eq 18, 3) := dq_691.2.2.2.2.2.2.2.1
theorem dX11_likely_16 : decode cX11_likely 16 = .ok (.iload_n 1, 1) := dq_691.2.2.2.2.2.2.2.2.1
theorem dX11_likely_17 : decode cX11_likely 17 = .ok (.iload_n 2, 1) := dq_691.2.2.2.2.2.2.2.2.2.1
theorem dX11_likely_18 : decode cX11_likely 18 = .ok (.if_icmp .eq 13, 3) := dq_691.2.2.2.2.2.2.2.2.2.2.1
theorem dX11_likely_21 : decode cX11_likely 21 = .ok (.iload_n 3, 1) := dq_691.2.2.2.2.2.2.2.2.2.2.2
theorem dq_692 : decode cX11_likely 22 = .ok (.i2l, 1) ∧ decode cX11_likely 23 = .ok (.lconst 0, 1) ∧ decode cX11_likely 24 = .ok (.lconst 1, 1) ∧ decode cX11_likely 25 = .ok (.invokestatic 96, 3) ∧ decode cX11_likely 28 = .ok (.ifCond .ne 7, 3) ∧ decode cX11_likely 31 = .ok (.ldc2_w 220, 3) ∧ decode cX11_likely 34 = .ok (.lreturn, 1) ∧ decode cX11_likely 35 = .ok (.aload_n 0, 1) ∧ decode cX11_likely 36 = .ok (.invokevirtual 199, 3) ∧ decode cX11_likely 39 = .ok (.aload_n 0, 1) ∧ decode cX11_likely 40 = .ok (.invokevirtual 202, 3) ∧ decode cX11_likely 43 = .ok (.ifCond .eq 7, 3) := by decide +kernel
theorem dX11_likely_22 : decode cX11_likely 22 = .ok (.i2l, 1) := dq_692.1
theorem dX11_likely_23 : decode cX11_likely 23 = .ok (.lconst 0, 1) := dq_692.2.1
theorem dX11_likely_24 : decode cX11_likely 24 = .ok (.lconst 1, 1) := dq_692.2.2.1
theorem dX11_likely_25 : decode cX11_likely 25 = .ok (.invokestatic 96, 3) := dq_692.2.2.2.1
theorem dX11_likely_28 : decode cX11_likely 28 = .ok (.ifCond .ne 7, 3) := dq_692.2.2.2.2.1
theorem dX11_likely_31 : decode cX11_likely 31 = .ok (.ldc2_w 220, 3) := dq_692.2.2.2.2.2.1
theorem dX11_likely_34 : decode cX11_likely 34 = .ok (.lreturn, 1) := dq_692.2.2.2.2.2.2.1
theorem dX11_likely_35 : decode cX11_likely 35 = .ok (.aload_n 0, 1) := dq_692.2.2.2.2.2.2.2.1
theorem dX11_likely_36 : decode cX11_likely 36 = .ok (.invokevirtual 199, 3) := dq_692.2.2.2.2.2.2.2.2.1
theorem dX11_likely_39 : decode cX11_likely 39 = .ok (.aload_n 0, 1) := dq_692.2.2.2.2.2.2.2.2.2.1
theorem dX11_likely_40 : decode cX11_likely 40 = .ok (.invokevirtual 202, 3) := dq_692.2.2.2.2.2.2.2.2.2.2.1
theorem dX11_likely_43 : decode cX11_likely 43 = .ok (.ifCond .eq 7, 3) := dq_692.2.2.2.2.2.2.2.2.2.2.2
theorem dq_693 : decode cX11_likely 46 = .ok (.ldc2_w 214, 3) ∧ decode cX11_likely 49 = .ok (.lreturn, 1) ∧ decode cX11_likely 50 = .ok (.aload_n 0, 1) ∧ decode cX11_likely 51 = .ok (.iload_n 1, 1) ∧ decode cX11_likely 52 = .ok (.iload_n 2, 1) ∧ decode cX11_likely 53 = .ok (.invokevirtual 216, 3) ∧ decode cX11_likely 56 = .ok (.aload_n 0, 1) ∧ decode cX11_likely 57 = .ok (.getfield 65, 3) ∧ decode cX11_likely 60 = .ok (.iconst 0, 1) ∧ decode cX11_likely 61 = .ok (.laload, 1) ∧ decode cX11_likely 62 = .ok (.lstore 4, 2) ∧ decode cX11_likely 64 = .ok (.aload_n 0, 1) := by decide +kernel
theorem dX11_likely_46 : decode cX11_likely 46 = .ok (.ldc2_w 214, 3) := dq_693.1
theorem dX11_likely_49 : decode cX11_likely 49 = .ok (.lreturn, 1) := dq_693.2.1
theorem dX11_likely_50 : decode cX11_likely 50 = .ok (.aload_n 0, 1) := dq_693.2.2.1
theorem dX11_likely_51 : decode cX11_likely 51 = .ok (.iload_n 1, 1) := dq_693.2.2.2.1
theorem dX11_likely_52 : decode cX11_likely 52 = .ok (.iload_n 2, 1) := dq_693.2.2.2.2.1
theorem dX11_likely_53 : decode cX11_likely 53 = .ok (.invokevirtual 216, 3) := dq_693.2.2.2.2.2.1
theorem dX11_likely_56 : decode cX11_likely 56 = .ok (.aload_n 0, 1) := dq_693.2.2.2.2.2.2.1
theorem dX11_likely_57 : decode cX11_likely 57 = .ok (.getfield 65, 3) := dq_693.2.2.2.2.2.2.2.1
theorem dX11_likely_60 : decode cX11_likely 60 = .ok (.iconst 0, 1) := dq_693.2.2.2.2.2.2.2.2.1
theorem dX11_likely_61 : decode cX11_likely 61 = .ok (.laload, 1) := dq_693.2.2.2.2.2.2.2.2.2.1
theorem dX11_likely_62 : decode cX11_likely 62 = .ok (.lstore 4, 2) := dq_693.2.2.2.2.2.2.2.2.2.2.1
theorem dX11_likely_64 : decode cX11_likely 64 = .ok (.aload_n 0, 1) := dq_693.2.2.2.2.2.2.2.2.2.2.2
theorem dq_694 : decode cX11_likely 65 = .ok (.iconst 0, 1) ∧ decode cX11_likely 66 = .ok (.bipush (-4), 2) ∧ decode cX11_likely 68 = .ok (.invokevirtual 216, 3) ∧ decode cX11_likely 71 = .ok (.lload 4, 2) ∧ decode cX11_likely 73 = .ok (.aload_n 0, 1) ∧ decode cX11_likely 74 = .ok (.getfield 65, 3) ∧ decode cX11_likely 77 = .ok (.iconst 0, 1) ∧ decode cX11_likely 78 = .ok (.laload, 1) ∧ decode cX11_likely 79 = .ok (.iload_n 3, 1) ∧ decode cX11_likely 80 = .ok (.invokestatic 222, 3) ∧ decode cX11_likely 83 = .ok (.lreturn, 1) := by decide +kernel
theorem dX11_likely_65 : decode cX11_likely 65 = .ok (.iconst 0, 1) := dq_694.1
theorem dX11_likely_66 : decode cX11_likely 66 = .ok (.bipush (-4), 2) := dq_694.2.1
theorem dX11_likely_68 : decode cX11_likely 68 = .ok (.invokevirtual 216, 3) := dq_694.2.2.1
theorem dX11_likely_71 : decode cX11_likely 71 = .ok (.lload 4, 2) := dq_694.2.2.2.1
theorem dX11_likely_73 : decode cX11_likely 73 = .ok (.aload_n 0, 1) := dq_694.2.2.2.2.1
theorem dX11_likely_74 : decode cX11_likely 74 = .ok (.getfield 65, 3) := dq_694.2.2.2.2.2.1
theorem dX11_likely_77 : decode cX11_likely 77 = .ok (.iconst 0, 1) := dq_694.2.2.2.2.2.2.1
theorem dX11_likely_78 : decode cX11_likely 78 = .ok (.laload, 1) := dq_694.2.2.2.2.2.2.2.1
theorem dX11_likely_79 : decode cX11_likely 79 = .ok (.iload_n 3, 1) := dq_694.2.2.2.2.2.2.2.2.1
theorem dX11_likely_80 : decode cX11_likely 80 = .ok (.invokestatic 222, 3) := dq_694.2.2.2.2.2.2.2.2.2.1
theorem dX11_likely_83 : decode cX11_likely 83 = .ok (.lreturn, 1) := dq_694.2.2.2.2.2.2.2.2.2.2
theorem dq_695 : decode cX11_begins 0 = .ok (.iload_n 1, 1) ∧ decode cX11_begins 1 = .ok (.i2l, 1) ∧ decode cX11_begins 2 = .ok (.lconst 0, 1) ∧ decode cX11_begins 3 = .ok (.lconst 1, 1) ∧ decode cX11_begins 4 = .ok (.invokestatic 96, 3) ∧ decode cX11_begins 7 = .ok (.ifCond .ne 5, 3) ∧ decode cX11_begins 10 = .ok (.iconst (-1), 1) ∧ decode cX11_begins 11 = .ok (.ireturn, 1) ∧ decode cX11_begins 12 = .ok (.aload_n 0, 1) ∧ decode cX11_begins 13 = .ok (.invokevirtual 199, 3) ∧ decode cX11_begins 16 = .ok (.aload_n 0, 1) ∧ decode cX11_begins 17 = .ok (.invokevirtual 202, 3) := by decide +kernel
theorem dX11_begins_0 : decode cX11_begins 0 = .ok (.iload_n 1, 1) := dq_695.1
theorem dX11_begins_1 : decode cX11_begins 1 = .ok (.i2l, 1) := dq_695.2.1
theorem dX11_begins_2 : decode cX11_begins 2 = .ok (.lconst 0, 1) := dq_695.2.2.1
theorem dX11_begins_3 : decode cX11_begins 3 = .ok (.lconst 1, 1) := dq_695.2.2.2.1
theorem dX11_begins_4 : decode cX11_begins 4 = .ok (.invokestatic 96, 3) := dq_695.2.2.2.2.1
theorem dX11_begins_7 : decode cX11_begins 7 = .ok (.ifCond .ne 5, 3) := dq_695.2.2.2.2.2.1
theorem dX11_begins_10 : decode cX11_begins 10 = .ok (.iconst (-1), 1) := dq_695.2.2.2.2.2.2.1
theorem dX11_begins_11 : decode cX11_begins 11 = .ok (.ireturn, 1) := dq_695.2.2.2.2.2.2.2.1
theorem dX11_begins_12 : decode cX11_begins 12 = .ok (.aload_n 0, 1) := dq_695.2.2.2.2.2.2.2.2.1
theorem dX11_begins_13 : decode cX11_begins 13 = .ok (.invokevirtual 199, 3) := dq_695.2.2.2.2.2.2.2.2.2.1
theorem dX11_begins_16 : decode cX11_begins 16 = .ok (.aload_n 0, 1) := dq_695.2.2.2.2.2.2.2.2.2.2.1
theorem dX11_begins_17 : decode cX11_begins 17 = .ok (.invokevirtual 202, 3) := dq_695.2.2.2.2.2.2.2.2.2.2.2
theorem dq_696 : decode cX11_begins 20 = .ok (.ifCond .eq 6, 3) ∧ decode cX11_begins 23 = .ok (.bipush (-2), 2) ∧ decode cX11_begins 25 = .ok (.ireturn, 1) ∧ decode cX11_begins 26 = .ok (.iconst 0, 1) ∧ decode cX11_begins 27 = .ok (.istore_n 2, 1) ∧ decode cX11_begins 28 = .ok (.iconst 0, 1) ∧ decode cX11_begins 29 = .ok (.istore_n 3, 1) ∧ decode cX11_begins 30 = .ok (.iload_n 3, 1) ∧ decode cX11_begins 31 = .ok (.aload_n 0, 1) ∧ decode cX11_begins 32 = .ok (.getfield 184, 3) ∧ decode cX11_begins 35 = .ok (.if_icmp .ge 40, 3) ∧ decode cX11_begins 38 = .ok (.iload_n 2, 1) := by decide +kernel
theorem dX11_begins_20 : decode cX11_begins 20 = .ok (.ifCond .eq 6, 3) := dq_696.1
theorem dX11_begins_23 : decode cX11_begins 23 = .ok (.bipush (-2), 2) := dq_696.2.1
theorem dX11_begins_25 : decode cX11_begins 25 = .ok (.ireturn, 1) := dq_696.2.2.1
theorem dX11_begins_26 : decode cX11_begins 26 = .ok (.iconst 0, 1) := dq_696.2.2.2.1
theorem dX11_begins_27 : decode cX11_begins 27 = .ok (.istore_n 2, 1) := dq_696.2.2.2.2.1
theorem dX11_begins_28 : decode cX11_begins 28 = .ok (.iconst 0, 1) := dq_696.2.2.2.2.2.1
theorem dX11_begins_29 : decode cX11_begins 29 = .ok (.istore_n 3, 1) := dq_696.2.2.2.2.2.2.1
theorem dX11_begins_30 : decode cX11_begins 30 = .ok (.iload_n 3, 1) := dq_696.2.2.2.2.2.2.2.1
theorem dX11_begins_31 : decode cX11_begins 31 = .ok (.aload_n 0, 1) := dq_696.2.2.2.2.2.2.2.2.1
theorem dX11_begins_32 : decode cX11_begins 32 = .ok (.getfield 184, 3) := dq_696.2.2.2.2.2.2.2.2.2.1
theorem dX11_begins_35 : decode cX11_begins 35 = .ok (.if_icmp .ge 40, 3) := dq_696.2.2.2.2.2.2.2.2.2.2.1
theorem dX11_begins_38 : decode cX11_begins 38 = .ok (.iload_n 2, 1) := dq_696.2.2.2.2.2.2.2.2.2.2.2
theorem dq_697 : decode cX11_begins 39 = .ok (.iload_n 1, 1) ∧ decode cX11_begins 40 = .ok (.ifCond .ne 12, 3) ∧ decode cX11_begins 43 = .ok (.aload_n 0, 1) ∧ decode cX11_begins 44 = .ok (.getfield 62, 3) ∧ decode cX11_begins 47 = .ok (.iload_n 3, 1) ∧ decode cX11_begins 48 = .ok (.iaload, 1) ∧ decode cX11_begins 49 = .ok (.goto 8, 3) ∧ decode cX11_begins 52 = .ok (.aload_n 0, 1) ∧ decode cX11_begins 53 = .ok (.iload_n 3, 1) ∧ decode cX11_begins 54 = .ok (.invokevirtual 211, 3) ∧ decode cX11_begins 57 = .ok (.ifCond .ne 9, 3) ∧ decode cX11_begins 60 = .ok (.iconst 1, 1) := by decide +kernel
theorem dX11_begins_39 : decode cX11_begins 39 = .ok (.iload_n 1, 1) := dq_697.1
theorem dX11_begins_40 : decode cX11_begins 40 = .ok (.ifCond .ne 12, 3) := dq_697.2.1
theorem dX11_begins_43 : decode cX11_begins 43 = .ok (.aload_n 0, 1) := dq_697.2.2.1
theorem dX11_begins_44 : decode cX11_begins 44 = .ok (.getfield 62, 3) := dq_697.2.2.2.1
theorem dX11_begins_47 : decode cX11_begins 47 = .ok (.iload_n 3, 1) := dq_697.2.2.2.2.1
theorem dX11_begins_48 : decode cX11_begins 48 = .ok (.iaload, 1) := dq_697.2.2.2.2.2.1
theorem dX11_begins_49 : decode cX11_begins 49 = .ok (.goto 8, 3) := dq_697.2.2.2.2.2.2.1
theorem dX11_begins_52 : decode cX11_begins 52 = .ok (.aload_n 0, 1) := dq_697.2.2.2.2.2.2.2.1
theorem dX11_begins_53 : decode cX11_begins 53 = .ok (.iload_n 3, 1) := dq_697.2.2.2.2.2.2.2.2.1
theorem dX11_begins_54 : decode cX11_begins 54 = .ok (.invokevirtual 211, 3) := dq_697.2.2.2.2.2.2.2.2.2.1
theorem dX11_begins_57 : decode cX11_begins 57 = .ok (.ifCond .ne 9, 3) := dq_697.2.2.2.2.2.2.2.2.2.2.1
theorem dX11_begins_60 : decode cX11_begins 60 = .ok (.iconst 1, 1) := dq_697.2.2.2.2.2.2.2.2.2.2.2
theorem dq_698 : decode cX11_begins 61 = .ok (.iload_n 3, 1) ∧ decode cX11_begins 62 = .ok (.ishl, 1) ∧ decode cX11_begins 63 = .ok (.goto 4, 3) ∧ decode cX11_begins 66 = .ok (.iconst 0, 1) ∧ decode cX11_begins 67 = .ok (.ior, 1) ∧ decode cX11_begins 68 = .ok (.istore_n 2, 1) ∧ decode cX11_begins 69 = .ok (.iinc 3 1, 3) ∧ decode cX11_begins 72 = .ok (.goto (-42), 3) ∧ decode cX11_begins 75 = .ok (.iload_n 2, 1) ∧ decode cX11_begins 76 = .ok (.ireturn, 1) := by decide +kernel
theorem dX11_begins_61 : decode cX11_begins 61 = .ok (.iload_n 3, 1) := dq_698.1
theorem dX11_begins_62 : decode cX11_begins 62 = .ok (.ishl, 1) := dq_698.2.1
theorem dX11_begins_63 : decode cX11_begins 63 = .ok (.goto 4, 3) := dq_698.2.2.1
theorem dX11_begins_66 : decode cX11_begins 66 = .ok (.iconst 0, 1) := dq_698.2.2.2.1
theorem dX11_begins_67 : decode cX11_begins 67 = .ok (.ior, 1) := dq_698.2.2.2.2.1
theorem dX11_begins_68 : decode cX11_begins 68 = .ok (.istore_n 2, 1) := dq_698.2.2.2.2.2.1
theorem dX11_begins_69 : decode cX11_begins 69 = .ok (.iinc 3 1, 3) := dq_698.2.2.2.2.2.2.1
theorem dX11_begins_72 : decode cX11_begins 72 = .ok (.goto (-42), 3) := dq_698.2.2.2.2.2.2.2.1
theorem dX11_begins_75 : decode cX11_begins 75 = .ok (.iload_n 2, 1) := dq_698.2.2.2.2.2.2.2.2.1
theorem dX11_begins_76 : decode cX11_begins 76 = .ok (.ireturn, 1) := dq_698.2.2.2.2.2.2.2.2.2
theorem dq_699 : decode cX11_order 0 = .ok (.aload_n 0, 1) ∧ decode cX11_order 1 = .ok (.invokevirtual 199, 3) ∧ decode cX11_order 4 = .ok (.aload_n 0, 1) ∧ decode cX11_order 5 = .ok (.invokevirtual 202, 3) ∧ decode cX11_order 8 = .ok (.ifCond .eq 7, 3) ∧ decode cX11_order 11 = .ok (.iconst 1, 1) ∧ decode cX11_order 12 = .ok (.goto 4, 3) ∧ decode cX11_order 15 = .ok (.iconst 0, 1) ∧ decode cX11_order 16 = .ok (.istore 4, 2) ∧ decode cX11_order 18 = .ok (.iload 4, 2) ∧ decode cX11_order 20 = .ok (.ifCond .ne 10, 3) ∧ decode cX11_order 23 = .ok (.aload_n 0, 1) := by decide +kernel
theorem dX11_order_0 : decode cX11_order 0 = .ok (.aload_n 0, 1) := dq_699.1
theorem dX11_order_1 : decode cX11_order 1 = .ok (.invokevirtual 199, 3) := dq_699.2.1
theorem dX11_order_4 : decode cX11_order 4 = .ok (.aload_n 0, 1) := dq_699.2.2.1
theorem dX11_order_5 : decode cX11_order 5 = .ok (.invokevirtual 202, 3) := dq_699.2.2.2.1
theorem dX11_order_8 : decode cX11_order 8 = .ok (.ifCond .eq 7, 3) := dq_699.2.2.2.2.1
theorem dX11_order_11 : decode cX11_order 11 = .ok (.iconst 1, 1) := dq_699.2.2.2.2.2.1
theorem dX11_order_12 : decode cX11_order 12 = .ok (.goto 4, 3) := dq_699.2.2.2.2.2.2.1
theorem dX11_order_15 : decode cX11_order 15 = .ok (.iconst 0, 1) := dq_699.2.2.2.2.2.2.2.1
theorem dX11_order_16 : decode cX11_order 16 = .ok (.istore 4, 2) := dq_699.2.2.2.2.2.2.2.2.1
theorem dX11_order_18 : decode cX11_order 18 = .ok (.iload 4, 2) := dq_699.2.2.2.2.2.2.2.2.2.1
theorem dX11_order_20 : decode cX11_order 20 = .ok (.ifCond .ne 10, 3) := dq_699.2.2.2.2.2.2.2.2.2.2.1
theorem dX11_order_23 : decode cX11_order 23 = .ok (.aload_n 0, 1) := dq_699.2.2.2.2.2.2.2.2.2.2.2
theorem dq_700 : decode cX11_order 24 = .ok (.iconst 0, 1) ∧ decode cX11_order 25 = .ok (.bipush (-4), 2) ∧ decode cX11_order 27 = .ok (.invokevirtual 216, 3) ∧ decode cX11_order 30 = .ok (.iload_n 3, 1) ∧ decode cX11_order 31 = .ok (.i2l, 1) ∧ decode cX11_order 32 = .ok (.lconst 0, 1) ∧ decode cX11_order 33 = .ok (.aload_n 0, 1) ∧ decode cX11_order 34 = .ok (.getfield 184, 3) ∧ decode cX11_order 37 = .ok (.iconst 1, 1) ∧ decode cX11_order 38 = .ok (.isub, 1) ∧ decode cX11_order 39 = .ok (.i2l, 1) ∧ decode cX11_order 40 = .ok (.invokestatic 96, 3) := by decide +kernel
theorem dX11_order_24 : decode cX11_order 24 = .ok (.iconst 0, 1) := dq_700.1
theorem dX11_order_25 : decode cX11_order 25 = .ok (.bipush (-4), 2) := dq_700.2.1
theorem dX11_order_27 : decode cX11_order 27 = .ok (.invokevirtual 216, 3) := dq_700.2.2.1
theorem dX11_order_30 : decode cX11_order 30 = .ok (.iload_n 3, 1) := dq_700.2.2.2.1
theorem dX11_order_31 : decode cX11_order 31 = .ok (.i2l, 1) := dq_700.2.2.2.2.1
theorem dX11_order_32 : decode cX11_order 32 = .ok (.lconst 0, 1) := dq_700.2.2.2.2.2.1
theorem dX11_order_33 : decode cX11_order 33 = .ok (.aload_n 0, 1) := dq_700.2.2.2.2.2.2.1
theorem dX11_order_34 : decode cX11_order 34 = .ok (.getfield 184, 3) := dq_700.2.2.2.2.2.2.2.1
theorem dX11_order_37 : decode cX11_order 37 = .ok (.iconst 1, 1) := dq_700.2.2.2.2.2.2.2.2.1
theorem dX11_order_38 : decode cX11_order 38 = .ok (.isub, 1) := dq_700.2.2.2.2.2.2.2.2.2.1
theorem dX11_order_39 : decode cX11_order 39 = .ok (.i2l, 1) := dq_700.2.2.2.2.2.2.2.2.2.2.1
theorem dX11_order_40 : decode cX11_order 40 = .ok (.invokestatic 96, 3) := dq_700.2.2.2.2.2.2.2.2.2.2.2
theorem dq_701 : decode cX11_order 43 = .ok (.ifCond .eq 25, 3) ∧ decode cX11_order 46 = .ok (.lload_n 1, 1) ∧ decode cX11_order 47 = .ok (.lconst 0, 1) ∧ decode cX11_order 48 = .ok (.lcmp, 1) ∧ decode cX11_order 49 = .ok (.ifCond .lt 19, 3) ∧ decode cX11_order 52 = .ok (.iload 4, 2) ∧ decode cX11_order 54 = .ok (.ifCond .ne 16, 3) ∧ decode cX11_order 57 = .ok (.lload_n 1, 1) ∧ decode cX11_order 58 = .ok (.aload_n 0, 1) ∧ decode cX11_order 59 = .ok (.getfield 65, 3) ∧ decode cX11_order 62 = .ok (.iconst 0, 1) ∧ decode cX11_order 63 = .ok (.laload, 1) := by decide +kernel
theorem dX11_order_43 : decode cX11_order 43 = .ok (.ifCond .eq 25, 3) := dq_701.1
theorem dX11_order_46 : decode cX11_order 46 = .ok (.lload_n 1, 1) := dq_701.2.1
theorem dX11_order_47 : decode cX11_order 47 = .ok (.lconst 0, 1) := dq_701.2.2.1
theorem dX11_order_48 : decode cX11_order 48 = .ok (.lcmp, 1) := dq_701.2.2.2.1
theorem dX11_order_49 : decode cX11_order 49 = .ok (.ifCond .lt 19, 3) := dq_701.2.2.2.2.1
theorem dX11_order_52 : decode cX11_order 52 = .ok (.iload 4, 2) := dq_701.2.2.2.2.2.1
theorem dX11_order_54 : decode cX11_order 54 = .ok (.ifCond .ne 16, 3) := dq_701.2.2.2.2.2.2.1
theorem dX11_order_57 : decode cX11_order 57 = .ok (.lload_n 1, 1) := dq_701.2.2.2.2.2.2.2.1
theorem dX11_order_58 : decode cX11_order 58 = .ok (.aload_n 0, 1) := dq_701.2.2.2.2.2.2.2.2.1
theorem dX11_order_59 : decode cX11_order 59 = .ok (.getfield 65, 3) := dq_701.2.2.2.2.2.2.2.2.2.1
theorem dX11_order_62 : decode cX11_order 62 = .ok (.iconst 0, 1) := dq_701.2.2.2.2.2.2.2.2.2.2.1
theorem dX11_order_63 : decode cX11_order 63 = .ok (.laload, 1) := dq_701.2.2.2.2.2.2.2.2.2.2.2
theorem dq_702 : decode cX11_order 64 = .ok (.lcmp, 1) ∧ decode cX11_order 65 = .ok (.ifCond .lt 5, 3) ∧ decode cX11_order 68 = .ok (.iconst (-1), 1) ∧ decode cX11_order 69 = .ok (.ireturn, 1) ∧ decode cX11_order 70 = .ok (.iload 4, 2) ∧ decode cX11_order 72 = .ok (.ifCond .eq 6, 3) ∧ decode cX11_order 75 = .ok (.bipush (-2), 2) ∧ decode cX11_order 77 = .ok (.ireturn, 1) ∧ decode cX11_order 78 = .ok (.iconst 0, 1) ∧ decode cX11_order 79 = .ok (.istore 5, 2) ∧ decode cX11_order 81 = .ok (.lload_n 1, 1) ∧ decode cX11_order 82 = .ok (.lstore 6, 2) := by decide +kernel
theorem dX11_order_64 : decode cX11_order 64 = .ok (.lcmp, 1) := dq_702.1
theorem dX11_order_65 : decode cX11_order 65 = .ok (.ifCond .lt 5, 3) := dq_702.2.1
theorem dX11_order_68 : decode cX11_order 68 = .ok (.iconst (-1), 1) := dq_702.2.2.1
theorem dX11_order_69 : decode cX11_order 69 = .ok (.ireturn, 1) := dq_702.2.2.2.1
theorem dX11_order_70 : decode cX11_order 70 = .ok (.iload 4, 2) := dq_702.2.2.2.2.1
theorem dX11_order_72 : decode cX11_order 72 = .ok (.ifCond .eq 6, 3) := dq_702.2.2.2.2.2.1
theorem dX11_order_75 : decode cX11_order 75 = .ok (.bipush (-2), 2) := dq_702.2.2.2.2.2.2.1
theorem dX11_order_77 : decode cX11_order 77 = .ok (.ireturn, 1) := dq_702.2.2.2.2.2.2.2.1
theorem dX11_order_78 : decode cX11_order 78 = .ok (.iconst 0, 1) := dq_702.2.2.2.2.2.2.2.2.1
theorem dX11_order_79 : decode cX11_order 79 = .ok (.istore 5, 2) := dq_702.2.2.2.2.2.2.2.2.2.1
theorem dX11_order_81 : decode cX11_order 81 = .ok (.lload_n 1, 1) := dq_702.2.2.2.2.2.2.2.2.2.2.1
theorem dX11_order_82 : decode cX11_order 82 = .ok (.lstore 6, 2) := dq_702.2.2.2.2.2.2.2.2.2.2.2
theorem dq_703 : decode cX11_order 84 = .ok (.bipush (-4), 2) ∧ decode cX11_order 86 = .ok (.istore 8, 2) ∧ decode cX11_order 88 = .ok (.iconst 0, 1) ∧ decode cX11_order 89 = .ok (.istore 9, 2) ∧ decode cX11_order 91 = .ok (.iload 9, 2) ∧ decode cX11_order 93 = .ok (.iload_n 3, 1) ∧ decode cX11_order 94 = .ok (.if_icmp .gt 142, 3) ∧ decode cX11_order 97 = .ok (.iconst 0, 1) ∧ decode cX11_order 98 = .ok (.istore 10, 2) ∧ decode cX11_order 100 = .ok (.iconst 0, 1) ∧ decode cX11_order 101 = .ok (.istore 11, 2) ∧ decode cX11_order 103 = .ok (.iload 11, 2) := by decide +kernel
theorem dX11_order_84 : decode cX11_order 84 = .ok (.bipush (-4), 2) := dq_703.1
theorem dX11_order_86 : decode cX11_order 86 = .ok (.istore 8, 2) := dq_703.2.1
theorem dX11_order_88 : decode cX11_order 88 = .ok (.iconst 0, 1) := dq_703.2.2.1
theorem dX11_order_89 : decode cX11_order 89 = .ok (.istore 9, 2) := dq_703.2.2.2.1
theorem dX11_order_91 : decode cX11_order 91 = .ok (.iload 9, 2) := dq_703.2.2.2.2.1
theorem dX11_order_93 : decode cX11_order 93 = .ok (.iload_n 3, 1) := dq_703.2.2.2.2.2.1
theorem dX11_order_94 : decode cX11_order 94 = .ok (.if_icmp .gt 142, 3) := dq_703.2.2.2.2.2.2.1
theorem dX11_order_97 : decode cX11_order 97 = .ok (.iconst 0, 1) := dq_703.2.2.2.2.2.2.2.1
theorem dX11_order_98 : decode cX11_order 98 = .ok (.istore 10, 2) := dq_703.2.2.2.2.2.2.2.2.1
theorem dX11_order_100 : decode cX11_order 100 = .ok (.iconst 0, 1) := dq_703.2.2.2.2.2.2.2.2.2.1
theorem dX11_order_101 : decode cX11_order 101 = .ok (.istore 11, 2) := dq_703.2.2.2.2.2.2.2.2.2.2.1
theorem dX11_order_103 : decode cX11_order 103 = .ok (.iload 11, 2) := dq_703.2.2.2.2.2.2.2.2.2.2.2
theorem dq_704 : decode cX11_order 105 = .ok (.ifCond .ne 112, 3) ∧ decode cX11_order 108 = .ok (.iload 5, 2) ∧ decode cX11_order 110 = .ok (.iload 10, 2) ∧ decode cX11_order 112 = .ok (.ishr, 1) ∧ decode cX11_order 113 = .ok (.iconst 1, 1) ∧ decode cX11_order 114 = .ok (.iand, 1) ∧ decode cX11_order 115 = .ok (.ifCond .ne 22, 3) ∧ decode cX11_order 118 = .ok (.aload_n 0, 1) ∧ decode cX11_order 119 = .ok (.getfield 62, 3) ∧ decode cX11_order 122 = .ok (.iload 10, 2) ∧ decode cX11_order 124 = .ok (.iaload, 1) ∧ decode cX11_order 125 = .ok (.iload 5, 2) := by decide +kernel
theorem dX11_order_105 : decode cX11_order 105 = .ok (.ifCond .ne 112, 3) := dq_704.1
theorem dX11_order_108 : decode cX11_order 108 = .ok (.iload 5, 2) := dq_704.2.1
theorem dX11_order_110 : decode cX11_order 110 = .ok (.iload 10, 2) := dq_704.2.2.1
theorem dX11_order_112 : decode cX11_order 112 = .ok (.ishr, 1) := dq_704.2.2.2.1
theorem dX11_order_113 : decode cX11_order 113 = .ok (.iconst 1, 1) := dq_704.2.2.2.2.1
theorem dX11_order_114 : decode cX11_order 114 = .ok (.iand, 1) := dq_704.2.2.2.2.2.1
theorem dX11_order_115 : decode cX11_order 115 = .ok (.ifCond .ne 22, 3) := dq_704.2.2.2.2.2.2.1
theorem dX11_order_118 : decode cX11_order 118 = .ok (.aload_n 0, 1) := dq_704.2.2.2.2.2.2.2.1
theorem dX11_order_119 : decode cX11_order 119 = .ok (.getfield 62, 3) := dq_704.2.2.2.2.2.2.2.2.1
theorem dX11_order_122 : decode cX11_order 122 = .ok (.iload 10, 2) := dq_704.2.2.2.2.2.2.2.2.2.1
theorem dX11_order_124 : decode cX11_order 124 = .ok (.iaload, 1) := dq_704.2.2.2.2.2.2.2.2.2.2.1
theorem dX11_order_125 : decode cX11_order 125 = .ok (.iload 5, 2) := dq_704.2.2.2.2.2.2.2.2.2.2.2
theorem dq_705 : decode cX11_order 127 = .ok (.iconst (-1), 1) ∧ decode cX11_order 128 = .ok (.ixor, 1) ∧ decode cX11_order 129 = .ok (.iand, 1) ∧ decode cX11_order 130 = .ok (.ifCond .ne 7, 3) ∧ decode cX11_order 133 = .ok (.iconst 1, 1) ∧ decode cX11_order 134 = .ok (.goto 4, 3) ∧ decode cX11_order 137 = .ok (.iconst 0, 1) ∧ decode cX11_order 138 = .ok (.istore 12, 2) ∧ decode cX11_order 140 = .ok (.iload 12, 2) ∧ decode cX11_order 142 = .ok (.ifCond .eq 18, 3) ∧ decode cX11_order 145 = .ok (.aload_n 0, 1) ∧ decode cX11_order 146 = .ok (.getfield 65, 3) := by decide +kernel
theorem dX11_order_127 : decode cX11_order 127 = .ok (.iconst (-1), 1) := dq_705.1
theorem dX11_order_128 : decode cX11_order 128 = .ok (.ixor, 1) := dq_705.2.1
theorem dX11_order_129 : decode cX11_order 129 = .ok (.iand, 1) := dq_705.2.2.1
theorem dX11_order_130 : decode cX11_order 130 = .ok (.ifCond .ne 7, 3) := dq_705.2.2.2.1
theorem dX11_order_133 : decode cX11_order 133 = .ok (.iconst 1, 1) := dq_705.2.2.2.2.1
theorem dX11_order_134 : decode cX11_order 134 = .ok (.goto 4, 3) := dq_705.2.2.2.2.2.1
theorem dX11_order_137 : decode cX11_order 137 = .ok (.iconst 0, 1) := dq_705.2.2.2.2.2.2.1
theorem dX11_order_138 : decode cX11_order 138 = .ok (.istore 12, 2) := dq_705.2.2.2.2.2.2.2.1
theorem dX11_order_140 : decode cX11_order 140 = .ok (.iload 12, 2) := dq_705.2.2.2.2.2.2.2.2.1
theorem dX11_order_142 : decode cX11_order 142 = .ok (.ifCond .eq 18, 3) := dq_705.2.2.2.2.2.2.2.2.2.1
theorem dX11_order_145 : decode cX11_order 145 = .ok (.aload_n 0, 1) := dq_705.2.2.2.2.2.2.2.2.2.2.1
theorem dX11_order_146 : decode cX11_order 146 = .ok (.getfield 65, 3) := dq_705.2.2.2.2.2.2.2.2.2.2.2
theorem dq_706 : decode cX11_order 149 = .ok (.iload 5, 2) ∧ decode cX11_order 151 = .ok (.iconst 1, 1) ∧ decode cX11_order 152 = .ok (.iload 10, 2) ∧ decode cX11_order 154 = .ok (.ishl, 1) ∧ decode cX11_order 155 = .ok (.ior, 1) ∧ decode cX11_order 156 = .ok (.laload, 1) ∧ decode cX11_order 157 = .ok (.goto 4, 3) ∧ decode cX11_order 160 = .ok (.lconst 0, 1) ∧ decode cX11_order 161 = .ok (.lstore 13, 2) ∧ decode cX11_order 163 = .ok (.iload 12, 2) ∧ decode cX11_order 165 = .ok (.ifCond .eq 15, 3) ∧ decode cX11_order 168 = .ok (.lload 6, 2) := by decide +kernel
theorem dX11_order_149 : decode cX11_order 149 = .ok (.iload 5, 2) := dq_706.1
theorem dX11_order_151 : decode cX11_order 151 = .ok (.iconst 1, 1) := dq_706.2.1
theorem dX11_order_152 : decode cX11_order 152 = .ok (.iload 10, 2) := dq_706.2.2.1
theorem dX11_order_154 : decode cX11_order 154 = .ok (.ishl, 1) := dq_706.2.2.2.1
theorem dX11_order_155 : decode cX11_order 155 = .ok (.ior, 1) := dq_706.2.2.2.2.1
theorem dX11_order_156 : decode cX11_order 156 = .ok (.laload, 1) := dq_706.2.2.2.2.2.1
theorem dX11_order_157 : decode cX11_order 157 = .ok (.goto 4, 3) := dq_706.2.2.2.2.2.2.1
theorem dX11_order_160 : decode cX11_order 160 = .ok (.lconst 0, 1) := dq_706.2.2.2.2.2.2.2.1
theorem dX11_order_161 : decode cX11_order 161 = .ok (.lstore 13, 2) := dq_706.2.2.2.2.2.2.2.2.1
theorem dX11_order_163 : decode cX11_order 163 = .ok (.iload 12, 2) := dq_706.2.2.2.2.2.2.2.2.2.1
theorem dX11_order_165 : decode cX11_order 165 = .ok (.ifCond .eq 15, 3) := dq_706.2.2.2.2.2.2.2.2.2.2.1
theorem dX11_order_168 : decode cX11_order 168 = .ok (.lload 6, 2) := dq_706.2.2.2.2.2.2.2.2.2.2.2
theorem dq_707 : decode cX11_order 170 = .ok (.lload 13, 2) ∧ decode cX11_order 172 = .ok (.lcmp, 1) ∧ decode cX11_order 173 = .ok (.ifCond .ge 7, 3) ∧ decode cX11_order 176 = .ok (.iconst 1, 1) ∧ decode cX11_order 177 = .ok (.goto 4, 3) ∧ decode cX11_order 180 = .ok (.iconst 0, 1) ∧ decode cX11_order 181 = .ok (.istore 11, 2) ∧ decode cX11_order 183 = .ok (.lload 6, 2) ∧ decode cX11_order 185 = .ok (.iload 11, 2) ∧ decode cX11_order 187 = .ok (.ifCond .eq 7, 3) ∧ decode cX11_order 190 = .ok (.lconst 0, 1) ∧ decode cX11_order 191 = .ok (.goto 5, 3) := by decide +kernel
theorem dX11_order_170 : decode cX11_order 170 = .ok (.lload 13, 2) := dq_707.1
theorem dX11_order_172 : decode cX11_order 172 = .ok (.lcmp, 1) := dq_707.2.1
theorem dX11_order_173 : decode cX11_order 173 = .ok (.ifCond .ge 7, 3) := dq_707.2.2.1
theorem dX11_order_176 : decode cX11_order 176 = .ok (.iconst 1, 1) := dq_707.2.2.2.1
theorem dX11_order_177 : decode cX11_order 177 = .ok (.goto 4, 3) := dq_707.2.2.2.2.1
theorem dX11_order_180 : decode cX11_order 180 = .ok (.iconst 0, 1) := dq_707.2.2.2.2.2.1
theorem dX11_order_181 : decode cX11_order 181 = .ok (.istore 11, 2) := dq_707.2.2.2.2.2.2.1
theorem dX11_order_183 : decode cX11_order 183 = .ok (.lload 6, 2) := dq_707.2.2.2.2.2.2.2.1
theorem dX11_order_185 : decode cX11_order 185 = .ok (.iload 11, 2) := dq_707.2.2.2.2.2.2.2.2.1
theorem dX11_order_187 : decode cX11_order 187 = .ok (.ifCond .eq 7, 3) := dq_707.2.2.2.2.2.2.2.2.2.1
theorem dX11_order_190 : decode cX11_order 190 = .ok (.lconst 0, 1) := dq_707.2.2.2.2.2.2.2.2.2.2.1
theorem dX11_order_191 : decode cX11_order 191 = .ok (.goto 5, 3) := dq_707.2.2.2.2.2.2.2.2.2.2.2
theorem dq_708 : decode cX11_order 194 = .ok (.lload 13, 2) ∧ decode cX11_order 196 = .ok (.lsub, 1) ∧ decode cX11_order 197 = .ok (.lstore 6, 2) ∧ decode cX11_order 199 = .ok (.iload 10, 2) ∧ decode cX11_order 201 = .ok (.iload 11, 2) ∧ decode cX11_order 203 = .ok (.ifCond .eq 7, 3) ∧ decode cX11_order 206 = .ok (.iconst 0, 1) ∧ decode cX11_order 207 = .ok (.goto 4, 3) ∧ decode cX11_order 210 = .ok (.iconst 1, 1) ∧ decode cX11_order 211 = .ok (.iadd, 1) ∧ decode cX11_order 212 = .ok (.istore 10, 2) ∧ decode cX11_order 214 = .ok (.goto (-111), 3) := by decide +kernel
theorem dX11_order_194 : decode cX11_order 194 = .ok (.lload 13, 2) := dq_708.1
theorem dX11_order_196 : decode cX11_order 196 = .ok (.lsub, 1) := dq_708.2.1
theorem dX11_order_197 : decode cX11_order 197 = .ok (.lstore 6, 2) := dq_708.2.2.1
theorem dX11_order_199 : decode cX11_order 199 = .ok (.iload 10, 2) := dq_708.2.2.2.1
theorem dX11_order_201 : decode cX11_order 201 = .ok (.iload 11, 2) := dq_708.2.2.2.2.1
theorem dX11_order_203 : decode cX11_order 203 = .ok (.ifCond .eq 7, 3) := dq_708.2.2.2.2.2.1
theorem dX11_order_206 : decode cX11_order 206 = .ok (.iconst 0, 1) := dq_708.2.2.2.2.2.2.1
theorem dX11_order_207 : decode cX11_order 207 = .ok (.goto 4, 3) := dq_708.2.2.2.2.2.2.2.1
theorem dX11_order_210 : decode cX11_order 210 = .ok (.iconst 1, 1) := dq_708.2.2.2.2.2.2.2.2.1
theorem dX11_order_211 : decode cX11_order 211 = .ok (.iadd, 1) := dq_708.2.2.2.2.2.2.2.2.2.1
theorem dX11_order_212 : decode cX11_order 212 = .ok (.istore 10, 2) := dq_708.2.2.2.2.2.2.2.2.2.2.1
theorem dX11_order_214 : decode cX11_order 214 = .ok (.goto (-111), 3) := dq_708.2.2.2.2.2.2.2.2.2.2.2
theorem dq_709 : decode cX11_order 217 = .ok (.iload 5, 2) ∧ decode cX11_order 219 = .ok (.iconst 1, 1) ∧ decode cX11_order 220 = .ok (.iload 10, 2) ∧ decode cX11_order 222 = .ok (.ishl, 1) ∧ decode cX11_order 223 = .ok (.ior, 1) ∧ decode cX11_order 224 = .ok (.istore 5, 2) ∧ decode cX11_order 226 = .ok (.iload 10, 2) ∧ decode cX11_order 228 = .ok (.istore 8, 2) ∧ decode cX11_order 230 = .ok (.iinc 9 1, 3) ∧ decode cX11_order 233 = .ok (.goto (-142), 3) ∧ decode cX11_order 236 = .ok (.iload 8, 2) ∧ decode cX11_order 238 = .ok (.ireturn, 1) := by decide +kernel
theorem dX11_order_217 : decode cX11_order 217 = .ok (.iload 5, 2) := dq_709.1
theorem dX11_order_219 : decode cX11_order 219 = .ok (.iconst 1, 1) := dq_709.2.1
theorem dX11_order_220 : decode cX11_order 220 = .ok (.iload 10, 2) := dq_709.2.2.1
theorem dX11_order_222 : decode cX11_order 222 = .ok (.ishl, 1) := dq_709.2.2.2.1
theorem dX11_order_223 : decode cX11_order 223 = .ok (.ior, 1) := dq_709.2.2.2.2.1
theorem dX11_order_224 : decode cX11_order 224 = .ok (.istore 5, 2) := dq_709.2.2.2.2.2.1
theorem dX11_order_226 : decode cX11_order 226 = .ok (.iload 10, 2) := dq_709.2.2.2.2.2.2.1
theorem dX11_order_228 : decode cX11_order 228 = .ok (.istore 8, 2) := dq_709.2.2.2.2.2.2.2.1
theorem dX11_order_230 : decode cX11_order 230 = .ok (.iinc 9 1, 3) := dq_709.2.2.2.2.2.2.2.2.1
theorem dX11_order_233 : decode cX11_order 233 = .ok (.goto (-142), 3) := dq_709.2.2.2.2.2.2.2.2.2.1
theorem dX11_order_236 : decode cX11_order 236 = .ok (.iload 8, 2) := dq_709.2.2.2.2.2.2.2.2.2.2.1
theorem dX11_order_238 : decode cX11_order 238 = .ok (.ireturn, 1) := dq_709.2.2.2.2.2.2.2.2.2.2.2
theorem dq_710 : decode cX11_isRow 0 = .ok (.aload_n 0, 1) ∧ decode cX11_isRow 1 = .ok (.iload_n 1, 1) ∧ decode cX11_isRow 2 = .ok (.invokevirtual 194, 3) ∧ decode cX11_isRow 5 = .ok (.ifCond .eq 16, 3) ∧ decode cX11_isRow 8 = .ok (.aload_n 0, 1) ∧ decode cX11_isRow 9 = .ok (.getfield 19, 3) ∧ decode cX11_isRow 12 = .ok (.iload_n 1, 1) ∧ decode cX11_isRow 13 = .ok (.iaload, 1) ∧ decode cX11_isRow 14 = .ok (.ifCond .le 7, 3) ∧ decode cX11_isRow 17 = .ok (.iconst 1, 1) ∧ decode cX11_isRow 18 = .ok (.goto 4, 3) ∧ decode cX11_isRow 21 = .ok (.iconst 0, 1) := by decide +kernel
theorem dX11_isRow_0 : decode cX11_isRow 0 = .ok (.aload_n 0, 1) := dq_710.1
theorem dX11_isRow_1 : decode cX11_isRow 1 = .ok (.iload_n 1, 1) := dq_710.2.1
theorem dX11_isRow_2 : decode cX11_isRow 2 = .ok (.invokevirtual 194, 3) := dq_710.2.2.1
theorem dX11_isRow_5 : decode cX11_isRow 5 = .ok (.ifCond .eq 16, 3) := dq_710.2.2.2.1
theorem dX11_isRow_8 : decode cX11_isRow 8 = .ok (.aload_n 0, 1) := dq_710.2.2.2.2.1
theorem dX11_isRow_9 : decode cX11_isRow 9 = .ok (.getfield 19, 3) := dq_710.2.2.2.2.2.1
theorem dX11_isRow_12 : decode cX11_isRow 12 = .ok (.iload_n 1, 1) := dq_710.2.2.2.2.2.2.1
theorem dX11_isRow_13 : decode cX11_isRow 13 = .ok (.iaload, 1) := dq_710.2.2.2.2.2.2.2.1
theorem dX11_isRow_14 : decode cX11_isRow 14 = .ok (.ifCond .le 7, 3) := dq_710.2.2.2.2.2.2.2.2.1
theorem dX11_isRow_17 : decode cX11_isRow 17 = .ok (.iconst 1, 1) := dq_710.2.2.2.2.2.2.2.2.2.1
theorem dX11_isRow_18 : decode cX11_isRow 18 = .ok (.goto 4, 3) := dq_710.2.2.2.2.2.2.2.2.2.2.1
theorem dX11_isRow_21 : decode cX11_isRow 21 = .ok (.iconst 0, 1) := dq_710.2.2.2.2.2.2.2.2.2.2.2
theorem dX11_isRow_22 : decode cX11_isRow 22 = .ok (.ireturn, 1) := by decide +kernel
theorem dq_712 : decode cX11_size 0 = .ok (.aload_n 0, 1) ∧ decode cX11_size 1 = .ok (.iload_n 1, 1) ∧ decode cX11_size 2 = .ok (.invokevirtual 226, 3) ∧ decode cX11_size 5 = .ok (.ifCond .eq 35, 3) ∧ decode cX11_size 8 = .ok (.iload_n 2, 1) ∧ decode cX11_size 9 = .ok (.i2l, 1) ∧ decode cX11_size 10 = .ok (.lconst 0, 1) ∧ decode cX11_size 11 = .ok (.lconst 1, 1) ∧ decode cX11_size 12 = .ok (.invokestatic 96, 3) ∧ decode cX11_size 15 = .ok (.ifCond .eq 25, 3) ∧ decode cX11_size 18 = .ok (.aload_n 0, 1) ∧ decode cX11_size 19 = .ok (.getfield 22, 3) := by decide +kernel
theorem dX11_size_0 : decode cX11_size 0 = .ok (.aload_n 0, 1) := dq_712.1
theorem dX11_size_1 : decode cX11_size 1 = .ok (.iload_n 1, 1) := dq_712.2.1
theorem dX11_size_2 : decode cX11_size 2 = .ok (.invokevirtual 226, 3) := dq_712.2.2.1
theorem dX11_size_5 : decode cX11_size 5 = .ok (.ifCond .eq 35, 3) := dq_712.2.2.2.1
theorem dX11_size_8 : decode cX11_size 8 = .ok (.iload_n 2, 1) := dq_712.2.2.2.2.1
theorem dX11_size_9 : decode cX11_size 9 = .ok (.i2l, 1) := dq_712.2.2.2.2.2.1
theorem dX11_size_10 : decode cX11_size 10 = .ok (.lconst 0, 1) := dq_712.2.2.2.2.2.2.1
theorem dX11_size_11 : decode cX11_size 11 = .ok (.lconst 1, 1) := dq_712.2.2.2.2.2.2.2.1
theorem dX11_size_12 : decode cX11_size 12 = .ok (.invokestatic 96, 3) := dq_712.2.2.2.2.2.2.2.2.1
theorem dX11_size_15 : decode cX11_size 15 = .ok (.ifCond .eq 25, 3) := dq_712.2.2.2.2.2.2.2.2.2.1
theorem dX11_size_18 : decode cX11_size 18 = .ok (.aload_n 0, 1) := dq_712.2.2.2.2.2.2.2.2.2.2.1
theorem dX11_size_19 : decode cX11_size 19 = .ok (.getfield 22, 3) := dq_712.2.2.2.2.2.2.2.2.2.2.2
theorem dq_713 : decode cX11_size 22 = .ok (.iload_n 1, 1) ∧ decode cX11_size 23 = .ok (.iaload, 1) ∧ decode cX11_size 24 = .ok (.i2l, 1) ∧ decode cX11_size 25 = .ok (.aload_n 0, 1) ∧ decode cX11_size 26 = .ok (.getfield 19, 3) ∧ decode cX11_size 29 = .ok (.iload_n 1, 1) ∧ decode cX11_size 30 = .ok (.iaload, 1) ∧ decode cX11_size 31 = .ok (.i2l, 1) ∧ decode cX11_size 32 = .ok (.iload_n 2, 1) ∧ decode cX11_size 33 = .ok (.invokestatic 222, 3) ∧ decode cX11_size 36 = .ok (.l2i, 1) ∧ decode cX11_size 37 = .ok (.goto 4, 3) := by decide +kernel
theorem dX11_size_22 : decode cX11_size 22 = .ok (.iload_n 1, 1) := dq_713.1
theorem dX11_size_23 : decode cX11_size 23 = .ok (.iaload, 1) := dq_713.2.1
theorem dX11_size_24 : decode cX11_size 24 = .ok (.i2l, 1) := dq_713.2.2.1
theorem dX11_size_25 : decode cX11_size 25 = .ok (.aload_n 0, 1) := dq_713.2.2.2.1
theorem dX11_size_26 : decode cX11_size 26 = .ok (.getfield 19, 3) := dq_713.2.2.2.2.1
theorem dX11_size_29 : decode cX11_size 29 = .ok (.iload_n 1, 1) := dq_713.2.2.2.2.2.1
theorem dX11_size_30 : decode cX11_size 30 = .ok (.iaload, 1) := dq_713.2.2.2.2.2.2.1
theorem dX11_size_31 : decode cX11_size 31 = .ok (.i2l, 1) := dq_713.2.2.2.2.2.2.2.1
theorem dX11_size_32 : decode cX11_size 32 = .ok (.iload_n 2, 1) := dq_713.2.2.2.2.2.2.2.2.1
theorem dX11_size_33 : decode cX11_size 33 = .ok (.invokestatic 222, 3) := dq_713.2.2.2.2.2.2.2.2.2.1
theorem dX11_size_36 : decode cX11_size 36 = .ok (.l2i, 1) := dq_713.2.2.2.2.2.2.2.2.2.2.1
theorem dX11_size_37 : decode cX11_size 37 = .ok (.goto 4, 3) := dq_713.2.2.2.2.2.2.2.2.2.2.2
theorem dq_714 : decode cX11_size 40 = .ok (.iconst (-1), 1) ∧ decode cX11_size 41 = .ok (.ireturn, 1) := by decide +kernel
theorem dX11_size_40 : decode cX11_size 40 = .ok (.iconst (-1), 1) := dq_714.1
theorem dX11_size_41 : decode cX11_size 41 = .ok (.ireturn, 1) := dq_714.2
theorem dq_715 : decode cX11_above 0 = .ok (.aload_n 0, 1) ∧ decode cX11_above 1 = .ok (.getfield 22, 3) ∧ decode cX11_above 4 = .ok (.iload_n 1, 1) ∧ decode cX11_above 5 = .ok (.iaload, 1) ∧ decode cX11_above 6 = .ok (.aload_n 0, 1) ∧ decode cX11_above 7 = .ok (.getfield 19, 3) ∧ decode cX11_above 10 = .ok (.iload_n 2, 1) ∧ decode cX11_above 11 = .ok (.iaload, 1) ∧ decode cX11_above 12 = .ok (.imul, 1) ∧ decode cX11_above 13 = .ok (.aload_n 0, 1) ∧ decode cX11_above 14 = .ok (.getfield 22, 3) ∧ decode cX11_above 17 = .ok (.iload_n 2, 1) := by decide +kernel
theorem dX11_above_0 : decode cX11_above 0 = .ok (.aload_n 0, 1) := dq_715.1
theorem dX11_above_1 : decode cX11_above 1 = .ok (.getfield 22, 3) := dq_715.2.1
theorem dX11_above_4 : decode cX11_above 4 = .ok (.iload_n 1, 1) := dq_715.2.2.1
theorem dX11_above_5 : decode cX11_above 5 = .ok (.iaload, 1) := dq_715.2.2.2.1
theorem dX11_above_6 : decode cX11_above 6 = .ok (.aload_n 0, 1) := dq_715.2.2.2.2.1
theorem dX11_above_7 : decode cX11_above 7 = .ok (.getfield 19, 3) := dq_715.2.2.2.2.2.1
theorem dX11_above_10 : decode cX11_above 10 = .ok (.iload_n 2, 1) := dq_715.2.2.2.2.2.2.1
theorem dX11_above_11 : decode cX11_above 11 = .ok (.iaload, 1) := dq_715.2.2.2.2.2.2.2.1
theorem dX11_above_12 : decode cX11_above 12 = .ok (.imul, 1) := dq_715.2.2.2.2.2.2.2.2.1
theorem dX11_above_13 : decode cX11_above 13 = .ok (.aload_n 0, 1) := dq_715.2.2.2.2.2.2.2.2.2.1
theorem dX11_above_14 : decode cX11_above 14 = .ok (.getfield 22, 3) := dq_715.2.2.2.2.2.2.2.2.2.2.1
theorem dX11_above_17 : decode cX11_above 17 = .ok (.iload_n 2, 1) := dq_715.2.2.2.2.2.2.2.2.2.2.2
theorem dq_716 : decode cX11_above 18 = .ok (.iaload, 1) ∧ decode cX11_above 19 = .ok (.aload_n 0, 1) ∧ decode cX11_above 20 = .ok (.getfield 19, 3) ∧ decode cX11_above 23 = .ok (.iload_n 1, 1) ∧ decode cX11_above 24 = .ok (.iaload, 1) ∧ decode cX11_above 25 = .ok (.imul, 1) ∧ decode cX11_above 26 = .ok (.isub, 1) ∧ decode cX11_above 27 = .ok (.ireturn, 1) := by decide +kernel
theorem dX11_above_18 : decode cX11_above 18 = .ok (.iaload, 1) := dq_716.1
theorem dX11_above_19 : decode cX11_above 19 = .ok (.aload_n 0, 1) := dq_716.2.1
theorem dX11_above_20 : decode cX11_above 20 = .ok (.getfield 19, 3) := dq_716.2.2.1
theorem dX11_above_23 : decode cX11_above 23 = .ok (.iload_n 1, 1) := dq_716.2.2.2.1
theorem dX11_above_24 : decode cX11_above 24 = .ok (.iaload, 1) := dq_716.2.2.2.2.1
theorem dX11_above_25 : decode cX11_above 25 = .ok (.imul, 1) := dq_716.2.2.2.2.2.1
theorem dX11_above_26 : decode cX11_above 26 = .ok (.isub, 1) := dq_716.2.2.2.2.2.2.1
theorem dX11_above_27 : decode cX11_above 27 = .ok (.ireturn, 1) := dq_716.2.2.2.2.2.2.2
theorem dq_717 : decode cX11_areSure 0 = .ok (.aload_n 0, 1) ∧ decode cX11_areSure 1 = .ok (.iload_n 1, 1) ∧ decode cX11_areSure 2 = .ok (.iload_n 2, 1) ∧ decode cX11_areSure 3 = .ok (.invokevirtual 229, 3) ∧ decode cX11_areSure 6 = .ok (.istore_n 3, 1) ∧ decode cX11_areSure 7 = .ok (.bipush 10, 2) ∧ decode cX11_areSure 9 = .ok (.iload_n 3, 1) ∧ decode cX11_areSure 10 = .ok (.ifCond .ge 8, 3) ∧ decode cX11_areSure 13 = .ok (.iload_n 3, 1) ∧ decode cX11_areSure 14 = .ok (.ineg, 1) ∧ decode cX11_areSure 15 = .ok (.goto 4, 3) ∧ decode cX11_areSure 18 = .ok (.iload_n 3, 1) := by decide +kernel
theorem dX11_areSure_0 : decode cX11_areSure 0 = .ok (.aload_n 0, 1) := dq_717.1
theorem dX11_areSure_1 : decode cX11_areSure 1 = .ok (.iload_n 1, 1) := dq_717.2.1
theorem dX11_areSure_2 : decode cX11_areSure 2 = .ok (.iload_n 2, 1) := dq_717.2.2.1
theorem dX11_areSure_3 : decode cX11_areSure 3 = .ok (.invokevirtual 229, 3) := dq_717.2.2.2.1
theorem dX11_areSure_6 : decode cX11_areSure 6 = .ok (.istore_n 3, 1) := dq_717.2.2.2.2.1
theorem dX11_areSure_7 : decode cX11_areSure 7 = .ok (.bipush 10, 2) := dq_717.2.2.2.2.2.1
theorem dX11_areSure_9 : decode cX11_areSure 9 = .ok (.iload_n 3, 1) := dq_717.2.2.2.2.2.2.1
theorem dX11_areSure_10 : decode cX11_areSure 10 = .ok (.ifCond .ge 8, 3) := dq_717.2.2.2.2.2.2.2.1
theorem dX11_areSure_13 : decode cX11_areSure 13 = .ok (.iload_n 3, 1) := dq_717.2.2.2.2.2.2.2.2.1
theorem dX11_areSure_14 : decode cX11_areSure 14 = .ok (.ineg, 1) := dq_717.2.2.2.2.2.2.2.2.2.1
theorem dX11_areSure_15 : decode cX11_areSure 15 = .ok (.goto 4, 3) := dq_717.2.2.2.2.2.2.2.2.2.2.1
theorem dX11_areSure_18 : decode cX11_areSure 18 = .ok (.iload_n 3, 1) := dq_717.2.2.2.2.2.2.2.2.2.2.2
theorem dq_718 : decode cX11_areSure 19 = .ok (.imul, 1) ∧ decode cX11_areSure 20 = .ok (.aload_n 0, 1) ∧ decode cX11_areSure 21 = .ok (.getfield 31, 3) ∧ decode cX11_areSure 24 = .ok (.aload_n 0, 1) ∧ decode cX11_areSure 25 = .ok (.getfield 19, 3) ∧ decode cX11_areSure 28 = .ok (.iload_n 1, 1) ∧ decode cX11_areSure 29 = .ok (.iaload, 1) ∧ decode cX11_areSure 30 = .ok (.imul, 1) ∧ decode cX11_areSure 31 = .ok (.aload_n 0, 1) ∧ decode cX11_areSure 32 = .ok (.getfield 19, 3) ∧ decode cX11_areSure 35 = .ok (.iload_n 2, 1) ∧ decode cX11_areSure 36 = .ok (.iaload, 1) := by decide +kernel
theorem dX11_areSure_19 : decode cX11_areSure 19 = .ok (.imul, 1) := dq_718.1
theorem dX11_areSure_20 : decode cX11_areSure 20 = .ok (.aload_n 0, 1) := dq_718.2.1
theorem dX11_areSure_21 : decode cX11_areSure 21 = .ok (.getfield 31, 3) := dq_718.2.2.1
theorem dX11_areSure_24 : decode cX11_areSure 24 = .ok (.aload_n 0, 1) := dq_718.2.2.2.1
theorem dX11_areSure_25 : decode cX11_areSure 25 = .ok (.getfield 19, 3) := dq_718.2.2.2.2.1
theorem dX11_areSure_28 : decode cX11_areSure 28 = .ok (.iload_n 1, 1) := dq_718.2.2.2.2.2.1
theorem dX11_areSure_29 : decode cX11_areSure 29 = .ok (.iaload, 1) := dq_718.2.2.2.2.2.2.1
theorem dX11_areSure_30 : decode cX11_areSure 30 = .ok (.imul, 1) := dq_718.2.2.2.2.2.2.2.1
theorem dX11_areSure_31 : decode cX11_areSure 31 = .ok (.aload_n 0, 1) := dq_718.2.2.2.2.2.2.2.2.1
theorem dX11_areSure_32 : decode cX11_areSure 32 = .ok (.getfield 19, 3) := dq_718.2.2.2.2.2.2.2.2.2.1
theorem dX11_areSure_35 : decode cX11_areSure 35 = .ok (.iload_n 2, 1) := dq_718.2.2.2.2.2.2.2.2.2.2.1
theorem dX11_areSure_36 : decode cX11_areSure 36 = .ok (.iaload, 1) := dq_718.2.2.2.2.2.2.2.2.2.2.2
theorem dq_719 : decode cX11_areSure 37 = .ok (.imul, 1) ∧ decode cX11_areSure 38 = .ok (.if_icmp .le 7, 3) ∧ decode cX11_areSure 41 = .ok (.iconst 1, 1) ∧ decode cX11_areSure 42 = .ok (.goto 4, 3) ∧ decode cX11_areSure 45 = .ok (.iconst 0, 1) ∧ decode cX11_areSure 46 = .ok (.ireturn, 1) := by decide +kernel
theorem dX11_areSure_37 : decode cX11_areSure 37 = .ok (.imul, 1) := dq_719.1
theorem dX11_areSure_38 : decode cX11_areSure 38 = .ok (.if_icmp .le 7, 3) := dq_719.2.1
theorem dX11_areSure_41 : decode cX11_areSure 41 = .ok (.iconst 1, 1) := dq_719.2.2.1
theorem dX11_areSure_42 : decode cX11_areSure 42 = .ok (.goto 4, 3) := dq_719.2.2.2.1
theorem dX11_areSure_45 : decode cX11_areSure 45 = .ok (.iconst 0, 1) := dq_719.2.2.2.2.1
theorem dX11_areSure_46 : decode cX11_areSure 46 = .ok (.ireturn, 1) := dq_719.2.2.2.2.2
theorem dq_720 : decode cX11_sure 0 = .ok (.aload_n 0, 1) ∧ decode cX11_sure 1 = .ok (.iload_n 1, 1) ∧ decode cX11_sure 2 = .ok (.invokevirtual 226, 3) ∧ decode cX11_sure 5 = .ok (.ifCond .eq 33, 3) ∧ decode cX11_sure 8 = .ok (.aload_n 0, 1) ∧ decode cX11_sure 9 = .ok (.iload_n 2, 1) ∧ decode cX11_sure 10 = .ok (.invokevirtual 226, 3) ∧ decode cX11_sure 13 = .ok (.ifCond .eq 25, 3) ∧ decode cX11_sure 16 = .ok (.iload_n 1, 1) ∧ decode cX11_sure 17 = .ok (.iload_n 2, 1) ∧ decode cX11_sure 18 = .ok (.if_icmp .eq 20, 3) ∧ decode cX11_sure 21 = .ok (.aload_n 0, 1) := by decide +kernel
theorem dX11_sure_0 : decode cX11_sure 0 = .ok (.aload_n 0, 1) := dq_720.1
theorem dX11_sure_1 : decode cX11_sure 1 = .ok (.iload_n 1, 1) := dq_720.2.1
theorem dX11_sure_2 : decode cX11_sure 2 = .ok (.invokevirtual 226, 3) := dq_720.2.2.1
theorem dX11_sure_5 : decode cX11_sure 5 = .ok (.ifCond .eq 33, 3) := dq_720.2.2.2.1
theorem dX11_sure_8 : decode cX11_sure 8 = .ok (.aload_n 0, 1) := dq_720.2.2.2.2.1
theorem dX11_sure_9 : decode cX11_sure 9 = .ok (.iload_n 2, 1) := dq_720.2.2.2.2.2.1
theorem dX11_sure_10 : decode cX11_sure 10 = .ok (.invokevirtual 226, 3) := dq_720.2.2.2.2.2.2.1
theorem dX11_sure_13 : decode cX11_sure 13 = .ok (.ifCond .eq 25, 3) := dq_720.2.2.2.2.2.2.2.1
theorem dX11_sure_16 : decode cX11_sure 16 = .ok (.iload_n 1, 1) := dq_720.2.2.2.2.2.2.2.2.1
theorem dX11_sure_17 : decode cX11_sure 17 = .ok (.iload_n 2, 1) := dq_720.2.2.2.2.2.2.2.2.2.1
theorem dX11_sure_18 : decode cX11_sure 18 = .ok (.if_icmp .eq 20, 3) := dq_720.2.2.2.2.2.2.2.2.2.2.1
theorem dX11_sure_21 : decode cX11_sure 21 = .ok (.aload_n 0, 1) := dq_720.2.2.2.2.2.2.2.2.2.2.2
theorem dq_721 : decode cX11_sure 22 = .ok (.iload_n 1, 1) ∧ decode cX11_sure 23 = .ok (.iload_n 2, 1) ∧ decode cX11_sure 24 = .ok (.invokevirtual 232, 3) ∧ decode cX11_sure 27 = .ok (.ifCond .eq 7, 3) ∧ decode cX11_sure 30 = .ok (.iconst 1, 1) ∧ decode cX11_sure 31 = .ok (.goto 8, 3) ∧ decode cX11_sure 34 = .ok (.iconst 0, 1) ∧ decode cX11_sure 35 = .ok (.goto 4, 3) ∧ decode cX11_sure 38 = .ok (.iconst (-1), 1) ∧ decode cX11_sure 39 = .ok (.ireturn, 1) := by decide +kernel
theorem dX11_sure_22 : decode cX11_sure 22 = .ok (.iload_n 1, 1) := dq_721.1
theorem dX11_sure_23 : decode cX11_sure 23 = .ok (.iload_n 2, 1) := dq_721.2.1
theorem dX11_sure_24 : decode cX11_sure 24 = .ok (.invokevirtual 232, 3) := dq_721.2.2.1
theorem dX11_sure_27 : decode cX11_sure 27 = .ok (.ifCond .eq 7, 3) := dq_721.2.2.2.1
theorem dX11_sure_30 : decode cX11_sure 30 = .ok (.iconst 1, 1) := dq_721.2.2.2.2.1
theorem dX11_sure_31 : decode cX11_sure 31 = .ok (.goto 8, 3) := dq_721.2.2.2.2.2.1
theorem dX11_sure_34 : decode cX11_sure 34 = .ok (.iconst 0, 1) := dq_721.2.2.2.2.2.2.1
theorem dX11_sure_35 : decode cX11_sure 35 = .ok (.goto 4, 3) := dq_721.2.2.2.2.2.2.2.1
theorem dX11_sure_38 : decode cX11_sure 38 = .ok (.iconst (-1), 1) := dq_721.2.2.2.2.2.2.2.2.1
theorem dX11_sure_39 : decode cX11_sure 39 = .ok (.ireturn, 1) := dq_721.2.2.2.2.2.2.2.2.2
theorem dq_722 : decode cX11_hands 0 = .ok (.iload_n 1, 1) ∧ decode cX11_hands 1 = .ok (.ifCond .lt 15, 3) ∧ decode cX11_hands 4 = .ok (.iload_n 1, 1) ∧ decode cX11_hands 5 = .ok (.i2l, 1) ∧ decode cX11_hands 6 = .ok (.lconst 1, 1) ∧ decode cX11_hands 7 = .ok (.ldc2_w 236, 3) ∧ decode cX11_hands 10 = .ok (.invokestatic 96, 3) ∧ decode cX11_hands 13 = .ok (.ifCond .eq 5, 3) ∧ decode cX11_hands 16 = .ok (.iconst (-1), 1) ∧ decode cX11_hands 17 = .ok (.ireturn, 1) ∧ decode cX11_hands 18 = .ok (.iconst 0, 1) ∧ decode cX11_hands 19 = .ok (.istore_n 2, 1) := by decide +kernel
theorem dX11_hands_0 : decode cX11_hands 0 = .ok (.iload_n 1, 1) := dq_722.1
theorem dX11_hands_1 : decode cX11_hands 1 = .ok (.ifCond .lt 15, 3) := dq_722.2.1
theorem dX11_hands_4 : decode cX11_hands 4 = .ok (.iload_n 1, 1) := dq_722.2.2.1
theorem dX11_hands_5 : decode cX11_hands 5 = .ok (.i2l, 1) := dq_722.2.2.2.1
theorem dX11_hands_6 : decode cX11_hands 6 = .ok (.lconst 1, 1) := dq_722.2.2.2.2.1
theorem dX11_hands_7 : decode cX11_hands 7 = .ok (.ldc2_w 236, 3) := dq_722.2.2.2.2.2.1
theorem dX11_hands_10 : decode cX11_hands 10 = .ok (.invokestatic 96, 3) := dq_722.2.2.2.2.2.2.1
theorem dX11_hands_13 : decode cX11_hands 13 = .ok (.ifCond .eq 5, 3) := dq_722.2.2.2.2.2.2.2.1
theorem dX11_hands_16 : decode cX11_hands 16 = .ok (.iconst (-1), 1) := dq_722.2.2.2.2.2.2.2.2.1
theorem dX11_hands_17 : decode cX11_hands 17 = .ok (.ireturn, 1) := dq_722.2.2.2.2.2.2.2.2.2.1
theorem dX11_hands_18 : decode cX11_hands 18 = .ok (.iconst 0, 1) := dq_722.2.2.2.2.2.2.2.2.2.2.1
theorem dX11_hands_19 : decode cX11_hands 19 = .ok (.istore_n 2, 1) := dq_722.2.2.2.2.2.2.2.2.2.2.2
theorem dq_723 : decode cX11_hands 20 = .ok (.iconst 0, 1) ∧ decode cX11_hands 21 = .ok (.istore_n 3, 1) ∧ decode cX11_hands 22 = .ok (.iload_n 3, 1) ∧ decode cX11_hands 23 = .ok (.aload_n 0, 1) ∧ decode cX11_hands 24 = .ok (.getfield 184, 3) ∧ decode cX11_hands 27 = .ok (.if_icmp .ge 27, 3) ∧ decode cX11_hands 30 = .ok (.iload_n 2, 1) ∧ decode cX11_hands 31 = .ok (.aload_n 0, 1) ∧ decode cX11_hands 32 = .ok (.iload_n 3, 1) ∧ decode cX11_hands 33 = .ok (.invokevirtual 226, 3) ∧ decode cX11_hands 36 = .ok (.ifCond .eq 9, 3) ∧ decode cX11_hands 39 = .ok (.iconst 1, 1) := by decide +kernel
theorem dX11_hands_20 : decode cX11_hands 20 = .ok (.iconst 0, 1) := dq_723.1
theorem dX11_hands_21 : decode cX11_hands 21 = .ok (.istore_n 3, 1) := dq_723.2.1
theorem dX11_hands_22 : decode cX11_hands 22 = .ok (.iload_n 3, 1) := dq_723.2.2.1
theorem dX11_hands_23 : decode cX11_hands 23 = .ok (.aload_n 0, 1) := dq_723.2.2.2.1
theorem dX11_hands_24 : decode cX11_hands 24 = .ok (.getfield 184, 3) := dq_723.2.2.2.2.1
theorem dX11_hands_27 : decode cX11_hands 27 = .ok (.if_icmp .ge 27, 3) := dq_723.2.2.2.2.2.1
theorem dX11_hands_30 : decode cX11_hands 30 = .ok (.iload_n 2, 1) := dq_723.2.2.2.2.2.2.1
theorem dX11_hands_31 : decode cX11_hands 31 = .ok (.aload_n 0, 1) := dq_723.2.2.2.2.2.2.2.1
theorem dX11_hands_32 : decode cX11_hands 32 = .ok (.iload_n 3, 1) := dq_723.2.2.2.2.2.2.2.2.1
theorem dX11_hands_33 : decode cX11_hands 33 = .ok (.invokevirtual 226, 3) := dq_723.2.2.2.2.2.2.2.2.2.1
theorem dX11_hands_36 : decode cX11_hands 36 = .ok (.ifCond .eq 9, 3) := dq_723.2.2.2.2.2.2.2.2.2.2.1
theorem dX11_hands_39 : decode cX11_hands 39 = .ok (.iconst 1, 1) := dq_723.2.2.2.2.2.2.2.2.2.2.2
theorem dq_724 : decode cX11_hands 40 = .ok (.iload_n 3, 1) ∧ decode cX11_hands 41 = .ok (.ishl, 1) ∧ decode cX11_hands 42 = .ok (.goto 4, 3) ∧ decode cX11_hands 45 = .ok (.iconst 0, 1) ∧ decode cX11_hands 46 = .ok (.ior, 1) ∧ decode cX11_hands 47 = .ok (.istore_n 2, 1) ∧ decode cX11_hands 48 = .ok (.iinc 3 1, 3) ∧ decode cX11_hands 51 = .ok (.goto (-29), 3) ∧ decode cX11_hands 54 = .ok (.iconst 0, 1) ∧ decode cX11_hands 55 = .ok (.istore_n 3, 1) ∧ decode cX11_hands 56 = .ok (.iload_n 2, 1) ∧ decode cX11_hands 57 = .ok (.ifCond .eq 141, 3) := by decide +kernel
theorem dX11_hands_40 : decode cX11_hands 40 = .ok (.iload_n 3, 1) := dq_724.1
theorem dX11_hands_41 : decode cX11_hands 41 = .ok (.ishl, 1) := dq_724.2.1
theorem dX11_hands_42 : decode cX11_hands 42 = .ok (.goto 4, 3) := dq_724.2.2.1
theorem dX11_hands_45 : decode cX11_hands 45 = .ok (.iconst 0, 1) := dq_724.2.2.2.1
theorem dX11_hands_46 : decode cX11_hands 46 = .ok (.ior, 1) := dq_724.2.2.2.2.1
theorem dX11_hands_47 : decode cX11_hands 47 = .ok (.istore_n 2, 1) := dq_724.2.2.2.2.2.1
theorem dX11_hands_48 : decode cX11_hands 48 = .ok (.iinc 3 1, 3) := dq_724.2.2.2.2.2.2.1
theorem dX11_hands_51 : decode cX11_hands 51 = .ok (.goto (-29), 3) := dq_724.2.2.2.2.2.2.2.1
theorem dX11_hands_54 : decode cX11_hands 54 = .ok (.iconst 0, 1) := dq_724.2.2.2.2.2.2.2.2.1
theorem dX11_hands_55 : decode cX11_hands 55 = .ok (.istore_n 3, 1) := dq_724.2.2.2.2.2.2.2.2.2.1
theorem dX11_hands_56 : decode cX11_hands 56 = .ok (.iload_n 2, 1) := dq_724.2.2.2.2.2.2.2.2.2.2.1
theorem dX11_hands_57 : decode cX11_hands 57 = .ok (.ifCond .eq 141, 3) := dq_724.2.2.2.2.2.2.2.2.2.2.2
theorem dq_725 : decode cX11_hands 60 = .ok (.bipush (-4), 2) ∧ decode cX11_hands 62 = .ok (.istore 4, 2) ∧ decode cX11_hands 64 = .ok (.iconst 0, 1) ∧ decode cX11_hands 65 = .ok (.istore 5, 2) ∧ decode cX11_hands 67 = .ok (.iload 5, 2) ∧ decode cX11_hands 69 = .ok (.aload_n 0, 1) ∧ decode cX11_hands 70 = .ok (.getfield 184, 3) ∧ decode cX11_hands 73 = .ok (.if_icmp .ge 46, 3) ∧ decode cX11_hands 76 = .ok (.iload_n 2, 1) ∧ decode cX11_hands 77 = .ok (.iload 5, 2) ∧ decode cX11_hands 79 = .ok (.ishr, 1) ∧ decode cX11_hands 80 = .ok (.iconst 1, 1) := by decide +kernel
theorem dX11_hands_60 : decode cX11_hands 60 = .ok (.bipush (-4), 2) := dq_725.1
theorem dX11_hands_62 : decode cX11_hands 62 = .ok (.istore 4, 2) := dq_725.2.1
theorem dX11_hands_64 : decode cX11_hands 64 = .ok (.iconst 0, 1) := dq_725.2.2.1
theorem dX11_hands_65 : decode cX11_hands 65 = .ok (.istore 5, 2) := dq_725.2.2.2.1
theorem dX11_hands_67 : decode cX11_hands 67 = .ok (.iload 5, 2) := dq_725.2.2.2.2.1
theorem dX11_hands_69 : decode cX11_hands 69 = .ok (.aload_n 0, 1) := dq_725.2.2.2.2.2.1
theorem dX11_hands_70 : decode cX11_hands 70 = .ok (.getfield 184, 3) := dq_725.2.2.2.2.2.2.1
theorem dX11_hands_73 : decode cX11_hands 73 = .ok (.if_icmp .ge 46, 3) := dq_725.2.2.2.2.2.2.2.1
theorem dX11_hands_76 : decode cX11_hands 76 = .ok (.iload_n 2, 1) := dq_725.2.2.2.2.2.2.2.2.1
theorem dX11_hands_77 : decode cX11_hands 77 = .ok (.iload 5, 2) := dq_725.2.2.2.2.2.2.2.2.2.1
theorem dX11_hands_79 : decode cX11_hands 79 = .ok (.ishr, 1) := dq_725.2.2.2.2.2.2.2.2.2.2.1
theorem dX11_hands_80 : decode cX11_hands 80 = .ok (.iconst 1, 1) := dq_725.2.2.2.2.2.2.2.2.2.2.2
theorem dq_726 : decode cX11_hands 81 = .ok (.iand, 1) ∧ decode cX11_hands 82 = .ok (.iconst 1, 1) ∧ decode cX11_hands 83 = .ok (.if_icmp .ne 26, 3) ∧ decode cX11_hands 86 = .ok (.iload 4, 2) ∧ decode cX11_hands 88 = .ok (.bipush (-4), 2) ∧ decode cX11_hands 90 = .ok (.if_icmp .eq 14, 3) ∧ decode cX11_hands 93 = .ok (.aload_n 0, 1) ∧ decode cX11_hands 94 = .ok (.iload 5, 2) ∧ decode cX11_hands 96 = .ok (.iload 4, 2) ∧ decode cX11_hands 98 = .ok (.invokevirtual 229, 3) ∧ decode cX11_hands 101 = .ok (.ifCond .ge 8, 3) ∧ decode cX11_hands 104 = .ok (.iload 5, 2) := by decide +kernel
theorem dX11_hands_81 : decode cX11_hands 81 = .ok (.iand, 1) := dq_726.1
theorem dX11_hands_82 : decode cX11_hands 82 = .ok (.iconst 1, 1) := dq_726.2.1
theorem dX11_hands_83 : decode cX11_hands 83 = .ok (.if_icmp .ne 26, 3) := dq_726.2.2.1
theorem dX11_hands_86 : decode cX11_hands 86 = .ok (.iload 4, 2) := dq_726.2.2.2.1
theorem dX11_hands_88 : decode cX11_hands 88 = .ok (.bipush (-4), 2) := dq_726.2.2.2.2.1
theorem dX11_hands_90 : decode cX11_hands 90 = .ok (.if_icmp .eq 14, 3) := dq_726.2.2.2.2.2.1
theorem dX11_hands_93 : decode cX11_hands 93 = .ok (.aload_n 0, 1) := dq_726.2.2.2.2.2.2.1
theorem dX11_hands_94 : decode cX11_hands 94 = .ok (.iload 5, 2) := dq_726.2.2.2.2.2.2.2.1
theorem dX11_hands_96 : decode cX11_hands 96 = .ok (.iload 4, 2) := dq_726.2.2.2.2.2.2.2.2.1
theorem dX11_hands_98 : decode cX11_hands 98 = .ok (.invokevirtual 229, 3) := dq_726.2.2.2.2.2.2.2.2.2.1
theorem dX11_hands_101 : decode cX11_hands 101 = .ok (.ifCond .ge 8, 3) := dq_726.2.2.2.2.2.2.2.2.2.2.1
theorem dX11_hands_104 : decode cX11_hands 104 = .ok (.iload 5, 2) := dq_726.2.2.2.2.2.2.2.2.2.2.2
theorem dq_727 : decode cX11_hands 106 = .ok (.goto 5, 3) ∧ decode cX11_hands 109 = .ok (.iload 4, 2) ∧ decode cX11_hands 111 = .ok (.istore 4, 2) ∧ decode cX11_hands 113 = .ok (.iinc 5 1, 3) ∧ decode cX11_hands 116 = .ok (.goto (-49), 3) ∧ decode cX11_hands 119 = .ok (.iconst 0, 1) ∧ decode cX11_hands 120 = .ok (.istore 5, 2) ∧ decode cX11_hands 122 = .ok (.iconst 0, 1) ∧ decode cX11_hands 123 = .ok (.istore 6, 2) ∧ decode cX11_hands 125 = .ok (.iload 6, 2) ∧ decode cX11_hands 127 = .ok (.aload_n 0, 1) ∧ decode cX11_hands 128 = .ok (.getfield 184, 3) := by decide +kernel
theorem dX11_hands_106 : decode cX11_hands 106 = .ok (.goto 5, 3) := dq_727.1
theorem dX11_hands_109 : decode cX11_hands 109 = .ok (.iload 4, 2) := dq_727.2.1
theorem dX11_hands_111 : decode cX11_hands 111 = .ok (.istore 4, 2) := dq_727.2.2.1
theorem dX11_hands_113 : decode cX11_hands 113 = .ok (.iinc 5 1, 3) := dq_727.2.2.2.1
theorem dX11_hands_116 : decode cX11_hands 116 = .ok (.goto (-49), 3) := dq_727.2.2.2.2.1
theorem dX11_hands_119 : decode cX11_hands 119 = .ok (.iconst 0, 1) := dq_727.2.2.2.2.2.1
theorem dX11_hands_120 : decode cX11_hands 120 = .ok (.istore 5, 2) := dq_727.2.2.2.2.2.2.1
theorem dX11_hands_122 : decode cX11_hands 122 = .ok (.iconst 0, 1) := dq_727.2.2.2.2.2.2.2.1
theorem dX11_hands_123 : decode cX11_hands 123 = .ok (.istore 6, 2) := dq_727.2.2.2.2.2.2.2.2.1
theorem dX11_hands_125 : decode cX11_hands 125 = .ok (.iload 6, 2) := dq_727.2.2.2.2.2.2.2.2.2.1
theorem dX11_hands_127 : decode cX11_hands 127 = .ok (.aload_n 0, 1) := dq_727.2.2.2.2.2.2.2.2.2.2.1
theorem dX11_hands_128 : decode cX11_hands 128 = .ok (.getfield 184, 3) := dq_727.2.2.2.2.2.2.2.2.2.2.2
theorem dq_728 : decode cX11_hands 131 = .ok (.if_icmp .ge 43, 3) ∧ decode cX11_hands 134 = .ok (.iload 5, 2) ∧ decode cX11_hands 136 = .ok (.iload_n 2, 1) ∧ decode cX11_hands 137 = .ok (.iload 6, 2) ∧ decode cX11_hands 139 = .ok (.ishr, 1) ∧ decode cX11_hands 140 = .ok (.iconst 1, 1) ∧ decode cX11_hands 141 = .ok (.iand, 1) ∧ decode cX11_hands 142 = .ok (.iconst 1, 1) ∧ decode cX11_hands 143 = .ok (.if_icmp .ne 21, 3) ∧ decode cX11_hands 146 = .ok (.aload_n 0, 1) ∧ decode cX11_hands 147 = .ok (.iload 6, 2) ∧ decode cX11_hands 149 = .ok (.iload 4, 2) := by decide +kernel
theorem dX11_hands_131 : decode cX11_hands 131 = .ok (.if_icmp .ge 43, 3) := dq_728.1
theorem dX11_hands_134 : decode cX11_hands 134 = .ok (.iload 5, 2) := dq_728.2.1
theorem dX11_hands_136 : decode cX11_hands 136 = .ok (.iload_n 2, 1) := dq_728.2.2.1
theorem dX11_hands_137 : decode cX11_hands 137 = .ok (.iload 6, 2) := dq_728.2.2.2.1
theorem dX11_hands_139 : decode cX11_hands 139 = .ok (.ishr, 1) := dq_728.2.2.2.2.1
theorem dX11_hands_140 : decode cX11_hands 140 = .ok (.iconst 1, 1) := dq_728.2.2.2.2.2.1
theorem dX11_hands_141 : decode cX11_hands 141 = .ok (.iand, 1) := dq_728.2.2.2.2.2.2.1
theorem dX11_hands_142 : decode cX11_hands 142 = .ok (.iconst 1, 1) := dq_728.2.2.2.2.2.2.2.1
theorem dX11_hands_143 : decode cX11_hands 143 = .ok (.if_icmp .ne 21, 3) := dq_728.2.2.2.2.2.2.2.2.1
theorem dX11_hands_146 : decode cX11_hands 146 = .ok (.aload_n 0, 1) := dq_728.2.2.2.2.2.2.2.2.2.1
theorem dX11_hands_147 : decode cX11_hands 147 = .ok (.iload 6, 2) := dq_728.2.2.2.2.2.2.2.2.2.2.1
theorem dX11_hands_149 : decode cX11_hands 149 = .ok (.iload 4, 2) := dq_728.2.2.2.2.2.2.2.2.2.2.2
theorem dq_729 : decode cX11_hands 151 = .ok (.invokevirtual 232, 3) ∧ decode cX11_hands 154 = .ok (.ifCond .ne 10, 3) ∧ decode cX11_hands 157 = .ok (.iconst 1, 1) ∧ decode cX11_hands 158 = .ok (.iload 6, 2) ∧ decode cX11_hands 160 = .ok (.ishl, 1) ∧ decode cX11_hands 161 = .ok (.goto 4, 3) ∧ decode cX11_hands 164 = .ok (.iconst 0, 1) ∧ decode cX11_hands 165 = .ok (.ior, 1) ∧ decode cX11_hands 166 = .ok (.istore 5, 2) ∧ decode cX11_hands 168 = .ok (.iinc 6 1, 3) ∧ decode cX11_hands 171 = .ok (.goto (-46), 3) ∧ decode cX11_hands 174 = .ok (.iload_n 3, 1) := by decide +kernel
theorem dX11_hands_151 : decode cX11_hands 151 = .ok (.invokevirtual 232, 3) := dq_729.1
theorem dX11_hands_154 : decode cX11_hands 154 = .ok (.ifCond .ne 10, 3) := dq_729.2.1
theorem dX11_hands_157 : decode cX11_hands 157 = .ok (.iconst 1, 1) := dq_729.2.2.1
theorem dX11_hands_158 : decode cX11_hands 158 = .ok (.iload 6, 2) := dq_729.2.2.2.1
theorem dX11_hands_160 : decode cX11_hands 160 = .ok (.ishl, 1) := dq_729.2.2.2.2.1
theorem dX11_hands_161 : decode cX11_hands 161 = .ok (.goto 4, 3) := dq_729.2.2.2.2.2.1
theorem dX11_hands_164 : decode cX11_hands 164 = .ok (.iconst 0, 1) := dq_729.2.2.2.2.2.2.1
theorem dX11_hands_165 : decode cX11_hands 165 = .ok (.ior, 1) := dq_729.2.2.2.2.2.2.2.1
theorem dX11_hands_166 : decode cX11_hands 166 = .ok (.istore 5, 2) := dq_729.2.2.2.2.2.2.2.2.1
theorem dX11_hands_168 : decode cX11_hands 168 = .ok (.iinc 6 1, 3) := dq_729.2.2.2.2.2.2.2.2.2.1
theorem dX11_hands_171 : decode cX11_hands 171 = .ok (.goto (-46), 3) := dq_729.2.2.2.2.2.2.2.2.2.2.1
theorem dX11_hands_174 : decode cX11_hands 174 = .ok (.iload_n 3, 1) := dq_729.2.2.2.2.2.2.2.2.2.2.2
theorem dq_730 : decode cX11_hands 175 = .ok (.iload_n 1, 1) ∧ decode cX11_hands 176 = .ok (.bipush 10, 2) ∧ decode cX11_hands 178 = .ok (.isub, 1) ∧ decode cX11_hands 179 = .ok (.if_icmp .ne 6, 3) ∧ decode cX11_hands 182 = .ok (.iload 5, 2) ∧ decode cX11_hands 184 = .ok (.ireturn, 1) ∧ decode cX11_hands 185 = .ok (.iload_n 2, 1) ∧ decode cX11_hands 186 = .ok (.iload 5, 2) ∧ decode cX11_hands 188 = .ok (.iconst (-1), 1) ∧ decode cX11_hands 189 = .ok (.ixor, 1) ∧ decode cX11_hands 190 = .ok (.iand, 1) ∧ decode cX11_hands 191 = .ok (.istore_n 2, 1) := by decide +kernel
theorem dX11_hands_175 : decode cX11_hands 175 = .ok (.iload_n 1, 1) := dq_730.1
theorem dX11_hands_176 : decode cX11_hands 176 = .ok (.bipush 10, 2) := dq_730.2.1
theorem dX11_hands_178 : decode cX11_hands 178 = .ok (.isub, 1) := dq_730.2.2.1
theorem dX11_hands_179 : decode cX11_hands 179 = .ok (.if_icmp .ne 6, 3) := dq_730.2.2.2.1
theorem dX11_hands_182 : decode cX11_hands 182 = .ok (.iload 5, 2) := dq_730.2.2.2.2.1
theorem dX11_hands_184 : decode cX11_hands 184 = .ok (.ireturn, 1) := dq_730.2.2.2.2.2.1
theorem dX11_hands_185 : decode cX11_hands 185 = .ok (.iload_n 2, 1) := dq_730.2.2.2.2.2.2.1
theorem dX11_hands_186 : decode cX11_hands 186 = .ok (.iload 5, 2) := dq_730.2.2.2.2.2.2.2.1
theorem dX11_hands_188 : decode cX11_hands 188 = .ok (.iconst (-1), 1) := dq_730.2.2.2.2.2.2.2.2.1
theorem dX11_hands_189 : decode cX11_hands 189 = .ok (.ixor, 1) := dq_730.2.2.2.2.2.2.2.2.2.1
theorem dX11_hands_190 : decode cX11_hands 190 = .ok (.iand, 1) := dq_730.2.2.2.2.2.2.2.2.2.2.1
theorem dX11_hands_191 : decode cX11_hands 191 = .ok (.istore_n 2, 1) := dq_730.2.2.2.2.2.2.2.2.2.2.2
theorem dq_731 : decode cX11_hands 192 = .ok (.iinc 3 1, 3) ∧ decode cX11_hands 195 = .ok (.goto (-139), 3) ∧ decode cX11_hands 198 = .ok (.iload_n 1, 1) ∧ decode cX11_hands 199 = .ok (.ifCond .ne 7, 3) ∧ decode cX11_hands 202 = .ok (.iload_n 3, 1) ∧ decode cX11_hands 203 = .ok (.goto 4, 3) ∧ decode cX11_hands 206 = .ok (.iconst (-1), 1) ∧ decode cX11_hands 207 = .ok (.ireturn, 1) := by decide +kernel
theorem dX11_hands_192 : decode cX11_hands 192 = .ok (.iinc 3 1, 3) := dq_731.1
theorem dX11_hands_195 : decode cX11_hands 195 = .ok (.goto (-139), 3) := dq_731.2.1
theorem dX11_hands_198 : decode cX11_hands 198 = .ok (.iload_n 1, 1) := dq_731.2.2.1
theorem dX11_hands_199 : decode cX11_hands 199 = .ok (.ifCond .ne 7, 3) := dq_731.2.2.2.1
theorem dX11_hands_202 : decode cX11_hands 202 = .ok (.iload_n 3, 1) := dq_731.2.2.2.2.1
theorem dX11_hands_203 : decode cX11_hands 203 = .ok (.goto 4, 3) := dq_731.2.2.2.2.2.1
theorem dX11_hands_206 : decode cX11_hands 206 = .ok (.iconst (-1), 1) := dq_731.2.2.2.2.2.2.1
theorem dX11_hands_207 : decode cX11_hands 207 = .ok (.ireturn, 1) := dq_731.2.2.2.2.2.2.2
theorem dq_732 : decode cX11_knot 0 = .ok (.iload_n 1, 1) ∧ decode cX11_knot 1 = .ok (.i2l, 1) ∧ decode cX11_knot 2 = .ok (.lconst 0, 1) ∧ decode cX11_knot 3 = .ok (.ldc2_w 238, 3) ∧ decode cX11_knot 6 = .ok (.invokestatic 96, 3) ∧ decode cX11_knot 9 = .ok (.ifCond .eq 25, 3) ∧ decode cX11_knot 12 = .ok (.aload_n 0, 1) ∧ decode cX11_knot 13 = .ok (.getfield 240, 3) ∧ decode cX11_knot 16 = .ok (.ifCond .le 20, 3) ∧ decode cX11_knot 19 = .ok (.iload_n 1, 1) ∧ decode cX11_knot 20 = .ok (.aload_n 0, 1) ∧ decode cX11_knot 21 = .ok (.getfield 69, 3) := by decide +kernel
theorem dX11_knot_0 : decode cX11_knot 0 = .ok (.iload_n 1, 1) := dq_732.1
theorem dX11_knot_1 : decode cX11_knot 1 = .ok (.i2l, 1) := dq_732.2.1
theorem dX11_knot_2 : decode cX11_knot 2 = .ok (.lconst 0, 1) := dq_732.2.2.1
theorem dX11_knot_3 : decode cX11_knot 3 = .ok (.ldc2_w 238, 3) := dq_732.2.2.2.1
theorem dX11_knot_6 : decode cX11_knot 6 = .ok (.invokestatic 96, 3) := dq_732.2.2.2.2.1
theorem dX11_knot_9 : decode cX11_knot 9 = .ok (.ifCond .eq 25, 3) := dq_732.2.2.2.2.2.1
theorem dX11_knot_12 : decode cX11_knot 12 = .ok (.aload_n 0, 1) := dq_732.2.2.2.2.2.2.1
theorem dX11_knot_13 : decode cX11_knot 13 = .ok (.getfield 240, 3) := dq_732.2.2.2.2.2.2.2.1
theorem dX11_knot_16 : decode cX11_knot 16 = .ok (.ifCond .le 20, 3) := dq_732.2.2.2.2.2.2.2.2.1
theorem dX11_knot_19 : decode cX11_knot 19 = .ok (.iload_n 1, 1) := dq_732.2.2.2.2.2.2.2.2.2.1
theorem dX11_knot_20 : decode cX11_knot 20 = .ok (.aload_n 0, 1) := dq_732.2.2.2.2.2.2.2.2.2.2.1
theorem dX11_knot_21 : decode cX11_knot 21 = .ok (.getfield 69, 3) := dq_732.2.2.2.2.2.2.2.2.2.2.2
theorem dq_733 : decode cX11_knot 24 = .ok (.aload_n 0, 1) ∧ decode cX11_knot 25 = .ok (.getfield 240, 3) ∧ decode cX11_knot 28 = .ok (.iconst 1, 1) ∧ decode cX11_knot 29 = .ok (.isub, 1) ∧ decode cX11_knot 30 = .ok (.iaload, 1) ∧ decode cX11_knot 31 = .ok (.if_icmp .gt 5, 3) ∧ decode cX11_knot 34 = .ok (.iconst (-1), 1) ∧ decode cX11_knot 35 = .ok (.ireturn, 1) ∧ decode cX11_knot 36 = .ok (.aload_n 0, 1) ∧ decode cX11_knot 37 = .ok (.getfield 240, 3) ∧ decode cX11_knot 40 = .ok (.bipush 24, 2) ∧ decode cX11_knot 42 = .ok (.if_icmp .ne 6, 3) := by decide +kernel
theorem dX11_knot_24 : decode cX11_knot 24 = .ok (.aload_n 0, 1) := dq_733.1
theorem dX11_knot_25 : decode cX11_knot 25 = .ok (.getfield 240, 3) := dq_733.2.1
theorem dX11_knot_28 : decode cX11_knot 28 = .ok (.iconst 1, 1) := dq_733.2.2.1
theorem dX11_knot_29 : decode cX11_knot 29 = .ok (.isub, 1) := dq_733.2.2.2.1
theorem dX11_knot_30 : decode cX11_knot 30 = .ok (.iaload, 1) := dq_733.2.2.2.2.1
theorem dX11_knot_31 : decode cX11_knot 31 = .ok (.if_icmp .gt 5, 3) := dq_733.2.2.2.2.2.1
theorem dX11_knot_34 : decode cX11_knot 34 = .ok (.iconst (-1), 1) := dq_733.2.2.2.2.2.2.1
theorem dX11_knot_35 : decode cX11_knot 35 = .ok (.ireturn, 1) := dq_733.2.2.2.2.2.2.2.1
theorem dX11_knot_36 : decode cX11_knot 36 = .ok (.aload_n 0, 1) := dq_733.2.2.2.2.2.2.2.2.1
theorem dX11_knot_37 : decode cX11_knot 37 = .ok (.getfield 240, 3) := dq_733.2.2.2.2.2.2.2.2.2.1
theorem dX11_knot_40 : decode cX11_knot 40 = .ok (.bipush 24, 2) := dq_733.2.2.2.2.2.2.2.2.2.2.1
theorem dX11_knot_42 : decode cX11_knot 42 = .ok (.if_icmp .ne 6, 3) := dq_733.2.2.2.2.2.2.2.2.2.2.2
theorem dq_734 : decode cX11_knot 45 = .ok (.bipush (-3), 2) ∧ decode cX11_knot 47 = .ok (.ireturn, 1) ∧ decode cX11_knot 48 = .ok (.aload_n 0, 1) ∧ decode cX11_knot 49 = .ok (.getfield 69, 3) ∧ decode cX11_knot 52 = .ok (.aload_n 0, 1) ∧ decode cX11_knot 53 = .ok (.getfield 240, 3) ∧ decode cX11_knot 56 = .ok (.iload_n 1, 1) ∧ decode cX11_knot 57 = .ok (.iastore, 1) ∧ decode cX11_knot 58 = .ok (.aload_n 0, 1) ∧ decode cX11_knot 59 = .ok (.dup, 1) ∧ decode cX11_knot 60 = .ok (.getfield 240, 3) ∧ decode cX11_knot 63 = .ok (.iconst 1, 1) := by decide +kernel
theorem dX11_knot_45 : decode cX11_knot 45 = .ok (.bipush (-3), 2) := dq_734.1
theorem dX11_knot_47 : decode cX11_knot 47 = .ok (.ireturn, 1) := dq_734.2.1
theorem dX11_knot_48 : decode cX11_knot 48 = .ok (.aload_n 0, 1) := dq_734.2.2.1
theorem dX11_knot_49 : decode cX11_knot 49 = .ok (.getfield 69, 3) := dq_734.2.2.2.1
theorem dX11_knot_52 : decode cX11_knot 52 = .ok (.aload_n 0, 1) := dq_734.2.2.2.2.1
theorem dX11_knot_53 : decode cX11_knot 53 = .ok (.getfield 240, 3) := dq_734.2.2.2.2.2.1
theorem dX11_knot_56 : decode cX11_knot 56 = .ok (.iload_n 1, 1) := dq_734.2.2.2.2.2.2.1
theorem dX11_knot_57 : decode cX11_knot 57 = .ok (.iastore, 1) := dq_734.2.2.2.2.2.2.2.1
theorem dX11_knot_58 : decode cX11_knot 58 = .ok (.aload_n 0, 1) := dq_734.2.2.2.2.2.2.2.2.1
theorem dX11_knot_59 : decode cX11_knot 59 = .ok (.dup, 1) := dq_734.2.2.2.2.2.2.2.2.2.1
theorem dX11_knot_60 : decode cX11_knot 60 = .ok (.getfield 240, 3) := dq_734.2.2.2.2.2.2.2.2.2.2.1
theorem dX11_knot_63 : decode cX11_knot 63 = .ok (.iconst 1, 1) := dq_734.2.2.2.2.2.2.2.2.2.2.2
theorem dq_735 : decode cX11_knot 64 = .ok (.iadd, 1) ∧ decode cX11_knot 65 = .ok (.putfield 240, 3) ∧ decode cX11_knot 68 = .ok (.aload_n 0, 1) ∧ decode cX11_knot 69 = .ok (.getfield 240, 3) ∧ decode cX11_knot 72 = .ok (.ireturn, 1) := by decide +kernel
theorem dX11_knot_64 : decode cX11_knot 64 = .ok (.iadd, 1) := dq_735.1
theorem dX11_knot_65 : decode cX11_knot 65 = .ok (.putfield 240, 3) := dq_735.2.1
theorem dX11_knot_68 : decode cX11_knot 68 = .ok (.aload_n 0, 1) := dq_735.2.2.1
theorem dX11_knot_69 : decode cX11_knot 69 = .ok (.getfield 240, 3) := dq_735.2.2.2.1
theorem dX11_knot_72 : decode cX11_knot 72 = .ok (.ireturn, 1) := dq_735.2.2.2.2
theorem dq_736 : decode cX11_wipe 0 = .ok (.aload_n 0, 1) ∧ decode cX11_wipe 1 = .ok (.getfield 240, 3) ∧ decode cX11_wipe 4 = .ok (.istore_n 1, 1) ∧ decode cX11_wipe 5 = .ok (.aload_n 0, 1) ∧ decode cX11_wipe 6 = .ok (.iconst 0, 1) ∧ decode cX11_wipe 7 = .ok (.putfield 240, 3) ∧ decode cX11_wipe 10 = .ok (.iload_n 1, 1) ∧ decode cX11_wipe 11 = .ok (.ireturn, 1) := by decide +kernel
theorem dX11_wipe_0 : decode cX11_wipe 0 = .ok (.aload_n 0, 1) := dq_736.1
theorem dX11_wipe_1 : decode cX11_wipe 1 = .ok (.getfield 240, 3) := dq_736.2.1
theorem dX11_wipe_4 : decode cX11_wipe 4 = .ok (.istore_n 1, 1) := dq_736.2.2.1
theorem dX11_wipe_5 : decode cX11_wipe 5 = .ok (.aload_n 0, 1) := dq_736.2.2.2.1
theorem dX11_wipe_6 : decode cX11_wipe 6 = .ok (.iconst 0, 1) := dq_736.2.2.2.2.1
theorem dX11_wipe_7 : decode cX11_wipe 7 = .ok (.putfield 240, 3) := dq_736.2.2.2.2.2.1
theorem dX11_wipe_10 : decode cX11_wipe 10 = .ok (.iload_n 1, 1) := dq_736.2.2.2.2.2.2.1
theorem dX11_wipe_11 : decode cX11_wipe 11 = .ok (.ireturn, 1) := dq_736.2.2.2.2.2.2.2
theorem dq_737 : decode cX11_slipped 0 = .ok (.iconst 0, 1) ∧ decode cX11_slipped 1 = .ok (.istore_n 2, 1) ∧ decode cX11_slipped 2 = .ok (.iconst 1, 1) ∧ decode cX11_slipped 3 = .ok (.istore_n 3, 1) ∧ decode cX11_slipped 4 = .ok (.iload_n 3, 1) ∧ decode cX11_slipped 5 = .ok (.aload_n 0, 1) ∧ decode cX11_slipped 6 = .ok (.getfield 240, 3) ∧ decode cX11_slipped 9 = .ok (.if_icmp .ge 36, 3) ∧ decode cX11_slipped 12 = .ok (.iload_n 2, 1) ∧ decode cX11_slipped 13 = .ok (.aload_n 0, 1) ∧ decode cX11_slipped 14 = .ok (.getfield 69, 3) ∧ decode cX11_slipped 17 = .ok (.iload_n 3, 1) := by decide +kernel
theorem dX11_slipped_0 : decode cX11_slipped 0 = .ok (.iconst 0, 1) := dq_737.1
theorem dX11_slipped_1 : decode cX11_slipped 1 = .ok (.istore_n 2, 1) := dq_737.2.1
theorem dX11_slipped_2 : decode cX11_slipped 2 = .ok (.iconst 1, 1) := dq_737.2.2.1
theorem dX11_slipped_3 : decode cX11_slipped 3 = .ok (.istore_n 3, 1) := dq_737.2.2.2.1
theorem dX11_slipped_4 : decode cX11_slipped 4 = .ok (.iload_n 3, 1) := dq_737.2.2.2.2.1
theorem dX11_slipped_5 : decode cX11_slipped 5 = .ok (.aload_n 0, 1) := dq_737.2.2.2.2.2.1
theorem dX11_slipped_6 : decode cX11_slipped 6 = .ok (.getfield 240, 3) := dq_737.2.2.2.2.2.2.1
theorem dX11_slipped_9 : decode cX11_slipped 9 = .ok (.if_icmp .ge 36, 3) := dq_737.2.2.2.2.2.2.2.1
theorem dX11_slipped_12 : decode cX11_slipped 12 = .ok (.iload_n 2, 1) := dq_737.2.2.2.2.2.2.2.2.1
theorem dX11_slipped_13 : decode cX11_slipped 13 = .ok (.aload_n 0, 1) := dq_737.2.2.2.2.2.2.2.2.2.1
theorem dX11_slipped_14 : decode cX11_slipped 14 = .ok (.getfield 69, 3) := dq_737.2.2.2.2.2.2.2.2.2.2.1
theorem dX11_slipped_17 : decode cX11_slipped 17 = .ok (.iload_n 3, 1) := dq_737.2.2.2.2.2.2.2.2.2.2.2
theorem dq_738 : decode cX11_slipped 18 = .ok (.iaload, 1) ∧ decode cX11_slipped 19 = .ok (.aload_n 0, 1) ∧ decode cX11_slipped 20 = .ok (.getfield 69, 3) ∧ decode cX11_slipped 23 = .ok (.iload_n 3, 1) ∧ decode cX11_slipped 24 = .ok (.iconst 1, 1) ∧ decode cX11_slipped 25 = .ok (.isub, 1) ∧ decode cX11_slipped 26 = .ok (.iaload, 1) ∧ decode cX11_slipped 27 = .ok (.isub, 1) ∧ decode cX11_slipped 28 = .ok (.iload_n 1, 1) ∧ decode cX11_slipped 29 = .ok (.if_icmp .ne 7, 3) ∧ decode cX11_slipped 32 = .ok (.iconst 0, 1) ∧ decode cX11_slipped 33 = .ok (.goto 4, 3) := by decide +kernel
theorem dX11_slipped_18 : decode cX11_slipped 18 = .ok (.iaload, 1) := dq_738.1
theorem dX11_slipped_19 : decode cX11_slipped 19 = .ok (.aload_n 0, 1) := dq_738.2.1
theorem dX11_slipped_20 : decode cX11_slipped 20 = .ok (.getfield 69, 3) := dq_738.2.2.1
theorem dX11_slipped_23 : decode cX11_slipped 23 = .ok (.iload_n 3, 1) := dq_738.2.2.2.1
theorem dX11_slipped_24 : decode cX11_slipped 24 = .ok (.iconst 1, 1) := dq_738.2.2.2.2.1
theorem dX11_slipped_25 : decode cX11_slipped 25 = .ok (.isub, 1) := dq_738.2.2.2.2.2.1
theorem dX11_slipped_26 : decode cX11_slipped 26 = .ok (.iaload, 1) := dq_738.2.2.2.2.2.2.1
theorem dX11_slipped_27 : decode cX11_slipped 27 = .ok (.isub, 1) := dq_738.2.2.2.2.2.2.2.1
theorem dX11_slipped_28 : decode cX11_slipped 28 = .ok (.iload_n 1, 1) := dq_738.2.2.2.2.2.2.2.2.1
theorem dX11_slipped_29 : decode cX11_slipped 29 = .ok (.if_icmp .ne 7, 3) := dq_738.2.2.2.2.2.2.2.2.2.1
theorem dX11_slipped_32 : decode cX11_slipped 32 = .ok (.iconst 0, 1) := dq_738.2.2.2.2.2.2.2.2.2.2.1
theorem dX11_slipped_33 : decode cX11_slipped 33 = .ok (.goto 4, 3) := dq_738.2.2.2.2.2.2.2.2.2.2.2
theorem dq_739 : decode cX11_slipped 36 = .ok (.iconst 1, 1) ∧ decode cX11_slipped 37 = .ok (.iadd, 1) ∧ decode cX11_slipped 38 = .ok (.istore_n 2, 1) ∧ decode cX11_slipped 39 = .ok (.iinc 3 1, 3) ∧ decode cX11_slipped 42 = .ok (.goto (-38), 3) ∧ decode cX11_slipped 45 = .ok (.iload_n 2, 1) ∧ decode cX11_slipped 46 = .ok (.ireturn, 1) := by decide +kernel
theorem dX11_slipped_36 : decode cX11_slipped 36 = .ok (.iconst 1, 1) := dq_739.1
theorem dX11_slipped_37 : decode cX11_slipped 37 = .ok (.iadd, 1) := dq_739.2.1
theorem dX11_slipped_38 : decode cX11_slipped 38 = .ok (.istore_n 2, 1) := dq_739.2.2.1
theorem dX11_slipped_39 : decode cX11_slipped 39 = .ok (.iinc 3 1, 3) := dq_739.2.2.2.1
theorem dX11_slipped_42 : decode cX11_slipped 42 = .ok (.goto (-38), 3) := dq_739.2.2.2.2.1
theorem dX11_slipped_45 : decode cX11_slipped 45 = .ok (.iload_n 2, 1) := dq_739.2.2.2.2.2.1
theorem dX11_slipped_46 : decode cX11_slipped 46 = .ok (.ireturn, 1) := dq_739.2.2.2.2.2.2
theorem dq_740 : decode cX11_slips 0 = .ok (.iload_n 1, 1) ∧ decode cX11_slips 1 = .ok (.i2l, 1) ∧ decode cX11_slips 2 = .ok (.lconst 1, 1) ∧ decode cX11_slips 3 = .ok (.ldc2_w 243, 3) ∧ decode cX11_slips 6 = .ok (.invokestatic 96, 3) ∧ decode cX11_slips 9 = .ok (.ifCond .eq 15, 3) ∧ decode cX11_slips 12 = .ok (.iload_n 2, 1) ∧ decode cX11_slips 13 = .ok (.i2l, 1) ∧ decode cX11_slips 14 = .ok (.lconst 0, 1) ∧ decode cX11_slips 15 = .ok (.ldc2_w 245, 3) ∧ decode cX11_slips 18 = .ok (.invokestatic 96, 3) ∧ decode cX11_slips 21 = .ok (.ifCond .ne 6, 3) := by decide +kernel
theorem dX11_slips_0 : decode cX11_slips 0 = .ok (.iload_n 1, 1) := dq_740.1
theorem dX11_slips_1 : decode cX11_slips 1 = .ok (.i2l, 1) := dq_740.2.1
theorem dX11_slips_2 : decode cX11_slips 2 = .ok (.lconst 1, 1) := dq_740.2.2.1
theorem dX11_slips_3 : decode cX11_slips 3 = .ok (.ldc2_w 243, 3) := dq_740.2.2.2.1
theorem dX11_slips_6 : decode cX11_slips 6 = .ok (.invokestatic 96, 3) := dq_740.2.2.2.2.1
theorem dX11_slips_9 : decode cX11_slips 9 = .ok (.ifCond .eq 15, 3) := dq_740.2.2.2.2.2.1
theorem dX11_slips_12 : decode cX11_slips 12 = .ok (.iload_n 2, 1) := dq_740.2.2.2.2.2.2.1
theorem dX11_slips_13 : decode cX11_slips 13 = .ok (.i2l, 1) := dq_740.2.2.2.2.2.2.2.1
theorem dX11_slips_14 : decode cX11_slips 14 = .ok (.lconst 0, 1) := dq_740.2.2.2.2.2.2.2.2.1
theorem dX11_slips_15 : decode cX11_slips 15 = .ok (.ldc2_w 245, 3) := dq_740.2.2.2.2.2.2.2.2.2.1
theorem dX11_slips_18 : decode cX11_slips 18 = .ok (.invokestatic 96, 3) := dq_740.2.2.2.2.2.2.2.2.2.2.1
theorem dX11_slips_21 : decode cX11_slips 21 = .ok (.ifCond .ne 6, 3) := dq_740.2.2.2.2.2.2.2.2.2.2.2
theorem dq_741 : decode cX11_slips 24 = .ok (.ldc 247, 2) ∧ decode cX11_slips 26 = .ok (.ireturn, 1) ∧ decode cX11_slips 27 = .ok (.aload_n 0, 1) ∧ decode cX11_slips 28 = .ok (.getfield 240, 3) ∧ decode cX11_slips 31 = .ok (.iconst 2, 1) ∧ decode cX11_slips 32 = .ok (.if_icmp .ge 6, 3) ∧ decode cX11_slips 35 = .ok (.ldc 248, 2) ∧ decode cX11_slips 37 = .ok (.ireturn, 1) ∧ decode cX11_slips 38 = .ok (.bipush (-4), 2) ∧ decode cX11_slips 40 = .ok (.istore_n 3, 1) ∧ decode cX11_slips 41 = .ok (.aload_n 0, 1) ∧ decode cX11_slips 42 = .ok (.getfield 240, 3) := by decide +kernel
theorem dX11_slips_24 : decode cX11_slips 24 = .ok (.ldc 247, 2) := dq_741.1
theorem dX11_slips_26 : decode cX11_slips 26 = .ok (.ireturn, 1) := dq_741.2.1
theorem dX11_slips_27 : decode cX11_slips 27 = .ok (.aload_n 0, 1) := dq_741.2.2.1
theorem dX11_slips_28 : decode cX11_slips 28 = .ok (.getfield 240, 3) := dq_741.2.2.2.1
theorem dX11_slips_31 : decode cX11_slips 31 = .ok (.iconst 2, 1) := dq_741.2.2.2.2.1
theorem dX11_slips_32 : decode cX11_slips 32 = .ok (.if_icmp .ge 6, 3) := dq_741.2.2.2.2.2.1
theorem dX11_slips_35 : decode cX11_slips 35 = .ok (.ldc 248, 2) := dq_741.2.2.2.2.2.2.1
theorem dX11_slips_37 : decode cX11_slips 37 = .ok (.ireturn, 1) := dq_741.2.2.2.2.2.2.2.1
theorem dX11_slips_38 : decode cX11_slips 38 = .ok (.bipush (-4), 2) := dq_741.2.2.2.2.2.2.2.2.1
theorem dX11_slips_40 : decode cX11_slips 40 = .ok (.istore_n 3, 1) := dq_741.2.2.2.2.2.2.2.2.2.1
theorem dX11_slips_41 : decode cX11_slips 41 = .ok (.aload_n 0, 1) := dq_741.2.2.2.2.2.2.2.2.2.2.1
theorem dX11_slips_42 : decode cX11_slips 42 = .ok (.getfield 240, 3) := dq_741.2.2.2.2.2.2.2.2.2.2.2
theorem dq_742 : decode cX11_slips 45 = .ok (.iconst 1, 1) ∧ decode cX11_slips 46 = .ok (.isub, 1) ∧ decode cX11_slips 47 = .ok (.istore 4, 2) ∧ decode cX11_slips 49 = .ok (.iload 4, 2) ∧ decode cX11_slips 51 = .ok (.ifCond .le 39, 3) ∧ decode cX11_slips 54 = .ok (.aload_n 0, 1) ∧ decode cX11_slips 55 = .ok (.getfield 69, 3) ∧ decode cX11_slips 58 = .ok (.iload 4, 2) ∧ decode cX11_slips 60 = .ok (.iaload, 1) ∧ decode cX11_slips 61 = .ok (.aload_n 0, 1) ∧ decode cX11_slips 62 = .ok (.getfield 69, 3) ∧ decode cX11_slips 65 = .ok (.iload 4, 2) := by decide +kernel
theorem dX11_slips_45 : decode cX11_slips 45 = .ok (.iconst 1, 1) := dq_742.1
theorem dX11_slips_46 : decode cX11_slips 46 = .ok (.isub, 1) := dq_742.2.1
theorem dX11_slips_47 : decode cX11_slips 47 = .ok (.istore 4, 2) := dq_742.2.2.1
theorem dX11_slips_49 : decode cX11_slips 49 = .ok (.iload 4, 2) := dq_742.2.2.2.1
theorem dX11_slips_51 : decode cX11_slips 51 = .ok (.ifCond .le 39, 3) := dq_742.2.2.2.2.1
theorem dX11_slips_54 : decode cX11_slips 54 = .ok (.aload_n 0, 1) := dq_742.2.2.2.2.2.1
theorem dX11_slips_55 : decode cX11_slips 55 = .ok (.getfield 69, 3) := dq_742.2.2.2.2.2.2.1
theorem dX11_slips_58 : decode cX11_slips 58 = .ok (.iload 4, 2) := dq_742.2.2.2.2.2.2.2.1
theorem dX11_slips_60 : decode cX11_slips 60 = .ok (.iaload, 1) := dq_742.2.2.2.2.2.2.2.2.1
theorem dX11_slips_61 : decode cX11_slips 61 = .ok (.aload_n 0, 1) := dq_742.2.2.2.2.2.2.2.2.2.1
theorem dX11_slips_62 : decode cX11_slips 62 = .ok (.getfield 69, 3) := dq_742.2.2.2.2.2.2.2.2.2.2.1
theorem dX11_slips_65 : decode cX11_slips 65 = .ok (.iload 4, 2) := dq_742.2.2.2.2.2.2.2.2.2.2.2
theorem dq_743 : decode cX11_slips 67 = .ok (.iconst 1, 1) ∧ decode cX11_slips 68 = .ok (.isub, 1) ∧ decode cX11_slips 69 = .ok (.iaload, 1) ∧ decode cX11_slips 70 = .ok (.isub, 1) ∧ decode cX11_slips 71 = .ok (.iload_n 1, 1) ∧ decode cX11_slips 72 = .ok (.if_icmp .ne 7, 3) ∧ decode cX11_slips 75 = .ok (.iload_n 3, 1) ∧ decode cX11_slips 76 = .ok (.goto 7, 3) ∧ decode cX11_slips 79 = .ok (.iload 4, 2) ∧ decode cX11_slips 81 = .ok (.iconst 1, 1) ∧ decode cX11_slips 82 = .ok (.isub, 1) ∧ decode cX11_slips 83 = .ok (.istore_n 3, 1) := by decide +kernel
theorem dX11_slips_67 : decode cX11_slips 67 = .ok (.iconst 1, 1) := dq_743.1
theorem dX11_slips_68 : decode cX11_slips 68 = .ok (.isub, 1) := dq_743.2.1
theorem dX11_slips_69 : decode cX11_slips 69 = .ok (.iaload, 1) := dq_743.2.2.1
theorem dX11_slips_70 : decode cX11_slips 70 = .ok (.isub, 1) := dq_743.2.2.2.1
theorem dX11_slips_71 : decode cX11_slips 71 = .ok (.iload_n 1, 1) := dq_743.2.2.2.2.1
theorem dX11_slips_72 : decode cX11_slips 72 = .ok (.if_icmp .ne 7, 3) := dq_743.2.2.2.2.2.1
theorem dX11_slips_75 : decode cX11_slips 75 = .ok (.iload_n 3, 1) := dq_743.2.2.2.2.2.2.1
theorem dX11_slips_76 : decode cX11_slips 76 = .ok (.goto 7, 3) := dq_743.2.2.2.2.2.2.2.1
theorem dX11_slips_79 : decode cX11_slips 79 = .ok (.iload 4, 2) := dq_743.2.2.2.2.2.2.2.2.1
theorem dX11_slips_81 : decode cX11_slips 81 = .ok (.iconst 1, 1) := dq_743.2.2.2.2.2.2.2.2.2.1
theorem dX11_slips_82 : decode cX11_slips 82 = .ok (.isub, 1) := dq_743.2.2.2.2.2.2.2.2.2.2.1
theorem dX11_slips_83 : decode cX11_slips 83 = .ok (.istore_n 3, 1) := dq_743.2.2.2.2.2.2.2.2.2.2.2
theorem dq_744 : decode cX11_slips 84 = .ok (.iinc 4 (-1), 3) ∧ decode cX11_slips 87 = .ok (.goto (-38), 3) ∧ decode cX11_slips 90 = .ok (.iload_n 2, 1) ∧ decode cX11_slips 91 = .ok (.ifCond .ne 11, 3) ∧ decode cX11_slips 94 = .ok (.aload_n 0, 1) ∧ decode cX11_slips 95 = .ok (.iload_n 1, 1) ∧ decode cX11_slips 96 = .ok (.invokevirtual 249, 3) ∧ decode cX11_slips 99 = .ok (.goto 39, 3) ∧ decode cX11_slips 102 = .ok (.iload_n 2, 1) ∧ decode cX11_slips 103 = .ok (.iconst 1, 1) ∧ decode cX11_slips 104 = .ok (.if_icmp .ne 7, 3) ∧ decode cX11_slips 107 = .ok (.iload_n 3, 1) := by decide +kernel
theorem dX11_slips_84 : decode cX11_slips 84 = .ok (.iinc 4 (-1), 3) := dq_744.1
theorem dX11_slips_87 : decode cX11_slips 87 = .ok (.goto (-38), 3) := dq_744.2.1
theorem dX11_slips_90 : decode cX11_slips 90 = .ok (.iload_n 2, 1) := dq_744.2.2.1
theorem dX11_slips_91 : decode cX11_slips 91 = .ok (.ifCond .ne 11, 3) := dq_744.2.2.2.1
theorem dX11_slips_94 : decode cX11_slips 94 = .ok (.aload_n 0, 1) := dq_744.2.2.2.2.1
theorem dX11_slips_95 : decode cX11_slips 95 = .ok (.iload_n 1, 1) := dq_744.2.2.2.2.2.1
theorem dX11_slips_96 : decode cX11_slips 96 = .ok (.invokevirtual 249, 3) := dq_744.2.2.2.2.2.2.1
theorem dX11_slips_99 : decode cX11_slips 99 = .ok (.goto 39, 3) := dq_744.2.2.2.2.2.2.2.1
theorem dX11_slips_102 : decode cX11_slips 102 = .ok (.iload_n 2, 1) := dq_744.2.2.2.2.2.2.2.2.1
theorem dX11_slips_103 : decode cX11_slips 103 = .ok (.iconst 1, 1) := dq_744.2.2.2.2.2.2.2.2.2.1
theorem dX11_slips_104 : decode cX11_slips 104 = .ok (.if_icmp .ne 7, 3) := dq_744.2.2.2.2.2.2.2.2.2.2.1
theorem dX11_slips_107 : decode cX11_slips 107 = .ok (.iload_n 3, 1) := dq_744.2.2.2.2.2.2.2.2.2.2.2
theorem dq_745 : decode cX11_slips 108 = .ok (.goto 30, 3) ∧ decode cX11_slips 111 = .ok (.aload_n 0, 1) ∧ decode cX11_slips 112 = .ok (.getfield 69, 3) ∧ decode cX11_slips 115 = .ok (.aload_n 0, 1) ∧ decode cX11_slips 116 = .ok (.getfield 240, 3) ∧ decode cX11_slips 119 = .ok (.iconst 1, 1) ∧ decode cX11_slips 120 = .ok (.isub, 1) ∧ decode cX11_slips 121 = .ok (.iaload, 1) ∧ decode cX11_slips 122 = .ok (.aload_n 0, 1) ∧ decode cX11_slips 123 = .ok (.getfield 69, 3) ∧ decode cX11_slips 126 = .ok (.iconst 0, 1) ∧ decode cX11_slips 127 = .ok (.iaload, 1) := by decide +kernel
theorem dX11_slips_108 : decode cX11_slips 108 = .ok (.goto 30, 3) := dq_745.1
theorem dX11_slips_111 : decode cX11_slips 111 = .ok (.aload_n 0, 1) := dq_745.2.1
theorem dX11_slips_112 : decode cX11_slips 112 = .ok (.getfield 69, 3) := dq_745.2.2.1
theorem dX11_slips_115 : decode cX11_slips 115 = .ok (.aload_n 0, 1) := dq_745.2.2.2.1
theorem dX11_slips_116 : decode cX11_slips 116 = .ok (.getfield 240, 3) := dq_745.2.2.2.2.1
theorem dX11_slips_119 : decode cX11_slips 119 = .ok (.iconst 1, 1) := dq_745.2.2.2.2.2.1
theorem dX11_slips_120 : decode cX11_slips 120 = .ok (.isub, 1) := dq_745.2.2.2.2.2.2.1
theorem dX11_slips_121 : decode cX11_slips 121 = .ok (.iaload, 1) := dq_745.2.2.2.2.2.2.2.1
theorem dX11_slips_122 : decode cX11_slips 122 = .ok (.aload_n 0, 1) := dq_745.2.2.2.2.2.2.2.2.1
theorem dX11_slips_123 : decode cX11_slips 123 = .ok (.getfield 69, 3) := dq_745.2.2.2.2.2.2.2.2.2.1
theorem dX11_slips_126 : decode cX11_slips 126 = .ok (.iconst 0, 1) := dq_745.2.2.2.2.2.2.2.2.2.2.1
theorem dX11_slips_127 : decode cX11_slips 127 = .ok (.iaload, 1) := dq_745.2.2.2.2.2.2.2.2.2.2.2
theorem dq_746 : decode cX11_slips 128 = .ok (.isub, 1) ∧ decode cX11_slips 129 = .ok (.iload_n 1, 1) ∧ decode cX11_slips 130 = .ok (.aload_n 0, 1) ∧ decode cX11_slips 131 = .ok (.getfield 240, 3) ∧ decode cX11_slips 134 = .ok (.iconst 1, 1) ∧ decode cX11_slips 135 = .ok (.isub, 1) ∧ decode cX11_slips 136 = .ok (.imul, 1) ∧ decode cX11_slips 137 = .ok (.isub, 1) ∧ decode cX11_slips 138 = .ok (.ireturn, 1) := by decide +kernel
theorem dX11_slips_128 : decode cX11_slips 128 = .ok (.isub, 1) := dq_746.1
theorem dX11_slips_129 : decode cX11_slips 129 = .ok (.iload_n 1, 1) := dq_746.2.1
theorem dX11_slips_130 : decode cX11_slips 130 = .ok (.aload_n 0, 1) := dq_746.2.2.1
theorem dX11_slips_131 : decode cX11_slips 131 = .ok (.getfield 240, 3) := dq_746.2.2.2.1
theorem dX11_slips_134 : decode cX11_slips 134 = .ok (.iconst 1, 1) := dq_746.2.2.2.2.1
theorem dX11_slips_135 : decode cX11_slips 135 = .ok (.isub, 1) := dq_746.2.2.2.2.2.1
theorem dX11_slips_136 : decode cX11_slips 136 = .ok (.imul, 1) := dq_746.2.2.2.2.2.2.1
theorem dX11_slips_137 : decode cX11_slips 137 = .ok (.isub, 1) := dq_746.2.2.2.2.2.2.2.1
theorem dX11_slips_138 : decode cX11_slips 138 = .ok (.ireturn, 1) := dq_746.2.2.2.2.2.2.2.2
theorem dq_747 : decode cX11_knots 0 = .ok (.aload_n 0, 1) ∧ decode cX11_knots 1 = .ok (.getfield 240, 3) ∧ decode cX11_knots 4 = .ok (.iconst 2, 1) ∧ decode cX11_knots 5 = .ok (.if_icmp .ge 6, 3) ∧ decode cX11_knots 8 = .ok (.bipush (-2), 2) ∧ decode cX11_knots 10 = .ok (.ireturn, 1) ∧ decode cX11_knots 11 = .ok (.iconst 1, 1) ∧ decode cX11_knots 12 = .ok (.istore_n 1, 1) ∧ decode cX11_knots 13 = .ok (.iconst 2, 1) ∧ decode cX11_knots 14 = .ok (.istore_n 2, 1) ∧ decode cX11_knots 15 = .ok (.iload_n 2, 1) ∧ decode cX11_knots 16 = .ok (.bipush 100, 2) := by decide +kernel
theorem dX11_knots_0 : decode cX11_knots 0 = .ok (.aload_n 0, 1) := dq_747.1
theorem dX11_knots_1 : decode cX11_knots 1 = .ok (.getfield 240, 3) := dq_747.2.1
theorem dX11_knots_4 : decode cX11_knots 4 = .ok (.iconst 2, 1) := dq_747.2.2.1
theorem dX11_knots_5 : decode cX11_knots 5 = .ok (.if_icmp .ge 6, 3) := dq_747.2.2.2.1
theorem dX11_knots_8 : decode cX11_knots 8 = .ok (.bipush (-2), 2) := dq_747.2.2.2.2.1
theorem dX11_knots_10 : decode cX11_knots 10 = .ok (.ireturn, 1) := dq_747.2.2.2.2.2.1
theorem dX11_knots_11 : decode cX11_knots 11 = .ok (.iconst 1, 1) := dq_747.2.2.2.2.2.2.1
theorem dX11_knots_12 : decode cX11_knots 12 = .ok (.istore_n 1, 1) := dq_747.2.2.2.2.2.2.2.1
theorem dX11_knots_13 : decode cX11_knots 13 = .ok (.iconst 2, 1) := dq_747.2.2.2.2.2.2.2.2.1
theorem dX11_knots_14 : decode cX11_knots 14 = .ok (.istore_n 2, 1) := dq_747.2.2.2.2.2.2.2.2.2.1
theorem dX11_knots_15 : decode cX11_knots 15 = .ok (.iload_n 2, 1) := dq_747.2.2.2.2.2.2.2.2.2.2.1
theorem dX11_knots_16 : decode cX11_knots 16 = .ok (.bipush 100, 2) := dq_747.2.2.2.2.2.2.2.2.2.2.2
theorem dq_748 : decode cX11_knots 18 = .ok (.if_icmp .ge 28, 3) ∧ decode cX11_knots 21 = .ok (.aload_n 0, 1) ∧ decode cX11_knots 22 = .ok (.iload_n 2, 1) ∧ decode cX11_knots 23 = .ok (.invokevirtual 249, 3) ∧ decode cX11_knots 26 = .ok (.aload_n 0, 1) ∧ decode cX11_knots 27 = .ok (.iload_n 1, 1) ∧ decode cX11_knots 28 = .ok (.invokevirtual 249, 3) ∧ decode cX11_knots 31 = .ok (.if_icmp .ge 7, 3) ∧ decode cX11_knots 34 = .ok (.iload_n 2, 1) ∧ decode cX11_knots 35 = .ok (.goto 4, 3) ∧ decode cX11_knots 38 = .ok (.iload_n 1, 1) ∧ decode cX11_knots 39 = .ok (.istore_n 1, 1) := by decide +kernel
theorem dX11_knots_18 : decode cX11_knots 18 = .ok (.if_icmp .ge 28, 3) := dq_748.1
theorem dX11_knots_21 : decode cX11_knots 21 = .ok (.aload_n 0, 1) := dq_748.2.1
theorem dX11_knots_22 : decode cX11_knots 22 = .ok (.iload_n 2, 1) := dq_748.2.2.1
theorem dX11_knots_23 : decode cX11_knots 23 = .ok (.invokevirtual 249, 3) := dq_748.2.2.2.1
theorem dX11_knots_26 : decode cX11_knots 26 = .ok (.aload_n 0, 1) := dq_748.2.2.2.2.1
theorem dX11_knots_27 : decode cX11_knots 27 = .ok (.iload_n 1, 1) := dq_748.2.2.2.2.2.1
theorem dX11_knots_28 : decode cX11_knots 28 = .ok (.invokevirtual 249, 3) := dq_748.2.2.2.2.2.2.1
theorem dX11_knots_31 : decode cX11_knots 31 = .ok (.if_icmp .ge 7, 3) := dq_748.2.2.2.2.2.2.2.1
theorem dX11_knots_34 : decode cX11_knots 34 = .ok (.iload_n 2, 1) := dq_748.2.2.2.2.2.2.2.2.1
theorem dX11_knots_35 : decode cX11_knots 35 = .ok (.goto 4, 3) := dq_748.2.2.2.2.2.2.2.2.2.1
theorem dX11_knots_38 : decode cX11_knots 38 = .ok (.iload_n 1, 1) := dq_748.2.2.2.2.2.2.2.2.2.2.1
theorem dX11_knots_39 : decode cX11_knots 39 = .ok (.istore_n 1, 1) := dq_748.2.2.2.2.2.2.2.2.2.2.2
theorem dq_749 : decode cX11_knots 40 = .ok (.iinc 2 1, 3) ∧ decode cX11_knots 43 = .ok (.goto (-28), 3) ∧ decode cX11_knots 46 = .ok (.iload_n 1, 1) ∧ decode cX11_knots 47 = .ok (.ireturn, 1) := by decide +kernel
theorem dX11_knots_40 : decode cX11_knots 40 = .ok (.iinc 2 1, 3) := dq_749.1
theorem dX11_knots_43 : decode cX11_knots 43 = .ok (.goto (-28), 3) := dq_749.2.1
theorem dX11_knots_46 : decode cX11_knots 46 = .ok (.iload_n 1, 1) := dq_749.2.2.1
theorem dX11_knots_47 : decode cX11_knots 47 = .ok (.ireturn, 1) := dq_749.2.2.2
theorem dq_750 : decode cX11_fits 0 = .ok (.iload_n 1, 1) ∧ decode cX11_fits 1 = .ok (.i2l, 1) ∧ decode cX11_fits 2 = .ok (.lconst 1, 1) ∧ decode cX11_fits 3 = .ok (.ldc2_w 238, 3) ∧ decode cX11_fits 6 = .ok (.invokestatic 96, 3) ∧ decode cX11_fits 9 = .ok (.ifCond .eq 40, 3) ∧ decode cX11_fits 12 = .ok (.iload_n 2, 1) ∧ decode cX11_fits 13 = .ok (.i2l, 1) ∧ decode cX11_fits 14 = .ok (.lconst 1, 1) ∧ decode cX11_fits 15 = .ok (.ldc2_w 243, 3) ∧ decode cX11_fits 18 = .ok (.invokestatic 96, 3) ∧ decode cX11_fits 21 = .ok (.ifCond .eq 28, 3) := by decide +kernel
theorem dX11_fits_0 : decode cX11_fits 0 = .ok (.iload_n 1, 1) := dq_750.1
theorem dX11_fits_1 : decode cX11_fits 1 = .ok (.i2l, 1) := dq_750.2.1
theorem dX11_fits_2 : decode cX11_fits 2 = .ok (.lconst 1, 1) := dq_750.2.2.1
theorem dX11_fits_3 : decode cX11_fits 3 = .ok (.ldc2_w 238, 3) := dq_750.2.2.2.1
theorem dX11_fits_6 : decode cX11_fits 6 = .ok (.invokestatic 96, 3) := dq_750.2.2.2.2.1
theorem dX11_fits_9 : decode cX11_fits 9 = .ok (.ifCond .eq 40, 3) := dq_750.2.2.2.2.2.1
theorem dX11_fits_12 : decode cX11_fits 12 = .ok (.iload_n 2, 1) := dq_750.2.2.2.2.2.2.1
theorem dX11_fits_13 : decode cX11_fits 13 = .ok (.i2l, 1) := dq_750.2.2.2.2.2.2.2.1
theorem dX11_fits_14 : decode cX11_fits 14 = .ok (.lconst 1, 1) := dq_750.2.2.2.2.2.2.2.2.1
theorem dX11_fits_15 : decode cX11_fits 15 = .ok (.ldc2_w 243, 3) := dq_750.2.2.2.2.2.2.2.2.2.1
theorem dX11_fits_18 : decode cX11_fits 18 = .ok (.invokestatic 96, 3) := dq_750.2.2.2.2.2.2.2.2.2.2.1
theorem dX11_fits_21 : decode cX11_fits 21 = .ok (.ifCond .eq 28, 3) := dq_750.2.2.2.2.2.2.2.2.2.2.2
theorem dq_751 : decode cX11_fits 24 = .ok (.iload_n 3, 1) ∧ decode cX11_fits 25 = .ok (.i2l, 1) ∧ decode cX11_fits 26 = .ok (.lconst 0, 1) ∧ decode cX11_fits 27 = .ok (.ldc2_w 236, 3) ∧ decode cX11_fits 30 = .ok (.invokestatic 96, 3) ∧ decode cX11_fits 33 = .ok (.ifCond .eq 16, 3) ∧ decode cX11_fits 36 = .ok (.iload 4, 2) ∧ decode cX11_fits 38 = .ok (.i2l, 1) ∧ decode cX11_fits 39 = .ok (.lconst 0, 1) ∧ decode cX11_fits 40 = .ok (.ldc2_w 245, 3) ∧ decode cX11_fits 43 = .ok (.invokestatic 96, 3) ∧ decode cX11_fits 46 = .ok (.ifCond .ne 5, 3) := by decide +kernel
theorem dX11_fits_24 : decode cX11_fits 24 = .ok (.iload_n 3, 1) := dq_751.1
theorem dX11_fits_25 : decode cX11_fits 25 = .ok (.i2l, 1) := dq_751.2.1
theorem dX11_fits_26 : decode cX11_fits 26 = .ok (.lconst 0, 1) := dq_751.2.2.1
theorem dX11_fits_27 : decode cX11_fits 27 = .ok (.ldc2_w 236, 3) := dq_751.2.2.2.1
theorem dX11_fits_30 : decode cX11_fits 30 = .ok (.invokestatic 96, 3) := dq_751.2.2.2.2.1
theorem dX11_fits_33 : decode cX11_fits 33 = .ok (.ifCond .eq 16, 3) := dq_751.2.2.2.2.2.1
theorem dX11_fits_36 : decode cX11_fits 36 = .ok (.iload 4, 2) := dq_751.2.2.2.2.2.2.1
theorem dX11_fits_38 : decode cX11_fits 38 = .ok (.i2l, 1) := dq_751.2.2.2.2.2.2.2.1
theorem dX11_fits_39 : decode cX11_fits 39 = .ok (.lconst 0, 1) := dq_751.2.2.2.2.2.2.2.2.1
theorem dX11_fits_40 : decode cX11_fits 40 = .ok (.ldc2_w 245, 3) := dq_751.2.2.2.2.2.2.2.2.2.1
theorem dX11_fits_43 : decode cX11_fits 43 = .ok (.invokestatic 96, 3) := dq_751.2.2.2.2.2.2.2.2.2.2.1
theorem dX11_fits_46 : decode cX11_fits 46 = .ok (.ifCond .ne 5, 3) := dq_751.2.2.2.2.2.2.2.2.2.2.2
theorem dq_752 : decode cX11_fits 49 = .ok (.iconst (-1), 1) ∧ decode cX11_fits 50 = .ok (.ireturn, 1) ∧ decode cX11_fits 51 = .ok (.bipush (-4), 2) ∧ decode cX11_fits 53 = .ok (.istore 5, 2) ∧ decode cX11_fits 55 = .ok (.bipush (-4), 2) ∧ decode cX11_fits 57 = .ok (.istore 6, 2) ∧ decode cX11_fits 59 = .ok (.bipush (-4), 2) ∧ decode cX11_fits 61 = .ok (.istore 7, 2) ∧ decode cX11_fits 63 = .ok (.iconst 1, 1) ∧ decode cX11_fits 64 = .ok (.istore 8, 2) ∧ decode cX11_fits 66 = .ok (.iload 8, 2) ∧ decode cX11_fits 68 = .ok (.iload_n 2, 1) := by decide +kernel
theorem dX11_fits_49 : decode cX11_fits 49 = .ok (.iconst (-1), 1) := dq_752.1
theorem dX11_fits_50 : decode cX11_fits 50 = .ok (.ireturn, 1) := dq_752.2.1
theorem dX11_fits_51 : decode cX11_fits 51 = .ok (.bipush (-4), 2) := dq_752.2.2.1
theorem dX11_fits_53 : decode cX11_fits 53 = .ok (.istore 5, 2) := dq_752.2.2.2.1
theorem dX11_fits_55 : decode cX11_fits 55 = .ok (.bipush (-4), 2) := dq_752.2.2.2.2.1
theorem dX11_fits_57 : decode cX11_fits 57 = .ok (.istore 6, 2) := dq_752.2.2.2.2.2.1
theorem dX11_fits_59 : decode cX11_fits 59 = .ok (.bipush (-4), 2) := dq_752.2.2.2.2.2.2.1
theorem dX11_fits_61 : decode cX11_fits 61 = .ok (.istore 7, 2) := dq_752.2.2.2.2.2.2.2.1
theorem dX11_fits_63 : decode cX11_fits 63 = .ok (.iconst 1, 1) := dq_752.2.2.2.2.2.2.2.2.1
theorem dX11_fits_64 : decode cX11_fits 64 = .ok (.istore 8, 2) := dq_752.2.2.2.2.2.2.2.2.2.1
theorem dX11_fits_66 : decode cX11_fits 66 = .ok (.iload 8, 2) := dq_752.2.2.2.2.2.2.2.2.2.2.1
theorem dX11_fits_68 : decode cX11_fits 68 = .ok (.iload_n 2, 1) := dq_752.2.2.2.2.2.2.2.2.2.2.2
theorem dq_753 : decode cX11_fits 69 = .ok (.imul, 1) ∧ decode cX11_fits 70 = .ok (.iload_n 1, 1) ∧ decode cX11_fits 71 = .ok (.if_icmp .gt 88, 3) ∧ decode cX11_fits 74 = .ok (.iload_n 1, 1) ∧ decode cX11_fits 75 = .ok (.iload 8, 2) ∧ decode cX11_fits 77 = .ok (.iload_n 2, 1) ∧ decode cX11_fits 78 = .ok (.imul, 1) ∧ decode cX11_fits 79 = .ok (.isub, 1) ∧ decode cX11_fits 80 = .ok (.istore 9, 2) ∧ decode cX11_fits 82 = .ok (.iload 9, 2) ∧ decode cX11_fits 84 = .ok (.iload 8, 2) ∧ decode cX11_fits 86 = .ok (.iload_n 3, 1) := by decide +kernel
theorem dX11_fits_69 : decode cX11_fits 69 = .ok (.imul, 1) := dq_753.1
theorem dX11_fits_70 : decode cX11_fits 70 = .ok (.iload_n 1, 1) := dq_753.2.1
theorem dX11_fits_71 : decode cX11_fits 71 = .ok (.if_icmp .gt 88, 3) := dq_753.2.2.1
theorem dX11_fits_74 : decode cX11_fits 74 = .ok (.iload_n 1, 1) := dq_753.2.2.2.1
theorem dX11_fits_75 : decode cX11_fits 75 = .ok (.iload 8, 2) := dq_753.2.2.2.2.1
theorem dX11_fits_77 : decode cX11_fits 77 = .ok (.iload_n 2, 1) := dq_753.2.2.2.2.2.1
theorem dX11_fits_78 : decode cX11_fits 78 = .ok (.imul, 1) := dq_753.2.2.2.2.2.2.1
theorem dX11_fits_79 : decode cX11_fits 79 = .ok (.isub, 1) := dq_753.2.2.2.2.2.2.2.1
theorem dX11_fits_80 : decode cX11_fits 80 = .ok (.istore 9, 2) := dq_753.2.2.2.2.2.2.2.2.1
theorem dX11_fits_82 : decode cX11_fits 82 = .ok (.iload 9, 2) := dq_753.2.2.2.2.2.2.2.2.2.1
theorem dX11_fits_84 : decode cX11_fits 84 = .ok (.iload 8, 2) := dq_753.2.2.2.2.2.2.2.2.2.2.1
theorem dX11_fits_86 : decode cX11_fits 86 = .ok (.iload_n 3, 1) := dq_753.2.2.2.2.2.2.2.2.2.2.2
theorem dq_754 : decode cX11_fits 87 = .ok (.imul, 1) ∧ decode cX11_fits 88 = .ok (.if_icmp .gt 65, 3) ∧ decode cX11_fits 91 = .ok (.iload 8, 2) ∧ decode cX11_fits 93 = .ok (.istore 5, 2) ∧ decode cX11_fits 95 = .ok (.iload 6, 2) ∧ decode cX11_fits 97 = .ok (.bipush (-4), 2) ∧ decode cX11_fits 99 = .ok (.if_icmp .ne 8, 3) ∧ decode cX11_fits 102 = .ok (.iload 8, 2) ∧ decode cX11_fits 104 = .ok (.goto 5, 3) ∧ decode cX11_fits 107 = .ok (.iload 6, 2) ∧ decode cX11_fits 109 = .ok (.istore 6, 2) ∧ decode cX11_fits 111 = .ok (.iload 9, 2) := by decide +kernel
theorem dX11_fits_87 : decode cX11_fits 87 = .ok (.imul, 1) := dq_754.1
theorem dX11_fits_88 : decode cX11_fits 88 = .ok (.if_icmp .gt 65, 3) := dq_754.2.1
theorem dX11_fits_91 : decode cX11_fits 91 = .ok (.iload 8, 2) := dq_754.2.2.1
theorem dX11_fits_93 : decode cX11_fits 93 = .ok (.istore 5, 2) := dq_754.2.2.2.1
theorem dX11_fits_95 : decode cX11_fits 95 = .ok (.iload 6, 2) := dq_754.2.2.2.2.1
theorem dX11_fits_97 : decode cX11_fits 97 = .ok (.bipush (-4), 2) := dq_754.2.2.2.2.2.1
theorem dX11_fits_99 : decode cX11_fits 99 = .ok (.if_icmp .ne 8, 3) := dq_754.2.2.2.2.2.2.1
theorem dX11_fits_102 : decode cX11_fits 102 = .ok (.iload 8, 2) := dq_754.2.2.2.2.2.2.2.1
theorem dX11_fits_104 : decode cX11_fits 104 = .ok (.goto 5, 3) := dq_754.2.2.2.2.2.2.2.2.1
theorem dX11_fits_107 : decode cX11_fits 107 = .ok (.iload 6, 2) := dq_754.2.2.2.2.2.2.2.2.2.1
theorem dX11_fits_109 : decode cX11_fits 109 = .ok (.istore 6, 2) := dq_754.2.2.2.2.2.2.2.2.2.2.1
theorem dX11_fits_111 : decode cX11_fits 111 = .ok (.iload 9, 2) := dq_754.2.2.2.2.2.2.2.2.2.2.2
theorem dq_755 : decode cX11_fits 113 = .ok (.ifCond .ne 7, 3) ∧ decode cX11_fits 116 = .ok (.iconst 0, 1) ∧ decode cX11_fits 117 = .ok (.goto 11, 3) ∧ decode cX11_fits 120 = .ok (.iload 9, 2) ∧ decode cX11_fits 122 = .ok (.iload_n 3, 1) ∧ decode cX11_fits 123 = .ok (.iadd, 1) ∧ decode cX11_fits 124 = .ok (.iconst 1, 1) ∧ decode cX11_fits 125 = .ok (.isub, 1) ∧ decode cX11_fits 126 = .ok (.iload_n 3, 1) ∧ decode cX11_fits 127 = .ok (.idiv, 1) ∧ decode cX11_fits 128 = .ok (.istore 10, 2) ∧ decode cX11_fits 130 = .ok (.iload 7, 2) := by decide +kernel
theorem dX11_fits_113 : decode cX11_fits 113 = .ok (.ifCond .ne 7, 3) := dq_755.1
theorem dX11_fits_116 : decode cX11_fits 116 = .ok (.iconst 0, 1) := dq_755.2.1
theorem dX11_fits_117 : decode cX11_fits 117 = .ok (.goto 11, 3) := dq_755.2.2.1
theorem dX11_fits_120 : decode cX11_fits 120 = .ok (.iload 9, 2) := dq_755.2.2.2.1
theorem dX11_fits_122 : decode cX11_fits 122 = .ok (.iload_n 3, 1) := dq_755.2.2.2.2.1
theorem dX11_fits_123 : decode cX11_fits 123 = .ok (.iadd, 1) := dq_755.2.2.2.2.2.1
theorem dX11_fits_124 : decode cX11_fits 124 = .ok (.iconst 1, 1) := dq_755.2.2.2.2.2.2.1
theorem dX11_fits_125 : decode cX11_fits 125 = .ok (.isub, 1) := dq_755.2.2.2.2.2.2.2.1
theorem dX11_fits_126 : decode cX11_fits 126 = .ok (.iload_n 3, 1) := dq_755.2.2.2.2.2.2.2.2.1
theorem dX11_fits_127 : decode cX11_fits 127 = .ok (.idiv, 1) := dq_755.2.2.2.2.2.2.2.2.2.1
theorem dX11_fits_128 : decode cX11_fits 128 = .ok (.istore 10, 2) := dq_755.2.2.2.2.2.2.2.2.2.2.1
theorem dX11_fits_130 : decode cX11_fits 130 = .ok (.iload 7, 2) := dq_755.2.2.2.2.2.2.2.2.2.2.2
theorem dq_756 : decode cX11_fits 132 = .ok (.bipush (-4), 2) ∧ decode cX11_fits 134 = .ok (.if_icmp .eq 10, 3) ∧ decode cX11_fits 137 = .ok (.iload 10, 2) ∧ decode cX11_fits 139 = .ok (.iload 7, 2) ∧ decode cX11_fits 141 = .ok (.if_icmp .ge 8, 3) ∧ decode cX11_fits 144 = .ok (.iload 10, 2) ∧ decode cX11_fits 146 = .ok (.goto 5, 3) ∧ decode cX11_fits 149 = .ok (.iload 7, 2) ∧ decode cX11_fits 151 = .ok (.istore 7, 2) ∧ decode cX11_fits 153 = .ok (.iinc 8 1, 3) ∧ decode cX11_fits 156 = .ok (.goto (-90), 3) ∧ decode cX11_fits 159 = .ok (.iload 4, 2) := by decide +kernel
theorem dX11_fits_132 : decode cX11_fits 132 = .ok (.bipush (-4), 2) := dq_756.1
theorem dX11_fits_134 : decode cX11_fits 134 = .ok (.if_icmp .eq 10, 3) := dq_756.2.1
theorem dX11_fits_137 : decode cX11_fits 137 = .ok (.iload 10, 2) := dq_756.2.2.1
theorem dX11_fits_139 : decode cX11_fits 139 = .ok (.iload 7, 2) := dq_756.2.2.2.1
theorem dX11_fits_141 : decode cX11_fits 141 = .ok (.if_icmp .ge 8, 3) := dq_756.2.2.2.2.1
theorem dX11_fits_144 : decode cX11_fits 144 = .ok (.iload 10, 2) := dq_756.2.2.2.2.2.1
theorem dX11_fits_146 : decode cX11_fits 146 = .ok (.goto 5, 3) := dq_756.2.2.2.2.2.2.1
theorem dX11_fits_149 : decode cX11_fits 149 = .ok (.iload 7, 2) := dq_756.2.2.2.2.2.2.2.1
theorem dX11_fits_151 : decode cX11_fits 151 = .ok (.istore 7, 2) := dq_756.2.2.2.2.2.2.2.2.1
theorem dX11_fits_153 : decode cX11_fits 153 = .ok (.iinc 8 1, 3) := dq_756.2.2.2.2.2.2.2.2.2.1
theorem dX11_fits_156 : decode cX11_fits 156 = .ok (.goto (-90), 3) := dq_756.2.2.2.2.2.2.2.2.2.2.1
theorem dX11_fits_159 : decode cX11_fits 159 = .ok (.iload 4, 2) := dq_756.2.2.2.2.2.2.2.2.2.2.2
theorem dq_757 : decode cX11_fits 161 = .ok (.ifCond .ne 8, 3) ∧ decode cX11_fits 164 = .ok (.iload 5, 2) ∧ decode cX11_fits 166 = .ok (.goto 16, 3) ∧ decode cX11_fits 169 = .ok (.iload 4, 2) ∧ decode cX11_fits 171 = .ok (.iconst 1, 1) ∧ decode cX11_fits 172 = .ok (.if_icmp .ne 8, 3) ∧ decode cX11_fits 175 = .ok (.iload 6, 2) ∧ decode cX11_fits 177 = .ok (.goto 5, 3) ∧ decode cX11_fits 180 = .ok (.iload 7, 2) ∧ decode cX11_fits 182 = .ok (.ireturn, 1) := by decide +kernel
theorem dX11_fits_161 : decode cX11_fits 161 = .ok (.ifCond .ne 8, 3) := dq_757.1
theorem dX11_fits_164 : decode cX11_fits 164 = .ok (.iload 5, 2) := dq_757.2.1
theorem dX11_fits_166 : decode cX11_fits 166 = .ok (.goto 16, 3) := dq_757.2.2.1
theorem dX11_fits_169 : decode cX11_fits 169 = .ok (.iload 4, 2) := dq_757.2.2.2.1
theorem dX11_fits_171 : decode cX11_fits 171 = .ok (.iconst 1, 1) := dq_757.2.2.2.2.1
theorem dX11_fits_172 : decode cX11_fits 172 = .ok (.if_icmp .ne 8, 3) := dq_757.2.2.2.2.2.1
theorem dX11_fits_175 : decode cX11_fits 175 = .ok (.iload 6, 2) := dq_757.2.2.2.2.2.2.1
theorem dX11_fits_177 : decode cX11_fits 177 = .ok (.goto 5, 3) := dq_757.2.2.2.2.2.2.2.1
theorem dX11_fits_180 : decode cX11_fits 180 = .ok (.iload 7, 2) := dq_757.2.2.2.2.2.2.2.2.1
theorem dX11_fits_182 : decode cX11_fits 182 = .ok (.ireturn, 1) := dq_757.2.2.2.2.2.2.2.2.2
theorem dq_758 : decode cX11_isCell 0 = .ok (.iload_n 0, 1) ∧ decode cX11_isCell 1 = .ok (.i2l, 1) ∧ decode cX11_isCell 2 = .ok (.lconst 0, 1) ∧ decode cX11_isCell 3 = .ok (.ldc2_w 252, 3) ∧ decode cX11_isCell 6 = .ok (.invokestatic 96, 3) ∧ decode cX11_isCell 9 = .ok (.ireturn, 1) := by decide +kernel
theorem dX11_isCell_0 : decode cX11_isCell 0 = .ok (.iload_n 0, 1) := dq_758.1
theorem dX11_isCell_1 : decode cX11_isCell 1 = .ok (.i2l, 1) := dq_758.2.1
theorem dX11_isCell_2 : decode cX11_isCell 2 = .ok (.lconst 0, 1) := dq_758.2.2.1
theorem dX11_isCell_3 : decode cX11_isCell 3 = .ok (.ldc2_w 252, 3) := dq_758.2.2.2.1
theorem dX11_isCell_6 : decode cX11_isCell 6 = .ok (.invokestatic 96, 3) := dq_758.2.2.2.2.1
theorem dX11_isCell_9 : decode cX11_isCell 9 = .ok (.ireturn, 1) := dq_758.2.2.2.2.2
theorem dq_759 : decode cX11_put 0 = .ok (.iload_n 1, 1) ∧ decode cX11_put 1 = .ok (.invokestatic 254, 3) ∧ decode cX11_put 4 = .ok (.ifCond .eq 17, 3) ∧ decode cX11_put 7 = .ok (.iload_n 2, 1) ∧ decode cX11_put 8 = .ok (.i2l, 1) ∧ decode cX11_put 9 = .ok (.ldc2_w 220, 3) ∧ decode cX11_put 12 = .ok (.ldc2_w 144, 3) ∧ decode cX11_put 15 = .ok (.invokestatic 96, 3) ∧ decode cX11_put 18 = .ok (.ifCond .ne 6, 3) ∧ decode cX11_put 21 = .ok (.bipush (-9), 2) ∧ decode cX11_put 23 = .ok (.ireturn, 1) ∧ decode cX11_put 24 = .ok (.aload_n 0, 1) := by decide +kernel
theorem dX11_put_0 : decode cX11_put 0 = .ok (.iload_n 1, 1) := dq_759.1
theorem dX11_put_1 : decode cX11_put 1 = .ok (.invokestatic 254, 3) := dq_759.2.1
theorem dX11_put_4 : decode cX11_put 4 = .ok (.ifCond .eq 17, 3) := dq_759.2.2.1
theorem dX11_put_7 : decode cX11_put 7 = .ok (.iload_n 2, 1) := dq_759.2.2.2.1
theorem dX11_put_8 : decode cX11_put 8 = .ok (.i2l, 1) := dq_759.2.2.2.2.1
theorem dX11_put_9 : decode cX11_put 9 = .ok (.ldc2_w 220, 3) := dq_759.2.2.2.2.2.1
theorem dX11_put_12 : decode cX11_put 12 = .ok (.ldc2_w 144, 3) := dq_759.2.2.2.2.2.2.1
theorem dX11_put_15 : decode cX11_put 15 = .ok (.invokestatic 96, 3) := dq_759.2.2.2.2.2.2.2.1
theorem dX11_put_18 : decode cX11_put 18 = .ok (.ifCond .ne 6, 3) := dq_759.2.2.2.2.2.2.2.2.1
theorem dX11_put_21 : decode cX11_put 21 = .ok (.bipush (-9), 2) := dq_759.2.2.2.2.2.2.2.2.2.1
theorem dX11_put_23 : decode cX11_put 23 = .ok (.ireturn, 1) := dq_759.2.2.2.2.2.2.2.2.2.2.1
theorem dX11_put_24 : decode cX11_put 24 = .ok (.aload_n 0, 1) := dq_759.2.2.2.2.2.2.2.2.2.2.2
theorem dq_760 : decode cX11_put 25 = .ok (.getfield 72, 3) ∧ decode cX11_put 28 = .ok (.iload_n 1, 1) ∧ decode cX11_put 29 = .ok (.iaload, 1) ∧ decode cX11_put 30 = .ok (.istore_n 3, 1) ∧ decode cX11_put 31 = .ok (.aload_n 0, 1) ∧ decode cX11_put 32 = .ok (.getfield 72, 3) ∧ decode cX11_put 35 = .ok (.iload_n 1, 1) ∧ decode cX11_put 36 = .ok (.iload_n 2, 1) ∧ decode cX11_put 37 = .ok (.iastore, 1) ∧ decode cX11_put 38 = .ok (.aload_n 0, 1) ∧ decode cX11_put 39 = .ok (.dup, 1) ∧ decode cX11_put 40 = .ok (.getfield 257, 3) := by decide +kernel
theorem dX11_put_25 : decode cX11_put 25 = .ok (.getfield 72, 3) := dq_760.1
theorem dX11_put_28 : decode cX11_put 28 = .ok (.iload_n 1, 1) := dq_760.2.1
theorem dX11_put_29 : decode cX11_put 29 = .ok (.iaload, 1) := dq_760.2.2.1
theorem dX11_put_30 : decode cX11_put 30 = .ok (.istore_n 3, 1) := dq_760.2.2.2.1
theorem dX11_put_31 : decode cX11_put 31 = .ok (.aload_n 0, 1) := dq_760.2.2.2.2.1
theorem dX11_put_32 : decode cX11_put 32 = .ok (.getfield 72, 3) := dq_760.2.2.2.2.2.1
theorem dX11_put_35 : decode cX11_put 35 = .ok (.iload_n 1, 1) := dq_760.2.2.2.2.2.2.1
theorem dX11_put_36 : decode cX11_put 36 = .ok (.iload_n 2, 1) := dq_760.2.2.2.2.2.2.2.1
theorem dX11_put_37 : decode cX11_put 37 = .ok (.iastore, 1) := dq_760.2.2.2.2.2.2.2.2.1
theorem dX11_put_38 : decode cX11_put 38 = .ok (.aload_n 0, 1) := dq_760.2.2.2.2.2.2.2.2.2.1
theorem dX11_put_39 : decode cX11_put 39 = .ok (.dup, 1) := dq_760.2.2.2.2.2.2.2.2.2.2.1
theorem dX11_put_40 : decode cX11_put 40 = .ok (.getfield 257, 3) := dq_760.2.2.2.2.2.2.2.2.2.2.2
theorem dq_761 : decode cX11_put 43 = .ok (.lconst 1, 1) ∧ decode cX11_put 44 = .ok (.iload_n 1, 1) ∧ decode cX11_put 45 = .ok (.lshl, 1) ∧ decode cX11_put 46 = .ok (.ldc2_w 220, 3) ∧ decode cX11_put 49 = .ok (.lxor, 1) ∧ decode cX11_put 50 = .ok (.land, 1) ∧ decode cX11_put 51 = .ok (.putfield 257, 3) ∧ decode cX11_put 54 = .ok (.iload_n 3, 1) ∧ decode cX11_put 55 = .ok (.ireturn, 1) := by decide +kernel
theorem dX11_put_43 : decode cX11_put 43 = .ok (.lconst 1, 1) := dq_761.1
theorem dX11_put_44 : decode cX11_put 44 = .ok (.iload_n 1, 1) := dq_761.2.1
theorem dX11_put_45 : decode cX11_put 45 = .ok (.lshl, 1) := dq_761.2.2.1
theorem dX11_put_46 : decode cX11_put 46 = .ok (.ldc2_w 220, 3) := dq_761.2.2.2.1
theorem dX11_put_49 : decode cX11_put 49 = .ok (.lxor, 1) := dq_761.2.2.2.2.1
theorem dX11_put_50 : decode cX11_put 50 = .ok (.land, 1) := dq_761.2.2.2.2.2.1
theorem dX11_put_51 : decode cX11_put 51 = .ok (.putfield 257, 3) := dq_761.2.2.2.2.2.2.1
theorem dX11_put_54 : decode cX11_put 54 = .ok (.iload_n 3, 1) := dq_761.2.2.2.2.2.2.2.1
theorem dX11_put_55 : decode cX11_put 55 = .ok (.ireturn, 1) := dq_761.2.2.2.2.2.2.2.2
theorem dq_762 : decode cX11_at 0 = .ok (.iload_n 1, 1) ∧ decode cX11_at 1 = .ok (.invokestatic 254, 3) ∧ decode cX11_at 4 = .ok (.ifCond .eq 12, 3) ∧ decode cX11_at 7 = .ok (.aload_n 0, 1) ∧ decode cX11_at 8 = .ok (.getfield 72, 3) ∧ decode cX11_at 11 = .ok (.iload_n 1, 1) ∧ decode cX11_at 12 = .ok (.iaload, 1) ∧ decode cX11_at 13 = .ok (.goto 5, 3) ∧ decode cX11_at 16 = .ok (.bipush (-9), 2) ∧ decode cX11_at 18 = .ok (.ireturn, 1) := by decide +kernel
theorem dX11_at_0 : decode cX11_at 0 = .ok (.iload_n 1, 1) := dq_762.1
theorem dX11_at_1 : decode cX11_at 1 = .ok (.invokestatic 254, 3) := dq_762.2.1
theorem dX11_at_4 : decode cX11_at 4 = .ok (.ifCond .eq 12, 3) := dq_762.2.2.1
theorem dX11_at_7 : decode cX11_at 7 = .ok (.aload_n 0, 1) := dq_762.2.2.2.1
theorem dX11_at_8 : decode cX11_at 8 = .ok (.getfield 72, 3) := dq_762.2.2.2.2.1
theorem dX11_at_11 : decode cX11_at 11 = .ok (.iload_n 1, 1) := dq_762.2.2.2.2.2.1
theorem dX11_at_12 : decode cX11_at 12 = .ok (.iaload, 1) := dq_762.2.2.2.2.2.2.1
theorem dX11_at_13 : decode cX11_at 13 = .ok (.goto 5, 3) := dq_762.2.2.2.2.2.2.2.1
theorem dX11_at_16 : decode cX11_at 16 = .ok (.bipush (-9), 2) := dq_762.2.2.2.2.2.2.2.2.1
theorem dX11_at_18 : decode cX11_at 18 = .ok (.ireturn, 1) := dq_762.2.2.2.2.2.2.2.2.2
theorem dq_763 : decode cX11_sourceOf 0 = .ok (.iload_n 0, 1) ∧ decode cX11_sourceOf 1 = .ok (.iload_n 1, 1) ∧ decode cX11_sourceOf 2 = .ok (.idiv, 1) ∧ decode cX11_sourceOf 3 = .ok (.istore_n 3, 1) ∧ decode cX11_sourceOf 4 = .ok (.iload_n 0, 1) ∧ decode cX11_sourceOf 5 = .ok (.iload_n 1, 1) ∧ decode cX11_sourceOf 6 = .ok (.irem, 1) ∧ decode cX11_sourceOf 7 = .ok (.istore 4, 2) ∧ decode cX11_sourceOf 9 = .ok (.iconst 0, 1) ∧ decode cX11_sourceOf 10 = .ok (.istore 5, 2) ∧ decode cX11_sourceOf 12 = .ok (.iload 5, 2) ∧ decode cX11_sourceOf 14 = .ok (.iload_n 2, 1) := by decide +kernel
theorem dX11_sourceOf_0 : decode cX11_sourceOf 0 = .ok (.iload_n 0, 1) := dq_763.1
theorem dX11_sourceOf_1 : decode cX11_sourceOf 1 = .ok (.iload_n 1, 1) := dq_763.2.1
theorem dX11_sourceOf_2 : decode cX11_sourceOf 2 = .ok (.idiv, 1) := dq_763.2.2.1
theorem dX11_sourceOf_3 : decode cX11_sourceOf 3 = .ok (.istore_n 3, 1) := dq_763.2.2.2.1
theorem dX11_sourceOf_4 : decode cX11_sourceOf 4 = .ok (.iload_n 0, 1) := dq_763.2.2.2.2.1
theorem dX11_sourceOf_5 : decode cX11_sourceOf 5 = .ok (.iload_n 1, 1) := dq_763.2.2.2.2.2.1
theorem dX11_sourceOf_6 : decode cX11_sourceOf 6 = .ok (.irem, 1) := dq_763.2.2.2.2.2.2.1
theorem dX11_sourceOf_7 : decode cX11_sourceOf 7 = .ok (.istore 4, 2) := dq_763.2.2.2.2.2.2.2.1
theorem dX11_sourceOf_9 : decode cX11_sourceOf 9 = .ok (.iconst 0, 1) := dq_763.2.2.2.2.2.2.2.2.1
theorem dX11_sourceOf_10 : decode cX11_sourceOf 10 = .ok (.istore 5, 2) := dq_763.2.2.2.2.2.2.2.2.2.1
theorem dX11_sourceOf_12 : decode cX11_sourceOf 12 = .ok (.iload 5, 2) := dq_763.2.2.2.2.2.2.2.2.2.2.1
theorem dX11_sourceOf_14 : decode cX11_sourceOf 14 = .ok (.iload_n 2, 1) := dq_763.2.2.2.2.2.2.2.2.2.2.2
theorem dq_764 : decode cX11_sourceOf 15 = .ok (.iconst 4, 1) ∧ decode cX11_sourceOf 16 = .ok (.irem, 1) ∧ decode cX11_sourceOf 17 = .ok (.if_icmp .ge 23, 3) ∧ decode cX11_sourceOf 20 = .ok (.iload_n 3, 1) ∧ decode cX11_sourceOf 21 = .ok (.istore 6, 2) ∧ decode cX11_sourceOf 23 = .ok (.iload_n 1, 1) ∧ decode cX11_sourceOf 24 = .ok (.iconst 1, 1) ∧ decode cX11_sourceOf 25 = .ok (.isub, 1) ∧ decode cX11_sourceOf 26 = .ok (.iload 4, 2) ∧ decode cX11_sourceOf 28 = .ok (.isub, 1) ∧ decode cX11_sourceOf 29 = .ok (.istore_n 3, 1) ∧ decode cX11_sourceOf 30 = .ok (.iload 6, 2) := by decide +kernel
theorem dX11_sourceOf_15 : decode cX11_sourceOf 15 = .ok (.iconst 4, 1) := dq_764.1
theorem dX11_sourceOf_16 : decode cX11_sourceOf 16 = .ok (.irem, 1) := dq_764.2.1
theorem dX11_sourceOf_17 : decode cX11_sourceOf 17 = .ok (.if_icmp .ge 23, 3) := dq_764.2.2.1
theorem dX11_sourceOf_20 : decode cX11_sourceOf 20 = .ok (.iload_n 3, 1) := dq_764.2.2.2.1
theorem dX11_sourceOf_21 : decode cX11_sourceOf 21 = .ok (.istore 6, 2) := dq_764.2.2.2.2.1
theorem dX11_sourceOf_23 : decode cX11_sourceOf 23 = .ok (.iload_n 1, 1) := dq_764.2.2.2.2.2.1
theorem dX11_sourceOf_24 : decode cX11_sourceOf 24 = .ok (.iconst 1, 1) := dq_764.2.2.2.2.2.2.1
theorem dX11_sourceOf_25 : decode cX11_sourceOf 25 = .ok (.isub, 1) := dq_764.2.2.2.2.2.2.2.1
theorem dX11_sourceOf_26 : decode cX11_sourceOf 26 = .ok (.iload 4, 2) := dq_764.2.2.2.2.2.2.2.2.1
theorem dX11_sourceOf_28 : decode cX11_sourceOf 28 = .ok (.isub, 1) := dq_764.2.2.2.2.2.2.2.2.2.1
theorem dX11_sourceOf_29 : decode cX11_sourceOf 29 = .ok (.istore_n 3, 1) := dq_764.2.2.2.2.2.2.2.2.2.2.1
theorem dX11_sourceOf_30 : decode cX11_sourceOf 30 = .ok (.iload 6, 2) := dq_764.2.2.2.2.2.2.2.2.2.2.2
theorem dq_765 : decode cX11_sourceOf 32 = .ok (.istore 4, 2) ∧ decode cX11_sourceOf 34 = .ok (.iinc 5 1, 3) ∧ decode cX11_sourceOf 37 = .ok (.goto (-25), 3) ∧ decode cX11_sourceOf 40 = .ok (.iload_n 2, 1) ∧ decode cX11_sourceOf 41 = .ok (.iconst 3, 1) ∧ decode cX11_sourceOf 42 = .ok (.if_icmp .le 12, 3) ∧ decode cX11_sourceOf 45 = .ok (.iload_n 1, 1) ∧ decode cX11_sourceOf 46 = .ok (.iconst 1, 1) ∧ decode cX11_sourceOf 47 = .ok (.isub, 1) ∧ decode cX11_sourceOf 48 = .ok (.iload 4, 2) ∧ decode cX11_sourceOf 50 = .ok (.isub, 1) ∧ decode cX11_sourceOf 51 = .ok (.goto 5, 3) := by decide +kernel
theorem dX11_sourceOf_32 : decode cX11_sourceOf 32 = .ok (.istore 4, 2) := dq_765.1
theorem dX11_sourceOf_34 : decode cX11_sourceOf 34 = .ok (.iinc 5 1, 3) := dq_765.2.1
theorem dX11_sourceOf_37 : decode cX11_sourceOf 37 = .ok (.goto (-25), 3) := dq_765.2.2.1
theorem dX11_sourceOf_40 : decode cX11_sourceOf 40 = .ok (.iload_n 2, 1) := dq_765.2.2.2.1
theorem dX11_sourceOf_41 : decode cX11_sourceOf 41 = .ok (.iconst 3, 1) := dq_765.2.2.2.2.1
theorem dX11_sourceOf_42 : decode cX11_sourceOf 42 = .ok (.if_icmp .le 12, 3) := dq_765.2.2.2.2.2.1
theorem dX11_sourceOf_45 : decode cX11_sourceOf 45 = .ok (.iload_n 1, 1) := dq_765.2.2.2.2.2.2.1
theorem dX11_sourceOf_46 : decode cX11_sourceOf 46 = .ok (.iconst 1, 1) := dq_765.2.2.2.2.2.2.2.1
theorem dX11_sourceOf_47 : decode cX11_sourceOf 47 = .ok (.isub, 1) := dq_765.2.2.2.2.2.2.2.2.1
theorem dX11_sourceOf_48 : decode cX11_sourceOf 48 = .ok (.iload 4, 2) := dq_765.2.2.2.2.2.2.2.2.2.1
theorem dX11_sourceOf_50 : decode cX11_sourceOf 50 = .ok (.isub, 1) := dq_765.2.2.2.2.2.2.2.2.2.2.1
theorem dX11_sourceOf_51 : decode cX11_sourceOf 51 = .ok (.goto 5, 3) := dq_765.2.2.2.2.2.2.2.2.2.2.2
theorem dq_766 : decode cX11_sourceOf 54 = .ok (.iload 4, 2) ∧ decode cX11_sourceOf 56 = .ok (.istore 4, 2) ∧ decode cX11_sourceOf 58 = .ok (.iload_n 1, 1) ∧ decode cX11_sourceOf 59 = .ok (.iload_n 3, 1) ∧ decode cX11_sourceOf 60 = .ok (.imul, 1) ∧ decode cX11_sourceOf 61 = .ok (.iload 4, 2) ∧ decode cX11_sourceOf 63 = .ok (.iadd, 1) ∧ decode cX11_sourceOf 64 = .ok (.ireturn, 1) := by decide +kernel
theorem dX11_sourceOf_54 : decode cX11_sourceOf 54 = .ok (.iload 4, 2) := dq_766.1
theorem dX11_sourceOf_56 : decode cX11_sourceOf 56 = .ok (.istore 4, 2) := dq_766.2.1
theorem dX11_sourceOf_58 : decode cX11_sourceOf 58 = .ok (.iload_n 1, 1) := dq_766.2.2.1
theorem dX11_sourceOf_59 : decode cX11_sourceOf 59 = .ok (.iload_n 3, 1) := dq_766.2.2.2.1
theorem dX11_sourceOf_60 : decode cX11_sourceOf 60 = .ok (.imul, 1) := dq_766.2.2.2.2.1
theorem dX11_sourceOf_61 : decode cX11_sourceOf 61 = .ok (.iload 4, 2) := dq_766.2.2.2.2.2.1
theorem dX11_sourceOf_63 : decode cX11_sourceOf 63 = .ok (.iadd, 1) := dq_766.2.2.2.2.2.2.1
theorem dX11_sourceOf_64 : decode cX11_sourceOf 64 = .ok (.ireturn, 1) := dq_766.2.2.2.2.2.2.2
theorem dq_767 : decode cX11_isPattern 0 = .ok (.iload_n 1, 1) ∧ decode cX11_isPattern 1 = .ok (.i2l, 1) ∧ decode cX11_isPattern 2 = .ok (.lconst 0, 1) ∧ decode cX11_isPattern 3 = .ok (.aload_n 0, 1) ∧ decode cX11_isPattern 4 = .ok (.getfield 187, 3) ∧ decode cX11_isPattern 7 = .ok (.iconst 1, 1) ∧ decode cX11_isPattern 8 = .ok (.isub, 1) ∧ decode cX11_isPattern 9 = .ok (.i2l, 1) ∧ decode cX11_isPattern 10 = .ok (.invokestatic 96, 3) ∧ decode cX11_isPattern 13 = .ok (.ireturn, 1) := by decide +kernel
theorem dX11_isPattern_0 : decode cX11_isPattern 0 = .ok (.iload_n 1, 1) := dq_767.1
theorem dX11_isPattern_1 : decode cX11_isPattern 1 = .ok (.i2l, 1) := dq_767.2.1
theorem dX11_isPattern_2 : decode cX11_isPattern 2 = .ok (.lconst 0, 1) := dq_767.2.2.1
theorem dX11_isPattern_3 : decode cX11_isPattern 3 = .ok (.aload_n 0, 1) := dq_767.2.2.2.1
theorem dX11_isPattern_4 : decode cX11_isPattern 4 = .ok (.getfield 187, 3) := dq_767.2.2.2.2.1
theorem dX11_isPattern_7 : decode cX11_isPattern 7 = .ok (.iconst 1, 1) := dq_767.2.2.2.2.2.1
theorem dX11_isPattern_8 : decode cX11_isPattern 8 = .ok (.isub, 1) := dq_767.2.2.2.2.2.2.1
theorem dX11_isPattern_9 : decode cX11_isPattern 9 = .ok (.i2l, 1) := dq_767.2.2.2.2.2.2.2.1
theorem dX11_isPattern_10 : decode cX11_isPattern 10 = .ok (.invokestatic 96, 3) := dq_767.2.2.2.2.2.2.2.2.1
theorem dX11_isPattern_13 : decode cX11_isPattern 13 = .ok (.ireturn, 1) := dq_767.2.2.2.2.2.2.2.2.2
theorem dq_768 : decode cX11_pattern 0 = .ok (.aload_n 0, 1) ∧ decode cX11_pattern 1 = .ok (.iload_n 1, 1) ∧ decode cX11_pattern 2 = .ok (.invokevirtual 261, 3) ∧ decode cX11_pattern 5 = .ok (.ifCond .eq 46, 3) ∧ decode cX11_pattern 8 = .ok (.iload_n 2, 1) ∧ decode cX11_pattern 9 = .ok (.i2l, 1) ∧ decode cX11_pattern 10 = .ok (.lconst 0, 1) ∧ decode cX11_pattern 11 = .ok (.ldc2_w 264, 3) ∧ decode cX11_pattern 14 = .ok (.invokestatic 96, 3) ∧ decode cX11_pattern 17 = .ok (.ifCond .eq 34, 3) ∧ decode cX11_pattern 20 = .ok (.iload_n 3, 1) ∧ decode cX11_pattern 21 = .ok (.i2l, 1) := by decide +kernel
theorem dX11_pattern_0 : decode cX11_pattern 0 = .ok (.aload_n 0, 1) := dq_768.1
theorem dX11_pattern_1 : decode cX11_pattern 1 = .ok (.iload_n 1, 1) := dq_768.2.1
theorem dX11_pattern_2 : decode cX11_pattern 2 = .ok (.invokevirtual 261, 3) := dq_768.2.2.1
theorem dX11_pattern_5 : decode cX11_pattern 5 = .ok (.ifCond .eq 46, 3) := dq_768.2.2.2.1
theorem dX11_pattern_8 : decode cX11_pattern 8 = .ok (.iload_n 2, 1) := dq_768.2.2.2.2.1
theorem dX11_pattern_9 : decode cX11_pattern 9 = .ok (.i2l, 1) := dq_768.2.2.2.2.2.1
theorem dX11_pattern_10 : decode cX11_pattern 10 = .ok (.lconst 0, 1) := dq_768.2.2.2.2.2.2.1
theorem dX11_pattern_11 : decode cX11_pattern 11 = .ok (.ldc2_w 264, 3) := dq_768.2.2.2.2.2.2.2.1
theorem dX11_pattern_14 : decode cX11_pattern 14 = .ok (.invokestatic 96, 3) := dq_768.2.2.2.2.2.2.2.2.1
theorem dX11_pattern_17 : decode cX11_pattern 17 = .ok (.ifCond .eq 34, 3) := dq_768.2.2.2.2.2.2.2.2.2.1
theorem dX11_pattern_20 : decode cX11_pattern 20 = .ok (.iload_n 3, 1) := dq_768.2.2.2.2.2.2.2.2.2.2.1
theorem dX11_pattern_21 : decode cX11_pattern 21 = .ok (.i2l, 1) := dq_768.2.2.2.2.2.2.2.2.2.2.2
theorem dq_769 : decode cX11_pattern 22 = .ok (.lconst 0, 1) ∧ decode cX11_pattern 23 = .ok (.ldc2_w 266, 3) ∧ decode cX11_pattern 26 = .ok (.invokestatic 96, 3) ∧ decode cX11_pattern 29 = .ok (.ifCond .eq 22, 3) ∧ decode cX11_pattern 32 = .ok (.aload_n 0, 1) ∧ decode cX11_pattern 33 = .ok (.getfield 28, 3) ∧ decode cX11_pattern 36 = .ok (.bipush 16, 2) ∧ decode cX11_pattern 38 = .ok (.iload_n 1, 1) ∧ decode cX11_pattern 39 = .ok (.imul, 1) ∧ decode cX11_pattern 40 = .ok (.iload_n 3, 1) ∧ decode cX11_pattern 41 = .ok (.iconst 4, 1) ∧ decode cX11_pattern 42 = .ok (.iload_n 2, 1) := by decide +kernel
theorem dX11_pattern_22 : decode cX11_pattern 22 = .ok (.lconst 0, 1) := dq_769.1
theorem dX11_pattern_23 : decode cX11_pattern 23 = .ok (.ldc2_w 266, 3) := dq_769.2.1
theorem dX11_pattern_26 : decode cX11_pattern 26 = .ok (.invokestatic 96, 3) := dq_769.2.2.1
theorem dX11_pattern_29 : decode cX11_pattern 29 = .ok (.ifCond .eq 22, 3) := dq_769.2.2.2.1
theorem dX11_pattern_32 : decode cX11_pattern 32 = .ok (.aload_n 0, 1) := dq_769.2.2.2.2.1
theorem dX11_pattern_33 : decode cX11_pattern 33 = .ok (.getfield 28, 3) := dq_769.2.2.2.2.2.1
theorem dX11_pattern_36 : decode cX11_pattern 36 = .ok (.bipush 16, 2) := dq_769.2.2.2.2.2.2.1
theorem dX11_pattern_38 : decode cX11_pattern 38 = .ok (.iload_n 1, 1) := dq_769.2.2.2.2.2.2.2.1
theorem dX11_pattern_39 : decode cX11_pattern 39 = .ok (.imul, 1) := dq_769.2.2.2.2.2.2.2.2.1
theorem dX11_pattern_40 : decode cX11_pattern 40 = .ok (.iload_n 3, 1) := dq_769.2.2.2.2.2.2.2.2.2.1
theorem dX11_pattern_41 : decode cX11_pattern 41 = .ok (.iconst 4, 1) := dq_769.2.2.2.2.2.2.2.2.2.2.1
theorem dX11_pattern_42 : decode cX11_pattern 42 = .ok (.iload_n 2, 1) := dq_769.2.2.2.2.2.2.2.2.2.2.2
theorem dq_770 : decode cX11_pattern 43 = .ok (.invokestatic 268, 3) ∧ decode cX11_pattern 46 = .ok (.iadd, 1) ∧ decode cX11_pattern 47 = .ok (.iaload, 1) ∧ decode cX11_pattern 48 = .ok (.goto 4, 3) ∧ decode cX11_pattern 51 = .ok (.iconst (-1), 1) ∧ decode cX11_pattern 52 = .ok (.ireturn, 1) := by decide +kernel
theorem dX11_pattern_43 : decode cX11_pattern 43 = .ok (.invokestatic 268, 3) := dq_770.1
theorem dX11_pattern_46 : decode cX11_pattern 46 = .ok (.iadd, 1) := dq_770.2.1
theorem dX11_pattern_47 : decode cX11_pattern 47 = .ok (.iaload, 1) := dq_770.2.2.1
theorem dX11_pattern_48 : decode cX11_pattern 48 = .ok (.goto 4, 3) := dq_770.2.2.2.1
theorem dX11_pattern_51 : decode cX11_pattern 51 = .ok (.iconst (-1), 1) := dq_770.2.2.2.2.1
theorem dX11_pattern_52 : decode cX11_pattern 52 = .ok (.ireturn, 1) := dq_770.2.2.2.2.2
theorem dq_771 : decode cX11_isCopy 0 = .ok (.aload_n 0, 1) ∧ decode cX11_isCopy 1 = .ok (.iload_n 1, 1) ∧ decode cX11_isCopy 2 = .ok (.invokevirtual 261, 3) ∧ decode cX11_isCopy 5 = .ok (.ifCond .eq 67, 3) ∧ decode cX11_isCopy 8 = .ok (.iload_n 2, 1) ∧ decode cX11_isCopy 9 = .ok (.i2l, 1) ∧ decode cX11_isCopy 10 = .ok (.lconst 0, 1) ∧ decode cX11_isCopy 11 = .ok (.ldc2_w 264, 3) ∧ decode cX11_isCopy 14 = .ok (.invokestatic 96, 3) ∧ decode cX11_isCopy 17 = .ok (.ifCond .eq 55, 3) ∧ decode cX11_isCopy 20 = .ok (.iload_n 3, 1) ∧ decode cX11_isCopy 21 = .ok (.i2l, 1) := by decide +kernel
theorem dX11_isCopy_0 : decode cX11_isCopy 0 = .ok (.aload_n 0, 1) := dq_771.1
theorem dX11_isCopy_1 : decode cX11_isCopy 1 = .ok (.iload_n 1, 1) := dq_771.2.1
theorem dX11_isCopy_2 : decode cX11_isCopy 2 = .ok (.invokevirtual 261, 3) := dq_771.2.2.1
theorem dX11_isCopy_5 : decode cX11_isCopy 5 = .ok (.ifCond .eq 67, 3) := dq_771.2.2.2.1
theorem dX11_isCopy_8 : decode cX11_isCopy 8 = .ok (.iload_n 2, 1) := dq_771.2.2.2.2.1
theorem dX11_isCopy_9 : decode cX11_isCopy 9 = .ok (.i2l, 1) := dq_771.2.2.2.2.2.1
theorem dX11_isCopy_10 : decode cX11_isCopy 10 = .ok (.lconst 0, 1) := dq_771.2.2.2.2.2.2.1
theorem dX11_isCopy_11 : decode cX11_isCopy 11 = .ok (.ldc2_w 264, 3) := dq_771.2.2.2.2.2.2.2.1
theorem dX11_isCopy_14 : decode cX11_isCopy 14 = .ok (.invokestatic 96, 3) := dq_771.2.2.2.2.2.2.2.2.1
theorem dX11_isCopy_17 : decode cX11_isCopy 17 = .ok (.ifCond .eq 55, 3) := dq_771.2.2.2.2.2.2.2.2.2.1
theorem dX11_isCopy_20 : decode cX11_isCopy 20 = .ok (.iload_n 3, 1) := dq_771.2.2.2.2.2.2.2.2.2.2.1
theorem dX11_isCopy_21 : decode cX11_isCopy 21 = .ok (.i2l, 1) := dq_771.2.2.2.2.2.2.2.2.2.2.2
theorem dq_772 : decode cX11_isCopy 22 = .ok (.lconst 1, 1) ∧ decode cX11_isCopy 23 = .ok (.ldc2_w 245, 3) ∧ decode cX11_isCopy 26 = .ok (.invokestatic 96, 3) ∧ decode cX11_isCopy 29 = .ok (.ifCond .eq 43, 3) ∧ decode cX11_isCopy 32 = .ok (.iload 4, 2) ∧ decode cX11_isCopy 34 = .ok (.invokestatic 254, 3) ∧ decode cX11_isCopy 37 = .ok (.ifCond .eq 35, 3) ∧ decode cX11_isCopy 40 = .ok (.iload 4, 2) ∧ decode cX11_isCopy 42 = .ok (.bipush 8, 2) ∧ decode cX11_isCopy 44 = .ok (.idiv, 1) ∧ decode cX11_isCopy 45 = .ok (.iconst 4, 1) ∧ decode cX11_isCopy 46 = .ok (.iload_n 3, 1) := by decide +kernel
theorem dX11_isCopy_22 : decode cX11_isCopy 22 = .ok (.lconst 1, 1) := dq_772.1
theorem dX11_isCopy_23 : decode cX11_isCopy 23 = .ok (.ldc2_w 245, 3) := dq_772.2.1
theorem dX11_isCopy_26 : decode cX11_isCopy 26 = .ok (.invokestatic 96, 3) := dq_772.2.2.1
theorem dX11_isCopy_29 : decode cX11_isCopy 29 = .ok (.ifCond .eq 43, 3) := dq_772.2.2.2.1
theorem dX11_isCopy_32 : decode cX11_isCopy 32 = .ok (.iload 4, 2) := dq_772.2.2.2.2.1
theorem dX11_isCopy_34 : decode cX11_isCopy 34 = .ok (.invokestatic 254, 3) := dq_772.2.2.2.2.2.1
theorem dX11_isCopy_37 : decode cX11_isCopy 37 = .ok (.ifCond .eq 35, 3) := dq_772.2.2.2.2.2.2.1
theorem dX11_isCopy_40 : decode cX11_isCopy 40 = .ok (.iload 4, 2) := dq_772.2.2.2.2.2.2.2.1
theorem dX11_isCopy_42 : decode cX11_isCopy 42 = .ok (.bipush 8, 2) := dq_772.2.2.2.2.2.2.2.2.1
theorem dX11_isCopy_44 : decode cX11_isCopy 44 = .ok (.idiv, 1) := dq_772.2.2.2.2.2.2.2.2.2.1
theorem dX11_isCopy_45 : decode cX11_isCopy 45 = .ok (.iconst 4, 1) := dq_772.2.2.2.2.2.2.2.2.2.2.1
theorem dX11_isCopy_46 : decode cX11_isCopy 46 = .ok (.iload_n 3, 1) := dq_772.2.2.2.2.2.2.2.2.2.2.2
theorem dq_773 : decode cX11_isCopy 47 = .ok (.imul, 1) ∧ decode cX11_isCopy 48 = .ok (.iadd, 1) ∧ decode cX11_isCopy 49 = .ok (.bipush 8, 2) ∧ decode cX11_isCopy 51 = .ok (.if_icmp .gt 21, 3) ∧ decode cX11_isCopy 54 = .ok (.iload 4, 2) ∧ decode cX11_isCopy 56 = .ok (.bipush 8, 2) ∧ decode cX11_isCopy 58 = .ok (.irem, 1) ∧ decode cX11_isCopy 59 = .ok (.iconst 4, 1) ∧ decode cX11_isCopy 60 = .ok (.iload_n 3, 1) ∧ decode cX11_isCopy 61 = .ok (.imul, 1) ∧ decode cX11_isCopy 62 = .ok (.iadd, 1) ∧ decode cX11_isCopy 63 = .ok (.bipush 8, 2) := by decide +kernel
theorem dX11_isCopy_47 : decode cX11_isCopy 47 = .ok (.imul, 1) := dq_773.1
theorem dX11_isCopy_48 : decode cX11_isCopy 48 = .ok (.iadd, 1) := dq_773.2.1
theorem dX11_isCopy_49 : decode cX11_isCopy 49 = .ok (.bipush 8, 2) := dq_773.2.2.1
theorem dX11_isCopy_51 : decode cX11_isCopy 51 = .ok (.if_icmp .gt 21, 3) := dq_773.2.2.2.1
theorem dX11_isCopy_54 : decode cX11_isCopy 54 = .ok (.iload 4, 2) := dq_773.2.2.2.2.1
theorem dX11_isCopy_56 : decode cX11_isCopy 56 = .ok (.bipush 8, 2) := dq_773.2.2.2.2.2.1
theorem dX11_isCopy_58 : decode cX11_isCopy 58 = .ok (.irem, 1) := dq_773.2.2.2.2.2.2.1
theorem dX11_isCopy_59 : decode cX11_isCopy 59 = .ok (.iconst 4, 1) := dq_773.2.2.2.2.2.2.2.1
theorem dX11_isCopy_60 : decode cX11_isCopy 60 = .ok (.iload_n 3, 1) := dq_773.2.2.2.2.2.2.2.2.1
theorem dX11_isCopy_61 : decode cX11_isCopy 61 = .ok (.imul, 1) := dq_773.2.2.2.2.2.2.2.2.2.1
theorem dX11_isCopy_62 : decode cX11_isCopy 62 = .ok (.iadd, 1) := dq_773.2.2.2.2.2.2.2.2.2.2.1
theorem dX11_isCopy_63 : decode cX11_isCopy 63 = .ok (.bipush 8, 2) := dq_773.2.2.2.2.2.2.2.2.2.2.2
theorem dq_774 : decode cX11_isCopy 65 = .ok (.if_icmp .gt 7, 3) ∧ decode cX11_isCopy 68 = .ok (.iconst 1, 1) ∧ decode cX11_isCopy 69 = .ok (.goto 4, 3) ∧ decode cX11_isCopy 72 = .ok (.iconst 0, 1) ∧ decode cX11_isCopy 73 = .ok (.ireturn, 1) := by decide +kernel
theorem dX11_isCopy_65 : decode cX11_isCopy 65 = .ok (.if_icmp .gt 7, 3) := dq_774.1
theorem dX11_isCopy_68 : decode cX11_isCopy 68 = .ok (.iconst 1, 1) := dq_774.2.1
theorem dX11_isCopy_69 : decode cX11_isCopy 69 = .ok (.goto 4, 3) := dq_774.2.2.1
theorem dX11_isCopy_72 : decode cX11_isCopy 72 = .ok (.iconst 0, 1) := dq_774.2.2.2.1
theorem dX11_isCopy_73 : decode cX11_isCopy 73 = .ok (.ireturn, 1) := dq_774.2.2.2.2
theorem dq_775 : decode cX11_tells 0 = .ok (.iconst 4, 1) ∧ decode cX11_tells 1 = .ok (.iload_n 3, 1) ∧ decode cX11_tells 2 = .ok (.imul, 1) ∧ decode cX11_tells 3 = .ok (.istore 5, 2) ∧ decode cX11_tells 5 = .ok (.aload_n 0, 1) ∧ decode cX11_tells 6 = .ok (.getfield 28, 3) ∧ decode cX11_tells 9 = .ok (.bipush 16, 2) ∧ decode cX11_tells 11 = .ok (.iload_n 1, 1) ∧ decode cX11_tells 12 = .ok (.imul, 1) ∧ decode cX11_tells 13 = .ok (.iconst 4, 1) ∧ decode cX11_tells 14 = .ok (.iload 4, 2) ∧ decode cX11_tells 16 = .ok (.iload 5, 2) := by decide +kernel
theorem dX11_tells_0 : decode cX11_tells 0 = .ok (.iconst 4, 1) := dq_775.1
theorem dX11_tells_1 : decode cX11_tells 1 = .ok (.iload_n 3, 1) := dq_775.2.1
theorem dX11_tells_2 : decode cX11_tells 2 = .ok (.imul, 1) := dq_775.2.2.1
theorem dX11_tells_3 : decode cX11_tells 3 = .ok (.istore 5, 2) := dq_775.2.2.2.1
theorem dX11_tells_5 : decode cX11_tells 5 = .ok (.aload_n 0, 1) := dq_775.2.2.2.2.1
theorem dX11_tells_6 : decode cX11_tells 6 = .ok (.getfield 28, 3) := dq_775.2.2.2.2.2.1
theorem dX11_tells_9 : decode cX11_tells 9 = .ok (.bipush 16, 2) := dq_775.2.2.2.2.2.2.1
theorem dX11_tells_11 : decode cX11_tells 11 = .ok (.iload_n 1, 1) := dq_775.2.2.2.2.2.2.2.1
theorem dX11_tells_12 : decode cX11_tells 12 = .ok (.imul, 1) := dq_775.2.2.2.2.2.2.2.2.1
theorem dX11_tells_13 : decode cX11_tells 13 = .ok (.iconst 4, 1) := dq_775.2.2.2.2.2.2.2.2.2.1
theorem dX11_tells_14 : decode cX11_tells 14 = .ok (.iload 4, 2) := dq_775.2.2.2.2.2.2.2.2.2.2.1
theorem dX11_tells_16 : decode cX11_tells 16 = .ok (.iload 5, 2) := dq_775.2.2.2.2.2.2.2.2.2.2.2
theorem dq_776 : decode cX11_tells 18 = .ok (.idiv, 1) ∧ decode cX11_tells 19 = .ok (.iload_n 3, 1) ∧ decode cX11_tells 20 = .ok (.idiv, 1) ∧ decode cX11_tells 21 = .ok (.imul, 1) ∧ decode cX11_tells 22 = .ok (.iload 4, 2) ∧ decode cX11_tells 24 = .ok (.iload 5, 2) ∧ decode cX11_tells 26 = .ok (.irem, 1) ∧ decode cX11_tells 27 = .ok (.iload_n 3, 1) ∧ decode cX11_tells 28 = .ok (.idiv, 1) ∧ decode cX11_tells 29 = .ok (.iadd, 1) ∧ decode cX11_tells 30 = .ok (.iconst 4, 1) ∧ decode cX11_tells 31 = .ok (.iload_n 2, 1) := by decide +kernel
theorem dX11_tells_18 : decode cX11_tells 18 = .ok (.idiv, 1) := dq_776.1
theorem dX11_tells_19 : decode cX11_tells 19 = .ok (.iload_n 3, 1) := dq_776.2.1
theorem dX11_tells_20 : decode cX11_tells 20 = .ok (.idiv, 1) := dq_776.2.2.1
theorem dX11_tells_21 : decode cX11_tells 21 = .ok (.imul, 1) := dq_776.2.2.2.1
theorem dX11_tells_22 : decode cX11_tells 22 = .ok (.iload 4, 2) := dq_776.2.2.2.2.1
theorem dX11_tells_24 : decode cX11_tells 24 = .ok (.iload 5, 2) := dq_776.2.2.2.2.2.1
theorem dX11_tells_26 : decode cX11_tells 26 = .ok (.irem, 1) := dq_776.2.2.2.2.2.2.1
theorem dX11_tells_27 : decode cX11_tells 27 = .ok (.iload_n 3, 1) := dq_776.2.2.2.2.2.2.2.1
theorem dX11_tells_28 : decode cX11_tells 28 = .ok (.idiv, 1) := dq_776.2.2.2.2.2.2.2.2.1
theorem dX11_tells_29 : decode cX11_tells 29 = .ok (.iadd, 1) := dq_776.2.2.2.2.2.2.2.2.2.1
theorem dX11_tells_30 : decode cX11_tells 30 = .ok (.iconst 4, 1) := dq_776.2.2.2.2.2.2.2.2.2.2.1
theorem dX11_tells_31 : decode cX11_tells 31 = .ok (.iload_n 2, 1) := dq_776.2.2.2.2.2.2.2.2.2.2.2
theorem dq_777 : decode cX11_tells 32 = .ok (.invokestatic 268, 3) ∧ decode cX11_tells 35 = .ok (.iadd, 1) ∧ decode cX11_tells 36 = .ok (.iaload, 1) ∧ decode cX11_tells 37 = .ok (.ireturn, 1) := by decide +kernel
theorem dX11_tells_32 : decode cX11_tells 32 = .ok (.invokestatic 268, 3) := dq_777.1
theorem dX11_tells_35 : decode cX11_tells 35 = .ok (.iadd, 1) := dq_777.2.1
theorem dX11_tells_36 : decode cX11_tells 36 = .ok (.iaload, 1) := dq_777.2.2.1
theorem dX11_tells_37 : decode cX11_tells 37 = .ok (.ireturn, 1) := dq_777.2.2.2
theorem dq_778 : decode cX11_spotOf 0 = .ok (.iconst 4, 1) ∧ decode cX11_spotOf 1 = .ok (.iload_n 0, 1) ∧ decode cX11_spotOf 2 = .ok (.imul, 1) ∧ decode cX11_spotOf 3 = .ok (.istore_n 3, 1) ∧ decode cX11_spotOf 4 = .ok (.iload_n 1, 1) ∧ decode cX11_spotOf 5 = .ok (.bipush 8, 2) ∧ decode cX11_spotOf 7 = .ok (.iload_n 2, 1) ∧ decode cX11_spotOf 8 = .ok (.iload_n 3, 1) ∧ decode cX11_spotOf 9 = .ok (.idiv, 1) ∧ decode cX11_spotOf 10 = .ok (.imul, 1) ∧ decode cX11_spotOf 11 = .ok (.iadd, 1) ∧ decode cX11_spotOf 12 = .ok (.iload_n 2, 1) := by decide +kernel
theorem dX11_spotOf_0 : decode cX11_spotOf 0 = .ok (.iconst 4, 1) := dq_778.1
theorem dX11_spotOf_1 : decode cX11_spotOf 1 = .ok (.iload_n 0, 1) := dq_778.2.1
theorem dX11_spotOf_2 : decode cX11_spotOf 2 = .ok (.imul, 1) := dq_778.2.2.1
theorem dX11_spotOf_3 : decode cX11_spotOf 3 = .ok (.istore_n 3, 1) := dq_778.2.2.2.1
theorem dX11_spotOf_4 : decode cX11_spotOf 4 = .ok (.iload_n 1, 1) := dq_778.2.2.2.2.1
theorem dX11_spotOf_5 : decode cX11_spotOf 5 = .ok (.bipush 8, 2) := dq_778.2.2.2.2.2.1
theorem dX11_spotOf_7 : decode cX11_spotOf 7 = .ok (.iload_n 2, 1) := dq_778.2.2.2.2.2.2.1
theorem dX11_spotOf_8 : decode cX11_spotOf 8 = .ok (.iload_n 3, 1) := dq_778.2.2.2.2.2.2.2.1
theorem dX11_spotOf_9 : decode cX11_spotOf 9 = .ok (.idiv, 1) := dq_778.2.2.2.2.2.2.2.2.1
theorem dX11_spotOf_10 : decode cX11_spotOf 10 = .ok (.imul, 1) := dq_778.2.2.2.2.2.2.2.2.2.1
theorem dX11_spotOf_11 : decode cX11_spotOf 11 = .ok (.iadd, 1) := dq_778.2.2.2.2.2.2.2.2.2.2.1
theorem dX11_spotOf_12 : decode cX11_spotOf 12 = .ok (.iload_n 2, 1) := dq_778.2.2.2.2.2.2.2.2.2.2.2
theorem dq_779 : decode cX11_spotOf 13 = .ok (.iload_n 3, 1) ∧ decode cX11_spotOf 14 = .ok (.irem, 1) ∧ decode cX11_spotOf 15 = .ok (.iadd, 1) ∧ decode cX11_spotOf 16 = .ok (.ireturn, 1) := by decide +kernel
theorem dX11_spotOf_13 : decode cX11_spotOf 13 = .ok (.iload_n 3, 1) := dq_779.1
theorem dX11_spotOf_14 : decode cX11_spotOf 14 = .ok (.irem, 1) := dq_779.2.1
theorem dX11_spotOf_15 : decode cX11_spotOf 15 = .ok (.iadd, 1) := dq_779.2.2.1
theorem dX11_spotOf_16 : decode cX11_spotOf 16 = .ok (.ireturn, 1) := dq_779.2.2.2
theorem dq_780 : decode cX11_layCopy 0 = .ok (.aload_n 0, 1) ∧ decode cX11_layCopy 1 = .ok (.iconst 0, 1) ∧ decode cX11_layCopy 2 = .ok (.putfield 272, 3) ∧ decode cX11_layCopy 5 = .ok (.aload_n 0, 1) ∧ decode cX11_layCopy 6 = .ok (.iconst 0, 1) ∧ decode cX11_layCopy 7 = .ok (.putfield 275, 3) ∧ decode cX11_layCopy 10 = .ok (.aload_n 0, 1) ∧ decode cX11_layCopy 11 = .ok (.iconst 0, 1) ∧ decode cX11_layCopy 12 = .ok (.putfield 278, 3) ∧ decode cX11_layCopy 15 = .ok (.iconst 0, 1) ∧ decode cX11_layCopy 16 = .ok (.istore 5, 2) ∧ decode cX11_layCopy 18 = .ok (.iload 5, 2) := by decide +kernel
theorem dX11_layCopy_0 : decode cX11_layCopy 0 = .ok (.aload_n 0, 1) := dq_780.1
theorem dX11_layCopy_1 : decode cX11_layCopy 1 = .ok (.iconst 0, 1) := dq_780.2.1
theorem dX11_layCopy_2 : decode cX11_layCopy 2 = .ok (.putfield 272, 3) := dq_780.2.2.1
theorem dX11_layCopy_5 : decode cX11_layCopy 5 = .ok (.aload_n 0, 1) := dq_780.2.2.2.1
theorem dX11_layCopy_6 : decode cX11_layCopy 6 = .ok (.iconst 0, 1) := dq_780.2.2.2.2.1
theorem dX11_layCopy_7 : decode cX11_layCopy 7 = .ok (.putfield 275, 3) := dq_780.2.2.2.2.2.1
theorem dX11_layCopy_10 : decode cX11_layCopy 10 = .ok (.aload_n 0, 1) := dq_780.2.2.2.2.2.2.1
theorem dX11_layCopy_11 : decode cX11_layCopy 11 = .ok (.iconst 0, 1) := dq_780.2.2.2.2.2.2.2.1
theorem dX11_layCopy_12 : decode cX11_layCopy 12 = .ok (.putfield 278, 3) := dq_780.2.2.2.2.2.2.2.2.1
theorem dX11_layCopy_15 : decode cX11_layCopy 15 = .ok (.iconst 0, 1) := dq_780.2.2.2.2.2.2.2.2.2.1
theorem dX11_layCopy_16 : decode cX11_layCopy 16 = .ok (.istore 5, 2) := dq_780.2.2.2.2.2.2.2.2.2.2.1
theorem dX11_layCopy_18 : decode cX11_layCopy 18 = .ok (.iload 5, 2) := dq_780.2.2.2.2.2.2.2.2.2.2.2
theorem dq_781 : decode cX11_layCopy 20 = .ok (.bipush 16, 2) ∧ decode cX11_layCopy 22 = .ok (.iload_n 3, 1) ∧ decode cX11_layCopy 23 = .ok (.imul, 1) ∧ decode cX11_layCopy 24 = .ok (.iload_n 3, 1) ∧ decode cX11_layCopy 25 = .ok (.imul, 1) ∧ decode cX11_layCopy 26 = .ok (.if_icmp .ge 110, 3) ∧ decode cX11_layCopy 29 = .ok (.aload_n 0, 1) ∧ decode cX11_layCopy 30 = .ok (.iload_n 1, 1) ∧ decode cX11_layCopy 31 = .ok (.iload_n 2, 1) ∧ decode cX11_layCopy 32 = .ok (.iload_n 3, 1) ∧ decode cX11_layCopy 33 = .ok (.iload 5, 2) ∧ decode cX11_layCopy 35 = .ok (.invokevirtual 281, 3) := by decide +kernel
theorem dX11_layCopy_20 : decode cX11_layCopy 20 = .ok (.bipush 16, 2) := dq_781.1
theorem dX11_layCopy_22 : decode cX11_layCopy 22 = .ok (.iload_n 3, 1) := dq_781.2.1
theorem dX11_layCopy_23 : decode cX11_layCopy 23 = .ok (.imul, 1) := dq_781.2.2.1
theorem dX11_layCopy_24 : decode cX11_layCopy 24 = .ok (.iload_n 3, 1) := dq_781.2.2.2.1
theorem dX11_layCopy_25 : decode cX11_layCopy 25 = .ok (.imul, 1) := dq_781.2.2.2.2.1
theorem dX11_layCopy_26 : decode cX11_layCopy 26 = .ok (.if_icmp .ge 110, 3) := dq_781.2.2.2.2.2.1
theorem dX11_layCopy_29 : decode cX11_layCopy 29 = .ok (.aload_n 0, 1) := dq_781.2.2.2.2.2.2.1
theorem dX11_layCopy_30 : decode cX11_layCopy 30 = .ok (.iload_n 1, 1) := dq_781.2.2.2.2.2.2.2.1
theorem dX11_layCopy_31 : decode cX11_layCopy 31 = .ok (.iload_n 2, 1) := dq_781.2.2.2.2.2.2.2.2.1
theorem dX11_layCopy_32 : decode cX11_layCopy 32 = .ok (.iload_n 3, 1) := dq_781.2.2.2.2.2.2.2.2.2.1
theorem dX11_layCopy_33 : decode cX11_layCopy 33 = .ok (.iload 5, 2) := dq_781.2.2.2.2.2.2.2.2.2.2.1
theorem dX11_layCopy_35 : decode cX11_layCopy 35 = .ok (.invokevirtual 281, 3) := dq_781.2.2.2.2.2.2.2.2.2.2.2
theorem dq_782 : decode cX11_layCopy 38 = .ok (.istore 6, 2) ∧ decode cX11_layCopy 40 = .ok (.aload_n 0, 1) ∧ decode cX11_layCopy 41 = .ok (.getfield 72, 3) ∧ decode cX11_layCopy 44 = .ok (.iload_n 3, 1) ∧ decode cX11_layCopy 45 = .ok (.iload 4, 2) ∧ decode cX11_layCopy 47 = .ok (.iload 5, 2) ∧ decode cX11_layCopy 49 = .ok (.invokestatic 285, 3) ∧ decode cX11_layCopy 52 = .ok (.iaload, 1) ∧ decode cX11_layCopy 53 = .ok (.istore 7, 2) ∧ decode cX11_layCopy 55 = .ok (.iload 6, 2) ∧ decode cX11_layCopy 57 = .ok (.bipush (-4), 2) ∧ decode cX11_layCopy 59 = .ok (.if_icmp .eq 71, 3) := by decide +kernel
theorem dX11_layCopy_38 : decode cX11_layCopy 38 = .ok (.istore 6, 2) := dq_782.1
theorem dX11_layCopy_40 : decode cX11_layCopy 40 = .ok (.aload_n 0, 1) := dq_782.2.1
theorem dX11_layCopy_41 : decode cX11_layCopy 41 = .ok (.getfield 72, 3) := dq_782.2.2.1
theorem dX11_layCopy_44 : decode cX11_layCopy 44 = .ok (.iload_n 3, 1) := dq_782.2.2.2.1
theorem dX11_layCopy_45 : decode cX11_layCopy 45 = .ok (.iload 4, 2) := dq_782.2.2.2.2.1
theorem dX11_layCopy_47 : decode cX11_layCopy 47 = .ok (.iload 5, 2) := dq_782.2.2.2.2.2.1
theorem dX11_layCopy_49 : decode cX11_layCopy 49 = .ok (.invokestatic 285, 3) := dq_782.2.2.2.2.2.2.1
theorem dX11_layCopy_52 : decode cX11_layCopy 52 = .ok (.iaload, 1) := dq_782.2.2.2.2.2.2.2.1
theorem dX11_layCopy_53 : decode cX11_layCopy 53 = .ok (.istore 7, 2) := dq_782.2.2.2.2.2.2.2.2.1
theorem dX11_layCopy_55 : decode cX11_layCopy 55 = .ok (.iload 6, 2) := dq_782.2.2.2.2.2.2.2.2.2.1
theorem dX11_layCopy_57 : decode cX11_layCopy 57 = .ok (.bipush (-4), 2) := dq_782.2.2.2.2.2.2.2.2.2.2.1
theorem dX11_layCopy_59 : decode cX11_layCopy 59 = .ok (.if_icmp .eq 71, 3) := dq_782.2.2.2.2.2.2.2.2.2.2.2
theorem dq_783 : decode cX11_layCopy 62 = .ok (.aload_n 0, 1) ∧ decode cX11_layCopy 63 = .ok (.dup, 1) ∧ decode cX11_layCopy 64 = .ok (.getfield 278, 3) ∧ decode cX11_layCopy 67 = .ok (.iload 7, 2) ∧ decode cX11_layCopy 69 = .ok (.iconst (-1), 1) ∧ decode cX11_layCopy 70 = .ok (.if_icmp .ne 7, 3) ∧ decode cX11_layCopy 73 = .ok (.iconst 1, 1) ∧ decode cX11_layCopy 74 = .ok (.goto 4, 3) ∧ decode cX11_layCopy 77 = .ok (.iconst 0, 1) ∧ decode cX11_layCopy 78 = .ok (.iadd, 1) ∧ decode cX11_layCopy 79 = .ok (.putfield 278, 3) ∧ decode cX11_layCopy 82 = .ok (.aload_n 0, 1) := by decide +kernel
theorem dX11_layCopy_62 : decode cX11_layCopy 62 = .ok (.aload_n 0, 1) := dq_783.1
theorem dX11_layCopy_63 : decode cX11_layCopy 63 = .ok (.dup, 1) := dq_783.2.1
theorem dX11_layCopy_64 : decode cX11_layCopy 64 = .ok (.getfield 278, 3) := dq_783.2.2.1
theorem dX11_layCopy_67 : decode cX11_layCopy 67 = .ok (.iload 7, 2) := dq_783.2.2.2.1
theorem dX11_layCopy_69 : decode cX11_layCopy 69 = .ok (.iconst (-1), 1) := dq_783.2.2.2.2.1
theorem dX11_layCopy_70 : decode cX11_layCopy 70 = .ok (.if_icmp .ne 7, 3) := dq_783.2.2.2.2.2.1
theorem dX11_layCopy_73 : decode cX11_layCopy 73 = .ok (.iconst 1, 1) := dq_783.2.2.2.2.2.2.1
theorem dX11_layCopy_74 : decode cX11_layCopy 74 = .ok (.goto 4, 3) := dq_783.2.2.2.2.2.2.2.1
theorem dX11_layCopy_77 : decode cX11_layCopy 77 = .ok (.iconst 0, 1) := dq_783.2.2.2.2.2.2.2.2.1
theorem dX11_layCopy_78 : decode cX11_layCopy 78 = .ok (.iadd, 1) := dq_783.2.2.2.2.2.2.2.2.2.1
theorem dX11_layCopy_79 : decode cX11_layCopy 79 = .ok (.putfield 278, 3) := dq_783.2.2.2.2.2.2.2.2.2.2.1
theorem dX11_layCopy_82 : decode cX11_layCopy 82 = .ok (.aload_n 0, 1) := dq_783.2.2.2.2.2.2.2.2.2.2.2
theorem dq_784 : decode cX11_layCopy 83 = .ok (.dup, 1) ∧ decode cX11_layCopy 84 = .ok (.getfield 272, 3) ∧ decode cX11_layCopy 87 = .ok (.iload 7, 2) ∧ decode cX11_layCopy 89 = .ok (.iload 6, 2) ∧ decode cX11_layCopy 91 = .ok (.if_icmp .ne 7, 3) ∧ decode cX11_layCopy 94 = .ok (.iconst 1, 1) ∧ decode cX11_layCopy 95 = .ok (.goto 4, 3) ∧ decode cX11_layCopy 98 = .ok (.iconst 0, 1) ∧ decode cX11_layCopy 99 = .ok (.iadd, 1) ∧ decode cX11_layCopy 100 = .ok (.putfield 272, 3) ∧ decode cX11_layCopy 103 = .ok (.aload_n 0, 1) ∧ decode cX11_layCopy 104 = .ok (.dup, 1) := by decide +kernel
theorem dX11_layCopy_83 : decode cX11_layCopy 83 = .ok (.dup, 1) := dq_784.1
theorem dX11_layCopy_84 : decode cX11_layCopy 84 = .ok (.getfield 272, 3) := dq_784.2.1
theorem dX11_layCopy_87 : decode cX11_layCopy 87 = .ok (.iload 7, 2) := dq_784.2.2.1
theorem dX11_layCopy_89 : decode cX11_layCopy 89 = .ok (.iload 6, 2) := dq_784.2.2.2.1
theorem dX11_layCopy_91 : decode cX11_layCopy 91 = .ok (.if_icmp .ne 7, 3) := dq_784.2.2.2.2.1
theorem dX11_layCopy_94 : decode cX11_layCopy 94 = .ok (.iconst 1, 1) := dq_784.2.2.2.2.2.1
theorem dX11_layCopy_95 : decode cX11_layCopy 95 = .ok (.goto 4, 3) := dq_784.2.2.2.2.2.2.1
theorem dX11_layCopy_98 : decode cX11_layCopy 98 = .ok (.iconst 0, 1) := dq_784.2.2.2.2.2.2.2.1
theorem dX11_layCopy_99 : decode cX11_layCopy 99 = .ok (.iadd, 1) := dq_784.2.2.2.2.2.2.2.2.1
theorem dX11_layCopy_100 : decode cX11_layCopy 100 = .ok (.putfield 272, 3) := dq_784.2.2.2.2.2.2.2.2.2.1
theorem dX11_layCopy_103 : decode cX11_layCopy 103 = .ok (.aload_n 0, 1) := dq_784.2.2.2.2.2.2.2.2.2.2.1
theorem dX11_layCopy_104 : decode cX11_layCopy 104 = .ok (.dup, 1) := dq_784.2.2.2.2.2.2.2.2.2.2.2
theorem dq_785 : decode cX11_layCopy 105 = .ok (.getfield 275, 3) ∧ decode cX11_layCopy 108 = .ok (.iload 7, 2) ∧ decode cX11_layCopy 110 = .ok (.iconst (-1), 1) ∧ decode cX11_layCopy 111 = .ok (.if_icmp .eq 14, 3) ∧ decode cX11_layCopy 114 = .ok (.iload 7, 2) ∧ decode cX11_layCopy 116 = .ok (.iload 6, 2) ∧ decode cX11_layCopy 118 = .ok (.if_icmp .eq 7, 3) ∧ decode cX11_layCopy 121 = .ok (.iconst 1, 1) ∧ decode cX11_layCopy 122 = .ok (.goto 4, 3) ∧ decode cX11_layCopy 125 = .ok (.iconst 0, 1) ∧ decode cX11_layCopy 126 = .ok (.iadd, 1) ∧ decode cX11_layCopy 127 = .ok (.putfield 275, 3) := by decide +kernel
theorem dX11_layCopy_105 : decode cX11_layCopy 105 = .ok (.getfield 275, 3) := dq_785.1
theorem dX11_layCopy_108 : decode cX11_layCopy 108 = .ok (.iload 7, 2) := dq_785.2.1
theorem dX11_layCopy_110 : decode cX11_layCopy 110 = .ok (.iconst (-1), 1) := dq_785.2.2.1
theorem dX11_layCopy_111 : decode cX11_layCopy 111 = .ok (.if_icmp .eq 14, 3) := dq_785.2.2.2.1
theorem dX11_layCopy_114 : decode cX11_layCopy 114 = .ok (.iload 7, 2) := dq_785.2.2.2.2.1
theorem dX11_layCopy_116 : decode cX11_layCopy 116 = .ok (.iload 6, 2) := dq_785.2.2.2.2.2.1
theorem dX11_layCopy_118 : decode cX11_layCopy 118 = .ok (.if_icmp .eq 7, 3) := dq_785.2.2.2.2.2.2.1
theorem dX11_layCopy_121 : decode cX11_layCopy 121 = .ok (.iconst 1, 1) := dq_785.2.2.2.2.2.2.2.1
theorem dX11_layCopy_122 : decode cX11_layCopy 122 = .ok (.goto 4, 3) := dq_785.2.2.2.2.2.2.2.2.1
theorem dX11_layCopy_125 : decode cX11_layCopy 125 = .ok (.iconst 0, 1) := dq_785.2.2.2.2.2.2.2.2.2.1
theorem dX11_layCopy_126 : decode cX11_layCopy 126 = .ok (.iadd, 1) := dq_785.2.2.2.2.2.2.2.2.2.2.1
theorem dX11_layCopy_127 : decode cX11_layCopy 127 = .ok (.putfield 275, 3) := dq_785.2.2.2.2.2.2.2.2.2.2.2
theorem dq_786 : decode cX11_layCopy 130 = .ok (.iinc 5 1, 3) ∧ decode cX11_layCopy 133 = .ok (.goto (-115), 3) ∧ decode cX11_layCopy 136 = .ok (.return_, 1) := by decide +kernel
theorem dX11_layCopy_130 : decode cX11_layCopy 130 = .ok (.iinc 5 1, 3) := dq_786.1
theorem dX11_layCopy_133 : decode cX11_layCopy 133 = .ok (.goto (-115), 3) := dq_786.2.1
theorem dX11_layCopy_136 : decode cX11_layCopy 136 = .ok (.return_, 1) := dq_786.2.2
theorem dq_787 : decode cX11_lay 0 = .ok (.aload_n 0, 1) ∧ decode cX11_lay 1 = .ok (.iload_n 1, 1) ∧ decode cX11_lay 2 = .ok (.iload_n 2, 1) ∧ decode cX11_lay 3 = .ok (.iload_n 3, 1) ∧ decode cX11_lay 4 = .ok (.iload 4, 2) ∧ decode cX11_lay 6 = .ok (.invokevirtual 288, 3) ∧ decode cX11_lay 9 = .ok (.ifCond .ne 5, 3) ∧ decode cX11_lay 12 = .ok (.iconst (-1), 1) ∧ decode cX11_lay 13 = .ok (.ireturn, 1) ∧ decode cX11_lay 14 = .ok (.aload_n 0, 1) ∧ decode cX11_lay 15 = .ok (.iload_n 1, 1) ∧ decode cX11_lay 16 = .ok (.iload_n 2, 1) := by decide +kernel
theorem dX11_lay_0 : decode cX11_lay 0 = .ok (.aload_n 0, 1) := dq_787.1
theorem dX11_lay_1 : decode cX11_lay 1 = .ok (.iload_n 1, 1) := dq_787.2.1
theorem dX11_lay_2 : decode cX11_lay 2 = .ok (.iload_n 2, 1) := dq_787.2.2.1
theorem dX11_lay_3 : decode cX11_lay 3 = .ok (.iload_n 3, 1) := dq_787.2.2.2.1
theorem dX11_lay_4 : decode cX11_lay 4 = .ok (.iload 4, 2) := dq_787.2.2.2.2.1
theorem dX11_lay_6 : decode cX11_lay 6 = .ok (.invokevirtual 288, 3) := dq_787.2.2.2.2.2.1
theorem dX11_lay_9 : decode cX11_lay 9 = .ok (.ifCond .ne 5, 3) := dq_787.2.2.2.2.2.2.1
theorem dX11_lay_12 : decode cX11_lay 12 = .ok (.iconst (-1), 1) := dq_787.2.2.2.2.2.2.2.1
theorem dX11_lay_13 : decode cX11_lay 13 = .ok (.ireturn, 1) := dq_787.2.2.2.2.2.2.2.2.1
theorem dX11_lay_14 : decode cX11_lay 14 = .ok (.aload_n 0, 1) := dq_787.2.2.2.2.2.2.2.2.2.1
theorem dX11_lay_15 : decode cX11_lay 15 = .ok (.iload_n 1, 1) := dq_787.2.2.2.2.2.2.2.2.2.2.1
theorem dX11_lay_16 : decode cX11_lay 16 = .ok (.iload_n 2, 1) := dq_787.2.2.2.2.2.2.2.2.2.2.2
theorem dq_788 : decode cX11_lay 17 = .ok (.iload_n 3, 1) ∧ decode cX11_lay 18 = .ok (.iload 4, 2) ∧ decode cX11_lay 20 = .ok (.invokevirtual 292, 3) ∧ decode cX11_lay 23 = .ok (.aload_n 0, 1) ∧ decode cX11_lay 24 = .ok (.getfield 275, 3) ∧ decode cX11_lay 27 = .ok (.ifCond .le 6, 3) ∧ decode cX11_lay 30 = .ok (.bipush (-2), 2) ∧ decode cX11_lay 32 = .ok (.ireturn, 1) ∧ decode cX11_lay 33 = .ok (.iconst 0, 1) ∧ decode cX11_lay 34 = .ok (.istore 5, 2) ∧ decode cX11_lay 36 = .ok (.iload 5, 2) ∧ decode cX11_lay 38 = .ok (.bipush 16, 2) := by decide +kernel
theorem dX11_lay_17 : decode cX11_lay 17 = .ok (.iload_n 3, 1) := dq_788.1
theorem dX11_lay_18 : decode cX11_lay 18 = .ok (.iload 4, 2) := dq_788.2.1
theorem dX11_lay_20 : decode cX11_lay 20 = .ok (.invokevirtual 292, 3) := dq_788.2.2.1
theorem dX11_lay_23 : decode cX11_lay 23 = .ok (.aload_n 0, 1) := dq_788.2.2.2.1
theorem dX11_lay_24 : decode cX11_lay 24 = .ok (.getfield 275, 3) := dq_788.2.2.2.2.1
theorem dX11_lay_27 : decode cX11_lay 27 = .ok (.ifCond .le 6, 3) := dq_788.2.2.2.2.2.1
theorem dX11_lay_30 : decode cX11_lay 30 = .ok (.bipush (-2), 2) := dq_788.2.2.2.2.2.2.1
theorem dX11_lay_32 : decode cX11_lay 32 = .ok (.ireturn, 1) := dq_788.2.2.2.2.2.2.2.1
theorem dX11_lay_33 : decode cX11_lay 33 = .ok (.iconst 0, 1) := dq_788.2.2.2.2.2.2.2.2.1
theorem dX11_lay_34 : decode cX11_lay 34 = .ok (.istore 5, 2) := dq_788.2.2.2.2.2.2.2.2.2.1
theorem dX11_lay_36 : decode cX11_lay 36 = .ok (.iload 5, 2) := dq_788.2.2.2.2.2.2.2.2.2.2.1
theorem dX11_lay_38 : decode cX11_lay 38 = .ok (.bipush 16, 2) := dq_788.2.2.2.2.2.2.2.2.2.2.2
theorem dq_789 : decode cX11_lay 40 = .ok (.iload_n 3, 1) ∧ decode cX11_lay 41 = .ok (.imul, 1) ∧ decode cX11_lay 42 = .ok (.iload_n 3, 1) ∧ decode cX11_lay 43 = .ok (.imul, 1) ∧ decode cX11_lay 44 = .ok (.if_icmp .ge 67, 3) ∧ decode cX11_lay 47 = .ok (.aload_n 0, 1) ∧ decode cX11_lay 48 = .ok (.iload_n 1, 1) ∧ decode cX11_lay 49 = .ok (.iload_n 2, 1) ∧ decode cX11_lay 50 = .ok (.iload_n 3, 1) ∧ decode cX11_lay 51 = .ok (.iload 5, 2) ∧ decode cX11_lay 53 = .ok (.invokevirtual 281, 3) ∧ decode cX11_lay 56 = .ok (.istore 6, 2) := by decide +kernel
theorem dX11_lay_40 : decode cX11_lay 40 = .ok (.iload_n 3, 1) := dq_789.1
theorem dX11_lay_41 : decode cX11_lay 41 = .ok (.imul, 1) := dq_789.2.1
theorem dX11_lay_42 : decode cX11_lay 42 = .ok (.iload_n 3, 1) := dq_789.2.2.1
theorem dX11_lay_43 : decode cX11_lay 43 = .ok (.imul, 1) := dq_789.2.2.2.1
theorem dX11_lay_44 : decode cX11_lay 44 = .ok (.if_icmp .ge 67, 3) := dq_789.2.2.2.2.1
theorem dX11_lay_47 : decode cX11_lay 47 = .ok (.aload_n 0, 1) := dq_789.2.2.2.2.2.1
theorem dX11_lay_48 : decode cX11_lay 48 = .ok (.iload_n 1, 1) := dq_789.2.2.2.2.2.2.1
theorem dX11_lay_49 : decode cX11_lay 49 = .ok (.iload_n 2, 1) := dq_789.2.2.2.2.2.2.2.1
theorem dX11_lay_50 : decode cX11_lay 50 = .ok (.iload_n 3, 1) := dq_789.2.2.2.2.2.2.2.2.1
theorem dX11_lay_51 : decode cX11_lay 51 = .ok (.iload 5, 2) := dq_789.2.2.2.2.2.2.2.2.2.1
theorem dX11_lay_53 : decode cX11_lay 53 = .ok (.invokevirtual 281, 3) := dq_789.2.2.2.2.2.2.2.2.2.2.1
theorem dX11_lay_56 : decode cX11_lay 56 = .ok (.istore 6, 2) := dq_789.2.2.2.2.2.2.2.2.2.2.2
theorem dq_790 : decode cX11_lay 58 = .ok (.iload_n 3, 1) ∧ decode cX11_lay 59 = .ok (.iload 4, 2) ∧ decode cX11_lay 61 = .ok (.iload 5, 2) ∧ decode cX11_lay 63 = .ok (.invokestatic 285, 3) ∧ decode cX11_lay 66 = .ok (.istore 7, 2) ∧ decode cX11_lay 68 = .ok (.aload_n 0, 1) ∧ decode cX11_lay 69 = .ok (.getfield 72, 3) ∧ decode cX11_lay 72 = .ok (.iload 7, 2) ∧ decode cX11_lay 74 = .ok (.iload 6, 2) ∧ decode cX11_lay 76 = .ok (.bipush (-4), 2) ∧ decode cX11_lay 78 = .ok (.if_icmp .eq 19, 3) ∧ decode cX11_lay 81 = .ok (.aload_n 0, 1) := by decide +kernel
theorem dX11_lay_58 : decode cX11_lay 58 = .ok (.iload_n 3, 1) := dq_790.1
theorem dX11_lay_59 : decode cX11_lay 59 = .ok (.iload 4, 2) := dq_790.2.1
theorem dX11_lay_61 : decode cX11_lay 61 = .ok (.iload 5, 2) := dq_790.2.2.1
theorem dX11_lay_63 : decode cX11_lay 63 = .ok (.invokestatic 285, 3) := dq_790.2.2.2.1
theorem dX11_lay_66 : decode cX11_lay 66 = .ok (.istore 7, 2) := dq_790.2.2.2.2.1
theorem dX11_lay_68 : decode cX11_lay 68 = .ok (.aload_n 0, 1) := dq_790.2.2.2.2.2.1
theorem dX11_lay_69 : decode cX11_lay 69 = .ok (.getfield 72, 3) := dq_790.2.2.2.2.2.2.1
theorem dX11_lay_72 : decode cX11_lay 72 = .ok (.iload 7, 2) := dq_790.2.2.2.2.2.2.2.1
theorem dX11_lay_74 : decode cX11_lay 74 = .ok (.iload 6, 2) := dq_790.2.2.2.2.2.2.2.2.1
theorem dX11_lay_76 : decode cX11_lay 76 = .ok (.bipush (-4), 2) := dq_790.2.2.2.2.2.2.2.2.2.1
theorem dX11_lay_78 : decode cX11_lay 78 = .ok (.if_icmp .eq 19, 3) := dq_790.2.2.2.2.2.2.2.2.2.2.1
theorem dX11_lay_81 : decode cX11_lay 81 = .ok (.aload_n 0, 1) := dq_790.2.2.2.2.2.2.2.2.2.2.2
theorem dq_791 : decode cX11_lay 82 = .ok (.getfield 72, 3) ∧ decode cX11_lay 85 = .ok (.iload 7, 2) ∧ decode cX11_lay 87 = .ok (.iaload, 1) ∧ decode cX11_lay 88 = .ok (.iconst (-1), 1) ∧ decode cX11_lay 89 = .ok (.if_icmp .ne 8, 3) ∧ decode cX11_lay 92 = .ok (.iload 6, 2) ∧ decode cX11_lay 94 = .ok (.goto 10, 3) ∧ decode cX11_lay 97 = .ok (.aload_n 0, 1) ∧ decode cX11_lay 98 = .ok (.getfield 72, 3) ∧ decode cX11_lay 101 = .ok (.iload 7, 2) ∧ decode cX11_lay 103 = .ok (.iaload, 1) ∧ decode cX11_lay 104 = .ok (.iastore, 1) := by decide +kernel
theorem dX11_lay_82 : decode cX11_lay 82 = .ok (.getfield 72, 3) := dq_791.1
theorem dX11_lay_85 : decode cX11_lay 85 = .ok (.iload 7, 2) := dq_791.2.1
theorem dX11_lay_87 : decode cX11_lay 87 = .ok (.iaload, 1) := dq_791.2.2.1
theorem dX11_lay_88 : decode cX11_lay 88 = .ok (.iconst (-1), 1) := dq_791.2.2.2.1
theorem dX11_lay_89 : decode cX11_lay 89 = .ok (.if_icmp .ne 8, 3) := dq_791.2.2.2.2.1
theorem dX11_lay_92 : decode cX11_lay 92 = .ok (.iload 6, 2) := dq_791.2.2.2.2.2.1
theorem dX11_lay_94 : decode cX11_lay 94 = .ok (.goto 10, 3) := dq_791.2.2.2.2.2.2.1
theorem dX11_lay_97 : decode cX11_lay 97 = .ok (.aload_n 0, 1) := dq_791.2.2.2.2.2.2.2.1
theorem dX11_lay_98 : decode cX11_lay 98 = .ok (.getfield 72, 3) := dq_791.2.2.2.2.2.2.2.2.1
theorem dX11_lay_101 : decode cX11_lay 101 = .ok (.iload 7, 2) := dq_791.2.2.2.2.2.2.2.2.2.1
theorem dX11_lay_103 : decode cX11_lay 103 = .ok (.iaload, 1) := dq_791.2.2.2.2.2.2.2.2.2.2.1
theorem dX11_lay_104 : decode cX11_lay 104 = .ok (.iastore, 1) := dq_791.2.2.2.2.2.2.2.2.2.2.2
theorem dq_792 : decode cX11_lay 105 = .ok (.iinc 5 1, 3) ∧ decode cX11_lay 108 = .ok (.goto (-72), 3) ∧ decode cX11_lay 111 = .ok (.aload_n 0, 1) ∧ decode cX11_lay 112 = .ok (.getfield 278, 3) ∧ decode cX11_lay 115 = .ok (.ireturn, 1) := by decide +kernel
theorem dX11_lay_105 : decode cX11_lay 105 = .ok (.iinc 5 1, 3) := dq_792.1
theorem dX11_lay_108 : decode cX11_lay 108 = .ok (.goto (-72), 3) := dq_792.2.1
theorem dX11_lay_111 : decode cX11_lay 111 = .ok (.aload_n 0, 1) := dq_792.2.2.1
theorem dX11_lay_112 : decode cX11_lay 112 = .ok (.getfield 278, 3) := dq_792.2.2.2.1
theorem dX11_lay_115 : decode cX11_lay 115 = .ok (.ireturn, 1) := dq_792.2.2.2.2
theorem dq_793 : decode cX11_copy 0 = .ok (.aload_n 0, 1) ∧ decode cX11_copy 1 = .ok (.iload_n 1, 1) ∧ decode cX11_copy 2 = .ok (.iload_n 2, 1) ∧ decode cX11_copy 3 = .ok (.iload_n 3, 1) ∧ decode cX11_copy 4 = .ok (.iload 4, 2) ∧ decode cX11_copy 6 = .ok (.invokevirtual 288, 3) ∧ decode cX11_copy 9 = .ok (.ifCond .eq 16, 3) ∧ decode cX11_copy 12 = .ok (.iload 5, 2) ∧ decode cX11_copy 14 = .ok (.i2l, 1) ∧ decode cX11_copy 15 = .ok (.lconst 0, 1) ∧ decode cX11_copy 16 = .ok (.ldc2_w 245, 3) ∧ decode cX11_copy 19 = .ok (.invokestatic 96, 3) := by decide +kernel
theorem dX11_copy_0 : decode cX11_copy 0 = .ok (.aload_n 0, 1) := dq_793.1
theorem dX11_copy_1 : decode cX11_copy 1 = .ok (.iload_n 1, 1) := dq_793.2.1
theorem dX11_copy_2 : decode cX11_copy 2 = .ok (.iload_n 2, 1) := dq_793.2.2.1
theorem dX11_copy_3 : decode cX11_copy 3 = .ok (.iload_n 3, 1) := dq_793.2.2.2.1
theorem dX11_copy_4 : decode cX11_copy 4 = .ok (.iload 4, 2) := dq_793.2.2.2.2.1
theorem dX11_copy_6 : decode cX11_copy 6 = .ok (.invokevirtual 288, 3) := dq_793.2.2.2.2.2.1
theorem dX11_copy_9 : decode cX11_copy 9 = .ok (.ifCond .eq 16, 3) := dq_793.2.2.2.2.2.2.1
theorem dX11_copy_12 : decode cX11_copy 12 = .ok (.iload 5, 2) := dq_793.2.2.2.2.2.2.2.1
theorem dX11_copy_14 : decode cX11_copy 14 = .ok (.i2l, 1) := dq_793.2.2.2.2.2.2.2.2.1
theorem dX11_copy_15 : decode cX11_copy 15 = .ok (.lconst 0, 1) := dq_793.2.2.2.2.2.2.2.2.2.1
theorem dX11_copy_16 : decode cX11_copy 16 = .ok (.ldc2_w 245, 3) := dq_793.2.2.2.2.2.2.2.2.2.2.1
theorem dX11_copy_19 : decode cX11_copy 19 = .ok (.invokestatic 96, 3) := dq_793.2.2.2.2.2.2.2.2.2.2.2
theorem dq_794 : decode cX11_copy 22 = .ok (.ifCond .ne 5, 3) ∧ decode cX11_copy 25 = .ok (.iconst (-1), 1) ∧ decode cX11_copy 26 = .ok (.ireturn, 1) ∧ decode cX11_copy 27 = .ok (.aload_n 0, 1) ∧ decode cX11_copy 28 = .ok (.iload_n 1, 1) ∧ decode cX11_copy 29 = .ok (.iload_n 2, 1) ∧ decode cX11_copy 30 = .ok (.iload_n 3, 1) ∧ decode cX11_copy 31 = .ok (.iload 4, 2) ∧ decode cX11_copy 33 = .ok (.invokevirtual 292, 3) ∧ decode cX11_copy 36 = .ok (.iload 5, 2) ∧ decode cX11_copy 38 = .ok (.ifCond .ne 10, 3) ∧ decode cX11_copy 41 = .ok (.aload_n 0, 1) := by decide +kernel
theorem dX11_copy_22 : decode cX11_copy 22 = .ok (.ifCond .ne 5, 3) := dq_794.1
theorem dX11_copy_25 : decode cX11_copy 25 = .ok (.iconst (-1), 1) := dq_794.2.1
theorem dX11_copy_26 : decode cX11_copy 26 = .ok (.ireturn, 1) := dq_794.2.2.1
theorem dX11_copy_27 : decode cX11_copy 27 = .ok (.aload_n 0, 1) := dq_794.2.2.2.1
theorem dX11_copy_28 : decode cX11_copy 28 = .ok (.iload_n 1, 1) := dq_794.2.2.2.2.1
theorem dX11_copy_29 : decode cX11_copy 29 = .ok (.iload_n 2, 1) := dq_794.2.2.2.2.2.1
theorem dX11_copy_30 : decode cX11_copy 30 = .ok (.iload_n 3, 1) := dq_794.2.2.2.2.2.2.1
theorem dX11_copy_31 : decode cX11_copy 31 = .ok (.iload 4, 2) := dq_794.2.2.2.2.2.2.2.1
theorem dX11_copy_33 : decode cX11_copy 33 = .ok (.invokevirtual 292, 3) := dq_794.2.2.2.2.2.2.2.2.1
theorem dX11_copy_36 : decode cX11_copy 36 = .ok (.iload 5, 2) := dq_794.2.2.2.2.2.2.2.2.2.1
theorem dX11_copy_38 : decode cX11_copy 38 = .ok (.ifCond .ne 10, 3) := dq_794.2.2.2.2.2.2.2.2.2.2.1
theorem dX11_copy_41 : decode cX11_copy 41 = .ok (.aload_n 0, 1) := dq_794.2.2.2.2.2.2.2.2.2.2.2
theorem dq_795 : decode cX11_copy 42 = .ok (.getfield 272, 3) ∧ decode cX11_copy 45 = .ok (.goto 20, 3) ∧ decode cX11_copy 48 = .ok (.iload 5, 2) ∧ decode cX11_copy 50 = .ok (.iconst 1, 1) ∧ decode cX11_copy 51 = .ok (.if_icmp .ne 10, 3) ∧ decode cX11_copy 54 = .ok (.aload_n 0, 1) ∧ decode cX11_copy 55 = .ok (.getfield 275, 3) ∧ decode cX11_copy 58 = .ok (.goto 7, 3) ∧ decode cX11_copy 61 = .ok (.aload_n 0, 1) ∧ decode cX11_copy 62 = .ok (.getfield 278, 3) ∧ decode cX11_copy 65 = .ok (.ireturn, 1) := by decide +kernel
theorem dX11_copy_42 : decode cX11_copy 42 = .ok (.getfield 272, 3) := dq_795.1
theorem dX11_copy_45 : decode cX11_copy 45 = .ok (.goto 20, 3) := dq_795.2.1
theorem dX11_copy_48 : decode cX11_copy 48 = .ok (.iload 5, 2) := dq_795.2.2.1
theorem dX11_copy_50 : decode cX11_copy 50 = .ok (.iconst 1, 1) := dq_795.2.2.2.1
theorem dX11_copy_51 : decode cX11_copy 51 = .ok (.if_icmp .ne 10, 3) := dq_795.2.2.2.2.1
theorem dX11_copy_54 : decode cX11_copy 54 = .ok (.aload_n 0, 1) := dq_795.2.2.2.2.2.1
theorem dX11_copy_55 : decode cX11_copy 55 = .ok (.getfield 275, 3) := dq_795.2.2.2.2.2.2.1
theorem dX11_copy_58 : decode cX11_copy 58 = .ok (.goto 7, 3) := dq_795.2.2.2.2.2.2.2.1
theorem dX11_copy_61 : decode cX11_copy 61 = .ok (.aload_n 0, 1) := dq_795.2.2.2.2.2.2.2.2.1
theorem dX11_copy_62 : decode cX11_copy 62 = .ok (.getfield 278, 3) := dq_795.2.2.2.2.2.2.2.2.2.1
theorem dX11_copy_65 : decode cX11_copy 65 = .ok (.ireturn, 1) := dq_795.2.2.2.2.2.2.2.2.2.2
theorem dq_796 : decode cX11_best 0 = .ok (.iload_n 1, 1) ∧ decode cX11_best 1 = .ok (.i2l, 1) ∧ decode cX11_best 2 = .ok (.lconst 0, 1) ∧ decode cX11_best 3 = .ok (.ldc2_w 296, 3) ∧ decode cX11_best 6 = .ok (.invokestatic 96, 3) ∧ decode cX11_best 9 = .ok (.ifCond .ne 5, 3) ∧ decode cX11_best 12 = .ok (.iconst (-1), 1) ∧ decode cX11_best 13 = .ok (.ireturn, 1) ∧ decode cX11_best 14 = .ok (.bipush (-4), 2) ∧ decode cX11_best 16 = .ok (.istore_n 2, 1) ∧ decode cX11_best 17 = .ok (.iconst 0, 1) ∧ decode cX11_best 18 = .ok (.istore_n 3, 1) := by decide +kernel
theorem dX11_best_0 : decode cX11_best 0 = .ok (.iload_n 1, 1) := dq_796.1
theorem dX11_best_1 : decode cX11_best 1 = .ok (.i2l, 1) := dq_796.2.1
theorem dX11_best_2 : decode cX11_best 2 = .ok (.lconst 0, 1) := dq_796.2.2.1
theorem dX11_best_3 : decode cX11_best 3 = .ok (.ldc2_w 296, 3) := dq_796.2.2.2.1
theorem dX11_best_6 : decode cX11_best 6 = .ok (.invokestatic 96, 3) := dq_796.2.2.2.2.1
theorem dX11_best_9 : decode cX11_best 9 = .ok (.ifCond .ne 5, 3) := dq_796.2.2.2.2.2.1
theorem dX11_best_12 : decode cX11_best 12 = .ok (.iconst (-1), 1) := dq_796.2.2.2.2.2.2.1
theorem dX11_best_13 : decode cX11_best 13 = .ok (.ireturn, 1) := dq_796.2.2.2.2.2.2.2.1
theorem dX11_best_14 : decode cX11_best 14 = .ok (.bipush (-4), 2) := dq_796.2.2.2.2.2.2.2.2.1
theorem dX11_best_16 : decode cX11_best 16 = .ok (.istore_n 2, 1) := dq_796.2.2.2.2.2.2.2.2.2.1
theorem dX11_best_17 : decode cX11_best 17 = .ok (.iconst 0, 1) := dq_796.2.2.2.2.2.2.2.2.2.2.1
theorem dX11_best_18 : decode cX11_best 18 = .ok (.istore_n 3, 1) := dq_796.2.2.2.2.2.2.2.2.2.2.2
theorem dq_797 : decode cX11_best 19 = .ok (.iconst 0, 1) ∧ decode cX11_best 20 = .ok (.istore 4, 2) ∧ decode cX11_best 22 = .ok (.iload 4, 2) ∧ decode cX11_best 24 = .ok (.sipush 1024, 3) ∧ decode cX11_best 27 = .ok (.aload_n 0, 1) ∧ decode cX11_best 28 = .ok (.getfield 187, 3) ∧ decode cX11_best 31 = .ok (.imul, 1) ∧ decode cX11_best 32 = .ok (.if_icmp .ge 97, 3) ∧ decode cX11_best 35 = .ok (.iload 4, 2) ∧ decode cX11_best 37 = .ok (.sipush 1024, 3) ∧ decode cX11_best 40 = .ok (.idiv, 1) ∧ decode cX11_best 41 = .ok (.istore 5, 2) := by decide +kernel
theorem dX11_best_19 : decode cX11_best 19 = .ok (.iconst 0, 1) := dq_797.1
theorem dX11_best_20 : decode cX11_best 20 = .ok (.istore 4, 2) := dq_797.2.1
theorem dX11_best_22 : decode cX11_best 22 = .ok (.iload 4, 2) := dq_797.2.2.1
theorem dX11_best_24 : decode cX11_best 24 = .ok (.sipush 1024, 3) := dq_797.2.2.2.1
theorem dX11_best_27 : decode cX11_best 27 = .ok (.aload_n 0, 1) := dq_797.2.2.2.2.1
theorem dX11_best_28 : decode cX11_best 28 = .ok (.getfield 187, 3) := dq_797.2.2.2.2.2.1
theorem dX11_best_31 : decode cX11_best 31 = .ok (.imul, 1) := dq_797.2.2.2.2.2.2.1
theorem dX11_best_32 : decode cX11_best 32 = .ok (.if_icmp .ge 97, 3) := dq_797.2.2.2.2.2.2.2.1
theorem dX11_best_35 : decode cX11_best 35 = .ok (.iload 4, 2) := dq_797.2.2.2.2.2.2.2.2.1
theorem dX11_best_37 : decode cX11_best 37 = .ok (.sipush 1024, 3) := dq_797.2.2.2.2.2.2.2.2.2.1
theorem dX11_best_40 : decode cX11_best 40 = .ok (.idiv, 1) := dq_797.2.2.2.2.2.2.2.2.2.2.1
theorem dX11_best_41 : decode cX11_best 41 = .ok (.istore 5, 2) := dq_797.2.2.2.2.2.2.2.2.2.2.2
theorem dq_798 : decode cX11_best 43 = .ok (.iload 4, 2) ∧ decode cX11_best 45 = .ok (.sipush 512, 3) ∧ decode cX11_best 48 = .ok (.idiv, 1) ∧ decode cX11_best 49 = .ok (.iconst 2, 1) ∧ decode cX11_best 50 = .ok (.irem, 1) ∧ decode cX11_best 51 = .ok (.iconst 1, 1) ∧ decode cX11_best 52 = .ok (.iadd, 1) ∧ decode cX11_best 53 = .ok (.istore 6, 2) ∧ decode cX11_best 55 = .ok (.aload_n 0, 1) ∧ decode cX11_best 56 = .ok (.iload 5, 2) ∧ decode cX11_best 58 = .ok (.iload 4, 2) ∧ decode cX11_best 60 = .ok (.bipush 64, 2) := by decide +kernel
theorem dX11_best_43 : decode cX11_best 43 = .ok (.iload 4, 2) := dq_798.1
theorem dX11_best_45 : decode cX11_best 45 = .ok (.sipush 512, 3) := dq_798.2.1
theorem dX11_best_48 : decode cX11_best 48 = .ok (.idiv, 1) := dq_798.2.2.1
theorem dX11_best_49 : decode cX11_best 49 = .ok (.iconst 2, 1) := dq_798.2.2.2.1
theorem dX11_best_50 : decode cX11_best 50 = .ok (.irem, 1) := dq_798.2.2.2.2.1
theorem dX11_best_51 : decode cX11_best 51 = .ok (.iconst 1, 1) := dq_798.2.2.2.2.2.1
theorem dX11_best_52 : decode cX11_best 52 = .ok (.iadd, 1) := dq_798.2.2.2.2.2.2.1
theorem dX11_best_53 : decode cX11_best 53 = .ok (.istore 6, 2) := dq_798.2.2.2.2.2.2.2.1
theorem dX11_best_55 : decode cX11_best 55 = .ok (.aload_n 0, 1) := dq_798.2.2.2.2.2.2.2.2.1
theorem dX11_best_56 : decode cX11_best 56 = .ok (.iload 5, 2) := dq_798.2.2.2.2.2.2.2.2.2.1
theorem dX11_best_58 : decode cX11_best 58 = .ok (.iload 4, 2) := dq_798.2.2.2.2.2.2.2.2.2.2.1
theorem dX11_best_60 : decode cX11_best 60 = .ok (.bipush 64, 2) := dq_798.2.2.2.2.2.2.2.2.2.2.2
theorem dq_799 : decode cX11_best 62 = .ok (.idiv, 1) ∧ decode cX11_best 63 = .ok (.bipush 8, 2) ∧ decode cX11_best 65 = .ok (.irem, 1) ∧ decode cX11_best 66 = .ok (.iload 6, 2) ∧ decode cX11_best 68 = .ok (.iload 4, 2) ∧ decode cX11_best 70 = .ok (.bipush 64, 2) ∧ decode cX11_best 72 = .ok (.irem, 1) ∧ decode cX11_best 73 = .ok (.invokevirtual 288, 3) ∧ decode cX11_best 76 = .ok (.ifCond .eq 47, 3) ∧ decode cX11_best 79 = .ok (.aload_n 0, 1) ∧ decode cX11_best 80 = .ok (.iload 5, 2) ∧ decode cX11_best 82 = .ok (.iload 4, 2) := by decide +kernel
theorem dX11_best_62 : decode cX11_best 62 = .ok (.idiv, 1) := dq_799.1
theorem dX11_best_63 : decode cX11_best 63 = .ok (.bipush 8, 2) := dq_799.2.1
theorem dX11_best_65 : decode cX11_best 65 = .ok (.irem, 1) := dq_799.2.2.1
theorem dX11_best_66 : decode cX11_best 66 = .ok (.iload 6, 2) := dq_799.2.2.2.1
theorem dX11_best_68 : decode cX11_best 68 = .ok (.iload 4, 2) := dq_799.2.2.2.2.1
theorem dX11_best_70 : decode cX11_best 70 = .ok (.bipush 64, 2) := dq_799.2.2.2.2.2.1
theorem dX11_best_72 : decode cX11_best 72 = .ok (.irem, 1) := dq_799.2.2.2.2.2.2.1
theorem dX11_best_73 : decode cX11_best 73 = .ok (.invokevirtual 288, 3) := dq_799.2.2.2.2.2.2.2.1
theorem dX11_best_76 : decode cX11_best 76 = .ok (.ifCond .eq 47, 3) := dq_799.2.2.2.2.2.2.2.2.1
theorem dX11_best_79 : decode cX11_best 79 = .ok (.aload_n 0, 1) := dq_799.2.2.2.2.2.2.2.2.2.1
theorem dX11_best_80 : decode cX11_best 80 = .ok (.iload 5, 2) := dq_799.2.2.2.2.2.2.2.2.2.2.1
theorem dX11_best_82 : decode cX11_best 82 = .ok (.iload 4, 2) := dq_799.2.2.2.2.2.2.2.2.2.2.2
theorem dq_800 : decode cX11_best 84 = .ok (.bipush 64, 2) ∧ decode cX11_best 86 = .ok (.idiv, 1) ∧ decode cX11_best 87 = .ok (.bipush 8, 2) ∧ decode cX11_best 89 = .ok (.irem, 1) ∧ decode cX11_best 90 = .ok (.iload 6, 2) ∧ decode cX11_best 92 = .ok (.iload 4, 2) ∧ decode cX11_best 94 = .ok (.bipush 64, 2) ∧ decode cX11_best 96 = .ok (.irem, 1) ∧ decode cX11_best 97 = .ok (.invokevirtual 292, 3) ∧ decode cX11_best 100 = .ok (.aload_n 0, 1) ∧ decode cX11_best 101 = .ok (.getfield 275, 3) ∧ decode cX11_best 104 = .ok (.ifCond .ne 19, 3) := by decide +kernel
theorem dX11_best_84 : decode cX11_best 84 = .ok (.bipush 64, 2) := dq_800.1
theorem dX11_best_86 : decode cX11_best 86 = .ok (.idiv, 1) := dq_800.2.1
theorem dX11_best_87 : decode cX11_best 87 = .ok (.bipush 8, 2) := dq_800.2.2.1
theorem dX11_best_89 : decode cX11_best 89 = .ok (.irem, 1) := dq_800.2.2.2.1
theorem dX11_best_90 : decode cX11_best 90 = .ok (.iload 6, 2) := dq_800.2.2.2.2.1
theorem dX11_best_92 : decode cX11_best 92 = .ok (.iload 4, 2) := dq_800.2.2.2.2.2.1
theorem dX11_best_94 : decode cX11_best 94 = .ok (.bipush 64, 2) := dq_800.2.2.2.2.2.2.1
theorem dX11_best_96 : decode cX11_best 96 = .ok (.irem, 1) := dq_800.2.2.2.2.2.2.2.1
theorem dX11_best_97 : decode cX11_best 97 = .ok (.invokevirtual 292, 3) := dq_800.2.2.2.2.2.2.2.2.1
theorem dX11_best_100 : decode cX11_best 100 = .ok (.aload_n 0, 1) := dq_800.2.2.2.2.2.2.2.2.2.1
theorem dX11_best_101 : decode cX11_best 101 = .ok (.getfield 275, 3) := dq_800.2.2.2.2.2.2.2.2.2.2.1
theorem dX11_best_104 : decode cX11_best 104 = .ok (.ifCond .ne 19, 3) := dq_800.2.2.2.2.2.2.2.2.2.2.2
theorem dq_801 : decode cX11_best 107 = .ok (.aload_n 0, 1) ∧ decode cX11_best 108 = .ok (.getfield 272, 3) ∧ decode cX11_best 111 = .ok (.iload_n 3, 1) ∧ decode cX11_best 112 = .ok (.if_icmp .le 11, 3) ∧ decode cX11_best 115 = .ok (.iload 4, 2) ∧ decode cX11_best 117 = .ok (.istore_n 2, 1) ∧ decode cX11_best 118 = .ok (.aload_n 0, 1) ∧ decode cX11_best 119 = .ok (.getfield 272, 3) ∧ decode cX11_best 122 = .ok (.istore_n 3, 1) ∧ decode cX11_best 123 = .ok (.iinc 4 1, 3) ∧ decode cX11_best 126 = .ok (.goto (-104), 3) ∧ decode cX11_best 129 = .ok (.iload_n 2, 1) := by decide +kernel
theorem dX11_best_107 : decode cX11_best 107 = .ok (.aload_n 0, 1) := dq_801.1
theorem dX11_best_108 : decode cX11_best 108 = .ok (.getfield 272, 3) := dq_801.2.1
theorem dX11_best_111 : decode cX11_best 111 = .ok (.iload_n 3, 1) := dq_801.2.2.1
theorem dX11_best_112 : decode cX11_best 112 = .ok (.if_icmp .le 11, 3) := dq_801.2.2.2.1
theorem dX11_best_115 : decode cX11_best 115 = .ok (.iload 4, 2) := dq_801.2.2.2.2.1
theorem dX11_best_117 : decode cX11_best 117 = .ok (.istore_n 2, 1) := dq_801.2.2.2.2.2.1
theorem dX11_best_118 : decode cX11_best 118 = .ok (.aload_n 0, 1) := dq_801.2.2.2.2.2.2.1
theorem dX11_best_119 : decode cX11_best 119 = .ok (.getfield 272, 3) := dq_801.2.2.2.2.2.2.2.1
theorem dX11_best_122 : decode cX11_best 122 = .ok (.istore_n 3, 1) := dq_801.2.2.2.2.2.2.2.2.1
theorem dX11_best_123 : decode cX11_best 123 = .ok (.iinc 4 1, 3) := dq_801.2.2.2.2.2.2.2.2.2.1
theorem dX11_best_126 : decode cX11_best 126 = .ok (.goto (-104), 3) := dq_801.2.2.2.2.2.2.2.2.2.2.1
theorem dX11_best_129 : decode cX11_best 129 = .ok (.iload_n 2, 1) := dq_801.2.2.2.2.2.2.2.2.2.2.2
theorem dq_802 : decode cX11_best 130 = .ok (.bipush (-4), 2) ∧ decode cX11_best 132 = .ok (.if_icmp .ne 6, 3) ∧ decode cX11_best 135 = .ok (.bipush (-4), 2) ∧ decode cX11_best 137 = .ok (.ireturn, 1) ∧ decode cX11_best 138 = .ok (.iload_n 1, 1) ∧ decode cX11_best 139 = .ok (.ifCond .ne 11, 3) ∧ decode cX11_best 142 = .ok (.iload_n 2, 1) ∧ decode cX11_best 143 = .ok (.sipush 1024, 3) ∧ decode cX11_best 146 = .ok (.idiv, 1) ∧ decode cX11_best 147 = .ok (.goto 48, 3) ∧ decode cX11_best 150 = .ok (.iload_n 1, 1) ∧ decode cX11_best 151 = .ok (.iconst 1, 1) := by decide +kernel
theorem dX11_best_130 : decode cX11_best 130 = .ok (.bipush (-4), 2) := dq_802.1
theorem dX11_best_132 : decode cX11_best 132 = .ok (.if_icmp .ne 6, 3) := dq_802.2.1
theorem dX11_best_135 : decode cX11_best 135 = .ok (.bipush (-4), 2) := dq_802.2.2.1
theorem dX11_best_137 : decode cX11_best 137 = .ok (.ireturn, 1) := dq_802.2.2.2.1
theorem dX11_best_138 : decode cX11_best 138 = .ok (.iload_n 1, 1) := dq_802.2.2.2.2.1
theorem dX11_best_139 : decode cX11_best 139 = .ok (.ifCond .ne 11, 3) := dq_802.2.2.2.2.2.1
theorem dX11_best_142 : decode cX11_best 142 = .ok (.iload_n 2, 1) := dq_802.2.2.2.2.2.2.1
theorem dX11_best_143 : decode cX11_best 143 = .ok (.sipush 1024, 3) := dq_802.2.2.2.2.2.2.2.1
theorem dX11_best_146 : decode cX11_best 146 = .ok (.idiv, 1) := dq_802.2.2.2.2.2.2.2.2.1
theorem dX11_best_147 : decode cX11_best 147 = .ok (.goto 48, 3) := dq_802.2.2.2.2.2.2.2.2.2.1
theorem dX11_best_150 : decode cX11_best 150 = .ok (.iload_n 1, 1) := dq_802.2.2.2.2.2.2.2.2.2.2.1
theorem dX11_best_151 : decode cX11_best 151 = .ok (.iconst 1, 1) := dq_802.2.2.2.2.2.2.2.2.2.2.2
