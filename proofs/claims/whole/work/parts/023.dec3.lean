theorem dX10_lost_77 : decode cX10_lost 77 = .ok (.lload_n 2, 1) := by decide +kernel
theorem dX10_lost_78 : decode cX10_lost 78 = .ok (.aload_n 0, 1) := by decide +kernel
theorem dX10_lost_79 : decode cX10_lost 79 = .ok (.getfield 59, 3) := by decide +kernel
theorem dX10_lost_82 : decode cX10_lost 82 = .ok (.invokevirtual 316, 3) := by decide +kernel
theorem dX10_lost_85 : decode cX10_lost 85 = .ok (.land, 1) := by decide +kernel
theorem dX10_lost_86 : decode cX10_lost 86 = .ok (.invokestatic 311, 3) := by decide +kernel
theorem dX10_lost_89 : decode cX10_lost 89 = .ok (.ireturn, 1) := by decide +kernel
theorem dX10_lost_90 : decode cX10_lost 90 = .ok (.lload_n 2, 1) := by decide +kernel
theorem dX10_lost_91 : decode cX10_lost 91 = .ok (.aload_n 0, 1) := by decide +kernel
theorem dX10_lost_92 : decode cX10_lost 92 = .ok (.getfield 59, 3) := by decide +kernel
theorem dX10_lost_95 : decode cX10_lost 95 = .ok (.invokevirtual 319, 3) := by decide +kernel
theorem dX10_lost_98 : decode cX10_lost 98 = .ok (.land, 1) := by decide +kernel
theorem dX10_lost_99 : decode cX10_lost 99 = .ok (.invokestatic 311, 3) := by decide +kernel
theorem dX10_lost_102 : decode cX10_lost 102 = .ok (.ireturn, 1) := by decide +kernel
theorem dX10_fill_0 : decode cX10_fill 0 = .ok (.aload_n 0, 1) := by decide +kernel
theorem dX10_fill_1 : decode cX10_fill 1 = .ok (.getfield 59, 3) := by decide +kernel
theorem dX10_fill_4 : decode cX10_fill 4 = .ok (.aload_n 0, 1) := by decide +kernel
theorem dX10_fill_5 : decode cX10_fill 5 = .ok (.getfield 45, 3) := by decide +kernel
theorem dX10_fill_8 : decode cX10_fill 8 = .ok (.aload_n 0, 1) := by decide +kernel
theorem dX10_fill_9 : decode cX10_fill 9 = .ok (.getfield 52, 3) := by decide +kernel
theorem dX10_fill_12 : decode cX10_fill 12 = .ok (.iconst 2, 1) := by decide +kernel
theorem dX10_fill_13 : decode cX10_fill 13 = .ok (.invokevirtual 298, 3) := by decide +kernel
theorem dX10_fill_16 : decode cX10_fill 16 = .ok (.aload_n 0, 1) := by decide +kernel
theorem dX10_fill_17 : decode cX10_fill 17 = .ok (.getfield 45, 3) := by decide +kernel
theorem dX10_fill_20 : decode cX10_fill 20 = .ok (.invokevirtual 305, 3) := by decide +kernel
theorem dX10_fill_23 : decode cX10_fill 23 = .ok (.aload_n 0, 1) := by decide +kernel
theorem dX10_fill_24 : decode cX10_fill 24 = .ok (.getfield 59, 3) := by decide +kernel
theorem dX10_fill_27 : decode cX10_fill 27 = .ok (.invokevirtual 308, 3) := by decide +kernel
theorem dX10_fill_30 : decode cX10_fill 30 = .ok (.land, 1) := by decide +kernel
theorem dX10_fill_31 : decode cX10_fill 31 = .ok (.lstore_n 1, 1) := by decide +kernel
theorem dX10_fill_32 : decode cX10_fill 32 = .ok (.iconst 0, 1) := by decide +kernel
theorem dX10_fill_33 : decode cX10_fill 33 = .ok (.istore_n 3, 1) := by decide +kernel
theorem dX10_fill_34 : decode cX10_fill 34 = .ok (.iload_n 3, 1) := by decide +kernel
theorem dX10_fill_35 : decode cX10_fill 35 = .ok (.bipush 64, 2) := by decide +kernel
theorem dX10_fill_37 : decode cX10_fill 37 = .ok (.if_icmp .ge 33, 3) := by decide +kernel
theorem dX10_fill_40 : decode cX10_fill 40 = .ok (.lload_n 1, 1) := by decide +kernel
theorem dX10_fill_41 : decode cX10_fill 41 = .ok (.iload_n 3, 1) := by decide +kernel
theorem dX10_fill_42 : decode cX10_fill 42 = .ok (.invokestatic 322, 3) := by decide +kernel
theorem dX10_fill_45 : decode cX10_fill 45 = .ok (.ifCond .eq 19, 3) := by decide +kernel
theorem dX10_fill_48 : decode cX10_fill 48 = .ok (.aload_n 0, 1) := by decide +kernel
theorem dX10_fill_49 : decode cX10_fill 49 = .ok (.getfield 45, 3) := by decide +kernel
theorem dX10_fill_52 : decode cX10_fill 52 = .ok (.iload_n 3, 1) := by decide +kernel
theorem dX10_fill_53 : decode cX10_fill 53 = .ok (.aload_n 0, 1) := by decide +kernel
theorem dX10_fill_54 : decode cX10_fill 54 = .ok (.getfield 59, 3) := by decide +kernel
theorem dX10_fill_57 : decode cX10_fill 57 = .ok (.iload_n 3, 1) := by decide +kernel
theorem dX10_fill_58 : decode cX10_fill 58 = .ok (.invokevirtual 302, 3) := by decide +kernel
theorem dX10_fill_61 : decode cX10_fill 61 = .ok (.invokevirtual 166, 3) := by decide +kernel
theorem dX10_fill_64 : decode cX10_fill 64 = .ok (.iinc 3 1, 3) := by decide +kernel
theorem dX10_fill_67 : decode cX10_fill 67 = .ok (.goto (-33), 3) := by decide +kernel
theorem dX10_fill_70 : decode cX10_fill 70 = .ok (.aload_n 0, 1) := by decide +kernel
theorem dX10_fill_71 : decode cX10_fill 71 = .ok (.getfield 45, 3) := by decide +kernel
theorem dX10_fill_74 : decode cX10_fill 74 = .ok (.lload_n 1, 1) := by decide +kernel
theorem dX10_fill_75 : decode cX10_fill 75 = .ok (.invokevirtual 326, 3) := by decide +kernel
theorem dX10_fill_78 : decode cX10_fill 78 = .ok (.lload_n 1, 1) := by decide +kernel
theorem dX10_fill_79 : decode cX10_fill 79 = .ok (.invokestatic 311, 3) := by decide +kernel
theorem dX10_fill_82 : decode cX10_fill 82 = .ok (.ireturn, 1) := by decide +kernel
theorem dX10_undo_0 : decode cX10_undo 0 = .ok (.aload_n 0, 1) := by decide +kernel
theorem dX10_undo_1 : decode cX10_undo 1 = .ok (.getfield 45, 3) := by decide +kernel
theorem dX10_undo_4 : decode cX10_undo 4 = .ok (.invokevirtual 330, 3) := by decide +kernel
theorem dX10_undo_7 : decode cX10_undo 7 = .ok (.ifCond .eq 13, 3) := by decide +kernel
theorem dX10_undo_10 : decode cX10_undo 10 = .ok (.aload_n 0, 1) := by decide +kernel
theorem dX10_undo_11 : decode cX10_undo 11 = .ok (.getfield 45, 3) := by decide +kernel
theorem dX10_undo_14 : decode cX10_undo 14 = .ok (.invokevirtual 333, 3) := by decide +kernel
theorem dX10_undo_17 : decode cX10_undo 17 = .ok (.goto 5, 3) := by decide +kernel
theorem dX10_undo_20 : decode cX10_undo 20 = .ok (.bipush (-2), 2) := by decide +kernel
theorem dX10_undo_22 : decode cX10_undo 22 = .ok (.ireturn, 1) := by decide +kernel
theorem dX10_stones_0 : decode cX10_stones 0 = .ok (.iload_n 1, 1) := by decide +kernel
theorem dX10_stones_1 : decode cX10_stones 1 = .ok (.iconst 0, 1) := by decide +kernel
theorem dX10_stones_2 : decode cX10_stones 2 = .ok (.iconst 5, 1) := by decide +kernel
theorem dX10_stones_3 : decode cX10_stones 3 = .ok (.invokestatic 123, 3) := by decide +kernel
theorem dX10_stones_6 : decode cX10_stones 6 = .ok (.ifCond .eq 17, 3) := by decide +kernel
theorem dX10_stones_9 : decode cX10_stones 9 = .ok (.aload_n 0, 1) := by decide +kernel
theorem dX10_stones_10 : decode cX10_stones 10 = .ok (.getfield 45, 3) := by decide +kernel
theorem dX10_stones_13 : decode cX10_stones 13 = .ok (.iload_n 1, 1) := by decide +kernel
theorem dX10_stones_14 : decode cX10_stones 14 = .ok (.invokevirtual 336, 3) := by decide +kernel
theorem dX10_stones_17 : decode cX10_stones 17 = .ok (.invokestatic 311, 3) := by decide +kernel
theorem dX10_stones_20 : decode cX10_stones 20 = .ok (.goto 4, 3) := by decide +kernel
theorem dX10_stones_23 : decode cX10_stones 23 = .ok (.iconst (-1), 1) := by decide +kernel
theorem dX10_stones_24 : decode cX10_stones 24 = .ok (.ireturn, 1) := by decide +kernel
theorem dX10_works_0 : decode cX10_works 0 = .ok (.iload_n 1, 1) := by decide +kernel
theorem dX10_works_1 : decode cX10_works 1 = .ok (.tableswitch 47 0 2 #[27, 32, 32], 27) := by decide +kernel
theorem dX10_works_28 : decode cX10_works 28 = .ok (.aload_n 0, 1) := by decide +kernel
theorem dX10_works_29 : decode cX10_works 29 = .ok (.invokevirtual 340, 3) := by decide +kernel
theorem dX10_works_32 : decode cX10_works 32 = .ok (.lreturn, 1) := by decide +kernel
theorem dX10_works_33 : decode cX10_works 33 = .ok (.aload_n 0, 1) := by decide +kernel
theorem dX10_works_34 : decode cX10_works 34 = .ok (.iload_n 1, 1) := by decide +kernel
theorem dX10_works_35 : decode cX10_works 35 = .ok (.iconst 1, 1) := by decide +kernel
theorem dX10_works_36 : decode cX10_works 36 = .ok (.if_icmp .ne 7, 3) := by decide +kernel
theorem dX10_works_39 : decode cX10_works 39 = .ok (.iconst 1, 1) := by decide +kernel
theorem dX10_works_40 : decode cX10_works 40 = .ok (.goto 4, 3) := by decide +kernel
theorem dX10_works_43 : decode cX10_works 43 = .ok (.iconst 0, 1) := by decide +kernel
theorem dX10_works_44 : decode cX10_works 44 = .ok (.invokevirtual 343, 3) := by decide +kernel
theorem dX10_works_47 : decode cX10_works 47 = .ok (.lreturn, 1) := by decide +kernel
theorem dX10_works_48 : decode cX10_works 48 = .ok (.ldc2_w 212, 3) := by decide +kernel
theorem dX10_works_51 : decode cX10_works 51 = .ok (.lreturn, 1) := by decide +kernel
theorem dX10_mix_0 : decode cX10_mix 0 = .ok (.iload_n 1, 1) := by decide +kernel
theorem dX10_mix_1 : decode cX10_mix 1 = .ok (.invokestatic 347, 3) := by decide +kernel
theorem dX10_mix_4 : decode cX10_mix 4 = .ok (.ifCond .eq 14, 3) := by decide +kernel
theorem dX10_mix_7 : decode cX10_mix 7 = .ok (.iload_n 2, 1) := by decide +kernel
theorem dX10_mix_8 : decode cX10_mix 8 = .ok (.iconst 0, 1) := by decide +kernel
theorem dX10_mix_9 : decode cX10_mix 9 = .ok (.sipush 255, 3) := by decide +kernel
theorem dX10_mix_12 : decode cX10_mix 12 = .ok (.invokestatic 123, 3) := by decide +kernel
theorem dX10_mix_15 : decode cX10_mix 15 = .ok (.ifCond .ne 5, 3) := by decide +kernel
theorem dX10_mix_18 : decode cX10_mix 18 = .ok (.iconst (-1), 1) := by decide +kernel
theorem dX10_mix_19 : decode cX10_mix 19 = .ok (.ireturn, 1) := by decide +kernel
theorem dX10_mix_20 : decode cX10_mix 20 = .ok (.aload_n 0, 1) := by decide +kernel
theorem dX10_mix_21 : decode cX10_mix 21 = .ok (.getfield 45, 3) := by decide +kernel
theorem dX10_mix_24 : decode cX10_mix 24 = .ok (.iload_n 1, 1) := by decide +kernel
theorem dX10_mix_25 : decode cX10_mix 25 = .ok (.iload_n 2, 1) := by decide +kernel
theorem dX10_mix_26 : decode cX10_mix 26 = .ok (.invokevirtual 350, 3) := by decide +kernel
theorem dX10_mix_29 : decode cX10_mix 29 = .ok (.iconst 1, 1) := by decide +kernel
theorem dX10_mix_30 : decode cX10_mix 30 = .ok (.ireturn, 1) := by decide +kernel
theorem dX10_seams_0 : decode cX10_seams 0 = .ok (.aload_n 0, 1) := by decide +kernel
theorem dX10_seams_1 : decode cX10_seams 1 = .ok (.getfield 45, 3) := by decide +kernel
theorem dX10_seams_4 : decode cX10_seams 4 = .ok (.invokevirtual 353, 3) := by decide +kernel
theorem dX10_seams_7 : decode cX10_seams 7 = .ok (.ireturn, 1) := by decide +kernel
theorem dX10_together_0 : decode cX10_together 0 = .ok (.iload_n 1, 1) := by decide +kernel
theorem dX10_together_1 : decode cX10_together 1 = .ok (.iconst 0, 1) := by decide +kernel
theorem dX10_together_2 : decode cX10_together 2 = .ok (.iconst 3, 1) := by decide +kernel
theorem dX10_together_3 : decode cX10_together 3 = .ok (.invokestatic 123, 3) := by decide +kernel
theorem dX10_together_6 : decode cX10_together 6 = .ok (.ifCond .ne 5, 3) := by decide +kernel
theorem dX10_together_9 : decode cX10_together 9 = .ok (.iconst (-1), 1) := by decide +kernel
theorem dX10_together_10 : decode cX10_together 10 = .ok (.ireturn, 1) := by decide +kernel
theorem dX10_together_11 : decode cX10_together 11 = .ok (.aload_n 0, 1) := by decide +kernel
theorem dX10_together_12 : decode cX10_together 12 = .ok (.getfield 73, 3) := by decide +kernel
theorem dX10_together_15 : decode cX10_together 15 = .ok (.aload_n 0, 1) := by decide +kernel
theorem dX10_together_16 : decode cX10_together 16 = .ok (.getfield 45, 3) := by decide +kernel
theorem dX10_together_19 : decode cX10_together 19 = .ok (.invokevirtual 356, 3) := by decide +kernel
theorem dX10_together_22 : decode cX10_together 22 = .ok (.iload_n 1, 1) := by decide +kernel
theorem dX10_together_23 : decode cX10_together 23 = .ok (.tableswitch 49 0 2 #[25, 33, 41], 25) := by decide +kernel
theorem dX10_together_48 : decode cX10_together 48 = .ok (.aload_n 0, 1) := by decide +kernel
theorem dX10_together_49 : decode cX10_together 49 = .ok (.getfield 73, 3) := by decide +kernel
theorem dX10_together_52 : decode cX10_together 52 = .ok (.invokevirtual 360, 3) := by decide +kernel
theorem dX10_together_55 : decode cX10_together 55 = .ok (.ireturn, 1) := by decide +kernel
theorem dX10_together_56 : decode cX10_together 56 = .ok (.aload_n 0, 1) := by decide +kernel
theorem dX10_together_57 : decode cX10_together 57 = .ok (.getfield 73, 3) := by decide +kernel
theorem dX10_together_60 : decode cX10_together 60 = .ok (.invokevirtual 363, 3) := by decide +kernel
theorem dX10_together_63 : decode cX10_together 63 = .ok (.ireturn, 1) := by decide +kernel
theorem dX10_together_64 : decode cX10_together 64 = .ok (.aload_n 0, 1) := by decide +kernel
theorem dX10_together_65 : decode cX10_together 65 = .ok (.getfield 73, 3) := by decide +kernel
theorem dX10_together_68 : decode cX10_together 68 = .ok (.invokevirtual 366, 3) := by decide +kernel
theorem dX10_together_71 : decode cX10_together 71 = .ok (.ireturn, 1) := by decide +kernel
theorem dX10_together_72 : decode cX10_together 72 = .ok (.aload_n 0, 1) := by decide +kernel
theorem dX10_together_73 : decode cX10_together 73 = .ok (.getfield 73, 3) := by decide +kernel
theorem dX10_together_76 : decode cX10_together 76 = .ok (.invokevirtual 369, 3) := by decide +kernel
theorem dX10_together_79 : decode cX10_together 79 = .ok (.ireturn, 1) := by decide +kernel
theorem dX10_sheet_0 : decode cX10_sheet 0 = .ok (.iload_n 1, 1) := by decide +kernel
theorem dX10_sheet_1 : decode cX10_sheet 1 = .ok (.invokestatic 372, 3) := by decide +kernel
theorem dX10_sheet_4 : decode cX10_sheet 4 = .ok (.ifCond .eq 16, 3) := by decide +kernel
theorem dX10_sheet_7 : decode cX10_sheet 7 = .ok (.iload_n 2, 1) := by decide +kernel
theorem dX10_sheet_8 : decode cX10_sheet 8 = .ok (.invokestatic 375, 3) := by decide +kernel
theorem dX10_sheet_11 : decode cX10_sheet 11 = .ok (.ifCond .eq 9, 3) := by decide +kernel
theorem dX10_sheet_14 : decode cX10_sheet 14 = .ok (.iload_n 3, 1) := by decide +kernel
theorem dX10_sheet_15 : decode cX10_sheet 15 = .ok (.bipush 64, 2) := by decide +kernel
theorem dX10_sheet_17 : decode cX10_sheet 17 = .ok (.if_icmp .le 5, 3) := by decide +kernel
theorem dX10_sheet_20 : decode cX10_sheet 20 = .ok (.iconst (-1), 1) := by decide +kernel
theorem dX10_sheet_21 : decode cX10_sheet 21 = .ok (.ireturn, 1) := by decide +kernel
theorem dX10_sheet_22 : decode cX10_sheet 22 = .ok (.iload_n 3, 1) := by decide +kernel
theorem dX10_sheet_23 : decode cX10_sheet 23 = .ok (.ifCond .ge 6, 3) := by decide +kernel
theorem dX10_sheet_26 : decode cX10_sheet 26 = .ok (.bipush (-14), 2) := by decide +kernel
theorem dX10_sheet_28 : decode cX10_sheet 28 = .ok (.ireturn, 1) := by decide +kernel
theorem dX10_sheet_29 : decode cX10_sheet 29 = .ok (.aload_n 0, 1) := by decide +kernel
theorem dX10_sheet_30 : decode cX10_sheet 30 = .ok (.getfield 79, 3) := by decide +kernel
theorem dX10_sheet_33 : decode cX10_sheet 33 = .ok (.iload_n 1, 1) := by decide +kernel
theorem dX10_sheet_34 : decode cX10_sheet 34 = .ok (.aaload, 1) := by decide +kernel
theorem dX10_sheet_35 : decode cX10_sheet 35 = .ok (.iload_n 2, 1) := by decide +kernel
theorem dX10_sheet_36 : decode cX10_sheet 36 = .ok (.iload_n 3, 1) := by decide +kernel
theorem dX10_sheet_37 : decode cX10_sheet 37 = .ok (.invokevirtual 378, 3) := by decide +kernel
theorem dX10_sheet_40 : decode cX10_sheet 40 = .ok (.iconst 1, 1) := by decide +kernel
theorem dX10_sheet_41 : decode cX10_sheet 41 = .ok (.ireturn, 1) := by decide +kernel
theorem dX10_write_0 : decode cX10_write 0 = .ok (.iload_n 1, 1) := by decide +kernel
theorem dX10_write_1 : decode cX10_write 1 = .ok (.invokestatic 372, 3) := by decide +kernel
theorem dX10_write_4 : decode cX10_write 4 = .ok (.ifCond .ne 5, 3) := by decide +kernel
theorem dX10_write_7 : decode cX10_write 7 = .ok (.iconst (-1), 1) := by decide +kernel
theorem dX10_write_8 : decode cX10_write 8 = .ok (.ireturn, 1) := by decide +kernel
theorem dX10_write_9 : decode cX10_write 9 = .ok (.aload_n 0, 1) := by decide +kernel
theorem dX10_write_10 : decode cX10_write 10 = .ok (.getfield 79, 3) := by decide +kernel
theorem dX10_write_13 : decode cX10_write 13 = .ok (.iload_n 1, 1) := by decide +kernel
theorem dX10_write_14 : decode cX10_write 14 = .ok (.aaload, 1) := by decide +kernel
theorem dX10_write_15 : decode cX10_write 15 = .ok (.iload_n 2, 1) := by decide +kernel
theorem dX10_write_16 : decode cX10_write 16 = .ok (.invokevirtual 381, 3) := by decide +kernel
theorem dX10_write_19 : decode cX10_write 19 = .ok (.istore 4, 2) := by decide +kernel
theorem dX10_write_21 : decode cX10_write 21 = .ok (.iload 4, 2) := by decide +kernel
theorem dX10_write_23 : decode cX10_write 23 = .ok (.ifCond .eq 9, 3) := by decide +kernel
theorem dX10_write_26 : decode cX10_write 26 = .ok (.bipush (-10), 2) := by decide +kernel
theorem dX10_write_28 : decode cX10_write 28 = .ok (.iload 4, 2) := by decide +kernel
theorem dX10_write_30 : decode cX10_write 30 = .ok (.isub, 1) := by decide +kernel
theorem dX10_write_31 : decode cX10_write 31 = .ok (.ireturn, 1) := by decide +kernel
theorem dX10_write_32 : decode cX10_write 32 = .ok (.aload_n 0, 1) := by decide +kernel
theorem dX10_write_33 : decode cX10_write 33 = .ok (.getfield 79, 3) := by decide +kernel
theorem dX10_write_36 : decode cX10_write 36 = .ok (.iload_n 1, 1) := by decide +kernel
theorem dX10_write_37 : decode cX10_write 37 = .ok (.aaload, 1) := by decide +kernel
theorem dX10_write_38 : decode cX10_write 38 = .ok (.iload_n 2, 1) := by decide +kernel
theorem dX10_write_39 : decode cX10_write 39 = .ok (.iload_n 3, 1) := by decide +kernel
theorem dX10_write_40 : decode cX10_write 40 = .ok (.invokevirtual 384, 3) := by decide +kernel
theorem dX10_write_43 : decode cX10_write 43 = .ok (.iconst 1, 1) := by decide +kernel
theorem dX10_write_44 : decode cX10_write 44 = .ok (.ireturn, 1) := by decide +kernel
theorem dX10_read_0 : decode cX10_read 0 = .ok (.iload_n 1, 1) := by decide +kernel
theorem dX10_read_1 : decode cX10_read 1 = .ok (.invokestatic 372, 3) := by decide +kernel
theorem dX10_read_4 : decode cX10_read 4 = .ok (.ifCond .eq 35, 3) := by decide +kernel
theorem dX10_read_7 : decode cX10_read 7 = .ok (.iload_n 2, 1) := by decide +kernel
theorem dX10_read_8 : decode cX10_read 8 = .ok (.invokestatic 375, 3) := by decide +kernel
theorem dX10_read_11 : decode cX10_read 11 = .ok (.ifCond .eq 28, 3) := by decide +kernel
theorem dX10_read_14 : decode cX10_read 14 = .ok (.iload 5, 2) := by decide +kernel
theorem dX10_read_16 : decode cX10_read 16 = .ok (.iconst 0, 1) := by decide +kernel
theorem dX10_read_17 : decode cX10_read 17 = .ok (.bipush 64, 2) := by decide +kernel
theorem dX10_read_19 : decode cX10_read 19 = .ok (.invokestatic 123, 3) := by decide +kernel
theorem dX10_read_22 : decode cX10_read 22 = .ok (.ifCond .eq 17, 3) := by decide +kernel
theorem dX10_read_25 : decode cX10_read 25 = .ok (.iload 4, 2) := by decide +kernel
theorem dX10_read_27 : decode cX10_read 27 = .ok (.iconst 0, 1) := by decide +kernel
theorem dX10_read_28 : decode cX10_read 28 = .ok (.bipush 64, 2) := by decide +kernel
theorem dX10_read_30 : decode cX10_read 30 = .ok (.iload 5, 2) := by decide +kernel
theorem dX10_read_32 : decode cX10_read 32 = .ok (.isub, 1) := by decide +kernel
theorem dX10_read_33 : decode cX10_read 33 = .ok (.invokestatic 123, 3) := by decide +kernel
theorem dX10_read_36 : decode cX10_read 36 = .ok (.ifCond .ne 5, 3) := by decide +kernel
theorem dX10_read_39 : decode cX10_read 39 = .ok (.iconst (-1), 1) := by decide +kernel
theorem dX10_read_40 : decode cX10_read 40 = .ok (.ireturn, 1) := by decide +kernel
theorem dX10_read_41 : decode cX10_read 41 = .ok (.aload_n 0, 1) := by decide +kernel
theorem dX10_read_42 : decode cX10_read 42 = .ok (.getfield 79, 3) := by decide +kernel
theorem dX10_read_45 : decode cX10_read 45 = .ok (.iload_n 1, 1) := by decide +kernel
theorem dX10_read_46 : decode cX10_read 46 = .ok (.aaload, 1) := by decide +kernel
theorem dX10_read_47 : decode cX10_read 47 = .ok (.astore 6, 2) := by decide +kernel
theorem dX10_read_49 : decode cX10_read 49 = .ok (.iconst 0, 1) := by decide +kernel
theorem dX10_read_50 : decode cX10_read 50 = .ok (.istore 7, 2) := by decide +kernel
theorem dX10_read_52 : decode cX10_read 52 = .ok (.iconst 0, 1) := by decide +kernel
theorem dX10_read_53 : decode cX10_read 53 = .ok (.istore 8, 2) := by decide +kernel
theorem dX10_read_55 : decode cX10_read 55 = .ok (.iload 8, 2) := by decide +kernel
theorem dX10_read_57 : decode cX10_read 57 = .ok (.iload 5, 2) := by decide +kernel
theorem dX10_read_59 : decode cX10_read 59 = .ok (.if_icmp .ge 54, 3) := by decide +kernel
theorem dX10_read_62 : decode cX10_read 62 = .ok (.iload 7, 2) := by decide +kernel
theorem dX10_read_64 : decode cX10_read 64 = .ok (.ifCond .ne 49, 3) := by decide +kernel
theorem dX10_read_67 : decode cX10_read 67 = .ok (.aload 6, 2) := by decide +kernel
theorem dX10_read_69 : decode cX10_read 69 = .ok (.iload_n 2, 1) := by decide +kernel
theorem dX10_read_70 : decode cX10_read 70 = .ok (.iload_n 3, 1) := by decide +kernel
theorem dX10_read_71 : decode cX10_read 71 = .ok (.iload 8, 2) := by decide +kernel
theorem dX10_read_73 : decode cX10_read 73 = .ok (.iadd, 1) := by decide +kernel
theorem dX10_read_74 : decode cX10_read 74 = .ok (.invokevirtual 387, 3) := by decide +kernel
theorem dX10_read_77 : decode cX10_read 77 = .ok (.istore 7, 2) := by decide +kernel
theorem dX10_read_79 : decode cX10_read 79 = .ok (.iload 7, 2) := by decide +kernel
theorem dX10_read_81 : decode cX10_read 81 = .ok (.ifCond .ne (-26), 3) := by decide +kernel
theorem dX10_read_84 : decode cX10_read 84 = .ok (.aload 6, 2) := by decide +kernel
theorem dX10_read_86 : decode cX10_read 86 = .ok (.iload_n 3, 1) := by decide +kernel
theorem dX10_read_87 : decode cX10_read 87 = .ok (.iload 8, 2) := by decide +kernel
theorem dX10_read_89 : decode cX10_read 89 = .ok (.iadd, 1) := by decide +kernel
theorem dX10_read_90 : decode cX10_read 90 = .ok (.invokevirtual 390, 3) := by decide +kernel
theorem dX10_read_93 : decode cX10_read 93 = .ok (.iconst (-1), 1) := by decide +kernel
theorem dX10_read_94 : decode cX10_read 94 = .ok (.iconst 5, 1) := by decide +kernel
theorem dX10_read_95 : decode cX10_read 95 = .ok (.invokestatic 123, 3) := by decide +kernel
theorem dX10_read_98 : decode cX10_read 98 = .ok (.ifCond .ne 9, 3) := by decide +kernel
theorem dX10_read_101 : decode cX10_read 101 = .ok (.bipush (-20), 2) := by decide +kernel
theorem dX10_read_103 : decode cX10_read 103 = .ok (.iload 8, 2) := by decide +kernel
theorem dX10_read_105 : decode cX10_read 105 = .ok (.isub, 1) := by decide +kernel
theorem dX10_read_106 : decode cX10_read 106 = .ok (.ireturn, 1) := by decide +kernel
theorem dX10_read_107 : decode cX10_read 107 = .ok (.iinc 8 1, 3) := by decide +kernel
theorem dX10_read_110 : decode cX10_read 110 = .ok (.goto (-55), 3) := by decide +kernel
theorem dX10_read_113 : decode cX10_read 113 = .ok (.iconst 0, 1) := by decide +kernel
theorem dX10_read_114 : decode cX10_read 114 = .ok (.istore 9, 2) := by decide +kernel
theorem dX10_read_116 : decode cX10_read 116 = .ok (.iload 9, 2) := by decide +kernel
theorem dX10_read_118 : decode cX10_read 118 = .ok (.iload 5, 2) := by decide +kernel
theorem dX10_read_120 : decode cX10_read 120 = .ok (.if_icmp .ge 41, 3) := by decide +kernel
theorem dX10_read_123 : decode cX10_read 123 = .ok (.aload_n 0, 1) := by decide +kernel
theorem dX10_read_124 : decode cX10_read 124 = .ok (.getfield 45, 3) := by decide +kernel
theorem dX10_read_127 : decode cX10_read 127 = .ok (.iload 4, 2) := by decide +kernel
theorem dX10_read_129 : decode cX10_read 129 = .ok (.iload 9, 2) := by decide +kernel
theorem dX10_read_131 : decode cX10_read 131 = .ok (.iadd, 1) := by decide +kernel
theorem dX10_read_132 : decode cX10_read 132 = .ok (.iload 9, 2) := by decide +kernel
theorem dX10_read_134 : decode cX10_read 134 = .ok (.iload 8, 2) := by decide +kernel
theorem dX10_read_136 : decode cX10_read 136 = .ok (.if_icmp .ge 15, 3) := by decide +kernel
theorem dX10_read_139 : decode cX10_read 139 = .ok (.aload 6, 2) := by decide +kernel
theorem dX10_read_141 : decode cX10_read 141 = .ok (.iload_n 3, 1) := by decide +kernel
theorem dX10_read_142 : decode cX10_read 142 = .ok (.iload 9, 2) := by decide +kernel
theorem dX10_read_144 : decode cX10_read 144 = .ok (.iadd, 1) := by decide +kernel
theorem dX10_read_145 : decode cX10_read 145 = .ok (.invokevirtual 390, 3) := by decide +kernel
theorem dX10_read_148 : decode cX10_read 148 = .ok (.goto 4, 3) := by decide +kernel
theorem dX10_read_151 : decode cX10_read 151 = .ok (.iconst (-1), 1) := by decide +kernel
theorem dX10_read_152 : decode cX10_read 152 = .ok (.invokevirtual 166, 3) := by decide +kernel
theorem dX10_read_155 : decode cX10_read 155 = .ok (.iinc 9 1, 3) := by decide +kernel
theorem dX10_read_158 : decode cX10_read 158 = .ok (.goto (-42), 3) := by decide +kernel
theorem dX10_read_161 : decode cX10_read 161 = .ok (.aload_n 0, 1) := by decide +kernel
theorem dX10_read_162 : decode cX10_read 162 = .ok (.iload 7, 2) := by decide +kernel
theorem dX10_read_164 : decode cX10_read 164 = .ok (.putfield 393, 3) := by decide +kernel
theorem dX10_read_167 : decode cX10_read 167 = .ok (.iload 8, 2) := by decide +kernel
theorem dX10_read_169 : decode cX10_read 169 = .ok (.ireturn, 1) := by decide +kernel
theorem dX10_torn_0 : decode cX10_torn 0 = .ok (.aload_n 0, 1) := by decide +kernel
theorem dX10_torn_1 : decode cX10_torn 1 = .ok (.getfield 393, 3) := by decide +kernel
theorem dX10_torn_4 : decode cX10_torn 4 = .ok (.ireturn, 1) := by decide +kernel
theorem dX10_count_0 : decode cX10_count 0 = .ok (.iload_n 1, 1) := by decide +kernel
theorem dX10_count_1 : decode cX10_count 1 = .ok (.tableswitch 123 0 5 #[39, 50, 58, 69, 88, 96], 39) := by decide +kernel
theorem dX10_count_40 : decode cX10_count 40 = .ok (.aload_n 0, 1) := by decide +kernel
theorem dX10_count_41 : decode cX10_count 41 = .ok (.getfield 45, 3) := by decide +kernel
theorem dX10_count_44 : decode cX10_count 44 = .ok (.invokevirtual 305, 3) := by decide +kernel
theorem dX10_count_47 : decode cX10_count 47 = .ok (.invokestatic 311, 3) := by decide +kernel
theorem dX10_count_50 : decode cX10_count 50 = .ok (.ireturn, 1) := by decide +kernel
theorem dX10_count_51 : decode cX10_count 51 = .ok (.aload_n 0, 1) := by decide +kernel
theorem dX10_count_52 : decode cX10_count 52 = .ok (.getfield 66, 3) := by decide +kernel
theorem dX10_count_55 : decode cX10_count 55 = .ok (.invokevirtual 254, 3) := by decide +kernel
theorem dX10_count_58 : decode cX10_count 58 = .ok (.ireturn, 1) := by decide +kernel
theorem dX10_count_59 : decode cX10_count 59 = .ok (.aload_n 0, 1) := by decide +kernel
theorem dX10_count_60 : decode cX10_count 60 = .ok (.getfield 19, 3) := by decide +kernel
theorem dX10_count_63 : decode cX10_count 63 = .ok (.invokevirtual 243, 3) := by decide +kernel
theorem dX10_count_66 : decode cX10_count 66 = .ok (.invokestatic 198, 3) := by decide +kernel
theorem dX10_count_69 : decode cX10_count 69 = .ok (.ireturn, 1) := by decide +kernel
theorem dX10_count_70 : decode cX10_count 70 = .ok (.aload_n 0, 1) := by decide +kernel
theorem dX10_count_71 : decode cX10_count 71 = .ok (.getfield 19, 3) := by decide +kernel
theorem dX10_count_74 : decode cX10_count 74 = .ok (.invokevirtual 114, 3) := by decide +kernel
theorem dX10_count_77 : decode cX10_count 77 = .ok (.aload_n 0, 1) := by decide +kernel
theorem dX10_count_78 : decode cX10_count 78 = .ok (.getfield 19, 3) := by decide +kernel
theorem dX10_count_81 : decode cX10_count 81 = .ok (.invokevirtual 243, 3) := by decide +kernel
theorem dX10_count_84 : decode cX10_count 84 = .ok (.invokestatic 198, 3) := by decide +kernel
theorem dX10_count_87 : decode cX10_count 87 = .ok (.isub, 1) := by decide +kernel
theorem dX10_count_88 : decode cX10_count 88 = .ok (.ireturn, 1) := by decide +kernel
theorem dX10_count_89 : decode cX10_count 89 = .ok (.aload_n 0, 1) := by decide +kernel
theorem dX10_count_90 : decode cX10_count 90 = .ok (.getfield 10, 3) := by decide +kernel
theorem dX10_count_93 : decode cX10_count 93 = .ok (.invokevirtual 88, 3) := by decide +kernel
theorem dX10_count_96 : decode cX10_count 96 = .ok (.ireturn, 1) := by decide +kernel
theorem dX10_count_97 : decode cX10_count 97 = .ok (.aload_n 0, 1) := by decide +kernel
theorem dX10_count_98 : decode cX10_count 98 = .ok (.getfield 79, 3) := by decide +kernel
theorem dX10_count_101 : decode cX10_count 101 = .ok (.iconst 0, 1) := by decide +kernel
theorem dX10_count_102 : decode cX10_count 102 = .ok (.aaload, 1) := by decide +kernel
theorem dX10_count_103 : decode cX10_count 103 = .ok (.invokevirtual 397, 3) := by decide +kernel
theorem dX10_count_106 : decode cX10_count 106 = .ok (.ifCond .eq 15, 3) := by decide +kernel
theorem dX10_count_109 : decode cX10_count 109 = .ok (.aload_n 0, 1) := by decide +kernel
theorem dX10_count_110 : decode cX10_count 110 = .ok (.getfield 79, 3) := by decide +kernel
theorem dX10_count_113 : decode cX10_count 113 = .ok (.iconst 0, 1) := by decide +kernel
theorem dX10_count_114 : decode cX10_count 114 = .ok (.aaload, 1) := by decide +kernel
theorem dX10_count_115 : decode cX10_count 115 = .ok (.invokevirtual 400, 3) := by decide +kernel
theorem dX10_count_118 : decode cX10_count 118 = .ok (.goto 5, 3) := by decide +kernel
theorem dX10_count_121 : decode cX10_count 121 = .ok (.bipush (-4), 2) := by decide +kernel
theorem dX10_count_123 : decode cX10_count 123 = .ok (.ireturn, 1) := by decide +kernel
theorem dX10_count_124 : decode cX10_count 124 = .ok (.iconst (-1), 1) := by decide +kernel
theorem dX10_count_125 : decode cX10_count 125 = .ok (.ireturn, 1) := by decide +kernel
theorem dX10_within_0 : decode cX10_within 0 = .ok (.iload_n 0, 1) := by decide +kernel
theorem dX10_within_1 : decode cX10_within 1 = .ok (.iload_n 1, 1) := by decide +kernel
theorem dX10_within_2 : decode cX10_within 2 = .ok (.if_icmp .lt 12, 3) := by decide +kernel
theorem dX10_within_5 : decode cX10_within 5 = .ok (.iload_n 0, 1) := by decide +kernel
theorem dX10_within_6 : decode cX10_within 6 = .ok (.iload_n 2, 1) := by decide +kernel
theorem dX10_within_7 : decode cX10_within 7 = .ok (.if_icmp .gt 7, 3) := by decide +kernel
theorem dX10_within_10 : decode cX10_within 10 = .ok (.iconst 1, 1) := by decide +kernel
theorem dX10_within_11 : decode cX10_within 11 = .ok (.goto 4, 3) := by decide +kernel
theorem dX10_within_14 : decode cX10_within 14 = .ok (.iconst 0, 1) := by decide +kernel
theorem dX10_within_15 : decode cX10_within 15 = .ok (.ireturn, 1) := by decide +kernel
theorem dX10_isCell_0 : decode cX10_isCell 0 = .ok (.iload_n 0, 1) := by decide +kernel
theorem dX10_isCell_1 : decode cX10_isCell 1 = .ok (.ifCond .lt 13, 3) := by decide +kernel
theorem dX10_isCell_4 : decode cX10_isCell 4 = .ok (.iload_n 0, 1) := by decide +kernel
theorem dX10_isCell_5 : decode cX10_isCell 5 = .ok (.bipush 64, 2) := by decide +kernel
theorem dX10_isCell_7 : decode cX10_isCell 7 = .ok (.if_icmp .ge 7, 3) := by decide +kernel
theorem dX10_isCell_10 : decode cX10_isCell 10 = .ok (.iconst 1, 1) := by decide +kernel
theorem dX10_isCell_11 : decode cX10_isCell 11 = .ok (.goto 4, 3) := by decide +kernel
theorem dX10_isCell_14 : decode cX10_isCell 14 = .ok (.iconst 0, 1) := by decide +kernel
theorem dX10_isCell_15 : decode cX10_isCell 15 = .ok (.ireturn, 1) := by decide +kernel
theorem dX10_isSheet_0 : decode cX10_isSheet 0 = .ok (.iload_n 0, 1) := by decide +kernel
theorem dX10_isSheet_1 : decode cX10_isSheet 1 = .ok (.iconst 0, 1) := by decide +kernel
theorem dX10_isSheet_2 : decode cX10_isSheet 2 = .ok (.iconst 3, 1) := by decide +kernel
theorem dX10_isSheet_3 : decode cX10_isSheet 3 = .ok (.invokestatic 123, 3) := by decide +kernel
theorem dX10_isSheet_6 : decode cX10_isSheet 6 = .ok (.ireturn, 1) := by decide +kernel
theorem dX10_has_0 : decode cX10_has 0 = .ok (.iload_n 0, 1) := by decide +kernel
theorem dX10_has_1 : decode cX10_has 1 = .ok (.iload_n 1, 1) := by decide +kernel
theorem dX10_has_2 : decode cX10_has 2 = .ok (.ishr, 1) := by decide +kernel
theorem dX10_has_3 : decode cX10_has 3 = .ok (.iconst 1, 1) := by decide +kernel
theorem dX10_has_4 : decode cX10_has 4 = .ok (.iand, 1) := by decide +kernel
theorem dX10_has_5 : decode cX10_has 5 = .ok (.ifCond .eq 7, 3) := by decide +kernel
theorem dX10_has_8 : decode cX10_has 8 = .ok (.iconst 1, 1) := by decide +kernel
theorem dX10_has_9 : decode cX10_has 9 = .ok (.goto 4, 3) := by decide +kernel
theorem dX10_has_12 : decode cX10_has 12 = .ok (.iconst 0, 1) := by decide +kernel
theorem dX10_has_13 : decode cX10_has 13 = .ok (.ireturn, 1) := by decide +kernel
theorem dX10_hasCell_0 : decode cX10_hasCell 0 = .ok (.lload_n 0, 1) := by decide +kernel
theorem dX10_hasCell_1 : decode cX10_hasCell 1 = .ok (.iload_n 2, 1) := by decide +kernel
theorem dX10_hasCell_2 : decode cX10_hasCell 2 = .ok (.lushr, 1) := by decide +kernel
theorem dX10_hasCell_3 : decode cX10_hasCell 3 = .ok (.lconst 1, 1) := by decide +kernel
theorem dX10_hasCell_4 : decode cX10_hasCell 4 = .ok (.land, 1) := by decide +kernel
theorem dX10_hasCell_5 : decode cX10_hasCell 5 = .ok (.lconst 0, 1) := by decide +kernel
theorem dX10_hasCell_6 : decode cX10_hasCell 6 = .ok (.lcmp, 1) := by decide +kernel
theorem dX10_hasCell_7 : decode cX10_hasCell 7 = .ok (.ifCond .eq 7, 3) := by decide +kernel
theorem dX10_hasCell_10 : decode cX10_hasCell 10 = .ok (.iconst 1, 1) := by decide +kernel
theorem dX10_hasCell_11 : decode cX10_hasCell 11 = .ok (.goto 4, 3) := by decide +kernel
theorem dX10_hasCell_14 : decode cX10_hasCell 14 = .ok (.iconst 0, 1) := by decide +kernel
theorem dX10_hasCell_15 : decode cX10_hasCell 15 = .ok (.ireturn, 1) := by decide +kernel
theorem dX10_areTwoThings_0 : decode cX10_areTwoThings 0 = .ok (.iload_n 1, 1) := by decide +kernel
theorem dX10_areTwoThings_1 : decode cX10_areTwoThings 1 = .ok (.iload_n 2, 1) := by decide +kernel
theorem dX10_areTwoThings_2 : decode cX10_areTwoThings 2 = .ok (.if_icmp .eq 29, 3) := by decide +kernel
theorem dX10_areTwoThings_5 : decode cX10_areTwoThings 5 = .ok (.aload_n 0, 1) := by decide +kernel
theorem dX10_areTwoThings_6 : decode cX10_areTwoThings 6 = .ok (.getfield 19, 3) := by decide +kernel
theorem dX10_areTwoThings_9 : decode cX10_areTwoThings 9 = .ok (.iload_n 1, 1) := by decide +kernel
theorem dX10_areTwoThings_10 : decode cX10_areTwoThings 10 = .ok (.invokevirtual 134, 3) := by decide +kernel
theorem dX10_areTwoThings_13 : decode cX10_areTwoThings 13 = .ok (.ifCond .eq 18, 3) := by decide +kernel
theorem dX10_areTwoThings_16 : decode cX10_areTwoThings 16 = .ok (.aload_n 0, 1) := by decide +kernel
theorem dX10_areTwoThings_17 : decode cX10_areTwoThings 17 = .ok (.getfield 19, 3) := by decide +kernel
theorem dX10_areTwoThings_20 : decode cX10_areTwoThings 20 = .ok (.iload_n 2, 1) := by decide +kernel
theorem dX10_areTwoThings_21 : decode cX10_areTwoThings 21 = .ok (.invokevirtual 134, 3) := by decide +kernel
theorem dX10_areTwoThings_24 : decode cX10_areTwoThings 24 = .ok (.ifCond .eq 7, 3) := by decide +kernel
theorem dX10_areTwoThings_27 : decode cX10_areTwoThings 27 = .ok (.iconst 1, 1) := by decide +kernel
theorem dX10_areTwoThings_28 : decode cX10_areTwoThings 28 = .ok (.goto 4, 3) := by decide +kernel
theorem dX10_areTwoThings_31 : decode cX10_areTwoThings 31 = .ok (.iconst 0, 1) := by decide +kernel
theorem dX10_areTwoThings_32 : decode cX10_areTwoThings 32 = .ok (.ireturn, 1) := by decide +kernel
theorem dX10_sharedDivisor_0 : decode cX10_sharedDivisor 0 = .ok (.lload_n 0, 1) := by decide +kernel
theorem dX10_sharedDivisor_1 : decode cX10_sharedDivisor 1 = .ok (.lstore 4, 2) := by decide +kernel
theorem dX10_sharedDivisor_3 : decode cX10_sharedDivisor 3 = .ok (.lload_n 2, 1) := by decide +kernel
theorem dX10_sharedDivisor_4 : decode cX10_sharedDivisor 4 = .ok (.lstore 6, 2) := by decide +kernel
theorem dX10_sharedDivisor_6 : decode cX10_sharedDivisor 6 = .ok (.iconst 0, 1) := by decide +kernel
theorem dX10_sharedDivisor_7 : decode cX10_sharedDivisor 7 = .ok (.istore 8, 2) := by decide +kernel
theorem dX10_sharedDivisor_9 : decode cX10_sharedDivisor 9 = .ok (.iload 8, 2) := by decide +kernel
theorem dX10_sharedDivisor_11 : decode cX10_sharedDivisor 11 = .ok (.bipush 100, 2) := by decide +kernel
theorem dX10_sharedDivisor_13 : decode cX10_sharedDivisor 13 = .ok (.if_icmp .ge 31, 3) := by decide +kernel
theorem dX10_sharedDivisor_16 : decode cX10_sharedDivisor 16 = .ok (.lload 6, 2) := by decide +kernel
theorem dX10_sharedDivisor_18 : decode cX10_sharedDivisor 18 = .ok (.lconst 0, 1) := by decide +kernel
theorem dX10_sharedDivisor_19 : decode cX10_sharedDivisor 19 = .ok (.lcmp, 1) := by decide +kernel
theorem dX10_sharedDivisor_20 : decode cX10_sharedDivisor 20 = .ok (.ifCond .eq 24, 3) := by decide +kernel
theorem dX10_sharedDivisor_23 : decode cX10_sharedDivisor 23 = .ok (.lload 4, 2) := by decide +kernel
theorem dX10_sharedDivisor_25 : decode cX10_sharedDivisor 25 = .ok (.lload 6, 2) := by decide +kernel
theorem dX10_sharedDivisor_27 : decode cX10_sharedDivisor 27 = .ok (.lrem, 1) := by decide +kernel
theorem dX10_sharedDivisor_28 : decode cX10_sharedDivisor 28 = .ok (.lstore 9, 2) := by decide +kernel
theorem dX10_sharedDivisor_30 : decode cX10_sharedDivisor 30 = .ok (.lload 6, 2) := by decide +kernel
theorem dX10_sharedDivisor_32 : decode cX10_sharedDivisor 32 = .ok (.lstore 4, 2) := by decide +kernel
theorem dX10_sharedDivisor_34 : decode cX10_sharedDivisor 34 = .ok (.lload 9, 2) := by decide +kernel
theorem dX10_sharedDivisor_36 : decode cX10_sharedDivisor 36 = .ok (.lstore 6, 2) := by decide +kernel
theorem dX10_sharedDivisor_38 : decode cX10_sharedDivisor 38 = .ok (.iinc 8 1, 3) := by decide +kernel
theorem dX10_sharedDivisor_41 : decode cX10_sharedDivisor 41 = .ok (.goto (-32), 3) := by decide +kernel
theorem dX10_sharedDivisor_44 : decode cX10_sharedDivisor 44 = .ok (.lconst 1, 1) := by decide +kernel
theorem dX10_sharedDivisor_45 : decode cX10_sharedDivisor 45 = .ok (.lload 4, 2) := by decide +kernel
theorem dX10_sharedDivisor_47 : decode cX10_sharedDivisor 47 = .ok (.invokestatic 401, 3) := by decide +kernel
theorem dX10_sharedDivisor_50 : decode cX10_sharedDivisor 50 = .ok (.lreturn, 1) := by decide +kernel
theorem dX10_source_0 : decode cX10_source 0 = .ok (.iload_n 2, 1) := by decide +kernel
theorem dX10_source_1 : decode cX10_source 1 = .ok (.ifCond .gt 5, 3) := by decide +kernel
theorem dX10_source_4 : decode cX10_source 4 = .ok (.iconst 0, 1) := by decide +kernel
theorem dX10_source_5 : decode cX10_source 5 = .ok (.ireturn, 1) := by decide +kernel
theorem dX10_source_6 : decode cX10_source 6 = .ok (.iload_n 1, 1) := by decide +kernel
theorem dX10_source_7 : decode cX10_source 7 = .ok (.iload_n 2, 1) := by decide +kernel
theorem dX10_source_8 : decode cX10_source 8 = .ok (.idiv, 1) := by decide +kernel
theorem dX10_source_9 : decode cX10_source 9 = .ok (.istore_n 3, 1) := by decide +kernel
theorem dX10_source_10 : decode cX10_source 10 = .ok (.iload_n 1, 1) := by decide +kernel
theorem dX10_source_11 : decode cX10_source 11 = .ok (.iload_n 2, 1) := by decide +kernel
theorem dX10_source_12 : decode cX10_source 12 = .ok (.irem, 1) := by decide +kernel
theorem dX10_source_13 : decode cX10_source 13 = .ok (.istore 4, 2) := by decide +kernel
theorem dX10_source_15 : decode cX10_source 15 = .ok (.iconst 0, 1) := by decide +kernel
theorem dX10_source_16 : decode cX10_source 16 = .ok (.istore 5, 2) := by decide +kernel
theorem dX10_source_18 : decode cX10_source 18 = .ok (.iload 5, 2) := by decide +kernel
theorem dX10_source_20 : decode cX10_source 20 = .ok (.iload_n 0, 1) := by decide +kernel
theorem dX10_source_21 : decode cX10_source 21 = .ok (.iconst 3, 1) := by decide +kernel
theorem dX10_source_22 : decode cX10_source 22 = .ok (.iand, 1) := by decide +kernel
theorem dX10_source_23 : decode cX10_source 23 = .ok (.if_icmp .ge 23, 3) := by decide +kernel
theorem dX10_source_26 : decode cX10_source 26 = .ok (.iload_n 3, 1) := by decide +kernel
theorem dX10_source_27 : decode cX10_source 27 = .ok (.istore 6, 2) := by decide +kernel
theorem dX10_source_29 : decode cX10_source 29 = .ok (.iload_n 2, 1) := by decide +kernel
theorem dX10_source_30 : decode cX10_source 30 = .ok (.iconst 1, 1) := by decide +kernel
theorem dX10_source_31 : decode cX10_source 31 = .ok (.isub, 1) := by decide +kernel
theorem dX10_source_32 : decode cX10_source 32 = .ok (.iload 4, 2) := by decide +kernel
theorem dX10_source_34 : decode cX10_source 34 = .ok (.isub, 1) := by decide +kernel
theorem dX10_source_35 : decode cX10_source 35 = .ok (.istore_n 3, 1) := by decide +kernel
theorem dX10_source_36 : decode cX10_source 36 = .ok (.iload 6, 2) := by decide +kernel
theorem dX10_source_38 : decode cX10_source 38 = .ok (.istore 4, 2) := by decide +kernel
theorem dX10_source_40 : decode cX10_source 40 = .ok (.iinc 5 1, 3) := by decide +kernel
theorem dX10_source_43 : decode cX10_source 43 = .ok (.goto (-25), 3) := by decide +kernel
theorem dX10_source_46 : decode cX10_source 46 = .ok (.iload_n 0, 1) := by decide +kernel
theorem dX10_source_47 : decode cX10_source 47 = .ok (.iconst 4, 1) := by decide +kernel
theorem dX10_source_48 : decode cX10_source 48 = .ok (.if_icmp .lt 11, 3) := by decide +kernel
theorem dX10_source_51 : decode cX10_source 51 = .ok (.iload_n 2, 1) := by decide +kernel
theorem dX10_source_52 : decode cX10_source 52 = .ok (.iconst 1, 1) := by decide +kernel
theorem dX10_source_53 : decode cX10_source 53 = .ok (.isub, 1) := by decide +kernel
theorem dX10_source_54 : decode cX10_source 54 = .ok (.iload 4, 2) := by decide +kernel
theorem dX10_source_56 : decode cX10_source 56 = .ok (.isub, 1) := by decide +kernel
theorem dX10_source_57 : decode cX10_source 57 = .ok (.istore 4, 2) := by decide +kernel
theorem dX10_source_59 : decode cX10_source 59 = .ok (.iload_n 3, 1) := by decide +kernel
theorem dX10_source_60 : decode cX10_source 60 = .ok (.iload_n 2, 1) := by decide +kernel
theorem dX10_source_61 : decode cX10_source 61 = .ok (.imul, 1) := by decide +kernel
theorem dX10_source_62 : decode cX10_source 62 = .ok (.iload 4, 2) := by decide +kernel
theorem dX10_source_64 : decode cX10_source 64 = .ok (.iadd, 1) := by decide +kernel
theorem dX10_source_65 : decode cX10_source 65 = .ok (.ireturn, 1) := by decide +kernel
theorem dX10_panelCell_0 : decode cX10_panelCell 0 = .ok (.iload_n 0, 1) := by decide +kernel
theorem dX10_panelCell_1 : decode cX10_panelCell 1 = .ok (.iconst 1, 1) := by decide +kernel
theorem dX10_panelCell_2 : decode cX10_panelCell 2 = .ok (.ishr, 1) := by decide +kernel
theorem dX10_panelCell_3 : decode cX10_panelCell 3 = .ok (.iconst 4, 1) := by decide +kernel
theorem dX10_panelCell_4 : decode cX10_panelCell 4 = .ok (.imul, 1) := by decide +kernel
theorem dX10_panelCell_5 : decode cX10_panelCell 5 = .ok (.iload_n 1, 1) := by decide +kernel
theorem dX10_panelCell_6 : decode cX10_panelCell 6 = .ok (.iconst 2, 1) := by decide +kernel
theorem dX10_panelCell_7 : decode cX10_panelCell 7 = .ok (.ishr, 1) := by decide +kernel
theorem dX10_panelCell_8 : decode cX10_panelCell 8 = .ok (.iadd, 1) := by decide +kernel
theorem dX10_panelCell_9 : decode cX10_panelCell 9 = .ok (.istore_n 2, 1) := by decide +kernel
theorem dX10_panelCell_10 : decode cX10_panelCell 10 = .ok (.iload_n 0, 1) := by decide +kernel
theorem dX10_panelCell_11 : decode cX10_panelCell 11 = .ok (.iconst 1, 1) := by decide +kernel
theorem dX10_panelCell_12 : decode cX10_panelCell 12 = .ok (.iand, 1) := by decide +kernel
theorem dX10_panelCell_13 : decode cX10_panelCell 13 = .ok (.iconst 4, 1) := by decide +kernel
theorem dX10_panelCell_14 : decode cX10_panelCell 14 = .ok (.imul, 1) := by decide +kernel
theorem dX10_panelCell_15 : decode cX10_panelCell 15 = .ok (.iload_n 1, 1) := by decide +kernel
theorem dX10_panelCell_16 : decode cX10_panelCell 16 = .ok (.iconst 3, 1) := by decide +kernel
theorem dX10_panelCell_17 : decode cX10_panelCell 17 = .ok (.iand, 1) := by decide +kernel
theorem dX10_panelCell_18 : decode cX10_panelCell 18 = .ok (.iadd, 1) := by decide +kernel
theorem dX10_panelCell_19 : decode cX10_panelCell 19 = .ok (.istore_n 3, 1) := by decide +kernel
theorem dX10_panelCell_20 : decode cX10_panelCell 20 = .ok (.iload_n 2, 1) := by decide +kernel
theorem dX10_panelCell_21 : decode cX10_panelCell 21 = .ok (.bipush 8, 2) := by decide +kernel
theorem dX10_panelCell_23 : decode cX10_panelCell 23 = .ok (.imul, 1) := by decide +kernel
theorem dX10_panelCell_24 : decode cX10_panelCell 24 = .ok (.iload_n 3, 1) := by decide +kernel
theorem dX10_panelCell_25 : decode cX10_panelCell 25 = .ok (.iadd, 1) := by decide +kernel
theorem dX10_panelCell_26 : decode cX10_panelCell 26 = .ok (.ireturn, 1) := by decide +kernel
theorem dX10_figure_0 : decode cX10_figure 0 = .ok (.iload_n 0, 1) := by decide +kernel
theorem dX10_figure_1 : decode cX10_figure 1 = .ok (.bipush 6, 2) := by decide +kernel
theorem dX10_figure_3 : decode cX10_figure 3 = .ok (.iconst 2, 1) := by decide +kernel
theorem dX10_figure_4 : decode cX10_figure 4 = .ok (.iload_n 1, 1) := by decide +kernel
theorem dX10_figure_5 : decode cX10_figure 5 = .ok (.imul, 1) := by decide +kernel
theorem dX10_figure_6 : decode cX10_figure 6 = .ok (.isub, 1) := by decide +kernel
theorem dX10_figure_7 : decode cX10_figure 7 = .ok (.ishr, 1) := by decide +kernel
theorem dX10_figure_8 : decode cX10_figure 8 = .ok (.iconst 3, 1) := by decide +kernel
theorem dX10_figure_9 : decode cX10_figure 9 = .ok (.iand, 1) := by decide +kernel
theorem dX10_figure_10 : decode cX10_figure 10 = .ok (.ireturn, 1) := by decide +kernel
theorem dX10_cost_0 : decode cX10_cost 0 = .ok (.lconst 0, 1) := by decide +kernel
theorem dX10_cost_1 : decode cX10_cost 1 = .ok (.lstore_n 1, 1) := by decide +kernel
theorem dX10_cost_2 : decode cX10_cost 2 = .ok (.iconst 0, 1) := by decide +kernel
theorem dX10_cost_3 : decode cX10_cost 3 = .ok (.istore_n 3, 1) := by decide +kernel
theorem dX10_cost_4 : decode cX10_cost 4 = .ok (.iload_n 3, 1) := by decide +kernel
theorem dX10_cost_5 : decode cX10_cost 5 = .ok (.bipush 6, 2) := by decide +kernel
theorem dX10_cost_7 : decode cX10_cost 7 = .ok (.if_icmp .ge 34, 3) := by decide +kernel
theorem dX10_cost_10 : decode cX10_cost 10 = .ok (.lload_n 1, 1) := by decide +kernel
theorem dX10_cost_11 : decode cX10_cost 11 = .ok (.aload_n 0, 1) := by decide +kernel
theorem dX10_cost_12 : decode cX10_cost 12 = .ok (.getfield 45, 3) := by decide +kernel
theorem dX10_cost_15 : decode cX10_cost 15 = .ok (.iload_n 3, 1) := by decide +kernel
theorem dX10_cost_16 : decode cX10_cost 16 = .ok (.invokevirtual 336, 3) := by decide +kernel
theorem dX10_cost_19 : decode cX10_cost 19 = .ok (.invokestatic 311, 3) := by decide +kernel
theorem dX10_cost_22 : decode cX10_cost 22 = .ok (.i2l, 1) := by decide +kernel
theorem dX10_cost_23 : decode cX10_cost 23 = .ok (.aload_n 0, 1) := by decide +kernel
theorem dX10_cost_24 : decode cX10_cost 24 = .ok (.getfield 19, 3) := by decide +kernel
theorem dX10_cost_27 : decode cX10_cost 27 = .ok (.iload_n 3, 1) := by decide +kernel
theorem dX10_cost_28 : decode cX10_cost 28 = .ok (.invokevirtual 127, 3) := by decide +kernel
theorem dX10_cost_31 : decode cX10_cost 31 = .ok (.i2l, 1) := by decide +kernel
theorem dX10_cost_32 : decode cX10_cost 32 = .ok (.lmul, 1) := by decide +kernel
theorem dX10_cost_33 : decode cX10_cost 33 = .ok (.ladd, 1) := by decide +kernel
theorem dX10_cost_34 : decode cX10_cost 34 = .ok (.lstore_n 1, 1) := by decide +kernel
theorem dX10_cost_35 : decode cX10_cost 35 = .ok (.iinc 3 1, 3) := by decide +kernel
theorem dX10_cost_38 : decode cX10_cost 38 = .ok (.goto (-34), 3) := by decide +kernel
theorem dX10_cost_41 : decode cX10_cost 41 = .ok (.lload_n 1, 1) := by decide +kernel
theorem dX10_cost_42 : decode cX10_cost 42 = .ok (.lreturn, 1) := by decide +kernel
theorem dX10_days_0 : decode cX10_days 0 = .ok (.lconst 0, 1) := by decide +kernel
theorem dX10_days_1 : decode cX10_days 1 = .ok (.lstore_n 2, 1) := by decide +kernel
theorem dX10_days_2 : decode cX10_days 2 = .ok (.lconst 1, 1) := by decide +kernel
theorem dX10_days_3 : decode cX10_days 3 = .ok (.lstore 4, 2) := by decide +kernel
theorem dX10_days_5 : decode cX10_days 5 = .ok (.iconst 0, 1) := by decide +kernel
theorem dX10_days_6 : decode cX10_days 6 = .ok (.istore 6, 2) := by decide +kernel
theorem dX10_days_8 : decode cX10_days 8 = .ok (.iload 6, 2) := by decide +kernel
theorem dX10_days_10 : decode cX10_days 10 = .ok (.bipush 6, 2) := by decide +kernel
theorem dX10_days_12 : decode cX10_days 12 = .ok (.if_icmp .ge 70, 3) := by decide +kernel
theorem dX10_days_15 : decode cX10_days 15 = .ok (.aload_n 0, 1) := by decide +kernel
theorem dX10_days_16 : decode cX10_days 16 = .ok (.getfield 19, 3) := by decide +kernel
theorem dX10_days_19 : decode cX10_days 19 = .ok (.iload 6, 2) := by decide +kernel
theorem dX10_days_21 : decode cX10_days 21 = .ok (.invokevirtual 131, 3) := by decide +kernel
theorem dX10_days_24 : decode cX10_days 24 = .ok (.i2l, 1) := by decide +kernel
theorem dX10_days_25 : decode cX10_days 25 = .ok (.lstore 7, 2) := by decide +kernel
theorem dX10_days_27 : decode cX10_days 27 = .ok (.lload_n 2, 1) := by decide +kernel
theorem dX10_days_28 : decode cX10_days 28 = .ok (.lload 7, 2) := by decide +kernel
theorem dX10_days_30 : decode cX10_days 30 = .ok (.lmul, 1) := by decide +kernel
theorem dX10_days_31 : decode cX10_days 31 = .ok (.aload_n 0, 1) := by decide +kernel
theorem dX10_days_32 : decode cX10_days 32 = .ok (.getfield 45, 3) := by decide +kernel
theorem dX10_days_35 : decode cX10_days 35 = .ok (.iload 6, 2) := by decide +kernel
theorem dX10_days_37 : decode cX10_days 37 = .ok (.invokevirtual 336, 3) := by decide +kernel
theorem dX10_days_40 : decode cX10_days 40 = .ok (.invokestatic 311, 3) := by decide +kernel
theorem dX10_days_43 : decode cX10_days 43 = .ok (.i2l, 1) := by decide +kernel
theorem dX10_days_44 : decode cX10_days 44 = .ok (.lload 4, 2) := by decide +kernel
theorem dX10_days_46 : decode cX10_days 46 = .ok (.lmul, 1) := by decide +kernel
theorem dX10_days_47 : decode cX10_days 47 = .ok (.ladd, 1) := by decide +kernel
theorem dX10_days_48 : decode cX10_days 48 = .ok (.lstore_n 2, 1) := by decide +kernel
theorem dX10_days_49 : decode cX10_days 49 = .ok (.lload 4, 2) := by decide +kernel
theorem dX10_days_51 : decode cX10_days 51 = .ok (.lload 7, 2) := by decide +kernel
theorem dX10_days_53 : decode cX10_days 53 = .ok (.lmul, 1) := by decide +kernel
theorem dX10_days_54 : decode cX10_days 54 = .ok (.lstore 4, 2) := by decide +kernel
theorem dX10_days_56 : decode cX10_days 56 = .ok (.lload_n 2, 1) := by decide +kernel
theorem dX10_days_57 : decode cX10_days 57 = .ok (.lload 4, 2) := by decide +kernel
theorem dX10_days_59 : decode cX10_days 59 = .ok (.invokestatic 218, 3) := by decide +kernel
theorem dX10_days_62 : decode cX10_days 62 = .ok (.lstore 9, 2) := by decide +kernel
theorem dX10_days_64 : decode cX10_days 64 = .ok (.lload_n 2, 1) := by decide +kernel
theorem dX10_days_65 : decode cX10_days 65 = .ok (.lload 9, 2) := by decide +kernel
theorem dX10_days_67 : decode cX10_days 67 = .ok (.ldiv, 1) := by decide +kernel
theorem dX10_days_68 : decode cX10_days 68 = .ok (.lstore_n 2, 1) := by decide +kernel
theorem dX10_days_69 : decode cX10_days 69 = .ok (.lload 4, 2) := by decide +kernel
theorem dX10_days_71 : decode cX10_days 71 = .ok (.lload 9, 2) := by decide +kernel
theorem dX10_days_73 : decode cX10_days 73 = .ok (.ldiv, 1) := by decide +kernel
theorem dX10_days_74 : decode cX10_days 74 = .ok (.lstore 4, 2) := by decide +kernel
theorem dX10_days_76 : decode cX10_days 76 = .ok (.iinc 6 1, 3) := by decide +kernel
theorem dX10_days_79 : decode cX10_days 79 = .ok (.goto (-71), 3) := by decide +kernel
theorem dX10_days_82 : decode cX10_days 82 = .ok (.iload_n 1, 1) := by decide +kernel
theorem dX10_days_83 : decode cX10_days 83 = .ok (.ifCond .eq 7, 3) := by decide +kernel
theorem dX10_days_86 : decode cX10_days 86 = .ok (.lload_n 2, 1) := by decide +kernel
theorem dX10_days_87 : decode cX10_days 87 = .ok (.goto 5, 3) := by decide +kernel
theorem dX10_days_90 : decode cX10_days 90 = .ok (.lload 4, 2) := by decide +kernel
theorem dX10_days_92 : decode cX10_days 92 = .ok (.lreturn, 1) := by decide +kernel
theorem dX11_init_0 : decode cX11_init 0 = .ok (.aload_n 0, 1) := by decide +kernel
theorem dX11_init_1 : decode cX11_init 1 = .ok (.invokespecial 1, 3) := by decide +kernel
theorem dX11_init_4 : decode cX11_init 4 = .ok (.aload_n 0, 1) := by decide +kernel
theorem dX11_init_5 : decode cX11_init 5 = .ok (.sipush 400, 3) := by decide +kernel
theorem dX11_init_8 : decode cX11_init 8 = .ok (.newarray .int, 2) := by decide +kernel
theorem dX11_init_10 : decode cX11_init 10 = .ok (.putfield 7, 3) := by decide +kernel
theorem dX11_init_13 : decode cX11_init 13 = .ok (.aload_n 0, 1) := by decide +kernel
theorem dX11_init_14 : decode cX11_init 14 = .ok (.bipush 7, 2) := by decide +kernel
theorem dX11_init_16 : decode cX11_init 16 = .ok (.newarray .int, 2) := by decide +kernel
theorem dX11_init_18 : decode cX11_init 18 = .ok (.dup, 1) := by decide +kernel
theorem dX11_init_19 : decode cX11_init 19 = .ok (.iconst 0, 1) := by decide +kernel
theorem dX11_init_20 : decode cX11_init 20 = .ok (.iconst 0, 1) := by decide +kernel
theorem dX11_init_21 : decode cX11_init 21 = .ok (.iastore, 1) := by decide +kernel
theorem dX11_init_22 : decode cX11_init 22 = .ok (.dup, 1) := by decide +kernel
theorem dX11_init_23 : decode cX11_init 23 = .ok (.iconst 1, 1) := by decide +kernel
theorem dX11_init_24 : decode cX11_init 24 = .ok (.iconst 3, 1) := by decide +kernel
theorem dX11_init_25 : decode cX11_init 25 = .ok (.iastore, 1) := by decide +kernel
theorem dX11_init_26 : decode cX11_init 26 = .ok (.dup, 1) := by decide +kernel
theorem dX11_init_27 : decode cX11_init 27 = .ok (.iconst 2, 1) := by decide +kernel
theorem dX11_init_28 : decode cX11_init 28 = .ok (.bipush 8, 2) := by decide +kernel
theorem dX11_init_30 : decode cX11_init 30 = .ok (.iastore, 1) := by decide +kernel
theorem dX11_init_31 : decode cX11_init 31 = .ok (.dup, 1) := by decide +kernel
theorem dX11_init_32 : decode cX11_init 32 = .ok (.iconst 3, 1) := by decide +kernel
theorem dX11_init_33 : decode cX11_init 33 = .ok (.bipush 13, 2) := by decide +kernel
theorem dX11_init_35 : decode cX11_init 35 = .ok (.iastore, 1) := by decide +kernel
theorem dX11_init_36 : decode cX11_init 36 = .ok (.dup, 1) := by decide +kernel
theorem dX11_init_37 : decode cX11_init 37 = .ok (.iconst 4, 1) := by decide +kernel
theorem dX11_init_38 : decode cX11_init 38 = .ok (.bipush 18, 2) := by decide +kernel
theorem dX11_init_40 : decode cX11_init 40 = .ok (.iastore, 1) := by decide +kernel
theorem dX11_init_41 : decode cX11_init 41 = .ok (.dup, 1) := by decide +kernel
theorem dX11_init_42 : decode cX11_init 42 = .ok (.iconst 5, 1) := by decide +kernel
theorem dX11_init_43 : decode cX11_init 43 = .ok (.bipush 24, 2) := by decide +kernel
theorem dX11_init_45 : decode cX11_init 45 = .ok (.iastore, 1) := by decide +kernel
theorem dX11_init_46 : decode cX11_init 46 = .ok (.dup, 1) := by decide +kernel
theorem dX11_init_47 : decode cX11_init 47 = .ok (.bipush 6, 2) := by decide +kernel
theorem dX11_init_49 : decode cX11_init 49 = .ok (.bipush 28, 2) := by decide +kernel
theorem dX11_init_51 : decode cX11_init 51 = .ok (.iastore, 1) := by decide +kernel
theorem dX11_init_52 : decode cX11_init 52 = .ok (.putfield 13, 3) := by decide +kernel
theorem dX11_init_55 : decode cX11_init 55 = .ok (.aload_n 0, 1) := by decide +kernel
theorem dX11_init_56 : decode cX11_init 56 = .ok (.bipush 28, 2) := by decide +kernel
theorem dX11_init_58 : decode cX11_init 58 = .ok (.newarray .int, 2) := by decide +kernel
theorem dX11_init_60 : decode cX11_init 60 = .ok (.dup, 1) := by decide +kernel
theorem dX11_init_61 : decode cX11_init 61 = .ok (.iconst 0, 1) := by decide +kernel
theorem dX11_init_62 : decode cX11_init 62 = .ok (.bipush 114, 2) := by decide +kernel
theorem dX11_init_64 : decode cX11_init 64 = .ok (.iastore, 1) := by decide +kernel
theorem dX11_init_65 : decode cX11_init 65 = .ok (.dup, 1) := by decide +kernel
theorem dX11_init_66 : decode cX11_init 66 = .ok (.iconst 1, 1) := by decide +kernel
theorem dX11_init_67 : decode cX11_init 67 = .ok (.bipush 111, 2) := by decide +kernel
theorem dX11_init_69 : decode cX11_init 69 = .ok (.iastore, 1) := by decide +kernel
theorem dX11_init_70 : decode cX11_init 70 = .ok (.dup, 1) := by decide +kernel
theorem dX11_init_71 : decode cX11_init 71 = .ok (.iconst 2, 1) := by decide +kernel
theorem dX11_init_72 : decode cX11_init 72 = .ok (.bipush 119, 2) := by decide +kernel
theorem dX11_init_74 : decode cX11_init 74 = .ok (.iastore, 1) := by decide +kernel
theorem dX11_init_75 : decode cX11_init 75 = .ok (.dup, 1) := by decide +kernel
theorem dX11_init_76 : decode cX11_init 76 = .ok (.iconst 3, 1) := by decide +kernel
theorem dX11_init_77 : decode cX11_init 77 = .ok (.bipush 112, 2) := by decide +kernel
theorem dX11_init_79 : decode cX11_init 79 = .ok (.iastore, 1) := by decide +kernel
theorem dX11_init_80 : decode cX11_init 80 = .ok (.dup, 1) := by decide +kernel
theorem dX11_init_81 : decode cX11_init 81 = .ok (.iconst 4, 1) := by decide +kernel
theorem dX11_init_82 : decode cX11_init 82 = .ok (.bipush 97, 2) := by decide +kernel
theorem dX11_init_84 : decode cX11_init 84 = .ok (.iastore, 1) := by decide +kernel
theorem dX11_init_85 : decode cX11_init 85 = .ok (.dup, 1) := by decide +kernel
theorem dX11_init_86 : decode cX11_init 86 = .ok (.iconst 5, 1) := by decide +kernel
theorem dX11_init_87 : decode cX11_init 87 = .ok (.bipush 116, 2) := by decide +kernel
theorem dX11_init_89 : decode cX11_init 89 = .ok (.iastore, 1) := by decide +kernel
theorem dX11_init_90 : decode cX11_init 90 = .ok (.dup, 1) := by decide +kernel
theorem dX11_init_91 : decode cX11_init 91 = .ok (.bipush 6, 2) := by decide +kernel
theorem dX11_init_93 : decode cX11_init 93 = .ok (.bipush 99, 2) := by decide +kernel
theorem dX11_init_95 : decode cX11_init 95 = .ok (.iastore, 1) := by decide +kernel
theorem dX11_init_96 : decode cX11_init 96 = .ok (.dup, 1) := by decide +kernel
theorem dX11_init_97 : decode cX11_init 97 = .ok (.bipush 7, 2) := by decide +kernel
theorem dX11_init_99 : decode cX11_init 99 = .ok (.bipush 104, 2) := by decide +kernel
theorem dX11_init_101 : decode cX11_init 101 = .ok (.iastore, 1) := by decide +kernel
theorem dX11_init_102 : decode cX11_init 102 = .ok (.dup, 1) := by decide +kernel
theorem dX11_init_103 : decode cX11_init 103 = .ok (.bipush 8, 2) := by decide +kernel
theorem dX11_init_105 : decode cX11_init 105 = .ok (.bipush 103, 2) := by decide +kernel
theorem dX11_init_107 : decode cX11_init 107 = .ok (.iastore, 1) := by decide +kernel
theorem dX11_init_108 : decode cX11_init 108 = .ok (.dup, 1) := by decide +kernel
theorem dX11_init_109 : decode cX11_init 109 = .ok (.bipush 9, 2) := by decide +kernel
theorem dX11_init_111 : decode cX11_init 111 = .ok (.bipush 105, 2) := by decide +kernel
theorem dX11_init_113 : decode cX11_init 113 = .ok (.iastore, 1) := by decide +kernel
theorem dX11_init_114 : decode cX11_init 114 = .ok (.dup, 1) := by decide +kernel
theorem dX11_init_115 : decode cX11_init 115 = .ok (.bipush 10, 2) := by decide +kernel
theorem dX11_init_117 : decode cX11_init 117 = .ok (.bipush 118, 2) := by decide +kernel
theorem dX11_init_119 : decode cX11_init 119 = .ok (.iastore, 1) := by decide +kernel
theorem dX11_init_120 : decode cX11_init 120 = .ok (.dup, 1) := by decide +kernel
theorem dX11_init_121 : decode cX11_init 121 = .ok (.bipush 11, 2) := by decide +kernel
theorem dX11_init_123 : decode cX11_init 123 = .ok (.bipush 101, 2) := by decide +kernel
theorem dX11_init_125 : decode cX11_init 125 = .ok (.iastore, 1) := by decide +kernel
theorem dX11_init_126 : decode cX11_init 126 = .ok (.dup, 1) := by decide +kernel
theorem dX11_init_127 : decode cX11_init 127 = .ok (.bipush 12, 2) := by decide +kernel
theorem dX11_init_129 : decode cX11_init 129 = .ok (.bipush 115, 2) := by decide +kernel
theorem dX11_init_131 : decode cX11_init 131 = .ok (.iastore, 1) := by decide +kernel
theorem dX11_init_132 : decode cX11_init 132 = .ok (.dup, 1) := by decide +kernel
theorem dX11_init_133 : decode cX11_init 133 = .ok (.bipush 13, 2) := by decide +kernel
theorem dX11_init_135 : decode cX11_init 135 = .ok (.bipush 97, 2) := by decide +kernel
theorem dX11_init_137 : decode cX11_init 137 = .ok (.iastore, 1) := by decide +kernel
theorem dX11_init_138 : decode cX11_init 138 = .ok (.dup, 1) := by decide +kernel
theorem dX11_init_139 : decode cX11_init 139 = .ok (.bipush 14, 2) := by decide +kernel
theorem dX11_init_141 : decode cX11_init 141 = .ok (.bipush 112, 2) := by decide +kernel
theorem dX11_init_143 : decode cX11_init 143 = .ok (.iastore, 1) := by decide +kernel
theorem dX11_init_144 : decode cX11_init 144 = .ok (.dup, 1) := by decide +kernel
theorem dX11_init_145 : decode cX11_init 145 = .ok (.bipush 15, 2) := by decide +kernel
theorem dX11_init_147 : decode cX11_init 147 = .ok (.bipush 97, 2) := by decide +kernel
theorem dX11_init_149 : decode cX11_init 149 = .ok (.iastore, 1) := by decide +kernel
theorem dX11_init_150 : decode cX11_init 150 = .ok (.dup, 1) := by decide +kernel
theorem dX11_init_151 : decode cX11_init 151 = .ok (.bipush 16, 2) := by decide +kernel
theorem dX11_init_153 : decode cX11_init 153 = .ok (.bipush 114, 2) := by decide +kernel
theorem dX11_init_155 : decode cX11_init 155 = .ok (.iastore, 1) := by decide +kernel
theorem dX11_init_156 : decode cX11_init 156 = .ok (.dup, 1) := by decide +kernel
theorem dX11_init_157 : decode cX11_init 157 = .ok (.bipush 17, 2) := by decide +kernel
theorem dX11_init_159 : decode cX11_init 159 = .ok (.bipush 116, 2) := by decide +kernel
theorem dX11_init_161 : decode cX11_init 161 = .ok (.iastore, 1) := by decide +kernel
theorem dX11_init_162 : decode cX11_init 162 = .ok (.dup, 1) := by decide +kernel
theorem dX11_init_163 : decode cX11_init 163 = .ok (.bipush 18, 2) := by decide +kernel
theorem dX11_init_165 : decode cX11_init 165 = .ok (.bipush 113, 2) := by decide +kernel
theorem dX11_init_167 : decode cX11_init 167 = .ok (.iastore, 1) := by decide +kernel
theorem dX11_init_168 : decode cX11_init 168 = .ok (.dup, 1) := by decide +kernel
theorem dX11_init_169 : decode cX11_init 169 = .ok (.bipush 19, 2) := by decide +kernel
theorem dX11_init_171 : decode cX11_init 171 = .ok (.bipush 117, 2) := by decide +kernel
theorem dX11_init_173 : decode cX11_init 173 = .ok (.iastore, 1) := by decide +kernel
theorem dX11_init_174 : decode cX11_init 174 = .ok (.dup, 1) := by decide +kernel
theorem dX11_init_175 : decode cX11_init 175 = .ok (.bipush 20, 2) := by decide +kernel
theorem dX11_init_177 : decode cX11_init 177 = .ok (.bipush 97, 2) := by decide +kernel
theorem dX11_init_179 : decode cX11_init 179 = .ok (.iastore, 1) := by decide +kernel
theorem dX11_init_180 : decode cX11_init 180 = .ok (.dup, 1) := by decide +kernel
theorem dX11_init_181 : decode cX11_init 181 = .ok (.bipush 21, 2) := by decide +kernel
theorem dX11_init_183 : decode cX11_init 183 = .ok (.bipush 114, 2) := by decide +kernel
theorem dX11_init_185 : decode cX11_init 185 = .ok (.iastore, 1) := by decide +kernel
theorem dX11_init_186 : decode cX11_init 186 = .ok (.dup, 1) := by decide +kernel
theorem dX11_init_187 : decode cX11_init 187 = .ok (.bipush 22, 2) := by decide +kernel
theorem dX11_init_189 : decode cX11_init 189 = .ok (.bipush 114, 2) := by decide +kernel
theorem dX11_init_191 : decode cX11_init 191 = .ok (.iastore, 1) := by decide +kernel
theorem dX11_init_192 : decode cX11_init 192 = .ok (.dup, 1) := by decide +kernel
theorem dX11_init_193 : decode cX11_init 193 = .ok (.bipush 23, 2) := by decide +kernel
theorem dX11_init_195 : decode cX11_init 195 = .ok (.bipush 121, 2) := by decide +kernel
theorem dX11_init_197 : decode cX11_init 197 = .ok (.iastore, 1) := by decide +kernel
theorem dX11_init_198 : decode cX11_init 198 = .ok (.dup, 1) := by decide +kernel
theorem dX11_init_199 : decode cX11_init 199 = .ok (.bipush 24, 2) := by decide +kernel
theorem dX11_init_201 : decode cX11_init 201 = .ok (.bipush 98, 2) := by decide +kernel
theorem dX11_init_203 : decode cX11_init 203 = .ok (.iastore, 1) := by decide +kernel
theorem dX11_init_204 : decode cX11_init 204 = .ok (.dup, 1) := by decide +kernel
theorem dX11_init_205 : decode cX11_init 205 = .ok (.bipush 25, 2) := by decide +kernel
theorem dX11_init_207 : decode cX11_init 207 = .ok (.bipush 111, 2) := by decide +kernel
theorem dX11_init_209 : decode cX11_init 209 = .ok (.iastore, 1) := by decide +kernel
theorem dX11_init_210 : decode cX11_init 210 = .ok (.dup, 1) := by decide +kernel
theorem dX11_init_211 : decode cX11_init 211 = .ok (.bipush 26, 2) := by decide +kernel
theorem dX11_init_213 : decode cX11_init 213 = .ok (.bipush 111, 2) := by decide +kernel
theorem dX11_init_215 : decode cX11_init 215 = .ok (.iastore, 1) := by decide +kernel
theorem dX11_init_216 : decode cX11_init 216 = .ok (.dup, 1) := by decide +kernel
theorem dX11_init_217 : decode cX11_init 217 = .ok (.bipush 27, 2) := by decide +kernel
theorem dX11_init_219 : decode cX11_init 219 = .ok (.bipush 107, 2) := by decide +kernel
theorem dX11_init_221 : decode cX11_init 221 = .ok (.iastore, 1) := by decide +kernel
theorem dX11_init_222 : decode cX11_init 222 = .ok (.putfield 16, 3) := by decide +kernel
theorem dX11_init_225 : decode cX11_init 225 = .ok (.aload_n 0, 1) := by decide +kernel
theorem dX11_init_226 : decode cX11_init 226 = .ok (.bipush 12, 2) := by decide +kernel
theorem dX11_init_228 : decode cX11_init 228 = .ok (.newarray .int, 2) := by decide +kernel
theorem dX11_init_230 : decode cX11_init 230 = .ok (.putfield 19, 3) := by decide +kernel
theorem dX11_init_233 : decode cX11_init 233 = .ok (.aload_n 0, 1) := by decide +kernel
theorem dX11_init_234 : decode cX11_init 234 = .ok (.bipush 12, 2) := by decide +kernel
theorem dX11_init_236 : decode cX11_init 236 = .ok (.newarray .int, 2) := by decide +kernel
theorem dX11_init_238 : decode cX11_init 238 = .ok (.putfield 22, 3) := by decide +kernel
theorem dX11_init_241 : decode cX11_init 241 = .ok (.aload_n 0, 1) := by decide +kernel
theorem dX11_init_242 : decode cX11_init 242 = .ok (.bipush 12, 2) := by decide +kernel
theorem dX11_init_244 : decode cX11_init 244 = .ok (.newarray .int, 2) := by decide +kernel
theorem dX11_init_246 : decode cX11_init 246 = .ok (.putfield 25, 3) := by decide +kernel
theorem dX11_init_249 : decode cX11_init 249 = .ok (.aload_n 0, 1) := by decide +kernel
theorem dX11_init_250 : decode cX11_init 250 = .ok (.bipush 64, 2) := by decide +kernel
theorem dX11_init_252 : decode cX11_init 252 = .ok (.newarray .int, 2) := by decide +kernel
theorem dX11_init_254 : decode cX11_init 254 = .ok (.putfield 28, 3) := by decide +kernel
theorem dX11_init_257 : decode cX11_init 257 = .ok (.aload_n 0, 1) := by decide +kernel
theorem dX11_init_258 : decode cX11_init 258 = .ok (.bipush 10, 2) := by decide +kernel
theorem dX11_init_260 : decode cX11_init 260 = .ok (.putfield 31, 3) := by decide +kernel
theorem dX11_init_263 : decode cX11_init 263 = .ok (.aload_n 0, 1) := by decide +kernel
theorem dX11_init_264 : decode cX11_init 264 = .ok (.bipush 6, 2) := by decide +kernel
theorem dX11_init_266 : decode cX11_init 266 = .ok (.newarray .int, 2) := by decide +kernel
theorem dX11_init_268 : decode cX11_init 268 = .ok (.dup, 1) := by decide +kernel
theorem dX11_init_269 : decode cX11_init 269 = .ok (.iconst 0, 1) := by decide +kernel
theorem dX11_init_270 : decode cX11_init 270 = .ok (.iconst 1, 1) := by decide +kernel
theorem dX11_init_271 : decode cX11_init 271 = .ok (.iastore, 1) := by decide +kernel
theorem dX11_init_272 : decode cX11_init 272 = .ok (.dup, 1) := by decide +kernel
theorem dX11_init_273 : decode cX11_init 273 = .ok (.iconst 1, 1) := by decide +kernel
theorem dX11_init_274 : decode cX11_init 274 = .ok (.iconst 1, 1) := by decide +kernel
theorem dX11_init_275 : decode cX11_init 275 = .ok (.iastore, 1) := by decide +kernel
theorem dX11_init_276 : decode cX11_init 276 = .ok (.dup, 1) := by decide +kernel
theorem dX11_init_277 : decode cX11_init 277 = .ok (.iconst 2, 1) := by decide +kernel
theorem dX11_init_278 : decode cX11_init 278 = .ok (.iconst 1, 1) := by decide +kernel
theorem dX11_init_279 : decode cX11_init 279 = .ok (.iastore, 1) := by decide +kernel
theorem dX11_init_280 : decode cX11_init 280 = .ok (.dup, 1) := by decide +kernel
theorem dX11_init_281 : decode cX11_init 281 = .ok (.iconst 3, 1) := by decide +kernel
theorem dX11_init_282 : decode cX11_init 282 = .ok (.iconst 1, 1) := by decide +kernel
theorem dX11_init_283 : decode cX11_init 283 = .ok (.iastore, 1) := by decide +kernel
theorem dX11_init_284 : decode cX11_init 284 = .ok (.dup, 1) := by decide +kernel
theorem dX11_init_285 : decode cX11_init 285 = .ok (.iconst 4, 1) := by decide +kernel
theorem dX11_init_286 : decode cX11_init 286 = .ok (.iconst 1, 1) := by decide +kernel
theorem dX11_init_287 : decode cX11_init 287 = .ok (.iastore, 1) := by decide +kernel
theorem dX11_init_288 : decode cX11_init 288 = .ok (.dup, 1) := by decide +kernel
theorem dX11_init_289 : decode cX11_init 289 = .ok (.iconst 5, 1) := by decide +kernel
theorem dX11_init_290 : decode cX11_init 290 = .ok (.iconst 1, 1) := by decide +kernel
theorem dX11_init_291 : decode cX11_init 291 = .ok (.iastore, 1) := by decide +kernel
theorem dX11_init_292 : decode cX11_init 292 = .ok (.putfield 35, 3) := by decide +kernel
theorem dX11_init_295 : decode cX11_init 295 = .ok (.aload_n 0, 1) := by decide +kernel
theorem dX11_init_296 : decode cX11_init 296 = .ok (.bipush 6, 2) := by decide +kernel
theorem dX11_init_298 : decode cX11_init 298 = .ok (.newarray .int, 2) := by decide +kernel
theorem dX11_init_300 : decode cX11_init 300 = .ok (.dup, 1) := by decide +kernel
theorem dX11_init_301 : decode cX11_init 301 = .ok (.iconst 0, 1) := by decide +kernel
theorem dX11_init_302 : decode cX11_init 302 = .ok (.bipush 10, 2) := by decide +kernel
theorem dX11_init_304 : decode cX11_init 304 = .ok (.iastore, 1) := by decide +kernel
theorem dX11_init_305 : decode cX11_init 305 = .ok (.dup, 1) := by decide +kernel
theorem dX11_init_306 : decode cX11_init 306 = .ok (.iconst 1, 1) := by decide +kernel
theorem dX11_init_307 : decode cX11_init 307 = .ok (.bipush 10, 2) := by decide +kernel
theorem dX11_init_309 : decode cX11_init 309 = .ok (.iastore, 1) := by decide +kernel
theorem dX11_init_310 : decode cX11_init 310 = .ok (.dup, 1) := by decide +kernel
theorem dX11_init_311 : decode cX11_init 311 = .ok (.iconst 2, 1) := by decide +kernel
theorem dX11_init_312 : decode cX11_init 312 = .ok (.bipush 10, 2) := by decide +kernel
theorem dX11_init_314 : decode cX11_init 314 = .ok (.iastore, 1) := by decide +kernel
theorem dX11_init_315 : decode cX11_init 315 = .ok (.dup, 1) := by decide +kernel
theorem dX11_init_316 : decode cX11_init 316 = .ok (.iconst 3, 1) := by decide +kernel
theorem dX11_init_317 : decode cX11_init 317 = .ok (.bipush 10, 2) := by decide +kernel
theorem dX11_init_319 : decode cX11_init 319 = .ok (.iastore, 1) := by decide +kernel
theorem dX11_init_320 : decode cX11_init 320 = .ok (.dup, 1) := by decide +kernel
theorem dX11_init_321 : decode cX11_init 321 = .ok (.iconst 4, 1) := by decide +kernel
theorem dX11_init_322 : decode cX11_init 322 = .ok (.bipush 10, 2) := by decide +kernel
theorem dX11_init_324 : decode cX11_init 324 = .ok (.iastore, 1) := by decide +kernel
theorem dX11_init_325 : decode cX11_init 325 = .ok (.dup, 1) := by decide +kernel
theorem dX11_init_326 : decode cX11_init 326 = .ok (.iconst 5, 1) := by decide +kernel
theorem dX11_init_327 : decode cX11_init 327 = .ok (.bipush 10, 2) := by decide +kernel
theorem dX11_init_329 : decode cX11_init 329 = .ok (.iastore, 1) := by decide +kernel
theorem dX11_init_330 : decode cX11_init 330 = .ok (.putfield 38, 3) := by decide +kernel
theorem dX11_init_333 : decode cX11_init 333 = .ok (.aload_n 0, 1) := by decide +kernel
theorem dX11_init_334 : decode cX11_init 334 = .ok (.bipush 12, 2) := by decide +kernel
theorem dX11_init_336 : decode cX11_init 336 = .ok (.newarray .int, 2) := by decide +kernel
theorem dX11_init_338 : decode cX11_init 338 = .ok (.putfield 41, 3) := by decide +kernel
theorem dX11_init_341 : decode cX11_init 341 = .ok (.aload_n 0, 1) := by decide +kernel
theorem dX11_init_342 : decode cX11_init 342 = .ok (.bipush 12, 2) := by decide +kernel
theorem dX11_init_344 : decode cX11_init 344 = .ok (.newarray .int, 2) := by decide +kernel
theorem dX11_init_346 : decode cX11_init 346 = .ok (.putfield 44, 3) := by decide +kernel
theorem dX11_init_349 : decode cX11_init 349 = .ok (.aload_n 0, 1) := by decide +kernel
theorem dX11_init_350 : decode cX11_init 350 = .ok (.bipush 12, 2) := by decide +kernel
theorem dX11_init_352 : decode cX11_init 352 = .ok (.newarray .int, 2) := by decide +kernel
theorem dX11_init_354 : decode cX11_init 354 = .ok (.putfield 47, 3) := by decide +kernel
theorem dX11_init_357 : decode cX11_init 357 = .ok (.aload_n 0, 1) := by decide +kernel
theorem dX11_init_358 : decode cX11_init 358 = .ok (.bipush 12, 2) := by decide +kernel
theorem dX11_init_360 : decode cX11_init 360 = .ok (.newarray .int, 2) := by decide +kernel
theorem dX11_init_362 : decode cX11_init 362 = .ok (.putfield 50, 3) := by decide +kernel
theorem dX11_init_365 : decode cX11_init 365 = .ok (.aload_n 0, 1) := by decide +kernel
theorem dX11_init_366 : decode cX11_init 366 = .ok (.bipush 64, 2) := by decide +kernel
theorem dX11_init_368 : decode cX11_init 368 = .ok (.newarray .int, 2) := by decide +kernel
theorem dX11_init_370 : decode cX11_init 370 = .ok (.putfield 53, 3) := by decide +kernel
theorem dX11_init_373 : decode cX11_init 373 = .ok (.aload_n 0, 1) := by decide +kernel
theorem dX11_init_374 : decode cX11_init 374 = .ok (.bipush 6, 2) := by decide +kernel
theorem dX11_init_376 : decode cX11_init 376 = .ok (.newarray .int, 2) := by decide +kernel
theorem dX11_init_378 : decode cX11_init 378 = .ok (.putfield 56, 3) := by decide +kernel
theorem dX11_init_381 : decode cX11_init 381 = .ok (.aload_n 0, 1) := by decide +kernel
theorem dX11_init_382 : decode cX11_init 382 = .ok (.bipush 6, 2) := by decide +kernel
theorem dX11_init_384 : decode cX11_init 384 = .ok (.newarray .int, 2) := by decide +kernel
theorem dX11_init_386 : decode cX11_init 386 = .ok (.putfield 59, 3) := by decide +kernel
theorem dX11_init_389 : decode cX11_init 389 = .ok (.aload_n 0, 1) := by decide +kernel
theorem dX11_init_390 : decode cX11_init 390 = .ok (.bipush 12, 2) := by decide +kernel
theorem dX11_init_392 : decode cX11_init 392 = .ok (.newarray .int, 2) := by decide +kernel
theorem dX11_init_394 : decode cX11_init 394 = .ok (.putfield 62, 3) := by decide +kernel
theorem dX11_init_397 : decode cX11_init 397 = .ok (.aload_n 0, 1) := by decide +kernel
theorem dX11_init_398 : decode cX11_init 398 = .ok (.sipush 4096, 3) := by decide +kernel
theorem dX11_init_401 : decode cX11_init 401 = .ok (.newarray .long, 2) := by decide +kernel
theorem dX11_init_403 : decode cX11_init 403 = .ok (.putfield 65, 3) := by decide +kernel
theorem dX11_init_406 : decode cX11_init 406 = .ok (.aload_n 0, 1) := by decide +kernel
theorem dX11_init_407 : decode cX11_init 407 = .ok (.bipush 24, 2) := by decide +kernel
theorem dX11_init_409 : decode cX11_init 409 = .ok (.newarray .int, 2) := by decide +kernel
theorem dX11_init_411 : decode cX11_init 411 = .ok (.putfield 69, 3) := by decide +kernel
theorem dX11_init_414 : decode cX11_init 414 = .ok (.aload_n 0, 1) := by decide +kernel
theorem dX11_init_415 : decode cX11_init 415 = .ok (.bipush 64, 2) := by decide +kernel
theorem dX11_init_417 : decode cX11_init 417 = .ok (.newarray .int, 2) := by decide +kernel
theorem dX11_init_419 : decode cX11_init 419 = .ok (.dup, 1) := by decide +kernel
theorem dX11_init_420 : decode cX11_init 420 = .ok (.iconst 0, 1) := by decide +kernel
theorem dX11_init_421 : decode cX11_init 421 = .ok (.iconst (-1), 1) := by decide +kernel
theorem dX11_init_422 : decode cX11_init 422 = .ok (.iastore, 1) := by decide +kernel
theorem dX11_init_423 : decode cX11_init 423 = .ok (.dup, 1) := by decide +kernel
theorem dX11_init_424 : decode cX11_init 424 = .ok (.iconst 1, 1) := by decide +kernel
theorem dX11_init_425 : decode cX11_init 425 = .ok (.iconst (-1), 1) := by decide +kernel
theorem dX11_init_426 : decode cX11_init 426 = .ok (.iastore, 1) := by decide +kernel
theorem dX11_init_427 : decode cX11_init 427 = .ok (.dup, 1) := by decide +kernel
theorem dX11_init_428 : decode cX11_init 428 = .ok (.iconst 2, 1) := by decide +kernel
theorem dX11_init_429 : decode cX11_init 429 = .ok (.iconst (-1), 1) := by decide +kernel
theorem dX11_init_430 : decode cX11_init 430 = .ok (.iastore, 1) := by decide +kernel
theorem dX11_init_431 : decode cX11_init 431 = .ok (.dup, 1) := by decide +kernel
theorem dX11_init_432 : decode cX11_init 432 = .ok (.iconst 3, 1) := by decide +kernel
theorem dX11_init_433 : decode cX11_init 433 = .ok (.iconst (-1), 1) := by decide +kernel
theorem dX11_init_434 : decode cX11_init 434 = .ok (.iastore, 1) := by decide +kernel
theorem dX11_init_435 : decode cX11_init 435 = .ok (.dup, 1) := by decide +kernel
theorem dX11_init_436 : decode cX11_init 436 = .ok (.iconst 4, 1) := by decide +kernel
theorem dX11_init_437 : decode cX11_init 437 = .ok (.iconst (-1), 1) := by decide +kernel
theorem dX11_init_438 : decode cX11_init 438 = .ok (.iastore, 1) := by decide +kernel
theorem dX11_init_439 : decode cX11_init 439 = .ok (.dup, 1) := by decide +kernel
theorem dX11_init_440 : decode cX11_init 440 = .ok (.iconst 5, 1) := by decide +kernel
theorem dX11_init_441 : decode cX11_init 441 = .ok (.iconst (-1), 1) := by decide +kernel
theorem dX11_init_442 : decode cX11_init 442 = .ok (.iastore, 1) := by decide +kernel
theorem dX11_init_443 : decode cX11_init 443 = .ok (.dup, 1) := by decide +kernel
theorem dX11_init_444 : decode cX11_init 444 = .ok (.bipush 6, 2) := by decide +kernel
theorem dX11_init_446 : decode cX11_init 446 = .ok (.iconst (-1), 1) := by decide +kernel
theorem dX11_init_447 : decode cX11_init 447 = .ok (.iastore, 1) := by decide +kernel
theorem dX11_init_448 : decode cX11_init 448 = .ok (.dup, 1) := by decide +kernel
theorem dX11_init_449 : decode cX11_init 449 = .ok (.bipush 7, 2) := by decide +kernel
theorem dX11_init_451 : decode cX11_init 451 = .ok (.iconst (-1), 1) := by decide +kernel
theorem dX11_init_452 : decode cX11_init 452 = .ok (.iastore, 1) := by decide +kernel
theorem dX11_init_453 : decode cX11_init 453 = .ok (.dup, 1) := by decide +kernel
theorem dX11_init_454 : decode cX11_init 454 = .ok (.bipush 8, 2) := by decide +kernel
theorem dX11_init_456 : decode cX11_init 456 = .ok (.iconst (-1), 1) := by decide +kernel
theorem dX11_init_457 : decode cX11_init 457 = .ok (.iastore, 1) := by decide +kernel
theorem dX11_init_458 : decode cX11_init 458 = .ok (.dup, 1) := by decide +kernel
theorem dX11_init_459 : decode cX11_init 459 = .ok (.bipush 9, 2) := by decide +kernel
theorem dX11_init_461 : decode cX11_init 461 = .ok (.iconst (-1), 1) := by decide +kernel
theorem dX11_init_462 : decode cX11_init 462 = .ok (.iastore, 1) := by decide +kernel
theorem dX11_init_463 : decode cX11_init 463 = .ok (.dup, 1) := by decide +kernel
theorem dX11_init_464 : decode cX11_init 464 = .ok (.bipush 10, 2) := by decide +kernel
theorem dX11_init_466 : decode cX11_init 466 = .ok (.iconst (-1), 1) := by decide +kernel
theorem dX11_init_467 : decode cX11_init 467 = .ok (.iastore, 1) := by decide +kernel
theorem dX11_init_468 : decode cX11_init 468 = .ok (.dup, 1) := by decide +kernel
theorem dX11_init_469 : decode cX11_init 469 = .ok (.bipush 11, 2) := by decide +kernel
theorem dX11_init_471 : decode cX11_init 471 = .ok (.iconst (-1), 1) := by decide +kernel
theorem dX11_init_472 : decode cX11_init 472 = .ok (.iastore, 1) := by decide +kernel
theorem dX11_init_473 : decode cX11_init 473 = .ok (.dup, 1) := by decide +kernel
theorem dX11_init_474 : decode cX11_init 474 = .ok (.bipush 12, 2) := by decide +kernel
theorem dX11_init_476 : decode cX11_init 476 = .ok (.iconst (-1), 1) := by decide +kernel
theorem dX11_init_477 : decode cX11_init 477 = .ok (.iastore, 1) := by decide +kernel
theorem dX11_init_478 : decode cX11_init 478 = .ok (.dup, 1) := by decide +kernel
theorem dX11_init_479 : decode cX11_init 479 = .ok (.bipush 13, 2) := by decide +kernel
theorem dX11_init_481 : decode cX11_init 481 = .ok (.iconst (-1), 1) := by decide +kernel
theorem dX11_init_482 : decode cX11_init 482 = .ok (.iastore, 1) := by decide +kernel
theorem dX11_init_483 : decode cX11_init 483 = .ok (.dup, 1) := by decide +kernel
theorem dX11_init_484 : decode cX11_init 484 = .ok (.bipush 14, 2) := by decide +kernel
theorem dX11_init_486 : decode cX11_init 486 = .ok (.iconst (-1), 1) := by decide +kernel
theorem dX11_init_487 : decode cX11_init 487 = .ok (.iastore, 1) := by decide +kernel
theorem dX11_init_488 : decode cX11_init 488 = .ok (.dup, 1) := by decide +kernel
theorem dX11_init_489 : decode cX11_init 489 = .ok (.bipush 15, 2) := by decide +kernel
theorem dX11_init_491 : decode cX11_init 491 = .ok (.iconst (-1), 1) := by decide +kernel
theorem dX11_init_492 : decode cX11_init 492 = .ok (.iastore, 1) := by decide +kernel
theorem dX11_init_493 : decode cX11_init 493 = .ok (.dup, 1) := by decide +kernel
theorem dX11_init_494 : decode cX11_init 494 = .ok (.bipush 16, 2) := by decide +kernel
theorem dX11_init_496 : decode cX11_init 496 = .ok (.iconst (-1), 1) := by decide +kernel
theorem dX11_init_497 : decode cX11_init 497 = .ok (.iastore, 1) := by decide +kernel
theorem dX11_init_498 : decode cX11_init 498 = .ok (.dup, 1) := by decide +kernel
theorem dX11_init_499 : decode cX11_init 499 = .ok (.bipush 17, 2) := by decide +kernel
theorem dX11_init_501 : decode cX11_init 501 = .ok (.iconst (-1), 1) := by decide +kernel
theorem dX11_init_502 : decode cX11_init 502 = .ok (.iastore, 1) := by decide +kernel
theorem dX11_init_503 : decode cX11_init 503 = .ok (.dup, 1) := by decide +kernel
theorem dX11_init_504 : decode cX11_init 504 = .ok (.bipush 18, 2) := by decide +kernel
theorem dX11_init_506 : decode cX11_init 506 = .ok (.iconst (-1), 1) := by decide +kernel
theorem dX11_init_507 : decode cX11_init 507 = .ok (.iastore, 1) := by decide +kernel
theorem dX11_init_508 : decode cX11_init 508 = .ok (.dup, 1) := by decide +kernel
theorem dX11_init_509 : decode cX11_init 509 = .ok (.bipush 19, 2) := by decide +kernel
theorem dX11_init_511 : decode cX11_init 511 = .ok (.iconst (-1), 1) := by decide +kernel
theorem dX11_init_512 : decode cX11_init 512 = .ok (.iastore, 1) := by decide +kernel
theorem dX11_init_513 : decode cX11_init 513 = .ok (.dup, 1) := by decide +kernel
theorem dX11_init_514 : decode cX11_init 514 = .ok (.bipush 20, 2) := by decide +kernel
theorem dX11_init_516 : decode cX11_init 516 = .ok (.iconst (-1), 1) := by decide +kernel
theorem dX11_init_517 : decode cX11_init 517 = .ok (.iastore, 1) := by decide +kernel
theorem dX11_init_518 : decode cX11_init 518 = .ok (.dup, 1) := by decide +kernel
theorem dX11_init_519 : decode cX11_init 519 = .ok (.bipush 21, 2) := by decide +kernel
theorem dX11_init_521 : decode cX11_init 521 = .ok (.iconst (-1), 1) := by decide +kernel
theorem dX11_init_522 : decode cX11_init 522 = .ok (.iastore, 1) := by decide +kernel
theorem dX11_init_523 : decode cX11_init 523 = .ok (.dup, 1) := by decide +kernel
theorem dX11_init_524 : decode cX11_init 524 = .ok (.bipush 22, 2) := by decide +kernel
theorem dX11_init_526 : decode cX11_init 526 = .ok (.iconst (-1), 1) := by decide +kernel
theorem dX11_init_527 : decode cX11_init 527 = .ok (.iastore, 1) := by decide +kernel
theorem dX11_init_528 : decode cX11_init 528 = .ok (.dup, 1) := by decide +kernel
theorem dX11_init_529 : decode cX11_init 529 = .ok (.bipush 23, 2) := by decide +kernel
theorem dX11_init_531 : decode cX11_init 531 = .ok (.iconst (-1), 1) := by decide +kernel
theorem dX11_init_532 : decode cX11_init 532 = .ok (.iastore, 1) := by decide +kernel
theorem dX11_init_533 : decode cX11_init 533 = .ok (.dup, 1) := by decide +kernel
theorem dX11_init_534 : decode cX11_init 534 = .ok (.bipush 24, 2) := by decide +kernel
theorem dX11_init_536 : decode cX11_init 536 = .ok (.iconst (-1), 1) := by decide +kernel
theorem dX11_init_537 : decode cX11_init 537 = .ok (.iastore, 1) := by decide +kernel
theorem dX11_init_538 : decode cX11_init 538 = .ok (.dup, 1) := by decide +kernel
theorem dX11_init_539 : decode cX11_init 539 = .ok (.bipush 25, 2) := by decide +kernel
theorem dX11_init_541 : decode cX11_init 541 = .ok (.iconst (-1), 1) := by decide +kernel
theorem dX11_init_542 : decode cX11_init 542 = .ok (.iastore, 1) := by decide +kernel
theorem dX11_init_543 : decode cX11_init 543 = .ok (.dup, 1) := by decide +kernel
theorem dX11_init_544 : decode cX11_init 544 = .ok (.bipush 26, 2) := by decide +kernel
theorem dX11_init_546 : decode cX11_init 546 = .ok (.iconst (-1), 1) := by decide +kernel
theorem dX11_init_547 : decode cX11_init 547 = .ok (.iastore, 1) := by decide +kernel
theorem dX11_init_548 : decode cX11_init 548 = .ok (.dup, 1) := by decide +kernel
theorem dX11_init_549 : decode cX11_init 549 = .ok (.bipush 27, 2) := by decide +kernel
theorem dX11_init_551 : decode cX11_init 551 = .ok (.iconst (-1), 1) := by decide +kernel
theorem dX11_init_552 : decode cX11_init 552 = .ok (.iastore, 1) := by decide +kernel
theorem dX11_init_553 : decode cX11_init 553 = .ok (.dup, 1) := by decide +kernel
theorem dX11_init_554 : decode cX11_init 554 = .ok (.bipush 28, 2) := by decide +kernel
theorem dX11_init_556 : decode cX11_init 556 = .ok (.iconst (-1), 1) := by decide +kernel
theorem dX11_init_557 : decode cX11_init 557 = .ok (.iastore, 1) := by decide +kernel
theorem dX11_init_558 : decode cX11_init 558 = .ok (.dup, 1) := by decide +kernel
theorem dX11_init_559 : decode cX11_init 559 = .ok (.bipush 29, 2) := by decide +kernel
theorem dX11_init_561 : decode cX11_init 561 = .ok (.iconst (-1), 1) := by decide +kernel
theorem dX11_init_562 : decode cX11_init 562 = .ok (.iastore, 1) := by decide +kernel
theorem dX11_init_563 : decode cX11_init 563 = .ok (.dup, 1) := by decide +kernel
theorem dX11_init_564 : decode cX11_init 564 = .ok (.bipush 30, 2) := by decide +kernel
theorem dX11_init_566 : decode cX11_init 566 = .ok (.iconst (-1), 1) := by decide +kernel
theorem dX11_init_567 : decode cX11_init 567 = .ok (.iastore, 1) := by decide +kernel
theorem dX11_init_568 : decode cX11_init 568 = .ok (.dup, 1) := by decide +kernel
theorem dX11_init_569 : decode cX11_init 569 = .ok (.bipush 31, 2) := by decide +kernel
theorem dX11_init_571 : decode cX11_init 571 = .ok (.iconst (-1), 1) := by decide +kernel
theorem dX11_init_572 : decode cX11_init 572 = .ok (.iastore, 1) := by decide +kernel
theorem dX11_init_573 : decode cX11_init 573 = .ok (.dup, 1) := by decide +kernel
theorem dX11_init_574 : decode cX11_init 574 = .ok (.bipush 32, 2) := by decide +kernel
theorem dX11_init_576 : decode cX11_init 576 = .ok (.iconst (-1), 1) := by decide +kernel
theorem dX11_init_577 : decode cX11_init 577 = .ok (.iastore, 1) := by decide +kernel
theorem dX11_init_578 : decode cX11_init 578 = .ok (.dup, 1) := by decide +kernel
theorem dX11_init_579 : decode cX11_init 579 = .ok (.bipush 33, 2) := by decide +kernel
theorem dX11_init_581 : decode cX11_init 581 = .ok (.iconst (-1), 1) := by decide +kernel
theorem dX11_init_582 : decode cX11_init 582 = .ok (.iastore, 1) := by decide +kernel
theorem dX11_init_583 : decode cX11_init 583 = .ok (.dup, 1) := by decide +kernel
theorem dX11_init_584 : decode cX11_init 584 = .ok (.bipush 34, 2) := by decide +kernel
theorem dX11_init_586 : decode cX11_init 586 = .ok (.iconst (-1), 1) := by decide +kernel
theorem dX11_init_587 : decode cX11_init 587 = .ok (.iastore, 1) := by decide +kernel
theorem dX11_init_588 : decode cX11_init 588 = .ok (.dup, 1) := by decide +kernel
theorem dX11_init_589 : decode cX11_init 589 = .ok (.bipush 35, 2) := by decide +kernel
theorem dX11_init_591 : decode cX11_init 591 = .ok (.iconst (-1), 1) := by decide +kernel
theorem dX11_init_592 : decode cX11_init 592 = .ok (.iastore, 1) := by decide +kernel
theorem dX11_init_593 : decode cX11_init 593 = .ok (.dup, 1) := by decide +kernel
theorem dX11_init_594 : decode cX11_init 594 = .ok (.bipush 36, 2) := by decide +kernel
theorem dX11_init_596 : decode cX11_init 596 = .ok (.iconst (-1), 1) := by decide +kernel
theorem dX11_init_597 : decode cX11_init 597 = .ok (.iastore, 1) := by decide +kernel
theorem dX11_init_598 : decode cX11_init 598 = .ok (.dup, 1) := by decide +kernel
theorem dX11_init_599 : decode cX11_init 599 = .ok (.bipush 37, 2) := by decide +kernel
theorem dX11_init_601 : decode cX11_init 601 = .ok (.iconst (-1), 1) := by decide +kernel
theorem dX11_init_602 : decode cX11_init 602 = .ok (.iastore, 1) := by decide +kernel
theorem dX11_init_603 : decode cX11_init 603 = .ok (.dup, 1) := by decide +kernel
theorem dX11_init_604 : decode cX11_init 604 = .ok (.bipush 38, 2) := by decide +kernel
theorem dX11_init_606 : decode cX11_init 606 = .ok (.iconst (-1), 1) := by decide +kernel
theorem dX11_init_607 : decode cX11_init 607 = .ok (.iastore, 1) := by decide +kernel
theorem dX11_init_608 : decode cX11_init 608 = .ok (.dup, 1) := by decide +kernel
theorem dX11_init_609 : decode cX11_init 609 = .ok (.bipush 39, 2) := by decide +kernel
theorem dX11_init_611 : decode cX11_init 611 = .ok (.iconst (-1), 1) := by decide +kernel
theorem dX11_init_612 : decode cX11_init 612 = .ok (.iastore, 1) := by decide +kernel
theorem dX11_init_613 : decode cX11_init 613 = .ok (.dup, 1) := by decide +kernel
theorem dX11_init_614 : decode cX11_init 614 = .ok (.bipush 40, 2) := by decide +kernel
theorem dX11_init_616 : decode cX11_init 616 = .ok (.iconst (-1), 1) := by decide +kernel
theorem dX11_init_617 : decode cX11_init 617 = .ok (.iastore, 1) := by decide +kernel
theorem dX11_init_618 : decode cX11_init 618 = .ok (.dup, 1) := by decide +kernel
theorem dX11_init_619 : decode cX11_init 619 = .ok (.bipush 41, 2) := by decide +kernel
theorem dX11_init_621 : decode cX11_init 621 = .ok (.iconst (-1), 1) := by decide +kernel
theorem dX11_init_622 : decode cX11_init 622 = .ok (.iastore, 1) := by decide +kernel
theorem dX11_init_623 : decode cX11_init 623 = .ok (.dup, 1) := by decide +kernel
theorem dX11_init_624 : decode cX11_init 624 = .ok (.bipush 42, 2) := by decide +kernel
theorem dX11_init_626 : decode cX11_init 626 = .ok (.iconst (-1), 1) := by decide +kernel
theorem dX11_init_627 : decode cX11_init 627 = .ok (.iastore, 1) := by decide +kernel
theorem dX11_init_628 : decode cX11_init 628 = .ok (.dup, 1) := by decide +kernel
theorem dX11_init_629 : decode cX11_init 629 = .ok (.bipush 43, 2) := by decide +kernel
theorem dX11_init_631 : decode cX11_init 631 = .ok (.iconst (-1), 1) := by decide +kernel
theorem dX11_init_632 : decode cX11_init 632 = .ok (.iastore, 1) := by decide +kernel
theorem dX11_init_633 : decode cX11_init 633 = .ok (.dup, 1) := by decide +kernel
theorem dX11_init_634 : decode cX11_init 634 = .ok (.bipush 44, 2) := by decide +kernel
theorem dX11_init_636 : decode cX11_init 636 = .ok (.iconst (-1), 1) := by decide +kernel
theorem dX11_init_637 : decode cX11_init 637 = .ok (.iastore, 1) := by decide +kernel
theorem dX11_init_638 : decode cX11_init 638 = .ok (.dup, 1) := by decide +kernel
theorem dX11_init_639 : decode cX11_init 639 = .ok (.bipush 45, 2) := by decide +kernel
theorem dX11_init_641 : decode cX11_init 641 = .ok (.iconst (-1), 1) := by decide +kernel
theorem dX11_init_642 : decode cX11_init 642 = .ok (.iastore, 1) := by decide +kernel
theorem dX11_init_643 : decode cX11_init 643 = .ok (.dup, 1) := by decide +kernel
theorem dX11_init_644 : decode cX11_init 644 = .ok (.bipush 46, 2) := by decide +kernel
theorem dX11_init_646 : decode cX11_init 646 = .ok (.iconst (-1), 1) := by decide +kernel
theorem dX11_init_647 : decode cX11_init 647 = .ok (.iastore, 1) := by decide +kernel
theorem dX11_init_648 : decode cX11_init 648 = .ok (.dup, 1) := by decide +kernel
theorem dX11_init_649 : decode cX11_init 649 = .ok (.bipush 47, 2) := by decide +kernel
theorem dX11_init_651 : decode cX11_init 651 = .ok (.iconst (-1), 1) := by decide +kernel
theorem dX11_init_652 : decode cX11_init 652 = .ok (.iastore, 1) := by decide +kernel
theorem dX11_init_653 : decode cX11_init 653 = .ok (.dup, 1) := by decide +kernel
theorem dX11_init_654 : decode cX11_init 654 = .ok (.bipush 48, 2) := by decide +kernel
theorem dX11_init_656 : decode cX11_init 656 = .ok (.iconst (-1), 1) := by decide +kernel
theorem dX11_init_657 : decode cX11_init 657 = .ok (.iastore, 1) := by decide +kernel
theorem dX11_init_658 : decode cX11_init 658 = .ok (.dup, 1) := by decide +kernel
theorem dX11_init_659 : decode cX11_init 659 = .ok (.bipush 49, 2) := by decide +kernel
theorem dX11_init_661 : decode cX11_init 661 = .ok (.iconst (-1), 1) := by decide +kernel
theorem dX11_init_662 : decode cX11_init 662 = .ok (.iastore, 1) := by decide +kernel
theorem dX11_init_663 : decode cX11_init 663 = .ok (.dup, 1) := by decide +kernel
theorem dX11_init_664 : decode cX11_init 664 = .ok (.bipush 50, 2) := by decide +kernel
theorem dX11_init_666 : decode cX11_init 666 = .ok (.iconst (-1), 1) := by decide +kernel
theorem dX11_init_667 : decode cX11_init 667 = .ok (.iastore, 1) := by decide +kernel
theorem dX11_init_668 : decode cX11_init 668 = .ok (.dup, 1) := by decide +kernel
theorem dX11_init_669 : decode cX11_init 669 = .ok (.bipush 51, 2) := by decide +kernel
theorem dX11_init_671 : decode cX11_init 671 = .ok (.iconst (-1), 1) := by decide +kernel
theorem dX11_init_672 : decode cX11_init 672 = .ok (.iastore, 1) := by decide +kernel
theorem dX11_init_673 : decode cX11_init 673 = .ok (.dup, 1) := by decide +kernel
theorem dX11_init_674 : decode cX11_init 674 = .ok (.bipush 52, 2) := by decide +kernel
theorem dX11_init_676 : decode cX11_init 676 = .ok (.iconst (-1), 1) := by decide +kernel
theorem dX11_init_677 : decode cX11_init 677 = .ok (.iastore, 1) := by decide +kernel
theorem dX11_init_678 : decode cX11_init 678 = .ok (.dup, 1) := by decide +kernel
theorem dX11_init_679 : decode cX11_init 679 = .ok (.bipush 53, 2) := by decide +kernel
theorem dX11_init_681 : decode cX11_init 681 = .ok (.iconst (-1), 1) := by decide +kernel
theorem dX11_init_682 : decode cX11_init 682 = .ok (.iastore, 1) := by decide +kernel
theorem dX11_init_683 : decode cX11_init 683 = .ok (.dup, 1) := by decide +kernel
theorem dX11_init_684 : decode cX11_init 684 = .ok (.bipush 54, 2) := by decide +kernel
theorem dX11_init_686 : decode cX11_init 686 = .ok (.iconst (-1), 1) := by decide +kernel
theorem dX11_init_687 : decode cX11_init 687 = .ok (.iastore, 1) := by decide +kernel
theorem dX11_init_688 : decode cX11_init 688 = .ok (.dup, 1) := by decide +kernel
theorem dX11_init_689 : decode cX11_init 689 = .ok (.bipush 55, 2) := by decide +kernel
theorem dX11_init_691 : decode cX11_init 691 = .ok (.iconst (-1), 1) := by decide +kernel
theorem dX11_init_692 : decode cX11_init 692 = .ok (.iastore, 1) := by decide +kernel
theorem dX11_init_693 : decode cX11_init 693 = .ok (.dup, 1) := by decide +kernel
theorem dX11_init_694 : decode cX11_init 694 = .ok (.bipush 56, 2) := by decide +kernel
theorem dX11_init_696 : decode cX11_init 696 = .ok (.iconst (-1), 1) := by decide +kernel
theorem dX11_init_697 : decode cX11_init 697 = .ok (.iastore, 1) := by decide +kernel
theorem dX11_init_698 : decode cX11_init 698 = .ok (.dup, 1) := by decide +kernel
theorem dX11_init_699 : decode cX11_init 699 = .ok (.bipush 57, 2) := by decide +kernel
theorem dX11_init_701 : decode cX11_init 701 = .ok (.iconst (-1), 1) := by decide +kernel
theorem dX11_init_702 : decode cX11_init 702 = .ok (.iastore, 1) := by decide +kernel
theorem dX11_init_703 : decode cX11_init 703 = .ok (.dup, 1) := by decide +kernel
theorem dX11_init_704 : decode cX11_init 704 = .ok (.bipush 58, 2) := by decide +kernel
theorem dX11_init_706 : decode cX11_init 706 = .ok (.iconst (-1), 1) := by decide +kernel
theorem dX11_init_707 : decode cX11_init 707 = .ok (.iastore, 1) := by decide +kernel
theorem dX11_init_708 : decode cX11_init 708 = .ok (.dup, 1) := by decide +kernel
theorem dX11_init_709 : decode cX11_init 709 = .ok (.bipush 59, 2) := by decide +kernel
theorem dX11_init_711 : decode cX11_init 711 = .ok (.iconst (-1), 1) := by decide +kernel
theorem dX11_init_712 : decode cX11_init 712 = .ok (.iastore, 1) := by decide +kernel
theorem dX11_init_713 : decode cX11_init 713 = .ok (.dup, 1) := by decide +kernel
theorem dX11_init_714 : decode cX11_init 714 = .ok (.bipush 60, 2) := by decide +kernel
theorem dX11_init_716 : decode cX11_init 716 = .ok (.iconst (-1), 1) := by decide +kernel
theorem dX11_init_717 : decode cX11_init 717 = .ok (.iastore, 1) := by decide +kernel
theorem dX11_init_718 : decode cX11_init 718 = .ok (.dup, 1) := by decide +kernel
theorem dX11_init_719 : decode cX11_init 719 = .ok (.bipush 61, 2) := by decide +kernel
theorem dX11_init_721 : decode cX11_init 721 = .ok (.iconst (-1), 1) := by decide +kernel
theorem dX11_init_722 : decode cX11_init 722 = .ok (.iastore, 1) := by decide +kernel
theorem dX11_init_723 : decode cX11_init 723 = .ok (.dup, 1) := by decide +kernel
theorem dX11_init_724 : decode cX11_init 724 = .ok (.bipush 62, 2) := by decide +kernel
theorem dX11_init_726 : decode cX11_init 726 = .ok (.iconst (-1), 1) := by decide +kernel
theorem dX11_init_727 : decode cX11_init 727 = .ok (.iastore, 1) := by decide +kernel
theorem dX11_init_728 : decode cX11_init 728 = .ok (.dup, 1) := by decide +kernel
theorem dX11_init_729 : decode cX11_init 729 = .ok (.bipush 63, 2) := by decide +kernel
theorem dX11_init_731 : decode cX11_init 731 = .ok (.iconst (-1), 1) := by decide +kernel
theorem dX11_init_732 : decode cX11_init 732 = .ok (.iastore, 1) := by decide +kernel
theorem dX11_init_733 : decode cX11_init 733 = .ok (.putfield 72, 3) := by decide +kernel
theorem dX11_init_736 : decode cX11_init 736 = .ok (.aload_n 0, 1) := by decide +kernel
theorem dX11_init_737 : decode cX11_init 737 = .ok (.bipush 64, 2) := by decide +kernel
theorem dX11_init_739 : decode cX11_init 739 = .ok (.newarray .int, 2) := by decide +kernel
theorem dX11_init_741 : decode cX11_init 741 = .ok (.putfield 75, 3) := by decide +kernel
theorem dX11_init_744 : decode cX11_init 744 = .ok (.aload_n 0, 1) := by decide +kernel
theorem dX11_init_745 : decode cX11_init 745 = .ok (.bipush 64, 2) := by decide +kernel
theorem dX11_init_747 : decode cX11_init 747 = .ok (.newarray .int, 2) := by decide +kernel
theorem dX11_init_749 : decode cX11_init 749 = .ok (.putfield 78, 3) := by decide +kernel
theorem dX11_init_752 : decode cX11_init 752 = .ok (.aload_n 0, 1) := by decide +kernel
theorem dX11_init_753 : decode cX11_init 753 = .ok (.bipush 64, 2) := by decide +kernel
theorem dX11_init_755 : decode cX11_init 755 = .ok (.newarray .int, 2) := by decide +kernel
theorem dX11_init_757 : decode cX11_init 757 = .ok (.putfield 81, 3) := by decide +kernel
theorem dX11_init_760 : decode cX11_init 760 = .ok (.aload_n 0, 1) := by decide +kernel
theorem dX11_init_761 : decode cX11_init 761 = .ok (.iconst 4, 1) := by decide +kernel
theorem dX11_init_762 : decode cX11_init 762 = .ok (.newarray .int, 2) := by decide +kernel
theorem dX11_init_764 : decode cX11_init 764 = .ok (.dup, 1) := by decide +kernel
theorem dX11_init_765 : decode cX11_init 765 = .ok (.iconst 0, 1) := by decide +kernel
theorem dX11_init_766 : decode cX11_init 766 = .ok (.bipush (-4), 2) := by decide +kernel
theorem dX11_init_768 : decode cX11_init 768 = .ok (.iastore, 1) := by decide +kernel
theorem dX11_init_769 : decode cX11_init 769 = .ok (.dup, 1) := by decide +kernel
theorem dX11_init_770 : decode cX11_init 770 = .ok (.iconst 1, 1) := by decide +kernel
theorem dX11_init_771 : decode cX11_init 771 = .ok (.bipush (-4), 2) := by decide +kernel
theorem dX11_init_773 : decode cX11_init 773 = .ok (.iastore, 1) := by decide +kernel
theorem dX11_init_774 : decode cX11_init 774 = .ok (.dup, 1) := by decide +kernel
theorem dX11_init_775 : decode cX11_init 775 = .ok (.iconst 2, 1) := by decide +kernel
theorem dX11_init_776 : decode cX11_init 776 = .ok (.bipush (-4), 2) := by decide +kernel
theorem dX11_init_778 : decode cX11_init 778 = .ok (.iastore, 1) := by decide +kernel
theorem dX11_init_779 : decode cX11_init 779 = .ok (.dup, 1) := by decide +kernel
theorem dX11_init_780 : decode cX11_init 780 = .ok (.iconst 3, 1) := by decide +kernel
theorem dX11_init_781 : decode cX11_init 781 = .ok (.bipush (-4), 2) := by decide +kernel
theorem dX11_init_783 : decode cX11_init 783 = .ok (.iastore, 1) := by decide +kernel
theorem dX11_init_784 : decode cX11_init 784 = .ok (.putfield 84, 3) := by decide +kernel
theorem dX11_init_787 : decode cX11_init 787 = .ok (.aload_n 0, 1) := by decide +kernel
theorem dX11_init_788 : decode cX11_init 788 = .ok (.iconst 4, 1) := by decide +kernel
theorem dX11_init_789 : decode cX11_init 789 = .ok (.newarray .int, 2) := by decide +kernel
theorem dX11_init_791 : decode cX11_init 791 = .ok (.putfield 87, 3) := by decide +kernel
theorem dX11_init_794 : decode cX11_init 794 = .ok (.aload_n 0, 1) := by decide +kernel
theorem dX11_init_795 : decode cX11_init 795 = .ok (.sipush 256, 3) := by decide +kernel
theorem dX11_init_798 : decode cX11_init 798 = .ok (.newarray .int, 2) := by decide +kernel
theorem dX11_init_800 : decode cX11_init 800 = .ok (.putfield 90, 3) := by decide +kernel
theorem dX11_init_803 : decode cX11_init 803 = .ok (.return_, 1) := by decide +kernel
theorem dX11_in_0 : decode cX11_in 0 = .ok (.lload_n 0, 1) := by decide +kernel
theorem dX11_in_1 : decode cX11_in 1 = .ok (.lload_n 2, 1) := by decide +kernel
theorem dX11_in_2 : decode cX11_in 2 = .ok (.lcmp, 1) := by decide +kernel
theorem dX11_in_3 : decode cX11_in 3 = .ok (.ifCond .lt 14, 3) := by decide +kernel
theorem dX11_in_6 : decode cX11_in 6 = .ok (.lload_n 0, 1) := by decide +kernel
theorem dX11_in_7 : decode cX11_in 7 = .ok (.lload 4, 2) := by decide +kernel
theorem dX11_in_9 : decode cX11_in 9 = .ok (.lcmp, 1) := by decide +kernel
theorem dX11_in_10 : decode cX11_in 10 = .ok (.ifCond .gt 7, 3) := by decide +kernel
theorem dX11_in_13 : decode cX11_in 13 = .ok (.iconst 1, 1) := by decide +kernel
theorem dX11_in_14 : decode cX11_in 14 = .ok (.goto 4, 3) := by decide +kernel
theorem dX11_in_17 : decode cX11_in 17 = .ok (.iconst 0, 1) := by decide +kernel
theorem dX11_in_18 : decode cX11_in 18 = .ok (.ireturn, 1) := by decide +kernel
theorem dX11_feed_0 : decode cX11_feed 0 = .ok (.aload_n 0, 1) := by decide +kernel
theorem dX11_feed_1 : decode cX11_feed 1 = .ok (.getfield 93, 3) := by decide +kernel
theorem dX11_feed_4 : decode cX11_feed 4 = .ok (.bipush 8, 2) := by decide +kernel
theorem dX11_feed_6 : decode cX11_feed 6 = .ok (.iadd, 1) := by decide +kernel
theorem dX11_feed_7 : decode cX11_feed 7 = .ok (.sipush 400, 3) := by decide +kernel
theorem dX11_feed_10 : decode cX11_feed 10 = .ok (.if_icmp .le 6, 3) := by decide +kernel
theorem dX11_feed_13 : decode cX11_feed 13 = .ok (.bipush (-3), 2) := by decide +kernel
theorem dX11_feed_15 : decode cX11_feed 15 = .ok (.ireturn, 1) := by decide +kernel
theorem dX11_feed_16 : decode cX11_feed 16 = .ok (.bipush 56, 2) := by decide +kernel
theorem dX11_feed_18 : decode cX11_feed 18 = .ok (.istore_n 3, 1) := by decide +kernel
theorem dX11_feed_19 : decode cX11_feed 19 = .ok (.iload_n 3, 1) := by decide +kernel
theorem dX11_feed_20 : decode cX11_feed 20 = .ok (.ifCond .lt 36, 3) := by decide +kernel
theorem dX11_feed_23 : decode cX11_feed 23 = .ok (.aload_n 0, 1) := by decide +kernel
theorem dX11_feed_24 : decode cX11_feed 24 = .ok (.getfield 7, 3) := by decide +kernel
theorem dX11_feed_27 : decode cX11_feed 27 = .ok (.aload_n 0, 1) := by decide +kernel
theorem dX11_feed_28 : decode cX11_feed 28 = .ok (.getfield 93, 3) := by decide +kernel
theorem dX11_feed_31 : decode cX11_feed 31 = .ok (.lload_n 1, 1) := by decide +kernel
theorem dX11_feed_32 : decode cX11_feed 32 = .ok (.iload_n 3, 1) := by decide +kernel
theorem dX11_feed_33 : decode cX11_feed 33 = .ok (.lshr, 1) := by decide +kernel
theorem dX11_feed_34 : decode cX11_feed 34 = .ok (.l2i, 1) := by decide +kernel
theorem dX11_feed_35 : decode cX11_feed 35 = .ok (.sipush 255, 3) := by decide +kernel
theorem dX11_feed_38 : decode cX11_feed 38 = .ok (.iand, 1) := by decide +kernel
theorem dX11_feed_39 : decode cX11_feed 39 = .ok (.iastore, 1) := by decide +kernel
theorem dX11_feed_40 : decode cX11_feed 40 = .ok (.aload_n 0, 1) := by decide +kernel
theorem dX11_feed_41 : decode cX11_feed 41 = .ok (.dup, 1) := by decide +kernel
theorem dX11_feed_42 : decode cX11_feed 42 = .ok (.getfield 93, 3) := by decide +kernel
theorem dX11_feed_45 : decode cX11_feed 45 = .ok (.iconst 1, 1) := by decide +kernel
theorem dX11_feed_46 : decode cX11_feed 46 = .ok (.iadd, 1) := by decide +kernel
theorem dX11_feed_47 : decode cX11_feed 47 = .ok (.putfield 93, 3) := by decide +kernel
theorem dX11_feed_50 : decode cX11_feed 50 = .ok (.iinc 3 (-8), 3) := by decide +kernel
theorem dX11_feed_53 : decode cX11_feed 53 = .ok (.goto (-34), 3) := by decide +kernel
theorem dX11_feed_56 : decode cX11_feed 56 = .ok (.aload_n 0, 1) := by decide +kernel
theorem dX11_feed_57 : decode cX11_feed 57 = .ok (.getfield 93, 3) := by decide +kernel
theorem dX11_feed_60 : decode cX11_feed 60 = .ok (.ireturn, 1) := by decide +kernel
theorem dX11_end_0 : decode cX11_end 0 = .ok (.iload_n 1, 1) := by decide +kernel
theorem dX11_end_1 : decode cX11_end 1 = .ok (.i2l, 1) := by decide +kernel
theorem dX11_end_2 : decode cX11_end 2 = .ok (.lconst 0, 1) := by decide +kernel
theorem dX11_end_3 : decode cX11_end 3 = .ok (.aload_n 0, 1) := by decide +kernel
theorem dX11_end_4 : decode cX11_end 4 = .ok (.getfield 93, 3) := by decide +kernel
theorem dX11_end_7 : decode cX11_end 7 = .ok (.i2l, 1) := by decide +kernel
theorem dX11_end_8 : decode cX11_end 8 = .ok (.invokestatic 96, 3) := by decide +kernel
theorem dX11_end_11 : decode cX11_end 11 = .ok (.ifCond .ne 5, 3) := by decide +kernel
theorem dX11_end_14 : decode cX11_end 14 = .ok (.iconst (-1), 1) := by decide +kernel
theorem dX11_end_15 : decode cX11_end 15 = .ok (.ireturn, 1) := by decide +kernel
theorem dX11_end_16 : decode cX11_end 16 = .ok (.aload_n 0, 1) := by decide +kernel
theorem dX11_end_17 : decode cX11_end 17 = .ok (.getfield 93, 3) := by decide +kernel
theorem dX11_end_20 : decode cX11_end 20 = .ok (.istore_n 2, 1) := by decide +kernel
theorem dX11_end_21 : decode cX11_end 21 = .ok (.aload_n 0, 1) := by decide +kernel
theorem dX11_end_22 : decode cX11_end 22 = .ok (.iload_n 1, 1) := by decide +kernel
theorem dX11_end_23 : decode cX11_end 23 = .ok (.putfield 93, 3) := by decide +kernel
theorem dX11_end_26 : decode cX11_end 26 = .ok (.iload_n 2, 1) := by decide +kernel
theorem dX11_end_27 : decode cX11_end 27 = .ok (.ireturn, 1) := by decide +kernel
theorem dX11_byteAt_0 : decode cX11_byteAt 0 = .ok (.iload_n 1, 1) := by decide +kernel
theorem dX11_byteAt_1 : decode cX11_byteAt 1 = .ok (.aload_n 0, 1) := by decide +kernel
theorem dX11_byteAt_2 : decode cX11_byteAt 2 = .ok (.getfield 93, 3) := by decide +kernel
theorem dX11_byteAt_5 : decode cX11_byteAt 5 = .ok (.if_icmp .ge 12, 3) := by decide +kernel
theorem dX11_byteAt_8 : decode cX11_byteAt 8 = .ok (.aload_n 0, 1) := by decide +kernel
theorem dX11_byteAt_9 : decode cX11_byteAt 9 = .ok (.getfield 7, 3) := by decide +kernel
theorem dX11_byteAt_12 : decode cX11_byteAt 12 = .ok (.iload_n 1, 1) := by decide +kernel
theorem dX11_byteAt_13 : decode cX11_byteAt 13 = .ok (.iaload, 1) := by decide +kernel
theorem dX11_byteAt_14 : decode cX11_byteAt 14 = .ok (.goto 5, 3) := by decide +kernel
theorem dX11_byteAt_17 : decode cX11_byteAt 17 = .ok (.bipush (-4), 2) := by decide +kernel
theorem dX11_byteAt_19 : decode cX11_byteAt 19 = .ok (.ireturn, 1) := by decide +kernel
theorem dX11_fails_0 : decode cX11_fails 0 = .ok (.aload_n 0, 1) := by decide +kernel
theorem dX11_fails_1 : decode cX11_fails 1 = .ok (.getfield 100, 3) := by decide +kernel
theorem dX11_fails_4 : decode cX11_fails 4 = .ok (.ifCond .ne 16, 3) := by decide +kernel
theorem dX11_fails_7 : decode cX11_fails 7 = .ok (.aload_n 0, 1) := by decide +kernel
theorem dX11_fails_8 : decode cX11_fails 8 = .ok (.iload_n 1, 1) := by decide +kernel
theorem dX11_fails_9 : decode cX11_fails 9 = .ok (.putfield 100, 3) := by decide +kernel
theorem dX11_fails_12 : decode cX11_fails 12 = .ok (.aload_n 0, 1) := by decide +kernel
theorem dX11_fails_13 : decode cX11_fails 13 = .ok (.aload_n 0, 1) := by decide +kernel
theorem dX11_fails_14 : decode cX11_fails 14 = .ok (.getfield 103, 3) := by decide +kernel
theorem dX11_fails_17 : decode cX11_fails 17 = .ok (.putfield 106, 3) := by decide +kernel
theorem dX11_fails_20 : decode cX11_fails 20 = .ok (.return_, 1) := by decide +kernel
theorem dX11_lineName_0 : decode cX11_lineName 0 = .ok (.iconst 0, 1) := by decide +kernel
theorem dX11_lineName_1 : decode cX11_lineName 1 = .ok (.istore_n 1, 1) := by decide +kernel
theorem dX11_lineName_2 : decode cX11_lineName 2 = .ok (.iload_n 1, 1) := by decide +kernel
theorem dX11_lineName_3 : decode cX11_lineName 3 = .ok (.bipush 6, 2) := by decide +kernel
theorem dX11_lineName_5 : decode cX11_lineName 5 = .ok (.if_icmp .ge 105, 3) := by decide +kernel
theorem dX11_lineName_8 : decode cX11_lineName 8 = .ok (.aload_n 0, 1) := by decide +kernel
theorem dX11_lineName_9 : decode cX11_lineName 9 = .ok (.getfield 109, 3) := by decide +kernel
theorem dX11_lineName_12 : decode cX11_lineName 12 = .ok (.aload_n 0, 1) := by decide +kernel
theorem dX11_lineName_13 : decode cX11_lineName 13 = .ok (.getfield 103, 3) := by decide +kernel
theorem dX11_lineName_16 : decode cX11_lineName 16 = .ok (.isub, 1) := by decide +kernel
theorem dX11_lineName_17 : decode cX11_lineName 17 = .ok (.aload_n 0, 1) := by decide +kernel
theorem dX11_lineName_18 : decode cX11_lineName 18 = .ok (.getfield 13, 3) := by decide +kernel
theorem dX11_lineName_21 : decode cX11_lineName 21 = .ok (.iload_n 1, 1) := by decide +kernel
theorem dX11_lineName_22 : decode cX11_lineName 22 = .ok (.iconst 1, 1) := by decide +kernel
theorem dX11_lineName_23 : decode cX11_lineName 23 = .ok (.iadd, 1) := by decide +kernel
theorem dX11_lineName_24 : decode cX11_lineName 24 = .ok (.iaload, 1) := by decide +kernel
theorem dX11_lineName_25 : decode cX11_lineName 25 = .ok (.aload_n 0, 1) := by decide +kernel
theorem dX11_lineName_26 : decode cX11_lineName 26 = .ok (.getfield 13, 3) := by decide +kernel
theorem dX11_lineName_29 : decode cX11_lineName 29 = .ok (.iload_n 1, 1) := by decide +kernel
theorem dX11_lineName_30 : decode cX11_lineName 30 = .ok (.iaload, 1) := by decide +kernel
theorem dX11_lineName_31 : decode cX11_lineName 31 = .ok (.isub, 1) := by decide +kernel
theorem dX11_lineName_32 : decode cX11_lineName 32 = .ok (.if_icmp .ne 7, 3) := by decide +kernel
theorem dX11_lineName_35 : decode cX11_lineName 35 = .ok (.iconst 1, 1) := by decide +kernel
theorem dX11_lineName_36 : decode cX11_lineName 36 = .ok (.goto 4, 3) := by decide +kernel
theorem dX11_lineName_39 : decode cX11_lineName 39 = .ok (.iconst 0, 1) := by decide +kernel
theorem dX11_lineName_40 : decode cX11_lineName 40 = .ok (.istore_n 2, 1) := by decide +kernel
theorem dX11_lineName_41 : decode cX11_lineName 41 = .ok (.iconst 0, 1) := by decide +kernel
theorem dX11_lineName_42 : decode cX11_lineName 42 = .ok (.istore_n 3, 1) := by decide +kernel
theorem dX11_lineName_43 : decode cX11_lineName 43 = .ok (.iload_n 2, 1) := by decide +kernel
theorem dX11_lineName_44 : decode cX11_lineName 44 = .ok (.ifCond .eq 54, 3) := by decide +kernel
theorem dX11_lineName_47 : decode cX11_lineName 47 = .ok (.iload_n 3, 1) := by decide +kernel
theorem dX11_lineName_48 : decode cX11_lineName 48 = .ok (.aload_n 0, 1) := by decide +kernel
theorem dX11_lineName_49 : decode cX11_lineName 49 = .ok (.getfield 109, 3) := by decide +kernel
theorem dX11_lineName_52 : decode cX11_lineName 52 = .ok (.aload_n 0, 1) := by decide +kernel
theorem dX11_lineName_53 : decode cX11_lineName 53 = .ok (.getfield 103, 3) := by decide +kernel
theorem dX11_lineName_56 : decode cX11_lineName 56 = .ok (.isub, 1) := by decide +kernel
theorem dX11_lineName_57 : decode cX11_lineName 57 = .ok (.if_icmp .ge 41, 3) := by decide +kernel
theorem dX11_lineName_60 : decode cX11_lineName 60 = .ok (.aload_n 0, 1) := by decide +kernel
theorem dX11_lineName_61 : decode cX11_lineName 61 = .ok (.aload_n 0, 1) := by decide +kernel
theorem dX11_lineName_62 : decode cX11_lineName 62 = .ok (.getfield 103, 3) := by decide +kernel
theorem dX11_lineName_65 : decode cX11_lineName 65 = .ok (.iload_n 3, 1) := by decide +kernel
theorem dX11_lineName_66 : decode cX11_lineName 66 = .ok (.iadd, 1) := by decide +kernel
theorem dX11_lineName_67 : decode cX11_lineName 67 = .ok (.invokevirtual 112, 3) := by decide +kernel
theorem dX11_lineName_70 : decode cX11_lineName 70 = .ok (.aload_n 0, 1) := by decide +kernel
theorem dX11_lineName_71 : decode cX11_lineName 71 = .ok (.getfield 16, 3) := by decide +kernel
theorem dX11_lineName_74 : decode cX11_lineName 74 = .ok (.aload_n 0, 1) := by decide +kernel
theorem dX11_lineName_75 : decode cX11_lineName 75 = .ok (.getfield 13, 3) := by decide +kernel
theorem dX11_lineName_78 : decode cX11_lineName 78 = .ok (.iload_n 1, 1) := by decide +kernel
theorem dX11_lineName_79 : decode cX11_lineName 79 = .ok (.iaload, 1) := by decide +kernel
theorem dX11_lineName_80 : decode cX11_lineName 80 = .ok (.iload_n 3, 1) := by decide +kernel
theorem dX11_lineName_81 : decode cX11_lineName 81 = .ok (.iadd, 1) := by decide +kernel
theorem dX11_lineName_82 : decode cX11_lineName 82 = .ok (.iaload, 1) := by decide +kernel
theorem dX11_lineName_83 : decode cX11_lineName 83 = .ok (.if_icmp .ne 7, 3) := by decide +kernel
theorem dX11_lineName_86 : decode cX11_lineName 86 = .ok (.iconst 1, 1) := by decide +kernel
theorem dX11_lineName_87 : decode cX11_lineName 87 = .ok (.goto 4, 3) := by decide +kernel
theorem dX11_lineName_90 : decode cX11_lineName 90 = .ok (.iconst 0, 1) := by decide +kernel
theorem dX11_lineName_91 : decode cX11_lineName 91 = .ok (.istore_n 2, 1) := by decide +kernel
theorem dX11_lineName_92 : decode cX11_lineName 92 = .ok (.iinc 3 1, 3) := by decide +kernel
theorem dX11_lineName_95 : decode cX11_lineName 95 = .ok (.goto (-52), 3) := by decide +kernel
theorem dX11_lineName_98 : decode cX11_lineName 98 = .ok (.iload_n 2, 1) := by decide +kernel
theorem dX11_lineName_99 : decode cX11_lineName 99 = .ok (.ifCond .eq 5, 3) := by decide +kernel
theorem dX11_lineName_102 : decode cX11_lineName 102 = .ok (.iload_n 1, 1) := by decide +kernel
theorem dX11_lineName_103 : decode cX11_lineName 103 = .ok (.ireturn, 1) := by decide +kernel
theorem dX11_lineName_104 : decode cX11_lineName 104 = .ok (.iinc 1 1, 3) := by decide +kernel
theorem dX11_lineName_107 : decode cX11_lineName 107 = .ok (.goto (-105), 3) := by decide +kernel
theorem dX11_lineName_110 : decode cX11_lineName 110 = .ok (.bipush (-4), 2) := by decide +kernel
theorem dX11_lineName_112 : decode cX11_lineName 112 = .ok (.ireturn, 1) := by decide +kernel
theorem dX11_next_0 : decode cX11_next 0 = .ok (.aload_n 0, 1) := by decide +kernel
theorem dX11_next_1 : decode cX11_next 1 = .ok (.getfield 100, 3) := by decide +kernel
theorem dX11_next_4 : decode cX11_next 4 = .ok (.ifCond .le 4, 3) := by decide +kernel
theorem dX11_next_7 : decode cX11_next 7 = .ok (.return_, 1) := by decide +kernel
theorem dX11_next_8 : decode cX11_next 8 = .ok (.aload_n 0, 1) := by decide +kernel
theorem dX11_next_9 : decode cX11_next 9 = .ok (.aload_n 0, 1) := by decide +kernel
theorem dX11_next_10 : decode cX11_next 10 = .ok (.getfield 109, 3) := by decide +kernel
theorem dX11_next_13 : decode cX11_next 13 = .ok (.invokevirtual 112, 3) := by decide +kernel
theorem dX11_next_16 : decode cX11_next 16 = .ok (.bipush 32, 2) := by decide +kernel
theorem dX11_next_18 : decode cX11_next 18 = .ok (.if_icmp .ne 16, 3) := by decide +kernel
theorem dX11_next_21 : decode cX11_next 21 = .ok (.aload_n 0, 1) := by decide +kernel
theorem dX11_next_22 : decode cX11_next 22 = .ok (.dup, 1) := by decide +kernel
theorem dX11_next_23 : decode cX11_next 23 = .ok (.getfield 109, 3) := by decide +kernel
theorem dX11_next_26 : decode cX11_next 26 = .ok (.iconst 1, 1) := by decide +kernel
theorem dX11_next_27 : decode cX11_next 27 = .ok (.iadd, 1) := by decide +kernel
theorem dX11_next_28 : decode cX11_next 28 = .ok (.putfield 109, 3) := by decide +kernel
theorem dX11_next_31 : decode cX11_next 31 = .ok (.goto (-23), 3) := by decide +kernel
theorem dX11_next_34 : decode cX11_next 34 = .ok (.aload_n 0, 1) := by decide +kernel
theorem dX11_next_35 : decode cX11_next 35 = .ok (.aload_n 0, 1) := by decide +kernel
theorem dX11_next_36 : decode cX11_next 36 = .ok (.getfield 109, 3) := by decide +kernel
theorem dX11_next_39 : decode cX11_next 39 = .ok (.putfield 103, 3) := by decide +kernel
theorem dX11_next_42 : decode cX11_next 42 = .ok (.aload_n 0, 1) := by decide +kernel
theorem dX11_next_43 : decode cX11_next 43 = .ok (.aload_n 0, 1) := by decide +kernel
theorem dX11_next_44 : decode cX11_next 44 = .ok (.getfield 109, 3) := by decide +kernel
theorem dX11_next_47 : decode cX11_next 47 = .ok (.invokevirtual 112, 3) := by decide +kernel
theorem dX11_next_50 : decode cX11_next 50 = .ok (.istore_n 1, 1) := by decide +kernel
theorem dX11_next_51 : decode cX11_next 51 = .ok (.aload_n 0, 1) := by decide +kernel
theorem dX11_next_52 : decode cX11_next 52 = .ok (.iconst 0, 1) := by decide +kernel
theorem dX11_next_53 : decode cX11_next 53 = .ok (.putfield 116, 3) := by decide +kernel
theorem dX11_next_56 : decode cX11_next 56 = .ok (.iload_n 1, 1) := by decide +kernel
theorem dX11_next_57 : decode cX11_next 57 = .ok (.bipush (-4), 2) := by decide +kernel
theorem dX11_next_59 : decode cX11_next 59 = .ok (.if_icmp .ne 11, 3) := by decide +kernel
theorem dX11_next_62 : decode cX11_next 62 = .ok (.aload_n 0, 1) := by decide +kernel
theorem dX11_next_63 : decode cX11_next 63 = .ok (.iconst 0, 1) := by decide +kernel
theorem dX11_next_64 : decode cX11_next 64 = .ok (.putfield 119, 3) := by decide +kernel
theorem dX11_next_67 : decode cX11_next 67 = .ok (.goto 202, 3) := by decide +kernel
theorem dX11_next_70 : decode cX11_next 70 = .ok (.iload_n 1, 1) := by decide +kernel
theorem dX11_next_71 : decode cX11_next 71 = .ok (.i2l, 1) := by decide +kernel
theorem dX11_next_72 : decode cX11_next 72 = .ok (.ldc2_w 122, 3) := by decide +kernel
theorem dX11_next_75 : decode cX11_next 75 = .ok (.ldc2_w 124, 3) := by decide +kernel
theorem dX11_next_78 : decode cX11_next 78 = .ok (.invokestatic 96, 3) := by decide +kernel
theorem dX11_next_81 : decode cX11_next 81 = .ok (.ifCond .eq 45, 3) := by decide +kernel
theorem dX11_next_84 : decode cX11_next 84 = .ok (.aload_n 0, 1) := by decide +kernel
theorem dX11_next_85 : decode cX11_next 85 = .ok (.aload_n 0, 1) := by decide +kernel
theorem dX11_next_86 : decode cX11_next 86 = .ok (.getfield 109, 3) := by decide +kernel
theorem dX11_next_89 : decode cX11_next 89 = .ok (.invokevirtual 112, 3) := by decide +kernel
theorem dX11_next_92 : decode cX11_next 92 = .ok (.i2l, 1) := by decide +kernel
theorem dX11_next_93 : decode cX11_next 93 = .ok (.ldc2_w 122, 3) := by decide +kernel
theorem dX11_next_96 : decode cX11_next 96 = .ok (.ldc2_w 124, 3) := by decide +kernel
theorem dX11_next_99 : decode cX11_next 99 = .ok (.invokestatic 96, 3) := by decide +kernel
theorem dX11_next_102 : decode cX11_next 102 = .ok (.ifCond .eq 16, 3) := by decide +kernel
theorem dX11_next_105 : decode cX11_next 105 = .ok (.aload_n 0, 1) := by decide +kernel
theorem dX11_next_106 : decode cX11_next 106 = .ok (.dup, 1) := by decide +kernel
theorem dX11_next_107 : decode cX11_next 107 = .ok (.getfield 109, 3) := by decide +kernel
theorem dX11_next_110 : decode cX11_next 110 = .ok (.iconst 1, 1) := by decide +kernel
theorem dX11_next_111 : decode cX11_next 111 = .ok (.iadd, 1) := by decide +kernel
theorem dX11_next_112 : decode cX11_next 112 = .ok (.putfield 109, 3) := by decide +kernel
theorem dX11_next_115 : decode cX11_next 115 = .ok (.goto (-31), 3) := by decide +kernel
theorem dX11_next_118 : decode cX11_next 118 = .ok (.aload_n 0, 1) := by decide +kernel
theorem dX11_next_119 : decode cX11_next 119 = .ok (.iconst 1, 1) := by decide +kernel
theorem dX11_next_120 : decode cX11_next 120 = .ok (.putfield 119, 3) := by decide +kernel
theorem dX11_next_123 : decode cX11_next 123 = .ok (.goto 146, 3) := by decide +kernel
theorem dX11_next_126 : decode cX11_next 126 = .ok (.iload_n 1, 1) := by decide +kernel
theorem dX11_next_127 : decode cX11_next 127 = .ok (.i2l, 1) := by decide +kernel
theorem dX11_next_128 : decode cX11_next 128 = .ok (.ldc2_w 126, 3) := by decide +kernel
theorem dX11_next_131 : decode cX11_next 131 = .ok (.ldc2_w 128, 3) := by decide +kernel
theorem dX11_next_134 : decode cX11_next 134 = .ok (.invokestatic 96, 3) := by decide +kernel
theorem dX11_next_137 : decode cX11_next 137 = .ok (.ifCond .eq 106, 3) := by decide +kernel
theorem dX11_next_140 : decode cX11_next 140 = .ok (.aload_n 0, 1) := by decide +kernel
theorem dX11_next_141 : decode cX11_next 141 = .ok (.aload_n 0, 1) := by decide +kernel
theorem dX11_next_142 : decode cX11_next 142 = .ok (.getfield 109, 3) := by decide +kernel
theorem dX11_next_145 : decode cX11_next 145 = .ok (.invokevirtual 112, 3) := by decide +kernel
theorem dX11_next_148 : decode cX11_next 148 = .ok (.i2l, 1) := by decide +kernel
theorem dX11_next_149 : decode cX11_next 149 = .ok (.ldc2_w 126, 3) := by decide +kernel
theorem dX11_next_152 : decode cX11_next 152 = .ok (.ldc2_w 128, 3) := by decide +kernel
theorem dX11_next_155 : decode cX11_next 155 = .ok (.invokestatic 96, 3) := by decide +kernel
theorem dX11_next_158 : decode cX11_next 158 = .ok (.ifCond .eq 59, 3) := by decide +kernel
theorem dX11_next_161 : decode cX11_next 161 = .ok (.aload_n 0, 1) := by decide +kernel
theorem dX11_next_162 : decode cX11_next 162 = .ok (.aload_n 0, 1) := by decide +kernel
theorem dX11_next_163 : decode cX11_next 163 = .ok (.getfield 109, 3) := by decide +kernel
theorem dX11_next_166 : decode cX11_next 166 = .ok (.aload_n 0, 1) := by decide +kernel
theorem dX11_next_167 : decode cX11_next 167 = .ok (.getfield 103, 3) := by decide +kernel
theorem dX11_next_170 : decode cX11_next 170 = .ok (.isub, 1) := by decide +kernel
theorem dX11_next_171 : decode cX11_next 171 = .ok (.iconst 3, 1) := by decide +kernel
theorem dX11_next_172 : decode cX11_next 172 = .ok (.if_icmp .ge 25, 3) := by decide +kernel
theorem dX11_next_175 : decode cX11_next 175 = .ok (.bipush 10, 2) := by decide +kernel
theorem dX11_next_177 : decode cX11_next 177 = .ok (.aload_n 0, 1) := by decide +kernel
theorem dX11_next_178 : decode cX11_next 178 = .ok (.getfield 116, 3) := by decide +kernel
theorem dX11_next_181 : decode cX11_next 181 = .ok (.imul, 1) := by decide +kernel
theorem dX11_next_182 : decode cX11_next 182 = .ok (.aload_n 0, 1) := by decide +kernel
theorem dX11_next_183 : decode cX11_next 183 = .ok (.aload_n 0, 1) := by decide +kernel
theorem dX11_next_184 : decode cX11_next 184 = .ok (.getfield 109, 3) := by decide +kernel
theorem dX11_next_187 : decode cX11_next 187 = .ok (.invokevirtual 112, 3) := by decide +kernel
theorem dX11_next_190 : decode cX11_next 190 = .ok (.iadd, 1) := by decide +kernel
theorem dX11_next_191 : decode cX11_next 191 = .ok (.bipush 48, 2) := by decide +kernel
theorem dX11_next_193 : decode cX11_next 193 = .ok (.isub, 1) := by decide +kernel
theorem dX11_next_194 : decode cX11_next 194 = .ok (.goto 7, 3) := by decide +kernel
theorem dX11_next_197 : decode cX11_next 197 = .ok (.aload_n 0, 1) := by decide +kernel
theorem dX11_next_198 : decode cX11_next 198 = .ok (.getfield 116, 3) := by decide +kernel
theorem dX11_next_201 : decode cX11_next 201 = .ok (.putfield 116, 3) := by decide +kernel
theorem dX11_next_204 : decode cX11_next 204 = .ok (.aload_n 0, 1) := by decide +kernel
theorem dX11_next_205 : decode cX11_next 205 = .ok (.dup, 1) := by decide +kernel
theorem dX11_next_206 : decode cX11_next 206 = .ok (.getfield 109, 3) := by decide +kernel
theorem dX11_next_209 : decode cX11_next 209 = .ok (.iconst 1, 1) := by decide +kernel
theorem dX11_next_210 : decode cX11_next 210 = .ok (.iadd, 1) := by decide +kernel
theorem dX11_next_211 : decode cX11_next 211 = .ok (.putfield 109, 3) := by decide +kernel
theorem dX11_next_214 : decode cX11_next 214 = .ok (.goto (-74), 3) := by decide +kernel
theorem dX11_next_217 : decode cX11_next 217 = .ok (.aload_n 0, 1) := by decide +kernel
theorem dX11_next_218 : decode cX11_next 218 = .ok (.iconst 2, 1) := by decide +kernel
theorem dX11_next_219 : decode cX11_next 219 = .ok (.putfield 119, 3) := by decide +kernel
theorem dX11_next_222 : decode cX11_next 222 = .ok (.aload_n 0, 1) := by decide +kernel
theorem dX11_next_223 : decode cX11_next 223 = .ok (.getfield 109, 3) := by decide +kernel
theorem dX11_next_226 : decode cX11_next 226 = .ok (.aload_n 0, 1) := by decide +kernel
theorem dX11_next_227 : decode cX11_next 227 = .ok (.getfield 103, 3) := by decide +kernel
theorem dX11_next_230 : decode cX11_next 230 = .ok (.isub, 1) := by decide +kernel
theorem dX11_next_231 : decode cX11_next 231 = .ok (.iconst 3, 1) := by decide +kernel
theorem dX11_next_232 : decode cX11_next 232 = .ok (.if_icmp .le 37, 3) := by decide +kernel
theorem dX11_next_235 : decode cX11_next 235 = .ok (.aload_n 0, 1) := by decide +kernel
theorem dX11_next_236 : decode cX11_next 236 = .ok (.iconst 1, 1) := by decide +kernel
theorem dX11_next_237 : decode cX11_next 237 = .ok (.invokevirtual 130, 3) := by decide +kernel
theorem dX11_next_240 : decode cX11_next 240 = .ok (.goto 29, 3) := by decide +kernel
theorem dX11_next_243 : decode cX11_next 243 = .ok (.aload_n 0, 1) := by decide +kernel
theorem dX11_next_244 : decode cX11_next 244 = .ok (.iconst 3, 1) := by decide +kernel
theorem dX11_next_245 : decode cX11_next 245 = .ok (.putfield 119, 3) := by decide +kernel
theorem dX11_next_248 : decode cX11_next 248 = .ok (.aload_n 0, 1) := by decide +kernel
theorem dX11_next_249 : decode cX11_next 249 = .ok (.dup, 1) := by decide +kernel
theorem dX11_next_250 : decode cX11_next 250 = .ok (.getfield 109, 3) := by decide +kernel
theorem dX11_next_253 : decode cX11_next 253 = .ok (.iconst 1, 1) := by decide +kernel
theorem dX11_next_254 : decode cX11_next 254 = .ok (.iadd, 1) := by decide +kernel
theorem dX11_next_255 : decode cX11_next 255 = .ok (.putfield 109, 3) := by decide +kernel
theorem dX11_next_258 : decode cX11_next 258 = .ok (.iload_n 1, 1) := by decide +kernel
theorem dX11_next_259 : decode cX11_next 259 = .ok (.bipush 59, 2) := by decide +kernel
theorem dX11_next_261 : decode cX11_next 261 = .ok (.if_icmp .eq 8, 3) := by decide +kernel
theorem dX11_next_264 : decode cX11_next 264 = .ok (.aload_n 0, 1) := by decide +kernel
theorem dX11_next_265 : decode cX11_next 265 = .ok (.iconst 1, 1) := by decide +kernel
theorem dX11_next_266 : decode cX11_next 266 = .ok (.invokevirtual 130, 3) := by decide +kernel
theorem dX11_next_269 : decode cX11_next 269 = .ok (.return_, 1) := by decide +kernel
theorem dX11_number_0 : decode cX11_number 0 = .ok (.aload_n 0, 1) := by decide +kernel
theorem dX11_number_1 : decode cX11_number 1 = .ok (.getfield 100, 3) := by decide +kernel
theorem dX11_number_4 : decode cX11_number 4 = .ok (.ifCond .ne 16, 3) := by decide +kernel
theorem dX11_number_7 : decode cX11_number 7 = .ok (.aload_n 0, 1) := by decide +kernel
theorem dX11_number_8 : decode cX11_number 8 = .ok (.getfield 119, 3) := by decide +kernel
theorem dX11_number_11 : decode cX11_number 11 = .ok (.iconst 2, 1) := by decide +kernel
theorem dX11_number_12 : decode cX11_number 12 = .ok (.if_icmp .eq 8, 3) := by decide +kernel
theorem dX11_number_15 : decode cX11_number 15 = .ok (.aload_n 0, 1) := by decide +kernel
theorem dX11_number_16 : decode cX11_number 16 = .ok (.iconst 2, 1) := by decide +kernel
theorem dX11_number_17 : decode cX11_number 17 = .ok (.invokevirtual 130, 3) := by decide +kernel
theorem dX11_number_20 : decode cX11_number 20 = .ok (.aload_n 0, 1) := by decide +kernel
theorem dX11_number_21 : decode cX11_number 21 = .ok (.getfield 100, 3) := by decide +kernel
theorem dX11_number_24 : decode cX11_number 24 = .ok (.ifCond .ne 23, 3) := by decide +kernel
theorem dX11_number_27 : decode cX11_number 27 = .ok (.aload_n 0, 1) := by decide +kernel
theorem dX11_number_28 : decode cX11_number 28 = .ok (.getfield 116, 3) := by decide +kernel
theorem dX11_number_31 : decode cX11_number 31 = .ok (.i2l, 1) := by decide +kernel
theorem dX11_number_32 : decode cX11_number 32 = .ok (.iload_n 1, 1) := by decide +kernel
theorem dX11_number_33 : decode cX11_number 33 = .ok (.i2l, 1) := by decide +kernel
theorem dX11_number_34 : decode cX11_number 34 = .ok (.iload_n 2, 1) := by decide +kernel
theorem dX11_number_35 : decode cX11_number 35 = .ok (.i2l, 1) := by decide +kernel
theorem dX11_number_36 : decode cX11_number 36 = .ok (.invokestatic 96, 3) := by decide +kernel
theorem dX11_number_39 : decode cX11_number 39 = .ok (.ifCond .ne 8, 3) := by decide +kernel
theorem dX11_number_42 : decode cX11_number 42 = .ok (.aload_n 0, 1) := by decide +kernel
theorem dX11_number_43 : decode cX11_number 43 = .ok (.iconst 3, 1) := by decide +kernel
theorem dX11_number_44 : decode cX11_number 44 = .ok (.invokevirtual 130, 3) := by decide +kernel
theorem dX11_number_47 : decode cX11_number 47 = .ok (.aload_n 0, 1) := by decide +kernel
theorem dX11_number_48 : decode cX11_number 48 = .ok (.getfield 100, 3) := by decide +kernel
theorem dX11_number_51 : decode cX11_number 51 = .ok (.ifCond .ne 10, 3) := by decide +kernel
theorem dX11_number_54 : decode cX11_number 54 = .ok (.aload_n 0, 1) := by decide +kernel
theorem dX11_number_55 : decode cX11_number 55 = .ok (.getfield 116, 3) := by decide +kernel
theorem dX11_number_58 : decode cX11_number 58 = .ok (.goto 4, 3) := by decide +kernel
theorem dX11_number_61 : decode cX11_number 61 = .ok (.iload_n 1, 1) := by decide +kernel
theorem dX11_number_62 : decode cX11_number 62 = .ok (.ireturn, 1) := by decide +kernel
theorem dX11_readThing_0 : decode cX11_readThing 0 = .ok (.aload_n 0, 1) := by decide +kernel
theorem dX11_readThing_1 : decode cX11_readThing 1 = .ok (.getfield 134, 3) := by decide +kernel
theorem dX11_readThing_4 : decode cX11_readThing 4 = .ok (.bipush 12, 2) := by decide +kernel
theorem dX11_readThing_6 : decode cX11_readThing 6 = .ok (.if_icmp .ne 8, 3) := by decide +kernel
theorem dX11_readThing_9 : decode cX11_readThing 9 = .ok (.aload_n 0, 1) := by decide +kernel
theorem dX11_readThing_10 : decode cX11_readThing 10 = .ok (.iconst 5, 1) := by decide +kernel
theorem dX11_readThing_11 : decode cX11_readThing 11 = .ok (.invokevirtual 130, 3) := by decide +kernel
theorem dX11_readThing_14 : decode cX11_readThing 14 = .ok (.aload_n 0, 1) := by decide +kernel
theorem dX11_readThing_15 : decode cX11_readThing 15 = .ok (.invokevirtual 137, 3) := by decide +kernel
theorem dX11_readThing_18 : decode cX11_readThing 18 = .ok (.aload_n 0, 1) := by decide +kernel
theorem dX11_readThing_19 : decode cX11_readThing 19 = .ok (.getfield 134, 3) := by decide +kernel
theorem dX11_readThing_22 : decode cX11_readThing 22 = .ok (.bipush 12, 2) := by decide +kernel
theorem dX11_readThing_24 : decode cX11_readThing 24 = .ok (.if_icmp .ge 10, 3) := by decide +kernel
theorem dX11_readThing_27 : decode cX11_readThing 27 = .ok (.aload_n 0, 1) := by decide +kernel
theorem dX11_readThing_28 : decode cX11_readThing 28 = .ok (.getfield 134, 3) := by decide +kernel
theorem dX11_readThing_31 : decode cX11_readThing 31 = .ok (.goto 4, 3) := by decide +kernel
theorem dX11_readThing_34 : decode cX11_readThing 34 = .ok (.iconst 0, 1) := by decide +kernel
theorem dX11_readThing_35 : decode cX11_readThing 35 = .ok (.istore_n 2, 1) := by decide +kernel
theorem dX11_readThing_36 : decode cX11_readThing 36 = .ok (.aload_n 0, 1) := by decide +kernel
theorem dX11_readThing_37 : decode cX11_readThing 37 = .ok (.getfield 100, 3) := by decide +kernel
theorem dX11_readThing_40 : decode cX11_readThing 40 = .ok (.ifCond .ne 31, 3) := by decide +kernel
theorem dX11_readThing_43 : decode cX11_readThing 43 = .ok (.aload_n 0, 1) := by decide +kernel
theorem dX11_readThing_44 : decode cX11_readThing 44 = .ok (.getfield 41, 3) := by decide +kernel
theorem dX11_readThing_47 : decode cX11_readThing 47 = .ok (.iload_n 2, 1) := by decide +kernel
theorem dX11_readThing_48 : decode cX11_readThing 48 = .ok (.iconst 0, 1) := by decide +kernel
theorem dX11_readThing_49 : decode cX11_readThing 49 = .ok (.iastore, 1) := by decide +kernel
theorem dX11_readThing_50 : decode cX11_readThing 50 = .ok (.aload_n 0, 1) := by decide +kernel
theorem dX11_readThing_51 : decode cX11_readThing 51 = .ok (.getfield 44, 3) := by decide +kernel
theorem dX11_readThing_54 : decode cX11_readThing 54 = .ok (.iload_n 2, 1) := by decide +kernel
theorem dX11_readThing_55 : decode cX11_readThing 55 = .ok (.iconst 0, 1) := by decide +kernel
theorem dX11_readThing_56 : decode cX11_readThing 56 = .ok (.iastore, 1) := by decide +kernel
theorem dX11_readThing_57 : decode cX11_readThing 57 = .ok (.aload_n 0, 1) := by decide +kernel
theorem dX11_readThing_58 : decode cX11_readThing 58 = .ok (.getfield 47, 3) := by decide +kernel
theorem dX11_readThing_61 : decode cX11_readThing 61 = .ok (.iload_n 2, 1) := by decide +kernel
theorem dX11_readThing_62 : decode cX11_readThing 62 = .ok (.iconst 0, 1) := by decide +kernel
theorem dX11_readThing_63 : decode cX11_readThing 63 = .ok (.iastore, 1) := by decide +kernel
theorem dX11_readThing_64 : decode cX11_readThing 64 = .ok (.aload_n 0, 1) := by decide +kernel
theorem dX11_readThing_65 : decode cX11_readThing 65 = .ok (.getfield 50, 3) := by decide +kernel
theorem dX11_readThing_68 : decode cX11_readThing 68 = .ok (.iload_n 2, 1) := by decide +kernel
theorem dX11_readThing_69 : decode cX11_readThing 69 = .ok (.iconst 0, 1) := by decide +kernel
theorem dX11_readThing_70 : decode cX11_readThing 70 = .ok (.iastore, 1) := by decide +kernel
theorem dX11_readThing_71 : decode cX11_readThing 71 = .ok (.iload_n 1, 1) := by decide +kernel
theorem dX11_readThing_72 : decode cX11_readThing 72 = .ok (.ifCond .eq 51, 3) := by decide +kernel
theorem dX11_readThing_75 : decode cX11_readThing 75 = .ok (.aload_n 0, 1) := by decide +kernel
theorem dX11_readThing_76 : decode cX11_readThing 76 = .ok (.iconst 1, 1) := by decide +kernel
theorem dX11_readThing_77 : decode cX11_readThing 77 = .ok (.bipush 99, 2) := by decide +kernel
theorem dX11_readThing_79 : decode cX11_readThing 79 = .ok (.invokevirtual 140, 3) := by decide +kernel
theorem dX11_readThing_82 : decode cX11_readThing 82 = .ok (.istore_n 3, 1) := by decide +kernel
theorem dX11_readThing_83 : decode cX11_readThing 83 = .ok (.aload_n 0, 1) := by decide +kernel
theorem dX11_readThing_84 : decode cX11_readThing 84 = .ok (.invokevirtual 137, 3) := by decide +kernel
theorem dX11_readThing_87 : decode cX11_readThing 87 = .ok (.aload_n 0, 1) := by decide +kernel
theorem dX11_readThing_88 : decode cX11_readThing 88 = .ok (.iconst 1, 1) := by decide +kernel
theorem dX11_readThing_89 : decode cX11_readThing 89 = .ok (.sipush 999, 3) := by decide +kernel
theorem dX11_readThing_92 : decode cX11_readThing 92 = .ok (.invokevirtual 140, 3) := by decide +kernel
theorem dX11_readThing_95 : decode cX11_readThing 95 = .ok (.istore 4, 2) := by decide +kernel
theorem dX11_readThing_97 : decode cX11_readThing 97 = .ok (.aload_n 0, 1) := by decide +kernel
theorem dX11_readThing_98 : decode cX11_readThing 98 = .ok (.invokevirtual 137, 3) := by decide +kernel
theorem dX11_readThing_101 : decode cX11_readThing 101 = .ok (.aload_n 0, 1) := by decide +kernel
theorem dX11_readThing_102 : decode cX11_readThing 102 = .ok (.getfield 100, 3) := by decide +kernel
theorem dX11_readThing_105 : decode cX11_readThing 105 = .ok (.ifCond .ne 18, 3) := by decide +kernel
theorem dX11_readThing_108 : decode cX11_readThing 108 = .ok (.aload_n 0, 1) := by decide +kernel
theorem dX11_readThing_109 : decode cX11_readThing 109 = .ok (.getfield 41, 3) := by decide +kernel
theorem dX11_readThing_112 : decode cX11_readThing 112 = .ok (.iload_n 2, 1) := by decide +kernel
theorem dX11_readThing_113 : decode cX11_readThing 113 = .ok (.iload_n 3, 1) := by decide +kernel
theorem dX11_readThing_114 : decode cX11_readThing 114 = .ok (.iastore, 1) := by decide +kernel
theorem dX11_readThing_115 : decode cX11_readThing 115 = .ok (.aload_n 0, 1) := by decide +kernel
theorem dX11_readThing_116 : decode cX11_readThing 116 = .ok (.getfield 44, 3) := by decide +kernel
theorem dX11_readThing_119 : decode cX11_readThing 119 = .ok (.iload_n 2, 1) := by decide +kernel
theorem dX11_readThing_120 : decode cX11_readThing 120 = .ok (.iload 4, 2) := by decide +kernel
theorem dX11_readThing_122 : decode cX11_readThing 122 = .ok (.iastore, 1) := by decide +kernel
theorem dX11_readThing_123 : decode cX11_readThing 123 = .ok (.iload_n 1, 1) := by decide +kernel
theorem dX11_readThing_124 : decode cX11_readThing 124 = .ok (.ifCond .ne 86, 3) := by decide +kernel
theorem dX11_readThing_127 : decode cX11_readThing 127 = .ok (.aload_n 0, 1) := by decide +kernel
theorem dX11_readThing_128 : decode cX11_readThing 128 = .ok (.getfield 100, 3) := by decide +kernel
theorem dX11_readThing_131 : decode cX11_readThing 131 = .ok (.ifCond .ne 79, 3) := by decide +kernel
theorem dX11_readThing_134 : decode cX11_readThing 134 = .ok (.aload_n 0, 1) := by decide +kernel
theorem dX11_readThing_135 : decode cX11_readThing 135 = .ok (.getfield 119, 3) := by decide +kernel
theorem dX11_readThing_138 : decode cX11_readThing 138 = .ok (.iconst 2, 1) := by decide +kernel
theorem dX11_readThing_139 : decode cX11_readThing 139 = .ok (.if_icmp .ne 71, 3) := by decide +kernel
theorem dX11_readThing_142 : decode cX11_readThing 142 = .ok (.aload_n 0, 1) := by decide +kernel
theorem dX11_readThing_143 : decode cX11_readThing 143 = .ok (.iconst 0, 1) := by decide +kernel
theorem dX11_readThing_144 : decode cX11_readThing 144 = .ok (.aload_n 0, 1) := by decide +kernel
theorem dX11_readThing_145 : decode cX11_readThing 145 = .ok (.getfield 134, 3) := by decide +kernel
theorem dX11_readThing_148 : decode cX11_readThing 148 = .ok (.iconst 1, 1) := by decide +kernel
theorem dX11_readThing_149 : decode cX11_readThing 149 = .ok (.isub, 1) := by decide +kernel
theorem dX11_readThing_150 : decode cX11_readThing 150 = .ok (.invokevirtual 140, 3) := by decide +kernel
theorem dX11_readThing_153 : decode cX11_readThing 153 = .ok (.istore_n 3, 1) := by decide +kernel
theorem dX11_readThing_154 : decode cX11_readThing 154 = .ok (.aload_n 0, 1) := by decide +kernel
theorem dX11_readThing_155 : decode cX11_readThing 155 = .ok (.getfield 100, 3) := by decide +kernel
theorem dX11_readThing_158 : decode cX11_readThing 158 = .ok (.ifCond .ne 22, 3) := by decide +kernel
theorem dX11_readThing_161 : decode cX11_readThing 161 = .ok (.aload_n 0, 1) := by decide +kernel
theorem dX11_readThing_162 : decode cX11_readThing 162 = .ok (.getfield 47, 3) := by decide +kernel
theorem dX11_readThing_165 : decode cX11_readThing 165 = .ok (.iload_n 2, 1) := by decide +kernel
theorem dX11_readThing_166 : decode cX11_readThing 166 = .ok (.iaload, 1) := by decide +kernel
theorem dX11_readThing_167 : decode cX11_readThing 167 = .ok (.iload_n 3, 1) := by decide +kernel
theorem dX11_readThing_168 : decode cX11_readThing 168 = .ok (.ishr, 1) := by decide +kernel
theorem dX11_readThing_169 : decode cX11_readThing 169 = .ok (.iconst 1, 1) := by decide +kernel
theorem dX11_readThing_170 : decode cX11_readThing 170 = .ok (.iand, 1) := by decide +kernel
theorem dX11_readThing_171 : decode cX11_readThing 171 = .ok (.iconst 1, 1) := by decide +kernel
theorem dX11_readThing_172 : decode cX11_readThing 172 = .ok (.if_icmp .ne 8, 3) := by decide +kernel
theorem dX11_readThing_175 : decode cX11_readThing 175 = .ok (.aload_n 0, 1) := by decide +kernel
theorem dX11_readThing_176 : decode cX11_readThing 176 = .ok (.iconst 4, 1) := by decide +kernel
theorem dX11_readThing_177 : decode cX11_readThing 177 = .ok (.invokevirtual 130, 3) := by decide +kernel
theorem dX11_readThing_180 : decode cX11_readThing 180 = .ok (.aload_n 0, 1) := by decide +kernel
theorem dX11_readThing_181 : decode cX11_readThing 181 = .ok (.getfield 47, 3) := by decide +kernel
theorem dX11_readThing_184 : decode cX11_readThing 184 = .ok (.iload_n 2, 1) := by decide +kernel
theorem dX11_readThing_185 : decode cX11_readThing 185 = .ok (.dup2, 1) := by decide +kernel
theorem dX11_readThing_186 : decode cX11_readThing 186 = .ok (.iaload, 1) := by decide +kernel
theorem dX11_readThing_187 : decode cX11_readThing 187 = .ok (.aload_n 0, 1) := by decide +kernel
theorem dX11_readThing_188 : decode cX11_readThing 188 = .ok (.getfield 100, 3) := by decide +kernel
theorem dX11_readThing_191 : decode cX11_readThing 191 = .ok (.ifCond .ne 9, 3) := by decide +kernel
theorem dX11_readThing_194 : decode cX11_readThing 194 = .ok (.iconst 1, 1) := by decide +kernel
theorem dX11_readThing_195 : decode cX11_readThing 195 = .ok (.iload_n 3, 1) := by decide +kernel
theorem dX11_readThing_196 : decode cX11_readThing 196 = .ok (.ishl, 1) := by decide +kernel
theorem dX11_readThing_197 : decode cX11_readThing 197 = .ok (.goto 4, 3) := by decide +kernel
theorem dX11_readThing_200 : decode cX11_readThing 200 = .ok (.iconst 0, 1) := by decide +kernel
theorem dX11_readThing_201 : decode cX11_readThing 201 = .ok (.ior, 1) := by decide +kernel
theorem dX11_readThing_202 : decode cX11_readThing 202 = .ok (.iastore, 1) := by decide +kernel
theorem dX11_readThing_203 : decode cX11_readThing 203 = .ok (.aload_n 0, 1) := by decide +kernel
theorem dX11_readThing_204 : decode cX11_readThing 204 = .ok (.invokevirtual 137, 3) := by decide +kernel
theorem dX11_readThing_207 : decode cX11_readThing 207 = .ok (.goto (-84), 3) := by decide +kernel
theorem dX11_readThing_210 : decode cX11_readThing 210 = .ok (.aload_n 0, 1) := by decide +kernel
theorem dX11_readThing_211 : decode cX11_readThing 211 = .ok (.dup, 1) := by decide +kernel
theorem dX11_readThing_212 : decode cX11_readThing 212 = .ok (.getfield 134, 3) := by decide +kernel
theorem dX11_readThing_215 : decode cX11_readThing 215 = .ok (.aload_n 0, 1) := by decide +kernel
theorem dX11_readThing_216 : decode cX11_readThing 216 = .ok (.getfield 100, 3) := by decide +kernel
theorem dX11_readThing_219 : decode cX11_readThing 219 = .ok (.ifCond .ne 7, 3) := by decide +kernel
theorem dX11_readThing_222 : decode cX11_readThing 222 = .ok (.iconst 1, 1) := by decide +kernel
theorem dX11_readThing_223 : decode cX11_readThing 223 = .ok (.goto 4, 3) := by decide +kernel
theorem dX11_readThing_226 : decode cX11_readThing 226 = .ok (.iconst 0, 1) := by decide +kernel
theorem dX11_readThing_227 : decode cX11_readThing 227 = .ok (.iadd, 1) := by decide +kernel
theorem dX11_readThing_228 : decode cX11_readThing 228 = .ok (.putfield 134, 3) := by decide +kernel
theorem dX11_readThing_231 : decode cX11_readThing 231 = .ok (.return_, 1) := by decide +kernel
theorem dX11_readGive_0 : decode cX11_readGive 0 = .ok (.aload_n 0, 1) := by decide +kernel
theorem dX11_readGive_1 : decode cX11_readGive 1 = .ok (.invokevirtual 137, 3) := by decide +kernel
theorem dX11_readGive_4 : decode cX11_readGive 4 = .ok (.aload_n 0, 1) := by decide +kernel
theorem dX11_readGive_5 : decode cX11_readGive 5 = .ok (.iconst 0, 1) := by decide +kernel
theorem dX11_readGive_6 : decode cX11_readGive 6 = .ok (.aload_n 0, 1) := by decide +kernel
theorem dX11_readGive_7 : decode cX11_readGive 7 = .ok (.getfield 134, 3) := by decide +kernel
theorem dX11_readGive_10 : decode cX11_readGive 10 = .ok (.iconst 1, 1) := by decide +kernel
theorem dX11_readGive_11 : decode cX11_readGive 11 = .ok (.isub, 1) := by decide +kernel
theorem dX11_readGive_12 : decode cX11_readGive 12 = .ok (.invokevirtual 140, 3) := by decide +kernel
theorem dX11_readGive_15 : decode cX11_readGive 15 = .ok (.istore_n 1, 1) := by decide +kernel
theorem dX11_readGive_16 : decode cX11_readGive 16 = .ok (.aload_n 0, 1) := by decide +kernel
theorem dX11_readGive_17 : decode cX11_readGive 17 = .ok (.invokevirtual 137, 3) := by decide +kernel
theorem dX11_readGive_20 : decode cX11_readGive 20 = .ok (.aload_n 0, 1) := by decide +kernel
theorem dX11_readGive_21 : decode cX11_readGive 21 = .ok (.iconst 0, 1) := by decide +kernel
theorem dX11_readGive_22 : decode cX11_readGive 22 = .ok (.aload_n 0, 1) := by decide +kernel
theorem dX11_readGive_23 : decode cX11_readGive 23 = .ok (.getfield 134, 3) := by decide +kernel
theorem dX11_readGive_26 : decode cX11_readGive 26 = .ok (.iconst 1, 1) := by decide +kernel
theorem dX11_readGive_27 : decode cX11_readGive 27 = .ok (.isub, 1) := by decide +kernel
theorem dX11_readGive_28 : decode cX11_readGive 28 = .ok (.invokevirtual 140, 3) := by decide +kernel
theorem dX11_readGive_31 : decode cX11_readGive 31 = .ok (.istore_n 2, 1) := by decide +kernel
theorem dX11_readGive_32 : decode cX11_readGive 32 = .ok (.aload_n 0, 1) := by decide +kernel
theorem dX11_readGive_33 : decode cX11_readGive 33 = .ok (.getfield 100, 3) := by decide +kernel
theorem dX11_readGive_36 : decode cX11_readGive 36 = .ok (.ifCond .ne 13, 3) := by decide +kernel
theorem dX11_readGive_39 : decode cX11_readGive 39 = .ok (.iload_n 1, 1) := by decide +kernel
theorem dX11_readGive_40 : decode cX11_readGive 40 = .ok (.iload_n 2, 1) := by decide +kernel
theorem dX11_readGive_41 : decode cX11_readGive 41 = .ok (.if_icmp .ne 8, 3) := by decide +kernel
theorem dX11_readGive_44 : decode cX11_readGive 44 = .ok (.aload_n 0, 1) := by decide +kernel
theorem dX11_readGive_45 : decode cX11_readGive 45 = .ok (.iconst 3, 1) := by decide +kernel
theorem dX11_readGive_46 : decode cX11_readGive 46 = .ok (.invokevirtual 130, 3) := by decide +kernel
theorem dX11_readGive_49 : decode cX11_readGive 49 = .ok (.aload_n 0, 1) := by decide +kernel
theorem dX11_readGive_50 : decode cX11_readGive 50 = .ok (.getfield 100, 3) := by decide +kernel
theorem dX11_readGive_53 : decode cX11_readGive 53 = .ok (.ifCond .ne 22, 3) := by decide +kernel
theorem dX11_readGive_56 : decode cX11_readGive 56 = .ok (.aload_n 0, 1) := by decide +kernel
theorem dX11_readGive_57 : decode cX11_readGive 57 = .ok (.getfield 50, 3) := by decide +kernel
theorem dX11_readGive_60 : decode cX11_readGive 60 = .ok (.iload_n 1, 1) := by decide +kernel
theorem dX11_readGive_61 : decode cX11_readGive 61 = .ok (.iaload, 1) := by decide +kernel
theorem dX11_readGive_62 : decode cX11_readGive 62 = .ok (.iload_n 2, 1) := by decide +kernel
theorem dX11_readGive_63 : decode cX11_readGive 63 = .ok (.ishr, 1) := by decide +kernel
theorem dX11_readGive_64 : decode cX11_readGive 64 = .ok (.iconst 1, 1) := by decide +kernel
theorem dX11_readGive_65 : decode cX11_readGive 65 = .ok (.iand, 1) := by decide +kernel
theorem dX11_readGive_66 : decode cX11_readGive 66 = .ok (.iconst 1, 1) := by decide +kernel
theorem dX11_readGive_67 : decode cX11_readGive 67 = .ok (.if_icmp .ne 8, 3) := by decide +kernel
theorem dX11_readGive_70 : decode cX11_readGive 70 = .ok (.aload_n 0, 1) := by decide +kernel
theorem dX11_readGive_71 : decode cX11_readGive 71 = .ok (.iconst 4, 1) := by decide +kernel
theorem dX11_readGive_72 : decode cX11_readGive 72 = .ok (.invokevirtual 130, 3) := by decide +kernel
theorem dX11_readGive_75 : decode cX11_readGive 75 = .ok (.aload_n 0, 1) := by decide +kernel
theorem dX11_readGive_76 : decode cX11_readGive 76 = .ok (.getfield 100, 3) := by decide +kernel
theorem dX11_readGive_79 : decode cX11_readGive 79 = .ok (.ifCond .ne 27, 3) := by decide +kernel
theorem dX11_readGive_82 : decode cX11_readGive 82 = .ok (.aload_n 0, 1) := by decide +kernel
theorem dX11_readGive_83 : decode cX11_readGive 83 = .ok (.getfield 50, 3) := by decide +kernel
theorem dX11_readGive_86 : decode cX11_readGive 86 = .ok (.iload_n 1, 1) := by decide +kernel
theorem dX11_readGive_87 : decode cX11_readGive 87 = .ok (.dup2, 1) := by decide +kernel
theorem dX11_readGive_88 : decode cX11_readGive 88 = .ok (.iaload, 1) := by decide +kernel
theorem dX11_readGive_89 : decode cX11_readGive 89 = .ok (.iconst 1, 1) := by decide +kernel
theorem dX11_readGive_90 : decode cX11_readGive 90 = .ok (.iload_n 2, 1) := by decide +kernel
theorem dX11_readGive_91 : decode cX11_readGive 91 = .ok (.ishl, 1) := by decide +kernel
theorem dX11_readGive_92 : decode cX11_readGive 92 = .ok (.ior, 1) := by decide +kernel
theorem dX11_readGive_93 : decode cX11_readGive 93 = .ok (.iastore, 1) := by decide +kernel
theorem dX11_readGive_94 : decode cX11_readGive 94 = .ok (.aload_n 0, 1) := by decide +kernel
theorem dX11_readGive_95 : decode cX11_readGive 95 = .ok (.getfield 47, 3) := by decide +kernel
theorem dX11_readGive_98 : decode cX11_readGive 98 = .ok (.iload_n 1, 1) := by decide +kernel
theorem dX11_readGive_99 : decode cX11_readGive 99 = .ok (.dup2, 1) := by decide +kernel
theorem dX11_readGive_100 : decode cX11_readGive 100 = .ok (.iaload, 1) := by decide +kernel
theorem dX11_readGive_101 : decode cX11_readGive 101 = .ok (.iconst 1, 1) := by decide +kernel
theorem dX11_readGive_102 : decode cX11_readGive 102 = .ok (.iload_n 2, 1) := by decide +kernel
theorem dX11_readGive_103 : decode cX11_readGive 103 = .ok (.ishl, 1) := by decide +kernel
theorem dX11_readGive_104 : decode cX11_readGive 104 = .ok (.ior, 1) := by decide +kernel
theorem dX11_readGive_105 : decode cX11_readGive 105 = .ok (.iastore, 1) := by decide +kernel
theorem dX11_readGive_106 : decode cX11_readGive 106 = .ok (.aload_n 0, 1) := by decide +kernel
theorem dX11_readGive_107 : decode cX11_readGive 107 = .ok (.invokevirtual 137, 3) := by decide +kernel
theorem dX11_readGive_110 : decode cX11_readGive 110 = .ok (.return_, 1) := by decide +kernel
theorem dX11_readQuarry_0 : decode cX11_readQuarry 0 = .ok (.aload_n 0, 1) := by decide +kernel
theorem dX11_readQuarry_1 : decode cX11_readQuarry 1 = .ok (.invokevirtual 137, 3) := by decide +kernel
theorem dX11_readQuarry_4 : decode cX11_readQuarry 4 = .ok (.aload_n 0, 1) := by decide +kernel
theorem dX11_readQuarry_5 : decode cX11_readQuarry 5 = .ok (.getfield 100, 3) := by decide +kernel
theorem dX11_readQuarry_8 : decode cX11_readQuarry 8 = .ok (.ifCond .ne 16, 3) := by decide +kernel
theorem dX11_readQuarry_11 : decode cX11_readQuarry 11 = .ok (.aload_n 0, 1) := by decide +kernel
theorem dX11_readQuarry_12 : decode cX11_readQuarry 12 = .ok (.getfield 119, 3) := by decide +kernel
theorem dX11_readQuarry_15 : decode cX11_readQuarry 15 = .ok (.iconst 1, 1) := by decide +kernel
theorem dX11_readQuarry_16 : decode cX11_readQuarry 16 = .ok (.if_icmp .eq 8, 3) := by decide +kernel
theorem dX11_readQuarry_19 : decode cX11_readQuarry 19 = .ok (.aload_n 0, 1) := by decide +kernel
theorem dX11_readQuarry_20 : decode cX11_readQuarry 20 = .ok (.iconst 2, 1) := by decide +kernel
theorem dX11_readQuarry_21 : decode cX11_readQuarry 21 = .ok (.invokevirtual 130, 3) := by decide +kernel
theorem dX11_readQuarry_24 : decode cX11_readQuarry 24 = .ok (.aload_n 0, 1) := by decide +kernel
theorem dX11_readQuarry_25 : decode cX11_readQuarry 25 = .ok (.aload_n 0, 1) := by decide +kernel
theorem dX11_readQuarry_26 : decode cX11_readQuarry 26 = .ok (.getfield 103, 3) := by decide +kernel
theorem dX11_readQuarry_29 : decode cX11_readQuarry 29 = .ok (.invokevirtual 112, 3) := by decide +kernel
theorem dX11_readQuarry_32 : decode cX11_readQuarry 32 = .ok (.bipush 97, 2) := by decide +kernel
theorem dX11_readQuarry_34 : decode cX11_readQuarry 34 = .ok (.isub, 1) := by decide +kernel
theorem dX11_readQuarry_35 : decode cX11_readQuarry 35 = .ok (.istore_n 1, 1) := by decide +kernel
theorem dX11_readQuarry_36 : decode cX11_readQuarry 36 = .ok (.aload_n 0, 1) := by decide +kernel
theorem dX11_readQuarry_37 : decode cX11_readQuarry 37 = .ok (.getfield 100, 3) := by decide +kernel
theorem dX11_readQuarry_40 : decode cX11_readQuarry 40 = .ok (.ifCond .ne 33, 3) := by decide +kernel
theorem dX11_readQuarry_43 : decode cX11_readQuarry 43 = .ok (.aload_n 0, 1) := by decide +kernel
theorem dX11_readQuarry_44 : decode cX11_readQuarry 44 = .ok (.getfield 109, 3) := by decide +kernel
theorem dX11_readQuarry_47 : decode cX11_readQuarry 47 = .ok (.aload_n 0, 1) := by decide +kernel
theorem dX11_readQuarry_48 : decode cX11_readQuarry 48 = .ok (.getfield 103, 3) := by decide +kernel
theorem dX11_readQuarry_51 : decode cX11_readQuarry 51 = .ok (.isub, 1) := by decide +kernel
theorem dX11_readQuarry_52 : decode cX11_readQuarry 52 = .ok (.iconst 1, 1) := by decide +kernel
theorem dX11_readQuarry_53 : decode cX11_readQuarry 53 = .ok (.if_icmp .ne 15, 3) := by decide +kernel
theorem dX11_readQuarry_56 : decode cX11_readQuarry 56 = .ok (.iload_n 1, 1) := by decide +kernel
theorem dX11_readQuarry_57 : decode cX11_readQuarry 57 = .ok (.i2l, 1) := by decide +kernel
theorem dX11_readQuarry_58 : decode cX11_readQuarry 58 = .ok (.lconst 0, 1) := by decide +kernel
theorem dX11_readQuarry_59 : decode cX11_readQuarry 59 = .ok (.ldc2_w 144, 3) := by decide +kernel
theorem dX11_readQuarry_62 : decode cX11_readQuarry 62 = .ok (.invokestatic 96, 3) := by decide +kernel
theorem dX11_readQuarry_65 : decode cX11_readQuarry 65 = .ok (.ifCond .ne 8, 3) := by decide +kernel
theorem dX11_readQuarry_68 : decode cX11_readQuarry 68 = .ok (.aload_n 0, 1) := by decide +kernel
theorem dX11_readQuarry_69 : decode cX11_readQuarry 69 = .ok (.iconst 3, 1) := by decide +kernel
theorem dX11_readQuarry_70 : decode cX11_readQuarry 70 = .ok (.invokevirtual 130, 3) := by decide +kernel
theorem dX11_readQuarry_73 : decode cX11_readQuarry 73 = .ok (.aload_n 0, 1) := by decide +kernel
theorem dX11_readQuarry_74 : decode cX11_readQuarry 74 = .ok (.getfield 100, 3) := by decide +kernel
theorem dX11_readQuarry_77 : decode cX11_readQuarry 77 = .ok (.ifCond .ne 20, 3) := by decide +kernel
theorem dX11_readQuarry_80 : decode cX11_readQuarry 80 = .ok (.aload_n 0, 1) := by decide +kernel
theorem dX11_readQuarry_81 : decode cX11_readQuarry 81 = .ok (.getfield 146, 3) := by decide +kernel
theorem dX11_readQuarry_84 : decode cX11_readQuarry 84 = .ok (.iload_n 1, 1) := by decide +kernel
theorem dX11_readQuarry_85 : decode cX11_readQuarry 85 = .ok (.ishr, 1) := by decide +kernel
theorem dX11_readQuarry_86 : decode cX11_readQuarry 86 = .ok (.iconst 1, 1) := by decide +kernel
theorem dX11_readQuarry_87 : decode cX11_readQuarry 87 = .ok (.iand, 1) := by decide +kernel
theorem dX11_readQuarry_88 : decode cX11_readQuarry 88 = .ok (.iconst 1, 1) := by decide +kernel
theorem dX11_readQuarry_89 : decode cX11_readQuarry 89 = .ok (.if_icmp .ne 8, 3) := by decide +kernel
theorem dX11_readQuarry_92 : decode cX11_readQuarry 92 = .ok (.aload_n 0, 1) := by decide +kernel
theorem dX11_readQuarry_93 : decode cX11_readQuarry 93 = .ok (.iconst 4, 1) := by decide +kernel
theorem dX11_readQuarry_94 : decode cX11_readQuarry 94 = .ok (.invokevirtual 130, 3) := by decide +kernel
theorem dX11_readQuarry_97 : decode cX11_readQuarry 97 = .ok (.aload_n 0, 1) := by decide +kernel
theorem dX11_readQuarry_98 : decode cX11_readQuarry 98 = .ok (.getfield 100, 3) := by decide +kernel
theorem dX11_readQuarry_101 : decode cX11_readQuarry 101 = .ok (.ifCond .ne 7, 3) := by decide +kernel
theorem dX11_readQuarry_104 : decode cX11_readQuarry 104 = .ok (.iload_n 1, 1) := by decide +kernel
theorem dX11_readQuarry_105 : decode cX11_readQuarry 105 = .ok (.goto 4, 3) := by decide +kernel
theorem dX11_readQuarry_108 : decode cX11_readQuarry 108 = .ok (.iconst 0, 1) := by decide +kernel
theorem dX11_readQuarry_109 : decode cX11_readQuarry 109 = .ok (.istore_n 2, 1) := by decide +kernel
theorem dX11_readQuarry_110 : decode cX11_readQuarry 110 = .ok (.aload_n 0, 1) := by decide +kernel
theorem dX11_readQuarry_111 : decode cX11_readQuarry 111 = .ok (.dup, 1) := by decide +kernel
theorem dX11_readQuarry_112 : decode cX11_readQuarry 112 = .ok (.getfield 146, 3) := by decide +kernel
theorem dX11_readQuarry_115 : decode cX11_readQuarry 115 = .ok (.aload_n 0, 1) := by decide +kernel
theorem dX11_readQuarry_116 : decode cX11_readQuarry 116 = .ok (.getfield 100, 3) := by decide +kernel
theorem dX11_readQuarry_119 : decode cX11_readQuarry 119 = .ok (.ifCond .ne 9, 3) := by decide +kernel
theorem dX11_readQuarry_122 : decode cX11_readQuarry 122 = .ok (.iconst 1, 1) := by decide +kernel
theorem dX11_readQuarry_123 : decode cX11_readQuarry 123 = .ok (.iload_n 2, 1) := by decide +kernel
theorem dX11_readQuarry_124 : decode cX11_readQuarry 124 = .ok (.ishl, 1) := by decide +kernel
theorem dX11_readQuarry_125 : decode cX11_readQuarry 125 = .ok (.goto 4, 3) := by decide +kernel
theorem dX11_readQuarry_128 : decode cX11_readQuarry 128 = .ok (.iconst 0, 1) := by decide +kernel
theorem dX11_readQuarry_129 : decode cX11_readQuarry 129 = .ok (.ior, 1) := by decide +kernel
theorem dX11_readQuarry_130 : decode cX11_readQuarry 130 = .ok (.putfield 146, 3) := by decide +kernel
theorem dX11_readQuarry_133 : decode cX11_readQuarry 133 = .ok (.aload_n 0, 1) := by decide +kernel
theorem dX11_readQuarry_134 : decode cX11_readQuarry 134 = .ok (.invokevirtual 137, 3) := by decide +kernel
theorem dX11_readQuarry_137 : decode cX11_readQuarry 137 = .ok (.aload_n 0, 1) := by decide +kernel
theorem dX11_readQuarry_138 : decode cX11_readQuarry 138 = .ok (.getfield 56, 3) := by decide +kernel
theorem dX11_readQuarry_141 : decode cX11_readQuarry 141 = .ok (.iload_n 2, 1) := by decide +kernel
theorem dX11_readQuarry_142 : decode cX11_readQuarry 142 = .ok (.aload_n 0, 1) := by decide +kernel
theorem dX11_readQuarry_143 : decode cX11_readQuarry 143 = .ok (.iconst 0, 1) := by decide +kernel
theorem dX11_readQuarry_144 : decode cX11_readQuarry 144 = .ok (.bipush 99, 2) := by decide +kernel
theorem dX11_readQuarry_146 : decode cX11_readQuarry 146 = .ok (.invokevirtual 140, 3) := by decide +kernel
theorem dX11_readQuarry_149 : decode cX11_readQuarry 149 = .ok (.iastore, 1) := by decide +kernel
theorem dX11_readQuarry_150 : decode cX11_readQuarry 150 = .ok (.aload_n 0, 1) := by decide +kernel
theorem dX11_readQuarry_151 : decode cX11_readQuarry 151 = .ok (.invokevirtual 137, 3) := by decide +kernel
theorem dX11_readQuarry_154 : decode cX11_readQuarry 154 = .ok (.aload_n 0, 1) := by decide +kernel
theorem dX11_readQuarry_155 : decode cX11_readQuarry 155 = .ok (.getfield 59, 3) := by decide +kernel
theorem dX11_readQuarry_158 : decode cX11_readQuarry 158 = .ok (.iload_n 2, 1) := by decide +kernel
theorem dX11_readQuarry_159 : decode cX11_readQuarry 159 = .ok (.aload_n 0, 1) := by decide +kernel
theorem dX11_readQuarry_160 : decode cX11_readQuarry 160 = .ok (.iconst 1, 1) := by decide +kernel
theorem dX11_readQuarry_161 : decode cX11_readQuarry 161 = .ok (.bipush 99, 2) := by decide +kernel
theorem dX11_readQuarry_163 : decode cX11_readQuarry 163 = .ok (.invokevirtual 140, 3) := by decide +kernel
theorem dX11_readQuarry_166 : decode cX11_readQuarry 166 = .ok (.iastore, 1) := by decide +kernel
theorem dX11_readQuarry_167 : decode cX11_readQuarry 167 = .ok (.aload_n 0, 1) := by decide +kernel
theorem dX11_readQuarry_168 : decode cX11_readQuarry 168 = .ok (.invokevirtual 137, 3) := by decide +kernel
theorem dX11_readQuarry_171 : decode cX11_readQuarry 171 = .ok (.return_, 1) := by decide +kernel
theorem dX11_readBook_0 : decode cX11_readBook 0 = .ok (.aload_n 0, 1) := by decide +kernel
theorem dX11_readBook_1 : decode cX11_readBook 1 = .ok (.getfield 149, 3) := by decide +kernel
theorem dX11_readBook_4 : decode cX11_readBook 4 = .ok (.iconst 4, 1) := by decide +kernel
theorem dX11_readBook_5 : decode cX11_readBook 5 = .ok (.if_icmp .ne 8, 3) := by decide +kernel
theorem dX11_readBook_8 : decode cX11_readBook 8 = .ok (.aload_n 0, 1) := by decide +kernel
theorem dX11_readBook_9 : decode cX11_readBook 9 = .ok (.iconst 5, 1) := by decide +kernel
theorem dX11_readBook_10 : decode cX11_readBook 10 = .ok (.invokevirtual 130, 3) := by decide +kernel
theorem dX11_readBook_13 : decode cX11_readBook 13 = .ok (.aload_n 0, 1) := by decide +kernel
theorem dX11_readBook_14 : decode cX11_readBook 14 = .ok (.invokevirtual 137, 3) := by decide +kernel
theorem dX11_readBook_17 : decode cX11_readBook 17 = .ok (.iconst 0, 1) := by decide +kernel
theorem dX11_readBook_18 : decode cX11_readBook 18 = .ok (.istore_n 1, 1) := by decide +kernel
theorem dX11_readBook_19 : decode cX11_readBook 19 = .ok (.iload_n 1, 1) := by decide +kernel
theorem dX11_readBook_20 : decode cX11_readBook 20 = .ok (.iconst 4, 1) := by decide +kernel
theorem dX11_readBook_21 : decode cX11_readBook 21 = .ok (.if_icmp .ge 167, 3) := by decide +kernel
theorem dX11_readBook_24 : decode cX11_readBook 24 = .ok (.aload_n 0, 1) := by decide +kernel
theorem dX11_readBook_25 : decode cX11_readBook 25 = .ok (.getfield 100, 3) := by decide +kernel
theorem dX11_readBook_28 : decode cX11_readBook 28 = .ok (.ifCond .ne 160, 3) := by decide +kernel
theorem dX11_readBook_31 : decode cX11_readBook 31 = .ok (.aload_n 0, 1) := by decide +kernel
theorem dX11_readBook_32 : decode cX11_readBook 32 = .ok (.getfield 119, 3) := by decide +kernel
theorem dX11_readBook_35 : decode cX11_readBook 35 = .ok (.iconst 1, 1) := by decide +kernel
theorem dX11_readBook_36 : decode cX11_readBook 36 = .ok (.if_icmp .eq 8, 3) := by decide +kernel
theorem dX11_readBook_39 : decode cX11_readBook 39 = .ok (.aload_n 0, 1) := by decide +kernel
theorem dX11_readBook_40 : decode cX11_readBook 40 = .ok (.iconst 2, 1) := by decide +kernel
theorem dX11_readBook_41 : decode cX11_readBook 41 = .ok (.invokevirtual 130, 3) := by decide +kernel
theorem dX11_readBook_44 : decode cX11_readBook 44 = .ok (.aload_n 0, 1) := by decide +kernel
theorem dX11_readBook_45 : decode cX11_readBook 45 = .ok (.getfield 109, 3) := by decide +kernel
theorem dX11_readBook_48 : decode cX11_readBook 48 = .ok (.aload_n 0, 1) := by decide +kernel
theorem dX11_readBook_49 : decode cX11_readBook 49 = .ok (.getfield 103, 3) := by decide +kernel
theorem dX11_readBook_52 : decode cX11_readBook 52 = .ok (.isub, 1) := by decide +kernel
theorem dX11_readBook_53 : decode cX11_readBook 53 = .ok (.iconst 4, 1) := by decide +kernel
theorem dX11_readBook_54 : decode cX11_readBook 54 = .ok (.if_icmp .ne 7, 3) := by decide +kernel
theorem dX11_readBook_57 : decode cX11_readBook 57 = .ok (.iconst 1, 1) := by decide +kernel
theorem dX11_readBook_58 : decode cX11_readBook 58 = .ok (.goto 4, 3) := by decide +kernel
theorem dX11_readBook_61 : decode cX11_readBook 61 = .ok (.iconst 0, 1) := by decide +kernel
theorem dX11_readBook_62 : decode cX11_readBook 62 = .ok (.istore_n 2, 1) := by decide +kernel
theorem dX11_readBook_63 : decode cX11_readBook 63 = .ok (.iconst 0, 1) := by decide +kernel
theorem dX11_readBook_64 : decode cX11_readBook 64 = .ok (.istore_n 3, 1) := by decide +kernel
theorem dX11_readBook_65 : decode cX11_readBook 65 = .ok (.iload_n 3, 1) := by decide +kernel
theorem dX11_readBook_66 : decode cX11_readBook 66 = .ok (.iconst 4, 1) := by decide +kernel
theorem dX11_readBook_67 : decode cX11_readBook 67 = .ok (.if_icmp .ge 95, 3) := by decide +kernel
theorem dX11_readBook_70 : decode cX11_readBook 70 = .ok (.aload_n 0, 1) := by decide +kernel
theorem dX11_readBook_71 : decode cX11_readBook 71 = .ok (.getfield 100, 3) := by decide +kernel
theorem dX11_readBook_74 : decode cX11_readBook 74 = .ok (.ifCond .ne 88, 3) := by decide +kernel
theorem dX11_readBook_77 : decode cX11_readBook 77 = .ok (.iload_n 2, 1) := by decide +kernel
theorem dX11_readBook_78 : decode cX11_readBook 78 = .ok (.ifCond .eq 84, 3) := by decide +kernel
theorem dX11_readBook_81 : decode cX11_readBook 81 = .ok (.aload_n 0, 1) := by decide +kernel
theorem dX11_readBook_82 : decode cX11_readBook 82 = .ok (.aload_n 0, 1) := by decide +kernel
theorem dX11_readBook_83 : decode cX11_readBook 83 = .ok (.getfield 103, 3) := by decide +kernel
theorem dX11_readBook_86 : decode cX11_readBook 86 = .ok (.iload_n 3, 1) := by decide +kernel
theorem dX11_readBook_87 : decode cX11_readBook 87 = .ok (.iadd, 1) := by decide +kernel
theorem dX11_readBook_88 : decode cX11_readBook 88 = .ok (.invokevirtual 112, 3) := by decide +kernel
theorem dX11_readBook_91 : decode cX11_readBook 91 = .ok (.istore 4, 2) := by decide +kernel
theorem dX11_readBook_93 : decode cX11_readBook 93 = .ok (.iload 4, 2) := by decide +kernel
theorem dX11_readBook_95 : decode cX11_readBook 95 = .ok (.bipush 120, 2) := by decide +kernel
theorem dX11_readBook_97 : decode cX11_readBook 97 = .ok (.if_icmp .eq 18, 3) := by decide +kernel
theorem dX11_readBook_100 : decode cX11_readBook 100 = .ok (.iload 4, 2) := by decide +kernel
theorem dX11_readBook_102 : decode cX11_readBook 102 = .ok (.i2l, 1) := by decide +kernel
theorem dX11_readBook_103 : decode cX11_readBook 103 = .ok (.ldc2_w 122, 3) := by decide +kernel
theorem dX11_readBook_106 : decode cX11_readBook 106 = .ok (.ldc2_w 152, 3) := by decide +kernel
theorem dX11_readBook_109 : decode cX11_readBook 109 = .ok (.invokestatic 96, 3) := by decide +kernel
theorem dX11_readBook_112 : decode cX11_readBook 112 = .ok (.ifCond .eq 7, 3) := by decide +kernel
theorem dX11_readBook_115 : decode cX11_readBook 115 = .ok (.iconst 1, 1) := by decide +kernel
theorem dX11_readBook_116 : decode cX11_readBook 116 = .ok (.goto 4, 3) := by decide +kernel
theorem dX11_readBook_119 : decode cX11_readBook 119 = .ok (.iconst 0, 1) := by decide +kernel
theorem dX11_readBook_120 : decode cX11_readBook 120 = .ok (.istore_n 2, 1) := by decide +kernel
theorem dX11_readBook_121 : decode cX11_readBook 121 = .ok (.aload_n 0, 1) := by decide +kernel
theorem dX11_readBook_122 : decode cX11_readBook 122 = .ok (.getfield 53, 3) := by decide +kernel
theorem dX11_readBook_125 : decode cX11_readBook 125 = .ok (.bipush 16, 2) := by decide +kernel
theorem dX11_readBook_127 : decode cX11_readBook 127 = .ok (.aload_n 0, 1) := by decide +kernel
theorem dX11_readBook_128 : decode cX11_readBook 128 = .ok (.getfield 149, 3) := by decide +kernel
theorem dX11_readBook_131 : decode cX11_readBook 131 = .ok (.imul, 1) := by decide +kernel
theorem dX11_readBook_132 : decode cX11_readBook 132 = .ok (.iconst 4, 1) := by decide +kernel
theorem dX11_readBook_133 : decode cX11_readBook 133 = .ok (.iload_n 1, 1) := by decide +kernel
theorem dX11_readBook_134 : decode cX11_readBook 134 = .ok (.imul, 1) := by decide +kernel
theorem dX11_readBook_135 : decode cX11_readBook 135 = .ok (.iadd, 1) := by decide +kernel
theorem dX11_readBook_136 : decode cX11_readBook 136 = .ok (.iload_n 3, 1) := by decide +kernel
theorem dX11_readBook_137 : decode cX11_readBook 137 = .ok (.iadd, 1) := by decide +kernel
theorem dX11_readBook_138 : decode cX11_readBook 138 = .ok (.iload 4, 2) := by decide +kernel
theorem dX11_readBook_140 : decode cX11_readBook 140 = .ok (.bipush 120, 2) := by decide +kernel
theorem dX11_readBook_142 : decode cX11_readBook 142 = .ok (.if_icmp .ne 8, 3) := by decide +kernel
theorem dX11_readBook_145 : decode cX11_readBook 145 = .ok (.bipush (-4), 2) := by decide +kernel
theorem dX11_readBook_147 : decode cX11_readBook 147 = .ok (.goto 8, 3) := by decide +kernel
theorem dX11_readBook_150 : decode cX11_readBook 150 = .ok (.iload 4, 2) := by decide +kernel
theorem dX11_readBook_152 : decode cX11_readBook 152 = .ok (.bipush 97, 2) := by decide +kernel
theorem dX11_readBook_154 : decode cX11_readBook 154 = .ok (.isub, 1) := by decide +kernel
theorem dX11_readBook_155 : decode cX11_readBook 155 = .ok (.iastore, 1) := by decide +kernel
theorem dX11_readBook_156 : decode cX11_readBook 156 = .ok (.iinc 3 1, 3) := by decide +kernel
theorem dX11_readBook_159 : decode cX11_readBook 159 = .ok (.goto (-94), 3) := by decide +kernel
theorem dX11_readBook_162 : decode cX11_readBook 162 = .ok (.aload_n 0, 1) := by decide +kernel
theorem dX11_readBook_163 : decode cX11_readBook 163 = .ok (.getfield 100, 3) := by decide +kernel
theorem dX11_readBook_166 : decode cX11_readBook 166 = .ok (.ifCond .ne 12, 3) := by decide +kernel
theorem dX11_readBook_169 : decode cX11_readBook 169 = .ok (.iload_n 2, 1) := by decide +kernel
theorem dX11_readBook_170 : decode cX11_readBook 170 = .ok (.ifCond .ne 8, 3) := by decide +kernel
theorem dX11_readBook_173 : decode cX11_readBook 173 = .ok (.aload_n 0, 1) := by decide +kernel
theorem dX11_readBook_174 : decode cX11_readBook 174 = .ok (.iconst 3, 1) := by decide +kernel
theorem dX11_readBook_175 : decode cX11_readBook 175 = .ok (.invokevirtual 130, 3) := by decide +kernel
theorem dX11_readBook_178 : decode cX11_readBook 178 = .ok (.aload_n 0, 1) := by decide +kernel
theorem dX11_readBook_179 : decode cX11_readBook 179 = .ok (.invokevirtual 137, 3) := by decide +kernel
theorem dX11_readBook_182 : decode cX11_readBook 182 = .ok (.iinc 1 1, 3) := by decide +kernel
theorem dX11_readBook_185 : decode cX11_readBook 185 = .ok (.goto (-166), 3) := by decide +kernel
theorem dX11_readBook_188 : decode cX11_readBook 188 = .ok (.aload_n 0, 1) := by decide +kernel
theorem dX11_readBook_189 : decode cX11_readBook 189 = .ok (.dup, 1) := by decide +kernel
theorem dX11_readBook_190 : decode cX11_readBook 190 = .ok (.getfield 149, 3) := by decide +kernel
theorem dX11_readBook_193 : decode cX11_readBook 193 = .ok (.aload_n 0, 1) := by decide +kernel
theorem dX11_readBook_194 : decode cX11_readBook 194 = .ok (.getfield 100, 3) := by decide +kernel
theorem dX11_readBook_197 : decode cX11_readBook 197 = .ok (.ifCond .ne 7, 3) := by decide +kernel
theorem dX11_readBook_200 : decode cX11_readBook 200 = .ok (.iconst 1, 1) := by decide +kernel
theorem dX11_readBook_201 : decode cX11_readBook 201 = .ok (.goto 4, 3) := by decide +kernel
theorem dX11_readBook_204 : decode cX11_readBook 204 = .ok (.iconst 0, 1) := by decide +kernel
theorem dX11_readBook_205 : decode cX11_readBook 205 = .ok (.iadd, 1) := by decide +kernel
theorem dX11_readBook_206 : decode cX11_readBook 206 = .ok (.putfield 149, 3) := by decide +kernel
theorem dX11_readBook_209 : decode cX11_readBook 209 = .ok (.return_, 1) := by decide +kernel
theorem dX11_readLine_0 : decode cX11_readLine 0 = .ok (.aload_n 0, 1) := by decide +kernel
theorem dX11_readLine_1 : decode cX11_readLine 1 = .ok (.getfield 119, 3) := by decide +kernel
theorem dX11_readLine_4 : decode cX11_readLine 4 = .ok (.iconst 1, 1) := by decide +kernel
theorem dX11_readLine_5 : decode cX11_readLine 5 = .ok (.if_icmp .ne 10, 3) := by decide +kernel
theorem dX11_readLine_8 : decode cX11_readLine 8 = .ok (.aload_n 0, 1) := by decide +kernel
theorem dX11_readLine_9 : decode cX11_readLine 9 = .ok (.invokevirtual 154, 3) := by decide +kernel
theorem dX11_readLine_12 : decode cX11_readLine 12 = .ok (.goto 5, 3) := by decide +kernel
theorem dX11_readLine_15 : decode cX11_readLine 15 = .ok (.bipush (-4), 2) := by decide +kernel
theorem dX11_readLine_17 : decode cX11_readLine 17 = .ok (.istore_n 1, 1) := by decide +kernel
theorem dX11_readLine_18 : decode cX11_readLine 18 = .ok (.iload_n 1, 1) := by decide +kernel
theorem dX11_readLine_19 : decode cX11_readLine 19 = .ok (.bipush (-4), 2) := by decide +kernel
theorem dX11_readLine_21 : decode cX11_readLine 21 = .ok (.if_icmp .ne 9, 3) := by decide +kernel
theorem dX11_readLine_24 : decode cX11_readLine 24 = .ok (.aload_n 0, 1) := by decide +kernel
theorem dX11_readLine_25 : decode cX11_readLine 25 = .ok (.iconst 2, 1) := by decide +kernel
theorem dX11_readLine_26 : decode cX11_readLine 26 = .ok (.invokevirtual 130, 3) := by decide +kernel
theorem dX11_readLine_29 : decode cX11_readLine 29 = .ok (.return_, 1) := by decide +kernel
theorem dX11_readLine_30 : decode cX11_readLine 30 = .ok (.iload_n 1, 1) := by decide +kernel
theorem dX11_readLine_31 : decode cX11_readLine 31 = .ok (.iconst 1, 1) := by decide +kernel
theorem dX11_readLine_32 : decode cX11_readLine 32 = .ok (.if_icmp .gt 19, 3) := by decide +kernel
theorem dX11_readLine_35 : decode cX11_readLine 35 = .ok (.aload_n 0, 1) := by decide +kernel
theorem dX11_readLine_36 : decode cX11_readLine 36 = .ok (.iload_n 1, 1) := by decide +kernel
theorem dX11_readLine_37 : decode cX11_readLine 37 = .ok (.ifCond .ne 7, 3) := by decide +kernel
theorem dX11_readLine_40 : decode cX11_readLine 40 = .ok (.iconst 1, 1) := by decide +kernel
theorem dX11_readLine_41 : decode cX11_readLine 41 = .ok (.goto 4, 3) := by decide +kernel
theorem dX11_readLine_44 : decode cX11_readLine 44 = .ok (.iconst 0, 1) := by decide +kernel
theorem dX11_readLine_45 : decode cX11_readLine 45 = .ok (.invokevirtual 158, 3) := by decide +kernel
theorem dX11_readLine_48 : decode cX11_readLine 48 = .ok (.goto 75, 3) := by decide +kernel
theorem dX11_readLine_51 : decode cX11_readLine 51 = .ok (.iload_n 1, 1) := by decide +kernel
theorem dX11_readLine_52 : decode cX11_readLine 52 = .ok (.iconst 2, 1) := by decide +kernel
theorem dX11_readLine_53 : decode cX11_readLine 53 = .ok (.if_icmp .ne 10, 3) := by decide +kernel
theorem dX11_readLine_56 : decode cX11_readLine 56 = .ok (.aload_n 0, 1) := by decide +kernel
theorem dX11_readLine_57 : decode cX11_readLine 57 = .ok (.invokevirtual 162, 3) := by decide +kernel
theorem dX11_readLine_60 : decode cX11_readLine 60 = .ok (.goto 63, 3) := by decide +kernel
theorem dX11_readLine_63 : decode cX11_readLine 63 = .ok (.iload_n 1, 1) := by decide +kernel
theorem dX11_readLine_64 : decode cX11_readLine 64 = .ok (.iconst 3, 1) := by decide +kernel
theorem dX11_readLine_65 : decode cX11_readLine 65 = .ok (.if_icmp .ne 42, 3) := by decide +kernel
theorem dX11_readLine_68 : decode cX11_readLine 68 = .ok (.aload_n 0, 1) := by decide +kernel
theorem dX11_readLine_69 : decode cX11_readLine 69 = .ok (.getfield 165, 3) := by decide +kernel
theorem dX11_readLine_72 : decode cX11_readLine 72 = .ok (.ifCond .eq 8, 3) := by decide +kernel
theorem dX11_readLine_75 : decode cX11_readLine 75 = .ok (.aload_n 0, 1) := by decide +kernel
theorem dX11_readLine_76 : decode cX11_readLine 76 = .ok (.iconst 4, 1) := by decide +kernel
theorem dX11_readLine_77 : decode cX11_readLine 77 = .ok (.invokevirtual 130, 3) := by decide +kernel
theorem dX11_readLine_80 : decode cX11_readLine 80 = .ok (.aload_n 0, 1) := by decide +kernel
theorem dX11_readLine_81 : decode cX11_readLine 81 = .ok (.iconst 1, 1) := by decide +kernel
theorem dX11_readLine_82 : decode cX11_readLine 82 = .ok (.putfield 165, 3) := by decide +kernel
theorem dX11_readLine_85 : decode cX11_readLine 85 = .ok (.aload_n 0, 1) := by decide +kernel
theorem dX11_readLine_86 : decode cX11_readLine 86 = .ok (.invokevirtual 137, 3) := by decide +kernel
theorem dX11_readLine_89 : decode cX11_readLine 89 = .ok (.aload_n 0, 1) := by decide +kernel
theorem dX11_readLine_90 : decode cX11_readLine 90 = .ok (.aload_n 0, 1) := by decide +kernel
theorem dX11_readLine_91 : decode cX11_readLine 91 = .ok (.iconst 0, 1) := by decide +kernel
theorem dX11_readLine_92 : decode cX11_readLine 92 = .ok (.bipush 99, 2) := by decide +kernel
theorem dX11_readLine_94 : decode cX11_readLine 94 = .ok (.invokevirtual 140, 3) := by decide +kernel
theorem dX11_readLine_97 : decode cX11_readLine 97 = .ok (.putfield 169, 3) := by decide +kernel
theorem dX11_readLine_100 : decode cX11_readLine 100 = .ok (.aload_n 0, 1) := by decide +kernel
theorem dX11_readLine_101 : decode cX11_readLine 101 = .ok (.invokevirtual 137, 3) := by decide +kernel
theorem dX11_readLine_104 : decode cX11_readLine 104 = .ok (.goto 19, 3) := by decide +kernel
theorem dX11_readLine_107 : decode cX11_readLine 107 = .ok (.iload_n 1, 1) := by decide +kernel
theorem dX11_readLine_108 : decode cX11_readLine 108 = .ok (.iconst 4, 1) := by decide +kernel
theorem dX11_readLine_109 : decode cX11_readLine 109 = .ok (.if_icmp .ne 10, 3) := by decide +kernel
theorem dX11_readLine_112 : decode cX11_readLine 112 = .ok (.aload_n 0, 1) := by decide +kernel
theorem dX11_readLine_113 : decode cX11_readLine 113 = .ok (.invokevirtual 172, 3) := by decide +kernel
theorem dX11_readLine_116 : decode cX11_readLine 116 = .ok (.goto 7, 3) := by decide +kernel
theorem dX11_readLine_119 : decode cX11_readLine 119 = .ok (.aload_n 0, 1) := by decide +kernel
theorem dX11_readLine_120 : decode cX11_readLine 120 = .ok (.invokevirtual 175, 3) := by decide +kernel
theorem dX11_readLine_123 : decode cX11_readLine 123 = .ok (.aload_n 0, 1) := by decide +kernel
theorem dX11_readLine_124 : decode cX11_readLine 124 = .ok (.getfield 100, 3) := by decide +kernel
theorem dX11_readLine_127 : decode cX11_readLine 127 = .ok (.ifCond .ne 16, 3) := by decide +kernel
theorem dX11_readLine_130 : decode cX11_readLine 130 = .ok (.aload_n 0, 1) := by decide +kernel
theorem dX11_readLine_131 : decode cX11_readLine 131 = .ok (.getfield 119, 3) := by decide +kernel
theorem dX11_readLine_134 : decode cX11_readLine 134 = .ok (.iconst 3, 1) := by decide +kernel
theorem dX11_readLine_135 : decode cX11_readLine 135 = .ok (.if_icmp .eq 8, 3) := by decide +kernel
theorem dX11_readLine_138 : decode cX11_readLine 138 = .ok (.aload_n 0, 1) := by decide +kernel
theorem dX11_readLine_139 : decode cX11_readLine 139 = .ok (.iconst 2, 1) := by decide +kernel
theorem dX11_readLine_140 : decode cX11_readLine 140 = .ok (.invokevirtual 130, 3) := by decide +kernel
theorem dX11_readLine_143 : decode cX11_readLine 143 = .ok (.aload_n 0, 1) := by decide +kernel
theorem dX11_readLine_144 : decode cX11_readLine 144 = .ok (.invokevirtual 137, 3) := by decide +kernel
theorem dX11_readLine_147 : decode cX11_readLine 147 = .ok (.return_, 1) := by decide +kernel
theorem dX11_text_0 : decode cX11_text 0 = .ok (.aload_n 0, 1) := by decide +kernel
theorem dX11_text_1 : decode cX11_text 1 = .ok (.iconst 0, 1) := by decide +kernel
theorem dX11_text_2 : decode cX11_text 2 = .ok (.putfield 100, 3) := by decide +kernel
theorem dX11_text_5 : decode cX11_text 5 = .ok (.aload_n 0, 1) := by decide +kernel
theorem dX11_text_6 : decode cX11_text 6 = .ok (.iconst 0, 1) := by decide +kernel
theorem dX11_text_7 : decode cX11_text 7 = .ok (.putfield 109, 3) := by decide +kernel
theorem dX11_text_10 : decode cX11_text 10 = .ok (.aload_n 0, 1) := by decide +kernel
theorem dX11_text_11 : decode cX11_text 11 = .ok (.iconst 0, 1) := by decide +kernel
theorem dX11_text_12 : decode cX11_text 12 = .ok (.putfield 134, 3) := by decide +kernel
theorem dX11_text_15 : decode cX11_text 15 = .ok (.aload_n 0, 1) := by decide +kernel
theorem dX11_text_16 : decode cX11_text 16 = .ok (.iconst 0, 1) := by decide +kernel
theorem dX11_text_17 : decode cX11_text 17 = .ok (.putfield 149, 3) := by decide +kernel
theorem dX11_text_20 : decode cX11_text 20 = .ok (.aload_n 0, 1) := by decide +kernel
theorem dX11_text_21 : decode cX11_text 21 = .ok (.bipush 10, 2) := by decide +kernel
theorem dX11_text_23 : decode cX11_text 23 = .ok (.putfield 169, 3) := by decide +kernel
theorem dX11_text_26 : decode cX11_text 26 = .ok (.aload_n 0, 1) := by decide +kernel
theorem dX11_text_27 : decode cX11_text 27 = .ok (.iconst 0, 1) := by decide +kernel
theorem dX11_text_28 : decode cX11_text 28 = .ok (.putfield 165, 3) := by decide +kernel
theorem dX11_text_31 : decode cX11_text 31 = .ok (.aload_n 0, 1) := by decide +kernel
theorem dX11_text_32 : decode cX11_text 32 = .ok (.iconst 0, 1) := by decide +kernel
theorem dX11_text_33 : decode cX11_text 33 = .ok (.putfield 146, 3) := by decide +kernel
theorem dX11_text_36 : decode cX11_text 36 = .ok (.iconst 0, 1) := by decide +kernel
theorem dX11_text_37 : decode cX11_text 37 = .ok (.istore_n 1, 1) := by decide +kernel
theorem dX11_text_38 : decode cX11_text 38 = .ok (.iconst 0, 1) := by decide +kernel
theorem dX11_text_39 : decode cX11_text 39 = .ok (.istore_n 2, 1) := by decide +kernel
theorem dX11_text_40 : decode cX11_text 40 = .ok (.iload_n 2, 1) := by decide +kernel
theorem dX11_text_41 : decode cX11_text 41 = .ok (.bipush 6, 2) := by decide +kernel
theorem dX11_text_43 : decode cX11_text 43 = .ok (.if_icmp .ge 24, 3) := by decide +kernel
theorem dX11_text_46 : decode cX11_text 46 = .ok (.aload_n 0, 1) := by decide +kernel
theorem dX11_text_47 : decode cX11_text 47 = .ok (.getfield 56, 3) := by decide +kernel
theorem dX11_text_50 : decode cX11_text 50 = .ok (.iload_n 2, 1) := by decide +kernel
theorem dX11_text_51 : decode cX11_text 51 = .ok (.iconst 1, 1) := by decide +kernel
theorem dX11_text_52 : decode cX11_text 52 = .ok (.iastore, 1) := by decide +kernel
theorem dX11_text_53 : decode cX11_text 53 = .ok (.aload_n 0, 1) := by decide +kernel
theorem dX11_text_54 : decode cX11_text 54 = .ok (.getfield 59, 3) := by decide +kernel
theorem dX11_text_57 : decode cX11_text 57 = .ok (.iload_n 2, 1) := by decide +kernel
theorem dX11_text_58 : decode cX11_text 58 = .ok (.bipush 10, 2) := by decide +kernel
theorem dX11_text_60 : decode cX11_text 60 = .ok (.iastore, 1) := by decide +kernel
theorem dX11_text_61 : decode cX11_text 61 = .ok (.iinc 2 1, 3) := by decide +kernel
theorem dX11_text_64 : decode cX11_text 64 = .ok (.goto (-24), 3) := by decide +kernel
theorem dX11_text_67 : decode cX11_text 67 = .ok (.aload_n 0, 1) := by decide +kernel
theorem dX11_text_68 : decode cX11_text 68 = .ok (.invokevirtual 137, 3) := by decide +kernel
theorem dX11_text_71 : decode cX11_text 71 = .ok (.aload_n 0, 1) := by decide +kernel
theorem dX11_text_72 : decode cX11_text 72 = .ok (.getfield 100, 3) := by decide +kernel
theorem dX11_text_75 : decode cX11_text 75 = .ok (.ifCond .ne 20, 3) := by decide +kernel
theorem dX11_text_78 : decode cX11_text 78 = .ok (.aload_n 0, 1) := by decide +kernel
theorem dX11_text_79 : decode cX11_text 79 = .ok (.getfield 119, 3) := by decide +kernel
theorem dX11_text_82 : decode cX11_text 82 = .ok (.ifCond .eq 13, 3) := by decide +kernel
theorem dX11_text_85 : decode cX11_text 85 = .ok (.aload_n 0, 1) := by decide +kernel
theorem dX11_text_86 : decode cX11_text 86 = .ok (.invokevirtual 178, 3) := by decide +kernel
theorem dX11_text_89 : decode cX11_text 89 = .ok (.iinc 1 1, 3) := by decide +kernel
theorem dX11_text_92 : decode cX11_text 92 = .ok (.goto (-21), 3) := by decide +kernel
theorem dX11_text_95 : decode cX11_text 95 = .ok (.aload_n 0, 1) := by decide +kernel
theorem dX11_text_96 : decode cX11_text 96 = .ok (.iconst 0, 1) := by decide +kernel
theorem dX11_text_97 : decode cX11_text 97 = .ok (.putfield 93, 3) := by decide +kernel
theorem dX11_text_100 : decode cX11_text 100 = .ok (.aload_n 0, 1) := by decide +kernel
theorem dX11_text_101 : decode cX11_text 101 = .ok (.aload_n 0, 1) := by decide +kernel
theorem dX11_text_102 : decode cX11_text 102 = .ok (.getfield 100, 3) := by decide +kernel
theorem dX11_text_105 : decode cX11_text 105 = .ok (.putfield 181, 3) := by decide +kernel
theorem dX11_text_108 : decode cX11_text 108 = .ok (.aload_n 0, 1) := by decide +kernel
theorem dX11_text_109 : decode cX11_text 109 = .ok (.getfield 100, 3) := by decide +kernel
theorem dX11_text_112 : decode cX11_text 112 = .ok (.ifCond .le 11, 3) := by decide +kernel
theorem dX11_text_115 : decode cX11_text 115 = .ok (.bipush (-10), 2) := by decide +kernel
theorem dX11_text_117 : decode cX11_text 117 = .ok (.aload_n 0, 1) := by decide +kernel
theorem dX11_text_118 : decode cX11_text 118 = .ok (.getfield 106, 3) := by decide +kernel
theorem dX11_text_121 : decode cX11_text 121 = .ok (.isub, 1) := by decide +kernel
theorem dX11_text_122 : decode cX11_text 122 = .ok (.ireturn, 1) := by decide +kernel
theorem dX11_text_123 : decode cX11_text 123 = .ok (.aload_n 0, 1) := by decide +kernel
theorem dX11_text_124 : decode cX11_text 124 = .ok (.aload_n 0, 1) := by decide +kernel
theorem dX11_text_125 : decode cX11_text 125 = .ok (.getfield 134, 3) := by decide +kernel
theorem dX11_text_128 : decode cX11_text 128 = .ok (.putfield 184, 3) := by decide +kernel
theorem dX11_text_131 : decode cX11_text 131 = .ok (.aload_n 0, 1) := by decide +kernel
theorem dX11_text_132 : decode cX11_text 132 = .ok (.aload_n 0, 1) := by decide +kernel
theorem dX11_text_133 : decode cX11_text 133 = .ok (.getfield 149, 3) := by decide +kernel
theorem dX11_text_136 : decode cX11_text 136 = .ok (.putfield 187, 3) := by decide +kernel
theorem dX11_text_139 : decode cX11_text 139 = .ok (.aload_n 0, 1) := by decide +kernel
theorem dX11_text_140 : decode cX11_text 140 = .ok (.aload_n 0, 1) := by decide +kernel
theorem dX11_text_141 : decode cX11_text 141 = .ok (.getfield 169, 3) := by decide +kernel
theorem dX11_text_144 : decode cX11_text 144 = .ok (.putfield 31, 3) := by decide +kernel
theorem dX11_text_147 : decode cX11_text 147 = .ok (.iconst 0, 1) := by decide +kernel
theorem dX11_text_148 : decode cX11_text 148 = .ok (.istore_n 2, 1) := by decide +kernel
theorem dX11_text_149 : decode cX11_text 149 = .ok (.iload_n 2, 1) := by decide +kernel
theorem dX11_text_150 : decode cX11_text 150 = .ok (.aload_n 0, 1) := by decide +kernel
theorem dX11_text_151 : decode cX11_text 151 = .ok (.getfield 184, 3) := by decide +kernel
theorem dX11_text_154 : decode cX11_text 154 = .ok (.if_icmp .ge 45, 3) := by decide +kernel
theorem dX11_text_157 : decode cX11_text 157 = .ok (.aload_n 0, 1) := by decide +kernel
theorem dX11_text_158 : decode cX11_text 158 = .ok (.getfield 19, 3) := by decide +kernel
theorem dX11_text_161 : decode cX11_text 161 = .ok (.iload_n 2, 1) := by decide +kernel
theorem dX11_text_162 : decode cX11_text 162 = .ok (.aload_n 0, 1) := by decide +kernel
theorem dX11_text_163 : decode cX11_text 163 = .ok (.getfield 41, 3) := by decide +kernel
theorem dX11_text_166 : decode cX11_text 166 = .ok (.iload_n 2, 1) := by decide +kernel
theorem dX11_text_167 : decode cX11_text 167 = .ok (.iaload, 1) := by decide +kernel
theorem dX11_text_168 : decode cX11_text 168 = .ok (.iastore, 1) := by decide +kernel
theorem dX11_text_169 : decode cX11_text 169 = .ok (.aload_n 0, 1) := by decide +kernel
theorem dX11_text_170 : decode cX11_text 170 = .ok (.getfield 22, 3) := by decide +kernel
theorem dX11_text_173 : decode cX11_text 173 = .ok (.iload_n 2, 1) := by decide +kernel
theorem dX11_text_174 : decode cX11_text 174 = .ok (.aload_n 0, 1) := by decide +kernel
theorem dX11_text_175 : decode cX11_text 175 = .ok (.getfield 44, 3) := by decide +kernel
theorem dX11_text_178 : decode cX11_text 178 = .ok (.iload_n 2, 1) := by decide +kernel
theorem dX11_text_179 : decode cX11_text 179 = .ok (.iaload, 1) := by decide +kernel
theorem dX11_text_180 : decode cX11_text 180 = .ok (.iastore, 1) := by decide +kernel
theorem dX11_text_181 : decode cX11_text 181 = .ok (.aload_n 0, 1) := by decide +kernel
theorem dX11_text_182 : decode cX11_text 182 = .ok (.getfield 25, 3) := by decide +kernel
theorem dX11_text_185 : decode cX11_text 185 = .ok (.iload_n 2, 1) := by decide +kernel
theorem dX11_text_186 : decode cX11_text 186 = .ok (.aload_n 0, 1) := by decide +kernel
theorem dX11_text_187 : decode cX11_text 187 = .ok (.getfield 47, 3) := by decide +kernel
theorem dX11_text_190 : decode cX11_text 190 = .ok (.iload_n 2, 1) := by decide +kernel
theorem dX11_text_191 : decode cX11_text 191 = .ok (.iaload, 1) := by decide +kernel
theorem dX11_text_192 : decode cX11_text 192 = .ok (.iastore, 1) := by decide +kernel
theorem dX11_text_193 : decode cX11_text 193 = .ok (.iinc 2 1, 3) := by decide +kernel
theorem dX11_text_196 : decode cX11_text 196 = .ok (.goto (-47), 3) := by decide +kernel
theorem dX11_text_199 : decode cX11_text 199 = .ok (.iconst 0, 1) := by decide +kernel
theorem dX11_text_200 : decode cX11_text 200 = .ok (.istore_n 2, 1) := by decide +kernel
theorem dX11_text_201 : decode cX11_text 201 = .ok (.iload_n 2, 1) := by decide +kernel
theorem dX11_text_202 : decode cX11_text 202 = .ok (.bipush 64, 2) := by decide +kernel
theorem dX11_text_204 : decode cX11_text 204 = .ok (.if_icmp .ge 21, 3) := by decide +kernel
theorem dX11_text_207 : decode cX11_text 207 = .ok (.aload_n 0, 1) := by decide +kernel
theorem dX11_text_208 : decode cX11_text 208 = .ok (.getfield 28, 3) := by decide +kernel
theorem dX11_text_211 : decode cX11_text 211 = .ok (.iload_n 2, 1) := by decide +kernel
theorem dX11_text_212 : decode cX11_text 212 = .ok (.aload_n 0, 1) := by decide +kernel
theorem dX11_text_213 : decode cX11_text 213 = .ok (.getfield 53, 3) := by decide +kernel
theorem dX11_text_216 : decode cX11_text 216 = .ok (.iload_n 2, 1) := by decide +kernel
theorem dX11_text_217 : decode cX11_text 217 = .ok (.iaload, 1) := by decide +kernel
theorem dX11_text_218 : decode cX11_text 218 = .ok (.iastore, 1) := by decide +kernel
theorem dX11_text_219 : decode cX11_text 219 = .ok (.iinc 2 1, 3) := by decide +kernel
theorem dX11_text_222 : decode cX11_text 222 = .ok (.goto (-21), 3) := by decide +kernel
theorem dX11_text_225 : decode cX11_text 225 = .ok (.iconst 0, 1) := by decide +kernel
theorem dX11_text_226 : decode cX11_text 226 = .ok (.istore_n 2, 1) := by decide +kernel
theorem dX11_text_227 : decode cX11_text 227 = .ok (.iload_n 2, 1) := by decide +kernel
theorem dX11_text_228 : decode cX11_text 228 = .ok (.bipush 6, 2) := by decide +kernel
theorem dX11_text_230 : decode cX11_text 230 = .ok (.if_icmp .ge 33, 3) := by decide +kernel
theorem dX11_text_233 : decode cX11_text 233 = .ok (.aload_n 0, 1) := by decide +kernel
theorem dX11_text_234 : decode cX11_text 234 = .ok (.getfield 35, 3) := by decide +kernel
theorem dX11_text_237 : decode cX11_text 237 = .ok (.iload_n 2, 1) := by decide +kernel
theorem dX11_text_238 : decode cX11_text 238 = .ok (.aload_n 0, 1) := by decide +kernel
theorem dX11_text_239 : decode cX11_text 239 = .ok (.getfield 56, 3) := by decide +kernel
theorem dX11_text_242 : decode cX11_text 242 = .ok (.iload_n 2, 1) := by decide +kernel
theorem dX11_text_243 : decode cX11_text 243 = .ok (.iaload, 1) := by decide +kernel
theorem dX11_text_244 : decode cX11_text 244 = .ok (.iastore, 1) := by decide +kernel
theorem dX11_text_245 : decode cX11_text 245 = .ok (.aload_n 0, 1) := by decide +kernel
theorem dX11_text_246 : decode cX11_text 246 = .ok (.getfield 38, 3) := by decide +kernel
theorem dX11_text_249 : decode cX11_text 249 = .ok (.iload_n 2, 1) := by decide +kernel
theorem dX11_text_250 : decode cX11_text 250 = .ok (.aload_n 0, 1) := by decide +kernel
theorem dX11_text_251 : decode cX11_text 251 = .ok (.getfield 59, 3) := by decide +kernel
theorem dX11_text_254 : decode cX11_text 254 = .ok (.iload_n 2, 1) := by decide +kernel
theorem dX11_text_255 : decode cX11_text 255 = .ok (.iaload, 1) := by decide +kernel
theorem dX11_text_256 : decode cX11_text 256 = .ok (.iastore, 1) := by decide +kernel
theorem dX11_text_257 : decode cX11_text 257 = .ok (.iinc 2 1, 3) := by decide +kernel
theorem dX11_text_260 : decode cX11_text 260 = .ok (.goto (-33), 3) := by decide +kernel
theorem dX11_text_263 : decode cX11_text 263 = .ok (.iload_n 1, 1) := by decide +kernel
theorem dX11_text_264 : decode cX11_text 264 = .ok (.ireturn, 1) := by decide +kernel
theorem dX11_fault_0 : decode cX11_fault 0 = .ok (.aload_n 0, 1) := by decide +kernel
theorem dX11_fault_1 : decode cX11_fault 1 = .ok (.getfield 181, 3) := by decide +kernel
theorem dX11_fault_4 : decode cX11_fault 4 = .ok (.ireturn, 1) := by decide +kernel
theorem dX11_isColour_0 : decode cX11_isColour 0 = .ok (.iload_n 0, 1) := by decide +kernel
theorem dX11_isColour_1 : decode cX11_isColour 1 = .ok (.i2l, 1) := by decide +kernel
theorem dX11_isColour_2 : decode cX11_isColour 2 = .ok (.lconst 0, 1) := by decide +kernel
theorem dX11_isColour_3 : decode cX11_isColour 3 = .ok (.ldc2_w 144, 3) := by decide +kernel
theorem dX11_isColour_6 : decode cX11_isColour 6 = .ok (.invokestatic 96, 3) := by decide +kernel
theorem dX11_isColour_9 : decode cX11_isColour 9 = .ok (.ireturn, 1) := by decide +kernel
theorem dX11_told_0 : decode cX11_told 0 = .ok (.iload_n 1, 1) := by decide +kernel
theorem dX11_told_1 : decode cX11_told 1 = .ok (.ifCond .ne 10, 3) := by decide +kernel
theorem dX11_told_4 : decode cX11_told 4 = .ok (.aload_n 0, 1) := by decide +kernel
theorem dX11_told_5 : decode cX11_told 5 = .ok (.getfield 184, 3) := by decide +kernel
theorem dX11_told_8 : decode cX11_told 8 = .ok (.goto 72, 3) := by decide +kernel
theorem dX11_told_11 : decode cX11_told 11 = .ok (.iload_n 1, 1) := by decide +kernel
theorem dX11_told_12 : decode cX11_told 12 = .ok (.iconst 1, 1) := by decide +kernel
theorem dX11_told_13 : decode cX11_told 13 = .ok (.if_icmp .ne 10, 3) := by decide +kernel
theorem dX11_told_16 : decode cX11_told 16 = .ok (.aload_n 0, 1) := by decide +kernel
theorem dX11_told_17 : decode cX11_told 17 = .ok (.getfield 187, 3) := by decide +kernel
theorem dX11_told_20 : decode cX11_told 20 = .ok (.goto 60, 3) := by decide +kernel
theorem dX11_told_23 : decode cX11_told 23 = .ok (.iload_n 1, 1) := by decide +kernel
theorem dX11_told_24 : decode cX11_told 24 = .ok (.iconst 2, 1) := by decide +kernel
theorem dX11_told_25 : decode cX11_told 25 = .ok (.if_icmp .ne 10, 3) := by decide +kernel
theorem dX11_told_28 : decode cX11_told 28 = .ok (.aload_n 0, 1) := by decide +kernel
theorem dX11_told_29 : decode cX11_told 29 = .ok (.getfield 31, 3) := by decide +kernel
theorem dX11_told_32 : decode cX11_told 32 = .ok (.goto 48, 3) := by decide +kernel
theorem dX11_told_35 : decode cX11_told 35 = .ok (.iload_n 1, 1) := by decide +kernel
theorem dX11_told_36 : decode cX11_told 36 = .ok (.bipush 10, 2) := by decide +kernel
theorem dX11_told_38 : decode cX11_told 38 = .ok (.isub, 1) := by decide +kernel
theorem dX11_told_39 : decode cX11_told 39 = .ok (.invokestatic 190, 3) := by decide +kernel
theorem dX11_told_42 : decode cX11_told 42 = .ok (.ifCond .eq 15, 3) := by decide +kernel
theorem dX11_told_45 : decode cX11_told 45 = .ok (.aload_n 0, 1) := by decide +kernel
theorem dX11_told_46 : decode cX11_told 46 = .ok (.getfield 35, 3) := by decide +kernel
theorem dX11_told_49 : decode cX11_told 49 = .ok (.iload_n 1, 1) := by decide +kernel
theorem dX11_told_50 : decode cX11_told 50 = .ok (.bipush 10, 2) := by decide +kernel
theorem dX11_told_52 : decode cX11_told 52 = .ok (.isub, 1) := by decide +kernel
theorem dX11_told_53 : decode cX11_told 53 = .ok (.iaload, 1) := by decide +kernel
theorem dX11_told_54 : decode cX11_told 54 = .ok (.goto 26, 3) := by decide +kernel
theorem dX11_told_57 : decode cX11_told 57 = .ok (.iload_n 1, 1) := by decide +kernel
theorem dX11_told_58 : decode cX11_told 58 = .ok (.bipush 20, 2) := by decide +kernel
theorem dX11_told_60 : decode cX11_told 60 = .ok (.isub, 1) := by decide +kernel
theorem dX11_told_61 : decode cX11_told 61 = .ok (.invokestatic 190, 3) := by decide +kernel
theorem dX11_told_64 : decode cX11_told 64 = .ok (.ifCond .eq 15, 3) := by decide +kernel
theorem dX11_told_67 : decode cX11_told 67 = .ok (.aload_n 0, 1) := by decide +kernel
theorem dX11_told_68 : decode cX11_told 68 = .ok (.getfield 38, 3) := by decide +kernel
theorem dX11_told_71 : decode cX11_told 71 = .ok (.iload_n 1, 1) := by decide +kernel
theorem dX11_told_72 : decode cX11_told 72 = .ok (.bipush 20, 2) := by decide +kernel
theorem dX11_told_74 : decode cX11_told 74 = .ok (.isub, 1) := by decide +kernel
theorem dX11_told_75 : decode cX11_told 75 = .ok (.iaload, 1) := by decide +kernel
theorem dX11_told_76 : decode cX11_told 76 = .ok (.goto 4, 3) := by decide +kernel
theorem dX11_told_79 : decode cX11_told 79 = .ok (.iconst (-1), 1) := by decide +kernel
theorem dX11_told_80 : decode cX11_told 80 = .ok (.ireturn, 1) := by decide +kernel
theorem dX11_isThing_0 : decode cX11_isThing 0 = .ok (.iload_n 1, 1) := by decide +kernel
theorem dX11_isThing_1 : decode cX11_isThing 1 = .ok (.i2l, 1) := by decide +kernel
theorem dX11_isThing_2 : decode cX11_isThing 2 = .ok (.lconst 0, 1) := by decide +kernel
theorem dX11_isThing_3 : decode cX11_isThing 3 = .ok (.aload_n 0, 1) := by decide +kernel
theorem dX11_isThing_4 : decode cX11_isThing 4 = .ok (.getfield 184, 3) := by decide +kernel
theorem dX11_isThing_7 : decode cX11_isThing 7 = .ok (.iconst 1, 1) := by decide +kernel
theorem dX11_isThing_8 : decode cX11_isThing 8 = .ok (.isub, 1) := by decide +kernel
theorem dX11_isThing_9 : decode cX11_isThing 9 = .ok (.i2l, 1) := by decide +kernel
theorem dX11_isThing_10 : decode cX11_isThing 10 = .ok (.invokestatic 96, 3) := by decide +kernel
theorem dX11_isThing_13 : decode cX11_isThing 13 = .ok (.ireturn, 1) := by decide +kernel
theorem dX11_layBefore_0 : decode cX11_layBefore 0 = .ok (.iconst 0, 1) := by decide +kernel
theorem dX11_layBefore_1 : decode cX11_layBefore 1 = .ok (.istore_n 1, 1) := by decide +kernel
theorem dX11_layBefore_2 : decode cX11_layBefore 2 = .ok (.iload_n 1, 1) := by decide +kernel
theorem dX11_layBefore_3 : decode cX11_layBefore 3 = .ok (.aload_n 0, 1) := by decide +kernel
theorem dX11_layBefore_4 : decode cX11_layBefore 4 = .ok (.getfield 184, 3) := by decide +kernel
theorem dX11_layBefore_7 : decode cX11_layBefore 7 = .ok (.if_icmp .ge 21, 3) := by decide +kernel
theorem dX11_layBefore_10 : decode cX11_layBefore 10 = .ok (.aload_n 0, 1) := by decide +kernel
theorem dX11_layBefore_11 : decode cX11_layBefore 11 = .ok (.getfield 62, 3) := by decide +kernel
theorem dX11_layBefore_14 : decode cX11_layBefore 14 = .ok (.iload_n 1, 1) := by decide +kernel
theorem dX11_layBefore_15 : decode cX11_layBefore 15 = .ok (.aload_n 0, 1) := by decide +kernel
theorem dX11_layBefore_16 : decode cX11_layBefore 16 = .ok (.getfield 25, 3) := by decide +kernel
theorem dX11_layBefore_19 : decode cX11_layBefore 19 = .ok (.iload_n 1, 1) := by decide +kernel
theorem dX11_layBefore_20 : decode cX11_layBefore 20 = .ok (.iaload, 1) := by decide +kernel
theorem dX11_layBefore_21 : decode cX11_layBefore 21 = .ok (.iastore, 1) := by decide +kernel
theorem dX11_layBefore_22 : decode cX11_layBefore 22 = .ok (.iinc 1 1, 3) := by decide +kernel
theorem dX11_layBefore_25 : decode cX11_layBefore 25 = .ok (.goto (-23), 3) := by decide +kernel
theorem dX11_layBefore_28 : decode cX11_layBefore 28 = .ok (.iconst 0, 1) := by decide +kernel
theorem dX11_layBefore_29 : decode cX11_layBefore 29 = .ok (.istore_n 1, 1) := by decide +kernel
theorem dX11_layBefore_30 : decode cX11_layBefore 30 = .ok (.iload_n 1, 1) := by decide +kernel
theorem dX11_layBefore_31 : decode cX11_layBefore 31 = .ok (.aload_n 0, 1) := by decide +kernel
theorem dX11_layBefore_32 : decode cX11_layBefore 32 = .ok (.getfield 184, 3) := by decide +kernel
theorem dX11_layBefore_35 : decode cX11_layBefore 35 = .ok (.if_icmp .ge 58, 3) := by decide +kernel
theorem dX11_layBefore_38 : decode cX11_layBefore 38 = .ok (.iconst 0, 1) := by decide +kernel
theorem dX11_layBefore_39 : decode cX11_layBefore 39 = .ok (.istore_n 2, 1) := by decide +kernel
theorem dX11_layBefore_40 : decode cX11_layBefore 40 = .ok (.iload_n 2, 1) := by decide +kernel
