theorem dX11_layBefore_41 : decode cX11_layBefore 41 = .ok (.aload_n 0, 1) := by decide +kernel
theorem dX11_layBefore_42 : decode cX11_layBefore 42 = .ok (.getfield 184, 3) := by decide +kernel
theorem dX11_layBefore_45 : decode cX11_layBefore 45 = .ok (.if_icmp .ge 42, 3) := by decide +kernel
theorem dX11_layBefore_48 : decode cX11_layBefore 48 = .ok (.aload_n 0, 1) := by decide +kernel
theorem dX11_layBefore_49 : decode cX11_layBefore 49 = .ok (.getfield 62, 3) := by decide +kernel
theorem dX11_layBefore_52 : decode cX11_layBefore 52 = .ok (.iload_n 2, 1) := by decide +kernel
theorem dX11_layBefore_53 : decode cX11_layBefore 53 = .ok (.dup2, 1) := by decide +kernel
theorem dX11_layBefore_54 : decode cX11_layBefore 54 = .ok (.iaload, 1) := by decide +kernel
theorem dX11_layBefore_55 : decode cX11_layBefore 55 = .ok (.aload_n 0, 1) := by decide +kernel
theorem dX11_layBefore_56 : decode cX11_layBefore 56 = .ok (.getfield 62, 3) := by decide +kernel
theorem dX11_layBefore_59 : decode cX11_layBefore 59 = .ok (.iload_n 2, 1) := by decide +kernel
theorem dX11_layBefore_60 : decode cX11_layBefore 60 = .ok (.iaload, 1) := by decide +kernel
theorem dX11_layBefore_61 : decode cX11_layBefore 61 = .ok (.iload_n 1, 1) := by decide +kernel
theorem dX11_layBefore_62 : decode cX11_layBefore 62 = .ok (.ishr, 1) := by decide +kernel
theorem dX11_layBefore_63 : decode cX11_layBefore 63 = .ok (.iconst 1, 1) := by decide +kernel
theorem dX11_layBefore_64 : decode cX11_layBefore 64 = .ok (.iand, 1) := by decide +kernel
theorem dX11_layBefore_65 : decode cX11_layBefore 65 = .ok (.iconst 1, 1) := by decide +kernel
theorem dX11_layBefore_66 : decode cX11_layBefore 66 = .ok (.if_icmp .ne 12, 3) := by decide +kernel
theorem dX11_layBefore_69 : decode cX11_layBefore 69 = .ok (.aload_n 0, 1) := by decide +kernel
theorem dX11_layBefore_70 : decode cX11_layBefore 70 = .ok (.getfield 62, 3) := by decide +kernel
theorem dX11_layBefore_73 : decode cX11_layBefore 73 = .ok (.iload_n 1, 1) := by decide +kernel
theorem dX11_layBefore_74 : decode cX11_layBefore 74 = .ok (.iaload, 1) := by decide +kernel
theorem dX11_layBefore_75 : decode cX11_layBefore 75 = .ok (.goto 4, 3) := by decide +kernel
theorem dX11_layBefore_78 : decode cX11_layBefore 78 = .ok (.iconst 0, 1) := by decide +kernel
theorem dX11_layBefore_79 : decode cX11_layBefore 79 = .ok (.ior, 1) := by decide +kernel
theorem dX11_layBefore_80 : decode cX11_layBefore 80 = .ok (.iastore, 1) := by decide +kernel
theorem dX11_layBefore_81 : decode cX11_layBefore 81 = .ok (.iinc 2 1, 3) := by decide +kernel
theorem dX11_layBefore_84 : decode cX11_layBefore 84 = .ok (.goto (-44), 3) := by decide +kernel
theorem dX11_layBefore_87 : decode cX11_layBefore 87 = .ok (.iinc 1 1, 3) := by decide +kernel
theorem dX11_layBefore_90 : decode cX11_layBefore 90 = .ok (.goto (-60), 3) := by decide +kernel
theorem dX11_layBefore_93 : decode cX11_layBefore 93 = .ok (.return_, 1) := by decide +kernel
theorem dX11_ringed_0 : decode cX11_ringed 0 = .ok (.iconst 0, 1) := by decide +kernel
theorem dX11_ringed_1 : decode cX11_ringed 1 = .ok (.istore_n 1, 1) := by decide +kernel
theorem dX11_ringed_2 : decode cX11_ringed 2 = .ok (.iconst 0, 1) := by decide +kernel
theorem dX11_ringed_3 : decode cX11_ringed 3 = .ok (.istore_n 2, 1) := by decide +kernel
theorem dX11_ringed_4 : decode cX11_ringed 4 = .ok (.iload_n 2, 1) := by decide +kernel
theorem dX11_ringed_5 : decode cX11_ringed 5 = .ok (.aload_n 0, 1) := by decide +kernel
theorem dX11_ringed_6 : decode cX11_ringed 6 = .ok (.getfield 184, 3) := by decide +kernel
theorem dX11_ringed_9 : decode cX11_ringed 9 = .ok (.if_icmp .ge 22, 3) := by decide +kernel
theorem dX11_ringed_12 : decode cX11_ringed 12 = .ok (.iload_n 1, 1) := by decide +kernel
theorem dX11_ringed_13 : decode cX11_ringed 13 = .ok (.aload_n 0, 1) := by decide +kernel
theorem dX11_ringed_14 : decode cX11_ringed 14 = .ok (.getfield 62, 3) := by decide +kernel
theorem dX11_ringed_17 : decode cX11_ringed 17 = .ok (.iload_n 2, 1) := by decide +kernel
theorem dX11_ringed_18 : decode cX11_ringed 18 = .ok (.iaload, 1) := by decide +kernel
theorem dX11_ringed_19 : decode cX11_ringed 19 = .ok (.iconst 1, 1) := by decide +kernel
theorem dX11_ringed_20 : decode cX11_ringed 20 = .ok (.iload_n 2, 1) := by decide +kernel
theorem dX11_ringed_21 : decode cX11_ringed 21 = .ok (.ishl, 1) := by decide +kernel
theorem dX11_ringed_22 : decode cX11_ringed 22 = .ok (.iand, 1) := by decide +kernel
theorem dX11_ringed_23 : decode cX11_ringed 23 = .ok (.ior, 1) := by decide +kernel
theorem dX11_ringed_24 : decode cX11_ringed 24 = .ok (.istore_n 1, 1) := by decide +kernel
theorem dX11_ringed_25 : decode cX11_ringed 25 = .ok (.iinc 2 1, 3) := by decide +kernel
theorem dX11_ringed_28 : decode cX11_ringed 28 = .ok (.goto (-24), 3) := by decide +kernel
theorem dX11_ringed_31 : decode cX11_ringed 31 = .ok (.iload_n 1, 1) := by decide +kernel
theorem dX11_ringed_32 : decode cX11_ringed 32 = .ok (.ireturn, 1) := by decide +kernel
theorem dX11_thing_0 : decode cX11_thing 0 = .ok (.aload_n 0, 1) := by decide +kernel
theorem dX11_thing_1 : decode cX11_thing 1 = .ok (.iload_n 1, 1) := by decide +kernel
theorem dX11_thing_2 : decode cX11_thing 2 = .ok (.invokevirtual 194, 3) := by decide +kernel
theorem dX11_thing_5 : decode cX11_thing 5 = .ok (.ifCond .eq 15, 3) := by decide +kernel
theorem dX11_thing_8 : decode cX11_thing 8 = .ok (.iload_n 2, 1) := by decide +kernel
theorem dX11_thing_9 : decode cX11_thing 9 = .ok (.i2l, 1) := by decide +kernel
theorem dX11_thing_10 : decode cX11_thing 10 = .ok (.lconst 0, 1) := by decide +kernel
theorem dX11_thing_11 : decode cX11_thing 11 = .ok (.ldc2_w 197, 3) := by decide +kernel
theorem dX11_thing_14 : decode cX11_thing 14 = .ok (.invokestatic 96, 3) := by decide +kernel
theorem dX11_thing_17 : decode cX11_thing 17 = .ok (.ifCond .ne 5, 3) := by decide +kernel
theorem dX11_thing_20 : decode cX11_thing 20 = .ok (.iconst (-1), 1) := by decide +kernel
theorem dX11_thing_21 : decode cX11_thing 21 = .ok (.ireturn, 1) := by decide +kernel
theorem dX11_thing_22 : decode cX11_thing 22 = .ok (.aload_n 0, 1) := by decide +kernel
theorem dX11_thing_23 : decode cX11_thing 23 = .ok (.invokevirtual 199, 3) := by decide +kernel
theorem dX11_thing_26 : decode cX11_thing 26 = .ok (.iload_n 2, 1) := by decide +kernel
theorem dX11_thing_27 : decode cX11_thing 27 = .ok (.ifCond .ne 12, 3) := by decide +kernel
theorem dX11_thing_30 : decode cX11_thing 30 = .ok (.aload_n 0, 1) := by decide +kernel
theorem dX11_thing_31 : decode cX11_thing 31 = .ok (.getfield 19, 3) := by decide +kernel
theorem dX11_thing_34 : decode cX11_thing 34 = .ok (.iload_n 1, 1) := by decide +kernel
theorem dX11_thing_35 : decode cX11_thing 35 = .ok (.iaload, 1) := by decide +kernel
theorem dX11_thing_36 : decode cX11_thing 36 = .ok (.goto 37, 3) := by decide +kernel
theorem dX11_thing_39 : decode cX11_thing 39 = .ok (.iload_n 2, 1) := by decide +kernel
theorem dX11_thing_40 : decode cX11_thing 40 = .ok (.iconst 1, 1) := by decide +kernel
theorem dX11_thing_41 : decode cX11_thing 41 = .ok (.if_icmp .ne 12, 3) := by decide +kernel
theorem dX11_thing_44 : decode cX11_thing 44 = .ok (.aload_n 0, 1) := by decide +kernel
theorem dX11_thing_45 : decode cX11_thing 45 = .ok (.getfield 22, 3) := by decide +kernel
theorem dX11_thing_48 : decode cX11_thing 48 = .ok (.iload_n 1, 1) := by decide +kernel
theorem dX11_thing_49 : decode cX11_thing 49 = .ok (.iaload, 1) := by decide +kernel
theorem dX11_thing_50 : decode cX11_thing 50 = .ok (.goto 23, 3) := by decide +kernel
theorem dX11_thing_53 : decode cX11_thing 53 = .ok (.iload_n 2, 1) := by decide +kernel
theorem dX11_thing_54 : decode cX11_thing 54 = .ok (.iconst 2, 1) := by decide +kernel
theorem dX11_thing_55 : decode cX11_thing 55 = .ok (.if_icmp .ne 12, 3) := by decide +kernel
theorem dX11_thing_58 : decode cX11_thing 58 = .ok (.aload_n 0, 1) := by decide +kernel
theorem dX11_thing_59 : decode cX11_thing 59 = .ok (.getfield 25, 3) := by decide +kernel
theorem dX11_thing_62 : decode cX11_thing 62 = .ok (.iload_n 1, 1) := by decide +kernel
theorem dX11_thing_63 : decode cX11_thing 63 = .ok (.iaload, 1) := by decide +kernel
theorem dX11_thing_64 : decode cX11_thing 64 = .ok (.goto 9, 3) := by decide +kernel
theorem dX11_thing_67 : decode cX11_thing 67 = .ok (.aload_n 0, 1) := by decide +kernel
theorem dX11_thing_68 : decode cX11_thing 68 = .ok (.getfield 62, 3) := by decide +kernel
theorem dX11_thing_71 : decode cX11_thing 71 = .ok (.iload_n 1, 1) := by decide +kernel
theorem dX11_thing_72 : decode cX11_thing 72 = .ok (.iaload, 1) := by decide +kernel
theorem dX11_thing_73 : decode cX11_thing 73 = .ok (.ireturn, 1) := by decide +kernel
theorem dX11_ahead_0 : decode cX11_ahead 0 = .ok (.aload_n 0, 1) := by decide +kernel
theorem dX11_ahead_1 : decode cX11_ahead 1 = .ok (.iload_n 1, 1) := by decide +kernel
theorem dX11_ahead_2 : decode cX11_ahead 2 = .ok (.invokevirtual 194, 3) := by decide +kernel
theorem dX11_ahead_5 : decode cX11_ahead 5 = .ok (.ifCond .eq 16, 3) := by decide +kernel
theorem dX11_ahead_8 : decode cX11_ahead 8 = .ok (.aload_n 0, 1) := by decide +kernel
theorem dX11_ahead_9 : decode cX11_ahead 9 = .ok (.iload_n 2, 1) := by decide +kernel
theorem dX11_ahead_10 : decode cX11_ahead 10 = .ok (.invokevirtual 194, 3) := by decide +kernel
theorem dX11_ahead_13 : decode cX11_ahead 13 = .ok (.ifCond .eq 8, 3) := by decide +kernel
theorem dX11_ahead_16 : decode cX11_ahead 16 = .ok (.iload_n 1, 1) := by decide +kernel
theorem dX11_ahead_17 : decode cX11_ahead 17 = .ok (.iload_n 2, 1) := by decide +kernel
theorem dX11_ahead_18 : decode cX11_ahead 18 = .ok (.if_icmp .ne 5, 3) := by decide +kernel
theorem dX11_ahead_21 : decode cX11_ahead 21 = .ok (.iconst (-1), 1) := by decide +kernel
theorem dX11_ahead_22 : decode cX11_ahead 22 = .ok (.ireturn, 1) := by decide +kernel
theorem dX11_ahead_23 : decode cX11_ahead 23 = .ok (.aload_n 0, 1) := by decide +kernel
theorem dX11_ahead_24 : decode cX11_ahead 24 = .ok (.invokevirtual 199, 3) := by decide +kernel
theorem dX11_ahead_27 : decode cX11_ahead 27 = .ok (.aload_n 0, 1) := by decide +kernel
theorem dX11_ahead_28 : decode cX11_ahead 28 = .ok (.getfield 62, 3) := by decide +kernel
theorem dX11_ahead_31 : decode cX11_ahead 31 = .ok (.iload_n 2, 1) := by decide +kernel
theorem dX11_ahead_32 : decode cX11_ahead 32 = .ok (.iaload, 1) := by decide +kernel
theorem dX11_ahead_33 : decode cX11_ahead 33 = .ok (.iload_n 1, 1) := by decide +kernel
theorem dX11_ahead_34 : decode cX11_ahead 34 = .ok (.ishr, 1) := by decide +kernel
theorem dX11_ahead_35 : decode cX11_ahead 35 = .ok (.iconst 1, 1) := by decide +kernel
theorem dX11_ahead_36 : decode cX11_ahead 36 = .ok (.iand, 1) := by decide +kernel
theorem dX11_ahead_37 : decode cX11_ahead 37 = .ok (.ireturn, 1) := by decide +kernel
theorem dX11_ringOf_0 : decode cX11_ringOf 0 = .ok (.aload_n 0, 1) := by decide +kernel
theorem dX11_ringOf_1 : decode cX11_ringOf 1 = .ok (.getfield 25, 3) := by decide +kernel
theorem dX11_ringOf_4 : decode cX11_ringOf 4 = .ok (.iload_n 1, 1) := by decide +kernel
theorem dX11_ringOf_5 : decode cX11_ringOf 5 = .ok (.iaload, 1) := by decide +kernel
theorem dX11_ringOf_6 : decode cX11_ringOf 6 = .ok (.istore_n 2, 1) := by decide +kernel
theorem dX11_ringOf_7 : decode cX11_ringOf 7 = .ok (.iconst 1, 1) := by decide +kernel
theorem dX11_ringOf_8 : decode cX11_ringOf 8 = .ok (.istore_n 3, 1) := by decide +kernel
theorem dX11_ringOf_9 : decode cX11_ringOf 9 = .ok (.iload_n 3, 1) := by decide +kernel
theorem dX11_ringOf_10 : decode cX11_ringOf 10 = .ok (.aload_n 0, 1) := by decide +kernel
theorem dX11_ringOf_11 : decode cX11_ringOf 11 = .ok (.getfield 184, 3) := by decide +kernel
theorem dX11_ringOf_14 : decode cX11_ringOf 14 = .ok (.if_icmp .gt 70, 3) := by decide +kernel
theorem dX11_ringOf_17 : decode cX11_ringOf 17 = .ok (.iload_n 2, 1) := by decide +kernel
theorem dX11_ringOf_18 : decode cX11_ringOf 18 = .ok (.iload_n 1, 1) := by decide +kernel
theorem dX11_ringOf_19 : decode cX11_ringOf 19 = .ok (.ishr, 1) := by decide +kernel
theorem dX11_ringOf_20 : decode cX11_ringOf 20 = .ok (.iconst 1, 1) := by decide +kernel
theorem dX11_ringOf_21 : decode cX11_ringOf 21 = .ok (.iand, 1) := by decide +kernel
theorem dX11_ringOf_22 : decode cX11_ringOf 22 = .ok (.iconst 1, 1) := by decide +kernel
theorem dX11_ringOf_23 : decode cX11_ringOf 23 = .ok (.if_icmp .ne 5, 3) := by decide +kernel
theorem dX11_ringOf_26 : decode cX11_ringOf 26 = .ok (.iload_n 3, 1) := by decide +kernel
theorem dX11_ringOf_27 : decode cX11_ringOf 27 = .ok (.ireturn, 1) := by decide +kernel
theorem dX11_ringOf_28 : decode cX11_ringOf 28 = .ok (.iconst 0, 1) := by decide +kernel
theorem dX11_ringOf_29 : decode cX11_ringOf 29 = .ok (.istore 4, 2) := by decide +kernel
theorem dX11_ringOf_31 : decode cX11_ringOf 31 = .ok (.iconst 0, 1) := by decide +kernel
theorem dX11_ringOf_32 : decode cX11_ringOf 32 = .ok (.istore 5, 2) := by decide +kernel
theorem dX11_ringOf_34 : decode cX11_ringOf 34 = .ok (.iload 5, 2) := by decide +kernel
theorem dX11_ringOf_36 : decode cX11_ringOf 36 = .ok (.aload_n 0, 1) := by decide +kernel
theorem dX11_ringOf_37 : decode cX11_ringOf 37 = .ok (.getfield 184, 3) := by decide +kernel
theorem dX11_ringOf_40 : decode cX11_ringOf 40 = .ok (.if_icmp .ge 35, 3) := by decide +kernel
theorem dX11_ringOf_43 : decode cX11_ringOf 43 = .ok (.iload 4, 2) := by decide +kernel
theorem dX11_ringOf_45 : decode cX11_ringOf 45 = .ok (.iload_n 2, 1) := by decide +kernel
theorem dX11_ringOf_46 : decode cX11_ringOf 46 = .ok (.iload 5, 2) := by decide +kernel
theorem dX11_ringOf_48 : decode cX11_ringOf 48 = .ok (.ishr, 1) := by decide +kernel
theorem dX11_ringOf_49 : decode cX11_ringOf 49 = .ok (.iconst 1, 1) := by decide +kernel
theorem dX11_ringOf_50 : decode cX11_ringOf 50 = .ok (.iand, 1) := by decide +kernel
theorem dX11_ringOf_51 : decode cX11_ringOf 51 = .ok (.iconst 1, 1) := by decide +kernel
theorem dX11_ringOf_52 : decode cX11_ringOf 52 = .ok (.if_icmp .ne 13, 3) := by decide +kernel
theorem dX11_ringOf_55 : decode cX11_ringOf 55 = .ok (.aload_n 0, 1) := by decide +kernel
theorem dX11_ringOf_56 : decode cX11_ringOf 56 = .ok (.getfield 25, 3) := by decide +kernel
theorem dX11_ringOf_59 : decode cX11_ringOf 59 = .ok (.iload 5, 2) := by decide +kernel
theorem dX11_ringOf_61 : decode cX11_ringOf 61 = .ok (.iaload, 1) := by decide +kernel
theorem dX11_ringOf_62 : decode cX11_ringOf 62 = .ok (.goto 4, 3) := by decide +kernel
theorem dX11_ringOf_65 : decode cX11_ringOf 65 = .ok (.iconst 0, 1) := by decide +kernel
theorem dX11_ringOf_66 : decode cX11_ringOf 66 = .ok (.ior, 1) := by decide +kernel
theorem dX11_ringOf_67 : decode cX11_ringOf 67 = .ok (.istore 4, 2) := by decide +kernel
theorem dX11_ringOf_69 : decode cX11_ringOf 69 = .ok (.iinc 5 1, 3) := by decide +kernel
theorem dX11_ringOf_72 : decode cX11_ringOf 72 = .ok (.goto (-38), 3) := by decide +kernel
theorem dX11_ringOf_75 : decode cX11_ringOf 75 = .ok (.iload 4, 2) := by decide +kernel
theorem dX11_ringOf_77 : decode cX11_ringOf 77 = .ok (.istore_n 2, 1) := by decide +kernel
theorem dX11_ringOf_78 : decode cX11_ringOf 78 = .ok (.iinc 3 1, 3) := by decide +kernel
theorem dX11_ringOf_81 : decode cX11_ringOf 81 = .ok (.goto (-72), 3) := by decide +kernel
theorem dX11_ringOf_84 : decode cX11_ringOf 84 = .ok (.iconst 0, 1) := by decide +kernel
theorem dX11_ringOf_85 : decode cX11_ringOf 85 = .ok (.ireturn, 1) := by decide +kernel
theorem dX11_rings_0 : decode cX11_rings 0 = .ok (.iload_n 1, 1) := by decide +kernel
theorem dX11_rings_1 : decode cX11_rings 1 = .ok (.i2l, 1) := by decide +kernel
theorem dX11_rings_2 : decode cX11_rings 2 = .ok (.lconst 0, 1) := by decide +kernel
theorem dX11_rings_3 : decode cX11_rings 3 = .ok (.lconst 1, 1) := by decide +kernel
theorem dX11_rings_4 : decode cX11_rings 4 = .ok (.invokestatic 96, 3) := by decide +kernel
theorem dX11_rings_7 : decode cX11_rings 7 = .ok (.ifCond .ne 5, 3) := by decide +kernel
theorem dX11_rings_10 : decode cX11_rings 10 = .ok (.iconst (-1), 1) := by decide +kernel
theorem dX11_rings_11 : decode cX11_rings 11 = .ok (.ireturn, 1) := by decide +kernel
theorem dX11_rings_12 : decode cX11_rings 12 = .ok (.aload_n 0, 1) := by decide +kernel
theorem dX11_rings_13 : decode cX11_rings 13 = .ok (.invokevirtual 199, 3) := by decide +kernel
theorem dX11_rings_16 : decode cX11_rings 16 = .ok (.iload_n 1, 1) := by decide +kernel
theorem dX11_rings_17 : decode cX11_rings 17 = .ok (.ifCond .ne 8, 3) := by decide +kernel
theorem dX11_rings_20 : decode cX11_rings 20 = .ok (.aload_n 0, 1) := by decide +kernel
theorem dX11_rings_21 : decode cX11_rings 21 = .ok (.invokevirtual 202, 3) := by decide +kernel
theorem dX11_rings_24 : decode cX11_rings 24 = .ok (.ireturn, 1) := by decide +kernel
theorem dX11_rings_25 : decode cX11_rings 25 = .ok (.iconst 0, 1) := by decide +kernel
theorem dX11_rings_26 : decode cX11_rings 26 = .ok (.istore_n 2, 1) := by decide +kernel
theorem dX11_rings_27 : decode cX11_rings 27 = .ok (.iconst 0, 1) := by decide +kernel
theorem dX11_rings_28 : decode cX11_rings 28 = .ok (.istore_n 3, 1) := by decide +kernel
theorem dX11_rings_29 : decode cX11_rings 29 = .ok (.iload_n 3, 1) := by decide +kernel
theorem dX11_rings_30 : decode cX11_rings 30 = .ok (.aload_n 0, 1) := by decide +kernel
theorem dX11_rings_31 : decode cX11_rings 31 = .ok (.getfield 184, 3) := by decide +kernel
theorem dX11_rings_34 : decode cX11_rings 34 = .ok (.if_icmp .ge 38, 3) := by decide +kernel
theorem dX11_rings_37 : decode cX11_rings 37 = .ok (.aload_n 0, 1) := by decide +kernel
theorem dX11_rings_38 : decode cX11_rings 38 = .ok (.iload_n 3, 1) := by decide +kernel
theorem dX11_rings_39 : decode cX11_rings 39 = .ok (.invokevirtual 205, 3) := by decide +kernel
theorem dX11_rings_42 : decode cX11_rings 42 = .ok (.istore 4, 2) := by decide +kernel
theorem dX11_rings_44 : decode cX11_rings 44 = .ok (.iload 4, 2) := by decide +kernel
theorem dX11_rings_46 : decode cX11_rings 46 = .ok (.ifCond .le 18, 3) := by decide +kernel
theorem dX11_rings_49 : decode cX11_rings 49 = .ok (.iload_n 2, 1) := by decide +kernel
theorem dX11_rings_50 : decode cX11_rings 50 = .ok (.ifCond .eq 9, 3) := by decide +kernel
theorem dX11_rings_53 : decode cX11_rings 53 = .ok (.iload 4, 2) := by decide +kernel
theorem dX11_rings_55 : decode cX11_rings 55 = .ok (.iload_n 2, 1) := by decide +kernel
theorem dX11_rings_56 : decode cX11_rings 56 = .ok (.if_icmp .ge 8, 3) := by decide +kernel
theorem dX11_rings_59 : decode cX11_rings 59 = .ok (.iload 4, 2) := by decide +kernel
theorem dX11_rings_61 : decode cX11_rings 61 = .ok (.goto 4, 3) := by decide +kernel
theorem dX11_rings_64 : decode cX11_rings 64 = .ok (.iload_n 2, 1) := by decide +kernel
theorem dX11_rings_65 : decode cX11_rings 65 = .ok (.istore_n 2, 1) := by decide +kernel
theorem dX11_rings_66 : decode cX11_rings 66 = .ok (.iinc 3 1, 3) := by decide +kernel
theorem dX11_rings_69 : decode cX11_rings 69 = .ok (.goto (-40), 3) := by decide +kernel
theorem dX11_rings_72 : decode cX11_rings 72 = .ok (.iload_n 2, 1) := by decide +kernel
theorem dX11_rings_73 : decode cX11_rings 73 = .ok (.ireturn, 1) := by decide +kernel
theorem dX11_countOf_0 : decode cX11_countOf 0 = .ok (.iconst 0, 1) := by decide +kernel
theorem dX11_countOf_1 : decode cX11_countOf 1 = .ok (.istore_n 1, 1) := by decide +kernel
theorem dX11_countOf_2 : decode cX11_countOf 2 = .ok (.iconst 0, 1) := by decide +kernel
theorem dX11_countOf_3 : decode cX11_countOf 3 = .ok (.istore_n 2, 1) := by decide +kernel
theorem dX11_countOf_4 : decode cX11_countOf 4 = .ok (.iload_n 2, 1) := by decide +kernel
theorem dX11_countOf_5 : decode cX11_countOf 5 = .ok (.bipush 16, 2) := by decide +kernel
theorem dX11_countOf_7 : decode cX11_countOf 7 = .ok (.if_icmp .ge 17, 3) := by decide +kernel
theorem dX11_countOf_10 : decode cX11_countOf 10 = .ok (.iload_n 1, 1) := by decide +kernel
theorem dX11_countOf_11 : decode cX11_countOf 11 = .ok (.iload_n 0, 1) := by decide +kernel
theorem dX11_countOf_12 : decode cX11_countOf 12 = .ok (.iload_n 2, 1) := by decide +kernel
theorem dX11_countOf_13 : decode cX11_countOf 13 = .ok (.ishr, 1) := by decide +kernel
theorem dX11_countOf_14 : decode cX11_countOf 14 = .ok (.iconst 1, 1) := by decide +kernel
theorem dX11_countOf_15 : decode cX11_countOf 15 = .ok (.iand, 1) := by decide +kernel
theorem dX11_countOf_16 : decode cX11_countOf 16 = .ok (.iadd, 1) := by decide +kernel
theorem dX11_countOf_17 : decode cX11_countOf 17 = .ok (.istore_n 1, 1) := by decide +kernel
theorem dX11_countOf_18 : decode cX11_countOf 18 = .ok (.iinc 2 1, 3) := by decide +kernel
theorem dX11_countOf_21 : decode cX11_countOf 21 = .ok (.goto (-17), 3) := by decide +kernel
theorem dX11_countOf_24 : decode cX11_countOf 24 = .ok (.iload_n 1, 1) := by decide +kernel
theorem dX11_countOf_25 : decode cX11_countOf 25 = .ok (.ireturn, 1) := by decide +kernel
theorem dX11_behind_0 : decode cX11_behind 0 = .ok (.iconst 0, 1) := by decide +kernel
theorem dX11_behind_1 : decode cX11_behind 1 = .ok (.istore_n 2, 1) := by decide +kernel
theorem dX11_behind_2 : decode cX11_behind 2 = .ok (.iconst 0, 1) := by decide +kernel
theorem dX11_behind_3 : decode cX11_behind 3 = .ok (.istore_n 3, 1) := by decide +kernel
theorem dX11_behind_4 : decode cX11_behind 4 = .ok (.iload_n 3, 1) := by decide +kernel
theorem dX11_behind_5 : decode cX11_behind 5 = .ok (.aload_n 0, 1) := by decide +kernel
theorem dX11_behind_6 : decode cX11_behind 6 = .ok (.getfield 184, 3) := by decide +kernel
theorem dX11_behind_9 : decode cX11_behind 9 = .ok (.if_icmp .ge 33, 3) := by decide +kernel
theorem dX11_behind_12 : decode cX11_behind 12 = .ok (.iload_n 2, 1) := by decide +kernel
theorem dX11_behind_13 : decode cX11_behind 13 = .ok (.aload_n 0, 1) := by decide +kernel
theorem dX11_behind_14 : decode cX11_behind 14 = .ok (.getfield 62, 3) := by decide +kernel
theorem dX11_behind_17 : decode cX11_behind 17 = .ok (.iload_n 3, 1) := by decide +kernel
theorem dX11_behind_18 : decode cX11_behind 18 = .ok (.iaload, 1) := by decide +kernel
theorem dX11_behind_19 : decode cX11_behind 19 = .ok (.iload_n 1, 1) := by decide +kernel
theorem dX11_behind_20 : decode cX11_behind 20 = .ok (.ishr, 1) := by decide +kernel
theorem dX11_behind_21 : decode cX11_behind 21 = .ok (.iconst 1, 1) := by decide +kernel
theorem dX11_behind_22 : decode cX11_behind 22 = .ok (.iand, 1) := by decide +kernel
theorem dX11_behind_23 : decode cX11_behind 23 = .ok (.iconst 1, 1) := by decide +kernel
theorem dX11_behind_24 : decode cX11_behind 24 = .ok (.if_icmp .ne 9, 3) := by decide +kernel
theorem dX11_behind_27 : decode cX11_behind 27 = .ok (.iconst 1, 1) := by decide +kernel
theorem dX11_behind_28 : decode cX11_behind 28 = .ok (.iload_n 3, 1) := by decide +kernel
theorem dX11_behind_29 : decode cX11_behind 29 = .ok (.ishl, 1) := by decide +kernel
theorem dX11_behind_30 : decode cX11_behind 30 = .ok (.goto 4, 3) := by decide +kernel
theorem dX11_behind_33 : decode cX11_behind 33 = .ok (.iconst 0, 1) := by decide +kernel
theorem dX11_behind_34 : decode cX11_behind 34 = .ok (.ior, 1) := by decide +kernel
theorem dX11_behind_35 : decode cX11_behind 35 = .ok (.istore_n 2, 1) := by decide +kernel
theorem dX11_behind_36 : decode cX11_behind 36 = .ok (.iinc 3 1, 3) := by decide +kernel
theorem dX11_behind_39 : decode cX11_behind 39 = .ok (.goto (-35), 3) := by decide +kernel
theorem dX11_behind_42 : decode cX11_behind 42 = .ok (.iload_n 2, 1) := by decide +kernel
theorem dX11_behind_43 : decode cX11_behind 43 = .ok (.ireturn, 1) := by decide +kernel
theorem dX11_rank_0 : decode cX11_rank 0 = .ok (.aload_n 0, 1) := by decide +kernel
theorem dX11_rank_1 : decode cX11_rank 1 = .ok (.iload_n 1, 1) := by decide +kernel
theorem dX11_rank_2 : decode cX11_rank 2 = .ok (.invokevirtual 194, 3) := by decide +kernel
theorem dX11_rank_5 : decode cX11_rank 5 = .ok (.ifCond .eq 13, 3) := by decide +kernel
theorem dX11_rank_8 : decode cX11_rank 8 = .ok (.iload_n 2, 1) := by decide +kernel
theorem dX11_rank_9 : decode cX11_rank 9 = .ok (.i2l, 1) := by decide +kernel
theorem dX11_rank_10 : decode cX11_rank 10 = .ok (.lconst 0, 1) := by decide +kernel
theorem dX11_rank_11 : decode cX11_rank 11 = .ok (.lconst 1, 1) := by decide +kernel
theorem dX11_rank_12 : decode cX11_rank 12 = .ok (.invokestatic 96, 3) := by decide +kernel
theorem dX11_rank_15 : decode cX11_rank 15 = .ok (.ifCond .ne 5, 3) := by decide +kernel
theorem dX11_rank_18 : decode cX11_rank 18 = .ok (.iconst (-1), 1) := by decide +kernel
theorem dX11_rank_19 : decode cX11_rank 19 = .ok (.ireturn, 1) := by decide +kernel
theorem dX11_rank_20 : decode cX11_rank 20 = .ok (.aload_n 0, 1) := by decide +kernel
theorem dX11_rank_21 : decode cX11_rank 21 = .ok (.invokevirtual 199, 3) := by decide +kernel
theorem dX11_rank_24 : decode cX11_rank 24 = .ok (.aload_n 0, 1) := by decide +kernel
theorem dX11_rank_25 : decode cX11_rank 25 = .ok (.invokevirtual 202, 3) := by decide +kernel
theorem dX11_rank_28 : decode cX11_rank 28 = .ok (.ifCond .eq 6, 3) := by decide +kernel
theorem dX11_rank_31 : decode cX11_rank 31 = .ok (.bipush (-2), 2) := by decide +kernel
theorem dX11_rank_33 : decode cX11_rank 33 = .ok (.ireturn, 1) := by decide +kernel
theorem dX11_rank_34 : decode cX11_rank 34 = .ok (.iload_n 2, 1) := by decide +kernel
theorem dX11_rank_35 : decode cX11_rank 35 = .ok (.ifCond .ne 15, 3) := by decide +kernel
theorem dX11_rank_38 : decode cX11_rank 38 = .ok (.aload_n 0, 1) := by decide +kernel
theorem dX11_rank_39 : decode cX11_rank 39 = .ok (.getfield 62, 3) := by decide +kernel
theorem dX11_rank_42 : decode cX11_rank 42 = .ok (.iload_n 1, 1) := by decide +kernel
theorem dX11_rank_43 : decode cX11_rank 43 = .ok (.iaload, 1) := by decide +kernel
theorem dX11_rank_44 : decode cX11_rank 44 = .ok (.invokestatic 208, 3) := by decide +kernel
theorem dX11_rank_47 : decode cX11_rank 47 = .ok (.goto 18, 3) := by decide +kernel
theorem dX11_rank_50 : decode cX11_rank 50 = .ok (.aload_n 0, 1) := by decide +kernel
theorem dX11_rank_51 : decode cX11_rank 51 = .ok (.getfield 184, 3) := by decide +kernel
theorem dX11_rank_54 : decode cX11_rank 54 = .ok (.iconst 1, 1) := by decide +kernel
theorem dX11_rank_55 : decode cX11_rank 55 = .ok (.isub, 1) := by decide +kernel
theorem dX11_rank_56 : decode cX11_rank 56 = .ok (.aload_n 0, 1) := by decide +kernel
theorem dX11_rank_57 : decode cX11_rank 57 = .ok (.iload_n 1, 1) := by decide +kernel
theorem dX11_rank_58 : decode cX11_rank 58 = .ok (.invokevirtual 211, 3) := by decide +kernel
theorem dX11_rank_61 : decode cX11_rank 61 = .ok (.invokestatic 208, 3) := by decide +kernel
theorem dX11_rank_64 : decode cX11_rank 64 = .ok (.isub, 1) := by decide +kernel
theorem dX11_rank_65 : decode cX11_rank 65 = .ok (.ireturn, 1) := by decide +kernel
theorem dX11_layWays_0 : decode cX11_layWays 0 = .ok (.iconst 1, 1) := by decide +kernel
theorem dX11_layWays_1 : decode cX11_layWays 1 = .ok (.aload_n 0, 1) := by decide +kernel
theorem dX11_layWays_2 : decode cX11_layWays 2 = .ok (.getfield 184, 3) := by decide +kernel
theorem dX11_layWays_5 : decode cX11_layWays 5 = .ok (.ishl, 1) := by decide +kernel
theorem dX11_layWays_6 : decode cX11_layWays 6 = .ok (.iconst 1, 1) := by decide +kernel
theorem dX11_layWays_7 : decode cX11_layWays 7 = .ok (.isub, 1) := by decide +kernel
theorem dX11_layWays_8 : decode cX11_layWays 8 = .ok (.istore_n 3, 1) := by decide +kernel
theorem dX11_layWays_9 : decode cX11_layWays 9 = .ok (.aload_n 0, 1) := by decide +kernel
theorem dX11_layWays_10 : decode cX11_layWays 10 = .ok (.getfield 65, 3) := by decide +kernel
theorem dX11_layWays_13 : decode cX11_layWays 13 = .ok (.iload_n 3, 1) := by decide +kernel
theorem dX11_layWays_14 : decode cX11_layWays 14 = .ok (.lconst 1, 1) := by decide +kernel
theorem dX11_layWays_15 : decode cX11_layWays 15 = .ok (.lastore, 1) := by decide +kernel
theorem dX11_layWays_16 : decode cX11_layWays 16 = .ok (.iload_n 3, 1) := by decide +kernel
theorem dX11_layWays_17 : decode cX11_layWays 17 = .ok (.iconst 1, 1) := by decide +kernel
theorem dX11_layWays_18 : decode cX11_layWays 18 = .ok (.isub, 1) := by decide +kernel
theorem dX11_layWays_19 : decode cX11_layWays 19 = .ok (.istore 4, 2) := by decide +kernel
theorem dX11_layWays_21 : decode cX11_layWays 21 = .ok (.iload 4, 2) := by decide +kernel
theorem dX11_layWays_23 : decode cX11_layWays 23 = .ok (.ifCond .lt 100, 3) := by decide +kernel
theorem dX11_layWays_26 : decode cX11_layWays 26 = .ok (.aload_n 0, 1) := by decide +kernel
theorem dX11_layWays_27 : decode cX11_layWays 27 = .ok (.getfield 65, 3) := by decide +kernel
theorem dX11_layWays_30 : decode cX11_layWays 30 = .ok (.iload 4, 2) := by decide +kernel
theorem dX11_layWays_32 : decode cX11_layWays 32 = .ok (.lconst 0, 1) := by decide +kernel
theorem dX11_layWays_33 : decode cX11_layWays 33 = .ok (.lastore, 1) := by decide +kernel
theorem dX11_layWays_34 : decode cX11_layWays 34 = .ok (.iconst 0, 1) := by decide +kernel
theorem dX11_layWays_35 : decode cX11_layWays 35 = .ok (.istore 5, 2) := by decide +kernel
theorem dX11_layWays_37 : decode cX11_layWays 37 = .ok (.iload 5, 2) := by decide +kernel
theorem dX11_layWays_39 : decode cX11_layWays 39 = .ok (.aload_n 0, 1) := by decide +kernel
theorem dX11_layWays_40 : decode cX11_layWays 40 = .ok (.getfield 184, 3) := by decide +kernel
theorem dX11_layWays_43 : decode cX11_layWays 43 = .ok (.if_icmp .ge 74, 3) := by decide +kernel
theorem dX11_layWays_46 : decode cX11_layWays 46 = .ok (.aload_n 0, 1) := by decide +kernel
theorem dX11_layWays_47 : decode cX11_layWays 47 = .ok (.getfield 62, 3) := by decide +kernel
theorem dX11_layWays_50 : decode cX11_layWays 50 = .ok (.iload 5, 2) := by decide +kernel
theorem dX11_layWays_52 : decode cX11_layWays 52 = .ok (.iaload, 1) := by decide +kernel
theorem dX11_layWays_53 : decode cX11_layWays 53 = .ok (.iload 5, 2) := by decide +kernel
theorem dX11_layWays_55 : decode cX11_layWays 55 = .ok (.iload_n 2, 1) := by decide +kernel
theorem dX11_layWays_56 : decode cX11_layWays 56 = .ok (.if_icmp .ne 9, 3) := by decide +kernel
theorem dX11_layWays_59 : decode cX11_layWays 59 = .ok (.iconst 1, 1) := by decide +kernel
theorem dX11_layWays_60 : decode cX11_layWays 60 = .ok (.iload_n 1, 1) := by decide +kernel
theorem dX11_layWays_61 : decode cX11_layWays 61 = .ok (.ishl, 1) := by decide +kernel
theorem dX11_layWays_62 : decode cX11_layWays 62 = .ok (.goto 4, 3) := by decide +kernel
theorem dX11_layWays_65 : decode cX11_layWays 65 = .ok (.iconst 0, 1) := by decide +kernel
theorem dX11_layWays_66 : decode cX11_layWays 66 = .ok (.ior, 1) := by decide +kernel
theorem dX11_layWays_67 : decode cX11_layWays 67 = .ok (.istore 6, 2) := by decide +kernel
theorem dX11_layWays_69 : decode cX11_layWays 69 = .ok (.iload 4, 2) := by decide +kernel
theorem dX11_layWays_71 : decode cX11_layWays 71 = .ok (.iload 5, 2) := by decide +kernel
theorem dX11_layWays_73 : decode cX11_layWays 73 = .ok (.ishr, 1) := by decide +kernel
theorem dX11_layWays_74 : decode cX11_layWays 74 = .ok (.iconst 1, 1) := by decide +kernel
theorem dX11_layWays_75 : decode cX11_layWays 75 = .ok (.iand, 1) := by decide +kernel
theorem dX11_layWays_76 : decode cX11_layWays 76 = .ok (.ifCond .ne 35, 3) := by decide +kernel
theorem dX11_layWays_79 : decode cX11_layWays 79 = .ok (.iload 6, 2) := by decide +kernel
theorem dX11_layWays_81 : decode cX11_layWays 81 = .ok (.iload 4, 2) := by decide +kernel
theorem dX11_layWays_83 : decode cX11_layWays 83 = .ok (.iconst (-1), 1) := by decide +kernel
theorem dX11_layWays_84 : decode cX11_layWays 84 = .ok (.ixor, 1) := by decide +kernel
theorem dX11_layWays_85 : decode cX11_layWays 85 = .ok (.iand, 1) := by decide +kernel
theorem dX11_layWays_86 : decode cX11_layWays 86 = .ok (.ifCond .ne 25, 3) := by decide +kernel
theorem dX11_layWays_89 : decode cX11_layWays 89 = .ok (.aload_n 0, 1) := by decide +kernel
theorem dX11_layWays_90 : decode cX11_layWays 90 = .ok (.getfield 65, 3) := by decide +kernel
theorem dX11_layWays_93 : decode cX11_layWays 93 = .ok (.iload 4, 2) := by decide +kernel
theorem dX11_layWays_95 : decode cX11_layWays 95 = .ok (.dup2, 1) := by decide +kernel
theorem dX11_layWays_96 : decode cX11_layWays 96 = .ok (.laload, 1) := by decide +kernel
theorem dX11_layWays_97 : decode cX11_layWays 97 = .ok (.aload_n 0, 1) := by decide +kernel
theorem dX11_layWays_98 : decode cX11_layWays 98 = .ok (.getfield 65, 3) := by decide +kernel
theorem dX11_layWays_101 : decode cX11_layWays 101 = .ok (.iload 4, 2) := by decide +kernel
theorem dX11_layWays_103 : decode cX11_layWays 103 = .ok (.iconst 1, 1) := by decide +kernel
theorem dX11_layWays_104 : decode cX11_layWays 104 = .ok (.iload 5, 2) := by decide +kernel
theorem dX11_layWays_106 : decode cX11_layWays 106 = .ok (.ishl, 1) := by decide +kernel
theorem dX11_layWays_107 : decode cX11_layWays 107 = .ok (.ior, 1) := by decide +kernel
theorem dX11_layWays_108 : decode cX11_layWays 108 = .ok (.laload, 1) := by decide +kernel
theorem dX11_layWays_109 : decode cX11_layWays 109 = .ok (.ladd, 1) := by decide +kernel
theorem dX11_layWays_110 : decode cX11_layWays 110 = .ok (.lastore, 1) := by decide +kernel
theorem dX11_layWays_111 : decode cX11_layWays 111 = .ok (.iinc 5 1, 3) := by decide +kernel
theorem dX11_layWays_114 : decode cX11_layWays 114 = .ok (.goto (-77), 3) := by decide +kernel
theorem dX11_layWays_117 : decode cX11_layWays 117 = .ok (.iinc 4 (-1), 3) := by decide +kernel
theorem dX11_layWays_120 : decode cX11_layWays 120 = .ok (.goto (-99), 3) := by decide +kernel
theorem dX11_layWays_123 : decode cX11_layWays 123 = .ok (.return_, 1) := by decide +kernel
theorem dX11_orders_0 : decode cX11_orders 0 = .ok (.aload_n 0, 1) := by decide +kernel
theorem dX11_orders_1 : decode cX11_orders 1 = .ok (.invokevirtual 199, 3) := by decide +kernel
theorem dX11_orders_4 : decode cX11_orders 4 = .ok (.aload_n 0, 1) := by decide +kernel
theorem dX11_orders_5 : decode cX11_orders 5 = .ok (.invokevirtual 202, 3) := by decide +kernel
theorem dX11_orders_8 : decode cX11_orders 8 = .ok (.ifCond .eq 7, 3) := by decide +kernel
theorem dX11_orders_11 : decode cX11_orders 11 = .ok (.ldc2_w 214, 3) := by decide +kernel
theorem dX11_orders_14 : decode cX11_orders 14 = .ok (.lreturn, 1) := by decide +kernel
theorem dX11_orders_15 : decode cX11_orders 15 = .ok (.aload_n 0, 1) := by decide +kernel
theorem dX11_orders_16 : decode cX11_orders 16 = .ok (.iconst 0, 1) := by decide +kernel
theorem dX11_orders_17 : decode cX11_orders 17 = .ok (.bipush (-4), 2) := by decide +kernel
theorem dX11_orders_19 : decode cX11_orders 19 = .ok (.invokevirtual 216, 3) := by decide +kernel
theorem dX11_orders_22 : decode cX11_orders 22 = .ok (.aload_n 0, 1) := by decide +kernel
theorem dX11_orders_23 : decode cX11_orders 23 = .ok (.getfield 65, 3) := by decide +kernel
theorem dX11_orders_26 : decode cX11_orders 26 = .ok (.iconst 0, 1) := by decide +kernel
theorem dX11_orders_27 : decode cX11_orders 27 = .ok (.laload, 1) := by decide +kernel
theorem dX11_orders_28 : decode cX11_orders 28 = .ok (.lreturn, 1) := by decide +kernel
theorem dX11_lowest_0 : decode cX11_lowest 0 = .ok (.lload_n 0, 1) := by decide +kernel
theorem dX11_lowest_1 : decode cX11_lowest 1 = .ok (.lstore 5, 2) := by decide +kernel
theorem dX11_lowest_3 : decode cX11_lowest 3 = .ok (.lload_n 2, 1) := by decide +kernel
theorem dX11_lowest_4 : decode cX11_lowest 4 = .ok (.lstore 7, 2) := by decide +kernel
theorem dX11_lowest_6 : decode cX11_lowest 6 = .ok (.lload 7, 2) := by decide +kernel
theorem dX11_lowest_8 : decode cX11_lowest 8 = .ok (.lconst 0, 1) := by decide +kernel
theorem dX11_lowest_9 : decode cX11_lowest 9 = .ok (.lcmp, 1) := by decide +kernel
theorem dX11_lowest_10 : decode cX11_lowest 10 = .ok (.ifCond .eq 21, 3) := by decide +kernel
theorem dX11_lowest_13 : decode cX11_lowest 13 = .ok (.lload 5, 2) := by decide +kernel
theorem dX11_lowest_15 : decode cX11_lowest 15 = .ok (.lload 7, 2) := by decide +kernel
theorem dX11_lowest_17 : decode cX11_lowest 17 = .ok (.lrem, 1) := by decide +kernel
theorem dX11_lowest_18 : decode cX11_lowest 18 = .ok (.lstore 9, 2) := by decide +kernel
theorem dX11_lowest_20 : decode cX11_lowest 20 = .ok (.lload 7, 2) := by decide +kernel
theorem dX11_lowest_22 : decode cX11_lowest 22 = .ok (.lstore 5, 2) := by decide +kernel
theorem dX11_lowest_24 : decode cX11_lowest 24 = .ok (.lload 9, 2) := by decide +kernel
theorem dX11_lowest_26 : decode cX11_lowest 26 = .ok (.lstore 7, 2) := by decide +kernel
theorem dX11_lowest_28 : decode cX11_lowest 28 = .ok (.goto (-22), 3) := by decide +kernel
theorem dX11_lowest_31 : decode cX11_lowest 31 = .ok (.iload 4, 2) := by decide +kernel
theorem dX11_lowest_33 : decode cX11_lowest 33 = .ok (.ifCond .ne 7, 3) := by decide +kernel
theorem dX11_lowest_36 : decode cX11_lowest 36 = .ok (.lload_n 0, 1) := by decide +kernel
theorem dX11_lowest_37 : decode cX11_lowest 37 = .ok (.goto 4, 3) := by decide +kernel
theorem dX11_lowest_40 : decode cX11_lowest 40 = .ok (.lload_n 2, 1) := by decide +kernel
theorem dX11_lowest_41 : decode cX11_lowest 41 = .ok (.lload 5, 2) := by decide +kernel
theorem dX11_lowest_43 : decode cX11_lowest 43 = .ok (.ldiv, 1) := by decide +kernel
theorem dX11_lowest_44 : decode cX11_lowest 44 = .ok (.lreturn, 1) := by decide +kernel
theorem dX11_likely_0 : decode cX11_likely 0 = .ok (.aload_n 0, 1) := by decide +kernel
theorem dX11_likely_1 : decode cX11_likely 1 = .ok (.iload_n 1, 1) := by decide +kernel
theorem dX11_likely_2 : decode cX11_likely 2 = .ok (.invokevirtual 194, 3) := by decide +kernel
theorem dX11_likely_5 : decode cX11_likely 5 = .ok (.ifCond .eq 26, 3) := by decide +kernel
theorem dX11_likely_8 : decode cX11_likely 8 = .ok (.aload_n 0, 1) := by decide +kernel
theorem dX11_likely_9 : decode cX11_likely 9 = .ok (.iload_n 2, 1) := by decide +kernel
theorem dX11_likely_10 : decode cX11_likely 10 = .ok (.invokevirtual 194, 3) := by decide +kernel
theorem dX11_likely_13 : decode cX11_likely 13 = .ok (.ifCond .eq 18, 3) := by decide +kernel
theorem dX11_likely_16 : decode cX11_likely 16 = .ok (.iload_n 1, 1) := by decide +kernel
theorem dX11_likely_17 : decode cX11_likely 17 = .ok (.iload_n 2, 1) := by decide +kernel
theorem dX11_likely_18 : decode cX11_likely 18 = .ok (.if_icmp .eq 13, 3) := by decide +kernel
theorem dX11_likely_21 : decode cX11_likely 21 = .ok (.iload_n 3, 1) := by decide +kernel
theorem dX11_likely_22 : decode cX11_likely 22 = .ok (.i2l, 1) := by decide +kernel
theorem dX11_likely_23 : decode cX11_likely 23 = .ok (.lconst 0, 1) := by decide +kernel
theorem dX11_likely_24 : decode cX11_likely 24 = .ok (.lconst 1, 1) := by decide +kernel
theorem dX11_likely_25 : decode cX11_likely 25 = .ok (.invokestatic 96, 3) := by decide +kernel
theorem dX11_likely_28 : decode cX11_likely 28 = .ok (.ifCond .ne 7, 3) := by decide +kernel
theorem dX11_likely_31 : decode cX11_likely 31 = .ok (.ldc2_w 220, 3) := by decide +kernel
theorem dX11_likely_34 : decode cX11_likely 34 = .ok (.lreturn, 1) := by decide +kernel
theorem dX11_likely_35 : decode cX11_likely 35 = .ok (.aload_n 0, 1) := by decide +kernel
theorem dX11_likely_36 : decode cX11_likely 36 = .ok (.invokevirtual 199, 3) := by decide +kernel
theorem dX11_likely_39 : decode cX11_likely 39 = .ok (.aload_n 0, 1) := by decide +kernel
theorem dX11_likely_40 : decode cX11_likely 40 = .ok (.invokevirtual 202, 3) := by decide +kernel
theorem dX11_likely_43 : decode cX11_likely 43 = .ok (.ifCond .eq 7, 3) := by decide +kernel
theorem dX11_likely_46 : decode cX11_likely 46 = .ok (.ldc2_w 214, 3) := by decide +kernel
theorem dX11_likely_49 : decode cX11_likely 49 = .ok (.lreturn, 1) := by decide +kernel
theorem dX11_likely_50 : decode cX11_likely 50 = .ok (.aload_n 0, 1) := by decide +kernel
theorem dX11_likely_51 : decode cX11_likely 51 = .ok (.iload_n 1, 1) := by decide +kernel
theorem dX11_likely_52 : decode cX11_likely 52 = .ok (.iload_n 2, 1) := by decide +kernel
theorem dX11_likely_53 : decode cX11_likely 53 = .ok (.invokevirtual 216, 3) := by decide +kernel
theorem dX11_likely_56 : decode cX11_likely 56 = .ok (.aload_n 0, 1) := by decide +kernel
theorem dX11_likely_57 : decode cX11_likely 57 = .ok (.getfield 65, 3) := by decide +kernel
theorem dX11_likely_60 : decode cX11_likely 60 = .ok (.iconst 0, 1) := by decide +kernel
theorem dX11_likely_61 : decode cX11_likely 61 = .ok (.laload, 1) := by decide +kernel
theorem dX11_likely_62 : decode cX11_likely 62 = .ok (.lstore 4, 2) := by decide +kernel
theorem dX11_likely_64 : decode cX11_likely 64 = .ok (.aload_n 0, 1) := by decide +kernel
theorem dX11_likely_65 : decode cX11_likely 65 = .ok (.iconst 0, 1) := by decide +kernel
theorem dX11_likely_66 : decode cX11_likely 66 = .ok (.bipush (-4), 2) := by decide +kernel
theorem dX11_likely_68 : decode cX11_likely 68 = .ok (.invokevirtual 216, 3) := by decide +kernel
theorem dX11_likely_71 : decode cX11_likely 71 = .ok (.lload 4, 2) := by decide +kernel
theorem dX11_likely_73 : decode cX11_likely 73 = .ok (.aload_n 0, 1) := by decide +kernel
theorem dX11_likely_74 : decode cX11_likely 74 = .ok (.getfield 65, 3) := by decide +kernel
theorem dX11_likely_77 : decode cX11_likely 77 = .ok (.iconst 0, 1) := by decide +kernel
theorem dX11_likely_78 : decode cX11_likely 78 = .ok (.laload, 1) := by decide +kernel
theorem dX11_likely_79 : decode cX11_likely 79 = .ok (.iload_n 3, 1) := by decide +kernel
theorem dX11_likely_80 : decode cX11_likely 80 = .ok (.invokestatic 222, 3) := by decide +kernel
theorem dX11_likely_83 : decode cX11_likely 83 = .ok (.lreturn, 1) := by decide +kernel
theorem dX11_begins_0 : decode cX11_begins 0 = .ok (.iload_n 1, 1) := by decide +kernel
theorem dX11_begins_1 : decode cX11_begins 1 = .ok (.i2l, 1) := by decide +kernel
theorem dX11_begins_2 : decode cX11_begins 2 = .ok (.lconst 0, 1) := by decide +kernel
theorem dX11_begins_3 : decode cX11_begins 3 = .ok (.lconst 1, 1) := by decide +kernel
theorem dX11_begins_4 : decode cX11_begins 4 = .ok (.invokestatic 96, 3) := by decide +kernel
theorem dX11_begins_7 : decode cX11_begins 7 = .ok (.ifCond .ne 5, 3) := by decide +kernel
theorem dX11_begins_10 : decode cX11_begins 10 = .ok (.iconst (-1), 1) := by decide +kernel
theorem dX11_begins_11 : decode cX11_begins 11 = .ok (.ireturn, 1) := by decide +kernel
theorem dX11_begins_12 : decode cX11_begins 12 = .ok (.aload_n 0, 1) := by decide +kernel
theorem dX11_begins_13 : decode cX11_begins 13 = .ok (.invokevirtual 199, 3) := by decide +kernel
theorem dX11_begins_16 : decode cX11_begins 16 = .ok (.aload_n 0, 1) := by decide +kernel
theorem dX11_begins_17 : decode cX11_begins 17 = .ok (.invokevirtual 202, 3) := by decide +kernel
theorem dX11_begins_20 : decode cX11_begins 20 = .ok (.ifCond .eq 6, 3) := by decide +kernel
theorem dX11_begins_23 : decode cX11_begins 23 = .ok (.bipush (-2), 2) := by decide +kernel
theorem dX11_begins_25 : decode cX11_begins 25 = .ok (.ireturn, 1) := by decide +kernel
theorem dX11_begins_26 : decode cX11_begins 26 = .ok (.iconst 0, 1) := by decide +kernel
theorem dX11_begins_27 : decode cX11_begins 27 = .ok (.istore_n 2, 1) := by decide +kernel
theorem dX11_begins_28 : decode cX11_begins 28 = .ok (.iconst 0, 1) := by decide +kernel
theorem dX11_begins_29 : decode cX11_begins 29 = .ok (.istore_n 3, 1) := by decide +kernel
theorem dX11_begins_30 : decode cX11_begins 30 = .ok (.iload_n 3, 1) := by decide +kernel
theorem dX11_begins_31 : decode cX11_begins 31 = .ok (.aload_n 0, 1) := by decide +kernel
theorem dX11_begins_32 : decode cX11_begins 32 = .ok (.getfield 184, 3) := by decide +kernel
theorem dX11_begins_35 : decode cX11_begins 35 = .ok (.if_icmp .ge 40, 3) := by decide +kernel
theorem dX11_begins_38 : decode cX11_begins 38 = .ok (.iload_n 2, 1) := by decide +kernel
theorem dX11_begins_39 : decode cX11_begins 39 = .ok (.iload_n 1, 1) := by decide +kernel
theorem dX11_begins_40 : decode cX11_begins 40 = .ok (.ifCond .ne 12, 3) := by decide +kernel
theorem dX11_begins_43 : decode cX11_begins 43 = .ok (.aload_n 0, 1) := by decide +kernel
theorem dX11_begins_44 : decode cX11_begins 44 = .ok (.getfield 62, 3) := by decide +kernel
theorem dX11_begins_47 : decode cX11_begins 47 = .ok (.iload_n 3, 1) := by decide +kernel
theorem dX11_begins_48 : decode cX11_begins 48 = .ok (.iaload, 1) := by decide +kernel
theorem dX11_begins_49 : decode cX11_begins 49 = .ok (.goto 8, 3) := by decide +kernel
theorem dX11_begins_52 : decode cX11_begins 52 = .ok (.aload_n 0, 1) := by decide +kernel
theorem dX11_begins_53 : decode cX11_begins 53 = .ok (.iload_n 3, 1) := by decide +kernel
theorem dX11_begins_54 : decode cX11_begins 54 = .ok (.invokevirtual 211, 3) := by decide +kernel
theorem dX11_begins_57 : decode cX11_begins 57 = .ok (.ifCond .ne 9, 3) := by decide +kernel
theorem dX11_begins_60 : decode cX11_begins 60 = .ok (.iconst 1, 1) := by decide +kernel
theorem dX11_begins_61 : decode cX11_begins 61 = .ok (.iload_n 3, 1) := by decide +kernel
theorem dX11_begins_62 : decode cX11_begins 62 = .ok (.ishl, 1) := by decide +kernel
theorem dX11_begins_63 : decode cX11_begins 63 = .ok (.goto 4, 3) := by decide +kernel
theorem dX11_begins_66 : decode cX11_begins 66 = .ok (.iconst 0, 1) := by decide +kernel
theorem dX11_begins_67 : decode cX11_begins 67 = .ok (.ior, 1) := by decide +kernel
theorem dX11_begins_68 : decode cX11_begins 68 = .ok (.istore_n 2, 1) := by decide +kernel
theorem dX11_begins_69 : decode cX11_begins 69 = .ok (.iinc 3 1, 3) := by decide +kernel
theorem dX11_begins_72 : decode cX11_begins 72 = .ok (.goto (-42), 3) := by decide +kernel
theorem dX11_begins_75 : decode cX11_begins 75 = .ok (.iload_n 2, 1) := by decide +kernel
theorem dX11_begins_76 : decode cX11_begins 76 = .ok (.ireturn, 1) := by decide +kernel
theorem dX11_order_0 : decode cX11_order 0 = .ok (.aload_n 0, 1) := by decide +kernel
theorem dX11_order_1 : decode cX11_order 1 = .ok (.invokevirtual 199, 3) := by decide +kernel
theorem dX11_order_4 : decode cX11_order 4 = .ok (.aload_n 0, 1) := by decide +kernel
theorem dX11_order_5 : decode cX11_order 5 = .ok (.invokevirtual 202, 3) := by decide +kernel
theorem dX11_order_8 : decode cX11_order 8 = .ok (.ifCond .eq 7, 3) := by decide +kernel
theorem dX11_order_11 : decode cX11_order 11 = .ok (.iconst 1, 1) := by decide +kernel
theorem dX11_order_12 : decode cX11_order 12 = .ok (.goto 4, 3) := by decide +kernel
theorem dX11_order_15 : decode cX11_order 15 = .ok (.iconst 0, 1) := by decide +kernel
theorem dX11_order_16 : decode cX11_order 16 = .ok (.istore 4, 2) := by decide +kernel
theorem dX11_order_18 : decode cX11_order 18 = .ok (.iload 4, 2) := by decide +kernel
theorem dX11_order_20 : decode cX11_order 20 = .ok (.ifCond .ne 10, 3) := by decide +kernel
theorem dX11_order_23 : decode cX11_order 23 = .ok (.aload_n 0, 1) := by decide +kernel
theorem dX11_order_24 : decode cX11_order 24 = .ok (.iconst 0, 1) := by decide +kernel
theorem dX11_order_25 : decode cX11_order 25 = .ok (.bipush (-4), 2) := by decide +kernel
theorem dX11_order_27 : decode cX11_order 27 = .ok (.invokevirtual 216, 3) := by decide +kernel
theorem dX11_order_30 : decode cX11_order 30 = .ok (.iload_n 3, 1) := by decide +kernel
theorem dX11_order_31 : decode cX11_order 31 = .ok (.i2l, 1) := by decide +kernel
theorem dX11_order_32 : decode cX11_order 32 = .ok (.lconst 0, 1) := by decide +kernel
theorem dX11_order_33 : decode cX11_order 33 = .ok (.aload_n 0, 1) := by decide +kernel
theorem dX11_order_34 : decode cX11_order 34 = .ok (.getfield 184, 3) := by decide +kernel
theorem dX11_order_37 : decode cX11_order 37 = .ok (.iconst 1, 1) := by decide +kernel
theorem dX11_order_38 : decode cX11_order 38 = .ok (.isub, 1) := by decide +kernel
theorem dX11_order_39 : decode cX11_order 39 = .ok (.i2l, 1) := by decide +kernel
theorem dX11_order_40 : decode cX11_order 40 = .ok (.invokestatic 96, 3) := by decide +kernel
theorem dX11_order_43 : decode cX11_order 43 = .ok (.ifCond .eq 25, 3) := by decide +kernel
theorem dX11_order_46 : decode cX11_order 46 = .ok (.lload_n 1, 1) := by decide +kernel
theorem dX11_order_47 : decode cX11_order 47 = .ok (.lconst 0, 1) := by decide +kernel
theorem dX11_order_48 : decode cX11_order 48 = .ok (.lcmp, 1) := by decide +kernel
theorem dX11_order_49 : decode cX11_order 49 = .ok (.ifCond .lt 19, 3) := by decide +kernel
theorem dX11_order_52 : decode cX11_order 52 = .ok (.iload 4, 2) := by decide +kernel
theorem dX11_order_54 : decode cX11_order 54 = .ok (.ifCond .ne 16, 3) := by decide +kernel
theorem dX11_order_57 : decode cX11_order 57 = .ok (.lload_n 1, 1) := by decide +kernel
theorem dX11_order_58 : decode cX11_order 58 = .ok (.aload_n 0, 1) := by decide +kernel
theorem dX11_order_59 : decode cX11_order 59 = .ok (.getfield 65, 3) := by decide +kernel
theorem dX11_order_62 : decode cX11_order 62 = .ok (.iconst 0, 1) := by decide +kernel
theorem dX11_order_63 : decode cX11_order 63 = .ok (.laload, 1) := by decide +kernel
theorem dX11_order_64 : decode cX11_order 64 = .ok (.lcmp, 1) := by decide +kernel
theorem dX11_order_65 : decode cX11_order 65 = .ok (.ifCond .lt 5, 3) := by decide +kernel
theorem dX11_order_68 : decode cX11_order 68 = .ok (.iconst (-1), 1) := by decide +kernel
theorem dX11_order_69 : decode cX11_order 69 = .ok (.ireturn, 1) := by decide +kernel
theorem dX11_order_70 : decode cX11_order 70 = .ok (.iload 4, 2) := by decide +kernel
theorem dX11_order_72 : decode cX11_order 72 = .ok (.ifCond .eq 6, 3) := by decide +kernel
theorem dX11_order_75 : decode cX11_order 75 = .ok (.bipush (-2), 2) := by decide +kernel
theorem dX11_order_77 : decode cX11_order 77 = .ok (.ireturn, 1) := by decide +kernel
theorem dX11_order_78 : decode cX11_order 78 = .ok (.iconst 0, 1) := by decide +kernel
theorem dX11_order_79 : decode cX11_order 79 = .ok (.istore 5, 2) := by decide +kernel
theorem dX11_order_81 : decode cX11_order 81 = .ok (.lload_n 1, 1) := by decide +kernel
theorem dX11_order_82 : decode cX11_order 82 = .ok (.lstore 6, 2) := by decide +kernel
theorem dX11_order_84 : decode cX11_order 84 = .ok (.bipush (-4), 2) := by decide +kernel
theorem dX11_order_86 : decode cX11_order 86 = .ok (.istore 8, 2) := by decide +kernel
theorem dX11_order_88 : decode cX11_order 88 = .ok (.iconst 0, 1) := by decide +kernel
theorem dX11_order_89 : decode cX11_order 89 = .ok (.istore 9, 2) := by decide +kernel
theorem dX11_order_91 : decode cX11_order 91 = .ok (.iload 9, 2) := by decide +kernel
theorem dX11_order_93 : decode cX11_order 93 = .ok (.iload_n 3, 1) := by decide +kernel
theorem dX11_order_94 : decode cX11_order 94 = .ok (.if_icmp .gt 142, 3) := by decide +kernel
theorem dX11_order_97 : decode cX11_order 97 = .ok (.iconst 0, 1) := by decide +kernel
theorem dX11_order_98 : decode cX11_order 98 = .ok (.istore 10, 2) := by decide +kernel
theorem dX11_order_100 : decode cX11_order 100 = .ok (.iconst 0, 1) := by decide +kernel
theorem dX11_order_101 : decode cX11_order 101 = .ok (.istore 11, 2) := by decide +kernel
theorem dX11_order_103 : decode cX11_order 103 = .ok (.iload 11, 2) := by decide +kernel
theorem dX11_order_105 : decode cX11_order 105 = .ok (.ifCond .ne 112, 3) := by decide +kernel
theorem dX11_order_108 : decode cX11_order 108 = .ok (.iload 5, 2) := by decide +kernel
theorem dX11_order_110 : decode cX11_order 110 = .ok (.iload 10, 2) := by decide +kernel
theorem dX11_order_112 : decode cX11_order 112 = .ok (.ishr, 1) := by decide +kernel
theorem dX11_order_113 : decode cX11_order 113 = .ok (.iconst 1, 1) := by decide +kernel
theorem dX11_order_114 : decode cX11_order 114 = .ok (.iand, 1) := by decide +kernel
theorem dX11_order_115 : decode cX11_order 115 = .ok (.ifCond .ne 22, 3) := by decide +kernel
theorem dX11_order_118 : decode cX11_order 118 = .ok (.aload_n 0, 1) := by decide +kernel
theorem dX11_order_119 : decode cX11_order 119 = .ok (.getfield 62, 3) := by decide +kernel
theorem dX11_order_122 : decode cX11_order 122 = .ok (.iload 10, 2) := by decide +kernel
theorem dX11_order_124 : decode cX11_order 124 = .ok (.iaload, 1) := by decide +kernel
theorem dX11_order_125 : decode cX11_order 125 = .ok (.iload 5, 2) := by decide +kernel
theorem dX11_order_127 : decode cX11_order 127 = .ok (.iconst (-1), 1) := by decide +kernel
theorem dX11_order_128 : decode cX11_order 128 = .ok (.ixor, 1) := by decide +kernel
theorem dX11_order_129 : decode cX11_order 129 = .ok (.iand, 1) := by decide +kernel
theorem dX11_order_130 : decode cX11_order 130 = .ok (.ifCond .ne 7, 3) := by decide +kernel
theorem dX11_order_133 : decode cX11_order 133 = .ok (.iconst 1, 1) := by decide +kernel
theorem dX11_order_134 : decode cX11_order 134 = .ok (.goto 4, 3) := by decide +kernel
theorem dX11_order_137 : decode cX11_order 137 = .ok (.iconst 0, 1) := by decide +kernel
theorem dX11_order_138 : decode cX11_order 138 = .ok (.istore 12, 2) := by decide +kernel
theorem dX11_order_140 : decode cX11_order 140 = .ok (.iload 12, 2) := by decide +kernel
theorem dX11_order_142 : decode cX11_order 142 = .ok (.ifCond .eq 18, 3) := by decide +kernel
theorem dX11_order_145 : decode cX11_order 145 = .ok (.aload_n 0, 1) := by decide +kernel
theorem dX11_order_146 : decode cX11_order 146 = .ok (.getfield 65, 3) := by decide +kernel
theorem dX11_order_149 : decode cX11_order 149 = .ok (.iload 5, 2) := by decide +kernel
theorem dX11_order_151 : decode cX11_order 151 = .ok (.iconst 1, 1) := by decide +kernel
theorem dX11_order_152 : decode cX11_order 152 = .ok (.iload 10, 2) := by decide +kernel
theorem dX11_order_154 : decode cX11_order 154 = .ok (.ishl, 1) := by decide +kernel
theorem dX11_order_155 : decode cX11_order 155 = .ok (.ior, 1) := by decide +kernel
theorem dX11_order_156 : decode cX11_order 156 = .ok (.laload, 1) := by decide +kernel
theorem dX11_order_157 : decode cX11_order 157 = .ok (.goto 4, 3) := by decide +kernel
theorem dX11_order_160 : decode cX11_order 160 = .ok (.lconst 0, 1) := by decide +kernel
theorem dX11_order_161 : decode cX11_order 161 = .ok (.lstore 13, 2) := by decide +kernel
theorem dX11_order_163 : decode cX11_order 163 = .ok (.iload 12, 2) := by decide +kernel
theorem dX11_order_165 : decode cX11_order 165 = .ok (.ifCond .eq 15, 3) := by decide +kernel
theorem dX11_order_168 : decode cX11_order 168 = .ok (.lload 6, 2) := by decide +kernel
theorem dX11_order_170 : decode cX11_order 170 = .ok (.lload 13, 2) := by decide +kernel
theorem dX11_order_172 : decode cX11_order 172 = .ok (.lcmp, 1) := by decide +kernel
theorem dX11_order_173 : decode cX11_order 173 = .ok (.ifCond .ge 7, 3) := by decide +kernel
theorem dX11_order_176 : decode cX11_order 176 = .ok (.iconst 1, 1) := by decide +kernel
theorem dX11_order_177 : decode cX11_order 177 = .ok (.goto 4, 3) := by decide +kernel
theorem dX11_order_180 : decode cX11_order 180 = .ok (.iconst 0, 1) := by decide +kernel
theorem dX11_order_181 : decode cX11_order 181 = .ok (.istore 11, 2) := by decide +kernel
theorem dX11_order_183 : decode cX11_order 183 = .ok (.lload 6, 2) := by decide +kernel
theorem dX11_order_185 : decode cX11_order 185 = .ok (.iload 11, 2) := by decide +kernel
theorem dX11_order_187 : decode cX11_order 187 = .ok (.ifCond .eq 7, 3) := by decide +kernel
theorem dX11_order_190 : decode cX11_order 190 = .ok (.lconst 0, 1) := by decide +kernel
theorem dX11_order_191 : decode cX11_order 191 = .ok (.goto 5, 3) := by decide +kernel
theorem dX11_order_194 : decode cX11_order 194 = .ok (.lload 13, 2) := by decide +kernel
theorem dX11_order_196 : decode cX11_order 196 = .ok (.lsub, 1) := by decide +kernel
theorem dX11_order_197 : decode cX11_order 197 = .ok (.lstore 6, 2) := by decide +kernel
theorem dX11_order_199 : decode cX11_order 199 = .ok (.iload 10, 2) := by decide +kernel
theorem dX11_order_201 : decode cX11_order 201 = .ok (.iload 11, 2) := by decide +kernel
theorem dX11_order_203 : decode cX11_order 203 = .ok (.ifCond .eq 7, 3) := by decide +kernel
theorem dX11_order_206 : decode cX11_order 206 = .ok (.iconst 0, 1) := by decide +kernel
theorem dX11_order_207 : decode cX11_order 207 = .ok (.goto 4, 3) := by decide +kernel
theorem dX11_order_210 : decode cX11_order 210 = .ok (.iconst 1, 1) := by decide +kernel
theorem dX11_order_211 : decode cX11_order 211 = .ok (.iadd, 1) := by decide +kernel
theorem dX11_order_212 : decode cX11_order 212 = .ok (.istore 10, 2) := by decide +kernel
theorem dX11_order_214 : decode cX11_order 214 = .ok (.goto (-111), 3) := by decide +kernel
theorem dX11_order_217 : decode cX11_order 217 = .ok (.iload 5, 2) := by decide +kernel
theorem dX11_order_219 : decode cX11_order 219 = .ok (.iconst 1, 1) := by decide +kernel
theorem dX11_order_220 : decode cX11_order 220 = .ok (.iload 10, 2) := by decide +kernel
theorem dX11_order_222 : decode cX11_order 222 = .ok (.ishl, 1) := by decide +kernel
theorem dX11_order_223 : decode cX11_order 223 = .ok (.ior, 1) := by decide +kernel
theorem dX11_order_224 : decode cX11_order 224 = .ok (.istore 5, 2) := by decide +kernel
theorem dX11_order_226 : decode cX11_order 226 = .ok (.iload 10, 2) := by decide +kernel
theorem dX11_order_228 : decode cX11_order 228 = .ok (.istore 8, 2) := by decide +kernel
theorem dX11_order_230 : decode cX11_order 230 = .ok (.iinc 9 1, 3) := by decide +kernel
theorem dX11_order_233 : decode cX11_order 233 = .ok (.goto (-142), 3) := by decide +kernel
theorem dX11_order_236 : decode cX11_order 236 = .ok (.iload 8, 2) := by decide +kernel
theorem dX11_order_238 : decode cX11_order 238 = .ok (.ireturn, 1) := by decide +kernel
theorem dX11_isRow_0 : decode cX11_isRow 0 = .ok (.aload_n 0, 1) := by decide +kernel
theorem dX11_isRow_1 : decode cX11_isRow 1 = .ok (.iload_n 1, 1) := by decide +kernel
theorem dX11_isRow_2 : decode cX11_isRow 2 = .ok (.invokevirtual 194, 3) := by decide +kernel
theorem dX11_isRow_5 : decode cX11_isRow 5 = .ok (.ifCond .eq 16, 3) := by decide +kernel
theorem dX11_isRow_8 : decode cX11_isRow 8 = .ok (.aload_n 0, 1) := by decide +kernel
theorem dX11_isRow_9 : decode cX11_isRow 9 = .ok (.getfield 19, 3) := by decide +kernel
theorem dX11_isRow_12 : decode cX11_isRow 12 = .ok (.iload_n 1, 1) := by decide +kernel
theorem dX11_isRow_13 : decode cX11_isRow 13 = .ok (.iaload, 1) := by decide +kernel
theorem dX11_isRow_14 : decode cX11_isRow 14 = .ok (.ifCond .le 7, 3) := by decide +kernel
theorem dX11_isRow_17 : decode cX11_isRow 17 = .ok (.iconst 1, 1) := by decide +kernel
theorem dX11_isRow_18 : decode cX11_isRow 18 = .ok (.goto 4, 3) := by decide +kernel
theorem dX11_isRow_21 : decode cX11_isRow 21 = .ok (.iconst 0, 1) := by decide +kernel
theorem dX11_isRow_22 : decode cX11_isRow 22 = .ok (.ireturn, 1) := by decide +kernel
theorem dX11_size_0 : decode cX11_size 0 = .ok (.aload_n 0, 1) := by decide +kernel
theorem dX11_size_1 : decode cX11_size 1 = .ok (.iload_n 1, 1) := by decide +kernel
theorem dX11_size_2 : decode cX11_size 2 = .ok (.invokevirtual 226, 3) := by decide +kernel
theorem dX11_size_5 : decode cX11_size 5 = .ok (.ifCond .eq 35, 3) := by decide +kernel
theorem dX11_size_8 : decode cX11_size 8 = .ok (.iload_n 2, 1) := by decide +kernel
theorem dX11_size_9 : decode cX11_size 9 = .ok (.i2l, 1) := by decide +kernel
theorem dX11_size_10 : decode cX11_size 10 = .ok (.lconst 0, 1) := by decide +kernel
theorem dX11_size_11 : decode cX11_size 11 = .ok (.lconst 1, 1) := by decide +kernel
theorem dX11_size_12 : decode cX11_size 12 = .ok (.invokestatic 96, 3) := by decide +kernel
theorem dX11_size_15 : decode cX11_size 15 = .ok (.ifCond .eq 25, 3) := by decide +kernel
theorem dX11_size_18 : decode cX11_size 18 = .ok (.aload_n 0, 1) := by decide +kernel
theorem dX11_size_19 : decode cX11_size 19 = .ok (.getfield 22, 3) := by decide +kernel
theorem dX11_size_22 : decode cX11_size 22 = .ok (.iload_n 1, 1) := by decide +kernel
theorem dX11_size_23 : decode cX11_size 23 = .ok (.iaload, 1) := by decide +kernel
theorem dX11_size_24 : decode cX11_size 24 = .ok (.i2l, 1) := by decide +kernel
theorem dX11_size_25 : decode cX11_size 25 = .ok (.aload_n 0, 1) := by decide +kernel
theorem dX11_size_26 : decode cX11_size 26 = .ok (.getfield 19, 3) := by decide +kernel
theorem dX11_size_29 : decode cX11_size 29 = .ok (.iload_n 1, 1) := by decide +kernel
theorem dX11_size_30 : decode cX11_size 30 = .ok (.iaload, 1) := by decide +kernel
theorem dX11_size_31 : decode cX11_size 31 = .ok (.i2l, 1) := by decide +kernel
theorem dX11_size_32 : decode cX11_size 32 = .ok (.iload_n 2, 1) := by decide +kernel
theorem dX11_size_33 : decode cX11_size 33 = .ok (.invokestatic 222, 3) := by decide +kernel
theorem dX11_size_36 : decode cX11_size 36 = .ok (.l2i, 1) := by decide +kernel
theorem dX11_size_37 : decode cX11_size 37 = .ok (.goto 4, 3) := by decide +kernel
theorem dX11_size_40 : decode cX11_size 40 = .ok (.iconst (-1), 1) := by decide +kernel
theorem dX11_size_41 : decode cX11_size 41 = .ok (.ireturn, 1) := by decide +kernel
theorem dX11_above_0 : decode cX11_above 0 = .ok (.aload_n 0, 1) := by decide +kernel
theorem dX11_above_1 : decode cX11_above 1 = .ok (.getfield 22, 3) := by decide +kernel
theorem dX11_above_4 : decode cX11_above 4 = .ok (.iload_n 1, 1) := by decide +kernel
theorem dX11_above_5 : decode cX11_above 5 = .ok (.iaload, 1) := by decide +kernel
theorem dX11_above_6 : decode cX11_above 6 = .ok (.aload_n 0, 1) := by decide +kernel
theorem dX11_above_7 : decode cX11_above 7 = .ok (.getfield 19, 3) := by decide +kernel
theorem dX11_above_10 : decode cX11_above 10 = .ok (.iload_n 2, 1) := by decide +kernel
theorem dX11_above_11 : decode cX11_above 11 = .ok (.iaload, 1) := by decide +kernel
theorem dX11_above_12 : decode cX11_above 12 = .ok (.imul, 1) := by decide +kernel
theorem dX11_above_13 : decode cX11_above 13 = .ok (.aload_n 0, 1) := by decide +kernel
theorem dX11_above_14 : decode cX11_above 14 = .ok (.getfield 22, 3) := by decide +kernel
theorem dX11_above_17 : decode cX11_above 17 = .ok (.iload_n 2, 1) := by decide +kernel
theorem dX11_above_18 : decode cX11_above 18 = .ok (.iaload, 1) := by decide +kernel
theorem dX11_above_19 : decode cX11_above 19 = .ok (.aload_n 0, 1) := by decide +kernel
theorem dX11_above_20 : decode cX11_above 20 = .ok (.getfield 19, 3) := by decide +kernel
theorem dX11_above_23 : decode cX11_above 23 = .ok (.iload_n 1, 1) := by decide +kernel
theorem dX11_above_24 : decode cX11_above 24 = .ok (.iaload, 1) := by decide +kernel
theorem dX11_above_25 : decode cX11_above 25 = .ok (.imul, 1) := by decide +kernel
theorem dX11_above_26 : decode cX11_above 26 = .ok (.isub, 1) := by decide +kernel
theorem dX11_above_27 : decode cX11_above 27 = .ok (.ireturn, 1) := by decide +kernel
theorem dX11_areSure_0 : decode cX11_areSure 0 = .ok (.aload_n 0, 1) := by decide +kernel
theorem dX11_areSure_1 : decode cX11_areSure 1 = .ok (.iload_n 1, 1) := by decide +kernel
theorem dX11_areSure_2 : decode cX11_areSure 2 = .ok (.iload_n 2, 1) := by decide +kernel
theorem dX11_areSure_3 : decode cX11_areSure 3 = .ok (.invokevirtual 229, 3) := by decide +kernel
theorem dX11_areSure_6 : decode cX11_areSure 6 = .ok (.istore_n 3, 1) := by decide +kernel
theorem dX11_areSure_7 : decode cX11_areSure 7 = .ok (.bipush 10, 2) := by decide +kernel
theorem dX11_areSure_9 : decode cX11_areSure 9 = .ok (.iload_n 3, 1) := by decide +kernel
theorem dX11_areSure_10 : decode cX11_areSure 10 = .ok (.ifCond .ge 8, 3) := by decide +kernel
theorem dX11_areSure_13 : decode cX11_areSure 13 = .ok (.iload_n 3, 1) := by decide +kernel
theorem dX11_areSure_14 : decode cX11_areSure 14 = .ok (.ineg, 1) := by decide +kernel
theorem dX11_areSure_15 : decode cX11_areSure 15 = .ok (.goto 4, 3) := by decide +kernel
theorem dX11_areSure_18 : decode cX11_areSure 18 = .ok (.iload_n 3, 1) := by decide +kernel
theorem dX11_areSure_19 : decode cX11_areSure 19 = .ok (.imul, 1) := by decide +kernel
theorem dX11_areSure_20 : decode cX11_areSure 20 = .ok (.aload_n 0, 1) := by decide +kernel
theorem dX11_areSure_21 : decode cX11_areSure 21 = .ok (.getfield 31, 3) := by decide +kernel
theorem dX11_areSure_24 : decode cX11_areSure 24 = .ok (.aload_n 0, 1) := by decide +kernel
theorem dX11_areSure_25 : decode cX11_areSure 25 = .ok (.getfield 19, 3) := by decide +kernel
theorem dX11_areSure_28 : decode cX11_areSure 28 = .ok (.iload_n 1, 1) := by decide +kernel
theorem dX11_areSure_29 : decode cX11_areSure 29 = .ok (.iaload, 1) := by decide +kernel
theorem dX11_areSure_30 : decode cX11_areSure 30 = .ok (.imul, 1) := by decide +kernel
theorem dX11_areSure_31 : decode cX11_areSure 31 = .ok (.aload_n 0, 1) := by decide +kernel
theorem dX11_areSure_32 : decode cX11_areSure 32 = .ok (.getfield 19, 3) := by decide +kernel
theorem dX11_areSure_35 : decode cX11_areSure 35 = .ok (.iload_n 2, 1) := by decide +kernel
theorem dX11_areSure_36 : decode cX11_areSure 36 = .ok (.iaload, 1) := by decide +kernel
theorem dX11_areSure_37 : decode cX11_areSure 37 = .ok (.imul, 1) := by decide +kernel
theorem dX11_areSure_38 : decode cX11_areSure 38 = .ok (.if_icmp .le 7, 3) := by decide +kernel
theorem dX11_areSure_41 : decode cX11_areSure 41 = .ok (.iconst 1, 1) := by decide +kernel
theorem dX11_areSure_42 : decode cX11_areSure 42 = .ok (.goto 4, 3) := by decide +kernel
theorem dX11_areSure_45 : decode cX11_areSure 45 = .ok (.iconst 0, 1) := by decide +kernel
theorem dX11_areSure_46 : decode cX11_areSure 46 = .ok (.ireturn, 1) := by decide +kernel
theorem dX11_sure_0 : decode cX11_sure 0 = .ok (.aload_n 0, 1) := by decide +kernel
theorem dX11_sure_1 : decode cX11_sure 1 = .ok (.iload_n 1, 1) := by decide +kernel
theorem dX11_sure_2 : decode cX11_sure 2 = .ok (.invokevirtual 226, 3) := by decide +kernel
theorem dX11_sure_5 : decode cX11_sure 5 = .ok (.ifCond .eq 33, 3) := by decide +kernel
theorem dX11_sure_8 : decode cX11_sure 8 = .ok (.aload_n 0, 1) := by decide +kernel
theorem dX11_sure_9 : decode cX11_sure 9 = .ok (.iload_n 2, 1) := by decide +kernel
theorem dX11_sure_10 : decode cX11_sure 10 = .ok (.invokevirtual 226, 3) := by decide +kernel
theorem dX11_sure_13 : decode cX11_sure 13 = .ok (.ifCond .eq 25, 3) := by decide +kernel
theorem dX11_sure_16 : decode cX11_sure 16 = .ok (.iload_n 1, 1) := by decide +kernel
theorem dX11_sure_17 : decode cX11_sure 17 = .ok (.iload_n 2, 1) := by decide +kernel
theorem dX11_sure_18 : decode cX11_sure 18 = .ok (.if_icmp .eq 20, 3) := by decide +kernel
theorem dX11_sure_21 : decode cX11_sure 21 = .ok (.aload_n 0, 1) := by decide +kernel
theorem dX11_sure_22 : decode cX11_sure 22 = .ok (.iload_n 1, 1) := by decide +kernel
theorem dX11_sure_23 : decode cX11_sure 23 = .ok (.iload_n 2, 1) := by decide +kernel
theorem dX11_sure_24 : decode cX11_sure 24 = .ok (.invokevirtual 232, 3) := by decide +kernel
theorem dX11_sure_27 : decode cX11_sure 27 = .ok (.ifCond .eq 7, 3) := by decide +kernel
theorem dX11_sure_30 : decode cX11_sure 30 = .ok (.iconst 1, 1) := by decide +kernel
theorem dX11_sure_31 : decode cX11_sure 31 = .ok (.goto 8, 3) := by decide +kernel
theorem dX11_sure_34 : decode cX11_sure 34 = .ok (.iconst 0, 1) := by decide +kernel
theorem dX11_sure_35 : decode cX11_sure 35 = .ok (.goto 4, 3) := by decide +kernel
theorem dX11_sure_38 : decode cX11_sure 38 = .ok (.iconst (-1), 1) := by decide +kernel
theorem dX11_sure_39 : decode cX11_sure 39 = .ok (.ireturn, 1) := by decide +kernel
theorem dX11_hands_0 : decode cX11_hands 0 = .ok (.iload_n 1, 1) := by decide +kernel
theorem dX11_hands_1 : decode cX11_hands 1 = .ok (.ifCond .lt 15, 3) := by decide +kernel
theorem dX11_hands_4 : decode cX11_hands 4 = .ok (.iload_n 1, 1) := by decide +kernel
theorem dX11_hands_5 : decode cX11_hands 5 = .ok (.i2l, 1) := by decide +kernel
theorem dX11_hands_6 : decode cX11_hands 6 = .ok (.lconst 1, 1) := by decide +kernel
theorem dX11_hands_7 : decode cX11_hands 7 = .ok (.ldc2_w 236, 3) := by decide +kernel
theorem dX11_hands_10 : decode cX11_hands 10 = .ok (.invokestatic 96, 3) := by decide +kernel
theorem dX11_hands_13 : decode cX11_hands 13 = .ok (.ifCond .eq 5, 3) := by decide +kernel
theorem dX11_hands_16 : decode cX11_hands 16 = .ok (.iconst (-1), 1) := by decide +kernel
theorem dX11_hands_17 : decode cX11_hands 17 = .ok (.ireturn, 1) := by decide +kernel
theorem dX11_hands_18 : decode cX11_hands 18 = .ok (.iconst 0, 1) := by decide +kernel
theorem dX11_hands_19 : decode cX11_hands 19 = .ok (.istore_n 2, 1) := by decide +kernel
theorem dX11_hands_20 : decode cX11_hands 20 = .ok (.iconst 0, 1) := by decide +kernel
theorem dX11_hands_21 : decode cX11_hands 21 = .ok (.istore_n 3, 1) := by decide +kernel
theorem dX11_hands_22 : decode cX11_hands 22 = .ok (.iload_n 3, 1) := by decide +kernel
theorem dX11_hands_23 : decode cX11_hands 23 = .ok (.aload_n 0, 1) := by decide +kernel
theorem dX11_hands_24 : decode cX11_hands 24 = .ok (.getfield 184, 3) := by decide +kernel
theorem dX11_hands_27 : decode cX11_hands 27 = .ok (.if_icmp .ge 27, 3) := by decide +kernel
theorem dX11_hands_30 : decode cX11_hands 30 = .ok (.iload_n 2, 1) := by decide +kernel
theorem dX11_hands_31 : decode cX11_hands 31 = .ok (.aload_n 0, 1) := by decide +kernel
theorem dX11_hands_32 : decode cX11_hands 32 = .ok (.iload_n 3, 1) := by decide +kernel
theorem dX11_hands_33 : decode cX11_hands 33 = .ok (.invokevirtual 226, 3) := by decide +kernel
theorem dX11_hands_36 : decode cX11_hands 36 = .ok (.ifCond .eq 9, 3) := by decide +kernel
theorem dX11_hands_39 : decode cX11_hands 39 = .ok (.iconst 1, 1) := by decide +kernel
theorem dX11_hands_40 : decode cX11_hands 40 = .ok (.iload_n 3, 1) := by decide +kernel
theorem dX11_hands_41 : decode cX11_hands 41 = .ok (.ishl, 1) := by decide +kernel
theorem dX11_hands_42 : decode cX11_hands 42 = .ok (.goto 4, 3) := by decide +kernel
theorem dX11_hands_45 : decode cX11_hands 45 = .ok (.iconst 0, 1) := by decide +kernel
theorem dX11_hands_46 : decode cX11_hands 46 = .ok (.ior, 1) := by decide +kernel
theorem dX11_hands_47 : decode cX11_hands 47 = .ok (.istore_n 2, 1) := by decide +kernel
theorem dX11_hands_48 : decode cX11_hands 48 = .ok (.iinc 3 1, 3) := by decide +kernel
theorem dX11_hands_51 : decode cX11_hands 51 = .ok (.goto (-29), 3) := by decide +kernel
theorem dX11_hands_54 : decode cX11_hands 54 = .ok (.iconst 0, 1) := by decide +kernel
theorem dX11_hands_55 : decode cX11_hands 55 = .ok (.istore_n 3, 1) := by decide +kernel
theorem dX11_hands_56 : decode cX11_hands 56 = .ok (.iload_n 2, 1) := by decide +kernel
theorem dX11_hands_57 : decode cX11_hands 57 = .ok (.ifCond .eq 141, 3) := by decide +kernel
theorem dX11_hands_60 : decode cX11_hands 60 = .ok (.bipush (-4), 2) := by decide +kernel
theorem dX11_hands_62 : decode cX11_hands 62 = .ok (.istore 4, 2) := by decide +kernel
theorem dX11_hands_64 : decode cX11_hands 64 = .ok (.iconst 0, 1) := by decide +kernel
theorem dX11_hands_65 : decode cX11_hands 65 = .ok (.istore 5, 2) := by decide +kernel
theorem dX11_hands_67 : decode cX11_hands 67 = .ok (.iload 5, 2) := by decide +kernel
theorem dX11_hands_69 : decode cX11_hands 69 = .ok (.aload_n 0, 1) := by decide +kernel
theorem dX11_hands_70 : decode cX11_hands 70 = .ok (.getfield 184, 3) := by decide +kernel
theorem dX11_hands_73 : decode cX11_hands 73 = .ok (.if_icmp .ge 46, 3) := by decide +kernel
theorem dX11_hands_76 : decode cX11_hands 76 = .ok (.iload_n 2, 1) := by decide +kernel
theorem dX11_hands_77 : decode cX11_hands 77 = .ok (.iload 5, 2) := by decide +kernel
theorem dX11_hands_79 : decode cX11_hands 79 = .ok (.ishr, 1) := by decide +kernel
theorem dX11_hands_80 : decode cX11_hands 80 = .ok (.iconst 1, 1) := by decide +kernel
theorem dX11_hands_81 : decode cX11_hands 81 = .ok (.iand, 1) := by decide +kernel
theorem dX11_hands_82 : decode cX11_hands 82 = .ok (.iconst 1, 1) := by decide +kernel
theorem dX11_hands_83 : decode cX11_hands 83 = .ok (.if_icmp .ne 26, 3) := by decide +kernel
theorem dX11_hands_86 : decode cX11_hands 86 = .ok (.iload 4, 2) := by decide +kernel
theorem dX11_hands_88 : decode cX11_hands 88 = .ok (.bipush (-4), 2) := by decide +kernel
theorem dX11_hands_90 : decode cX11_hands 90 = .ok (.if_icmp .eq 14, 3) := by decide +kernel
theorem dX11_hands_93 : decode cX11_hands 93 = .ok (.aload_n 0, 1) := by decide +kernel
theorem dX11_hands_94 : decode cX11_hands 94 = .ok (.iload 5, 2) := by decide +kernel
theorem dX11_hands_96 : decode cX11_hands 96 = .ok (.iload 4, 2) := by decide +kernel
theorem dX11_hands_98 : decode cX11_hands 98 = .ok (.invokevirtual 229, 3) := by decide +kernel
theorem dX11_hands_101 : decode cX11_hands 101 = .ok (.ifCond .ge 8, 3) := by decide +kernel
theorem dX11_hands_104 : decode cX11_hands 104 = .ok (.iload 5, 2) := by decide +kernel
theorem dX11_hands_106 : decode cX11_hands 106 = .ok (.goto 5, 3) := by decide +kernel
theorem dX11_hands_109 : decode cX11_hands 109 = .ok (.iload 4, 2) := by decide +kernel
theorem dX11_hands_111 : decode cX11_hands 111 = .ok (.istore 4, 2) := by decide +kernel
theorem dX11_hands_113 : decode cX11_hands 113 = .ok (.iinc 5 1, 3) := by decide +kernel
theorem dX11_hands_116 : decode cX11_hands 116 = .ok (.goto (-49), 3) := by decide +kernel
theorem dX11_hands_119 : decode cX11_hands 119 = .ok (.iconst 0, 1) := by decide +kernel
theorem dX11_hands_120 : decode cX11_hands 120 = .ok (.istore 5, 2) := by decide +kernel
theorem dX11_hands_122 : decode cX11_hands 122 = .ok (.iconst 0, 1) := by decide +kernel
theorem dX11_hands_123 : decode cX11_hands 123 = .ok (.istore 6, 2) := by decide +kernel
theorem dX11_hands_125 : decode cX11_hands 125 = .ok (.iload 6, 2) := by decide +kernel
theorem dX11_hands_127 : decode cX11_hands 127 = .ok (.aload_n 0, 1) := by decide +kernel
theorem dX11_hands_128 : decode cX11_hands 128 = .ok (.getfield 184, 3) := by decide +kernel
theorem dX11_hands_131 : decode cX11_hands 131 = .ok (.if_icmp .ge 43, 3) := by decide +kernel
theorem dX11_hands_134 : decode cX11_hands 134 = .ok (.iload 5, 2) := by decide +kernel
theorem dX11_hands_136 : decode cX11_hands 136 = .ok (.iload_n 2, 1) := by decide +kernel
theorem dX11_hands_137 : decode cX11_hands 137 = .ok (.iload 6, 2) := by decide +kernel
theorem dX11_hands_139 : decode cX11_hands 139 = .ok (.ishr, 1) := by decide +kernel
theorem dX11_hands_140 : decode cX11_hands 140 = .ok (.iconst 1, 1) := by decide +kernel
theorem dX11_hands_141 : decode cX11_hands 141 = .ok (.iand, 1) := by decide +kernel
theorem dX11_hands_142 : decode cX11_hands 142 = .ok (.iconst 1, 1) := by decide +kernel
theorem dX11_hands_143 : decode cX11_hands 143 = .ok (.if_icmp .ne 21, 3) := by decide +kernel
theorem dX11_hands_146 : decode cX11_hands 146 = .ok (.aload_n 0, 1) := by decide +kernel
theorem dX11_hands_147 : decode cX11_hands 147 = .ok (.iload 6, 2) := by decide +kernel
theorem dX11_hands_149 : decode cX11_hands 149 = .ok (.iload 4, 2) := by decide +kernel
theorem dX11_hands_151 : decode cX11_hands 151 = .ok (.invokevirtual 232, 3) := by decide +kernel
theorem dX11_hands_154 : decode cX11_hands 154 = .ok (.ifCond .ne 10, 3) := by decide +kernel
theorem dX11_hands_157 : decode cX11_hands 157 = .ok (.iconst 1, 1) := by decide +kernel
theorem dX11_hands_158 : decode cX11_hands 158 = .ok (.iload 6, 2) := by decide +kernel
theorem dX11_hands_160 : decode cX11_hands 160 = .ok (.ishl, 1) := by decide +kernel
theorem dX11_hands_161 : decode cX11_hands 161 = .ok (.goto 4, 3) := by decide +kernel
theorem dX11_hands_164 : decode cX11_hands 164 = .ok (.iconst 0, 1) := by decide +kernel
theorem dX11_hands_165 : decode cX11_hands 165 = .ok (.ior, 1) := by decide +kernel
theorem dX11_hands_166 : decode cX11_hands 166 = .ok (.istore 5, 2) := by decide +kernel
theorem dX11_hands_168 : decode cX11_hands 168 = .ok (.iinc 6 1, 3) := by decide +kernel
theorem dX11_hands_171 : decode cX11_hands 171 = .ok (.goto (-46), 3) := by decide +kernel
theorem dX11_hands_174 : decode cX11_hands 174 = .ok (.iload_n 3, 1) := by decide +kernel
theorem dX11_hands_175 : decode cX11_hands 175 = .ok (.iload_n 1, 1) := by decide +kernel
theorem dX11_hands_176 : decode cX11_hands 176 = .ok (.bipush 10, 2) := by decide +kernel
theorem dX11_hands_178 : decode cX11_hands 178 = .ok (.isub, 1) := by decide +kernel
theorem dX11_hands_179 : decode cX11_hands 179 = .ok (.if_icmp .ne 6, 3) := by decide +kernel
theorem dX11_hands_182 : decode cX11_hands 182 = .ok (.iload 5, 2) := by decide +kernel
theorem dX11_hands_184 : decode cX11_hands 184 = .ok (.ireturn, 1) := by decide +kernel
theorem dX11_hands_185 : decode cX11_hands 185 = .ok (.iload_n 2, 1) := by decide +kernel
theorem dX11_hands_186 : decode cX11_hands 186 = .ok (.iload 5, 2) := by decide +kernel
theorem dX11_hands_188 : decode cX11_hands 188 = .ok (.iconst (-1), 1) := by decide +kernel
theorem dX11_hands_189 : decode cX11_hands 189 = .ok (.ixor, 1) := by decide +kernel
theorem dX11_hands_190 : decode cX11_hands 190 = .ok (.iand, 1) := by decide +kernel
theorem dX11_hands_191 : decode cX11_hands 191 = .ok (.istore_n 2, 1) := by decide +kernel
theorem dX11_hands_192 : decode cX11_hands 192 = .ok (.iinc 3 1, 3) := by decide +kernel
theorem dX11_hands_195 : decode cX11_hands 195 = .ok (.goto (-139), 3) := by decide +kernel
theorem dX11_hands_198 : decode cX11_hands 198 = .ok (.iload_n 1, 1) := by decide +kernel
theorem dX11_hands_199 : decode cX11_hands 199 = .ok (.ifCond .ne 7, 3) := by decide +kernel
theorem dX11_hands_202 : decode cX11_hands 202 = .ok (.iload_n 3, 1) := by decide +kernel
theorem dX11_hands_203 : decode cX11_hands 203 = .ok (.goto 4, 3) := by decide +kernel
theorem dX11_hands_206 : decode cX11_hands 206 = .ok (.iconst (-1), 1) := by decide +kernel
theorem dX11_hands_207 : decode cX11_hands 207 = .ok (.ireturn, 1) := by decide +kernel
theorem dX11_knot_0 : decode cX11_knot 0 = .ok (.iload_n 1, 1) := by decide +kernel
theorem dX11_knot_1 : decode cX11_knot 1 = .ok (.i2l, 1) := by decide +kernel
theorem dX11_knot_2 : decode cX11_knot 2 = .ok (.lconst 0, 1) := by decide +kernel
theorem dX11_knot_3 : decode cX11_knot 3 = .ok (.ldc2_w 238, 3) := by decide +kernel
theorem dX11_knot_6 : decode cX11_knot 6 = .ok (.invokestatic 96, 3) := by decide +kernel
theorem dX11_knot_9 : decode cX11_knot 9 = .ok (.ifCond .eq 25, 3) := by decide +kernel
theorem dX11_knot_12 : decode cX11_knot 12 = .ok (.aload_n 0, 1) := by decide +kernel
theorem dX11_knot_13 : decode cX11_knot 13 = .ok (.getfield 240, 3) := by decide +kernel
theorem dX11_knot_16 : decode cX11_knot 16 = .ok (.ifCond .le 20, 3) := by decide +kernel
theorem dX11_knot_19 : decode cX11_knot 19 = .ok (.iload_n 1, 1) := by decide +kernel
theorem dX11_knot_20 : decode cX11_knot 20 = .ok (.aload_n 0, 1) := by decide +kernel
theorem dX11_knot_21 : decode cX11_knot 21 = .ok (.getfield 69, 3) := by decide +kernel
theorem dX11_knot_24 : decode cX11_knot 24 = .ok (.aload_n 0, 1) := by decide +kernel
theorem dX11_knot_25 : decode cX11_knot 25 = .ok (.getfield 240, 3) := by decide +kernel
theorem dX11_knot_28 : decode cX11_knot 28 = .ok (.iconst 1, 1) := by decide +kernel
theorem dX11_knot_29 : decode cX11_knot 29 = .ok (.isub, 1) := by decide +kernel
theorem dX11_knot_30 : decode cX11_knot 30 = .ok (.iaload, 1) := by decide +kernel
theorem dX11_knot_31 : decode cX11_knot 31 = .ok (.if_icmp .gt 5, 3) := by decide +kernel
theorem dX11_knot_34 : decode cX11_knot 34 = .ok (.iconst (-1), 1) := by decide +kernel
theorem dX11_knot_35 : decode cX11_knot 35 = .ok (.ireturn, 1) := by decide +kernel
theorem dX11_knot_36 : decode cX11_knot 36 = .ok (.aload_n 0, 1) := by decide +kernel
theorem dX11_knot_37 : decode cX11_knot 37 = .ok (.getfield 240, 3) := by decide +kernel
theorem dX11_knot_40 : decode cX11_knot 40 = .ok (.bipush 24, 2) := by decide +kernel
theorem dX11_knot_42 : decode cX11_knot 42 = .ok (.if_icmp .ne 6, 3) := by decide +kernel
theorem dX11_knot_45 : decode cX11_knot 45 = .ok (.bipush (-3), 2) := by decide +kernel
theorem dX11_knot_47 : decode cX11_knot 47 = .ok (.ireturn, 1) := by decide +kernel
theorem dX11_knot_48 : decode cX11_knot 48 = .ok (.aload_n 0, 1) := by decide +kernel
theorem dX11_knot_49 : decode cX11_knot 49 = .ok (.getfield 69, 3) := by decide +kernel
theorem dX11_knot_52 : decode cX11_knot 52 = .ok (.aload_n 0, 1) := by decide +kernel
theorem dX11_knot_53 : decode cX11_knot 53 = .ok (.getfield 240, 3) := by decide +kernel
theorem dX11_knot_56 : decode cX11_knot 56 = .ok (.iload_n 1, 1) := by decide +kernel
theorem dX11_knot_57 : decode cX11_knot 57 = .ok (.iastore, 1) := by decide +kernel
theorem dX11_knot_58 : decode cX11_knot 58 = .ok (.aload_n 0, 1) := by decide +kernel
theorem dX11_knot_59 : decode cX11_knot 59 = .ok (.dup, 1) := by decide +kernel
theorem dX11_knot_60 : decode cX11_knot 60 = .ok (.getfield 240, 3) := by decide +kernel
theorem dX11_knot_63 : decode cX11_knot 63 = .ok (.iconst 1, 1) := by decide +kernel
theorem dX11_knot_64 : decode cX11_knot 64 = .ok (.iadd, 1) := by decide +kernel
theorem dX11_knot_65 : decode cX11_knot 65 = .ok (.putfield 240, 3) := by decide +kernel
theorem dX11_knot_68 : decode cX11_knot 68 = .ok (.aload_n 0, 1) := by decide +kernel
theorem dX11_knot_69 : decode cX11_knot 69 = .ok (.getfield 240, 3) := by decide +kernel
theorem dX11_knot_72 : decode cX11_knot 72 = .ok (.ireturn, 1) := by decide +kernel
theorem dX11_wipe_0 : decode cX11_wipe 0 = .ok (.aload_n 0, 1) := by decide +kernel
theorem dX11_wipe_1 : decode cX11_wipe 1 = .ok (.getfield 240, 3) := by decide +kernel
theorem dX11_wipe_4 : decode cX11_wipe 4 = .ok (.istore_n 1, 1) := by decide +kernel
theorem dX11_wipe_5 : decode cX11_wipe 5 = .ok (.aload_n 0, 1) := by decide +kernel
theorem dX11_wipe_6 : decode cX11_wipe 6 = .ok (.iconst 0, 1) := by decide +kernel
theorem dX11_wipe_7 : decode cX11_wipe 7 = .ok (.putfield 240, 3) := by decide +kernel
theorem dX11_wipe_10 : decode cX11_wipe 10 = .ok (.iload_n 1, 1) := by decide +kernel
theorem dX11_wipe_11 : decode cX11_wipe 11 = .ok (.ireturn, 1) := by decide +kernel
theorem dX11_slipped_0 : decode cX11_slipped 0 = .ok (.iconst 0, 1) := by decide +kernel
theorem dX11_slipped_1 : decode cX11_slipped 1 = .ok (.istore_n 2, 1) := by decide +kernel
theorem dX11_slipped_2 : decode cX11_slipped 2 = .ok (.iconst 1, 1) := by decide +kernel
theorem dX11_slipped_3 : decode cX11_slipped 3 = .ok (.istore_n 3, 1) := by decide +kernel
theorem dX11_slipped_4 : decode cX11_slipped 4 = .ok (.iload_n 3, 1) := by decide +kernel
theorem dX11_slipped_5 : decode cX11_slipped 5 = .ok (.aload_n 0, 1) := by decide +kernel
theorem dX11_slipped_6 : decode cX11_slipped 6 = .ok (.getfield 240, 3) := by decide +kernel
theorem dX11_slipped_9 : decode cX11_slipped 9 = .ok (.if_icmp .ge 36, 3) := by decide +kernel
theorem dX11_slipped_12 : decode cX11_slipped 12 = .ok (.iload_n 2, 1) := by decide +kernel
theorem dX11_slipped_13 : decode cX11_slipped 13 = .ok (.aload_n 0, 1) := by decide +kernel
theorem dX11_slipped_14 : decode cX11_slipped 14 = .ok (.getfield 69, 3) := by decide +kernel
theorem dX11_slipped_17 : decode cX11_slipped 17 = .ok (.iload_n 3, 1) := by decide +kernel
theorem dX11_slipped_18 : decode cX11_slipped 18 = .ok (.iaload, 1) := by decide +kernel
theorem dX11_slipped_19 : decode cX11_slipped 19 = .ok (.aload_n 0, 1) := by decide +kernel
theorem dX11_slipped_20 : decode cX11_slipped 20 = .ok (.getfield 69, 3) := by decide +kernel
theorem dX11_slipped_23 : decode cX11_slipped 23 = .ok (.iload_n 3, 1) := by decide +kernel
theorem dX11_slipped_24 : decode cX11_slipped 24 = .ok (.iconst 1, 1) := by decide +kernel
theorem dX11_slipped_25 : decode cX11_slipped 25 = .ok (.isub, 1) := by decide +kernel
theorem dX11_slipped_26 : decode cX11_slipped 26 = .ok (.iaload, 1) := by decide +kernel
theorem dX11_slipped_27 : decode cX11_slipped 27 = .ok (.isub, 1) := by decide +kernel
theorem dX11_slipped_28 : decode cX11_slipped 28 = .ok (.iload_n 1, 1) := by decide +kernel
theorem dX11_slipped_29 : decode cX11_slipped 29 = .ok (.if_icmp .ne 7, 3) := by decide +kernel
theorem dX11_slipped_32 : decode cX11_slipped 32 = .ok (.iconst 0, 1) := by decide +kernel
theorem dX11_slipped_33 : decode cX11_slipped 33 = .ok (.goto 4, 3) := by decide +kernel
theorem dX11_slipped_36 : decode cX11_slipped 36 = .ok (.iconst 1, 1) := by decide +kernel
theorem dX11_slipped_37 : decode cX11_slipped 37 = .ok (.iadd, 1) := by decide +kernel
theorem dX11_slipped_38 : decode cX11_slipped 38 = .ok (.istore_n 2, 1) := by decide +kernel
theorem dX11_slipped_39 : decode cX11_slipped 39 = .ok (.iinc 3 1, 3) := by decide +kernel
theorem dX11_slipped_42 : decode cX11_slipped 42 = .ok (.goto (-38), 3) := by decide +kernel
theorem dX11_slipped_45 : decode cX11_slipped 45 = .ok (.iload_n 2, 1) := by decide +kernel
theorem dX11_slipped_46 : decode cX11_slipped 46 = .ok (.ireturn, 1) := by decide +kernel
theorem dX11_slips_0 : decode cX11_slips 0 = .ok (.iload_n 1, 1) := by decide +kernel
theorem dX11_slips_1 : decode cX11_slips 1 = .ok (.i2l, 1) := by decide +kernel
theorem dX11_slips_2 : decode cX11_slips 2 = .ok (.lconst 1, 1) := by decide +kernel
theorem dX11_slips_3 : decode cX11_slips 3 = .ok (.ldc2_w 243, 3) := by decide +kernel
theorem dX11_slips_6 : decode cX11_slips 6 = .ok (.invokestatic 96, 3) := by decide +kernel
theorem dX11_slips_9 : decode cX11_slips 9 = .ok (.ifCond .eq 15, 3) := by decide +kernel
theorem dX11_slips_12 : decode cX11_slips 12 = .ok (.iload_n 2, 1) := by decide +kernel
theorem dX11_slips_13 : decode cX11_slips 13 = .ok (.i2l, 1) := by decide +kernel
theorem dX11_slips_14 : decode cX11_slips 14 = .ok (.lconst 0, 1) := by decide +kernel
theorem dX11_slips_15 : decode cX11_slips 15 = .ok (.ldc2_w 245, 3) := by decide +kernel
theorem dX11_slips_18 : decode cX11_slips 18 = .ok (.invokestatic 96, 3) := by decide +kernel
theorem dX11_slips_21 : decode cX11_slips 21 = .ok (.ifCond .ne 6, 3) := by decide +kernel
theorem dX11_slips_24 : decode cX11_slips 24 = .ok (.ldc 247, 2) := by decide +kernel
theorem dX11_slips_26 : decode cX11_slips 26 = .ok (.ireturn, 1) := by decide +kernel
theorem dX11_slips_27 : decode cX11_slips 27 = .ok (.aload_n 0, 1) := by decide +kernel
theorem dX11_slips_28 : decode cX11_slips 28 = .ok (.getfield 240, 3) := by decide +kernel
theorem dX11_slips_31 : decode cX11_slips 31 = .ok (.iconst 2, 1) := by decide +kernel
theorem dX11_slips_32 : decode cX11_slips 32 = .ok (.if_icmp .ge 6, 3) := by decide +kernel
theorem dX11_slips_35 : decode cX11_slips 35 = .ok (.ldc 248, 2) := by decide +kernel
theorem dX11_slips_37 : decode cX11_slips 37 = .ok (.ireturn, 1) := by decide +kernel
theorem dX11_slips_38 : decode cX11_slips 38 = .ok (.bipush (-4), 2) := by decide +kernel
theorem dX11_slips_40 : decode cX11_slips 40 = .ok (.istore_n 3, 1) := by decide +kernel
theorem dX11_slips_41 : decode cX11_slips 41 = .ok (.aload_n 0, 1) := by decide +kernel
theorem dX11_slips_42 : decode cX11_slips 42 = .ok (.getfield 240, 3) := by decide +kernel
theorem dX11_slips_45 : decode cX11_slips 45 = .ok (.iconst 1, 1) := by decide +kernel
theorem dX11_slips_46 : decode cX11_slips 46 = .ok (.isub, 1) := by decide +kernel
theorem dX11_slips_47 : decode cX11_slips 47 = .ok (.istore 4, 2) := by decide +kernel
theorem dX11_slips_49 : decode cX11_slips 49 = .ok (.iload 4, 2) := by decide +kernel
theorem dX11_slips_51 : decode cX11_slips 51 = .ok (.ifCond .le 39, 3) := by decide +kernel
theorem dX11_slips_54 : decode cX11_slips 54 = .ok (.aload_n 0, 1) := by decide +kernel
theorem dX11_slips_55 : decode cX11_slips 55 = .ok (.getfield 69, 3) := by decide +kernel
theorem dX11_slips_58 : decode cX11_slips 58 = .ok (.iload 4, 2) := by decide +kernel
theorem dX11_slips_60 : decode cX11_slips 60 = .ok (.iaload, 1) := by decide +kernel
theorem dX11_slips_61 : decode cX11_slips 61 = .ok (.aload_n 0, 1) := by decide +kernel
theorem dX11_slips_62 : decode cX11_slips 62 = .ok (.getfield 69, 3) := by decide +kernel
theorem dX11_slips_65 : decode cX11_slips 65 = .ok (.iload 4, 2) := by decide +kernel
theorem dX11_slips_67 : decode cX11_slips 67 = .ok (.iconst 1, 1) := by decide +kernel
theorem dX11_slips_68 : decode cX11_slips 68 = .ok (.isub, 1) := by decide +kernel
theorem dX11_slips_69 : decode cX11_slips 69 = .ok (.iaload, 1) := by decide +kernel
theorem dX11_slips_70 : decode cX11_slips 70 = .ok (.isub, 1) := by decide +kernel
theorem dX11_slips_71 : decode cX11_slips 71 = .ok (.iload_n 1, 1) := by decide +kernel
theorem dX11_slips_72 : decode cX11_slips 72 = .ok (.if_icmp .ne 7, 3) := by decide +kernel
theorem dX11_slips_75 : decode cX11_slips 75 = .ok (.iload_n 3, 1) := by decide +kernel
theorem dX11_slips_76 : decode cX11_slips 76 = .ok (.goto 7, 3) := by decide +kernel
theorem dX11_slips_79 : decode cX11_slips 79 = .ok (.iload 4, 2) := by decide +kernel
theorem dX11_slips_81 : decode cX11_slips 81 = .ok (.iconst 1, 1) := by decide +kernel
theorem dX11_slips_82 : decode cX11_slips 82 = .ok (.isub, 1) := by decide +kernel
theorem dX11_slips_83 : decode cX11_slips 83 = .ok (.istore_n 3, 1) := by decide +kernel
theorem dX11_slips_84 : decode cX11_slips 84 = .ok (.iinc 4 (-1), 3) := by decide +kernel
theorem dX11_slips_87 : decode cX11_slips 87 = .ok (.goto (-38), 3) := by decide +kernel
theorem dX11_slips_90 : decode cX11_slips 90 = .ok (.iload_n 2, 1) := by decide +kernel
theorem dX11_slips_91 : decode cX11_slips 91 = .ok (.ifCond .ne 11, 3) := by decide +kernel
theorem dX11_slips_94 : decode cX11_slips 94 = .ok (.aload_n 0, 1) := by decide +kernel
theorem dX11_slips_95 : decode cX11_slips 95 = .ok (.iload_n 1, 1) := by decide +kernel
theorem dX11_slips_96 : decode cX11_slips 96 = .ok (.invokevirtual 249, 3) := by decide +kernel
theorem dX11_slips_99 : decode cX11_slips 99 = .ok (.goto 39, 3) := by decide +kernel
theorem dX11_slips_102 : decode cX11_slips 102 = .ok (.iload_n 2, 1) := by decide +kernel
theorem dX11_slips_103 : decode cX11_slips 103 = .ok (.iconst 1, 1) := by decide +kernel
theorem dX11_slips_104 : decode cX11_slips 104 = .ok (.if_icmp .ne 7, 3) := by decide +kernel
theorem dX11_slips_107 : decode cX11_slips 107 = .ok (.iload_n 3, 1) := by decide +kernel
theorem dX11_slips_108 : decode cX11_slips 108 = .ok (.goto 30, 3) := by decide +kernel
theorem dX11_slips_111 : decode cX11_slips 111 = .ok (.aload_n 0, 1) := by decide +kernel
theorem dX11_slips_112 : decode cX11_slips 112 = .ok (.getfield 69, 3) := by decide +kernel
theorem dX11_slips_115 : decode cX11_slips 115 = .ok (.aload_n 0, 1) := by decide +kernel
theorem dX11_slips_116 : decode cX11_slips 116 = .ok (.getfield 240, 3) := by decide +kernel
theorem dX11_slips_119 : decode cX11_slips 119 = .ok (.iconst 1, 1) := by decide +kernel
theorem dX11_slips_120 : decode cX11_slips 120 = .ok (.isub, 1) := by decide +kernel
theorem dX11_slips_121 : decode cX11_slips 121 = .ok (.iaload, 1) := by decide +kernel
theorem dX11_slips_122 : decode cX11_slips 122 = .ok (.aload_n 0, 1) := by decide +kernel
theorem dX11_slips_123 : decode cX11_slips 123 = .ok (.getfield 69, 3) := by decide +kernel
theorem dX11_slips_126 : decode cX11_slips 126 = .ok (.iconst 0, 1) := by decide +kernel
theorem dX11_slips_127 : decode cX11_slips 127 = .ok (.iaload, 1) := by decide +kernel
theorem dX11_slips_128 : decode cX11_slips 128 = .ok (.isub, 1) := by decide +kernel
theorem dX11_slips_129 : decode cX11_slips 129 = .ok (.iload_n 1, 1) := by decide +kernel
theorem dX11_slips_130 : decode cX11_slips 130 = .ok (.aload_n 0, 1) := by decide +kernel
theorem dX11_slips_131 : decode cX11_slips 131 = .ok (.getfield 240, 3) := by decide +kernel
theorem dX11_slips_134 : decode cX11_slips 134 = .ok (.iconst 1, 1) := by decide +kernel
theorem dX11_slips_135 : decode cX11_slips 135 = .ok (.isub, 1) := by decide +kernel
theorem dX11_slips_136 : decode cX11_slips 136 = .ok (.imul, 1) := by decide +kernel
theorem dX11_slips_137 : decode cX11_slips 137 = .ok (.isub, 1) := by decide +kernel
theorem dX11_slips_138 : decode cX11_slips 138 = .ok (.ireturn, 1) := by decide +kernel
theorem dX11_knots_0 : decode cX11_knots 0 = .ok (.aload_n 0, 1) := by decide +kernel
theorem dX11_knots_1 : decode cX11_knots 1 = .ok (.getfield 240, 3) := by decide +kernel
theorem dX11_knots_4 : decode cX11_knots 4 = .ok (.iconst 2, 1) := by decide +kernel
theorem dX11_knots_5 : decode cX11_knots 5 = .ok (.if_icmp .ge 6, 3) := by decide +kernel
theorem dX11_knots_8 : decode cX11_knots 8 = .ok (.bipush (-2), 2) := by decide +kernel
theorem dX11_knots_10 : decode cX11_knots 10 = .ok (.ireturn, 1) := by decide +kernel
theorem dX11_knots_11 : decode cX11_knots 11 = .ok (.iconst 1, 1) := by decide +kernel
theorem dX11_knots_12 : decode cX11_knots 12 = .ok (.istore_n 1, 1) := by decide +kernel
theorem dX11_knots_13 : decode cX11_knots 13 = .ok (.iconst 2, 1) := by decide +kernel
theorem dX11_knots_14 : decode cX11_knots 14 = .ok (.istore_n 2, 1) := by decide +kernel
theorem dX11_knots_15 : decode cX11_knots 15 = .ok (.iload_n 2, 1) := by decide +kernel
theorem dX11_knots_16 : decode cX11_knots 16 = .ok (.bipush 100, 2) := by decide +kernel
theorem dX11_knots_18 : decode cX11_knots 18 = .ok (.if_icmp .ge 28, 3) := by decide +kernel
theorem dX11_knots_21 : decode cX11_knots 21 = .ok (.aload_n 0, 1) := by decide +kernel
theorem dX11_knots_22 : decode cX11_knots 22 = .ok (.iload_n 2, 1) := by decide +kernel
theorem dX11_knots_23 : decode cX11_knots 23 = .ok (.invokevirtual 249, 3) := by decide +kernel
theorem dX11_knots_26 : decode cX11_knots 26 = .ok (.aload_n 0, 1) := by decide +kernel
theorem dX11_knots_27 : decode cX11_knots 27 = .ok (.iload_n 1, 1) := by decide +kernel
theorem dX11_knots_28 : decode cX11_knots 28 = .ok (.invokevirtual 249, 3) := by decide +kernel
theorem dX11_knots_31 : decode cX11_knots 31 = .ok (.if_icmp .ge 7, 3) := by decide +kernel
theorem dX11_knots_34 : decode cX11_knots 34 = .ok (.iload_n 2, 1) := by decide +kernel
theorem dX11_knots_35 : decode cX11_knots 35 = .ok (.goto 4, 3) := by decide +kernel
theorem dX11_knots_38 : decode cX11_knots 38 = .ok (.iload_n 1, 1) := by decide +kernel
theorem dX11_knots_39 : decode cX11_knots 39 = .ok (.istore_n 1, 1) := by decide +kernel
theorem dX11_knots_40 : decode cX11_knots 40 = .ok (.iinc 2 1, 3) := by decide +kernel
theorem dX11_knots_43 : decode cX11_knots 43 = .ok (.goto (-28), 3) := by decide +kernel
theorem dX11_knots_46 : decode cX11_knots 46 = .ok (.iload_n 1, 1) := by decide +kernel
theorem dX11_knots_47 : decode cX11_knots 47 = .ok (.ireturn, 1) := by decide +kernel
theorem dX11_fits_0 : decode cX11_fits 0 = .ok (.iload_n 1, 1) := by decide +kernel
theorem dX11_fits_1 : decode cX11_fits 1 = .ok (.i2l, 1) := by decide +kernel
theorem dX11_fits_2 : decode cX11_fits 2 = .ok (.lconst 1, 1) := by decide +kernel
theorem dX11_fits_3 : decode cX11_fits 3 = .ok (.ldc2_w 238, 3) := by decide +kernel
theorem dX11_fits_6 : decode cX11_fits 6 = .ok (.invokestatic 96, 3) := by decide +kernel
theorem dX11_fits_9 : decode cX11_fits 9 = .ok (.ifCond .eq 40, 3) := by decide +kernel
theorem dX11_fits_12 : decode cX11_fits 12 = .ok (.iload_n 2, 1) := by decide +kernel
theorem dX11_fits_13 : decode cX11_fits 13 = .ok (.i2l, 1) := by decide +kernel
theorem dX11_fits_14 : decode cX11_fits 14 = .ok (.lconst 1, 1) := by decide +kernel
theorem dX11_fits_15 : decode cX11_fits 15 = .ok (.ldc2_w 243, 3) := by decide +kernel
theorem dX11_fits_18 : decode cX11_fits 18 = .ok (.invokestatic 96, 3) := by decide +kernel
theorem dX11_fits_21 : decode cX11_fits 21 = .ok (.ifCond .eq 28, 3) := by decide +kernel
theorem dX11_fits_24 : decode cX11_fits 24 = .ok (.iload_n 3, 1) := by decide +kernel
theorem dX11_fits_25 : decode cX11_fits 25 = .ok (.i2l, 1) := by decide +kernel
theorem dX11_fits_26 : decode cX11_fits 26 = .ok (.lconst 0, 1) := by decide +kernel
theorem dX11_fits_27 : decode cX11_fits 27 = .ok (.ldc2_w 236, 3) := by decide +kernel
theorem dX11_fits_30 : decode cX11_fits 30 = .ok (.invokestatic 96, 3) := by decide +kernel
theorem dX11_fits_33 : decode cX11_fits 33 = .ok (.ifCond .eq 16, 3) := by decide +kernel
theorem dX11_fits_36 : decode cX11_fits 36 = .ok (.iload 4, 2) := by decide +kernel
theorem dX11_fits_38 : decode cX11_fits 38 = .ok (.i2l, 1) := by decide +kernel
theorem dX11_fits_39 : decode cX11_fits 39 = .ok (.lconst 0, 1) := by decide +kernel
theorem dX11_fits_40 : decode cX11_fits 40 = .ok (.ldc2_w 245, 3) := by decide +kernel
theorem dX11_fits_43 : decode cX11_fits 43 = .ok (.invokestatic 96, 3) := by decide +kernel
theorem dX11_fits_46 : decode cX11_fits 46 = .ok (.ifCond .ne 5, 3) := by decide +kernel
theorem dX11_fits_49 : decode cX11_fits 49 = .ok (.iconst (-1), 1) := by decide +kernel
theorem dX11_fits_50 : decode cX11_fits 50 = .ok (.ireturn, 1) := by decide +kernel
theorem dX11_fits_51 : decode cX11_fits 51 = .ok (.bipush (-4), 2) := by decide +kernel
theorem dX11_fits_53 : decode cX11_fits 53 = .ok (.istore 5, 2) := by decide +kernel
theorem dX11_fits_55 : decode cX11_fits 55 = .ok (.bipush (-4), 2) := by decide +kernel
theorem dX11_fits_57 : decode cX11_fits 57 = .ok (.istore 6, 2) := by decide +kernel
theorem dX11_fits_59 : decode cX11_fits 59 = .ok (.bipush (-4), 2) := by decide +kernel
theorem dX11_fits_61 : decode cX11_fits 61 = .ok (.istore 7, 2) := by decide +kernel
theorem dX11_fits_63 : decode cX11_fits 63 = .ok (.iconst 1, 1) := by decide +kernel
theorem dX11_fits_64 : decode cX11_fits 64 = .ok (.istore 8, 2) := by decide +kernel
theorem dX11_fits_66 : decode cX11_fits 66 = .ok (.iload 8, 2) := by decide +kernel
theorem dX11_fits_68 : decode cX11_fits 68 = .ok (.iload_n 2, 1) := by decide +kernel
theorem dX11_fits_69 : decode cX11_fits 69 = .ok (.imul, 1) := by decide +kernel
theorem dX11_fits_70 : decode cX11_fits 70 = .ok (.iload_n 1, 1) := by decide +kernel
theorem dX11_fits_71 : decode cX11_fits 71 = .ok (.if_icmp .gt 88, 3) := by decide +kernel
theorem dX11_fits_74 : decode cX11_fits 74 = .ok (.iload_n 1, 1) := by decide +kernel
theorem dX11_fits_75 : decode cX11_fits 75 = .ok (.iload 8, 2) := by decide +kernel
theorem dX11_fits_77 : decode cX11_fits 77 = .ok (.iload_n 2, 1) := by decide +kernel
theorem dX11_fits_78 : decode cX11_fits 78 = .ok (.imul, 1) := by decide +kernel
theorem dX11_fits_79 : decode cX11_fits 79 = .ok (.isub, 1) := by decide +kernel
theorem dX11_fits_80 : decode cX11_fits 80 = .ok (.istore 9, 2) := by decide +kernel
theorem dX11_fits_82 : decode cX11_fits 82 = .ok (.iload 9, 2) := by decide +kernel
theorem dX11_fits_84 : decode cX11_fits 84 = .ok (.iload 8, 2) := by decide +kernel
theorem dX11_fits_86 : decode cX11_fits 86 = .ok (.iload_n 3, 1) := by decide +kernel
theorem dX11_fits_87 : decode cX11_fits 87 = .ok (.imul, 1) := by decide +kernel
theorem dX11_fits_88 : decode cX11_fits 88 = .ok (.if_icmp .gt 65, 3) := by decide +kernel
theorem dX11_fits_91 : decode cX11_fits 91 = .ok (.iload 8, 2) := by decide +kernel
theorem dX11_fits_93 : decode cX11_fits 93 = .ok (.istore 5, 2) := by decide +kernel
theorem dX11_fits_95 : decode cX11_fits 95 = .ok (.iload 6, 2) := by decide +kernel
theorem dX11_fits_97 : decode cX11_fits 97 = .ok (.bipush (-4), 2) := by decide +kernel
theorem dX11_fits_99 : decode cX11_fits 99 = .ok (.if_icmp .ne 8, 3) := by decide +kernel
theorem dX11_fits_102 : decode cX11_fits 102 = .ok (.iload 8, 2) := by decide +kernel
theorem dX11_fits_104 : decode cX11_fits 104 = .ok (.goto 5, 3) := by decide +kernel
theorem dX11_fits_107 : decode cX11_fits 107 = .ok (.iload 6, 2) := by decide +kernel
theorem dX11_fits_109 : decode cX11_fits 109 = .ok (.istore 6, 2) := by decide +kernel
theorem dX11_fits_111 : decode cX11_fits 111 = .ok (.iload 9, 2) := by decide +kernel
theorem dX11_fits_113 : decode cX11_fits 113 = .ok (.ifCond .ne 7, 3) := by decide +kernel
theorem dX11_fits_116 : decode cX11_fits 116 = .ok (.iconst 0, 1) := by decide +kernel
theorem dX11_fits_117 : decode cX11_fits 117 = .ok (.goto 11, 3) := by decide +kernel
theorem dX11_fits_120 : decode cX11_fits 120 = .ok (.iload 9, 2) := by decide +kernel
theorem dX11_fits_122 : decode cX11_fits 122 = .ok (.iload_n 3, 1) := by decide +kernel
theorem dX11_fits_123 : decode cX11_fits 123 = .ok (.iadd, 1) := by decide +kernel
theorem dX11_fits_124 : decode cX11_fits 124 = .ok (.iconst 1, 1) := by decide +kernel
theorem dX11_fits_125 : decode cX11_fits 125 = .ok (.isub, 1) := by decide +kernel
theorem dX11_fits_126 : decode cX11_fits 126 = .ok (.iload_n 3, 1) := by decide +kernel
theorem dX11_fits_127 : decode cX11_fits 127 = .ok (.idiv, 1) := by decide +kernel
theorem dX11_fits_128 : decode cX11_fits 128 = .ok (.istore 10, 2) := by decide +kernel
theorem dX11_fits_130 : decode cX11_fits 130 = .ok (.iload 7, 2) := by decide +kernel
theorem dX11_fits_132 : decode cX11_fits 132 = .ok (.bipush (-4), 2) := by decide +kernel
theorem dX11_fits_134 : decode cX11_fits 134 = .ok (.if_icmp .eq 10, 3) := by decide +kernel
theorem dX11_fits_137 : decode cX11_fits 137 = .ok (.iload 10, 2) := by decide +kernel
theorem dX11_fits_139 : decode cX11_fits 139 = .ok (.iload 7, 2) := by decide +kernel
theorem dX11_fits_141 : decode cX11_fits 141 = .ok (.if_icmp .ge 8, 3) := by decide +kernel
theorem dX11_fits_144 : decode cX11_fits 144 = .ok (.iload 10, 2) := by decide +kernel
theorem dX11_fits_146 : decode cX11_fits 146 = .ok (.goto 5, 3) := by decide +kernel
theorem dX11_fits_149 : decode cX11_fits 149 = .ok (.iload 7, 2) := by decide +kernel
theorem dX11_fits_151 : decode cX11_fits 151 = .ok (.istore 7, 2) := by decide +kernel
theorem dX11_fits_153 : decode cX11_fits 153 = .ok (.iinc 8 1, 3) := by decide +kernel
theorem dX11_fits_156 : decode cX11_fits 156 = .ok (.goto (-90), 3) := by decide +kernel
theorem dX11_fits_159 : decode cX11_fits 159 = .ok (.iload 4, 2) := by decide +kernel
theorem dX11_fits_161 : decode cX11_fits 161 = .ok (.ifCond .ne 8, 3) := by decide +kernel
theorem dX11_fits_164 : decode cX11_fits 164 = .ok (.iload 5, 2) := by decide +kernel
theorem dX11_fits_166 : decode cX11_fits 166 = .ok (.goto 16, 3) := by decide +kernel
theorem dX11_fits_169 : decode cX11_fits 169 = .ok (.iload 4, 2) := by decide +kernel
theorem dX11_fits_171 : decode cX11_fits 171 = .ok (.iconst 1, 1) := by decide +kernel
theorem dX11_fits_172 : decode cX11_fits 172 = .ok (.if_icmp .ne 8, 3) := by decide +kernel
theorem dX11_fits_175 : decode cX11_fits 175 = .ok (.iload 6, 2) := by decide +kernel
theorem dX11_fits_177 : decode cX11_fits 177 = .ok (.goto 5, 3) := by decide +kernel
theorem dX11_fits_180 : decode cX11_fits 180 = .ok (.iload 7, 2) := by decide +kernel
theorem dX11_fits_182 : decode cX11_fits 182 = .ok (.ireturn, 1) := by decide +kernel
theorem dX11_isCell_0 : decode cX11_isCell 0 = .ok (.iload_n 0, 1) := by decide +kernel
theorem dX11_isCell_1 : decode cX11_isCell 1 = .ok (.i2l, 1) := by decide +kernel
theorem dX11_isCell_2 : decode cX11_isCell 2 = .ok (.lconst 0, 1) := by decide +kernel
theorem dX11_isCell_3 : decode cX11_isCell 3 = .ok (.ldc2_w 252, 3) := by decide +kernel
theorem dX11_isCell_6 : decode cX11_isCell 6 = .ok (.invokestatic 96, 3) := by decide +kernel
theorem dX11_isCell_9 : decode cX11_isCell 9 = .ok (.ireturn, 1) := by decide +kernel
theorem dX11_put_0 : decode cX11_put 0 = .ok (.iload_n 1, 1) := by decide +kernel
theorem dX11_put_1 : decode cX11_put 1 = .ok (.invokestatic 254, 3) := by decide +kernel
theorem dX11_put_4 : decode cX11_put 4 = .ok (.ifCond .eq 17, 3) := by decide +kernel
theorem dX11_put_7 : decode cX11_put 7 = .ok (.iload_n 2, 1) := by decide +kernel
theorem dX11_put_8 : decode cX11_put 8 = .ok (.i2l, 1) := by decide +kernel
theorem dX11_put_9 : decode cX11_put 9 = .ok (.ldc2_w 220, 3) := by decide +kernel
theorem dX11_put_12 : decode cX11_put 12 = .ok (.ldc2_w 144, 3) := by decide +kernel
theorem dX11_put_15 : decode cX11_put 15 = .ok (.invokestatic 96, 3) := by decide +kernel
theorem dX11_put_18 : decode cX11_put 18 = .ok (.ifCond .ne 6, 3) := by decide +kernel
theorem dX11_put_21 : decode cX11_put 21 = .ok (.bipush (-9), 2) := by decide +kernel
theorem dX11_put_23 : decode cX11_put 23 = .ok (.ireturn, 1) := by decide +kernel
theorem dX11_put_24 : decode cX11_put 24 = .ok (.aload_n 0, 1) := by decide +kernel
theorem dX11_put_25 : decode cX11_put 25 = .ok (.getfield 72, 3) := by decide +kernel
theorem dX11_put_28 : decode cX11_put 28 = .ok (.iload_n 1, 1) := by decide +kernel
theorem dX11_put_29 : decode cX11_put 29 = .ok (.iaload, 1) := by decide +kernel
theorem dX11_put_30 : decode cX11_put 30 = .ok (.istore_n 3, 1) := by decide +kernel
theorem dX11_put_31 : decode cX11_put 31 = .ok (.aload_n 0, 1) := by decide +kernel
theorem dX11_put_32 : decode cX11_put 32 = .ok (.getfield 72, 3) := by decide +kernel
theorem dX11_put_35 : decode cX11_put 35 = .ok (.iload_n 1, 1) := by decide +kernel
theorem dX11_put_36 : decode cX11_put 36 = .ok (.iload_n 2, 1) := by decide +kernel
theorem dX11_put_37 : decode cX11_put 37 = .ok (.iastore, 1) := by decide +kernel
theorem dX11_put_38 : decode cX11_put 38 = .ok (.aload_n 0, 1) := by decide +kernel
theorem dX11_put_39 : decode cX11_put 39 = .ok (.dup, 1) := by decide +kernel
theorem dX11_put_40 : decode cX11_put 40 = .ok (.getfield 257, 3) := by decide +kernel
theorem dX11_put_43 : decode cX11_put 43 = .ok (.lconst 1, 1) := by decide +kernel
theorem dX11_put_44 : decode cX11_put 44 = .ok (.iload_n 1, 1) := by decide +kernel
theorem dX11_put_45 : decode cX11_put 45 = .ok (.lshl, 1) := by decide +kernel
theorem dX11_put_46 : decode cX11_put 46 = .ok (.ldc2_w 220, 3) := by decide +kernel
theorem dX11_put_49 : decode cX11_put 49 = .ok (.lxor, 1) := by decide +kernel
theorem dX11_put_50 : decode cX11_put 50 = .ok (.land, 1) := by decide +kernel
theorem dX11_put_51 : decode cX11_put 51 = .ok (.putfield 257, 3) := by decide +kernel
theorem dX11_put_54 : decode cX11_put 54 = .ok (.iload_n 3, 1) := by decide +kernel
theorem dX11_put_55 : decode cX11_put 55 = .ok (.ireturn, 1) := by decide +kernel
theorem dX11_at_0 : decode cX11_at 0 = .ok (.iload_n 1, 1) := by decide +kernel
theorem dX11_at_1 : decode cX11_at 1 = .ok (.invokestatic 254, 3) := by decide +kernel
theorem dX11_at_4 : decode cX11_at 4 = .ok (.ifCond .eq 12, 3) := by decide +kernel
theorem dX11_at_7 : decode cX11_at 7 = .ok (.aload_n 0, 1) := by decide +kernel
theorem dX11_at_8 : decode cX11_at 8 = .ok (.getfield 72, 3) := by decide +kernel
theorem dX11_at_11 : decode cX11_at 11 = .ok (.iload_n 1, 1) := by decide +kernel
theorem dX11_at_12 : decode cX11_at 12 = .ok (.iaload, 1) := by decide +kernel
theorem dX11_at_13 : decode cX11_at 13 = .ok (.goto 5, 3) := by decide +kernel
theorem dX11_at_16 : decode cX11_at 16 = .ok (.bipush (-9), 2) := by decide +kernel
theorem dX11_at_18 : decode cX11_at 18 = .ok (.ireturn, 1) := by decide +kernel
theorem dX11_sourceOf_0 : decode cX11_sourceOf 0 = .ok (.iload_n 0, 1) := by decide +kernel
theorem dX11_sourceOf_1 : decode cX11_sourceOf 1 = .ok (.iload_n 1, 1) := by decide +kernel
theorem dX11_sourceOf_2 : decode cX11_sourceOf 2 = .ok (.idiv, 1) := by decide +kernel
theorem dX11_sourceOf_3 : decode cX11_sourceOf 3 = .ok (.istore_n 3, 1) := by decide +kernel
theorem dX11_sourceOf_4 : decode cX11_sourceOf 4 = .ok (.iload_n 0, 1) := by decide +kernel
theorem dX11_sourceOf_5 : decode cX11_sourceOf 5 = .ok (.iload_n 1, 1) := by decide +kernel
theorem dX11_sourceOf_6 : decode cX11_sourceOf 6 = .ok (.irem, 1) := by decide +kernel
theorem dX11_sourceOf_7 : decode cX11_sourceOf 7 = .ok (.istore 4, 2) := by decide +kernel
theorem dX11_sourceOf_9 : decode cX11_sourceOf 9 = .ok (.iconst 0, 1) := by decide +kernel
theorem dX11_sourceOf_10 : decode cX11_sourceOf 10 = .ok (.istore 5, 2) := by decide +kernel
theorem dX11_sourceOf_12 : decode cX11_sourceOf 12 = .ok (.iload 5, 2) := by decide +kernel
theorem dX11_sourceOf_14 : decode cX11_sourceOf 14 = .ok (.iload_n 2, 1) := by decide +kernel
theorem dX11_sourceOf_15 : decode cX11_sourceOf 15 = .ok (.iconst 4, 1) := by decide +kernel
theorem dX11_sourceOf_16 : decode cX11_sourceOf 16 = .ok (.irem, 1) := by decide +kernel
theorem dX11_sourceOf_17 : decode cX11_sourceOf 17 = .ok (.if_icmp .ge 23, 3) := by decide +kernel
theorem dX11_sourceOf_20 : decode cX11_sourceOf 20 = .ok (.iload_n 3, 1) := by decide +kernel
theorem dX11_sourceOf_21 : decode cX11_sourceOf 21 = .ok (.istore 6, 2) := by decide +kernel
theorem dX11_sourceOf_23 : decode cX11_sourceOf 23 = .ok (.iload_n 1, 1) := by decide +kernel
theorem dX11_sourceOf_24 : decode cX11_sourceOf 24 = .ok (.iconst 1, 1) := by decide +kernel
theorem dX11_sourceOf_25 : decode cX11_sourceOf 25 = .ok (.isub, 1) := by decide +kernel
theorem dX11_sourceOf_26 : decode cX11_sourceOf 26 = .ok (.iload 4, 2) := by decide +kernel
theorem dX11_sourceOf_28 : decode cX11_sourceOf 28 = .ok (.isub, 1) := by decide +kernel
theorem dX11_sourceOf_29 : decode cX11_sourceOf 29 = .ok (.istore_n 3, 1) := by decide +kernel
theorem dX11_sourceOf_30 : decode cX11_sourceOf 30 = .ok (.iload 6, 2) := by decide +kernel
theorem dX11_sourceOf_32 : decode cX11_sourceOf 32 = .ok (.istore 4, 2) := by decide +kernel
theorem dX11_sourceOf_34 : decode cX11_sourceOf 34 = .ok (.iinc 5 1, 3) := by decide +kernel
theorem dX11_sourceOf_37 : decode cX11_sourceOf 37 = .ok (.goto (-25), 3) := by decide +kernel
theorem dX11_sourceOf_40 : decode cX11_sourceOf 40 = .ok (.iload_n 2, 1) := by decide +kernel
theorem dX11_sourceOf_41 : decode cX11_sourceOf 41 = .ok (.iconst 3, 1) := by decide +kernel
theorem dX11_sourceOf_42 : decode cX11_sourceOf 42 = .ok (.if_icmp .le 12, 3) := by decide +kernel
theorem dX11_sourceOf_45 : decode cX11_sourceOf 45 = .ok (.iload_n 1, 1) := by decide +kernel
theorem dX11_sourceOf_46 : decode cX11_sourceOf 46 = .ok (.iconst 1, 1) := by decide +kernel
theorem dX11_sourceOf_47 : decode cX11_sourceOf 47 = .ok (.isub, 1) := by decide +kernel
theorem dX11_sourceOf_48 : decode cX11_sourceOf 48 = .ok (.iload 4, 2) := by decide +kernel
theorem dX11_sourceOf_50 : decode cX11_sourceOf 50 = .ok (.isub, 1) := by decide +kernel
theorem dX11_sourceOf_51 : decode cX11_sourceOf 51 = .ok (.goto 5, 3) := by decide +kernel
theorem dX11_sourceOf_54 : decode cX11_sourceOf 54 = .ok (.iload 4, 2) := by decide +kernel
theorem dX11_sourceOf_56 : decode cX11_sourceOf 56 = .ok (.istore 4, 2) := by decide +kernel
theorem dX11_sourceOf_58 : decode cX11_sourceOf 58 = .ok (.iload_n 1, 1) := by decide +kernel
theorem dX11_sourceOf_59 : decode cX11_sourceOf 59 = .ok (.iload_n 3, 1) := by decide +kernel
theorem dX11_sourceOf_60 : decode cX11_sourceOf 60 = .ok (.imul, 1) := by decide +kernel
theorem dX11_sourceOf_61 : decode cX11_sourceOf 61 = .ok (.iload 4, 2) := by decide +kernel
theorem dX11_sourceOf_63 : decode cX11_sourceOf 63 = .ok (.iadd, 1) := by decide +kernel
theorem dX11_sourceOf_64 : decode cX11_sourceOf 64 = .ok (.ireturn, 1) := by decide +kernel
theorem dX11_isPattern_0 : decode cX11_isPattern 0 = .ok (.iload_n 1, 1) := by decide +kernel
theorem dX11_isPattern_1 : decode cX11_isPattern 1 = .ok (.i2l, 1) := by decide +kernel
theorem dX11_isPattern_2 : decode cX11_isPattern 2 = .ok (.lconst 0, 1) := by decide +kernel
theorem dX11_isPattern_3 : decode cX11_isPattern 3 = .ok (.aload_n 0, 1) := by decide +kernel
theorem dX11_isPattern_4 : decode cX11_isPattern 4 = .ok (.getfield 187, 3) := by decide +kernel
theorem dX11_isPattern_7 : decode cX11_isPattern 7 = .ok (.iconst 1, 1) := by decide +kernel
theorem dX11_isPattern_8 : decode cX11_isPattern 8 = .ok (.isub, 1) := by decide +kernel
theorem dX11_isPattern_9 : decode cX11_isPattern 9 = .ok (.i2l, 1) := by decide +kernel
theorem dX11_isPattern_10 : decode cX11_isPattern 10 = .ok (.invokestatic 96, 3) := by decide +kernel
theorem dX11_isPattern_13 : decode cX11_isPattern 13 = .ok (.ireturn, 1) := by decide +kernel
theorem dX11_pattern_0 : decode cX11_pattern 0 = .ok (.aload_n 0, 1) := by decide +kernel
theorem dX11_pattern_1 : decode cX11_pattern 1 = .ok (.iload_n 1, 1) := by decide +kernel
theorem dX11_pattern_2 : decode cX11_pattern 2 = .ok (.invokevirtual 261, 3) := by decide +kernel
theorem dX11_pattern_5 : decode cX11_pattern 5 = .ok (.ifCond .eq 46, 3) := by decide +kernel
theorem dX11_pattern_8 : decode cX11_pattern 8 = .ok (.iload_n 2, 1) := by decide +kernel
theorem dX11_pattern_9 : decode cX11_pattern 9 = .ok (.i2l, 1) := by decide +kernel
theorem dX11_pattern_10 : decode cX11_pattern 10 = .ok (.lconst 0, 1) := by decide +kernel
theorem dX11_pattern_11 : decode cX11_pattern 11 = .ok (.ldc2_w 264, 3) := by decide +kernel
theorem dX11_pattern_14 : decode cX11_pattern 14 = .ok (.invokestatic 96, 3) := by decide +kernel
theorem dX11_pattern_17 : decode cX11_pattern 17 = .ok (.ifCond .eq 34, 3) := by decide +kernel
theorem dX11_pattern_20 : decode cX11_pattern 20 = .ok (.iload_n 3, 1) := by decide +kernel
theorem dX11_pattern_21 : decode cX11_pattern 21 = .ok (.i2l, 1) := by decide +kernel
theorem dX11_pattern_22 : decode cX11_pattern 22 = .ok (.lconst 0, 1) := by decide +kernel
theorem dX11_pattern_23 : decode cX11_pattern 23 = .ok (.ldc2_w 266, 3) := by decide +kernel
theorem dX11_pattern_26 : decode cX11_pattern 26 = .ok (.invokestatic 96, 3) := by decide +kernel
theorem dX11_pattern_29 : decode cX11_pattern 29 = .ok (.ifCond .eq 22, 3) := by decide +kernel
theorem dX11_pattern_32 : decode cX11_pattern 32 = .ok (.aload_n 0, 1) := by decide +kernel
theorem dX11_pattern_33 : decode cX11_pattern 33 = .ok (.getfield 28, 3) := by decide +kernel
theorem dX11_pattern_36 : decode cX11_pattern 36 = .ok (.bipush 16, 2) := by decide +kernel
theorem dX11_pattern_38 : decode cX11_pattern 38 = .ok (.iload_n 1, 1) := by decide +kernel
theorem dX11_pattern_39 : decode cX11_pattern 39 = .ok (.imul, 1) := by decide +kernel
theorem dX11_pattern_40 : decode cX11_pattern 40 = .ok (.iload_n 3, 1) := by decide +kernel
theorem dX11_pattern_41 : decode cX11_pattern 41 = .ok (.iconst 4, 1) := by decide +kernel
theorem dX11_pattern_42 : decode cX11_pattern 42 = .ok (.iload_n 2, 1) := by decide +kernel
theorem dX11_pattern_43 : decode cX11_pattern 43 = .ok (.invokestatic 268, 3) := by decide +kernel
theorem dX11_pattern_46 : decode cX11_pattern 46 = .ok (.iadd, 1) := by decide +kernel
theorem dX11_pattern_47 : decode cX11_pattern 47 = .ok (.iaload, 1) := by decide +kernel
theorem dX11_pattern_48 : decode cX11_pattern 48 = .ok (.goto 4, 3) := by decide +kernel
theorem dX11_pattern_51 : decode cX11_pattern 51 = .ok (.iconst (-1), 1) := by decide +kernel
theorem dX11_pattern_52 : decode cX11_pattern 52 = .ok (.ireturn, 1) := by decide +kernel
theorem dX11_isCopy_0 : decode cX11_isCopy 0 = .ok (.aload_n 0, 1) := by decide +kernel
theorem dX11_isCopy_1 : decode cX11_isCopy 1 = .ok (.iload_n 1, 1) := by decide +kernel
theorem dX11_isCopy_2 : decode cX11_isCopy 2 = .ok (.invokevirtual 261, 3) := by decide +kernel
theorem dX11_isCopy_5 : decode cX11_isCopy 5 = .ok (.ifCond .eq 67, 3) := by decide +kernel
theorem dX11_isCopy_8 : decode cX11_isCopy 8 = .ok (.iload_n 2, 1) := by decide +kernel
theorem dX11_isCopy_9 : decode cX11_isCopy 9 = .ok (.i2l, 1) := by decide +kernel
theorem dX11_isCopy_10 : decode cX11_isCopy 10 = .ok (.lconst 0, 1) := by decide +kernel
theorem dX11_isCopy_11 : decode cX11_isCopy 11 = .ok (.ldc2_w 264, 3) := by decide +kernel
theorem dX11_isCopy_14 : decode cX11_isCopy 14 = .ok (.invokestatic 96, 3) := by decide +kernel
theorem dX11_isCopy_17 : decode cX11_isCopy 17 = .ok (.ifCond .eq 55, 3) := by decide +kernel
theorem dX11_isCopy_20 : decode cX11_isCopy 20 = .ok (.iload_n 3, 1) := by decide +kernel
theorem dX11_isCopy_21 : decode cX11_isCopy 21 = .ok (.i2l, 1) := by decide +kernel
theorem dX11_isCopy_22 : decode cX11_isCopy 22 = .ok (.lconst 1, 1) := by decide +kernel
theorem dX11_isCopy_23 : decode cX11_isCopy 23 = .ok (.ldc2_w 245, 3) := by decide +kernel
theorem dX11_isCopy_26 : decode cX11_isCopy 26 = .ok (.invokestatic 96, 3) := by decide +kernel
theorem dX11_isCopy_29 : decode cX11_isCopy 29 = .ok (.ifCond .eq 43, 3) := by decide +kernel
theorem dX11_isCopy_32 : decode cX11_isCopy 32 = .ok (.iload 4, 2) := by decide +kernel
theorem dX11_isCopy_34 : decode cX11_isCopy 34 = .ok (.invokestatic 254, 3) := by decide +kernel
theorem dX11_isCopy_37 : decode cX11_isCopy 37 = .ok (.ifCond .eq 35, 3) := by decide +kernel
theorem dX11_isCopy_40 : decode cX11_isCopy 40 = .ok (.iload 4, 2) := by decide +kernel
theorem dX11_isCopy_42 : decode cX11_isCopy 42 = .ok (.bipush 8, 2) := by decide +kernel
theorem dX11_isCopy_44 : decode cX11_isCopy 44 = .ok (.idiv, 1) := by decide +kernel
theorem dX11_isCopy_45 : decode cX11_isCopy 45 = .ok (.iconst 4, 1) := by decide +kernel
theorem dX11_isCopy_46 : decode cX11_isCopy 46 = .ok (.iload_n 3, 1) := by decide +kernel
theorem dX11_isCopy_47 : decode cX11_isCopy 47 = .ok (.imul, 1) := by decide +kernel
theorem dX11_isCopy_48 : decode cX11_isCopy 48 = .ok (.iadd, 1) := by decide +kernel
theorem dX11_isCopy_49 : decode cX11_isCopy 49 = .ok (.bipush 8, 2) := by decide +kernel
theorem dX11_isCopy_51 : decode cX11_isCopy 51 = .ok (.if_icmp .gt 21, 3) := by decide +kernel
theorem dX11_isCopy_54 : decode cX11_isCopy 54 = .ok (.iload 4, 2) := by decide +kernel
theorem dX11_isCopy_56 : decode cX11_isCopy 56 = .ok (.bipush 8, 2) := by decide +kernel
theorem dX11_isCopy_58 : decode cX11_isCopy 58 = .ok (.irem, 1) := by decide +kernel
theorem dX11_isCopy_59 : decode cX11_isCopy 59 = .ok (.iconst 4, 1) := by decide +kernel
theorem dX11_isCopy_60 : decode cX11_isCopy 60 = .ok (.iload_n 3, 1) := by decide +kernel
theorem dX11_isCopy_61 : decode cX11_isCopy 61 = .ok (.imul, 1) := by decide +kernel
theorem dX11_isCopy_62 : decode cX11_isCopy 62 = .ok (.iadd, 1) := by decide +kernel
theorem dX11_isCopy_63 : decode cX11_isCopy 63 = .ok (.bipush 8, 2) := by decide +kernel
theorem dX11_isCopy_65 : decode cX11_isCopy 65 = .ok (.if_icmp .gt 7, 3) := by decide +kernel
theorem dX11_isCopy_68 : decode cX11_isCopy 68 = .ok (.iconst 1, 1) := by decide +kernel
theorem dX11_isCopy_69 : decode cX11_isCopy 69 = .ok (.goto 4, 3) := by decide +kernel
theorem dX11_isCopy_72 : decode cX11_isCopy 72 = .ok (.iconst 0, 1) := by decide +kernel
theorem dX11_isCopy_73 : decode cX11_isCopy 73 = .ok (.ireturn, 1) := by decide +kernel
theorem dX11_tells_0 : decode cX11_tells 0 = .ok (.iconst 4, 1) := by decide +kernel
theorem dX11_tells_1 : decode cX11_tells 1 = .ok (.iload_n 3, 1) := by decide +kernel
theorem dX11_tells_2 : decode cX11_tells 2 = .ok (.imul, 1) := by decide +kernel
theorem dX11_tells_3 : decode cX11_tells 3 = .ok (.istore 5, 2) := by decide +kernel
theorem dX11_tells_5 : decode cX11_tells 5 = .ok (.aload_n 0, 1) := by decide +kernel
theorem dX11_tells_6 : decode cX11_tells 6 = .ok (.getfield 28, 3) := by decide +kernel
theorem dX11_tells_9 : decode cX11_tells 9 = .ok (.bipush 16, 2) := by decide +kernel
theorem dX11_tells_11 : decode cX11_tells 11 = .ok (.iload_n 1, 1) := by decide +kernel
theorem dX11_tells_12 : decode cX11_tells 12 = .ok (.imul, 1) := by decide +kernel
theorem dX11_tells_13 : decode cX11_tells 13 = .ok (.iconst 4, 1) := by decide +kernel
theorem dX11_tells_14 : decode cX11_tells 14 = .ok (.iload 4, 2) := by decide +kernel
theorem dX11_tells_16 : decode cX11_tells 16 = .ok (.iload 5, 2) := by decide +kernel
theorem dX11_tells_18 : decode cX11_tells 18 = .ok (.idiv, 1) := by decide +kernel
theorem dX11_tells_19 : decode cX11_tells 19 = .ok (.iload_n 3, 1) := by decide +kernel
theorem dX11_tells_20 : decode cX11_tells 20 = .ok (.idiv, 1) := by decide +kernel
theorem dX11_tells_21 : decode cX11_tells 21 = .ok (.imul, 1) := by decide +kernel
theorem dX11_tells_22 : decode cX11_tells 22 = .ok (.iload 4, 2) := by decide +kernel
theorem dX11_tells_24 : decode cX11_tells 24 = .ok (.iload 5, 2) := by decide +kernel
theorem dX11_tells_26 : decode cX11_tells 26 = .ok (.irem, 1) := by decide +kernel
theorem dX11_tells_27 : decode cX11_tells 27 = .ok (.iload_n 3, 1) := by decide +kernel
theorem dX11_tells_28 : decode cX11_tells 28 = .ok (.idiv, 1) := by decide +kernel
theorem dX11_tells_29 : decode cX11_tells 29 = .ok (.iadd, 1) := by decide +kernel
theorem dX11_tells_30 : decode cX11_tells 30 = .ok (.iconst 4, 1) := by decide +kernel
theorem dX11_tells_31 : decode cX11_tells 31 = .ok (.iload_n 2, 1) := by decide +kernel
theorem dX11_tells_32 : decode cX11_tells 32 = .ok (.invokestatic 268, 3) := by decide +kernel
theorem dX11_tells_35 : decode cX11_tells 35 = .ok (.iadd, 1) := by decide +kernel
theorem dX11_tells_36 : decode cX11_tells 36 = .ok (.iaload, 1) := by decide +kernel
theorem dX11_tells_37 : decode cX11_tells 37 = .ok (.ireturn, 1) := by decide +kernel
theorem dX11_spotOf_0 : decode cX11_spotOf 0 = .ok (.iconst 4, 1) := by decide +kernel
theorem dX11_spotOf_1 : decode cX11_spotOf 1 = .ok (.iload_n 0, 1) := by decide +kernel
theorem dX11_spotOf_2 : decode cX11_spotOf 2 = .ok (.imul, 1) := by decide +kernel
theorem dX11_spotOf_3 : decode cX11_spotOf 3 = .ok (.istore_n 3, 1) := by decide +kernel
theorem dX11_spotOf_4 : decode cX11_spotOf 4 = .ok (.iload_n 1, 1) := by decide +kernel
theorem dX11_spotOf_5 : decode cX11_spotOf 5 = .ok (.bipush 8, 2) := by decide +kernel
theorem dX11_spotOf_7 : decode cX11_spotOf 7 = .ok (.iload_n 2, 1) := by decide +kernel
theorem dX11_spotOf_8 : decode cX11_spotOf 8 = .ok (.iload_n 3, 1) := by decide +kernel
theorem dX11_spotOf_9 : decode cX11_spotOf 9 = .ok (.idiv, 1) := by decide +kernel
theorem dX11_spotOf_10 : decode cX11_spotOf 10 = .ok (.imul, 1) := by decide +kernel
theorem dX11_spotOf_11 : decode cX11_spotOf 11 = .ok (.iadd, 1) := by decide +kernel
theorem dX11_spotOf_12 : decode cX11_spotOf 12 = .ok (.iload_n 2, 1) := by decide +kernel
theorem dX11_spotOf_13 : decode cX11_spotOf 13 = .ok (.iload_n 3, 1) := by decide +kernel
theorem dX11_spotOf_14 : decode cX11_spotOf 14 = .ok (.irem, 1) := by decide +kernel
theorem dX11_spotOf_15 : decode cX11_spotOf 15 = .ok (.iadd, 1) := by decide +kernel
theorem dX11_spotOf_16 : decode cX11_spotOf 16 = .ok (.ireturn, 1) := by decide +kernel
theorem dX11_layCopy_0 : decode cX11_layCopy 0 = .ok (.aload_n 0, 1) := by decide +kernel
theorem dX11_layCopy_1 : decode cX11_layCopy 1 = .ok (.iconst 0, 1) := by decide +kernel
theorem dX11_layCopy_2 : decode cX11_layCopy 2 = .ok (.putfield 272, 3) := by decide +kernel
theorem dX11_layCopy_5 : decode cX11_layCopy 5 = .ok (.aload_n 0, 1) := by decide +kernel
theorem dX11_layCopy_6 : decode cX11_layCopy 6 = .ok (.iconst 0, 1) := by decide +kernel
theorem dX11_layCopy_7 : decode cX11_layCopy 7 = .ok (.putfield 275, 3) := by decide +kernel
theorem dX11_layCopy_10 : decode cX11_layCopy 10 = .ok (.aload_n 0, 1) := by decide +kernel
theorem dX11_layCopy_11 : decode cX11_layCopy 11 = .ok (.iconst 0, 1) := by decide +kernel
theorem dX11_layCopy_12 : decode cX11_layCopy 12 = .ok (.putfield 278, 3) := by decide +kernel
theorem dX11_layCopy_15 : decode cX11_layCopy 15 = .ok (.iconst 0, 1) := by decide +kernel
theorem dX11_layCopy_16 : decode cX11_layCopy 16 = .ok (.istore 5, 2) := by decide +kernel
theorem dX11_layCopy_18 : decode cX11_layCopy 18 = .ok (.iload 5, 2) := by decide +kernel
theorem dX11_layCopy_20 : decode cX11_layCopy 20 = .ok (.bipush 16, 2) := by decide +kernel
theorem dX11_layCopy_22 : decode cX11_layCopy 22 = .ok (.iload_n 3, 1) := by decide +kernel
theorem dX11_layCopy_23 : decode cX11_layCopy 23 = .ok (.imul, 1) := by decide +kernel
theorem dX11_layCopy_24 : decode cX11_layCopy 24 = .ok (.iload_n 3, 1) := by decide +kernel
theorem dX11_layCopy_25 : decode cX11_layCopy 25 = .ok (.imul, 1) := by decide +kernel
theorem dX11_layCopy_26 : decode cX11_layCopy 26 = .ok (.if_icmp .ge 110, 3) := by decide +kernel
theorem dX11_layCopy_29 : decode cX11_layCopy 29 = .ok (.aload_n 0, 1) := by decide +kernel
theorem dX11_layCopy_30 : decode cX11_layCopy 30 = .ok (.iload_n 1, 1) := by decide +kernel
theorem dX11_layCopy_31 : decode cX11_layCopy 31 = .ok (.iload_n 2, 1) := by decide +kernel
theorem dX11_layCopy_32 : decode cX11_layCopy 32 = .ok (.iload_n 3, 1) := by decide +kernel
theorem dX11_layCopy_33 : decode cX11_layCopy 33 = .ok (.iload 5, 2) := by decide +kernel
theorem dX11_layCopy_35 : decode cX11_layCopy 35 = .ok (.invokevirtual 281, 3) := by decide +kernel
theorem dX11_layCopy_38 : decode cX11_layCopy 38 = .ok (.istore 6, 2) := by decide +kernel
theorem dX11_layCopy_40 : decode cX11_layCopy 40 = .ok (.aload_n 0, 1) := by decide +kernel
theorem dX11_layCopy_41 : decode cX11_layCopy 41 = .ok (.getfield 72, 3) := by decide +kernel
theorem dX11_layCopy_44 : decode cX11_layCopy 44 = .ok (.iload_n 3, 1) := by decide +kernel
theorem dX11_layCopy_45 : decode cX11_layCopy 45 = .ok (.iload 4, 2) := by decide +kernel
theorem dX11_layCopy_47 : decode cX11_layCopy 47 = .ok (.iload 5, 2) := by decide +kernel
theorem dX11_layCopy_49 : decode cX11_layCopy 49 = .ok (.invokestatic 285, 3) := by decide +kernel
theorem dX11_layCopy_52 : decode cX11_layCopy 52 = .ok (.iaload, 1) := by decide +kernel
theorem dX11_layCopy_53 : decode cX11_layCopy 53 = .ok (.istore 7, 2) := by decide +kernel
theorem dX11_layCopy_55 : decode cX11_layCopy 55 = .ok (.iload 6, 2) := by decide +kernel
theorem dX11_layCopy_57 : decode cX11_layCopy 57 = .ok (.bipush (-4), 2) := by decide +kernel
theorem dX11_layCopy_59 : decode cX11_layCopy 59 = .ok (.if_icmp .eq 71, 3) := by decide +kernel
theorem dX11_layCopy_62 : decode cX11_layCopy 62 = .ok (.aload_n 0, 1) := by decide +kernel
theorem dX11_layCopy_63 : decode cX11_layCopy 63 = .ok (.dup, 1) := by decide +kernel
theorem dX11_layCopy_64 : decode cX11_layCopy 64 = .ok (.getfield 278, 3) := by decide +kernel
theorem dX11_layCopy_67 : decode cX11_layCopy 67 = .ok (.iload 7, 2) := by decide +kernel
theorem dX11_layCopy_69 : decode cX11_layCopy 69 = .ok (.iconst (-1), 1) := by decide +kernel
theorem dX11_layCopy_70 : decode cX11_layCopy 70 = .ok (.if_icmp .ne 7, 3) := by decide +kernel
theorem dX11_layCopy_73 : decode cX11_layCopy 73 = .ok (.iconst 1, 1) := by decide +kernel
theorem dX11_layCopy_74 : decode cX11_layCopy 74 = .ok (.goto 4, 3) := by decide +kernel
theorem dX11_layCopy_77 : decode cX11_layCopy 77 = .ok (.iconst 0, 1) := by decide +kernel
theorem dX11_layCopy_78 : decode cX11_layCopy 78 = .ok (.iadd, 1) := by decide +kernel
theorem dX11_layCopy_79 : decode cX11_layCopy 79 = .ok (.putfield 278, 3) := by decide +kernel
theorem dX11_layCopy_82 : decode cX11_layCopy 82 = .ok (.aload_n 0, 1) := by decide +kernel
theorem dX11_layCopy_83 : decode cX11_layCopy 83 = .ok (.dup, 1) := by decide +kernel
theorem dX11_layCopy_84 : decode cX11_layCopy 84 = .ok (.getfield 272, 3) := by decide +kernel
theorem dX11_layCopy_87 : decode cX11_layCopy 87 = .ok (.iload 7, 2) := by decide +kernel
theorem dX11_layCopy_89 : decode cX11_layCopy 89 = .ok (.iload 6, 2) := by decide +kernel
theorem dX11_layCopy_91 : decode cX11_layCopy 91 = .ok (.if_icmp .ne 7, 3) := by decide +kernel
theorem dX11_layCopy_94 : decode cX11_layCopy 94 = .ok (.iconst 1, 1) := by decide +kernel
theorem dX11_layCopy_95 : decode cX11_layCopy 95 = .ok (.goto 4, 3) := by decide +kernel
theorem dX11_layCopy_98 : decode cX11_layCopy 98 = .ok (.iconst 0, 1) := by decide +kernel
theorem dX11_layCopy_99 : decode cX11_layCopy 99 = .ok (.iadd, 1) := by decide +kernel
theorem dX11_layCopy_100 : decode cX11_layCopy 100 = .ok (.putfield 272, 3) := by decide +kernel
theorem dX11_layCopy_103 : decode cX11_layCopy 103 = .ok (.aload_n 0, 1) := by decide +kernel
theorem dX11_layCopy_104 : decode cX11_layCopy 104 = .ok (.dup, 1) := by decide +kernel
theorem dX11_layCopy_105 : decode cX11_layCopy 105 = .ok (.getfield 275, 3) := by decide +kernel
theorem dX11_layCopy_108 : decode cX11_layCopy 108 = .ok (.iload 7, 2) := by decide +kernel
theorem dX11_layCopy_110 : decode cX11_layCopy 110 = .ok (.iconst (-1), 1) := by decide +kernel
theorem dX11_layCopy_111 : decode cX11_layCopy 111 = .ok (.if_icmp .eq 14, 3) := by decide +kernel
theorem dX11_layCopy_114 : decode cX11_layCopy 114 = .ok (.iload 7, 2) := by decide +kernel
theorem dX11_layCopy_116 : decode cX11_layCopy 116 = .ok (.iload 6, 2) := by decide +kernel
theorem dX11_layCopy_118 : decode cX11_layCopy 118 = .ok (.if_icmp .eq 7, 3) := by decide +kernel
theorem dX11_layCopy_121 : decode cX11_layCopy 121 = .ok (.iconst 1, 1) := by decide +kernel
theorem dX11_layCopy_122 : decode cX11_layCopy 122 = .ok (.goto 4, 3) := by decide +kernel
theorem dX11_layCopy_125 : decode cX11_layCopy 125 = .ok (.iconst 0, 1) := by decide +kernel
theorem dX11_layCopy_126 : decode cX11_layCopy 126 = .ok (.iadd, 1) := by decide +kernel
theorem dX11_layCopy_127 : decode cX11_layCopy 127 = .ok (.putfield 275, 3) := by decide +kernel
theorem dX11_layCopy_130 : decode cX11_layCopy 130 = .ok (.iinc 5 1, 3) := by decide +kernel
theorem dX11_layCopy_133 : decode cX11_layCopy 133 = .ok (.goto (-115), 3) := by decide +kernel
theorem dX11_layCopy_136 : decode cX11_layCopy 136 = .ok (.return_, 1) := by decide +kernel
theorem dX11_lay_0 : decode cX11_lay 0 = .ok (.aload_n 0, 1) := by decide +kernel
theorem dX11_lay_1 : decode cX11_lay 1 = .ok (.iload_n 1, 1) := by decide +kernel
theorem dX11_lay_2 : decode cX11_lay 2 = .ok (.iload_n 2, 1) := by decide +kernel
theorem dX11_lay_3 : decode cX11_lay 3 = .ok (.iload_n 3, 1) := by decide +kernel
theorem dX11_lay_4 : decode cX11_lay 4 = .ok (.iload 4, 2) := by decide +kernel
theorem dX11_lay_6 : decode cX11_lay 6 = .ok (.invokevirtual 288, 3) := by decide +kernel
theorem dX11_lay_9 : decode cX11_lay 9 = .ok (.ifCond .ne 5, 3) := by decide +kernel
theorem dX11_lay_12 : decode cX11_lay 12 = .ok (.iconst (-1), 1) := by decide +kernel
theorem dX11_lay_13 : decode cX11_lay 13 = .ok (.ireturn, 1) := by decide +kernel
theorem dX11_lay_14 : decode cX11_lay 14 = .ok (.aload_n 0, 1) := by decide +kernel
theorem dX11_lay_15 : decode cX11_lay 15 = .ok (.iload_n 1, 1) := by decide +kernel
theorem dX11_lay_16 : decode cX11_lay 16 = .ok (.iload_n 2, 1) := by decide +kernel
theorem dX11_lay_17 : decode cX11_lay 17 = .ok (.iload_n 3, 1) := by decide +kernel
theorem dX11_lay_18 : decode cX11_lay 18 = .ok (.iload 4, 2) := by decide +kernel
theorem dX11_lay_20 : decode cX11_lay 20 = .ok (.invokevirtual 292, 3) := by decide +kernel
theorem dX11_lay_23 : decode cX11_lay 23 = .ok (.aload_n 0, 1) := by decide +kernel
theorem dX11_lay_24 : decode cX11_lay 24 = .ok (.getfield 275, 3) := by decide +kernel
theorem dX11_lay_27 : decode cX11_lay 27 = .ok (.ifCond .le 6, 3) := by decide +kernel
theorem dX11_lay_30 : decode cX11_lay 30 = .ok (.bipush (-2), 2) := by decide +kernel
theorem dX11_lay_32 : decode cX11_lay 32 = .ok (.ireturn, 1) := by decide +kernel
theorem dX11_lay_33 : decode cX11_lay 33 = .ok (.iconst 0, 1) := by decide +kernel
theorem dX11_lay_34 : decode cX11_lay 34 = .ok (.istore 5, 2) := by decide +kernel
theorem dX11_lay_36 : decode cX11_lay 36 = .ok (.iload 5, 2) := by decide +kernel
theorem dX11_lay_38 : decode cX11_lay 38 = .ok (.bipush 16, 2) := by decide +kernel
theorem dX11_lay_40 : decode cX11_lay 40 = .ok (.iload_n 3, 1) := by decide +kernel
theorem dX11_lay_41 : decode cX11_lay 41 = .ok (.imul, 1) := by decide +kernel
theorem dX11_lay_42 : decode cX11_lay 42 = .ok (.iload_n 3, 1) := by decide +kernel
theorem dX11_lay_43 : decode cX11_lay 43 = .ok (.imul, 1) := by decide +kernel
theorem dX11_lay_44 : decode cX11_lay 44 = .ok (.if_icmp .ge 67, 3) := by decide +kernel
theorem dX11_lay_47 : decode cX11_lay 47 = .ok (.aload_n 0, 1) := by decide +kernel
theorem dX11_lay_48 : decode cX11_lay 48 = .ok (.iload_n 1, 1) := by decide +kernel
theorem dX11_lay_49 : decode cX11_lay 49 = .ok (.iload_n 2, 1) := by decide +kernel
theorem dX11_lay_50 : decode cX11_lay 50 = .ok (.iload_n 3, 1) := by decide +kernel
theorem dX11_lay_51 : decode cX11_lay 51 = .ok (.iload 5, 2) := by decide +kernel
theorem dX11_lay_53 : decode cX11_lay 53 = .ok (.invokevirtual 281, 3) := by decide +kernel
theorem dX11_lay_56 : decode cX11_lay 56 = .ok (.istore 6, 2) := by decide +kernel
theorem dX11_lay_58 : decode cX11_lay 58 = .ok (.iload_n 3, 1) := by decide +kernel
theorem dX11_lay_59 : decode cX11_lay 59 = .ok (.iload 4, 2) := by decide +kernel
theorem dX11_lay_61 : decode cX11_lay 61 = .ok (.iload 5, 2) := by decide +kernel
theorem dX11_lay_63 : decode cX11_lay 63 = .ok (.invokestatic 285, 3) := by decide +kernel
theorem dX11_lay_66 : decode cX11_lay 66 = .ok (.istore 7, 2) := by decide +kernel
theorem dX11_lay_68 : decode cX11_lay 68 = .ok (.aload_n 0, 1) := by decide +kernel
theorem dX11_lay_69 : decode cX11_lay 69 = .ok (.getfield 72, 3) := by decide +kernel
theorem dX11_lay_72 : decode cX11_lay 72 = .ok (.iload 7, 2) := by decide +kernel
theorem dX11_lay_74 : decode cX11_lay 74 = .ok (.iload 6, 2) := by decide +kernel
theorem dX11_lay_76 : decode cX11_lay 76 = .ok (.bipush (-4), 2) := by decide +kernel
theorem dX11_lay_78 : decode cX11_lay 78 = .ok (.if_icmp .eq 19, 3) := by decide +kernel
theorem dX11_lay_81 : decode cX11_lay 81 = .ok (.aload_n 0, 1) := by decide +kernel
theorem dX11_lay_82 : decode cX11_lay 82 = .ok (.getfield 72, 3) := by decide +kernel
theorem dX11_lay_85 : decode cX11_lay 85 = .ok (.iload 7, 2) := by decide +kernel
theorem dX11_lay_87 : decode cX11_lay 87 = .ok (.iaload, 1) := by decide +kernel
theorem dX11_lay_88 : decode cX11_lay 88 = .ok (.iconst (-1), 1) := by decide +kernel
theorem dX11_lay_89 : decode cX11_lay 89 = .ok (.if_icmp .ne 8, 3) := by decide +kernel
theorem dX11_lay_92 : decode cX11_lay 92 = .ok (.iload 6, 2) := by decide +kernel
theorem dX11_lay_94 : decode cX11_lay 94 = .ok (.goto 10, 3) := by decide +kernel
theorem dX11_lay_97 : decode cX11_lay 97 = .ok (.aload_n 0, 1) := by decide +kernel
theorem dX11_lay_98 : decode cX11_lay 98 = .ok (.getfield 72, 3) := by decide +kernel
theorem dX11_lay_101 : decode cX11_lay 101 = .ok (.iload 7, 2) := by decide +kernel
theorem dX11_lay_103 : decode cX11_lay 103 = .ok (.iaload, 1) := by decide +kernel
theorem dX11_lay_104 : decode cX11_lay 104 = .ok (.iastore, 1) := by decide +kernel
theorem dX11_lay_105 : decode cX11_lay 105 = .ok (.iinc 5 1, 3) := by decide +kernel
theorem dX11_lay_108 : decode cX11_lay 108 = .ok (.goto (-72), 3) := by decide +kernel
theorem dX11_lay_111 : decode cX11_lay 111 = .ok (.aload_n 0, 1) := by decide +kernel
theorem dX11_lay_112 : decode cX11_lay 112 = .ok (.getfield 278, 3) := by decide +kernel
theorem dX11_lay_115 : decode cX11_lay 115 = .ok (.ireturn, 1) := by decide +kernel
theorem dX11_copy_0 : decode cX11_copy 0 = .ok (.aload_n 0, 1) := by decide +kernel
theorem dX11_copy_1 : decode cX11_copy 1 = .ok (.iload_n 1, 1) := by decide +kernel
theorem dX11_copy_2 : decode cX11_copy 2 = .ok (.iload_n 2, 1) := by decide +kernel
theorem dX11_copy_3 : decode cX11_copy 3 = .ok (.iload_n 3, 1) := by decide +kernel
theorem dX11_copy_4 : decode cX11_copy 4 = .ok (.iload 4, 2) := by decide +kernel
theorem dX11_copy_6 : decode cX11_copy 6 = .ok (.invokevirtual 288, 3) := by decide +kernel
theorem dX11_copy_9 : decode cX11_copy 9 = .ok (.ifCond .eq 16, 3) := by decide +kernel
theorem dX11_copy_12 : decode cX11_copy 12 = .ok (.iload 5, 2) := by decide +kernel
theorem dX11_copy_14 : decode cX11_copy 14 = .ok (.i2l, 1) := by decide +kernel
theorem dX11_copy_15 : decode cX11_copy 15 = .ok (.lconst 0, 1) := by decide +kernel
theorem dX11_copy_16 : decode cX11_copy 16 = .ok (.ldc2_w 245, 3) := by decide +kernel
theorem dX11_copy_19 : decode cX11_copy 19 = .ok (.invokestatic 96, 3) := by decide +kernel
theorem dX11_copy_22 : decode cX11_copy 22 = .ok (.ifCond .ne 5, 3) := by decide +kernel
theorem dX11_copy_25 : decode cX11_copy 25 = .ok (.iconst (-1), 1) := by decide +kernel
theorem dX11_copy_26 : decode cX11_copy 26 = .ok (.ireturn, 1) := by decide +kernel
theorem dX11_copy_27 : decode cX11_copy 27 = .ok (.aload_n 0, 1) := by decide +kernel
theorem dX11_copy_28 : decode cX11_copy 28 = .ok (.iload_n 1, 1) := by decide +kernel
theorem dX11_copy_29 : decode cX11_copy 29 = .ok (.iload_n 2, 1) := by decide +kernel
theorem dX11_copy_30 : decode cX11_copy 30 = .ok (.iload_n 3, 1) := by decide +kernel
theorem dX11_copy_31 : decode cX11_copy 31 = .ok (.iload 4, 2) := by decide +kernel
theorem dX11_copy_33 : decode cX11_copy 33 = .ok (.invokevirtual 292, 3) := by decide +kernel
theorem dX11_copy_36 : decode cX11_copy 36 = .ok (.iload 5, 2) := by decide +kernel
theorem dX11_copy_38 : decode cX11_copy 38 = .ok (.ifCond .ne 10, 3) := by decide +kernel
theorem dX11_copy_41 : decode cX11_copy 41 = .ok (.aload_n 0, 1) := by decide +kernel
theorem dX11_copy_42 : decode cX11_copy 42 = .ok (.getfield 272, 3) := by decide +kernel
theorem dX11_copy_45 : decode cX11_copy 45 = .ok (.goto 20, 3) := by decide +kernel
theorem dX11_copy_48 : decode cX11_copy 48 = .ok (.iload 5, 2) := by decide +kernel
theorem dX11_copy_50 : decode cX11_copy 50 = .ok (.iconst 1, 1) := by decide +kernel
theorem dX11_copy_51 : decode cX11_copy 51 = .ok (.if_icmp .ne 10, 3) := by decide +kernel
theorem dX11_copy_54 : decode cX11_copy 54 = .ok (.aload_n 0, 1) := by decide +kernel
theorem dX11_copy_55 : decode cX11_copy 55 = .ok (.getfield 275, 3) := by decide +kernel
theorem dX11_copy_58 : decode cX11_copy 58 = .ok (.goto 7, 3) := by decide +kernel
theorem dX11_copy_61 : decode cX11_copy 61 = .ok (.aload_n 0, 1) := by decide +kernel
theorem dX11_copy_62 : decode cX11_copy 62 = .ok (.getfield 278, 3) := by decide +kernel
theorem dX11_copy_65 : decode cX11_copy 65 = .ok (.ireturn, 1) := by decide +kernel
theorem dX11_best_0 : decode cX11_best 0 = .ok (.iload_n 1, 1) := by decide +kernel
theorem dX11_best_1 : decode cX11_best 1 = .ok (.i2l, 1) := by decide +kernel
theorem dX11_best_2 : decode cX11_best 2 = .ok (.lconst 0, 1) := by decide +kernel
theorem dX11_best_3 : decode cX11_best 3 = .ok (.ldc2_w 296, 3) := by decide +kernel
theorem dX11_best_6 : decode cX11_best 6 = .ok (.invokestatic 96, 3) := by decide +kernel
theorem dX11_best_9 : decode cX11_best 9 = .ok (.ifCond .ne 5, 3) := by decide +kernel
theorem dX11_best_12 : decode cX11_best 12 = .ok (.iconst (-1), 1) := by decide +kernel
theorem dX11_best_13 : decode cX11_best 13 = .ok (.ireturn, 1) := by decide +kernel
theorem dX11_best_14 : decode cX11_best 14 = .ok (.bipush (-4), 2) := by decide +kernel
theorem dX11_best_16 : decode cX11_best 16 = .ok (.istore_n 2, 1) := by decide +kernel
theorem dX11_best_17 : decode cX11_best 17 = .ok (.iconst 0, 1) := by decide +kernel
theorem dX11_best_18 : decode cX11_best 18 = .ok (.istore_n 3, 1) := by decide +kernel
theorem dX11_best_19 : decode cX11_best 19 = .ok (.iconst 0, 1) := by decide +kernel
theorem dX11_best_20 : decode cX11_best 20 = .ok (.istore 4, 2) := by decide +kernel
theorem dX11_best_22 : decode cX11_best 22 = .ok (.iload 4, 2) := by decide +kernel
theorem dX11_best_24 : decode cX11_best 24 = .ok (.sipush 1024, 3) := by decide +kernel
theorem dX11_best_27 : decode cX11_best 27 = .ok (.aload_n 0, 1) := by decide +kernel
theorem dX11_best_28 : decode cX11_best 28 = .ok (.getfield 187, 3) := by decide +kernel
theorem dX11_best_31 : decode cX11_best 31 = .ok (.imul, 1) := by decide +kernel
theorem dX11_best_32 : decode cX11_best 32 = .ok (.if_icmp .ge 97, 3) := by decide +kernel
theorem dX11_best_35 : decode cX11_best 35 = .ok (.iload 4, 2) := by decide +kernel
theorem dX11_best_37 : decode cX11_best 37 = .ok (.sipush 1024, 3) := by decide +kernel
theorem dX11_best_40 : decode cX11_best 40 = .ok (.idiv, 1) := by decide +kernel
theorem dX11_best_41 : decode cX11_best 41 = .ok (.istore 5, 2) := by decide +kernel
theorem dX11_best_43 : decode cX11_best 43 = .ok (.iload 4, 2) := by decide +kernel
theorem dX11_best_45 : decode cX11_best 45 = .ok (.sipush 512, 3) := by decide +kernel
theorem dX11_best_48 : decode cX11_best 48 = .ok (.idiv, 1) := by decide +kernel
theorem dX11_best_49 : decode cX11_best 49 = .ok (.iconst 2, 1) := by decide +kernel
theorem dX11_best_50 : decode cX11_best 50 = .ok (.irem, 1) := by decide +kernel
theorem dX11_best_51 : decode cX11_best 51 = .ok (.iconst 1, 1) := by decide +kernel
theorem dX11_best_52 : decode cX11_best 52 = .ok (.iadd, 1) := by decide +kernel
theorem dX11_best_53 : decode cX11_best 53 = .ok (.istore 6, 2) := by decide +kernel
theorem dX11_best_55 : decode cX11_best 55 = .ok (.aload_n 0, 1) := by decide +kernel
theorem dX11_best_56 : decode cX11_best 56 = .ok (.iload 5, 2) := by decide +kernel
theorem dX11_best_58 : decode cX11_best 58 = .ok (.iload 4, 2) := by decide +kernel
theorem dX11_best_60 : decode cX11_best 60 = .ok (.bipush 64, 2) := by decide +kernel
theorem dX11_best_62 : decode cX11_best 62 = .ok (.idiv, 1) := by decide +kernel
theorem dX11_best_63 : decode cX11_best 63 = .ok (.bipush 8, 2) := by decide +kernel
theorem dX11_best_65 : decode cX11_best 65 = .ok (.irem, 1) := by decide +kernel
theorem dX11_best_66 : decode cX11_best 66 = .ok (.iload 6, 2) := by decide +kernel
theorem dX11_best_68 : decode cX11_best 68 = .ok (.iload 4, 2) := by decide +kernel
theorem dX11_best_70 : decode cX11_best 70 = .ok (.bipush 64, 2) := by decide +kernel
theorem dX11_best_72 : decode cX11_best 72 = .ok (.irem, 1) := by decide +kernel
theorem dX11_best_73 : decode cX11_best 73 = .ok (.invokevirtual 288, 3) := by decide +kernel
theorem dX11_best_76 : decode cX11_best 76 = .ok (.ifCond .eq 47, 3) := by decide +kernel
theorem dX11_best_79 : decode cX11_best 79 = .ok (.aload_n 0, 1) := by decide +kernel
theorem dX11_best_80 : decode cX11_best 80 = .ok (.iload 5, 2) := by decide +kernel
theorem dX11_best_82 : decode cX11_best 82 = .ok (.iload 4, 2) := by decide +kernel
theorem dX11_best_84 : decode cX11_best 84 = .ok (.bipush 64, 2) := by decide +kernel
theorem dX11_best_86 : decode cX11_best 86 = .ok (.idiv, 1) := by decide +kernel
theorem dX11_best_87 : decode cX11_best 87 = .ok (.bipush 8, 2) := by decide +kernel
theorem dX11_best_89 : decode cX11_best 89 = .ok (.irem, 1) := by decide +kernel
theorem dX11_best_90 : decode cX11_best 90 = .ok (.iload 6, 2) := by decide +kernel
theorem dX11_best_92 : decode cX11_best 92 = .ok (.iload 4, 2) := by decide +kernel
theorem dX11_best_94 : decode cX11_best 94 = .ok (.bipush 64, 2) := by decide +kernel
theorem dX11_best_96 : decode cX11_best 96 = .ok (.irem, 1) := by decide +kernel
theorem dX11_best_97 : decode cX11_best 97 = .ok (.invokevirtual 292, 3) := by decide +kernel
theorem dX11_best_100 : decode cX11_best 100 = .ok (.aload_n 0, 1) := by decide +kernel
theorem dX11_best_101 : decode cX11_best 101 = .ok (.getfield 275, 3) := by decide +kernel
theorem dX11_best_104 : decode cX11_best 104 = .ok (.ifCond .ne 19, 3) := by decide +kernel
theorem dX11_best_107 : decode cX11_best 107 = .ok (.aload_n 0, 1) := by decide +kernel
theorem dX11_best_108 : decode cX11_best 108 = .ok (.getfield 272, 3) := by decide +kernel
theorem dX11_best_111 : decode cX11_best 111 = .ok (.iload_n 3, 1) := by decide +kernel
theorem dX11_best_112 : decode cX11_best 112 = .ok (.if_icmp .le 11, 3) := by decide +kernel
theorem dX11_best_115 : decode cX11_best 115 = .ok (.iload 4, 2) := by decide +kernel
theorem dX11_best_117 : decode cX11_best 117 = .ok (.istore_n 2, 1) := by decide +kernel
theorem dX11_best_118 : decode cX11_best 118 = .ok (.aload_n 0, 1) := by decide +kernel
theorem dX11_best_119 : decode cX11_best 119 = .ok (.getfield 272, 3) := by decide +kernel
theorem dX11_best_122 : decode cX11_best 122 = .ok (.istore_n 3, 1) := by decide +kernel
theorem dX11_best_123 : decode cX11_best 123 = .ok (.iinc 4 1, 3) := by decide +kernel
theorem dX11_best_126 : decode cX11_best 126 = .ok (.goto (-104), 3) := by decide +kernel
theorem dX11_best_129 : decode cX11_best 129 = .ok (.iload_n 2, 1) := by decide +kernel
theorem dX11_best_130 : decode cX11_best 130 = .ok (.bipush (-4), 2) := by decide +kernel
theorem dX11_best_132 : decode cX11_best 132 = .ok (.if_icmp .ne 6, 3) := by decide +kernel
theorem dX11_best_135 : decode cX11_best 135 = .ok (.bipush (-4), 2) := by decide +kernel
theorem dX11_best_137 : decode cX11_best 137 = .ok (.ireturn, 1) := by decide +kernel
theorem dX11_best_138 : decode cX11_best 138 = .ok (.iload_n 1, 1) := by decide +kernel
theorem dX11_best_139 : decode cX11_best 139 = .ok (.ifCond .ne 11, 3) := by decide +kernel
theorem dX11_best_142 : decode cX11_best 142 = .ok (.iload_n 2, 1) := by decide +kernel
theorem dX11_best_143 : decode cX11_best 143 = .ok (.sipush 1024, 3) := by decide +kernel
theorem dX11_best_146 : decode cX11_best 146 = .ok (.idiv, 1) := by decide +kernel
theorem dX11_best_147 : decode cX11_best 147 = .ok (.goto 48, 3) := by decide +kernel
theorem dX11_best_150 : decode cX11_best 150 = .ok (.iload_n 1, 1) := by decide +kernel
theorem dX11_best_151 : decode cX11_best 151 = .ok (.iconst 1, 1) := by decide +kernel
theorem dX11_best_152 : decode cX11_best 152 = .ok (.if_icmp .ne 13, 3) := by decide +kernel
theorem dX11_best_155 : decode cX11_best 155 = .ok (.iload_n 2, 1) := by decide +kernel
theorem dX11_best_156 : decode cX11_best 156 = .ok (.bipush 64, 2) := by decide +kernel
theorem dX11_best_158 : decode cX11_best 158 = .ok (.idiv, 1) := by decide +kernel
theorem dX11_best_159 : decode cX11_best 159 = .ok (.bipush 8, 2) := by decide +kernel
theorem dX11_best_161 : decode cX11_best 161 = .ok (.irem, 1) := by decide +kernel
theorem dX11_best_162 : decode cX11_best 162 = .ok (.goto 33, 3) := by decide +kernel
theorem dX11_best_165 : decode cX11_best 165 = .ok (.iload_n 1, 1) := by decide +kernel
theorem dX11_best_166 : decode cX11_best 166 = .ok (.iconst 2, 1) := by decide +kernel
theorem dX11_best_167 : decode cX11_best 167 = .ok (.if_icmp .ne 15, 3) := by decide +kernel
theorem dX11_best_170 : decode cX11_best 170 = .ok (.iload_n 2, 1) := by decide +kernel
theorem dX11_best_171 : decode cX11_best 171 = .ok (.sipush 512, 3) := by decide +kernel
theorem dX11_best_174 : decode cX11_best 174 = .ok (.idiv, 1) := by decide +kernel
theorem dX11_best_175 : decode cX11_best 175 = .ok (.iconst 2, 1) := by decide +kernel
theorem dX11_best_176 : decode cX11_best 176 = .ok (.irem, 1) := by decide +kernel
theorem dX11_best_177 : decode cX11_best 177 = .ok (.iconst 1, 1) := by decide +kernel
theorem dX11_best_178 : decode cX11_best 178 = .ok (.iadd, 1) := by decide +kernel
theorem dX11_best_179 : decode cX11_best 179 = .ok (.goto 16, 3) := by decide +kernel
theorem dX11_best_182 : decode cX11_best 182 = .ok (.iload_n 1, 1) := by decide +kernel
theorem dX11_best_183 : decode cX11_best 183 = .ok (.iconst 3, 1) := by decide +kernel
theorem dX11_best_184 : decode cX11_best 184 = .ok (.if_icmp .ne 10, 3) := by decide +kernel
theorem dX11_best_187 : decode cX11_best 187 = .ok (.iload_n 2, 1) := by decide +kernel
theorem dX11_best_188 : decode cX11_best 188 = .ok (.bipush 64, 2) := by decide +kernel
theorem dX11_best_190 : decode cX11_best 190 = .ok (.irem, 1) := by decide +kernel
theorem dX11_best_191 : decode cX11_best 191 = .ok (.goto 4, 3) := by decide +kernel
theorem dX11_best_194 : decode cX11_best 194 = .ok (.iload_n 3, 1) := by decide +kernel
theorem dX11_best_195 : decode cX11_best 195 = .ok (.ireturn, 1) := by decide +kernel
theorem dX11_copies_0 : decode cX11_copies 0 = .ok (.aload_n 0, 1) := by decide +kernel
theorem dX11_copies_1 : decode cX11_copies 1 = .ok (.iload_n 1, 1) := by decide +kernel
theorem dX11_copies_2 : decode cX11_copies 2 = .ok (.invokevirtual 261, 3) := by decide +kernel
theorem dX11_copies_5 : decode cX11_copies 5 = .ok (.ifCond .eq 15, 3) := by decide +kernel
theorem dX11_copies_8 : decode cX11_copies 8 = .ok (.iload_n 2, 1) := by decide +kernel
theorem dX11_copies_9 : decode cX11_copies 9 = .ok (.i2l, 1) := by decide +kernel
theorem dX11_copies_10 : decode cX11_copies 10 = .ok (.lconst 0, 1) := by decide +kernel
theorem dX11_copies_11 : decode cX11_copies 11 = .ok (.ldc2_w 298, 3) := by decide +kernel
theorem dX11_copies_14 : decode cX11_copies 14 = .ok (.invokestatic 96, 3) := by decide +kernel
theorem dX11_copies_17 : decode cX11_copies 17 = .ok (.ifCond .ne 5, 3) := by decide +kernel
theorem dX11_copies_20 : decode cX11_copies 20 = .ok (.iconst (-1), 1) := by decide +kernel
theorem dX11_copies_21 : decode cX11_copies 21 = .ok (.ireturn, 1) := by decide +kernel
theorem dX11_copies_22 : decode cX11_copies 22 = .ok (.iconst 0, 1) := by decide +kernel
theorem dX11_copies_23 : decode cX11_copies 23 = .ok (.istore_n 3, 1) := by decide +kernel
theorem dX11_copies_24 : decode cX11_copies 24 = .ok (.iconst 0, 1) := by decide +kernel
theorem dX11_copies_25 : decode cX11_copies 25 = .ok (.istore 4, 2) := by decide +kernel
theorem dX11_copies_27 : decode cX11_copies 27 = .ok (.iload 4, 2) := by decide +kernel
theorem dX11_copies_29 : decode cX11_copies 29 = .ok (.sipush 1024, 3) := by decide +kernel
theorem dX11_copies_32 : decode cX11_copies 32 = .ok (.if_icmp .ge 87, 3) := by decide +kernel
theorem dX11_copies_35 : decode cX11_copies 35 = .ok (.aload_n 0, 1) := by decide +kernel
theorem dX11_copies_36 : decode cX11_copies 36 = .ok (.iload_n 1, 1) := by decide +kernel
theorem dX11_copies_37 : decode cX11_copies 37 = .ok (.iload 4, 2) := by decide +kernel
theorem dX11_copies_39 : decode cX11_copies 39 = .ok (.bipush 64, 2) := by decide +kernel
theorem dX11_copies_41 : decode cX11_copies 41 = .ok (.idiv, 1) := by decide +kernel
theorem dX11_copies_42 : decode cX11_copies 42 = .ok (.bipush 8, 2) := by decide +kernel
theorem dX11_copies_44 : decode cX11_copies 44 = .ok (.irem, 1) := by decide +kernel
theorem dX11_copies_45 : decode cX11_copies 45 = .ok (.iload 4, 2) := by decide +kernel
theorem dX11_copies_47 : decode cX11_copies 47 = .ok (.sipush 512, 3) := by decide +kernel
theorem dX11_copies_50 : decode cX11_copies 50 = .ok (.idiv, 1) := by decide +kernel
theorem dX11_copies_51 : decode cX11_copies 51 = .ok (.iconst 1, 1) := by decide +kernel
theorem dX11_copies_52 : decode cX11_copies 52 = .ok (.iadd, 1) := by decide +kernel
theorem dX11_copies_53 : decode cX11_copies 53 = .ok (.iload 4, 2) := by decide +kernel
theorem dX11_copies_55 : decode cX11_copies 55 = .ok (.bipush 64, 2) := by decide +kernel
theorem dX11_copies_57 : decode cX11_copies 57 = .ok (.irem, 1) := by decide +kernel
theorem dX11_copies_58 : decode cX11_copies 58 = .ok (.invokevirtual 288, 3) := by decide +kernel
theorem dX11_copies_61 : decode cX11_copies 61 = .ok (.ifCond .eq 52, 3) := by decide +kernel
theorem dX11_copies_64 : decode cX11_copies 64 = .ok (.aload_n 0, 1) := by decide +kernel
theorem dX11_copies_65 : decode cX11_copies 65 = .ok (.iload_n 1, 1) := by decide +kernel
theorem dX11_copies_66 : decode cX11_copies 66 = .ok (.iload 4, 2) := by decide +kernel
theorem dX11_copies_68 : decode cX11_copies 68 = .ok (.bipush 64, 2) := by decide +kernel
theorem dX11_copies_70 : decode cX11_copies 70 = .ok (.idiv, 1) := by decide +kernel
theorem dX11_copies_71 : decode cX11_copies 71 = .ok (.bipush 8, 2) := by decide +kernel
theorem dX11_copies_73 : decode cX11_copies 73 = .ok (.irem, 1) := by decide +kernel
theorem dX11_copies_74 : decode cX11_copies 74 = .ok (.iload 4, 2) := by decide +kernel
theorem dX11_copies_76 : decode cX11_copies 76 = .ok (.sipush 512, 3) := by decide +kernel
theorem dX11_copies_79 : decode cX11_copies 79 = .ok (.idiv, 1) := by decide +kernel
theorem dX11_copies_80 : decode cX11_copies 80 = .ok (.iconst 1, 1) := by decide +kernel
theorem dX11_copies_81 : decode cX11_copies 81 = .ok (.iadd, 1) := by decide +kernel
theorem dX11_copies_82 : decode cX11_copies 82 = .ok (.iload 4, 2) := by decide +kernel
theorem dX11_copies_84 : decode cX11_copies 84 = .ok (.bipush 64, 2) := by decide +kernel
theorem dX11_copies_86 : decode cX11_copies 86 = .ok (.irem, 1) := by decide +kernel
theorem dX11_copies_87 : decode cX11_copies 87 = .ok (.invokevirtual 292, 3) := by decide +kernel
theorem dX11_copies_90 : decode cX11_copies 90 = .ok (.iload_n 3, 1) := by decide +kernel
theorem dX11_copies_91 : decode cX11_copies 91 = .ok (.aload_n 0, 1) := by decide +kernel
theorem dX11_copies_92 : decode cX11_copies 92 = .ok (.getfield 275, 3) := by decide +kernel
theorem dX11_copies_95 : decode cX11_copies 95 = .ok (.ifCond .ne 15, 3) := by decide +kernel
theorem dX11_copies_98 : decode cX11_copies 98 = .ok (.aload_n 0, 1) := by decide +kernel
theorem dX11_copies_99 : decode cX11_copies 99 = .ok (.getfield 272, 3) := by decide +kernel
theorem dX11_copies_102 : decode cX11_copies 102 = .ok (.iload_n 2, 1) := by decide +kernel
theorem dX11_copies_103 : decode cX11_copies 103 = .ok (.if_icmp .lt 7, 3) := by decide +kernel
theorem dX11_copies_106 : decode cX11_copies 106 = .ok (.iconst 1, 1) := by decide +kernel
theorem dX11_copies_107 : decode cX11_copies 107 = .ok (.goto 4, 3) := by decide +kernel
theorem dX11_copies_110 : decode cX11_copies 110 = .ok (.iconst 0, 1) := by decide +kernel
theorem dX11_copies_111 : decode cX11_copies 111 = .ok (.iadd, 1) := by decide +kernel
theorem dX11_copies_112 : decode cX11_copies 112 = .ok (.istore_n 3, 1) := by decide +kernel
theorem dX11_copies_113 : decode cX11_copies 113 = .ok (.iinc 4 1, 3) := by decide +kernel
theorem dX11_copies_116 : decode cX11_copies 116 = .ok (.goto (-89), 3) := by decide +kernel
theorem dX11_copies_119 : decode cX11_copies 119 = .ok (.iload_n 3, 1) := by decide +kernel
theorem dX11_copies_120 : decode cX11_copies 120 = .ok (.ireturn, 1) := by decide +kernel
theorem dX11_doesHold_0 : decode cX11_doesHold 0 = .ok (.iconst 1, 1) := by decide +kernel
theorem dX11_doesHold_1 : decode cX11_doesHold 1 = .ok (.istore_n 2, 1) := by decide +kernel
theorem dX11_doesHold_2 : decode cX11_doesHold 2 = .ok (.iconst 0, 1) := by decide +kernel
theorem dX11_doesHold_3 : decode cX11_doesHold 3 = .ok (.istore_n 3, 1) := by decide +kernel
theorem dX11_doesHold_4 : decode cX11_doesHold 4 = .ok (.iload_n 3, 1) := by decide +kernel
theorem dX11_doesHold_5 : decode cX11_doesHold 5 = .ok (.bipush 64, 2) := by decide +kernel
theorem dX11_doesHold_7 : decode cX11_doesHold 7 = .ok (.if_icmp .ge 60, 3) := by decide +kernel
theorem dX11_doesHold_10 : decode cX11_doesHold 10 = .ok (.aload_n 0, 1) := by decide +kernel
theorem dX11_doesHold_11 : decode cX11_doesHold 11 = .ok (.getfield 72, 3) := by decide +kernel
theorem dX11_doesHold_14 : decode cX11_doesHold 14 = .ok (.iload_n 3, 1) := by decide +kernel
theorem dX11_doesHold_15 : decode cX11_doesHold 15 = .ok (.iaload, 1) := by decide +kernel
theorem dX11_doesHold_16 : decode cX11_doesHold 16 = .ok (.istore 4, 2) := by decide +kernel
theorem dX11_doesHold_18 : decode cX11_doesHold 18 = .ok (.aload_n 0, 1) := by decide +kernel
theorem dX11_doesHold_19 : decode cX11_doesHold 19 = .ok (.getfield 72, 3) := by decide +kernel
theorem dX11_doesHold_22 : decode cX11_doesHold 22 = .ok (.iload_n 3, 1) := by decide +kernel
theorem dX11_doesHold_23 : decode cX11_doesHold 23 = .ok (.bipush 8, 2) := by decide +kernel
theorem dX11_doesHold_25 : decode cX11_doesHold 25 = .ok (.iload_n 1, 1) := by decide +kernel
theorem dX11_doesHold_26 : decode cX11_doesHold 26 = .ok (.invokestatic 268, 3) := by decide +kernel
theorem dX11_doesHold_29 : decode cX11_doesHold 29 = .ok (.iaload, 1) := by decide +kernel
theorem dX11_doesHold_30 : decode cX11_doesHold 30 = .ok (.istore 5, 2) := by decide +kernel
theorem dX11_doesHold_32 : decode cX11_doesHold 32 = .ok (.iload_n 2, 1) := by decide +kernel
theorem dX11_doesHold_33 : decode cX11_doesHold 33 = .ok (.ifCond .eq 26, 3) := by decide +kernel
theorem dX11_doesHold_36 : decode cX11_doesHold 36 = .ok (.iload 4, 2) := by decide +kernel
theorem dX11_doesHold_38 : decode cX11_doesHold 38 = .ok (.iconst (-1), 1) := by decide +kernel
theorem dX11_doesHold_39 : decode cX11_doesHold 39 = .ok (.if_icmp .eq 16, 3) := by decide +kernel
theorem dX11_doesHold_42 : decode cX11_doesHold 42 = .ok (.iload 5, 2) := by decide +kernel
theorem dX11_doesHold_44 : decode cX11_doesHold 44 = .ok (.iconst (-1), 1) := by decide +kernel
theorem dX11_doesHold_45 : decode cX11_doesHold 45 = .ok (.if_icmp .eq 10, 3) := by decide +kernel
theorem dX11_doesHold_48 : decode cX11_doesHold 48 = .ok (.iload 4, 2) := by decide +kernel
theorem dX11_doesHold_50 : decode cX11_doesHold 50 = .ok (.iload 5, 2) := by decide +kernel
theorem dX11_doesHold_52 : decode cX11_doesHold 52 = .ok (.if_icmp .ne 7, 3) := by decide +kernel
theorem dX11_doesHold_55 : decode cX11_doesHold 55 = .ok (.iconst 1, 1) := by decide +kernel
theorem dX11_doesHold_56 : decode cX11_doesHold 56 = .ok (.goto 4, 3) := by decide +kernel
theorem dX11_doesHold_59 : decode cX11_doesHold 59 = .ok (.iconst 0, 1) := by decide +kernel
theorem dX11_doesHold_60 : decode cX11_doesHold 60 = .ok (.istore_n 2, 1) := by decide +kernel
theorem dX11_doesHold_61 : decode cX11_doesHold 61 = .ok (.iinc 3 1, 3) := by decide +kernel
theorem dX11_doesHold_64 : decode cX11_doesHold 64 = .ok (.goto (-60), 3) := by decide +kernel
theorem dX11_doesHold_67 : decode cX11_doesHold 67 = .ok (.iload_n 2, 1) := by decide +kernel
theorem dX11_doesHold_68 : decode cX11_doesHold 68 = .ok (.ireturn, 1) := by decide +kernel
theorem dX11_symmetries_0 : decode cX11_symmetries 0 = .ok (.iconst 0, 1) := by decide +kernel
theorem dX11_symmetries_1 : decode cX11_symmetries 1 = .ok (.istore_n 1, 1) := by decide +kernel
theorem dX11_symmetries_2 : decode cX11_symmetries 2 = .ok (.iconst 1, 1) := by decide +kernel
theorem dX11_symmetries_3 : decode cX11_symmetries 3 = .ok (.istore_n 2, 1) := by decide +kernel
theorem dX11_symmetries_4 : decode cX11_symmetries 4 = .ok (.iload_n 2, 1) := by decide +kernel
theorem dX11_symmetries_5 : decode cX11_symmetries 5 = .ok (.bipush 8, 2) := by decide +kernel
theorem dX11_symmetries_7 : decode cX11_symmetries 7 = .ok (.if_icmp .ge 27, 3) := by decide +kernel
theorem dX11_symmetries_10 : decode cX11_symmetries 10 = .ok (.iload_n 1, 1) := by decide +kernel
theorem dX11_symmetries_11 : decode cX11_symmetries 11 = .ok (.aload_n 0, 1) := by decide +kernel
theorem dX11_symmetries_12 : decode cX11_symmetries 12 = .ok (.iload_n 2, 1) := by decide +kernel
theorem dX11_symmetries_13 : decode cX11_symmetries 13 = .ok (.invokevirtual 300, 3) := by decide +kernel
theorem dX11_symmetries_16 : decode cX11_symmetries 16 = .ok (.ifCond .eq 9, 3) := by decide +kernel
theorem dX11_symmetries_19 : decode cX11_symmetries 19 = .ok (.iconst 1, 1) := by decide +kernel
theorem dX11_symmetries_20 : decode cX11_symmetries 20 = .ok (.iload_n 2, 1) := by decide +kernel
theorem dX11_symmetries_21 : decode cX11_symmetries 21 = .ok (.ishl, 1) := by decide +kernel
theorem dX11_symmetries_22 : decode cX11_symmetries 22 = .ok (.goto 4, 3) := by decide +kernel
theorem dX11_symmetries_25 : decode cX11_symmetries 25 = .ok (.iconst 0, 1) := by decide +kernel
theorem dX11_symmetries_26 : decode cX11_symmetries 26 = .ok (.ior, 1) := by decide +kernel
theorem dX11_symmetries_27 : decode cX11_symmetries 27 = .ok (.istore_n 1, 1) := by decide +kernel
theorem dX11_symmetries_28 : decode cX11_symmetries 28 = .ok (.iinc 2 1, 3) := by decide +kernel
theorem dX11_symmetries_31 : decode cX11_symmetries 31 = .ok (.goto (-27), 3) := by decide +kernel
theorem dX11_symmetries_34 : decode cX11_symmetries 34 = .ok (.iload_n 1, 1) := by decide +kernel
theorem dX11_symmetries_35 : decode cX11_symmetries 35 = .ok (.ireturn, 1) := by decide +kernel
theorem dX11_word_0 : decode cX11_word 0 = .ok (.iload_n 1, 1) := by decide +kernel
theorem dX11_word_1 : decode cX11_word 1 = .ok (.bipush (-4), 2) := by decide +kernel
theorem dX11_word_3 : decode cX11_word 3 = .ok (.if_icmp .eq 8, 3) := by decide +kernel
theorem dX11_word_6 : decode cX11_word 6 = .ok (.iload_n 1, 1) := by decide +kernel
theorem dX11_word_7 : decode cX11_word 7 = .ok (.iconst (-1), 1) := by decide +kernel
theorem dX11_word_8 : decode cX11_word 8 = .ok (.if_icmp .ne 7, 3) := by decide +kernel
theorem dX11_word_11 : decode cX11_word 11 = .ok (.iload_n 0, 1) := by decide +kernel
theorem dX11_word_12 : decode cX11_word 12 = .ok (.goto 24, 3) := by decide +kernel
theorem dX11_word_15 : decode cX11_word 15 = .ok (.iload_n 0, 1) := by decide +kernel
theorem dX11_word_16 : decode cX11_word 16 = .ok (.bipush (-4), 2) := by decide +kernel
theorem dX11_word_18 : decode cX11_word 18 = .ok (.if_icmp .ne 7, 3) := by decide +kernel
theorem dX11_word_21 : decode cX11_word 21 = .ok (.iload_n 1, 1) := by decide +kernel
theorem dX11_word_22 : decode cX11_word 22 = .ok (.goto 14, 3) := by decide +kernel
theorem dX11_word_25 : decode cX11_word 25 = .ok (.iload_n 0, 1) := by decide +kernel
theorem dX11_word_26 : decode cX11_word 26 = .ok (.iload_n 1, 1) := by decide +kernel
theorem dX11_word_27 : decode cX11_word 27 = .ok (.if_icmp .ne 7, 3) := by decide +kernel
theorem dX11_word_30 : decode cX11_word 30 = .ok (.iload_n 0, 1) := by decide +kernel
theorem dX11_word_31 : decode cX11_word 31 = .ok (.goto 5, 3) := by decide +kernel
theorem dX11_word_34 : decode cX11_word 34 = .ok (.bipush (-2), 2) := by decide +kernel
theorem dX11_word_36 : decode cX11_word 36 = .ok (.ireturn, 1) := by decide +kernel
theorem dX11_layWords_0 : decode cX11_layWords 0 = .ok (.iconst 0, 1) := by decide +kernel
theorem dX11_layWords_1 : decode cX11_layWords 1 = .ok (.istore_n 1, 1) := by decide +kernel
theorem dX11_layWords_2 : decode cX11_layWords 2 = .ok (.iload_n 1, 1) := by decide +kernel
theorem dX11_layWords_3 : decode cX11_layWords 3 = .ok (.bipush 64, 2) := by decide +kernel
theorem dX11_layWords_5 : decode cX11_layWords 5 = .ok (.if_icmp .ge 25, 3) := by decide +kernel
theorem dX11_layWords_8 : decode cX11_layWords 8 = .ok (.aload_n 0, 1) := by decide +kernel
theorem dX11_layWords_9 : decode cX11_layWords 9 = .ok (.getfield 75, 3) := by decide +kernel
theorem dX11_layWords_12 : decode cX11_layWords 12 = .ok (.iload_n 1, 1) := by decide +kernel
theorem dX11_layWords_13 : decode cX11_layWords 13 = .ok (.bipush (-4), 2) := by decide +kernel
theorem dX11_layWords_15 : decode cX11_layWords 15 = .ok (.iastore, 1) := by decide +kernel
theorem dX11_layWords_16 : decode cX11_layWords 16 = .ok (.aload_n 0, 1) := by decide +kernel
theorem dX11_layWords_17 : decode cX11_layWords 17 = .ok (.getfield 78, 3) := by decide +kernel
theorem dX11_layWords_20 : decode cX11_layWords 20 = .ok (.iload_n 1, 1) := by decide +kernel
theorem dX11_layWords_21 : decode cX11_layWords 21 = .ok (.bipush (-4), 2) := by decide +kernel
theorem dX11_layWords_23 : decode cX11_layWords 23 = .ok (.iastore, 1) := by decide +kernel
theorem dX11_layWords_24 : decode cX11_layWords 24 = .ok (.iinc 1 1, 3) := by decide +kernel
theorem dX11_layWords_27 : decode cX11_layWords 27 = .ok (.goto (-25), 3) := by decide +kernel
theorem dX11_layWords_30 : decode cX11_layWords 30 = .ok (.aload_n 0, 1) := by decide +kernel
theorem dX11_layWords_31 : decode cX11_layWords 31 = .ok (.invokevirtual 303, 3) := by decide +kernel
theorem dX11_layWords_34 : decode cX11_layWords 34 = .ok (.istore_n 1, 1) := by decide +kernel
theorem dX11_layWords_35 : decode cX11_layWords 35 = .ok (.iconst 1, 1) := by decide +kernel
theorem dX11_layWords_36 : decode cX11_layWords 36 = .ok (.istore_n 2, 1) := by decide +kernel
theorem dX11_layWords_37 : decode cX11_layWords 37 = .ok (.iload_n 2, 1) := by decide +kernel
theorem dX11_layWords_38 : decode cX11_layWords 38 = .ok (.bipush 8, 2) := by decide +kernel
theorem dX11_layWords_40 : decode cX11_layWords 40 = .ok (.if_icmp .ge 86, 3) := by decide +kernel
theorem dX11_layWords_43 : decode cX11_layWords 43 = .ok (.iconst 0, 1) := by decide +kernel
theorem dX11_layWords_44 : decode cX11_layWords 44 = .ok (.istore_n 3, 1) := by decide +kernel
theorem dX11_layWords_45 : decode cX11_layWords 45 = .ok (.iload_n 3, 1) := by decide +kernel
theorem dX11_layWords_46 : decode cX11_layWords 46 = .ok (.bipush 64, 2) := by decide +kernel
theorem dX11_layWords_48 : decode cX11_layWords 48 = .ok (.if_icmp .ge 72, 3) := by decide +kernel
theorem dX11_layWords_51 : decode cX11_layWords 51 = .ok (.iload_n 1, 1) := by decide +kernel
theorem dX11_layWords_52 : decode cX11_layWords 52 = .ok (.iload_n 2, 1) := by decide +kernel
theorem dX11_layWords_53 : decode cX11_layWords 53 = .ok (.ishr, 1) := by decide +kernel
theorem dX11_layWords_54 : decode cX11_layWords 54 = .ok (.iconst 1, 1) := by decide +kernel
theorem dX11_layWords_55 : decode cX11_layWords 55 = .ok (.iand, 1) := by decide +kernel
theorem dX11_layWords_56 : decode cX11_layWords 56 = .ok (.iconst 1, 1) := by decide +kernel
theorem dX11_layWords_57 : decode cX11_layWords 57 = .ok (.if_icmp .ne 63, 3) := by decide +kernel
theorem dX11_layWords_60 : decode cX11_layWords 60 = .ok (.iload_n 3, 1) := by decide +kernel
theorem dX11_layWords_61 : decode cX11_layWords 61 = .ok (.bipush 8, 2) := by decide +kernel
theorem dX11_layWords_63 : decode cX11_layWords 63 = .ok (.iload_n 2, 1) := by decide +kernel
theorem dX11_layWords_64 : decode cX11_layWords 64 = .ok (.invokestatic 268, 3) := by decide +kernel
theorem dX11_layWords_67 : decode cX11_layWords 67 = .ok (.istore 4, 2) := by decide +kernel
theorem dX11_layWords_69 : decode cX11_layWords 69 = .ok (.aload_n 0, 1) := by decide +kernel
theorem dX11_layWords_70 : decode cX11_layWords 70 = .ok (.getfield 75, 3) := by decide +kernel
theorem dX11_layWords_73 : decode cX11_layWords 73 = .ok (.iload_n 3, 1) := by decide +kernel
theorem dX11_layWords_74 : decode cX11_layWords 74 = .ok (.aload_n 0, 1) := by decide +kernel
theorem dX11_layWords_75 : decode cX11_layWords 75 = .ok (.getfield 75, 3) := by decide +kernel
theorem dX11_layWords_78 : decode cX11_layWords 78 = .ok (.iload_n 3, 1) := by decide +kernel
theorem dX11_layWords_79 : decode cX11_layWords 79 = .ok (.iaload, 1) := by decide +kernel
theorem dX11_layWords_80 : decode cX11_layWords 80 = .ok (.aload_n 0, 1) := by decide +kernel
theorem dX11_layWords_81 : decode cX11_layWords 81 = .ok (.getfield 72, 3) := by decide +kernel
theorem dX11_layWords_84 : decode cX11_layWords 84 = .ok (.iload 4, 2) := by decide +kernel
theorem dX11_layWords_86 : decode cX11_layWords 86 = .ok (.iaload, 1) := by decide +kernel
theorem dX11_layWords_87 : decode cX11_layWords 87 = .ok (.invokestatic 306, 3) := by decide +kernel
theorem dX11_layWords_90 : decode cX11_layWords 90 = .ok (.iastore, 1) := by decide +kernel
theorem dX11_layWords_91 : decode cX11_layWords 91 = .ok (.aload_n 0, 1) := by decide +kernel
theorem dX11_layWords_92 : decode cX11_layWords 92 = .ok (.getfield 75, 3) := by decide +kernel
theorem dX11_layWords_95 : decode cX11_layWords 95 = .ok (.iload 4, 2) := by decide +kernel
theorem dX11_layWords_97 : decode cX11_layWords 97 = .ok (.aload_n 0, 1) := by decide +kernel
theorem dX11_layWords_98 : decode cX11_layWords 98 = .ok (.getfield 75, 3) := by decide +kernel
theorem dX11_layWords_101 : decode cX11_layWords 101 = .ok (.iload 4, 2) := by decide +kernel
theorem dX11_layWords_103 : decode cX11_layWords 103 = .ok (.iaload, 1) := by decide +kernel
theorem dX11_layWords_104 : decode cX11_layWords 104 = .ok (.aload_n 0, 1) := by decide +kernel
theorem dX11_layWords_105 : decode cX11_layWords 105 = .ok (.getfield 72, 3) := by decide +kernel
theorem dX11_layWords_108 : decode cX11_layWords 108 = .ok (.iload_n 3, 1) := by decide +kernel
theorem dX11_layWords_109 : decode cX11_layWords 109 = .ok (.iaload, 1) := by decide +kernel
theorem dX11_layWords_110 : decode cX11_layWords 110 = .ok (.invokestatic 306, 3) := by decide +kernel
theorem dX11_layWords_113 : decode cX11_layWords 113 = .ok (.iastore, 1) := by decide +kernel
theorem dX11_layWords_114 : decode cX11_layWords 114 = .ok (.iinc 3 1, 3) := by decide +kernel
theorem dX11_layWords_117 : decode cX11_layWords 117 = .ok (.goto (-72), 3) := by decide +kernel
theorem dX11_layWords_120 : decode cX11_layWords 120 = .ok (.iinc 2 1, 3) := by decide +kernel
theorem dX11_layWords_123 : decode cX11_layWords 123 = .ok (.goto (-86), 3) := by decide +kernel
theorem dX11_layWords_126 : decode cX11_layWords 126 = .ok (.iconst 0, 1) := by decide +kernel
theorem dX11_layWords_127 : decode cX11_layWords 127 = .ok (.istore_n 2, 1) := by decide +kernel
theorem dX11_layWords_128 : decode cX11_layWords 128 = .ok (.iload_n 2, 1) := by decide +kernel
theorem dX11_layWords_129 : decode cX11_layWords 129 = .ok (.sipush 1024, 3) := by decide +kernel
theorem dX11_layWords_132 : decode cX11_layWords 132 = .ok (.aload_n 0, 1) := by decide +kernel
theorem dX11_layWords_133 : decode cX11_layWords 133 = .ok (.getfield 187, 3) := by decide +kernel
theorem dX11_layWords_136 : decode cX11_layWords 136 = .ok (.imul, 1) := by decide +kernel
theorem dX11_layWords_137 : decode cX11_layWords 137 = .ok (.if_icmp .ge 141, 3) := by decide +kernel
theorem dX11_layWords_140 : decode cX11_layWords 140 = .ok (.iload_n 2, 1) := by decide +kernel
theorem dX11_layWords_141 : decode cX11_layWords 141 = .ok (.sipush 512, 3) := by decide +kernel
theorem dX11_layWords_144 : decode cX11_layWords 144 = .ok (.idiv, 1) := by decide +kernel
theorem dX11_layWords_145 : decode cX11_layWords 145 = .ok (.iconst 2, 1) := by decide +kernel
theorem dX11_layWords_146 : decode cX11_layWords 146 = .ok (.irem, 1) := by decide +kernel
theorem dX11_layWords_147 : decode cX11_layWords 147 = .ok (.iconst 1, 1) := by decide +kernel
theorem dX11_layWords_148 : decode cX11_layWords 148 = .ok (.iadd, 1) := by decide +kernel
theorem dX11_layWords_149 : decode cX11_layWords 149 = .ok (.istore_n 3, 1) := by decide +kernel
theorem dX11_layWords_150 : decode cX11_layWords 150 = .ok (.iload_n 2, 1) := by decide +kernel
theorem dX11_layWords_151 : decode cX11_layWords 151 = .ok (.bipush 64, 2) := by decide +kernel
theorem dX11_layWords_153 : decode cX11_layWords 153 = .ok (.idiv, 1) := by decide +kernel
theorem dX11_layWords_154 : decode cX11_layWords 154 = .ok (.bipush 8, 2) := by decide +kernel
theorem dX11_layWords_156 : decode cX11_layWords 156 = .ok (.irem, 1) := by decide +kernel
theorem dX11_layWords_157 : decode cX11_layWords 157 = .ok (.istore 4, 2) := by decide +kernel
theorem dX11_layWords_159 : decode cX11_layWords 159 = .ok (.aload_n 0, 1) := by decide +kernel
theorem dX11_layWords_160 : decode cX11_layWords 160 = .ok (.iload_n 2, 1) := by decide +kernel
theorem dX11_layWords_161 : decode cX11_layWords 161 = .ok (.sipush 1024, 3) := by decide +kernel
theorem dX11_layWords_164 : decode cX11_layWords 164 = .ok (.idiv, 1) := by decide +kernel
theorem dX11_layWords_165 : decode cX11_layWords 165 = .ok (.iload 4, 2) := by decide +kernel
theorem dX11_layWords_167 : decode cX11_layWords 167 = .ok (.iload_n 3, 1) := by decide +kernel
theorem dX11_layWords_168 : decode cX11_layWords 168 = .ok (.iload_n 2, 1) := by decide +kernel
theorem dX11_layWords_169 : decode cX11_layWords 169 = .ok (.bipush 64, 2) := by decide +kernel
theorem dX11_layWords_171 : decode cX11_layWords 171 = .ok (.irem, 1) := by decide +kernel
theorem dX11_layWords_172 : decode cX11_layWords 172 = .ok (.invokevirtual 288, 3) := by decide +kernel
theorem dX11_layWords_175 : decode cX11_layWords 175 = .ok (.ifCond .eq 97, 3) := by decide +kernel
theorem dX11_layWords_178 : decode cX11_layWords 178 = .ok (.aload_n 0, 1) := by decide +kernel
theorem dX11_layWords_179 : decode cX11_layWords 179 = .ok (.iload_n 2, 1) := by decide +kernel
theorem dX11_layWords_180 : decode cX11_layWords 180 = .ok (.sipush 1024, 3) := by decide +kernel
theorem dX11_layWords_183 : decode cX11_layWords 183 = .ok (.idiv, 1) := by decide +kernel
theorem dX11_layWords_184 : decode cX11_layWords 184 = .ok (.iload 4, 2) := by decide +kernel
theorem dX11_layWords_186 : decode cX11_layWords 186 = .ok (.iload_n 3, 1) := by decide +kernel
theorem dX11_layWords_187 : decode cX11_layWords 187 = .ok (.iload_n 2, 1) := by decide +kernel
theorem dX11_layWords_188 : decode cX11_layWords 188 = .ok (.bipush 64, 2) := by decide +kernel
theorem dX11_layWords_190 : decode cX11_layWords 190 = .ok (.irem, 1) := by decide +kernel
theorem dX11_layWords_191 : decode cX11_layWords 191 = .ok (.invokevirtual 292, 3) := by decide +kernel
theorem dX11_layWords_194 : decode cX11_layWords 194 = .ok (.iconst 0, 1) := by decide +kernel
theorem dX11_layWords_195 : decode cX11_layWords 195 = .ok (.istore 5, 2) := by decide +kernel
theorem dX11_layWords_197 : decode cX11_layWords 197 = .ok (.iload 5, 2) := by decide +kernel
theorem dX11_layWords_199 : decode cX11_layWords 199 = .ok (.bipush 16, 2) := by decide +kernel
theorem dX11_layWords_201 : decode cX11_layWords 201 = .ok (.iload_n 3, 1) := by decide +kernel
theorem dX11_layWords_202 : decode cX11_layWords 202 = .ok (.imul, 1) := by decide +kernel
theorem dX11_layWords_203 : decode cX11_layWords 203 = .ok (.iload_n 3, 1) := by decide +kernel
theorem dX11_layWords_204 : decode cX11_layWords 204 = .ok (.imul, 1) := by decide +kernel
theorem dX11_layWords_205 : decode cX11_layWords 205 = .ok (.if_icmp .ge 67, 3) := by decide +kernel
theorem dX11_layWords_208 : decode cX11_layWords 208 = .ok (.aload_n 0, 1) := by decide +kernel
theorem dX11_layWords_209 : decode cX11_layWords 209 = .ok (.getfield 275, 3) := by decide +kernel
theorem dX11_layWords_212 : decode cX11_layWords 212 = .ok (.ifCond .ne 60, 3) := by decide +kernel
theorem dX11_layWords_215 : decode cX11_layWords 215 = .ok (.aload_n 0, 1) := by decide +kernel
theorem dX11_layWords_216 : decode cX11_layWords 216 = .ok (.getfield 272, 3) := by decide +kernel
theorem dX11_layWords_219 : decode cX11_layWords 219 = .ok (.iconst 3, 1) := by decide +kernel
theorem dX11_layWords_220 : decode cX11_layWords 220 = .ok (.if_icmp .le 52, 3) := by decide +kernel
theorem dX11_layWords_223 : decode cX11_layWords 223 = .ok (.iload_n 3, 1) := by decide +kernel
theorem dX11_layWords_224 : decode cX11_layWords 224 = .ok (.iload_n 2, 1) := by decide +kernel
theorem dX11_layWords_225 : decode cX11_layWords 225 = .ok (.bipush 64, 2) := by decide +kernel
theorem dX11_layWords_227 : decode cX11_layWords 227 = .ok (.irem, 1) := by decide +kernel
theorem dX11_layWords_228 : decode cX11_layWords 228 = .ok (.iload 5, 2) := by decide +kernel
theorem dX11_layWords_230 : decode cX11_layWords 230 = .ok (.invokestatic 285, 3) := by decide +kernel
theorem dX11_layWords_233 : decode cX11_layWords 233 = .ok (.istore 6, 2) := by decide +kernel
theorem dX11_layWords_235 : decode cX11_layWords 235 = .ok (.aload_n 0, 1) := by decide +kernel
theorem dX11_layWords_236 : decode cX11_layWords 236 = .ok (.getfield 78, 3) := by decide +kernel
theorem dX11_layWords_239 : decode cX11_layWords 239 = .ok (.iload 6, 2) := by decide +kernel
theorem dX11_layWords_241 : decode cX11_layWords 241 = .ok (.aload_n 0, 1) := by decide +kernel
theorem dX11_layWords_242 : decode cX11_layWords 242 = .ok (.getfield 78, 3) := by decide +kernel
theorem dX11_layWords_245 : decode cX11_layWords 245 = .ok (.iload 6, 2) := by decide +kernel
theorem dX11_layWords_247 : decode cX11_layWords 247 = .ok (.iaload, 1) := by decide +kernel
theorem dX11_layWords_248 : decode cX11_layWords 248 = .ok (.aload_n 0, 1) := by decide +kernel
theorem dX11_layWords_249 : decode cX11_layWords 249 = .ok (.iload_n 2, 1) := by decide +kernel
theorem dX11_layWords_250 : decode cX11_layWords 250 = .ok (.sipush 1024, 3) := by decide +kernel
theorem dX11_layWords_253 : decode cX11_layWords 253 = .ok (.idiv, 1) := by decide +kernel
theorem dX11_layWords_254 : decode cX11_layWords 254 = .ok (.iload 4, 2) := by decide +kernel
theorem dX11_layWords_256 : decode cX11_layWords 256 = .ok (.iload_n 3, 1) := by decide +kernel
theorem dX11_layWords_257 : decode cX11_layWords 257 = .ok (.iload 5, 2) := by decide +kernel
theorem dX11_layWords_259 : decode cX11_layWords 259 = .ok (.invokevirtual 281, 3) := by decide +kernel
theorem dX11_layWords_262 : decode cX11_layWords 262 = .ok (.invokestatic 306, 3) := by decide +kernel
theorem dX11_layWords_265 : decode cX11_layWords 265 = .ok (.iastore, 1) := by decide +kernel
theorem dX11_layWords_266 : decode cX11_layWords 266 = .ok (.iinc 5 1, 3) := by decide +kernel
theorem dX11_layWords_269 : decode cX11_layWords 269 = .ok (.goto (-72), 3) := by decide +kernel
theorem dX11_layWords_272 : decode cX11_layWords 272 = .ok (.iinc 2 1, 3) := by decide +kernel
theorem dX11_layWords_275 : decode cX11_layWords 275 = .ok (.goto (-147), 3) := by decide +kernel
theorem dX11_layWords_278 : decode cX11_layWords 278 = .ok (.return_, 1) := by decide +kernel
theorem dX11_sureOf_0 : decode cX11_sureOf 0 = .ok (.aload_n 0, 1) := by decide +kernel
theorem dX11_sureOf_1 : decode cX11_sureOf 1 = .ok (.getfield 75, 3) := by decide +kernel
theorem dX11_sureOf_4 : decode cX11_sureOf 4 = .ok (.iload_n 1, 1) := by decide +kernel
theorem dX11_sureOf_5 : decode cX11_sureOf 5 = .ok (.iaload, 1) := by decide +kernel
theorem dX11_sureOf_6 : decode cX11_sureOf 6 = .ok (.istore_n 2, 1) := by decide +kernel
theorem dX11_sureOf_7 : decode cX11_sureOf 7 = .ok (.aload_n 0, 1) := by decide +kernel
theorem dX11_sureOf_8 : decode cX11_sureOf 8 = .ok (.getfield 78, 3) := by decide +kernel
theorem dX11_sureOf_11 : decode cX11_sureOf 11 = .ok (.iload_n 1, 1) := by decide +kernel
theorem dX11_sureOf_12 : decode cX11_sureOf 12 = .ok (.iaload, 1) := by decide +kernel
theorem dX11_sureOf_13 : decode cX11_sureOf 13 = .ok (.istore_n 3, 1) := by decide +kernel
theorem dX11_sureOf_14 : decode cX11_sureOf 14 = .ok (.iload_n 2, 1) := by decide +kernel
theorem dX11_sureOf_15 : decode cX11_sureOf 15 = .ok (.bipush (-2), 2) := by decide +kernel
theorem dX11_sureOf_17 : decode cX11_sureOf 17 = .ok (.if_icmp .eq 9, 3) := by decide +kernel
theorem dX11_sureOf_20 : decode cX11_sureOf 20 = .ok (.iload_n 3, 1) := by decide +kernel
theorem dX11_sureOf_21 : decode cX11_sureOf 21 = .ok (.bipush (-2), 2) := by decide +kernel
theorem dX11_sureOf_23 : decode cX11_sureOf 23 = .ok (.if_icmp .ne 8, 3) := by decide +kernel
theorem dX11_sureOf_26 : decode cX11_sureOf 26 = .ok (.bipush (-2), 2) := by decide +kernel
theorem dX11_sureOf_28 : decode cX11_sureOf 28 = .ok (.goto 30, 3) := by decide +kernel
theorem dX11_sureOf_31 : decode cX11_sureOf 31 = .ok (.iload_n 2, 1) := by decide +kernel
theorem dX11_sureOf_32 : decode cX11_sureOf 32 = .ok (.bipush (-4), 2) := by decide +kernel
theorem dX11_sureOf_34 : decode cX11_sureOf 34 = .ok (.if_icmp .ne 7, 3) := by decide +kernel
theorem dX11_sureOf_37 : decode cX11_sureOf 37 = .ok (.iload_n 3, 1) := by decide +kernel
theorem dX11_sureOf_38 : decode cX11_sureOf 38 = .ok (.goto 20, 3) := by decide +kernel
theorem dX11_sureOf_41 : decode cX11_sureOf 41 = .ok (.iload_n 3, 1) := by decide +kernel
theorem dX11_sureOf_42 : decode cX11_sureOf 42 = .ok (.bipush (-4), 2) := by decide +kernel
theorem dX11_sureOf_44 : decode cX11_sureOf 44 = .ok (.if_icmp .eq 8, 3) := by decide +kernel
theorem dX11_sureOf_47 : decode cX11_sureOf 47 = .ok (.iload_n 2, 1) := by decide +kernel
theorem dX11_sureOf_48 : decode cX11_sureOf 48 = .ok (.iload_n 3, 1) := by decide +kernel
theorem dX11_sureOf_49 : decode cX11_sureOf 49 = .ok (.if_icmp .ne 7, 3) := by decide +kernel
theorem dX11_sureOf_52 : decode cX11_sureOf 52 = .ok (.iload_n 2, 1) := by decide +kernel
theorem dX11_sureOf_53 : decode cX11_sureOf 53 = .ok (.goto 5, 3) := by decide +kernel
theorem dX11_sureOf_56 : decode cX11_sureOf 56 = .ok (.bipush (-2), 2) := by decide +kernel
theorem dX11_sureOf_58 : decode cX11_sureOf 58 = .ok (.ireturn, 1) := by decide +kernel
theorem dX11_may_0 : decode cX11_may 0 = .ok (.iload_n 1, 1) := by decide +kernel
theorem dX11_may_1 : decode cX11_may 1 = .ok (.invokestatic 254, 3) := by decide +kernel
theorem dX11_may_4 : decode cX11_may 4 = .ok (.ifCond .eq 25, 3) := by decide +kernel
theorem dX11_may_7 : decode cX11_may 7 = .ok (.aload_n 0, 1) := by decide +kernel
theorem dX11_may_8 : decode cX11_may 8 = .ok (.getfield 72, 3) := by decide +kernel
theorem dX11_may_11 : decode cX11_may 11 = .ok (.iload_n 1, 1) := by decide +kernel
theorem dX11_may_12 : decode cX11_may 12 = .ok (.iaload, 1) := by decide +kernel
theorem dX11_may_13 : decode cX11_may 13 = .ok (.iconst (-1), 1) := by decide +kernel
theorem dX11_may_14 : decode cX11_may 14 = .ok (.if_icmp .ne 15, 3) := by decide +kernel
theorem dX11_may_17 : decode cX11_may 17 = .ok (.iload_n 2, 1) := by decide +kernel
theorem dX11_may_18 : decode cX11_may 18 = .ok (.i2l, 1) := by decide +kernel
theorem dX11_may_19 : decode cX11_may 19 = .ok (.lconst 0, 1) := by decide +kernel
theorem dX11_may_20 : decode cX11_may 20 = .ok (.ldc2_w 245, 3) := by decide +kernel
theorem dX11_may_23 : decode cX11_may 23 = .ok (.invokestatic 96, 3) := by decide +kernel
theorem dX11_may_26 : decode cX11_may 26 = .ok (.ifCond .ne 5, 3) := by decide +kernel
theorem dX11_may_29 : decode cX11_may 29 = .ok (.iconst (-1), 1) := by decide +kernel
theorem dX11_may_30 : decode cX11_may 30 = .ok (.ireturn, 1) := by decide +kernel
theorem dX11_may_31 : decode cX11_may 31 = .ok (.aload_n 0, 1) := by decide +kernel
theorem dX11_may_32 : decode cX11_may 32 = .ok (.invokevirtual 309, 3) := by decide +kernel
theorem dX11_may_35 : decode cX11_may 35 = .ok (.iload_n 2, 1) := by decide +kernel
theorem dX11_may_36 : decode cX11_may 36 = .ok (.ifCond .ne 12, 3) := by decide +kernel
theorem dX11_may_39 : decode cX11_may 39 = .ok (.aload_n 0, 1) := by decide +kernel
theorem dX11_may_40 : decode cX11_may 40 = .ok (.getfield 75, 3) := by decide +kernel
theorem dX11_may_43 : decode cX11_may 43 = .ok (.iload_n 1, 1) := by decide +kernel
theorem dX11_may_44 : decode cX11_may 44 = .ok (.iaload, 1) := by decide +kernel
theorem dX11_may_45 : decode cX11_may 45 = .ok (.goto 22, 3) := by decide +kernel
theorem dX11_may_48 : decode cX11_may 48 = .ok (.iload_n 2, 1) := by decide +kernel
theorem dX11_may_49 : decode cX11_may 49 = .ok (.iconst 1, 1) := by decide +kernel
theorem dX11_may_50 : decode cX11_may 50 = .ok (.if_icmp .ne 12, 3) := by decide +kernel
theorem dX11_may_53 : decode cX11_may 53 = .ok (.aload_n 0, 1) := by decide +kernel
theorem dX11_may_54 : decode cX11_may 54 = .ok (.getfield 78, 3) := by decide +kernel
theorem dX11_may_57 : decode cX11_may 57 = .ok (.iload_n 1, 1) := by decide +kernel
theorem dX11_may_58 : decode cX11_may 58 = .ok (.iaload, 1) := by decide +kernel
theorem dX11_may_59 : decode cX11_may 59 = .ok (.goto 8, 3) := by decide +kernel
theorem dX11_may_62 : decode cX11_may 62 = .ok (.aload_n 0, 1) := by decide +kernel
theorem dX11_may_63 : decode cX11_may 63 = .ok (.iload_n 1, 1) := by decide +kernel
theorem dX11_may_64 : decode cX11_may 64 = .ok (.invokevirtual 312, 3) := by decide +kernel
theorem dX11_may_67 : decode cX11_may 67 = .ok (.ireturn, 1) := by decide +kernel
theorem dX11_lost_0 : decode cX11_lost 0 = .ok (.iload_n 1, 1) := by decide +kernel
theorem dX11_lost_1 : decode cX11_lost 1 = .ok (.i2l, 1) := by decide +kernel
theorem dX11_lost_2 : decode cX11_lost 2 = .ok (.lconst 0, 1) := by decide +kernel
theorem dX11_lost_3 : decode cX11_lost 3 = .ok (.ldc2_w 245, 3) := by decide +kernel
theorem dX11_lost_6 : decode cX11_lost 6 = .ok (.invokestatic 96, 3) := by decide +kernel
theorem dX11_lost_9 : decode cX11_lost 9 = .ok (.ifCond .ne 5, 3) := by decide +kernel
theorem dX11_lost_12 : decode cX11_lost 12 = .ok (.iconst (-1), 1) := by decide +kernel
theorem dX11_lost_13 : decode cX11_lost 13 = .ok (.ireturn, 1) := by decide +kernel
theorem dX11_lost_14 : decode cX11_lost 14 = .ok (.aload_n 0, 1) := by decide +kernel
theorem dX11_lost_15 : decode cX11_lost 15 = .ok (.invokevirtual 309, 3) := by decide +kernel
theorem dX11_lost_18 : decode cX11_lost 18 = .ok (.iconst 0, 1) := by decide +kernel
theorem dX11_lost_19 : decode cX11_lost 19 = .ok (.istore_n 2, 1) := by decide +kernel
theorem dX11_lost_20 : decode cX11_lost 20 = .ok (.iconst 0, 1) := by decide +kernel
theorem dX11_lost_21 : decode cX11_lost 21 = .ok (.istore_n 3, 1) := by decide +kernel
theorem dX11_lost_22 : decode cX11_lost 22 = .ok (.iload_n 3, 1) := by decide +kernel
theorem dX11_lost_23 : decode cX11_lost 23 = .ok (.bipush 64, 2) := by decide +kernel
theorem dX11_lost_25 : decode cX11_lost 25 = .ok (.if_icmp .ge 68, 3) := by decide +kernel
theorem dX11_lost_28 : decode cX11_lost 28 = .ok (.aload_n 0, 1) := by decide +kernel
theorem dX11_lost_29 : decode cX11_lost 29 = .ok (.iload_n 3, 1) := by decide +kernel
theorem dX11_lost_30 : decode cX11_lost 30 = .ok (.invokevirtual 312, 3) := by decide +kernel
theorem dX11_lost_33 : decode cX11_lost 33 = .ok (.istore 4, 2) := by decide +kernel
theorem dX11_lost_35 : decode cX11_lost 35 = .ok (.iload_n 2, 1) := by decide +kernel
theorem dX11_lost_36 : decode cX11_lost 36 = .ok (.aload_n 0, 1) := by decide +kernel
theorem dX11_lost_37 : decode cX11_lost 37 = .ok (.getfield 72, 3) := by decide +kernel
theorem dX11_lost_40 : decode cX11_lost 40 = .ok (.iload_n 3, 1) := by decide +kernel
theorem dX11_lost_41 : decode cX11_lost 41 = .ok (.iaload, 1) := by decide +kernel
theorem dX11_lost_42 : decode cX11_lost 42 = .ok (.iconst (-1), 1) := by decide +kernel
theorem dX11_lost_43 : decode cX11_lost 43 = .ok (.if_icmp .ne 41, 3) := by decide +kernel
theorem dX11_lost_46 : decode cX11_lost 46 = .ok (.iload_n 1, 1) := by decide +kernel
theorem dX11_lost_47 : decode cX11_lost 47 = .ok (.ifCond .ne 11, 3) := by decide +kernel
theorem dX11_lost_50 : decode cX11_lost 50 = .ok (.iload 4, 2) := by decide +kernel
theorem dX11_lost_52 : decode cX11_lost 52 = .ok (.ifCond .lt 32, 3) := by decide +kernel
theorem dX11_lost_55 : decode cX11_lost 55 = .ok (.goto 25, 3) := by decide +kernel
theorem dX11_lost_58 : decode cX11_lost 58 = .ok (.iload_n 1, 1) := by decide +kernel
theorem dX11_lost_59 : decode cX11_lost 59 = .ok (.iconst 1, 1) := by decide +kernel
theorem dX11_lost_60 : decode cX11_lost 60 = .ok (.if_icmp .ne 13, 3) := by decide +kernel
theorem dX11_lost_63 : decode cX11_lost 63 = .ok (.iload 4, 2) := by decide +kernel
theorem dX11_lost_65 : decode cX11_lost 65 = .ok (.bipush (-2), 2) := by decide +kernel
theorem dX11_lost_67 : decode cX11_lost 67 = .ok (.if_icmp .ne 17, 3) := by decide +kernel
theorem dX11_lost_70 : decode cX11_lost 70 = .ok (.goto 10, 3) := by decide +kernel
theorem dX11_lost_73 : decode cX11_lost 73 = .ok (.iload 4, 2) := by decide +kernel
theorem dX11_lost_75 : decode cX11_lost 75 = .ok (.bipush (-4), 2) := by decide +kernel
theorem dX11_lost_77 : decode cX11_lost 77 = .ok (.if_icmp .ne 7, 3) := by decide +kernel
theorem dX11_lost_80 : decode cX11_lost 80 = .ok (.iconst 1, 1) := by decide +kernel
theorem dX11_lost_81 : decode cX11_lost 81 = .ok (.goto 4, 3) := by decide +kernel
theorem dX11_lost_84 : decode cX11_lost 84 = .ok (.iconst 0, 1) := by decide +kernel
theorem dX11_lost_85 : decode cX11_lost 85 = .ok (.iadd, 1) := by decide +kernel
theorem dX11_lost_86 : decode cX11_lost 86 = .ok (.istore_n 2, 1) := by decide +kernel
theorem dX11_lost_87 : decode cX11_lost 87 = .ok (.iinc 3 1, 3) := by decide +kernel
theorem dX11_lost_90 : decode cX11_lost 90 = .ok (.goto (-68), 3) := by decide +kernel
theorem dX11_lost_93 : decode cX11_lost 93 = .ok (.iload_n 2, 1) := by decide +kernel
theorem dX11_lost_94 : decode cX11_lost 94 = .ok (.ireturn, 1) := by decide +kernel
theorem dX11_fill_0 : decode cX11_fill 0 = .ok (.aload_n 0, 1) := by decide +kernel
theorem dX11_fill_1 : decode cX11_fill 1 = .ok (.invokevirtual 309, 3) := by decide +kernel
theorem dX11_fill_4 : decode cX11_fill 4 = .ok (.iconst 0, 1) := by decide +kernel
theorem dX11_fill_5 : decode cX11_fill 5 = .ok (.istore_n 1, 1) := by decide +kernel
theorem dX11_fill_6 : decode cX11_fill 6 = .ok (.aload_n 0, 1) := by decide +kernel
theorem dX11_fill_7 : decode cX11_fill 7 = .ok (.lconst 0, 1) := by decide +kernel
theorem dX11_fill_8 : decode cX11_fill 8 = .ok (.putfield 257, 3) := by decide +kernel
theorem dX11_fill_11 : decode cX11_fill 11 = .ok (.aload_n 0, 1) := by decide +kernel
theorem dX11_fill_12 : decode cX11_fill 12 = .ok (.iconst 1, 1) := by decide +kernel
theorem dX11_fill_13 : decode cX11_fill 13 = .ok (.putfield 315, 3) := by decide +kernel
theorem dX11_fill_16 : decode cX11_fill 16 = .ok (.iconst 0, 1) := by decide +kernel
theorem dX11_fill_17 : decode cX11_fill 17 = .ok (.istore_n 2, 1) := by decide +kernel
theorem dX11_fill_18 : decode cX11_fill 18 = .ok (.iload_n 2, 1) := by decide +kernel
theorem dX11_fill_19 : decode cX11_fill 19 = .ok (.bipush 64, 2) := by decide +kernel
theorem dX11_fill_21 : decode cX11_fill 21 = .ok (.if_icmp .ge 42, 3) := by decide +kernel
theorem dX11_fill_24 : decode cX11_fill 24 = .ok (.aload_n 0, 1) := by decide +kernel
theorem dX11_fill_25 : decode cX11_fill 25 = .ok (.getfield 72, 3) := by decide +kernel
theorem dX11_fill_28 : decode cX11_fill 28 = .ok (.iload_n 2, 1) := by decide +kernel
theorem dX11_fill_29 : decode cX11_fill 29 = .ok (.iaload, 1) := by decide +kernel
theorem dX11_fill_30 : decode cX11_fill 30 = .ok (.iconst (-1), 1) := by decide +kernel
theorem dX11_fill_31 : decode cX11_fill 31 = .ok (.if_icmp .ne 26, 3) := by decide +kernel
theorem dX11_fill_34 : decode cX11_fill 34 = .ok (.aload_n 0, 1) := by decide +kernel
theorem dX11_fill_35 : decode cX11_fill 35 = .ok (.iload_n 2, 1) := by decide +kernel
theorem dX11_fill_36 : decode cX11_fill 36 = .ok (.invokevirtual 312, 3) := by decide +kernel
theorem dX11_fill_39 : decode cX11_fill 39 = .ok (.ifCond .lt 18, 3) := by decide +kernel
theorem dX11_fill_42 : decode cX11_fill 42 = .ok (.aload_n 0, 1) := by decide +kernel
theorem dX11_fill_43 : decode cX11_fill 43 = .ok (.dup, 1) := by decide +kernel
theorem dX11_fill_44 : decode cX11_fill 44 = .ok (.getfield 257, 3) := by decide +kernel
theorem dX11_fill_47 : decode cX11_fill 47 = .ok (.lconst 1, 1) := by decide +kernel
theorem dX11_fill_48 : decode cX11_fill 48 = .ok (.iload_n 2, 1) := by decide +kernel
theorem dX11_fill_49 : decode cX11_fill 49 = .ok (.lshl, 1) := by decide +kernel
theorem dX11_fill_50 : decode cX11_fill 50 = .ok (.lor, 1) := by decide +kernel
theorem dX11_fill_51 : decode cX11_fill 51 = .ok (.putfield 257, 3) := by decide +kernel
theorem dX11_fill_54 : decode cX11_fill 54 = .ok (.iinc 1 1, 3) := by decide +kernel
theorem dX11_fill_57 : decode cX11_fill 57 = .ok (.iinc 2 1, 3) := by decide +kernel
theorem dX11_fill_60 : decode cX11_fill 60 = .ok (.goto (-42), 3) := by decide +kernel
theorem dX11_fill_63 : decode cX11_fill 63 = .ok (.iconst 0, 1) := by decide +kernel
theorem dX11_fill_64 : decode cX11_fill 64 = .ok (.istore_n 2, 1) := by decide +kernel
theorem dX11_fill_65 : decode cX11_fill 65 = .ok (.iload_n 2, 1) := by decide +kernel
theorem dX11_fill_66 : decode cX11_fill 66 = .ok (.bipush 64, 2) := by decide +kernel
theorem dX11_fill_68 : decode cX11_fill 68 = .ok (.if_icmp .ge 42, 3) := by decide +kernel
theorem dX11_fill_71 : decode cX11_fill 71 = .ok (.aload_n 0, 1) := by decide +kernel
theorem dX11_fill_72 : decode cX11_fill 72 = .ok (.getfield 72, 3) := by decide +kernel
theorem dX11_fill_75 : decode cX11_fill 75 = .ok (.iload_n 2, 1) := by decide +kernel
theorem dX11_fill_76 : decode cX11_fill 76 = .ok (.aload_n 0, 1) := by decide +kernel
theorem dX11_fill_77 : decode cX11_fill 77 = .ok (.getfield 257, 3) := by decide +kernel
theorem dX11_fill_80 : decode cX11_fill 80 = .ok (.iload_n 2, 1) := by decide +kernel
theorem dX11_fill_81 : decode cX11_fill 81 = .ok (.lshr, 1) := by decide +kernel
theorem dX11_fill_82 : decode cX11_fill 82 = .ok (.lconst 1, 1) := by decide +kernel
theorem dX11_fill_83 : decode cX11_fill 83 = .ok (.land, 1) := by decide +kernel
theorem dX11_fill_84 : decode cX11_fill 84 = .ok (.lconst 1, 1) := by decide +kernel
theorem dX11_fill_85 : decode cX11_fill 85 = .ok (.lcmp, 1) := by decide +kernel
theorem dX11_fill_86 : decode cX11_fill 86 = .ok (.ifCond .ne 11, 3) := by decide +kernel
theorem dX11_fill_89 : decode cX11_fill 89 = .ok (.aload_n 0, 1) := by decide +kernel
theorem dX11_fill_90 : decode cX11_fill 90 = .ok (.iload_n 2, 1) := by decide +kernel
theorem dX11_fill_91 : decode cX11_fill 91 = .ok (.invokevirtual 312, 3) := by decide +kernel
theorem dX11_fill_94 : decode cX11_fill 94 = .ok (.goto 9, 3) := by decide +kernel
theorem dX11_fill_97 : decode cX11_fill 97 = .ok (.aload_n 0, 1) := by decide +kernel
theorem dX11_fill_98 : decode cX11_fill 98 = .ok (.getfield 72, 3) := by decide +kernel
theorem dX11_fill_101 : decode cX11_fill 101 = .ok (.iload_n 2, 1) := by decide +kernel
theorem dX11_fill_102 : decode cX11_fill 102 = .ok (.iaload, 1) := by decide +kernel
theorem dX11_fill_103 : decode cX11_fill 103 = .ok (.iastore, 1) := by decide +kernel
theorem dX11_fill_104 : decode cX11_fill 104 = .ok (.iinc 2 1, 3) := by decide +kernel
theorem dX11_fill_107 : decode cX11_fill 107 = .ok (.goto (-42), 3) := by decide +kernel
theorem dX11_fill_110 : decode cX11_fill 110 = .ok (.iload_n 1, 1) := by decide +kernel
theorem dX11_fill_111 : decode cX11_fill 111 = .ok (.ireturn, 1) := by decide +kernel
theorem dX11_undo_0 : decode cX11_undo 0 = .ok (.aload_n 0, 1) := by decide +kernel
theorem dX11_undo_1 : decode cX11_undo 1 = .ok (.getfield 315, 3) := by decide +kernel
theorem dX11_undo_4 : decode cX11_undo 4 = .ok (.ifCond .ne 6, 3) := by decide +kernel
theorem dX11_undo_7 : decode cX11_undo 7 = .ok (.bipush (-2), 2) := by decide +kernel
theorem dX11_undo_9 : decode cX11_undo 9 = .ok (.ireturn, 1) := by decide +kernel
theorem dX11_undo_10 : decode cX11_undo 10 = .ok (.iconst 0, 1) := by decide +kernel
theorem dX11_undo_11 : decode cX11_undo 11 = .ok (.istore_n 1, 1) := by decide +kernel
theorem dX11_undo_12 : decode cX11_undo 12 = .ok (.iconst 0, 1) := by decide +kernel
theorem dX11_undo_13 : decode cX11_undo 13 = .ok (.istore_n 2, 1) := by decide +kernel
theorem dX11_undo_14 : decode cX11_undo 14 = .ok (.iload_n 2, 1) := by decide +kernel
theorem dX11_undo_15 : decode cX11_undo 15 = .ok (.bipush 64, 2) := by decide +kernel
theorem dX11_undo_17 : decode cX11_undo 17 = .ok (.if_icmp .ge 32, 3) := by decide +kernel
theorem dX11_undo_20 : decode cX11_undo 20 = .ok (.aload_n 0, 1) := by decide +kernel
theorem dX11_undo_21 : decode cX11_undo 21 = .ok (.getfield 257, 3) := by decide +kernel
theorem dX11_undo_24 : decode cX11_undo 24 = .ok (.iload_n 2, 1) := by decide +kernel
theorem dX11_undo_25 : decode cX11_undo 25 = .ok (.lshr, 1) := by decide +kernel
theorem dX11_undo_26 : decode cX11_undo 26 = .ok (.lconst 1, 1) := by decide +kernel
theorem dX11_undo_27 : decode cX11_undo 27 = .ok (.land, 1) := by decide +kernel
theorem dX11_undo_28 : decode cX11_undo 28 = .ok (.lconst 1, 1) := by decide +kernel
theorem dX11_undo_29 : decode cX11_undo 29 = .ok (.lcmp, 1) := by decide +kernel
theorem dX11_undo_30 : decode cX11_undo 30 = .ok (.ifCond .ne 13, 3) := by decide +kernel
theorem dX11_undo_33 : decode cX11_undo 33 = .ok (.aload_n 0, 1) := by decide +kernel
theorem dX11_undo_34 : decode cX11_undo 34 = .ok (.getfield 72, 3) := by decide +kernel
theorem dX11_undo_37 : decode cX11_undo 37 = .ok (.iload_n 2, 1) := by decide +kernel
theorem dX11_undo_38 : decode cX11_undo 38 = .ok (.iconst (-1), 1) := by decide +kernel
theorem dX11_undo_39 : decode cX11_undo 39 = .ok (.iastore, 1) := by decide +kernel
theorem dX11_undo_40 : decode cX11_undo 40 = .ok (.iinc 1 1, 3) := by decide +kernel
theorem dX11_undo_43 : decode cX11_undo 43 = .ok (.iinc 2 1, 3) := by decide +kernel
theorem dX11_undo_46 : decode cX11_undo 46 = .ok (.goto (-32), 3) := by decide +kernel
theorem dX11_undo_49 : decode cX11_undo 49 = .ok (.aload_n 0, 1) := by decide +kernel
theorem dX11_undo_50 : decode cX11_undo 50 = .ok (.lconst 0, 1) := by decide +kernel
theorem dX11_undo_51 : decode cX11_undo 51 = .ok (.putfield 257, 3) := by decide +kernel
theorem dX11_undo_54 : decode cX11_undo 54 = .ok (.aload_n 0, 1) := by decide +kernel
theorem dX11_undo_55 : decode cX11_undo 55 = .ok (.iconst 0, 1) := by decide +kernel
theorem dX11_undo_56 : decode cX11_undo 56 = .ok (.putfield 315, 3) := by decide +kernel
theorem dX11_undo_59 : decode cX11_undo 59 = .ok (.iload_n 1, 1) := by decide +kernel
theorem dX11_undo_60 : decode cX11_undo 60 = .ok (.ireturn, 1) := by decide +kernel
theorem dX11_stonesOf_0 : decode cX11_stonesOf 0 = .ok (.iconst 0, 1) := by decide +kernel
theorem dX11_stonesOf_1 : decode cX11_stonesOf 1 = .ok (.istore_n 2, 1) := by decide +kernel
theorem dX11_stonesOf_2 : decode cX11_stonesOf 2 = .ok (.iconst 0, 1) := by decide +kernel
theorem dX11_stonesOf_3 : decode cX11_stonesOf 3 = .ok (.istore_n 3, 1) := by decide +kernel
theorem dX11_stonesOf_4 : decode cX11_stonesOf 4 = .ok (.iload_n 3, 1) := by decide +kernel
theorem dX11_stonesOf_5 : decode cX11_stonesOf 5 = .ok (.bipush 64, 2) := by decide +kernel
theorem dX11_stonesOf_7 : decode cX11_stonesOf 7 = .ok (.if_icmp .ge 27, 3) := by decide +kernel
theorem dX11_stonesOf_10 : decode cX11_stonesOf 10 = .ok (.iload_n 2, 1) := by decide +kernel
