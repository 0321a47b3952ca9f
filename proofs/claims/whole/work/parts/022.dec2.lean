theorem dX6_learn_100 : decode cX6_learn 100 = .ok (.iinc 3 1, 3) := by decide +kernel
theorem dX6_learn_103 : decode cX6_learn 103 = .ok (.goto (-39), 3) := by decide +kernel
theorem dX6_learn_106 : decode cX6_learn 106 = .ok (.iinc 2 1, 3) := by decide +kernel
theorem dX6_learn_109 : decode cX6_learn 109 = .ok (.goto (-55), 3) := by decide +kernel
theorem dX6_learn_112 : decode cX6_learn 112 = .ok (.aload_n 0, 1) := by decide +kernel
theorem dX6_learn_113 : decode cX6_learn 113 = .ok (.iconst 0, 1) := by decide +kernel
theorem dX6_learn_114 : decode cX6_learn 114 = .ok (.putfield 46, 3) := by decide +kernel
theorem dX6_learn_117 : decode cX6_learn 117 = .ok (.return_, 1) := by decide +kernel
theorem dX6_aheadOf_0 : decode cX6_aheadOf 0 = .ok (.iload_n 1, 1) := by decide +kernel
theorem dX6_aheadOf_1 : decode cX6_aheadOf 1 = .ok (.iconst 0, 1) := by decide +kernel
theorem dX6_aheadOf_2 : decode cX6_aheadOf 2 = .ok (.aload_n 0, 1) := by decide +kernel
theorem dX6_aheadOf_3 : decode cX6_aheadOf 3 = .ok (.getfield 36, 3) := by decide +kernel
theorem dX6_aheadOf_6 : decode cX6_aheadOf 6 = .ok (.iconst 1, 1) := by decide +kernel
theorem dX6_aheadOf_7 : decode cX6_aheadOf 7 = .ok (.isub, 1) := by decide +kernel
theorem dX6_aheadOf_8 : decode cX6_aheadOf 8 = .ok (.invokestatic 50, 3) := by decide +kernel
theorem dX6_aheadOf_11 : decode cX6_aheadOf 11 = .ok (.ifCond .eq 12, 3) := by decide +kernel
theorem dX6_aheadOf_14 : decode cX6_aheadOf 14 = .ok (.aload_n 0, 1) := by decide +kernel
theorem dX6_aheadOf_15 : decode cX6_aheadOf 15 = .ok (.getfield 15, 3) := by decide +kernel
theorem dX6_aheadOf_18 : decode cX6_aheadOf 18 = .ok (.iload_n 1, 1) := by decide +kernel
theorem dX6_aheadOf_19 : decode cX6_aheadOf 19 = .ok (.iaload, 1) := by decide +kernel
theorem dX6_aheadOf_20 : decode cX6_aheadOf 20 = .ok (.goto 4, 3) := by decide +kernel
theorem dX6_aheadOf_23 : decode cX6_aheadOf 23 = .ok (.iconst 0, 1) := by decide +kernel
theorem dX6_aheadOf_24 : decode cX6_aheadOf 24 = .ok (.ireturn, 1) := by decide +kernel
theorem dX6_behind_0 : decode cX6_behind 0 = .ok (.iconst 0, 1) := by decide +kernel
theorem dX6_behind_1 : decode cX6_behind 1 = .ok (.istore_n 2, 1) := by decide +kernel
theorem dX6_behind_2 : decode cX6_behind 2 = .ok (.iconst 0, 1) := by decide +kernel
theorem dX6_behind_3 : decode cX6_behind 3 = .ok (.istore_n 3, 1) := by decide +kernel
theorem dX6_behind_4 : decode cX6_behind 4 = .ok (.iload_n 3, 1) := by decide +kernel
theorem dX6_behind_5 : decode cX6_behind 5 = .ok (.aload_n 0, 1) := by decide +kernel
theorem dX6_behind_6 : decode cX6_behind 6 = .ok (.getfield 36, 3) := by decide +kernel
theorem dX6_behind_9 : decode cX6_behind 9 = .ok (.if_icmp .ge 28, 3) := by decide +kernel
theorem dX6_behind_12 : decode cX6_behind 12 = .ok (.aload_n 0, 1) := by decide +kernel
theorem dX6_behind_13 : decode cX6_behind 13 = .ok (.getfield 15, 3) := by decide +kernel
theorem dX6_behind_16 : decode cX6_behind 16 = .ok (.iload_n 3, 1) := by decide +kernel
theorem dX6_behind_17 : decode cX6_behind 17 = .ok (.iaload, 1) := by decide +kernel
theorem dX6_behind_18 : decode cX6_behind 18 = .ok (.iload_n 1, 1) := by decide +kernel
theorem dX6_behind_19 : decode cX6_behind 19 = .ok (.invokestatic 42, 3) := by decide +kernel
theorem dX6_behind_22 : decode cX6_behind 22 = .ok (.ifCond .eq 9, 3) := by decide +kernel
theorem dX6_behind_25 : decode cX6_behind 25 = .ok (.iload_n 2, 1) := by decide +kernel
theorem dX6_behind_26 : decode cX6_behind 26 = .ok (.iconst 1, 1) := by decide +kernel
theorem dX6_behind_27 : decode cX6_behind 27 = .ok (.iload_n 3, 1) := by decide +kernel
theorem dX6_behind_28 : decode cX6_behind 28 = .ok (.ishl, 1) := by decide +kernel
theorem dX6_behind_29 : decode cX6_behind 29 = .ok (.ior, 1) := by decide +kernel
theorem dX6_behind_30 : decode cX6_behind 30 = .ok (.istore_n 2, 1) := by decide +kernel
theorem dX6_behind_31 : decode cX6_behind 31 = .ok (.iinc 3 1, 3) := by decide +kernel
theorem dX6_behind_34 : decode cX6_behind 34 = .ok (.goto (-30), 3) := by decide +kernel
theorem dX6_behind_37 : decode cX6_behind 37 = .ok (.iload_n 2, 1) := by decide +kernel
theorem dX6_behind_38 : decode cX6_behind 38 = .ok (.ireturn, 1) := by decide +kernel
theorem dX6_ringed_0 : decode cX6_ringed 0 = .ok (.iconst 0, 1) := by decide +kernel
theorem dX6_ringed_1 : decode cX6_ringed 1 = .ok (.istore_n 1, 1) := by decide +kernel
theorem dX6_ringed_2 : decode cX6_ringed 2 = .ok (.iconst 0, 1) := by decide +kernel
theorem dX6_ringed_3 : decode cX6_ringed 3 = .ok (.istore_n 2, 1) := by decide +kernel
theorem dX6_ringed_4 : decode cX6_ringed 4 = .ok (.iload_n 2, 1) := by decide +kernel
theorem dX6_ringed_5 : decode cX6_ringed 5 = .ok (.aload_n 0, 1) := by decide +kernel
theorem dX6_ringed_6 : decode cX6_ringed 6 = .ok (.getfield 36, 3) := by decide +kernel
theorem dX6_ringed_9 : decode cX6_ringed 9 = .ok (.if_icmp .ge 28, 3) := by decide +kernel
theorem dX6_ringed_12 : decode cX6_ringed 12 = .ok (.aload_n 0, 1) := by decide +kernel
theorem dX6_ringed_13 : decode cX6_ringed 13 = .ok (.getfield 15, 3) := by decide +kernel
theorem dX6_ringed_16 : decode cX6_ringed 16 = .ok (.iload_n 2, 1) := by decide +kernel
theorem dX6_ringed_17 : decode cX6_ringed 17 = .ok (.iaload, 1) := by decide +kernel
theorem dX6_ringed_18 : decode cX6_ringed 18 = .ok (.iload_n 2, 1) := by decide +kernel
theorem dX6_ringed_19 : decode cX6_ringed 19 = .ok (.invokestatic 42, 3) := by decide +kernel
theorem dX6_ringed_22 : decode cX6_ringed 22 = .ok (.ifCond .eq 9, 3) := by decide +kernel
theorem dX6_ringed_25 : decode cX6_ringed 25 = .ok (.iload_n 1, 1) := by decide +kernel
theorem dX6_ringed_26 : decode cX6_ringed 26 = .ok (.iconst 1, 1) := by decide +kernel
theorem dX6_ringed_27 : decode cX6_ringed 27 = .ok (.iload_n 2, 1) := by decide +kernel
theorem dX6_ringed_28 : decode cX6_ringed 28 = .ok (.ishl, 1) := by decide +kernel
theorem dX6_ringed_29 : decode cX6_ringed 29 = .ok (.ior, 1) := by decide +kernel
theorem dX6_ringed_30 : decode cX6_ringed 30 = .ok (.istore_n 1, 1) := by decide +kernel
theorem dX6_ringed_31 : decode cX6_ringed 31 = .ok (.iinc 2 1, 3) := by decide +kernel
theorem dX6_ringed_34 : decode cX6_ringed 34 = .ok (.goto (-30), 3) := by decide +kernel
theorem dX6_ringed_37 : decode cX6_ringed 37 = .ok (.iload_n 1, 1) := by decide +kernel
theorem dX6_ringed_38 : decode cX6_ringed 38 = .ok (.ireturn, 1) := by decide +kernel
theorem dX6_leastRing_0 : decode cX6_leastRing 0 = .ok (.iconst 0, 1) := by decide +kernel
theorem dX6_leastRing_1 : decode cX6_leastRing 1 = .ok (.istore_n 1, 1) := by decide +kernel
theorem dX6_leastRing_2 : decode cX6_leastRing 2 = .ok (.iconst 0, 1) := by decide +kernel
theorem dX6_leastRing_3 : decode cX6_leastRing 3 = .ok (.istore_n 2, 1) := by decide +kernel
theorem dX6_leastRing_4 : decode cX6_leastRing 4 = .ok (.iload_n 2, 1) := by decide +kernel
theorem dX6_leastRing_5 : decode cX6_leastRing 5 = .ok (.aload_n 0, 1) := by decide +kernel
theorem dX6_leastRing_6 : decode cX6_leastRing 6 = .ok (.getfield 36, 3) := by decide +kernel
theorem dX6_leastRing_9 : decode cX6_leastRing 9 = .ok (.if_icmp .ge 30, 3) := by decide +kernel
theorem dX6_leastRing_12 : decode cX6_leastRing 12 = .ok (.aload_n 0, 1) := by decide +kernel
theorem dX6_leastRing_13 : decode cX6_leastRing 13 = .ok (.iload_n 2, 1) := by decide +kernel
theorem dX6_leastRing_14 : decode cX6_leastRing 14 = .ok (.invokevirtual 54, 3) := by decide +kernel
theorem dX6_leastRing_17 : decode cX6_leastRing 17 = .ok (.istore_n 3, 1) := by decide +kernel
theorem dX6_leastRing_18 : decode cX6_leastRing 18 = .ok (.iload_n 3, 1) := by decide +kernel
theorem dX6_leastRing_19 : decode cX6_leastRing 19 = .ok (.ifCond .le 14, 3) := by decide +kernel
theorem dX6_leastRing_22 : decode cX6_leastRing 22 = .ok (.iload_n 1, 1) := by decide +kernel
theorem dX6_leastRing_23 : decode cX6_leastRing 23 = .ok (.ifCond .eq 8, 3) := by decide +kernel
theorem dX6_leastRing_26 : decode cX6_leastRing 26 = .ok (.iload_n 3, 1) := by decide +kernel
theorem dX6_leastRing_27 : decode cX6_leastRing 27 = .ok (.iload_n 1, 1) := by decide +kernel
theorem dX6_leastRing_28 : decode cX6_leastRing 28 = .ok (.if_icmp .ge 5, 3) := by decide +kernel
theorem dX6_leastRing_31 : decode cX6_leastRing 31 = .ok (.iload_n 3, 1) := by decide +kernel
theorem dX6_leastRing_32 : decode cX6_leastRing 32 = .ok (.istore_n 1, 1) := by decide +kernel
theorem dX6_leastRing_33 : decode cX6_leastRing 33 = .ok (.iinc 2 1, 3) := by decide +kernel
theorem dX6_leastRing_36 : decode cX6_leastRing 36 = .ok (.goto (-32), 3) := by decide +kernel
theorem dX6_leastRing_39 : decode cX6_leastRing 39 = .ok (.iload_n 1, 1) := by decide +kernel
theorem dX6_leastRing_40 : decode cX6_leastRing 40 = .ok (.ireturn, 1) := by decide +kernel
theorem dX6_stepsToItself_0 : decode cX6_stepsToItself 0 = .ok (.iconst 1, 1) := by decide +kernel
theorem dX6_stepsToItself_1 : decode cX6_stepsToItself 1 = .ok (.iload_n 1, 1) := by decide +kernel
theorem dX6_stepsToItself_2 : decode cX6_stepsToItself 2 = .ok (.ishl, 1) := by decide +kernel
theorem dX6_stepsToItself_3 : decode cX6_stepsToItself 3 = .ok (.istore_n 2, 1) := by decide +kernel
theorem dX6_stepsToItself_4 : decode cX6_stepsToItself 4 = .ok (.iconst 1, 1) := by decide +kernel
theorem dX6_stepsToItself_5 : decode cX6_stepsToItself 5 = .ok (.istore_n 3, 1) := by decide +kernel
theorem dX6_stepsToItself_6 : decode cX6_stepsToItself 6 = .ok (.iload_n 3, 1) := by decide +kernel
theorem dX6_stepsToItself_7 : decode cX6_stepsToItself 7 = .ok (.aload_n 0, 1) := by decide +kernel
theorem dX6_stepsToItself_8 : decode cX6_stepsToItself 8 = .ok (.getfield 36, 3) := by decide +kernel
theorem dX6_stepsToItself_11 : decode cX6_stepsToItself 11 = .ok (.if_icmp .gt 65, 3) := by decide +kernel
theorem dX6_stepsToItself_14 : decode cX6_stepsToItself 14 = .ok (.iconst 0, 1) := by decide +kernel
theorem dX6_stepsToItself_15 : decode cX6_stepsToItself 15 = .ok (.istore 4, 2) := by decide +kernel
theorem dX6_stepsToItself_17 : decode cX6_stepsToItself 17 = .ok (.iconst 0, 1) := by decide +kernel
theorem dX6_stepsToItself_18 : decode cX6_stepsToItself 18 = .ok (.istore 5, 2) := by decide +kernel
theorem dX6_stepsToItself_20 : decode cX6_stepsToItself 20 = .ok (.iload 5, 2) := by decide +kernel
theorem dX6_stepsToItself_22 : decode cX6_stepsToItself 22 = .ok (.aload_n 0, 1) := by decide +kernel
theorem dX6_stepsToItself_23 : decode cX6_stepsToItself 23 = .ok (.getfield 36, 3) := by decide +kernel
theorem dX6_stepsToItself_26 : decode cX6_stepsToItself 26 = .ok (.if_icmp .ge 30, 3) := by decide +kernel
theorem dX6_stepsToItself_29 : decode cX6_stepsToItself 29 = .ok (.iload_n 2, 1) := by decide +kernel
theorem dX6_stepsToItself_30 : decode cX6_stepsToItself 30 = .ok (.iload 5, 2) := by decide +kernel
theorem dX6_stepsToItself_32 : decode cX6_stepsToItself 32 = .ok (.invokestatic 42, 3) := by decide +kernel
theorem dX6_stepsToItself_35 : decode cX6_stepsToItself 35 = .ok (.ifCond .eq 15, 3) := by decide +kernel
theorem dX6_stepsToItself_38 : decode cX6_stepsToItself 38 = .ok (.iload 4, 2) := by decide +kernel
theorem dX6_stepsToItself_40 : decode cX6_stepsToItself 40 = .ok (.aload_n 0, 1) := by decide +kernel
theorem dX6_stepsToItself_41 : decode cX6_stepsToItself 41 = .ok (.getfield 9, 3) := by decide +kernel
theorem dX6_stepsToItself_44 : decode cX6_stepsToItself 44 = .ok (.iload 5, 2) := by decide +kernel
theorem dX6_stepsToItself_46 : decode cX6_stepsToItself 46 = .ok (.iaload, 1) := by decide +kernel
theorem dX6_stepsToItself_47 : decode cX6_stepsToItself 47 = .ok (.ior, 1) := by decide +kernel
theorem dX6_stepsToItself_48 : decode cX6_stepsToItself 48 = .ok (.istore 4, 2) := by decide +kernel
theorem dX6_stepsToItself_50 : decode cX6_stepsToItself 50 = .ok (.iinc 5 1, 3) := by decide +kernel
theorem dX6_stepsToItself_53 : decode cX6_stepsToItself 53 = .ok (.goto (-33), 3) := by decide +kernel
theorem dX6_stepsToItself_56 : decode cX6_stepsToItself 56 = .ok (.iload 4, 2) := by decide +kernel
theorem dX6_stepsToItself_58 : decode cX6_stepsToItself 58 = .ok (.iload_n 1, 1) := by decide +kernel
theorem dX6_stepsToItself_59 : decode cX6_stepsToItself 59 = .ok (.invokestatic 42, 3) := by decide +kernel
theorem dX6_stepsToItself_62 : decode cX6_stepsToItself 62 = .ok (.ifCond .eq 5, 3) := by decide +kernel
theorem dX6_stepsToItself_65 : decode cX6_stepsToItself 65 = .ok (.iload_n 3, 1) := by decide +kernel
theorem dX6_stepsToItself_66 : decode cX6_stepsToItself 66 = .ok (.ireturn, 1) := by decide +kernel
theorem dX6_stepsToItself_67 : decode cX6_stepsToItself 67 = .ok (.iload 4, 2) := by decide +kernel
theorem dX6_stepsToItself_69 : decode cX6_stepsToItself 69 = .ok (.istore_n 2, 1) := by decide +kernel
theorem dX6_stepsToItself_70 : decode cX6_stepsToItself 70 = .ok (.iinc 3 1, 3) := by decide +kernel
theorem dX6_stepsToItself_73 : decode cX6_stepsToItself 73 = .ok (.goto (-67), 3) := by decide +kernel
theorem dX6_stepsToItself_76 : decode cX6_stepsToItself 76 = .ok (.iconst 0, 1) := by decide +kernel
theorem dX6_stepsToItself_77 : decode cX6_stepsToItself 77 = .ok (.ireturn, 1) := by decide +kernel
theorem dX6_firsts_0 : decode cX6_firsts 0 = .ok (.iconst 0, 1) := by decide +kernel
theorem dX6_firsts_1 : decode cX6_firsts 1 = .ok (.istore_n 1, 1) := by decide +kernel
theorem dX6_firsts_2 : decode cX6_firsts 2 = .ok (.iconst 0, 1) := by decide +kernel
theorem dX6_firsts_3 : decode cX6_firsts 3 = .ok (.istore_n 2, 1) := by decide +kernel
theorem dX6_firsts_4 : decode cX6_firsts 4 = .ok (.iload_n 2, 1) := by decide +kernel
theorem dX6_firsts_5 : decode cX6_firsts 5 = .ok (.aload_n 0, 1) := by decide +kernel
theorem dX6_firsts_6 : decode cX6_firsts 6 = .ok (.getfield 36, 3) := by decide +kernel
theorem dX6_firsts_9 : decode cX6_firsts 9 = .ok (.if_icmp .ge 24, 3) := by decide +kernel
theorem dX6_firsts_12 : decode cX6_firsts 12 = .ok (.aload_n 0, 1) := by decide +kernel
theorem dX6_firsts_13 : decode cX6_firsts 13 = .ok (.getfield 15, 3) := by decide +kernel
theorem dX6_firsts_16 : decode cX6_firsts 16 = .ok (.iload_n 2, 1) := by decide +kernel
theorem dX6_firsts_17 : decode cX6_firsts 17 = .ok (.iaload, 1) := by decide +kernel
theorem dX6_firsts_18 : decode cX6_firsts 18 = .ok (.ifCond .ne 9, 3) := by decide +kernel
theorem dX6_firsts_21 : decode cX6_firsts 21 = .ok (.iload_n 1, 1) := by decide +kernel
theorem dX6_firsts_22 : decode cX6_firsts 22 = .ok (.iconst 1, 1) := by decide +kernel
theorem dX6_firsts_23 : decode cX6_firsts 23 = .ok (.iload_n 2, 1) := by decide +kernel
theorem dX6_firsts_24 : decode cX6_firsts 24 = .ok (.ishl, 1) := by decide +kernel
theorem dX6_firsts_25 : decode cX6_firsts 25 = .ok (.ior, 1) := by decide +kernel
theorem dX6_firsts_26 : decode cX6_firsts 26 = .ok (.istore_n 1, 1) := by decide +kernel
theorem dX6_firsts_27 : decode cX6_firsts 27 = .ok (.iinc 2 1, 3) := by decide +kernel
theorem dX6_firsts_30 : decode cX6_firsts 30 = .ok (.goto (-26), 3) := by decide +kernel
theorem dX6_firsts_33 : decode cX6_firsts 33 = .ok (.iload_n 1, 1) := by decide +kernel
theorem dX6_firsts_34 : decode cX6_firsts 34 = .ok (.ireturn, 1) := by decide +kernel
theorem dX6_lasts_0 : decode cX6_lasts 0 = .ok (.iconst 0, 1) := by decide +kernel
theorem dX6_lasts_1 : decode cX6_lasts 1 = .ok (.istore_n 1, 1) := by decide +kernel
theorem dX6_lasts_2 : decode cX6_lasts 2 = .ok (.iconst 0, 1) := by decide +kernel
theorem dX6_lasts_3 : decode cX6_lasts 3 = .ok (.istore_n 2, 1) := by decide +kernel
theorem dX6_lasts_4 : decode cX6_lasts 4 = .ok (.iload_n 2, 1) := by decide +kernel
theorem dX6_lasts_5 : decode cX6_lasts 5 = .ok (.aload_n 0, 1) := by decide +kernel
theorem dX6_lasts_6 : decode cX6_lasts 6 = .ok (.getfield 36, 3) := by decide +kernel
theorem dX6_lasts_9 : decode cX6_lasts 9 = .ok (.if_icmp .ge 23, 3) := by decide +kernel
theorem dX6_lasts_12 : decode cX6_lasts 12 = .ok (.aload_n 0, 1) := by decide +kernel
theorem dX6_lasts_13 : decode cX6_lasts 13 = .ok (.iload_n 2, 1) := by decide +kernel
theorem dX6_lasts_14 : decode cX6_lasts 14 = .ok (.invokevirtual 57, 3) := by decide +kernel
theorem dX6_lasts_17 : decode cX6_lasts 17 = .ok (.ifCond .ne 9, 3) := by decide +kernel
theorem dX6_lasts_20 : decode cX6_lasts 20 = .ok (.iload_n 1, 1) := by decide +kernel
theorem dX6_lasts_21 : decode cX6_lasts 21 = .ok (.iconst 1, 1) := by decide +kernel
theorem dX6_lasts_22 : decode cX6_lasts 22 = .ok (.iload_n 2, 1) := by decide +kernel
theorem dX6_lasts_23 : decode cX6_lasts 23 = .ok (.ishl, 1) := by decide +kernel
theorem dX6_lasts_24 : decode cX6_lasts 24 = .ok (.ior, 1) := by decide +kernel
theorem dX6_lasts_25 : decode cX6_lasts 25 = .ok (.istore_n 1, 1) := by decide +kernel
theorem dX6_lasts_26 : decode cX6_lasts 26 = .ok (.iinc 2 1, 3) := by decide +kernel
theorem dX6_lasts_29 : decode cX6_lasts 29 = .ok (.goto (-25), 3) := by decide +kernel
theorem dX6_lasts_32 : decode cX6_lasts 32 = .ok (.iload_n 1, 1) := by decide +kernel
theorem dX6_lasts_33 : decode cX6_lasts 33 = .ok (.ireturn, 1) := by decide +kernel
theorem dX6_mayFollow_0 : decode cX6_mayFollow 0 = .ok (.iload_n 1, 1) := by decide +kernel
theorem dX6_mayFollow_1 : decode cX6_mayFollow 1 = .ok (.iload_n 2, 1) := by decide +kernel
theorem dX6_mayFollow_2 : decode cX6_mayFollow 2 = .ok (.invokestatic 42, 3) := by decide +kernel
theorem dX6_mayFollow_5 : decode cX6_mayFollow 5 = .ok (.ifCond .ne 20, 3) := by decide +kernel
theorem dX6_mayFollow_8 : decode cX6_mayFollow 8 = .ok (.aload_n 0, 1) := by decide +kernel
theorem dX6_mayFollow_9 : decode cX6_mayFollow 9 = .ok (.getfield 15, 3) := by decide +kernel
theorem dX6_mayFollow_12 : decode cX6_mayFollow 12 = .ok (.iload_n 2, 1) := by decide +kernel
theorem dX6_mayFollow_13 : decode cX6_mayFollow 13 = .ok (.iaload, 1) := by decide +kernel
theorem dX6_mayFollow_14 : decode cX6_mayFollow 14 = .ok (.iload_n 1, 1) := by decide +kernel
theorem dX6_mayFollow_15 : decode cX6_mayFollow 15 = .ok (.iconst (-1), 1) := by decide +kernel
theorem dX6_mayFollow_16 : decode cX6_mayFollow 16 = .ok (.ixor, 1) := by decide +kernel
theorem dX6_mayFollow_17 : decode cX6_mayFollow 17 = .ok (.iand, 1) := by decide +kernel
theorem dX6_mayFollow_18 : decode cX6_mayFollow 18 = .ok (.ifCond .ne 7, 3) := by decide +kernel
theorem dX6_mayFollow_21 : decode cX6_mayFollow 21 = .ok (.iconst 1, 1) := by decide +kernel
theorem dX6_mayFollow_22 : decode cX6_mayFollow 22 = .ok (.goto 4, 3) := by decide +kernel
theorem dX6_mayFollow_25 : decode cX6_mayFollow 25 = .ok (.iconst 0, 1) := by decide +kernel
theorem dX6_mayFollow_26 : decode cX6_mayFollow 26 = .ok (.ireturn, 1) := by decide +kernel
theorem dX6_countWays_0 : decode cX6_countWays 0 = .ok (.aload_n 0, 1) := by decide +kernel
theorem dX6_countWays_1 : decode cX6_countWays 1 = .ok (.getfield 46, 3) := by decide +kernel
theorem dX6_countWays_4 : decode cX6_countWays 4 = .ok (.ifCond .eq 4, 3) := by decide +kernel
theorem dX6_countWays_7 : decode cX6_countWays 7 = .ok (.return_, 1) := by decide +kernel
theorem dX6_countWays_8 : decode cX6_countWays 8 = .ok (.iconst 1, 1) := by decide +kernel
theorem dX6_countWays_9 : decode cX6_countWays 9 = .ok (.aload_n 0, 1) := by decide +kernel
theorem dX6_countWays_10 : decode cX6_countWays 10 = .ok (.getfield 36, 3) := by decide +kernel
theorem dX6_countWays_13 : decode cX6_countWays 13 = .ok (.ishl, 1) := by decide +kernel
theorem dX6_countWays_14 : decode cX6_countWays 14 = .ok (.iconst 1, 1) := by decide +kernel
theorem dX6_countWays_15 : decode cX6_countWays 15 = .ok (.isub, 1) := by decide +kernel
theorem dX6_countWays_16 : decode cX6_countWays 16 = .ok (.istore_n 1, 1) := by decide +kernel
theorem dX6_countWays_17 : decode cX6_countWays 17 = .ok (.iconst 0, 1) := by decide +kernel
theorem dX6_countWays_18 : decode cX6_countWays 18 = .ok (.istore_n 2, 1) := by decide +kernel
theorem dX6_countWays_19 : decode cX6_countWays 19 = .ok (.iload_n 2, 1) := by decide +kernel
theorem dX6_countWays_20 : decode cX6_countWays 20 = .ok (.iload_n 1, 1) := by decide +kernel
theorem dX6_countWays_21 : decode cX6_countWays 21 = .ok (.if_icmp .gt 23, 3) := by decide +kernel
theorem dX6_countWays_24 : decode cX6_countWays 24 = .ok (.aload_n 0, 1) := by decide +kernel
theorem dX6_countWays_25 : decode cX6_countWays 25 = .ok (.getfield 18, 3) := by decide +kernel
theorem dX6_countWays_28 : decode cX6_countWays 28 = .ok (.iload_n 2, 1) := by decide +kernel
theorem dX6_countWays_29 : decode cX6_countWays 29 = .ok (.iconst 0, 1) := by decide +kernel
theorem dX6_countWays_30 : decode cX6_countWays 30 = .ok (.iastore, 1) := by decide +kernel
theorem dX6_countWays_31 : decode cX6_countWays 31 = .ok (.aload_n 0, 1) := by decide +kernel
theorem dX6_countWays_32 : decode cX6_countWays 32 = .ok (.getfield 21, 3) := by decide +kernel
theorem dX6_countWays_35 : decode cX6_countWays 35 = .ok (.iload_n 2, 1) := by decide +kernel
theorem dX6_countWays_36 : decode cX6_countWays 36 = .ok (.iconst 0, 1) := by decide +kernel
theorem dX6_countWays_37 : decode cX6_countWays 37 = .ok (.iastore, 1) := by decide +kernel
theorem dX6_countWays_38 : decode cX6_countWays 38 = .ok (.iinc 2 1, 3) := by decide +kernel
theorem dX6_countWays_41 : decode cX6_countWays 41 = .ok (.goto (-22), 3) := by decide +kernel
theorem dX6_countWays_44 : decode cX6_countWays 44 = .ok (.aload_n 0, 1) := by decide +kernel
theorem dX6_countWays_45 : decode cX6_countWays 45 = .ok (.getfield 18, 3) := by decide +kernel
theorem dX6_countWays_48 : decode cX6_countWays 48 = .ok (.iconst 0, 1) := by decide +kernel
theorem dX6_countWays_49 : decode cX6_countWays 49 = .ok (.iconst 1, 1) := by decide +kernel
theorem dX6_countWays_50 : decode cX6_countWays 50 = .ok (.iastore, 1) := by decide +kernel
theorem dX6_countWays_51 : decode cX6_countWays 51 = .ok (.iconst 0, 1) := by decide +kernel
theorem dX6_countWays_52 : decode cX6_countWays 52 = .ok (.istore_n 2, 1) := by decide +kernel
theorem dX6_countWays_53 : decode cX6_countWays 53 = .ok (.iload_n 2, 1) := by decide +kernel
theorem dX6_countWays_54 : decode cX6_countWays 54 = .ok (.iload_n 1, 1) := by decide +kernel
theorem dX6_countWays_55 : decode cX6_countWays 55 = .ok (.if_icmp .gt 62, 3) := by decide +kernel
theorem dX6_countWays_58 : decode cX6_countWays 58 = .ok (.iconst 0, 1) := by decide +kernel
theorem dX6_countWays_59 : decode cX6_countWays 59 = .ok (.istore_n 3, 1) := by decide +kernel
theorem dX6_countWays_60 : decode cX6_countWays 60 = .ok (.iload_n 3, 1) := by decide +kernel
theorem dX6_countWays_61 : decode cX6_countWays 61 = .ok (.aload_n 0, 1) := by decide +kernel
theorem dX6_countWays_62 : decode cX6_countWays 62 = .ok (.getfield 36, 3) := by decide +kernel
theorem dX6_countWays_65 : decode cX6_countWays 65 = .ok (.if_icmp .ge 46, 3) := by decide +kernel
theorem dX6_countWays_68 : decode cX6_countWays 68 = .ok (.aload_n 0, 1) := by decide +kernel
theorem dX6_countWays_69 : decode cX6_countWays 69 = .ok (.getfield 18, 3) := by decide +kernel
theorem dX6_countWays_72 : decode cX6_countWays 72 = .ok (.iload_n 2, 1) := by decide +kernel
theorem dX6_countWays_73 : decode cX6_countWays 73 = .ok (.iaload, 1) := by decide +kernel
theorem dX6_countWays_74 : decode cX6_countWays 74 = .ok (.ifCond .le 37, 3) := by decide +kernel
theorem dX6_countWays_77 : decode cX6_countWays 77 = .ok (.aload_n 0, 1) := by decide +kernel
theorem dX6_countWays_78 : decode cX6_countWays 78 = .ok (.iload_n 2, 1) := by decide +kernel
theorem dX6_countWays_79 : decode cX6_countWays 79 = .ok (.iload_n 3, 1) := by decide +kernel
theorem dX6_countWays_80 : decode cX6_countWays 80 = .ok (.invokevirtual 60, 3) := by decide +kernel
theorem dX6_countWays_83 : decode cX6_countWays 83 = .ok (.ifCond .eq 22, 3) := by decide +kernel
theorem dX6_countWays_86 : decode cX6_countWays 86 = .ok (.aload_n 0, 1) := by decide +kernel
theorem dX6_countWays_87 : decode cX6_countWays 87 = .ok (.getfield 18, 3) := by decide +kernel
theorem dX6_countWays_90 : decode cX6_countWays 90 = .ok (.iload_n 2, 1) := by decide +kernel
theorem dX6_countWays_91 : decode cX6_countWays 91 = .ok (.iconst 1, 1) := by decide +kernel
theorem dX6_countWays_92 : decode cX6_countWays 92 = .ok (.iload_n 3, 1) := by decide +kernel
theorem dX6_countWays_93 : decode cX6_countWays 93 = .ok (.ishl, 1) := by decide +kernel
theorem dX6_countWays_94 : decode cX6_countWays 94 = .ok (.ior, 1) := by decide +kernel
theorem dX6_countWays_95 : decode cX6_countWays 95 = .ok (.dup2, 1) := by decide +kernel
theorem dX6_countWays_96 : decode cX6_countWays 96 = .ok (.iaload, 1) := by decide +kernel
theorem dX6_countWays_97 : decode cX6_countWays 97 = .ok (.aload_n 0, 1) := by decide +kernel
theorem dX6_countWays_98 : decode cX6_countWays 98 = .ok (.getfield 18, 3) := by decide +kernel
theorem dX6_countWays_101 : decode cX6_countWays 101 = .ok (.iload_n 2, 1) := by decide +kernel
theorem dX6_countWays_102 : decode cX6_countWays 102 = .ok (.iaload, 1) := by decide +kernel
theorem dX6_countWays_103 : decode cX6_countWays 103 = .ok (.iadd, 1) := by decide +kernel
theorem dX6_countWays_104 : decode cX6_countWays 104 = .ok (.iastore, 1) := by decide +kernel
theorem dX6_countWays_105 : decode cX6_countWays 105 = .ok (.iinc 3 1, 3) := by decide +kernel
theorem dX6_countWays_108 : decode cX6_countWays 108 = .ok (.goto (-48), 3) := by decide +kernel
theorem dX6_countWays_111 : decode cX6_countWays 111 = .ok (.iinc 2 1, 3) := by decide +kernel
theorem dX6_countWays_114 : decode cX6_countWays 114 = .ok (.goto (-61), 3) := by decide +kernel
theorem dX6_countWays_117 : decode cX6_countWays 117 = .ok (.aload_n 0, 1) := by decide +kernel
theorem dX6_countWays_118 : decode cX6_countWays 118 = .ok (.getfield 21, 3) := by decide +kernel
theorem dX6_countWays_121 : decode cX6_countWays 121 = .ok (.iload_n 1, 1) := by decide +kernel
theorem dX6_countWays_122 : decode cX6_countWays 122 = .ok (.iconst 1, 1) := by decide +kernel
theorem dX6_countWays_123 : decode cX6_countWays 123 = .ok (.iastore, 1) := by decide +kernel
theorem dX6_countWays_124 : decode cX6_countWays 124 = .ok (.iload_n 1, 1) := by decide +kernel
theorem dX6_countWays_125 : decode cX6_countWays 125 = .ok (.iconst 1, 1) := by decide +kernel
theorem dX6_countWays_126 : decode cX6_countWays 126 = .ok (.isub, 1) := by decide +kernel
theorem dX6_countWays_127 : decode cX6_countWays 127 = .ok (.istore_n 2, 1) := by decide +kernel
theorem dX6_countWays_128 : decode cX6_countWays 128 = .ok (.iload_n 2, 1) := by decide +kernel
theorem dX6_countWays_129 : decode cX6_countWays 129 = .ok (.ifCond .lt 62, 3) := by decide +kernel
theorem dX6_countWays_132 : decode cX6_countWays 132 = .ok (.iconst 0, 1) := by decide +kernel
theorem dX6_countWays_133 : decode cX6_countWays 133 = .ok (.istore_n 3, 1) := by decide +kernel
theorem dX6_countWays_134 : decode cX6_countWays 134 = .ok (.iload_n 3, 1) := by decide +kernel
theorem dX6_countWays_135 : decode cX6_countWays 135 = .ok (.aload_n 0, 1) := by decide +kernel
theorem dX6_countWays_136 : decode cX6_countWays 136 = .ok (.getfield 36, 3) := by decide +kernel
theorem dX6_countWays_139 : decode cX6_countWays 139 = .ok (.if_icmp .ge 46, 3) := by decide +kernel
theorem dX6_countWays_142 : decode cX6_countWays 142 = .ok (.aload_n 0, 1) := by decide +kernel
theorem dX6_countWays_143 : decode cX6_countWays 143 = .ok (.getfield 18, 3) := by decide +kernel
theorem dX6_countWays_146 : decode cX6_countWays 146 = .ok (.iload_n 2, 1) := by decide +kernel
theorem dX6_countWays_147 : decode cX6_countWays 147 = .ok (.iaload, 1) := by decide +kernel
theorem dX6_countWays_148 : decode cX6_countWays 148 = .ok (.ifCond .le 37, 3) := by decide +kernel
theorem dX6_countWays_151 : decode cX6_countWays 151 = .ok (.aload_n 0, 1) := by decide +kernel
theorem dX6_countWays_152 : decode cX6_countWays 152 = .ok (.iload_n 2, 1) := by decide +kernel
theorem dX6_countWays_153 : decode cX6_countWays 153 = .ok (.iload_n 3, 1) := by decide +kernel
theorem dX6_countWays_154 : decode cX6_countWays 154 = .ok (.invokevirtual 60, 3) := by decide +kernel
theorem dX6_countWays_157 : decode cX6_countWays 157 = .ok (.ifCond .eq 22, 3) := by decide +kernel
theorem dX6_countWays_160 : decode cX6_countWays 160 = .ok (.aload_n 0, 1) := by decide +kernel
theorem dX6_countWays_161 : decode cX6_countWays 161 = .ok (.getfield 21, 3) := by decide +kernel
theorem dX6_countWays_164 : decode cX6_countWays 164 = .ok (.iload_n 2, 1) := by decide +kernel
theorem dX6_countWays_165 : decode cX6_countWays 165 = .ok (.dup2, 1) := by decide +kernel
theorem dX6_countWays_166 : decode cX6_countWays 166 = .ok (.iaload, 1) := by decide +kernel
theorem dX6_countWays_167 : decode cX6_countWays 167 = .ok (.aload_n 0, 1) := by decide +kernel
theorem dX6_countWays_168 : decode cX6_countWays 168 = .ok (.getfield 21, 3) := by decide +kernel
theorem dX6_countWays_171 : decode cX6_countWays 171 = .ok (.iload_n 2, 1) := by decide +kernel
theorem dX6_countWays_172 : decode cX6_countWays 172 = .ok (.iconst 1, 1) := by decide +kernel
theorem dX6_countWays_173 : decode cX6_countWays 173 = .ok (.iload_n 3, 1) := by decide +kernel
theorem dX6_countWays_174 : decode cX6_countWays 174 = .ok (.ishl, 1) := by decide +kernel
theorem dX6_countWays_175 : decode cX6_countWays 175 = .ok (.ior, 1) := by decide +kernel
theorem dX6_countWays_176 : decode cX6_countWays 176 = .ok (.iaload, 1) := by decide +kernel
theorem dX6_countWays_177 : decode cX6_countWays 177 = .ok (.iadd, 1) := by decide +kernel
theorem dX6_countWays_178 : decode cX6_countWays 178 = .ok (.iastore, 1) := by decide +kernel
theorem dX6_countWays_179 : decode cX6_countWays 179 = .ok (.iinc 3 1, 3) := by decide +kernel
theorem dX6_countWays_182 : decode cX6_countWays 182 = .ok (.goto (-48), 3) := by decide +kernel
theorem dX6_countWays_185 : decode cX6_countWays 185 = .ok (.iinc 2 (-1), 3) := by decide +kernel
theorem dX6_countWays_188 : decode cX6_countWays 188 = .ok (.goto (-60), 3) := by decide +kernel
theorem dX6_countWays_191 : decode cX6_countWays 191 = .ok (.aload_n 0, 1) := by decide +kernel
theorem dX6_countWays_192 : decode cX6_countWays 192 = .ok (.iconst 1, 1) := by decide +kernel
theorem dX6_countWays_193 : decode cX6_countWays 193 = .ok (.putfield 46, 3) := by decide +kernel
theorem dX6_countWays_196 : decode cX6_countWays 196 = .ok (.return_, 1) := by decide +kernel
theorem dX6_allOrders_0 : decode cX6_allOrders 0 = .ok (.aload_n 0, 1) := by decide +kernel
theorem dX6_allOrders_1 : decode cX6_allOrders 1 = .ok (.invokevirtual 63, 3) := by decide +kernel
theorem dX6_allOrders_4 : decode cX6_allOrders 4 = .ok (.aload_n 0, 1) := by decide +kernel
theorem dX6_allOrders_5 : decode cX6_allOrders 5 = .ok (.getfield 21, 3) := by decide +kernel
theorem dX6_allOrders_8 : decode cX6_allOrders 8 = .ok (.iconst 0, 1) := by decide +kernel
theorem dX6_allOrders_9 : decode cX6_allOrders 9 = .ok (.iaload, 1) := by decide +kernel
theorem dX6_allOrders_10 : decode cX6_allOrders 10 = .ok (.i2l, 1) := by decide +kernel
theorem dX6_allOrders_11 : decode cX6_allOrders 11 = .ok (.lreturn, 1) := by decide +kernel
theorem dX6_ordersWith_0 : decode cX6_ordersWith 0 = .ok (.aload_n 0, 1) := by decide +kernel
theorem dX6_ordersWith_1 : decode cX6_ordersWith 1 = .ok (.invokevirtual 63, 3) := by decide +kernel
theorem dX6_ordersWith_4 : decode cX6_ordersWith 4 = .ok (.iload_n 2, 1) := by decide +kernel
theorem dX6_ordersWith_5 : decode cX6_ordersWith 5 = .ok (.iconst 0, 1) := by decide +kernel
theorem dX6_ordersWith_6 : decode cX6_ordersWith 6 = .ok (.aload_n 0, 1) := by decide +kernel
theorem dX6_ordersWith_7 : decode cX6_ordersWith 7 = .ok (.getfield 36, 3) := by decide +kernel
theorem dX6_ordersWith_10 : decode cX6_ordersWith 10 = .ok (.iconst 1, 1) := by decide +kernel
theorem dX6_ordersWith_11 : decode cX6_ordersWith 11 = .ok (.isub, 1) := by decide +kernel
theorem dX6_ordersWith_12 : decode cX6_ordersWith 12 = .ok (.invokestatic 50, 3) := by decide +kernel
theorem dX6_ordersWith_15 : decode cX6_ordersWith 15 = .ok (.ifCond .ne 5, 3) := by decide +kernel
theorem dX6_ordersWith_18 : decode cX6_ordersWith 18 = .ok (.lconst 0, 1) := by decide +kernel
theorem dX6_ordersWith_19 : decode cX6_ordersWith 19 = .ok (.lreturn, 1) := by decide +kernel
theorem dX6_ordersWith_20 : decode cX6_ordersWith 20 = .ok (.lconst 0, 1) := by decide +kernel
theorem dX6_ordersWith_21 : decode cX6_ordersWith 21 = .ok (.lstore_n 3, 1) := by decide +kernel
theorem dX6_ordersWith_22 : decode cX6_ordersWith 22 = .ok (.iconst 0, 1) := by decide +kernel
theorem dX6_ordersWith_23 : decode cX6_ordersWith 23 = .ok (.istore 5, 2) := by decide +kernel
theorem dX6_ordersWith_25 : decode cX6_ordersWith 25 = .ok (.iload 5, 2) := by decide +kernel
theorem dX6_ordersWith_27 : decode cX6_ordersWith 27 = .ok (.iconst 1, 1) := by decide +kernel
theorem dX6_ordersWith_28 : decode cX6_ordersWith 28 = .ok (.aload_n 0, 1) := by decide +kernel
theorem dX6_ordersWith_29 : decode cX6_ordersWith 29 = .ok (.getfield 36, 3) := by decide +kernel
theorem dX6_ordersWith_32 : decode cX6_ordersWith 32 = .ok (.ishl, 1) := by decide +kernel
theorem dX6_ordersWith_33 : decode cX6_ordersWith 33 = .ok (.if_icmp .ge 62, 3) := by decide +kernel
theorem dX6_ordersWith_36 : decode cX6_ordersWith 36 = .ok (.aload_n 0, 1) := by decide +kernel
theorem dX6_ordersWith_37 : decode cX6_ordersWith 37 = .ok (.getfield 18, 3) := by decide +kernel
theorem dX6_ordersWith_40 : decode cX6_ordersWith 40 = .ok (.iload 5, 2) := by decide +kernel
theorem dX6_ordersWith_42 : decode cX6_ordersWith 42 = .ok (.iaload, 1) := by decide +kernel
theorem dX6_ordersWith_43 : decode cX6_ordersWith 43 = .ok (.ifCond .le 46, 3) := by decide +kernel
theorem dX6_ordersWith_46 : decode cX6_ordersWith 46 = .ok (.iload 5, 2) := by decide +kernel
theorem dX6_ordersWith_48 : decode cX6_ordersWith 48 = .ok (.iload_n 1, 1) := by decide +kernel
theorem dX6_ordersWith_49 : decode cX6_ordersWith 49 = .ok (.invokestatic 42, 3) := by decide +kernel
theorem dX6_ordersWith_52 : decode cX6_ordersWith 52 = .ok (.ifCond .eq 37, 3) := by decide +kernel
theorem dX6_ordersWith_55 : decode cX6_ordersWith 55 = .ok (.aload_n 0, 1) := by decide +kernel
theorem dX6_ordersWith_56 : decode cX6_ordersWith 56 = .ok (.iload 5, 2) := by decide +kernel
theorem dX6_ordersWith_58 : decode cX6_ordersWith 58 = .ok (.iload_n 2, 1) := by decide +kernel
theorem dX6_ordersWith_59 : decode cX6_ordersWith 59 = .ok (.invokevirtual 60, 3) := by decide +kernel
theorem dX6_ordersWith_62 : decode cX6_ordersWith 62 = .ok (.ifCond .eq 27, 3) := by decide +kernel
theorem dX6_ordersWith_65 : decode cX6_ordersWith 65 = .ok (.lload_n 3, 1) := by decide +kernel
theorem dX6_ordersWith_66 : decode cX6_ordersWith 66 = .ok (.aload_n 0, 1) := by decide +kernel
theorem dX6_ordersWith_67 : decode cX6_ordersWith 67 = .ok (.getfield 18, 3) := by decide +kernel
theorem dX6_ordersWith_70 : decode cX6_ordersWith 70 = .ok (.iload 5, 2) := by decide +kernel
theorem dX6_ordersWith_72 : decode cX6_ordersWith 72 = .ok (.iaload, 1) := by decide +kernel
theorem dX6_ordersWith_73 : decode cX6_ordersWith 73 = .ok (.i2l, 1) := by decide +kernel
theorem dX6_ordersWith_74 : decode cX6_ordersWith 74 = .ok (.aload_n 0, 1) := by decide +kernel
theorem dX6_ordersWith_75 : decode cX6_ordersWith 75 = .ok (.getfield 21, 3) := by decide +kernel
theorem dX6_ordersWith_78 : decode cX6_ordersWith 78 = .ok (.iload 5, 2) := by decide +kernel
theorem dX6_ordersWith_80 : decode cX6_ordersWith 80 = .ok (.iconst 1, 1) := by decide +kernel
theorem dX6_ordersWith_81 : decode cX6_ordersWith 81 = .ok (.iload_n 2, 1) := by decide +kernel
theorem dX6_ordersWith_82 : decode cX6_ordersWith 82 = .ok (.ishl, 1) := by decide +kernel
theorem dX6_ordersWith_83 : decode cX6_ordersWith 83 = .ok (.ior, 1) := by decide +kernel
theorem dX6_ordersWith_84 : decode cX6_ordersWith 84 = .ok (.iaload, 1) := by decide +kernel
theorem dX6_ordersWith_85 : decode cX6_ordersWith 85 = .ok (.i2l, 1) := by decide +kernel
theorem dX6_ordersWith_86 : decode cX6_ordersWith 86 = .ok (.lmul, 1) := by decide +kernel
theorem dX6_ordersWith_87 : decode cX6_ordersWith 87 = .ok (.ladd, 1) := by decide +kernel
theorem dX6_ordersWith_88 : decode cX6_ordersWith 88 = .ok (.lstore_n 3, 1) := by decide +kernel
theorem dX6_ordersWith_89 : decode cX6_ordersWith 89 = .ok (.iinc 5 1, 3) := by decide +kernel
theorem dX6_ordersWith_92 : decode cX6_ordersWith 92 = .ok (.goto (-67), 3) := by decide +kernel
theorem dX6_ordersWith_95 : decode cX6_ordersWith 95 = .ok (.lload_n 3, 1) := by decide +kernel
theorem dX6_ordersWith_96 : decode cX6_ordersWith 96 = .ok (.lreturn, 1) := by decide +kernel
theorem dX6_thingAt_0 : decode cX6_thingAt 0 = .ok (.aload_n 0, 1) := by decide +kernel
theorem dX6_thingAt_1 : decode cX6_thingAt 1 = .ok (.invokevirtual 63, 3) := by decide +kernel
theorem dX6_thingAt_4 : decode cX6_thingAt 4 = .ok (.lload_n 1, 1) := by decide +kernel
theorem dX6_thingAt_5 : decode cX6_thingAt 5 = .ok (.lstore 4, 2) := by decide +kernel
theorem dX6_thingAt_7 : decode cX6_thingAt 7 = .ok (.iconst 0, 1) := by decide +kernel
theorem dX6_thingAt_8 : decode cX6_thingAt 8 = .ok (.istore 6, 2) := by decide +kernel
theorem dX6_thingAt_10 : decode cX6_thingAt 10 = .ok (.iconst (-1), 1) := by decide +kernel
theorem dX6_thingAt_11 : decode cX6_thingAt 11 = .ok (.istore 7, 2) := by decide +kernel
theorem dX6_thingAt_13 : decode cX6_thingAt 13 = .ok (.iconst 0, 1) := by decide +kernel
theorem dX6_thingAt_14 : decode cX6_thingAt 14 = .ok (.istore 8, 2) := by decide +kernel
theorem dX6_thingAt_16 : decode cX6_thingAt 16 = .ok (.iload 8, 2) := by decide +kernel
theorem dX6_thingAt_18 : decode cX6_thingAt 18 = .ok (.iload_n 3, 1) := by decide +kernel
theorem dX6_thingAt_19 : decode cX6_thingAt 19 = .ok (.if_icmp .gt 109, 3) := by decide +kernel
theorem dX6_thingAt_22 : decode cX6_thingAt 22 = .ok (.iload 8, 2) := by decide +kernel
theorem dX6_thingAt_24 : decode cX6_thingAt 24 = .ok (.aload_n 0, 1) := by decide +kernel
theorem dX6_thingAt_25 : decode cX6_thingAt 25 = .ok (.getfield 36, 3) := by decide +kernel
theorem dX6_thingAt_28 : decode cX6_thingAt 28 = .ok (.if_icmp .ge 100, 3) := by decide +kernel
theorem dX6_thingAt_31 : decode cX6_thingAt 31 = .ok (.iconst (-1), 1) := by decide +kernel
theorem dX6_thingAt_32 : decode cX6_thingAt 32 = .ok (.istore 7, 2) := by decide +kernel
theorem dX6_thingAt_34 : decode cX6_thingAt 34 = .ok (.iconst 0, 1) := by decide +kernel
theorem dX6_thingAt_35 : decode cX6_thingAt 35 = .ok (.istore 9, 2) := by decide +kernel
theorem dX6_thingAt_37 : decode cX6_thingAt 37 = .ok (.iload 9, 2) := by decide +kernel
theorem dX6_thingAt_39 : decode cX6_thingAt 39 = .ok (.aload_n 0, 1) := by decide +kernel
theorem dX6_thingAt_40 : decode cX6_thingAt 40 = .ok (.getfield 36, 3) := by decide +kernel
theorem dX6_thingAt_43 : decode cX6_thingAt 43 = .ok (.if_icmp .ge 63, 3) := by decide +kernel
theorem dX6_thingAt_46 : decode cX6_thingAt 46 = .ok (.iload 7, 2) := by decide +kernel
theorem dX6_thingAt_48 : decode cX6_thingAt 48 = .ok (.ifCond .ge 58, 3) := by decide +kernel
theorem dX6_thingAt_51 : decode cX6_thingAt 51 = .ok (.aload_n 0, 1) := by decide +kernel
theorem dX6_thingAt_52 : decode cX6_thingAt 52 = .ok (.iload 6, 2) := by decide +kernel
theorem dX6_thingAt_54 : decode cX6_thingAt 54 = .ok (.iload 9, 2) := by decide +kernel
theorem dX6_thingAt_56 : decode cX6_thingAt 56 = .ok (.invokevirtual 60, 3) := by decide +kernel
theorem dX6_thingAt_59 : decode cX6_thingAt 59 = .ok (.ifCond .eq 41, 3) := by decide +kernel
theorem dX6_thingAt_62 : decode cX6_thingAt 62 = .ok (.aload_n 0, 1) := by decide +kernel
theorem dX6_thingAt_63 : decode cX6_thingAt 63 = .ok (.getfield 21, 3) := by decide +kernel
theorem dX6_thingAt_66 : decode cX6_thingAt 66 = .ok (.iload 6, 2) := by decide +kernel
theorem dX6_thingAt_68 : decode cX6_thingAt 68 = .ok (.iconst 1, 1) := by decide +kernel
theorem dX6_thingAt_69 : decode cX6_thingAt 69 = .ok (.iload 9, 2) := by decide +kernel
theorem dX6_thingAt_71 : decode cX6_thingAt 71 = .ok (.ishl, 1) := by decide +kernel
theorem dX6_thingAt_72 : decode cX6_thingAt 72 = .ok (.ior, 1) := by decide +kernel
theorem dX6_thingAt_73 : decode cX6_thingAt 73 = .ok (.iaload, 1) := by decide +kernel
theorem dX6_thingAt_74 : decode cX6_thingAt 74 = .ok (.istore 10, 2) := by decide +kernel
theorem dX6_thingAt_76 : decode cX6_thingAt 76 = .ok (.lload 4, 2) := by decide +kernel
theorem dX6_thingAt_78 : decode cX6_thingAt 78 = .ok (.iload 10, 2) := by decide +kernel
theorem dX6_thingAt_80 : decode cX6_thingAt 80 = .ok (.i2l, 1) := by decide +kernel
theorem dX6_thingAt_81 : decode cX6_thingAt 81 = .ok (.lcmp, 1) := by decide +kernel
theorem dX6_thingAt_82 : decode cX6_thingAt 82 = .ok (.ifCond .ge 10, 3) := by decide +kernel
theorem dX6_thingAt_85 : decode cX6_thingAt 85 = .ok (.iload 9, 2) := by decide +kernel
theorem dX6_thingAt_87 : decode cX6_thingAt 87 = .ok (.istore 7, 2) := by decide +kernel
theorem dX6_thingAt_89 : decode cX6_thingAt 89 = .ok (.goto 11, 3) := by decide +kernel
theorem dX6_thingAt_92 : decode cX6_thingAt 92 = .ok (.lload 4, 2) := by decide +kernel
theorem dX6_thingAt_94 : decode cX6_thingAt 94 = .ok (.iload 10, 2) := by decide +kernel
theorem dX6_thingAt_96 : decode cX6_thingAt 96 = .ok (.i2l, 1) := by decide +kernel
theorem dX6_thingAt_97 : decode cX6_thingAt 97 = .ok (.lsub, 1) := by decide +kernel
theorem dX6_thingAt_98 : decode cX6_thingAt 98 = .ok (.lstore 4, 2) := by decide +kernel
theorem dX6_thingAt_100 : decode cX6_thingAt 100 = .ok (.iinc 9 1, 3) := by decide +kernel
theorem dX6_thingAt_103 : decode cX6_thingAt 103 = .ok (.goto (-66), 3) := by decide +kernel
theorem dX6_thingAt_106 : decode cX6_thingAt 106 = .ok (.iload 7, 2) := by decide +kernel
theorem dX6_thingAt_108 : decode cX6_thingAt 108 = .ok (.ifCond .ge 5, 3) := by decide +kernel
theorem dX6_thingAt_111 : decode cX6_thingAt 111 = .ok (.iconst (-1), 1) := by decide +kernel
theorem dX6_thingAt_112 : decode cX6_thingAt 112 = .ok (.ireturn, 1) := by decide +kernel
theorem dX6_thingAt_113 : decode cX6_thingAt 113 = .ok (.iload 6, 2) := by decide +kernel
theorem dX6_thingAt_115 : decode cX6_thingAt 115 = .ok (.iconst 1, 1) := by decide +kernel
theorem dX6_thingAt_116 : decode cX6_thingAt 116 = .ok (.iload 7, 2) := by decide +kernel
theorem dX6_thingAt_118 : decode cX6_thingAt 118 = .ok (.ishl, 1) := by decide +kernel
theorem dX6_thingAt_119 : decode cX6_thingAt 119 = .ok (.ior, 1) := by decide +kernel
theorem dX6_thingAt_120 : decode cX6_thingAt 120 = .ok (.istore 6, 2) := by decide +kernel
theorem dX6_thingAt_122 : decode cX6_thingAt 122 = .ok (.iinc 8 1, 3) := by decide +kernel
theorem dX6_thingAt_125 : decode cX6_thingAt 125 = .ok (.goto (-109), 3) := by decide +kernel
theorem dX6_thingAt_128 : decode cX6_thingAt 128 = .ok (.iload 7, 2) := by decide +kernel
theorem dX6_thingAt_130 : decode cX6_thingAt 130 = .ok (.ireturn, 1) := by decide +kernel
theorem dX7_init_0 : decode cX7_init 0 = .ok (.aload_n 0, 1) := by decide +kernel
theorem dX7_init_1 : decode cX7_init 1 = .ok (.invokespecial 3, 3) := by decide +kernel
theorem dX7_init_4 : decode cX7_init 4 = .ok (.aload_n 0, 1) := by decide +kernel
theorem dX7_init_5 : decode cX7_init 5 = .ok (.bipush 64, 2) := by decide +kernel
theorem dX7_init_7 : decode cX7_init 7 = .ok (.newarray .int, 2) := by decide +kernel
theorem dX7_init_9 : decode cX7_init 9 = .ok (.putfield 9, 3) := by decide +kernel
theorem dX7_init_12 : decode cX7_init 12 = .ok (.return_, 1) := by decide +kernel
theorem dX7_isLane_0 : decode cX7_isLane 0 = .ok (.iload_n 0, 1) := by decide +kernel
theorem dX7_isLane_1 : decode cX7_isLane 1 = .ok (.iconst 0, 1) := by decide +kernel
theorem dX7_isLane_2 : decode cX7_isLane 2 = .ok (.iconst 2, 1) := by decide +kernel
theorem dX7_isLane_3 : decode cX7_isLane 3 = .ok (.invokestatic 15, 3) := by decide +kernel
theorem dX7_isLane_6 : decode cX7_isLane 6 = .ok (.ireturn, 1) := by decide +kernel
theorem dX7_isThere_0 : decode cX7_isThere 0 = .ok (.aload_n 0, 1) := by decide +kernel
theorem dX7_isThere_1 : decode cX7_isThere 1 = .ok (.getfield 19, 3) := by decide +kernel
theorem dX7_isThere_4 : decode cX7_isThere 4 = .ok (.ireturn, 1) := by decide +kernel
theorem dX7_length_0 : decode cX7_length 0 = .ok (.aload_n 0, 1) := by decide +kernel
theorem dX7_length_1 : decode cX7_length 1 = .ok (.getfield 23, 3) := by decide +kernel
theorem dX7_length_4 : decode cX7_length 4 = .ok (.ireturn, 1) := by decide +kernel
theorem dX7_renew_0 : decode cX7_renew 0 = .ok (.aload_n 0, 1) := by decide +kernel
theorem dX7_renew_1 : decode cX7_renew 1 = .ok (.getfield 9, 3) := by decide +kernel
theorem dX7_renew_4 : decode cX7_renew 4 = .ok (.iconst 0, 1) := by decide +kernel
theorem dX7_renew_5 : decode cX7_renew 5 = .ok (.invokestatic 27, 3) := by decide +kernel
theorem dX7_renew_8 : decode cX7_renew 8 = .ok (.aload_n 0, 1) := by decide +kernel
theorem dX7_renew_9 : decode cX7_renew 9 = .ok (.iconst 1, 1) := by decide +kernel
theorem dX7_renew_10 : decode cX7_renew 10 = .ok (.putfield 19, 3) := by decide +kernel
theorem dX7_renew_13 : decode cX7_renew 13 = .ok (.aload_n 0, 1) := by decide +kernel
theorem dX7_renew_14 : decode cX7_renew 14 = .ok (.iload_n 1, 1) := by decide +kernel
theorem dX7_renew_15 : decode cX7_renew 15 = .ok (.putfield 33, 3) := by decide +kernel
theorem dX7_renew_18 : decode cX7_renew 18 = .ok (.aload_n 0, 1) := by decide +kernel
theorem dX7_renew_19 : decode cX7_renew 19 = .ok (.iconst 0, 1) := by decide +kernel
theorem dX7_renew_20 : decode cX7_renew 20 = .ok (.iload_n 2, 1) := by decide +kernel
theorem dX7_renew_21 : decode cX7_renew 21 = .ok (.bipush 64, 2) := by decide +kernel
theorem dX7_renew_23 : decode cX7_renew 23 = .ok (.invokestatic 36, 3) := by decide +kernel
theorem dX7_renew_26 : decode cX7_renew 26 = .ok (.invokestatic 42, 3) := by decide +kernel
theorem dX7_renew_29 : decode cX7_renew 29 = .ok (.putfield 23, 3) := by decide +kernel
theorem dX7_renew_32 : decode cX7_renew 32 = .ok (.return_, 1) := by decide +kernel
theorem dX7_faultOf_0 : decode cX7_faultOf 0 = .ok (.aload_n 0, 1) := by decide +kernel
theorem dX7_faultOf_1 : decode cX7_faultOf 1 = .ok (.getfield 19, 3) := by decide +kernel
theorem dX7_faultOf_4 : decode cX7_faultOf 4 = .ok (.ifCond .ne 5, 3) := by decide +kernel
theorem dX7_faultOf_7 : decode cX7_faultOf 7 = .ok (.iconst 1, 1) := by decide +kernel
theorem dX7_faultOf_8 : decode cX7_faultOf 8 = .ok (.ireturn, 1) := by decide +kernel
theorem dX7_faultOf_9 : decode cX7_faultOf 9 = .ok (.iload_n 1, 1) := by decide +kernel
theorem dX7_faultOf_10 : decode cX7_faultOf 10 = .ok (.iconst 0, 1) := by decide +kernel
theorem dX7_faultOf_11 : decode cX7_faultOf 11 = .ok (.aload_n 0, 1) := by decide +kernel
theorem dX7_faultOf_12 : decode cX7_faultOf 12 = .ok (.getfield 23, 3) := by decide +kernel
theorem dX7_faultOf_15 : decode cX7_faultOf 15 = .ok (.iconst 1, 1) := by decide +kernel
theorem dX7_faultOf_16 : decode cX7_faultOf 16 = .ok (.isub, 1) := by decide +kernel
theorem dX7_faultOf_17 : decode cX7_faultOf 17 = .ok (.invokestatic 15, 3) := by decide +kernel
theorem dX7_faultOf_20 : decode cX7_faultOf 20 = .ok (.ifCond .eq 7, 3) := by decide +kernel
theorem dX7_faultOf_23 : decode cX7_faultOf 23 = .ok (.iconst 0, 1) := by decide +kernel
theorem dX7_faultOf_24 : decode cX7_faultOf 24 = .ok (.goto 4, 3) := by decide +kernel
theorem dX7_faultOf_27 : decode cX7_faultOf 27 = .ok (.iconst 2, 1) := by decide +kernel
theorem dX7_faultOf_28 : decode cX7_faultOf 28 = .ok (.ireturn, 1) := by decide +kernel
theorem dX7_faultAs_0 : decode cX7_faultAs 0 = .ok (.aload_n 0, 1) := by decide +kernel
theorem dX7_faultAs_1 : decode cX7_faultAs 1 = .ok (.getfield 19, 3) := by decide +kernel
theorem dX7_faultAs_4 : decode cX7_faultAs 4 = .ok (.ifCond .eq 15, 3) := by decide +kernel
theorem dX7_faultAs_7 : decode cX7_faultAs 7 = .ok (.aload_n 0, 1) := by decide +kernel
theorem dX7_faultAs_8 : decode cX7_faultAs 8 = .ok (.getfield 33, 3) := by decide +kernel
theorem dX7_faultAs_11 : decode cX7_faultAs 11 = .ok (.iload_n 1, 1) := by decide +kernel
theorem dX7_faultAs_12 : decode cX7_faultAs 12 = .ok (.if_icmp .eq 7, 3) := by decide +kernel
theorem dX7_faultAs_15 : decode cX7_faultAs 15 = .ok (.iconst 3, 1) := by decide +kernel
theorem dX7_faultAs_16 : decode cX7_faultAs 16 = .ok (.goto 8, 3) := by decide +kernel
theorem dX7_faultAs_19 : decode cX7_faultAs 19 = .ok (.aload_n 0, 1) := by decide +kernel
theorem dX7_faultAs_20 : decode cX7_faultAs 20 = .ok (.iload_n 2, 1) := by decide +kernel
theorem dX7_faultAs_21 : decode cX7_faultAs 21 = .ok (.invokevirtual 45, 3) := by decide +kernel
theorem dX7_faultAs_24 : decode cX7_faultAs 24 = .ok (.ireturn, 1) := by decide +kernel
theorem dX7_store_0 : decode cX7_store 0 = .ok (.aload_n 0, 1) := by decide +kernel
theorem dX7_store_1 : decode cX7_store 1 = .ok (.iload_n 1, 1) := by decide +kernel
theorem dX7_store_2 : decode cX7_store 2 = .ok (.invokevirtual 45, 3) := by decide +kernel
theorem dX7_store_5 : decode cX7_store 5 = .ok (.ifCond .ne 35, 3) := by decide +kernel
theorem dX7_store_8 : decode cX7_store 8 = .ok (.aload_n 0, 1) := by decide +kernel
theorem dX7_store_9 : decode cX7_store 9 = .ok (.getfield 9, 3) := by decide +kernel
theorem dX7_store_12 : decode cX7_store 12 = .ok (.iload_n 1, 1) := by decide +kernel
theorem dX7_store_13 : decode cX7_store 13 = .ok (.aload_n 0, 1) := by decide +kernel
theorem dX7_store_14 : decode cX7_store 14 = .ok (.getfield 33, 3) := by decide +kernel
theorem dX7_store_17 : decode cX7_store 17 = .ok (.ifCond .ne 8, 3) := by decide +kernel
theorem dX7_store_20 : decode cX7_store 20 = .ok (.iload_n 2, 1) := by decide +kernel
theorem dX7_store_21 : decode cX7_store 21 = .ok (.i2b, 1) := by decide +kernel
theorem dX7_store_22 : decode cX7_store 22 = .ok (.goto 17, 3) := by decide +kernel
theorem dX7_store_25 : decode cX7_store 25 = .ok (.aload_n 0, 1) := by decide +kernel
theorem dX7_store_26 : decode cX7_store 26 = .ok (.getfield 33, 3) := by decide +kernel
theorem dX7_store_29 : decode cX7_store 29 = .ok (.iconst 1, 1) := by decide +kernel
theorem dX7_store_30 : decode cX7_store 30 = .ok (.if_icmp .ne 8, 3) := by decide +kernel
theorem dX7_store_33 : decode cX7_store 33 = .ok (.iload_n 2, 1) := by decide +kernel
theorem dX7_store_34 : decode cX7_store 34 = .ok (.i2s, 1) := by decide +kernel
theorem dX7_store_35 : decode cX7_store 35 = .ok (.goto 4, 3) := by decide +kernel
theorem dX7_store_38 : decode cX7_store 38 = .ok (.iload_n 2, 1) := by decide +kernel
theorem dX7_store_39 : decode cX7_store 39 = .ok (.iastore, 1) := by decide +kernel
theorem dX7_store_40 : decode cX7_store 40 = .ok (.return_, 1) := by decide +kernel
theorem dX7_valueAt_0 : decode cX7_valueAt 0 = .ok (.aload_n 0, 1) := by decide +kernel
theorem dX7_valueAt_1 : decode cX7_valueAt 1 = .ok (.iload_n 1, 1) := by decide +kernel
theorem dX7_valueAt_2 : decode cX7_valueAt 2 = .ok (.invokevirtual 45, 3) := by decide +kernel
theorem dX7_valueAt_5 : decode cX7_valueAt 5 = .ok (.ifCond .ne 12, 3) := by decide +kernel
theorem dX7_valueAt_8 : decode cX7_valueAt 8 = .ok (.aload_n 0, 1) := by decide +kernel
theorem dX7_valueAt_9 : decode cX7_valueAt 9 = .ok (.getfield 9, 3) := by decide +kernel
theorem dX7_valueAt_12 : decode cX7_valueAt 12 = .ok (.iload_n 1, 1) := by decide +kernel
theorem dX7_valueAt_13 : decode cX7_valueAt 13 = .ok (.iaload, 1) := by decide +kernel
theorem dX7_valueAt_14 : decode cX7_valueAt 14 = .ok (.goto 4, 3) := by decide +kernel
theorem dX7_valueAt_17 : decode cX7_valueAt 17 = .ok (.iconst (-1), 1) := by decide +kernel
theorem dX7_valueAt_18 : decode cX7_valueAt 18 = .ok (.ireturn, 1) := by decide +kernel
theorem dX8_init_0 : decode cX8_init 0 = .ok (.aload_n 0, 1) := by decide +kernel
theorem dX8_init_1 : decode cX8_init 1 = .ok (.invokespecial 3, 3) := by decide +kernel
theorem dX8_init_4 : decode cX8_init 4 = .ok (.aload_n 0, 1) := by decide +kernel
theorem dX8_init_5 : decode cX8_init 5 = .ok (.bipush 12, 2) := by decide +kernel
theorem dX8_init_7 : decode cX8_init 7 = .ok (.newarray .int, 2) := by decide +kernel
theorem dX8_init_9 : decode cX8_init 9 = .ok (.putfield 9, 3) := by decide +kernel
theorem dX8_init_12 : decode cX8_init 12 = .ok (.aload_n 0, 1) := by decide +kernel
theorem dX8_init_13 : decode cX8_init 13 = .ok (.bipush 12, 2) := by decide +kernel
theorem dX8_init_15 : decode cX8_init 15 = .ok (.newarray .int, 2) := by decide +kernel
theorem dX8_init_17 : decode cX8_init 17 = .ok (.putfield 15, 3) := by decide +kernel
theorem dX8_init_20 : decode cX8_init 20 = .ok (.aload_n 0, 1) := by decide +kernel
theorem dX8_init_21 : decode cX8_init 21 = .ok (.bipush 12, 2) := by decide +kernel
theorem dX8_init_23 : decode cX8_init 23 = .ok (.newarray .int, 2) := by decide +kernel
theorem dX8_init_25 : decode cX8_init 25 = .ok (.putfield 18, 3) := by decide +kernel
theorem dX8_init_28 : decode cX8_init 28 = .ok (.aload_n 0, 1) := by decide +kernel
theorem dX8_init_29 : decode cX8_init 29 = .ok (.bipush 12, 2) := by decide +kernel
theorem dX8_init_31 : decode cX8_init 31 = .ok (.newarray .int, 2) := by decide +kernel
theorem dX8_init_33 : decode cX8_init 33 = .ok (.putfield 21, 3) := by decide +kernel
theorem dX8_init_36 : decode cX8_init 36 = .ok (.aload_n 0, 1) := by decide +kernel
theorem dX8_init_37 : decode cX8_init 37 = .ok (.bipush 6, 2) := by decide +kernel
theorem dX8_init_39 : decode cX8_init 39 = .ok (.newarray .int, 2) := by decide +kernel
theorem dX8_init_41 : decode cX8_init 41 = .ok (.putfield 24, 3) := by decide +kernel
theorem dX8_init_44 : decode cX8_init 44 = .ok (.aload_n 0, 1) := by decide +kernel
theorem dX8_init_45 : decode cX8_init 45 = .ok (.bipush 6, 2) := by decide +kernel
theorem dX8_init_47 : decode cX8_init 47 = .ok (.newarray .int, 2) := by decide +kernel
theorem dX8_init_49 : decode cX8_init 49 = .ok (.putfield 27, 3) := by decide +kernel
theorem dX8_init_52 : decode cX8_init 52 = .ok (.aload_n 0, 1) := by decide +kernel
theorem dX8_init_53 : decode cX8_init 53 = .ok (.bipush 64, 2) := by decide +kernel
theorem dX8_init_55 : decode cX8_init 55 = .ok (.newarray .int, 2) := by decide +kernel
theorem dX8_init_57 : decode cX8_init 57 = .ok (.putfield 30, 3) := by decide +kernel
theorem dX8_init_60 : decode cX8_init 60 = .ok (.aload_n 0, 1) := by decide +kernel
theorem dX8_init_61 : decode cX8_init 61 = .ok (.invokevirtual 33, 3) := by decide +kernel
theorem dX8_init_64 : decode cX8_init 64 = .ok (.return_, 1) := by decide +kernel
theorem dX8_clear_0 : decode cX8_clear 0 = .ok (.aload_n 0, 1) := by decide +kernel
theorem dX8_clear_1 : decode cX8_clear 1 = .ok (.getfield 9, 3) := by decide +kernel
theorem dX8_clear_4 : decode cX8_clear 4 = .ok (.iconst 0, 1) := by decide +kernel
theorem dX8_clear_5 : decode cX8_clear 5 = .ok (.invokestatic 36, 3) := by decide +kernel
theorem dX8_clear_8 : decode cX8_clear 8 = .ok (.aload_n 0, 1) := by decide +kernel
theorem dX8_clear_9 : decode cX8_clear 9 = .ok (.getfield 15, 3) := by decide +kernel
theorem dX8_clear_12 : decode cX8_clear 12 = .ok (.iconst 0, 1) := by decide +kernel
theorem dX8_clear_13 : decode cX8_clear 13 = .ok (.invokestatic 36, 3) := by decide +kernel
theorem dX8_clear_16 : decode cX8_clear 16 = .ok (.aload_n 0, 1) := by decide +kernel
theorem dX8_clear_17 : decode cX8_clear 17 = .ok (.getfield 18, 3) := by decide +kernel
theorem dX8_clear_20 : decode cX8_clear 20 = .ok (.iconst 0, 1) := by decide +kernel
theorem dX8_clear_21 : decode cX8_clear 21 = .ok (.invokestatic 36, 3) := by decide +kernel
theorem dX8_clear_24 : decode cX8_clear 24 = .ok (.aload_n 0, 1) := by decide +kernel
theorem dX8_clear_25 : decode cX8_clear 25 = .ok (.getfield 21, 3) := by decide +kernel
theorem dX8_clear_28 : decode cX8_clear 28 = .ok (.iconst 0, 1) := by decide +kernel
theorem dX8_clear_29 : decode cX8_clear 29 = .ok (.invokestatic 36, 3) := by decide +kernel
theorem dX8_clear_32 : decode cX8_clear 32 = .ok (.aload_n 0, 1) := by decide +kernel
theorem dX8_clear_33 : decode cX8_clear 33 = .ok (.getfield 24, 3) := by decide +kernel
theorem dX8_clear_36 : decode cX8_clear 36 = .ok (.iconst 1, 1) := by decide +kernel
theorem dX8_clear_37 : decode cX8_clear 37 = .ok (.invokestatic 36, 3) := by decide +kernel
theorem dX8_clear_40 : decode cX8_clear 40 = .ok (.aload_n 0, 1) := by decide +kernel
theorem dX8_clear_41 : decode cX8_clear 41 = .ok (.getfield 27, 3) := by decide +kernel
theorem dX8_clear_44 : decode cX8_clear 44 = .ok (.bipush 10, 2) := by decide +kernel
theorem dX8_clear_46 : decode cX8_clear 46 = .ok (.invokestatic 36, 3) := by decide +kernel
theorem dX8_clear_49 : decode cX8_clear 49 = .ok (.aload_n 0, 1) := by decide +kernel
theorem dX8_clear_50 : decode cX8_clear 50 = .ok (.getfield 30, 3) := by decide +kernel
theorem dX8_clear_53 : decode cX8_clear 53 = .ok (.iconst (-1), 1) := by decide +kernel
theorem dX8_clear_54 : decode cX8_clear 54 = .ok (.invokestatic 36, 3) := by decide +kernel
theorem dX8_clear_57 : decode cX8_clear 57 = .ok (.aload_n 0, 1) := by decide +kernel
theorem dX8_clear_58 : decode cX8_clear 58 = .ok (.iconst 0, 1) := by decide +kernel
theorem dX8_clear_59 : decode cX8_clear 59 = .ok (.putfield 42, 3) := by decide +kernel
theorem dX8_clear_62 : decode cX8_clear 62 = .ok (.aload_n 0, 1) := by decide +kernel
theorem dX8_clear_63 : decode cX8_clear 63 = .ok (.iconst 0, 1) := by decide +kernel
theorem dX8_clear_64 : decode cX8_clear 64 = .ok (.putfield 46, 3) := by decide +kernel
theorem dX8_clear_67 : decode cX8_clear 67 = .ok (.aload_n 0, 1) := by decide +kernel
theorem dX8_clear_68 : decode cX8_clear 68 = .ok (.bipush 10, 2) := by decide +kernel
theorem dX8_clear_70 : decode cX8_clear 70 = .ok (.putfield 49, 3) := by decide +kernel
theorem dX8_clear_73 : decode cX8_clear 73 = .ok (.aload_n 0, 1) := by decide +kernel
theorem dX8_clear_74 : decode cX8_clear 74 = .ok (.iconst 0, 1) := by decide +kernel
theorem dX8_clear_75 : decode cX8_clear 75 = .ok (.putfield 52, 3) := by decide +kernel
theorem dX8_clear_78 : decode cX8_clear 78 = .ok (.aload_n 0, 1) := by decide +kernel
theorem dX8_clear_79 : decode cX8_clear 79 = .ok (.iconst 0, 1) := by decide +kernel
theorem dX8_clear_80 : decode cX8_clear 80 = .ok (.putfield 56, 3) := by decide +kernel
theorem dX8_clear_83 : decode cX8_clear 83 = .ok (.return_, 1) := by decide +kernel
theorem dX8_things_0 : decode cX8_things 0 = .ok (.aload_n 0, 1) := by decide +kernel
theorem dX8_things_1 : decode cX8_things 1 = .ok (.getfield 42, 3) := by decide +kernel
theorem dX8_things_4 : decode cX8_things 4 = .ok (.ireturn, 1) := by decide +kernel
theorem dX8_patterns_0 : decode cX8_patterns 0 = .ok (.aload_n 0, 1) := by decide +kernel
theorem dX8_patterns_1 : decode cX8_patterns 1 = .ok (.getfield 46, 3) := by decide +kernel
theorem dX8_patterns_4 : decode cX8_patterns 4 = .ok (.ireturn, 1) := by decide +kernel
theorem dX8_apart_0 : decode cX8_apart 0 = .ok (.aload_n 0, 1) := by decide +kernel
theorem dX8_apart_1 : decode cX8_apart 1 = .ok (.getfield 49, 3) := by decide +kernel
theorem dX8_apart_4 : decode cX8_apart 4 = .ok (.ireturn, 1) := by decide +kernel
theorem dX8_apartIsTold_0 : decode cX8_apartIsTold 0 = .ok (.aload_n 0, 1) := by decide +kernel
theorem dX8_apartIsTold_1 : decode cX8_apartIsTold 1 = .ok (.getfield 52, 3) := by decide +kernel
theorem dX8_apartIsTold_4 : decode cX8_apartIsTold 4 = .ok (.ireturn, 1) := by decide +kernel
theorem dX8_hasThing_0 : decode cX8_hasThing 0 = .ok (.iload_n 1, 1) := by decide +kernel
theorem dX8_hasThing_1 : decode cX8_hasThing 1 = .ok (.iconst 0, 1) := by decide +kernel
theorem dX8_hasThing_2 : decode cX8_hasThing 2 = .ok (.aload_n 0, 1) := by decide +kernel
theorem dX8_hasThing_3 : decode cX8_hasThing 3 = .ok (.getfield 42, 3) := by decide +kernel
theorem dX8_hasThing_6 : decode cX8_hasThing 6 = .ok (.iconst 1, 1) := by decide +kernel
theorem dX8_hasThing_7 : decode cX8_hasThing 7 = .ok (.isub, 1) := by decide +kernel
theorem dX8_hasThing_8 : decode cX8_hasThing 8 = .ok (.invokestatic 59, 3) := by decide +kernel
theorem dX8_hasThing_11 : decode cX8_hasThing 11 = .ok (.ireturn, 1) := by decide +kernel
theorem dX8_isRow_0 : decode cX8_isRow 0 = .ok (.aload_n 0, 1) := by decide +kernel
theorem dX8_isRow_1 : decode cX8_isRow 1 = .ok (.iload_n 1, 1) := by decide +kernel
theorem dX8_isRow_2 : decode cX8_isRow 2 = .ok (.invokevirtual 63, 3) := by decide +kernel
theorem dX8_isRow_5 : decode cX8_isRow 5 = .ok (.ifCond .eq 16, 3) := by decide +kernel
theorem dX8_isRow_8 : decode cX8_isRow 8 = .ok (.aload_n 0, 1) := by decide +kernel
theorem dX8_isRow_9 : decode cX8_isRow 9 = .ok (.getfield 9, 3) := by decide +kernel
theorem dX8_isRow_12 : decode cX8_isRow 12 = .ok (.iload_n 1, 1) := by decide +kernel
theorem dX8_isRow_13 : decode cX8_isRow 13 = .ok (.iaload, 1) := by decide +kernel
theorem dX8_isRow_14 : decode cX8_isRow 14 = .ok (.ifCond .le 7, 3) := by decide +kernel
theorem dX8_isRow_17 : decode cX8_isRow 17 = .ok (.iconst 1, 1) := by decide +kernel
theorem dX8_isRow_18 : decode cX8_isRow 18 = .ok (.goto 4, 3) := by decide +kernel
theorem dX8_isRow_21 : decode cX8_isRow 21 = .ok (.iconst 0, 1) := by decide +kernel
theorem dX8_isRow_22 : decode cX8_isRow 22 = .ok (.ireturn, 1) := by decide +kernel
theorem dX8_hasPattern_0 : decode cX8_hasPattern 0 = .ok (.iload_n 1, 1) := by decide +kernel
theorem dX8_hasPattern_1 : decode cX8_hasPattern 1 = .ok (.iconst 0, 1) := by decide +kernel
theorem dX8_hasPattern_2 : decode cX8_hasPattern 2 = .ok (.aload_n 0, 1) := by decide +kernel
theorem dX8_hasPattern_3 : decode cX8_hasPattern 3 = .ok (.getfield 46, 3) := by decide +kernel
theorem dX8_hasPattern_6 : decode cX8_hasPattern 6 = .ok (.iconst 1, 1) := by decide +kernel
theorem dX8_hasPattern_7 : decode cX8_hasPattern 7 = .ok (.isub, 1) := by decide +kernel
theorem dX8_hasPattern_8 : decode cX8_hasPattern 8 = .ok (.invokestatic 59, 3) := by decide +kernel
theorem dX8_hasPattern_11 : decode cX8_hasPattern 11 = .ok (.ireturn, 1) := by decide +kernel
theorem dX8_cubesOf_0 : decode cX8_cubesOf 0 = .ok (.aload_n 0, 1) := by decide +kernel
theorem dX8_cubesOf_1 : decode cX8_cubesOf 1 = .ok (.iload_n 1, 1) := by decide +kernel
theorem dX8_cubesOf_2 : decode cX8_cubesOf 2 = .ok (.invokevirtual 63, 3) := by decide +kernel
theorem dX8_cubesOf_5 : decode cX8_cubesOf 5 = .ok (.ifCond .eq 12, 3) := by decide +kernel
theorem dX8_cubesOf_8 : decode cX8_cubesOf 8 = .ok (.aload_n 0, 1) := by decide +kernel
theorem dX8_cubesOf_9 : decode cX8_cubesOf 9 = .ok (.getfield 9, 3) := by decide +kernel
theorem dX8_cubesOf_12 : decode cX8_cubesOf 12 = .ok (.iload_n 1, 1) := by decide +kernel
theorem dX8_cubesOf_13 : decode cX8_cubesOf 13 = .ok (.iaload, 1) := by decide +kernel
theorem dX8_cubesOf_14 : decode cX8_cubesOf 14 = .ok (.goto 4, 3) := by decide +kernel
theorem dX8_cubesOf_17 : decode cX8_cubesOf 17 = .ok (.iconst 0, 1) := by decide +kernel
theorem dX8_cubesOf_18 : decode cX8_cubesOf 18 = .ok (.ireturn, 1) := by decide +kernel
theorem dX8_lengthOf_0 : decode cX8_lengthOf 0 = .ok (.aload_n 0, 1) := by decide +kernel
theorem dX8_lengthOf_1 : decode cX8_lengthOf 1 = .ok (.iload_n 1, 1) := by decide +kernel
theorem dX8_lengthOf_2 : decode cX8_lengthOf 2 = .ok (.invokevirtual 63, 3) := by decide +kernel
theorem dX8_lengthOf_5 : decode cX8_lengthOf 5 = .ok (.ifCond .eq 12, 3) := by decide +kernel
theorem dX8_lengthOf_8 : decode cX8_lengthOf 8 = .ok (.aload_n 0, 1) := by decide +kernel
theorem dX8_lengthOf_9 : decode cX8_lengthOf 9 = .ok (.getfield 15, 3) := by decide +kernel
theorem dX8_lengthOf_12 : decode cX8_lengthOf 12 = .ok (.iload_n 1, 1) := by decide +kernel
theorem dX8_lengthOf_13 : decode cX8_lengthOf 13 = .ok (.iaload, 1) := by decide +kernel
theorem dX8_lengthOf_14 : decode cX8_lengthOf 14 = .ok (.goto 4, 3) := by decide +kernel
theorem dX8_lengthOf_17 : decode cX8_lengthOf 17 = .ok (.iconst 0, 1) := by decide +kernel
theorem dX8_lengthOf_18 : decode cX8_lengthOf 18 = .ok (.ireturn, 1) := by decide +kernel
theorem dX8_laterThan_0 : decode cX8_laterThan 0 = .ok (.aload_n 0, 1) := by decide +kernel
theorem dX8_laterThan_1 : decode cX8_laterThan 1 = .ok (.iload_n 1, 1) := by decide +kernel
theorem dX8_laterThan_2 : decode cX8_laterThan 2 = .ok (.invokevirtual 63, 3) := by decide +kernel
theorem dX8_laterThan_5 : decode cX8_laterThan 5 = .ok (.ifCond .eq 19, 3) := by decide +kernel
theorem dX8_laterThan_8 : decode cX8_laterThan 8 = .ok (.aload_n 0, 1) := by decide +kernel
theorem dX8_laterThan_9 : decode cX8_laterThan 9 = .ok (.getfield 18, 3) := by decide +kernel
theorem dX8_laterThan_12 : decode cX8_laterThan 12 = .ok (.iload_n 1, 1) := by decide +kernel
theorem dX8_laterThan_13 : decode cX8_laterThan 13 = .ok (.iaload, 1) := by decide +kernel
theorem dX8_laterThan_14 : decode cX8_laterThan 14 = .ok (.aload_n 0, 1) := by decide +kernel
theorem dX8_laterThan_15 : decode cX8_laterThan 15 = .ok (.getfield 21, 3) := by decide +kernel
theorem dX8_laterThan_18 : decode cX8_laterThan 18 = .ok (.iload_n 1, 1) := by decide +kernel
theorem dX8_laterThan_19 : decode cX8_laterThan 19 = .ok (.iaload, 1) := by decide +kernel
theorem dX8_laterThan_20 : decode cX8_laterThan 20 = .ok (.ior, 1) := by decide +kernel
theorem dX8_laterThan_21 : decode cX8_laterThan 21 = .ok (.goto 4, 3) := by decide +kernel
theorem dX8_laterThan_24 : decode cX8_laterThan 24 = .ok (.iconst 0, 1) := by decide +kernel
theorem dX8_laterThan_25 : decode cX8_laterThan 25 = .ok (.ireturn, 1) := by decide +kernel
theorem dX8_priceOf_0 : decode cX8_priceOf 0 = .ok (.iload_n 1, 1) := by decide +kernel
theorem dX8_priceOf_1 : decode cX8_priceOf 1 = .ok (.iconst 0, 1) := by decide +kernel
theorem dX8_priceOf_2 : decode cX8_priceOf 2 = .ok (.iconst 5, 1) := by decide +kernel
theorem dX8_priceOf_3 : decode cX8_priceOf 3 = .ok (.invokestatic 59, 3) := by decide +kernel
theorem dX8_priceOf_6 : decode cX8_priceOf 6 = .ok (.ifCond .eq 12, 3) := by decide +kernel
theorem dX8_priceOf_9 : decode cX8_priceOf 9 = .ok (.aload_n 0, 1) := by decide +kernel
theorem dX8_priceOf_10 : decode cX8_priceOf 10 = .ok (.getfield 24, 3) := by decide +kernel
theorem dX8_priceOf_13 : decode cX8_priceOf 13 = .ok (.iload_n 1, 1) := by decide +kernel
theorem dX8_priceOf_14 : decode cX8_priceOf 14 = .ok (.iaload, 1) := by decide +kernel
theorem dX8_priceOf_15 : decode cX8_priceOf 15 = .ok (.goto 4, 3) := by decide +kernel
theorem dX8_priceOf_18 : decode cX8_priceOf 18 = .ok (.iconst 0, 1) := by decide +kernel
theorem dX8_priceOf_19 : decode cX8_priceOf 19 = .ok (.ireturn, 1) := by decide +kernel
theorem dX8_dailyOf_0 : decode cX8_dailyOf 0 = .ok (.iload_n 1, 1) := by decide +kernel
theorem dX8_dailyOf_1 : decode cX8_dailyOf 1 = .ok (.iconst 0, 1) := by decide +kernel
theorem dX8_dailyOf_2 : decode cX8_dailyOf 2 = .ok (.iconst 5, 1) := by decide +kernel
theorem dX8_dailyOf_3 : decode cX8_dailyOf 3 = .ok (.invokestatic 59, 3) := by decide +kernel
theorem dX8_dailyOf_6 : decode cX8_dailyOf 6 = .ok (.ifCond .eq 12, 3) := by decide +kernel
theorem dX8_dailyOf_9 : decode cX8_dailyOf 9 = .ok (.aload_n 0, 1) := by decide +kernel
theorem dX8_dailyOf_10 : decode cX8_dailyOf 10 = .ok (.getfield 27, 3) := by decide +kernel
theorem dX8_dailyOf_13 : decode cX8_dailyOf 13 = .ok (.iload_n 1, 1) := by decide +kernel
theorem dX8_dailyOf_14 : decode cX8_dailyOf 14 = .ok (.iaload, 1) := by decide +kernel
theorem dX8_dailyOf_15 : decode cX8_dailyOf 15 = .ok (.goto 4, 3) := by decide +kernel
theorem dX8_dailyOf_18 : decode cX8_dailyOf 18 = .ok (.iconst 1, 1) := by decide +kernel
theorem dX8_dailyOf_19 : decode cX8_dailyOf 19 = .ok (.ireturn, 1) := by decide +kernel
theorem dX8_patternColour_0 : decode cX8_patternColour 0 = .ok (.aload_n 0, 1) := by decide +kernel
theorem dX8_patternColour_1 : decode cX8_patternColour 1 = .ok (.iload_n 1, 1) := by decide +kernel
theorem dX8_patternColour_2 : decode cX8_patternColour 2 = .ok (.invokevirtual 67, 3) := by decide +kernel
theorem dX8_patternColour_5 : decode cX8_patternColour 5 = .ok (.ifCond .eq 13, 3) := by decide +kernel
theorem dX8_patternColour_8 : decode cX8_patternColour 8 = .ok (.iload_n 2, 1) := by decide +kernel
theorem dX8_patternColour_9 : decode cX8_patternColour 9 = .ok (.iconst 0, 1) := by decide +kernel
theorem dX8_patternColour_10 : decode cX8_patternColour 10 = .ok (.bipush 15, 2) := by decide +kernel
theorem dX8_patternColour_12 : decode cX8_patternColour 12 = .ok (.invokestatic 59, 3) := by decide +kernel
theorem dX8_patternColour_15 : decode cX8_patternColour 15 = .ok (.ifCond .ne 5, 3) := by decide +kernel
theorem dX8_patternColour_18 : decode cX8_patternColour 18 = .ok (.iconst (-1), 1) := by decide +kernel
theorem dX8_patternColour_19 : decode cX8_patternColour 19 = .ok (.ireturn, 1) := by decide +kernel
theorem dX8_patternColour_20 : decode cX8_patternColour 20 = .ok (.aload_n 0, 1) := by decide +kernel
theorem dX8_patternColour_21 : decode cX8_patternColour 21 = .ok (.getfield 30, 3) := by decide +kernel
theorem dX8_patternColour_24 : decode cX8_patternColour 24 = .ok (.iload_n 1, 1) := by decide +kernel
theorem dX8_patternColour_25 : decode cX8_patternColour 25 = .ok (.bipush 16, 2) := by decide +kernel
theorem dX8_patternColour_27 : decode cX8_patternColour 27 = .ok (.imul, 1) := by decide +kernel
theorem dX8_patternColour_28 : decode cX8_patternColour 28 = .ok (.iload_n 2, 1) := by decide +kernel
theorem dX8_patternColour_29 : decode cX8_patternColour 29 = .ok (.iadd, 1) := by decide +kernel
theorem dX8_patternColour_30 : decode cX8_patternColour 30 = .ok (.iaload, 1) := by decide +kernel
theorem dX8_patternColour_31 : decode cX8_patternColour 31 = .ok (.ireturn, 1) := by decide +kernel
theorem dX8_addRow_0 : decode cX8_addRow 0 = .ok (.aload_n 0, 1) := by decide +kernel
theorem dX8_addRow_1 : decode cX8_addRow 1 = .ok (.getfield 42, 3) := by decide +kernel
theorem dX8_addRow_4 : decode cX8_addRow 4 = .ok (.bipush 12, 2) := by decide +kernel
theorem dX8_addRow_6 : decode cX8_addRow 6 = .ok (.if_icmp .ge 33, 3) := by decide +kernel
theorem dX8_addRow_9 : decode cX8_addRow 9 = .ok (.aload_n 0, 1) := by decide +kernel
theorem dX8_addRow_10 : decode cX8_addRow 10 = .ok (.getfield 9, 3) := by decide +kernel
theorem dX8_addRow_13 : decode cX8_addRow 13 = .ok (.aload_n 0, 1) := by decide +kernel
theorem dX8_addRow_14 : decode cX8_addRow 14 = .ok (.getfield 42, 3) := by decide +kernel
theorem dX8_addRow_17 : decode cX8_addRow 17 = .ok (.iload_n 1, 1) := by decide +kernel
theorem dX8_addRow_18 : decode cX8_addRow 18 = .ok (.iastore, 1) := by decide +kernel
theorem dX8_addRow_19 : decode cX8_addRow 19 = .ok (.aload_n 0, 1) := by decide +kernel
theorem dX8_addRow_20 : decode cX8_addRow 20 = .ok (.getfield 15, 3) := by decide +kernel
theorem dX8_addRow_23 : decode cX8_addRow 23 = .ok (.aload_n 0, 1) := by decide +kernel
theorem dX8_addRow_24 : decode cX8_addRow 24 = .ok (.getfield 42, 3) := by decide +kernel
theorem dX8_addRow_27 : decode cX8_addRow 27 = .ok (.iload_n 2, 1) := by decide +kernel
theorem dX8_addRow_28 : decode cX8_addRow 28 = .ok (.iastore, 1) := by decide +kernel
theorem dX8_addRow_29 : decode cX8_addRow 29 = .ok (.aload_n 0, 1) := by decide +kernel
theorem dX8_addRow_30 : decode cX8_addRow 30 = .ok (.dup, 1) := by decide +kernel
theorem dX8_addRow_31 : decode cX8_addRow 31 = .ok (.getfield 42, 3) := by decide +kernel
theorem dX8_addRow_34 : decode cX8_addRow 34 = .ok (.iconst 1, 1) := by decide +kernel
theorem dX8_addRow_35 : decode cX8_addRow 35 = .ok (.iadd, 1) := by decide +kernel
theorem dX8_addRow_36 : decode cX8_addRow 36 = .ok (.putfield 42, 3) := by decide +kernel
theorem dX8_addRow_39 : decode cX8_addRow 39 = .ok (.return_, 1) := by decide +kernel
theorem dX8_addPatch_0 : decode cX8_addPatch 0 = .ok (.aload_n 0, 1) := by decide +kernel
theorem dX8_addPatch_1 : decode cX8_addPatch 1 = .ok (.getfield 42, 3) := by decide +kernel
theorem dX8_addPatch_4 : decode cX8_addPatch 4 = .ok (.bipush 12, 2) := by decide +kernel
theorem dX8_addPatch_6 : decode cX8_addPatch 6 = .ok (.if_icmp .ge 23, 3) := by decide +kernel
theorem dX8_addPatch_9 : decode cX8_addPatch 9 = .ok (.aload_n 0, 1) := by decide +kernel
theorem dX8_addPatch_10 : decode cX8_addPatch 10 = .ok (.getfield 18, 3) := by decide +kernel
theorem dX8_addPatch_13 : decode cX8_addPatch 13 = .ok (.aload_n 0, 1) := by decide +kernel
theorem dX8_addPatch_14 : decode cX8_addPatch 14 = .ok (.getfield 42, 3) := by decide +kernel
theorem dX8_addPatch_17 : decode cX8_addPatch 17 = .ok (.iload_n 1, 1) := by decide +kernel
theorem dX8_addPatch_18 : decode cX8_addPatch 18 = .ok (.iastore, 1) := by decide +kernel
theorem dX8_addPatch_19 : decode cX8_addPatch 19 = .ok (.aload_n 0, 1) := by decide +kernel
theorem dX8_addPatch_20 : decode cX8_addPatch 20 = .ok (.dup, 1) := by decide +kernel
theorem dX8_addPatch_21 : decode cX8_addPatch 21 = .ok (.getfield 42, 3) := by decide +kernel
theorem dX8_addPatch_24 : decode cX8_addPatch 24 = .ok (.iconst 1, 1) := by decide +kernel
theorem dX8_addPatch_25 : decode cX8_addPatch 25 = .ok (.iadd, 1) := by decide +kernel
theorem dX8_addPatch_26 : decode cX8_addPatch 26 = .ok (.putfield 42, 3) := by decide +kernel
theorem dX8_addPatch_29 : decode cX8_addPatch 29 = .ok (.return_, 1) := by decide +kernel
theorem dX8_addGives_0 : decode cX8_addGives 0 = .ok (.aload_n 0, 1) := by decide +kernel
theorem dX8_addGives_1 : decode cX8_addGives 1 = .ok (.iload_n 1, 1) := by decide +kernel
theorem dX8_addGives_2 : decode cX8_addGives 2 = .ok (.invokevirtual 63, 3) := by decide +kernel
theorem dX8_addGives_5 : decode cX8_addGives 5 = .ok (.ifCond .eq 16, 3) := by decide +kernel
theorem dX8_addGives_8 : decode cX8_addGives 8 = .ok (.aload_n 0, 1) := by decide +kernel
theorem dX8_addGives_9 : decode cX8_addGives 9 = .ok (.getfield 21, 3) := by decide +kernel
theorem dX8_addGives_12 : decode cX8_addGives 12 = .ok (.iload_n 1, 1) := by decide +kernel
theorem dX8_addGives_13 : decode cX8_addGives 13 = .ok (.iaload, 1) := by decide +kernel
theorem dX8_addGives_14 : decode cX8_addGives 14 = .ok (.iload_n 2, 1) := by decide +kernel
theorem dX8_addGives_15 : decode cX8_addGives 15 = .ok (.invokestatic 70, 3) := by decide +kernel
theorem dX8_addGives_18 : decode cX8_addGives 18 = .ok (.ifCond .eq 5, 3) := by decide +kernel
theorem dX8_addGives_21 : decode cX8_addGives 21 = .ok (.iconst 0, 1) := by decide +kernel
theorem dX8_addGives_22 : decode cX8_addGives 22 = .ok (.ireturn, 1) := by decide +kernel
theorem dX8_addGives_23 : decode cX8_addGives 23 = .ok (.aload_n 0, 1) := by decide +kernel
theorem dX8_addGives_24 : decode cX8_addGives 24 = .ok (.getfield 21, 3) := by decide +kernel
theorem dX8_addGives_27 : decode cX8_addGives 27 = .ok (.iload_n 1, 1) := by decide +kernel
theorem dX8_addGives_28 : decode cX8_addGives 28 = .ok (.dup2, 1) := by decide +kernel
theorem dX8_addGives_29 : decode cX8_addGives 29 = .ok (.iaload, 1) := by decide +kernel
theorem dX8_addGives_30 : decode cX8_addGives 30 = .ok (.iconst 1, 1) := by decide +kernel
theorem dX8_addGives_31 : decode cX8_addGives 31 = .ok (.iload_n 2, 1) := by decide +kernel
theorem dX8_addGives_32 : decode cX8_addGives 32 = .ok (.ishl, 1) := by decide +kernel
theorem dX8_addGives_33 : decode cX8_addGives 33 = .ok (.ior, 1) := by decide +kernel
theorem dX8_addGives_34 : decode cX8_addGives 34 = .ok (.iastore, 1) := by decide +kernel
theorem dX8_addGives_35 : decode cX8_addGives 35 = .ok (.iconst 1, 1) := by decide +kernel
theorem dX8_addGives_36 : decode cX8_addGives 36 = .ok (.ireturn, 1) := by decide +kernel
theorem dX8_tellApart_0 : decode cX8_tellApart 0 = .ok (.aload_n 0, 1) := by decide +kernel
theorem dX8_tellApart_1 : decode cX8_tellApart 1 = .ok (.iload_n 1, 1) := by decide +kernel
theorem dX8_tellApart_2 : decode cX8_tellApart 2 = .ok (.putfield 49, 3) := by decide +kernel
theorem dX8_tellApart_5 : decode cX8_tellApart 5 = .ok (.aload_n 0, 1) := by decide +kernel
theorem dX8_tellApart_6 : decode cX8_tellApart 6 = .ok (.iconst 1, 1) := by decide +kernel
theorem dX8_tellApart_7 : decode cX8_tellApart 7 = .ok (.putfield 52, 3) := by decide +kernel
theorem dX8_tellApart_10 : decode cX8_tellApart 10 = .ok (.return_, 1) := by decide +kernel
theorem dX8_quarryIsTold_0 : decode cX8_quarryIsTold 0 = .ok (.aload_n 0, 1) := by decide +kernel
theorem dX8_quarryIsTold_1 : decode cX8_quarryIsTold 1 = .ok (.getfield 56, 3) := by decide +kernel
theorem dX8_quarryIsTold_4 : decode cX8_quarryIsTold 4 = .ok (.iload_n 1, 1) := by decide +kernel
theorem dX8_quarryIsTold_5 : decode cX8_quarryIsTold 5 = .ok (.invokestatic 70, 3) := by decide +kernel
theorem dX8_quarryIsTold_8 : decode cX8_quarryIsTold 8 = .ok (.ireturn, 1) := by decide +kernel
theorem dX8_tellQuarry_0 : decode cX8_tellQuarry 0 = .ok (.iload_n 1, 1) := by decide +kernel
theorem dX8_tellQuarry_1 : decode cX8_tellQuarry 1 = .ok (.iconst 0, 1) := by decide +kernel
theorem dX8_tellQuarry_2 : decode cX8_tellQuarry 2 = .ok (.iconst 5, 1) := by decide +kernel
theorem dX8_tellQuarry_3 : decode cX8_tellQuarry 3 = .ok (.invokestatic 59, 3) := by decide +kernel
theorem dX8_tellQuarry_6 : decode cX8_tellQuarry 6 = .ok (.ifCond .eq 29, 3) := by decide +kernel
theorem dX8_tellQuarry_9 : decode cX8_tellQuarry 9 = .ok (.aload_n 0, 1) := by decide +kernel
theorem dX8_tellQuarry_10 : decode cX8_tellQuarry 10 = .ok (.getfield 24, 3) := by decide +kernel
theorem dX8_tellQuarry_13 : decode cX8_tellQuarry 13 = .ok (.iload_n 1, 1) := by decide +kernel
theorem dX8_tellQuarry_14 : decode cX8_tellQuarry 14 = .ok (.iload_n 2, 1) := by decide +kernel
theorem dX8_tellQuarry_15 : decode cX8_tellQuarry 15 = .ok (.iastore, 1) := by decide +kernel
theorem dX8_tellQuarry_16 : decode cX8_tellQuarry 16 = .ok (.aload_n 0, 1) := by decide +kernel
theorem dX8_tellQuarry_17 : decode cX8_tellQuarry 17 = .ok (.getfield 27, 3) := by decide +kernel
theorem dX8_tellQuarry_20 : decode cX8_tellQuarry 20 = .ok (.iload_n 1, 1) := by decide +kernel
theorem dX8_tellQuarry_21 : decode cX8_tellQuarry 21 = .ok (.iload_n 3, 1) := by decide +kernel
theorem dX8_tellQuarry_22 : decode cX8_tellQuarry 22 = .ok (.iastore, 1) := by decide +kernel
theorem dX8_tellQuarry_23 : decode cX8_tellQuarry 23 = .ok (.aload_n 0, 1) := by decide +kernel
theorem dX8_tellQuarry_24 : decode cX8_tellQuarry 24 = .ok (.dup, 1) := by decide +kernel
theorem dX8_tellQuarry_25 : decode cX8_tellQuarry 25 = .ok (.getfield 56, 3) := by decide +kernel
theorem dX8_tellQuarry_28 : decode cX8_tellQuarry 28 = .ok (.iconst 1, 1) := by decide +kernel
theorem dX8_tellQuarry_29 : decode cX8_tellQuarry 29 = .ok (.iload_n 1, 1) := by decide +kernel
theorem dX8_tellQuarry_30 : decode cX8_tellQuarry 30 = .ok (.ishl, 1) := by decide +kernel
theorem dX8_tellQuarry_31 : decode cX8_tellQuarry 31 = .ok (.ior, 1) := by decide +kernel
theorem dX8_tellQuarry_32 : decode cX8_tellQuarry 32 = .ok (.putfield 56, 3) := by decide +kernel
theorem dX8_tellQuarry_35 : decode cX8_tellQuarry 35 = .ok (.return_, 1) := by decide +kernel
theorem dX8_tellPatternCell_0 : decode cX8_tellPatternCell 0 = .ok (.aload_n 0, 1) := by decide +kernel
theorem dX8_tellPatternCell_1 : decode cX8_tellPatternCell 1 = .ok (.getfield 46, 3) := by decide +kernel
theorem dX8_tellPatternCell_4 : decode cX8_tellPatternCell 4 = .ok (.iconst 4, 1) := by decide +kernel
theorem dX8_tellPatternCell_5 : decode cX8_tellPatternCell 5 = .ok (.if_icmp .ge 28, 3) := by decide +kernel
theorem dX8_tellPatternCell_8 : decode cX8_tellPatternCell 8 = .ok (.iload_n 1, 1) := by decide +kernel
theorem dX8_tellPatternCell_9 : decode cX8_tellPatternCell 9 = .ok (.iconst 0, 1) := by decide +kernel
theorem dX8_tellPatternCell_10 : decode cX8_tellPatternCell 10 = .ok (.bipush 15, 2) := by decide +kernel
theorem dX8_tellPatternCell_12 : decode cX8_tellPatternCell 12 = .ok (.invokestatic 59, 3) := by decide +kernel
theorem dX8_tellPatternCell_15 : decode cX8_tellPatternCell 15 = .ok (.ifCond .eq 18, 3) := by decide +kernel
theorem dX8_tellPatternCell_18 : decode cX8_tellPatternCell 18 = .ok (.aload_n 0, 1) := by decide +kernel
theorem dX8_tellPatternCell_19 : decode cX8_tellPatternCell 19 = .ok (.getfield 30, 3) := by decide +kernel
theorem dX8_tellPatternCell_22 : decode cX8_tellPatternCell 22 = .ok (.aload_n 0, 1) := by decide +kernel
theorem dX8_tellPatternCell_23 : decode cX8_tellPatternCell 23 = .ok (.getfield 46, 3) := by decide +kernel
theorem dX8_tellPatternCell_26 : decode cX8_tellPatternCell 26 = .ok (.bipush 16, 2) := by decide +kernel
theorem dX8_tellPatternCell_28 : decode cX8_tellPatternCell 28 = .ok (.imul, 1) := by decide +kernel
theorem dX8_tellPatternCell_29 : decode cX8_tellPatternCell 29 = .ok (.iload_n 1, 1) := by decide +kernel
theorem dX8_tellPatternCell_30 : decode cX8_tellPatternCell 30 = .ok (.iadd, 1) := by decide +kernel
theorem dX8_tellPatternCell_31 : decode cX8_tellPatternCell 31 = .ok (.iload_n 2, 1) := by decide +kernel
theorem dX8_tellPatternCell_32 : decode cX8_tellPatternCell 32 = .ok (.iastore, 1) := by decide +kernel
theorem dX8_tellPatternCell_33 : decode cX8_tellPatternCell 33 = .ok (.return_, 1) := by decide +kernel
theorem dX8_addPattern_0 : decode cX8_addPattern 0 = .ok (.aload_n 0, 1) := by decide +kernel
theorem dX8_addPattern_1 : decode cX8_addPattern 1 = .ok (.getfield 46, 3) := by decide +kernel
theorem dX8_addPattern_4 : decode cX8_addPattern 4 = .ok (.iconst 4, 1) := by decide +kernel
theorem dX8_addPattern_5 : decode cX8_addPattern 5 = .ok (.if_icmp .ge 13, 3) := by decide +kernel
theorem dX8_addPattern_8 : decode cX8_addPattern 8 = .ok (.aload_n 0, 1) := by decide +kernel
theorem dX8_addPattern_9 : decode cX8_addPattern 9 = .ok (.dup, 1) := by decide +kernel
theorem dX8_addPattern_10 : decode cX8_addPattern 10 = .ok (.getfield 46, 3) := by decide +kernel
theorem dX8_addPattern_13 : decode cX8_addPattern 13 = .ok (.iconst 1, 1) := by decide +kernel
theorem dX8_addPattern_14 : decode cX8_addPattern 14 = .ok (.iadd, 1) := by decide +kernel
theorem dX8_addPattern_15 : decode cX8_addPattern 15 = .ok (.putfield 46, 3) := by decide +kernel
theorem dX8_addPattern_18 : decode cX8_addPattern 18 = .ok (.return_, 1) := by decide +kernel
theorem dX8_rows_0 : decode cX8_rows 0 = .ok (.iconst 0, 1) := by decide +kernel
theorem dX8_rows_1 : decode cX8_rows 1 = .ok (.istore_n 1, 1) := by decide +kernel
theorem dX8_rows_2 : decode cX8_rows 2 = .ok (.iconst 0, 1) := by decide +kernel
theorem dX8_rows_3 : decode cX8_rows 3 = .ok (.istore_n 2, 1) := by decide +kernel
theorem dX8_rows_4 : decode cX8_rows 4 = .ok (.iload_n 2, 1) := by decide +kernel
theorem dX8_rows_5 : decode cX8_rows 5 = .ok (.aload_n 0, 1) := by decide +kernel
theorem dX8_rows_6 : decode cX8_rows 6 = .ok (.getfield 42, 3) := by decide +kernel
theorem dX8_rows_9 : decode cX8_rows 9 = .ok (.if_icmp .ge 24, 3) := by decide +kernel
theorem dX8_rows_12 : decode cX8_rows 12 = .ok (.aload_n 0, 1) := by decide +kernel
theorem dX8_rows_13 : decode cX8_rows 13 = .ok (.getfield 9, 3) := by decide +kernel
theorem dX8_rows_16 : decode cX8_rows 16 = .ok (.iload_n 2, 1) := by decide +kernel
theorem dX8_rows_17 : decode cX8_rows 17 = .ok (.iaload, 1) := by decide +kernel
theorem dX8_rows_18 : decode cX8_rows 18 = .ok (.ifCond .le 9, 3) := by decide +kernel
theorem dX8_rows_21 : decode cX8_rows 21 = .ok (.iload_n 1, 1) := by decide +kernel
theorem dX8_rows_22 : decode cX8_rows 22 = .ok (.iconst 1, 1) := by decide +kernel
theorem dX8_rows_23 : decode cX8_rows 23 = .ok (.iload_n 2, 1) := by decide +kernel
theorem dX8_rows_24 : decode cX8_rows 24 = .ok (.ishl, 1) := by decide +kernel
theorem dX8_rows_25 : decode cX8_rows 25 = .ok (.ior, 1) := by decide +kernel
theorem dX8_rows_26 : decode cX8_rows 26 = .ok (.istore_n 1, 1) := by decide +kernel
theorem dX8_rows_27 : decode cX8_rows 27 = .ok (.iinc 2 1, 3) := by decide +kernel
theorem dX8_rows_30 : decode cX8_rows 30 = .ok (.goto (-26), 3) := by decide +kernel
theorem dX8_rows_33 : decode cX8_rows 33 = .ok (.iload_n 1, 1) := by decide +kernel
theorem dX8_rows_34 : decode cX8_rows 34 = .ok (.ireturn, 1) := by decide +kernel
theorem dX8_areTwoHands_0 : decode cX8_areTwoHands 0 = .ok (.aload_n 0, 1) := by decide +kernel
theorem dX8_areTwoHands_1 : decode cX8_areTwoHands 1 = .ok (.iload_n 1, 1) := by decide +kernel
theorem dX8_areTwoHands_2 : decode cX8_areTwoHands 2 = .ok (.invokevirtual 74, 3) := by decide +kernel
theorem dX8_areTwoHands_5 : decode cX8_areTwoHands 5 = .ok (.ifCond .eq 11, 3) := by decide +kernel
theorem dX8_areTwoHands_8 : decode cX8_areTwoHands 8 = .ok (.aload_n 0, 1) := by decide +kernel
theorem dX8_areTwoHands_9 : decode cX8_areTwoHands 9 = .ok (.iload_n 2, 1) := by decide +kernel
theorem dX8_areTwoHands_10 : decode cX8_areTwoHands 10 = .ok (.invokevirtual 74, 3) := by decide +kernel
theorem dX8_areTwoHands_13 : decode cX8_areTwoHands 13 = .ok (.ifCond .ne 5, 3) := by decide +kernel
theorem dX8_areTwoHands_16 : decode cX8_areTwoHands 16 = .ok (.iconst 0, 1) := by decide +kernel
theorem dX8_areTwoHands_17 : decode cX8_areTwoHands 17 = .ok (.ireturn, 1) := by decide +kernel
theorem dX8_areTwoHands_18 : decode cX8_areTwoHands 18 = .ok (.aload_n 0, 1) := by decide +kernel
theorem dX8_areTwoHands_19 : decode cX8_areTwoHands 19 = .ok (.getfield 15, 3) := by decide +kernel
theorem dX8_areTwoHands_22 : decode cX8_areTwoHands 22 = .ok (.iload_n 1, 1) := by decide +kernel
theorem dX8_areTwoHands_23 : decode cX8_areTwoHands 23 = .ok (.iaload, 1) := by decide +kernel
theorem dX8_areTwoHands_24 : decode cX8_areTwoHands 24 = .ok (.aload_n 0, 1) := by decide +kernel
theorem dX8_areTwoHands_25 : decode cX8_areTwoHands 25 = .ok (.getfield 9, 3) := by decide +kernel
theorem dX8_areTwoHands_28 : decode cX8_areTwoHands 28 = .ok (.iload_n 2, 1) := by decide +kernel
theorem dX8_areTwoHands_29 : decode cX8_areTwoHands 29 = .ok (.iaload, 1) := by decide +kernel
theorem dX8_areTwoHands_30 : decode cX8_areTwoHands 30 = .ok (.imul, 1) := by decide +kernel
theorem dX8_areTwoHands_31 : decode cX8_areTwoHands 31 = .ok (.aload_n 0, 1) := by decide +kernel
theorem dX8_areTwoHands_32 : decode cX8_areTwoHands 32 = .ok (.getfield 15, 3) := by decide +kernel
theorem dX8_areTwoHands_35 : decode cX8_areTwoHands 35 = .ok (.iload_n 2, 1) := by decide +kernel
theorem dX8_areTwoHands_36 : decode cX8_areTwoHands 36 = .ok (.iaload, 1) := by decide +kernel
theorem dX8_areTwoHands_37 : decode cX8_areTwoHands 37 = .ok (.aload_n 0, 1) := by decide +kernel
theorem dX8_areTwoHands_38 : decode cX8_areTwoHands 38 = .ok (.getfield 9, 3) := by decide +kernel
theorem dX8_areTwoHands_41 : decode cX8_areTwoHands 41 = .ok (.iload_n 1, 1) := by decide +kernel
theorem dX8_areTwoHands_42 : decode cX8_areTwoHands 42 = .ok (.iaload, 1) := by decide +kernel
theorem dX8_areTwoHands_43 : decode cX8_areTwoHands 43 = .ok (.imul, 1) := by decide +kernel
theorem dX8_areTwoHands_44 : decode cX8_areTwoHands 44 = .ok (.isub, 1) := by decide +kernel
theorem dX8_areTwoHands_45 : decode cX8_areTwoHands 45 = .ok (.invokestatic 77, 3) := by decide +kernel
theorem dX8_areTwoHands_48 : decode cX8_areTwoHands 48 = .ok (.istore_n 3, 1) := by decide +kernel
theorem dX8_areTwoHands_49 : decode cX8_areTwoHands 49 = .ok (.iload_n 3, 1) := by decide +kernel
theorem dX8_areTwoHands_50 : decode cX8_areTwoHands 50 = .ok (.bipush 10, 2) := by decide +kernel
theorem dX8_areTwoHands_52 : decode cX8_areTwoHands 52 = .ok (.imul, 1) := by decide +kernel
theorem dX8_areTwoHands_53 : decode cX8_areTwoHands 53 = .ok (.aload_n 0, 1) := by decide +kernel
theorem dX8_areTwoHands_54 : decode cX8_areTwoHands 54 = .ok (.getfield 49, 3) := by decide +kernel
theorem dX8_areTwoHands_57 : decode cX8_areTwoHands 57 = .ok (.aload_n 0, 1) := by decide +kernel
theorem dX8_areTwoHands_58 : decode cX8_areTwoHands 58 = .ok (.getfield 9, 3) := by decide +kernel
theorem dX8_areTwoHands_61 : decode cX8_areTwoHands 61 = .ok (.iload_n 1, 1) := by decide +kernel
theorem dX8_areTwoHands_62 : decode cX8_areTwoHands 62 = .ok (.iaload, 1) := by decide +kernel
theorem dX8_areTwoHands_63 : decode cX8_areTwoHands 63 = .ok (.imul, 1) := by decide +kernel
theorem dX8_areTwoHands_64 : decode cX8_areTwoHands 64 = .ok (.aload_n 0, 1) := by decide +kernel
theorem dX8_areTwoHands_65 : decode cX8_areTwoHands 65 = .ok (.getfield 9, 3) := by decide +kernel
theorem dX8_areTwoHands_68 : decode cX8_areTwoHands 68 = .ok (.iload_n 2, 1) := by decide +kernel
theorem dX8_areTwoHands_69 : decode cX8_areTwoHands 69 = .ok (.iaload, 1) := by decide +kernel
theorem dX8_areTwoHands_70 : decode cX8_areTwoHands 70 = .ok (.imul, 1) := by decide +kernel
theorem dX8_areTwoHands_71 : decode cX8_areTwoHands 71 = .ok (.if_icmp .le 7, 3) := by decide +kernel
theorem dX8_areTwoHands_74 : decode cX8_areTwoHands 74 = .ok (.iconst 1, 1) := by decide +kernel
theorem dX8_areTwoHands_75 : decode cX8_areTwoHands 75 = .ok (.goto 4, 3) := by decide +kernel
theorem dX8_areTwoHands_78 : decode cX8_areTwoHands 78 = .ok (.iconst 0, 1) := by decide +kernel
theorem dX8_areTwoHands_79 : decode cX8_areTwoHands 79 = .ok (.ireturn, 1) := by decide +kernel
theorem dX8_handOfLeast_0 : decode cX8_handOfLeast 0 = .ok (.iconst (-1), 1) := by decide +kernel
theorem dX8_handOfLeast_1 : decode cX8_handOfLeast 1 = .ok (.istore_n 2, 1) := by decide +kernel
theorem dX8_handOfLeast_2 : decode cX8_handOfLeast 2 = .ok (.iconst 0, 1) := by decide +kernel
theorem dX8_handOfLeast_3 : decode cX8_handOfLeast 3 = .ok (.istore_n 3, 1) := by decide +kernel
theorem dX8_handOfLeast_4 : decode cX8_handOfLeast 4 = .ok (.iload_n 3, 1) := by decide +kernel
theorem dX8_handOfLeast_5 : decode cX8_handOfLeast 5 = .ok (.aload_n 0, 1) := by decide +kernel
theorem dX8_handOfLeast_6 : decode cX8_handOfLeast 6 = .ok (.getfield 42, 3) := by decide +kernel
theorem dX8_handOfLeast_9 : decode cX8_handOfLeast 9 = .ok (.if_icmp .ge 52, 3) := by decide +kernel
theorem dX8_handOfLeast_12 : decode cX8_handOfLeast 12 = .ok (.iload_n 1, 1) := by decide +kernel
theorem dX8_handOfLeast_13 : decode cX8_handOfLeast 13 = .ok (.iload_n 3, 1) := by decide +kernel
theorem dX8_handOfLeast_14 : decode cX8_handOfLeast 14 = .ok (.invokestatic 70, 3) := by decide +kernel
theorem dX8_handOfLeast_17 : decode cX8_handOfLeast 17 = .ok (.ifCond .eq 38, 3) := by decide +kernel
theorem dX8_handOfLeast_20 : decode cX8_handOfLeast 20 = .ok (.iload_n 2, 1) := by decide +kernel
theorem dX8_handOfLeast_21 : decode cX8_handOfLeast 21 = .ok (.ifCond .lt 32, 3) := by decide +kernel
theorem dX8_handOfLeast_24 : decode cX8_handOfLeast 24 = .ok (.aload_n 0, 1) := by decide +kernel
theorem dX8_handOfLeast_25 : decode cX8_handOfLeast 25 = .ok (.getfield 15, 3) := by decide +kernel
theorem dX8_handOfLeast_28 : decode cX8_handOfLeast 28 = .ok (.iload_n 3, 1) := by decide +kernel
theorem dX8_handOfLeast_29 : decode cX8_handOfLeast 29 = .ok (.iaload, 1) := by decide +kernel
theorem dX8_handOfLeast_30 : decode cX8_handOfLeast 30 = .ok (.aload_n 0, 1) := by decide +kernel
theorem dX8_handOfLeast_31 : decode cX8_handOfLeast 31 = .ok (.getfield 9, 3) := by decide +kernel
theorem dX8_handOfLeast_34 : decode cX8_handOfLeast 34 = .ok (.iload_n 2, 1) := by decide +kernel
theorem dX8_handOfLeast_35 : decode cX8_handOfLeast 35 = .ok (.iaload, 1) := by decide +kernel
theorem dX8_handOfLeast_36 : decode cX8_handOfLeast 36 = .ok (.imul, 1) := by decide +kernel
theorem dX8_handOfLeast_37 : decode cX8_handOfLeast 37 = .ok (.aload_n 0, 1) := by decide +kernel
theorem dX8_handOfLeast_38 : decode cX8_handOfLeast 38 = .ok (.getfield 15, 3) := by decide +kernel
theorem dX8_handOfLeast_41 : decode cX8_handOfLeast 41 = .ok (.iload_n 2, 1) := by decide +kernel
theorem dX8_handOfLeast_42 : decode cX8_handOfLeast 42 = .ok (.iaload, 1) := by decide +kernel
theorem dX8_handOfLeast_43 : decode cX8_handOfLeast 43 = .ok (.aload_n 0, 1) := by decide +kernel
theorem dX8_handOfLeast_44 : decode cX8_handOfLeast 44 = .ok (.getfield 9, 3) := by decide +kernel
theorem dX8_handOfLeast_47 : decode cX8_handOfLeast 47 = .ok (.iload_n 3, 1) := by decide +kernel
theorem dX8_handOfLeast_48 : decode cX8_handOfLeast 48 = .ok (.iaload, 1) := by decide +kernel
theorem dX8_handOfLeast_49 : decode cX8_handOfLeast 49 = .ok (.imul, 1) := by decide +kernel
theorem dX8_handOfLeast_50 : decode cX8_handOfLeast 50 = .ok (.if_icmp .ge 5, 3) := by decide +kernel
theorem dX8_handOfLeast_53 : decode cX8_handOfLeast 53 = .ok (.iload_n 3, 1) := by decide +kernel
theorem dX8_handOfLeast_54 : decode cX8_handOfLeast 54 = .ok (.istore_n 2, 1) := by decide +kernel
theorem dX8_handOfLeast_55 : decode cX8_handOfLeast 55 = .ok (.iinc 3 1, 3) := by decide +kernel
theorem dX8_handOfLeast_58 : decode cX8_handOfLeast 58 = .ok (.goto (-54), 3) := by decide +kernel
theorem dX8_handOfLeast_61 : decode cX8_handOfLeast 61 = .ok (.iconst 0, 1) := by decide +kernel
theorem dX8_handOfLeast_62 : decode cX8_handOfLeast 62 = .ok (.istore_n 3, 1) := by decide +kernel
theorem dX8_handOfLeast_63 : decode cX8_handOfLeast 63 = .ok (.iconst 0, 1) := by decide +kernel
theorem dX8_handOfLeast_64 : decode cX8_handOfLeast 64 = .ok (.istore 4, 2) := by decide +kernel
theorem dX8_handOfLeast_66 : decode cX8_handOfLeast 66 = .ok (.iload 4, 2) := by decide +kernel
theorem dX8_handOfLeast_68 : decode cX8_handOfLeast 68 = .ok (.aload_n 0, 1) := by decide +kernel
theorem dX8_handOfLeast_69 : decode cX8_handOfLeast 69 = .ok (.getfield 42, 3) := by decide +kernel
theorem dX8_handOfLeast_72 : decode cX8_handOfLeast 72 = .ok (.if_icmp .ge 35, 3) := by decide +kernel
theorem dX8_handOfLeast_75 : decode cX8_handOfLeast 75 = .ok (.iload_n 1, 1) := by decide +kernel
theorem dX8_handOfLeast_76 : decode cX8_handOfLeast 76 = .ok (.iload 4, 2) := by decide +kernel
theorem dX8_handOfLeast_78 : decode cX8_handOfLeast 78 = .ok (.invokestatic 70, 3) := by decide +kernel
theorem dX8_handOfLeast_81 : decode cX8_handOfLeast 81 = .ok (.ifCond .eq 20, 3) := by decide +kernel
theorem dX8_handOfLeast_84 : decode cX8_handOfLeast 84 = .ok (.aload_n 0, 1) := by decide +kernel
theorem dX8_handOfLeast_85 : decode cX8_handOfLeast 85 = .ok (.iload_n 2, 1) := by decide +kernel
theorem dX8_handOfLeast_86 : decode cX8_handOfLeast 86 = .ok (.iload 4, 2) := by decide +kernel
theorem dX8_handOfLeast_88 : decode cX8_handOfLeast 88 = .ok (.invokevirtual 83, 3) := by decide +kernel
theorem dX8_handOfLeast_91 : decode cX8_handOfLeast 91 = .ok (.ifCond .ne 10, 3) := by decide +kernel
theorem dX8_handOfLeast_94 : decode cX8_handOfLeast 94 = .ok (.iload_n 3, 1) := by decide +kernel
theorem dX8_handOfLeast_95 : decode cX8_handOfLeast 95 = .ok (.iconst 1, 1) := by decide +kernel
theorem dX8_handOfLeast_96 : decode cX8_handOfLeast 96 = .ok (.iload 4, 2) := by decide +kernel
theorem dX8_handOfLeast_98 : decode cX8_handOfLeast 98 = .ok (.ishl, 1) := by decide +kernel
theorem dX8_handOfLeast_99 : decode cX8_handOfLeast 99 = .ok (.ior, 1) := by decide +kernel
theorem dX8_handOfLeast_100 : decode cX8_handOfLeast 100 = .ok (.istore_n 3, 1) := by decide +kernel
theorem dX8_handOfLeast_101 : decode cX8_handOfLeast 101 = .ok (.iinc 4 1, 3) := by decide +kernel
theorem dX8_handOfLeast_104 : decode cX8_handOfLeast 104 = .ok (.goto (-38), 3) := by decide +kernel
theorem dX8_handOfLeast_107 : decode cX8_handOfLeast 107 = .ok (.iload_n 3, 1) := by decide +kernel
theorem dX8_handOfLeast_108 : decode cX8_handOfLeast 108 = .ok (.ireturn, 1) := by decide +kernel
theorem dX9_init_0 : decode cX9_init 0 = .ok (.aload_n 0, 1) := by decide +kernel
theorem dX9_init_1 : decode cX9_init 1 = .ok (.invokespecial 1, 3) := by decide +kernel
theorem dX9_init_4 : decode cX9_init 4 = .ok (.aload_n 0, 1) := by decide +kernel
theorem dX9_init_5 : decode cX9_init 5 = .ok (.sipush 400, 3) := by decide +kernel
theorem dX9_init_8 : decode cX9_init 8 = .ok (.newarray .byte, 2) := by decide +kernel
theorem dX9_init_10 : decode cX9_init 10 = .ok (.putfield 9, 3) := by decide +kernel
theorem dX9_init_13 : decode cX9_init 13 = .ok (.return_, 1) := by decide +kernel
theorem dX9_length_0 : decode cX9_length 0 = .ok (.aload_n 0, 1) := by decide +kernel
theorem dX9_length_1 : decode cX9_length 1 = .ok (.getfield 13, 3) := by decide +kernel
theorem dX9_length_4 : decode cX9_length 4 = .ok (.ireturn, 1) := by decide +kernel
theorem dX9_append_0 : decode cX9_append 0 = .ok (.aload_n 0, 1) := by decide +kernel
theorem dX9_append_1 : decode cX9_append 1 = .ok (.getfield 13, 3) := by decide +kernel
theorem dX9_append_4 : decode cX9_append 4 = .ok (.bipush 8, 2) := by decide +kernel
theorem dX9_append_6 : decode cX9_append 6 = .ok (.iadd, 1) := by decide +kernel
theorem dX9_append_7 : decode cX9_append 7 = .ok (.sipush 400, 3) := by decide +kernel
theorem dX9_append_10 : decode cX9_append 10 = .ok (.if_icmp .le 5, 3) := by decide +kernel
theorem dX9_append_13 : decode cX9_append 13 = .ok (.iconst 0, 1) := by decide +kernel
theorem dX9_append_14 : decode cX9_append 14 = .ok (.ireturn, 1) := by decide +kernel
theorem dX9_append_15 : decode cX9_append 15 = .ok (.iconst 0, 1) := by decide +kernel
theorem dX9_append_16 : decode cX9_append 16 = .ok (.istore_n 3, 1) := by decide +kernel
theorem dX9_append_17 : decode cX9_append 17 = .ok (.iload_n 3, 1) := by decide +kernel
theorem dX9_append_18 : decode cX9_append 18 = .ok (.bipush 8, 2) := by decide +kernel
theorem dX9_append_20 : decode cX9_append 20 = .ok (.if_icmp .ge 31, 3) := by decide +kernel
theorem dX9_append_23 : decode cX9_append 23 = .ok (.aload_n 0, 1) := by decide +kernel
theorem dX9_append_24 : decode cX9_append 24 = .ok (.getfield 9, 3) := by decide +kernel
theorem dX9_append_27 : decode cX9_append 27 = .ok (.aload_n 0, 1) := by decide +kernel
theorem dX9_append_28 : decode cX9_append 28 = .ok (.getfield 13, 3) := by decide +kernel
theorem dX9_append_31 : decode cX9_append 31 = .ok (.iload_n 3, 1) := by decide +kernel
theorem dX9_append_32 : decode cX9_append 32 = .ok (.iadd, 1) := by decide +kernel
theorem dX9_append_33 : decode cX9_append 33 = .ok (.lload_n 1, 1) := by decide +kernel
theorem dX9_append_34 : decode cX9_append 34 = .ok (.bipush 56, 2) := by decide +kernel
theorem dX9_append_36 : decode cX9_append 36 = .ok (.bipush 8, 2) := by decide +kernel
theorem dX9_append_38 : decode cX9_append 38 = .ok (.iload_n 3, 1) := by decide +kernel
theorem dX9_append_39 : decode cX9_append 39 = .ok (.imul, 1) := by decide +kernel
theorem dX9_append_40 : decode cX9_append 40 = .ok (.isub, 1) := by decide +kernel
theorem dX9_append_41 : decode cX9_append 41 = .ok (.lushr, 1) := by decide +kernel
theorem dX9_append_42 : decode cX9_append 42 = .ok (.l2i, 1) := by decide +kernel
theorem dX9_append_43 : decode cX9_append 43 = .ok (.i2b, 1) := by decide +kernel
theorem dX9_append_44 : decode cX9_append 44 = .ok (.bastore, 1) := by decide +kernel
theorem dX9_append_45 : decode cX9_append 45 = .ok (.iinc 3 1, 3) := by decide +kernel
theorem dX9_append_48 : decode cX9_append 48 = .ok (.goto (-31), 3) := by decide +kernel
theorem dX9_append_51 : decode cX9_append 51 = .ok (.aload_n 0, 1) := by decide +kernel
theorem dX9_append_52 : decode cX9_append 52 = .ok (.dup, 1) := by decide +kernel
theorem dX9_append_53 : decode cX9_append 53 = .ok (.getfield 13, 3) := by decide +kernel
theorem dX9_append_56 : decode cX9_append 56 = .ok (.bipush 8, 2) := by decide +kernel
theorem dX9_append_58 : decode cX9_append 58 = .ok (.iadd, 1) := by decide +kernel
theorem dX9_append_59 : decode cX9_append 59 = .ok (.putfield 13, 3) := by decide +kernel
theorem dX9_append_62 : decode cX9_append 62 = .ok (.iconst 1, 1) := by decide +kernel
theorem dX9_append_63 : decode cX9_append 63 = .ok (.ireturn, 1) := by decide +kernel
theorem dX9_keep_0 : decode cX9_keep 0 = .ok (.iload_n 1, 1) := by decide +kernel
theorem dX9_keep_1 : decode cX9_keep 1 = .ok (.ifCond .lt 11, 3) := by decide +kernel
theorem dX9_keep_4 : decode cX9_keep 4 = .ok (.iload_n 1, 1) := by decide +kernel
theorem dX9_keep_5 : decode cX9_keep 5 = .ok (.aload_n 0, 1) := by decide +kernel
theorem dX9_keep_6 : decode cX9_keep 6 = .ok (.getfield 13, 3) := by decide +kernel
theorem dX9_keep_9 : decode cX9_keep 9 = .ok (.if_icmp .le 5, 3) := by decide +kernel
theorem dX9_keep_12 : decode cX9_keep 12 = .ok (.iconst 0, 1) := by decide +kernel
theorem dX9_keep_13 : decode cX9_keep 13 = .ok (.ireturn, 1) := by decide +kernel
theorem dX9_keep_14 : decode cX9_keep 14 = .ok (.aload_n 0, 1) := by decide +kernel
theorem dX9_keep_15 : decode cX9_keep 15 = .ok (.iload_n 1, 1) := by decide +kernel
theorem dX9_keep_16 : decode cX9_keep 16 = .ok (.putfield 13, 3) := by decide +kernel
theorem dX9_keep_19 : decode cX9_keep 19 = .ok (.iconst 1, 1) := by decide +kernel
theorem dX9_keep_20 : decode cX9_keep 20 = .ok (.ireturn, 1) := by decide +kernel
theorem dX9_rewind_0 : decode cX9_rewind 0 = .ok (.aload_n 0, 1) := by decide +kernel
theorem dX9_rewind_1 : decode cX9_rewind 1 = .ok (.iconst 0, 1) := by decide +kernel
theorem dX9_rewind_2 : decode cX9_rewind 2 = .ok (.putfield 17, 3) := by decide +kernel
theorem dX9_rewind_5 : decode cX9_rewind 5 = .ok (.aload_n 0, 1) := by decide +kernel
theorem dX9_rewind_6 : decode cX9_rewind 6 = .ok (.iconst 0, 1) := by decide +kernel
theorem dX9_rewind_7 : decode cX9_rewind 7 = .ok (.putfield 20, 3) := by decide +kernel
theorem dX9_rewind_10 : decode cX9_rewind 10 = .ok (.return_, 1) := by decide +kernel
theorem dX9_scan_0 : decode cX9_scan 0 = .ok (.aload_n 0, 1) := by decide +kernel
theorem dX9_scan_1 : decode cX9_scan 1 = .ok (.getfield 20, 3) := by decide +kernel
theorem dX9_scan_4 : decode cX9_scan 4 = .ok (.aload_n 0, 1) := by decide +kernel
theorem dX9_scan_5 : decode cX9_scan 5 = .ok (.getfield 13, 3) := by decide +kernel
theorem dX9_scan_8 : decode cX9_scan 8 = .ok (.if_icmp .ge 30, 3) := by decide +kernel
theorem dX9_scan_11 : decode cX9_scan 11 = .ok (.aload_n 0, 1) := by decide +kernel
theorem dX9_scan_12 : decode cX9_scan 12 = .ok (.getfield 9, 3) := by decide +kernel
theorem dX9_scan_15 : decode cX9_scan 15 = .ok (.aload_n 0, 1) := by decide +kernel
theorem dX9_scan_16 : decode cX9_scan 16 = .ok (.getfield 20, 3) := by decide +kernel
theorem dX9_scan_19 : decode cX9_scan 19 = .ok (.baload, 1) := by decide +kernel
theorem dX9_scan_20 : decode cX9_scan 20 = .ok (.bipush 32, 2) := by decide +kernel
theorem dX9_scan_22 : decode cX9_scan 22 = .ok (.if_icmp .ne 16, 3) := by decide +kernel
theorem dX9_scan_25 : decode cX9_scan 25 = .ok (.aload_n 0, 1) := by decide +kernel
theorem dX9_scan_26 : decode cX9_scan 26 = .ok (.dup, 1) := by decide +kernel
theorem dX9_scan_27 : decode cX9_scan 27 = .ok (.getfield 20, 3) := by decide +kernel
theorem dX9_scan_30 : decode cX9_scan 30 = .ok (.iconst 1, 1) := by decide +kernel
theorem dX9_scan_31 : decode cX9_scan 31 = .ok (.iadd, 1) := by decide +kernel
theorem dX9_scan_32 : decode cX9_scan 32 = .ok (.putfield 20, 3) := by decide +kernel
theorem dX9_scan_35 : decode cX9_scan 35 = .ok (.goto (-35), 3) := by decide +kernel
theorem dX9_scan_38 : decode cX9_scan 38 = .ok (.aload_n 0, 1) := by decide +kernel
theorem dX9_scan_39 : decode cX9_scan 39 = .ok (.aload_n 0, 1) := by decide +kernel
theorem dX9_scan_40 : decode cX9_scan 40 = .ok (.getfield 20, 3) := by decide +kernel
theorem dX9_scan_43 : decode cX9_scan 43 = .ok (.putfield 17, 3) := by decide +kernel
theorem dX9_scan_46 : decode cX9_scan 46 = .ok (.aload_n 0, 1) := by decide +kernel
theorem dX9_scan_47 : decode cX9_scan 47 = .ok (.getfield 20, 3) := by decide +kernel
theorem dX9_scan_50 : decode cX9_scan 50 = .ok (.aload_n 0, 1) := by decide +kernel
theorem dX9_scan_51 : decode cX9_scan 51 = .ok (.getfield 13, 3) := by decide +kernel
theorem dX9_scan_54 : decode cX9_scan 54 = .ok (.if_icmp .lt 5, 3) := by decide +kernel
theorem dX9_scan_57 : decode cX9_scan 57 = .ok (.iconst 1, 1) := by decide +kernel
theorem dX9_scan_58 : decode cX9_scan 58 = .ok (.ireturn, 1) := by decide +kernel
theorem dX9_scan_59 : decode cX9_scan 59 = .ok (.aload_n 0, 1) := by decide +kernel
theorem dX9_scan_60 : decode cX9_scan 60 = .ok (.getfield 9, 3) := by decide +kernel
theorem dX9_scan_63 : decode cX9_scan 63 = .ok (.aload_n 0, 1) := by decide +kernel
theorem dX9_scan_64 : decode cX9_scan 64 = .ok (.getfield 20, 3) := by decide +kernel
theorem dX9_scan_67 : decode cX9_scan 67 = .ok (.baload, 1) := by decide +kernel
theorem dX9_scan_68 : decode cX9_scan 68 = .ok (.invokestatic 23, 3) := by decide +kernel
theorem dX9_scan_71 : decode cX9_scan 71 = .ok (.istore_n 1, 1) := by decide +kernel
theorem dX9_scan_72 : decode cX9_scan 72 = .ok (.aload_n 0, 1) := by decide +kernel
theorem dX9_scan_73 : decode cX9_scan 73 = .ok (.dup, 1) := by decide +kernel
theorem dX9_scan_74 : decode cX9_scan 74 = .ok (.getfield 20, 3) := by decide +kernel
theorem dX9_scan_77 : decode cX9_scan 77 = .ok (.iconst 1, 1) := by decide +kernel
theorem dX9_scan_78 : decode cX9_scan 78 = .ok (.iadd, 1) := by decide +kernel
theorem dX9_scan_79 : decode cX9_scan 79 = .ok (.putfield 20, 3) := by decide +kernel
theorem dX9_scan_82 : decode cX9_scan 82 = .ok (.iload_n 1, 1) := by decide +kernel
theorem dX9_scan_83 : decode cX9_scan 83 = .ok (.iconst 2, 1) := by decide +kernel
theorem dX9_scan_84 : decode cX9_scan 84 = .ok (.if_icmp .eq 8, 3) := by decide +kernel
theorem dX9_scan_87 : decode cX9_scan 87 = .ok (.iload_n 1, 1) := by decide +kernel
theorem dX9_scan_88 : decode cX9_scan 88 = .ok (.iconst 3, 1) := by decide +kernel
theorem dX9_scan_89 : decode cX9_scan 89 = .ok (.if_icmp .ne 7, 3) := by decide +kernel
theorem dX9_scan_92 : decode cX9_scan 92 = .ok (.iconst 1, 1) := by decide +kernel
theorem dX9_scan_93 : decode cX9_scan 93 = .ok (.goto 4, 3) := by decide +kernel
theorem dX9_scan_96 : decode cX9_scan 96 = .ok (.iconst 0, 1) := by decide +kernel
theorem dX9_scan_97 : decode cX9_scan 97 = .ok (.istore_n 2, 1) := by decide +kernel
theorem dX9_scan_98 : decode cX9_scan 98 = .ok (.iload_n 2, 1) := by decide +kernel
theorem dX9_scan_99 : decode cX9_scan 99 = .ok (.ifCond .eq 43, 3) := by decide +kernel
theorem dX9_scan_102 : decode cX9_scan 102 = .ok (.aload_n 0, 1) := by decide +kernel
theorem dX9_scan_103 : decode cX9_scan 103 = .ok (.getfield 20, 3) := by decide +kernel
theorem dX9_scan_106 : decode cX9_scan 106 = .ok (.aload_n 0, 1) := by decide +kernel
theorem dX9_scan_107 : decode cX9_scan 107 = .ok (.getfield 13, 3) := by decide +kernel
theorem dX9_scan_110 : decode cX9_scan 110 = .ok (.if_icmp .ge 32, 3) := by decide +kernel
theorem dX9_scan_113 : decode cX9_scan 113 = .ok (.aload_n 0, 1) := by decide +kernel
theorem dX9_scan_114 : decode cX9_scan 114 = .ok (.getfield 9, 3) := by decide +kernel
theorem dX9_scan_117 : decode cX9_scan 117 = .ok (.aload_n 0, 1) := by decide +kernel
theorem dX9_scan_118 : decode cX9_scan 118 = .ok (.getfield 20, 3) := by decide +kernel
theorem dX9_scan_121 : decode cX9_scan 121 = .ok (.baload, 1) := by decide +kernel
theorem dX9_scan_122 : decode cX9_scan 122 = .ok (.invokestatic 23, 3) := by decide +kernel
theorem dX9_scan_125 : decode cX9_scan 125 = .ok (.iload_n 1, 1) := by decide +kernel
theorem dX9_scan_126 : decode cX9_scan 126 = .ok (.if_icmp .ne 16, 3) := by decide +kernel
theorem dX9_scan_129 : decode cX9_scan 129 = .ok (.aload_n 0, 1) := by decide +kernel
theorem dX9_scan_130 : decode cX9_scan 130 = .ok (.dup, 1) := by decide +kernel
theorem dX9_scan_131 : decode cX9_scan 131 = .ok (.getfield 20, 3) := by decide +kernel
theorem dX9_scan_134 : decode cX9_scan 134 = .ok (.iconst 1, 1) := by decide +kernel
theorem dX9_scan_135 : decode cX9_scan 135 = .ok (.iadd, 1) := by decide +kernel
theorem dX9_scan_136 : decode cX9_scan 136 = .ok (.putfield 20, 3) := by decide +kernel
theorem dX9_scan_139 : decode cX9_scan 139 = .ok (.goto (-41), 3) := by decide +kernel
theorem dX9_scan_142 : decode cX9_scan 142 = .ok (.iload_n 1, 1) := by decide +kernel
theorem dX9_scan_143 : decode cX9_scan 143 = .ok (.iconst 3, 1) := by decide +kernel
theorem dX9_scan_144 : decode cX9_scan 144 = .ok (.if_icmp .ne 20, 3) := by decide +kernel
theorem dX9_scan_147 : decode cX9_scan 147 = .ok (.aload_n 0, 1) := by decide +kernel
theorem dX9_scan_148 : decode cX9_scan 148 = .ok (.getfield 20, 3) := by decide +kernel
theorem dX9_scan_151 : decode cX9_scan 151 = .ok (.aload_n 0, 1) := by decide +kernel
theorem dX9_scan_152 : decode cX9_scan 152 = .ok (.getfield 17, 3) := by decide +kernel
theorem dX9_scan_155 : decode cX9_scan 155 = .ok (.isub, 1) := by decide +kernel
theorem dX9_scan_156 : decode cX9_scan 156 = .ok (.iconst 3, 1) := by decide +kernel
theorem dX9_scan_157 : decode cX9_scan 157 = .ok (.if_icmp .le 7, 3) := by decide +kernel
theorem dX9_scan_160 : decode cX9_scan 160 = .ok (.iconst 0, 1) := by decide +kernel
theorem dX9_scan_161 : decode cX9_scan 161 = .ok (.goto 4, 3) := by decide +kernel
theorem dX9_scan_164 : decode cX9_scan 164 = .ok (.iload_n 1, 1) := by decide +kernel
theorem dX9_scan_165 : decode cX9_scan 165 = .ok (.ireturn, 1) := by decide +kernel
theorem dX9_kindOf_0 : decode cX9_kindOf 0 = .ok (.iload_n 0, 1) := by decide +kernel
theorem dX9_kindOf_1 : decode cX9_kindOf 1 = .ok (.bipush 97, 2) := by decide +kernel
theorem dX9_kindOf_3 : decode cX9_kindOf 3 = .ok (.if_icmp .lt 11, 3) := by decide +kernel
theorem dX9_kindOf_6 : decode cX9_kindOf 6 = .ok (.iload_n 0, 1) := by decide +kernel
theorem dX9_kindOf_7 : decode cX9_kindOf 7 = .ok (.bipush 122, 2) := by decide +kernel
theorem dX9_kindOf_9 : decode cX9_kindOf 9 = .ok (.if_icmp .gt 5, 3) := by decide +kernel
theorem dX9_kindOf_12 : decode cX9_kindOf 12 = .ok (.iconst 2, 1) := by decide +kernel
theorem dX9_kindOf_13 : decode cX9_kindOf 13 = .ok (.ireturn, 1) := by decide +kernel
theorem dX9_kindOf_14 : decode cX9_kindOf 14 = .ok (.iload_n 0, 1) := by decide +kernel
theorem dX9_kindOf_15 : decode cX9_kindOf 15 = .ok (.bipush 48, 2) := by decide +kernel
theorem dX9_kindOf_17 : decode cX9_kindOf 17 = .ok (.if_icmp .lt 11, 3) := by decide +kernel
theorem dX9_kindOf_20 : decode cX9_kindOf 20 = .ok (.iload_n 0, 1) := by decide +kernel
theorem dX9_kindOf_21 : decode cX9_kindOf 21 = .ok (.bipush 57, 2) := by decide +kernel
theorem dX9_kindOf_23 : decode cX9_kindOf 23 = .ok (.if_icmp .gt 5, 3) := by decide +kernel
theorem dX9_kindOf_26 : decode cX9_kindOf 26 = .ok (.iconst 3, 1) := by decide +kernel
theorem dX9_kindOf_27 : decode cX9_kindOf 27 = .ok (.ireturn, 1) := by decide +kernel
theorem dX9_kindOf_28 : decode cX9_kindOf 28 = .ok (.iload_n 0, 1) := by decide +kernel
theorem dX9_kindOf_29 : decode cX9_kindOf 29 = .ok (.bipush 59, 2) := by decide +kernel
theorem dX9_kindOf_31 : decode cX9_kindOf 31 = .ok (.if_icmp .ne 7, 3) := by decide +kernel
theorem dX9_kindOf_34 : decode cX9_kindOf 34 = .ok (.iconst 4, 1) := by decide +kernel
theorem dX9_kindOf_35 : decode cX9_kindOf 35 = .ok (.goto 4, 3) := by decide +kernel
theorem dX9_kindOf_38 : decode cX9_kindOf 38 = .ok (.iconst 0, 1) := by decide +kernel
theorem dX9_kindOf_39 : decode cX9_kindOf 39 = .ok (.ireturn, 1) := by decide +kernel
theorem dX9_tokenPlace_0 : decode cX9_tokenPlace 0 = .ok (.aload_n 0, 1) := by decide +kernel
theorem dX9_tokenPlace_1 : decode cX9_tokenPlace 1 = .ok (.getfield 17, 3) := by decide +kernel
theorem dX9_tokenPlace_4 : decode cX9_tokenPlace 4 = .ok (.ireturn, 1) := by decide +kernel
theorem dX9_tokenLength_0 : decode cX9_tokenLength 0 = .ok (.aload_n 0, 1) := by decide +kernel
theorem dX9_tokenLength_1 : decode cX9_tokenLength 1 = .ok (.getfield 20, 3) := by decide +kernel
theorem dX9_tokenLength_4 : decode cX9_tokenLength 4 = .ok (.aload_n 0, 1) := by decide +kernel
theorem dX9_tokenLength_5 : decode cX9_tokenLength 5 = .ok (.getfield 17, 3) := by decide +kernel
theorem dX9_tokenLength_8 : decode cX9_tokenLength 8 = .ok (.isub, 1) := by decide +kernel
theorem dX9_tokenLength_9 : decode cX9_tokenLength 9 = .ok (.ireturn, 1) := by decide +kernel
theorem dX9_tokenByte_0 : decode cX9_tokenByte 0 = .ok (.aload_n 0, 1) := by decide +kernel
theorem dX9_tokenByte_1 : decode cX9_tokenByte 1 = .ok (.getfield 17, 3) := by decide +kernel
theorem dX9_tokenByte_4 : decode cX9_tokenByte 4 = .ok (.iload_n 1, 1) := by decide +kernel
theorem dX9_tokenByte_5 : decode cX9_tokenByte 5 = .ok (.iadd, 1) := by decide +kernel
theorem dX9_tokenByte_6 : decode cX9_tokenByte 6 = .ok (.istore_n 2, 1) := by decide +kernel
theorem dX9_tokenByte_7 : decode cX9_tokenByte 7 = .ok (.iload_n 1, 1) := by decide +kernel
theorem dX9_tokenByte_8 : decode cX9_tokenByte 8 = .ok (.ifCond .lt 32, 3) := by decide +kernel
theorem dX9_tokenByte_11 : decode cX9_tokenByte 11 = .ok (.iload_n 2, 1) := by decide +kernel
theorem dX9_tokenByte_12 : decode cX9_tokenByte 12 = .ok (.ifCond .lt 28, 3) := by decide +kernel
theorem dX9_tokenByte_15 : decode cX9_tokenByte 15 = .ok (.iload_n 2, 1) := by decide +kernel
theorem dX9_tokenByte_16 : decode cX9_tokenByte 16 = .ok (.aload_n 0, 1) := by decide +kernel
theorem dX9_tokenByte_17 : decode cX9_tokenByte 17 = .ok (.getfield 20, 3) := by decide +kernel
theorem dX9_tokenByte_20 : decode cX9_tokenByte 20 = .ok (.if_icmp .ge 20, 3) := by decide +kernel
theorem dX9_tokenByte_23 : decode cX9_tokenByte 23 = .ok (.iload_n 2, 1) := by decide +kernel
theorem dX9_tokenByte_24 : decode cX9_tokenByte 24 = .ok (.aload_n 0, 1) := by decide +kernel
theorem dX9_tokenByte_25 : decode cX9_tokenByte 25 = .ok (.getfield 13, 3) := by decide +kernel
theorem dX9_tokenByte_28 : decode cX9_tokenByte 28 = .ok (.if_icmp .ge 12, 3) := by decide +kernel
theorem dX9_tokenByte_31 : decode cX9_tokenByte 31 = .ok (.aload_n 0, 1) := by decide +kernel
theorem dX9_tokenByte_32 : decode cX9_tokenByte 32 = .ok (.getfield 9, 3) := by decide +kernel
theorem dX9_tokenByte_35 : decode cX9_tokenByte 35 = .ok (.iload_n 2, 1) := by decide +kernel
theorem dX9_tokenByte_36 : decode cX9_tokenByte 36 = .ok (.baload, 1) := by decide +kernel
theorem dX9_tokenByte_37 : decode cX9_tokenByte 37 = .ok (.goto 4, 3) := by decide +kernel
theorem dX9_tokenByte_40 : decode cX9_tokenByte 40 = .ok (.iconst 0, 1) := by decide +kernel
theorem dX9_tokenByte_41 : decode cX9_tokenByte 41 = .ok (.ireturn, 1) := by decide +kernel
theorem dX9_tokenNumber_0 : decode cX9_tokenNumber 0 = .ok (.iconst 0, 1) := by decide +kernel
theorem dX9_tokenNumber_1 : decode cX9_tokenNumber 1 = .ok (.istore_n 1, 1) := by decide +kernel
theorem dX9_tokenNumber_2 : decode cX9_tokenNumber 2 = .ok (.iconst 0, 1) := by decide +kernel
theorem dX9_tokenNumber_3 : decode cX9_tokenNumber 3 = .ok (.istore_n 2, 1) := by decide +kernel
theorem dX9_tokenNumber_4 : decode cX9_tokenNumber 4 = .ok (.iload_n 2, 1) := by decide +kernel
theorem dX9_tokenNumber_5 : decode cX9_tokenNumber 5 = .ok (.aload_n 0, 1) := by decide +kernel
theorem dX9_tokenNumber_6 : decode cX9_tokenNumber 6 = .ok (.invokevirtual 27, 3) := by decide +kernel
theorem dX9_tokenNumber_9 : decode cX9_tokenNumber 9 = .ok (.if_icmp .ge 23, 3) := by decide +kernel
theorem dX9_tokenNumber_12 : decode cX9_tokenNumber 12 = .ok (.iload_n 1, 1) := by decide +kernel
theorem dX9_tokenNumber_13 : decode cX9_tokenNumber 13 = .ok (.bipush 10, 2) := by decide +kernel
theorem dX9_tokenNumber_15 : decode cX9_tokenNumber 15 = .ok (.imul, 1) := by decide +kernel
theorem dX9_tokenNumber_16 : decode cX9_tokenNumber 16 = .ok (.aload_n 0, 1) := by decide +kernel
theorem dX9_tokenNumber_17 : decode cX9_tokenNumber 17 = .ok (.iload_n 2, 1) := by decide +kernel
theorem dX9_tokenNumber_18 : decode cX9_tokenNumber 18 = .ok (.invokevirtual 31, 3) := by decide +kernel
theorem dX9_tokenNumber_21 : decode cX9_tokenNumber 21 = .ok (.iadd, 1) := by decide +kernel
theorem dX9_tokenNumber_22 : decode cX9_tokenNumber 22 = .ok (.bipush 48, 2) := by decide +kernel
theorem dX9_tokenNumber_24 : decode cX9_tokenNumber 24 = .ok (.isub, 1) := by decide +kernel
theorem dX9_tokenNumber_25 : decode cX9_tokenNumber 25 = .ok (.istore_n 1, 1) := by decide +kernel
theorem dX9_tokenNumber_26 : decode cX9_tokenNumber 26 = .ok (.iinc 2 1, 3) := by decide +kernel
theorem dX9_tokenNumber_29 : decode cX9_tokenNumber 29 = .ok (.goto (-25), 3) := by decide +kernel
theorem dX9_tokenNumber_32 : decode cX9_tokenNumber 32 = .ok (.iload_n 1, 1) := by decide +kernel
theorem dX9_tokenNumber_33 : decode cX9_tokenNumber 33 = .ok (.ireturn, 1) := by decide +kernel
theorem dX9_tokenIs_0 : decode cX9_tokenIs 0 = .ok (.aload_n 0, 1) := by decide +kernel
theorem dX9_tokenIs_1 : decode cX9_tokenIs 1 = .ok (.invokevirtual 27, 3) := by decide +kernel
theorem dX9_tokenIs_4 : decode cX9_tokenIs 4 = .ok (.aload_n 1, 1) := by decide +kernel
theorem dX9_tokenIs_5 : decode cX9_tokenIs 5 = .ok (.invokevirtual 34, 3) := by decide +kernel
theorem dX9_tokenIs_8 : decode cX9_tokenIs 8 = .ok (.if_icmp .eq 5, 3) := by decide +kernel
theorem dX9_tokenIs_11 : decode cX9_tokenIs 11 = .ok (.iconst 0, 1) := by decide +kernel
theorem dX9_tokenIs_12 : decode cX9_tokenIs 12 = .ok (.ireturn, 1) := by decide +kernel
theorem dX9_tokenIs_13 : decode cX9_tokenIs 13 = .ok (.iconst 0, 1) := by decide +kernel
theorem dX9_tokenIs_14 : decode cX9_tokenIs 14 = .ok (.istore_n 2, 1) := by decide +kernel
theorem dX9_tokenIs_15 : decode cX9_tokenIs 15 = .ok (.iload_n 2, 1) := by decide +kernel
theorem dX9_tokenIs_16 : decode cX9_tokenIs 16 = .ok (.aload_n 1, 1) := by decide +kernel
theorem dX9_tokenIs_17 : decode cX9_tokenIs 17 = .ok (.invokevirtual 34, 3) := by decide +kernel
theorem dX9_tokenIs_20 : decode cX9_tokenIs 20 = .ok (.if_icmp .ge 24, 3) := by decide +kernel
theorem dX9_tokenIs_23 : decode cX9_tokenIs 23 = .ok (.aload_n 0, 1) := by decide +kernel
theorem dX9_tokenIs_24 : decode cX9_tokenIs 24 = .ok (.iload_n 2, 1) := by decide +kernel
theorem dX9_tokenIs_25 : decode cX9_tokenIs 25 = .ok (.invokevirtual 31, 3) := by decide +kernel
theorem dX9_tokenIs_28 : decode cX9_tokenIs 28 = .ok (.aload_n 1, 1) := by decide +kernel
theorem dX9_tokenIs_29 : decode cX9_tokenIs 29 = .ok (.iload_n 2, 1) := by decide +kernel
theorem dX9_tokenIs_30 : decode cX9_tokenIs 30 = .ok (.invokevirtual 38, 3) := by decide +kernel
theorem dX9_tokenIs_33 : decode cX9_tokenIs 33 = .ok (.if_icmp .eq 5, 3) := by decide +kernel
theorem dX9_tokenIs_36 : decode cX9_tokenIs 36 = .ok (.iconst 0, 1) := by decide +kernel
theorem dX9_tokenIs_37 : decode cX9_tokenIs 37 = .ok (.ireturn, 1) := by decide +kernel
theorem dX9_tokenIs_38 : decode cX9_tokenIs 38 = .ok (.iinc 2 1, 3) := by decide +kernel
theorem dX9_tokenIs_41 : decode cX9_tokenIs 41 = .ok (.goto (-26), 3) := by decide +kernel
theorem dX9_tokenIs_44 : decode cX9_tokenIs 44 = .ok (.iconst 1, 1) := by decide +kernel
theorem dX9_tokenIs_45 : decode cX9_tokenIs 45 = .ok (.ireturn, 1) := by decide +kernel
theorem dX10_init_0 : decode cX10_init 0 = .ok (.aload_n 0, 1) := by decide +kernel
theorem dX10_init_1 : decode cX10_init 1 = .ok (.invokespecial 1, 3) := by decide +kernel
theorem dX10_init_4 : decode cX10_init 4 = .ok (.aload_n 0, 1) := by decide +kernel
theorem dX10_init_5 : decode cX10_init 5 = .ok (.new 7, 3) := by decide +kernel
theorem dX10_init_8 : decode cX10_init 8 = .ok (.dup, 1) := by decide +kernel
theorem dX10_init_9 : decode cX10_init 9 = .ok (.invokespecial 9, 3) := by decide +kernel
theorem dX10_init_12 : decode cX10_init 12 = .ok (.putfield 10, 3) := by decide +kernel
theorem dX10_init_15 : decode cX10_init 15 = .ok (.aload_n 0, 1) := by decide +kernel
theorem dX10_init_16 : decode cX10_init 16 = .ok (.new 16, 3) := by decide +kernel
theorem dX10_init_19 : decode cX10_init 19 = .ok (.dup, 1) := by decide +kernel
theorem dX10_init_20 : decode cX10_init 20 = .ok (.invokespecial 18, 3) := by decide +kernel
theorem dX10_init_23 : decode cX10_init 23 = .ok (.putfield 19, 3) := by decide +kernel
theorem dX10_init_26 : decode cX10_init 26 = .ok (.aload_n 0, 1) := by decide +kernel
theorem dX10_init_27 : decode cX10_init 27 = .ok (.new 16, 3) := by decide +kernel
theorem dX10_init_30 : decode cX10_init 30 = .ok (.dup, 1) := by decide +kernel
theorem dX10_init_31 : decode cX10_init 31 = .ok (.invokespecial 18, 3) := by decide +kernel
theorem dX10_init_34 : decode cX10_init 34 = .ok (.putfield 23, 3) := by decide +kernel
theorem dX10_init_37 : decode cX10_init 37 = .ok (.aload_n 0, 1) := by decide +kernel
theorem dX10_init_38 : decode cX10_init 38 = .ok (.new 26, 3) := by decide +kernel
theorem dX10_init_41 : decode cX10_init 41 = .ok (.dup, 1) := by decide +kernel
theorem dX10_init_42 : decode cX10_init 42 = .ok (.aload_n 0, 1) := by decide +kernel
theorem dX10_init_43 : decode cX10_init 43 = .ok (.getfield 10, 3) := by decide +kernel
theorem dX10_init_46 : decode cX10_init 46 = .ok (.aload_n 0, 1) := by decide +kernel
theorem dX10_init_47 : decode cX10_init 47 = .ok (.getfield 23, 3) := by decide +kernel
theorem dX10_init_50 : decode cX10_init 50 = .ok (.invokespecial 28, 3) := by decide +kernel
theorem dX10_init_53 : decode cX10_init 53 = .ok (.putfield 31, 3) := by decide +kernel
theorem dX10_init_56 : decode cX10_init 56 = .ok (.aload_n 0, 1) := by decide +kernel
theorem dX10_init_57 : decode cX10_init 57 = .ok (.new 35, 3) := by decide +kernel
theorem dX10_init_60 : decode cX10_init 60 = .ok (.dup, 1) := by decide +kernel
theorem dX10_init_61 : decode cX10_init 61 = .ok (.invokespecial 37, 3) := by decide +kernel
theorem dX10_init_64 : decode cX10_init 64 = .ok (.putfield 38, 3) := by decide +kernel
theorem dX10_init_67 : decode cX10_init 67 = .ok (.aload_n 0, 1) := by decide +kernel
theorem dX10_init_68 : decode cX10_init 68 = .ok (.new 42, 3) := by decide +kernel
theorem dX10_init_71 : decode cX10_init 71 = .ok (.dup, 1) := by decide +kernel
theorem dX10_init_72 : decode cX10_init 72 = .ok (.invokespecial 44, 3) := by decide +kernel
theorem dX10_init_75 : decode cX10_init 75 = .ok (.putfield 45, 3) := by decide +kernel
theorem dX10_init_78 : decode cX10_init 78 = .ok (.aload_n 0, 1) := by decide +kernel
theorem dX10_init_79 : decode cX10_init 79 = .ok (.new 49, 3) := by decide +kernel
theorem dX10_init_82 : decode cX10_init 82 = .ok (.dup, 1) := by decide +kernel
theorem dX10_init_83 : decode cX10_init 83 = .ok (.invokespecial 51, 3) := by decide +kernel
theorem dX10_init_86 : decode cX10_init 86 = .ok (.putfield 52, 3) := by decide +kernel
theorem dX10_init_89 : decode cX10_init 89 = .ok (.aload_n 0, 1) := by decide +kernel
theorem dX10_init_90 : decode cX10_init 90 = .ok (.new 56, 3) := by decide +kernel
theorem dX10_init_93 : decode cX10_init 93 = .ok (.dup, 1) := by decide +kernel
theorem dX10_init_94 : decode cX10_init 94 = .ok (.invokespecial 58, 3) := by decide +kernel
theorem dX10_init_97 : decode cX10_init 97 = .ok (.putfield 59, 3) := by decide +kernel
theorem dX10_init_100 : decode cX10_init 100 = .ok (.aload_n 0, 1) := by decide +kernel
theorem dX10_init_101 : decode cX10_init 101 = .ok (.new 63, 3) := by decide +kernel
theorem dX10_init_104 : decode cX10_init 104 = .ok (.dup, 1) := by decide +kernel
theorem dX10_init_105 : decode cX10_init 105 = .ok (.invokespecial 65, 3) := by decide +kernel
theorem dX10_init_108 : decode cX10_init 108 = .ok (.putfield 66, 3) := by decide +kernel
theorem dX10_init_111 : decode cX10_init 111 = .ok (.aload_n 0, 1) := by decide +kernel
theorem dX10_init_112 : decode cX10_init 112 = .ok (.new 70, 3) := by decide +kernel
theorem dX10_init_115 : decode cX10_init 115 = .ok (.dup, 1) := by decide +kernel
theorem dX10_init_116 : decode cX10_init 116 = .ok (.invokespecial 72, 3) := by decide +kernel
theorem dX10_init_119 : decode cX10_init 119 = .ok (.putfield 73, 3) := by decide +kernel
theorem dX10_init_122 : decode cX10_init 122 = .ok (.aload_n 0, 1) := by decide +kernel
theorem dX10_init_123 : decode cX10_init 123 = .ok (.iconst 4, 1) := by decide +kernel
theorem dX10_init_124 : decode cX10_init 124 = .ok (.anewarray 77, 3) := by decide +kernel
theorem dX10_init_127 : decode cX10_init 127 = .ok (.putfield 79, 3) := by decide +kernel
theorem dX10_init_130 : decode cX10_init 130 = .ok (.iconst 0, 1) := by decide +kernel
theorem dX10_init_131 : decode cX10_init 131 = .ok (.istore_n 1, 1) := by decide +kernel
theorem dX10_init_132 : decode cX10_init 132 = .ok (.iload_n 1, 1) := by decide +kernel
theorem dX10_init_133 : decode cX10_init 133 = .ok (.iconst 4, 1) := by decide +kernel
theorem dX10_init_134 : decode cX10_init 134 = .ok (.if_icmp .ge 22, 3) := by decide +kernel
theorem dX10_init_137 : decode cX10_init 137 = .ok (.aload_n 0, 1) := by decide +kernel
theorem dX10_init_138 : decode cX10_init 138 = .ok (.getfield 79, 3) := by decide +kernel
theorem dX10_init_141 : decode cX10_init 141 = .ok (.iload_n 1, 1) := by decide +kernel
theorem dX10_init_142 : decode cX10_init 142 = .ok (.new 77, 3) := by decide +kernel
theorem dX10_init_145 : decode cX10_init 145 = .ok (.dup, 1) := by decide +kernel
theorem dX10_init_146 : decode cX10_init 146 = .ok (.invokespecial 83, 3) := by decide +kernel
theorem dX10_init_149 : decode cX10_init 149 = .ok (.aastore, 1) := by decide +kernel
theorem dX10_init_150 : decode cX10_init 150 = .ok (.iinc 1 1, 3) := by decide +kernel
theorem dX10_init_153 : decode cX10_init 153 = .ok (.goto (-21), 3) := by decide +kernel
theorem dX10_init_156 : decode cX10_init 156 = .ok (.return_, 1) := by decide +kernel
theorem dX10_feed_0 : decode cX10_feed 0 = .ok (.aload_n 0, 1) := by decide +kernel
theorem dX10_feed_1 : decode cX10_feed 1 = .ok (.getfield 10, 3) := by decide +kernel
theorem dX10_feed_4 : decode cX10_feed 4 = .ok (.lload_n 1, 1) := by decide +kernel
theorem dX10_feed_5 : decode cX10_feed 5 = .ok (.invokevirtual 84, 3) := by decide +kernel
theorem dX10_feed_8 : decode cX10_feed 8 = .ok (.ifCond .eq 13, 3) := by decide +kernel
theorem dX10_feed_11 : decode cX10_feed 11 = .ok (.aload_n 0, 1) := by decide +kernel
theorem dX10_feed_12 : decode cX10_feed 12 = .ok (.getfield 10, 3) := by decide +kernel
theorem dX10_feed_15 : decode cX10_feed 15 = .ok (.invokevirtual 88, 3) := by decide +kernel
theorem dX10_feed_18 : decode cX10_feed 18 = .ok (.goto 5, 3) := by decide +kernel
theorem dX10_feed_21 : decode cX10_feed 21 = .ok (.bipush (-3), 2) := by decide +kernel
theorem dX10_feed_23 : decode cX10_feed 23 = .ok (.ireturn, 1) := by decide +kernel
theorem dX10_end_0 : decode cX10_end 0 = .ok (.aload_n 0, 1) := by decide +kernel
theorem dX10_end_1 : decode cX10_end 1 = .ok (.getfield 10, 3) := by decide +kernel
theorem dX10_end_4 : decode cX10_end 4 = .ok (.invokevirtual 88, 3) := by decide +kernel
theorem dX10_end_7 : decode cX10_end 7 = .ok (.istore_n 2, 1) := by decide +kernel
theorem dX10_end_8 : decode cX10_end 8 = .ok (.aload_n 0, 1) := by decide +kernel
theorem dX10_end_9 : decode cX10_end 9 = .ok (.getfield 10, 3) := by decide +kernel
theorem dX10_end_12 : decode cX10_end 12 = .ok (.iload_n 1, 1) := by decide +kernel
theorem dX10_end_13 : decode cX10_end 13 = .ok (.invokevirtual 92, 3) := by decide +kernel
theorem dX10_end_16 : decode cX10_end 16 = .ok (.ifCond .eq 7, 3) := by decide +kernel
theorem dX10_end_19 : decode cX10_end 19 = .ok (.iload_n 2, 1) := by decide +kernel
theorem dX10_end_20 : decode cX10_end 20 = .ok (.goto 4, 3) := by decide +kernel
theorem dX10_end_23 : decode cX10_end 23 = .ok (.iconst (-1), 1) := by decide +kernel
theorem dX10_end_24 : decode cX10_end 24 = .ok (.ireturn, 1) := by decide +kernel
theorem dX10_text_0 : decode cX10_text 0 = .ok (.aload_n 0, 1) := by decide +kernel
theorem dX10_text_1 : decode cX10_text 1 = .ok (.getfield 31, 3) := by decide +kernel
theorem dX10_text_4 : decode cX10_text 4 = .ok (.aload_n 0, 1) := by decide +kernel
theorem dX10_text_5 : decode cX10_text 5 = .ok (.getfield 23, 3) := by decide +kernel
theorem dX10_text_8 : decode cX10_text 8 = .ok (.invokevirtual 96, 3) := by decide +kernel
theorem dX10_text_11 : decode cX10_text 11 = .ok (.iconst 0, 1) := by decide +kernel
theorem dX10_text_12 : decode cX10_text 12 = .ok (.istore_n 1, 1) := by decide +kernel
theorem dX10_text_13 : decode cX10_text 13 = .ok (.iload_n 1, 1) := by decide +kernel
theorem dX10_text_14 : decode cX10_text 14 = .ok (.sipush 400, 3) := by decide +kernel
theorem dX10_text_17 : decode cX10_text 17 = .ok (.if_icmp .gt 19, 3) := by decide +kernel
theorem dX10_text_20 : decode cX10_text 20 = .ok (.aload_n 0, 1) := by decide +kernel
theorem dX10_text_21 : decode cX10_text 21 = .ok (.getfield 31, 3) := by decide +kernel
theorem dX10_text_24 : decode cX10_text 24 = .ok (.invokevirtual 100, 3) := by decide +kernel
theorem dX10_text_27 : decode cX10_text 27 = .ok (.ifCond .eq 9, 3) := by decide +kernel
theorem dX10_text_30 : decode cX10_text 30 = .ok (.iinc 1 1, 3) := by decide +kernel
theorem dX10_text_33 : decode cX10_text 33 = .ok (.goto (-20), 3) := by decide +kernel
theorem dX10_text_36 : decode cX10_text 36 = .ok (.aload_n 0, 1) := by decide +kernel
theorem dX10_text_37 : decode cX10_text 37 = .ok (.getfield 10, 3) := by decide +kernel
theorem dX10_text_40 : decode cX10_text 40 = .ok (.iconst 0, 1) := by decide +kernel
theorem dX10_text_41 : decode cX10_text 41 = .ok (.invokevirtual 92, 3) := by decide +kernel
theorem dX10_text_44 : decode cX10_text 44 = .ok (.pop, 1) := by decide +kernel
theorem dX10_text_45 : decode cX10_text 45 = .ok (.aload_n 0, 1) := by decide +kernel
theorem dX10_text_46 : decode cX10_text 46 = .ok (.getfield 31, 3) := by decide +kernel
theorem dX10_text_49 : decode cX10_text 49 = .ok (.invokevirtual 104, 3) := by decide +kernel
theorem dX10_text_52 : decode cX10_text 52 = .ok (.ifCond .eq 14, 3) := by decide +kernel
theorem dX10_text_55 : decode cX10_text 55 = .ok (.bipush (-10), 2) := by decide +kernel
theorem dX10_text_57 : decode cX10_text 57 = .ok (.aload_n 0, 1) := by decide +kernel
theorem dX10_text_58 : decode cX10_text 58 = .ok (.getfield 31, 3) := by decide +kernel
theorem dX10_text_61 : decode cX10_text 61 = .ok (.invokevirtual 107, 3) := by decide +kernel
theorem dX10_text_64 : decode cX10_text 64 = .ok (.isub, 1) := by decide +kernel
theorem dX10_text_65 : decode cX10_text 65 = .ok (.ireturn, 1) := by decide +kernel
theorem dX10_text_66 : decode cX10_text 66 = .ok (.aload_n 0, 1) := by decide +kernel
theorem dX10_text_67 : decode cX10_text 67 = .ok (.getfield 19, 3) := by decide +kernel
theorem dX10_text_70 : decode cX10_text 70 = .ok (.astore_n 2, 1) := by decide +kernel
theorem dX10_text_71 : decode cX10_text 71 = .ok (.aload_n 0, 1) := by decide +kernel
theorem dX10_text_72 : decode cX10_text 72 = .ok (.aload_n 0, 1) := by decide +kernel
theorem dX10_text_73 : decode cX10_text 73 = .ok (.getfield 23, 3) := by decide +kernel
theorem dX10_text_76 : decode cX10_text 76 = .ok (.putfield 19, 3) := by decide +kernel
theorem dX10_text_79 : decode cX10_text 79 = .ok (.aload_n 0, 1) := by decide +kernel
theorem dX10_text_80 : decode cX10_text 80 = .ok (.aload_n 2, 1) := by decide +kernel
theorem dX10_text_81 : decode cX10_text 81 = .ok (.putfield 23, 3) := by decide +kernel
theorem dX10_text_84 : decode cX10_text 84 = .ok (.aload_n 0, 1) := by decide +kernel
theorem dX10_text_85 : decode cX10_text 85 = .ok (.getfield 38, 3) := by decide +kernel
theorem dX10_text_88 : decode cX10_text 88 = .ok (.aload_n 0, 1) := by decide +kernel
theorem dX10_text_89 : decode cX10_text 89 = .ok (.getfield 19, 3) := by decide +kernel
theorem dX10_text_92 : decode cX10_text 92 = .ok (.invokevirtual 110, 3) := by decide +kernel
theorem dX10_text_95 : decode cX10_text 95 = .ok (.aload_n 0, 1) := by decide +kernel
theorem dX10_text_96 : decode cX10_text 96 = .ok (.getfield 52, 3) := by decide +kernel
theorem dX10_text_99 : decode cX10_text 99 = .ok (.aload_n 0, 1) := by decide +kernel
theorem dX10_text_100 : decode cX10_text 100 = .ok (.getfield 19, 3) := by decide +kernel
theorem dX10_text_103 : decode cX10_text 103 = .ok (.invokevirtual 113, 3) := by decide +kernel
theorem dX10_text_106 : decode cX10_text 106 = .ok (.iload_n 1, 1) := by decide +kernel
theorem dX10_text_107 : decode cX10_text 107 = .ok (.ireturn, 1) := by decide +kernel
theorem dX10_fault_0 : decode cX10_fault 0 = .ok (.aload_n 0, 1) := by decide +kernel
theorem dX10_fault_1 : decode cX10_fault 1 = .ok (.getfield 31, 3) := by decide +kernel
theorem dX10_fault_4 : decode cX10_fault 4 = .ok (.invokevirtual 104, 3) := by decide +kernel
theorem dX10_fault_7 : decode cX10_fault 7 = .ok (.ireturn, 1) := by decide +kernel
theorem dX10_told_0 : decode cX10_told 0 = .ok (.iload_n 1, 1) := by decide +kernel
theorem dX10_told_1 : decode cX10_told 1 = .ok (.tableswitch 51 0 2 #[27, 35, 43], 27) := by decide +kernel
theorem dX10_told_28 : decode cX10_told 28 = .ok (.aload_n 0, 1) := by decide +kernel
theorem dX10_told_29 : decode cX10_told 29 = .ok (.getfield 19, 3) := by decide +kernel
theorem dX10_told_32 : decode cX10_told 32 = .ok (.invokevirtual 114, 3) := by decide +kernel
theorem dX10_told_35 : decode cX10_told 35 = .ok (.ireturn, 1) := by decide +kernel
theorem dX10_told_36 : decode cX10_told 36 = .ok (.aload_n 0, 1) := by decide +kernel
theorem dX10_told_37 : decode cX10_told 37 = .ok (.getfield 19, 3) := by decide +kernel
theorem dX10_told_40 : decode cX10_told 40 = .ok (.invokevirtual 117, 3) := by decide +kernel
theorem dX10_told_43 : decode cX10_told 43 = .ok (.ireturn, 1) := by decide +kernel
theorem dX10_told_44 : decode cX10_told 44 = .ok (.aload_n 0, 1) := by decide +kernel
theorem dX10_told_45 : decode cX10_told 45 = .ok (.getfield 19, 3) := by decide +kernel
theorem dX10_told_48 : decode cX10_told 48 = .ok (.invokevirtual 120, 3) := by decide +kernel
theorem dX10_told_51 : decode cX10_told 51 = .ok (.ireturn, 1) := by decide +kernel
theorem dX10_told_52 : decode cX10_told 52 = .ok (.iload_n 1, 1) := by decide +kernel
theorem dX10_told_53 : decode cX10_told 53 = .ok (.bipush 10, 2) := by decide +kernel
theorem dX10_told_55 : decode cX10_told 55 = .ok (.bipush 15, 2) := by decide +kernel
theorem dX10_told_57 : decode cX10_told 57 = .ok (.invokestatic 123, 3) := by decide +kernel
theorem dX10_told_60 : decode cX10_told 60 = .ok (.ifCond .eq 15, 3) := by decide +kernel
theorem dX10_told_63 : decode cX10_told 63 = .ok (.aload_n 0, 1) := by decide +kernel
theorem dX10_told_64 : decode cX10_told 64 = .ok (.getfield 19, 3) := by decide +kernel
theorem dX10_told_67 : decode cX10_told 67 = .ok (.iload_n 1, 1) := by decide +kernel
theorem dX10_told_68 : decode cX10_told 68 = .ok (.bipush 10, 2) := by decide +kernel
theorem dX10_told_70 : decode cX10_told 70 = .ok (.isub, 1) := by decide +kernel
theorem dX10_told_71 : decode cX10_told 71 = .ok (.invokevirtual 127, 3) := by decide +kernel
theorem dX10_told_74 : decode cX10_told 74 = .ok (.ireturn, 1) := by decide +kernel
theorem dX10_told_75 : decode cX10_told 75 = .ok (.iload_n 1, 1) := by decide +kernel
theorem dX10_told_76 : decode cX10_told 76 = .ok (.bipush 20, 2) := by decide +kernel
theorem dX10_told_78 : decode cX10_told 78 = .ok (.bipush 25, 2) := by decide +kernel
theorem dX10_told_80 : decode cX10_told 80 = .ok (.invokestatic 123, 3) := by decide +kernel
theorem dX10_told_83 : decode cX10_told 83 = .ok (.ifCond .eq 17, 3) := by decide +kernel
theorem dX10_told_86 : decode cX10_told 86 = .ok (.aload_n 0, 1) := by decide +kernel
theorem dX10_told_87 : decode cX10_told 87 = .ok (.getfield 19, 3) := by decide +kernel
theorem dX10_told_90 : decode cX10_told 90 = .ok (.iload_n 1, 1) := by decide +kernel
theorem dX10_told_91 : decode cX10_told 91 = .ok (.bipush 20, 2) := by decide +kernel
theorem dX10_told_93 : decode cX10_told 93 = .ok (.isub, 1) := by decide +kernel
theorem dX10_told_94 : decode cX10_told 94 = .ok (.invokevirtual 131, 3) := by decide +kernel
theorem dX10_told_97 : decode cX10_told 97 = .ok (.goto 4, 3) := by decide +kernel
theorem dX10_told_100 : decode cX10_told 100 = .ok (.iconst (-1), 1) := by decide +kernel
theorem dX10_told_101 : decode cX10_told 101 = .ok (.ireturn, 1) := by decide +kernel
theorem dX10_thing_0 : decode cX10_thing 0 = .ok (.aload_n 0, 1) := by decide +kernel
theorem dX10_thing_1 : decode cX10_thing 1 = .ok (.getfield 19, 3) := by decide +kernel
theorem dX10_thing_4 : decode cX10_thing 4 = .ok (.iload_n 1, 1) := by decide +kernel
theorem dX10_thing_5 : decode cX10_thing 5 = .ok (.invokevirtual 134, 3) := by decide +kernel
theorem dX10_thing_8 : decode cX10_thing 8 = .ok (.ifCond .ne 5, 3) := by decide +kernel
theorem dX10_thing_11 : decode cX10_thing 11 = .ok (.iconst (-1), 1) := by decide +kernel
theorem dX10_thing_12 : decode cX10_thing 12 = .ok (.ireturn, 1) := by decide +kernel
theorem dX10_thing_13 : decode cX10_thing 13 = .ok (.iload_n 2, 1) := by decide +kernel
theorem dX10_thing_14 : decode cX10_thing 14 = .ok (.tableswitch 66 0 3 #[30, 39, 48, 57], 30) := by decide +kernel
theorem dX10_thing_44 : decode cX10_thing 44 = .ok (.aload_n 0, 1) := by decide +kernel
theorem dX10_thing_45 : decode cX10_thing 45 = .ok (.getfield 19, 3) := by decide +kernel
theorem dX10_thing_48 : decode cX10_thing 48 = .ok (.iload_n 1, 1) := by decide +kernel
theorem dX10_thing_49 : decode cX10_thing 49 = .ok (.invokevirtual 137, 3) := by decide +kernel
theorem dX10_thing_52 : decode cX10_thing 52 = .ok (.ireturn, 1) := by decide +kernel
theorem dX10_thing_53 : decode cX10_thing 53 = .ok (.aload_n 0, 1) := by decide +kernel
theorem dX10_thing_54 : decode cX10_thing 54 = .ok (.getfield 19, 3) := by decide +kernel
theorem dX10_thing_57 : decode cX10_thing 57 = .ok (.iload_n 1, 1) := by decide +kernel
theorem dX10_thing_58 : decode cX10_thing 58 = .ok (.invokevirtual 140, 3) := by decide +kernel
theorem dX10_thing_61 : decode cX10_thing 61 = .ok (.ireturn, 1) := by decide +kernel
theorem dX10_thing_62 : decode cX10_thing 62 = .ok (.aload_n 0, 1) := by decide +kernel
theorem dX10_thing_63 : decode cX10_thing 63 = .ok (.getfield 19, 3) := by decide +kernel
theorem dX10_thing_66 : decode cX10_thing 66 = .ok (.iload_n 1, 1) := by decide +kernel
theorem dX10_thing_67 : decode cX10_thing 67 = .ok (.invokevirtual 143, 3) := by decide +kernel
theorem dX10_thing_70 : decode cX10_thing 70 = .ok (.ireturn, 1) := by decide +kernel
theorem dX10_thing_71 : decode cX10_thing 71 = .ok (.aload_n 0, 1) := by decide +kernel
theorem dX10_thing_72 : decode cX10_thing 72 = .ok (.getfield 38, 3) := by decide +kernel
theorem dX10_thing_75 : decode cX10_thing 75 = .ok (.iload_n 1, 1) := by decide +kernel
theorem dX10_thing_76 : decode cX10_thing 76 = .ok (.invokevirtual 146, 3) := by decide +kernel
theorem dX10_thing_79 : decode cX10_thing 79 = .ok (.ireturn, 1) := by decide +kernel
theorem dX10_thing_80 : decode cX10_thing 80 = .ok (.iconst (-1), 1) := by decide +kernel
theorem dX10_thing_81 : decode cX10_thing 81 = .ok (.ireturn, 1) := by decide +kernel
theorem dX10_pattern_0 : decode cX10_pattern 0 = .ok (.aload_n 0, 1) := by decide +kernel
theorem dX10_pattern_1 : decode cX10_pattern 1 = .ok (.getfield 19, 3) := by decide +kernel
theorem dX10_pattern_4 : decode cX10_pattern 4 = .ok (.iload_n 1, 1) := by decide +kernel
theorem dX10_pattern_5 : decode cX10_pattern 5 = .ok (.invokevirtual 149, 3) := by decide +kernel
theorem dX10_pattern_8 : decode cX10_pattern 8 = .ok (.ifCond .eq 23, 3) := by decide +kernel
theorem dX10_pattern_11 : decode cX10_pattern 11 = .ok (.iload_n 2, 1) := by decide +kernel
theorem dX10_pattern_12 : decode cX10_pattern 12 = .ok (.iconst 0, 1) := by decide +kernel
theorem dX10_pattern_13 : decode cX10_pattern 13 = .ok (.bipush 7, 2) := by decide +kernel
theorem dX10_pattern_15 : decode cX10_pattern 15 = .ok (.invokestatic 123, 3) := by decide +kernel
theorem dX10_pattern_18 : decode cX10_pattern 18 = .ok (.ifCond .eq 13, 3) := by decide +kernel
theorem dX10_pattern_21 : decode cX10_pattern 21 = .ok (.iload_n 3, 1) := by decide +kernel
theorem dX10_pattern_22 : decode cX10_pattern 22 = .ok (.iconst 0, 1) := by decide +kernel
theorem dX10_pattern_23 : decode cX10_pattern 23 = .ok (.bipush 15, 2) := by decide +kernel
theorem dX10_pattern_25 : decode cX10_pattern 25 = .ok (.invokestatic 123, 3) := by decide +kernel
theorem dX10_pattern_28 : decode cX10_pattern 28 = .ok (.ifCond .ne 5, 3) := by decide +kernel
theorem dX10_pattern_31 : decode cX10_pattern 31 = .ok (.iconst (-1), 1) := by decide +kernel
theorem dX10_pattern_32 : decode cX10_pattern 32 = .ok (.ireturn, 1) := by decide +kernel
theorem dX10_pattern_33 : decode cX10_pattern 33 = .ok (.aload_n 0, 1) := by decide +kernel
theorem dX10_pattern_34 : decode cX10_pattern 34 = .ok (.getfield 19, 3) := by decide +kernel
theorem dX10_pattern_37 : decode cX10_pattern 37 = .ok (.iload_n 1, 1) := by decide +kernel
theorem dX10_pattern_38 : decode cX10_pattern 38 = .ok (.iload_n 2, 1) := by decide +kernel
theorem dX10_pattern_39 : decode cX10_pattern 39 = .ok (.iload_n 3, 1) := by decide +kernel
theorem dX10_pattern_40 : decode cX10_pattern 40 = .ok (.iconst 4, 1) := by decide +kernel
theorem dX10_pattern_41 : decode cX10_pattern 41 = .ok (.invokestatic 152, 3) := by decide +kernel
theorem dX10_pattern_44 : decode cX10_pattern 44 = .ok (.invokevirtual 156, 3) := by decide +kernel
theorem dX10_pattern_47 : decode cX10_pattern 47 = .ok (.istore 4, 2) := by decide +kernel
theorem dX10_pattern_49 : decode cX10_pattern 49 = .ok (.iload 4, 2) := by decide +kernel
theorem dX10_pattern_51 : decode cX10_pattern 51 = .ok (.ifCond .ge 8, 3) := by decide +kernel
theorem dX10_pattern_54 : decode cX10_pattern 54 = .ok (.bipush (-4), 2) := by decide +kernel
theorem dX10_pattern_56 : decode cX10_pattern 56 = .ok (.goto 5, 3) := by decide +kernel
theorem dX10_pattern_59 : decode cX10_pattern 59 = .ok (.iload 4, 2) := by decide +kernel
theorem dX10_pattern_61 : decode cX10_pattern 61 = .ok (.ireturn, 1) := by decide +kernel
theorem dX10_put_0 : decode cX10_put 0 = .ok (.iload_n 1, 1) := by decide +kernel
theorem dX10_put_1 : decode cX10_put 1 = .ok (.invokestatic 160, 3) := by decide +kernel
theorem dX10_put_4 : decode cX10_put 4 = .ok (.ifCond .eq 12, 3) := by decide +kernel
theorem dX10_put_7 : decode cX10_put 7 = .ok (.iload_n 2, 1) := by decide +kernel
theorem dX10_put_8 : decode cX10_put 8 = .ok (.iconst (-1), 1) := by decide +kernel
theorem dX10_put_9 : decode cX10_put 9 = .ok (.iconst 5, 1) := by decide +kernel
theorem dX10_put_10 : decode cX10_put 10 = .ok (.invokestatic 123, 3) := by decide +kernel
theorem dX10_put_13 : decode cX10_put 13 = .ok (.ifCond .ne 6, 3) := by decide +kernel
theorem dX10_put_16 : decode cX10_put 16 = .ok (.bipush (-9), 2) := by decide +kernel
theorem dX10_put_18 : decode cX10_put 18 = .ok (.ireturn, 1) := by decide +kernel
theorem dX10_put_19 : decode cX10_put 19 = .ok (.aload_n 0, 1) := by decide +kernel
theorem dX10_put_20 : decode cX10_put 20 = .ok (.getfield 45, 3) := by decide +kernel
theorem dX10_put_23 : decode cX10_put 23 = .ok (.iload_n 1, 1) := by decide +kernel
theorem dX10_put_24 : decode cX10_put 24 = .ok (.invokevirtual 163, 3) := by decide +kernel
theorem dX10_put_27 : decode cX10_put 27 = .ok (.istore_n 3, 1) := by decide +kernel
theorem dX10_put_28 : decode cX10_put 28 = .ok (.aload_n 0, 1) := by decide +kernel
theorem dX10_put_29 : decode cX10_put 29 = .ok (.getfield 45, 3) := by decide +kernel
theorem dX10_put_32 : decode cX10_put 32 = .ok (.iload_n 1, 1) := by decide +kernel
theorem dX10_put_33 : decode cX10_put 33 = .ok (.iload_n 2, 1) := by decide +kernel
theorem dX10_put_34 : decode cX10_put 34 = .ok (.invokevirtual 166, 3) := by decide +kernel
theorem dX10_put_37 : decode cX10_put 37 = .ok (.iload_n 3, 1) := by decide +kernel
theorem dX10_put_38 : decode cX10_put 38 = .ok (.ireturn, 1) := by decide +kernel
theorem dX10_at_0 : decode cX10_at 0 = .ok (.iload_n 1, 1) := by decide +kernel
theorem dX10_at_1 : decode cX10_at 1 = .ok (.invokestatic 160, 3) := by decide +kernel
theorem dX10_at_4 : decode cX10_at 4 = .ok (.ifCond .eq 14, 3) := by decide +kernel
theorem dX10_at_7 : decode cX10_at 7 = .ok (.aload_n 0, 1) := by decide +kernel
theorem dX10_at_8 : decode cX10_at 8 = .ok (.getfield 45, 3) := by decide +kernel
theorem dX10_at_11 : decode cX10_at 11 = .ok (.iload_n 1, 1) := by decide +kernel
theorem dX10_at_12 : decode cX10_at 12 = .ok (.invokevirtual 163, 3) := by decide +kernel
theorem dX10_at_15 : decode cX10_at 15 = .ok (.goto 5, 3) := by decide +kernel
theorem dX10_at_18 : decode cX10_at 18 = .ok (.bipush (-9), 2) := by decide +kernel
theorem dX10_at_20 : decode cX10_at 20 = .ok (.ireturn, 1) := by decide +kernel
theorem dX10_lay_0 : decode cX10_lay 0 = .ok (.aload_n 0, 1) := by decide +kernel
theorem dX10_lay_1 : decode cX10_lay 1 = .ok (.getfield 52, 3) := by decide +kernel
theorem dX10_lay_4 : decode cX10_lay 4 = .ok (.iload_n 1, 1) := by decide +kernel
theorem dX10_lay_5 : decode cX10_lay 5 = .ok (.iload_n 2, 1) := by decide +kernel
theorem dX10_lay_6 : decode cX10_lay 6 = .ok (.iload_n 3, 1) := by decide +kernel
theorem dX10_lay_7 : decode cX10_lay 7 = .ok (.iload 4, 2) := by decide +kernel
theorem dX10_lay_9 : decode cX10_lay 9 = .ok (.invokevirtual 170, 3) := by decide +kernel
theorem dX10_lay_12 : decode cX10_lay 12 = .ok (.istore 5, 2) := by decide +kernel
theorem dX10_lay_14 : decode cX10_lay 14 = .ok (.iload 5, 2) := by decide +kernel
theorem dX10_lay_16 : decode cX10_lay 16 = .ok (.ifCond .ge 5, 3) := by decide +kernel
theorem dX10_lay_19 : decode cX10_lay 19 = .ok (.iconst (-1), 1) := by decide +kernel
theorem dX10_lay_20 : decode cX10_lay 20 = .ok (.ireturn, 1) := by decide +kernel
theorem dX10_lay_21 : decode cX10_lay 21 = .ok (.aload_n 0, 1) := by decide +kernel
theorem dX10_lay_22 : decode cX10_lay 22 = .ok (.getfield 52, 3) := by decide +kernel
theorem dX10_lay_25 : decode cX10_lay 25 = .ok (.iload 5, 2) := by decide +kernel
theorem dX10_lay_27 : decode cX10_lay 27 = .ok (.aload_n 0, 1) := by decide +kernel
theorem dX10_lay_28 : decode cX10_lay 28 = .ok (.getfield 45, 3) := by decide +kernel
theorem dX10_lay_31 : decode cX10_lay 31 = .ok (.invokevirtual 174, 3) := by decide +kernel
theorem dX10_lay_34 : decode cX10_lay 34 = .ok (.ifCond .le 6, 3) := by decide +kernel
theorem dX10_lay_37 : decode cX10_lay 37 = .ok (.bipush (-2), 2) := by decide +kernel
theorem dX10_lay_39 : decode cX10_lay 39 = .ok (.ireturn, 1) := by decide +kernel
theorem dX10_lay_40 : decode cX10_lay 40 = .ok (.aload_n 0, 1) := by decide +kernel
theorem dX10_lay_41 : decode cX10_lay 41 = .ok (.getfield 52, 3) := by decide +kernel
theorem dX10_lay_44 : decode cX10_lay 44 = .ok (.iload 5, 2) := by decide +kernel
theorem dX10_lay_46 : decode cX10_lay 46 = .ok (.aload_n 0, 1) := by decide +kernel
theorem dX10_lay_47 : decode cX10_lay 47 = .ok (.getfield 45, 3) := by decide +kernel
theorem dX10_lay_50 : decode cX10_lay 50 = .ok (.invokevirtual 178, 3) := by decide +kernel
theorem dX10_lay_53 : decode cX10_lay 53 = .ok (.istore 6, 2) := by decide +kernel
theorem dX10_lay_55 : decode cX10_lay 55 = .ok (.aload_n 0, 1) := by decide +kernel
theorem dX10_lay_56 : decode cX10_lay 56 = .ok (.getfield 52, 3) := by decide +kernel
theorem dX10_lay_59 : decode cX10_lay 59 = .ok (.iload 5, 2) := by decide +kernel
theorem dX10_lay_61 : decode cX10_lay 61 = .ok (.aload_n 0, 1) := by decide +kernel
theorem dX10_lay_62 : decode cX10_lay 62 = .ok (.getfield 45, 3) := by decide +kernel
theorem dX10_lay_65 : decode cX10_lay 65 = .ok (.invokevirtual 181, 3) := by decide +kernel
theorem dX10_lay_68 : decode cX10_lay 68 = .ok (.iload 6, 2) := by decide +kernel
theorem dX10_lay_70 : decode cX10_lay 70 = .ok (.ireturn, 1) := by decide +kernel
theorem dX10_ahead_0 : decode cX10_ahead 0 = .ok (.aload_n 0, 1) := by decide +kernel
theorem dX10_ahead_1 : decode cX10_ahead 1 = .ok (.iload_n 1, 1) := by decide +kernel
theorem dX10_ahead_2 : decode cX10_ahead 2 = .ok (.iload_n 2, 1) := by decide +kernel
theorem dX10_ahead_3 : decode cX10_ahead 3 = .ok (.invokevirtual 185, 3) := by decide +kernel
theorem dX10_ahead_6 : decode cX10_ahead 6 = .ok (.ifCond .ne 5, 3) := by decide +kernel
theorem dX10_ahead_9 : decode cX10_ahead 9 = .ok (.iconst (-1), 1) := by decide +kernel
theorem dX10_ahead_10 : decode cX10_ahead 10 = .ok (.ireturn, 1) := by decide +kernel
theorem dX10_ahead_11 : decode cX10_ahead 11 = .ok (.aload_n 0, 1) := by decide +kernel
theorem dX10_ahead_12 : decode cX10_ahead 12 = .ok (.getfield 38, 3) := by decide +kernel
theorem dX10_ahead_15 : decode cX10_ahead 15 = .ok (.iload_n 2, 1) := by decide +kernel
theorem dX10_ahead_16 : decode cX10_ahead 16 = .ok (.invokevirtual 146, 3) := by decide +kernel
theorem dX10_ahead_19 : decode cX10_ahead 19 = .ok (.iload_n 1, 1) := by decide +kernel
theorem dX10_ahead_20 : decode cX10_ahead 20 = .ok (.invokestatic 189, 3) := by decide +kernel
theorem dX10_ahead_23 : decode cX10_ahead 23 = .ok (.ifCond .eq 7, 3) := by decide +kernel
theorem dX10_ahead_26 : decode cX10_ahead 26 = .ok (.iconst 1, 1) := by decide +kernel
theorem dX10_ahead_27 : decode cX10_ahead 27 = .ok (.goto 4, 3) := by decide +kernel
theorem dX10_ahead_30 : decode cX10_ahead 30 = .ok (.iconst 0, 1) := by decide +kernel
theorem dX10_ahead_31 : decode cX10_ahead 31 = .ok (.ireturn, 1) := by decide +kernel
theorem dX10_rings_0 : decode cX10_rings 0 = .ok (.iload_n 1, 1) := by decide +kernel
theorem dX10_rings_1 : decode cX10_rings 1 = .ok (.lookupswitch 43 #[(0, 27), (1, 35)], 27) := by decide +kernel
theorem dX10_rings_28 : decode cX10_rings 28 = .ok (.aload_n 0, 1) := by decide +kernel
theorem dX10_rings_29 : decode cX10_rings 29 = .ok (.getfield 38, 3) := by decide +kernel
theorem dX10_rings_32 : decode cX10_rings 32 = .ok (.invokevirtual 192, 3) := by decide +kernel
theorem dX10_rings_35 : decode cX10_rings 35 = .ok (.ireturn, 1) := by decide +kernel
theorem dX10_rings_36 : decode cX10_rings 36 = .ok (.aload_n 0, 1) := by decide +kernel
theorem dX10_rings_37 : decode cX10_rings 37 = .ok (.getfield 38, 3) := by decide +kernel
theorem dX10_rings_40 : decode cX10_rings 40 = .ok (.invokevirtual 195, 3) := by decide +kernel
theorem dX10_rings_43 : decode cX10_rings 43 = .ok (.ireturn, 1) := by decide +kernel
theorem dX10_rings_44 : decode cX10_rings 44 = .ok (.iconst (-1), 1) := by decide +kernel
theorem dX10_rings_45 : decode cX10_rings 45 = .ok (.ireturn, 1) := by decide +kernel
theorem dX10_rank_0 : decode cX10_rank 0 = .ok (.aload_n 0, 1) := by decide +kernel
theorem dX10_rank_1 : decode cX10_rank 1 = .ok (.getfield 19, 3) := by decide +kernel
theorem dX10_rank_4 : decode cX10_rank 4 = .ok (.iload_n 1, 1) := by decide +kernel
theorem dX10_rank_5 : decode cX10_rank 5 = .ok (.invokevirtual 134, 3) := by decide +kernel
theorem dX10_rank_8 : decode cX10_rank 8 = .ok (.ifCond .eq 12, 3) := by decide +kernel
theorem dX10_rank_11 : decode cX10_rank 11 = .ok (.iload_n 2, 1) := by decide +kernel
theorem dX10_rank_12 : decode cX10_rank 12 = .ok (.iconst 0, 1) := by decide +kernel
theorem dX10_rank_13 : decode cX10_rank 13 = .ok (.iconst 1, 1) := by decide +kernel
theorem dX10_rank_14 : decode cX10_rank 14 = .ok (.invokestatic 123, 3) := by decide +kernel
theorem dX10_rank_17 : decode cX10_rank 17 = .ok (.ifCond .ne 5, 3) := by decide +kernel
theorem dX10_rank_20 : decode cX10_rank 20 = .ok (.iconst (-1), 1) := by decide +kernel
theorem dX10_rank_21 : decode cX10_rank 21 = .ok (.ireturn, 1) := by decide +kernel
theorem dX10_rank_22 : decode cX10_rank 22 = .ok (.aload_n 0, 1) := by decide +kernel
theorem dX10_rank_23 : decode cX10_rank 23 = .ok (.getfield 38, 3) := by decide +kernel
theorem dX10_rank_26 : decode cX10_rank 26 = .ok (.invokevirtual 192, 3) := by decide +kernel
theorem dX10_rank_29 : decode cX10_rank 29 = .ok (.ifCond .eq 6, 3) := by decide +kernel
theorem dX10_rank_32 : decode cX10_rank 32 = .ok (.bipush (-2), 2) := by decide +kernel
theorem dX10_rank_34 : decode cX10_rank 34 = .ok (.ireturn, 1) := by decide +kernel
theorem dX10_rank_35 : decode cX10_rank 35 = .ok (.iload_n 2, 1) := by decide +kernel
theorem dX10_rank_36 : decode cX10_rank 36 = .ok (.ifCond .ne 15, 3) := by decide +kernel
theorem dX10_rank_39 : decode cX10_rank 39 = .ok (.aload_n 0, 1) := by decide +kernel
theorem dX10_rank_40 : decode cX10_rank 40 = .ok (.getfield 38, 3) := by decide +kernel
theorem dX10_rank_43 : decode cX10_rank 43 = .ok (.iload_n 1, 1) := by decide +kernel
theorem dX10_rank_44 : decode cX10_rank 44 = .ok (.invokevirtual 146, 3) := by decide +kernel
theorem dX10_rank_47 : decode cX10_rank 47 = .ok (.invokestatic 198, 3) := by decide +kernel
theorem dX10_rank_50 : decode cX10_rank 50 = .ok (.ireturn, 1) := by decide +kernel
theorem dX10_rank_51 : decode cX10_rank 51 = .ok (.aload_n 0, 1) := by decide +kernel
theorem dX10_rank_52 : decode cX10_rank 52 = .ok (.getfield 19, 3) := by decide +kernel
theorem dX10_rank_55 : decode cX10_rank 55 = .ok (.invokevirtual 114, 3) := by decide +kernel
theorem dX10_rank_58 : decode cX10_rank 58 = .ok (.iconst 1, 1) := by decide +kernel
theorem dX10_rank_59 : decode cX10_rank 59 = .ok (.isub, 1) := by decide +kernel
theorem dX10_rank_60 : decode cX10_rank 60 = .ok (.aload_n 0, 1) := by decide +kernel
theorem dX10_rank_61 : decode cX10_rank 61 = .ok (.getfield 38, 3) := by decide +kernel
theorem dX10_rank_64 : decode cX10_rank 64 = .ok (.iload_n 1, 1) := by decide +kernel
theorem dX10_rank_65 : decode cX10_rank 65 = .ok (.invokevirtual 203, 3) := by decide +kernel
theorem dX10_rank_68 : decode cX10_rank 68 = .ok (.invokestatic 198, 3) := by decide +kernel
theorem dX10_rank_71 : decode cX10_rank 71 = .ok (.isub, 1) := by decide +kernel
theorem dX10_rank_72 : decode cX10_rank 72 = .ok (.ireturn, 1) := by decide +kernel
theorem dX10_orders_0 : decode cX10_orders 0 = .ok (.aload_n 0, 1) := by decide +kernel
theorem dX10_orders_1 : decode cX10_orders 1 = .ok (.getfield 38, 3) := by decide +kernel
theorem dX10_orders_4 : decode cX10_orders 4 = .ok (.invokevirtual 192, 3) := by decide +kernel
theorem dX10_orders_7 : decode cX10_orders 7 = .ok (.ifCond .eq 9, 3) := by decide +kernel
theorem dX10_orders_10 : decode cX10_orders 10 = .ok (.ldc2_w 206, 3) := by decide +kernel
theorem dX10_orders_13 : decode cX10_orders 13 = .ok (.goto 10, 3) := by decide +kernel
theorem dX10_orders_16 : decode cX10_orders 16 = .ok (.aload_n 0, 1) := by decide +kernel
theorem dX10_orders_17 : decode cX10_orders 17 = .ok (.getfield 38, 3) := by decide +kernel
theorem dX10_orders_20 : decode cX10_orders 20 = .ok (.invokevirtual 208, 3) := by decide +kernel
theorem dX10_orders_23 : decode cX10_orders 23 = .ok (.lreturn, 1) := by decide +kernel
theorem dX10_likely_0 : decode cX10_likely 0 = .ok (.aload_n 0, 1) := by decide +kernel
theorem dX10_likely_1 : decode cX10_likely 1 = .ok (.iload_n 1, 1) := by decide +kernel
theorem dX10_likely_2 : decode cX10_likely 2 = .ok (.iload_n 2, 1) := by decide +kernel
theorem dX10_likely_3 : decode cX10_likely 3 = .ok (.invokevirtual 185, 3) := by decide +kernel
theorem dX10_likely_6 : decode cX10_likely 6 = .ok (.ifCond .eq 12, 3) := by decide +kernel
theorem dX10_likely_9 : decode cX10_likely 9 = .ok (.iload_n 3, 1) := by decide +kernel
theorem dX10_likely_10 : decode cX10_likely 10 = .ok (.iconst 0, 1) := by decide +kernel
theorem dX10_likely_11 : decode cX10_likely 11 = .ok (.iconst 1, 1) := by decide +kernel
theorem dX10_likely_12 : decode cX10_likely 12 = .ok (.invokestatic 123, 3) := by decide +kernel
theorem dX10_likely_15 : decode cX10_likely 15 = .ok (.ifCond .ne 7, 3) := by decide +kernel
theorem dX10_likely_18 : decode cX10_likely 18 = .ok (.ldc2_w 212, 3) := by decide +kernel
theorem dX10_likely_21 : decode cX10_likely 21 = .ok (.lreturn, 1) := by decide +kernel
theorem dX10_likely_22 : decode cX10_likely 22 = .ok (.aload_n 0, 1) := by decide +kernel
theorem dX10_likely_23 : decode cX10_likely 23 = .ok (.getfield 38, 3) := by decide +kernel
theorem dX10_likely_26 : decode cX10_likely 26 = .ok (.invokevirtual 192, 3) := by decide +kernel
theorem dX10_likely_29 : decode cX10_likely 29 = .ok (.ifCond .eq 7, 3) := by decide +kernel
theorem dX10_likely_32 : decode cX10_likely 32 = .ok (.ldc2_w 206, 3) := by decide +kernel
theorem dX10_likely_35 : decode cX10_likely 35 = .ok (.lreturn, 1) := by decide +kernel
theorem dX10_likely_36 : decode cX10_likely 36 = .ok (.aload_n 0, 1) := by decide +kernel
theorem dX10_likely_37 : decode cX10_likely 37 = .ok (.getfield 38, 3) := by decide +kernel
theorem dX10_likely_40 : decode cX10_likely 40 = .ok (.invokevirtual 208, 3) := by decide +kernel
theorem dX10_likely_43 : decode cX10_likely 43 = .ok (.lstore 4, 2) := by decide +kernel
theorem dX10_likely_45 : decode cX10_likely 45 = .ok (.aload_n 0, 1) := by decide +kernel
theorem dX10_likely_46 : decode cX10_likely 46 = .ok (.getfield 38, 3) := by decide +kernel
theorem dX10_likely_49 : decode cX10_likely 49 = .ok (.iload_n 1, 1) := by decide +kernel
theorem dX10_likely_50 : decode cX10_likely 50 = .ok (.iload_n 2, 1) := by decide +kernel
theorem dX10_likely_51 : decode cX10_likely 51 = .ok (.invokevirtual 214, 3) := by decide +kernel
theorem dX10_likely_54 : decode cX10_likely 54 = .ok (.lstore 6, 2) := by decide +kernel
theorem dX10_likely_56 : decode cX10_likely 56 = .ok (.lload 6, 2) := by decide +kernel
theorem dX10_likely_58 : decode cX10_likely 58 = .ok (.lload 4, 2) := by decide +kernel
theorem dX10_likely_60 : decode cX10_likely 60 = .ok (.invokestatic 218, 3) := by decide +kernel
theorem dX10_likely_63 : decode cX10_likely 63 = .ok (.lstore 8, 2) := by decide +kernel
theorem dX10_likely_65 : decode cX10_likely 65 = .ok (.iload_n 3, 1) := by decide +kernel
theorem dX10_likely_66 : decode cX10_likely 66 = .ok (.ifCond .ne 8, 3) := by decide +kernel
theorem dX10_likely_69 : decode cX10_likely 69 = .ok (.lload 6, 2) := by decide +kernel
theorem dX10_likely_71 : decode cX10_likely 71 = .ok (.goto 5, 3) := by decide +kernel
theorem dX10_likely_74 : decode cX10_likely 74 = .ok (.lload 4, 2) := by decide +kernel
theorem dX10_likely_76 : decode cX10_likely 76 = .ok (.lload 8, 2) := by decide +kernel
theorem dX10_likely_78 : decode cX10_likely 78 = .ok (.ldiv, 1) := by decide +kernel
theorem dX10_likely_79 : decode cX10_likely 79 = .ok (.lreturn, 1) := by decide +kernel
theorem dX10_begins_0 : decode cX10_begins 0 = .ok (.iload_n 1, 1) := by decide +kernel
theorem dX10_begins_1 : decode cX10_begins 1 = .ok (.iconst 0, 1) := by decide +kernel
theorem dX10_begins_2 : decode cX10_begins 2 = .ok (.iconst 1, 1) := by decide +kernel
theorem dX10_begins_3 : decode cX10_begins 3 = .ok (.invokestatic 123, 3) := by decide +kernel
theorem dX10_begins_6 : decode cX10_begins 6 = .ok (.ifCond .ne 5, 3) := by decide +kernel
theorem dX10_begins_9 : decode cX10_begins 9 = .ok (.iconst (-1), 1) := by decide +kernel
theorem dX10_begins_10 : decode cX10_begins 10 = .ok (.ireturn, 1) := by decide +kernel
theorem dX10_begins_11 : decode cX10_begins 11 = .ok (.aload_n 0, 1) := by decide +kernel
theorem dX10_begins_12 : decode cX10_begins 12 = .ok (.getfield 38, 3) := by decide +kernel
theorem dX10_begins_15 : decode cX10_begins 15 = .ok (.invokevirtual 192, 3) := by decide +kernel
theorem dX10_begins_18 : decode cX10_begins 18 = .ok (.ifCond .eq 6, 3) := by decide +kernel
theorem dX10_begins_21 : decode cX10_begins 21 = .ok (.bipush (-2), 2) := by decide +kernel
theorem dX10_begins_23 : decode cX10_begins 23 = .ok (.ireturn, 1) := by decide +kernel
theorem dX10_begins_24 : decode cX10_begins 24 = .ok (.iload_n 1, 1) := by decide +kernel
theorem dX10_begins_25 : decode cX10_begins 25 = .ok (.ifCond .ne 13, 3) := by decide +kernel
theorem dX10_begins_28 : decode cX10_begins 28 = .ok (.aload_n 0, 1) := by decide +kernel
theorem dX10_begins_29 : decode cX10_begins 29 = .ok (.getfield 38, 3) := by decide +kernel
theorem dX10_begins_32 : decode cX10_begins 32 = .ok (.invokevirtual 222, 3) := by decide +kernel
theorem dX10_begins_35 : decode cX10_begins 35 = .ok (.goto 10, 3) := by decide +kernel
theorem dX10_begins_38 : decode cX10_begins 38 = .ok (.aload_n 0, 1) := by decide +kernel
theorem dX10_begins_39 : decode cX10_begins 39 = .ok (.getfield 38, 3) := by decide +kernel
theorem dX10_begins_42 : decode cX10_begins 42 = .ok (.invokevirtual 225, 3) := by decide +kernel
theorem dX10_begins_45 : decode cX10_begins 45 = .ok (.ireturn, 1) := by decide +kernel
theorem dX10_order_0 : decode cX10_order 0 = .ok (.lload_n 1, 1) := by decide +kernel
theorem dX10_order_1 : decode cX10_order 1 = .ok (.lconst 0, 1) := by decide +kernel
theorem dX10_order_2 : decode cX10_order 2 = .ok (.lcmp, 1) := by decide +kernel
theorem dX10_order_3 : decode cX10_order 3 = .ok (.ifCond .lt 14, 3) := by decide +kernel
theorem dX10_order_6 : decode cX10_order 6 = .ok (.aload_n 0, 1) := by decide +kernel
theorem dX10_order_7 : decode cX10_order 7 = .ok (.getfield 19, 3) := by decide +kernel
theorem dX10_order_10 : decode cX10_order 10 = .ok (.iload_n 3, 1) := by decide +kernel
theorem dX10_order_11 : decode cX10_order 11 = .ok (.invokevirtual 134, 3) := by decide +kernel
theorem dX10_order_14 : decode cX10_order 14 = .ok (.ifCond .ne 5, 3) := by decide +kernel
theorem dX10_order_17 : decode cX10_order 17 = .ok (.iconst (-1), 1) := by decide +kernel
theorem dX10_order_18 : decode cX10_order 18 = .ok (.ireturn, 1) := by decide +kernel
theorem dX10_order_19 : decode cX10_order 19 = .ok (.aload_n 0, 1) := by decide +kernel
theorem dX10_order_20 : decode cX10_order 20 = .ok (.getfield 38, 3) := by decide +kernel
theorem dX10_order_23 : decode cX10_order 23 = .ok (.invokevirtual 192, 3) := by decide +kernel
theorem dX10_order_26 : decode cX10_order 26 = .ok (.ifCond .eq 6, 3) := by decide +kernel
theorem dX10_order_29 : decode cX10_order 29 = .ok (.bipush (-2), 2) := by decide +kernel
theorem dX10_order_31 : decode cX10_order 31 = .ok (.ireturn, 1) := by decide +kernel
theorem dX10_order_32 : decode cX10_order 32 = .ok (.lload_n 1, 1) := by decide +kernel
theorem dX10_order_33 : decode cX10_order 33 = .ok (.aload_n 0, 1) := by decide +kernel
theorem dX10_order_34 : decode cX10_order 34 = .ok (.getfield 38, 3) := by decide +kernel
theorem dX10_order_37 : decode cX10_order 37 = .ok (.invokevirtual 208, 3) := by decide +kernel
theorem dX10_order_40 : decode cX10_order 40 = .ok (.lcmp, 1) := by decide +kernel
theorem dX10_order_41 : decode cX10_order 41 = .ok (.ifCond .lt 7, 3) := by decide +kernel
theorem dX10_order_44 : decode cX10_order 44 = .ok (.iconst (-1), 1) := by decide +kernel
theorem dX10_order_45 : decode cX10_order 45 = .ok (.goto 12, 3) := by decide +kernel
theorem dX10_order_48 : decode cX10_order 48 = .ok (.aload_n 0, 1) := by decide +kernel
theorem dX10_order_49 : decode cX10_order 49 = .ok (.getfield 38, 3) := by decide +kernel
theorem dX10_order_52 : decode cX10_order 52 = .ok (.lload_n 1, 1) := by decide +kernel
theorem dX10_order_53 : decode cX10_order 53 = .ok (.iload_n 3, 1) := by decide +kernel
theorem dX10_order_54 : decode cX10_order 54 = .ok (.invokevirtual 228, 3) := by decide +kernel
theorem dX10_order_57 : decode cX10_order 57 = .ok (.ireturn, 1) := by decide +kernel
theorem dX10_size_0 : decode cX10_size 0 = .ok (.aload_n 0, 1) := by decide +kernel
theorem dX10_size_1 : decode cX10_size 1 = .ok (.getfield 19, 3) := by decide +kernel
theorem dX10_size_4 : decode cX10_size 4 = .ok (.iload_n 1, 1) := by decide +kernel
theorem dX10_size_5 : decode cX10_size 5 = .ok (.invokevirtual 232, 3) := by decide +kernel
theorem dX10_size_8 : decode cX10_size 8 = .ok (.ifCond .eq 12, 3) := by decide +kernel
theorem dX10_size_11 : decode cX10_size 11 = .ok (.iload_n 2, 1) := by decide +kernel
theorem dX10_size_12 : decode cX10_size 12 = .ok (.iconst 0, 1) := by decide +kernel
theorem dX10_size_13 : decode cX10_size 13 = .ok (.iconst 1, 1) := by decide +kernel
theorem dX10_size_14 : decode cX10_size 14 = .ok (.invokestatic 123, 3) := by decide +kernel
theorem dX10_size_17 : decode cX10_size 17 = .ok (.ifCond .ne 5, 3) := by decide +kernel
theorem dX10_size_20 : decode cX10_size 20 = .ok (.iconst (-1), 1) := by decide +kernel
theorem dX10_size_21 : decode cX10_size 21 = .ok (.ireturn, 1) := by decide +kernel
theorem dX10_size_22 : decode cX10_size 22 = .ok (.aload_n 0, 1) := by decide +kernel
theorem dX10_size_23 : decode cX10_size 23 = .ok (.getfield 19, 3) := by decide +kernel
theorem dX10_size_26 : decode cX10_size 26 = .ok (.iload_n 1, 1) := by decide +kernel
theorem dX10_size_27 : decode cX10_size 27 = .ok (.invokevirtual 140, 3) := by decide +kernel
theorem dX10_size_30 : decode cX10_size 30 = .ok (.istore_n 3, 1) := by decide +kernel
theorem dX10_size_31 : decode cX10_size 31 = .ok (.aload_n 0, 1) := by decide +kernel
theorem dX10_size_32 : decode cX10_size 32 = .ok (.getfield 19, 3) := by decide +kernel
theorem dX10_size_35 : decode cX10_size 35 = .ok (.iload_n 1, 1) := by decide +kernel
theorem dX10_size_36 : decode cX10_size 36 = .ok (.invokevirtual 137, 3) := by decide +kernel
theorem dX10_size_39 : decode cX10_size 39 = .ok (.istore 4, 2) := by decide +kernel
theorem dX10_size_41 : decode cX10_size 41 = .ok (.iload_n 3, 1) := by decide +kernel
theorem dX10_size_42 : decode cX10_size 42 = .ok (.i2l, 1) := by decide +kernel
theorem dX10_size_43 : decode cX10_size 43 = .ok (.iload 4, 2) := by decide +kernel
theorem dX10_size_45 : decode cX10_size 45 = .ok (.i2l, 1) := by decide +kernel
theorem dX10_size_46 : decode cX10_size 46 = .ok (.invokestatic 218, 3) := by decide +kernel
theorem dX10_size_49 : decode cX10_size 49 = .ok (.l2i, 1) := by decide +kernel
theorem dX10_size_50 : decode cX10_size 50 = .ok (.istore 5, 2) := by decide +kernel
theorem dX10_size_52 : decode cX10_size 52 = .ok (.iload_n 2, 1) := by decide +kernel
theorem dX10_size_53 : decode cX10_size 53 = .ok (.ifCond .ne 7, 3) := by decide +kernel
theorem dX10_size_56 : decode cX10_size 56 = .ok (.iload_n 3, 1) := by decide +kernel
theorem dX10_size_57 : decode cX10_size 57 = .ok (.goto 5, 3) := by decide +kernel
theorem dX10_size_60 : decode cX10_size 60 = .ok (.iload 4, 2) := by decide +kernel
theorem dX10_size_62 : decode cX10_size 62 = .ok (.iconst 1, 1) := by decide +kernel
theorem dX10_size_63 : decode cX10_size 63 = .ok (.iload 5, 2) := by decide +kernel
theorem dX10_size_65 : decode cX10_size 65 = .ok (.invokestatic 235, 3) := by decide +kernel
theorem dX10_size_68 : decode cX10_size 68 = .ok (.idiv, 1) := by decide +kernel
theorem dX10_size_69 : decode cX10_size 69 = .ok (.ireturn, 1) := by decide +kernel
theorem dX10_sure_0 : decode cX10_sure 0 = .ok (.iload_n 1, 1) := by decide +kernel
theorem dX10_sure_1 : decode cX10_sure 1 = .ok (.iload_n 2, 1) := by decide +kernel
theorem dX10_sure_2 : decode cX10_sure 2 = .ok (.if_icmp .eq 25, 3) := by decide +kernel
theorem dX10_sure_5 : decode cX10_sure 5 = .ok (.aload_n 0, 1) := by decide +kernel
theorem dX10_sure_6 : decode cX10_sure 6 = .ok (.getfield 19, 3) := by decide +kernel
theorem dX10_sure_9 : decode cX10_sure 9 = .ok (.iload_n 1, 1) := by decide +kernel
theorem dX10_sure_10 : decode cX10_sure 10 = .ok (.invokevirtual 232, 3) := by decide +kernel
theorem dX10_sure_13 : decode cX10_sure 13 = .ok (.ifCond .eq 14, 3) := by decide +kernel
theorem dX10_sure_16 : decode cX10_sure 16 = .ok (.aload_n 0, 1) := by decide +kernel
theorem dX10_sure_17 : decode cX10_sure 17 = .ok (.getfield 19, 3) := by decide +kernel
theorem dX10_sure_20 : decode cX10_sure 20 = .ok (.iload_n 2, 1) := by decide +kernel
theorem dX10_sure_21 : decode cX10_sure 21 = .ok (.invokevirtual 232, 3) := by decide +kernel
theorem dX10_sure_24 : decode cX10_sure 24 = .ok (.ifCond .ne 5, 3) := by decide +kernel
theorem dX10_sure_27 : decode cX10_sure 27 = .ok (.iconst (-1), 1) := by decide +kernel
theorem dX10_sure_28 : decode cX10_sure 28 = .ok (.ireturn, 1) := by decide +kernel
theorem dX10_sure_29 : decode cX10_sure 29 = .ok (.aload_n 0, 1) := by decide +kernel
theorem dX10_sure_30 : decode cX10_sure 30 = .ok (.getfield 19, 3) := by decide +kernel
theorem dX10_sure_33 : decode cX10_sure 33 = .ok (.iload_n 1, 1) := by decide +kernel
theorem dX10_sure_34 : decode cX10_sure 34 = .ok (.iload_n 2, 1) := by decide +kernel
theorem dX10_sure_35 : decode cX10_sure 35 = .ok (.invokevirtual 240, 3) := by decide +kernel
theorem dX10_sure_38 : decode cX10_sure 38 = .ok (.ifCond .eq 7, 3) := by decide +kernel
theorem dX10_sure_41 : decode cX10_sure 41 = .ok (.iconst 1, 1) := by decide +kernel
theorem dX10_sure_42 : decode cX10_sure 42 = .ok (.goto 4, 3) := by decide +kernel
theorem dX10_sure_45 : decode cX10_sure 45 = .ok (.iconst 0, 1) := by decide +kernel
theorem dX10_sure_46 : decode cX10_sure 46 = .ok (.ireturn, 1) := by decide +kernel
theorem dX10_hands_0 : decode cX10_hands 0 = .ok (.iload_n 1, 1) := by decide +kernel
theorem dX10_hands_1 : decode cX10_hands 1 = .ok (.ifCond .eq 16, 3) := by decide +kernel
theorem dX10_hands_4 : decode cX10_hands 4 = .ok (.iload_n 1, 1) := by decide +kernel
theorem dX10_hands_5 : decode cX10_hands 5 = .ok (.bipush 10, 2) := by decide +kernel
theorem dX10_hands_7 : decode cX10_hands 7 = .ok (.bipush 21, 2) := by decide +kernel
theorem dX10_hands_9 : decode cX10_hands 9 = .ok (.invokestatic 123, 3) := by decide +kernel
theorem dX10_hands_12 : decode cX10_hands 12 = .ok (.ifCond .ne 5, 3) := by decide +kernel
theorem dX10_hands_15 : decode cX10_hands 15 = .ok (.iconst (-1), 1) := by decide +kernel
theorem dX10_hands_16 : decode cX10_hands 16 = .ok (.ireturn, 1) := by decide +kernel
theorem dX10_hands_17 : decode cX10_hands 17 = .ok (.aload_n 0, 1) := by decide +kernel
theorem dX10_hands_18 : decode cX10_hands 18 = .ok (.getfield 19, 3) := by decide +kernel
theorem dX10_hands_21 : decode cX10_hands 21 = .ok (.invokevirtual 243, 3) := by decide +kernel
theorem dX10_hands_24 : decode cX10_hands 24 = .ok (.istore_n 2, 1) := by decide +kernel
theorem dX10_hands_25 : decode cX10_hands 25 = .ok (.iconst 0, 1) := by decide +kernel
theorem dX10_hands_26 : decode cX10_hands 26 = .ok (.istore_n 3, 1) := by decide +kernel
theorem dX10_hands_27 : decode cX10_hands 27 = .ok (.iload_n 3, 1) := by decide +kernel
theorem dX10_hands_28 : decode cX10_hands 28 = .ok (.bipush 12, 2) := by decide +kernel
theorem dX10_hands_30 : decode cX10_hands 30 = .ok (.if_icmp .gt 51, 3) := by decide +kernel
theorem dX10_hands_33 : decode cX10_hands 33 = .ok (.iload_n 2, 1) := by decide +kernel
theorem dX10_hands_34 : decode cX10_hands 34 = .ok (.ifCond .ne 13, 3) := by decide +kernel
theorem dX10_hands_37 : decode cX10_hands 37 = .ok (.iload_n 1, 1) := by decide +kernel
theorem dX10_hands_38 : decode cX10_hands 38 = .ok (.ifCond .ne 7, 3) := by decide +kernel
theorem dX10_hands_41 : decode cX10_hands 41 = .ok (.iload_n 3, 1) := by decide +kernel
theorem dX10_hands_42 : decode cX10_hands 42 = .ok (.goto 4, 3) := by decide +kernel
theorem dX10_hands_45 : decode cX10_hands 45 = .ok (.iconst (-1), 1) := by decide +kernel
theorem dX10_hands_46 : decode cX10_hands 46 = .ok (.ireturn, 1) := by decide +kernel
theorem dX10_hands_47 : decode cX10_hands 47 = .ok (.aload_n 0, 1) := by decide +kernel
theorem dX10_hands_48 : decode cX10_hands 48 = .ok (.getfield 19, 3) := by decide +kernel
theorem dX10_hands_51 : decode cX10_hands 51 = .ok (.iload_n 2, 1) := by decide +kernel
theorem dX10_hands_52 : decode cX10_hands 52 = .ok (.invokevirtual 246, 3) := by decide +kernel
theorem dX10_hands_55 : decode cX10_hands 55 = .ok (.istore 4, 2) := by decide +kernel
theorem dX10_hands_57 : decode cX10_hands 57 = .ok (.iload_n 1, 1) := by decide +kernel
theorem dX10_hands_58 : decode cX10_hands 58 = .ok (.bipush 10, 2) := by decide +kernel
theorem dX10_hands_60 : decode cX10_hands 60 = .ok (.iload_n 3, 1) := by decide +kernel
theorem dX10_hands_61 : decode cX10_hands 61 = .ok (.iadd, 1) := by decide +kernel
theorem dX10_hands_62 : decode cX10_hands 62 = .ok (.if_icmp .ne 6, 3) := by decide +kernel
theorem dX10_hands_65 : decode cX10_hands 65 = .ok (.iload 4, 2) := by decide +kernel
theorem dX10_hands_67 : decode cX10_hands 67 = .ok (.ireturn, 1) := by decide +kernel
theorem dX10_hands_68 : decode cX10_hands 68 = .ok (.iload_n 2, 1) := by decide +kernel
theorem dX10_hands_69 : decode cX10_hands 69 = .ok (.iload 4, 2) := by decide +kernel
theorem dX10_hands_71 : decode cX10_hands 71 = .ok (.iconst (-1), 1) := by decide +kernel
theorem dX10_hands_72 : decode cX10_hands 72 = .ok (.ixor, 1) := by decide +kernel
theorem dX10_hands_73 : decode cX10_hands 73 = .ok (.iand, 1) := by decide +kernel
theorem dX10_hands_74 : decode cX10_hands 74 = .ok (.istore_n 2, 1) := by decide +kernel
theorem dX10_hands_75 : decode cX10_hands 75 = .ok (.iinc 3 1, 3) := by decide +kernel
theorem dX10_hands_78 : decode cX10_hands 78 = .ok (.goto (-51), 3) := by decide +kernel
theorem dX10_hands_81 : decode cX10_hands 81 = .ok (.iconst (-1), 1) := by decide +kernel
theorem dX10_hands_82 : decode cX10_hands 82 = .ok (.ireturn, 1) := by decide +kernel
theorem dX10_knot_0 : decode cX10_knot 0 = .ok (.aload_n 0, 1) := by decide +kernel
theorem dX10_knot_1 : decode cX10_knot 1 = .ok (.getfield 66, 3) := by decide +kernel
theorem dX10_knot_4 : decode cX10_knot 4 = .ok (.iload_n 1, 1) := by decide +kernel
theorem dX10_knot_5 : decode cX10_knot 5 = .ok (.invokevirtual 249, 3) := by decide +kernel
theorem dX10_knot_8 : decode cX10_knot 8 = .ok (.ifCond .ne 5, 3) := by decide +kernel
theorem dX10_knot_11 : decode cX10_knot 11 = .ok (.iconst (-1), 1) := by decide +kernel
theorem dX10_knot_12 : decode cX10_knot 12 = .ok (.ireturn, 1) := by decide +kernel
theorem dX10_knot_13 : decode cX10_knot 13 = .ok (.aload_n 0, 1) := by decide +kernel
theorem dX10_knot_14 : decode cX10_knot 14 = .ok (.getfield 66, 3) := by decide +kernel
theorem dX10_knot_17 : decode cX10_knot 17 = .ok (.iload_n 1, 1) := by decide +kernel
theorem dX10_knot_18 : decode cX10_knot 18 = .ok (.invokevirtual 252, 3) := by decide +kernel
theorem dX10_knot_21 : decode cX10_knot 21 = .ok (.ifCond .eq 13, 3) := by decide +kernel
theorem dX10_knot_24 : decode cX10_knot 24 = .ok (.aload_n 0, 1) := by decide +kernel
theorem dX10_knot_25 : decode cX10_knot 25 = .ok (.getfield 66, 3) := by decide +kernel
theorem dX10_knot_28 : decode cX10_knot 28 = .ok (.invokevirtual 254, 3) := by decide +kernel
theorem dX10_knot_31 : decode cX10_knot 31 = .ok (.goto 5, 3) := by decide +kernel
theorem dX10_knot_34 : decode cX10_knot 34 = .ok (.bipush (-3), 2) := by decide +kernel
theorem dX10_knot_36 : decode cX10_knot 36 = .ok (.ireturn, 1) := by decide +kernel
theorem dX10_wipe_0 : decode cX10_wipe 0 = .ok (.aload_n 0, 1) := by decide +kernel
theorem dX10_wipe_1 : decode cX10_wipe 1 = .ok (.getfield 66, 3) := by decide +kernel
theorem dX10_wipe_4 : decode cX10_wipe 4 = .ok (.invokevirtual 255, 3) := by decide +kernel
theorem dX10_wipe_7 : decode cX10_wipe 7 = .ok (.ireturn, 1) := by decide +kernel
theorem dX10_slips_0 : decode cX10_slips 0 = .ok (.iload_n 1, 1) := by decide +kernel
theorem dX10_slips_1 : decode cX10_slips 1 = .ok (.iconst 1, 1) := by decide +kernel
theorem dX10_slips_2 : decode cX10_slips 2 = .ok (.bipush 99, 2) := by decide +kernel
theorem dX10_slips_4 : decode cX10_slips 4 = .ok (.invokestatic 123, 3) := by decide +kernel
theorem dX10_slips_7 : decode cX10_slips 7 = .ok (.ifCond .eq 12, 3) := by decide +kernel
theorem dX10_slips_10 : decode cX10_slips 10 = .ok (.iload_n 2, 1) := by decide +kernel
theorem dX10_slips_11 : decode cX10_slips 11 = .ok (.iconst 0, 1) := by decide +kernel
theorem dX10_slips_12 : decode cX10_slips 12 = .ok (.iconst 2, 1) := by decide +kernel
theorem dX10_slips_13 : decode cX10_slips 13 = .ok (.invokestatic 123, 3) := by decide +kernel
theorem dX10_slips_16 : decode cX10_slips 16 = .ok (.ifCond .ne 7, 3) := by decide +kernel
theorem dX10_slips_19 : decode cX10_slips 19 = .ok (.ldc_w 258, 3) := by decide +kernel
theorem dX10_slips_22 : decode cX10_slips 22 = .ok (.ireturn, 1) := by decide +kernel
theorem dX10_slips_23 : decode cX10_slips 23 = .ok (.aload_n 0, 1) := by decide +kernel
theorem dX10_slips_24 : decode cX10_slips 24 = .ok (.getfield 66, 3) := by decide +kernel
theorem dX10_slips_27 : decode cX10_slips 27 = .ok (.invokevirtual 254, 3) := by decide +kernel
theorem dX10_slips_30 : decode cX10_slips 30 = .ok (.iconst 2, 1) := by decide +kernel
theorem dX10_slips_31 : decode cX10_slips 31 = .ok (.if_icmp .ge 7, 3) := by decide +kernel
theorem dX10_slips_34 : decode cX10_slips 34 = .ok (.ldc_w 259, 3) := by decide +kernel
theorem dX10_slips_37 : decode cX10_slips 37 = .ok (.ireturn, 1) := by decide +kernel
theorem dX10_slips_38 : decode cX10_slips 38 = .ok (.iload_n 2, 1) := by decide +kernel
theorem dX10_slips_39 : decode cX10_slips 39 = .ok (.lookupswitch 43 #[(0, 25), (1, 34)], 25) := by decide +kernel
theorem dX10_slips_64 : decode cX10_slips 64 = .ok (.aload_n 0, 1) := by decide +kernel
theorem dX10_slips_65 : decode cX10_slips 65 = .ok (.getfield 66, 3) := by decide +kernel
theorem dX10_slips_68 : decode cX10_slips 68 = .ok (.iload_n 1, 1) := by decide +kernel
theorem dX10_slips_69 : decode cX10_slips 69 = .ok (.invokevirtual 260, 3) := by decide +kernel
theorem dX10_slips_72 : decode cX10_slips 72 = .ok (.ireturn, 1) := by decide +kernel
theorem dX10_slips_73 : decode cX10_slips 73 = .ok (.aload_n 0, 1) := by decide +kernel
theorem dX10_slips_74 : decode cX10_slips 74 = .ok (.getfield 66, 3) := by decide +kernel
theorem dX10_slips_77 : decode cX10_slips 77 = .ok (.iload_n 1, 1) := by decide +kernel
theorem dX10_slips_78 : decode cX10_slips 78 = .ok (.invokevirtual 263, 3) := by decide +kernel
theorem dX10_slips_81 : decode cX10_slips 81 = .ok (.ireturn, 1) := by decide +kernel
theorem dX10_slips_82 : decode cX10_slips 82 = .ok (.aload_n 0, 1) := by decide +kernel
theorem dX10_slips_83 : decode cX10_slips 83 = .ok (.getfield 66, 3) := by decide +kernel
theorem dX10_slips_86 : decode cX10_slips 86 = .ok (.iload_n 1, 1) := by decide +kernel
theorem dX10_slips_87 : decode cX10_slips 87 = .ok (.invokevirtual 266, 3) := by decide +kernel
theorem dX10_slips_90 : decode cX10_slips 90 = .ok (.ireturn, 1) := by decide +kernel
theorem dX10_knots_0 : decode cX10_knots 0 = .ok (.aload_n 0, 1) := by decide +kernel
theorem dX10_knots_1 : decode cX10_knots 1 = .ok (.getfield 66, 3) := by decide +kernel
theorem dX10_knots_4 : decode cX10_knots 4 = .ok (.invokevirtual 254, 3) := by decide +kernel
theorem dX10_knots_7 : decode cX10_knots 7 = .ok (.iconst 2, 1) := by decide +kernel
theorem dX10_knots_8 : decode cX10_knots 8 = .ok (.if_icmp .ge 8, 3) := by decide +kernel
theorem dX10_knots_11 : decode cX10_knots 11 = .ok (.bipush (-2), 2) := by decide +kernel
theorem dX10_knots_13 : decode cX10_knots 13 = .ok (.goto 10, 3) := by decide +kernel
theorem dX10_knots_16 : decode cX10_knots 16 = .ok (.aload_n 0, 1) := by decide +kernel
theorem dX10_knots_17 : decode cX10_knots 17 = .ok (.getfield 66, 3) := by decide +kernel
theorem dX10_knots_20 : decode cX10_knots 20 = .ok (.invokevirtual 269, 3) := by decide +kernel
theorem dX10_knots_23 : decode cX10_knots 23 = .ok (.ireturn, 1) := by decide +kernel
theorem dX10_fits_0 : decode cX10_fits 0 = .ok (.iload_n 1, 1) := by decide +kernel
theorem dX10_fits_1 : decode cX10_fits 1 = .ok (.iconst 1, 1) := by decide +kernel
theorem dX10_fits_2 : decode cX10_fits 2 = .ok (.sipush 999, 3) := by decide +kernel
theorem dX10_fits_5 : decode cX10_fits 5 = .ok (.invokestatic 123, 3) := by decide +kernel
theorem dX10_fits_8 : decode cX10_fits 8 = .ok (.ifCond .eq 33, 3) := by decide +kernel
theorem dX10_fits_11 : decode cX10_fits 11 = .ok (.iload_n 2, 1) := by decide +kernel
theorem dX10_fits_12 : decode cX10_fits 12 = .ok (.iconst 1, 1) := by decide +kernel
theorem dX10_fits_13 : decode cX10_fits 13 = .ok (.bipush 99, 2) := by decide +kernel
theorem dX10_fits_15 : decode cX10_fits 15 = .ok (.invokestatic 123, 3) := by decide +kernel
theorem dX10_fits_18 : decode cX10_fits 18 = .ok (.ifCond .eq 23, 3) := by decide +kernel
theorem dX10_fits_21 : decode cX10_fits 21 = .ok (.iload_n 3, 1) := by decide +kernel
theorem dX10_fits_22 : decode cX10_fits 22 = .ok (.iconst 0, 1) := by decide +kernel
theorem dX10_fits_23 : decode cX10_fits 23 = .ok (.bipush 9, 2) := by decide +kernel
theorem dX10_fits_25 : decode cX10_fits 25 = .ok (.invokestatic 123, 3) := by decide +kernel
theorem dX10_fits_28 : decode cX10_fits 28 = .ok (.ifCond .eq 13, 3) := by decide +kernel
theorem dX10_fits_31 : decode cX10_fits 31 = .ok (.iload 4, 2) := by decide +kernel
theorem dX10_fits_33 : decode cX10_fits 33 = .ok (.iconst 0, 1) := by decide +kernel
theorem dX10_fits_34 : decode cX10_fits 34 = .ok (.iconst 2, 1) := by decide +kernel
theorem dX10_fits_35 : decode cX10_fits 35 = .ok (.invokestatic 123, 3) := by decide +kernel
theorem dX10_fits_38 : decode cX10_fits 38 = .ok (.ifCond .ne 5, 3) := by decide +kernel
theorem dX10_fits_41 : decode cX10_fits 41 = .ok (.iconst (-1), 1) := by decide +kernel
theorem dX10_fits_42 : decode cX10_fits 42 = .ok (.ireturn, 1) := by decide +kernel
theorem dX10_fits_43 : decode cX10_fits 43 = .ok (.iload_n 1, 1) := by decide +kernel
theorem dX10_fits_44 : decode cX10_fits 44 = .ok (.iload_n 2, 1) := by decide +kernel
theorem dX10_fits_45 : decode cX10_fits 45 = .ok (.idiv, 1) := by decide +kernel
theorem dX10_fits_46 : decode cX10_fits 46 = .ok (.istore 5, 2) := by decide +kernel
theorem dX10_fits_48 : decode cX10_fits 48 = .ok (.iload_n 1, 1) := by decide +kernel
theorem dX10_fits_49 : decode cX10_fits 49 = .ok (.iload_n 2, 1) := by decide +kernel
theorem dX10_fits_50 : decode cX10_fits 50 = .ok (.iadd, 1) := by decide +kernel
theorem dX10_fits_51 : decode cX10_fits 51 = .ok (.iload_n 3, 1) := by decide +kernel
theorem dX10_fits_52 : decode cX10_fits 52 = .ok (.iadd, 1) := by decide +kernel
theorem dX10_fits_53 : decode cX10_fits 53 = .ok (.iconst 1, 1) := by decide +kernel
theorem dX10_fits_54 : decode cX10_fits 54 = .ok (.isub, 1) := by decide +kernel
theorem dX10_fits_55 : decode cX10_fits 55 = .ok (.iload_n 2, 1) := by decide +kernel
theorem dX10_fits_56 : decode cX10_fits 56 = .ok (.iload_n 3, 1) := by decide +kernel
theorem dX10_fits_57 : decode cX10_fits 57 = .ok (.iadd, 1) := by decide +kernel
theorem dX10_fits_58 : decode cX10_fits 58 = .ok (.idiv, 1) := by decide +kernel
theorem dX10_fits_59 : decode cX10_fits 59 = .ok (.istore 6, 2) := by decide +kernel
theorem dX10_fits_61 : decode cX10_fits 61 = .ok (.iload 6, 2) := by decide +kernel
theorem dX10_fits_63 : decode cX10_fits 63 = .ok (.iload 5, 2) := by decide +kernel
theorem dX10_fits_65 : decode cX10_fits 65 = .ok (.if_icmp .le 6, 3) := by decide +kernel
theorem dX10_fits_68 : decode cX10_fits 68 = .ok (.bipush (-4), 2) := by decide +kernel
theorem dX10_fits_70 : decode cX10_fits 70 = .ok (.ireturn, 1) := by decide +kernel
theorem dX10_fits_71 : decode cX10_fits 71 = .ok (.iload 4, 2) := by decide +kernel
theorem dX10_fits_73 : decode cX10_fits 73 = .ok (.iconst 2, 1) := by decide +kernel
theorem dX10_fits_74 : decode cX10_fits 74 = .ok (.if_icmp .ge 16, 3) := by decide +kernel
theorem dX10_fits_77 : decode cX10_fits 77 = .ok (.iload 4, 2) := by decide +kernel
theorem dX10_fits_79 : decode cX10_fits 79 = .ok (.ifCond .ne 8, 3) := by decide +kernel
theorem dX10_fits_82 : decode cX10_fits 82 = .ok (.iload 5, 2) := by decide +kernel
theorem dX10_fits_84 : decode cX10_fits 84 = .ok (.goto 5, 3) := by decide +kernel
theorem dX10_fits_87 : decode cX10_fits 87 = .ok (.iload 6, 2) := by decide +kernel
theorem dX10_fits_89 : decode cX10_fits 89 = .ok (.ireturn, 1) := by decide +kernel
theorem dX10_fits_90 : decode cX10_fits 90 = .ok (.iload_n 1, 1) := by decide +kernel
theorem dX10_fits_91 : decode cX10_fits 91 = .ok (.iload 5, 2) := by decide +kernel
theorem dX10_fits_93 : decode cX10_fits 93 = .ok (.iload_n 2, 1) := by decide +kernel
theorem dX10_fits_94 : decode cX10_fits 94 = .ok (.imul, 1) := by decide +kernel
theorem dX10_fits_95 : decode cX10_fits 95 = .ok (.isub, 1) := by decide +kernel
theorem dX10_fits_96 : decode cX10_fits 96 = .ok (.istore 7, 2) := by decide +kernel
theorem dX10_fits_98 : decode cX10_fits 98 = .ok (.iload_n 3, 1) := by decide +kernel
theorem dX10_fits_99 : decode cX10_fits 99 = .ok (.ifCond .ne 7, 3) := by decide +kernel
theorem dX10_fits_102 : decode cX10_fits 102 = .ok (.iconst 0, 1) := by decide +kernel
theorem dX10_fits_103 : decode cX10_fits 103 = .ok (.goto 11, 3) := by decide +kernel
theorem dX10_fits_106 : decode cX10_fits 106 = .ok (.iload 7, 2) := by decide +kernel
theorem dX10_fits_108 : decode cX10_fits 108 = .ok (.iload_n 3, 1) := by decide +kernel
theorem dX10_fits_109 : decode cX10_fits 109 = .ok (.iadd, 1) := by decide +kernel
theorem dX10_fits_110 : decode cX10_fits 110 = .ok (.iconst 1, 1) := by decide +kernel
theorem dX10_fits_111 : decode cX10_fits 111 = .ok (.isub, 1) := by decide +kernel
theorem dX10_fits_112 : decode cX10_fits 112 = .ok (.iload_n 3, 1) := by decide +kernel
theorem dX10_fits_113 : decode cX10_fits 113 = .ok (.idiv, 1) := by decide +kernel
theorem dX10_fits_114 : decode cX10_fits 114 = .ok (.ireturn, 1) := by decide +kernel
theorem dX10_copy_0 : decode cX10_copy 0 = .ok (.aload_n 0, 1) := by decide +kernel
theorem dX10_copy_1 : decode cX10_copy 1 = .ok (.getfield 52, 3) := by decide +kernel
theorem dX10_copy_4 : decode cX10_copy 4 = .ok (.iload_n 1, 1) := by decide +kernel
theorem dX10_copy_5 : decode cX10_copy 5 = .ok (.iload_n 2, 1) := by decide +kernel
theorem dX10_copy_6 : decode cX10_copy 6 = .ok (.iload_n 3, 1) := by decide +kernel
theorem dX10_copy_7 : decode cX10_copy 7 = .ok (.iload 4, 2) := by decide +kernel
theorem dX10_copy_9 : decode cX10_copy 9 = .ok (.invokevirtual 170, 3) := by decide +kernel
theorem dX10_copy_12 : decode cX10_copy 12 = .ok (.istore 6, 2) := by decide +kernel
theorem dX10_copy_14 : decode cX10_copy 14 = .ok (.iload 6, 2) := by decide +kernel
theorem dX10_copy_16 : decode cX10_copy 16 = .ok (.ifCond .ge 5, 3) := by decide +kernel
theorem dX10_copy_19 : decode cX10_copy 19 = .ok (.iconst (-1), 1) := by decide +kernel
theorem dX10_copy_20 : decode cX10_copy 20 = .ok (.ireturn, 1) := by decide +kernel
theorem dX10_copy_21 : decode cX10_copy 21 = .ok (.iload 5, 2) := by decide +kernel
theorem dX10_copy_23 : decode cX10_copy 23 = .ok (.tableswitch 67 0 2 #[25, 39, 53], 25) := by decide +kernel
theorem dX10_copy_48 : decode cX10_copy 48 = .ok (.aload_n 0, 1) := by decide +kernel
theorem dX10_copy_49 : decode cX10_copy 49 = .ok (.getfield 52, 3) := by decide +kernel
theorem dX10_copy_52 : decode cX10_copy 52 = .ok (.iload 6, 2) := by decide +kernel
theorem dX10_copy_54 : decode cX10_copy 54 = .ok (.aload_n 0, 1) := by decide +kernel
theorem dX10_copy_55 : decode cX10_copy 55 = .ok (.getfield 45, 3) := by decide +kernel
theorem dX10_copy_58 : decode cX10_copy 58 = .ok (.invokevirtual 272, 3) := by decide +kernel
theorem dX10_copy_61 : decode cX10_copy 61 = .ok (.ireturn, 1) := by decide +kernel
theorem dX10_copy_62 : decode cX10_copy 62 = .ok (.aload_n 0, 1) := by decide +kernel
theorem dX10_copy_63 : decode cX10_copy 63 = .ok (.getfield 52, 3) := by decide +kernel
theorem dX10_copy_66 : decode cX10_copy 66 = .ok (.iload 6, 2) := by decide +kernel
theorem dX10_copy_68 : decode cX10_copy 68 = .ok (.aload_n 0, 1) := by decide +kernel
theorem dX10_copy_69 : decode cX10_copy 69 = .ok (.getfield 45, 3) := by decide +kernel
theorem dX10_copy_72 : decode cX10_copy 72 = .ok (.invokevirtual 174, 3) := by decide +kernel
theorem dX10_copy_75 : decode cX10_copy 75 = .ok (.ireturn, 1) := by decide +kernel
theorem dX10_copy_76 : decode cX10_copy 76 = .ok (.aload_n 0, 1) := by decide +kernel
theorem dX10_copy_77 : decode cX10_copy 77 = .ok (.getfield 52, 3) := by decide +kernel
theorem dX10_copy_80 : decode cX10_copy 80 = .ok (.iload 6, 2) := by decide +kernel
theorem dX10_copy_82 : decode cX10_copy 82 = .ok (.aload_n 0, 1) := by decide +kernel
theorem dX10_copy_83 : decode cX10_copy 83 = .ok (.getfield 45, 3) := by decide +kernel
theorem dX10_copy_86 : decode cX10_copy 86 = .ok (.invokevirtual 178, 3) := by decide +kernel
theorem dX10_copy_89 : decode cX10_copy 89 = .ok (.ireturn, 1) := by decide +kernel
theorem dX10_copy_90 : decode cX10_copy 90 = .ok (.iconst (-1), 1) := by decide +kernel
theorem dX10_copy_91 : decode cX10_copy 91 = .ok (.ireturn, 1) := by decide +kernel
theorem dX10_best_0 : decode cX10_best 0 = .ok (.iload_n 1, 1) := by decide +kernel
theorem dX10_best_1 : decode cX10_best 1 = .ok (.iconst 0, 1) := by decide +kernel
theorem dX10_best_2 : decode cX10_best 2 = .ok (.iconst 4, 1) := by decide +kernel
theorem dX10_best_3 : decode cX10_best 3 = .ok (.invokestatic 123, 3) := by decide +kernel
theorem dX10_best_6 : decode cX10_best 6 = .ok (.ifCond .ne 5, 3) := by decide +kernel
theorem dX10_best_9 : decode cX10_best 9 = .ok (.iconst (-1), 1) := by decide +kernel
theorem dX10_best_10 : decode cX10_best 10 = .ok (.ireturn, 1) := by decide +kernel
theorem dX10_best_11 : decode cX10_best 11 = .ok (.aload_n 0, 1) := by decide +kernel
theorem dX10_best_12 : decode cX10_best 12 = .ok (.getfield 52, 3) := by decide +kernel
theorem dX10_best_15 : decode cX10_best 15 = .ok (.aload_n 0, 1) := by decide +kernel
theorem dX10_best_16 : decode cX10_best 16 = .ok (.getfield 45, 3) := by decide +kernel
theorem dX10_best_19 : decode cX10_best 19 = .ok (.invokevirtual 275, 3) := by decide +kernel
theorem dX10_best_22 : decode cX10_best 22 = .ok (.istore_n 2, 1) := by decide +kernel
theorem dX10_best_23 : decode cX10_best 23 = .ok (.iload_n 2, 1) := by decide +kernel
theorem dX10_best_24 : decode cX10_best 24 = .ok (.ifCond .ge 6, 3) := by decide +kernel
theorem dX10_best_27 : decode cX10_best 27 = .ok (.bipush (-4), 2) := by decide +kernel
theorem dX10_best_29 : decode cX10_best 29 = .ok (.ireturn, 1) := by decide +kernel
theorem dX10_best_30 : decode cX10_best 30 = .ok (.iload_n 1, 1) := by decide +kernel
theorem dX10_best_31 : decode cX10_best 31 = .ok (.tableswitch 49 0 3 #[29, 34, 39, 44], 29) := by decide +kernel
theorem dX10_best_60 : decode cX10_best 60 = .ok (.iload_n 2, 1) := by decide +kernel
theorem dX10_best_61 : decode cX10_best 61 = .ok (.invokestatic 279, 3) := by decide +kernel
theorem dX10_best_64 : decode cX10_best 64 = .ok (.ireturn, 1) := by decide +kernel
theorem dX10_best_65 : decode cX10_best 65 = .ok (.iload_n 2, 1) := by decide +kernel
theorem dX10_best_66 : decode cX10_best 66 = .ok (.invokestatic 282, 3) := by decide +kernel
theorem dX10_best_69 : decode cX10_best 69 = .ok (.ireturn, 1) := by decide +kernel
theorem dX10_best_70 : decode cX10_best 70 = .ok (.iload_n 2, 1) := by decide +kernel
theorem dX10_best_71 : decode cX10_best 71 = .ok (.invokestatic 285, 3) := by decide +kernel
theorem dX10_best_74 : decode cX10_best 74 = .ok (.ireturn, 1) := by decide +kernel
theorem dX10_best_75 : decode cX10_best 75 = .ok (.iload_n 2, 1) := by decide +kernel
theorem dX10_best_76 : decode cX10_best 76 = .ok (.invokestatic 288, 3) := by decide +kernel
theorem dX10_best_79 : decode cX10_best 79 = .ok (.ireturn, 1) := by decide +kernel
theorem dX10_best_80 : decode cX10_best 80 = .ok (.aload_n 0, 1) := by decide +kernel
theorem dX10_best_81 : decode cX10_best 81 = .ok (.getfield 52, 3) := by decide +kernel
theorem dX10_best_84 : decode cX10_best 84 = .ok (.iload_n 2, 1) := by decide +kernel
theorem dX10_best_85 : decode cX10_best 85 = .ok (.aload_n 0, 1) := by decide +kernel
theorem dX10_best_86 : decode cX10_best 86 = .ok (.getfield 45, 3) := by decide +kernel
theorem dX10_best_89 : decode cX10_best 89 = .ok (.invokevirtual 272, 3) := by decide +kernel
theorem dX10_best_92 : decode cX10_best 92 = .ok (.ireturn, 1) := by decide +kernel
theorem dX10_copies_0 : decode cX10_copies 0 = .ok (.aload_n 0, 1) := by decide +kernel
theorem dX10_copies_1 : decode cX10_copies 1 = .ok (.getfield 19, 3) := by decide +kernel
theorem dX10_copies_4 : decode cX10_copies 4 = .ok (.iload_n 1, 1) := by decide +kernel
theorem dX10_copies_5 : decode cX10_copies 5 = .ok (.invokevirtual 149, 3) := by decide +kernel
theorem dX10_copies_8 : decode cX10_copies 8 = .ok (.ifCond .eq 13, 3) := by decide +kernel
theorem dX10_copies_11 : decode cX10_copies 11 = .ok (.iload_n 2, 1) := by decide +kernel
theorem dX10_copies_12 : decode cX10_copies 12 = .ok (.iconst 0, 1) := by decide +kernel
theorem dX10_copies_13 : decode cX10_copies 13 = .ok (.bipush 64, 2) := by decide +kernel
theorem dX10_copies_15 : decode cX10_copies 15 = .ok (.invokestatic 123, 3) := by decide +kernel
theorem dX10_copies_18 : decode cX10_copies 18 = .ok (.ifCond .ne 5, 3) := by decide +kernel
theorem dX10_copies_21 : decode cX10_copies 21 = .ok (.iconst (-1), 1) := by decide +kernel
theorem dX10_copies_22 : decode cX10_copies 22 = .ok (.ireturn, 1) := by decide +kernel
theorem dX10_copies_23 : decode cX10_copies 23 = .ok (.aload_n 0, 1) := by decide +kernel
theorem dX10_copies_24 : decode cX10_copies 24 = .ok (.getfield 52, 3) := by decide +kernel
theorem dX10_copies_27 : decode cX10_copies 27 = .ok (.iload_n 1, 1) := by decide +kernel
theorem dX10_copies_28 : decode cX10_copies 28 = .ok (.iload_n 2, 1) := by decide +kernel
theorem dX10_copies_29 : decode cX10_copies 29 = .ok (.aload_n 0, 1) := by decide +kernel
theorem dX10_copies_30 : decode cX10_copies 30 = .ok (.getfield 45, 3) := by decide +kernel
theorem dX10_copies_33 : decode cX10_copies 33 = .ok (.invokevirtual 291, 3) := by decide +kernel
theorem dX10_copies_36 : decode cX10_copies 36 = .ok (.ireturn, 1) := by decide +kernel
theorem dX10_symmetries_0 : decode cX10_symmetries 0 = .ok (.aload_n 0, 1) := by decide +kernel
theorem dX10_symmetries_1 : decode cX10_symmetries 1 = .ok (.getfield 45, 3) := by decide +kernel
theorem dX10_symmetries_4 : decode cX10_symmetries 4 = .ok (.invokevirtual 295, 3) := by decide +kernel
theorem dX10_symmetries_7 : decode cX10_symmetries 7 = .ok (.ireturn, 1) := by decide +kernel
theorem dX10_may_0 : decode cX10_may 0 = .ok (.iload_n 1, 1) := by decide +kernel
theorem dX10_may_1 : decode cX10_may 1 = .ok (.invokestatic 160, 3) := by decide +kernel
theorem dX10_may_4 : decode cX10_may 4 = .ok (.ifCond .eq 24, 3) := by decide +kernel
theorem dX10_may_7 : decode cX10_may 7 = .ok (.iload_n 2, 1) := by decide +kernel
theorem dX10_may_8 : decode cX10_may 8 = .ok (.iconst 0, 1) := by decide +kernel
theorem dX10_may_9 : decode cX10_may 9 = .ok (.iconst 2, 1) := by decide +kernel
theorem dX10_may_10 : decode cX10_may 10 = .ok (.invokestatic 123, 3) := by decide +kernel
theorem dX10_may_13 : decode cX10_may 13 = .ok (.ifCond .eq 15, 3) := by decide +kernel
theorem dX10_may_16 : decode cX10_may 16 = .ok (.aload_n 0, 1) := by decide +kernel
theorem dX10_may_17 : decode cX10_may 17 = .ok (.getfield 45, 3) := by decide +kernel
theorem dX10_may_20 : decode cX10_may 20 = .ok (.iload_n 1, 1) := by decide +kernel
theorem dX10_may_21 : decode cX10_may 21 = .ok (.invokevirtual 163, 3) := by decide +kernel
theorem dX10_may_24 : decode cX10_may 24 = .ok (.iconst (-1), 1) := by decide +kernel
theorem dX10_may_25 : decode cX10_may 25 = .ok (.if_icmp .eq 5, 3) := by decide +kernel
theorem dX10_may_28 : decode cX10_may 28 = .ok (.iconst (-1), 1) := by decide +kernel
theorem dX10_may_29 : decode cX10_may 29 = .ok (.ireturn, 1) := by decide +kernel
theorem dX10_may_30 : decode cX10_may 30 = .ok (.aload_n 0, 1) := by decide +kernel
theorem dX10_may_31 : decode cX10_may 31 = .ok (.getfield 59, 3) := by decide +kernel
theorem dX10_may_34 : decode cX10_may 34 = .ok (.aload_n 0, 1) := by decide +kernel
theorem dX10_may_35 : decode cX10_may 35 = .ok (.getfield 45, 3) := by decide +kernel
theorem dX10_may_38 : decode cX10_may 38 = .ok (.aload_n 0, 1) := by decide +kernel
theorem dX10_may_39 : decode cX10_may 39 = .ok (.getfield 52, 3) := by decide +kernel
theorem dX10_may_42 : decode cX10_may 42 = .ok (.iload_n 2, 1) := by decide +kernel
theorem dX10_may_43 : decode cX10_may 43 = .ok (.invokevirtual 298, 3) := by decide +kernel
theorem dX10_may_46 : decode cX10_may 46 = .ok (.aload_n 0, 1) := by decide +kernel
theorem dX10_may_47 : decode cX10_may 47 = .ok (.getfield 59, 3) := by decide +kernel
theorem dX10_may_50 : decode cX10_may 50 = .ok (.iload_n 1, 1) := by decide +kernel
theorem dX10_may_51 : decode cX10_may 51 = .ok (.invokevirtual 302, 3) := by decide +kernel
theorem dX10_may_54 : decode cX10_may 54 = .ok (.ireturn, 1) := by decide +kernel
theorem dX10_lost_0 : decode cX10_lost 0 = .ok (.iload_n 1, 1) := by decide +kernel
theorem dX10_lost_1 : decode cX10_lost 1 = .ok (.iconst 0, 1) := by decide +kernel
theorem dX10_lost_2 : decode cX10_lost 2 = .ok (.iconst 2, 1) := by decide +kernel
theorem dX10_lost_3 : decode cX10_lost 3 = .ok (.invokestatic 123, 3) := by decide +kernel
theorem dX10_lost_6 : decode cX10_lost 6 = .ok (.ifCond .ne 5, 3) := by decide +kernel
theorem dX10_lost_9 : decode cX10_lost 9 = .ok (.iconst (-1), 1) := by decide +kernel
theorem dX10_lost_10 : decode cX10_lost 10 = .ok (.ireturn, 1) := by decide +kernel
theorem dX10_lost_11 : decode cX10_lost 11 = .ok (.aload_n 0, 1) := by decide +kernel
theorem dX10_lost_12 : decode cX10_lost 12 = .ok (.getfield 59, 3) := by decide +kernel
theorem dX10_lost_15 : decode cX10_lost 15 = .ok (.aload_n 0, 1) := by decide +kernel
theorem dX10_lost_16 : decode cX10_lost 16 = .ok (.getfield 45, 3) := by decide +kernel
theorem dX10_lost_19 : decode cX10_lost 19 = .ok (.aload_n 0, 1) := by decide +kernel
theorem dX10_lost_20 : decode cX10_lost 20 = .ok (.getfield 52, 3) := by decide +kernel
theorem dX10_lost_23 : decode cX10_lost 23 = .ok (.iconst 2, 1) := by decide +kernel
theorem dX10_lost_24 : decode cX10_lost 24 = .ok (.invokevirtual 298, 3) := by decide +kernel
theorem dX10_lost_27 : decode cX10_lost 27 = .ok (.aload_n 0, 1) := by decide +kernel
theorem dX10_lost_28 : decode cX10_lost 28 = .ok (.getfield 45, 3) := by decide +kernel
theorem dX10_lost_31 : decode cX10_lost 31 = .ok (.invokevirtual 305, 3) := by decide +kernel
theorem dX10_lost_34 : decode cX10_lost 34 = .ok (.lstore_n 2, 1) := by decide +kernel
theorem dX10_lost_35 : decode cX10_lost 35 = .ok (.iload_n 1, 1) := by decide +kernel
theorem dX10_lost_36 : decode cX10_lost 36 = .ok (.lookupswitch 54 #[(0, 28), (1, 41)], 28) := by decide +kernel
theorem dX10_lost_64 : decode cX10_lost 64 = .ok (.lload_n 2, 1) := by decide +kernel
theorem dX10_lost_65 : decode cX10_lost 65 = .ok (.aload_n 0, 1) := by decide +kernel
theorem dX10_lost_66 : decode cX10_lost 66 = .ok (.getfield 59, 3) := by decide +kernel
theorem dX10_lost_69 : decode cX10_lost 69 = .ok (.invokevirtual 308, 3) := by decide +kernel
theorem dX10_lost_72 : decode cX10_lost 72 = .ok (.land, 1) := by decide +kernel
theorem dX10_lost_73 : decode cX10_lost 73 = .ok (.invokestatic 311, 3) := by decide +kernel
theorem dX10_lost_76 : decode cX10_lost 76 = .ok (.ireturn, 1) := by decide +kernel
