theorem dq_803 : decode cX11_best 152 = .ok (.if_icmp .ne 13, 3) ∧ decode cX11_best 155 = .ok (.iload_n 2, 1) ∧ decode cX11_best 156 = .ok (.bipush 64, 2) ∧ decode cX11_best 158 = .ok (.idiv, 1) ∧ decode cX11_best 159 = .ok (.bipush 8, 2) ∧ decode cX11_best 161 = .ok (.irem, 1) ∧ decode cX11_best 162 = .ok (.goto 33, 3) ∧ decode cX11_best 165 = .ok (.iload_n 1, 1) ∧ decode cX11_best 166 = .ok (.iconst 2, 1) ∧ decode cX11_best 167 = .ok (.if_icmp .ne 15, 3) ∧ decode cX11_best 170 = .ok (.iload_n 2, 1) ∧ decode cX11_best 171 = .ok (.sipush 512, 3) := by decide +kernel
theorem dX11_best_152 : decode cX11_best 152 = .ok (.if_icmp .ne 13, 3) := dq_803.1
theorem dX11_best_155 : decode cX11_best 155 = .ok (.iload_n 2, 1) := dq_803.2.1
theorem dX11_best_156 : decode cX11_best 156 = .ok (.bipush 64, 2) := dq_803.2.2.1
theorem dX11_best_158 : decode cX11_best 158 = .ok (.idiv, 1) := dq_803.2.2.2.1
theorem dX11_best_159 : decode cX11_best 159 = .ok (.bipush 8, 2) := dq_803.2.2.2.2.1
theorem dX11_best_161 : decode cX11_best 161 = .ok (.irem, 1) := dq_803.2.2.2.2.2.1
theorem dX11_best_162 : decode cX11_best 162 = .ok (.goto 33, 3) := dq_803.2.2.2.2.2.2.1
theorem dX11_best_165 : decode cX11_best 165 = .ok (.iload_n 1, 1) := dq_803.2.2.2.2.2.2.2.1
theorem dX11_best_166 : decode cX11_best 166 = .ok (.iconst 2, 1) := dq_803.2.2.2.2.2.2.2.2.1
theorem dX11_best_167 : decode cX11_best 167 = .ok (.if_icmp .ne 15, 3) := dq_803.2.2.2.2.2.2.2.2.2.1
theorem dX11_best_170 : decode cX11_best 170 = .ok (.iload_n 2, 1) := dq_803.2.2.2.2.2.2.2.2.2.2.1
theorem dX11_best_171 : decode cX11_best 171 = .ok (.sipush 512, 3) := dq_803.2.2.2.2.2.2.2.2.2.2.2
theorem dq_804 : decode cX11_best 174 = .ok (.idiv, 1) ∧ decode cX11_best 175 = .ok (.iconst 2, 1) ∧ decode cX11_best 176 = .ok (.irem, 1) ∧ decode cX11_best 177 = .ok (.iconst 1, 1) ∧ decode cX11_best 178 = .ok (.iadd, 1) ∧ decode cX11_best 179 = .ok (.goto 16, 3) ∧ decode cX11_best 182 = .ok (.iload_n 1, 1) ∧ decode cX11_best 183 = .ok (.iconst 3, 1) ∧ decode cX11_best 184 = .ok (.if_icmp .ne 10, 3) ∧ decode cX11_best 187 = .ok (.iload_n 2, 1) ∧ decode cX11_best 188 = .ok (.bipush 64, 2) ∧ decode cX11_best 190 = .ok (.irem, 1) := by decide +kernel
theorem dX11_best_174 : decode cX11_best 174 = .ok (.idiv, 1) := dq_804.1
theorem dX11_best_175 : decode cX11_best 175 = .ok (.iconst 2, 1) := dq_804.2.1
theorem dX11_best_176 : decode cX11_best 176 = .ok (.irem, 1) := dq_804.2.2.1
theorem dX11_best_177 : decode cX11_best 177 = .ok (.iconst 1, 1) := dq_804.2.2.2.1
theorem dX11_best_178 : decode cX11_best 178 = .ok (.iadd, 1) := dq_804.2.2.2.2.1
theorem dX11_best_179 : decode cX11_best 179 = .ok (.goto 16, 3) := dq_804.2.2.2.2.2.1
theorem dX11_best_182 : decode cX11_best 182 = .ok (.iload_n 1, 1) := dq_804.2.2.2.2.2.2.1
theorem dX11_best_183 : decode cX11_best 183 = .ok (.iconst 3, 1) := dq_804.2.2.2.2.2.2.2.1
theorem dX11_best_184 : decode cX11_best 184 = .ok (.if_icmp .ne 10, 3) := dq_804.2.2.2.2.2.2.2.2.1
theorem dX11_best_187 : decode cX11_best 187 = .ok (.iload_n 2, 1) := dq_804.2.2.2.2.2.2.2.2.2.1
theorem dX11_best_188 : decode cX11_best 188 = .ok (.bipush 64, 2) := dq_804.2.2.2.2.2.2.2.2.2.2.1
theorem dX11_best_190 : decode cX11_best 190 = .ok (.irem, 1) := dq_804.2.2.2.2.2.2.2.2.2.2.2
theorem dq_805 : decode cX11_best 191 = .ok (.goto 4, 3) ∧ decode cX11_best 194 = .ok (.iload_n 3, 1) ∧ decode cX11_best 195 = .ok (.ireturn, 1) := by decide +kernel
theorem dX11_best_191 : decode cX11_best 191 = .ok (.goto 4, 3) := dq_805.1
theorem dX11_best_194 : decode cX11_best 194 = .ok (.iload_n 3, 1) := dq_805.2.1
theorem dX11_best_195 : decode cX11_best 195 = .ok (.ireturn, 1) := dq_805.2.2
theorem dq_806 : decode cX11_copies 0 = .ok (.aload_n 0, 1) ∧ decode cX11_copies 1 = .ok (.iload_n 1, 1) ∧ decode cX11_copies 2 = .ok (.invokevirtual 261, 3) ∧ decode cX11_copies 5 = .ok (.ifCond .eq 15, 3) ∧ decode cX11_copies 8 = .ok (.iload_n 2, 1) ∧ decode cX11_copies 9 = .ok (.i2l, 1) ∧ decode cX11_copies 10 = .ok (.lconst 0, 1) ∧ decode cX11_copies 11 = .ok (.ldc2_w 298, 3) ∧ decode cX11_copies 14 = .ok (.invokestatic 96, 3) ∧ decode cX11_copies 17 = .ok (.ifCond .ne 5, 3) ∧ decode cX11_copies 20 = .ok (.iconst (-1), 1) ∧ decode cX11_copies 21 = .ok (.ireturn, 1) := by decide +kernel
theorem dX11_copies_0 : decode cX11_copies 0 = .ok (.aload_n 0, 1) := dq_806.1
theorem dX11_copies_1 : decode cX11_copies 1 = .ok (.iload_n 1, 1) := dq_806.2.1
theorem dX11_copies_2 : decode cX11_copies 2 = .ok (.invokevirtual 261, 3) := dq_806.2.2.1
theorem dX11_copies_5 : decode cX11_copies 5 = .ok (.ifCond .eq 15, 3) := dq_806.2.2.2.1
theorem dX11_copies_8 : decode cX11_copies 8 = .ok (.iload_n 2, 1) := dq_806.2.2.2.2.1
theorem dX11_copies_9 : decode cX11_copies 9 = .ok (.i2l, 1) := dq_806.2.2.2.2.2.1
theorem dX11_copies_10 : decode cX11_copies 10 = .ok (.lconst 0, 1) := dq_806.2.2.2.2.2.2.1
theorem dX11_copies_11 : decode cX11_copies 11 = .ok (.ldc2_w 298, 3) := dq_806.2.2.2.2.2.2.2.1
theorem dX11_copies_14 : decode cX11_copies 14 = .ok (.invokestatic 96, 3) := dq_806.2.2.2.2.2.2.2.2.1
theorem dX11_copies_17 : decode cX11_copies 17 = .ok (.ifCond .ne 5, 3) := dq_806.2.2.2.2.2.2.2.2.2.1
theorem dX11_copies_20 : decode cX11_copies 20 = .ok (.iconst (-1), 1) := dq_806.2.2.2.2.2.2.2.2.2.2.1
theorem dX11_copies_21 : decode cX11_copies 21 = .ok (.ireturn, 1) := dq_806.2.2.2.2.2.2.2.2.2.2.2
theorem dq_807 : decode cX11_copies 22 = .ok (.iconst 0, 1) ∧ decode cX11_copies 23 = .ok (.istore_n 3, 1) ∧ decode cX11_copies 24 = .ok (.iconst 0, 1) ∧ decode cX11_copies 25 = .ok (.istore 4, 2) ∧ decode cX11_copies 27 = .ok (.iload 4, 2) ∧ decode cX11_copies 29 = .ok (.sipush 1024, 3) ∧ decode cX11_copies 32 = .ok (.if_icmp .ge 87, 3) ∧ decode cX11_copies 35 = .ok (.aload_n 0, 1) ∧ decode cX11_copies 36 = .ok (.iload_n 1, 1) ∧ decode cX11_copies 37 = .ok (.iload 4, 2) ∧ decode cX11_copies 39 = .ok (.bipush 64, 2) ∧ decode cX11_copies 41 = .ok (.idiv, 1) := by decide +kernel
theorem dX11_copies_22 : decode cX11_copies 22 = .ok (.iconst 0, 1) := dq_807.1
theorem dX11_copies_23 : decode cX11_copies 23 = .ok (.istore_n 3, 1) := dq_807.2.1
theorem dX11_copies_24 : decode cX11_copies 24 = .ok (.iconst 0, 1) := dq_807.2.2.1
theorem dX11_copies_25 : decode cX11_copies 25 = .ok (.istore 4, 2) := dq_807.2.2.2.1
theorem dX11_copies_27 : decode cX11_copies 27 = .ok (.iload 4, 2) := dq_807.2.2.2.2.1
theorem dX11_copies_29 : decode cX11_copies 29 = .ok (.sipush 1024, 3) := dq_807.2.2.2.2.2.1
theorem dX11_copies_32 : decode cX11_copies 32 = .ok (.if_icmp .ge 87, 3) := dq_807.2.2.2.2.2.2.1
theorem dX11_copies_35 : decode cX11_copies 35 = .ok (.aload_n 0, 1) := dq_807.2.2.2.2.2.2.2.1
theorem dX11_copies_36 : decode cX11_copies 36 = .ok (.iload_n 1, 1) := dq_807.2.2.2.2.2.2.2.2.1
theorem dX11_copies_37 : decode cX11_copies 37 = .ok (.iload 4, 2) := dq_807.2.2.2.2.2.2.2.2.2.1
theorem dX11_copies_39 : decode cX11_copies 39 = .ok (.bipush 64, 2) := dq_807.2.2.2.2.2.2.2.2.2.2.1
theorem dX11_copies_41 : decode cX11_copies 41 = .ok (.idiv, 1) := dq_807.2.2.2.2.2.2.2.2.2.2.2
theorem dq_808 : decode cX11_copies 42 = .ok (.bipush 8, 2) ∧ decode cX11_copies 44 = .ok (.irem, 1) ∧ decode cX11_copies 45 = .ok (.iload 4, 2) ∧ decode cX11_copies 47 = .ok (.sipush 512, 3) ∧ decode cX11_copies 50 = .ok (.idiv, 1) ∧ decode cX11_copies 51 = .ok (.iconst 1, 1) ∧ decode cX11_copies 52 = .ok (.iadd, 1) ∧ decode cX11_copies 53 = .ok (.iload 4, 2) ∧ decode cX11_copies 55 = .ok (.bipush 64, 2) ∧ decode cX11_copies 57 = .ok (.irem, 1) ∧ decode cX11_copies 58 = .ok (.invokevirtual 288, 3) ∧ decode cX11_copies 61 = .ok (.ifCond .eq 52, 3) := by decide +kernel
theorem dX11_copies_42 : decode cX11_copies 42 = .ok (.bipush 8, 2) := dq_808.1
theorem dX11_copies_44 : decode cX11_copies 44 = .ok (.irem, 1) := dq_808.2.1
theorem dX11_copies_45 : decode cX11_copies 45 = .ok (.iload 4, 2) := dq_808.2.2.1
theorem dX11_copies_47 : decode cX11_copies 47 = .ok (.sipush 512, 3) := dq_808.2.2.2.1
theorem dX11_copies_50 : decode cX11_copies 50 = .ok (.idiv, 1) := dq_808.2.2.2.2.1
theorem dX11_copies_51 : decode cX11_copies 51 = .ok (.iconst 1, 1) := dq_808.2.2.2.2.2.1
theorem dX11_copies_52 : decode cX11_copies 52 = .ok (.iadd, 1) := dq_808.2.2.2.2.2.2.1
theorem dX11_copies_53 : decode cX11_copies 53 = .ok (.iload 4, 2) := dq_808.2.2.2.2.2.2.2.1
theorem dX11_copies_55 : decode cX11_copies 55 = .ok (.bipush 64, 2) := dq_808.2.2.2.2.2.2.2.2.1
theorem dX11_copies_57 : decode cX11_copies 57 = .ok (.irem, 1) := dq_808.2.2.2.2.2.2.2.2.2.1
theorem dX11_copies_58 : decode cX11_copies 58 = .ok (.invokevirtual 288, 3) := dq_808.2.2.2.2.2.2.2.2.2.2.1
theorem dX11_copies_61 : decode cX11_copies 61 = .ok (.ifCond .eq 52, 3) := dq_808.2.2.2.2.2.2.2.2.2.2.2
theorem dq_809 : decode cX11_copies 64 = .ok (.aload_n 0, 1) ∧ decode cX11_copies 65 = .ok (.iload_n 1, 1) ∧ decode cX11_copies 66 = .ok (.iload 4, 2) ∧ decode cX11_copies 68 = .ok (.bipush 64, 2) ∧ decode cX11_copies 70 = .ok (.idiv, 1) ∧ decode cX11_copies 71 = .ok (.bipush 8, 2) ∧ decode cX11_copies 73 = .ok (.irem, 1) ∧ decode cX11_copies 74 = .ok (.iload 4, 2) ∧ decode cX11_copies 76 = .ok (.sipush 512, 3) ∧ decode cX11_copies 79 = .ok (.idiv, 1) ∧ decode cX11_copies 80 = .ok (.iconst 1, 1) ∧ decode cX11_copies 81 = .ok (.iadd, 1) := by decide +kernel
theorem dX11_copies_64 : decode cX11_copies 64 = .ok (.aload_n 0, 1) := dq_809.1
theorem dX11_copies_65 : decode cX11_copies 65 = .ok (.iload_n 1, 1) := dq_809.2.1
theorem dX11_copies_66 : decode cX11_copies 66 = .ok (.iload 4, 2) := dq_809.2.2.1
theorem dX11_copies_68 : decode cX11_copies 68 = .ok (.bipush 64, 2) := dq_809.2.2.2.1
theorem dX11_copies_70 : decode cX11_copies 70 = .ok (.idiv, 1) := dq_809.2.2.2.2.1
theorem dX11_copies_71 : decode cX11_copies 71 = .ok (.bipush 8, 2) := dq_809.2.2.2.2.2.1
theorem dX11_copies_73 : decode cX11_copies 73 = .ok (.irem, 1) := dq_809.2.2.2.2.2.2.1
theorem dX11_copies_74 : decode cX11_copies 74 = .ok (.iload 4, 2) := dq_809.2.2.2.2.2.2.2.1
theorem dX11_copies_76 : decode cX11_copies 76 = .ok (.sipush 512, 3) := dq_809.2.2.2.2.2.2.2.2.1
theorem dX11_copies_79 : decode cX11_copies 79 = .ok (.idiv, 1) := dq_809.2.2.2.2.2.2.2.2.2.1
theorem dX11_copies_80 : decode cX11_copies 80 = .ok (.iconst 1, 1) := dq_809.2.2.2.2.2.2.2.2.2.2.1
theorem dX11_copies_81 : decode cX11_copies 81 = .ok (.iadd, 1) := dq_809.2.2.2.2.2.2.2.2.2.2.2
theorem dq_810 : decode cX11_copies 82 = .ok (.iload 4, 2) ∧ decode cX11_copies 84 = .ok (.bipush 64, 2) ∧ decode cX11_copies 86 = .ok (.irem, 1) ∧ decode cX11_copies 87 = .ok (.invokevirtual 292, 3) ∧ decode cX11_copies 90 = .ok (.iload_n 3, 1) ∧ decode cX11_copies 91 = .ok (.aload_n 0, 1) ∧ decode cX11_copies 92 = .ok (.getfield 275, 3) ∧ decode cX11_copies 95 = .ok (.ifCond .ne 15, 3) ∧ decode cX11_copies 98 = .ok (.aload_n 0, 1) ∧ decode cX11_copies 99 = .ok (.getfield 272, 3) ∧ decode cX11_copies 102 = .ok (.iload_n 2, 1) ∧ decode cX11_copies 103 = .ok (.if_icmp .lt 7, 3) := by decide +kernel
theorem dX11_copies_82 : decode cX11_copies 82 = .ok (.iload 4, 2) := dq_810.1
theorem dX11_copies_84 : decode cX11_copies 84 = .ok (.bipush 64, 2) := dq_810.2.1
theorem dX11_copies_86 : decode cX11_copies 86 = .ok (.irem, 1) := dq_810.2.2.1
theorem dX11_copies_87 : decode cX11_copies 87 = .ok (.invokevirtual 292, 3) := dq_810.2.2.2.1
theorem dX11_copies_90 : decode cX11_copies 90 = .ok (.iload_n 3, 1) := dq_810.2.2.2.2.1
theorem dX11_copies_91 : decode cX11_copies 91 = .ok (.aload_n 0, 1) := dq_810.2.2.2.2.2.1
theorem dX11_copies_92 : decode cX11_copies 92 = .ok (.getfield 275, 3) := dq_810.2.2.2.2.2.2.1
theorem dX11_copies_95 : decode cX11_copies 95 = .ok (.ifCond .ne 15, 3) := dq_810.2.2.2.2.2.2.2.1
theorem dX11_copies_98 : decode cX11_copies 98 = .ok (.aload_n 0, 1) := dq_810.2.2.2.2.2.2.2.2.1
theorem dX11_copies_99 : decode cX11_copies 99 = .ok (.getfield 272, 3) := dq_810.2.2.2.2.2.2.2.2.2.1
theorem dX11_copies_102 : decode cX11_copies 102 = .ok (.iload_n 2, 1) := dq_810.2.2.2.2.2.2.2.2.2.2.1
theorem dX11_copies_103 : decode cX11_copies 103 = .ok (.if_icmp .lt 7, 3) := dq_810.2.2.2.2.2.2.2.2.2.2.2
theorem dq_811 : decode cX11_copies 106 = .ok (.iconst 1, 1) ∧ decode cX11_copies 107 = .ok (.goto 4, 3) ∧ decode cX11_copies 110 = .ok (.iconst 0, 1) ∧ decode cX11_copies 111 = .ok (.iadd, 1) ∧ decode cX11_copies 112 = .ok (.istore_n 3, 1) ∧ decode cX11_copies 113 = .ok (.iinc 4 1, 3) ∧ decode cX11_copies 116 = .ok (.goto (-89), 3) ∧ decode cX11_copies 119 = .ok (.iload_n 3, 1) ∧ decode cX11_copies 120 = .ok (.ireturn, 1) := by decide +kernel
theorem dX11_copies_106 : decode cX11_copies 106 = .ok (.iconst 1, 1) := dq_811.1
theorem dX11_copies_107 : decode cX11_copies 107 = .ok (.goto 4, 3) := dq_811.2.1
theorem dX11_copies_110 : decode cX11_copies 110 = .ok (.iconst 0, 1) := dq_811.2.2.1
theorem dX11_copies_111 : decode cX11_copies 111 = .ok (.iadd, 1) := dq_811.2.2.2.1
theorem dX11_copies_112 : decode cX11_copies 112 = .ok (.istore_n 3, 1) := dq_811.2.2.2.2.1
theorem dX11_copies_113 : decode cX11_copies 113 = .ok (.iinc 4 1, 3) := dq_811.2.2.2.2.2.1
theorem dX11_copies_116 : decode cX11_copies 116 = .ok (.goto (-89), 3) := dq_811.2.2.2.2.2.2.1
theorem dX11_copies_119 : decode cX11_copies 119 = .ok (.iload_n 3, 1) := dq_811.2.2.2.2.2.2.2.1
theorem dX11_copies_120 : decode cX11_copies 120 = .ok (.ireturn, 1) := dq_811.2.2.2.2.2.2.2.2
theorem dq_812 : decode cX11_doesHold 0 = .ok (.iconst 1, 1) ∧ decode cX11_doesHold 1 = .ok (.istore_n 2, 1) ∧ decode cX11_doesHold 2 = .ok (.iconst 0, 1) ∧ decode cX11_doesHold 3 = .ok (.istore_n 3, 1) ∧ decode cX11_doesHold 4 = .ok (.iload_n 3, 1) ∧ decode cX11_doesHold 5 = .ok (.bipush 64, 2) ∧ decode cX11_doesHold 7 = .ok (.if_icmp .ge 60, 3) ∧ decode cX11_doesHold 10 = .ok (.aload_n 0, 1) ∧ decode cX11_doesHold 11 = .ok (.getfield 72, 3) ∧ decode cX11_doesHold 14 = .ok (.iload_n 3, 1) ∧ decode cX11_doesHold 15 = .ok (.iaload, 1) ∧ decode cX11_doesHold 16 = .ok (.istore 4, 2) := by decide +kernel
theorem dX11_doesHold_0 : decode cX11_doesHold 0 = .ok (.iconst 1, 1) := dq_812.1
theorem dX11_doesHold_1 : decode cX11_doesHold 1 = .ok (.istore_n 2, 1) := dq_812.2.1
theorem dX11_doesHold_2 : decode cX11_doesHold 2 = .ok (.iconst 0, 1) := dq_812.2.2.1
theorem dX11_doesHold_3 : decode cX11_doesHold 3 = .ok (.istore_n 3, 1) := dq_812.2.2.2.1
theorem dX11_doesHold_4 : decode cX11_doesHold 4 = .ok (.iload_n 3, 1) := dq_812.2.2.2.2.1
theorem dX11_doesHold_5 : decode cX11_doesHold 5 = .ok (.bipush 64, 2) := dq_812.2.2.2.2.2.1
theorem dX11_doesHold_7 : decode cX11_doesHold 7 = .ok (.if_icmp .ge 60, 3) := dq_812.2.2.2.2.2.2.1
theorem dX11_doesHold_10 : decode cX11_doesHold 10 = .ok (.aload_n 0, 1) := dq_812.2.2.2.2.2.2.2.1
theorem dX11_doesHold_11 : decode cX11_doesHold 11 = .ok (.getfield 72, 3) := dq_812.2.2.2.2.2.2.2.2.1
theorem dX11_doesHold_14 : decode cX11_doesHold 14 = .ok (.iload_n 3, 1) := dq_812.2.2.2.2.2.2.2.2.2.1
theorem dX11_doesHold_15 : decode cX11_doesHold 15 = .ok (.iaload, 1) := dq_812.2.2.2.2.2.2.2.2.2.2.1
theorem dX11_doesHold_16 : decode cX11_doesHold 16 = .ok (.istore 4, 2) := dq_812.2.2.2.2.2.2.2.2.2.2.2
theorem dq_813 : decode cX11_doesHold 18 = .ok (.aload_n 0, 1) ∧ decode cX11_doesHold 19 = .ok (.getfield 72, 3) ∧ decode cX11_doesHold 22 = .ok (.iload_n 3, 1) ∧ decode cX11_doesHold 23 = .ok (.bipush 8, 2) ∧ decode cX11_doesHold 25 = .ok (.iload_n 1, 1) ∧ decode cX11_doesHold 26 = .ok (.invokestatic 268, 3) ∧ decode cX11_doesHold 29 = .ok (.iaload, 1) ∧ decode cX11_doesHold 30 = .ok (.istore 5, 2) ∧ decode cX11_doesHold 32 = .ok (.iload_n 2, 1) ∧ decode cX11_doesHold 33 = .ok (.ifCond .eq 26, 3) ∧ decode cX11_doesHold 36 = .ok (.iload 4, 2) ∧ decode cX11_doesHold 38 = .ok (.iconst (-1), 1) := by decide +kernel
theorem dX11_doesHold_18 : decode cX11_doesHold 18 = .ok (.aload_n 0, 1) := dq_813.1
theorem dX11_doesHold_19 : decode cX11_doesHold 19 = .ok (.getfield 72, 3) := dq_813.2.1
theorem dX11_doesHold_22 : decode cX11_doesHold 22 = .ok (.iload_n 3, 1) := dq_813.2.2.1
theorem dX11_doesHold_23 : decode cX11_doesHold 23 = .ok (.bipush 8, 2) := dq_813.2.2.2.1
theorem dX11_doesHold_25 : decode cX11_doesHold 25 = .ok (.iload_n 1, 1) := dq_813.2.2.2.2.1
theorem dX11_doesHold_26 : decode cX11_doesHold 26 = .ok (.invokestatic 268, 3) := dq_813.2.2.2.2.2.1
theorem dX11_doesHold_29 : decode cX11_doesHold 29 = .ok (.iaload, 1) := dq_813.2.2.2.2.2.2.1
theorem dX11_doesHold_30 : decode cX11_doesHold 30 = .ok (.istore 5, 2) := dq_813.2.2.2.2.2.2.2.1
theorem dX11_doesHold_32 : decode cX11_doesHold 32 = .ok (.iload_n 2, 1) := dq_813.2.2.2.2.2.2.2.2.1
theorem dX11_doesHold_33 : decode cX11_doesHold 33 = .ok (.ifCond .eq 26, 3) := dq_813.2.2.2.2.2.2.2.2.2.1
theorem dX11_doesHold_36 : decode cX11_doesHold 36 = .ok (.iload 4, 2) := dq_813.2.2.2.2.2.2.2.2.2.2.1
theorem dX11_doesHold_38 : decode cX11_doesHold 38 = .ok (.iconst (-1), 1) := dq_813.2.2.2.2.2.2.2.2.2.2.2
theorem dq_814 : decode cX11_doesHold 39 = .ok (.if_icmp .eq 16, 3) ∧ decode cX11_doesHold 42 = .ok (.iload 5, 2) ∧ decode cX11_doesHold 44 = .ok (.iconst (-1), 1) ∧ decode cX11_doesHold 45 = .ok (.if_icmp .eq 10, 3) ∧ decode cX11_doesHold 48 = .ok (.iload 4, 2) ∧ decode cX11_doesHold 50 = .ok (.iload 5, 2) ∧ decode cX11_doesHold 52 = .ok (.if_icmp .ne 7, 3) ∧ decode cX11_doesHold 55 = .ok (.iconst 1, 1) ∧ decode cX11_doesHold 56 = .ok (.goto 4, 3) ∧ decode cX11_doesHold 59 = .ok (.iconst 0, 1) ∧ decode cX11_doesHold 60 = .ok (.istore_n 2, 1) ∧ decode cX11_doesHold 61 = .ok (.iinc 3 1, 3) := by decide +kernel
theorem dX11_doesHold_39 : decode cX11_doesHold 39 = .ok (.if_icmp .eq 16, 3) := dq_814.1
theorem dX11_doesHold_42 : decode cX11_doesHold 42 = .ok (.iload 5, 2) := dq_814.2.1
theorem dX11_doesHold_44 : decode cX11_doesHold 44 = .ok (.iconst (-1), 1) := dq_814.2.2.1
theorem dX11_doesHold_45 : decode cX11_doesHold 45 = .ok (.if_icmp .eq 10, 3) := dq_814.2.2.2.1
theorem dX11_doesHold_48 : decode cX11_doesHold 48 = .ok (.iload 4, 2) := dq_814.2.2.2.2.1
theorem dX11_doesHold_50 : decode cX11_doesHold 50 = .ok (.iload 5, 2) := dq_814.2.2.2.2.2.1
theorem dX11_doesHold_52 : decode cX11_doesHold 52 = .ok (.if_icmp .ne 7, 3) := dq_814.2.2.2.2.2.2.1
theorem dX11_doesHold_55 : decode cX11_doesHold 55 = .ok (.iconst 1, 1) := dq_814.2.2.2.2.2.2.2.1
theorem dX11_doesHold_56 : decode cX11_doesHold 56 = .ok (.goto 4, 3) := dq_814.2.2.2.2.2.2.2.2.1
theorem dX11_doesHold_59 : decode cX11_doesHold 59 = .ok (.iconst 0, 1) := dq_814.2.2.2.2.2.2.2.2.2.1
theorem dX11_doesHold_60 : decode cX11_doesHold 60 = .ok (.istore_n 2, 1) := dq_814.2.2.2.2.2.2.2.2.2.2.1
theorem dX11_doesHold_61 : decode cX11_doesHold 61 = .ok (.iinc 3 1, 3) := dq_814.2.2.2.2.2.2.2.2.2.2.2
theorem dq_815 : decode cX11_doesHold 64 = .ok (.goto (-60), 3) ∧ decode cX11_doesHold 67 = .ok (.iload_n 2, 1) ∧ decode cX11_doesHold 68 = .ok (.ireturn, 1) := by decide +kernel
theorem dX11_doesHold_64 : decode cX11_doesHold 64 = .ok (.goto (-60), 3) := dq_815.1
theorem dX11_doesHold_67 : decode cX11_doesHold 67 = .ok (.iload_n 2, 1) := dq_815.2.1
theorem dX11_doesHold_68 : decode cX11_doesHold 68 = .ok (.ireturn, 1) := dq_815.2.2
theorem dq_816 : decode cX11_symmetries 0 = .ok (.iconst 0, 1) ∧ decode cX11_symmetries 1 = .ok (.istore_n 1, 1) ∧ decode cX11_symmetries 2 = .ok (.iconst 1, 1) ∧ decode cX11_symmetries 3 = .ok (.istore_n 2, 1) ∧ decode cX11_symmetries 4 = .ok (.iload_n 2, 1) ∧ decode cX11_symmetries 5 = .ok (.bipush 8, 2) ∧ decode cX11_symmetries 7 = .ok (.if_icmp .ge 27, 3) ∧ decode cX11_symmetries 10 = .ok (.iload_n 1, 1) ∧ decode cX11_symmetries 11 = .ok (.aload_n 0, 1) ∧ decode cX11_symmetries 12 = .ok (.iload_n 2, 1) ∧ decode cX11_symmetries 13 = .ok (.invokevirtual 300, 3) ∧ decode cX11_symmetries 16 = .ok (.ifCond .eq 9, 3) := by decide +kernel
theorem dX11_symmetries_0 : decode cX11_symmetries 0 = .ok (.iconst 0, 1) := dq_816.1
theorem dX11_symmetries_1 : decode cX11_symmetries 1 = .ok (.istore_n 1, 1) := dq_816.2.1
theorem dX11_symmetries_2 : decode cX11_symmetries 2 = .ok (.iconst 1, 1) := dq_816.2.2.1
theorem dX11_symmetries_3 : decode cX11_symmetries 3 = .ok (.istore_n 2, 1) := dq_816.2.2.2.1
theorem dX11_symmetries_4 : decode cX11_symmetries 4 = .ok (.iload_n 2, 1) := dq_816.2.2.2.2.1
theorem dX11_symmetries_5 : decode cX11_symmetries 5 = .ok (.bipush 8, 2) := dq_816.2.2.2.2.2.1
theorem dX11_symmetries_7 : decode cX11_symmetries 7 = .ok (.if_icmp .ge 27, 3) := dq_816.2.2.2.2.2.2.1
theorem dX11_symmetries_10 : decode cX11_symmetries 10 = .ok (.iload_n 1, 1) := dq_816.2.2.2.2.2.2.2.1
theorem dX11_symmetries_11 : decode cX11_symmetries 11 = .ok (.aload_n 0, 1) := dq_816.2.2.2.2.2.2.2.2.1
theorem dX11_symmetries_12 : decode cX11_symmetries 12 = .ok (.iload_n 2, 1) := dq_816.2.2.2.2.2.2.2.2.2.1
theorem dX11_symmetries_13 : decode cX11_symmetries 13 = .ok (.invokevirtual 300, 3) := dq_816.2.2.2.2.2.2.2.2.2.2.1
theorem dX11_symmetries_16 : decode cX11_symmetries 16 = .ok (.ifCond .eq 9, 3) := dq_816.2.2.2.2.2.2.2.2.2.2.2
theorem dq_817 : decode cX11_symmetries 19 = .ok (.iconst 1, 1) ∧ decode cX11_symmetries 20 = .ok (.iload_n 2, 1) ∧ decode cX11_symmetries 21 = .ok (.ishl, 1) ∧ decode cX11_symmetries 22 = .ok (.goto 4, 3) ∧ decode cX11_symmetries 25 = .ok (.iconst 0, 1) ∧ decode cX11_symmetries 26 = .ok (.ior, 1) ∧ decode cX11_symmetries 27 = .ok (.istore_n 1, 1) ∧ decode cX11_symmetries 28 = .ok (.iinc 2 1, 3) ∧ decode cX11_symmetries 31 = .ok (.goto (-27), 3) ∧ decode cX11_symmetries 34 = .ok (.iload_n 1, 1) ∧ decode cX11_symmetries 35 = .ok (.ireturn, 1) := by decide +kernel
theorem dX11_symmetries_19 : decode cX11_symmetries 19 = .ok (.iconst 1, 1) := dq_817.1
theorem dX11_symmetries_20 : decode cX11_symmetries 20 = .ok (.iload_n 2, 1) := dq_817.2.1
theorem dX11_symmetries_21 : decode cX11_symmetries 21 = .ok (.ishl, 1) := dq_817.2.2.1
theorem dX11_symmetries_22 : decode cX11_symmetries 22 = .ok (.goto 4, 3) := dq_817.2.2.2.1
theorem dX11_symmetries_25 : decode cX11_symmetries 25 = .ok (.iconst 0, 1) := dq_817.2.2.2.2.1
theorem dX11_symmetries_26 : decode cX11_symmetries 26 = .ok (.ior, 1) := dq_817.2.2.2.2.2.1
theorem dX11_symmetries_27 : decode cX11_symmetries 27 = .ok (.istore_n 1, 1) := dq_817.2.2.2.2.2.2.1
theorem dX11_symmetries_28 : decode cX11_symmetries 28 = .ok (.iinc 2 1, 3) := dq_817.2.2.2.2.2.2.2.1
theorem dX11_symmetries_31 : decode cX11_symmetries 31 = .ok (.goto (-27), 3) := dq_817.2.2.2.2.2.2.2.2.1
theorem dX11_symmetries_34 : decode cX11_symmetries 34 = .ok (.iload_n 1, 1) := dq_817.2.2.2.2.2.2.2.2.2.1
theorem dX11_symmetries_35 : decode cX11_symmetries 35 = .ok (.ireturn, 1) := dq_817.2.2.2.2.2.2.2.2.2.2
theorem dq_818 : decode cX11_word 0 = .ok (.iload_n 1, 1) ∧ decode cX11_word 1 = .ok (.bipush (-4), 2) ∧ decode cX11_word 3 = .ok (.if_icmp .eq 8, 3) ∧ decode cX11_word 6 = .ok (.iload_n 1, 1) ∧ decode cX11_word 7 = .ok (.iconst (-1), 1) ∧ decode cX11_word 8 = .ok (.if_icmp .ne 7, 3) ∧ decode cX11_word 11 = .ok (.iload_n 0, 1) ∧ decode cX11_word 12 = .ok (.goto 24, 3) ∧ decode cX11_word 15 = .ok (.iload_n 0, 1) ∧ decode cX11_word 16 = .ok (.bipush (-4), 2) ∧ decode cX11_word 18 = .ok (.if_icmp .ne 7, 3) ∧ decode cX11_word 21 = .ok (.iload_n 1, 1) := by decide +kernel
theorem dX11_word_0 : decode cX11_word 0 = .ok (.iload_n 1, 1) := dq_818.1
theorem dX11_word_1 : decode cX11_word 1 = .ok (.bipush (-4), 2) := dq_818.2.1
theorem dX11_word_3 : decode cX11_word 3 = .ok (.if_icmp .eq 8, 3) := dq_818.2.2.1
theorem dX11_word_6 : decode cX11_word 6 = .ok (.iload_n 1, 1) := dq_818.2.2.2.1
theorem dX11_word_7 : decode cX11_word 7 = .ok (.iconst (-1), 1) := dq_818.2.2.2.2.1
theorem dX11_word_8 : decode cX11_word 8 = .ok (.if_icmp .ne 7, 3) := dq_818.2.2.2.2.2.1
theorem dX11_word_11 : decode cX11_word 11 = .ok (.iload_n 0, 1) := dq_818.2.2.2.2.2.2.1
theorem dX11_word_12 : decode cX11_word 12 = .ok (.goto 24, 3) := dq_818.2.2.2.2.2.2.2.1
theorem dX11_word_15 : decode cX11_word 15 = .ok (.iload_n 0, 1) := dq_818.2.2.2.2.2.2.2.2.1
theorem dX11_word_16 : decode cX11_word 16 = .ok (.bipush (-4), 2) := dq_818.2.2.2.2.2.2.2.2.2.1
theorem dX11_word_18 : decode cX11_word 18 = .ok (.if_icmp .ne 7, 3) := dq_818.2.2.2.2.2.2.2.2.2.2.1
theorem dX11_word_21 : decode cX11_word 21 = .ok (.iload_n 1, 1) := dq_818.2.2.2.2.2.2.2.2.2.2.2
theorem dq_819 : decode cX11_word 22 = .ok (.goto 14, 3) ∧ decode cX11_word 25 = .ok (.iload_n 0, 1) ∧ decode cX11_word 26 = .ok (.iload_n 1, 1) ∧ decode cX11_word 27 = .ok (.if_icmp .ne 7, 3) ∧ decode cX11_word 30 = .ok (.iload_n 0, 1) ∧ decode cX11_word 31 = .ok (.goto 5, 3) ∧ decode cX11_word 34 = .ok (.bipush (-2), 2) ∧ decode cX11_word 36 = .ok (.ireturn, 1) := by decide +kernel
theorem dX11_word_22 : decode cX11_word 22 = .ok (.goto 14, 3) := dq_819.1
theorem dX11_word_25 : decode cX11_word 25 = .ok (.iload_n 0, 1) := dq_819.2.1
theorem dX11_word_26 : decode cX11_word 26 = .ok (.iload_n 1, 1) := dq_819.2.2.1
theorem dX11_word_27 : decode cX11_word 27 = .ok (.if_icmp .ne 7, 3) := dq_819.2.2.2.1
theorem dX11_word_30 : decode cX11_word 30 = .ok (.iload_n 0, 1) := dq_819.2.2.2.2.1
theorem dX11_word_31 : decode cX11_word 31 = .ok (.goto 5, 3) := dq_819.2.2.2.2.2.1
theorem dX11_word_34 : decode cX11_word 34 = .ok (.bipush (-2), 2) := dq_819.2.2.2.2.2.2.1
theorem dX11_word_36 : decode cX11_word 36 = .ok (.ireturn, 1) := dq_819.2.2.2.2.2.2.2
theorem dq_820 : decode cX11_layWords 0 = .ok (.iconst 0, 1) ∧ decode cX11_layWords 1 = .ok (.istore_n 1, 1) ∧ decode cX11_layWords 2 = .ok (.iload_n 1, 1) ∧ decode cX11_layWords 3 = .ok (.bipush 64, 2) ∧ decode cX11_layWords 5 = .ok (.if_icmp .ge 25, 3) ∧ decode cX11_layWords 8 = .ok (.aload_n 0, 1) ∧ decode cX11_layWords 9 = .ok (.getfield 75, 3) ∧ decode cX11_layWords 12 = .ok (.iload_n 1, 1) ∧ decode cX11_layWords 13 = .ok (.bipush (-4), 2) ∧ decode cX11_layWords 15 = .ok (.iastore, 1) ∧ decode cX11_layWords 16 = .ok (.aload_n 0, 1) ∧ decode cX11_layWords 17 = .ok (.getfield 78, 3) := by decide +kernel
theorem dX11_layWords_0 : decode cX11_layWords 0 = .ok (.iconst 0, 1) := dq_820.1
theorem dX11_layWords_1 : decode cX11_layWords 1 = .ok (.istore_n 1, 1) := dq_820.2.1
theorem dX11_layWords_2 : decode cX11_layWords 2 = .ok (.iload_n 1, 1) := dq_820.2.2.1
theorem dX11_layWords_3 : decode cX11_layWords 3 = .ok (.bipush 64, 2) := dq_820.2.2.2.1
theorem dX11_layWords_5 : decode cX11_layWords 5 = .ok (.if_icmp .ge 25, 3) := dq_820.2.2.2.2.1
theorem dX11_layWords_8 : decode cX11_layWords 8 = .ok (.aload_n 0, 1) := dq_820.2.2.2.2.2.1
theorem dX11_layWords_9 : decode cX11_layWords 9 = .ok (.getfield 75, 3) := dq_820.2.2.2.2.2.2.1
theorem dX11_layWords_12 : decode cX11_layWords 12 = .ok (.iload_n 1, 1) := dq_820.2.2.2.2.2.2.2.1
theorem dX11_layWords_13 : decode cX11_layWords 13 = .ok (.bipush (-4), 2) := dq_820.2.2.2.2.2.2.2.2.1
theorem dX11_layWords_15 : decode cX11_layWords 15 = .ok (.iastore, 1) := dq_820.2.2.2.2.2.2.2.2.2.1
theorem dX11_layWords_16 : decode cX11_layWords 16 = .ok (.aload_n 0, 1) := dq_820.2.2.2.2.2.2.2.2.2.2.1
theorem dX11_layWords_17 : decode cX11_layWords 17 = .ok (.getfield 78, 3) := dq_820.2.2.2.2.2.2.2.2.2.2.2
theorem dq_821 : decode cX11_layWords 20 = .ok (.iload_n 1, 1) ∧ decode cX11_layWords 21 = .ok (.bipush (-4), 2) ∧ decode cX11_layWords 23 = .ok (.iastore, 1) ∧ decode cX11_layWords 24 = .ok (.iinc 1 1, 3) ∧ decode cX11_layWords 27 = .ok (.goto (-25), 3) ∧ decode cX11_layWords 30 = .ok (.aload_n 0, 1) ∧ decode cX11_layWords 31 = .ok (.invokevirtual 303, 3) ∧ decode cX11_layWords 34 = .ok (.istore_n 1, 1) ∧ decode cX11_layWords 35 = .ok (.iconst 1, 1) ∧ decode cX11_layWords 36 = .ok (.istore_n 2, 1) ∧ decode cX11_layWords 37 = .ok (.iload_n 2, 1) ∧ decode cX11_layWords 38 = .ok (.bipush 8, 2) := by decide +kernel
theorem dX11_layWords_20 : decode cX11_layWords 20 = .ok (.iload_n 1, 1) := dq_821.1
theorem dX11_layWords_21 : decode cX11_layWords 21 = .ok (.bipush (-4), 2) := dq_821.2.1
theorem dX11_layWords_23 : decode cX11_layWords 23 = .ok (.iastore, 1) := dq_821.2.2.1
theorem dX11_layWords_24 : decode cX11_layWords 24 = .ok (.iinc 1 1, 3) := dq_821.2.2.2.1
theorem dX11_layWords_27 : decode cX11_layWords 27 = .ok (.goto (-25), 3) := dq_821.2.2.2.2.1
theorem dX11_layWords_30 : decode cX11_layWords 30 = .ok (.aload_n 0, 1) := dq_821.2.2.2.2.2.1
theorem dX11_layWords_31 : decode cX11_layWords 31 = .ok (.invokevirtual 303, 3) := dq_821.2.2.2.2.2.2.1
theorem dX11_layWords_34 : decode cX11_layWords 34 = .ok (.istore_n 1, 1) := dq_821.2.2.2.2.2.2.2.1
theorem dX11_layWords_35 : decode cX11_layWords 35 = .ok (.iconst 1, 1) := dq_821.2.2.2.2.2.2.2.2.1
theorem dX11_layWords_36 : decode cX11_layWords 36 = .ok (.istore_n 2, 1) := dq_821.2.2.2.2.2.2.2.2.2.1
theorem dX11_layWords_37 : decode cX11_layWords 37 = .ok (.iload_n 2, 1) := dq_821.2.2.2.2.2.2.2.2.2.2.1
theorem dX11_layWords_38 : decode cX11_layWords 38 = .ok (.bipush 8, 2) := dq_821.2.2.2.2.2.2.2.2.2.2.2
theorem dq_822 : decode cX11_layWords 40 = .ok (.if_icmp .ge 86, 3) ∧ decode cX11_layWords 43 = .ok (.iconst 0, 1) ∧ decode cX11_layWords 44 = .ok (.istore_n 3, 1) ∧ decode cX11_layWords 45 = .ok (.iload_n 3, 1) ∧ decode cX11_layWords 46 = .ok (.bipush 64, 2) ∧ decode cX11_layWords 48 = .ok (.if_icmp .ge 72, 3) ∧ decode cX11_layWords 51 = .ok (.iload_n 1, 1) ∧ decode cX11_layWords 52 = .ok (.iload_n 2, 1) ∧ decode cX11_layWords 53 = .ok (.ishr, 1) ∧ decode cX11_layWords 54 = .ok (.iconst 1, 1) ∧ decode cX11_layWords 55 = .ok (.iand, 1) ∧ decode cX11_layWords 56 = .ok (.iconst 1, 1) := by decide +kernel
theorem dX11_layWords_40 : decode cX11_layWords 40 = .ok (.if_icmp .ge 86, 3) := dq_822.1
theorem dX11_layWords_43 : decode cX11_layWords 43 = .ok (.iconst 0, 1) := dq_822.2.1
theorem dX11_layWords_44 : decode cX11_layWords 44 = .ok (.istore_n 3, 1) := dq_822.2.2.1
theorem dX11_layWords_45 : decode cX11_layWords 45 = .ok (.iload_n 3, 1) := dq_822.2.2.2.1
theorem dX11_layWords_46 : decode cX11_layWords 46 = .ok (.bipush 64, 2) := dq_822.2.2.2.2.1
theorem dX11_layWords_48 : decode cX11_layWords 48 = .ok (.if_icmp .ge 72, 3) := dq_822.2.2.2.2.2.1
theorem dX11_layWords_51 : decode cX11_layWords 51 = .ok (.iload_n 1, 1) := dq_822.2.2.2.2.2.2.1
theorem dX11_layWords_52 : decode cX11_layWords 52 = .ok (.iload_n 2, 1) := dq_822.2.2.2.2.2.2.2.1
theorem dX11_layWords_53 : decode cX11_layWords 53 = .ok (.ishr, 1) := dq_822.2.2.2.2.2.2.2.2.1
theorem dX11_layWords_54 : decode cX11_layWords 54 = .ok (.iconst 1, 1) := dq_822.2.2.2.2.2.2.2.2.2.1
theorem dX11_layWords_55 : decode cX11_layWords 55 = .ok (.iand, 1) := dq_822.2.2.2.2.2.2.2.2.2.2.1
theorem dX11_layWords_56 : decode cX11_layWords 56 = .ok (.iconst 1, 1) := dq_822.2.2.2.2.2.2.2.2.2.2.2
theorem dq_823 : decode cX11_layWords 57 = .ok (.if_icmp .ne 63, 3) ∧ decode cX11_layWords 60 = .ok (.iload_n 3, 1) ∧ decode cX11_layWords 61 = .ok (.bipush 8, 2) ∧ decode cX11_layWords 63 = .ok (.iload_n 2, 1) ∧ decode cX11_layWords 64 = .ok (.invokestatic 268, 3) ∧ decode cX11_layWords 67 = .ok (.istore 4, 2) ∧ decode cX11_layWords 69 = .ok (.aload_n 0, 1) ∧ decode cX11_layWords 70 = .ok (.getfield 75, 3) ∧ decode cX11_layWords 73 = .ok (.iload_n 3, 1) ∧ decode cX11_layWords 74 = .ok (.aload_n 0, 1) ∧ decode cX11_layWords 75 = .ok (.getfield 75, 3) ∧ decode cX11_layWords 78 = .ok (.iload_n 3, 1) := by decide +kernel
theorem dX11_layWords_57 : decode cX11_layWords 57 = .ok (.if_icmp .ne 63, 3) := dq_823.1
theorem dX11_layWords_60 : decode cX11_layWords 60 = .ok (.iload_n 3, 1) := dq_823.2.1
theorem dX11_layWords_61 : decode cX11_layWords 61 = .ok (.bipush 8, 2) := dq_823.2.2.1
theorem dX11_layWords_63 : decode cX11_layWords 63 = .ok (.iload_n 2, 1) := dq_823.2.2.2.1
theorem dX11_layWords_64 : decode cX11_layWords 64 = .ok (.invokestatic 268, 3) := dq_823.2.2.2.2.1
theorem dX11_layWords_67 : decode cX11_layWords 67 = .ok (.istore 4, 2) := dq_823.2.2.2.2.2.1
theorem dX11_layWords_69 : decode cX11_layWords 69 = .ok (.aload_n 0, 1) := dq_823.2.2.2.2.2.2.1
theorem dX11_layWords_70 : decode cX11_layWords 70 = .ok (.getfield 75, 3) := dq_823.2.2.2.2.2.2.2.1
theorem dX11_layWords_73 : decode cX11_layWords 73 = .ok (.iload_n 3, 1) := dq_823.2.2.2.2.2.2.2.2.1
theorem dX11_layWords_74 : decode cX11_layWords 74 = .ok (.aload_n 0, 1) := dq_823.2.2.2.2.2.2.2.2.2.1
theorem dX11_layWords_75 : decode cX11_layWords 75 = .ok (.getfield 75, 3) := dq_823.2.2.2.2.2.2.2.2.2.2.1
theorem dX11_layWords_78 : decode cX11_layWords 78 = .ok (.iload_n 3, 1) := dq_823.2.2.2.2.2.2.2.2.2.2.2
theorem dq_824 : decode cX11_layWords 79 = .ok (.iaload, 1) ∧ decode cX11_layWords 80 = .ok (.aload_n 0, 1) ∧ decode cX11_layWords 81 = .ok (.getfield 72, 3) ∧ decode cX11_layWords 84 = .ok (.iload 4, 2) ∧ decode cX11_layWords 86 = .ok (.iaload, 1) ∧ decode cX11_layWords 87 = .ok (.invokestatic 306, 3) ∧ decode cX11_layWords 90 = .ok (.iastore, 1) ∧ decode cX11_layWords 91 = .ok (.aload_n 0, 1) ∧ decode cX11_layWords 92 = .ok (.getfield 75, 3) ∧ decode cX11_layWords 95 = .ok (.iload 4, 2) ∧ decode cX11_layWords 97 = .ok (.aload_n 0, 1) ∧ decode cX11_layWords 98 = .ok (.getfield 75, 3) := by decide +kernel
theorem dX11_layWords_79 : decode cX11_layWords 79 = .ok (.iaload, 1) := dq_824.1
theorem dX11_layWords_80 : decode cX11_layWords 80 = .ok (.aload_n 0, 1) := dq_824.2.1
theorem dX11_layWords_81 : decode cX11_layWords 81 = .ok (.getfield 72, 3) := dq_824.2.2.1
theorem dX11_layWords_84 : decode cX11_layWords 84 = .ok (.iload 4, 2) := dq_824.2.2.2.1
theorem dX11_layWords_86 : decode cX11_layWords 86 = .ok (.iaload, 1) := dq_824.2.2.2.2.1
theorem dX11_layWords_87 : decode cX11_layWords 87 = .ok (.invokestatic 306, 3) := dq_824.2.2.2.2.2.1
theorem dX11_layWords_90 : decode cX11_layWords 90 = .ok (.iastore, 1) := dq_824.2.2.2.2.2.2.1
theorem dX11_layWords_91 : decode cX11_layWords 91 = .ok (.aload_n 0, 1) := dq_824.2.2.2.2.2.2.2.1
theorem dX11_layWords_92 : decode cX11_layWords 92 = .ok (.getfield 75, 3) := dq_824.2.2.2.2.2.2.2.2.1
theorem dX11_layWords_95 : decode cX11_layWords 95 = .ok (.iload 4, 2) := dq_824.2.2.2.2.2.2.2.2.2.1
theorem dX11_layWords_97 : decode cX11_layWords 97 = .ok (.aload_n 0, 1) := dq_824.2.2.2.2.2.2.2.2.2.2.1
theorem dX11_layWords_98 : decode cX11_layWords 98 = .ok (.getfield 75, 3) := dq_824.2.2.2.2.2.2.2.2.2.2.2
theorem dq_825 : decode cX11_layWords 101 = .ok (.iload 4, 2) ∧ decode cX11_layWords 103 = .ok (.iaload, 1) ∧ decode cX11_layWords 104 = .ok (.aload_n 0, 1) ∧ decode cX11_layWords 105 = .ok (.getfield 72, 3) ∧ decode cX11_layWords 108 = .ok (.iload_n 3, 1) ∧ decode cX11_layWords 109 = .ok (.iaload, 1) ∧ decode cX11_layWords 110 = .ok (.invokestatic 306, 3) ∧ decode cX11_layWords 113 = .ok (.iastore, 1) ∧ decode cX11_layWords 114 = .ok (.iinc 3 1, 3) ∧ decode cX11_layWords 117 = .ok (.goto (-72), 3) ∧ decode cX11_layWords 120 = .ok (.iinc 2 1, 3) ∧ decode cX11_layWords 123 = .ok (.goto (-86), 3) := by decide +kernel
theorem dX11_layWords_101 : decode cX11_layWords 101 = .ok (.iload 4, 2) := dq_825.1
theorem dX11_layWords_103 : decode cX11_layWords 103 = .ok (.iaload, 1) := dq_825.2.1
theorem dX11_layWords_104 : decode cX11_layWords 104 = .ok (.aload_n 0, 1) := dq_825.2.2.1
theorem dX11_layWords_105 : decode cX11_layWords 105 = .ok (.getfield 72, 3) := dq_825.2.2.2.1
theorem dX11_layWords_108 : decode cX11_layWords 108 = .ok (.iload_n 3, 1) := dq_825.2.2.2.2.1
theorem dX11_layWords_109 : decode cX11_layWords 109 = .ok (.iaload, 1) := dq_825.2.2.2.2.2.1
theorem dX11_layWords_110 : decode cX11_layWords 110 = .ok (.invokestatic 306, 3) := dq_825.2.2.2.2.2.2.1
theorem dX11_layWords_113 : decode cX11_layWords 113 = .ok (.iastore, 1) := dq_825.2.2.2.2.2.2.2.1
theorem dX11_layWords_114 : decode cX11_layWords 114 = .ok (.iinc 3 1, 3) := dq_825.2.2.2.2.2.2.2.2.1
theorem dX11_layWords_117 : decode cX11_layWords 117 = .ok (.goto (-72), 3) := dq_825.2.2.2.2.2.2.2.2.2.1
theorem dX11_layWords_120 : decode cX11_layWords 120 = .ok (.iinc 2 1, 3) := dq_825.2.2.2.2.2.2.2.2.2.2.1
theorem dX11_layWords_123 : decode cX11_layWords 123 = .ok (.goto (-86), 3) := dq_825.2.2.2.2.2.2.2.2.2.2.2
theorem dq_826 : decode cX11_layWords 126 = .ok (.iconst 0, 1) ∧ decode cX11_layWords 127 = .ok (.istore_n 2, 1) ∧ decode cX11_layWords 128 = .ok (.iload_n 2, 1) ∧ decode cX11_layWords 129 = .ok (.sipush 1024, 3) ∧ decode cX11_layWords 132 = .ok (.aload_n 0, 1) ∧ decode cX11_layWords 133 = .ok (.getfield 187, 3) ∧ decode cX11_layWords 136 = .ok (.imul, 1) ∧ decode cX11_layWords 137 = .ok (.if_icmp .ge 141, 3) ∧ decode cX11_layWords 140 = .ok (.iload_n 2, 1) ∧ decode cX11_layWords 141 = .ok (.sipush 512, 3) ∧ decode cX11_layWords 144 = .ok (.idiv, 1) ∧ decode cX11_layWords 145 = .ok (.iconst 2, 1) := by decide +kernel
theorem dX11_layWords_126 : decode cX11_layWords 126 = .ok (.iconst 0, 1) := dq_826.1
theorem dX11_layWords_127 : decode cX11_layWords 127 = .ok (.istore_n 2, 1) := dq_826.2.1
theorem dX11_layWords_128 : decode cX11_layWords 128 = .ok (.iload_n 2, 1) := dq_826.2.2.1
theorem dX11_layWords_129 : decode cX11_layWords 129 = .ok (.sipush 1024, 3) := dq_826.2.2.2.1
theorem dX11_layWords_132 : decode cX11_layWords 132 = .ok (.aload_n 0, 1) := dq_826.2.2.2.2.1
theorem dX11_layWords_133 : decode cX11_layWords 133 = .ok (.getfield 187, 3) := dq_826.2.2.2.2.2.1
theorem dX11_layWords_136 : decode cX11_layWords 136 = .ok (.imul, 1) := dq_826.2.2.2.2.2.2.1
theorem dX11_layWords_137 : decode cX11_layWords 137 = .ok (.if_icmp .ge 141, 3) := dq_826.2.2.2.2.2.2.2.1
theorem dX11_layWords_140 : decode cX11_layWords 140 = .ok (.iload_n 2, 1) := dq_826.2.2.2.2.2.2.2.2.1
theorem dX11_layWords_141 : decode cX11_layWords 141 = .ok (.sipush 512, 3) := dq_826.2.2.2.2.2.2.2.2.2.1
theorem dX11_layWords_144 : decode cX11_layWords 144 = .ok (.idiv, 1) := dq_826.2.2.2.2.2.2.2.2.2.2.1
theorem dX11_layWords_145 : decode cX11_layWords 145 = .ok (.iconst 2, 1) := dq_826.2.2.2.2.2.2.2.2.2.2.2
theorem dq_827 : decode cX11_layWords 146 = .ok (.irem, 1) ∧ decode cX11_layWords 147 = .ok (.iconst 1, 1) ∧ decode cX11_layWords 148 = .ok (.iadd, 1) ∧ decode cX11_layWords 149 = .ok (.istore_n 3, 1) ∧ decode cX11_layWords 150 = .ok (.iload_n 2, 1) ∧ decode cX11_layWords 151 = .ok (.bipush 64, 2) ∧ decode cX11_layWords 153 = .ok (.idiv, 1) ∧ decode cX11_layWords 154 = .ok (.bipush 8, 2) ∧ decode cX11_layWords 156 = .ok (.irem, 1) ∧ decode cX11_layWords 157 = .ok (.istore 4, 2) ∧ decode cX11_layWords 159 = .ok (.aload_n 0, 1) ∧ decode cX11_layWords 160 = .ok (.iload_n 2, 1) := by decide +kernel
theorem dX11_layWords_146 : decode cX11_layWords 146 = .ok (.irem, 1) := dq_827.1
theorem dX11_layWords_147 : decode cX11_layWords 147 = .ok (.iconst 1, 1) := dq_827.2.1
theorem dX11_layWords_148 : decode cX11_layWords 148 = .ok (.iadd, 1) := dq_827.2.2.1
theorem dX11_layWords_149 : decode cX11_layWords 149 = .ok (.istore_n 3, 1) := dq_827.2.2.2.1
theorem dX11_layWords_150 : decode cX11_layWords 150 = .ok (.iload_n 2, 1) := dq_827.2.2.2.2.1
theorem dX11_layWords_151 : decode cX11_layWords 151 = .ok (.bipush 64, 2) := dq_827.2.2.2.2.2.1
theorem dX11_layWords_153 : decode cX11_layWords 153 = .ok (.idiv, 1) := dq_827.2.2.2.2.2.2.1
theorem dX11_layWords_154 : decode cX11_layWords 154 = .ok (.bipush 8, 2) := dq_827.2.2.2.2.2.2.2.1
theorem dX11_layWords_156 : decode cX11_layWords 156 = .ok (.irem, 1) := dq_827.2.2.2.2.2.2.2.2.1
theorem dX11_layWords_157 : decode cX11_layWords 157 = .ok (.istore 4, 2) := dq_827.2.2.2.2.2.2.2.2.2.1
theorem dX11_layWords_159 : decode cX11_layWords 159 = .ok (.aload_n 0, 1) := dq_827.2.2.2.2.2.2.2.2.2.2.1
theorem dX11_layWords_160 : decode cX11_layWords 160 = .ok (.iload_n 2, 1) := dq_827.2.2.2.2.2.2.2.2.2.2.2
theorem dq_828 : decode cX11_layWords 161 = .ok (.sipush 1024, 3) ∧ decode cX11_layWords 164 = .ok (.idiv, 1) ∧ decode cX11_layWords 165 = .ok (.iload 4, 2) ∧ decode cX11_layWords 167 = .ok (.iload_n 3, 1) ∧ decode cX11_layWords 168 = .ok (.iload_n 2, 1) ∧ decode cX11_layWords 169 = .ok (.bipush 64, 2) ∧ decode cX11_layWords 171 = .ok (.irem, 1) ∧ decode cX11_layWords 172 = .ok (.invokevirtual 288, 3) ∧ decode cX11_layWords 175 = .ok (.ifCond .eq 97, 3) ∧ decode cX11_layWords 178 = .ok (.aload_n 0, 1) ∧ decode cX11_layWords 179 = .ok (.iload_n 2, 1) ∧ decode cX11_layWords 180 = .ok (.sipush 1024, 3) := by decide +kernel
theorem dX11_layWords_161 : decode cX11_layWords 161 = .ok (.sipush 1024, 3) := dq_828.1
theorem dX11_layWords_164 : decode cX11_layWords 164 = .ok (.idiv, 1) := dq_828.2.1
theorem dX11_layWords_165 : decode cX11_layWords 165 = .ok (.iload 4, 2) := dq_828.2.2.1
theorem dX11_layWords_167 : decode cX11_layWords 167 = .ok (.iload_n 3, 1) := dq_828.2.2.2.1
theorem dX11_layWords_168 : decode cX11_layWords 168 = .ok (.iload_n 2, 1) := dq_828.2.2.2.2.1
theorem dX11_layWords_169 : decode cX11_layWords 169 = .ok (.bipush 64, 2) := dq_828.2.2.2.2.2.1
theorem dX11_layWords_171 : decode cX11_layWords 171 = .ok (.irem, 1) := dq_828.2.2.2.2.2.2.1
theorem dX11_layWords_172 : decode cX11_layWords 172 = .ok (.invokevirtual 288, 3) := dq_828.2.2.2.2.2.2.2.1
theorem dX11_layWords_175 : decode cX11_layWords 175 = .ok (.ifCond .eq 97, 3) := dq_828.2.2.2.2.2.2.2.2.1
theorem dX11_layWords_178 : decode cX11_layWords 178 = .ok (.aload_n 0, 1) := dq_828.2.2.2.2.2.2.2.2.2.1
theorem dX11_layWords_179 : decode cX11_layWords 179 = .ok (.iload_n 2, 1) := dq_828.2.2.2.2.2.2.2.2.2.2.1
theorem dX11_layWords_180 : decode cX11_layWords 180 = .ok (.sipush 1024, 3) := dq_828.2.2.2.2.2.2.2.2.2.2.2
theorem dq_829 : decode cX11_layWords 183 = .ok (.idiv, 1) ∧ decode cX11_layWords 184 = .ok (.iload 4, 2) ∧ decode cX11_layWords 186 = .ok (.iload_n 3, 1) ∧ decode cX11_layWords 187 = .ok (.iload_n 2, 1) ∧ decode cX11_layWords 188 = .ok (.bipush 64, 2) ∧ decode cX11_layWords 190 = .ok (.irem, 1) ∧ decode cX11_layWords 191 = .ok (.invokevirtual 292, 3) ∧ decode cX11_layWords 194 = .ok (.iconst 0, 1) ∧ decode cX11_layWords 195 = .ok (.istore 5, 2) ∧ decode cX11_layWords 197 = .ok (.iload 5, 2) ∧ decode cX11_layWords 199 = .ok (.bipush 16, 2) ∧ decode cX11_layWords 201 = .ok (.iload_n 3, 1) := by decide +kernel
theorem dX11_layWords_183 : decode cX11_layWords 183 = .ok (.idiv, 1) := dq_829.1
theorem dX11_layWords_184 : decode cX11_layWords 184 = .ok (.iload 4, 2) := dq_829.2.1
theorem dX11_layWords_186 : decode cX11_layWords 186 = .ok (.iload_n 3, 1) := dq_829.2.2.1
theorem dX11_layWords_187 : decode cX11_layWords 187 = .ok (.iload_n 2, 1) := dq_829.2.2.2.1
theorem dX11_layWords_188 : decode cX11_layWords 188 = .ok (.bipush 64, 2) := dq_829.2.2.2.2.1
theorem dX11_layWords_190 : decode cX11_layWords 190 = .ok (.irem, 1) := dq_829.2.2.2.2.2.1
theorem dX11_layWords_191 : decode cX11_layWords 191 = .ok (.invokevirtual 292, 3) := dq_829.2.2.2.2.2.2.1
theorem dX11_layWords_194 : decode cX11_layWords 194 = .ok (.iconst 0, 1) := dq_829.2.2.2.2.2.2.2.1
theorem dX11_layWords_195 : decode cX11_layWords 195 = .ok (.istore 5, 2) := dq_829.2.2.2.2.2.2.2.2.1
theorem dX11_layWords_197 : decode cX11_layWords 197 = .ok (.iload 5, 2) := dq_829.2.2.2.2.2.2.2.2.2.1
theorem dX11_layWords_199 : decode cX11_layWords 199 = .ok (.bipush 16, 2) := dq_829.2.2.2.2.2.2.2.2.2.2.1
theorem dX11_layWords_201 : decode cX11_layWords 201 = .ok (.iload_n 3, 1) := dq_829.2.2.2.2.2.2.2.2.2.2.2
theorem dq_830 : decode cX11_layWords 202 = .ok (.imul, 1) ∧ decode cX11_layWords 203 = .ok (.iload_n 3, 1) ∧ decode cX11_layWords 204 = .ok (.imul, 1) ∧ decode cX11_layWords 205 = .ok (.if_icmp .ge 67, 3) ∧ decode cX11_layWords 208 = .ok (.aload_n 0, 1) ∧ decode cX11_layWords 209 = .ok (.getfield 275, 3) ∧ decode cX11_layWords 212 = .ok (.ifCond .ne 60, 3) ∧ decode cX11_layWords 215 = .ok (.aload_n 0, 1) ∧ decode cX11_layWords 216 = .ok (.getfield 272, 3) ∧ decode cX11_layWords 219 = .ok (.iconst 3, 1) ∧ decode cX11_layWords 220 = .ok (.if_icmp .le 52, 3) ∧ decode cX11_layWords 223 = .ok (.iload_n 3, 1) := by decide +kernel
theorem dX11_layWords_202 : decode cX11_layWords 202 = .ok (.imul, 1) := dq_830.1
theorem dX11_layWords_203 : decode cX11_layWords 203 = .ok (.iload_n 3, 1) := dq_830.2.1
theorem dX11_layWords_204 : decode cX11_layWords 204 = .ok (.imul, 1) := dq_830.2.2.1
theorem dX11_layWords_205 : decode cX11_layWords 205 = .ok (.if_icmp .ge 67, 3) := dq_830.2.2.2.1
theorem dX11_layWords_208 : decode cX11_layWords 208 = .ok (.aload_n 0, 1) := dq_830.2.2.2.2.1
theorem dX11_layWords_209 : decode cX11_layWords 209 = .ok (.getfield 275, 3) := dq_830.2.2.2.2.2.1
theorem dX11_layWords_212 : decode cX11_layWords 212 = .ok (.ifCond .ne 60, 3) := dq_830.2.2.2.2.2.2.1
theorem dX11_layWords_215 : decode cX11_layWords 215 = .ok (.aload_n 0, 1) := dq_830.2.2.2.2.2.2.2.1
theorem dX11_layWords_216 : decode cX11_layWords 216 = .ok (.getfield 272, 3) := dq_830.2.2.2.2.2.2.2.2.1
theorem dX11_layWords_219 : decode cX11_layWords 219 = .ok (.iconst 3, 1) := dq_830.2.2.2.2.2.2.2.2.2.1
theorem dX11_layWords_220 : decode cX11_layWords 220 = .ok (.if_icmp .le 52, 3) := dq_830.2.2.2.2.2.2.2.2.2.2.1
theorem dX11_layWords_223 : decode cX11_layWords 223 = .ok (.iload_n 3, 1) := dq_830.2.2.2.2.2.2.2.2.2.2.2
theorem dq_831 : decode cX11_layWords 224 = .ok (.iload_n 2, 1) ∧ decode cX11_layWords 225 = .ok (.bipush 64, 2) ∧ decode cX11_layWords 227 = .ok (.irem, 1) ∧ decode cX11_layWords 228 = .ok (.iload 5, 2) ∧ decode cX11_layWords 230 = .ok (.invokestatic 285, 3) ∧ decode cX11_layWords 233 = .ok (.istore 6, 2) ∧ decode cX11_layWords 235 = .ok (.aload_n 0, 1) ∧ decode cX11_layWords 236 = .ok (.getfield 78, 3) ∧ decode cX11_layWords 239 = .ok (.iload 6, 2) ∧ decode cX11_layWords 241 = .ok (.aload_n 0, 1) ∧ decode cX11_layWords 242 = .ok (.getfield 78, 3) ∧ decode cX11_layWords 245 = .ok (.iload 6, 2) := by decide +kernel
theorem dX11_layWords_224 : decode cX11_layWords 224 = .ok (.iload_n 2, 1) := dq_831.1
theorem dX11_layWords_225 : decode cX11_layWords 225 = .ok (.bipush 64, 2) := dq_831.2.1
theorem dX11_layWords_227 : decode cX11_layWords 227 = .ok (.irem, 1) := dq_831.2.2.1
theorem dX11_layWords_228 : decode cX11_layWords 228 = .ok (.iload 5, 2) := dq_831.2.2.2.1
theorem dX11_layWords_230 : decode cX11_layWords 230 = .ok (.invokestatic 285, 3) := dq_831.2.2.2.2.1
theorem dX11_layWords_233 : decode cX11_layWords 233 = .ok (.istore 6, 2) := dq_831.2.2.2.2.2.1
theorem dX11_layWords_235 : decode cX11_layWords 235 = .ok (.aload_n 0, 1) := dq_831.2.2.2.2.2.2.1
theorem dX11_layWords_236 : decode cX11_layWords 236 = .ok (.getfield 78, 3) := dq_831.2.2.2.2.2.2.2.1
theorem dX11_layWords_239 : decode cX11_layWords 239 = .ok (.iload 6, 2) := dq_831.2.2.2.2.2.2.2.2.1
theorem dX11_layWords_241 : decode cX11_layWords 241 = .ok (.aload_n 0, 1) := dq_831.2.2.2.2.2.2.2.2.2.1
theorem dX11_layWords_242 : decode cX11_layWords 242 = .ok (.getfield 78, 3) := dq_831.2.2.2.2.2.2.2.2.2.2.1
theorem dX11_layWords_245 : decode cX11_layWords 245 = .ok (.iload 6, 2) := dq_831.2.2.2.2.2.2.2.2.2.2.2
theorem dq_832 : decode cX11_layWords 247 = .ok (.iaload, 1) ∧ decode cX11_layWords 248 = .ok (.aload_n 0, 1) ∧ decode cX11_layWords 249 = .ok (.iload_n 2, 1) ∧ decode cX11_layWords 250 = .ok (.sipush 1024, 3) ∧ decode cX11_layWords 253 = .ok (.idiv, 1) ∧ decode cX11_layWords 254 = .ok (.iload 4, 2) ∧ decode cX11_layWords 256 = .ok (.iload_n 3, 1) ∧ decode cX11_layWords 257 = .ok (.iload 5, 2) ∧ decode cX11_layWords 259 = .ok (.invokevirtual 281, 3) ∧ decode cX11_layWords 262 = .ok (.invokestatic 306, 3) ∧ decode cX11_layWords 265 = .ok (.iastore, 1) ∧ decode cX11_layWords 266 = .ok (.iinc 5 1, 3) := by decide +kernel
theorem dX11_layWords_247 : decode cX11_layWords 247 = .ok (.iaload, 1) := dq_832.1
theorem dX11_layWords_248 : decode cX11_layWords 248 = .ok (.aload_n 0, 1) := dq_832.2.1
theorem dX11_layWords_249 : decode cX11_layWords 249 = .ok (.iload_n 2, 1) := dq_832.2.2.1
theorem dX11_layWords_250 : decode cX11_layWords 250 = .ok (.sipush 1024, 3) := dq_832.2.2.2.1
theorem dX11_layWords_253 : decode cX11_layWords 253 = .ok (.idiv, 1) := dq_832.2.2.2.2.1
theorem dX11_layWords_254 : decode cX11_layWords 254 = .ok (.iload 4, 2) := dq_832.2.2.2.2.2.1
theorem dX11_layWords_256 : decode cX11_layWords 256 = .ok (.iload_n 3, 1) := dq_832.2.2.2.2.2.2.1
theorem dX11_layWords_257 : decode cX11_layWords 257 = .ok (.iload 5, 2) := dq_832.2.2.2.2.2.2.2.1
theorem dX11_layWords_259 : decode cX11_layWords 259 = .ok (.invokevirtual 281, 3) := dq_832.2.2.2.2.2.2.2.2.1
theorem dX11_layWords_262 : decode cX11_layWords 262 = .ok (.invokestatic 306, 3) := dq_832.2.2.2.2.2.2.2.2.2.1
theorem dX11_layWords_265 : decode cX11_layWords 265 = .ok (.iastore, 1) := dq_832.2.2.2.2.2.2.2.2.2.2.1
theorem dX11_layWords_266 : decode cX11_layWords 266 = .ok (.iinc 5 1, 3) := dq_832.2.2.2.2.2.2.2.2.2.2.2
theorem dq_833 : decode cX11_layWords 269 = .ok (.goto (-72), 3) ∧ decode cX11_layWords 272 = .ok (.iinc 2 1, 3) ∧ decode cX11_layWords 275 = .ok (.goto (-147), 3) ∧ decode cX11_layWords 278 = .ok (.return_, 1) := by decide +kernel
theorem dX11_layWords_269 : decode cX11_layWords 269 = .ok (.goto (-72), 3) := dq_833.1
theorem dX11_layWords_272 : decode cX11_layWords 272 = .ok (.iinc 2 1, 3) := dq_833.2.1
theorem dX11_layWords_275 : decode cX11_layWords 275 = .ok (.goto (-147), 3) := dq_833.2.2.1
theorem dX11_layWords_278 : decode cX11_layWords 278 = .ok (.return_, 1) := dq_833.2.2.2
theorem dq_834 : decode cX11_sureOf 0 = .ok (.aload_n 0, 1) ∧ decode cX11_sureOf 1 = .ok (.getfield 75, 3) ∧ decode cX11_sureOf 4 = .ok (.iload_n 1, 1) ∧ decode cX11_sureOf 5 = .ok (.iaload, 1) ∧ decode cX11_sureOf 6 = .ok (.istore_n 2, 1) ∧ decode cX11_sureOf 7 = .ok (.aload_n 0, 1) ∧ decode cX11_sureOf 8 = .ok (.getfield 78, 3) ∧ decode cX11_sureOf 11 = .ok (.iload_n 1, 1) ∧ decode cX11_sureOf 12 = .ok (.iaload, 1) ∧ decode cX11_sureOf 13 = .ok (.istore_n 3, 1) ∧ decode cX11_sureOf 14 = .ok (.iload_n 2, 1) ∧ decode cX11_sureOf 15 = .ok (.bipush (-2), 2) := by decide +kernel
theorem dX11_sureOf_0 : decode cX11_sureOf 0 = .ok (.aload_n 0, 1) := dq_834.1
theorem dX11_sureOf_1 : decode cX11_sureOf 1 = .ok (.getfield 75, 3) := dq_834.2.1
theorem dX11_sureOf_4 : decode cX11_sureOf 4 = .ok (.iload_n 1, 1) := dq_834.2.2.1
theorem dX11_sureOf_5 : decode cX11_sureOf 5 = .ok (.iaload, 1) := dq_834.2.2.2.1
theorem dX11_sureOf_6 : decode cX11_sureOf 6 = .ok (.istore_n 2, 1) := dq_834.2.2.2.2.1
theorem dX11_sureOf_7 : decode cX11_sureOf 7 = .ok (.aload_n 0, 1) := dq_834.2.2.2.2.2.1
theorem dX11_sureOf_8 : decode cX11_sureOf 8 = .ok (.getfield 78, 3) := dq_834.2.2.2.2.2.2.1
theorem dX11_sureOf_11 : decode cX11_sureOf 11 = .ok (.iload_n 1, 1) := dq_834.2.2.2.2.2.2.2.1
theorem dX11_sureOf_12 : decode cX11_sureOf 12 = .ok (.iaload, 1) := dq_834.2.2.2.2.2.2.2.2.1
theorem dX11_sureOf_13 : decode cX11_sureOf 13 = .ok (.istore_n 3, 1) := dq_834.2.2.2.2.2.2.2.2.2.1
theorem dX11_sureOf_14 : decode cX11_sureOf 14 = .ok (.iload_n 2, 1) := dq_834.2.2.2.2.2.2.2.2.2.2.1
theorem dX11_sureOf_15 : decode cX11_sureOf 15 = .ok (.bipush (-2), 2) := dq_834.2.2.2.2.2.2.2.2.2.2.2
theorem dq_835 : decode cX11_sureOf 17 = .ok (.if_icmp .eq 9, 3) ∧ decode cX11_sureOf 20 = .ok (.iload_n 3, 1) ∧ decode cX11_sureOf 21 = .ok (.bipush (-2), 2) ∧ decode cX11_sureOf 23 = .ok (.if_icmp .ne 8, 3) ∧ decode cX11_sureOf 26 = .ok (.bipush (-2), 2) ∧ decode cX11_sureOf 28 = .ok (.goto 30, 3) ∧ decode cX11_sureOf 31 = .ok (.iload_n 2, 1) ∧ decode cX11_sureOf 32 = .ok (.bipush (-4), 2) ∧ decode cX11_sureOf 34 = .ok (.if_icmp .ne 7, 3) ∧ decode cX11_sureOf 37 = .ok (.iload_n 3, 1) ∧ decode cX11_sureOf 38 = .ok (.goto 20, 3) ∧ decode cX11_sureOf 41 = .ok (.iload_n 3, 1) := by decide +kernel
theorem dX11_sureOf_17 : decode cX11_sureOf 17 = .ok (.if_icmp .eq 9, 3) := dq_835.1
theorem dX11_sureOf_20 : decode cX11_sureOf 20 = .ok (.iload_n 3, 1) := dq_835.2.1
theorem dX11_sureOf_21 : decode cX11_sureOf 21 = .ok (.bipush (-2), 2) := dq_835.2.2.1
theorem dX11_sureOf_23 : decode cX11_sureOf 23 = .ok (.if_icmp .ne 8, 3) := dq_835.2.2.2.1
theorem dX11_sureOf_26 : decode cX11_sureOf 26 = .ok (.bipush (-2), 2) := dq_835.2.2.2.2.1
theorem dX11_sureOf_28 : decode cX11_sureOf 28 = .ok (.goto 30, 3) := dq_835.2.2.2.2.2.1
theorem dX11_sureOf_31 : decode cX11_sureOf 31 = .ok (.iload_n 2, 1) := dq_835.2.2.2.2.2.2.1
theorem dX11_sureOf_32 : decode cX11_sureOf 32 = .ok (.bipush (-4), 2) := dq_835.2.2.2.2.2.2.2.1
theorem dX11_sureOf_34 : decode cX11_sureOf 34 = .ok (.if_icmp .ne 7, 3) := dq_835.2.2.2.2.2.2.2.2.1
theorem dX11_sureOf_37 : decode cX11_sureOf 37 = .ok (.iload_n 3, 1) := dq_835.2.2.2.2.2.2.2.2.2.1
theorem dX11_sureOf_38 : decode cX11_sureOf 38 = .ok (.goto 20, 3) := dq_835.2.2.2.2.2.2.2.2.2.2.1
theorem dX11_sureOf_41 : decode cX11_sureOf 41 = .ok (.iload_n 3, 1) := dq_835.2.2.2.2.2.2.2.2.2.2.2
theorem dq_836 : decode cX11_sureOf 42 = .ok (.bipush (-4), 2) ∧ decode cX11_sureOf 44 = .ok (.if_icmp .eq 8, 3) ∧ decode cX11_sureOf 47 = .ok (.iload_n 2, 1) ∧ decode cX11_sureOf 48 = .ok (.iload_n 3, 1) ∧ decode cX11_sureOf 49 = .ok (.if_icmp .ne 7, 3) ∧ decode cX11_sureOf 52 = .ok (.iload_n 2, 1) ∧ decode cX11_sureOf 53 = .ok (.goto 5, 3) ∧ decode cX11_sureOf 56 = .ok (.bipush (-2), 2) ∧ decode cX11_sureOf 58 = .ok (.ireturn, 1) := by decide +kernel
theorem dX11_sureOf_42 : decode cX11_sureOf 42 = .ok (.bipush (-4), 2) := dq_836.1
theorem dX11_sureOf_44 : decode cX11_sureOf 44 = .ok (.if_icmp .eq 8, 3) := dq_836.2.1
theorem dX11_sureOf_47 : decode cX11_sureOf 47 = .ok (.iload_n 2, 1) := dq_836.2.2.1
theorem dX11_sureOf_48 : decode cX11_sureOf 48 = .ok (.iload_n 3, 1) := dq_836.2.2.2.1
theorem dX11_sureOf_49 : decode cX11_sureOf 49 = .ok (.if_icmp .ne 7, 3) := dq_836.2.2.2.2.1
theorem dX11_sureOf_52 : decode cX11_sureOf 52 = .ok (.iload_n 2, 1) := dq_836.2.2.2.2.2.1
theorem dX11_sureOf_53 : decode cX11_sureOf 53 = .ok (.goto 5, 3) := dq_836.2.2.2.2.2.2.1
theorem dX11_sureOf_56 : decode cX11_sureOf 56 = .ok (.bipush (-2), 2) := dq_836.2.2.2.2.2.2.2.1
theorem dX11_sureOf_58 : decode cX11_sureOf 58 = .ok (.ireturn, 1) := dq_836.2.2.2.2.2.2.2.2
theorem dq_837 : decode cX11_may 0 = .ok (.iload_n 1, 1) ∧ decode cX11_may 1 = .ok (.invokestatic 254, 3) ∧ decode cX11_may 4 = .ok (.ifCond .eq 25, 3) ∧ decode cX11_may 7 = .ok (.aload_n 0, 1) ∧ decode cX11_may 8 = .ok (.getfield 72, 3) ∧ decode cX11_may 11 = .ok (.iload_n 1, 1) ∧ decode cX11_may 12 = .ok (.iaload, 1) ∧ decode cX11_may 13 = .ok (.iconst (-1), 1) ∧ decode cX11_may 14 = .ok (.if_icmp .ne 15, 3) ∧ decode cX11_may 17 = .ok (.iload_n 2, 1) ∧ decode cX11_may 18 = .ok (.i2l, 1) ∧ decode cX11_may 19 = .ok (.lconst 0, 1) := by decide +kernel
theorem dX11_may_0 : decode cX11_may 0 = .ok (.iload_n 1, 1) := dq_837.1
theorem dX11_may_1 : decode cX11_may 1 = .ok (.invokestatic 254, 3) := dq_837.2.1
theorem dX11_may_4 : decode cX11_may 4 = .ok (.ifCond .eq 25, 3) := dq_837.2.2.1
theorem dX11_may_7 : decode cX11_may 7 = .ok (.aload_n 0, 1) := dq_837.2.2.2.1
theorem dX11_may_8 : decode cX11_may 8 = .ok (.getfield 72, 3) := dq_837.2.2.2.2.1
theorem dX11_may_11 : decode cX11_may 11 = .ok (.iload_n 1, 1) := dq_837.2.2.2.2.2.1
theorem dX11_may_12 : decode cX11_may 12 = .ok (.iaload, 1) := dq_837.2.2.2.2.2.2.1
theorem dX11_may_13 : decode cX11_may 13 = .ok (.iconst (-1), 1) := dq_837.2.2.2.2.2.2.2.1
theorem dX11_may_14 : decode cX11_may 14 = .ok (.if_icmp .ne 15, 3) := dq_837.2.2.2.2.2.2.2.2.1
theorem dX11_may_17 : decode cX11_may 17 = .ok (.iload_n 2, 1) := dq_837.2.2.2.2.2.2.2.2.2.1
theorem dX11_may_18 : decode cX11_may 18 = .ok (.i2l, 1) := dq_837.2.2.2.2.2.2.2.2.2.2.1
theorem dX11_may_19 : decode cX11_may 19 = .ok (.lconst 0, 1) := dq_837.2.2.2.2.2.2.2.2.2.2.2
theorem dq_838 : decode cX11_may 20 = .ok (.ldc2_w 245, 3) ∧ decode cX11_may 23 = .ok (.invokestatic 96, 3) ∧ decode cX11_may 26 = .ok (.ifCond .ne 5, 3) ∧ decode cX11_may 29 = .ok (.iconst (-1), 1) ∧ decode cX11_may 30 = .ok (.ireturn, 1) ∧ decode cX11_may 31 = .ok (.aload_n 0, 1) ∧ decode cX11_may 32 = .ok (.invokevirtual 309, 3) ∧ decode cX11_may 35 = .ok (.iload_n 2, 1) ∧ decode cX11_may 36 = .ok (.ifCond .ne 12, 3) ∧ decode cX11_may 39 = .ok (.aload_n 0, 1) ∧ decode cX11_may 40 = .ok (.getfield 75, 3) ∧ decode cX11_may 43 = .ok (.iload_n 1, 1) := by decide +kernel
theorem dX11_may_20 : decode cX11_may 20 = .ok (.ldc2_w 245, 3) := dq_838.1
theorem dX11_may_23 : decode cX11_may 23 = .ok (.invokestatic 96, 3) := dq_838.2.1
theorem dX11_may_26 : decode cX11_may 26 = .ok (.ifCond .ne 5, 3) := dq_838.2.2.1
theorem dX11_may_29 : decode cX11_may 29 = .ok (.iconst (-1), 1) := dq_838.2.2.2.1
theorem dX11_may_30 : decode cX11_may 30 = .ok (.ireturn, 1) := dq_838.2.2.2.2.1
theorem dX11_may_31 : decode cX11_may 31 = .ok (.aload_n 0, 1) := dq_838.2.2.2.2.2.1
theorem dX11_may_32 : decode cX11_may 32 = .ok (.invokevirtual 309, 3) := dq_838.2.2.2.2.2.2.1
theorem dX11_may_35 : decode cX11_may 35 = .ok (.iload_n 2, 1) := dq_838.2.2.2.2.2.2.2.1
theorem dX11_may_36 : decode cX11_may 36 = .ok (.ifCond .ne 12, 3) := dq_838.2.2.2.2.2.2.2.2.1
theorem dX11_may_39 : decode cX11_may 39 = .ok (.aload_n 0, 1) := dq_838.2.2.2.2.2.2.2.2.2.1
theorem dX11_may_40 : decode cX11_may 40 = .ok (.getfield 75, 3) := dq_838.2.2.2.2.2.2.2.2.2.2.1
theorem dX11_may_43 : decode cX11_may 43 = .ok (.iload_n 1, 1) := dq_838.2.2.2.2.2.2.2.2.2.2.2
theorem dq_839 : decode cX11_may 44 = .ok (.iaload, 1) ∧ decode cX11_may 45 = .ok (.goto 22, 3) ∧ decode cX11_may 48 = .ok (.iload_n 2, 1) ∧ decode cX11_may 49 = .ok (.iconst 1, 1) ∧ decode cX11_may 50 = .ok (.if_icmp .ne 12, 3) ∧ decode cX11_may 53 = .ok (.aload_n 0, 1) ∧ decode cX11_may 54 = .ok (.getfield 78, 3) ∧ decode cX11_may 57 = .ok (.iload_n 1, 1) ∧ decode cX11_may 58 = .ok (.iaload, 1) ∧ decode cX11_may 59 = .ok (.goto 8, 3) ∧ decode cX11_may 62 = .ok (.aload_n 0, 1) ∧ decode cX11_may 63 = .ok (.iload_n 1, 1) := by decide +kernel
theorem dX11_may_44 : decode cX11_may 44 = .ok (.iaload, 1) := dq_839.1
theorem dX11_may_45 : decode cX11_may 45 = .ok (.goto 22, 3) := dq_839.2.1
theorem dX11_may_48 : decode cX11_may 48 = .ok (.iload_n 2, 1) := dq_839.2.2.1
theorem dX11_may_49 : decode cX11_may 49 = .ok (.iconst 1, 1) := dq_839.2.2.2.1
theorem dX11_may_50 : decode cX11_may 50 = .ok (.if_icmp .ne 12, 3) := dq_839.2.2.2.2.1
theorem dX11_may_53 : decode cX11_may 53 = .ok (.aload_n 0, 1) := dq_839.2.2.2.2.2.1
theorem dX11_may_54 : decode cX11_may 54 = .ok (.getfield 78, 3) := dq_839.2.2.2.2.2.2.1
theorem dX11_may_57 : decode cX11_may 57 = .ok (.iload_n 1, 1) := dq_839.2.2.2.2.2.2.2.1
theorem dX11_may_58 : decode cX11_may 58 = .ok (.iaload, 1) := dq_839.2.2.2.2.2.2.2.2.1
theorem dX11_may_59 : decode cX11_may 59 = .ok (.goto 8, 3) := dq_839.2.2.2.2.2.2.2.2.2.1
theorem dX11_may_62 : decode cX11_may 62 = .ok (.aload_n 0, 1) := dq_839.2.2.2.2.2.2.2.2.2.2.1
theorem dX11_may_63 : decode cX11_may 63 = .ok (.iload_n 1, 1) := dq_839.2.2.2.2.2.2.2.2.2.2.2
theorem dq_840 : decode cX11_may 64 = .ok (.invokevirtual 312, 3) ∧ decode cX11_may 67 = .ok (.ireturn, 1) := by decide +kernel
theorem dX11_may_64 : decode cX11_may 64 = .ok (.invokevirtual 312, 3) := dq_840.1
theorem dX11_may_67 : decode cX11_may 67 = .ok (.ireturn, 1) := dq_840.2
theorem dq_841 : decode cX11_lost 0 = .ok (.iload_n 1, 1) ∧ decode cX11_lost 1 = .ok (.i2l, 1) ∧ decode cX11_lost 2 = .ok (.lconst 0, 1) ∧ decode cX11_lost 3 = .ok (.ldc2_w 245, 3) ∧ decode cX11_lost 6 = .ok (.invokestatic 96, 3) ∧ decode cX11_lost 9 = .ok (.ifCond .ne 5, 3) ∧ decode cX11_lost 12 = .ok (.iconst (-1), 1) ∧ decode cX11_lost 13 = .ok (.ireturn, 1) ∧ decode cX11_lost 14 = .ok (.aload_n 0, 1) ∧ decode cX11_lost 15 = .ok (.invokevirtual 309, 3) ∧ decode cX11_lost 18 = .ok (.iconst 0, 1) ∧ decode cX11_lost 19 = .ok (.istore_n 2, 1) := by decide +kernel
theorem dX11_lost_0 : decode cX11_lost 0 = .ok (.iload_n 1, 1) := dq_841.1
theorem dX11_lost_1 : decode cX11_lost 1 = .ok (.i2l, 1) := dq_841.2.1
theorem dX11_lost_2 : decode cX11_lost 2 = .ok (.lconst 0, 1) := dq_841.2.2.1
theorem dX11_lost_3 : decode cX11_lost 3 = .ok (.ldc2_w 245, 3) := dq_841.2.2.2.1
theorem dX11_lost_6 : decode cX11_lost 6 = .ok (.invokestatic 96, 3) := dq_841.2.2.2.2.1
theorem dX11_lost_9 : decode cX11_lost 9 = .ok (.ifCond .ne 5, 3) := dq_841.2.2.2.2.2.1
theorem dX11_lost_12 : decode cX11_lost 12 = .ok (.iconst (-1), 1) := dq_841.2.2.2.2.2.2.1
theorem dX11_lost_13 : decode cX11_lost 13 = .ok (.ireturn, 1) := dq_841.2.2.2.2.2.2.2.1
theorem dX11_lost_14 : decode cX11_lost 14 = .ok (.aload_n 0, 1) := dq_841.2.2.2.2.2.2.2.2.1
theorem dX11_lost_15 : decode cX11_lost 15 = .ok (.invokevirtual 309, 3) := dq_841.2.2.2.2.2.2.2.2.2.1
theorem dX11_lost_18 : decode cX11_lost 18 = .ok (.iconst 0, 1) := dq_841.2.2.2.2.2.2.2.2.2.2.1
theorem dX11_lost_19 : decode cX11_lost 19 = .ok (.istore_n 2, 1) := dq_841.2.2.2.2.2.2.2.2.2.2.2
theorem dq_842 : decode cX11_lost 20 = .ok (.iconst 0, 1) ∧ decode cX11_lost 21 = .ok (.istore_n 3, 1) ∧ decode cX11_lost 22 = .ok (.iload_n 3, 1) ∧ decode cX11_lost 23 = .ok (.bipush 64, 2) ∧ decode cX11_lost 25 = .ok (.if_icmp .ge 68, 3) ∧ decode cX11_lost 28 = .ok (.aload_n 0, 1) ∧ decode cX11_lost 29 = .ok (.iload_n 3, 1) ∧ decode cX11_lost 30 = .ok (.invokevirtual 312, 3) ∧ decode cX11_lost 33 = .ok (.istore 4, 2) ∧ decode cX11_lost 35 = .ok (.iload_n 2, 1) ∧ decode cX11_lost 36 = .ok (.aload_n 0, 1) ∧ decode cX11_lost 37 = .ok (.getfield 72, 3) := by decide +kernel
theorem dX11_lost_20 : decode cX11_lost 20 = .ok (.iconst 0, 1) := dq_842.1
theorem dX11_lost_21 : decode cX11_lost 21 = .ok (.istore_n 3, 1) := dq_842.2.1
theorem dX11_lost_22 : decode cX11_lost 22 = .ok (.iload_n 3, 1) := dq_842.2.2.1
theorem dX11_lost_23 : decode cX11_lost 23 = .ok (.bipush 64, 2) := dq_842.2.2.2.1
theorem dX11_lost_25 : decode cX11_lost 25 = .ok (.if_icmp .ge 68, 3) := dq_842.2.2.2.2.1
theorem dX11_lost_28 : decode cX11_lost 28 = .ok (.aload_n 0, 1) := dq_842.2.2.2.2.2.1
theorem dX11_lost_29 : decode cX11_lost 29 = .ok (.iload_n 3, 1) := dq_842.2.2.2.2.2.2.1
theorem dX11_lost_30 : decode cX11_lost 30 = .ok (.invokevirtual 312, 3) := dq_842.2.2.2.2.2.2.2.1
theorem dX11_lost_33 : decode cX11_lost 33 = .ok (.istore 4, 2) := dq_842.2.2.2.2.2.2.2.2.1
theorem dX11_lost_35 : decode cX11_lost 35 = .ok (.iload_n 2, 1) := dq_842.2.2.2.2.2.2.2.2.2.1
theorem dX11_lost_36 : decode cX11_lost 36 = .ok (.aload_n 0, 1) := dq_842.2.2.2.2.2.2.2.2.2.2.1
theorem dX11_lost_37 : decode cX11_lost 37 = .ok (.getfield 72, 3) := dq_842.2.2.2.2.2.2.2.2.2.2.2
theorem dq_843 : decode cX11_lost 40 = .ok (.iload_n 3, 1) ∧ decode cX11_lost 41 = .ok (.iaload, 1) ∧ decode cX11_lost 42 = .ok (.iconst (-1), 1) ∧ decode cX11_lost 43 = .ok (.if_icmp .ne 41, 3) ∧ decode cX11_lost 46 = .ok (.iload_n 1, 1) ∧ decode cX11_lost 47 = .ok (.ifCond .ne 11, 3) ∧ decode cX11_lost 50 = .ok (.iload 4, 2) ∧ decode cX11_lost 52 = .ok (.ifCond .lt 32, 3) ∧ decode cX11_lost 55 = .ok (.goto 25, 3) ∧ decode cX11_lost 58 = .ok (.iload_n 1, 1) ∧ decode cX11_lost 59 = .ok (.iconst 1, 1) ∧ decode cX11_lost 60 = .ok (.if_icmp .ne 13, 3) := by decide +kernel
theorem dX11_lost_40 : decode cX11_lost 40 = .ok (.iload_n 3, 1) := dq_843.1
theorem dX11_lost_41 : decode cX11_lost 41 = .ok (.iaload, 1) := dq_843.2.1
theorem dX11_lost_42 : decode cX11_lost 42 = .ok (.iconst (-1), 1) := dq_843.2.2.1
theorem dX11_lost_43 : decode cX11_lost 43 = .ok (.if_icmp .ne 41, 3) := dq_843.2.2.2.1
theorem dX11_lost_46 : decode cX11_lost 46 = .ok (.iload_n 1, 1) := dq_843.2.2.2.2.1
theorem dX11_lost_47 : decode cX11_lost 47 = .ok (.ifCond .ne 11, 3) := dq_843.2.2.2.2.2.1
theorem dX11_lost_50 : decode cX11_lost 50 = .ok (.iload 4, 2) := dq_843.2.2.2.2.2.2.1
theorem dX11_lost_52 : decode cX11_lost 52 = .ok (.ifCond .lt 32, 3) := dq_843.2.2.2.2.2.2.2.1
theorem dX11_lost_55 : decode cX11_lost 55 = .ok (.goto 25, 3) := dq_843.2.2.2.2.2.2.2.2.1
theorem dX11_lost_58 : decode cX11_lost 58 = .ok (.iload_n 1, 1) := dq_843.2.2.2.2.2.2.2.2.2.1
theorem dX11_lost_59 : decode cX11_lost 59 = .ok (.iconst 1, 1) := dq_843.2.2.2.2.2.2.2.2.2.2.1
theorem dX11_lost_60 : decode cX11_lost 60 = .ok (.if_icmp .ne 13, 3) := dq_843.2.2.2.2.2.2.2.2.2.2.2
theorem dq_844 : decode cX11_lost 63 = .ok (.iload 4, 2) ∧ decode cX11_lost 65 = .ok (.bipush (-2), 2) ∧ decode cX11_lost 67 = .ok (.if_icmp .ne 17, 3) ∧ decode cX11_lost 70 = .ok (.goto 10, 3) ∧ decode cX11_lost 73 = .ok (.iload 4, 2) ∧ decode cX11_lost 75 = .ok (.bipush (-4), 2) ∧ decode cX11_lost 77 = .ok (.if_icmp .ne 7, 3) ∧ decode cX11_lost 80 = .ok (.iconst 1, 1) ∧ decode cX11_lost 81 = .ok (.goto 4, 3) ∧ decode cX11_lost 84 = .ok (.iconst 0, 1) ∧ decode cX11_lost 85 = .ok (.iadd, 1) ∧ decode cX11_lost 86 = .ok (.istore_n 2, 1) := by decide +kernel
theorem dX11_lost_63 : decode cX11_lost 63 = .ok (.iload 4, 2) := dq_844.1
theorem dX11_lost_65 : decode cX11_lost 65 = .ok (.bipush (-2), 2) := dq_844.2.1
theorem dX11_lost_67 : decode cX11_lost 67 = .ok (.if_icmp .ne 17, 3) := dq_844.2.2.1
theorem dX11_lost_70 : decode cX11_lost 70 = .ok (.goto 10, 3) := dq_844.2.2.2.1
theorem dX11_lost_73 : decode cX11_lost 73 = .ok (.iload 4, 2) := dq_844.2.2.2.2.1
theorem dX11_lost_75 : decode cX11_lost 75 = .ok (.bipush (-4), 2) := dq_844.2.2.2.2.2.1
theorem dX11_lost_77 : decode cX11_lost 77 = .ok (.if_icmp .ne 7, 3) := dq_844.2.2.2.2.2.2.1
theorem dX11_lost_80 : decode cX11_lost 80 = .ok (.iconst 1, 1) := dq_844.2.2.2.2.2.2.2.1
theorem dX11_lost_81 : decode cX11_lost 81 = .ok (.goto 4, 3) := dq_844.2.2.2.2.2.2.2.2.1
theorem dX11_lost_84 : decode cX11_lost 84 = .ok (.iconst 0, 1) := dq_844.2.2.2.2.2.2.2.2.2.1
theorem dX11_lost_85 : decode cX11_lost 85 = .ok (.iadd, 1) := dq_844.2.2.2.2.2.2.2.2.2.2.1
theorem dX11_lost_86 : decode cX11_lost 86 = .ok (.istore_n 2, 1) := dq_844.2.2.2.2.2.2.2.2.2.2.2
theorem dq_845 : decode cX11_lost 87 = .ok (.iinc 3 1, 3) ∧ decode cX11_lost 90 = .ok (.goto (-68), 3) ∧ decode cX11_lost 93 = .ok (.iload_n 2, 1) ∧ decode cX11_lost 94 = .ok (.ireturn, 1) := by decide +kernel
theorem dX11_lost_87 : decode cX11_lost 87 = .ok (.iinc 3 1, 3) := dq_845.1
theorem dX11_lost_90 : decode cX11_lost 90 = .ok (.goto (-68), 3) := dq_845.2.1
theorem dX11_lost_93 : decode cX11_lost 93 = .ok (.iload_n 2, 1) := dq_845.2.2.1
theorem dX11_lost_94 : decode cX11_lost 94 = .ok (.ireturn, 1) := dq_845.2.2.2
theorem dq_846 : decode cX11_fill 0 = .ok (.aload_n 0, 1) ∧ decode cX11_fill 1 = .ok (.invokevirtual 309, 3) ∧ decode cX11_fill 4 = .ok (.iconst 0, 1) ∧ decode cX11_fill 5 = .ok (.istore_n 1, 1) ∧ decode cX11_fill 6 = .ok (.aload_n 0, 1) ∧ decode cX11_fill 7 = .ok (.lconst 0, 1) ∧ decode cX11_fill 8 = .ok (.putfield 257, 3) ∧ decode cX11_fill 11 = .ok (.aload_n 0, 1) ∧ decode cX11_fill 12 = .ok (.iconst 1, 1) ∧ decode cX11_fill 13 = .ok (.putfield 315, 3) ∧ decode cX11_fill 16 = .ok (.iconst 0, 1) ∧ decode cX11_fill 17 = .ok (.istore_n 2, 1) := by decide +kernel
theorem dX11_fill_0 : decode cX11_fill 0 = .ok (.aload_n 0, 1) := dq_846.1
theorem dX11_fill_1 : decode cX11_fill 1 = .ok (.invokevirtual 309, 3) := dq_846.2.1
theorem dX11_fill_4 : decode cX11_fill 4 = .ok (.iconst 0, 1) := dq_846.2.2.1
theorem dX11_fill_5 : decode cX11_fill 5 = .ok (.istore_n 1, 1) := dq_846.2.2.2.1
theorem dX11_fill_6 : decode cX11_fill 6 = .ok (.aload_n 0, 1) := dq_846.2.2.2.2.1
theorem dX11_fill_7 : decode cX11_fill 7 = .ok (.lconst 0, 1) := dq_846.2.2.2.2.2.1
theorem dX11_fill_8 : decode cX11_fill 8 = .ok (.putfield 257, 3) := dq_846.2.2.2.2.2.2.1
theorem dX11_fill_11 : decode cX11_fill 11 = .ok (.aload_n 0, 1) := dq_846.2.2.2.2.2.2.2.1
theorem dX11_fill_12 : decode cX11_fill 12 = .ok (.iconst 1, 1) := dq_846.2.2.2.2.2.2.2.2.1
theorem dX11_fill_13 : decode cX11_fill 13 = .ok (.putfield 315, 3) := dq_846.2.2.2.2.2.2.2.2.2.1
theorem dX11_fill_16 : decode cX11_fill 16 = .ok (.iconst 0, 1) := dq_846.2.2.2.2.2.2.2.2.2.2.1
theorem dX11_fill_17 : decode cX11_fill 17 = .ok (.istore_n 2, 1) := dq_846.2.2.2.2.2.2.2.2.2.2.2
theorem dq_847 : decode cX11_fill 18 = .ok (.iload_n 2, 1) ∧ decode cX11_fill 19 = .ok (.bipush 64, 2) ∧ decode cX11_fill 21 = .ok (.if_icmp .ge 42, 3) ∧ decode cX11_fill 24 = .ok (.aload_n 0, 1) ∧ decode cX11_fill 25 = .ok (.getfield 72, 3) ∧ decode cX11_fill 28 = .ok (.iload_n 2, 1) ∧ decode cX11_fill 29 = .ok (.iaload, 1) ∧ decode cX11_fill 30 = .ok (.iconst (-1), 1) ∧ decode cX11_fill 31 = .ok (.if_icmp .ne 26, 3) ∧ decode cX11_fill 34 = .ok (.aload_n 0, 1) ∧ decode cX11_fill 35 = .ok (.iload_n 2, 1) ∧ decode cX11_fill 36 = .ok (.invokevirtual 312, 3) := by decide +kernel
theorem dX11_fill_18 : decode cX11_fill 18 = .ok (.iload_n 2, 1) := dq_847.1
theorem dX11_fill_19 : decode cX11_fill 19 = .ok (.bipush 64, 2) := dq_847.2.1
theorem dX11_fill_21 : decode cX11_fill 21 = .ok (.if_icmp .ge 42, 3) := dq_847.2.2.1
theorem dX11_fill_24 : decode cX11_fill 24 = .ok (.aload_n 0, 1) := dq_847.2.2.2.1
theorem dX11_fill_25 : decode cX11_fill 25 = .ok (.getfield 72, 3) := dq_847.2.2.2.2.1
theorem dX11_fill_28 : decode cX11_fill 28 = .ok (.iload_n 2, 1) := dq_847.2.2.2.2.2.1
theorem dX11_fill_29 : decode cX11_fill 29 = .ok (.iaload, 1) := dq_847.2.2.2.2.2.2.1
theorem dX11_fill_30 : decode cX11_fill 30 = .ok (.iconst (-1), 1) := dq_847.2.2.2.2.2.2.2.1
theorem dX11_fill_31 : decode cX11_fill 31 = .ok (.if_icmp .ne 26, 3) := dq_847.2.2.2.2.2.2.2.2.1
theorem dX11_fill_34 : decode cX11_fill 34 = .ok (.aload_n 0, 1) := dq_847.2.2.2.2.2.2.2.2.2.1
theorem dX11_fill_35 : decode cX11_fill 35 = .ok (.iload_n 2, 1) := dq_847.2.2.2.2.2.2.2.2.2.2.1
theorem dX11_fill_36 : decode cX11_fill 36 = .ok (.invokevirtual 312, 3) := dq_847.2.2.2.2.2.2.2.2.2.2.2
theorem dq_848 : decode cX11_fill 39 = .ok (.ifCond .lt 18, 3) ∧ decode cX11_fill 42 = .ok (.aload_n 0, 1) ∧ decode cX11_fill 43 = .ok (.dup, 1) ∧ decode cX11_fill 44 = .ok (.getfield 257, 3) ∧ decode cX11_fill 47 = .ok (.lconst 1, 1) ∧ decode cX11_fill 48 = .ok (.iload_n 2, 1) ∧ decode cX11_fill 49 = .ok (.lshl, 1) ∧ decode cX11_fill 50 = .ok (.lor, 1) ∧ decode cX11_fill 51 = .ok (.putfield 257, 3) ∧ decode cX11_fill 54 = .ok (.iinc 1 1, 3) ∧ decode cX11_fill 57 = .ok (.iinc 2 1, 3) ∧ decode cX11_fill 60 = .ok (.goto (-42), 3) := by decide +kernel
theorem dX11_fill_39 : decode cX11_fill 39 = .ok (.ifCond .lt 18, 3) := dq_848.1
theorem dX11_fill_42 : decode cX11_fill 42 = .ok (.aload_n 0, 1) := dq_848.2.1
theorem dX11_fill_43 : decode cX11_fill 43 = .ok (.dup, 1) := dq_848.2.2.1
theorem dX11_fill_44 : decode cX11_fill 44 = .ok (.getfield 257, 3) := dq_848.2.2.2.1
theorem dX11_fill_47 : decode cX11_fill 47 = .ok (.lconst 1, 1) := dq_848.2.2.2.2.1
theorem dX11_fill_48 : decode cX11_fill 48 = .ok (.iload_n 2, 1) := dq_848.2.2.2.2.2.1
theorem dX11_fill_49 : decode cX11_fill 49 = .ok (.lshl, 1) := dq_848.2.2.2.2.2.2.1
theorem dX11_fill_50 : decode cX11_fill 50 = .ok (.lor, 1) := dq_848.2.2.2.2.2.2.2.1
theorem dX11_fill_51 : decode cX11_fill 51 = .ok (.putfield 257, 3) := dq_848.2.2.2.2.2.2.2.2.1
theorem dX11_fill_54 : decode cX11_fill 54 = .ok (.iinc 1 1, 3) := dq_848.2.2.2.2.2.2.2.2.2.1
theorem dX11_fill_57 : decode cX11_fill 57 = .ok (.iinc 2 1, 3) := dq_848.2.2.2.2.2.2.2.2.2.2.1
theorem dX11_fill_60 : decode cX11_fill 60 = .ok (.goto (-42), 3) := dq_848.2.2.2.2.2.2.2.2.2.2.2
theorem dq_849 : decode cX11_fill 63 = .ok (.iconst 0, 1) ∧ decode cX11_fill 64 = .ok (.istore_n 2, 1) ∧ decode cX11_fill 65 = .ok (.iload_n 2, 1) ∧ decode cX11_fill 66 = .ok (.bipush 64, 2) ∧ decode cX11_fill 68 = .ok (.if_icmp .ge 42, 3) ∧ decode cX11_fill 71 = .ok (.aload_n 0, 1) ∧ decode cX11_fill 72 = .ok (.getfield 72, 3) ∧ decode cX11_fill 75 = .ok (.iload_n 2, 1) ∧ decode cX11_fill 76 = .ok (.aload_n 0, 1) ∧ decode cX11_fill 77 = .ok (.getfield 257, 3) ∧ decode cX11_fill 80 = .ok (.iload_n 2, 1) ∧ decode cX11_fill 81 = .ok (.lshr, 1) := by decide +kernel
theorem dX11_fill_63 : decode cX11_fill 63 = .ok (.iconst 0, 1) := dq_849.1
theorem dX11_fill_64 : decode cX11_fill 64 = .ok (.istore_n 2, 1) := dq_849.2.1
theorem dX11_fill_65 : decode cX11_fill 65 = .ok (.iload_n 2, 1) := dq_849.2.2.1
theorem dX11_fill_66 : decode cX11_fill 66 = .ok (.bipush 64, 2) := dq_849.2.2.2.1
theorem dX11_fill_68 : decode cX11_fill 68 = .ok (.if_icmp .ge 42, 3) := dq_849.2.2.2.2.1
theorem dX11_fill_71 : decode cX11_fill 71 = .ok (.aload_n 0, 1) := dq_849.2.2.2.2.2.1
theorem dX11_fill_72 : decode cX11_fill 72 = .ok (.getfield 72, 3) := dq_849.2.2.2.2.2.2.1
theorem dX11_fill_75 : decode cX11_fill 75 = .ok (.iload_n 2, 1) := dq_849.2.2.2.2.2.2.2.1
theorem dX11_fill_76 : decode cX11_fill 76 = .ok (.aload_n 0, 1) := dq_849.2.2.2.2.2.2.2.2.1
theorem dX11_fill_77 : decode cX11_fill 77 = .ok (.getfield 257, 3) := dq_849.2.2.2.2.2.2.2.2.2.1
theorem dX11_fill_80 : decode cX11_fill 80 = .ok (.iload_n 2, 1) := dq_849.2.2.2.2.2.2.2.2.2.2.1
theorem dX11_fill_81 : decode cX11_fill 81 = .ok (.lshr, 1) := dq_849.2.2.2.2.2.2.2.2.2.2.2
theorem dq_850 : decode cX11_fill 82 = .ok (.lconst 1, 1) ∧ decode cX11_fill 83 = .ok (.land, 1) ∧ decode cX11_fill 84 = .ok (.lconst 1, 1) ∧ decode cX11_fill 85 = .ok (.lcmp, 1) ∧ decode cX11_fill 86 = .ok (.ifCond .ne 11, 3) ∧ decode cX11_fill 89 = .ok (.aload_n 0, 1) ∧ decode cX11_fill 90 = .ok (.iload_n 2, 1) ∧ decode cX11_fill 91 = .ok (.invokevirtual 312, 3) ∧ decode cX11_fill 94 = .ok (.goto 9, 3) ∧ decode cX11_fill 97 = .ok (.aload_n 0, 1) ∧ decode cX11_fill 98 = .ok (.getfield 72, 3) ∧ decode cX11_fill 101 = .ok (.iload_n 2, 1) := by decide +kernel
theorem dX11_fill_82 : decode cX11_fill 82 = .ok (.lconst 1, 1) := dq_850.1
theorem dX11_fill_83 : decode cX11_fill 83 = .ok (.land, 1) := dq_850.2.1
theorem dX11_fill_84 : decode cX11_fill 84 = .ok (.lconst 1, 1) := dq_850.2.2.1
theorem dX11_fill_85 : decode cX11_fill 85 = .ok (.lcmp, 1) := dq_850.2.2.2.1
theorem dX11_fill_86 : decode cX11_fill 86 = .ok (.ifCond .ne 11, 3) := dq_850.2.2.2.2.1
theorem dX11_fill_89 : decode cX11_fill 89 = .ok (.aload_n 0, 1) := dq_850.2.2.2.2.2.1
theorem dX11_fill_90 : decode cX11_fill 90 = .ok (.iload_n 2, 1) := dq_850.2.2.2.2.2.2.1
theorem dX11_fill_91 : decode cX11_fill 91 = .ok (.invokevirtual 312, 3) := dq_850.2.2.2.2.2.2.2.1
theorem dX11_fill_94 : decode cX11_fill 94 = .ok (.goto 9, 3) := dq_850.2.2.2.2.2.2.2.2.1
theorem dX11_fill_97 : decode cX11_fill 97 = .ok (.aload_n 0, 1) := dq_850.2.2.2.2.2.2.2.2.2.1
theorem dX11_fill_98 : decode cX11_fill 98 = .ok (.getfield 72, 3) := dq_850.2.2.2.2.2.2.2.2.2.2.1
theorem dX11_fill_101 : decode cX11_fill 101 = .ok (.iload_n 2, 1) := dq_850.2.2.2.2.2.2.2.2.2.2.2
theorem dq_851 : decode cX11_fill 102 = .ok (.iaload, 1) ∧ decode cX11_fill 103 = .ok (.iastore, 1) ∧ decode cX11_fill 104 = .ok (.iinc 2 1, 3) ∧ decode cX11_fill 107 = .ok (.goto (-42), 3) ∧ decode cX11_fill 110 = .ok (.iload_n 1, 1) ∧ decode cX11_fill 111 = .ok (.ireturn, 1) := by decide +kernel
theorem dX11_fill_102 : decode cX11_fill 102 = .ok (.iaload, 1) := dq_851.1
theorem dX11_fill_103 : decode cX11_fill 103 = .ok (.iastore, 1) := dq_851.2.1
theorem dX11_fill_104 : decode cX11_fill 104 = .ok (.iinc 2 1, 3) := dq_851.2.2.1
theorem dX11_fill_107 : decode cX11_fill 107 = .ok (.goto (-42), 3) := dq_851.2.2.2.1
theorem dX11_fill_110 : decode cX11_fill 110 = .ok (.iload_n 1, 1) := dq_851.2.2.2.2.1
theorem dX11_fill_111 : decode cX11_fill 111 = .ok (.ireturn, 1) := dq_851.2.2.2.2.2
theorem dq_852 : decode cX11_undo 0 = .ok (.aload_n 0, 1) ∧ decode cX11_undo 1 = .ok (.getfield 315, 3) ∧ decode cX11_undo 4 = .ok (.ifCond .ne 6, 3) ∧ decode cX11_undo 7 = .ok (.bipush (-2), 2) ∧ decode cX11_undo 9 = .ok (.ireturn, 1) ∧ decode cX11_undo 10 = .ok (.iconst 0, 1) ∧ decode cX11_undo 11 = .ok (.istore_n 1, 1) ∧ decode cX11_undo 12 = .ok (.iconst 0, 1) ∧ decode cX11_undo 13 = .ok (.istore_n 2, 1) ∧ decode cX11_undo 14 = .ok (.iload_n 2, 1) ∧ decode cX11_undo 15 = .ok (.bipush 64, 2) ∧ decode cX11_undo 17 = .ok (.if_icmp .ge 32, 3) := by decide +kernel
theorem dX11_undo_0 : decode cX11_undo 0 = .ok (.aload_n 0, 1) := dq_852.1
theorem dX11_undo_1 : decode cX11_undo 1 = .ok (.getfield 315, 3) := dq_852.2.1
theorem dX11_undo_4 : decode cX11_undo 4 = .ok (.ifCond .ne 6, 3) := dq_852.2.2.1
theorem dX11_undo_7 : decode cX11_undo 7 = .ok (.bipush (-2), 2) := dq_852.2.2.2.1
theorem dX11_undo_9 : decode cX11_undo 9 = .ok (.ireturn, 1) := dq_852.2.2.2.2.1
theorem dX11_undo_10 : decode cX11_undo 10 = .ok (.iconst 0, 1) := dq_852.2.2.2.2.2.1
theorem dX11_undo_11 : decode cX11_undo 11 = .ok (.istore_n 1, 1) := dq_852.2.2.2.2.2.2.1
theorem dX11_undo_12 : decode cX11_undo 12 = .ok (.iconst 0, 1) := dq_852.2.2.2.2.2.2.2.1
theorem dX11_undo_13 : decode cX11_undo 13 = .ok (.istore_n 2, 1) := dq_852.2.2.2.2.2.2.2.2.1
theorem dX11_undo_14 : decode cX11_undo 14 = .ok (.iload_n 2, 1) := dq_852.2.2.2.2.2.2.2.2.2.1
theorem dX11_undo_15 : decode cX11_undo 15 = .ok (.bipush 64, 2) := dq_852.2.2.2.2.2.2.2.2.2.2.1
theorem dX11_undo_17 : decode cX11_undo 17 = .ok (.if_icmp .ge 32, 3) := dq_852.2.2.2.2.2.2.2.2.2.2.2
theorem dq_853 : decode cX11_undo 20 = .ok (.aload_n 0, 1) ∧ decode cX11_undo 21 = .ok (.getfield 257, 3) ∧ decode cX11_undo 24 = .ok (.iload_n 2, 1) ∧ decode cX11_undo 25 = .ok (.lshr, 1) ∧ decode cX11_undo 26 = .ok (.lconst 1, 1) ∧ decode cX11_undo 27 = .ok (.land, 1) ∧ decode cX11_undo 28 = .ok (.lconst 1, 1) ∧ decode cX11_undo 29 = .ok (.lcmp, 1) ∧ decode cX11_undo 30 = .ok (.ifCond .ne 13, 3) ∧ decode cX11_undo 33 = .ok (.aload_n 0, 1) ∧ decode cX11_undo 34 = .ok (.getfield 72, 3) ∧ decode cX11_undo 37 = .ok (.iload_n 2, 1) := by decide +kernel
theorem dX11_undo_20 : decode cX11_undo 20 = .ok (.aload_n 0, 1) := dq_853.1
theorem dX11_undo_21 : decode cX11_undo 21 = .ok (.getfield 257, 3) := dq_853.2.1
theorem dX11_undo_24 : decode cX11_undo 24 = .ok (.iload_n 2, 1) := dq_853.2.2.1
theorem dX11_undo_25 : decode cX11_undo 25 = .ok (.lshr, 1) := dq_853.2.2.2.1
theorem dX11_undo_26 : decode cX11_undo 26 = .ok (.lconst 1, 1) := dq_853.2.2.2.2.1
theorem dX11_undo_27 : decode cX11_undo 27 = .ok (.land, 1) := dq_853.2.2.2.2.2.1
theorem dX11_undo_28 : decode cX11_undo 28 = .ok (.lconst 1, 1) := dq_853.2.2.2.2.2.2.1
theorem dX11_undo_29 : decode cX11_undo 29 = .ok (.lcmp, 1) := dq_853.2.2.2.2.2.2.2.1
theorem dX11_undo_30 : decode cX11_undo 30 = .ok (.ifCond .ne 13, 3) := dq_853.2.2.2.2.2.2.2.2.1
theorem dX11_undo_33 : decode cX11_undo 33 = .ok (.aload_n 0, 1) := dq_853.2.2.2.2.2.2.2.2.2.1
theorem dX11_undo_34 : decode cX11_undo 34 = .ok (.getfield 72, 3) := dq_853.2.2.2.2.2.2.2.2.2.2.1
theorem dX11_undo_37 : decode cX11_undo 37 = .ok (.iload_n 2, 1) := dq_853.2.2.2.2.2.2.2.2.2.2.2
theorem dq_854 : decode cX11_undo 38 = .ok (.iconst (-1), 1) ∧ decode cX11_undo 39 = .ok (.iastore, 1) ∧ decode cX11_undo 40 = .ok (.iinc 1 1, 3) ∧ decode cX11_undo 43 = .ok (.iinc 2 1, 3) ∧ decode cX11_undo 46 = .ok (.goto (-32), 3) ∧ decode cX11_undo 49 = .ok (.aload_n 0, 1) ∧ decode cX11_undo 50 = .ok (.lconst 0, 1) ∧ decode cX11_undo 51 = .ok (.putfield 257, 3) ∧ decode cX11_undo 54 = .ok (.aload_n 0, 1) ∧ decode cX11_undo 55 = .ok (.iconst 0, 1) ∧ decode cX11_undo 56 = .ok (.putfield 315, 3) ∧ decode cX11_undo 59 = .ok (.iload_n 1, 1) := by decide +kernel
theorem dX11_undo_38 : decode cX11_undo 38 = .ok (.iconst (-1), 1) := dq_854.1
theorem dX11_undo_39 : decode cX11_undo 39 = .ok (.iastore, 1) := dq_854.2.1
theorem dX11_undo_40 : decode cX11_undo 40 = .ok (.iinc 1 1, 3) := dq_854.2.2.1
theorem dX11_undo_43 : decode cX11_undo 43 = .ok (.iinc 2 1, 3) := dq_854.2.2.2.1
theorem dX11_undo_46 : decode cX11_undo 46 = .ok (.goto (-32), 3) := dq_854.2.2.2.2.1
theorem dX11_undo_49 : decode cX11_undo 49 = .ok (.aload_n 0, 1) := dq_854.2.2.2.2.2.1
theorem dX11_undo_50 : decode cX11_undo 50 = .ok (.lconst 0, 1) := dq_854.2.2.2.2.2.2.1
theorem dX11_undo_51 : decode cX11_undo 51 = .ok (.putfield 257, 3) := dq_854.2.2.2.2.2.2.2.1
theorem dX11_undo_54 : decode cX11_undo 54 = .ok (.aload_n 0, 1) := dq_854.2.2.2.2.2.2.2.2.1
theorem dX11_undo_55 : decode cX11_undo 55 = .ok (.iconst 0, 1) := dq_854.2.2.2.2.2.2.2.2.2.1
theorem dX11_undo_56 : decode cX11_undo 56 = .ok (.putfield 315, 3) := dq_854.2.2.2.2.2.2.2.2.2.2.1
theorem dX11_undo_59 : decode cX11_undo 59 = .ok (.iload_n 1, 1) := dq_854.2.2.2.2.2.2.2.2.2.2.2
theorem dX11_undo_60 : decode cX11_undo 60 = .ok (.ireturn, 1) := by decide +kernel
theorem dq_856 : decode cX11_stonesOf 0 = .ok (.iconst 0, 1) ∧ decode cX11_stonesOf 1 = .ok (.istore_n 2, 1) ∧ decode cX11_stonesOf 2 = .ok (.iconst 0, 1) ∧ decode cX11_stonesOf 3 = .ok (.istore_n 3, 1) ∧ decode cX11_stonesOf 4 = .ok (.iload_n 3, 1) ∧ decode cX11_stonesOf 5 = .ok (.bipush 64, 2) ∧ decode cX11_stonesOf 7 = .ok (.if_icmp .ge 27, 3) ∧ decode cX11_stonesOf 10 = .ok (.iload_n 2, 1) ∧ decode cX11_stonesOf 11 = .ok (.aload_n 0, 1) ∧ decode cX11_stonesOf 12 = .ok (.getfield 72, 3) ∧ decode cX11_stonesOf 15 = .ok (.iload_n 3, 1) ∧ decode cX11_stonesOf 16 = .ok (.iaload, 1) := by decide +kernel
theorem dX11_stonesOf_0 : decode cX11_stonesOf 0 = .ok (.iconst 0, 1) := dq_856.1
theorem dX11_stonesOf_1 : decode cX11_stonesOf 1 = .ok (.istore_n 2, 1) := dq_856.2.1
theorem dX11_stonesOf_2 : decode cX11_stonesOf 2 = .ok (.iconst 0, 1) := dq_856.2.2.1
theorem dX11_stonesOf_3 : decode cX11_stonesOf 3 = .ok (.istore_n 3, 1) := dq_856.2.2.2.1
theorem dX11_stonesOf_4 : decode cX11_stonesOf 4 = .ok (.iload_n 3, 1) := dq_856.2.2.2.2.1
theorem dX11_stonesOf_5 : decode cX11_stonesOf 5 = .ok (.bipush 64, 2) := dq_856.2.2.2.2.2.1
theorem dX11_stonesOf_7 : decode cX11_stonesOf 7 = .ok (.if_icmp .ge 27, 3) := dq_856.2.2.2.2.2.2.1
theorem dX11_stonesOf_10 : decode cX11_stonesOf 10 = .ok (.iload_n 2, 1) := dq_856.2.2.2.2.2.2.2.1
theorem dX11_stonesOf_11 : decode cX11_stonesOf 11 = .ok (.aload_n 0, 1) := dq_856.2.2.2.2.2.2.2.2.1
theorem dX11_stonesOf_12 : decode cX11_stonesOf 12 = .ok (.getfield 72, 3) := dq_856.2.2.2.2.2.2.2.2.2.1
theorem dX11_stonesOf_15 : decode cX11_stonesOf 15 = .ok (.iload_n 3, 1) := dq_856.2.2.2.2.2.2.2.2.2.2.1
theorem dX11_stonesOf_16 : decode cX11_stonesOf 16 = .ok (.iaload, 1) := dq_856.2.2.2.2.2.2.2.2.2.2.2
theorem dq_857 : decode cX11_stonesOf 17 = .ok (.iload_n 1, 1) ∧ decode cX11_stonesOf 18 = .ok (.if_icmp .ne 7, 3) ∧ decode cX11_stonesOf 21 = .ok (.iconst 1, 1) ∧ decode cX11_stonesOf 22 = .ok (.goto 4, 3) ∧ decode cX11_stonesOf 25 = .ok (.iconst 0, 1) ∧ decode cX11_stonesOf 26 = .ok (.iadd, 1) ∧ decode cX11_stonesOf 27 = .ok (.istore_n 2, 1) ∧ decode cX11_stonesOf 28 = .ok (.iinc 3 1, 3) ∧ decode cX11_stonesOf 31 = .ok (.goto (-27), 3) ∧ decode cX11_stonesOf 34 = .ok (.iload_n 2, 1) ∧ decode cX11_stonesOf 35 = .ok (.ireturn, 1) := by decide +kernel
theorem dX11_stonesOf_17 : decode cX11_stonesOf 17 = .ok (.iload_n 1, 1) := dq_857.1
theorem dX11_stonesOf_18 : decode cX11_stonesOf 18 = .ok (.if_icmp .ne 7, 3) := dq_857.2.1
theorem dX11_stonesOf_21 : decode cX11_stonesOf 21 = .ok (.iconst 1, 1) := dq_857.2.2.1
theorem dX11_stonesOf_22 : decode cX11_stonesOf 22 = .ok (.goto 4, 3) := dq_857.2.2.2.1
theorem dX11_stonesOf_25 : decode cX11_stonesOf 25 = .ok (.iconst 0, 1) := dq_857.2.2.2.2.1
theorem dX11_stonesOf_26 : decode cX11_stonesOf 26 = .ok (.iadd, 1) := dq_857.2.2.2.2.2.1
theorem dX11_stonesOf_27 : decode cX11_stonesOf 27 = .ok (.istore_n 2, 1) := dq_857.2.2.2.2.2.2.1
theorem dX11_stonesOf_28 : decode cX11_stonesOf 28 = .ok (.iinc 3 1, 3) := dq_857.2.2.2.2.2.2.2.1
theorem dX11_stonesOf_31 : decode cX11_stonesOf 31 = .ok (.goto (-27), 3) := dq_857.2.2.2.2.2.2.2.2.1
theorem dX11_stonesOf_34 : decode cX11_stonesOf 34 = .ok (.iload_n 2, 1) := dq_857.2.2.2.2.2.2.2.2.2.1
theorem dX11_stonesOf_35 : decode cX11_stonesOf 35 = .ok (.ireturn, 1) := dq_857.2.2.2.2.2.2.2.2.2.2
theorem dq_858 : decode cX11_stones 0 = .ok (.iload_n 1, 1) ∧ decode cX11_stones 1 = .ok (.invokestatic 190, 3) ∧ decode cX11_stones 4 = .ok (.ifCond .eq 11, 3) ∧ decode cX11_stones 7 = .ok (.aload_n 0, 1) ∧ decode cX11_stones 8 = .ok (.iload_n 1, 1) ∧ decode cX11_stones 9 = .ok (.invokevirtual 318, 3) ∧ decode cX11_stones 12 = .ok (.goto 4, 3) ∧ decode cX11_stones 15 = .ok (.iconst (-1), 1) ∧ decode cX11_stones 16 = .ok (.ireturn, 1) := by decide +kernel
theorem dX11_stones_0 : decode cX11_stones 0 = .ok (.iload_n 1, 1) := dq_858.1
theorem dX11_stones_1 : decode cX11_stones 1 = .ok (.invokestatic 190, 3) := dq_858.2.1
theorem dX11_stones_4 : decode cX11_stones 4 = .ok (.ifCond .eq 11, 3) := dq_858.2.2.1
theorem dX11_stones_7 : decode cX11_stones 7 = .ok (.aload_n 0, 1) := dq_858.2.2.2.1
theorem dX11_stones_8 : decode cX11_stones 8 = .ok (.iload_n 1, 1) := dq_858.2.2.2.2.1
theorem dX11_stones_9 : decode cX11_stones 9 = .ok (.invokevirtual 318, 3) := dq_858.2.2.2.2.2.1
theorem dX11_stones_12 : decode cX11_stones 12 = .ok (.goto 4, 3) := dq_858.2.2.2.2.2.2.1
theorem dX11_stones_15 : decode cX11_stones 15 = .ok (.iconst (-1), 1) := dq_858.2.2.2.2.2.2.2.1
theorem dX11_stones_16 : decode cX11_stones 16 = .ok (.ireturn, 1) := dq_858.2.2.2.2.2.2.2.2
theorem dq_859 : decode cX11_works 0 = .ok (.iload_n 1, 1) ∧ decode cX11_works 1 = .ok (.i2l, 1) ∧ decode cX11_works 2 = .ok (.lconst 0, 1) ∧ decode cX11_works 3 = .ok (.ldc2_w 245, 3) ∧ decode cX11_works 6 = .ok (.invokestatic 96, 3) ∧ decode cX11_works 9 = .ok (.ifCond .ne 7, 3) ∧ decode cX11_works 12 = .ok (.ldc2_w 220, 3) ∧ decode cX11_works 15 = .ok (.lreturn, 1) ∧ decode cX11_works 16 = .ok (.lconst 0, 1) ∧ decode cX11_works 17 = .ok (.lstore_n 2, 1) ∧ decode cX11_works 18 = .ok (.lconst 0, 1) ∧ decode cX11_works 19 = .ok (.lstore 4, 2) := by decide +kernel
theorem dX11_works_0 : decode cX11_works 0 = .ok (.iload_n 1, 1) := dq_859.1
theorem dX11_works_1 : decode cX11_works 1 = .ok (.i2l, 1) := dq_859.2.1
theorem dX11_works_2 : decode cX11_works 2 = .ok (.lconst 0, 1) := dq_859.2.2.1
theorem dX11_works_3 : decode cX11_works 3 = .ok (.ldc2_w 245, 3) := dq_859.2.2.2.1
theorem dX11_works_6 : decode cX11_works 6 = .ok (.invokestatic 96, 3) := dq_859.2.2.2.2.1
theorem dX11_works_9 : decode cX11_works 9 = .ok (.ifCond .ne 7, 3) := dq_859.2.2.2.2.2.1
theorem dX11_works_12 : decode cX11_works 12 = .ok (.ldc2_w 220, 3) := dq_859.2.2.2.2.2.2.1
theorem dX11_works_15 : decode cX11_works 15 = .ok (.lreturn, 1) := dq_859.2.2.2.2.2.2.2.1
theorem dX11_works_16 : decode cX11_works 16 = .ok (.lconst 0, 1) := dq_859.2.2.2.2.2.2.2.2.1
theorem dX11_works_17 : decode cX11_works 17 = .ok (.lstore_n 2, 1) := dq_859.2.2.2.2.2.2.2.2.2.1
theorem dX11_works_18 : decode cX11_works 18 = .ok (.lconst 0, 1) := dq_859.2.2.2.2.2.2.2.2.2.2.1
theorem dX11_works_19 : decode cX11_works 19 = .ok (.lstore 4, 2) := dq_859.2.2.2.2.2.2.2.2.2.2.2
theorem dq_860 : decode cX11_works 21 = .ok (.lconst 1, 1) ∧ decode cX11_works 22 = .ok (.lstore 6, 2) ∧ decode cX11_works 24 = .ok (.iconst 0, 1) ∧ decode cX11_works 25 = .ok (.istore 8, 2) ∧ decode cX11_works 27 = .ok (.iload 8, 2) ∧ decode cX11_works 29 = .ok (.bipush 6, 2) ∧ decode cX11_works 31 = .ok (.if_icmp .ge 85, 3) ∧ decode cX11_works 34 = .ok (.aload_n 0, 1) ∧ decode cX11_works 35 = .ok (.iload 8, 2) ∧ decode cX11_works 37 = .ok (.invokevirtual 318, 3) ∧ decode cX11_works 40 = .ok (.istore 9, 2) ∧ decode cX11_works 42 = .ok (.lload_n 2, 1) := by decide +kernel
theorem dX11_works_21 : decode cX11_works 21 = .ok (.lconst 1, 1) := dq_860.1
theorem dX11_works_22 : decode cX11_works 22 = .ok (.lstore 6, 2) := dq_860.2.1
theorem dX11_works_24 : decode cX11_works 24 = .ok (.iconst 0, 1) := dq_860.2.2.1
theorem dX11_works_25 : decode cX11_works 25 = .ok (.istore 8, 2) := dq_860.2.2.2.1
theorem dX11_works_27 : decode cX11_works 27 = .ok (.iload 8, 2) := dq_860.2.2.2.2.1
theorem dX11_works_29 : decode cX11_works 29 = .ok (.bipush 6, 2) := dq_860.2.2.2.2.2.1
theorem dX11_works_31 : decode cX11_works 31 = .ok (.if_icmp .ge 85, 3) := dq_860.2.2.2.2.2.2.1
theorem dX11_works_34 : decode cX11_works 34 = .ok (.aload_n 0, 1) := dq_860.2.2.2.2.2.2.2.1
theorem dX11_works_35 : decode cX11_works 35 = .ok (.iload 8, 2) := dq_860.2.2.2.2.2.2.2.2.1
theorem dX11_works_37 : decode cX11_works 37 = .ok (.invokevirtual 318, 3) := dq_860.2.2.2.2.2.2.2.2.2.1
theorem dX11_works_40 : decode cX11_works 40 = .ok (.istore 9, 2) := dq_860.2.2.2.2.2.2.2.2.2.2.1
theorem dX11_works_42 : decode cX11_works 42 = .ok (.lload_n 2, 1) := dq_860.2.2.2.2.2.2.2.2.2.2.2
theorem dq_861 : decode cX11_works 43 = .ok (.iload 9, 2) ∧ decode cX11_works 45 = .ok (.i2l, 1) ∧ decode cX11_works 46 = .ok (.aload_n 0, 1) ∧ decode cX11_works 47 = .ok (.getfield 35, 3) ∧ decode cX11_works 50 = .ok (.iload 8, 2) ∧ decode cX11_works 52 = .ok (.iaload, 1) ∧ decode cX11_works 53 = .ok (.i2l, 1) ∧ decode cX11_works 54 = .ok (.lmul, 1) ∧ decode cX11_works 55 = .ok (.ladd, 1) ∧ decode cX11_works 56 = .ok (.lstore_n 2, 1) ∧ decode cX11_works 57 = .ok (.lload 4, 2) ∧ decode cX11_works 59 = .ok (.aload_n 0, 1) := by decide +kernel
theorem dX11_works_43 : decode cX11_works 43 = .ok (.iload 9, 2) := dq_861.1
theorem dX11_works_45 : decode cX11_works 45 = .ok (.i2l, 1) := dq_861.2.1
theorem dX11_works_46 : decode cX11_works 46 = .ok (.aload_n 0, 1) := dq_861.2.2.1
theorem dX11_works_47 : decode cX11_works 47 = .ok (.getfield 35, 3) := dq_861.2.2.2.1
theorem dX11_works_50 : decode cX11_works 50 = .ok (.iload 8, 2) := dq_861.2.2.2.2.1
theorem dX11_works_52 : decode cX11_works 52 = .ok (.iaload, 1) := dq_861.2.2.2.2.2.1
theorem dX11_works_53 : decode cX11_works 53 = .ok (.i2l, 1) := dq_861.2.2.2.2.2.2.1
theorem dX11_works_54 : decode cX11_works 54 = .ok (.lmul, 1) := dq_861.2.2.2.2.2.2.2.1
theorem dX11_works_55 : decode cX11_works 55 = .ok (.ladd, 1) := dq_861.2.2.2.2.2.2.2.2.1
theorem dX11_works_56 : decode cX11_works 56 = .ok (.lstore_n 2, 1) := dq_861.2.2.2.2.2.2.2.2.2.1
theorem dX11_works_57 : decode cX11_works 57 = .ok (.lload 4, 2) := dq_861.2.2.2.2.2.2.2.2.2.2.1
theorem dX11_works_59 : decode cX11_works 59 = .ok (.aload_n 0, 1) := dq_861.2.2.2.2.2.2.2.2.2.2.2
theorem dq_862 : decode cX11_works 60 = .ok (.getfield 38, 3) ∧ decode cX11_works 63 = .ok (.iload 8, 2) ∧ decode cX11_works 65 = .ok (.iaload, 1) ∧ decode cX11_works 66 = .ok (.i2l, 1) ∧ decode cX11_works 67 = .ok (.lmul, 1) ∧ decode cX11_works 68 = .ok (.iload 9, 2) ∧ decode cX11_works 70 = .ok (.i2l, 1) ∧ decode cX11_works 71 = .ok (.lload 6, 2) ∧ decode cX11_works 73 = .ok (.lmul, 1) ∧ decode cX11_works 74 = .ok (.ladd, 1) ∧ decode cX11_works 75 = .ok (.lstore 10, 2) ∧ decode cX11_works 77 = .ok (.lload 6, 2) := by decide +kernel
theorem dX11_works_60 : decode cX11_works 60 = .ok (.getfield 38, 3) := dq_862.1
theorem dX11_works_63 : decode cX11_works 63 = .ok (.iload 8, 2) := dq_862.2.1
theorem dX11_works_65 : decode cX11_works 65 = .ok (.iaload, 1) := dq_862.2.2.1
theorem dX11_works_66 : decode cX11_works 66 = .ok (.i2l, 1) := dq_862.2.2.2.1
theorem dX11_works_67 : decode cX11_works 67 = .ok (.lmul, 1) := dq_862.2.2.2.2.1
theorem dX11_works_68 : decode cX11_works 68 = .ok (.iload 9, 2) := dq_862.2.2.2.2.2.1
theorem dX11_works_70 : decode cX11_works 70 = .ok (.i2l, 1) := dq_862.2.2.2.2.2.2.1
theorem dX11_works_71 : decode cX11_works 71 = .ok (.lload 6, 2) := dq_862.2.2.2.2.2.2.2.1
theorem dX11_works_73 : decode cX11_works 73 = .ok (.lmul, 1) := dq_862.2.2.2.2.2.2.2.2.1
theorem dX11_works_74 : decode cX11_works 74 = .ok (.ladd, 1) := dq_862.2.2.2.2.2.2.2.2.2.1
theorem dX11_works_75 : decode cX11_works 75 = .ok (.lstore 10, 2) := dq_862.2.2.2.2.2.2.2.2.2.2.1
theorem dX11_works_77 : decode cX11_works 77 = .ok (.lload 6, 2) := dq_862.2.2.2.2.2.2.2.2.2.2.2
theorem dq_863 : decode cX11_works 79 = .ok (.aload_n 0, 1) ∧ decode cX11_works 80 = .ok (.getfield 38, 3) ∧ decode cX11_works 83 = .ok (.iload 8, 2) ∧ decode cX11_works 85 = .ok (.iaload, 1) ∧ decode cX11_works 86 = .ok (.i2l, 1) ∧ decode cX11_works 87 = .ok (.lmul, 1) ∧ decode cX11_works 88 = .ok (.lstore 12, 2) ∧ decode cX11_works 90 = .ok (.lload 10, 2) ∧ decode cX11_works 92 = .ok (.lload 12, 2) ∧ decode cX11_works 94 = .ok (.iconst 0, 1) ∧ decode cX11_works 95 = .ok (.invokestatic 222, 3) ∧ decode cX11_works 98 = .ok (.lstore 4, 2) := by decide +kernel
theorem dX11_works_79 : decode cX11_works 79 = .ok (.aload_n 0, 1) := dq_863.1
theorem dX11_works_80 : decode cX11_works 80 = .ok (.getfield 38, 3) := dq_863.2.1
theorem dX11_works_83 : decode cX11_works 83 = .ok (.iload 8, 2) := dq_863.2.2.1
theorem dX11_works_85 : decode cX11_works 85 = .ok (.iaload, 1) := dq_863.2.2.2.1
theorem dX11_works_86 : decode cX11_works 86 = .ok (.i2l, 1) := dq_863.2.2.2.2.1
theorem dX11_works_87 : decode cX11_works 87 = .ok (.lmul, 1) := dq_863.2.2.2.2.2.1
theorem dX11_works_88 : decode cX11_works 88 = .ok (.lstore 12, 2) := dq_863.2.2.2.2.2.2.1
theorem dX11_works_90 : decode cX11_works 90 = .ok (.lload 10, 2) := dq_863.2.2.2.2.2.2.2.1
theorem dX11_works_92 : decode cX11_works 92 = .ok (.lload 12, 2) := dq_863.2.2.2.2.2.2.2.2.1
theorem dX11_works_94 : decode cX11_works 94 = .ok (.iconst 0, 1) := dq_863.2.2.2.2.2.2.2.2.2.1
theorem dX11_works_95 : decode cX11_works 95 = .ok (.invokestatic 222, 3) := dq_863.2.2.2.2.2.2.2.2.2.2.1
theorem dX11_works_98 : decode cX11_works 98 = .ok (.lstore 4, 2) := dq_863.2.2.2.2.2.2.2.2.2.2.2
theorem dq_864 : decode cX11_works 100 = .ok (.lload 10, 2) ∧ decode cX11_works 102 = .ok (.lload 12, 2) ∧ decode cX11_works 104 = .ok (.iconst 1, 1) ∧ decode cX11_works 105 = .ok (.invokestatic 222, 3) ∧ decode cX11_works 108 = .ok (.lstore 6, 2) ∧ decode cX11_works 110 = .ok (.iinc 8 1, 3) ∧ decode cX11_works 113 = .ok (.goto (-86), 3) ∧ decode cX11_works 116 = .ok (.iload_n 1, 1) ∧ decode cX11_works 117 = .ok (.ifCond .ne 7, 3) ∧ decode cX11_works 120 = .ok (.lload_n 2, 1) ∧ decode cX11_works 121 = .ok (.goto 15, 3) ∧ decode cX11_works 124 = .ok (.iload_n 1, 1) := by decide +kernel
theorem dX11_works_100 : decode cX11_works 100 = .ok (.lload 10, 2) := dq_864.1
theorem dX11_works_102 : decode cX11_works 102 = .ok (.lload 12, 2) := dq_864.2.1
theorem dX11_works_104 : decode cX11_works 104 = .ok (.iconst 1, 1) := dq_864.2.2.1
theorem dX11_works_105 : decode cX11_works 105 = .ok (.invokestatic 222, 3) := dq_864.2.2.2.1
theorem dX11_works_108 : decode cX11_works 108 = .ok (.lstore 6, 2) := dq_864.2.2.2.2.1
theorem dX11_works_110 : decode cX11_works 110 = .ok (.iinc 8 1, 3) := dq_864.2.2.2.2.2.1
theorem dX11_works_113 : decode cX11_works 113 = .ok (.goto (-86), 3) := dq_864.2.2.2.2.2.2.1
theorem dX11_works_116 : decode cX11_works 116 = .ok (.iload_n 1, 1) := dq_864.2.2.2.2.2.2.2.1
theorem dX11_works_117 : decode cX11_works 117 = .ok (.ifCond .ne 7, 3) := dq_864.2.2.2.2.2.2.2.2.1
theorem dX11_works_120 : decode cX11_works 120 = .ok (.lload_n 2, 1) := dq_864.2.2.2.2.2.2.2.2.2.1
theorem dX11_works_121 : decode cX11_works 121 = .ok (.goto 15, 3) := dq_864.2.2.2.2.2.2.2.2.2.2.1
theorem dX11_works_124 : decode cX11_works 124 = .ok (.iload_n 1, 1) := dq_864.2.2.2.2.2.2.2.2.2.2.2
theorem dq_865 : decode cX11_works 125 = .ok (.iconst 1, 1) ∧ decode cX11_works 126 = .ok (.if_icmp .ne 8, 3) ∧ decode cX11_works 129 = .ok (.lload 4, 2) ∧ decode cX11_works 131 = .ok (.goto 5, 3) ∧ decode cX11_works 134 = .ok (.lload 6, 2) ∧ decode cX11_works 136 = .ok (.lreturn, 1) := by decide +kernel
theorem dX11_works_125 : decode cX11_works 125 = .ok (.iconst 1, 1) := dq_865.1
theorem dX11_works_126 : decode cX11_works 126 = .ok (.if_icmp .ne 8, 3) := dq_865.2.1
theorem dX11_works_129 : decode cX11_works 129 = .ok (.lload 4, 2) := dq_865.2.2.1
theorem dX11_works_131 : decode cX11_works 131 = .ok (.goto 5, 3) := dq_865.2.2.2.1
theorem dX11_works_134 : decode cX11_works 134 = .ok (.lload 6, 2) := dq_865.2.2.2.2.1
theorem dX11_works_136 : decode cX11_works 136 = .ok (.lreturn, 1) := dq_865.2.2.2.2.2
theorem dq_866 : decode cX11_figure 0 = .ok (.iload_n 0, 1) ∧ decode cX11_figure 1 = .ok (.bipush 6, 2) ∧ decode cX11_figure 3 = .ok (.iconst 2, 1) ∧ decode cX11_figure 4 = .ok (.iload_n 1, 1) ∧ decode cX11_figure 5 = .ok (.imul, 1) ∧ decode cX11_figure 6 = .ok (.isub, 1) ∧ decode cX11_figure 7 = .ok (.ishr, 1) ∧ decode cX11_figure 8 = .ok (.iconst 3, 1) ∧ decode cX11_figure 9 = .ok (.iand, 1) ∧ decode cX11_figure 10 = .ok (.ireturn, 1) := by decide +kernel
theorem dX11_figure_0 : decode cX11_figure 0 = .ok (.iload_n 0, 1) := dq_866.1
theorem dX11_figure_1 : decode cX11_figure 1 = .ok (.bipush 6, 2) := dq_866.2.1
theorem dX11_figure_3 : decode cX11_figure 3 = .ok (.iconst 2, 1) := dq_866.2.2.1
theorem dX11_figure_4 : decode cX11_figure 4 = .ok (.iload_n 1, 1) := dq_866.2.2.2.1
theorem dX11_figure_5 : decode cX11_figure 5 = .ok (.imul, 1) := dq_866.2.2.2.2.1
theorem dX11_figure_6 : decode cX11_figure 6 = .ok (.isub, 1) := dq_866.2.2.2.2.2.1
theorem dX11_figure_7 : decode cX11_figure 7 = .ok (.ishr, 1) := dq_866.2.2.2.2.2.2.1
theorem dX11_figure_8 : decode cX11_figure 8 = .ok (.iconst 3, 1) := dq_866.2.2.2.2.2.2.2.1
theorem dX11_figure_9 : decode cX11_figure 9 = .ok (.iand, 1) := dq_866.2.2.2.2.2.2.2.2.1
theorem dX11_figure_10 : decode cX11_figure 10 = .ok (.ireturn, 1) := dq_866.2.2.2.2.2.2.2.2.2
theorem dq_867 : decode cX11_areUnlike 0 = .ok (.iconst 0, 1) ∧ decode cX11_areUnlike 1 = .ok (.istore_n 1, 1) ∧ decode cX11_areUnlike 2 = .ok (.iconst 0, 1) ∧ decode cX11_areUnlike 3 = .ok (.istore_n 2, 1) ∧ decode cX11_areUnlike 4 = .ok (.iload_n 2, 1) ∧ decode cX11_areUnlike 5 = .ok (.iconst 4, 1) ∧ decode cX11_areUnlike 6 = .ok (.if_icmp .ge 19, 3) ∧ decode cX11_areUnlike 9 = .ok (.iload_n 1, 1) ∧ decode cX11_areUnlike 10 = .ok (.iconst 1, 1) ∧ decode cX11_areUnlike 11 = .ok (.iload_n 0, 1) ∧ decode cX11_areUnlike 12 = .ok (.iload_n 2, 1) ∧ decode cX11_areUnlike 13 = .ok (.invokestatic 321, 3) := by decide +kernel
theorem dX11_areUnlike_0 : decode cX11_areUnlike 0 = .ok (.iconst 0, 1) := dq_867.1
theorem dX11_areUnlike_1 : decode cX11_areUnlike 1 = .ok (.istore_n 1, 1) := dq_867.2.1
theorem dX11_areUnlike_2 : decode cX11_areUnlike 2 = .ok (.iconst 0, 1) := dq_867.2.2.1
theorem dX11_areUnlike_3 : decode cX11_areUnlike 3 = .ok (.istore_n 2, 1) := dq_867.2.2.2.1
theorem dX11_areUnlike_4 : decode cX11_areUnlike 4 = .ok (.iload_n 2, 1) := dq_867.2.2.2.2.1
theorem dX11_areUnlike_5 : decode cX11_areUnlike 5 = .ok (.iconst 4, 1) := dq_867.2.2.2.2.2.1
theorem dX11_areUnlike_6 : decode cX11_areUnlike 6 = .ok (.if_icmp .ge 19, 3) := dq_867.2.2.2.2.2.2.1
theorem dX11_areUnlike_9 : decode cX11_areUnlike 9 = .ok (.iload_n 1, 1) := dq_867.2.2.2.2.2.2.2.1
theorem dX11_areUnlike_10 : decode cX11_areUnlike 10 = .ok (.iconst 1, 1) := dq_867.2.2.2.2.2.2.2.2.1
theorem dX11_areUnlike_11 : decode cX11_areUnlike 11 = .ok (.iload_n 0, 1) := dq_867.2.2.2.2.2.2.2.2.2.1
theorem dX11_areUnlike_12 : decode cX11_areUnlike 12 = .ok (.iload_n 2, 1) := dq_867.2.2.2.2.2.2.2.2.2.2.1
theorem dX11_areUnlike_13 : decode cX11_areUnlike 13 = .ok (.invokestatic 321, 3) := dq_867.2.2.2.2.2.2.2.2.2.2.2
theorem dq_868 : decode cX11_areUnlike 16 = .ok (.ishl, 1) ∧ decode cX11_areUnlike 17 = .ok (.ior, 1) ∧ decode cX11_areUnlike 18 = .ok (.istore_n 1, 1) ∧ decode cX11_areUnlike 19 = .ok (.iinc 2 1, 3) ∧ decode cX11_areUnlike 22 = .ok (.goto (-18), 3) ∧ decode cX11_areUnlike 25 = .ok (.iload_n 1, 1) ∧ decode cX11_areUnlike 26 = .ok (.bipush 15, 2) ∧ decode cX11_areUnlike 28 = .ok (.if_icmp .ne 7, 3) ∧ decode cX11_areUnlike 31 = .ok (.iconst 1, 1) ∧ decode cX11_areUnlike 32 = .ok (.goto 4, 3) ∧ decode cX11_areUnlike 35 = .ok (.iconst 0, 1) ∧ decode cX11_areUnlike 36 = .ok (.ireturn, 1) := by decide +kernel
theorem dX11_areUnlike_16 : decode cX11_areUnlike 16 = .ok (.ishl, 1) := dq_868.1
theorem dX11_areUnlike_17 : decode cX11_areUnlike 17 = .ok (.ior, 1) := dq_868.2.1
theorem dX11_areUnlike_18 : decode cX11_areUnlike 18 = .ok (.istore_n 1, 1) := dq_868.2.2.1
theorem dX11_areUnlike_19 : decode cX11_areUnlike 19 = .ok (.iinc 2 1, 3) := dq_868.2.2.2.1
theorem dX11_areUnlike_22 : decode cX11_areUnlike 22 = .ok (.goto (-18), 3) := dq_868.2.2.2.2.1
theorem dX11_areUnlike_25 : decode cX11_areUnlike 25 = .ok (.iload_n 1, 1) := dq_868.2.2.2.2.2.1
theorem dX11_areUnlike_26 : decode cX11_areUnlike 26 = .ok (.bipush 15, 2) := dq_868.2.2.2.2.2.2.1
theorem dX11_areUnlike_28 : decode cX11_areUnlike 28 = .ok (.if_icmp .ne 7, 3) := dq_868.2.2.2.2.2.2.2.1
theorem dX11_areUnlike_31 : decode cX11_areUnlike 31 = .ok (.iconst 1, 1) := dq_868.2.2.2.2.2.2.2.2.1
theorem dX11_areUnlike_32 : decode cX11_areUnlike 32 = .ok (.goto 4, 3) := dq_868.2.2.2.2.2.2.2.2.2.1
theorem dX11_areUnlike_35 : decode cX11_areUnlike 35 = .ok (.iconst 0, 1) := dq_868.2.2.2.2.2.2.2.2.2.2.1
theorem dX11_areUnlike_36 : decode cX11_areUnlike 36 = .ok (.ireturn, 1) := dq_868.2.2.2.2.2.2.2.2.2.2.2
theorem dq_869 : decode cX11_upperLeft 0 = .ok (.bipush 32, 2) ∧ decode cX11_upperLeft 2 = .ok (.iload_n 0, 1) ∧ decode cX11_upperLeft 3 = .ok (.iconst 2, 1) ∧ decode cX11_upperLeft 4 = .ok (.idiv, 1) ∧ decode cX11_upperLeft 5 = .ok (.imul, 1) ∧ decode cX11_upperLeft 6 = .ok (.iconst 4, 1) ∧ decode cX11_upperLeft 7 = .ok (.iload_n 0, 1) ∧ decode cX11_upperLeft 8 = .ok (.iconst 2, 1) ∧ decode cX11_upperLeft 9 = .ok (.irem, 1) ∧ decode cX11_upperLeft 10 = .ok (.imul, 1) ∧ decode cX11_upperLeft 11 = .ok (.iadd, 1) ∧ decode cX11_upperLeft 12 = .ok (.ireturn, 1) := by decide +kernel
theorem dX11_upperLeft_0 : decode cX11_upperLeft 0 = .ok (.bipush 32, 2) := dq_869.1
theorem dX11_upperLeft_2 : decode cX11_upperLeft 2 = .ok (.iload_n 0, 1) := dq_869.2.1
theorem dX11_upperLeft_3 : decode cX11_upperLeft 3 = .ok (.iconst 2, 1) := dq_869.2.2.1
theorem dX11_upperLeft_4 : decode cX11_upperLeft 4 = .ok (.idiv, 1) := dq_869.2.2.2.1
theorem dX11_upperLeft_5 : decode cX11_upperLeft 5 = .ok (.imul, 1) := dq_869.2.2.2.2.1
theorem dX11_upperLeft_6 : decode cX11_upperLeft 6 = .ok (.iconst 4, 1) := dq_869.2.2.2.2.2.1
theorem dX11_upperLeft_7 : decode cX11_upperLeft 7 = .ok (.iload_n 0, 1) := dq_869.2.2.2.2.2.2.1
theorem dX11_upperLeft_8 : decode cX11_upperLeft 8 = .ok (.iconst 2, 1) := dq_869.2.2.2.2.2.2.2.1
theorem dX11_upperLeft_9 : decode cX11_upperLeft 9 = .ok (.irem, 1) := dq_869.2.2.2.2.2.2.2.2.1
theorem dX11_upperLeft_10 : decode cX11_upperLeft 10 = .ok (.imul, 1) := dq_869.2.2.2.2.2.2.2.2.2.1
theorem dX11_upperLeft_11 : decode cX11_upperLeft 11 = .ok (.iadd, 1) := dq_869.2.2.2.2.2.2.2.2.2.2.1
theorem dX11_upperLeft_12 : decode cX11_upperLeft 12 = .ok (.ireturn, 1) := dq_869.2.2.2.2.2.2.2.2.2.2.2
theorem dq_870 : decode cX11_mix 0 = .ok (.iload_n 1, 1) ∧ decode cX11_mix 1 = .ok (.i2l, 1) ∧ decode cX11_mix 2 = .ok (.lconst 0, 1) ∧ decode cX11_mix 3 = .ok (.ldc2_w 324, 3) ∧ decode cX11_mix 6 = .ok (.invokestatic 96, 3) ∧ decode cX11_mix 9 = .ok (.ifCond .eq 22, 3) ∧ decode cX11_mix 12 = .ok (.iload_n 1, 1) ∧ decode cX11_mix 13 = .ok (.invokestatic 326, 3) ∧ decode cX11_mix 16 = .ok (.ifCond .eq 15, 3) ∧ decode cX11_mix 19 = .ok (.iload_n 2, 1) ∧ decode cX11_mix 20 = .ok (.i2l, 1) ∧ decode cX11_mix 21 = .ok (.lconst 0, 1) := by decide +kernel
theorem dX11_mix_0 : decode cX11_mix 0 = .ok (.iload_n 1, 1) := dq_870.1
theorem dX11_mix_1 : decode cX11_mix 1 = .ok (.i2l, 1) := dq_870.2.1
theorem dX11_mix_2 : decode cX11_mix 2 = .ok (.lconst 0, 1) := dq_870.2.2.1
theorem dX11_mix_3 : decode cX11_mix 3 = .ok (.ldc2_w 324, 3) := dq_870.2.2.2.1
theorem dX11_mix_6 : decode cX11_mix 6 = .ok (.invokestatic 96, 3) := dq_870.2.2.2.2.1
theorem dX11_mix_9 : decode cX11_mix 9 = .ok (.ifCond .eq 22, 3) := dq_870.2.2.2.2.2.1
theorem dX11_mix_12 : decode cX11_mix 12 = .ok (.iload_n 1, 1) := dq_870.2.2.2.2.2.2.1
theorem dX11_mix_13 : decode cX11_mix 13 = .ok (.invokestatic 326, 3) := dq_870.2.2.2.2.2.2.2.1
theorem dX11_mix_16 : decode cX11_mix 16 = .ok (.ifCond .eq 15, 3) := dq_870.2.2.2.2.2.2.2.2.1
theorem dX11_mix_19 : decode cX11_mix 19 = .ok (.iload_n 2, 1) := dq_870.2.2.2.2.2.2.2.2.2.1
theorem dX11_mix_20 : decode cX11_mix 20 = .ok (.i2l, 1) := dq_870.2.2.2.2.2.2.2.2.2.2.1
theorem dX11_mix_21 : decode cX11_mix 21 = .ok (.lconst 0, 1) := dq_870.2.2.2.2.2.2.2.2.2.2.2
theorem dq_871 : decode cX11_mix 22 = .ok (.ldc2_w 324, 3) ∧ decode cX11_mix 25 = .ok (.invokestatic 96, 3) ∧ decode cX11_mix 28 = .ok (.ifCond .ne 5, 3) ∧ decode cX11_mix 31 = .ok (.iconst (-1), 1) ∧ decode cX11_mix 32 = .ok (.ireturn, 1) ∧ decode cX11_mix 33 = .ok (.iconst 0, 1) ∧ decode cX11_mix 34 = .ok (.istore_n 3, 1) ∧ decode cX11_mix 35 = .ok (.iload_n 3, 1) ∧ decode cX11_mix 36 = .ok (.iconst 4, 1) ∧ decode cX11_mix 37 = .ok (.if_icmp .ge 90, 3) ∧ decode cX11_mix 40 = .ok (.iload_n 1, 1) ∧ decode cX11_mix 41 = .ok (.iload_n 3, 1) := by decide +kernel
theorem dX11_mix_22 : decode cX11_mix 22 = .ok (.ldc2_w 324, 3) := dq_871.1
theorem dX11_mix_25 : decode cX11_mix 25 = .ok (.invokestatic 96, 3) := dq_871.2.1
theorem dX11_mix_28 : decode cX11_mix 28 = .ok (.ifCond .ne 5, 3) := dq_871.2.2.1
theorem dX11_mix_31 : decode cX11_mix 31 = .ok (.iconst (-1), 1) := dq_871.2.2.2.1
theorem dX11_mix_32 : decode cX11_mix 32 = .ok (.ireturn, 1) := dq_871.2.2.2.2.1
theorem dX11_mix_33 : decode cX11_mix 33 = .ok (.iconst 0, 1) := dq_871.2.2.2.2.2.1
theorem dX11_mix_34 : decode cX11_mix 34 = .ok (.istore_n 3, 1) := dq_871.2.2.2.2.2.2.1
theorem dX11_mix_35 : decode cX11_mix 35 = .ok (.iload_n 3, 1) := dq_871.2.2.2.2.2.2.2.1
theorem dX11_mix_36 : decode cX11_mix 36 = .ok (.iconst 4, 1) := dq_871.2.2.2.2.2.2.2.2.1
theorem dX11_mix_37 : decode cX11_mix 37 = .ok (.if_icmp .ge 90, 3) := dq_871.2.2.2.2.2.2.2.2.2.1
theorem dX11_mix_40 : decode cX11_mix 40 = .ok (.iload_n 1, 1) := dq_871.2.2.2.2.2.2.2.2.2.2.1
theorem dX11_mix_41 : decode cX11_mix 41 = .ok (.iload_n 3, 1) := dq_871.2.2.2.2.2.2.2.2.2.2.2
theorem dq_872 : decode cX11_mix 42 = .ok (.invokestatic 321, 3) ∧ decode cX11_mix 45 = .ok (.invokestatic 329, 3) ∧ decode cX11_mix 48 = .ok (.istore 4, 2) ∧ decode cX11_mix 50 = .ok (.iconst 0, 1) ∧ decode cX11_mix 51 = .ok (.istore 5, 2) ∧ decode cX11_mix 53 = .ok (.iload 5, 2) ∧ decode cX11_mix 55 = .ok (.bipush 16, 2) ∧ decode cX11_mix 57 = .ok (.if_icmp .ge 64, 3) ∧ decode cX11_mix 60 = .ok (.iload 5, 2) ∧ decode cX11_mix 62 = .ok (.iconst 4, 1) ∧ decode cX11_mix 63 = .ok (.iload_n 2, 1) ∧ decode cX11_mix 64 = .ok (.iload_n 3, 1) := by decide +kernel
theorem dX11_mix_42 : decode cX11_mix 42 = .ok (.invokestatic 321, 3) := dq_872.1
theorem dX11_mix_45 : decode cX11_mix 45 = .ok (.invokestatic 329, 3) := dq_872.2.1
theorem dX11_mix_48 : decode cX11_mix 48 = .ok (.istore 4, 2) := dq_872.2.2.1
theorem dX11_mix_50 : decode cX11_mix 50 = .ok (.iconst 0, 1) := dq_872.2.2.2.1
theorem dX11_mix_51 : decode cX11_mix 51 = .ok (.istore 5, 2) := dq_872.2.2.2.2.1
theorem dX11_mix_53 : decode cX11_mix 53 = .ok (.iload 5, 2) := dq_872.2.2.2.2.2.1
theorem dX11_mix_55 : decode cX11_mix 55 = .ok (.bipush 16, 2) := dq_872.2.2.2.2.2.2.1
theorem dX11_mix_57 : decode cX11_mix 57 = .ok (.if_icmp .ge 64, 3) := dq_872.2.2.2.2.2.2.2.1
theorem dX11_mix_60 : decode cX11_mix 60 = .ok (.iload 5, 2) := dq_872.2.2.2.2.2.2.2.2.1
theorem dX11_mix_62 : decode cX11_mix 62 = .ok (.iconst 4, 1) := dq_872.2.2.2.2.2.2.2.2.2.1
theorem dX11_mix_63 : decode cX11_mix 63 = .ok (.iload_n 2, 1) := dq_872.2.2.2.2.2.2.2.2.2.2.1
theorem dX11_mix_64 : decode cX11_mix 64 = .ok (.iload_n 3, 1) := dq_872.2.2.2.2.2.2.2.2.2.2.2
theorem dq_873 : decode cX11_mix 65 = .ok (.invokestatic 321, 3) ∧ decode cX11_mix 68 = .ok (.invokestatic 268, 3) ∧ decode cX11_mix 71 = .ok (.istore 6, 2) ∧ decode cX11_mix 73 = .ok (.aload_n 0, 1) ∧ decode cX11_mix 74 = .ok (.getfield 81, 3) ∧ decode cX11_mix 77 = .ok (.iload 4, 2) ∧ decode cX11_mix 79 = .ok (.bipush 8, 2) ∧ decode cX11_mix 81 = .ok (.iload 5, 2) ∧ decode cX11_mix 83 = .ok (.iconst 4, 1) ∧ decode cX11_mix 84 = .ok (.idiv, 1) ∧ decode cX11_mix 85 = .ok (.imul, 1) ∧ decode cX11_mix 86 = .ok (.iadd, 1) := by decide +kernel
theorem dX11_mix_65 : decode cX11_mix 65 = .ok (.invokestatic 321, 3) := dq_873.1
theorem dX11_mix_68 : decode cX11_mix 68 = .ok (.invokestatic 268, 3) := dq_873.2.1
theorem dX11_mix_71 : decode cX11_mix 71 = .ok (.istore 6, 2) := dq_873.2.2.1
theorem dX11_mix_73 : decode cX11_mix 73 = .ok (.aload_n 0, 1) := dq_873.2.2.2.1
theorem dX11_mix_74 : decode cX11_mix 74 = .ok (.getfield 81, 3) := dq_873.2.2.2.2.1
theorem dX11_mix_77 : decode cX11_mix 77 = .ok (.iload 4, 2) := dq_873.2.2.2.2.2.1
theorem dX11_mix_79 : decode cX11_mix 79 = .ok (.bipush 8, 2) := dq_873.2.2.2.2.2.2.1
theorem dX11_mix_81 : decode cX11_mix 81 = .ok (.iload 5, 2) := dq_873.2.2.2.2.2.2.2.1
theorem dX11_mix_83 : decode cX11_mix 83 = .ok (.iconst 4, 1) := dq_873.2.2.2.2.2.2.2.2.1
theorem dX11_mix_84 : decode cX11_mix 84 = .ok (.idiv, 1) := dq_873.2.2.2.2.2.2.2.2.2.1
theorem dX11_mix_85 : decode cX11_mix 85 = .ok (.imul, 1) := dq_873.2.2.2.2.2.2.2.2.2.2.1
theorem dX11_mix_86 : decode cX11_mix 86 = .ok (.iadd, 1) := dq_873.2.2.2.2.2.2.2.2.2.2.2
theorem dq_874 : decode cX11_mix 87 = .ok (.iload 5, 2) ∧ decode cX11_mix 89 = .ok (.iconst 4, 1) ∧ decode cX11_mix 90 = .ok (.irem, 1) ∧ decode cX11_mix 91 = .ok (.iadd, 1) ∧ decode cX11_mix 92 = .ok (.aload_n 0, 1) ∧ decode cX11_mix 93 = .ok (.getfield 72, 3) ∧ decode cX11_mix 96 = .ok (.iload_n 3, 1) ∧ decode cX11_mix 97 = .ok (.invokestatic 329, 3) ∧ decode cX11_mix 100 = .ok (.bipush 8, 2) ∧ decode cX11_mix 102 = .ok (.iload 6, 2) ∧ decode cX11_mix 104 = .ok (.iconst 4, 1) ∧ decode cX11_mix 105 = .ok (.idiv, 1) := by decide +kernel
theorem dX11_mix_87 : decode cX11_mix 87 = .ok (.iload 5, 2) := dq_874.1
theorem dX11_mix_89 : decode cX11_mix 89 = .ok (.iconst 4, 1) := dq_874.2.1
theorem dX11_mix_90 : decode cX11_mix 90 = .ok (.irem, 1) := dq_874.2.2.1
theorem dX11_mix_91 : decode cX11_mix 91 = .ok (.iadd, 1) := dq_874.2.2.2.1
theorem dX11_mix_92 : decode cX11_mix 92 = .ok (.aload_n 0, 1) := dq_874.2.2.2.2.1
theorem dX11_mix_93 : decode cX11_mix 93 = .ok (.getfield 72, 3) := dq_874.2.2.2.2.2.1
theorem dX11_mix_96 : decode cX11_mix 96 = .ok (.iload_n 3, 1) := dq_874.2.2.2.2.2.2.1
theorem dX11_mix_97 : decode cX11_mix 97 = .ok (.invokestatic 329, 3) := dq_874.2.2.2.2.2.2.2.1
theorem dX11_mix_100 : decode cX11_mix 100 = .ok (.bipush 8, 2) := dq_874.2.2.2.2.2.2.2.2.1
theorem dX11_mix_102 : decode cX11_mix 102 = .ok (.iload 6, 2) := dq_874.2.2.2.2.2.2.2.2.2.1
theorem dX11_mix_104 : decode cX11_mix 104 = .ok (.iconst 4, 1) := dq_874.2.2.2.2.2.2.2.2.2.2.1
theorem dX11_mix_105 : decode cX11_mix 105 = .ok (.idiv, 1) := dq_874.2.2.2.2.2.2.2.2.2.2.2
theorem dq_875 : decode cX11_mix 106 = .ok (.imul, 1) ∧ decode cX11_mix 107 = .ok (.iadd, 1) ∧ decode cX11_mix 108 = .ok (.iload 6, 2) ∧ decode cX11_mix 110 = .ok (.iconst 4, 1) ∧ decode cX11_mix 111 = .ok (.irem, 1) ∧ decode cX11_mix 112 = .ok (.iadd, 1) ∧ decode cX11_mix 113 = .ok (.iaload, 1) ∧ decode cX11_mix 114 = .ok (.iastore, 1) ∧ decode cX11_mix 115 = .ok (.iinc 5 1, 3) ∧ decode cX11_mix 118 = .ok (.goto (-65), 3) ∧ decode cX11_mix 121 = .ok (.iinc 3 1, 3) ∧ decode cX11_mix 124 = .ok (.goto (-89), 3) := by decide +kernel
theorem dX11_mix_106 : decode cX11_mix 106 = .ok (.imul, 1) := dq_875.1
theorem dX11_mix_107 : decode cX11_mix 107 = .ok (.iadd, 1) := dq_875.2.1
theorem dX11_mix_108 : decode cX11_mix 108 = .ok (.iload 6, 2) := dq_875.2.2.1
theorem dX11_mix_110 : decode cX11_mix 110 = .ok (.iconst 4, 1) := dq_875.2.2.2.1
theorem dX11_mix_111 : decode cX11_mix 111 = .ok (.irem, 1) := dq_875.2.2.2.2.1
theorem dX11_mix_112 : decode cX11_mix 112 = .ok (.iadd, 1) := dq_875.2.2.2.2.2.1
theorem dX11_mix_113 : decode cX11_mix 113 = .ok (.iaload, 1) := dq_875.2.2.2.2.2.2.1
theorem dX11_mix_114 : decode cX11_mix 114 = .ok (.iastore, 1) := dq_875.2.2.2.2.2.2.2.1
theorem dX11_mix_115 : decode cX11_mix 115 = .ok (.iinc 5 1, 3) := dq_875.2.2.2.2.2.2.2.2.1
theorem dX11_mix_118 : decode cX11_mix 118 = .ok (.goto (-65), 3) := dq_875.2.2.2.2.2.2.2.2.2.1
theorem dX11_mix_121 : decode cX11_mix 121 = .ok (.iinc 3 1, 3) := dq_875.2.2.2.2.2.2.2.2.2.2.1
theorem dX11_mix_124 : decode cX11_mix 124 = .ok (.goto (-89), 3) := dq_875.2.2.2.2.2.2.2.2.2.2.2
theorem dq_876 : decode cX11_mix 127 = .ok (.iconst 0, 1) ∧ decode cX11_mix 128 = .ok (.istore_n 3, 1) ∧ decode cX11_mix 129 = .ok (.iload_n 3, 1) ∧ decode cX11_mix 130 = .ok (.bipush 64, 2) ∧ decode cX11_mix 132 = .ok (.if_icmp .ge 21, 3) ∧ decode cX11_mix 135 = .ok (.aload_n 0, 1) ∧ decode cX11_mix 136 = .ok (.getfield 72, 3) ∧ decode cX11_mix 139 = .ok (.iload_n 3, 1) ∧ decode cX11_mix 140 = .ok (.aload_n 0, 1) ∧ decode cX11_mix 141 = .ok (.getfield 81, 3) ∧ decode cX11_mix 144 = .ok (.iload_n 3, 1) ∧ decode cX11_mix 145 = .ok (.iaload, 1) := by decide +kernel
theorem dX11_mix_127 : decode cX11_mix 127 = .ok (.iconst 0, 1) := dq_876.1
theorem dX11_mix_128 : decode cX11_mix 128 = .ok (.istore_n 3, 1) := dq_876.2.1
theorem dX11_mix_129 : decode cX11_mix 129 = .ok (.iload_n 3, 1) := dq_876.2.2.1
theorem dX11_mix_130 : decode cX11_mix 130 = .ok (.bipush 64, 2) := dq_876.2.2.2.1
theorem dX11_mix_132 : decode cX11_mix 132 = .ok (.if_icmp .ge 21, 3) := dq_876.2.2.2.2.1
theorem dX11_mix_135 : decode cX11_mix 135 = .ok (.aload_n 0, 1) := dq_876.2.2.2.2.2.1
theorem dX11_mix_136 : decode cX11_mix 136 = .ok (.getfield 72, 3) := dq_876.2.2.2.2.2.2.1
theorem dX11_mix_139 : decode cX11_mix 139 = .ok (.iload_n 3, 1) := dq_876.2.2.2.2.2.2.2.1
theorem dX11_mix_140 : decode cX11_mix 140 = .ok (.aload_n 0, 1) := dq_876.2.2.2.2.2.2.2.2.1
theorem dX11_mix_141 : decode cX11_mix 141 = .ok (.getfield 81, 3) := dq_876.2.2.2.2.2.2.2.2.2.1
theorem dX11_mix_144 : decode cX11_mix 144 = .ok (.iload_n 3, 1) := dq_876.2.2.2.2.2.2.2.2.2.2.1
theorem dX11_mix_145 : decode cX11_mix 145 = .ok (.iaload, 1) := dq_876.2.2.2.2.2.2.2.2.2.2.2
theorem dq_877 : decode cX11_mix 146 = .ok (.iastore, 1) ∧ decode cX11_mix 147 = .ok (.iinc 3 1, 3) ∧ decode cX11_mix 150 = .ok (.goto (-21), 3) ∧ decode cX11_mix 153 = .ok (.aload_n 0, 1) ∧ decode cX11_mix 154 = .ok (.iconst 0, 1) ∧ decode cX11_mix 155 = .ok (.putfield 315, 3) ∧ decode cX11_mix 158 = .ok (.aload_n 0, 1) ∧ decode cX11_mix 159 = .ok (.lconst 0, 1) ∧ decode cX11_mix 160 = .ok (.putfield 257, 3) ∧ decode cX11_mix 163 = .ok (.iconst 1, 1) ∧ decode cX11_mix 164 = .ok (.ireturn, 1) := by decide +kernel
theorem dX11_mix_146 : decode cX11_mix 146 = .ok (.iastore, 1) := dq_877.1
theorem dX11_mix_147 : decode cX11_mix 147 = .ok (.iinc 3 1, 3) := dq_877.2.1
theorem dX11_mix_150 : decode cX11_mix 150 = .ok (.goto (-21), 3) := dq_877.2.2.1
theorem dX11_mix_153 : decode cX11_mix 153 = .ok (.aload_n 0, 1) := dq_877.2.2.2.1
theorem dX11_mix_154 : decode cX11_mix 154 = .ok (.iconst 0, 1) := dq_877.2.2.2.2.1
theorem dX11_mix_155 : decode cX11_mix 155 = .ok (.putfield 315, 3) := dq_877.2.2.2.2.2.1
theorem dX11_mix_158 : decode cX11_mix 158 = .ok (.aload_n 0, 1) := dq_877.2.2.2.2.2.2.1
theorem dX11_mix_159 : decode cX11_mix 159 = .ok (.lconst 0, 1) := dq_877.2.2.2.2.2.2.2.1
theorem dX11_mix_160 : decode cX11_mix 160 = .ok (.putfield 257, 3) := dq_877.2.2.2.2.2.2.2.2.1
theorem dX11_mix_163 : decode cX11_mix 163 = .ok (.iconst 1, 1) := dq_877.2.2.2.2.2.2.2.2.2.1
theorem dX11_mix_164 : decode cX11_mix 164 = .ok (.ireturn, 1) := dq_877.2.2.2.2.2.2.2.2.2.2
theorem dq_878 : decode cX11_seamOf 0 = .ok (.iload_n 0, 1) ∧ decode cX11_seamOf 1 = .ok (.iconst (-1), 1) ∧ decode cX11_seamOf 2 = .ok (.if_icmp .eq 12, 3) ∧ decode cX11_seamOf 5 = .ok (.iload_n 0, 1) ∧ decode cX11_seamOf 6 = .ok (.iload_n 1, 1) ∧ decode cX11_seamOf 7 = .ok (.if_icmp .ne 7, 3) ∧ decode cX11_seamOf 10 = .ok (.iconst 1, 1) ∧ decode cX11_seamOf 11 = .ok (.goto 4, 3) ∧ decode cX11_seamOf 14 = .ok (.iconst 0, 1) ∧ decode cX11_seamOf 15 = .ok (.ireturn, 1) := by decide +kernel
theorem dX11_seamOf_0 : decode cX11_seamOf 0 = .ok (.iload_n 0, 1) := dq_878.1
theorem dX11_seamOf_1 : decode cX11_seamOf 1 = .ok (.iconst (-1), 1) := dq_878.2.1
theorem dX11_seamOf_2 : decode cX11_seamOf 2 = .ok (.if_icmp .eq 12, 3) := dq_878.2.2.1
theorem dX11_seamOf_5 : decode cX11_seamOf 5 = .ok (.iload_n 0, 1) := dq_878.2.2.2.1
theorem dX11_seamOf_6 : decode cX11_seamOf 6 = .ok (.iload_n 1, 1) := dq_878.2.2.2.2.1
theorem dX11_seamOf_7 : decode cX11_seamOf 7 = .ok (.if_icmp .ne 7, 3) := dq_878.2.2.2.2.2.1
theorem dX11_seamOf_10 : decode cX11_seamOf 10 = .ok (.iconst 1, 1) := dq_878.2.2.2.2.2.2.1
theorem dX11_seamOf_11 : decode cX11_seamOf 11 = .ok (.goto 4, 3) := dq_878.2.2.2.2.2.2.2.1
theorem dX11_seamOf_14 : decode cX11_seamOf 14 = .ok (.iconst 0, 1) := dq_878.2.2.2.2.2.2.2.2.1
theorem dX11_seamOf_15 : decode cX11_seamOf 15 = .ok (.ireturn, 1) := dq_878.2.2.2.2.2.2.2.2.2
theorem dq_879 : decode cX11_seams 0 = .ok (.iconst 0, 1) ∧ decode cX11_seams 1 = .ok (.istore_n 1, 1) ∧ decode cX11_seams 2 = .ok (.iconst 0, 1) ∧ decode cX11_seams 3 = .ok (.istore_n 2, 1) ∧ decode cX11_seams 4 = .ok (.iload_n 2, 1) ∧ decode cX11_seams 5 = .ok (.bipush 8, 2) ∧ decode cX11_seams 7 = .ok (.if_icmp .ge 61, 3) ∧ decode cX11_seams 10 = .ok (.iload_n 1, 1) ∧ decode cX11_seams 11 = .ok (.aload_n 0, 1) ∧ decode cX11_seams 12 = .ok (.getfield 72, 3) ∧ decode cX11_seams 15 = .ok (.bipush 8, 2) ∧ decode cX11_seams 17 = .ok (.iload_n 2, 1) := by decide +kernel
theorem dX11_seams_0 : decode cX11_seams 0 = .ok (.iconst 0, 1) := dq_879.1
theorem dX11_seams_1 : decode cX11_seams 1 = .ok (.istore_n 1, 1) := dq_879.2.1
theorem dX11_seams_2 : decode cX11_seams 2 = .ok (.iconst 0, 1) := dq_879.2.2.1
theorem dX11_seams_3 : decode cX11_seams 3 = .ok (.istore_n 2, 1) := dq_879.2.2.2.1
theorem dX11_seams_4 : decode cX11_seams 4 = .ok (.iload_n 2, 1) := dq_879.2.2.2.2.1
theorem dX11_seams_5 : decode cX11_seams 5 = .ok (.bipush 8, 2) := dq_879.2.2.2.2.2.1
theorem dX11_seams_7 : decode cX11_seams 7 = .ok (.if_icmp .ge 61, 3) := dq_879.2.2.2.2.2.2.1
theorem dX11_seams_10 : decode cX11_seams 10 = .ok (.iload_n 1, 1) := dq_879.2.2.2.2.2.2.2.1
theorem dX11_seams_11 : decode cX11_seams 11 = .ok (.aload_n 0, 1) := dq_879.2.2.2.2.2.2.2.2.1
theorem dX11_seams_12 : decode cX11_seams 12 = .ok (.getfield 72, 3) := dq_879.2.2.2.2.2.2.2.2.2.1
theorem dX11_seams_15 : decode cX11_seams 15 = .ok (.bipush 8, 2) := dq_879.2.2.2.2.2.2.2.2.2.2.1
theorem dX11_seams_17 : decode cX11_seams 17 = .ok (.iload_n 2, 1) := dq_879.2.2.2.2.2.2.2.2.2.2.2
theorem dq_880 : decode cX11_seams 18 = .ok (.imul, 1) ∧ decode cX11_seams 19 = .ok (.iconst 3, 1) ∧ decode cX11_seams 20 = .ok (.iadd, 1) ∧ decode cX11_seams 21 = .ok (.iaload, 1) ∧ decode cX11_seams 22 = .ok (.aload_n 0, 1) ∧ decode cX11_seams 23 = .ok (.getfield 72, 3) ∧ decode cX11_seams 26 = .ok (.bipush 8, 2) ∧ decode cX11_seams 28 = .ok (.iload_n 2, 1) ∧ decode cX11_seams 29 = .ok (.imul, 1) ∧ decode cX11_seams 30 = .ok (.iconst 4, 1) ∧ decode cX11_seams 31 = .ok (.iadd, 1) ∧ decode cX11_seams 32 = .ok (.iaload, 1) := by decide +kernel
theorem dX11_seams_18 : decode cX11_seams 18 = .ok (.imul, 1) := dq_880.1
theorem dX11_seams_19 : decode cX11_seams 19 = .ok (.iconst 3, 1) := dq_880.2.1
theorem dX11_seams_20 : decode cX11_seams 20 = .ok (.iadd, 1) := dq_880.2.2.1
theorem dX11_seams_21 : decode cX11_seams 21 = .ok (.iaload, 1) := dq_880.2.2.2.1
theorem dX11_seams_22 : decode cX11_seams 22 = .ok (.aload_n 0, 1) := dq_880.2.2.2.2.1
theorem dX11_seams_23 : decode cX11_seams 23 = .ok (.getfield 72, 3) := dq_880.2.2.2.2.2.1
theorem dX11_seams_26 : decode cX11_seams 26 = .ok (.bipush 8, 2) := dq_880.2.2.2.2.2.2.1
theorem dX11_seams_28 : decode cX11_seams 28 = .ok (.iload_n 2, 1) := dq_880.2.2.2.2.2.2.2.1
theorem dX11_seams_29 : decode cX11_seams 29 = .ok (.imul, 1) := dq_880.2.2.2.2.2.2.2.2.1
theorem dX11_seams_30 : decode cX11_seams 30 = .ok (.iconst 4, 1) := dq_880.2.2.2.2.2.2.2.2.2.1
theorem dX11_seams_31 : decode cX11_seams 31 = .ok (.iadd, 1) := dq_880.2.2.2.2.2.2.2.2.2.2.1
theorem dX11_seams_32 : decode cX11_seams 32 = .ok (.iaload, 1) := dq_880.2.2.2.2.2.2.2.2.2.2.2
theorem dq_881 : decode cX11_seams 33 = .ok (.invokestatic 332, 3) ∧ decode cX11_seams 36 = .ok (.iadd, 1) ∧ decode cX11_seams 37 = .ok (.istore_n 1, 1) ∧ decode cX11_seams 38 = .ok (.iload_n 1, 1) ∧ decode cX11_seams 39 = .ok (.aload_n 0, 1) ∧ decode cX11_seams 40 = .ok (.getfield 72, 3) ∧ decode cX11_seams 43 = .ok (.bipush 24, 2) ∧ decode cX11_seams 45 = .ok (.iload_n 2, 1) ∧ decode cX11_seams 46 = .ok (.iadd, 1) ∧ decode cX11_seams 47 = .ok (.iaload, 1) ∧ decode cX11_seams 48 = .ok (.aload_n 0, 1) ∧ decode cX11_seams 49 = .ok (.getfield 72, 3) := by decide +kernel
theorem dX11_seams_33 : decode cX11_seams 33 = .ok (.invokestatic 332, 3) := dq_881.1
theorem dX11_seams_36 : decode cX11_seams 36 = .ok (.iadd, 1) := dq_881.2.1
theorem dX11_seams_37 : decode cX11_seams 37 = .ok (.istore_n 1, 1) := dq_881.2.2.1
theorem dX11_seams_38 : decode cX11_seams 38 = .ok (.iload_n 1, 1) := dq_881.2.2.2.1
theorem dX11_seams_39 : decode cX11_seams 39 = .ok (.aload_n 0, 1) := dq_881.2.2.2.2.1
theorem dX11_seams_40 : decode cX11_seams 40 = .ok (.getfield 72, 3) := dq_881.2.2.2.2.2.1
theorem dX11_seams_43 : decode cX11_seams 43 = .ok (.bipush 24, 2) := dq_881.2.2.2.2.2.2.1
theorem dX11_seams_45 : decode cX11_seams 45 = .ok (.iload_n 2, 1) := dq_881.2.2.2.2.2.2.2.1
theorem dX11_seams_46 : decode cX11_seams 46 = .ok (.iadd, 1) := dq_881.2.2.2.2.2.2.2.2.1
theorem dX11_seams_47 : decode cX11_seams 47 = .ok (.iaload, 1) := dq_881.2.2.2.2.2.2.2.2.2.1
theorem dX11_seams_48 : decode cX11_seams 48 = .ok (.aload_n 0, 1) := dq_881.2.2.2.2.2.2.2.2.2.2.1
theorem dX11_seams_49 : decode cX11_seams 49 = .ok (.getfield 72, 3) := dq_881.2.2.2.2.2.2.2.2.2.2.2
theorem dq_882 : decode cX11_seams 52 = .ok (.bipush 32, 2) ∧ decode cX11_seams 54 = .ok (.iload_n 2, 1) ∧ decode cX11_seams 55 = .ok (.iadd, 1) ∧ decode cX11_seams 56 = .ok (.iaload, 1) ∧ decode cX11_seams 57 = .ok (.invokestatic 332, 3) ∧ decode cX11_seams 60 = .ok (.iadd, 1) ∧ decode cX11_seams 61 = .ok (.istore_n 1, 1) ∧ decode cX11_seams 62 = .ok (.iinc 2 1, 3) ∧ decode cX11_seams 65 = .ok (.goto (-61), 3) ∧ decode cX11_seams 68 = .ok (.iload_n 1, 1) ∧ decode cX11_seams 69 = .ok (.ireturn, 1) := by decide +kernel
theorem dX11_seams_52 : decode cX11_seams 52 = .ok (.bipush 32, 2) := dq_882.1
theorem dX11_seams_54 : decode cX11_seams 54 = .ok (.iload_n 2, 1) := dq_882.2.1
theorem dX11_seams_55 : decode cX11_seams 55 = .ok (.iadd, 1) := dq_882.2.2.1
theorem dX11_seams_56 : decode cX11_seams 56 = .ok (.iaload, 1) := dq_882.2.2.2.1
theorem dX11_seams_57 : decode cX11_seams 57 = .ok (.invokestatic 332, 3) := dq_882.2.2.2.2.1
theorem dX11_seams_60 : decode cX11_seams 60 = .ok (.iadd, 1) := dq_882.2.2.2.2.2.1
theorem dX11_seams_61 : decode cX11_seams 61 = .ok (.istore_n 1, 1) := dq_882.2.2.2.2.2.2.1
theorem dX11_seams_62 : decode cX11_seams 62 = .ok (.iinc 2 1, 3) := dq_882.2.2.2.2.2.2.2.1
theorem dX11_seams_65 : decode cX11_seams 65 = .ok (.goto (-61), 3) := dq_882.2.2.2.2.2.2.2.2.1
theorem dX11_seams_68 : decode cX11_seams 68 = .ok (.iload_n 1, 1) := dq_882.2.2.2.2.2.2.2.2.2.1
theorem dX11_seams_69 : decode cX11_seams 69 = .ok (.ireturn, 1) := dq_882.2.2.2.2.2.2.2.2.2.2
theorem dq_883 : decode cX11_panelAt 0 = .ok (.iload 4, 2) ∧ decode cX11_panelAt 2 = .ok (.iconst 4, 1) ∧ decode cX11_panelAt 3 = .ok (.iload_n 2, 1) ∧ decode cX11_panelAt 4 = .ok (.iload_n 3, 1) ∧ decode cX11_panelAt 5 = .ok (.invokestatic 321, 3) ∧ decode cX11_panelAt 8 = .ok (.invokestatic 268, 3) ∧ decode cX11_panelAt 11 = .ok (.istore 5, 2) ∧ decode cX11_panelAt 13 = .ok (.aload_n 0, 1) ∧ decode cX11_panelAt 14 = .ok (.getfield 72, 3) ∧ decode cX11_panelAt 17 = .ok (.iload_n 1, 1) ∧ decode cX11_panelAt 18 = .ok (.iload_n 3, 1) ∧ decode cX11_panelAt 19 = .ok (.invokestatic 321, 3) := by decide +kernel
theorem dX11_panelAt_0 : decode cX11_panelAt 0 = .ok (.iload 4, 2) := dq_883.1
theorem dX11_panelAt_2 : decode cX11_panelAt 2 = .ok (.iconst 4, 1) := dq_883.2.1
theorem dX11_panelAt_3 : decode cX11_panelAt 3 = .ok (.iload_n 2, 1) := dq_883.2.2.1
theorem dX11_panelAt_4 : decode cX11_panelAt 4 = .ok (.iload_n 3, 1) := dq_883.2.2.2.1
theorem dX11_panelAt_5 : decode cX11_panelAt 5 = .ok (.invokestatic 321, 3) := dq_883.2.2.2.2.1
theorem dX11_panelAt_8 : decode cX11_panelAt 8 = .ok (.invokestatic 268, 3) := dq_883.2.2.2.2.2.1
theorem dX11_panelAt_11 : decode cX11_panelAt 11 = .ok (.istore 5, 2) := dq_883.2.2.2.2.2.2.1
theorem dX11_panelAt_13 : decode cX11_panelAt 13 = .ok (.aload_n 0, 1) := dq_883.2.2.2.2.2.2.2.1
theorem dX11_panelAt_14 : decode cX11_panelAt 14 = .ok (.getfield 72, 3) := dq_883.2.2.2.2.2.2.2.2.1
theorem dX11_panelAt_17 : decode cX11_panelAt 17 = .ok (.iload_n 1, 1) := dq_883.2.2.2.2.2.2.2.2.2.1
theorem dX11_panelAt_18 : decode cX11_panelAt 18 = .ok (.iload_n 3, 1) := dq_883.2.2.2.2.2.2.2.2.2.2.1
theorem dX11_panelAt_19 : decode cX11_panelAt 19 = .ok (.invokestatic 321, 3) := dq_883.2.2.2.2.2.2.2.2.2.2.2
theorem dq_884 : decode cX11_panelAt 22 = .ok (.invokestatic 329, 3) ∧ decode cX11_panelAt 25 = .ok (.bipush 8, 2) ∧ decode cX11_panelAt 27 = .ok (.iload 5, 2) ∧ decode cX11_panelAt 29 = .ok (.iconst 4, 1) ∧ decode cX11_panelAt 30 = .ok (.idiv, 1) ∧ decode cX11_panelAt 31 = .ok (.imul, 1) ∧ decode cX11_panelAt 32 = .ok (.iadd, 1) ∧ decode cX11_panelAt 33 = .ok (.iload 5, 2) ∧ decode cX11_panelAt 35 = .ok (.iconst 4, 1) ∧ decode cX11_panelAt 36 = .ok (.irem, 1) ∧ decode cX11_panelAt 37 = .ok (.iadd, 1) ∧ decode cX11_panelAt 38 = .ok (.iaload, 1) := by decide +kernel
theorem dX11_panelAt_22 : decode cX11_panelAt 22 = .ok (.invokestatic 329, 3) := dq_884.1
theorem dX11_panelAt_25 : decode cX11_panelAt 25 = .ok (.bipush 8, 2) := dq_884.2.1
theorem dX11_panelAt_27 : decode cX11_panelAt 27 = .ok (.iload 5, 2) := dq_884.2.2.1
theorem dX11_panelAt_29 : decode cX11_panelAt 29 = .ok (.iconst 4, 1) := dq_884.2.2.2.1
theorem dX11_panelAt_30 : decode cX11_panelAt 30 = .ok (.idiv, 1) := dq_884.2.2.2.2.1
theorem dX11_panelAt_31 : decode cX11_panelAt 31 = .ok (.imul, 1) := dq_884.2.2.2.2.2.1
theorem dX11_panelAt_32 : decode cX11_panelAt 32 = .ok (.iadd, 1) := dq_884.2.2.2.2.2.2.1
theorem dX11_panelAt_33 : decode cX11_panelAt 33 = .ok (.iload 5, 2) := dq_884.2.2.2.2.2.2.2.1
theorem dX11_panelAt_35 : decode cX11_panelAt 35 = .ok (.iconst 4, 1) := dq_884.2.2.2.2.2.2.2.2.1
theorem dX11_panelAt_36 : decode cX11_panelAt 36 = .ok (.irem, 1) := dq_884.2.2.2.2.2.2.2.2.2.1
theorem dX11_panelAt_37 : decode cX11_panelAt 37 = .ok (.iadd, 1) := dq_884.2.2.2.2.2.2.2.2.2.2.1
theorem dX11_panelAt_38 : decode cX11_panelAt 38 = .ok (.iaload, 1) := dq_884.2.2.2.2.2.2.2.2.2.2.2
theorem dX11_panelAt_39 : decode cX11_panelAt 39 = .ok (.ireturn, 1) := by decide +kernel
theorem dq_886 : decode cX11_seamsOf 0 = .ok (.iconst 0, 1) ∧ decode cX11_seamsOf 1 = .ok (.istore_n 3, 1) ∧ decode cX11_seamsOf 2 = .ok (.iconst 0, 1) ∧ decode cX11_seamsOf 3 = .ok (.istore 4, 2) ∧ decode cX11_seamsOf 5 = .ok (.iload 4, 2) ∧ decode cX11_seamsOf 7 = .ok (.iconst 4, 1) ∧ decode cX11_seamsOf 8 = .ok (.if_icmp .ge 93, 3) ∧ decode cX11_seamsOf 11 = .ok (.iconst 0, 1) ∧ decode cX11_seamsOf 12 = .ok (.istore 5, 2) ∧ decode cX11_seamsOf 14 = .ok (.iload 5, 2) ∧ decode cX11_seamsOf 16 = .ok (.iconst 2, 1) ∧ decode cX11_seamsOf 17 = .ok (.if_icmp .ge 78, 3) := by decide +kernel
theorem dX11_seamsOf_0 : decode cX11_seamsOf 0 = .ok (.iconst 0, 1) := dq_886.1
theorem dX11_seamsOf_1 : decode cX11_seamsOf 1 = .ok (.istore_n 3, 1) := dq_886.2.1
theorem dX11_seamsOf_2 : decode cX11_seamsOf 2 = .ok (.iconst 0, 1) := dq_886.2.2.1
theorem dX11_seamsOf_3 : decode cX11_seamsOf 3 = .ok (.istore 4, 2) := dq_886.2.2.2.1
theorem dX11_seamsOf_5 : decode cX11_seamsOf 5 = .ok (.iload 4, 2) := dq_886.2.2.2.2.1
theorem dX11_seamsOf_7 : decode cX11_seamsOf 7 = .ok (.iconst 4, 1) := dq_886.2.2.2.2.2.1
theorem dX11_seamsOf_8 : decode cX11_seamsOf 8 = .ok (.if_icmp .ge 93, 3) := dq_886.2.2.2.2.2.2.1
theorem dX11_seamsOf_11 : decode cX11_seamsOf 11 = .ok (.iconst 0, 1) := dq_886.2.2.2.2.2.2.2.1
theorem dX11_seamsOf_12 : decode cX11_seamsOf 12 = .ok (.istore 5, 2) := dq_886.2.2.2.2.2.2.2.2.1
theorem dX11_seamsOf_14 : decode cX11_seamsOf 14 = .ok (.iload 5, 2) := dq_886.2.2.2.2.2.2.2.2.2.1
theorem dX11_seamsOf_16 : decode cX11_seamsOf 16 = .ok (.iconst 2, 1) := dq_886.2.2.2.2.2.2.2.2.2.2.1
theorem dX11_seamsOf_17 : decode cX11_seamsOf 17 = .ok (.if_icmp .ge 78, 3) := dq_886.2.2.2.2.2.2.2.2.2.2.2
theorem dq_887 : decode cX11_seamsOf 20 = .ok (.iload_n 3, 1) ∧ decode cX11_seamsOf 21 = .ok (.aload_n 0, 1) ∧ decode cX11_seamsOf 22 = .ok (.iload_n 1, 1) ∧ decode cX11_seamsOf 23 = .ok (.iload_n 2, 1) ∧ decode cX11_seamsOf 24 = .ok (.iconst 2, 1) ∧ decode cX11_seamsOf 25 = .ok (.iload 5, 2) ∧ decode cX11_seamsOf 27 = .ok (.imul, 1) ∧ decode cX11_seamsOf 28 = .ok (.iconst 4, 1) ∧ decode cX11_seamsOf 29 = .ok (.iload 4, 2) ∧ decode cX11_seamsOf 31 = .ok (.imul, 1) ∧ decode cX11_seamsOf 32 = .ok (.iconst 3, 1) ∧ decode cX11_seamsOf 33 = .ok (.iadd, 1) := by decide +kernel
theorem dX11_seamsOf_20 : decode cX11_seamsOf 20 = .ok (.iload_n 3, 1) := dq_887.1
theorem dX11_seamsOf_21 : decode cX11_seamsOf 21 = .ok (.aload_n 0, 1) := dq_887.2.1
theorem dX11_seamsOf_22 : decode cX11_seamsOf 22 = .ok (.iload_n 1, 1) := dq_887.2.2.1
theorem dX11_seamsOf_23 : decode cX11_seamsOf 23 = .ok (.iload_n 2, 1) := dq_887.2.2.2.1
theorem dX11_seamsOf_24 : decode cX11_seamsOf 24 = .ok (.iconst 2, 1) := dq_887.2.2.2.2.1
theorem dX11_seamsOf_25 : decode cX11_seamsOf 25 = .ok (.iload 5, 2) := dq_887.2.2.2.2.2.1
theorem dX11_seamsOf_27 : decode cX11_seamsOf 27 = .ok (.imul, 1) := dq_887.2.2.2.2.2.2.1
theorem dX11_seamsOf_28 : decode cX11_seamsOf 28 = .ok (.iconst 4, 1) := dq_887.2.2.2.2.2.2.2.1
theorem dX11_seamsOf_29 : decode cX11_seamsOf 29 = .ok (.iload 4, 2) := dq_887.2.2.2.2.2.2.2.2.1
theorem dX11_seamsOf_31 : decode cX11_seamsOf 31 = .ok (.imul, 1) := dq_887.2.2.2.2.2.2.2.2.2.1
theorem dX11_seamsOf_32 : decode cX11_seamsOf 32 = .ok (.iconst 3, 1) := dq_887.2.2.2.2.2.2.2.2.2.2.1
theorem dX11_seamsOf_33 : decode cX11_seamsOf 33 = .ok (.iadd, 1) := dq_887.2.2.2.2.2.2.2.2.2.2.2
theorem dq_888 : decode cX11_seamsOf 34 = .ok (.invokevirtual 335, 3) ∧ decode cX11_seamsOf 37 = .ok (.aload_n 0, 1) ∧ decode cX11_seamsOf 38 = .ok (.iload_n 1, 1) ∧ decode cX11_seamsOf 39 = .ok (.iload_n 2, 1) ∧ decode cX11_seamsOf 40 = .ok (.iconst 2, 1) ∧ decode cX11_seamsOf 41 = .ok (.iload 5, 2) ∧ decode cX11_seamsOf 43 = .ok (.imul, 1) ∧ decode cX11_seamsOf 44 = .ok (.iconst 1, 1) ∧ decode cX11_seamsOf 45 = .ok (.iadd, 1) ∧ decode cX11_seamsOf 46 = .ok (.iconst 4, 1) ∧ decode cX11_seamsOf 47 = .ok (.iload 4, 2) ∧ decode cX11_seamsOf 49 = .ok (.imul, 1) := by decide +kernel
theorem dX11_seamsOf_34 : decode cX11_seamsOf 34 = .ok (.invokevirtual 335, 3) := dq_888.1
theorem dX11_seamsOf_37 : decode cX11_seamsOf 37 = .ok (.aload_n 0, 1) := dq_888.2.1
theorem dX11_seamsOf_38 : decode cX11_seamsOf 38 = .ok (.iload_n 1, 1) := dq_888.2.2.1
theorem dX11_seamsOf_39 : decode cX11_seamsOf 39 = .ok (.iload_n 2, 1) := dq_888.2.2.2.1
theorem dX11_seamsOf_40 : decode cX11_seamsOf 40 = .ok (.iconst 2, 1) := dq_888.2.2.2.2.1
theorem dX11_seamsOf_41 : decode cX11_seamsOf 41 = .ok (.iload 5, 2) := dq_888.2.2.2.2.2.1
theorem dX11_seamsOf_43 : decode cX11_seamsOf 43 = .ok (.imul, 1) := dq_888.2.2.2.2.2.2.1
theorem dX11_seamsOf_44 : decode cX11_seamsOf 44 = .ok (.iconst 1, 1) := dq_888.2.2.2.2.2.2.2.1
theorem dX11_seamsOf_45 : decode cX11_seamsOf 45 = .ok (.iadd, 1) := dq_888.2.2.2.2.2.2.2.2.1
theorem dX11_seamsOf_46 : decode cX11_seamsOf 46 = .ok (.iconst 4, 1) := dq_888.2.2.2.2.2.2.2.2.2.1
theorem dX11_seamsOf_47 : decode cX11_seamsOf 47 = .ok (.iload 4, 2) := dq_888.2.2.2.2.2.2.2.2.2.2.1
theorem dX11_seamsOf_49 : decode cX11_seamsOf 49 = .ok (.imul, 1) := dq_888.2.2.2.2.2.2.2.2.2.2.2
theorem dq_889 : decode cX11_seamsOf 50 = .ok (.invokevirtual 335, 3) ∧ decode cX11_seamsOf 53 = .ok (.invokestatic 332, 3) ∧ decode cX11_seamsOf 56 = .ok (.iadd, 1) ∧ decode cX11_seamsOf 57 = .ok (.istore_n 3, 1) ∧ decode cX11_seamsOf 58 = .ok (.iload_n 3, 1) ∧ decode cX11_seamsOf 59 = .ok (.aload_n 0, 1) ∧ decode cX11_seamsOf 60 = .ok (.iload_n 1, 1) ∧ decode cX11_seamsOf 61 = .ok (.iload_n 2, 1) ∧ decode cX11_seamsOf 62 = .ok (.iload 5, 2) ∧ decode cX11_seamsOf 64 = .ok (.bipush 12, 2) ∧ decode cX11_seamsOf 66 = .ok (.iload 4, 2) ∧ decode cX11_seamsOf 68 = .ok (.iadd, 1) := by decide +kernel
theorem dX11_seamsOf_50 : decode cX11_seamsOf 50 = .ok (.invokevirtual 335, 3) := dq_889.1
theorem dX11_seamsOf_53 : decode cX11_seamsOf 53 = .ok (.invokestatic 332, 3) := dq_889.2.1
theorem dX11_seamsOf_56 : decode cX11_seamsOf 56 = .ok (.iadd, 1) := dq_889.2.2.1
theorem dX11_seamsOf_57 : decode cX11_seamsOf 57 = .ok (.istore_n 3, 1) := dq_889.2.2.2.1
theorem dX11_seamsOf_58 : decode cX11_seamsOf 58 = .ok (.iload_n 3, 1) := dq_889.2.2.2.2.1
theorem dX11_seamsOf_59 : decode cX11_seamsOf 59 = .ok (.aload_n 0, 1) := dq_889.2.2.2.2.2.1
theorem dX11_seamsOf_60 : decode cX11_seamsOf 60 = .ok (.iload_n 1, 1) := dq_889.2.2.2.2.2.2.1
theorem dX11_seamsOf_61 : decode cX11_seamsOf 61 = .ok (.iload_n 2, 1) := dq_889.2.2.2.2.2.2.2.1
theorem dX11_seamsOf_62 : decode cX11_seamsOf 62 = .ok (.iload 5, 2) := dq_889.2.2.2.2.2.2.2.2.1
theorem dX11_seamsOf_64 : decode cX11_seamsOf 64 = .ok (.bipush 12, 2) := dq_889.2.2.2.2.2.2.2.2.2.1
theorem dX11_seamsOf_66 : decode cX11_seamsOf 66 = .ok (.iload 4, 2) := dq_889.2.2.2.2.2.2.2.2.2.2.1
theorem dX11_seamsOf_68 : decode cX11_seamsOf 68 = .ok (.iadd, 1) := dq_889.2.2.2.2.2.2.2.2.2.2.2
theorem dq_890 : decode cX11_seamsOf 69 = .ok (.invokevirtual 335, 3) ∧ decode cX11_seamsOf 72 = .ok (.aload_n 0, 1) ∧ decode cX11_seamsOf 73 = .ok (.iload_n 1, 1) ∧ decode cX11_seamsOf 74 = .ok (.iload_n 2, 1) ∧ decode cX11_seamsOf 75 = .ok (.iconst 2, 1) ∧ decode cX11_seamsOf 76 = .ok (.iload 5, 2) ∧ decode cX11_seamsOf 78 = .ok (.iadd, 1) ∧ decode cX11_seamsOf 79 = .ok (.iload 4, 2) ∧ decode cX11_seamsOf 81 = .ok (.invokevirtual 335, 3) ∧ decode cX11_seamsOf 84 = .ok (.invokestatic 332, 3) ∧ decode cX11_seamsOf 87 = .ok (.iadd, 1) ∧ decode cX11_seamsOf 88 = .ok (.istore_n 3, 1) := by decide +kernel
theorem dX11_seamsOf_69 : decode cX11_seamsOf 69 = .ok (.invokevirtual 335, 3) := dq_890.1
theorem dX11_seamsOf_72 : decode cX11_seamsOf 72 = .ok (.aload_n 0, 1) := dq_890.2.1
theorem dX11_seamsOf_73 : decode cX11_seamsOf 73 = .ok (.iload_n 1, 1) := dq_890.2.2.1
theorem dX11_seamsOf_74 : decode cX11_seamsOf 74 = .ok (.iload_n 2, 1) := dq_890.2.2.2.1
theorem dX11_seamsOf_75 : decode cX11_seamsOf 75 = .ok (.iconst 2, 1) := dq_890.2.2.2.2.1
theorem dX11_seamsOf_76 : decode cX11_seamsOf 76 = .ok (.iload 5, 2) := dq_890.2.2.2.2.2.1
theorem dX11_seamsOf_78 : decode cX11_seamsOf 78 = .ok (.iadd, 1) := dq_890.2.2.2.2.2.2.1
theorem dX11_seamsOf_79 : decode cX11_seamsOf 79 = .ok (.iload 4, 2) := dq_890.2.2.2.2.2.2.2.1
theorem dX11_seamsOf_81 : decode cX11_seamsOf 81 = .ok (.invokevirtual 335, 3) := dq_890.2.2.2.2.2.2.2.2.1
theorem dX11_seamsOf_84 : decode cX11_seamsOf 84 = .ok (.invokestatic 332, 3) := dq_890.2.2.2.2.2.2.2.2.2.1
theorem dX11_seamsOf_87 : decode cX11_seamsOf 87 = .ok (.iadd, 1) := dq_890.2.2.2.2.2.2.2.2.2.2.1
theorem dX11_seamsOf_88 : decode cX11_seamsOf 88 = .ok (.istore_n 3, 1) := dq_890.2.2.2.2.2.2.2.2.2.2.2
theorem dq_891 : decode cX11_seamsOf 89 = .ok (.iinc 5 1, 3) ∧ decode cX11_seamsOf 92 = .ok (.goto (-78), 3) ∧ decode cX11_seamsOf 95 = .ok (.iinc 4 1, 3) ∧ decode cX11_seamsOf 98 = .ok (.goto (-93), 3) ∧ decode cX11_seamsOf 101 = .ok (.iload_n 3, 1) ∧ decode cX11_seamsOf 102 = .ok (.ireturn, 1) := by decide +kernel
theorem dX11_seamsOf_89 : decode cX11_seamsOf 89 = .ok (.iinc 5 1, 3) := dq_891.1
theorem dX11_seamsOf_92 : decode cX11_seamsOf 92 = .ok (.goto (-78), 3) := dq_891.2.1
theorem dX11_seamsOf_95 : decode cX11_seamsOf 95 = .ok (.iinc 4 1, 3) := dq_891.2.2.1
theorem dX11_seamsOf_98 : decode cX11_seamsOf 98 = .ok (.goto (-93), 3) := dq_891.2.2.2.1
theorem dX11_seamsOf_101 : decode cX11_seamsOf 101 = .ok (.iload_n 3, 1) := dq_891.2.2.2.2.1
theorem dX11_seamsOf_102 : decode cX11_seamsOf 102 = .ok (.ireturn, 1) := dq_891.2.2.2.2.2
theorem dq_892 : decode cX11_together 0 = .ok (.iload_n 1, 1) ∧ decode cX11_together 1 = .ok (.i2l, 1) ∧ decode cX11_together 2 = .ok (.lconst 0, 1) ∧ decode cX11_together 3 = .ok (.ldc2_w 197, 3) ∧ decode cX11_together 6 = .ok (.invokestatic 96, 3) ∧ decode cX11_together 9 = .ok (.ifCond .ne 5, 3) ∧ decode cX11_together 12 = .ok (.iconst (-1), 1) ∧ decode cX11_together 13 = .ok (.ireturn, 1) ∧ decode cX11_together 14 = .ok (.iconst 0, 1) ∧ decode cX11_together 15 = .ok (.istore_n 2, 1) ∧ decode cX11_together 16 = .ok (.iconst (-1), 1) ∧ decode cX11_together 17 = .ok (.istore_n 3, 1) := by decide +kernel
theorem dX11_together_0 : decode cX11_together 0 = .ok (.iload_n 1, 1) := dq_892.1
theorem dX11_together_1 : decode cX11_together 1 = .ok (.i2l, 1) := dq_892.2.1
theorem dX11_together_2 : decode cX11_together 2 = .ok (.lconst 0, 1) := dq_892.2.2.1
theorem dX11_together_3 : decode cX11_together 3 = .ok (.ldc2_w 197, 3) := dq_892.2.2.2.1
theorem dX11_together_6 : decode cX11_together 6 = .ok (.invokestatic 96, 3) := dq_892.2.2.2.2.1
theorem dX11_together_9 : decode cX11_together 9 = .ok (.ifCond .ne 5, 3) := dq_892.2.2.2.2.2.1
theorem dX11_together_12 : decode cX11_together 12 = .ok (.iconst (-1), 1) := dq_892.2.2.2.2.2.2.1
theorem dX11_together_13 : decode cX11_together 13 = .ok (.ireturn, 1) := dq_892.2.2.2.2.2.2.2.1
theorem dX11_together_14 : decode cX11_together 14 = .ok (.iconst 0, 1) := dq_892.2.2.2.2.2.2.2.2.1
theorem dX11_together_15 : decode cX11_together 15 = .ok (.istore_n 2, 1) := dq_892.2.2.2.2.2.2.2.2.2.1
theorem dX11_together_16 : decode cX11_together 16 = .ok (.iconst (-1), 1) := dq_892.2.2.2.2.2.2.2.2.2.2.1
theorem dX11_together_17 : decode cX11_together 17 = .ok (.istore_n 3, 1) := dq_892.2.2.2.2.2.2.2.2.2.2.2
theorem dq_893 : decode cX11_together 18 = .ok (.iconst 0, 1) ∧ decode cX11_together 19 = .ok (.istore 4, 2) ∧ decode cX11_together 21 = .ok (.iconst 0, 1) ∧ decode cX11_together 22 = .ok (.istore 5, 2) ∧ decode cX11_together 24 = .ok (.iload 5, 2) ∧ decode cX11_together 26 = .ok (.sipush 256, 3) ∧ decode cX11_together 29 = .ok (.if_icmp .ge 104, 3) ∧ decode cX11_together 32 = .ok (.iconst 0, 1) ∧ decode cX11_together 33 = .ok (.istore 6, 2) ∧ decode cX11_together 35 = .ok (.iload 6, 2) ∧ decode cX11_together 37 = .ok (.sipush 256, 3) ∧ decode cX11_together 40 = .ok (.if_icmp .ge 87, 3) := by decide +kernel
theorem dX11_together_18 : decode cX11_together 18 = .ok (.iconst 0, 1) := dq_893.1
theorem dX11_together_19 : decode cX11_together 19 = .ok (.istore 4, 2) := dq_893.2.1
theorem dX11_together_21 : decode cX11_together 21 = .ok (.iconst 0, 1) := dq_893.2.2.1
theorem dX11_together_22 : decode cX11_together 22 = .ok (.istore 5, 2) := dq_893.2.2.2.1
theorem dX11_together_24 : decode cX11_together 24 = .ok (.iload 5, 2) := dq_893.2.2.2.2.1
theorem dX11_together_26 : decode cX11_together 26 = .ok (.sipush 256, 3) := dq_893.2.2.2.2.2.1
theorem dX11_together_29 : decode cX11_together 29 = .ok (.if_icmp .ge 104, 3) := dq_893.2.2.2.2.2.2.1
theorem dX11_together_32 : decode cX11_together 32 = .ok (.iconst 0, 1) := dq_893.2.2.2.2.2.2.2.1
theorem dX11_together_33 : decode cX11_together 33 = .ok (.istore 6, 2) := dq_893.2.2.2.2.2.2.2.2.1
theorem dX11_together_35 : decode cX11_together 35 = .ok (.iload 6, 2) := dq_893.2.2.2.2.2.2.2.2.2.1
theorem dX11_together_37 : decode cX11_together 37 = .ok (.sipush 256, 3) := dq_893.2.2.2.2.2.2.2.2.2.2.1
theorem dX11_together_40 : decode cX11_together 40 = .ok (.if_icmp .ge 87, 3) := dq_893.2.2.2.2.2.2.2.2.2.2.2
theorem dq_894 : decode cX11_together 43 = .ok (.iload 5, 2) ∧ decode cX11_together 45 = .ok (.invokestatic 326, 3) ∧ decode cX11_together 48 = .ok (.ifCond .eq 79, 3) ∧ decode cX11_together 51 = .ok (.aload_n 0, 1) ∧ decode cX11_together 52 = .ok (.iload 5, 2) ∧ decode cX11_together 54 = .ok (.iload 6, 2) ∧ decode cX11_together 56 = .ok (.invokevirtual 338, 3) ∧ decode cX11_together 59 = .ok (.istore 7, 2) ∧ decode cX11_together 61 = .ok (.iload 7, 2) ∧ decode cX11_together 63 = .ok (.iload_n 3, 1) ∧ decode cX11_together 64 = .ok (.if_icmp .le 15, 3) ∧ decode cX11_together 67 = .ok (.sipush 256, 3) := by decide +kernel
theorem dX11_together_43 : decode cX11_together 43 = .ok (.iload 5, 2) := dq_894.1
theorem dX11_together_45 : decode cX11_together 45 = .ok (.invokestatic 326, 3) := dq_894.2.1
theorem dX11_together_48 : decode cX11_together 48 = .ok (.ifCond .eq 79, 3) := dq_894.2.2.1
theorem dX11_together_51 : decode cX11_together 51 = .ok (.aload_n 0, 1) := dq_894.2.2.2.1
theorem dX11_together_52 : decode cX11_together 52 = .ok (.iload 5, 2) := dq_894.2.2.2.2.1
theorem dX11_together_54 : decode cX11_together 54 = .ok (.iload 6, 2) := dq_894.2.2.2.2.2.1
theorem dX11_together_56 : decode cX11_together 56 = .ok (.invokevirtual 338, 3) := dq_894.2.2.2.2.2.2.1
theorem dX11_together_59 : decode cX11_together 59 = .ok (.istore 7, 2) := dq_894.2.2.2.2.2.2.2.1
theorem dX11_together_61 : decode cX11_together 61 = .ok (.iload 7, 2) := dq_894.2.2.2.2.2.2.2.2.1
theorem dX11_together_63 : decode cX11_together 63 = .ok (.iload_n 3, 1) := dq_894.2.2.2.2.2.2.2.2.2.1
theorem dX11_together_64 : decode cX11_together 64 = .ok (.if_icmp .le 15, 3) := dq_894.2.2.2.2.2.2.2.2.2.2.1
theorem dX11_together_67 : decode cX11_together 67 = .ok (.sipush 256, 3) := dq_894.2.2.2.2.2.2.2.2.2.2.2
theorem dq_895 : decode cX11_together 70 = .ok (.iload 5, 2) ∧ decode cX11_together 72 = .ok (.imul, 1) ∧ decode cX11_together 73 = .ok (.iload 6, 2) ∧ decode cX11_together 75 = .ok (.iadd, 1) ∧ decode cX11_together 76 = .ok (.goto 4, 3) ∧ decode cX11_together 79 = .ok (.iload_n 2, 1) ∧ decode cX11_together 80 = .ok (.istore_n 2, 1) ∧ decode cX11_together 81 = .ok (.iload 7, 2) ∧ decode cX11_together 83 = .ok (.iload_n 3, 1) ∧ decode cX11_together 84 = .ok (.if_icmp .le 7, 3) ∧ decode cX11_together 87 = .ok (.iconst 1, 1) ∧ decode cX11_together 88 = .ok (.goto 18, 3) := by decide +kernel
theorem dX11_together_70 : decode cX11_together 70 = .ok (.iload 5, 2) := dq_895.1
theorem dX11_together_72 : decode cX11_together 72 = .ok (.imul, 1) := dq_895.2.1
theorem dX11_together_73 : decode cX11_together 73 = .ok (.iload 6, 2) := dq_895.2.2.1
theorem dX11_together_75 : decode cX11_together 75 = .ok (.iadd, 1) := dq_895.2.2.2.1
theorem dX11_together_76 : decode cX11_together 76 = .ok (.goto 4, 3) := dq_895.2.2.2.2.1
theorem dX11_together_79 : decode cX11_together 79 = .ok (.iload_n 2, 1) := dq_895.2.2.2.2.2.1
theorem dX11_together_80 : decode cX11_together 80 = .ok (.istore_n 2, 1) := dq_895.2.2.2.2.2.2.1
theorem dX11_together_81 : decode cX11_together 81 = .ok (.iload 7, 2) := dq_895.2.2.2.2.2.2.2.1
theorem dX11_together_83 : decode cX11_together 83 = .ok (.iload_n 3, 1) := dq_895.2.2.2.2.2.2.2.2.1
theorem dX11_together_84 : decode cX11_together 84 = .ok (.if_icmp .le 7, 3) := dq_895.2.2.2.2.2.2.2.2.2.1
theorem dX11_together_87 : decode cX11_together 87 = .ok (.iconst 1, 1) := dq_895.2.2.2.2.2.2.2.2.2.2.1
theorem dX11_together_88 : decode cX11_together 88 = .ok (.goto 18, 3) := dq_895.2.2.2.2.2.2.2.2.2.2.2
theorem dq_896 : decode cX11_together 91 = .ok (.iload 7, 2) ∧ decode cX11_together 93 = .ok (.iload_n 3, 1) ∧ decode cX11_together 94 = .ok (.if_icmp .ne 10, 3) ∧ decode cX11_together 97 = .ok (.iload 4, 2) ∧ decode cX11_together 99 = .ok (.iconst 1, 1) ∧ decode cX11_together 100 = .ok (.iadd, 1) ∧ decode cX11_together 101 = .ok (.goto 5, 3) ∧ decode cX11_together 104 = .ok (.iload 4, 2) ∧ decode cX11_together 106 = .ok (.istore 4, 2) ∧ decode cX11_together 108 = .ok (.iload 7, 2) ∧ decode cX11_together 110 = .ok (.iload_n 3, 1) ∧ decode cX11_together 111 = .ok (.if_icmp .le 8, 3) := by decide +kernel
theorem dX11_together_91 : decode cX11_together 91 = .ok (.iload 7, 2) := dq_896.1
theorem dX11_together_93 : decode cX11_together 93 = .ok (.iload_n 3, 1) := dq_896.2.1
theorem dX11_together_94 : decode cX11_together 94 = .ok (.if_icmp .ne 10, 3) := dq_896.2.2.1
theorem dX11_together_97 : decode cX11_together 97 = .ok (.iload 4, 2) := dq_896.2.2.2.1
theorem dX11_together_99 : decode cX11_together 99 = .ok (.iconst 1, 1) := dq_896.2.2.2.2.1
theorem dX11_together_100 : decode cX11_together 100 = .ok (.iadd, 1) := dq_896.2.2.2.2.2.1
theorem dX11_together_101 : decode cX11_together 101 = .ok (.goto 5, 3) := dq_896.2.2.2.2.2.2.1
theorem dX11_together_104 : decode cX11_together 104 = .ok (.iload 4, 2) := dq_896.2.2.2.2.2.2.2.1
theorem dX11_together_106 : decode cX11_together 106 = .ok (.istore 4, 2) := dq_896.2.2.2.2.2.2.2.2.1
theorem dX11_together_108 : decode cX11_together 108 = .ok (.iload 7, 2) := dq_896.2.2.2.2.2.2.2.2.2.1
theorem dX11_together_110 : decode cX11_together 110 = .ok (.iload_n 3, 1) := dq_896.2.2.2.2.2.2.2.2.2.2.1
theorem dX11_together_111 : decode cX11_together 111 = .ok (.if_icmp .le 8, 3) := dq_896.2.2.2.2.2.2.2.2.2.2.2
theorem dq_897 : decode cX11_together 114 = .ok (.iload 7, 2) ∧ decode cX11_together 116 = .ok (.goto 4, 3) ∧ decode cX11_together 119 = .ok (.iload_n 3, 1) ∧ decode cX11_together 120 = .ok (.istore_n 3, 1) ∧ decode cX11_together 121 = .ok (.iinc 6 1, 3) ∧ decode cX11_together 124 = .ok (.goto (-89), 3) ∧ decode cX11_together 127 = .ok (.iinc 5 1, 3) ∧ decode cX11_together 130 = .ok (.goto (-106), 3) ∧ decode cX11_together 133 = .ok (.iload_n 1, 1) ∧ decode cX11_together 134 = .ok (.ifCond .ne 7, 3) ∧ decode cX11_together 137 = .ok (.iload_n 3, 1) ∧ decode cX11_together 138 = .ok (.goto 31, 3) := by decide +kernel
theorem dX11_together_114 : decode cX11_together 114 = .ok (.iload 7, 2) := dq_897.1
theorem dX11_together_116 : decode cX11_together 116 = .ok (.goto 4, 3) := dq_897.2.1
theorem dX11_together_119 : decode cX11_together 119 = .ok (.iload_n 3, 1) := dq_897.2.2.1
theorem dX11_together_120 : decode cX11_together 120 = .ok (.istore_n 3, 1) := dq_897.2.2.2.1
theorem dX11_together_121 : decode cX11_together 121 = .ok (.iinc 6 1, 3) := dq_897.2.2.2.2.1
theorem dX11_together_124 : decode cX11_together 124 = .ok (.goto (-89), 3) := dq_897.2.2.2.2.2.1
theorem dX11_together_127 : decode cX11_together 127 = .ok (.iinc 5 1, 3) := dq_897.2.2.2.2.2.2.1
theorem dX11_together_130 : decode cX11_together 130 = .ok (.goto (-106), 3) := dq_897.2.2.2.2.2.2.2.1
theorem dX11_together_133 : decode cX11_together 133 = .ok (.iload_n 1, 1) := dq_897.2.2.2.2.2.2.2.2.1
theorem dX11_together_134 : decode cX11_together 134 = .ok (.ifCond .ne 7, 3) := dq_897.2.2.2.2.2.2.2.2.2.1
theorem dX11_together_137 : decode cX11_together 137 = .ok (.iload_n 3, 1) := dq_897.2.2.2.2.2.2.2.2.2.2.1
theorem dX11_together_138 : decode cX11_together 138 = .ok (.goto 31, 3) := dq_897.2.2.2.2.2.2.2.2.2.2.2
theorem dq_898 : decode cX11_together 141 = .ok (.iload_n 1, 1) ∧ decode cX11_together 142 = .ok (.iconst 1, 1) ∧ decode cX11_together 143 = .ok (.if_icmp .ne 11, 3) ∧ decode cX11_together 146 = .ok (.iload_n 2, 1) ∧ decode cX11_together 147 = .ok (.sipush 256, 3) ∧ decode cX11_together 150 = .ok (.idiv, 1) ∧ decode cX11_together 151 = .ok (.goto 18, 3) ∧ decode cX11_together 154 = .ok (.iload_n 1, 1) ∧ decode cX11_together 155 = .ok (.iconst 2, 1) ∧ decode cX11_together 156 = .ok (.if_icmp .ne 11, 3) ∧ decode cX11_together 159 = .ok (.iload_n 2, 1) ∧ decode cX11_together 160 = .ok (.sipush 256, 3) := by decide +kernel
theorem dX11_together_141 : decode cX11_together 141 = .ok (.iload_n 1, 1) := dq_898.1
theorem dX11_together_142 : decode cX11_together 142 = .ok (.iconst 1, 1) := dq_898.2.1
theorem dX11_together_143 : decode cX11_together 143 = .ok (.if_icmp .ne 11, 3) := dq_898.2.2.1
theorem dX11_together_146 : decode cX11_together 146 = .ok (.iload_n 2, 1) := dq_898.2.2.2.1
theorem dX11_together_147 : decode cX11_together 147 = .ok (.sipush 256, 3) := dq_898.2.2.2.2.1
theorem dX11_together_150 : decode cX11_together 150 = .ok (.idiv, 1) := dq_898.2.2.2.2.2.1
theorem dX11_together_151 : decode cX11_together 151 = .ok (.goto 18, 3) := dq_898.2.2.2.2.2.2.1
theorem dX11_together_154 : decode cX11_together 154 = .ok (.iload_n 1, 1) := dq_898.2.2.2.2.2.2.2.1
theorem dX11_together_155 : decode cX11_together 155 = .ok (.iconst 2, 1) := dq_898.2.2.2.2.2.2.2.2.1
theorem dX11_together_156 : decode cX11_together 156 = .ok (.if_icmp .ne 11, 3) := dq_898.2.2.2.2.2.2.2.2.2.1
theorem dX11_together_159 : decode cX11_together 159 = .ok (.iload_n 2, 1) := dq_898.2.2.2.2.2.2.2.2.2.2.1
theorem dX11_together_160 : decode cX11_together 160 = .ok (.sipush 256, 3) := dq_898.2.2.2.2.2.2.2.2.2.2.2
theorem dq_899 : decode cX11_together 163 = .ok (.irem, 1) ∧ decode cX11_together 164 = .ok (.goto 5, 3) ∧ decode cX11_together 167 = .ok (.iload 4, 2) ∧ decode cX11_together 169 = .ok (.ireturn, 1) := by decide +kernel
theorem dX11_together_163 : decode cX11_together 163 = .ok (.irem, 1) := dq_899.1
theorem dX11_together_164 : decode cX11_together 164 = .ok (.goto 5, 3) := dq_899.2.1
theorem dX11_together_167 : decode cX11_together 167 = .ok (.iload 4, 2) := dq_899.2.2.1
theorem dX11_together_169 : decode cX11_together 169 = .ok (.ireturn, 1) := dq_899.2.2.2
theorem dq_900 : decode cX11_sheet 0 = .ok (.iload_n 1, 1) ∧ decode cX11_sheet 1 = .ok (.i2l, 1) ∧ decode cX11_sheet 2 = .ok (.lconst 0, 1) ∧ decode cX11_sheet 3 = .ok (.ldc2_w 197, 3) ∧ decode cX11_sheet 6 = .ok (.invokestatic 96, 3) ∧ decode cX11_sheet 9 = .ok (.ifCond .eq 21, 3) ∧ decode cX11_sheet 12 = .ok (.iload_n 2, 1) ∧ decode cX11_sheet 13 = .ok (.i2l, 1) ∧ decode cX11_sheet 14 = .ok (.lconst 0, 1) ∧ decode cX11_sheet 15 = .ok (.ldc2_w 245, 3) ∧ decode cX11_sheet 18 = .ok (.invokestatic 96, 3) ∧ decode cX11_sheet 21 = .ok (.ifCond .eq 9, 3) := by decide +kernel
theorem dX11_sheet_0 : decode cX11_sheet 0 = .ok (.iload_n 1, 1) := dq_900.1
theorem dX11_sheet_1 : decode cX11_sheet 1 = .ok (.i2l, 1) := dq_900.2.1
theorem dX11_sheet_2 : decode cX11_sheet 2 = .ok (.lconst 0, 1) := dq_900.2.2.1
theorem dX11_sheet_3 : decode cX11_sheet 3 = .ok (.ldc2_w 197, 3) := dq_900.2.2.2.1
theorem dX11_sheet_6 : decode cX11_sheet 6 = .ok (.invokestatic 96, 3) := dq_900.2.2.2.2.1
theorem dX11_sheet_9 : decode cX11_sheet 9 = .ok (.ifCond .eq 21, 3) := dq_900.2.2.2.2.2.1
theorem dX11_sheet_12 : decode cX11_sheet 12 = .ok (.iload_n 2, 1) := dq_900.2.2.2.2.2.2.1
theorem dX11_sheet_13 : decode cX11_sheet 13 = .ok (.i2l, 1) := dq_900.2.2.2.2.2.2.2.1
theorem dX11_sheet_14 : decode cX11_sheet 14 = .ok (.lconst 0, 1) := dq_900.2.2.2.2.2.2.2.2.1
theorem dX11_sheet_15 : decode cX11_sheet 15 = .ok (.ldc2_w 245, 3) := dq_900.2.2.2.2.2.2.2.2.2.1
theorem dX11_sheet_18 : decode cX11_sheet 18 = .ok (.invokestatic 96, 3) := dq_900.2.2.2.2.2.2.2.2.2.2.1
theorem dX11_sheet_21 : decode cX11_sheet 21 = .ok (.ifCond .eq 9, 3) := dq_900.2.2.2.2.2.2.2.2.2.2.2
theorem dq_901 : decode cX11_sheet 24 = .ok (.iload_n 3, 1) ∧ decode cX11_sheet 25 = .ok (.bipush 64, 2) ∧ decode cX11_sheet 27 = .ok (.if_icmp .le 5, 3) ∧ decode cX11_sheet 30 = .ok (.iconst (-1), 1) ∧ decode cX11_sheet 31 = .ok (.ireturn, 1) ∧ decode cX11_sheet 32 = .ok (.iload_n 3, 1) ∧ decode cX11_sheet 33 = .ok (.ifCond .ge 6, 3) ∧ decode cX11_sheet 36 = .ok (.bipush (-14), 2) ∧ decode cX11_sheet 38 = .ok (.ireturn, 1) ∧ decode cX11_sheet 39 = .ok (.aload_n 0, 1) ∧ decode cX11_sheet 40 = .ok (.getfield 84, 3) ∧ decode cX11_sheet 43 = .ok (.iload_n 1, 1) := by decide +kernel
theorem dX11_sheet_24 : decode cX11_sheet 24 = .ok (.iload_n 3, 1) := dq_901.1
theorem dX11_sheet_25 : decode cX11_sheet 25 = .ok (.bipush 64, 2) := dq_901.2.1
theorem dX11_sheet_27 : decode cX11_sheet 27 = .ok (.if_icmp .le 5, 3) := dq_901.2.2.1
theorem dX11_sheet_30 : decode cX11_sheet 30 = .ok (.iconst (-1), 1) := dq_901.2.2.2.1
theorem dX11_sheet_31 : decode cX11_sheet 31 = .ok (.ireturn, 1) := dq_901.2.2.2.2.1
theorem dX11_sheet_32 : decode cX11_sheet 32 = .ok (.iload_n 3, 1) := dq_901.2.2.2.2.2.1
theorem dX11_sheet_33 : decode cX11_sheet 33 = .ok (.ifCond .ge 6, 3) := dq_901.2.2.2.2.2.2.1
theorem dX11_sheet_36 : decode cX11_sheet 36 = .ok (.bipush (-14), 2) := dq_901.2.2.2.2.2.2.2.1
theorem dX11_sheet_38 : decode cX11_sheet 38 = .ok (.ireturn, 1) := dq_901.2.2.2.2.2.2.2.2.1
theorem dX11_sheet_39 : decode cX11_sheet 39 = .ok (.aload_n 0, 1) := dq_901.2.2.2.2.2.2.2.2.2.1
theorem dX11_sheet_40 : decode cX11_sheet 40 = .ok (.getfield 84, 3) := dq_901.2.2.2.2.2.2.2.2.2.2.1
theorem dX11_sheet_43 : decode cX11_sheet 43 = .ok (.iload_n 1, 1) := dq_901.2.2.2.2.2.2.2.2.2.2.2
theorem dq_902 : decode cX11_sheet 44 = .ok (.iload_n 2, 1) ∧ decode cX11_sheet 45 = .ok (.iastore, 1) ∧ decode cX11_sheet 46 = .ok (.aload_n 0, 1) ∧ decode cX11_sheet 47 = .ok (.getfield 87, 3) ∧ decode cX11_sheet 50 = .ok (.iload_n 1, 1) ∧ decode cX11_sheet 51 = .ok (.iload_n 3, 1) ∧ decode cX11_sheet 52 = .ok (.iastore, 1) ∧ decode cX11_sheet 53 = .ok (.iconst 0, 1) ∧ decode cX11_sheet 54 = .ok (.istore 4, 2) ∧ decode cX11_sheet 56 = .ok (.iload 4, 2) ∧ decode cX11_sheet 58 = .ok (.bipush 64, 2) ∧ decode cX11_sheet 60 = .ok (.if_icmp .ge 22, 3) := by decide +kernel
theorem dX11_sheet_44 : decode cX11_sheet 44 = .ok (.iload_n 2, 1) := dq_902.1
theorem dX11_sheet_45 : decode cX11_sheet 45 = .ok (.iastore, 1) := dq_902.2.1
theorem dX11_sheet_46 : decode cX11_sheet 46 = .ok (.aload_n 0, 1) := dq_902.2.2.1
theorem dX11_sheet_47 : decode cX11_sheet 47 = .ok (.getfield 87, 3) := dq_902.2.2.2.1
theorem dX11_sheet_50 : decode cX11_sheet 50 = .ok (.iload_n 1, 1) := dq_902.2.2.2.2.1
theorem dX11_sheet_51 : decode cX11_sheet 51 = .ok (.iload_n 3, 1) := dq_902.2.2.2.2.2.1
theorem dX11_sheet_52 : decode cX11_sheet 52 = .ok (.iastore, 1) := dq_902.2.2.2.2.2.2.1
theorem dX11_sheet_53 : decode cX11_sheet 53 = .ok (.iconst 0, 1) := dq_902.2.2.2.2.2.2.2.1
theorem dX11_sheet_54 : decode cX11_sheet 54 = .ok (.istore 4, 2) := dq_902.2.2.2.2.2.2.2.2.1
theorem dX11_sheet_56 : decode cX11_sheet 56 = .ok (.iload 4, 2) := dq_902.2.2.2.2.2.2.2.2.2.1
theorem dX11_sheet_58 : decode cX11_sheet 58 = .ok (.bipush 64, 2) := dq_902.2.2.2.2.2.2.2.2.2.2.1
theorem dX11_sheet_60 : decode cX11_sheet 60 = .ok (.if_icmp .ge 22, 3) := dq_902.2.2.2.2.2.2.2.2.2.2.2
theorem dq_903 : decode cX11_sheet 63 = .ok (.aload_n 0, 1) ∧ decode cX11_sheet 64 = .ok (.getfield 90, 3) ∧ decode cX11_sheet 67 = .ok (.bipush 64, 2) ∧ decode cX11_sheet 69 = .ok (.iload_n 1, 1) ∧ decode cX11_sheet 70 = .ok (.imul, 1) ∧ decode cX11_sheet 71 = .ok (.iload 4, 2) ∧ decode cX11_sheet 73 = .ok (.iadd, 1) ∧ decode cX11_sheet 74 = .ok (.iconst 0, 1) ∧ decode cX11_sheet 75 = .ok (.iastore, 1) ∧ decode cX11_sheet 76 = .ok (.iinc 4 1, 3) ∧ decode cX11_sheet 79 = .ok (.goto (-23), 3) ∧ decode cX11_sheet 82 = .ok (.iconst 1, 1) := by decide +kernel
theorem dX11_sheet_63 : decode cX11_sheet 63 = .ok (.aload_n 0, 1) := dq_903.1
theorem dX11_sheet_64 : decode cX11_sheet 64 = .ok (.getfield 90, 3) := dq_903.2.1
theorem dX11_sheet_67 : decode cX11_sheet 67 = .ok (.bipush 64, 2) := dq_903.2.2.1
theorem dX11_sheet_69 : decode cX11_sheet 69 = .ok (.iload_n 1, 1) := dq_903.2.2.2.1
theorem dX11_sheet_70 : decode cX11_sheet 70 = .ok (.imul, 1) := dq_903.2.2.2.2.1
theorem dX11_sheet_71 : decode cX11_sheet 71 = .ok (.iload 4, 2) := dq_903.2.2.2.2.2.1
theorem dX11_sheet_73 : decode cX11_sheet 73 = .ok (.iadd, 1) := dq_903.2.2.2.2.2.2.1
theorem dX11_sheet_74 : decode cX11_sheet 74 = .ok (.iconst 0, 1) := dq_903.2.2.2.2.2.2.2.1
theorem dX11_sheet_75 : decode cX11_sheet 75 = .ok (.iastore, 1) := dq_903.2.2.2.2.2.2.2.2.1
theorem dX11_sheet_76 : decode cX11_sheet 76 = .ok (.iinc 4 1, 3) := dq_903.2.2.2.2.2.2.2.2.2.1
theorem dX11_sheet_79 : decode cX11_sheet 79 = .ok (.goto (-23), 3) := dq_903.2.2.2.2.2.2.2.2.2.2.1
theorem dX11_sheet_82 : decode cX11_sheet 82 = .ok (.iconst 1, 1) := dq_903.2.2.2.2.2.2.2.2.2.2.2
theorem dX11_sheet_83 : decode cX11_sheet 83 = .ok (.ireturn, 1) := by decide +kernel
theorem dq_905 : decode cX11_write 0 = .ok (.iload_n 1, 1) ∧ decode cX11_write 1 = .ok (.i2l, 1) ∧ decode cX11_write 2 = .ok (.lconst 0, 1) ∧ decode cX11_write 3 = .ok (.ldc2_w 197, 3) ∧ decode cX11_write 6 = .ok (.invokestatic 96, 3) ∧ decode cX11_write 9 = .ok (.ifCond .ne 5, 3) ∧ decode cX11_write 12 = .ok (.iconst (-1), 1) ∧ decode cX11_write 13 = .ok (.ireturn, 1) ∧ decode cX11_write 14 = .ok (.aload_n 0, 1) ∧ decode cX11_write 15 = .ok (.getfield 84, 3) ∧ decode cX11_write 18 = .ok (.iload_n 1, 1) ∧ decode cX11_write 19 = .ok (.iaload, 1) := by decide +kernel
theorem dX11_write_0 : decode cX11_write 0 = .ok (.iload_n 1, 1) := dq_905.1
theorem dX11_write_1 : decode cX11_write 1 = .ok (.i2l, 1) := dq_905.2.1
theorem dX11_write_2 : decode cX11_write 2 = .ok (.lconst 0, 1) := dq_905.2.2.1
theorem dX11_write_3 : decode cX11_write 3 = .ok (.ldc2_w 197, 3) := dq_905.2.2.2.1
theorem dX11_write_6 : decode cX11_write 6 = .ok (.invokestatic 96, 3) := dq_905.2.2.2.2.1
theorem dX11_write_9 : decode cX11_write 9 = .ok (.ifCond .ne 5, 3) := dq_905.2.2.2.2.2.1
theorem dX11_write_12 : decode cX11_write 12 = .ok (.iconst (-1), 1) := dq_905.2.2.2.2.2.2.1
theorem dX11_write_13 : decode cX11_write 13 = .ok (.ireturn, 1) := dq_905.2.2.2.2.2.2.2.1
theorem dX11_write_14 : decode cX11_write 14 = .ok (.aload_n 0, 1) := dq_905.2.2.2.2.2.2.2.2.1
theorem dX11_write_15 : decode cX11_write 15 = .ok (.getfield 84, 3) := dq_905.2.2.2.2.2.2.2.2.2.1
theorem dX11_write_18 : decode cX11_write 18 = .ok (.iload_n 1, 1) := dq_905.2.2.2.2.2.2.2.2.2.2.1
theorem dX11_write_19 : decode cX11_write 19 = .ok (.iaload, 1) := dq_905.2.2.2.2.2.2.2.2.2.2.2
theorem dq_906 : decode cX11_write 20 = .ok (.bipush (-4), 2) ∧ decode cX11_write 22 = .ok (.if_icmp .ne 6, 3) ∧ decode cX11_write 25 = .ok (.bipush (-11), 2) ∧ decode cX11_write 27 = .ok (.ireturn, 1) ∧ decode cX11_write 28 = .ok (.iload_n 2, 1) ∧ decode cX11_write 29 = .ok (.i2l, 1) ∧ decode cX11_write 30 = .ok (.lconst 0, 1) ∧ decode cX11_write 31 = .ok (.aload_n 0, 1) ∧ decode cX11_write 32 = .ok (.getfield 87, 3) ∧ decode cX11_write 35 = .ok (.iload_n 1, 1) ∧ decode cX11_write 36 = .ok (.iaload, 1) ∧ decode cX11_write 37 = .ok (.iconst 1, 1) := by decide +kernel
theorem dX11_write_20 : decode cX11_write 20 = .ok (.bipush (-4), 2) := dq_906.1
theorem dX11_write_22 : decode cX11_write 22 = .ok (.if_icmp .ne 6, 3) := dq_906.2.1
theorem dX11_write_25 : decode cX11_write 25 = .ok (.bipush (-11), 2) := dq_906.2.2.1
theorem dX11_write_27 : decode cX11_write 27 = .ok (.ireturn, 1) := dq_906.2.2.2.1
theorem dX11_write_28 : decode cX11_write 28 = .ok (.iload_n 2, 1) := dq_906.2.2.2.2.1
theorem dX11_write_29 : decode cX11_write 29 = .ok (.i2l, 1) := dq_906.2.2.2.2.2.1
theorem dX11_write_30 : decode cX11_write 30 = .ok (.lconst 0, 1) := dq_906.2.2.2.2.2.2.1
theorem dX11_write_31 : decode cX11_write 31 = .ok (.aload_n 0, 1) := dq_906.2.2.2.2.2.2.2.1
theorem dX11_write_32 : decode cX11_write 32 = .ok (.getfield 87, 3) := dq_906.2.2.2.2.2.2.2.2.1
theorem dX11_write_35 : decode cX11_write 35 = .ok (.iload_n 1, 1) := dq_906.2.2.2.2.2.2.2.2.2.1
theorem dX11_write_36 : decode cX11_write 36 = .ok (.iaload, 1) := dq_906.2.2.2.2.2.2.2.2.2.2.1
theorem dX11_write_37 : decode cX11_write 37 = .ok (.iconst 1, 1) := dq_906.2.2.2.2.2.2.2.2.2.2.2
theorem dq_907 : decode cX11_write 38 = .ok (.isub, 1) ∧ decode cX11_write 39 = .ok (.i2l, 1) ∧ decode cX11_write 40 = .ok (.invokestatic 96, 3) ∧ decode cX11_write 43 = .ok (.ifCond .ne 6, 3) ∧ decode cX11_write 46 = .ok (.bipush (-12), 2) ∧ decode cX11_write 48 = .ok (.ireturn, 1) ∧ decode cX11_write 49 = .ok (.aload_n 0, 1) ∧ decode cX11_write 50 = .ok (.getfield 90, 3) ∧ decode cX11_write 53 = .ok (.bipush 64, 2) ∧ decode cX11_write 55 = .ok (.iload_n 1, 1) ∧ decode cX11_write 56 = .ok (.imul, 1) ∧ decode cX11_write 57 = .ok (.iload_n 2, 1) := by decide +kernel
theorem dX11_write_38 : decode cX11_write 38 = .ok (.isub, 1) := dq_907.1
theorem dX11_write_39 : decode cX11_write 39 = .ok (.i2l, 1) := dq_907.2.1
theorem dX11_write_40 : decode cX11_write 40 = .ok (.invokestatic 96, 3) := dq_907.2.2.1
theorem dX11_write_43 : decode cX11_write 43 = .ok (.ifCond .ne 6, 3) := dq_907.2.2.2.1
theorem dX11_write_46 : decode cX11_write 46 = .ok (.bipush (-12), 2) := dq_907.2.2.2.2.1
theorem dX11_write_48 : decode cX11_write 48 = .ok (.ireturn, 1) := dq_907.2.2.2.2.2.1
theorem dX11_write_49 : decode cX11_write 49 = .ok (.aload_n 0, 1) := dq_907.2.2.2.2.2.2.1
theorem dX11_write_50 : decode cX11_write 50 = .ok (.getfield 90, 3) := dq_907.2.2.2.2.2.2.2.1
theorem dX11_write_53 : decode cX11_write 53 = .ok (.bipush 64, 2) := dq_907.2.2.2.2.2.2.2.2.1
theorem dX11_write_55 : decode cX11_write 55 = .ok (.iload_n 1, 1) := dq_907.2.2.2.2.2.2.2.2.2.1
theorem dX11_write_56 : decode cX11_write 56 = .ok (.imul, 1) := dq_907.2.2.2.2.2.2.2.2.2.2.1
theorem dX11_write_57 : decode cX11_write 57 = .ok (.iload_n 2, 1) := dq_907.2.2.2.2.2.2.2.2.2.2.2
theorem dq_908 : decode cX11_write 58 = .ok (.iadd, 1) ∧ decode cX11_write 59 = .ok (.aload_n 0, 1) ∧ decode cX11_write 60 = .ok (.getfield 84, 3) ∧ decode cX11_write 63 = .ok (.iload_n 1, 1) ∧ decode cX11_write 64 = .ok (.iaload, 1) ∧ decode cX11_write 65 = .ok (.ifCond .ne 13, 3) ∧ decode cX11_write 68 = .ok (.iload_n 3, 1) ∧ decode cX11_write 69 = .ok (.bipush 24, 2) ∧ decode cX11_write 71 = .ok (.ishl, 1) ∧ decode cX11_write 72 = .ok (.bipush 24, 2) ∧ decode cX11_write 74 = .ok (.ishr, 1) ∧ decode cX11_write 75 = .ok (.goto 24, 3) := by decide +kernel
theorem dX11_write_58 : decode cX11_write 58 = .ok (.iadd, 1) := dq_908.1
theorem dX11_write_59 : decode cX11_write 59 = .ok (.aload_n 0, 1) := dq_908.2.1
theorem dX11_write_60 : decode cX11_write 60 = .ok (.getfield 84, 3) := dq_908.2.2.1
theorem dX11_write_63 : decode cX11_write 63 = .ok (.iload_n 1, 1) := dq_908.2.2.2.1
theorem dX11_write_64 : decode cX11_write 64 = .ok (.iaload, 1) := dq_908.2.2.2.2.1
theorem dX11_write_65 : decode cX11_write 65 = .ok (.ifCond .ne 13, 3) := dq_908.2.2.2.2.2.1
theorem dX11_write_68 : decode cX11_write 68 = .ok (.iload_n 3, 1) := dq_908.2.2.2.2.2.2.1
theorem dX11_write_69 : decode cX11_write 69 = .ok (.bipush 24, 2) := dq_908.2.2.2.2.2.2.2.1
theorem dX11_write_71 : decode cX11_write 71 = .ok (.ishl, 1) := dq_908.2.2.2.2.2.2.2.2.1
theorem dX11_write_72 : decode cX11_write 72 = .ok (.bipush 24, 2) := dq_908.2.2.2.2.2.2.2.2.2.1
theorem dX11_write_74 : decode cX11_write 74 = .ok (.ishr, 1) := dq_908.2.2.2.2.2.2.2.2.2.2.1
theorem dX11_write_75 : decode cX11_write 75 = .ok (.goto 24, 3) := dq_908.2.2.2.2.2.2.2.2.2.2.2
theorem dq_909 : decode cX11_write 78 = .ok (.aload_n 0, 1) ∧ decode cX11_write 79 = .ok (.getfield 84, 3) ∧ decode cX11_write 82 = .ok (.iload_n 1, 1) ∧ decode cX11_write 83 = .ok (.iaload, 1) ∧ decode cX11_write 84 = .ok (.iconst 1, 1) ∧ decode cX11_write 85 = .ok (.if_icmp .ne 13, 3) ∧ decode cX11_write 88 = .ok (.iload_n 3, 1) ∧ decode cX11_write 89 = .ok (.bipush 16, 2) ∧ decode cX11_write 91 = .ok (.ishl, 1) ∧ decode cX11_write 92 = .ok (.bipush 16, 2) ∧ decode cX11_write 94 = .ok (.ishr, 1) ∧ decode cX11_write 95 = .ok (.goto 4, 3) := by decide +kernel
theorem dX11_write_78 : decode cX11_write 78 = .ok (.aload_n 0, 1) := dq_909.1
theorem dX11_write_79 : decode cX11_write 79 = .ok (.getfield 84, 3) := dq_909.2.1
theorem dX11_write_82 : decode cX11_write 82 = .ok (.iload_n 1, 1) := dq_909.2.2.1
theorem dX11_write_83 : decode cX11_write 83 = .ok (.iaload, 1) := dq_909.2.2.2.1
theorem dX11_write_84 : decode cX11_write 84 = .ok (.iconst 1, 1) := dq_909.2.2.2.2.1
theorem dX11_write_85 : decode cX11_write 85 = .ok (.if_icmp .ne 13, 3) := dq_909.2.2.2.2.2.1
theorem dX11_write_88 : decode cX11_write 88 = .ok (.iload_n 3, 1) := dq_909.2.2.2.2.2.2.1
theorem dX11_write_89 : decode cX11_write 89 = .ok (.bipush 16, 2) := dq_909.2.2.2.2.2.2.2.1
theorem dX11_write_91 : decode cX11_write 91 = .ok (.ishl, 1) := dq_909.2.2.2.2.2.2.2.2.1
theorem dX11_write_92 : decode cX11_write 92 = .ok (.bipush 16, 2) := dq_909.2.2.2.2.2.2.2.2.2.1
theorem dX11_write_94 : decode cX11_write 94 = .ok (.ishr, 1) := dq_909.2.2.2.2.2.2.2.2.2.2.1
theorem dX11_write_95 : decode cX11_write 95 = .ok (.goto 4, 3) := dq_909.2.2.2.2.2.2.2.2.2.2.2
theorem dq_910 : decode cX11_write 98 = .ok (.iload_n 3, 1) ∧ decode cX11_write 99 = .ok (.iastore, 1) ∧ decode cX11_write 100 = .ok (.iconst 1, 1) ∧ decode cX11_write 101 = .ok (.ireturn, 1) := by decide +kernel
theorem dX11_write_98 : decode cX11_write 98 = .ok (.iload_n 3, 1) := dq_910.1
theorem dX11_write_99 : decode cX11_write 99 = .ok (.iastore, 1) := dq_910.2.1
theorem dX11_write_100 : decode cX11_write 100 = .ok (.iconst 1, 1) := dq_910.2.2.1
theorem dX11_write_101 : decode cX11_write 101 = .ok (.ireturn, 1) := dq_910.2.2.2
theorem dq_911 : decode cX11_read 0 = .ok (.iload_n 1, 1) ∧ decode cX11_read 1 = .ok (.i2l, 1) ∧ decode cX11_read 2 = .ok (.lconst 0, 1) ∧ decode cX11_read 3 = .ok (.ldc2_w 197, 3) ∧ decode cX11_read 6 = .ok (.invokestatic 96, 3) ∧ decode cX11_read 9 = .ok (.ifCond .eq 39, 3) ∧ decode cX11_read 12 = .ok (.iload_n 2, 1) ∧ decode cX11_read 13 = .ok (.i2l, 1) ∧ decode cX11_read 14 = .ok (.lconst 0, 1) ∧ decode cX11_read 15 = .ok (.ldc2_w 245, 3) ∧ decode cX11_read 18 = .ok (.invokestatic 96, 3) ∧ decode cX11_read 21 = .ok (.ifCond .eq 27, 3) := by decide +kernel
theorem dX11_read_0 : decode cX11_read 0 = .ok (.iload_n 1, 1) := dq_911.1
theorem dX11_read_1 : decode cX11_read 1 = .ok (.i2l, 1) := dq_911.2.1
theorem dX11_read_2 : decode cX11_read 2 = .ok (.lconst 0, 1) := dq_911.2.2.1
theorem dX11_read_3 : decode cX11_read 3 = .ok (.ldc2_w 197, 3) := dq_911.2.2.2.1
theorem dX11_read_6 : decode cX11_read 6 = .ok (.invokestatic 96, 3) := dq_911.2.2.2.2.1
theorem dX11_read_9 : decode cX11_read 9 = .ok (.ifCond .eq 39, 3) := dq_911.2.2.2.2.2.1
theorem dX11_read_12 : decode cX11_read 12 = .ok (.iload_n 2, 1) := dq_911.2.2.2.2.2.2.1
theorem dX11_read_13 : decode cX11_read 13 = .ok (.i2l, 1) := dq_911.2.2.2.2.2.2.2.1
theorem dX11_read_14 : decode cX11_read 14 = .ok (.lconst 0, 1) := dq_911.2.2.2.2.2.2.2.2.1
theorem dX11_read_15 : decode cX11_read 15 = .ok (.ldc2_w 245, 3) := dq_911.2.2.2.2.2.2.2.2.2.1
theorem dX11_read_18 : decode cX11_read 18 = .ok (.invokestatic 96, 3) := dq_911.2.2.2.2.2.2.2.2.2.2.1
theorem dX11_read_21 : decode cX11_read 21 = .ok (.ifCond .eq 27, 3) := dq_911.2.2.2.2.2.2.2.2.2.2.2
theorem dq_912 : decode cX11_read 24 = .ok (.iload 5, 2) ∧ decode cX11_read 26 = .ok (.ifCond .lt 22, 3) ∧ decode cX11_read 29 = .ok (.iload 4, 2) ∧ decode cX11_read 31 = .ok (.ifCond .lt 17, 3) ∧ decode cX11_read 34 = .ok (.iload 4, 2) ∧ decode cX11_read 36 = .ok (.i2l, 1) ∧ decode cX11_read 37 = .ok (.iload 5, 2) ∧ decode cX11_read 39 = .ok (.i2l, 1) ∧ decode cX11_read 40 = .ok (.ladd, 1) ∧ decode cX11_read 41 = .ok (.ldc2_w 298, 3) ∧ decode cX11_read 44 = .ok (.lcmp, 1) ∧ decode cX11_read 45 = .ok (.ifCond .le 5, 3) := by decide +kernel
theorem dX11_read_24 : decode cX11_read 24 = .ok (.iload 5, 2) := dq_912.1
theorem dX11_read_26 : decode cX11_read 26 = .ok (.ifCond .lt 22, 3) := dq_912.2.1
theorem dX11_read_29 : decode cX11_read 29 = .ok (.iload 4, 2) := dq_912.2.2.1
theorem dX11_read_31 : decode cX11_read 31 = .ok (.ifCond .lt 17, 3) := dq_912.2.2.2.1
theorem dX11_read_34 : decode cX11_read 34 = .ok (.iload 4, 2) := dq_912.2.2.2.2.1
theorem dX11_read_36 : decode cX11_read 36 = .ok (.i2l, 1) := dq_912.2.2.2.2.2.1
theorem dX11_read_37 : decode cX11_read 37 = .ok (.iload 5, 2) := dq_912.2.2.2.2.2.2.1
theorem dX11_read_39 : decode cX11_read 39 = .ok (.i2l, 1) := dq_912.2.2.2.2.2.2.2.1
theorem dX11_read_40 : decode cX11_read 40 = .ok (.ladd, 1) := dq_912.2.2.2.2.2.2.2.2.1
theorem dX11_read_41 : decode cX11_read 41 = .ok (.ldc2_w 298, 3) := dq_912.2.2.2.2.2.2.2.2.2.1
theorem dX11_read_44 : decode cX11_read 44 = .ok (.lcmp, 1) := dq_912.2.2.2.2.2.2.2.2.2.2.1
theorem dX11_read_45 : decode cX11_read 45 = .ok (.ifCond .le 5, 3) := dq_912.2.2.2.2.2.2.2.2.2.2.2
theorem dq_913 : decode cX11_read 48 = .ok (.iconst (-1), 1) ∧ decode cX11_read 49 = .ok (.ireturn, 1) ∧ decode cX11_read 50 = .ok (.iconst 0, 1) ∧ decode cX11_read 51 = .ok (.istore 6, 2) ∧ decode cX11_read 53 = .ok (.iconst 0, 1) ∧ decode cX11_read 54 = .ok (.istore 7, 2) ∧ decode cX11_read 56 = .ok (.iconst 0, 1) ∧ decode cX11_read 57 = .ok (.istore 8, 2) ∧ decode cX11_read 59 = .ok (.iload 8, 2) ∧ decode cX11_read 61 = .ok (.iload 5, 2) ∧ decode cX11_read 63 = .ok (.if_icmp .ge 125, 3) ∧ decode cX11_read 66 = .ok (.iload 6, 2) := by decide +kernel
theorem dX11_read_48 : decode cX11_read 48 = .ok (.iconst (-1), 1) := dq_913.1
theorem dX11_read_49 : decode cX11_read 49 = .ok (.ireturn, 1) := dq_913.2.1
theorem dX11_read_50 : decode cX11_read 50 = .ok (.iconst 0, 1) := dq_913.2.2.1
theorem dX11_read_51 : decode cX11_read 51 = .ok (.istore 6, 2) := dq_913.2.2.2.1
theorem dX11_read_53 : decode cX11_read 53 = .ok (.iconst 0, 1) := dq_913.2.2.2.2.1
theorem dX11_read_54 : decode cX11_read 54 = .ok (.istore 7, 2) := dq_913.2.2.2.2.2.1
theorem dX11_read_56 : decode cX11_read 56 = .ok (.iconst 0, 1) := dq_913.2.2.2.2.2.2.1
theorem dX11_read_57 : decode cX11_read 57 = .ok (.istore 8, 2) := dq_913.2.2.2.2.2.2.2.1
theorem dX11_read_59 : decode cX11_read 59 = .ok (.iload 8, 2) := dq_913.2.2.2.2.2.2.2.2.1
theorem dX11_read_61 : decode cX11_read 61 = .ok (.iload 5, 2) := dq_913.2.2.2.2.2.2.2.2.2.1
theorem dX11_read_63 : decode cX11_read 63 = .ok (.if_icmp .ge 125, 3) := dq_913.2.2.2.2.2.2.2.2.2.2.1
theorem dX11_read_66 : decode cX11_read 66 = .ok (.iload 6, 2) := dq_913.2.2.2.2.2.2.2.2.2.2.2
theorem dq_914 : decode cX11_read 68 = .ok (.ifCond .ne 120, 3) ∧ decode cX11_read 71 = .ok (.aload_n 0, 1) ∧ decode cX11_read 72 = .ok (.getfield 84, 3) ∧ decode cX11_read 75 = .ok (.iload_n 1, 1) ∧ decode cX11_read 76 = .ok (.iaload, 1) ∧ decode cX11_read 77 = .ok (.bipush (-4), 2) ∧ decode cX11_read 79 = .ok (.if_icmp .ne 7, 3) ∧ decode cX11_read 82 = .ok (.iconst 1, 1) ∧ decode cX11_read 83 = .ok (.goto 44, 3) ∧ decode cX11_read 86 = .ok (.aload_n 0, 1) ∧ decode cX11_read 87 = .ok (.getfield 84, 3) ∧ decode cX11_read 90 = .ok (.iload_n 1, 1) := by decide +kernel
theorem dX11_read_68 : decode cX11_read 68 = .ok (.ifCond .ne 120, 3) := dq_914.1
theorem dX11_read_71 : decode cX11_read 71 = .ok (.aload_n 0, 1) := dq_914.2.1
theorem dX11_read_72 : decode cX11_read 72 = .ok (.getfield 84, 3) := dq_914.2.2.1
theorem dX11_read_75 : decode cX11_read 75 = .ok (.iload_n 1, 1) := dq_914.2.2.2.1
theorem dX11_read_76 : decode cX11_read 76 = .ok (.iaload, 1) := dq_914.2.2.2.2.1
theorem dX11_read_77 : decode cX11_read 77 = .ok (.bipush (-4), 2) := dq_914.2.2.2.2.2.1
theorem dX11_read_79 : decode cX11_read 79 = .ok (.if_icmp .ne 7, 3) := dq_914.2.2.2.2.2.2.1
theorem dX11_read_82 : decode cX11_read 82 = .ok (.iconst 1, 1) := dq_914.2.2.2.2.2.2.2.1
theorem dX11_read_83 : decode cX11_read 83 = .ok (.goto 44, 3) := dq_914.2.2.2.2.2.2.2.2.1
theorem dX11_read_86 : decode cX11_read 86 = .ok (.aload_n 0, 1) := dq_914.2.2.2.2.2.2.2.2.2.1
theorem dX11_read_87 : decode cX11_read 87 = .ok (.getfield 84, 3) := dq_914.2.2.2.2.2.2.2.2.2.2.1
theorem dX11_read_90 : decode cX11_read 90 = .ok (.iload_n 1, 1) := dq_914.2.2.2.2.2.2.2.2.2.2.2
theorem dq_915 : decode cX11_read 91 = .ok (.iaload, 1) ∧ decode cX11_read 92 = .ok (.iload_n 2, 1) ∧ decode cX11_read 93 = .ok (.if_icmp .eq 7, 3) ∧ decode cX11_read 96 = .ok (.iconst 3, 1) ∧ decode cX11_read 97 = .ok (.goto 30, 3) ∧ decode cX11_read 100 = .ok (.iload_n 3, 1) ∧ decode cX11_read 101 = .ok (.i2l, 1) ∧ decode cX11_read 102 = .ok (.iload 8, 2) ∧ decode cX11_read 104 = .ok (.i2l, 1) ∧ decode cX11_read 105 = .ok (.ladd, 1) ∧ decode cX11_read 106 = .ok (.lconst 0, 1) ∧ decode cX11_read 107 = .ok (.aload_n 0, 1) := by decide +kernel
theorem dX11_read_91 : decode cX11_read 91 = .ok (.iaload, 1) := dq_915.1
theorem dX11_read_92 : decode cX11_read 92 = .ok (.iload_n 2, 1) := dq_915.2.1
theorem dX11_read_93 : decode cX11_read 93 = .ok (.if_icmp .eq 7, 3) := dq_915.2.2.1
theorem dX11_read_96 : decode cX11_read 96 = .ok (.iconst 3, 1) := dq_915.2.2.2.1
theorem dX11_read_97 : decode cX11_read 97 = .ok (.goto 30, 3) := dq_915.2.2.2.2.1
theorem dX11_read_100 : decode cX11_read 100 = .ok (.iload_n 3, 1) := dq_915.2.2.2.2.2.1
theorem dX11_read_101 : decode cX11_read 101 = .ok (.i2l, 1) := dq_915.2.2.2.2.2.2.1
theorem dX11_read_102 : decode cX11_read 102 = .ok (.iload 8, 2) := dq_915.2.2.2.2.2.2.2.1
theorem dX11_read_104 : decode cX11_read 104 = .ok (.i2l, 1) := dq_915.2.2.2.2.2.2.2.2.1
theorem dX11_read_105 : decode cX11_read 105 = .ok (.ladd, 1) := dq_915.2.2.2.2.2.2.2.2.2.1
theorem dX11_read_106 : decode cX11_read 106 = .ok (.lconst 0, 1) := dq_915.2.2.2.2.2.2.2.2.2.2.1
theorem dX11_read_107 : decode cX11_read 107 = .ok (.aload_n 0, 1) := dq_915.2.2.2.2.2.2.2.2.2.2.2
theorem dq_916 : decode cX11_read 108 = .ok (.getfield 87, 3) ∧ decode cX11_read 111 = .ok (.iload_n 1, 1) ∧ decode cX11_read 112 = .ok (.iaload, 1) ∧ decode cX11_read 113 = .ok (.iconst 1, 1) ∧ decode cX11_read 114 = .ok (.isub, 1) ∧ decode cX11_read 115 = .ok (.i2l, 1) ∧ decode cX11_read 116 = .ok (.invokestatic 96, 3) ∧ decode cX11_read 119 = .ok (.ifCond .ne 7, 3) ∧ decode cX11_read 122 = .ok (.iconst 2, 1) ∧ decode cX11_read 123 = .ok (.goto 4, 3) ∧ decode cX11_read 126 = .ok (.iconst 0, 1) ∧ decode cX11_read 127 = .ok (.istore 6, 2) := by decide +kernel
theorem dX11_read_108 : decode cX11_read 108 = .ok (.getfield 87, 3) := dq_916.1
theorem dX11_read_111 : decode cX11_read 111 = .ok (.iload_n 1, 1) := dq_916.2.1
theorem dX11_read_112 : decode cX11_read 112 = .ok (.iaload, 1) := dq_916.2.2.1
theorem dX11_read_113 : decode cX11_read 113 = .ok (.iconst 1, 1) := dq_916.2.2.2.1
theorem dX11_read_114 : decode cX11_read 114 = .ok (.isub, 1) := dq_916.2.2.2.2.1
theorem dX11_read_115 : decode cX11_read 115 = .ok (.i2l, 1) := dq_916.2.2.2.2.2.1
theorem dX11_read_116 : decode cX11_read 116 = .ok (.invokestatic 96, 3) := dq_916.2.2.2.2.2.2.1
theorem dX11_read_119 : decode cX11_read 119 = .ok (.ifCond .ne 7, 3) := dq_916.2.2.2.2.2.2.2.1
theorem dX11_read_122 : decode cX11_read 122 = .ok (.iconst 2, 1) := dq_916.2.2.2.2.2.2.2.2.1
theorem dX11_read_123 : decode cX11_read 123 = .ok (.goto 4, 3) := dq_916.2.2.2.2.2.2.2.2.2.1
theorem dX11_read_126 : decode cX11_read 126 = .ok (.iconst 0, 1) := dq_916.2.2.2.2.2.2.2.2.2.2.1
theorem dX11_read_127 : decode cX11_read 127 = .ok (.istore 6, 2) := dq_916.2.2.2.2.2.2.2.2.2.2.2
theorem dq_917 : decode cX11_read 129 = .ok (.iload 6, 2) ∧ decode cX11_read 131 = .ok (.ifCond .ne 36, 3) ∧ decode cX11_read 134 = .ok (.aload_n 0, 1) ∧ decode cX11_read 135 = .ok (.getfield 90, 3) ∧ decode cX11_read 138 = .ok (.bipush 64, 2) ∧ decode cX11_read 140 = .ok (.iload_n 1, 1) ∧ decode cX11_read 141 = .ok (.imul, 1) ∧ decode cX11_read 142 = .ok (.iload_n 3, 1) ∧ decode cX11_read 143 = .ok (.iadd, 1) ∧ decode cX11_read 144 = .ok (.iload 8, 2) ∧ decode cX11_read 146 = .ok (.iadd, 1) ∧ decode cX11_read 147 = .ok (.iaload, 1) := by decide +kernel
theorem dX11_read_129 : decode cX11_read 129 = .ok (.iload 6, 2) := dq_917.1
theorem dX11_read_131 : decode cX11_read 131 = .ok (.ifCond .ne 36, 3) := dq_917.2.1
theorem dX11_read_134 : decode cX11_read 134 = .ok (.aload_n 0, 1) := dq_917.2.2.1
theorem dX11_read_135 : decode cX11_read 135 = .ok (.getfield 90, 3) := dq_917.2.2.2.1
theorem dX11_read_138 : decode cX11_read 138 = .ok (.bipush 64, 2) := dq_917.2.2.2.2.1
theorem dX11_read_140 : decode cX11_read 140 = .ok (.iload_n 1, 1) := dq_917.2.2.2.2.2.1
theorem dX11_read_141 : decode cX11_read 141 = .ok (.imul, 1) := dq_917.2.2.2.2.2.2.1
theorem dX11_read_142 : decode cX11_read 142 = .ok (.iload_n 3, 1) := dq_917.2.2.2.2.2.2.2.1
theorem dX11_read_143 : decode cX11_read 143 = .ok (.iadd, 1) := dq_917.2.2.2.2.2.2.2.2.1
theorem dX11_read_144 : decode cX11_read 144 = .ok (.iload 8, 2) := dq_917.2.2.2.2.2.2.2.2.2.1
theorem dX11_read_146 : decode cX11_read 146 = .ok (.iadd, 1) := dq_917.2.2.2.2.2.2.2.2.2.2.1
theorem dX11_read_147 : decode cX11_read 147 = .ok (.iaload, 1) := dq_917.2.2.2.2.2.2.2.2.2.2.2
theorem dq_918 : decode cX11_read 148 = .ok (.i2l, 1) ∧ decode cX11_read 149 = .ok (.ldc2_w 220, 3) ∧ decode cX11_read 152 = .ok (.ldc2_w 144, 3) ∧ decode cX11_read 155 = .ok (.invokestatic 96, 3) ∧ decode cX11_read 158 = .ok (.ifCond .ne 9, 3) ∧ decode cX11_read 161 = .ok (.bipush (-20), 2) ∧ decode cX11_read 163 = .ok (.iload 8, 2) ∧ decode cX11_read 165 = .ok (.isub, 1) ∧ decode cX11_read 166 = .ok (.ireturn, 1) ∧ decode cX11_read 167 = .ok (.iload 7, 2) ∧ decode cX11_read 169 = .ok (.iload 6, 2) ∧ decode cX11_read 171 = .ok (.ifCond .ne 7, 3) := by decide +kernel
theorem dX11_read_148 : decode cX11_read 148 = .ok (.i2l, 1) := dq_918.1
theorem dX11_read_149 : decode cX11_read 149 = .ok (.ldc2_w 220, 3) := dq_918.2.1
theorem dX11_read_152 : decode cX11_read 152 = .ok (.ldc2_w 144, 3) := dq_918.2.2.1
theorem dX11_read_155 : decode cX11_read 155 = .ok (.invokestatic 96, 3) := dq_918.2.2.2.1
theorem dX11_read_158 : decode cX11_read 158 = .ok (.ifCond .ne 9, 3) := dq_918.2.2.2.2.1
theorem dX11_read_161 : decode cX11_read 161 = .ok (.bipush (-20), 2) := dq_918.2.2.2.2.2.1
theorem dX11_read_163 : decode cX11_read 163 = .ok (.iload 8, 2) := dq_918.2.2.2.2.2.2.1
theorem dX11_read_165 : decode cX11_read 165 = .ok (.isub, 1) := dq_918.2.2.2.2.2.2.2.1
theorem dX11_read_166 : decode cX11_read 166 = .ok (.ireturn, 1) := dq_918.2.2.2.2.2.2.2.2.1
theorem dX11_read_167 : decode cX11_read 167 = .ok (.iload 7, 2) := dq_918.2.2.2.2.2.2.2.2.2.1
theorem dX11_read_169 : decode cX11_read 169 = .ok (.iload 6, 2) := dq_918.2.2.2.2.2.2.2.2.2.2.1
theorem dX11_read_171 : decode cX11_read 171 = .ok (.ifCond .ne 7, 3) := dq_918.2.2.2.2.2.2.2.2.2.2.2
theorem dq_919 : decode cX11_read 174 = .ok (.iconst 1, 1) ∧ decode cX11_read 175 = .ok (.goto 4, 3) ∧ decode cX11_read 178 = .ok (.iconst 0, 1) ∧ decode cX11_read 179 = .ok (.iadd, 1) ∧ decode cX11_read 180 = .ok (.istore 7, 2) ∧ decode cX11_read 182 = .ok (.iinc 8 1, 3) ∧ decode cX11_read 185 = .ok (.goto (-126), 3) ∧ decode cX11_read 188 = .ok (.iconst 0, 1) ∧ decode cX11_read 189 = .ok (.istore 8, 2) ∧ decode cX11_read 191 = .ok (.iload 8, 2) ∧ decode cX11_read 193 = .ok (.iload 5, 2) ∧ decode cX11_read 195 = .ok (.if_icmp .ge 64, 3) := by decide +kernel
theorem dX11_read_174 : decode cX11_read 174 = .ok (.iconst 1, 1) := dq_919.1
theorem dX11_read_175 : decode cX11_read 175 = .ok (.goto 4, 3) := dq_919.2.1
theorem dX11_read_178 : decode cX11_read 178 = .ok (.iconst 0, 1) := dq_919.2.2.1
theorem dX11_read_179 : decode cX11_read 179 = .ok (.iadd, 1) := dq_919.2.2.2.1
theorem dX11_read_180 : decode cX11_read 180 = .ok (.istore 7, 2) := dq_919.2.2.2.2.1
theorem dX11_read_182 : decode cX11_read 182 = .ok (.iinc 8 1, 3) := dq_919.2.2.2.2.2.1
theorem dX11_read_185 : decode cX11_read 185 = .ok (.goto (-126), 3) := dq_919.2.2.2.2.2.2.1
theorem dX11_read_188 : decode cX11_read 188 = .ok (.iconst 0, 1) := dq_919.2.2.2.2.2.2.2.1
theorem dX11_read_189 : decode cX11_read 189 = .ok (.istore 8, 2) := dq_919.2.2.2.2.2.2.2.2.1
theorem dX11_read_191 : decode cX11_read 191 = .ok (.iload 8, 2) := dq_919.2.2.2.2.2.2.2.2.2.1
theorem dX11_read_193 : decode cX11_read 193 = .ok (.iload 5, 2) := dq_919.2.2.2.2.2.2.2.2.2.2.1
theorem dX11_read_195 : decode cX11_read 195 = .ok (.if_icmp .ge 64, 3) := dq_919.2.2.2.2.2.2.2.2.2.2.2
theorem dq_920 : decode cX11_read 198 = .ok (.aload_n 0, 1) ∧ decode cX11_read 199 = .ok (.getfield 72, 3) ∧ decode cX11_read 202 = .ok (.iload 4, 2) ∧ decode cX11_read 204 = .ok (.iload 8, 2) ∧ decode cX11_read 206 = .ok (.iadd, 1) ∧ decode cX11_read 207 = .ok (.iload 8, 2) ∧ decode cX11_read 209 = .ok (.iload 7, 2) ∧ decode cX11_read 211 = .ok (.if_icmp .ge 20, 3) ∧ decode cX11_read 214 = .ok (.aload_n 0, 1) ∧ decode cX11_read 215 = .ok (.getfield 90, 3) ∧ decode cX11_read 218 = .ok (.bipush 64, 2) ∧ decode cX11_read 220 = .ok (.iload_n 1, 1) := by decide +kernel
theorem dX11_read_198 : decode cX11_read 198 = .ok (.aload_n 0, 1) := dq_920.1
theorem dX11_read_199 : decode cX11_read 199 = .ok (.getfield 72, 3) := dq_920.2.1
theorem dX11_read_202 : decode cX11_read 202 = .ok (.iload 4, 2) := dq_920.2.2.1
theorem dX11_read_204 : decode cX11_read 204 = .ok (.iload 8, 2) := dq_920.2.2.2.1
theorem dX11_read_206 : decode cX11_read 206 = .ok (.iadd, 1) := dq_920.2.2.2.2.1
theorem dX11_read_207 : decode cX11_read 207 = .ok (.iload 8, 2) := dq_920.2.2.2.2.2.1
theorem dX11_read_209 : decode cX11_read 209 = .ok (.iload 7, 2) := dq_920.2.2.2.2.2.2.1
theorem dX11_read_211 : decode cX11_read 211 = .ok (.if_icmp .ge 20, 3) := dq_920.2.2.2.2.2.2.2.1
theorem dX11_read_214 : decode cX11_read 214 = .ok (.aload_n 0, 1) := dq_920.2.2.2.2.2.2.2.2.1
theorem dX11_read_215 : decode cX11_read 215 = .ok (.getfield 90, 3) := dq_920.2.2.2.2.2.2.2.2.2.1
theorem dX11_read_218 : decode cX11_read 218 = .ok (.bipush 64, 2) := dq_920.2.2.2.2.2.2.2.2.2.2.1
theorem dX11_read_220 : decode cX11_read 220 = .ok (.iload_n 1, 1) := dq_920.2.2.2.2.2.2.2.2.2.2.2
theorem dq_921 : decode cX11_read 221 = .ok (.imul, 1) ∧ decode cX11_read 222 = .ok (.iload_n 3, 1) ∧ decode cX11_read 223 = .ok (.iadd, 1) ∧ decode cX11_read 224 = .ok (.iload 8, 2) ∧ decode cX11_read 226 = .ok (.iadd, 1) ∧ decode cX11_read 227 = .ok (.iaload, 1) ∧ decode cX11_read 228 = .ok (.goto 4, 3) ∧ decode cX11_read 231 = .ok (.iconst (-1), 1) ∧ decode cX11_read 232 = .ok (.iastore, 1) ∧ decode cX11_read 233 = .ok (.aload_n 0, 1) ∧ decode cX11_read 234 = .ok (.dup, 1) ∧ decode cX11_read 235 = .ok (.getfield 257, 3) := by decide +kernel
theorem dX11_read_221 : decode cX11_read 221 = .ok (.imul, 1) := dq_921.1
theorem dX11_read_222 : decode cX11_read 222 = .ok (.iload_n 3, 1) := dq_921.2.1
theorem dX11_read_223 : decode cX11_read 223 = .ok (.iadd, 1) := dq_921.2.2.1
theorem dX11_read_224 : decode cX11_read 224 = .ok (.iload 8, 2) := dq_921.2.2.2.1
theorem dX11_read_226 : decode cX11_read 226 = .ok (.iadd, 1) := dq_921.2.2.2.2.1
theorem dX11_read_227 : decode cX11_read 227 = .ok (.iaload, 1) := dq_921.2.2.2.2.2.1
theorem dX11_read_228 : decode cX11_read 228 = .ok (.goto 4, 3) := dq_921.2.2.2.2.2.2.1
theorem dX11_read_231 : decode cX11_read 231 = .ok (.iconst (-1), 1) := dq_921.2.2.2.2.2.2.2.1
theorem dX11_read_232 : decode cX11_read 232 = .ok (.iastore, 1) := dq_921.2.2.2.2.2.2.2.2.1
theorem dX11_read_233 : decode cX11_read 233 = .ok (.aload_n 0, 1) := dq_921.2.2.2.2.2.2.2.2.2.1
theorem dX11_read_234 : decode cX11_read 234 = .ok (.dup, 1) := dq_921.2.2.2.2.2.2.2.2.2.2.1
theorem dX11_read_235 : decode cX11_read 235 = .ok (.getfield 257, 3) := dq_921.2.2.2.2.2.2.2.2.2.2.2
theorem dq_922 : decode cX11_read 238 = .ok (.lconst 1, 1) ∧ decode cX11_read 239 = .ok (.iload 4, 2) ∧ decode cX11_read 241 = .ok (.iload 8, 2) ∧ decode cX11_read 243 = .ok (.iadd, 1) ∧ decode cX11_read 244 = .ok (.lshl, 1) ∧ decode cX11_read 245 = .ok (.ldc2_w 220, 3) ∧ decode cX11_read 248 = .ok (.lxor, 1) ∧ decode cX11_read 249 = .ok (.land, 1) ∧ decode cX11_read 250 = .ok (.putfield 257, 3) ∧ decode cX11_read 253 = .ok (.iinc 8 1, 3) ∧ decode cX11_read 256 = .ok (.goto (-65), 3) ∧ decode cX11_read 259 = .ok (.aload_n 0, 1) := by decide +kernel
theorem dX11_read_238 : decode cX11_read 238 = .ok (.lconst 1, 1) := dq_922.1
theorem dX11_read_239 : decode cX11_read 239 = .ok (.iload 4, 2) := dq_922.2.1
theorem dX11_read_241 : decode cX11_read 241 = .ok (.iload 8, 2) := dq_922.2.2.1
theorem dX11_read_243 : decode cX11_read 243 = .ok (.iadd, 1) := dq_922.2.2.2.1
theorem dX11_read_244 : decode cX11_read 244 = .ok (.lshl, 1) := dq_922.2.2.2.2.1
theorem dX11_read_245 : decode cX11_read 245 = .ok (.ldc2_w 220, 3) := dq_922.2.2.2.2.2.1
theorem dX11_read_248 : decode cX11_read 248 = .ok (.lxor, 1) := dq_922.2.2.2.2.2.2.1
theorem dX11_read_249 : decode cX11_read 249 = .ok (.land, 1) := dq_922.2.2.2.2.2.2.2.1
theorem dX11_read_250 : decode cX11_read 250 = .ok (.putfield 257, 3) := dq_922.2.2.2.2.2.2.2.2.1
theorem dX11_read_253 : decode cX11_read 253 = .ok (.iinc 8 1, 3) := dq_922.2.2.2.2.2.2.2.2.2.1
theorem dX11_read_256 : decode cX11_read 256 = .ok (.goto (-65), 3) := dq_922.2.2.2.2.2.2.2.2.2.2.1
theorem dX11_read_259 : decode cX11_read 259 = .ok (.aload_n 0, 1) := dq_922.2.2.2.2.2.2.2.2.2.2.2
theorem dq_923 : decode cX11_read 260 = .ok (.iload 6, 2) ∧ decode cX11_read 262 = .ok (.putfield 341, 3) ∧ decode cX11_read 265 = .ok (.iload 7, 2) ∧ decode cX11_read 267 = .ok (.ireturn, 1) := by decide +kernel
theorem dX11_read_260 : decode cX11_read 260 = .ok (.iload 6, 2) := dq_923.1
theorem dX11_read_262 : decode cX11_read 262 = .ok (.putfield 341, 3) := dq_923.2.1
theorem dX11_read_265 : decode cX11_read 265 = .ok (.iload 7, 2) := dq_923.2.2.1
theorem dX11_read_267 : decode cX11_read 267 = .ok (.ireturn, 1) := dq_923.2.2.2
theorem dq_924 : decode cX11_torn 0 = .ok (.aload_n 0, 1) ∧ decode cX11_torn 1 = .ok (.getfield 341, 3) ∧ decode cX11_torn 4 = .ok (.ireturn, 1) := by decide +kernel
theorem dX11_torn_0 : decode cX11_torn 0 = .ok (.aload_n 0, 1) := dq_924.1
theorem dX11_torn_1 : decode cX11_torn 1 = .ok (.getfield 341, 3) := dq_924.2.1
theorem dX11_torn_4 : decode cX11_torn 4 = .ok (.ireturn, 1) := dq_924.2.2
theorem dq_925 : decode cX11_count 0 = .ok (.iconst 0, 1) ∧ decode cX11_count 1 = .ok (.istore_n 2, 1) ∧ decode cX11_count 2 = .ok (.iconst 0, 1) ∧ decode cX11_count 3 = .ok (.istore_n 3, 1) ∧ decode cX11_count 4 = .ok (.iload_n 3, 1) ∧ decode cX11_count 5 = .ok (.aload_n 0, 1) ∧ decode cX11_count 6 = .ok (.getfield 184, 3) ∧ decode cX11_count 9 = .ok (.if_icmp .ge 25, 3) ∧ decode cX11_count 12 = .ok (.iload_n 2, 1) ∧ decode cX11_count 13 = .ok (.aload_n 0, 1) ∧ decode cX11_count 14 = .ok (.iload_n 3, 1) ∧ decode cX11_count 15 = .ok (.invokevirtual 226, 3) := by decide +kernel
theorem dX11_count_0 : decode cX11_count 0 = .ok (.iconst 0, 1) := dq_925.1
theorem dX11_count_1 : decode cX11_count 1 = .ok (.istore_n 2, 1) := dq_925.2.1
theorem dX11_count_2 : decode cX11_count 2 = .ok (.iconst 0, 1) := dq_925.2.2.1
theorem dX11_count_3 : decode cX11_count 3 = .ok (.istore_n 3, 1) := dq_925.2.2.2.1
theorem dX11_count_4 : decode cX11_count 4 = .ok (.iload_n 3, 1) := dq_925.2.2.2.2.1
theorem dX11_count_5 : decode cX11_count 5 = .ok (.aload_n 0, 1) := dq_925.2.2.2.2.2.1
theorem dX11_count_6 : decode cX11_count 6 = .ok (.getfield 184, 3) := dq_925.2.2.2.2.2.2.1
theorem dX11_count_9 : decode cX11_count 9 = .ok (.if_icmp .ge 25, 3) := dq_925.2.2.2.2.2.2.2.1
theorem dX11_count_12 : decode cX11_count 12 = .ok (.iload_n 2, 1) := dq_925.2.2.2.2.2.2.2.2.1
theorem dX11_count_13 : decode cX11_count 13 = .ok (.aload_n 0, 1) := dq_925.2.2.2.2.2.2.2.2.2.1
theorem dX11_count_14 : decode cX11_count 14 = .ok (.iload_n 3, 1) := dq_925.2.2.2.2.2.2.2.2.2.2.1
theorem dX11_count_15 : decode cX11_count 15 = .ok (.invokevirtual 226, 3) := dq_925.2.2.2.2.2.2.2.2.2.2.2
theorem dq_926 : decode cX11_count 18 = .ok (.ifCond .eq 7, 3) ∧ decode cX11_count 21 = .ok (.iconst 1, 1) ∧ decode cX11_count 22 = .ok (.goto 4, 3) ∧ decode cX11_count 25 = .ok (.iconst 0, 1) ∧ decode cX11_count 26 = .ok (.iadd, 1) ∧ decode cX11_count 27 = .ok (.istore_n 2, 1) ∧ decode cX11_count 28 = .ok (.iinc 3 1, 3) ∧ decode cX11_count 31 = .ok (.goto (-27), 3) ∧ decode cX11_count 34 = .ok (.iload_n 1, 1) ∧ decode cX11_count 35 = .ok (.tableswitch 85 0 5 #[37, 43, 48, 50, 57, 62], 37) ∧ decode cX11_count 72 = .ok (.aload_n 0, 1) ∧ decode cX11_count 73 = .ok (.iconst (-1), 1) := by decide +kernel
theorem dX11_count_18 : decode cX11_count 18 = .ok (.ifCond .eq 7, 3) := dq_926.1
theorem dX11_count_21 : decode cX11_count 21 = .ok (.iconst 1, 1) := dq_926.2.1
theorem dX11_count_22 : decode cX11_count 22 = .ok (.goto 4, 3) := dq_926.2.2.1
theorem dX11_count_25 : decode cX11_count 25 = .ok (.iconst 0, 1) := dq_926.2.2.2.1
theorem dX11_count_26 : decode cX11_count 26 = .ok (.iadd, 1) := dq_926.2.2.2.2.1
theorem dX11_count_27 : decode cX11_count 27 = .ok (.istore_n 2, 1) := dq_926.2.2.2.2.2.1
theorem dX11_count_28 : decode cX11_count 28 = .ok (.iinc 3 1, 3) := dq_926.2.2.2.2.2.2.1
theorem dX11_count_31 : decode cX11_count 31 = .ok (.goto (-27), 3) := dq_926.2.2.2.2.2.2.2.1
theorem dX11_count_34 : decode cX11_count 34 = .ok (.iload_n 1, 1) := dq_926.2.2.2.2.2.2.2.2.1
theorem dX11_count_35 : decode cX11_count 35 = .ok (.tableswitch 85 0 5 #[37, 43, 48, 50, 57, 62], 37) := dq_926.2.2.2.2.2.2.2.2.2.1
theorem dX11_count_72 : decode cX11_count 72 = .ok (.aload_n 0, 1) := dq_926.2.2.2.2.2.2.2.2.2.2.1
theorem dX11_count_73 : decode cX11_count 73 = .ok (.iconst (-1), 1) := dq_926.2.2.2.2.2.2.2.2.2.2.2
theorem dq_927 : decode cX11_count 74 = .ok (.invokevirtual 318, 3) ∧ decode cX11_count 77 = .ok (.ireturn, 1) ∧ decode cX11_count 78 = .ok (.aload_n 0, 1) ∧ decode cX11_count 79 = .ok (.getfield 240, 3) ∧ decode cX11_count 82 = .ok (.ireturn, 1) ∧ decode cX11_count 83 = .ok (.iload_n 2, 1) ∧ decode cX11_count 84 = .ok (.ireturn, 1) ∧ decode cX11_count 85 = .ok (.aload_n 0, 1) ∧ decode cX11_count 86 = .ok (.getfield 184, 3) ∧ decode cX11_count 89 = .ok (.iload_n 2, 1) ∧ decode cX11_count 90 = .ok (.isub, 1) ∧ decode cX11_count 91 = .ok (.ireturn, 1) := by decide +kernel
theorem dX11_count_74 : decode cX11_count 74 = .ok (.invokevirtual 318, 3) := dq_927.1
theorem dX11_count_77 : decode cX11_count 77 = .ok (.ireturn, 1) := dq_927.2.1
theorem dX11_count_78 : decode cX11_count 78 = .ok (.aload_n 0, 1) := dq_927.2.2.1
theorem dX11_count_79 : decode cX11_count 79 = .ok (.getfield 240, 3) := dq_927.2.2.2.1
theorem dX11_count_82 : decode cX11_count 82 = .ok (.ireturn, 1) := dq_927.2.2.2.2.1
theorem dX11_count_83 : decode cX11_count 83 = .ok (.iload_n 2, 1) := dq_927.2.2.2.2.2.1
theorem dX11_count_84 : decode cX11_count 84 = .ok (.ireturn, 1) := dq_927.2.2.2.2.2.2.1
theorem dX11_count_85 : decode cX11_count 85 = .ok (.aload_n 0, 1) := dq_927.2.2.2.2.2.2.2.1
theorem dX11_count_86 : decode cX11_count 86 = .ok (.getfield 184, 3) := dq_927.2.2.2.2.2.2.2.2.1
theorem dX11_count_89 : decode cX11_count 89 = .ok (.iload_n 2, 1) := dq_927.2.2.2.2.2.2.2.2.2.1
theorem dX11_count_90 : decode cX11_count 90 = .ok (.isub, 1) := dq_927.2.2.2.2.2.2.2.2.2.2.1
theorem dX11_count_91 : decode cX11_count 91 = .ok (.ireturn, 1) := dq_927.2.2.2.2.2.2.2.2.2.2.2
theorem dq_928 : decode cX11_count 92 = .ok (.aload_n 0, 1) ∧ decode cX11_count 93 = .ok (.getfield 93, 3) ∧ decode cX11_count 96 = .ok (.ireturn, 1) ∧ decode cX11_count 97 = .ok (.aload_n 0, 1) ∧ decode cX11_count 98 = .ok (.getfield 84, 3) ∧ decode cX11_count 101 = .ok (.iconst 0, 1) ∧ decode cX11_count 102 = .ok (.iaload, 1) ∧ decode cX11_count 103 = .ok (.bipush (-4), 2) ∧ decode cX11_count 105 = .ok (.if_icmp .ne 8, 3) ∧ decode cX11_count 108 = .ok (.bipush (-4), 2) ∧ decode cX11_count 110 = .ok (.goto 9, 3) ∧ decode cX11_count 113 = .ok (.aload_n 0, 1) := by decide +kernel
theorem dX11_count_92 : decode cX11_count 92 = .ok (.aload_n 0, 1) := dq_928.1
theorem dX11_count_93 : decode cX11_count 93 = .ok (.getfield 93, 3) := dq_928.2.1
theorem dX11_count_96 : decode cX11_count 96 = .ok (.ireturn, 1) := dq_928.2.2.1
theorem dX11_count_97 : decode cX11_count 97 = .ok (.aload_n 0, 1) := dq_928.2.2.2.1
theorem dX11_count_98 : decode cX11_count 98 = .ok (.getfield 84, 3) := dq_928.2.2.2.2.1
theorem dX11_count_101 : decode cX11_count 101 = .ok (.iconst 0, 1) := dq_928.2.2.2.2.2.1
theorem dX11_count_102 : decode cX11_count 102 = .ok (.iaload, 1) := dq_928.2.2.2.2.2.2.1
theorem dX11_count_103 : decode cX11_count 103 = .ok (.bipush (-4), 2) := dq_928.2.2.2.2.2.2.2.1
theorem dX11_count_105 : decode cX11_count 105 = .ok (.if_icmp .ne 8, 3) := dq_928.2.2.2.2.2.2.2.2.1
theorem dX11_count_108 : decode cX11_count 108 = .ok (.bipush (-4), 2) := dq_928.2.2.2.2.2.2.2.2.2.1
theorem dX11_count_110 : decode cX11_count 110 = .ok (.goto 9, 3) := dq_928.2.2.2.2.2.2.2.2.2.2.1
theorem dX11_count_113 : decode cX11_count 113 = .ok (.aload_n 0, 1) := dq_928.2.2.2.2.2.2.2.2.2.2.2
theorem dq_929 : decode cX11_count 114 = .ok (.getfield 87, 3) ∧ decode cX11_count 117 = .ok (.iconst 0, 1) ∧ decode cX11_count 118 = .ok (.iaload, 1) ∧ decode cX11_count 119 = .ok (.ireturn, 1) ∧ decode cX11_count 120 = .ok (.iconst (-1), 1) ∧ decode cX11_count 121 = .ok (.ireturn, 1) := by decide +kernel
theorem dX11_count_114 : decode cX11_count 114 = .ok (.getfield 87, 3) := dq_929.1
theorem dX11_count_117 : decode cX11_count 117 = .ok (.iconst 0, 1) := dq_929.2.1
theorem dX11_count_118 : decode cX11_count 118 = .ok (.iaload, 1) := dq_929.2.2.1
theorem dX11_count_119 : decode cX11_count 119 = .ok (.ireturn, 1) := dq_929.2.2.2.1
theorem dX11_count_120 : decode cX11_count 120 = .ok (.iconst (-1), 1) := dq_929.2.2.2.2.1
theorem dX11_count_121 : decode cX11_count 121 = .ok (.ireturn, 1) := dq_929.2.2.2.2.2
theorem dq_930 : decode cJ6_bitCount_0f7a4 0 = .ok (.iload_n 0, 1) ∧ decode cJ6_bitCount_0f7a4 1 = .ok (.iload_n 0, 1) ∧ decode cJ6_bitCount_0f7a4 2 = .ok (.iconst 1, 1) ∧ decode cJ6_bitCount_0f7a4 3 = .ok (.iushr, 1) ∧ decode cJ6_bitCount_0f7a4 4 = .ok (.ldc_w 265, 3) ∧ decode cJ6_bitCount_0f7a4 7 = .ok (.iand, 1) ∧ decode cJ6_bitCount_0f7a4 8 = .ok (.isub, 1) ∧ decode cJ6_bitCount_0f7a4 9 = .ok (.istore_n 0, 1) ∧ decode cJ6_bitCount_0f7a4 10 = .ok (.iload_n 0, 1) ∧ decode cJ6_bitCount_0f7a4 11 = .ok (.ldc_w 266, 3) ∧ decode cJ6_bitCount_0f7a4 14 = .ok (.iand, 1) ∧ decode cJ6_bitCount_0f7a4 15 = .ok (.iload_n 0, 1) := by decide +kernel
theorem dJ6_bitCount_0f7a4_0 : decode cJ6_bitCount_0f7a4 0 = .ok (.iload_n 0, 1) := dq_930.1
theorem dJ6_bitCount_0f7a4_1 : decode cJ6_bitCount_0f7a4 1 = .ok (.iload_n 0, 1) := dq_930.2.1
theorem dJ6_bitCount_0f7a4_2 : decode cJ6_bitCount_0f7a4 2 = .ok (.iconst 1, 1) := dq_930.2.2.1
theorem dJ6_bitCount_0f7a4_3 : decode cJ6_bitCount_0f7a4 3 = .ok (.iushr, 1) := dq_930.2.2.2.1
theorem dJ6_bitCount_0f7a4_4 : decode cJ6_bitCount_0f7a4 4 = .ok (.ldc_w 265, 3) := dq_930.2.2.2.2.1
theorem dJ6_bitCount_0f7a4_7 : decode cJ6_bitCount_0f7a4 7 = .ok (.iand, 1) := dq_930.2.2.2.2.2.1
theorem dJ6_bitCount_0f7a4_8 : decode cJ6_bitCount_0f7a4 8 = .ok (.isub, 1) := dq_930.2.2.2.2.2.2.1
theorem dJ6_bitCount_0f7a4_9 : decode cJ6_bitCount_0f7a4 9 = .ok (.istore_n 0, 1) := dq_930.2.2.2.2.2.2.2.1
theorem dJ6_bitCount_0f7a4_10 : decode cJ6_bitCount_0f7a4 10 = .ok (.iload_n 0, 1) := dq_930.2.2.2.2.2.2.2.2.1
theorem dJ6_bitCount_0f7a4_11 : decode cJ6_bitCount_0f7a4 11 = .ok (.ldc_w 266, 3) := dq_930.2.2.2.2.2.2.2.2.2.1
theorem dJ6_bitCount_0f7a4_14 : decode cJ6_bitCount_0f7a4 14 = .ok (.iand, 1) := dq_930.2.2.2.2.2.2.2.2.2.2.1
theorem dJ6_bitCount_0f7a4_15 : decode cJ6_bitCount_0f7a4 15 = .ok (.iload_n 0, 1) := dq_930.2.2.2.2.2.2.2.2.2.2.2
theorem dq_931 : decode cJ6_bitCount_0f7a4 16 = .ok (.iconst 2, 1) ∧ decode cJ6_bitCount_0f7a4 17 = .ok (.iushr, 1) ∧ decode cJ6_bitCount_0f7a4 18 = .ok (.ldc_w 266, 3) ∧ decode cJ6_bitCount_0f7a4 21 = .ok (.iand, 1) ∧ decode cJ6_bitCount_0f7a4 22 = .ok (.iadd, 1) ∧ decode cJ6_bitCount_0f7a4 23 = .ok (.istore_n 0, 1) ∧ decode cJ6_bitCount_0f7a4 24 = .ok (.iload_n 0, 1) ∧ decode cJ6_bitCount_0f7a4 25 = .ok (.iload_n 0, 1) ∧ decode cJ6_bitCount_0f7a4 26 = .ok (.iconst 4, 1) ∧ decode cJ6_bitCount_0f7a4 27 = .ok (.iushr, 1) ∧ decode cJ6_bitCount_0f7a4 28 = .ok (.iadd, 1) ∧ decode cJ6_bitCount_0f7a4 29 = .ok (.ldc_w 267, 3) := by decide +kernel
theorem dJ6_bitCount_0f7a4_16 : decode cJ6_bitCount_0f7a4 16 = .ok (.iconst 2, 1) := dq_931.1
theorem dJ6_bitCount_0f7a4_17 : decode cJ6_bitCount_0f7a4 17 = .ok (.iushr, 1) := dq_931.2.1
theorem dJ6_bitCount_0f7a4_18 : decode cJ6_bitCount_0f7a4 18 = .ok (.ldc_w 266, 3) := dq_931.2.2.1
theorem dJ6_bitCount_0f7a4_21 : decode cJ6_bitCount_0f7a4 21 = .ok (.iand, 1) := dq_931.2.2.2.1
theorem dJ6_bitCount_0f7a4_22 : decode cJ6_bitCount_0f7a4 22 = .ok (.iadd, 1) := dq_931.2.2.2.2.1
theorem dJ6_bitCount_0f7a4_23 : decode cJ6_bitCount_0f7a4 23 = .ok (.istore_n 0, 1) := dq_931.2.2.2.2.2.1
theorem dJ6_bitCount_0f7a4_24 : decode cJ6_bitCount_0f7a4 24 = .ok (.iload_n 0, 1) := dq_931.2.2.2.2.2.2.1
theorem dJ6_bitCount_0f7a4_25 : decode cJ6_bitCount_0f7a4 25 = .ok (.iload_n 0, 1) := dq_931.2.2.2.2.2.2.2.1
theorem dJ6_bitCount_0f7a4_26 : decode cJ6_bitCount_0f7a4 26 = .ok (.iconst 4, 1) := dq_931.2.2.2.2.2.2.2.2.1
theorem dJ6_bitCount_0f7a4_27 : decode cJ6_bitCount_0f7a4 27 = .ok (.iushr, 1) := dq_931.2.2.2.2.2.2.2.2.2.1
theorem dJ6_bitCount_0f7a4_28 : decode cJ6_bitCount_0f7a4 28 = .ok (.iadd, 1) := dq_931.2.2.2.2.2.2.2.2.2.2.1
theorem dJ6_bitCount_0f7a4_29 : decode cJ6_bitCount_0f7a4 29 = .ok (.ldc_w 267, 3) := dq_931.2.2.2.2.2.2.2.2.2.2.2
theorem dq_932 : decode cJ6_bitCount_0f7a4 32 = .ok (.iand, 1) ∧ decode cJ6_bitCount_0f7a4 33 = .ok (.istore_n 0, 1) ∧ decode cJ6_bitCount_0f7a4 34 = .ok (.iload_n 0, 1) ∧ decode cJ6_bitCount_0f7a4 35 = .ok (.iload_n 0, 1) ∧ decode cJ6_bitCount_0f7a4 36 = .ok (.bipush 8, 2) ∧ decode cJ6_bitCount_0f7a4 38 = .ok (.iushr, 1) ∧ decode cJ6_bitCount_0f7a4 39 = .ok (.iadd, 1) ∧ decode cJ6_bitCount_0f7a4 40 = .ok (.istore_n 0, 1) ∧ decode cJ6_bitCount_0f7a4 41 = .ok (.iload_n 0, 1) ∧ decode cJ6_bitCount_0f7a4 42 = .ok (.iload_n 0, 1) ∧ decode cJ6_bitCount_0f7a4 43 = .ok (.bipush 16, 2) ∧ decode cJ6_bitCount_0f7a4 45 = .ok (.iushr, 1) := by decide +kernel
theorem dJ6_bitCount_0f7a4_32 : decode cJ6_bitCount_0f7a4 32 = .ok (.iand, 1) := dq_932.1
theorem dJ6_bitCount_0f7a4_33 : decode cJ6_bitCount_0f7a4 33 = .ok (.istore_n 0, 1) := dq_932.2.1
theorem dJ6_bitCount_0f7a4_34 : decode cJ6_bitCount_0f7a4 34 = .ok (.iload_n 0, 1) := dq_932.2.2.1
theorem dJ6_bitCount_0f7a4_35 : decode cJ6_bitCount_0f7a4 35 = .ok (.iload_n 0, 1) := dq_932.2.2.2.1
theorem dJ6_bitCount_0f7a4_36 : decode cJ6_bitCount_0f7a4 36 = .ok (.bipush 8, 2) := dq_932.2.2.2.2.1
theorem dJ6_bitCount_0f7a4_38 : decode cJ6_bitCount_0f7a4 38 = .ok (.iushr, 1) := dq_932.2.2.2.2.2.1
theorem dJ6_bitCount_0f7a4_39 : decode cJ6_bitCount_0f7a4 39 = .ok (.iadd, 1) := dq_932.2.2.2.2.2.2.1
theorem dJ6_bitCount_0f7a4_40 : decode cJ6_bitCount_0f7a4 40 = .ok (.istore_n 0, 1) := dq_932.2.2.2.2.2.2.2.1
theorem dJ6_bitCount_0f7a4_41 : decode cJ6_bitCount_0f7a4 41 = .ok (.iload_n 0, 1) := dq_932.2.2.2.2.2.2.2.2.1
theorem dJ6_bitCount_0f7a4_42 : decode cJ6_bitCount_0f7a4 42 = .ok (.iload_n 0, 1) := dq_932.2.2.2.2.2.2.2.2.2.1
theorem dJ6_bitCount_0f7a4_43 : decode cJ6_bitCount_0f7a4 43 = .ok (.bipush 16, 2) := dq_932.2.2.2.2.2.2.2.2.2.2.1
theorem dJ6_bitCount_0f7a4_45 : decode cJ6_bitCount_0f7a4 45 = .ok (.iushr, 1) := dq_932.2.2.2.2.2.2.2.2.2.2.2
theorem dq_933 : decode cJ6_bitCount_0f7a4 46 = .ok (.iadd, 1) ∧ decode cJ6_bitCount_0f7a4 47 = .ok (.istore_n 0, 1) ∧ decode cJ6_bitCount_0f7a4 48 = .ok (.iload_n 0, 1) ∧ decode cJ6_bitCount_0f7a4 49 = .ok (.bipush 63, 2) ∧ decode cJ6_bitCount_0f7a4 51 = .ok (.iand, 1) ∧ decode cJ6_bitCount_0f7a4 52 = .ok (.ireturn, 1) := by decide +kernel
theorem dJ6_bitCount_0f7a4_46 : decode cJ6_bitCount_0f7a4 46 = .ok (.iadd, 1) := dq_933.1
theorem dJ6_bitCount_0f7a4_47 : decode cJ6_bitCount_0f7a4 47 = .ok (.istore_n 0, 1) := dq_933.2.1
theorem dJ6_bitCount_0f7a4_48 : decode cJ6_bitCount_0f7a4 48 = .ok (.iload_n 0, 1) := dq_933.2.2.1
theorem dJ6_bitCount_0f7a4_49 : decode cJ6_bitCount_0f7a4 49 = .ok (.bipush 63, 2) := dq_933.2.2.2.1
theorem dJ6_bitCount_0f7a4_51 : decode cJ6_bitCount_0f7a4 51 = .ok (.iand, 1) := dq_933.2.2.2.2.1
theorem dJ6_bitCount_0f7a4_52 : decode cJ6_bitCount_0f7a4 52 = .ok (.ireturn, 1) := dq_933.2.2.2.2.2
theorem dq_934 : decode cJ13_bitCount_95d88 0 = .ok (.lload_n 0, 1) ∧ decode cJ13_bitCount_95d88 1 = .ok (.lload_n 0, 1) ∧ decode cJ13_bitCount_95d88 2 = .ok (.iconst 1, 1) ∧ decode cJ13_bitCount_95d88 3 = .ok (.lushr, 1) ∧ decode cJ13_bitCount_95d88 4 = .ok (.ldc2_w 314, 3) ∧ decode cJ13_bitCount_95d88 7 = .ok (.land, 1) ∧ decode cJ13_bitCount_95d88 8 = .ok (.lsub, 1) ∧ decode cJ13_bitCount_95d88 9 = .ok (.lstore_n 0, 1) ∧ decode cJ13_bitCount_95d88 10 = .ok (.lload_n 0, 1) ∧ decode cJ13_bitCount_95d88 11 = .ok (.ldc2_w 316, 3) ∧ decode cJ13_bitCount_95d88 14 = .ok (.land, 1) ∧ decode cJ13_bitCount_95d88 15 = .ok (.lload_n 0, 1) := by decide +kernel
theorem dJ13_bitCount_95d88_0 : decode cJ13_bitCount_95d88 0 = .ok (.lload_n 0, 1) := dq_934.1
theorem dJ13_bitCount_95d88_1 : decode cJ13_bitCount_95d88 1 = .ok (.lload_n 0, 1) := dq_934.2.1
theorem dJ13_bitCount_95d88_2 : decode cJ13_bitCount_95d88 2 = .ok (.iconst 1, 1) := dq_934.2.2.1
theorem dJ13_bitCount_95d88_3 : decode cJ13_bitCount_95d88 3 = .ok (.lushr, 1) := dq_934.2.2.2.1
theorem dJ13_bitCount_95d88_4 : decode cJ13_bitCount_95d88 4 = .ok (.ldc2_w 314, 3) := dq_934.2.2.2.2.1
theorem dJ13_bitCount_95d88_7 : decode cJ13_bitCount_95d88 7 = .ok (.land, 1) := dq_934.2.2.2.2.2.1
theorem dJ13_bitCount_95d88_8 : decode cJ13_bitCount_95d88 8 = .ok (.lsub, 1) := dq_934.2.2.2.2.2.2.1
theorem dJ13_bitCount_95d88_9 : decode cJ13_bitCount_95d88 9 = .ok (.lstore_n 0, 1) := dq_934.2.2.2.2.2.2.2.1
theorem dJ13_bitCount_95d88_10 : decode cJ13_bitCount_95d88 10 = .ok (.lload_n 0, 1) := dq_934.2.2.2.2.2.2.2.2.1
theorem dJ13_bitCount_95d88_11 : decode cJ13_bitCount_95d88 11 = .ok (.ldc2_w 316, 3) := dq_934.2.2.2.2.2.2.2.2.2.1
theorem dJ13_bitCount_95d88_14 : decode cJ13_bitCount_95d88 14 = .ok (.land, 1) := dq_934.2.2.2.2.2.2.2.2.2.2.1
theorem dJ13_bitCount_95d88_15 : decode cJ13_bitCount_95d88 15 = .ok (.lload_n 0, 1) := dq_934.2.2.2.2.2.2.2.2.2.2.2
theorem dq_935 : decode cJ13_bitCount_95d88 16 = .ok (.iconst 2, 1) ∧ decode cJ13_bitCount_95d88 17 = .ok (.lushr, 1) ∧ decode cJ13_bitCount_95d88 18 = .ok (.ldc2_w 316, 3) ∧ decode cJ13_bitCount_95d88 21 = .ok (.land, 1) ∧ decode cJ13_bitCount_95d88 22 = .ok (.ladd, 1) ∧ decode cJ13_bitCount_95d88 23 = .ok (.lstore_n 0, 1) ∧ decode cJ13_bitCount_95d88 24 = .ok (.lload_n 0, 1) ∧ decode cJ13_bitCount_95d88 25 = .ok (.lload_n 0, 1) ∧ decode cJ13_bitCount_95d88 26 = .ok (.iconst 4, 1) ∧ decode cJ13_bitCount_95d88 27 = .ok (.lushr, 1) ∧ decode cJ13_bitCount_95d88 28 = .ok (.ladd, 1) ∧ decode cJ13_bitCount_95d88 29 = .ok (.ldc2_w 318, 3) := by decide +kernel
theorem dJ13_bitCount_95d88_16 : decode cJ13_bitCount_95d88 16 = .ok (.iconst 2, 1) := dq_935.1
theorem dJ13_bitCount_95d88_17 : decode cJ13_bitCount_95d88 17 = .ok (.lushr, 1) := dq_935.2.1
theorem dJ13_bitCount_95d88_18 : decode cJ13_bitCount_95d88 18 = .ok (.ldc2_w 316, 3) := dq_935.2.2.1
theorem dJ13_bitCount_95d88_21 : decode cJ13_bitCount_95d88 21 = .ok (.land, 1) := dq_935.2.2.2.1
theorem dJ13_bitCount_95d88_22 : decode cJ13_bitCount_95d88 22 = .ok (.ladd, 1) := dq_935.2.2.2.2.1
theorem dJ13_bitCount_95d88_23 : decode cJ13_bitCount_95d88 23 = .ok (.lstore_n 0, 1) := dq_935.2.2.2.2.2.1
theorem dJ13_bitCount_95d88_24 : decode cJ13_bitCount_95d88 24 = .ok (.lload_n 0, 1) := dq_935.2.2.2.2.2.2.1
theorem dJ13_bitCount_95d88_25 : decode cJ13_bitCount_95d88 25 = .ok (.lload_n 0, 1) := dq_935.2.2.2.2.2.2.2.1
theorem dJ13_bitCount_95d88_26 : decode cJ13_bitCount_95d88 26 = .ok (.iconst 4, 1) := dq_935.2.2.2.2.2.2.2.2.1
theorem dJ13_bitCount_95d88_27 : decode cJ13_bitCount_95d88 27 = .ok (.lushr, 1) := dq_935.2.2.2.2.2.2.2.2.2.1
theorem dJ13_bitCount_95d88_28 : decode cJ13_bitCount_95d88 28 = .ok (.ladd, 1) := dq_935.2.2.2.2.2.2.2.2.2.2.1
theorem dJ13_bitCount_95d88_29 : decode cJ13_bitCount_95d88 29 = .ok (.ldc2_w 318, 3) := dq_935.2.2.2.2.2.2.2.2.2.2.2
theorem dq_936 : decode cJ13_bitCount_95d88 32 = .ok (.land, 1) ∧ decode cJ13_bitCount_95d88 33 = .ok (.lstore_n 0, 1) ∧ decode cJ13_bitCount_95d88 34 = .ok (.lload_n 0, 1) ∧ decode cJ13_bitCount_95d88 35 = .ok (.lload_n 0, 1) ∧ decode cJ13_bitCount_95d88 36 = .ok (.bipush 8, 2) ∧ decode cJ13_bitCount_95d88 38 = .ok (.lushr, 1) ∧ decode cJ13_bitCount_95d88 39 = .ok (.ladd, 1) ∧ decode cJ13_bitCount_95d88 40 = .ok (.lstore_n 0, 1) ∧ decode cJ13_bitCount_95d88 41 = .ok (.lload_n 0, 1) ∧ decode cJ13_bitCount_95d88 42 = .ok (.lload_n 0, 1) ∧ decode cJ13_bitCount_95d88 43 = .ok (.bipush 16, 2) ∧ decode cJ13_bitCount_95d88 45 = .ok (.lushr, 1) := by decide +kernel
theorem dJ13_bitCount_95d88_32 : decode cJ13_bitCount_95d88 32 = .ok (.land, 1) := dq_936.1
theorem dJ13_bitCount_95d88_33 : decode cJ13_bitCount_95d88 33 = .ok (.lstore_n 0, 1) := dq_936.2.1
theorem dJ13_bitCount_95d88_34 : decode cJ13_bitCount_95d88 34 = .ok (.lload_n 0, 1) := dq_936.2.2.1
theorem dJ13_bitCount_95d88_35 : decode cJ13_bitCount_95d88 35 = .ok (.lload_n 0, 1) := dq_936.2.2.2.1
theorem dJ13_bitCount_95d88_36 : decode cJ13_bitCount_95d88 36 = .ok (.bipush 8, 2) := dq_936.2.2.2.2.1
theorem dJ13_bitCount_95d88_38 : decode cJ13_bitCount_95d88 38 = .ok (.lushr, 1) := dq_936.2.2.2.2.2.1
theorem dJ13_bitCount_95d88_39 : decode cJ13_bitCount_95d88 39 = .ok (.ladd, 1) := dq_936.2.2.2.2.2.2.1
theorem dJ13_bitCount_95d88_40 : decode cJ13_bitCount_95d88 40 = .ok (.lstore_n 0, 1) := dq_936.2.2.2.2.2.2.2.1
theorem dJ13_bitCount_95d88_41 : decode cJ13_bitCount_95d88 41 = .ok (.lload_n 0, 1) := dq_936.2.2.2.2.2.2.2.2.1
theorem dJ13_bitCount_95d88_42 : decode cJ13_bitCount_95d88 42 = .ok (.lload_n 0, 1) := dq_936.2.2.2.2.2.2.2.2.2.1
theorem dJ13_bitCount_95d88_43 : decode cJ13_bitCount_95d88 43 = .ok (.bipush 16, 2) := dq_936.2.2.2.2.2.2.2.2.2.2.1
theorem dJ13_bitCount_95d88_45 : decode cJ13_bitCount_95d88 45 = .ok (.lushr, 1) := dq_936.2.2.2.2.2.2.2.2.2.2.2
theorem dq_937 : decode cJ13_bitCount_95d88 46 = .ok (.ladd, 1) ∧ decode cJ13_bitCount_95d88 47 = .ok (.lstore_n 0, 1) ∧ decode cJ13_bitCount_95d88 48 = .ok (.lload_n 0, 1) ∧ decode cJ13_bitCount_95d88 49 = .ok (.lload_n 0, 1) ∧ decode cJ13_bitCount_95d88 50 = .ok (.bipush 32, 2) ∧ decode cJ13_bitCount_95d88 52 = .ok (.lushr, 1) ∧ decode cJ13_bitCount_95d88 53 = .ok (.ladd, 1) ∧ decode cJ13_bitCount_95d88 54 = .ok (.lstore_n 0, 1) ∧ decode cJ13_bitCount_95d88 55 = .ok (.lload_n 0, 1) ∧ decode cJ13_bitCount_95d88 56 = .ok (.l2i, 1) ∧ decode cJ13_bitCount_95d88 57 = .ok (.bipush 127, 2) ∧ decode cJ13_bitCount_95d88 59 = .ok (.iand, 1) := by decide +kernel
theorem dJ13_bitCount_95d88_46 : decode cJ13_bitCount_95d88 46 = .ok (.ladd, 1) := dq_937.1
theorem dJ13_bitCount_95d88_47 : decode cJ13_bitCount_95d88 47 = .ok (.lstore_n 0, 1) := dq_937.2.1
theorem dJ13_bitCount_95d88_48 : decode cJ13_bitCount_95d88 48 = .ok (.lload_n 0, 1) := dq_937.2.2.1
theorem dJ13_bitCount_95d88_49 : decode cJ13_bitCount_95d88 49 = .ok (.lload_n 0, 1) := dq_937.2.2.2.1
theorem dJ13_bitCount_95d88_50 : decode cJ13_bitCount_95d88 50 = .ok (.bipush 32, 2) := dq_937.2.2.2.2.1
theorem dJ13_bitCount_95d88_52 : decode cJ13_bitCount_95d88 52 = .ok (.lushr, 1) := dq_937.2.2.2.2.2.1
theorem dJ13_bitCount_95d88_53 : decode cJ13_bitCount_95d88 53 = .ok (.ladd, 1) := dq_937.2.2.2.2.2.2.1
theorem dJ13_bitCount_95d88_54 : decode cJ13_bitCount_95d88 54 = .ok (.lstore_n 0, 1) := dq_937.2.2.2.2.2.2.2.1
theorem dJ13_bitCount_95d88_55 : decode cJ13_bitCount_95d88 55 = .ok (.lload_n 0, 1) := dq_937.2.2.2.2.2.2.2.2.1
theorem dJ13_bitCount_95d88_56 : decode cJ13_bitCount_95d88 56 = .ok (.l2i, 1) := dq_937.2.2.2.2.2.2.2.2.2.1
theorem dJ13_bitCount_95d88_57 : decode cJ13_bitCount_95d88 57 = .ok (.bipush 127, 2) := dq_937.2.2.2.2.2.2.2.2.2.2.1
theorem dJ13_bitCount_95d88_59 : decode cJ13_bitCount_95d88 59 = .ok (.iand, 1) := dq_937.2.2.2.2.2.2.2.2.2.2.2
theorem dJ13_bitCount_95d88_60 : decode cJ13_bitCount_95d88 60 = .ok (.ireturn, 1) := by decide +kernel
theorem dq_939 : decode cJ9_abs_0f7a4 0 = .ok (.iload_n 0, 1) ∧ decode cJ9_abs_0f7a4 1 = .ok (.ifCond .ge 8, 3) ∧ decode cJ9_abs_0f7a4 4 = .ok (.iload_n 0, 1) ∧ decode cJ9_abs_0f7a4 5 = .ok (.ineg, 1) ∧ decode cJ9_abs_0f7a4 6 = .ok (.goto 4, 3) ∧ decode cJ9_abs_0f7a4 9 = .ok (.iload_n 0, 1) ∧ decode cJ9_abs_0f7a4 10 = .ok (.ireturn, 1) := by decide +kernel
theorem dJ9_abs_0f7a4_0 : decode cJ9_abs_0f7a4 0 = .ok (.iload_n 0, 1) := dq_939.1
theorem dJ9_abs_0f7a4_1 : decode cJ9_abs_0f7a4 1 = .ok (.ifCond .ge 8, 3) := dq_939.2.1
theorem dJ9_abs_0f7a4_4 : decode cJ9_abs_0f7a4 4 = .ok (.iload_n 0, 1) := dq_939.2.2.1
theorem dJ9_abs_0f7a4_5 : decode cJ9_abs_0f7a4 5 = .ok (.ineg, 1) := dq_939.2.2.2.1
theorem dJ9_abs_0f7a4_6 : decode cJ9_abs_0f7a4 6 = .ok (.goto 4, 3) := dq_939.2.2.2.2.1
theorem dJ9_abs_0f7a4_9 : decode cJ9_abs_0f7a4 9 = .ok (.iload_n 0, 1) := dq_939.2.2.2.2.2.1
theorem dJ9_abs_0f7a4_10 : decode cJ9_abs_0f7a4 10 = .ok (.ireturn, 1) := dq_939.2.2.2.2.2.2
theorem dq_940 : decode cJ9_max_7cf53 0 = .ok (.iload_n 0, 1) ∧ decode cJ9_max_7cf53 1 = .ok (.iload_n 1, 1) ∧ decode cJ9_max_7cf53 2 = .ok (.if_icmp .lt 7, 3) ∧ decode cJ9_max_7cf53 5 = .ok (.iload_n 0, 1) ∧ decode cJ9_max_7cf53 6 = .ok (.goto 4, 3) ∧ decode cJ9_max_7cf53 9 = .ok (.iload_n 1, 1) ∧ decode cJ9_max_7cf53 10 = .ok (.ireturn, 1) := by decide +kernel
theorem dJ9_max_7cf53_0 : decode cJ9_max_7cf53 0 = .ok (.iload_n 0, 1) := dq_940.1
theorem dJ9_max_7cf53_1 : decode cJ9_max_7cf53 1 = .ok (.iload_n 1, 1) := dq_940.2.1
theorem dJ9_max_7cf53_2 : decode cJ9_max_7cf53 2 = .ok (.if_icmp .lt 7, 3) := dq_940.2.2.1
theorem dJ9_max_7cf53_5 : decode cJ9_max_7cf53 5 = .ok (.iload_n 0, 1) := dq_940.2.2.2.1
theorem dJ9_max_7cf53_6 : decode cJ9_max_7cf53 6 = .ok (.goto 4, 3) := dq_940.2.2.2.2.1
theorem dJ9_max_7cf53_9 : decode cJ9_max_7cf53 9 = .ok (.iload_n 1, 1) := dq_940.2.2.2.2.2.1
theorem dJ9_max_7cf53_10 : decode cJ9_max_7cf53 10 = .ok (.ireturn, 1) := dq_940.2.2.2.2.2.2
theorem dq_941 : decode cJ9_max_f86c9 0 = .ok (.lload_n 0, 1) ∧ decode cJ9_max_f86c9 1 = .ok (.lload_n 2, 1) ∧ decode cJ9_max_f86c9 2 = .ok (.lcmp, 1) ∧ decode cJ9_max_f86c9 3 = .ok (.ifCond .lt 7, 3) ∧ decode cJ9_max_f86c9 6 = .ok (.lload_n 0, 1) ∧ decode cJ9_max_f86c9 7 = .ok (.goto 4, 3) ∧ decode cJ9_max_f86c9 10 = .ok (.lload_n 2, 1) ∧ decode cJ9_max_f86c9 11 = .ok (.lreturn, 1) := by decide +kernel
theorem dJ9_max_f86c9_0 : decode cJ9_max_f86c9 0 = .ok (.lload_n 0, 1) := dq_941.1
theorem dJ9_max_f86c9_1 : decode cJ9_max_f86c9 1 = .ok (.lload_n 2, 1) := dq_941.2.1
theorem dJ9_max_f86c9_2 : decode cJ9_max_f86c9 2 = .ok (.lcmp, 1) := dq_941.2.2.1
theorem dJ9_max_f86c9_3 : decode cJ9_max_f86c9 3 = .ok (.ifCond .lt 7, 3) := dq_941.2.2.2.1
theorem dJ9_max_f86c9_6 : decode cJ9_max_f86c9 6 = .ok (.lload_n 0, 1) := dq_941.2.2.2.2.1
theorem dJ9_max_f86c9_7 : decode cJ9_max_f86c9 7 = .ok (.goto 4, 3) := dq_941.2.2.2.2.2.1
theorem dJ9_max_f86c9_10 : decode cJ9_max_f86c9 10 = .ok (.lload_n 2, 1) := dq_941.2.2.2.2.2.2.1
theorem dJ9_max_f86c9_11 : decode cJ9_max_f86c9 11 = .ok (.lreturn, 1) := dq_941.2.2.2.2.2.2.2
theorem dq_942 : decode cJ9_min_7cf53 0 = .ok (.iload_n 0, 1) ∧ decode cJ9_min_7cf53 1 = .ok (.iload_n 1, 1) ∧ decode cJ9_min_7cf53 2 = .ok (.if_icmp .gt 7, 3) ∧ decode cJ9_min_7cf53 5 = .ok (.iload_n 0, 1) ∧ decode cJ9_min_7cf53 6 = .ok (.goto 4, 3) ∧ decode cJ9_min_7cf53 9 = .ok (.iload_n 1, 1) ∧ decode cJ9_min_7cf53 10 = .ok (.ireturn, 1) := by decide +kernel
theorem dJ9_min_7cf53_0 : decode cJ9_min_7cf53 0 = .ok (.iload_n 0, 1) := dq_942.1
theorem dJ9_min_7cf53_1 : decode cJ9_min_7cf53 1 = .ok (.iload_n 1, 1) := dq_942.2.1
theorem dJ9_min_7cf53_2 : decode cJ9_min_7cf53 2 = .ok (.if_icmp .gt 7, 3) := dq_942.2.2.1
theorem dJ9_min_7cf53_5 : decode cJ9_min_7cf53 5 = .ok (.iload_n 0, 1) := dq_942.2.2.2.1
theorem dJ9_min_7cf53_6 : decode cJ9_min_7cf53 6 = .ok (.goto 4, 3) := dq_942.2.2.2.2.1
theorem dJ9_min_7cf53_9 : decode cJ9_min_7cf53 9 = .ok (.iload_n 1, 1) := dq_942.2.2.2.2.2.1
theorem dJ9_min_7cf53_10 : decode cJ9_min_7cf53 10 = .ok (.ireturn, 1) := dq_942.2.2.2.2.2.2
theorem dq_943 : decode cJ0_length_8abf5 0 = .ok (.aload_n 0, 1) ∧ decode cJ0_length_8abf5 1 = .ok (.getfield 9, 3) ∧ decode cJ0_length_8abf5 4 = .ok (.arraylength, 1) ∧ decode cJ0_length_8abf5 5 = .ok (.aload_n 0, 1) ∧ decode cJ0_length_8abf5 6 = .ok (.invokevirtual 335, 3) ∧ decode cJ0_length_8abf5 9 = .ok (.ishr, 1) ∧ decode cJ0_length_8abf5 10 = .ok (.ireturn, 1) := by decide +kernel
theorem dJ0_length_8abf5_0 : decode cJ0_length_8abf5 0 = .ok (.aload_n 0, 1) := dq_943.1
theorem dJ0_length_8abf5_1 : decode cJ0_length_8abf5 1 = .ok (.getfield 9, 3) := dq_943.2.1
theorem dJ0_length_8abf5_4 : decode cJ0_length_8abf5 4 = .ok (.arraylength, 1) := dq_943.2.2.1
theorem dJ0_length_8abf5_5 : decode cJ0_length_8abf5 5 = .ok (.aload_n 0, 1) := dq_943.2.2.2.1
theorem dJ0_length_8abf5_6 : decode cJ0_length_8abf5 6 = .ok (.invokevirtual 335, 3) := dq_943.2.2.2.2.1
theorem dJ0_length_8abf5_9 : decode cJ0_length_8abf5 9 = .ok (.ishr, 1) := dq_943.2.2.2.2.2.1
theorem dJ0_length_8abf5_10 : decode cJ0_length_8abf5 10 = .ok (.ireturn, 1) := dq_943.2.2.2.2.2.2
theorem dq_944 : decode cJ0_charAt_5068e 0 = .ok (.aload_n 0, 1) ∧ decode cJ0_charAt_5068e 1 = .ok (.invokevirtual 492, 3) ∧ decode cJ0_charAt_5068e 4 = .ok (.ifCond .eq 12, 3) ∧ decode cJ0_charAt_5068e 7 = .ok (.aload_n 0, 1) ∧ decode cJ0_charAt_5068e 8 = .ok (.getfield 9, 3) ∧ decode cJ0_charAt_5068e 11 = .ok (.iload_n 1, 1) ∧ decode cJ0_charAt_5068e 12 = .ok (.invokestatic 495, 3) ∧ decode cJ0_charAt_5068e 15 = .ok (.ireturn, 1) ∧ decode cJ0_charAt_5068e 16 = .ok (.aload_n 0, 1) ∧ decode cJ0_charAt_5068e 17 = .ok (.getfield 9, 3) ∧ decode cJ0_charAt_5068e 20 = .ok (.iload_n 1, 1) ∧ decode cJ0_charAt_5068e 21 = .ok (.invokestatic 498, 3) := by decide +kernel
theorem dJ0_charAt_5068e_0 : decode cJ0_charAt_5068e 0 = .ok (.aload_n 0, 1) := dq_944.1
theorem dJ0_charAt_5068e_1 : decode cJ0_charAt_5068e 1 = .ok (.invokevirtual 492, 3) := dq_944.2.1
theorem dJ0_charAt_5068e_4 : decode cJ0_charAt_5068e 4 = .ok (.ifCond .eq 12, 3) := dq_944.2.2.1
theorem dJ0_charAt_5068e_7 : decode cJ0_charAt_5068e 7 = .ok (.aload_n 0, 1) := dq_944.2.2.2.1
theorem dJ0_charAt_5068e_8 : decode cJ0_charAt_5068e 8 = .ok (.getfield 9, 3) := dq_944.2.2.2.2.1
theorem dJ0_charAt_5068e_11 : decode cJ0_charAt_5068e 11 = .ok (.iload_n 1, 1) := dq_944.2.2.2.2.2.1
theorem dJ0_charAt_5068e_12 : decode cJ0_charAt_5068e 12 = .ok (.invokestatic 495, 3) := dq_944.2.2.2.2.2.2.1
theorem dJ0_charAt_5068e_15 : decode cJ0_charAt_5068e 15 = .ok (.ireturn, 1) := dq_944.2.2.2.2.2.2.2.1
theorem dJ0_charAt_5068e_16 : decode cJ0_charAt_5068e 16 = .ok (.aload_n 0, 1) := dq_944.2.2.2.2.2.2.2.2.1
theorem dJ0_charAt_5068e_17 : decode cJ0_charAt_5068e 17 = .ok (.getfield 9, 3) := dq_944.2.2.2.2.2.2.2.2.2.1
theorem dJ0_charAt_5068e_20 : decode cJ0_charAt_5068e 20 = .ok (.iload_n 1, 1) := dq_944.2.2.2.2.2.2.2.2.2.2.1
theorem dJ0_charAt_5068e_21 : decode cJ0_charAt_5068e 21 = .ok (.invokestatic 498, 3) := dq_944.2.2.2.2.2.2.2.2.2.2.2
theorem dJ0_charAt_5068e_24 : decode cJ0_charAt_5068e 24 = .ok (.ireturn, 1) := by decide +kernel
theorem dq_946 : decode cJ0_coder_7d493 0 = .ok (.getstatic 38, 3) ∧ decode cJ0_coder_7d493 3 = .ok (.ifCond .eq 10, 3) ∧ decode cJ0_coder_7d493 6 = .ok (.aload_n 0, 1) ∧ decode cJ0_coder_7d493 7 = .ok (.getfield 15, 3) ∧ decode cJ0_coder_7d493 10 = .ok (.goto 4, 3) ∧ decode cJ0_coder_7d493 13 = .ok (.iconst 1, 1) ∧ decode cJ0_coder_7d493 14 = .ok (.ireturn, 1) := by decide +kernel
theorem dJ0_coder_7d493_0 : decode cJ0_coder_7d493 0 = .ok (.getstatic 38, 3) := dq_946.1
theorem dJ0_coder_7d493_3 : decode cJ0_coder_7d493 3 = .ok (.ifCond .eq 10, 3) := dq_946.2.1
theorem dJ0_coder_7d493_6 : decode cJ0_coder_7d493 6 = .ok (.aload_n 0, 1) := dq_946.2.2.1
theorem dJ0_coder_7d493_7 : decode cJ0_coder_7d493 7 = .ok (.getfield 15, 3) := dq_946.2.2.2.1
theorem dJ0_coder_7d493_10 : decode cJ0_coder_7d493 10 = .ok (.goto 4, 3) := dq_946.2.2.2.2.1
theorem dJ0_coder_7d493_13 : decode cJ0_coder_7d493 13 = .ok (.iconst 1, 1) := dq_946.2.2.2.2.2.1
theorem dJ0_coder_7d493_14 : decode cJ0_coder_7d493 14 = .ok (.ireturn, 1) := dq_946.2.2.2.2.2.2
theorem dq_947 : decode cJ0_isLatin1_aae02 0 = .ok (.getstatic 38, 3) ∧ decode cJ0_isLatin1_aae02 3 = .ok (.ifCond .eq 14, 3) ∧ decode cJ0_isLatin1_aae02 6 = .ok (.aload_n 0, 1) ∧ decode cJ0_isLatin1_aae02 7 = .ok (.getfield 15, 3) ∧ decode cJ0_isLatin1_aae02 10 = .ok (.ifCond .ne 7, 3) ∧ decode cJ0_isLatin1_aae02 13 = .ok (.iconst 1, 1) ∧ decode cJ0_isLatin1_aae02 14 = .ok (.goto 4, 3) ∧ decode cJ0_isLatin1_aae02 17 = .ok (.iconst 0, 1) ∧ decode cJ0_isLatin1_aae02 18 = .ok (.ireturn, 1) := by decide +kernel
theorem dJ0_isLatin1_aae02_0 : decode cJ0_isLatin1_aae02 0 = .ok (.getstatic 38, 3) := dq_947.1
theorem dJ0_isLatin1_aae02_3 : decode cJ0_isLatin1_aae02 3 = .ok (.ifCond .eq 14, 3) := dq_947.2.1
theorem dJ0_isLatin1_aae02_6 : decode cJ0_isLatin1_aae02 6 = .ok (.aload_n 0, 1) := dq_947.2.2.1
theorem dJ0_isLatin1_aae02_7 : decode cJ0_isLatin1_aae02 7 = .ok (.getfield 15, 3) := dq_947.2.2.2.1
theorem dJ0_isLatin1_aae02_10 : decode cJ0_isLatin1_aae02 10 = .ok (.ifCond .ne 7, 3) := dq_947.2.2.2.2.1
theorem dJ0_isLatin1_aae02_13 : decode cJ0_isLatin1_aae02 13 = .ok (.iconst 1, 1) := dq_947.2.2.2.2.2.1
theorem dJ0_isLatin1_aae02_14 : decode cJ0_isLatin1_aae02 14 = .ok (.goto 4, 3) := dq_947.2.2.2.2.2.2.1
theorem dJ0_isLatin1_aae02_17 : decode cJ0_isLatin1_aae02 17 = .ok (.iconst 0, 1) := dq_947.2.2.2.2.2.2.2.1
theorem dJ0_isLatin1_aae02_18 : decode cJ0_isLatin1_aae02 18 = .ok (.ireturn, 1) := dq_947.2.2.2.2.2.2.2.2
theorem dq_948 : decode cJ0_checkIndex_df160 0 = .ok (.iload_n 0, 1) ∧ decode cJ0_checkIndex_df160 1 = .ok (.iload_n 1, 1) ∧ decode cJ0_checkIndex_df160 2 = .ok (.getstatic 1053, 3) ∧ decode cJ0_checkIndex_df160 5 = .ok (.invokestatic 1059, 3) ∧ decode cJ0_checkIndex_df160 8 = .ok (.pop, 1) ∧ decode cJ0_checkIndex_df160 9 = .ok (.return_, 1) := by decide +kernel
theorem dJ0_checkIndex_df160_0 : decode cJ0_checkIndex_df160 0 = .ok (.iload_n 0, 1) := dq_948.1
theorem dJ0_checkIndex_df160_1 : decode cJ0_checkIndex_df160 1 = .ok (.iload_n 1, 1) := dq_948.2.1
theorem dJ0_checkIndex_df160_2 : decode cJ0_checkIndex_df160 2 = .ok (.getstatic 1053, 3) := dq_948.2.2.1
theorem dJ0_checkIndex_df160_5 : decode cJ0_checkIndex_df160 5 = .ok (.invokestatic 1059, 3) := dq_948.2.2.2.1
theorem dJ0_checkIndex_df160_8 : decode cJ0_checkIndex_df160 8 = .ok (.pop, 1) := dq_948.2.2.2.2.1
theorem dJ0_checkIndex_df160_9 : decode cJ0_checkIndex_df160 9 = .ok (.return_, 1) := dq_948.2.2.2.2.2
theorem dq_949 : decode cJ1_charAt_3b067 0 = .ok (.iload_n 1, 1) ∧ decode cJ1_charAt_3b067 1 = .ok (.aload_n 0, 1) ∧ decode cJ1_charAt_3b067 2 = .ok (.arraylength, 1) ∧ decode cJ1_charAt_3b067 3 = .ok (.invokestatic 9, 3) ∧ decode cJ1_charAt_3b067 6 = .ok (.aload_n 0, 1) ∧ decode cJ1_charAt_3b067 7 = .ok (.iload_n 1, 1) ∧ decode cJ1_charAt_3b067 8 = .ok (.baload, 1) ∧ decode cJ1_charAt_3b067 9 = .ok (.sipush 255, 3) ∧ decode cJ1_charAt_3b067 12 = .ok (.iand, 1) ∧ decode cJ1_charAt_3b067 13 = .ok (.i2c, 1) ∧ decode cJ1_charAt_3b067 14 = .ok (.ireturn, 1) := by decide +kernel
theorem dJ1_charAt_3b067_0 : decode cJ1_charAt_3b067 0 = .ok (.iload_n 1, 1) := dq_949.1
theorem dJ1_charAt_3b067_1 : decode cJ1_charAt_3b067 1 = .ok (.aload_n 0, 1) := dq_949.2.1
theorem dJ1_charAt_3b067_2 : decode cJ1_charAt_3b067 2 = .ok (.arraylength, 1) := dq_949.2.2.1
theorem dJ1_charAt_3b067_3 : decode cJ1_charAt_3b067 3 = .ok (.invokestatic 9, 3) := dq_949.2.2.2.1
theorem dJ1_charAt_3b067_6 : decode cJ1_charAt_3b067 6 = .ok (.aload_n 0, 1) := dq_949.2.2.2.2.1
theorem dJ1_charAt_3b067_7 : decode cJ1_charAt_3b067 7 = .ok (.iload_n 1, 1) := dq_949.2.2.2.2.2.1
theorem dJ1_charAt_3b067_8 : decode cJ1_charAt_3b067 8 = .ok (.baload, 1) := dq_949.2.2.2.2.2.2.1
theorem dJ1_charAt_3b067_9 : decode cJ1_charAt_3b067 9 = .ok (.sipush 255, 3) := dq_949.2.2.2.2.2.2.2.1
theorem dJ1_charAt_3b067_12 : decode cJ1_charAt_3b067 12 = .ok (.iand, 1) := dq_949.2.2.2.2.2.2.2.2.1
theorem dJ1_charAt_3b067_13 : decode cJ1_charAt_3b067 13 = .ok (.i2c, 1) := dq_949.2.2.2.2.2.2.2.2.2.1
theorem dJ1_charAt_3b067_14 : decode cJ1_charAt_3b067 14 = .ok (.ireturn, 1) := dq_949.2.2.2.2.2.2.2.2.2.2
theorem dq_950 : decode cJ2_getChar_3b067 0 = .ok (.getstatic 44, 3) ∧ decode cJ2_getChar_3b067 3 = .ok (.ifCond .ne 25, 3) ∧ decode cJ2_getChar_3b067 6 = .ok (.iload_n 1, 1) ∧ decode cJ2_getChar_3b067 7 = .ok (.ifCond .lt 11, 3) ∧ decode cJ2_getChar_3b067 10 = .ok (.iload_n 1, 1) ∧ decode cJ2_getChar_3b067 11 = .ok (.aload_n 0, 1) ∧ decode cJ2_getChar_3b067 12 = .ok (.invokestatic 48, 3) ∧ decode cJ2_getChar_3b067 15 = .ok (.if_icmp .lt 13, 3) ∧ decode cJ2_getChar_3b067 18 = .ok (.new 52, 3) ∧ decode cJ2_getChar_3b067 21 = .ok (.dup, 1) ∧ decode cJ2_getChar_3b067 22 = .ok (.ldc 54, 2) ∧ decode cJ2_getChar_3b067 24 = .ok (.invokespecial 56, 3) := by decide +kernel
theorem dJ2_getChar_3b067_0 : decode cJ2_getChar_3b067 0 = .ok (.getstatic 44, 3) := dq_950.1
theorem dJ2_getChar_3b067_3 : decode cJ2_getChar_3b067 3 = .ok (.ifCond .ne 25, 3) := dq_950.2.1
theorem dJ2_getChar_3b067_6 : decode cJ2_getChar_3b067 6 = .ok (.iload_n 1, 1) := dq_950.2.2.1
theorem dJ2_getChar_3b067_7 : decode cJ2_getChar_3b067 7 = .ok (.ifCond .lt 11, 3) := dq_950.2.2.2.1
theorem dJ2_getChar_3b067_10 : decode cJ2_getChar_3b067 10 = .ok (.iload_n 1, 1) := dq_950.2.2.2.2.1
theorem dJ2_getChar_3b067_11 : decode cJ2_getChar_3b067 11 = .ok (.aload_n 0, 1) := dq_950.2.2.2.2.2.1
theorem dJ2_getChar_3b067_12 : decode cJ2_getChar_3b067 12 = .ok (.invokestatic 48, 3) := dq_950.2.2.2.2.2.2.1
theorem dJ2_getChar_3b067_15 : decode cJ2_getChar_3b067 15 = .ok (.if_icmp .lt 13, 3) := dq_950.2.2.2.2.2.2.2.1
theorem dJ2_getChar_3b067_18 : decode cJ2_getChar_3b067 18 = .ok (.new 52, 3) := dq_950.2.2.2.2.2.2.2.2.1
theorem dJ2_getChar_3b067_21 : decode cJ2_getChar_3b067 21 = .ok (.dup, 1) := dq_950.2.2.2.2.2.2.2.2.2.1
theorem dJ2_getChar_3b067_22 : decode cJ2_getChar_3b067 22 = .ok (.ldc 54, 2) := dq_950.2.2.2.2.2.2.2.2.2.2.1
theorem dJ2_getChar_3b067_24 : decode cJ2_getChar_3b067 24 = .ok (.invokespecial 56, 3) := dq_950.2.2.2.2.2.2.2.2.2.2.2
theorem dq_951 : decode cJ2_getChar_3b067 27 = .ok (.athrow, 1) ∧ decode cJ2_getChar_3b067 28 = .ok (.iload_n 1, 1) ∧ decode cJ2_getChar_3b067 29 = .ok (.iconst 1, 1) ∧ decode cJ2_getChar_3b067 30 = .ok (.ishl, 1) ∧ decode cJ2_getChar_3b067 31 = .ok (.istore_n 1, 1) ∧ decode cJ2_getChar_3b067 32 = .ok (.aload_n 0, 1) ∧ decode cJ2_getChar_3b067 33 = .ok (.iload_n 1, 1) ∧ decode cJ2_getChar_3b067 34 = .ok (.iinc 1 1, 3) ∧ decode cJ2_getChar_3b067 37 = .ok (.baload, 1) ∧ decode cJ2_getChar_3b067 38 = .ok (.sipush 255, 3) ∧ decode cJ2_getChar_3b067 41 = .ok (.iand, 1) ∧ decode cJ2_getChar_3b067 42 = .ok (.getstatic 59, 3) := by decide +kernel
theorem dJ2_getChar_3b067_27 : decode cJ2_getChar_3b067 27 = .ok (.athrow, 1) := dq_951.1
theorem dJ2_getChar_3b067_28 : decode cJ2_getChar_3b067 28 = .ok (.iload_n 1, 1) := dq_951.2.1
theorem dJ2_getChar_3b067_29 : decode cJ2_getChar_3b067 29 = .ok (.iconst 1, 1) := dq_951.2.2.1
theorem dJ2_getChar_3b067_30 : decode cJ2_getChar_3b067 30 = .ok (.ishl, 1) := dq_951.2.2.2.1
theorem dJ2_getChar_3b067_31 : decode cJ2_getChar_3b067 31 = .ok (.istore_n 1, 1) := dq_951.2.2.2.2.1
theorem dJ2_getChar_3b067_32 : decode cJ2_getChar_3b067 32 = .ok (.aload_n 0, 1) := dq_951.2.2.2.2.2.1
theorem dJ2_getChar_3b067_33 : decode cJ2_getChar_3b067 33 = .ok (.iload_n 1, 1) := dq_951.2.2.2.2.2.2.1
theorem dJ2_getChar_3b067_34 : decode cJ2_getChar_3b067 34 = .ok (.iinc 1 1, 3) := dq_951.2.2.2.2.2.2.2.1
theorem dJ2_getChar_3b067_37 : decode cJ2_getChar_3b067 37 = .ok (.baload, 1) := dq_951.2.2.2.2.2.2.2.2.1
theorem dJ2_getChar_3b067_38 : decode cJ2_getChar_3b067 38 = .ok (.sipush 255, 3) := dq_951.2.2.2.2.2.2.2.2.2.1
theorem dJ2_getChar_3b067_41 : decode cJ2_getChar_3b067 41 = .ok (.iand, 1) := dq_951.2.2.2.2.2.2.2.2.2.2.1
theorem dJ2_getChar_3b067_42 : decode cJ2_getChar_3b067 42 = .ok (.getstatic 59, 3) := dq_951.2.2.2.2.2.2.2.2.2.2.2
theorem dq_952 : decode cJ2_getChar_3b067 45 = .ok (.ishl, 1) ∧ decode cJ2_getChar_3b067 46 = .ok (.aload_n 0, 1) ∧ decode cJ2_getChar_3b067 47 = .ok (.iload_n 1, 1) ∧ decode cJ2_getChar_3b067 48 = .ok (.baload, 1) ∧ decode cJ2_getChar_3b067 49 = .ok (.sipush 255, 3) ∧ decode cJ2_getChar_3b067 52 = .ok (.iand, 1) ∧ decode cJ2_getChar_3b067 53 = .ok (.getstatic 63, 3) ∧ decode cJ2_getChar_3b067 56 = .ok (.ishl, 1) ∧ decode cJ2_getChar_3b067 57 = .ok (.ior, 1) ∧ decode cJ2_getChar_3b067 58 = .ok (.i2c, 1) ∧ decode cJ2_getChar_3b067 59 = .ok (.ireturn, 1) := by decide +kernel
theorem dJ2_getChar_3b067_45 : decode cJ2_getChar_3b067 45 = .ok (.ishl, 1) := dq_952.1
theorem dJ2_getChar_3b067_46 : decode cJ2_getChar_3b067 46 = .ok (.aload_n 0, 1) := dq_952.2.1
theorem dJ2_getChar_3b067_47 : decode cJ2_getChar_3b067 47 = .ok (.iload_n 1, 1) := dq_952.2.2.1
theorem dJ2_getChar_3b067_48 : decode cJ2_getChar_3b067 48 = .ok (.baload, 1) := dq_952.2.2.2.1
theorem dJ2_getChar_3b067_49 : decode cJ2_getChar_3b067 49 = .ok (.sipush 255, 3) := dq_952.2.2.2.2.1
theorem dJ2_getChar_3b067_52 : decode cJ2_getChar_3b067 52 = .ok (.iand, 1) := dq_952.2.2.2.2.2.1
theorem dJ2_getChar_3b067_53 : decode cJ2_getChar_3b067 53 = .ok (.getstatic 63, 3) := dq_952.2.2.2.2.2.2.1
theorem dJ2_getChar_3b067_56 : decode cJ2_getChar_3b067 56 = .ok (.ishl, 1) := dq_952.2.2.2.2.2.2.2.1
theorem dJ2_getChar_3b067_57 : decode cJ2_getChar_3b067 57 = .ok (.ior, 1) := dq_952.2.2.2.2.2.2.2.2.1
theorem dJ2_getChar_3b067_58 : decode cJ2_getChar_3b067 58 = .ok (.i2c, 1) := dq_952.2.2.2.2.2.2.2.2.2.1
theorem dJ2_getChar_3b067_59 : decode cJ2_getChar_3b067 59 = .ok (.ireturn, 1) := dq_952.2.2.2.2.2.2.2.2.2.2
theorem dq_953 : decode cJ2_length_9d52b 0 = .ok (.aload_n 0, 1) ∧ decode cJ2_length_9d52b 1 = .ok (.arraylength, 1) ∧ decode cJ2_length_9d52b 2 = .ok (.iconst 1, 1) ∧ decode cJ2_length_9d52b 3 = .ok (.ishr, 1) ∧ decode cJ2_length_9d52b 4 = .ok (.ireturn, 1) := by decide +kernel
theorem dJ2_length_9d52b_0 : decode cJ2_length_9d52b 0 = .ok (.aload_n 0, 1) := dq_953.1
theorem dJ2_length_9d52b_1 : decode cJ2_length_9d52b 1 = .ok (.arraylength, 1) := dq_953.2.1
theorem dJ2_length_9d52b_2 : decode cJ2_length_9d52b 2 = .ok (.iconst 1, 1) := dq_953.2.2.1
theorem dJ2_length_9d52b_3 : decode cJ2_length_9d52b 3 = .ok (.ishr, 1) := dq_953.2.2.2.1
theorem dJ2_length_9d52b_4 : decode cJ2_length_9d52b 4 = .ok (.ireturn, 1) := dq_953.2.2.2.2
theorem dq_954 : decode cJ2_charAt_3b067 0 = .ok (.iload_n 1, 1) ∧ decode cJ2_charAt_3b067 1 = .ok (.aload_n 0, 1) ∧ decode cJ2_charAt_3b067 2 = .ok (.invokestatic 67, 3) ∧ decode cJ2_charAt_3b067 5 = .ok (.aload_n 0, 1) ∧ decode cJ2_charAt_3b067 6 = .ok (.iload_n 1, 1) ∧ decode cJ2_charAt_3b067 7 = .ok (.invokestatic 71, 3) ∧ decode cJ2_charAt_3b067 10 = .ok (.ireturn, 1) := by decide +kernel
theorem dJ2_charAt_3b067_0 : decode cJ2_charAt_3b067 0 = .ok (.iload_n 1, 1) := dq_954.1
theorem dJ2_charAt_3b067_1 : decode cJ2_charAt_3b067 1 = .ok (.aload_n 0, 1) := dq_954.2.1
theorem dJ2_charAt_3b067_2 : decode cJ2_charAt_3b067 2 = .ok (.invokestatic 67, 3) := dq_954.2.2.1
theorem dJ2_charAt_3b067_5 : decode cJ2_charAt_3b067 5 = .ok (.aload_n 0, 1) := dq_954.2.2.2.1
theorem dJ2_charAt_3b067_6 : decode cJ2_charAt_3b067 6 = .ok (.iload_n 1, 1) := dq_954.2.2.2.2.1
theorem dJ2_charAt_3b067_7 : decode cJ2_charAt_3b067 7 = .ok (.invokestatic 71, 3) := dq_954.2.2.2.2.2.1
theorem dJ2_charAt_3b067_10 : decode cJ2_charAt_3b067 10 = .ok (.ireturn, 1) := dq_954.2.2.2.2.2.2
theorem dq_955 : decode cJ2_checkIndex_2214a 0 = .ok (.iload_n 0, 1) ∧ decode cJ2_checkIndex_2214a 1 = .ok (.aload_n 1, 1) ∧ decode cJ2_checkIndex_2214a 2 = .ok (.invokestatic 48, 3) ∧ decode cJ2_checkIndex_2214a 5 = .ok (.invokestatic 414, 3) ∧ decode cJ2_checkIndex_2214a 8 = .ok (.return_, 1) := by decide +kernel
theorem dJ2_checkIndex_2214a_0 : decode cJ2_checkIndex_2214a 0 = .ok (.iload_n 0, 1) := dq_955.1
theorem dJ2_checkIndex_2214a_1 : decode cJ2_checkIndex_2214a 1 = .ok (.aload_n 1, 1) := dq_955.2.1
theorem dJ2_checkIndex_2214a_2 : decode cJ2_checkIndex_2214a 2 = .ok (.invokestatic 48, 3) := dq_955.2.2.1
theorem dJ2_checkIndex_2214a_5 : decode cJ2_checkIndex_2214a 5 = .ok (.invokestatic 414, 3) := dq_955.2.2.2.1
theorem dJ2_checkIndex_2214a_8 : decode cJ2_checkIndex_2214a 8 = .ok (.return_, 1) := dq_955.2.2.2.2
theorem dq_956 : decode cJ7_fill_d0a16 0 = .ok (.iconst 0, 1) ∧ decode cJ7_fill_d0a16 1 = .ok (.istore_n 3, 1) ∧ decode cJ7_fill_d0a16 2 = .ok (.aload_n 0, 1) ∧ decode cJ7_fill_d0a16 3 = .ok (.arraylength, 1) ∧ decode cJ7_fill_d0a16 4 = .ok (.istore 4, 2) ∧ decode cJ7_fill_d0a16 6 = .ok (.iload_n 3, 1) ∧ decode cJ7_fill_d0a16 7 = .ok (.iload 4, 2) ∧ decode cJ7_fill_d0a16 9 = .ok (.if_icmp .ge 13, 3) ∧ decode cJ7_fill_d0a16 12 = .ok (.aload_n 0, 1) ∧ decode cJ7_fill_d0a16 13 = .ok (.iload_n 3, 1) ∧ decode cJ7_fill_d0a16 14 = .ok (.lload_n 1, 1) ∧ decode cJ7_fill_d0a16 15 = .ok (.lastore, 1) := by decide +kernel
theorem dJ7_fill_d0a16_0 : decode cJ7_fill_d0a16 0 = .ok (.iconst 0, 1) := dq_956.1
theorem dJ7_fill_d0a16_1 : decode cJ7_fill_d0a16 1 = .ok (.istore_n 3, 1) := dq_956.2.1
theorem dJ7_fill_d0a16_2 : decode cJ7_fill_d0a16 2 = .ok (.aload_n 0, 1) := dq_956.2.2.1
theorem dJ7_fill_d0a16_3 : decode cJ7_fill_d0a16 3 = .ok (.arraylength, 1) := dq_956.2.2.2.1
theorem dJ7_fill_d0a16_4 : decode cJ7_fill_d0a16 4 = .ok (.istore 4, 2) := dq_956.2.2.2.2.1
theorem dJ7_fill_d0a16_6 : decode cJ7_fill_d0a16 6 = .ok (.iload_n 3, 1) := dq_956.2.2.2.2.2.1
theorem dJ7_fill_d0a16_7 : decode cJ7_fill_d0a16 7 = .ok (.iload 4, 2) := dq_956.2.2.2.2.2.2.1
theorem dJ7_fill_d0a16_9 : decode cJ7_fill_d0a16 9 = .ok (.if_icmp .ge 13, 3) := dq_956.2.2.2.2.2.2.2.1
theorem dJ7_fill_d0a16_12 : decode cJ7_fill_d0a16 12 = .ok (.aload_n 0, 1) := dq_956.2.2.2.2.2.2.2.2.1
theorem dJ7_fill_d0a16_13 : decode cJ7_fill_d0a16 13 = .ok (.iload_n 3, 1) := dq_956.2.2.2.2.2.2.2.2.2.1
theorem dJ7_fill_d0a16_14 : decode cJ7_fill_d0a16 14 = .ok (.lload_n 1, 1) := dq_956.2.2.2.2.2.2.2.2.2.2.1
theorem dJ7_fill_d0a16_15 : decode cJ7_fill_d0a16 15 = .ok (.lastore, 1) := dq_956.2.2.2.2.2.2.2.2.2.2.2
theorem dq_957 : decode cJ7_fill_d0a16 16 = .ok (.iinc 3 1, 3) ∧ decode cJ7_fill_d0a16 19 = .ok (.goto (-13), 3) ∧ decode cJ7_fill_d0a16 22 = .ok (.return_, 1) := by decide +kernel
theorem dJ7_fill_d0a16_16 : decode cJ7_fill_d0a16 16 = .ok (.iinc 3 1, 3) := dq_957.1
theorem dJ7_fill_d0a16_19 : decode cJ7_fill_d0a16 19 = .ok (.goto (-13), 3) := dq_957.2.1
theorem dJ7_fill_d0a16_22 : decode cJ7_fill_d0a16 22 = .ok (.return_, 1) := dq_957.2.2
theorem dq_958 : decode cJ7_fill_53178 0 = .ok (.iconst 0, 1) ∧ decode cJ7_fill_53178 1 = .ok (.istore_n 2, 1) ∧ decode cJ7_fill_53178 2 = .ok (.aload_n 0, 1) ∧ decode cJ7_fill_53178 3 = .ok (.arraylength, 1) ∧ decode cJ7_fill_53178 4 = .ok (.istore_n 3, 1) ∧ decode cJ7_fill_53178 5 = .ok (.iload_n 2, 1) ∧ decode cJ7_fill_53178 6 = .ok (.iload_n 3, 1) ∧ decode cJ7_fill_53178 7 = .ok (.if_icmp .ge 13, 3) ∧ decode cJ7_fill_53178 10 = .ok (.aload_n 0, 1) ∧ decode cJ7_fill_53178 11 = .ok (.iload_n 2, 1) ∧ decode cJ7_fill_53178 12 = .ok (.iload_n 1, 1) ∧ decode cJ7_fill_53178 13 = .ok (.iastore, 1) := by decide +kernel
theorem dJ7_fill_53178_0 : decode cJ7_fill_53178 0 = .ok (.iconst 0, 1) := dq_958.1
theorem dJ7_fill_53178_1 : decode cJ7_fill_53178 1 = .ok (.istore_n 2, 1) := dq_958.2.1
theorem dJ7_fill_53178_2 : decode cJ7_fill_53178 2 = .ok (.aload_n 0, 1) := dq_958.2.2.1
theorem dJ7_fill_53178_3 : decode cJ7_fill_53178 3 = .ok (.arraylength, 1) := dq_958.2.2.2.1
theorem dJ7_fill_53178_4 : decode cJ7_fill_53178 4 = .ok (.istore_n 3, 1) := dq_958.2.2.2.2.1
theorem dJ7_fill_53178_5 : decode cJ7_fill_53178 5 = .ok (.iload_n 2, 1) := dq_958.2.2.2.2.2.1
theorem dJ7_fill_53178_6 : decode cJ7_fill_53178 6 = .ok (.iload_n 3, 1) := dq_958.2.2.2.2.2.2.1
theorem dJ7_fill_53178_7 : decode cJ7_fill_53178 7 = .ok (.if_icmp .ge 13, 3) := dq_958.2.2.2.2.2.2.2.1
theorem dJ7_fill_53178_10 : decode cJ7_fill_53178 10 = .ok (.aload_n 0, 1) := dq_958.2.2.2.2.2.2.2.2.1
theorem dJ7_fill_53178_11 : decode cJ7_fill_53178 11 = .ok (.iload_n 2, 1) := dq_958.2.2.2.2.2.2.2.2.2.1
theorem dJ7_fill_53178_12 : decode cJ7_fill_53178 12 = .ok (.iload_n 1, 1) := dq_958.2.2.2.2.2.2.2.2.2.2.1
theorem dJ7_fill_53178_13 : decode cJ7_fill_53178 13 = .ok (.iastore, 1) := dq_958.2.2.2.2.2.2.2.2.2.2.2
theorem dq_959 : decode cJ7_fill_53178 14 = .ok (.iinc 2 1, 3) ∧ decode cJ7_fill_53178 17 = .ok (.goto (-12), 3) ∧ decode cJ7_fill_53178 20 = .ok (.return_, 1) := by decide +kernel
theorem dJ7_fill_53178_14 : decode cJ7_fill_53178 14 = .ok (.iinc 2 1, 3) := dq_959.1
theorem dJ7_fill_53178_17 : decode cJ7_fill_53178 17 = .ok (.goto (-12), 3) := dq_959.2.1
theorem dJ7_fill_53178_20 : decode cJ7_fill_53178 20 = .ok (.return_, 1) := dq_959.2.2
theorem dq_960 : decode cJ3_checkIndex_8e157 0 = .ok (.iload_n 0, 1) ∧ decode cJ3_checkIndex_8e157 1 = .ok (.ifCond .lt 8, 3) ∧ decode cJ3_checkIndex_8e157 4 = .ok (.iload_n 0, 1) ∧ decode cJ3_checkIndex_8e157 5 = .ok (.iload_n 1, 1) ∧ decode cJ3_checkIndex_8e157 6 = .ok (.if_icmp .lt 10, 3) ∧ decode cJ3_checkIndex_8e157 9 = .ok (.aload_n 2, 1) ∧ decode cJ3_checkIndex_8e157 10 = .ok (.iload_n 0, 1) ∧ decode cJ3_checkIndex_8e157 11 = .ok (.iload_n 1, 1) ∧ decode cJ3_checkIndex_8e157 12 = .ok (.invokestatic 95, 3) ∧ decode cJ3_checkIndex_8e157 15 = .ok (.athrow, 1) ∧ decode cJ3_checkIndex_8e157 16 = .ok (.iload_n 0, 1) ∧ decode cJ3_checkIndex_8e157 17 = .ok (.ireturn, 1) := by decide +kernel
theorem dJ3_checkIndex_8e157_0 : decode cJ3_checkIndex_8e157 0 = .ok (.iload_n 0, 1) := dq_960.1
theorem dJ3_checkIndex_8e157_1 : decode cJ3_checkIndex_8e157 1 = .ok (.ifCond .lt 8, 3) := dq_960.2.1
theorem dJ3_checkIndex_8e157_4 : decode cJ3_checkIndex_8e157 4 = .ok (.iload_n 0, 1) := dq_960.2.2.1
theorem dJ3_checkIndex_8e157_5 : decode cJ3_checkIndex_8e157 5 = .ok (.iload_n 1, 1) := dq_960.2.2.2.1
theorem dJ3_checkIndex_8e157_6 : decode cJ3_checkIndex_8e157 6 = .ok (.if_icmp .lt 10, 3) := dq_960.2.2.2.2.1
theorem dJ3_checkIndex_8e157_9 : decode cJ3_checkIndex_8e157 9 = .ok (.aload_n 2, 1) := dq_960.2.2.2.2.2.1
theorem dJ3_checkIndex_8e157_10 : decode cJ3_checkIndex_8e157 10 = .ok (.iload_n 0, 1) := dq_960.2.2.2.2.2.2.1
theorem dJ3_checkIndex_8e157_11 : decode cJ3_checkIndex_8e157 11 = .ok (.iload_n 1, 1) := dq_960.2.2.2.2.2.2.2.1
theorem dJ3_checkIndex_8e157_12 : decode cJ3_checkIndex_8e157 12 = .ok (.invokestatic 95, 3) := dq_960.2.2.2.2.2.2.2.2.1
theorem dJ3_checkIndex_8e157_15 : decode cJ3_checkIndex_8e157 15 = .ok (.athrow, 1) := dq_960.2.2.2.2.2.2.2.2.2.1
theorem dJ3_checkIndex_8e157_16 : decode cJ3_checkIndex_8e157 16 = .ok (.iload_n 0, 1) := dq_960.2.2.2.2.2.2.2.2.2.2.1
theorem dJ3_checkIndex_8e157_17 : decode cJ3_checkIndex_8e157 17 = .ok (.ireturn, 1) := dq_960.2.2.2.2.2.2.2.2.2.2.2
theorem dq_961 : decode cL_law 0 = .ok (.new 7, 3) ∧ decode cL_law 3 = .ok (.dup, 1) ∧ decode cL_law 4 = .ok (.invokespecial 9, 3) ∧ decode cL_law 7 = .ok (.astore_n 1, 1) ∧ decode cL_law 8 = .ok (.new 10, 3) ∧ decode cL_law 11 = .ok (.dup, 1) ∧ decode cL_law 12 = .ok (.invokespecial 12, 3) ∧ decode cL_law 15 = .ok (.astore_n 2, 1) ∧ decode cL_law 16 = .ok (.iconst 0, 1) ∧ decode cL_law 17 = .ok (.istore_n 3, 1) ∧ decode cL_law 18 = .ok (.iload_n 3, 1) ∧ decode cL_law 19 = .ok (.aload_n 0, 1) := by decide +kernel
theorem dL_law_0 : decode cL_law 0 = .ok (.new 7, 3) := dq_961.1
theorem dL_law_3 : decode cL_law 3 = .ok (.dup, 1) := dq_961.2.1
theorem dL_law_4 : decode cL_law 4 = .ok (.invokespecial 9, 3) := dq_961.2.2.1
theorem dL_law_7 : decode cL_law 7 = .ok (.astore_n 1, 1) := dq_961.2.2.2.1
theorem dL_law_8 : decode cL_law 8 = .ok (.new 10, 3) := dq_961.2.2.2.2.1
theorem dL_law_11 : decode cL_law 11 = .ok (.dup, 1) := dq_961.2.2.2.2.2.1
theorem dL_law_12 : decode cL_law 12 = .ok (.invokespecial 12, 3) := dq_961.2.2.2.2.2.2.1
theorem dL_law_15 : decode cL_law 15 = .ok (.astore_n 2, 1) := dq_961.2.2.2.2.2.2.2.1
theorem dL_law_16 : decode cL_law 16 = .ok (.iconst 0, 1) := dq_961.2.2.2.2.2.2.2.2.1
theorem dL_law_17 : decode cL_law 17 = .ok (.istore_n 3, 1) := dq_961.2.2.2.2.2.2.2.2.2.1
theorem dL_law_18 : decode cL_law 18 = .ok (.iload_n 3, 1) := dq_961.2.2.2.2.2.2.2.2.2.2.1
theorem dL_law_19 : decode cL_law 19 = .ok (.aload_n 0, 1) := dq_961.2.2.2.2.2.2.2.2.2.2.2
theorem dq_962 : decode cL_law 20 = .ok (.arraylength, 1) ∧ decode cL_law 21 = .ok (.bipush 6, 2) ∧ decode cL_law 23 = .ok (.isub, 1) ∧ decode cL_law 24 = .ok (.if_icmp .gt 1484, 3) ∧ decode cL_law 27 = .ok (.aload_n 0, 1) ∧ decode cL_law 28 = .ok (.iload_n 3, 1) ∧ decode cL_law 29 = .ok (.iaload, 1) ∧ decode cL_law 30 = .ok (.bipush 63, 2) ∧ decode cL_law 32 = .ok (.iand, 1) ∧ decode cL_law 33 = .ok (.tableswitch 1469 0 42 #[187, 240, 263, 276, 289, 312, 345, 388, 421, 444, 497, 530, 553, 586, 600, 644, 667, 730, 763, 796, 819, 842, 855, 888, 901, 954, 1017, 1040, 1073, 1086, 1119, 1142, 1155, 1168, 1191, 1215, 1248, 1261, 1284, 1327, 1370, 1433, 1446], 187) ∧ decode cL_law 220 = .ok (.aload_n 1, 1) ∧ decode cL_law 221 = .ok (.aload_n 0, 1) := by decide +kernel
theorem dL_law_20 : decode cL_law 20 = .ok (.arraylength, 1) := dq_962.1
theorem dL_law_21 : decode cL_law 21 = .ok (.bipush 6, 2) := dq_962.2.1
theorem dL_law_23 : decode cL_law 23 = .ok (.isub, 1) := dq_962.2.2.1
theorem dL_law_24 : decode cL_law 24 = .ok (.if_icmp .gt 1484, 3) := dq_962.2.2.2.1
theorem dL_law_27 : decode cL_law 27 = .ok (.aload_n 0, 1) := dq_962.2.2.2.2.1
theorem dL_law_28 : decode cL_law 28 = .ok (.iload_n 3, 1) := dq_962.2.2.2.2.2.1
theorem dL_law_29 : decode cL_law 29 = .ok (.iaload, 1) := dq_962.2.2.2.2.2.2.1
theorem dL_law_30 : decode cL_law 30 = .ok (.bipush 63, 2) := dq_962.2.2.2.2.2.2.2.1
theorem dL_law_32 : decode cL_law 32 = .ok (.iand, 1) := dq_962.2.2.2.2.2.2.2.2.1
theorem dL_law_33 : decode cL_law 33 = .ok (.tableswitch 1469 0 42 #[187, 240, 263, 276, 289, 312, 345, 388, 421, 444, 497, 530, 553, 586, 600, 644, 667, 730, 763, 796, 819, 842, 855, 888, 901, 954, 1017, 1040, 1073, 1086, 1119, 1142, 1155, 1168, 1191, 1215, 1248, 1261, 1284, 1327, 1370, 1433, 1446], 187) := dq_962.2.2.2.2.2.2.2.2.2.1
theorem dL_law_220 : decode cL_law 220 = .ok (.aload_n 1, 1) := dq_962.2.2.2.2.2.2.2.2.2.2.1
theorem dL_law_221 : decode cL_law 221 = .ok (.aload_n 0, 1) := dq_962.2.2.2.2.2.2.2.2.2.2.2
theorem dq_963 : decode cL_law 222 = .ok (.iload_n 3, 1) ∧ decode cL_law 223 = .ok (.iconst 1, 1) ∧ decode cL_law 224 = .ok (.iadd, 1) ∧ decode cL_law 225 = .ok (.iaload, 1) ∧ decode cL_law 226 = .ok (.i2l, 1) ∧ decode cL_law 227 = .ok (.bipush 32, 2) ∧ decode cL_law 229 = .ok (.lshl, 1) ∧ decode cL_law 230 = .ok (.aload_n 0, 1) ∧ decode cL_law 231 = .ok (.iload_n 3, 1) ∧ decode cL_law 232 = .ok (.iconst 2, 1) ∧ decode cL_law 233 = .ok (.iadd, 1) ∧ decode cL_law 234 = .ok (.iaload, 1) := by decide +kernel
theorem dL_law_222 : decode cL_law 222 = .ok (.iload_n 3, 1) := dq_963.1
theorem dL_law_223 : decode cL_law 223 = .ok (.iconst 1, 1) := dq_963.2.1
theorem dL_law_224 : decode cL_law 224 = .ok (.iadd, 1) := dq_963.2.2.1
theorem dL_law_225 : decode cL_law 225 = .ok (.iaload, 1) := dq_963.2.2.2.1
theorem dL_law_226 : decode cL_law 226 = .ok (.i2l, 1) := dq_963.2.2.2.2.1
theorem dL_law_227 : decode cL_law 227 = .ok (.bipush 32, 2) := dq_963.2.2.2.2.2.1
theorem dL_law_229 : decode cL_law 229 = .ok (.lshl, 1) := dq_963.2.2.2.2.2.2.1
theorem dL_law_230 : decode cL_law 230 = .ok (.aload_n 0, 1) := dq_963.2.2.2.2.2.2.2.1
theorem dL_law_231 : decode cL_law 231 = .ok (.iload_n 3, 1) := dq_963.2.2.2.2.2.2.2.2.1
theorem dL_law_232 : decode cL_law 232 = .ok (.iconst 2, 1) := dq_963.2.2.2.2.2.2.2.2.2.1
theorem dL_law_233 : decode cL_law 233 = .ok (.iadd, 1) := dq_963.2.2.2.2.2.2.2.2.2.2.1
theorem dL_law_234 : decode cL_law 234 = .ok (.iaload, 1) := dq_963.2.2.2.2.2.2.2.2.2.2.2
theorem dq_964 : decode cL_law 235 = .ok (.i2l, 1) ∧ decode cL_law 236 = .ok (.ldc2_w 13, 3) ∧ decode cL_law 239 = .ok (.land, 1) ∧ decode cL_law 240 = .ok (.lor, 1) ∧ decode cL_law 241 = .ok (.invokevirtual 15, 3) ∧ decode cL_law 244 = .ok (.aload_n 2, 1) ∧ decode cL_law 245 = .ok (.aload_n 0, 1) ∧ decode cL_law 246 = .ok (.iload_n 3, 1) ∧ decode cL_law 247 = .ok (.iconst 1, 1) ∧ decode cL_law 248 = .ok (.iadd, 1) ∧ decode cL_law 249 = .ok (.iaload, 1) ∧ decode cL_law 250 = .ok (.i2l, 1) := by decide +kernel
theorem dL_law_235 : decode cL_law 235 = .ok (.i2l, 1) := dq_964.1
theorem dL_law_236 : decode cL_law 236 = .ok (.ldc2_w 13, 3) := dq_964.2.1
theorem dL_law_239 : decode cL_law 239 = .ok (.land, 1) := dq_964.2.2.1
theorem dL_law_240 : decode cL_law 240 = .ok (.lor, 1) := dq_964.2.2.2.1
theorem dL_law_241 : decode cL_law 241 = .ok (.invokevirtual 15, 3) := dq_964.2.2.2.2.1
theorem dL_law_244 : decode cL_law 244 = .ok (.aload_n 2, 1) := dq_964.2.2.2.2.2.1
theorem dL_law_245 : decode cL_law 245 = .ok (.aload_n 0, 1) := dq_964.2.2.2.2.2.2.1
theorem dL_law_246 : decode cL_law 246 = .ok (.iload_n 3, 1) := dq_964.2.2.2.2.2.2.2.1
theorem dL_law_247 : decode cL_law 247 = .ok (.iconst 1, 1) := dq_964.2.2.2.2.2.2.2.2.1
theorem dL_law_248 : decode cL_law 248 = .ok (.iadd, 1) := dq_964.2.2.2.2.2.2.2.2.2.1
theorem dL_law_249 : decode cL_law 249 = .ok (.iaload, 1) := dq_964.2.2.2.2.2.2.2.2.2.2.1
theorem dL_law_250 : decode cL_law 250 = .ok (.i2l, 1) := dq_964.2.2.2.2.2.2.2.2.2.2.2
theorem dq_965 : decode cL_law 251 = .ok (.bipush 32, 2) ∧ decode cL_law 253 = .ok (.lshl, 1) ∧ decode cL_law 254 = .ok (.aload_n 0, 1) ∧ decode cL_law 255 = .ok (.iload_n 3, 1) ∧ decode cL_law 256 = .ok (.iconst 2, 1) ∧ decode cL_law 257 = .ok (.iadd, 1) ∧ decode cL_law 258 = .ok (.iaload, 1) ∧ decode cL_law 259 = .ok (.i2l, 1) ∧ decode cL_law 260 = .ok (.ldc2_w 13, 3) ∧ decode cL_law 263 = .ok (.land, 1) ∧ decode cL_law 264 = .ok (.lor, 1) ∧ decode cL_law 265 = .ok (.invokevirtual 19, 3) := by decide +kernel
theorem dL_law_251 : decode cL_law 251 = .ok (.bipush 32, 2) := dq_965.1
theorem dL_law_253 : decode cL_law 253 = .ok (.lshl, 1) := dq_965.2.1
theorem dL_law_254 : decode cL_law 254 = .ok (.aload_n 0, 1) := dq_965.2.2.1
theorem dL_law_255 : decode cL_law 255 = .ok (.iload_n 3, 1) := dq_965.2.2.2.1
theorem dL_law_256 : decode cL_law 256 = .ok (.iconst 2, 1) := dq_965.2.2.2.2.1
theorem dL_law_257 : decode cL_law 257 = .ok (.iadd, 1) := dq_965.2.2.2.2.2.1
theorem dL_law_258 : decode cL_law 258 = .ok (.iaload, 1) := dq_965.2.2.2.2.2.2.1
theorem dL_law_259 : decode cL_law 259 = .ok (.i2l, 1) := dq_965.2.2.2.2.2.2.2.1
theorem dL_law_260 : decode cL_law 260 = .ok (.ldc2_w 13, 3) := dq_965.2.2.2.2.2.2.2.2.1
theorem dL_law_263 : decode cL_law 263 = .ok (.land, 1) := dq_965.2.2.2.2.2.2.2.2.2.1
theorem dL_law_264 : decode cL_law 264 = .ok (.lor, 1) := dq_965.2.2.2.2.2.2.2.2.2.2.1
theorem dL_law_265 : decode cL_law 265 = .ok (.invokevirtual 19, 3) := dq_965.2.2.2.2.2.2.2.2.2.2.2
theorem dq_966 : decode cL_law 268 = .ok (.if_icmp .eq 1234, 3) ∧ decode cL_law 271 = .ok (.iconst 0, 1) ∧ decode cL_law 272 = .ok (.ireturn, 1) ∧ decode cL_law 273 = .ok (.aload_n 1, 1) ∧ decode cL_law 274 = .ok (.aload_n 0, 1) ∧ decode cL_law 275 = .ok (.iload_n 3, 1) ∧ decode cL_law 276 = .ok (.iconst 1, 1) ∧ decode cL_law 277 = .ok (.iadd, 1) ∧ decode cL_law 278 = .ok (.iaload, 1) ∧ decode cL_law 279 = .ok (.invokevirtual 20, 3) ∧ decode cL_law 282 = .ok (.aload_n 2, 1) ∧ decode cL_law 283 = .ok (.aload_n 0, 1) := by decide +kernel
theorem dL_law_268 : decode cL_law 268 = .ok (.if_icmp .eq 1234, 3) := dq_966.1
theorem dL_law_271 : decode cL_law 271 = .ok (.iconst 0, 1) := dq_966.2.1
theorem dL_law_272 : decode cL_law 272 = .ok (.ireturn, 1) := dq_966.2.2.1
theorem dL_law_273 : decode cL_law 273 = .ok (.aload_n 1, 1) := dq_966.2.2.2.1
theorem dL_law_274 : decode cL_law 274 = .ok (.aload_n 0, 1) := dq_966.2.2.2.2.1
theorem dL_law_275 : decode cL_law 275 = .ok (.iload_n 3, 1) := dq_966.2.2.2.2.2.1
theorem dL_law_276 : decode cL_law 276 = .ok (.iconst 1, 1) := dq_966.2.2.2.2.2.2.1
theorem dL_law_277 : decode cL_law 277 = .ok (.iadd, 1) := dq_966.2.2.2.2.2.2.2.1
theorem dL_law_278 : decode cL_law 278 = .ok (.iaload, 1) := dq_966.2.2.2.2.2.2.2.2.1
theorem dL_law_279 : decode cL_law 279 = .ok (.invokevirtual 20, 3) := dq_966.2.2.2.2.2.2.2.2.2.1
theorem dL_law_282 : decode cL_law 282 = .ok (.aload_n 2, 1) := dq_966.2.2.2.2.2.2.2.2.2.2.1
theorem dL_law_283 : decode cL_law 283 = .ok (.aload_n 0, 1) := dq_966.2.2.2.2.2.2.2.2.2.2.2
theorem dq_967 : decode cL_law 284 = .ok (.iload_n 3, 1) ∧ decode cL_law 285 = .ok (.iconst 1, 1) ∧ decode cL_law 286 = .ok (.iadd, 1) ∧ decode cL_law 287 = .ok (.iaload, 1) ∧ decode cL_law 288 = .ok (.invokevirtual 24, 3) ∧ decode cL_law 291 = .ok (.if_icmp .eq 1211, 3) ∧ decode cL_law 294 = .ok (.iconst 0, 1) ∧ decode cL_law 295 = .ok (.ireturn, 1) ∧ decode cL_law 296 = .ok (.aload_n 1, 1) ∧ decode cL_law 297 = .ok (.invokevirtual 25, 3) ∧ decode cL_law 300 = .ok (.aload_n 2, 1) ∧ decode cL_law 301 = .ok (.invokevirtual 29, 3) := by decide +kernel
theorem dL_law_284 : decode cL_law 284 = .ok (.iload_n 3, 1) := dq_967.1
theorem dL_law_285 : decode cL_law 285 = .ok (.iconst 1, 1) := dq_967.2.1
theorem dL_law_286 : decode cL_law 286 = .ok (.iadd, 1) := dq_967.2.2.1
theorem dL_law_287 : decode cL_law 287 = .ok (.iaload, 1) := dq_967.2.2.2.1
theorem dL_law_288 : decode cL_law 288 = .ok (.invokevirtual 24, 3) := dq_967.2.2.2.2.1
theorem dL_law_291 : decode cL_law 291 = .ok (.if_icmp .eq 1211, 3) := dq_967.2.2.2.2.2.1
theorem dL_law_294 : decode cL_law 294 = .ok (.iconst 0, 1) := dq_967.2.2.2.2.2.2.1
theorem dL_law_295 : decode cL_law 295 = .ok (.ireturn, 1) := dq_967.2.2.2.2.2.2.2.1
theorem dL_law_296 : decode cL_law 296 = .ok (.aload_n 1, 1) := dq_967.2.2.2.2.2.2.2.2.1
theorem dL_law_297 : decode cL_law 297 = .ok (.invokevirtual 25, 3) := dq_967.2.2.2.2.2.2.2.2.2.1
theorem dL_law_300 : decode cL_law 300 = .ok (.aload_n 2, 1) := dq_967.2.2.2.2.2.2.2.2.2.2.1
theorem dL_law_301 : decode cL_law 301 = .ok (.invokevirtual 29, 3) := dq_967.2.2.2.2.2.2.2.2.2.2.2
theorem dq_968 : decode cL_law 304 = .ok (.if_icmp .eq 1198, 3) ∧ decode cL_law 307 = .ok (.iconst 0, 1) ∧ decode cL_law 308 = .ok (.ireturn, 1) ∧ decode cL_law 309 = .ok (.aload_n 1, 1) ∧ decode cL_law 310 = .ok (.invokevirtual 30, 3) ∧ decode cL_law 313 = .ok (.aload_n 2, 1) ∧ decode cL_law 314 = .ok (.invokevirtual 33, 3) ∧ decode cL_law 317 = .ok (.if_icmp .eq 1185, 3) ∧ decode cL_law 320 = .ok (.iconst 0, 1) ∧ decode cL_law 321 = .ok (.ireturn, 1) ∧ decode cL_law 322 = .ok (.aload_n 1, 1) ∧ decode cL_law 323 = .ok (.aload_n 0, 1) := by decide +kernel
theorem dL_law_304 : decode cL_law 304 = .ok (.if_icmp .eq 1198, 3) := dq_968.1
theorem dL_law_307 : decode cL_law 307 = .ok (.iconst 0, 1) := dq_968.2.1
theorem dL_law_308 : decode cL_law 308 = .ok (.ireturn, 1) := dq_968.2.2.1
theorem dL_law_309 : decode cL_law 309 = .ok (.aload_n 1, 1) := dq_968.2.2.2.1
theorem dL_law_310 : decode cL_law 310 = .ok (.invokevirtual 30, 3) := dq_968.2.2.2.2.1
theorem dL_law_313 : decode cL_law 313 = .ok (.aload_n 2, 1) := dq_968.2.2.2.2.2.1
theorem dL_law_314 : decode cL_law 314 = .ok (.invokevirtual 33, 3) := dq_968.2.2.2.2.2.2.1
theorem dL_law_317 : decode cL_law 317 = .ok (.if_icmp .eq 1185, 3) := dq_968.2.2.2.2.2.2.2.1
theorem dL_law_320 : decode cL_law 320 = .ok (.iconst 0, 1) := dq_968.2.2.2.2.2.2.2.2.1
theorem dL_law_321 : decode cL_law 321 = .ok (.ireturn, 1) := dq_968.2.2.2.2.2.2.2.2.2.1
theorem dL_law_322 : decode cL_law 322 = .ok (.aload_n 1, 1) := dq_968.2.2.2.2.2.2.2.2.2.2.1
theorem dL_law_323 : decode cL_law 323 = .ok (.aload_n 0, 1) := dq_968.2.2.2.2.2.2.2.2.2.2.2
theorem dq_969 : decode cL_law 324 = .ok (.iload_n 3, 1) ∧ decode cL_law 325 = .ok (.iconst 1, 1) ∧ decode cL_law 326 = .ok (.iadd, 1) ∧ decode cL_law 327 = .ok (.iaload, 1) ∧ decode cL_law 328 = .ok (.invokevirtual 34, 3) ∧ decode cL_law 331 = .ok (.aload_n 2, 1) ∧ decode cL_law 332 = .ok (.aload_n 0, 1) ∧ decode cL_law 333 = .ok (.iload_n 3, 1) ∧ decode cL_law 334 = .ok (.iconst 1, 1) ∧ decode cL_law 335 = .ok (.iadd, 1) ∧ decode cL_law 336 = .ok (.iaload, 1) ∧ decode cL_law 337 = .ok (.invokevirtual 37, 3) := by decide +kernel
theorem dL_law_324 : decode cL_law 324 = .ok (.iload_n 3, 1) := dq_969.1
theorem dL_law_325 : decode cL_law 325 = .ok (.iconst 1, 1) := dq_969.2.1
theorem dL_law_326 : decode cL_law 326 = .ok (.iadd, 1) := dq_969.2.2.1
theorem dL_law_327 : decode cL_law 327 = .ok (.iaload, 1) := dq_969.2.2.2.1
theorem dL_law_328 : decode cL_law 328 = .ok (.invokevirtual 34, 3) := dq_969.2.2.2.2.1
theorem dL_law_331 : decode cL_law 331 = .ok (.aload_n 2, 1) := dq_969.2.2.2.2.2.1
theorem dL_law_332 : decode cL_law 332 = .ok (.aload_n 0, 1) := dq_969.2.2.2.2.2.2.1
theorem dL_law_333 : decode cL_law 333 = .ok (.iload_n 3, 1) := dq_969.2.2.2.2.2.2.2.1
theorem dL_law_334 : decode cL_law 334 = .ok (.iconst 1, 1) := dq_969.2.2.2.2.2.2.2.2.1
theorem dL_law_335 : decode cL_law 335 = .ok (.iadd, 1) := dq_969.2.2.2.2.2.2.2.2.2.1
theorem dL_law_336 : decode cL_law 336 = .ok (.iaload, 1) := dq_969.2.2.2.2.2.2.2.2.2.2.1
theorem dL_law_337 : decode cL_law 337 = .ok (.invokevirtual 37, 3) := dq_969.2.2.2.2.2.2.2.2.2.2.2
theorem dq_970 : decode cL_law 340 = .ok (.if_icmp .eq 1162, 3) ∧ decode cL_law 343 = .ok (.iconst 0, 1) ∧ decode cL_law 344 = .ok (.ireturn, 1) ∧ decode cL_law 345 = .ok (.aload_n 1, 1) ∧ decode cL_law 346 = .ok (.aload_n 0, 1) ∧ decode cL_law 347 = .ok (.iload_n 3, 1) ∧ decode cL_law 348 = .ok (.iconst 1, 1) ∧ decode cL_law 349 = .ok (.iadd, 1) ∧ decode cL_law 350 = .ok (.iaload, 1) ∧ decode cL_law 351 = .ok (.aload_n 0, 1) ∧ decode cL_law 352 = .ok (.iload_n 3, 1) ∧ decode cL_law 353 = .ok (.iconst 2, 1) := by decide +kernel
theorem dL_law_340 : decode cL_law 340 = .ok (.if_icmp .eq 1162, 3) := dq_970.1
theorem dL_law_343 : decode cL_law 343 = .ok (.iconst 0, 1) := dq_970.2.1
theorem dL_law_344 : decode cL_law 344 = .ok (.ireturn, 1) := dq_970.2.2.1
theorem dL_law_345 : decode cL_law 345 = .ok (.aload_n 1, 1) := dq_970.2.2.2.1
theorem dL_law_346 : decode cL_law 346 = .ok (.aload_n 0, 1) := dq_970.2.2.2.2.1
theorem dL_law_347 : decode cL_law 347 = .ok (.iload_n 3, 1) := dq_970.2.2.2.2.2.1
theorem dL_law_348 : decode cL_law 348 = .ok (.iconst 1, 1) := dq_970.2.2.2.2.2.2.1
theorem dL_law_349 : decode cL_law 349 = .ok (.iadd, 1) := dq_970.2.2.2.2.2.2.2.1
theorem dL_law_350 : decode cL_law 350 = .ok (.iaload, 1) := dq_970.2.2.2.2.2.2.2.2.1
theorem dL_law_351 : decode cL_law 351 = .ok (.aload_n 0, 1) := dq_970.2.2.2.2.2.2.2.2.2.1
theorem dL_law_352 : decode cL_law 352 = .ok (.iload_n 3, 1) := dq_970.2.2.2.2.2.2.2.2.2.2.1
theorem dL_law_353 : decode cL_law 353 = .ok (.iconst 2, 1) := dq_970.2.2.2.2.2.2.2.2.2.2.2
theorem dq_971 : decode cL_law 354 = .ok (.iadd, 1) ∧ decode cL_law 355 = .ok (.iaload, 1) ∧ decode cL_law 356 = .ok (.invokevirtual 38, 3) ∧ decode cL_law 359 = .ok (.aload_n 2, 1) ∧ decode cL_law 360 = .ok (.aload_n 0, 1) ∧ decode cL_law 361 = .ok (.iload_n 3, 1) ∧ decode cL_law 362 = .ok (.iconst 1, 1) ∧ decode cL_law 363 = .ok (.iadd, 1) ∧ decode cL_law 364 = .ok (.iaload, 1) ∧ decode cL_law 365 = .ok (.aload_n 0, 1) ∧ decode cL_law 366 = .ok (.iload_n 3, 1) ∧ decode cL_law 367 = .ok (.iconst 2, 1) := by decide +kernel
theorem dL_law_354 : decode cL_law 354 = .ok (.iadd, 1) := dq_971.1
theorem dL_law_355 : decode cL_law 355 = .ok (.iaload, 1) := dq_971.2.1
theorem dL_law_356 : decode cL_law 356 = .ok (.invokevirtual 38, 3) := dq_971.2.2.1
theorem dL_law_359 : decode cL_law 359 = .ok (.aload_n 2, 1) := dq_971.2.2.2.1
theorem dL_law_360 : decode cL_law 360 = .ok (.aload_n 0, 1) := dq_971.2.2.2.2.1
theorem dL_law_361 : decode cL_law 361 = .ok (.iload_n 3, 1) := dq_971.2.2.2.2.2.1
theorem dL_law_362 : decode cL_law 362 = .ok (.iconst 1, 1) := dq_971.2.2.2.2.2.2.1
theorem dL_law_363 : decode cL_law 363 = .ok (.iadd, 1) := dq_971.2.2.2.2.2.2.2.1
theorem dL_law_364 : decode cL_law 364 = .ok (.iaload, 1) := dq_971.2.2.2.2.2.2.2.2.1
theorem dL_law_365 : decode cL_law 365 = .ok (.aload_n 0, 1) := dq_971.2.2.2.2.2.2.2.2.2.1
theorem dL_law_366 : decode cL_law 366 = .ok (.iload_n 3, 1) := dq_971.2.2.2.2.2.2.2.2.2.2.1
theorem dL_law_367 : decode cL_law 367 = .ok (.iconst 2, 1) := dq_971.2.2.2.2.2.2.2.2.2.2.2
theorem dq_972 : decode cL_law 368 = .ok (.iadd, 1) ∧ decode cL_law 369 = .ok (.iaload, 1) ∧ decode cL_law 370 = .ok (.invokevirtual 42, 3) ∧ decode cL_law 373 = .ok (.if_icmp .eq 1129, 3) ∧ decode cL_law 376 = .ok (.iconst 0, 1) ∧ decode cL_law 377 = .ok (.ireturn, 1) ∧ decode cL_law 378 = .ok (.aload_n 1, 1) ∧ decode cL_law 379 = .ok (.aload_n 0, 1) ∧ decode cL_law 380 = .ok (.iload_n 3, 1) ∧ decode cL_law 381 = .ok (.iconst 1, 1) ∧ decode cL_law 382 = .ok (.iadd, 1) ∧ decode cL_law 383 = .ok (.iaload, 1) := by decide +kernel
theorem dL_law_368 : decode cL_law 368 = .ok (.iadd, 1) := dq_972.1
theorem dL_law_369 : decode cL_law 369 = .ok (.iaload, 1) := dq_972.2.1
theorem dL_law_370 : decode cL_law 370 = .ok (.invokevirtual 42, 3) := dq_972.2.2.1
theorem dL_law_373 : decode cL_law 373 = .ok (.if_icmp .eq 1129, 3) := dq_972.2.2.2.1
theorem dL_law_376 : decode cL_law 376 = .ok (.iconst 0, 1) := dq_972.2.2.2.2.1
theorem dL_law_377 : decode cL_law 377 = .ok (.ireturn, 1) := dq_972.2.2.2.2.2.1
theorem dL_law_378 : decode cL_law 378 = .ok (.aload_n 1, 1) := dq_972.2.2.2.2.2.2.1
theorem dL_law_379 : decode cL_law 379 = .ok (.aload_n 0, 1) := dq_972.2.2.2.2.2.2.2.1
theorem dL_law_380 : decode cL_law 380 = .ok (.iload_n 3, 1) := dq_972.2.2.2.2.2.2.2.2.1
theorem dL_law_381 : decode cL_law 381 = .ok (.iconst 1, 1) := dq_972.2.2.2.2.2.2.2.2.2.1
theorem dL_law_382 : decode cL_law 382 = .ok (.iadd, 1) := dq_972.2.2.2.2.2.2.2.2.2.2.1
theorem dL_law_383 : decode cL_law 383 = .ok (.iaload, 1) := dq_972.2.2.2.2.2.2.2.2.2.2.2
theorem dq_973 : decode cL_law 384 = .ok (.aload_n 0, 1) ∧ decode cL_law 385 = .ok (.iload_n 3, 1) ∧ decode cL_law 386 = .ok (.iconst 2, 1) ∧ decode cL_law 387 = .ok (.iadd, 1) ∧ decode cL_law 388 = .ok (.iaload, 1) ∧ decode cL_law 389 = .ok (.aload_n 0, 1) ∧ decode cL_law 390 = .ok (.iload_n 3, 1) ∧ decode cL_law 391 = .ok (.iconst 3, 1) ∧ decode cL_law 392 = .ok (.iadd, 1) ∧ decode cL_law 393 = .ok (.iaload, 1) ∧ decode cL_law 394 = .ok (.invokevirtual 43, 3) ∧ decode cL_law 397 = .ok (.aload_n 2, 1) := by decide +kernel
theorem dL_law_384 : decode cL_law 384 = .ok (.aload_n 0, 1) := dq_973.1
theorem dL_law_385 : decode cL_law 385 = .ok (.iload_n 3, 1) := dq_973.2.1
theorem dL_law_386 : decode cL_law 386 = .ok (.iconst 2, 1) := dq_973.2.2.1
theorem dL_law_387 : decode cL_law 387 = .ok (.iadd, 1) := dq_973.2.2.2.1
theorem dL_law_388 : decode cL_law 388 = .ok (.iaload, 1) := dq_973.2.2.2.2.1
theorem dL_law_389 : decode cL_law 389 = .ok (.aload_n 0, 1) := dq_973.2.2.2.2.2.1
theorem dL_law_390 : decode cL_law 390 = .ok (.iload_n 3, 1) := dq_973.2.2.2.2.2.2.1
theorem dL_law_391 : decode cL_law 391 = .ok (.iconst 3, 1) := dq_973.2.2.2.2.2.2.2.1
theorem dL_law_392 : decode cL_law 392 = .ok (.iadd, 1) := dq_973.2.2.2.2.2.2.2.2.1
theorem dL_law_393 : decode cL_law 393 = .ok (.iaload, 1) := dq_973.2.2.2.2.2.2.2.2.2.1
theorem dL_law_394 : decode cL_law 394 = .ok (.invokevirtual 43, 3) := dq_973.2.2.2.2.2.2.2.2.2.2.1
theorem dL_law_397 : decode cL_law 397 = .ok (.aload_n 2, 1) := dq_973.2.2.2.2.2.2.2.2.2.2.2
theorem dq_974 : decode cL_law 398 = .ok (.aload_n 0, 1) ∧ decode cL_law 399 = .ok (.iload_n 3, 1) ∧ decode cL_law 400 = .ok (.iconst 1, 1) ∧ decode cL_law 401 = .ok (.iadd, 1) ∧ decode cL_law 402 = .ok (.iaload, 1) ∧ decode cL_law 403 = .ok (.aload_n 0, 1) ∧ decode cL_law 404 = .ok (.iload_n 3, 1) ∧ decode cL_law 405 = .ok (.iconst 2, 1) ∧ decode cL_law 406 = .ok (.iadd, 1) ∧ decode cL_law 407 = .ok (.iaload, 1) ∧ decode cL_law 408 = .ok (.aload_n 0, 1) ∧ decode cL_law 409 = .ok (.iload_n 3, 1) := by decide +kernel
theorem dL_law_398 : decode cL_law 398 = .ok (.aload_n 0, 1) := dq_974.1
theorem dL_law_399 : decode cL_law 399 = .ok (.iload_n 3, 1) := dq_974.2.1
theorem dL_law_400 : decode cL_law 400 = .ok (.iconst 1, 1) := dq_974.2.2.1
theorem dL_law_401 : decode cL_law 401 = .ok (.iadd, 1) := dq_974.2.2.2.1
theorem dL_law_402 : decode cL_law 402 = .ok (.iaload, 1) := dq_974.2.2.2.2.1
theorem dL_law_403 : decode cL_law 403 = .ok (.aload_n 0, 1) := dq_974.2.2.2.2.2.1
theorem dL_law_404 : decode cL_law 404 = .ok (.iload_n 3, 1) := dq_974.2.2.2.2.2.2.1
theorem dL_law_405 : decode cL_law 405 = .ok (.iconst 2, 1) := dq_974.2.2.2.2.2.2.2.1
theorem dL_law_406 : decode cL_law 406 = .ok (.iadd, 1) := dq_974.2.2.2.2.2.2.2.2.1
theorem dL_law_407 : decode cL_law 407 = .ok (.iaload, 1) := dq_974.2.2.2.2.2.2.2.2.2.1
theorem dL_law_408 : decode cL_law 408 = .ok (.aload_n 0, 1) := dq_974.2.2.2.2.2.2.2.2.2.2.1
theorem dL_law_409 : decode cL_law 409 = .ok (.iload_n 3, 1) := dq_974.2.2.2.2.2.2.2.2.2.2.2
theorem dq_975 : decode cL_law 410 = .ok (.iconst 3, 1) ∧ decode cL_law 411 = .ok (.iadd, 1) ∧ decode cL_law 412 = .ok (.iaload, 1) ∧ decode cL_law 413 = .ok (.invokevirtual 47, 3) ∧ decode cL_law 416 = .ok (.if_icmp .eq 1086, 3) ∧ decode cL_law 419 = .ok (.iconst 0, 1) ∧ decode cL_law 420 = .ok (.ireturn, 1) ∧ decode cL_law 421 = .ok (.aload_n 1, 1) ∧ decode cL_law 422 = .ok (.aload_n 0, 1) ∧ decode cL_law 423 = .ok (.iload_n 3, 1) ∧ decode cL_law 424 = .ok (.iconst 1, 1) ∧ decode cL_law 425 = .ok (.iadd, 1) := by decide +kernel
theorem dL_law_410 : decode cL_law 410 = .ok (.iconst 3, 1) := dq_975.1
theorem dL_law_411 : decode cL_law 411 = .ok (.iadd, 1) := dq_975.2.1
theorem dL_law_412 : decode cL_law 412 = .ok (.iaload, 1) := dq_975.2.2.1
theorem dL_law_413 : decode cL_law 413 = .ok (.invokevirtual 47, 3) := dq_975.2.2.2.1
theorem dL_law_416 : decode cL_law 416 = .ok (.if_icmp .eq 1086, 3) := dq_975.2.2.2.2.1
theorem dL_law_419 : decode cL_law 419 = .ok (.iconst 0, 1) := dq_975.2.2.2.2.2.1
theorem dL_law_420 : decode cL_law 420 = .ok (.ireturn, 1) := dq_975.2.2.2.2.2.2.1
theorem dL_law_421 : decode cL_law 421 = .ok (.aload_n 1, 1) := dq_975.2.2.2.2.2.2.2.1
theorem dL_law_422 : decode cL_law 422 = .ok (.aload_n 0, 1) := dq_975.2.2.2.2.2.2.2.2.1
theorem dL_law_423 : decode cL_law 423 = .ok (.iload_n 3, 1) := dq_975.2.2.2.2.2.2.2.2.2.1
theorem dL_law_424 : decode cL_law 424 = .ok (.iconst 1, 1) := dq_975.2.2.2.2.2.2.2.2.2.2.1
theorem dL_law_425 : decode cL_law 425 = .ok (.iadd, 1) := dq_975.2.2.2.2.2.2.2.2.2.2.2
theorem dq_976 : decode cL_law 426 = .ok (.iaload, 1) ∧ decode cL_law 427 = .ok (.aload_n 0, 1) ∧ decode cL_law 428 = .ok (.iload_n 3, 1) ∧ decode cL_law 429 = .ok (.iconst 2, 1) ∧ decode cL_law 430 = .ok (.iadd, 1) ∧ decode cL_law 431 = .ok (.iaload, 1) ∧ decode cL_law 432 = .ok (.invokevirtual 48, 3) ∧ decode cL_law 435 = .ok (.aload_n 2, 1) ∧ decode cL_law 436 = .ok (.aload_n 0, 1) ∧ decode cL_law 437 = .ok (.iload_n 3, 1) ∧ decode cL_law 438 = .ok (.iconst 1, 1) ∧ decode cL_law 439 = .ok (.iadd, 1) := by decide +kernel
theorem dL_law_426 : decode cL_law 426 = .ok (.iaload, 1) := dq_976.1
theorem dL_law_427 : decode cL_law 427 = .ok (.aload_n 0, 1) := dq_976.2.1
theorem dL_law_428 : decode cL_law 428 = .ok (.iload_n 3, 1) := dq_976.2.2.1
theorem dL_law_429 : decode cL_law 429 = .ok (.iconst 2, 1) := dq_976.2.2.2.1
theorem dL_law_430 : decode cL_law 430 = .ok (.iadd, 1) := dq_976.2.2.2.2.1
theorem dL_law_431 : decode cL_law 431 = .ok (.iaload, 1) := dq_976.2.2.2.2.2.1
theorem dL_law_432 : decode cL_law 432 = .ok (.invokevirtual 48, 3) := dq_976.2.2.2.2.2.2.1
theorem dL_law_435 : decode cL_law 435 = .ok (.aload_n 2, 1) := dq_976.2.2.2.2.2.2.2.1
theorem dL_law_436 : decode cL_law 436 = .ok (.aload_n 0, 1) := dq_976.2.2.2.2.2.2.2.2.1
theorem dL_law_437 : decode cL_law 437 = .ok (.iload_n 3, 1) := dq_976.2.2.2.2.2.2.2.2.2.1
theorem dL_law_438 : decode cL_law 438 = .ok (.iconst 1, 1) := dq_976.2.2.2.2.2.2.2.2.2.2.1
theorem dL_law_439 : decode cL_law 439 = .ok (.iadd, 1) := dq_976.2.2.2.2.2.2.2.2.2.2.2
theorem dq_977 : decode cL_law 440 = .ok (.iaload, 1) ∧ decode cL_law 441 = .ok (.aload_n 0, 1) ∧ decode cL_law 442 = .ok (.iload_n 3, 1) ∧ decode cL_law 443 = .ok (.iconst 2, 1) ∧ decode cL_law 444 = .ok (.iadd, 1) ∧ decode cL_law 445 = .ok (.iaload, 1) ∧ decode cL_law 446 = .ok (.invokevirtual 51, 3) ∧ decode cL_law 449 = .ok (.if_icmp .eq 1053, 3) ∧ decode cL_law 452 = .ok (.iconst 0, 1) ∧ decode cL_law 453 = .ok (.ireturn, 1) ∧ decode cL_law 454 = .ok (.aload_n 1, 1) ∧ decode cL_law 455 = .ok (.aload_n 0, 1) := by decide +kernel
theorem dL_law_440 : decode cL_law 440 = .ok (.iaload, 1) := dq_977.1
theorem dL_law_441 : decode cL_law 441 = .ok (.aload_n 0, 1) := dq_977.2.1
theorem dL_law_442 : decode cL_law 442 = .ok (.iload_n 3, 1) := dq_977.2.2.1
theorem dL_law_443 : decode cL_law 443 = .ok (.iconst 2, 1) := dq_977.2.2.2.1
theorem dL_law_444 : decode cL_law 444 = .ok (.iadd, 1) := dq_977.2.2.2.2.1
theorem dL_law_445 : decode cL_law 445 = .ok (.iaload, 1) := dq_977.2.2.2.2.2.1
theorem dL_law_446 : decode cL_law 446 = .ok (.invokevirtual 51, 3) := dq_977.2.2.2.2.2.2.1
theorem dL_law_449 : decode cL_law 449 = .ok (.if_icmp .eq 1053, 3) := dq_977.2.2.2.2.2.2.2.1
theorem dL_law_452 : decode cL_law 452 = .ok (.iconst 0, 1) := dq_977.2.2.2.2.2.2.2.2.1
theorem dL_law_453 : decode cL_law 453 = .ok (.ireturn, 1) := dq_977.2.2.2.2.2.2.2.2.2.1
theorem dL_law_454 : decode cL_law 454 = .ok (.aload_n 1, 1) := dq_977.2.2.2.2.2.2.2.2.2.2.1
theorem dL_law_455 : decode cL_law 455 = .ok (.aload_n 0, 1) := dq_977.2.2.2.2.2.2.2.2.2.2.2
theorem dq_978 : decode cL_law 456 = .ok (.iload_n 3, 1) ∧ decode cL_law 457 = .ok (.iconst 1, 1) ∧ decode cL_law 458 = .ok (.iadd, 1) ∧ decode cL_law 459 = .ok (.iaload, 1) ∧ decode cL_law 460 = .ok (.invokevirtual 52, 3) ∧ decode cL_law 463 = .ok (.aload_n 2, 1) ∧ decode cL_law 464 = .ok (.aload_n 0, 1) ∧ decode cL_law 465 = .ok (.iload_n 3, 1) ∧ decode cL_law 466 = .ok (.iconst 1, 1) ∧ decode cL_law 467 = .ok (.iadd, 1) ∧ decode cL_law 468 = .ok (.iaload, 1) ∧ decode cL_law 469 = .ok (.invokevirtual 55, 3) := by decide +kernel
theorem dL_law_456 : decode cL_law 456 = .ok (.iload_n 3, 1) := dq_978.1
theorem dL_law_457 : decode cL_law 457 = .ok (.iconst 1, 1) := dq_978.2.1
theorem dL_law_458 : decode cL_law 458 = .ok (.iadd, 1) := dq_978.2.2.1
theorem dL_law_459 : decode cL_law 459 = .ok (.iaload, 1) := dq_978.2.2.2.1
theorem dL_law_460 : decode cL_law 460 = .ok (.invokevirtual 52, 3) := dq_978.2.2.2.2.1
theorem dL_law_463 : decode cL_law 463 = .ok (.aload_n 2, 1) := dq_978.2.2.2.2.2.1
theorem dL_law_464 : decode cL_law 464 = .ok (.aload_n 0, 1) := dq_978.2.2.2.2.2.2.1
theorem dL_law_465 : decode cL_law 465 = .ok (.iload_n 3, 1) := dq_978.2.2.2.2.2.2.2.1
theorem dL_law_466 : decode cL_law 466 = .ok (.iconst 1, 1) := dq_978.2.2.2.2.2.2.2.2.1
theorem dL_law_467 : decode cL_law 467 = .ok (.iadd, 1) := dq_978.2.2.2.2.2.2.2.2.2.1
theorem dL_law_468 : decode cL_law 468 = .ok (.iaload, 1) := dq_978.2.2.2.2.2.2.2.2.2.2.1
theorem dL_law_469 : decode cL_law 469 = .ok (.invokevirtual 55, 3) := dq_978.2.2.2.2.2.2.2.2.2.2.2
theorem dq_979 : decode cL_law 472 = .ok (.if_icmp .eq 1030, 3) ∧ decode cL_law 475 = .ok (.iconst 0, 1) ∧ decode cL_law 476 = .ok (.ireturn, 1) ∧ decode cL_law 477 = .ok (.aload_n 1, 1) ∧ decode cL_law 478 = .ok (.aload_n 0, 1) ∧ decode cL_law 479 = .ok (.iload_n 3, 1) ∧ decode cL_law 480 = .ok (.iconst 1, 1) ∧ decode cL_law 481 = .ok (.iadd, 1) ∧ decode cL_law 482 = .ok (.iaload, 1) ∧ decode cL_law 483 = .ok (.aload_n 0, 1) ∧ decode cL_law 484 = .ok (.iload_n 3, 1) ∧ decode cL_law 485 = .ok (.iconst 2, 1) := by decide +kernel
theorem dL_law_472 : decode cL_law 472 = .ok (.if_icmp .eq 1030, 3) := dq_979.1
theorem dL_law_475 : decode cL_law 475 = .ok (.iconst 0, 1) := dq_979.2.1
theorem dL_law_476 : decode cL_law 476 = .ok (.ireturn, 1) := dq_979.2.2.1
theorem dL_law_477 : decode cL_law 477 = .ok (.aload_n 1, 1) := dq_979.2.2.2.1
theorem dL_law_478 : decode cL_law 478 = .ok (.aload_n 0, 1) := dq_979.2.2.2.2.1
theorem dL_law_479 : decode cL_law 479 = .ok (.iload_n 3, 1) := dq_979.2.2.2.2.2.1
theorem dL_law_480 : decode cL_law 480 = .ok (.iconst 1, 1) := dq_979.2.2.2.2.2.2.1
theorem dL_law_481 : decode cL_law 481 = .ok (.iadd, 1) := dq_979.2.2.2.2.2.2.2.1
theorem dL_law_482 : decode cL_law 482 = .ok (.iaload, 1) := dq_979.2.2.2.2.2.2.2.2.1
theorem dL_law_483 : decode cL_law 483 = .ok (.aload_n 0, 1) := dq_979.2.2.2.2.2.2.2.2.2.1
theorem dL_law_484 : decode cL_law 484 = .ok (.iload_n 3, 1) := dq_979.2.2.2.2.2.2.2.2.2.2.1
theorem dL_law_485 : decode cL_law 485 = .ok (.iconst 2, 1) := dq_979.2.2.2.2.2.2.2.2.2.2.2
theorem dq_980 : decode cL_law 486 = .ok (.iadd, 1) ∧ decode cL_law 487 = .ok (.iaload, 1) ∧ decode cL_law 488 = .ok (.aload_n 0, 1) ∧ decode cL_law 489 = .ok (.iload_n 3, 1) ∧ decode cL_law 490 = .ok (.iconst 3, 1) ∧ decode cL_law 491 = .ok (.iadd, 1) ∧ decode cL_law 492 = .ok (.iaload, 1) ∧ decode cL_law 493 = .ok (.aload_n 0, 1) ∧ decode cL_law 494 = .ok (.iload_n 3, 1) ∧ decode cL_law 495 = .ok (.iconst 4, 1) ∧ decode cL_law 496 = .ok (.iadd, 1) ∧ decode cL_law 497 = .ok (.iaload, 1) := by decide +kernel
theorem dL_law_486 : decode cL_law 486 = .ok (.iadd, 1) := dq_980.1
theorem dL_law_487 : decode cL_law 487 = .ok (.iaload, 1) := dq_980.2.1
theorem dL_law_488 : decode cL_law 488 = .ok (.aload_n 0, 1) := dq_980.2.2.1
theorem dL_law_489 : decode cL_law 489 = .ok (.iload_n 3, 1) := dq_980.2.2.2.1
theorem dL_law_490 : decode cL_law 490 = .ok (.iconst 3, 1) := dq_980.2.2.2.2.1
theorem dL_law_491 : decode cL_law 491 = .ok (.iadd, 1) := dq_980.2.2.2.2.2.1
theorem dL_law_492 : decode cL_law 492 = .ok (.iaload, 1) := dq_980.2.2.2.2.2.2.1
theorem dL_law_493 : decode cL_law 493 = .ok (.aload_n 0, 1) := dq_980.2.2.2.2.2.2.2.1
theorem dL_law_494 : decode cL_law 494 = .ok (.iload_n 3, 1) := dq_980.2.2.2.2.2.2.2.2.1
theorem dL_law_495 : decode cL_law 495 = .ok (.iconst 4, 1) := dq_980.2.2.2.2.2.2.2.2.2.1
theorem dL_law_496 : decode cL_law 496 = .ok (.iadd, 1) := dq_980.2.2.2.2.2.2.2.2.2.2.1
theorem dL_law_497 : decode cL_law 497 = .ok (.iaload, 1) := dq_980.2.2.2.2.2.2.2.2.2.2.2
theorem dq_981 : decode cL_law 498 = .ok (.invokevirtual 56, 3) ∧ decode cL_law 501 = .ok (.aload_n 2, 1) ∧ decode cL_law 502 = .ok (.aload_n 0, 1) ∧ decode cL_law 503 = .ok (.iload_n 3, 1) ∧ decode cL_law 504 = .ok (.iconst 1, 1) ∧ decode cL_law 505 = .ok (.iadd, 1) ∧ decode cL_law 506 = .ok (.iaload, 1) ∧ decode cL_law 507 = .ok (.aload_n 0, 1) ∧ decode cL_law 508 = .ok (.iload_n 3, 1) ∧ decode cL_law 509 = .ok (.iconst 2, 1) ∧ decode cL_law 510 = .ok (.iadd, 1) ∧ decode cL_law 511 = .ok (.iaload, 1) := by decide +kernel
theorem dL_law_498 : decode cL_law 498 = .ok (.invokevirtual 56, 3) := dq_981.1
theorem dL_law_501 : decode cL_law 501 = .ok (.aload_n 2, 1) := dq_981.2.1
theorem dL_law_502 : decode cL_law 502 = .ok (.aload_n 0, 1) := dq_981.2.2.1
theorem dL_law_503 : decode cL_law 503 = .ok (.iload_n 3, 1) := dq_981.2.2.2.1
theorem dL_law_504 : decode cL_law 504 = .ok (.iconst 1, 1) := dq_981.2.2.2.2.1
theorem dL_law_505 : decode cL_law 505 = .ok (.iadd, 1) := dq_981.2.2.2.2.2.1
theorem dL_law_506 : decode cL_law 506 = .ok (.iaload, 1) := dq_981.2.2.2.2.2.2.1
theorem dL_law_507 : decode cL_law 507 = .ok (.aload_n 0, 1) := dq_981.2.2.2.2.2.2.2.1
theorem dL_law_508 : decode cL_law 508 = .ok (.iload_n 3, 1) := dq_981.2.2.2.2.2.2.2.2.1
theorem dL_law_509 : decode cL_law 509 = .ok (.iconst 2, 1) := dq_981.2.2.2.2.2.2.2.2.2.1
theorem dL_law_510 : decode cL_law 510 = .ok (.iadd, 1) := dq_981.2.2.2.2.2.2.2.2.2.2.1
theorem dL_law_511 : decode cL_law 511 = .ok (.iaload, 1) := dq_981.2.2.2.2.2.2.2.2.2.2.2
theorem dq_982 : decode cL_law 512 = .ok (.aload_n 0, 1) ∧ decode cL_law 513 = .ok (.iload_n 3, 1) ∧ decode cL_law 514 = .ok (.iconst 3, 1) ∧ decode cL_law 515 = .ok (.iadd, 1) ∧ decode cL_law 516 = .ok (.iaload, 1) ∧ decode cL_law 517 = .ok (.aload_n 0, 1) ∧ decode cL_law 518 = .ok (.iload_n 3, 1) ∧ decode cL_law 519 = .ok (.iconst 4, 1) ∧ decode cL_law 520 = .ok (.iadd, 1) ∧ decode cL_law 521 = .ok (.iaload, 1) ∧ decode cL_law 522 = .ok (.invokevirtual 60, 3) ∧ decode cL_law 525 = .ok (.if_icmp .eq 977, 3) := by decide +kernel
theorem dL_law_512 : decode cL_law 512 = .ok (.aload_n 0, 1) := dq_982.1
theorem dL_law_513 : decode cL_law 513 = .ok (.iload_n 3, 1) := dq_982.2.1
theorem dL_law_514 : decode cL_law 514 = .ok (.iconst 3, 1) := dq_982.2.2.1
theorem dL_law_515 : decode cL_law 515 = .ok (.iadd, 1) := dq_982.2.2.2.1
theorem dL_law_516 : decode cL_law 516 = .ok (.iaload, 1) := dq_982.2.2.2.2.1
theorem dL_law_517 : decode cL_law 517 = .ok (.aload_n 0, 1) := dq_982.2.2.2.2.2.1
theorem dL_law_518 : decode cL_law 518 = .ok (.iload_n 3, 1) := dq_982.2.2.2.2.2.2.1
theorem dL_law_519 : decode cL_law 519 = .ok (.iconst 4, 1) := dq_982.2.2.2.2.2.2.2.1
theorem dL_law_520 : decode cL_law 520 = .ok (.iadd, 1) := dq_982.2.2.2.2.2.2.2.2.1
theorem dL_law_521 : decode cL_law 521 = .ok (.iaload, 1) := dq_982.2.2.2.2.2.2.2.2.2.1
theorem dL_law_522 : decode cL_law 522 = .ok (.invokevirtual 60, 3) := dq_982.2.2.2.2.2.2.2.2.2.2.1
theorem dL_law_525 : decode cL_law 525 = .ok (.if_icmp .eq 977, 3) := dq_982.2.2.2.2.2.2.2.2.2.2.2
theorem dq_983 : decode cL_law 528 = .ok (.iconst 0, 1) ∧ decode cL_law 529 = .ok (.ireturn, 1) ∧ decode cL_law 530 = .ok (.aload_n 1, 1) ∧ decode cL_law 531 = .ok (.aload_n 0, 1) ∧ decode cL_law 532 = .ok (.iload_n 3, 1) ∧ decode cL_law 533 = .ok (.iconst 1, 1) ∧ decode cL_law 534 = .ok (.iadd, 1) ∧ decode cL_law 535 = .ok (.iaload, 1) ∧ decode cL_law 536 = .ok (.aload_n 0, 1) ∧ decode cL_law 537 = .ok (.iload_n 3, 1) ∧ decode cL_law 538 = .ok (.iconst 2, 1) ∧ decode cL_law 539 = .ok (.iadd, 1) := by decide +kernel
theorem dL_law_528 : decode cL_law 528 = .ok (.iconst 0, 1) := dq_983.1
theorem dL_law_529 : decode cL_law 529 = .ok (.ireturn, 1) := dq_983.2.1
theorem dL_law_530 : decode cL_law 530 = .ok (.aload_n 1, 1) := dq_983.2.2.1
theorem dL_law_531 : decode cL_law 531 = .ok (.aload_n 0, 1) := dq_983.2.2.2.1
theorem dL_law_532 : decode cL_law 532 = .ok (.iload_n 3, 1) := dq_983.2.2.2.2.1
theorem dL_law_533 : decode cL_law 533 = .ok (.iconst 1, 1) := dq_983.2.2.2.2.2.1
theorem dL_law_534 : decode cL_law 534 = .ok (.iadd, 1) := dq_983.2.2.2.2.2.2.1
theorem dL_law_535 : decode cL_law 535 = .ok (.iaload, 1) := dq_983.2.2.2.2.2.2.2.1
theorem dL_law_536 : decode cL_law 536 = .ok (.aload_n 0, 1) := dq_983.2.2.2.2.2.2.2.2.1
theorem dL_law_537 : decode cL_law 537 = .ok (.iload_n 3, 1) := dq_983.2.2.2.2.2.2.2.2.2.1
theorem dL_law_538 : decode cL_law 538 = .ok (.iconst 2, 1) := dq_983.2.2.2.2.2.2.2.2.2.2.1
theorem dL_law_539 : decode cL_law 539 = .ok (.iadd, 1) := dq_983.2.2.2.2.2.2.2.2.2.2.2
theorem dq_984 : decode cL_law 540 = .ok (.iaload, 1) ∧ decode cL_law 541 = .ok (.invokevirtual 61, 3) ∧ decode cL_law 544 = .ok (.aload_n 2, 1) ∧ decode cL_law 545 = .ok (.aload_n 0, 1) ∧ decode cL_law 546 = .ok (.iload_n 3, 1) ∧ decode cL_law 547 = .ok (.iconst 1, 1) ∧ decode cL_law 548 = .ok (.iadd, 1) ∧ decode cL_law 549 = .ok (.iaload, 1) ∧ decode cL_law 550 = .ok (.aload_n 0, 1) ∧ decode cL_law 551 = .ok (.iload_n 3, 1) ∧ decode cL_law 552 = .ok (.iconst 2, 1) ∧ decode cL_law 553 = .ok (.iadd, 1) := by decide +kernel
theorem dL_law_540 : decode cL_law 540 = .ok (.iaload, 1) := dq_984.1
theorem dL_law_541 : decode cL_law 541 = .ok (.invokevirtual 61, 3) := dq_984.2.1
theorem dL_law_544 : decode cL_law 544 = .ok (.aload_n 2, 1) := dq_984.2.2.1
theorem dL_law_545 : decode cL_law 545 = .ok (.aload_n 0, 1) := dq_984.2.2.2.1
theorem dL_law_546 : decode cL_law 546 = .ok (.iload_n 3, 1) := dq_984.2.2.2.2.1
theorem dL_law_547 : decode cL_law 547 = .ok (.iconst 1, 1) := dq_984.2.2.2.2.2.1
theorem dL_law_548 : decode cL_law 548 = .ok (.iadd, 1) := dq_984.2.2.2.2.2.2.1
theorem dL_law_549 : decode cL_law 549 = .ok (.iaload, 1) := dq_984.2.2.2.2.2.2.2.1
theorem dL_law_550 : decode cL_law 550 = .ok (.aload_n 0, 1) := dq_984.2.2.2.2.2.2.2.2.1
theorem dL_law_551 : decode cL_law 551 = .ok (.iload_n 3, 1) := dq_984.2.2.2.2.2.2.2.2.2.1
theorem dL_law_552 : decode cL_law 552 = .ok (.iconst 2, 1) := dq_984.2.2.2.2.2.2.2.2.2.2.1
theorem dL_law_553 : decode cL_law 553 = .ok (.iadd, 1) := dq_984.2.2.2.2.2.2.2.2.2.2.2
theorem dq_985 : decode cL_law 554 = .ok (.iaload, 1) ∧ decode cL_law 555 = .ok (.invokevirtual 64, 3) ∧ decode cL_law 558 = .ok (.if_icmp .eq 944, 3) ∧ decode cL_law 561 = .ok (.iconst 0, 1) ∧ decode cL_law 562 = .ok (.ireturn, 1) ∧ decode cL_law 563 = .ok (.aload_n 1, 1) ∧ decode cL_law 564 = .ok (.aload_n 0, 1) ∧ decode cL_law 565 = .ok (.iload_n 3, 1) ∧ decode cL_law 566 = .ok (.iconst 1, 1) ∧ decode cL_law 567 = .ok (.iadd, 1) ∧ decode cL_law 568 = .ok (.iaload, 1) ∧ decode cL_law 569 = .ok (.invokevirtual 65, 3) := by decide +kernel
theorem dL_law_554 : decode cL_law 554 = .ok (.iaload, 1) := dq_985.1
theorem dL_law_555 : decode cL_law 555 = .ok (.invokevirtual 64, 3) := dq_985.2.1
theorem dL_law_558 : decode cL_law 558 = .ok (.if_icmp .eq 944, 3) := dq_985.2.2.1
theorem dL_law_561 : decode cL_law 561 = .ok (.iconst 0, 1) := dq_985.2.2.2.1
theorem dL_law_562 : decode cL_law 562 = .ok (.ireturn, 1) := dq_985.2.2.2.2.1
theorem dL_law_563 : decode cL_law 563 = .ok (.aload_n 1, 1) := dq_985.2.2.2.2.2.1
theorem dL_law_564 : decode cL_law 564 = .ok (.aload_n 0, 1) := dq_985.2.2.2.2.2.2.1
theorem dL_law_565 : decode cL_law 565 = .ok (.iload_n 3, 1) := dq_985.2.2.2.2.2.2.2.1
theorem dL_law_566 : decode cL_law 566 = .ok (.iconst 1, 1) := dq_985.2.2.2.2.2.2.2.2.1
theorem dL_law_567 : decode cL_law 567 = .ok (.iadd, 1) := dq_985.2.2.2.2.2.2.2.2.2.1
theorem dL_law_568 : decode cL_law 568 = .ok (.iaload, 1) := dq_985.2.2.2.2.2.2.2.2.2.2.1
theorem dL_law_569 : decode cL_law 569 = .ok (.invokevirtual 65, 3) := dq_985.2.2.2.2.2.2.2.2.2.2.2
theorem dq_986 : decode cL_law 572 = .ok (.aload_n 2, 1) ∧ decode cL_law 573 = .ok (.aload_n 0, 1) ∧ decode cL_law 574 = .ok (.iload_n 3, 1) ∧ decode cL_law 575 = .ok (.iconst 1, 1) ∧ decode cL_law 576 = .ok (.iadd, 1) ∧ decode cL_law 577 = .ok (.iaload, 1) ∧ decode cL_law 578 = .ok (.invokevirtual 68, 3) ∧ decode cL_law 581 = .ok (.if_icmp .eq 921, 3) ∧ decode cL_law 584 = .ok (.iconst 0, 1) ∧ decode cL_law 585 = .ok (.ireturn, 1) ∧ decode cL_law 586 = .ok (.aload_n 1, 1) ∧ decode cL_law 587 = .ok (.aload_n 0, 1) := by decide +kernel
theorem dL_law_572 : decode cL_law 572 = .ok (.aload_n 2, 1) := dq_986.1
theorem dL_law_573 : decode cL_law 573 = .ok (.aload_n 0, 1) := dq_986.2.1
theorem dL_law_574 : decode cL_law 574 = .ok (.iload_n 3, 1) := dq_986.2.2.1
theorem dL_law_575 : decode cL_law 575 = .ok (.iconst 1, 1) := dq_986.2.2.2.1
theorem dL_law_576 : decode cL_law 576 = .ok (.iadd, 1) := dq_986.2.2.2.2.1
theorem dL_law_577 : decode cL_law 577 = .ok (.iaload, 1) := dq_986.2.2.2.2.2.1
theorem dL_law_578 : decode cL_law 578 = .ok (.invokevirtual 68, 3) := dq_986.2.2.2.2.2.2.1
theorem dL_law_581 : decode cL_law 581 = .ok (.if_icmp .eq 921, 3) := dq_986.2.2.2.2.2.2.2.1
theorem dL_law_584 : decode cL_law 584 = .ok (.iconst 0, 1) := dq_986.2.2.2.2.2.2.2.2.1
theorem dL_law_585 : decode cL_law 585 = .ok (.ireturn, 1) := dq_986.2.2.2.2.2.2.2.2.2.1
theorem dL_law_586 : decode cL_law 586 = .ok (.aload_n 1, 1) := dq_986.2.2.2.2.2.2.2.2.2.2.1
theorem dL_law_587 : decode cL_law 587 = .ok (.aload_n 0, 1) := dq_986.2.2.2.2.2.2.2.2.2.2.2
theorem dq_987 : decode cL_law 588 = .ok (.iload_n 3, 1) ∧ decode cL_law 589 = .ok (.iconst 1, 1) ∧ decode cL_law 590 = .ok (.iadd, 1) ∧ decode cL_law 591 = .ok (.iaload, 1) ∧ decode cL_law 592 = .ok (.aload_n 0, 1) ∧ decode cL_law 593 = .ok (.iload_n 3, 1) ∧ decode cL_law 594 = .ok (.iconst 2, 1) ∧ decode cL_law 595 = .ok (.iadd, 1) ∧ decode cL_law 596 = .ok (.iaload, 1) ∧ decode cL_law 597 = .ok (.invokevirtual 69, 3) ∧ decode cL_law 600 = .ok (.aload_n 2, 1) ∧ decode cL_law 601 = .ok (.aload_n 0, 1) := by decide +kernel
theorem dL_law_588 : decode cL_law 588 = .ok (.iload_n 3, 1) := dq_987.1
theorem dL_law_589 : decode cL_law 589 = .ok (.iconst 1, 1) := dq_987.2.1
theorem dL_law_590 : decode cL_law 590 = .ok (.iadd, 1) := dq_987.2.2.1
theorem dL_law_591 : decode cL_law 591 = .ok (.iaload, 1) := dq_987.2.2.2.1
theorem dL_law_592 : decode cL_law 592 = .ok (.aload_n 0, 1) := dq_987.2.2.2.2.1
theorem dL_law_593 : decode cL_law 593 = .ok (.iload_n 3, 1) := dq_987.2.2.2.2.2.1
theorem dL_law_594 : decode cL_law 594 = .ok (.iconst 2, 1) := dq_987.2.2.2.2.2.2.1
theorem dL_law_595 : decode cL_law 595 = .ok (.iadd, 1) := dq_987.2.2.2.2.2.2.2.1
theorem dL_law_596 : decode cL_law 596 = .ok (.iaload, 1) := dq_987.2.2.2.2.2.2.2.2.1
theorem dL_law_597 : decode cL_law 597 = .ok (.invokevirtual 69, 3) := dq_987.2.2.2.2.2.2.2.2.2.1
theorem dL_law_600 : decode cL_law 600 = .ok (.aload_n 2, 1) := dq_987.2.2.2.2.2.2.2.2.2.2.1
theorem dL_law_601 : decode cL_law 601 = .ok (.aload_n 0, 1) := dq_987.2.2.2.2.2.2.2.2.2.2.2
theorem dq_988 : decode cL_law 602 = .ok (.iload_n 3, 1) ∧ decode cL_law 603 = .ok (.iconst 1, 1) ∧ decode cL_law 604 = .ok (.iadd, 1) ∧ decode cL_law 605 = .ok (.iaload, 1) ∧ decode cL_law 606 = .ok (.aload_n 0, 1) ∧ decode cL_law 607 = .ok (.iload_n 3, 1) ∧ decode cL_law 608 = .ok (.iconst 2, 1) ∧ decode cL_law 609 = .ok (.iadd, 1) ∧ decode cL_law 610 = .ok (.iaload, 1) ∧ decode cL_law 611 = .ok (.invokevirtual 72, 3) ∧ decode cL_law 614 = .ok (.if_icmp .eq 888, 3) ∧ decode cL_law 617 = .ok (.iconst 0, 1) := by decide +kernel
theorem dL_law_602 : decode cL_law 602 = .ok (.iload_n 3, 1) := dq_988.1
theorem dL_law_603 : decode cL_law 603 = .ok (.iconst 1, 1) := dq_988.2.1
theorem dL_law_604 : decode cL_law 604 = .ok (.iadd, 1) := dq_988.2.2.1
theorem dL_law_605 : decode cL_law 605 = .ok (.iaload, 1) := dq_988.2.2.2.1
theorem dL_law_606 : decode cL_law 606 = .ok (.aload_n 0, 1) := dq_988.2.2.2.2.1
theorem dL_law_607 : decode cL_law 607 = .ok (.iload_n 3, 1) := dq_988.2.2.2.2.2.1
theorem dL_law_608 : decode cL_law 608 = .ok (.iconst 2, 1) := dq_988.2.2.2.2.2.2.1
theorem dL_law_609 : decode cL_law 609 = .ok (.iadd, 1) := dq_988.2.2.2.2.2.2.2.1
theorem dL_law_610 : decode cL_law 610 = .ok (.iaload, 1) := dq_988.2.2.2.2.2.2.2.2.1
theorem dL_law_611 : decode cL_law 611 = .ok (.invokevirtual 72, 3) := dq_988.2.2.2.2.2.2.2.2.2.1
theorem dL_law_614 : decode cL_law 614 = .ok (.if_icmp .eq 888, 3) := dq_988.2.2.2.2.2.2.2.2.2.2.1
theorem dL_law_617 : decode cL_law 617 = .ok (.iconst 0, 1) := dq_988.2.2.2.2.2.2.2.2.2.2.2
theorem dq_989 : decode cL_law 618 = .ok (.ireturn, 1) ∧ decode cL_law 619 = .ok (.aload_n 1, 1) ∧ decode cL_law 620 = .ok (.invokevirtual 73, 3) ∧ decode cL_law 623 = .ok (.aload_n 2, 1) ∧ decode cL_law 624 = .ok (.invokevirtual 77, 3) ∧ decode cL_law 627 = .ok (.lcmp, 1) ∧ decode cL_law 628 = .ok (.ifCond .eq 874, 3) ∧ decode cL_law 631 = .ok (.iconst 0, 1) ∧ decode cL_law 632 = .ok (.ireturn, 1) ∧ decode cL_law 633 = .ok (.aload_n 1, 1) ∧ decode cL_law 634 = .ok (.aload_n 0, 1) ∧ decode cL_law 635 = .ok (.iload_n 3, 1) := by decide +kernel
theorem dL_law_618 : decode cL_law 618 = .ok (.ireturn, 1) := dq_989.1
theorem dL_law_619 : decode cL_law 619 = .ok (.aload_n 1, 1) := dq_989.2.1
theorem dL_law_620 : decode cL_law 620 = .ok (.invokevirtual 73, 3) := dq_989.2.2.1
theorem dL_law_623 : decode cL_law 623 = .ok (.aload_n 2, 1) := dq_989.2.2.2.1
theorem dL_law_624 : decode cL_law 624 = .ok (.invokevirtual 77, 3) := dq_989.2.2.2.2.1
theorem dL_law_627 : decode cL_law 627 = .ok (.lcmp, 1) := dq_989.2.2.2.2.2.1
theorem dL_law_628 : decode cL_law 628 = .ok (.ifCond .eq 874, 3) := dq_989.2.2.2.2.2.2.1
theorem dL_law_631 : decode cL_law 631 = .ok (.iconst 0, 1) := dq_989.2.2.2.2.2.2.2.1
theorem dL_law_632 : decode cL_law 632 = .ok (.ireturn, 1) := dq_989.2.2.2.2.2.2.2.2.1
theorem dL_law_633 : decode cL_law 633 = .ok (.aload_n 1, 1) := dq_989.2.2.2.2.2.2.2.2.2.1
theorem dL_law_634 : decode cL_law 634 = .ok (.aload_n 0, 1) := dq_989.2.2.2.2.2.2.2.2.2.2.1
theorem dL_law_635 : decode cL_law 635 = .ok (.iload_n 3, 1) := dq_989.2.2.2.2.2.2.2.2.2.2.2
theorem dq_990 : decode cL_law 636 = .ok (.iconst 1, 1) ∧ decode cL_law 637 = .ok (.iadd, 1) ∧ decode cL_law 638 = .ok (.iaload, 1) ∧ decode cL_law 639 = .ok (.aload_n 0, 1) ∧ decode cL_law 640 = .ok (.iload_n 3, 1) ∧ decode cL_law 641 = .ok (.iconst 2, 1) ∧ decode cL_law 642 = .ok (.iadd, 1) ∧ decode cL_law 643 = .ok (.iaload, 1) ∧ decode cL_law 644 = .ok (.aload_n 0, 1) ∧ decode cL_law 645 = .ok (.iload_n 3, 1) ∧ decode cL_law 646 = .ok (.iconst 3, 1) ∧ decode cL_law 647 = .ok (.iadd, 1) := by decide +kernel
theorem dL_law_636 : decode cL_law 636 = .ok (.iconst 1, 1) := dq_990.1
theorem dL_law_637 : decode cL_law 637 = .ok (.iadd, 1) := dq_990.2.1
theorem dL_law_638 : decode cL_law 638 = .ok (.iaload, 1) := dq_990.2.2.1
theorem dL_law_639 : decode cL_law 639 = .ok (.aload_n 0, 1) := dq_990.2.2.2.1
theorem dL_law_640 : decode cL_law 640 = .ok (.iload_n 3, 1) := dq_990.2.2.2.2.1
theorem dL_law_641 : decode cL_law 641 = .ok (.iconst 2, 1) := dq_990.2.2.2.2.2.1
theorem dL_law_642 : decode cL_law 642 = .ok (.iadd, 1) := dq_990.2.2.2.2.2.2.1
theorem dL_law_643 : decode cL_law 643 = .ok (.iaload, 1) := dq_990.2.2.2.2.2.2.2.1
theorem dL_law_644 : decode cL_law 644 = .ok (.aload_n 0, 1) := dq_990.2.2.2.2.2.2.2.2.1
theorem dL_law_645 : decode cL_law 645 = .ok (.iload_n 3, 1) := dq_990.2.2.2.2.2.2.2.2.2.1
theorem dL_law_646 : decode cL_law 646 = .ok (.iconst 3, 1) := dq_990.2.2.2.2.2.2.2.2.2.2.1
theorem dL_law_647 : decode cL_law 647 = .ok (.iadd, 1) := dq_990.2.2.2.2.2.2.2.2.2.2.2
theorem dq_991 : decode cL_law 648 = .ok (.iaload, 1) ∧ decode cL_law 649 = .ok (.invokevirtual 78, 3) ∧ decode cL_law 652 = .ok (.aload_n 2, 1) ∧ decode cL_law 653 = .ok (.aload_n 0, 1) ∧ decode cL_law 654 = .ok (.iload_n 3, 1) ∧ decode cL_law 655 = .ok (.iconst 1, 1) ∧ decode cL_law 656 = .ok (.iadd, 1) ∧ decode cL_law 657 = .ok (.iaload, 1) ∧ decode cL_law 658 = .ok (.aload_n 0, 1) ∧ decode cL_law 659 = .ok (.iload_n 3, 1) ∧ decode cL_law 660 = .ok (.iconst 2, 1) ∧ decode cL_law 661 = .ok (.iadd, 1) := by decide +kernel
theorem dL_law_648 : decode cL_law 648 = .ok (.iaload, 1) := dq_991.1
theorem dL_law_649 : decode cL_law 649 = .ok (.invokevirtual 78, 3) := dq_991.2.1
theorem dL_law_652 : decode cL_law 652 = .ok (.aload_n 2, 1) := dq_991.2.2.1
theorem dL_law_653 : decode cL_law 653 = .ok (.aload_n 0, 1) := dq_991.2.2.2.1
theorem dL_law_654 : decode cL_law 654 = .ok (.iload_n 3, 1) := dq_991.2.2.2.2.1
theorem dL_law_655 : decode cL_law 655 = .ok (.iconst 1, 1) := dq_991.2.2.2.2.2.1
theorem dL_law_656 : decode cL_law 656 = .ok (.iadd, 1) := dq_991.2.2.2.2.2.2.1
theorem dL_law_657 : decode cL_law 657 = .ok (.iaload, 1) := dq_991.2.2.2.2.2.2.2.1
theorem dL_law_658 : decode cL_law 658 = .ok (.aload_n 0, 1) := dq_991.2.2.2.2.2.2.2.2.1
theorem dL_law_659 : decode cL_law 659 = .ok (.iload_n 3, 1) := dq_991.2.2.2.2.2.2.2.2.2.1
theorem dL_law_660 : decode cL_law 660 = .ok (.iconst 2, 1) := dq_991.2.2.2.2.2.2.2.2.2.2.1
theorem dL_law_661 : decode cL_law 661 = .ok (.iadd, 1) := dq_991.2.2.2.2.2.2.2.2.2.2.2
theorem dq_992 : decode cL_law 662 = .ok (.iaload, 1) ∧ decode cL_law 663 = .ok (.aload_n 0, 1) ∧ decode cL_law 664 = .ok (.iload_n 3, 1) ∧ decode cL_law 665 = .ok (.iconst 3, 1) ∧ decode cL_law 666 = .ok (.iadd, 1) ∧ decode cL_law 667 = .ok (.iaload, 1) ∧ decode cL_law 668 = .ok (.invokevirtual 82, 3) ∧ decode cL_law 671 = .ok (.lcmp, 1) ∧ decode cL_law 672 = .ok (.ifCond .eq 830, 3) ∧ decode cL_law 675 = .ok (.iconst 0, 1) ∧ decode cL_law 676 = .ok (.ireturn, 1) ∧ decode cL_law 677 = .ok (.aload_n 1, 1) := by decide +kernel
theorem dL_law_662 : decode cL_law 662 = .ok (.iaload, 1) := dq_992.1
theorem dL_law_663 : decode cL_law 663 = .ok (.aload_n 0, 1) := dq_992.2.1
theorem dL_law_664 : decode cL_law 664 = .ok (.iload_n 3, 1) := dq_992.2.2.1
theorem dL_law_665 : decode cL_law 665 = .ok (.iconst 3, 1) := dq_992.2.2.2.1
theorem dL_law_666 : decode cL_law 666 = .ok (.iadd, 1) := dq_992.2.2.2.2.1
theorem dL_law_667 : decode cL_law 667 = .ok (.iaload, 1) := dq_992.2.2.2.2.2.1
theorem dL_law_668 : decode cL_law 668 = .ok (.invokevirtual 82, 3) := dq_992.2.2.2.2.2.2.1
theorem dL_law_671 : decode cL_law 671 = .ok (.lcmp, 1) := dq_992.2.2.2.2.2.2.2.1
theorem dL_law_672 : decode cL_law 672 = .ok (.ifCond .eq 830, 3) := dq_992.2.2.2.2.2.2.2.2.1
theorem dL_law_675 : decode cL_law 675 = .ok (.iconst 0, 1) := dq_992.2.2.2.2.2.2.2.2.2.1
theorem dL_law_676 : decode cL_law 676 = .ok (.ireturn, 1) := dq_992.2.2.2.2.2.2.2.2.2.2.1
theorem dL_law_677 : decode cL_law 677 = .ok (.aload_n 1, 1) := dq_992.2.2.2.2.2.2.2.2.2.2.2
theorem dq_993 : decode cL_law 678 = .ok (.aload_n 0, 1) ∧ decode cL_law 679 = .ok (.iload_n 3, 1) ∧ decode cL_law 680 = .ok (.iconst 1, 1) ∧ decode cL_law 681 = .ok (.iadd, 1) ∧ decode cL_law 682 = .ok (.iaload, 1) ∧ decode cL_law 683 = .ok (.invokevirtual 83, 3) ∧ decode cL_law 686 = .ok (.aload_n 2, 1) ∧ decode cL_law 687 = .ok (.aload_n 0, 1) ∧ decode cL_law 688 = .ok (.iload_n 3, 1) ∧ decode cL_law 689 = .ok (.iconst 1, 1) ∧ decode cL_law 690 = .ok (.iadd, 1) ∧ decode cL_law 691 = .ok (.iaload, 1) := by decide +kernel
theorem dL_law_678 : decode cL_law 678 = .ok (.aload_n 0, 1) := dq_993.1
theorem dL_law_679 : decode cL_law 679 = .ok (.iload_n 3, 1) := dq_993.2.1
theorem dL_law_680 : decode cL_law 680 = .ok (.iconst 1, 1) := dq_993.2.2.1
theorem dL_law_681 : decode cL_law 681 = .ok (.iadd, 1) := dq_993.2.2.2.1
theorem dL_law_682 : decode cL_law 682 = .ok (.iaload, 1) := dq_993.2.2.2.2.1
theorem dL_law_683 : decode cL_law 683 = .ok (.invokevirtual 83, 3) := dq_993.2.2.2.2.2.1
theorem dL_law_686 : decode cL_law 686 = .ok (.aload_n 2, 1) := dq_993.2.2.2.2.2.2.1
theorem dL_law_687 : decode cL_law 687 = .ok (.aload_n 0, 1) := dq_993.2.2.2.2.2.2.2.1
theorem dL_law_688 : decode cL_law 688 = .ok (.iload_n 3, 1) := dq_993.2.2.2.2.2.2.2.2.1
theorem dL_law_689 : decode cL_law 689 = .ok (.iconst 1, 1) := dq_993.2.2.2.2.2.2.2.2.2.1
theorem dL_law_690 : decode cL_law 690 = .ok (.iadd, 1) := dq_993.2.2.2.2.2.2.2.2.2.2.1
theorem dL_law_691 : decode cL_law 691 = .ok (.iaload, 1) := dq_993.2.2.2.2.2.2.2.2.2.2.2
theorem dq_994 : decode cL_law 692 = .ok (.invokevirtual 86, 3) ∧ decode cL_law 695 = .ok (.if_icmp .eq 807, 3) ∧ decode cL_law 698 = .ok (.iconst 0, 1) ∧ decode cL_law 699 = .ok (.ireturn, 1) ∧ decode cL_law 700 = .ok (.aload_n 1, 1) ∧ decode cL_law 701 = .ok (.aload_n 0, 1) ∧ decode cL_law 702 = .ok (.iload_n 3, 1) ∧ decode cL_law 703 = .ok (.iconst 1, 1) ∧ decode cL_law 704 = .ok (.iadd, 1) ∧ decode cL_law 705 = .ok (.iaload, 1) ∧ decode cL_law 706 = .ok (.i2l, 1) ∧ decode cL_law 707 = .ok (.bipush 32, 2) := by decide +kernel
theorem dL_law_692 : decode cL_law 692 = .ok (.invokevirtual 86, 3) := dq_994.1
theorem dL_law_695 : decode cL_law 695 = .ok (.if_icmp .eq 807, 3) := dq_994.2.1
theorem dL_law_698 : decode cL_law 698 = .ok (.iconst 0, 1) := dq_994.2.2.1
theorem dL_law_699 : decode cL_law 699 = .ok (.ireturn, 1) := dq_994.2.2.2.1
theorem dL_law_700 : decode cL_law 700 = .ok (.aload_n 1, 1) := dq_994.2.2.2.2.1
theorem dL_law_701 : decode cL_law 701 = .ok (.aload_n 0, 1) := dq_994.2.2.2.2.2.1
theorem dL_law_702 : decode cL_law 702 = .ok (.iload_n 3, 1) := dq_994.2.2.2.2.2.2.1
theorem dL_law_703 : decode cL_law 703 = .ok (.iconst 1, 1) := dq_994.2.2.2.2.2.2.2.1
theorem dL_law_704 : decode cL_law 704 = .ok (.iadd, 1) := dq_994.2.2.2.2.2.2.2.2.1
theorem dL_law_705 : decode cL_law 705 = .ok (.iaload, 1) := dq_994.2.2.2.2.2.2.2.2.2.1
theorem dL_law_706 : decode cL_law 706 = .ok (.i2l, 1) := dq_994.2.2.2.2.2.2.2.2.2.2.1
theorem dL_law_707 : decode cL_law 707 = .ok (.bipush 32, 2) := dq_994.2.2.2.2.2.2.2.2.2.2.2
theorem dq_995 : decode cL_law 709 = .ok (.lshl, 1) ∧ decode cL_law 710 = .ok (.aload_n 0, 1) ∧ decode cL_law 711 = .ok (.iload_n 3, 1) ∧ decode cL_law 712 = .ok (.iconst 2, 1) ∧ decode cL_law 713 = .ok (.iadd, 1) ∧ decode cL_law 714 = .ok (.iaload, 1) ∧ decode cL_law 715 = .ok (.i2l, 1) ∧ decode cL_law 716 = .ok (.ldc2_w 13, 3) ∧ decode cL_law 719 = .ok (.land, 1) ∧ decode cL_law 720 = .ok (.lor, 1) ∧ decode cL_law 721 = .ok (.aload_n 0, 1) ∧ decode cL_law 722 = .ok (.iload_n 3, 1) := by decide +kernel
theorem dL_law_709 : decode cL_law 709 = .ok (.lshl, 1) := dq_995.1
theorem dL_law_710 : decode cL_law 710 = .ok (.aload_n 0, 1) := dq_995.2.1
theorem dL_law_711 : decode cL_law 711 = .ok (.iload_n 3, 1) := dq_995.2.2.1
theorem dL_law_712 : decode cL_law 712 = .ok (.iconst 2, 1) := dq_995.2.2.2.1
theorem dL_law_713 : decode cL_law 713 = .ok (.iadd, 1) := dq_995.2.2.2.2.1
theorem dL_law_714 : decode cL_law 714 = .ok (.iaload, 1) := dq_995.2.2.2.2.2.1
theorem dL_law_715 : decode cL_law 715 = .ok (.i2l, 1) := dq_995.2.2.2.2.2.2.1
theorem dL_law_716 : decode cL_law 716 = .ok (.ldc2_w 13, 3) := dq_995.2.2.2.2.2.2.2.1
theorem dL_law_719 : decode cL_law 719 = .ok (.land, 1) := dq_995.2.2.2.2.2.2.2.2.1
theorem dL_law_720 : decode cL_law 720 = .ok (.lor, 1) := dq_995.2.2.2.2.2.2.2.2.2.1
theorem dL_law_721 : decode cL_law 721 = .ok (.aload_n 0, 1) := dq_995.2.2.2.2.2.2.2.2.2.2.1
theorem dL_law_722 : decode cL_law 722 = .ok (.iload_n 3, 1) := dq_995.2.2.2.2.2.2.2.2.2.2.2
theorem dq_996 : decode cL_law 723 = .ok (.iconst 3, 1) ∧ decode cL_law 724 = .ok (.iadd, 1) ∧ decode cL_law 725 = .ok (.iaload, 1) ∧ decode cL_law 726 = .ok (.invokevirtual 87, 3) ∧ decode cL_law 729 = .ok (.aload_n 2, 1) ∧ decode cL_law 730 = .ok (.aload_n 0, 1) ∧ decode cL_law 731 = .ok (.iload_n 3, 1) ∧ decode cL_law 732 = .ok (.iconst 1, 1) ∧ decode cL_law 733 = .ok (.iadd, 1) ∧ decode cL_law 734 = .ok (.iaload, 1) ∧ decode cL_law 735 = .ok (.i2l, 1) ∧ decode cL_law 736 = .ok (.bipush 32, 2) := by decide +kernel
theorem dL_law_723 : decode cL_law 723 = .ok (.iconst 3, 1) := dq_996.1
theorem dL_law_724 : decode cL_law 724 = .ok (.iadd, 1) := dq_996.2.1
theorem dL_law_725 : decode cL_law 725 = .ok (.iaload, 1) := dq_996.2.2.1
theorem dL_law_726 : decode cL_law 726 = .ok (.invokevirtual 87, 3) := dq_996.2.2.2.1
theorem dL_law_729 : decode cL_law 729 = .ok (.aload_n 2, 1) := dq_996.2.2.2.2.1
theorem dL_law_730 : decode cL_law 730 = .ok (.aload_n 0, 1) := dq_996.2.2.2.2.2.1
theorem dL_law_731 : decode cL_law 731 = .ok (.iload_n 3, 1) := dq_996.2.2.2.2.2.2.1
theorem dL_law_732 : decode cL_law 732 = .ok (.iconst 1, 1) := dq_996.2.2.2.2.2.2.2.1
theorem dL_law_733 : decode cL_law 733 = .ok (.iadd, 1) := dq_996.2.2.2.2.2.2.2.2.1
theorem dL_law_734 : decode cL_law 734 = .ok (.iaload, 1) := dq_996.2.2.2.2.2.2.2.2.2.1
theorem dL_law_735 : decode cL_law 735 = .ok (.i2l, 1) := dq_996.2.2.2.2.2.2.2.2.2.2.1
theorem dL_law_736 : decode cL_law 736 = .ok (.bipush 32, 2) := dq_996.2.2.2.2.2.2.2.2.2.2.2
theorem dq_997 : decode cL_law 738 = .ok (.lshl, 1) ∧ decode cL_law 739 = .ok (.aload_n 0, 1) ∧ decode cL_law 740 = .ok (.iload_n 3, 1) ∧ decode cL_law 741 = .ok (.iconst 2, 1) ∧ decode cL_law 742 = .ok (.iadd, 1) ∧ decode cL_law 743 = .ok (.iaload, 1) ∧ decode cL_law 744 = .ok (.i2l, 1) ∧ decode cL_law 745 = .ok (.ldc2_w 13, 3) ∧ decode cL_law 748 = .ok (.land, 1) ∧ decode cL_law 749 = .ok (.lor, 1) ∧ decode cL_law 750 = .ok (.aload_n 0, 1) ∧ decode cL_law 751 = .ok (.iload_n 3, 1) := by decide +kernel
theorem dL_law_738 : decode cL_law 738 = .ok (.lshl, 1) := dq_997.1
theorem dL_law_739 : decode cL_law 739 = .ok (.aload_n 0, 1) := dq_997.2.1
theorem dL_law_740 : decode cL_law 740 = .ok (.iload_n 3, 1) := dq_997.2.2.1
theorem dL_law_741 : decode cL_law 741 = .ok (.iconst 2, 1) := dq_997.2.2.2.1
theorem dL_law_742 : decode cL_law 742 = .ok (.iadd, 1) := dq_997.2.2.2.2.1
theorem dL_law_743 : decode cL_law 743 = .ok (.iaload, 1) := dq_997.2.2.2.2.2.1
theorem dL_law_744 : decode cL_law 744 = .ok (.i2l, 1) := dq_997.2.2.2.2.2.2.1
theorem dL_law_745 : decode cL_law 745 = .ok (.ldc2_w 13, 3) := dq_997.2.2.2.2.2.2.2.1
theorem dL_law_748 : decode cL_law 748 = .ok (.land, 1) := dq_997.2.2.2.2.2.2.2.2.1
theorem dL_law_749 : decode cL_law 749 = .ok (.lor, 1) := dq_997.2.2.2.2.2.2.2.2.2.1
theorem dL_law_750 : decode cL_law 750 = .ok (.aload_n 0, 1) := dq_997.2.2.2.2.2.2.2.2.2.2.1
theorem dL_law_751 : decode cL_law 751 = .ok (.iload_n 3, 1) := dq_997.2.2.2.2.2.2.2.2.2.2.2
theorem dq_998 : decode cL_law 752 = .ok (.iconst 3, 1) ∧ decode cL_law 753 = .ok (.iadd, 1) ∧ decode cL_law 754 = .ok (.iaload, 1) ∧ decode cL_law 755 = .ok (.invokevirtual 91, 3) ∧ decode cL_law 758 = .ok (.if_icmp .eq 744, 3) ∧ decode cL_law 761 = .ok (.iconst 0, 1) ∧ decode cL_law 762 = .ok (.ireturn, 1) ∧ decode cL_law 763 = .ok (.aload_n 1, 1) ∧ decode cL_law 764 = .ok (.aload_n 0, 1) ∧ decode cL_law 765 = .ok (.iload_n 3, 1) ∧ decode cL_law 766 = .ok (.iconst 1, 1) ∧ decode cL_law 767 = .ok (.iadd, 1) := by decide +kernel
theorem dL_law_752 : decode cL_law 752 = .ok (.iconst 3, 1) := dq_998.1
theorem dL_law_753 : decode cL_law 753 = .ok (.iadd, 1) := dq_998.2.1
theorem dL_law_754 : decode cL_law 754 = .ok (.iaload, 1) := dq_998.2.2.1
theorem dL_law_755 : decode cL_law 755 = .ok (.invokevirtual 91, 3) := dq_998.2.2.2.1
theorem dL_law_758 : decode cL_law 758 = .ok (.if_icmp .eq 744, 3) := dq_998.2.2.2.2.1
theorem dL_law_761 : decode cL_law 761 = .ok (.iconst 0, 1) := dq_998.2.2.2.2.2.1
theorem dL_law_762 : decode cL_law 762 = .ok (.ireturn, 1) := dq_998.2.2.2.2.2.2.1
theorem dL_law_763 : decode cL_law 763 = .ok (.aload_n 1, 1) := dq_998.2.2.2.2.2.2.2.1
theorem dL_law_764 : decode cL_law 764 = .ok (.aload_n 0, 1) := dq_998.2.2.2.2.2.2.2.2.1
theorem dL_law_765 : decode cL_law 765 = .ok (.iload_n 3, 1) := dq_998.2.2.2.2.2.2.2.2.2.1
theorem dL_law_766 : decode cL_law 766 = .ok (.iconst 1, 1) := dq_998.2.2.2.2.2.2.2.2.2.2.1
theorem dL_law_767 : decode cL_law 767 = .ok (.iadd, 1) := dq_998.2.2.2.2.2.2.2.2.2.2.2
theorem dq_999 : decode cL_law 768 = .ok (.iaload, 1) ∧ decode cL_law 769 = .ok (.aload_n 0, 1) ∧ decode cL_law 770 = .ok (.iload_n 3, 1) ∧ decode cL_law 771 = .ok (.iconst 2, 1) ∧ decode cL_law 772 = .ok (.iadd, 1) ∧ decode cL_law 773 = .ok (.iaload, 1) ∧ decode cL_law 774 = .ok (.invokevirtual 92, 3) ∧ decode cL_law 777 = .ok (.aload_n 2, 1) ∧ decode cL_law 778 = .ok (.aload_n 0, 1) ∧ decode cL_law 779 = .ok (.iload_n 3, 1) ∧ decode cL_law 780 = .ok (.iconst 1, 1) ∧ decode cL_law 781 = .ok (.iadd, 1) := by decide +kernel
theorem dL_law_768 : decode cL_law 768 = .ok (.iaload, 1) := dq_999.1
theorem dL_law_769 : decode cL_law 769 = .ok (.aload_n 0, 1) := dq_999.2.1
theorem dL_law_770 : decode cL_law 770 = .ok (.iload_n 3, 1) := dq_999.2.2.1
theorem dL_law_771 : decode cL_law 771 = .ok (.iconst 2, 1) := dq_999.2.2.2.1
theorem dL_law_772 : decode cL_law 772 = .ok (.iadd, 1) := dq_999.2.2.2.2.1
theorem dL_law_773 : decode cL_law 773 = .ok (.iaload, 1) := dq_999.2.2.2.2.2.1
theorem dL_law_774 : decode cL_law 774 = .ok (.invokevirtual 92, 3) := dq_999.2.2.2.2.2.2.1
theorem dL_law_777 : decode cL_law 777 = .ok (.aload_n 2, 1) := dq_999.2.2.2.2.2.2.2.1
theorem dL_law_778 : decode cL_law 778 = .ok (.aload_n 0, 1) := dq_999.2.2.2.2.2.2.2.2.1
theorem dL_law_779 : decode cL_law 779 = .ok (.iload_n 3, 1) := dq_999.2.2.2.2.2.2.2.2.2.1
theorem dL_law_780 : decode cL_law 780 = .ok (.iconst 1, 1) := dq_999.2.2.2.2.2.2.2.2.2.2.1
theorem dL_law_781 : decode cL_law 781 = .ok (.iadd, 1) := dq_999.2.2.2.2.2.2.2.2.2.2.2
theorem dq_1000 : decode cL_law 782 = .ok (.iaload, 1) ∧ decode cL_law 783 = .ok (.aload_n 0, 1) ∧ decode cL_law 784 = .ok (.iload_n 3, 1) ∧ decode cL_law 785 = .ok (.iconst 2, 1) ∧ decode cL_law 786 = .ok (.iadd, 1) ∧ decode cL_law 787 = .ok (.iaload, 1) ∧ decode cL_law 788 = .ok (.invokevirtual 95, 3) ∧ decode cL_law 791 = .ok (.if_icmp .eq 711, 3) ∧ decode cL_law 794 = .ok (.iconst 0, 1) ∧ decode cL_law 795 = .ok (.ireturn, 1) ∧ decode cL_law 796 = .ok (.aload_n 1, 1) ∧ decode cL_law 797 = .ok (.aload_n 0, 1) := by decide +kernel
theorem dL_law_782 : decode cL_law 782 = .ok (.iaload, 1) := dq_1000.1
theorem dL_law_783 : decode cL_law 783 = .ok (.aload_n 0, 1) := dq_1000.2.1
theorem dL_law_784 : decode cL_law 784 = .ok (.iload_n 3, 1) := dq_1000.2.2.1
theorem dL_law_785 : decode cL_law 785 = .ok (.iconst 2, 1) := dq_1000.2.2.2.1
theorem dL_law_786 : decode cL_law 786 = .ok (.iadd, 1) := dq_1000.2.2.2.2.1
theorem dL_law_787 : decode cL_law 787 = .ok (.iaload, 1) := dq_1000.2.2.2.2.2.1
theorem dL_law_788 : decode cL_law 788 = .ok (.invokevirtual 95, 3) := dq_1000.2.2.2.2.2.2.1
theorem dL_law_791 : decode cL_law 791 = .ok (.if_icmp .eq 711, 3) := dq_1000.2.2.2.2.2.2.2.1
theorem dL_law_794 : decode cL_law 794 = .ok (.iconst 0, 1) := dq_1000.2.2.2.2.2.2.2.2.1
theorem dL_law_795 : decode cL_law 795 = .ok (.ireturn, 1) := dq_1000.2.2.2.2.2.2.2.2.2.1
theorem dL_law_796 : decode cL_law 796 = .ok (.aload_n 1, 1) := dq_1000.2.2.2.2.2.2.2.2.2.2.1
theorem dL_law_797 : decode cL_law 797 = .ok (.aload_n 0, 1) := dq_1000.2.2.2.2.2.2.2.2.2.2.2
theorem dq_1001 : decode cL_law 798 = .ok (.iload_n 3, 1) ∧ decode cL_law 799 = .ok (.iconst 1, 1) ∧ decode cL_law 800 = .ok (.iadd, 1) ∧ decode cL_law 801 = .ok (.iaload, 1) ∧ decode cL_law 802 = .ok (.aload_n 0, 1) ∧ decode cL_law 803 = .ok (.iload_n 3, 1) ∧ decode cL_law 804 = .ok (.iconst 2, 1) ∧ decode cL_law 805 = .ok (.iadd, 1) ∧ decode cL_law 806 = .ok (.iaload, 1) ∧ decode cL_law 807 = .ok (.invokevirtual 96, 3) ∧ decode cL_law 810 = .ok (.aload_n 2, 1) ∧ decode cL_law 811 = .ok (.aload_n 0, 1) := by decide +kernel
theorem dL_law_798 : decode cL_law 798 = .ok (.iload_n 3, 1) := dq_1001.1
theorem dL_law_799 : decode cL_law 799 = .ok (.iconst 1, 1) := dq_1001.2.1
theorem dL_law_800 : decode cL_law 800 = .ok (.iadd, 1) := dq_1001.2.2.1
theorem dL_law_801 : decode cL_law 801 = .ok (.iaload, 1) := dq_1001.2.2.2.1
theorem dL_law_802 : decode cL_law 802 = .ok (.aload_n 0, 1) := dq_1001.2.2.2.2.1
theorem dL_law_803 : decode cL_law 803 = .ok (.iload_n 3, 1) := dq_1001.2.2.2.2.2.1
theorem dL_law_804 : decode cL_law 804 = .ok (.iconst 2, 1) := dq_1001.2.2.2.2.2.2.1
theorem dL_law_805 : decode cL_law 805 = .ok (.iadd, 1) := dq_1001.2.2.2.2.2.2.2.1
theorem dL_law_806 : decode cL_law 806 = .ok (.iaload, 1) := dq_1001.2.2.2.2.2.2.2.2.1
theorem dL_law_807 : decode cL_law 807 = .ok (.invokevirtual 96, 3) := dq_1001.2.2.2.2.2.2.2.2.2.1
theorem dL_law_810 : decode cL_law 810 = .ok (.aload_n 2, 1) := dq_1001.2.2.2.2.2.2.2.2.2.2.1
theorem dL_law_811 : decode cL_law 811 = .ok (.aload_n 0, 1) := dq_1001.2.2.2.2.2.2.2.2.2.2.2
theorem dq_1002 : decode cL_law 812 = .ok (.iload_n 3, 1) ∧ decode cL_law 813 = .ok (.iconst 1, 1) ∧ decode cL_law 814 = .ok (.iadd, 1) ∧ decode cL_law 815 = .ok (.iaload, 1) ∧ decode cL_law 816 = .ok (.aload_n 0, 1) ∧ decode cL_law 817 = .ok (.iload_n 3, 1) ∧ decode cL_law 818 = .ok (.iconst 2, 1) ∧ decode cL_law 819 = .ok (.iadd, 1) ∧ decode cL_law 820 = .ok (.iaload, 1) ∧ decode cL_law 821 = .ok (.invokevirtual 99, 3) ∧ decode cL_law 824 = .ok (.if_icmp .eq 678, 3) ∧ decode cL_law 827 = .ok (.iconst 0, 1) := by decide +kernel
theorem dL_law_812 : decode cL_law 812 = .ok (.iload_n 3, 1) := dq_1002.1
theorem dL_law_813 : decode cL_law 813 = .ok (.iconst 1, 1) := dq_1002.2.1
theorem dL_law_814 : decode cL_law 814 = .ok (.iadd, 1) := dq_1002.2.2.1
theorem dL_law_815 : decode cL_law 815 = .ok (.iaload, 1) := dq_1002.2.2.2.1
theorem dL_law_816 : decode cL_law 816 = .ok (.aload_n 0, 1) := dq_1002.2.2.2.2.1
theorem dL_law_817 : decode cL_law 817 = .ok (.iload_n 3, 1) := dq_1002.2.2.2.2.2.1
theorem dL_law_818 : decode cL_law 818 = .ok (.iconst 2, 1) := dq_1002.2.2.2.2.2.2.1
theorem dL_law_819 : decode cL_law 819 = .ok (.iadd, 1) := dq_1002.2.2.2.2.2.2.2.1
theorem dL_law_820 : decode cL_law 820 = .ok (.iaload, 1) := dq_1002.2.2.2.2.2.2.2.2.1
theorem dL_law_821 : decode cL_law 821 = .ok (.invokevirtual 99, 3) := dq_1002.2.2.2.2.2.2.2.2.2.1
theorem dL_law_824 : decode cL_law 824 = .ok (.if_icmp .eq 678, 3) := dq_1002.2.2.2.2.2.2.2.2.2.2.1
theorem dL_law_827 : decode cL_law 827 = .ok (.iconst 0, 1) := dq_1002.2.2.2.2.2.2.2.2.2.2.2
theorem dq_1003 : decode cL_law 828 = .ok (.ireturn, 1) ∧ decode cL_law 829 = .ok (.aload_n 1, 1) ∧ decode cL_law 830 = .ok (.aload_n 0, 1) ∧ decode cL_law 831 = .ok (.iload_n 3, 1) ∧ decode cL_law 832 = .ok (.iconst 1, 1) ∧ decode cL_law 833 = .ok (.iadd, 1) ∧ decode cL_law 834 = .ok (.iaload, 1) ∧ decode cL_law 835 = .ok (.invokevirtual 100, 3) ∧ decode cL_law 838 = .ok (.aload_n 2, 1) ∧ decode cL_law 839 = .ok (.aload_n 0, 1) ∧ decode cL_law 840 = .ok (.iload_n 3, 1) ∧ decode cL_law 841 = .ok (.iconst 1, 1) := by decide +kernel
theorem dL_law_828 : decode cL_law 828 = .ok (.ireturn, 1) := dq_1003.1
theorem dL_law_829 : decode cL_law 829 = .ok (.aload_n 1, 1) := dq_1003.2.1
theorem dL_law_830 : decode cL_law 830 = .ok (.aload_n 0, 1) := dq_1003.2.2.1
theorem dL_law_831 : decode cL_law 831 = .ok (.iload_n 3, 1) := dq_1003.2.2.2.1
theorem dL_law_832 : decode cL_law 832 = .ok (.iconst 1, 1) := dq_1003.2.2.2.2.1
theorem dL_law_833 : decode cL_law 833 = .ok (.iadd, 1) := dq_1003.2.2.2.2.2.1
theorem dL_law_834 : decode cL_law 834 = .ok (.iaload, 1) := dq_1003.2.2.2.2.2.2.1
theorem dL_law_835 : decode cL_law 835 = .ok (.invokevirtual 100, 3) := dq_1003.2.2.2.2.2.2.2.1
theorem dL_law_838 : decode cL_law 838 = .ok (.aload_n 2, 1) := dq_1003.2.2.2.2.2.2.2.2.1
theorem dL_law_839 : decode cL_law 839 = .ok (.aload_n 0, 1) := dq_1003.2.2.2.2.2.2.2.2.2.1
theorem dL_law_840 : decode cL_law 840 = .ok (.iload_n 3, 1) := dq_1003.2.2.2.2.2.2.2.2.2.2.1
theorem dL_law_841 : decode cL_law 841 = .ok (.iconst 1, 1) := dq_1003.2.2.2.2.2.2.2.2.2.2.2
theorem dq_1004 : decode cL_law 842 = .ok (.iadd, 1) ∧ decode cL_law 843 = .ok (.iaload, 1) ∧ decode cL_law 844 = .ok (.invokevirtual 103, 3) ∧ decode cL_law 847 = .ok (.if_icmp .eq 655, 3) ∧ decode cL_law 850 = .ok (.iconst 0, 1) ∧ decode cL_law 851 = .ok (.ireturn, 1) ∧ decode cL_law 852 = .ok (.aload_n 1, 1) ∧ decode cL_law 853 = .ok (.aload_n 0, 1) ∧ decode cL_law 854 = .ok (.iload_n 3, 1) ∧ decode cL_law 855 = .ok (.iconst 1, 1) ∧ decode cL_law 856 = .ok (.iadd, 1) ∧ decode cL_law 857 = .ok (.iaload, 1) := by decide +kernel
theorem dL_law_842 : decode cL_law 842 = .ok (.iadd, 1) := dq_1004.1
theorem dL_law_843 : decode cL_law 843 = .ok (.iaload, 1) := dq_1004.2.1
theorem dL_law_844 : decode cL_law 844 = .ok (.invokevirtual 103, 3) := dq_1004.2.2.1
theorem dL_law_847 : decode cL_law 847 = .ok (.if_icmp .eq 655, 3) := dq_1004.2.2.2.1
theorem dL_law_850 : decode cL_law 850 = .ok (.iconst 0, 1) := dq_1004.2.2.2.2.1
theorem dL_law_851 : decode cL_law 851 = .ok (.ireturn, 1) := dq_1004.2.2.2.2.2.1
theorem dL_law_852 : decode cL_law 852 = .ok (.aload_n 1, 1) := dq_1004.2.2.2.2.2.2.1
theorem dL_law_853 : decode cL_law 853 = .ok (.aload_n 0, 1) := dq_1004.2.2.2.2.2.2.2.1
theorem dL_law_854 : decode cL_law 854 = .ok (.iload_n 3, 1) := dq_1004.2.2.2.2.2.2.2.2.1
theorem dL_law_855 : decode cL_law 855 = .ok (.iconst 1, 1) := dq_1004.2.2.2.2.2.2.2.2.2.1
theorem dL_law_856 : decode cL_law 856 = .ok (.iadd, 1) := dq_1004.2.2.2.2.2.2.2.2.2.2.1
theorem dL_law_857 : decode cL_law 857 = .ok (.iaload, 1) := dq_1004.2.2.2.2.2.2.2.2.2.2.2
theorem dq_1005 : decode cL_law 858 = .ok (.invokevirtual 104, 3) ∧ decode cL_law 861 = .ok (.aload_n 2, 1) ∧ decode cL_law 862 = .ok (.aload_n 0, 1) ∧ decode cL_law 863 = .ok (.iload_n 3, 1) ∧ decode cL_law 864 = .ok (.iconst 1, 1) ∧ decode cL_law 865 = .ok (.iadd, 1) ∧ decode cL_law 866 = .ok (.iaload, 1) ∧ decode cL_law 867 = .ok (.invokevirtual 107, 3) ∧ decode cL_law 870 = .ok (.if_icmp .eq 632, 3) ∧ decode cL_law 873 = .ok (.iconst 0, 1) ∧ decode cL_law 874 = .ok (.ireturn, 1) ∧ decode cL_law 875 = .ok (.aload_n 1, 1) := by decide +kernel
theorem dL_law_858 : decode cL_law 858 = .ok (.invokevirtual 104, 3) := dq_1005.1
theorem dL_law_861 : decode cL_law 861 = .ok (.aload_n 2, 1) := dq_1005.2.1
theorem dL_law_862 : decode cL_law 862 = .ok (.aload_n 0, 1) := dq_1005.2.2.1
theorem dL_law_863 : decode cL_law 863 = .ok (.iload_n 3, 1) := dq_1005.2.2.2.1
theorem dL_law_864 : decode cL_law 864 = .ok (.iconst 1, 1) := dq_1005.2.2.2.2.1
theorem dL_law_865 : decode cL_law 865 = .ok (.iadd, 1) := dq_1005.2.2.2.2.2.1
theorem dL_law_866 : decode cL_law 866 = .ok (.iaload, 1) := dq_1005.2.2.2.2.2.2.1
theorem dL_law_867 : decode cL_law 867 = .ok (.invokevirtual 107, 3) := dq_1005.2.2.2.2.2.2.2.1
theorem dL_law_870 : decode cL_law 870 = .ok (.if_icmp .eq 632, 3) := dq_1005.2.2.2.2.2.2.2.2.1
theorem dL_law_873 : decode cL_law 873 = .ok (.iconst 0, 1) := dq_1005.2.2.2.2.2.2.2.2.2.1
theorem dL_law_874 : decode cL_law 874 = .ok (.ireturn, 1) := dq_1005.2.2.2.2.2.2.2.2.2.2.1
theorem dL_law_875 : decode cL_law 875 = .ok (.aload_n 1, 1) := dq_1005.2.2.2.2.2.2.2.2.2.2.2
theorem dq_1006 : decode cL_law 876 = .ok (.invokevirtual 108, 3) ∧ decode cL_law 879 = .ok (.aload_n 2, 1) ∧ decode cL_law 880 = .ok (.invokevirtual 111, 3) ∧ decode cL_law 883 = .ok (.if_icmp .eq 619, 3) ∧ decode cL_law 886 = .ok (.iconst 0, 1) ∧ decode cL_law 887 = .ok (.ireturn, 1) ∧ decode cL_law 888 = .ok (.aload_n 1, 1) ∧ decode cL_law 889 = .ok (.aload_n 0, 1) ∧ decode cL_law 890 = .ok (.iload_n 3, 1) ∧ decode cL_law 891 = .ok (.iconst 1, 1) ∧ decode cL_law 892 = .ok (.iadd, 1) ∧ decode cL_law 893 = .ok (.iaload, 1) := by decide +kernel
theorem dL_law_876 : decode cL_law 876 = .ok (.invokevirtual 108, 3) := dq_1006.1
theorem dL_law_879 : decode cL_law 879 = .ok (.aload_n 2, 1) := dq_1006.2.1
theorem dL_law_880 : decode cL_law 880 = .ok (.invokevirtual 111, 3) := dq_1006.2.2.1
theorem dL_law_883 : decode cL_law 883 = .ok (.if_icmp .eq 619, 3) := dq_1006.2.2.2.1
theorem dL_law_886 : decode cL_law 886 = .ok (.iconst 0, 1) := dq_1006.2.2.2.2.1
theorem dL_law_887 : decode cL_law 887 = .ok (.ireturn, 1) := dq_1006.2.2.2.2.2.1
theorem dL_law_888 : decode cL_law 888 = .ok (.aload_n 1, 1) := dq_1006.2.2.2.2.2.2.1
theorem dL_law_889 : decode cL_law 889 = .ok (.aload_n 0, 1) := dq_1006.2.2.2.2.2.2.2.1
theorem dL_law_890 : decode cL_law 890 = .ok (.iload_n 3, 1) := dq_1006.2.2.2.2.2.2.2.2.1
theorem dL_law_891 : decode cL_law 891 = .ok (.iconst 1, 1) := dq_1006.2.2.2.2.2.2.2.2.2.1
theorem dL_law_892 : decode cL_law 892 = .ok (.iadd, 1) := dq_1006.2.2.2.2.2.2.2.2.2.2.1
theorem dL_law_893 : decode cL_law 893 = .ok (.iaload, 1) := dq_1006.2.2.2.2.2.2.2.2.2.2.2
theorem dq_1007 : decode cL_law 894 = .ok (.aload_n 0, 1) ∧ decode cL_law 895 = .ok (.iload_n 3, 1) ∧ decode cL_law 896 = .ok (.iconst 2, 1) ∧ decode cL_law 897 = .ok (.iadd, 1) ∧ decode cL_law 898 = .ok (.iaload, 1) ∧ decode cL_law 899 = .ok (.invokevirtual 112, 3) ∧ decode cL_law 902 = .ok (.aload_n 2, 1) ∧ decode cL_law 903 = .ok (.aload_n 0, 1) ∧ decode cL_law 904 = .ok (.iload_n 3, 1) ∧ decode cL_law 905 = .ok (.iconst 1, 1) ∧ decode cL_law 906 = .ok (.iadd, 1) ∧ decode cL_law 907 = .ok (.iaload, 1) := by decide +kernel
theorem dL_law_894 : decode cL_law 894 = .ok (.aload_n 0, 1) := dq_1007.1
theorem dL_law_895 : decode cL_law 895 = .ok (.iload_n 3, 1) := dq_1007.2.1
theorem dL_law_896 : decode cL_law 896 = .ok (.iconst 2, 1) := dq_1007.2.2.1
theorem dL_law_897 : decode cL_law 897 = .ok (.iadd, 1) := dq_1007.2.2.2.1
theorem dL_law_898 : decode cL_law 898 = .ok (.iaload, 1) := dq_1007.2.2.2.2.1
theorem dL_law_899 : decode cL_law 899 = .ok (.invokevirtual 112, 3) := dq_1007.2.2.2.2.2.1
theorem dL_law_902 : decode cL_law 902 = .ok (.aload_n 2, 1) := dq_1007.2.2.2.2.2.2.1
theorem dL_law_903 : decode cL_law 903 = .ok (.aload_n 0, 1) := dq_1007.2.2.2.2.2.2.2.1
theorem dL_law_904 : decode cL_law 904 = .ok (.iload_n 3, 1) := dq_1007.2.2.2.2.2.2.2.2.1
theorem dL_law_905 : decode cL_law 905 = .ok (.iconst 1, 1) := dq_1007.2.2.2.2.2.2.2.2.2.1
theorem dL_law_906 : decode cL_law 906 = .ok (.iadd, 1) := dq_1007.2.2.2.2.2.2.2.2.2.2.1
theorem dL_law_907 : decode cL_law 907 = .ok (.iaload, 1) := dq_1007.2.2.2.2.2.2.2.2.2.2.2
theorem dq_1008 : decode cL_law 908 = .ok (.aload_n 0, 1) ∧ decode cL_law 909 = .ok (.iload_n 3, 1) ∧ decode cL_law 910 = .ok (.iconst 2, 1) ∧ decode cL_law 911 = .ok (.iadd, 1) ∧ decode cL_law 912 = .ok (.iaload, 1) ∧ decode cL_law 913 = .ok (.invokevirtual 115, 3) ∧ decode cL_law 916 = .ok (.if_icmp .eq 586, 3) ∧ decode cL_law 919 = .ok (.iconst 0, 1) ∧ decode cL_law 920 = .ok (.ireturn, 1) ∧ decode cL_law 921 = .ok (.aload_n 1, 1) ∧ decode cL_law 922 = .ok (.invokevirtual 116, 3) ∧ decode cL_law 925 = .ok (.aload_n 2, 1) := by decide +kernel
theorem dL_law_908 : decode cL_law 908 = .ok (.aload_n 0, 1) := dq_1008.1
theorem dL_law_909 : decode cL_law 909 = .ok (.iload_n 3, 1) := dq_1008.2.1
theorem dL_law_910 : decode cL_law 910 = .ok (.iconst 2, 1) := dq_1008.2.2.1
theorem dL_law_911 : decode cL_law 911 = .ok (.iadd, 1) := dq_1008.2.2.2.1
theorem dL_law_912 : decode cL_law 912 = .ok (.iaload, 1) := dq_1008.2.2.2.2.1
theorem dL_law_913 : decode cL_law 913 = .ok (.invokevirtual 115, 3) := dq_1008.2.2.2.2.2.1
theorem dL_law_916 : decode cL_law 916 = .ok (.if_icmp .eq 586, 3) := dq_1008.2.2.2.2.2.2.1
theorem dL_law_919 : decode cL_law 919 = .ok (.iconst 0, 1) := dq_1008.2.2.2.2.2.2.2.1
theorem dL_law_920 : decode cL_law 920 = .ok (.ireturn, 1) := dq_1008.2.2.2.2.2.2.2.2.1
theorem dL_law_921 : decode cL_law 921 = .ok (.aload_n 1, 1) := dq_1008.2.2.2.2.2.2.2.2.2.1
theorem dL_law_922 : decode cL_law 922 = .ok (.invokevirtual 116, 3) := dq_1008.2.2.2.2.2.2.2.2.2.2.1
theorem dL_law_925 : decode cL_law 925 = .ok (.aload_n 2, 1) := dq_1008.2.2.2.2.2.2.2.2.2.2.2
theorem dq_1009 : decode cL_law 926 = .ok (.invokevirtual 119, 3) ∧ decode cL_law 929 = .ok (.if_icmp .eq 573, 3) ∧ decode cL_law 932 = .ok (.iconst 0, 1) ∧ decode cL_law 933 = .ok (.ireturn, 1) ∧ decode cL_law 934 = .ok (.aload_n 1, 1) ∧ decode cL_law 935 = .ok (.aload_n 0, 1) ∧ decode cL_law 936 = .ok (.iload_n 3, 1) ∧ decode cL_law 937 = .ok (.iconst 1, 1) ∧ decode cL_law 938 = .ok (.iadd, 1) ∧ decode cL_law 939 = .ok (.iaload, 1) ∧ decode cL_law 940 = .ok (.aload_n 0, 1) ∧ decode cL_law 941 = .ok (.iload_n 3, 1) := by decide +kernel
theorem dL_law_926 : decode cL_law 926 = .ok (.invokevirtual 119, 3) := dq_1009.1
theorem dL_law_929 : decode cL_law 929 = .ok (.if_icmp .eq 573, 3) := dq_1009.2.1
theorem dL_law_932 : decode cL_law 932 = .ok (.iconst 0, 1) := dq_1009.2.2.1
theorem dL_law_933 : decode cL_law 933 = .ok (.ireturn, 1) := dq_1009.2.2.2.1
theorem dL_law_934 : decode cL_law 934 = .ok (.aload_n 1, 1) := dq_1009.2.2.2.2.1
theorem dL_law_935 : decode cL_law 935 = .ok (.aload_n 0, 1) := dq_1009.2.2.2.2.2.1
theorem dL_law_936 : decode cL_law 936 = .ok (.iload_n 3, 1) := dq_1009.2.2.2.2.2.2.1
theorem dL_law_937 : decode cL_law 937 = .ok (.iconst 1, 1) := dq_1009.2.2.2.2.2.2.2.1
theorem dL_law_938 : decode cL_law 938 = .ok (.iadd, 1) := dq_1009.2.2.2.2.2.2.2.2.1
theorem dL_law_939 : decode cL_law 939 = .ok (.iaload, 1) := dq_1009.2.2.2.2.2.2.2.2.2.1
theorem dL_law_940 : decode cL_law 940 = .ok (.aload_n 0, 1) := dq_1009.2.2.2.2.2.2.2.2.2.2.1
theorem dL_law_941 : decode cL_law 941 = .ok (.iload_n 3, 1) := dq_1009.2.2.2.2.2.2.2.2.2.2.2
theorem dq_1010 : decode cL_law 942 = .ok (.iconst 2, 1) ∧ decode cL_law 943 = .ok (.iadd, 1) ∧ decode cL_law 944 = .ok (.iaload, 1) ∧ decode cL_law 945 = .ok (.aload_n 0, 1) ∧ decode cL_law 946 = .ok (.iload_n 3, 1) ∧ decode cL_law 947 = .ok (.iconst 3, 1) ∧ decode cL_law 948 = .ok (.iadd, 1) ∧ decode cL_law 949 = .ok (.iaload, 1) ∧ decode cL_law 950 = .ok (.aload_n 0, 1) ∧ decode cL_law 951 = .ok (.iload_n 3, 1) ∧ decode cL_law 952 = .ok (.iconst 4, 1) ∧ decode cL_law 953 = .ok (.iadd, 1) := by decide +kernel
theorem dL_law_942 : decode cL_law 942 = .ok (.iconst 2, 1) := dq_1010.1
theorem dL_law_943 : decode cL_law 943 = .ok (.iadd, 1) := dq_1010.2.1
theorem dL_law_944 : decode cL_law 944 = .ok (.iaload, 1) := dq_1010.2.2.1
theorem dL_law_945 : decode cL_law 945 = .ok (.aload_n 0, 1) := dq_1010.2.2.2.1
theorem dL_law_946 : decode cL_law 946 = .ok (.iload_n 3, 1) := dq_1010.2.2.2.2.1
theorem dL_law_947 : decode cL_law 947 = .ok (.iconst 3, 1) := dq_1010.2.2.2.2.2.1
theorem dL_law_948 : decode cL_law 948 = .ok (.iadd, 1) := dq_1010.2.2.2.2.2.2.1
theorem dL_law_949 : decode cL_law 949 = .ok (.iaload, 1) := dq_1010.2.2.2.2.2.2.2.1
theorem dL_law_950 : decode cL_law 950 = .ok (.aload_n 0, 1) := dq_1010.2.2.2.2.2.2.2.2.1
theorem dL_law_951 : decode cL_law 951 = .ok (.iload_n 3, 1) := dq_1010.2.2.2.2.2.2.2.2.2.1
theorem dL_law_952 : decode cL_law 952 = .ok (.iconst 4, 1) := dq_1010.2.2.2.2.2.2.2.2.2.2.1
theorem dL_law_953 : decode cL_law 953 = .ok (.iadd, 1) := dq_1010.2.2.2.2.2.2.2.2.2.2.2
theorem dq_1011 : decode cL_law 954 = .ok (.iaload, 1) ∧ decode cL_law 955 = .ok (.invokevirtual 120, 3) ∧ decode cL_law 958 = .ok (.aload_n 2, 1) ∧ decode cL_law 959 = .ok (.aload_n 0, 1) ∧ decode cL_law 960 = .ok (.iload_n 3, 1) ∧ decode cL_law 961 = .ok (.iconst 1, 1) ∧ decode cL_law 962 = .ok (.iadd, 1) ∧ decode cL_law 963 = .ok (.iaload, 1) ∧ decode cL_law 964 = .ok (.aload_n 0, 1) ∧ decode cL_law 965 = .ok (.iload_n 3, 1) ∧ decode cL_law 966 = .ok (.iconst 2, 1) ∧ decode cL_law 967 = .ok (.iadd, 1) := by decide +kernel
theorem dL_law_954 : decode cL_law 954 = .ok (.iaload, 1) := dq_1011.1
theorem dL_law_955 : decode cL_law 955 = .ok (.invokevirtual 120, 3) := dq_1011.2.1
theorem dL_law_958 : decode cL_law 958 = .ok (.aload_n 2, 1) := dq_1011.2.2.1
theorem dL_law_959 : decode cL_law 959 = .ok (.aload_n 0, 1) := dq_1011.2.2.2.1
theorem dL_law_960 : decode cL_law 960 = .ok (.iload_n 3, 1) := dq_1011.2.2.2.2.1
theorem dL_law_961 : decode cL_law 961 = .ok (.iconst 1, 1) := dq_1011.2.2.2.2.2.1
theorem dL_law_962 : decode cL_law 962 = .ok (.iadd, 1) := dq_1011.2.2.2.2.2.2.1
theorem dL_law_963 : decode cL_law 963 = .ok (.iaload, 1) := dq_1011.2.2.2.2.2.2.2.1
theorem dL_law_964 : decode cL_law 964 = .ok (.aload_n 0, 1) := dq_1011.2.2.2.2.2.2.2.2.1
theorem dL_law_965 : decode cL_law 965 = .ok (.iload_n 3, 1) := dq_1011.2.2.2.2.2.2.2.2.2.1
theorem dL_law_966 : decode cL_law 966 = .ok (.iconst 2, 1) := dq_1011.2.2.2.2.2.2.2.2.2.2.1
theorem dL_law_967 : decode cL_law 967 = .ok (.iadd, 1) := dq_1011.2.2.2.2.2.2.2.2.2.2.2
theorem dq_1012 : decode cL_law 968 = .ok (.iaload, 1) ∧ decode cL_law 969 = .ok (.aload_n 0, 1) ∧ decode cL_law 970 = .ok (.iload_n 3, 1) ∧ decode cL_law 971 = .ok (.iconst 3, 1) ∧ decode cL_law 972 = .ok (.iadd, 1) ∧ decode cL_law 973 = .ok (.iaload, 1) ∧ decode cL_law 974 = .ok (.aload_n 0, 1) ∧ decode cL_law 975 = .ok (.iload_n 3, 1) ∧ decode cL_law 976 = .ok (.iconst 4, 1) ∧ decode cL_law 977 = .ok (.iadd, 1) ∧ decode cL_law 978 = .ok (.iaload, 1) ∧ decode cL_law 979 = .ok (.invokevirtual 123, 3) := by decide +kernel
theorem dL_law_968 : decode cL_law 968 = .ok (.iaload, 1) := dq_1012.1
theorem dL_law_969 : decode cL_law 969 = .ok (.aload_n 0, 1) := dq_1012.2.1
theorem dL_law_970 : decode cL_law 970 = .ok (.iload_n 3, 1) := dq_1012.2.2.1
theorem dL_law_971 : decode cL_law 971 = .ok (.iconst 3, 1) := dq_1012.2.2.2.1
theorem dL_law_972 : decode cL_law 972 = .ok (.iadd, 1) := dq_1012.2.2.2.2.1
theorem dL_law_973 : decode cL_law 973 = .ok (.iaload, 1) := dq_1012.2.2.2.2.2.1
theorem dL_law_974 : decode cL_law 974 = .ok (.aload_n 0, 1) := dq_1012.2.2.2.2.2.2.1
theorem dL_law_975 : decode cL_law 975 = .ok (.iload_n 3, 1) := dq_1012.2.2.2.2.2.2.2.1
theorem dL_law_976 : decode cL_law 976 = .ok (.iconst 4, 1) := dq_1012.2.2.2.2.2.2.2.2.1
theorem dL_law_977 : decode cL_law 977 = .ok (.iadd, 1) := dq_1012.2.2.2.2.2.2.2.2.2.1
theorem dL_law_978 : decode cL_law 978 = .ok (.iaload, 1) := dq_1012.2.2.2.2.2.2.2.2.2.2.1
theorem dL_law_979 : decode cL_law 979 = .ok (.invokevirtual 123, 3) := dq_1012.2.2.2.2.2.2.2.2.2.2.2
theorem dq_1013 : decode cL_law 982 = .ok (.if_icmp .eq 520, 3) ∧ decode cL_law 985 = .ok (.iconst 0, 1) ∧ decode cL_law 986 = .ok (.ireturn, 1) ∧ decode cL_law 987 = .ok (.aload_n 1, 1) ∧ decode cL_law 988 = .ok (.aload_n 0, 1) ∧ decode cL_law 989 = .ok (.iload_n 3, 1) ∧ decode cL_law 990 = .ok (.iconst 1, 1) ∧ decode cL_law 991 = .ok (.iadd, 1) ∧ decode cL_law 992 = .ok (.iaload, 1) ∧ decode cL_law 993 = .ok (.aload_n 0, 1) ∧ decode cL_law 994 = .ok (.iload_n 3, 1) ∧ decode cL_law 995 = .ok (.iconst 2, 1) := by decide +kernel
theorem dL_law_982 : decode cL_law 982 = .ok (.if_icmp .eq 520, 3) := dq_1013.1
theorem dL_law_985 : decode cL_law 985 = .ok (.iconst 0, 1) := dq_1013.2.1
theorem dL_law_986 : decode cL_law 986 = .ok (.ireturn, 1) := dq_1013.2.2.1
theorem dL_law_987 : decode cL_law 987 = .ok (.aload_n 1, 1) := dq_1013.2.2.2.1
theorem dL_law_988 : decode cL_law 988 = .ok (.aload_n 0, 1) := dq_1013.2.2.2.2.1
theorem dL_law_989 : decode cL_law 989 = .ok (.iload_n 3, 1) := dq_1013.2.2.2.2.2.1
theorem dL_law_990 : decode cL_law 990 = .ok (.iconst 1, 1) := dq_1013.2.2.2.2.2.2.1
theorem dL_law_991 : decode cL_law 991 = .ok (.iadd, 1) := dq_1013.2.2.2.2.2.2.2.1
theorem dL_law_992 : decode cL_law 992 = .ok (.iaload, 1) := dq_1013.2.2.2.2.2.2.2.2.1
theorem dL_law_993 : decode cL_law 993 = .ok (.aload_n 0, 1) := dq_1013.2.2.2.2.2.2.2.2.2.1
theorem dL_law_994 : decode cL_law 994 = .ok (.iload_n 3, 1) := dq_1013.2.2.2.2.2.2.2.2.2.2.1
theorem dL_law_995 : decode cL_law 995 = .ok (.iconst 2, 1) := dq_1013.2.2.2.2.2.2.2.2.2.2.2
theorem dq_1014 : decode cL_law 996 = .ok (.iadd, 1) ∧ decode cL_law 997 = .ok (.iaload, 1) ∧ decode cL_law 998 = .ok (.aload_n 0, 1) ∧ decode cL_law 999 = .ok (.iload_n 3, 1) ∧ decode cL_law 1000 = .ok (.iconst 3, 1) ∧ decode cL_law 1001 = .ok (.iadd, 1) ∧ decode cL_law 1002 = .ok (.iaload, 1) ∧ decode cL_law 1003 = .ok (.aload_n 0, 1) ∧ decode cL_law 1004 = .ok (.iload_n 3, 1) ∧ decode cL_law 1005 = .ok (.iconst 4, 1) ∧ decode cL_law 1006 = .ok (.iadd, 1) ∧ decode cL_law 1007 = .ok (.iaload, 1) := by decide +kernel
theorem dL_law_996 : decode cL_law 996 = .ok (.iadd, 1) := dq_1014.1
theorem dL_law_997 : decode cL_law 997 = .ok (.iaload, 1) := dq_1014.2.1
theorem dL_law_998 : decode cL_law 998 = .ok (.aload_n 0, 1) := dq_1014.2.2.1
theorem dL_law_999 : decode cL_law 999 = .ok (.iload_n 3, 1) := dq_1014.2.2.2.1
theorem dL_law_1000 : decode cL_law 1000 = .ok (.iconst 3, 1) := dq_1014.2.2.2.2.1
theorem dL_law_1001 : decode cL_law 1001 = .ok (.iadd, 1) := dq_1014.2.2.2.2.2.1
theorem dL_law_1002 : decode cL_law 1002 = .ok (.iaload, 1) := dq_1014.2.2.2.2.2.2.1
theorem dL_law_1003 : decode cL_law 1003 = .ok (.aload_n 0, 1) := dq_1014.2.2.2.2.2.2.2.1
theorem dL_law_1004 : decode cL_law 1004 = .ok (.iload_n 3, 1) := dq_1014.2.2.2.2.2.2.2.2.1
theorem dL_law_1005 : decode cL_law 1005 = .ok (.iconst 4, 1) := dq_1014.2.2.2.2.2.2.2.2.2.1
theorem dL_law_1006 : decode cL_law 1006 = .ok (.iadd, 1) := dq_1014.2.2.2.2.2.2.2.2.2.2.1
theorem dL_law_1007 : decode cL_law 1007 = .ok (.iaload, 1) := dq_1014.2.2.2.2.2.2.2.2.2.2.2
theorem dq_1015 : decode cL_law 1008 = .ok (.aload_n 0, 1) ∧ decode cL_law 1009 = .ok (.iload_n 3, 1) ∧ decode cL_law 1010 = .ok (.iconst 5, 1) ∧ decode cL_law 1011 = .ok (.iadd, 1) ∧ decode cL_law 1012 = .ok (.iaload, 1) ∧ decode cL_law 1013 = .ok (.invokevirtual 124, 3) ∧ decode cL_law 1016 = .ok (.aload_n 2, 1) ∧ decode cL_law 1017 = .ok (.aload_n 0, 1) ∧ decode cL_law 1018 = .ok (.iload_n 3, 1) ∧ decode cL_law 1019 = .ok (.iconst 1, 1) ∧ decode cL_law 1020 = .ok (.iadd, 1) ∧ decode cL_law 1021 = .ok (.iaload, 1) := by decide +kernel
theorem dL_law_1008 : decode cL_law 1008 = .ok (.aload_n 0, 1) := dq_1015.1
theorem dL_law_1009 : decode cL_law 1009 = .ok (.iload_n 3, 1) := dq_1015.2.1
theorem dL_law_1010 : decode cL_law 1010 = .ok (.iconst 5, 1) := dq_1015.2.2.1
theorem dL_law_1011 : decode cL_law 1011 = .ok (.iadd, 1) := dq_1015.2.2.2.1
theorem dL_law_1012 : decode cL_law 1012 = .ok (.iaload, 1) := dq_1015.2.2.2.2.1
theorem dL_law_1013 : decode cL_law 1013 = .ok (.invokevirtual 124, 3) := dq_1015.2.2.2.2.2.1
theorem dL_law_1016 : decode cL_law 1016 = .ok (.aload_n 2, 1) := dq_1015.2.2.2.2.2.2.1
theorem dL_law_1017 : decode cL_law 1017 = .ok (.aload_n 0, 1) := dq_1015.2.2.2.2.2.2.2.1
theorem dL_law_1018 : decode cL_law 1018 = .ok (.iload_n 3, 1) := dq_1015.2.2.2.2.2.2.2.2.1
theorem dL_law_1019 : decode cL_law 1019 = .ok (.iconst 1, 1) := dq_1015.2.2.2.2.2.2.2.2.2.1
theorem dL_law_1020 : decode cL_law 1020 = .ok (.iadd, 1) := dq_1015.2.2.2.2.2.2.2.2.2.2.1
theorem dL_law_1021 : decode cL_law 1021 = .ok (.iaload, 1) := dq_1015.2.2.2.2.2.2.2.2.2.2.2
theorem dq_1016 : decode cL_law 1022 = .ok (.aload_n 0, 1) ∧ decode cL_law 1023 = .ok (.iload_n 3, 1) ∧ decode cL_law 1024 = .ok (.iconst 2, 1) ∧ decode cL_law 1025 = .ok (.iadd, 1) ∧ decode cL_law 1026 = .ok (.iaload, 1) ∧ decode cL_law 1027 = .ok (.aload_n 0, 1) ∧ decode cL_law 1028 = .ok (.iload_n 3, 1) ∧ decode cL_law 1029 = .ok (.iconst 3, 1) ∧ decode cL_law 1030 = .ok (.iadd, 1) ∧ decode cL_law 1031 = .ok (.iaload, 1) ∧ decode cL_law 1032 = .ok (.aload_n 0, 1) ∧ decode cL_law 1033 = .ok (.iload_n 3, 1) := by decide +kernel
theorem dL_law_1022 : decode cL_law 1022 = .ok (.aload_n 0, 1) := dq_1016.1
theorem dL_law_1023 : decode cL_law 1023 = .ok (.iload_n 3, 1) := dq_1016.2.1
theorem dL_law_1024 : decode cL_law 1024 = .ok (.iconst 2, 1) := dq_1016.2.2.1
theorem dL_law_1025 : decode cL_law 1025 = .ok (.iadd, 1) := dq_1016.2.2.2.1
theorem dL_law_1026 : decode cL_law 1026 = .ok (.iaload, 1) := dq_1016.2.2.2.2.1
theorem dL_law_1027 : decode cL_law 1027 = .ok (.aload_n 0, 1) := dq_1016.2.2.2.2.2.1
theorem dL_law_1028 : decode cL_law 1028 = .ok (.iload_n 3, 1) := dq_1016.2.2.2.2.2.2.1
theorem dL_law_1029 : decode cL_law 1029 = .ok (.iconst 3, 1) := dq_1016.2.2.2.2.2.2.2.1
theorem dL_law_1030 : decode cL_law 1030 = .ok (.iadd, 1) := dq_1016.2.2.2.2.2.2.2.2.1
theorem dL_law_1031 : decode cL_law 1031 = .ok (.iaload, 1) := dq_1016.2.2.2.2.2.2.2.2.2.1
theorem dL_law_1032 : decode cL_law 1032 = .ok (.aload_n 0, 1) := dq_1016.2.2.2.2.2.2.2.2.2.2.1
theorem dL_law_1033 : decode cL_law 1033 = .ok (.iload_n 3, 1) := dq_1016.2.2.2.2.2.2.2.2.2.2.2
theorem dq_1017 : decode cL_law 1034 = .ok (.iconst 4, 1) ∧ decode cL_law 1035 = .ok (.iadd, 1) ∧ decode cL_law 1036 = .ok (.iaload, 1) ∧ decode cL_law 1037 = .ok (.aload_n 0, 1) ∧ decode cL_law 1038 = .ok (.iload_n 3, 1) ∧ decode cL_law 1039 = .ok (.iconst 5, 1) ∧ decode cL_law 1040 = .ok (.iadd, 1) ∧ decode cL_law 1041 = .ok (.iaload, 1) ∧ decode cL_law 1042 = .ok (.invokevirtual 128, 3) ∧ decode cL_law 1045 = .ok (.if_icmp .eq 457, 3) ∧ decode cL_law 1048 = .ok (.iconst 0, 1) ∧ decode cL_law 1049 = .ok (.ireturn, 1) := by decide +kernel
theorem dL_law_1034 : decode cL_law 1034 = .ok (.iconst 4, 1) := dq_1017.1
theorem dL_law_1035 : decode cL_law 1035 = .ok (.iadd, 1) := dq_1017.2.1
theorem dL_law_1036 : decode cL_law 1036 = .ok (.iaload, 1) := dq_1017.2.2.1
theorem dL_law_1037 : decode cL_law 1037 = .ok (.aload_n 0, 1) := dq_1017.2.2.2.1
theorem dL_law_1038 : decode cL_law 1038 = .ok (.iload_n 3, 1) := dq_1017.2.2.2.2.1
theorem dL_law_1039 : decode cL_law 1039 = .ok (.iconst 5, 1) := dq_1017.2.2.2.2.2.1
theorem dL_law_1040 : decode cL_law 1040 = .ok (.iadd, 1) := dq_1017.2.2.2.2.2.2.1
theorem dL_law_1041 : decode cL_law 1041 = .ok (.iaload, 1) := dq_1017.2.2.2.2.2.2.2.1
theorem dL_law_1042 : decode cL_law 1042 = .ok (.invokevirtual 128, 3) := dq_1017.2.2.2.2.2.2.2.2.1
theorem dL_law_1045 : decode cL_law 1045 = .ok (.if_icmp .eq 457, 3) := dq_1017.2.2.2.2.2.2.2.2.2.1
theorem dL_law_1048 : decode cL_law 1048 = .ok (.iconst 0, 1) := dq_1017.2.2.2.2.2.2.2.2.2.2.1
theorem dL_law_1049 : decode cL_law 1049 = .ok (.ireturn, 1) := dq_1017.2.2.2.2.2.2.2.2.2.2.2
theorem dq_1018 : decode cL_law 1050 = .ok (.aload_n 1, 1) ∧ decode cL_law 1051 = .ok (.aload_n 0, 1) ∧ decode cL_law 1052 = .ok (.iload_n 3, 1) ∧ decode cL_law 1053 = .ok (.iconst 1, 1) ∧ decode cL_law 1054 = .ok (.iadd, 1) ∧ decode cL_law 1055 = .ok (.iaload, 1) ∧ decode cL_law 1056 = .ok (.invokevirtual 129, 3) ∧ decode cL_law 1059 = .ok (.aload_n 2, 1) ∧ decode cL_law 1060 = .ok (.aload_n 0, 1) ∧ decode cL_law 1061 = .ok (.iload_n 3, 1) ∧ decode cL_law 1062 = .ok (.iconst 1, 1) ∧ decode cL_law 1063 = .ok (.iadd, 1) := by decide +kernel
theorem dL_law_1050 : decode cL_law 1050 = .ok (.aload_n 1, 1) := dq_1018.1
theorem dL_law_1051 : decode cL_law 1051 = .ok (.aload_n 0, 1) := dq_1018.2.1
theorem dL_law_1052 : decode cL_law 1052 = .ok (.iload_n 3, 1) := dq_1018.2.2.1
theorem dL_law_1053 : decode cL_law 1053 = .ok (.iconst 1, 1) := dq_1018.2.2.2.1
theorem dL_law_1054 : decode cL_law 1054 = .ok (.iadd, 1) := dq_1018.2.2.2.2.1
theorem dL_law_1055 : decode cL_law 1055 = .ok (.iaload, 1) := dq_1018.2.2.2.2.2.1
theorem dL_law_1056 : decode cL_law 1056 = .ok (.invokevirtual 129, 3) := dq_1018.2.2.2.2.2.2.1
theorem dL_law_1059 : decode cL_law 1059 = .ok (.aload_n 2, 1) := dq_1018.2.2.2.2.2.2.2.1
theorem dL_law_1060 : decode cL_law 1060 = .ok (.aload_n 0, 1) := dq_1018.2.2.2.2.2.2.2.2.1
theorem dL_law_1061 : decode cL_law 1061 = .ok (.iload_n 3, 1) := dq_1018.2.2.2.2.2.2.2.2.2.1
theorem dL_law_1062 : decode cL_law 1062 = .ok (.iconst 1, 1) := dq_1018.2.2.2.2.2.2.2.2.2.2.1
theorem dL_law_1063 : decode cL_law 1063 = .ok (.iadd, 1) := dq_1018.2.2.2.2.2.2.2.2.2.2.2
theorem dq_1019 : decode cL_law 1064 = .ok (.iaload, 1) ∧ decode cL_law 1065 = .ok (.invokevirtual 132, 3) ∧ decode cL_law 1068 = .ok (.if_icmp .eq 434, 3) ∧ decode cL_law 1071 = .ok (.iconst 0, 1) ∧ decode cL_law 1072 = .ok (.ireturn, 1) ∧ decode cL_law 1073 = .ok (.aload_n 1, 1) ∧ decode cL_law 1074 = .ok (.aload_n 0, 1) ∧ decode cL_law 1075 = .ok (.iload_n 3, 1) ∧ decode cL_law 1076 = .ok (.iconst 1, 1) ∧ decode cL_law 1077 = .ok (.iadd, 1) ∧ decode cL_law 1078 = .ok (.iaload, 1) ∧ decode cL_law 1079 = .ok (.aload_n 0, 1) := by decide +kernel
theorem dL_law_1064 : decode cL_law 1064 = .ok (.iaload, 1) := dq_1019.1
theorem dL_law_1065 : decode cL_law 1065 = .ok (.invokevirtual 132, 3) := dq_1019.2.1
theorem dL_law_1068 : decode cL_law 1068 = .ok (.if_icmp .eq 434, 3) := dq_1019.2.2.1
theorem dL_law_1071 : decode cL_law 1071 = .ok (.iconst 0, 1) := dq_1019.2.2.2.1
theorem dL_law_1072 : decode cL_law 1072 = .ok (.ireturn, 1) := dq_1019.2.2.2.2.1
theorem dL_law_1073 : decode cL_law 1073 = .ok (.aload_n 1, 1) := dq_1019.2.2.2.2.2.1
theorem dL_law_1074 : decode cL_law 1074 = .ok (.aload_n 0, 1) := dq_1019.2.2.2.2.2.2.1
theorem dL_law_1075 : decode cL_law 1075 = .ok (.iload_n 3, 1) := dq_1019.2.2.2.2.2.2.2.1
theorem dL_law_1076 : decode cL_law 1076 = .ok (.iconst 1, 1) := dq_1019.2.2.2.2.2.2.2.2.1
theorem dL_law_1077 : decode cL_law 1077 = .ok (.iadd, 1) := dq_1019.2.2.2.2.2.2.2.2.2.1
theorem dL_law_1078 : decode cL_law 1078 = .ok (.iaload, 1) := dq_1019.2.2.2.2.2.2.2.2.2.2.1
theorem dL_law_1079 : decode cL_law 1079 = .ok (.aload_n 0, 1) := dq_1019.2.2.2.2.2.2.2.2.2.2.2
theorem dq_1020 : decode cL_law 1080 = .ok (.iload_n 3, 1) ∧ decode cL_law 1081 = .ok (.iconst 2, 1) ∧ decode cL_law 1082 = .ok (.iadd, 1) ∧ decode cL_law 1083 = .ok (.iaload, 1) ∧ decode cL_law 1084 = .ok (.invokevirtual 133, 3) ∧ decode cL_law 1087 = .ok (.aload_n 2, 1) ∧ decode cL_law 1088 = .ok (.aload_n 0, 1) ∧ decode cL_law 1089 = .ok (.iload_n 3, 1) ∧ decode cL_law 1090 = .ok (.iconst 1, 1) ∧ decode cL_law 1091 = .ok (.iadd, 1) ∧ decode cL_law 1092 = .ok (.iaload, 1) ∧ decode cL_law 1093 = .ok (.aload_n 0, 1) := by decide +kernel
theorem dL_law_1080 : decode cL_law 1080 = .ok (.iload_n 3, 1) := dq_1020.1
theorem dL_law_1081 : decode cL_law 1081 = .ok (.iconst 2, 1) := dq_1020.2.1
theorem dL_law_1082 : decode cL_law 1082 = .ok (.iadd, 1) := dq_1020.2.2.1
theorem dL_law_1083 : decode cL_law 1083 = .ok (.iaload, 1) := dq_1020.2.2.2.1
theorem dL_law_1084 : decode cL_law 1084 = .ok (.invokevirtual 133, 3) := dq_1020.2.2.2.2.1
theorem dL_law_1087 : decode cL_law 1087 = .ok (.aload_n 2, 1) := dq_1020.2.2.2.2.2.1
theorem dL_law_1088 : decode cL_law 1088 = .ok (.aload_n 0, 1) := dq_1020.2.2.2.2.2.2.1
theorem dL_law_1089 : decode cL_law 1089 = .ok (.iload_n 3, 1) := dq_1020.2.2.2.2.2.2.2.1
theorem dL_law_1090 : decode cL_law 1090 = .ok (.iconst 1, 1) := dq_1020.2.2.2.2.2.2.2.2.1
theorem dL_law_1091 : decode cL_law 1091 = .ok (.iadd, 1) := dq_1020.2.2.2.2.2.2.2.2.2.1
theorem dL_law_1092 : decode cL_law 1092 = .ok (.iaload, 1) := dq_1020.2.2.2.2.2.2.2.2.2.2.1
theorem dL_law_1093 : decode cL_law 1093 = .ok (.aload_n 0, 1) := dq_1020.2.2.2.2.2.2.2.2.2.2.2
theorem dq_1021 : decode cL_law 1094 = .ok (.iload_n 3, 1) ∧ decode cL_law 1095 = .ok (.iconst 2, 1) ∧ decode cL_law 1096 = .ok (.iadd, 1) ∧ decode cL_law 1097 = .ok (.iaload, 1) ∧ decode cL_law 1098 = .ok (.invokevirtual 136, 3) ∧ decode cL_law 1101 = .ok (.if_icmp .eq 401, 3) ∧ decode cL_law 1104 = .ok (.iconst 0, 1) ∧ decode cL_law 1105 = .ok (.ireturn, 1) ∧ decode cL_law 1106 = .ok (.aload_n 1, 1) ∧ decode cL_law 1107 = .ok (.invokevirtual 137, 3) ∧ decode cL_law 1110 = .ok (.aload_n 2, 1) ∧ decode cL_law 1111 = .ok (.invokevirtual 140, 3) := by decide +kernel
theorem dL_law_1094 : decode cL_law 1094 = .ok (.iload_n 3, 1) := dq_1021.1
theorem dL_law_1095 : decode cL_law 1095 = .ok (.iconst 2, 1) := dq_1021.2.1
theorem dL_law_1096 : decode cL_law 1096 = .ok (.iadd, 1) := dq_1021.2.2.1
theorem dL_law_1097 : decode cL_law 1097 = .ok (.iaload, 1) := dq_1021.2.2.2.1
theorem dL_law_1098 : decode cL_law 1098 = .ok (.invokevirtual 136, 3) := dq_1021.2.2.2.2.1
theorem dL_law_1101 : decode cL_law 1101 = .ok (.if_icmp .eq 401, 3) := dq_1021.2.2.2.2.2.1
theorem dL_law_1104 : decode cL_law 1104 = .ok (.iconst 0, 1) := dq_1021.2.2.2.2.2.2.1
theorem dL_law_1105 : decode cL_law 1105 = .ok (.ireturn, 1) := dq_1021.2.2.2.2.2.2.2.1
theorem dL_law_1106 : decode cL_law 1106 = .ok (.aload_n 1, 1) := dq_1021.2.2.2.2.2.2.2.2.1
theorem dL_law_1107 : decode cL_law 1107 = .ok (.invokevirtual 137, 3) := dq_1021.2.2.2.2.2.2.2.2.2.1
theorem dL_law_1110 : decode cL_law 1110 = .ok (.aload_n 2, 1) := dq_1021.2.2.2.2.2.2.2.2.2.2.1
theorem dL_law_1111 : decode cL_law 1111 = .ok (.invokevirtual 140, 3) := dq_1021.2.2.2.2.2.2.2.2.2.2.2
theorem dq_1022 : decode cL_law 1114 = .ok (.if_icmp .eq 388, 3) ∧ decode cL_law 1117 = .ok (.iconst 0, 1) ∧ decode cL_law 1118 = .ok (.ireturn, 1) ∧ decode cL_law 1119 = .ok (.aload_n 1, 1) ∧ decode cL_law 1120 = .ok (.aload_n 0, 1) ∧ decode cL_law 1121 = .ok (.iload_n 3, 1) ∧ decode cL_law 1122 = .ok (.iconst 1, 1) ∧ decode cL_law 1123 = .ok (.iadd, 1) ∧ decode cL_law 1124 = .ok (.iaload, 1) ∧ decode cL_law 1125 = .ok (.aload_n 0, 1) ∧ decode cL_law 1126 = .ok (.iload_n 3, 1) ∧ decode cL_law 1127 = .ok (.iconst 2, 1) := by decide +kernel
theorem dL_law_1114 : decode cL_law 1114 = .ok (.if_icmp .eq 388, 3) := dq_1022.1
theorem dL_law_1117 : decode cL_law 1117 = .ok (.iconst 0, 1) := dq_1022.2.1
theorem dL_law_1118 : decode cL_law 1118 = .ok (.ireturn, 1) := dq_1022.2.2.1
theorem dL_law_1119 : decode cL_law 1119 = .ok (.aload_n 1, 1) := dq_1022.2.2.2.1
theorem dL_law_1120 : decode cL_law 1120 = .ok (.aload_n 0, 1) := dq_1022.2.2.2.2.1
theorem dL_law_1121 : decode cL_law 1121 = .ok (.iload_n 3, 1) := dq_1022.2.2.2.2.2.1
theorem dL_law_1122 : decode cL_law 1122 = .ok (.iconst 1, 1) := dq_1022.2.2.2.2.2.2.1
theorem dL_law_1123 : decode cL_law 1123 = .ok (.iadd, 1) := dq_1022.2.2.2.2.2.2.2.1
theorem dL_law_1124 : decode cL_law 1124 = .ok (.iaload, 1) := dq_1022.2.2.2.2.2.2.2.2.1
theorem dL_law_1125 : decode cL_law 1125 = .ok (.aload_n 0, 1) := dq_1022.2.2.2.2.2.2.2.2.2.1
theorem dL_law_1126 : decode cL_law 1126 = .ok (.iload_n 3, 1) := dq_1022.2.2.2.2.2.2.2.2.2.2.1
theorem dL_law_1127 : decode cL_law 1127 = .ok (.iconst 2, 1) := dq_1022.2.2.2.2.2.2.2.2.2.2.2
theorem dq_1023 : decode cL_law 1128 = .ok (.iadd, 1) ∧ decode cL_law 1129 = .ok (.iaload, 1) ∧ decode cL_law 1130 = .ok (.invokevirtual 141, 3) ∧ decode cL_law 1133 = .ok (.aload_n 2, 1) ∧ decode cL_law 1134 = .ok (.aload_n 0, 1) ∧ decode cL_law 1135 = .ok (.iload_n 3, 1) ∧ decode cL_law 1136 = .ok (.iconst 1, 1) ∧ decode cL_law 1137 = .ok (.iadd, 1) ∧ decode cL_law 1138 = .ok (.iaload, 1) ∧ decode cL_law 1139 = .ok (.aload_n 0, 1) ∧ decode cL_law 1140 = .ok (.iload_n 3, 1) ∧ decode cL_law 1141 = .ok (.iconst 2, 1) := by decide +kernel
theorem dL_law_1128 : decode cL_law 1128 = .ok (.iadd, 1) := dq_1023.1
theorem dL_law_1129 : decode cL_law 1129 = .ok (.iaload, 1) := dq_1023.2.1
theorem dL_law_1130 : decode cL_law 1130 = .ok (.invokevirtual 141, 3) := dq_1023.2.2.1
theorem dL_law_1133 : decode cL_law 1133 = .ok (.aload_n 2, 1) := dq_1023.2.2.2.1
theorem dL_law_1134 : decode cL_law 1134 = .ok (.aload_n 0, 1) := dq_1023.2.2.2.2.1
theorem dL_law_1135 : decode cL_law 1135 = .ok (.iload_n 3, 1) := dq_1023.2.2.2.2.2.1
theorem dL_law_1136 : decode cL_law 1136 = .ok (.iconst 1, 1) := dq_1023.2.2.2.2.2.2.1
theorem dL_law_1137 : decode cL_law 1137 = .ok (.iadd, 1) := dq_1023.2.2.2.2.2.2.2.1
theorem dL_law_1138 : decode cL_law 1138 = .ok (.iaload, 1) := dq_1023.2.2.2.2.2.2.2.2.1
theorem dL_law_1139 : decode cL_law 1139 = .ok (.aload_n 0, 1) := dq_1023.2.2.2.2.2.2.2.2.2.1
theorem dL_law_1140 : decode cL_law 1140 = .ok (.iload_n 3, 1) := dq_1023.2.2.2.2.2.2.2.2.2.2.1
theorem dL_law_1141 : decode cL_law 1141 = .ok (.iconst 2, 1) := dq_1023.2.2.2.2.2.2.2.2.2.2.2
theorem dq_1024 : decode cL_law 1142 = .ok (.iadd, 1) ∧ decode cL_law 1143 = .ok (.iaload, 1) ∧ decode cL_law 1144 = .ok (.invokevirtual 144, 3) ∧ decode cL_law 1147 = .ok (.if_icmp .eq 355, 3) ∧ decode cL_law 1150 = .ok (.iconst 0, 1) ∧ decode cL_law 1151 = .ok (.ireturn, 1) ∧ decode cL_law 1152 = .ok (.aload_n 1, 1) ∧ decode cL_law 1153 = .ok (.aload_n 0, 1) ∧ decode cL_law 1154 = .ok (.iload_n 3, 1) ∧ decode cL_law 1155 = .ok (.iconst 1, 1) ∧ decode cL_law 1156 = .ok (.iadd, 1) ∧ decode cL_law 1157 = .ok (.iaload, 1) := by decide +kernel
theorem dL_law_1142 : decode cL_law 1142 = .ok (.iadd, 1) := dq_1024.1
theorem dL_law_1143 : decode cL_law 1143 = .ok (.iaload, 1) := dq_1024.2.1
theorem dL_law_1144 : decode cL_law 1144 = .ok (.invokevirtual 144, 3) := dq_1024.2.2.1
theorem dL_law_1147 : decode cL_law 1147 = .ok (.if_icmp .eq 355, 3) := dq_1024.2.2.2.1
theorem dL_law_1150 : decode cL_law 1150 = .ok (.iconst 0, 1) := dq_1024.2.2.2.2.1
theorem dL_law_1151 : decode cL_law 1151 = .ok (.ireturn, 1) := dq_1024.2.2.2.2.2.1
theorem dL_law_1152 : decode cL_law 1152 = .ok (.aload_n 1, 1) := dq_1024.2.2.2.2.2.2.1
theorem dL_law_1153 : decode cL_law 1153 = .ok (.aload_n 0, 1) := dq_1024.2.2.2.2.2.2.2.1
theorem dL_law_1154 : decode cL_law 1154 = .ok (.iload_n 3, 1) := dq_1024.2.2.2.2.2.2.2.2.1
theorem dL_law_1155 : decode cL_law 1155 = .ok (.iconst 1, 1) := dq_1024.2.2.2.2.2.2.2.2.2.1
theorem dL_law_1156 : decode cL_law 1156 = .ok (.iadd, 1) := dq_1024.2.2.2.2.2.2.2.2.2.2.1
theorem dL_law_1157 : decode cL_law 1157 = .ok (.iaload, 1) := dq_1024.2.2.2.2.2.2.2.2.2.2.2
theorem dq_1025 : decode cL_law 1158 = .ok (.invokevirtual 145, 3) ∧ decode cL_law 1161 = .ok (.aload_n 2, 1) ∧ decode cL_law 1162 = .ok (.aload_n 0, 1) ∧ decode cL_law 1163 = .ok (.iload_n 3, 1) ∧ decode cL_law 1164 = .ok (.iconst 1, 1) ∧ decode cL_law 1165 = .ok (.iadd, 1) ∧ decode cL_law 1166 = .ok (.iaload, 1) ∧ decode cL_law 1167 = .ok (.invokevirtual 148, 3) ∧ decode cL_law 1170 = .ok (.if_icmp .eq 332, 3) ∧ decode cL_law 1173 = .ok (.iconst 0, 1) ∧ decode cL_law 1174 = .ok (.ireturn, 1) ∧ decode cL_law 1175 = .ok (.aload_n 1, 1) := by decide +kernel
theorem dL_law_1158 : decode cL_law 1158 = .ok (.invokevirtual 145, 3) := dq_1025.1
theorem dL_law_1161 : decode cL_law 1161 = .ok (.aload_n 2, 1) := dq_1025.2.1
theorem dL_law_1162 : decode cL_law 1162 = .ok (.aload_n 0, 1) := dq_1025.2.2.1
theorem dL_law_1163 : decode cL_law 1163 = .ok (.iload_n 3, 1) := dq_1025.2.2.2.1
theorem dL_law_1164 : decode cL_law 1164 = .ok (.iconst 1, 1) := dq_1025.2.2.2.2.1
theorem dL_law_1165 : decode cL_law 1165 = .ok (.iadd, 1) := dq_1025.2.2.2.2.2.1
theorem dL_law_1166 : decode cL_law 1166 = .ok (.iaload, 1) := dq_1025.2.2.2.2.2.2.1
theorem dL_law_1167 : decode cL_law 1167 = .ok (.invokevirtual 148, 3) := dq_1025.2.2.2.2.2.2.2.1
theorem dL_law_1170 : decode cL_law 1170 = .ok (.if_icmp .eq 332, 3) := dq_1025.2.2.2.2.2.2.2.2.1
theorem dL_law_1173 : decode cL_law 1173 = .ok (.iconst 0, 1) := dq_1025.2.2.2.2.2.2.2.2.2.1
theorem dL_law_1174 : decode cL_law 1174 = .ok (.ireturn, 1) := dq_1025.2.2.2.2.2.2.2.2.2.2.1
theorem dL_law_1175 : decode cL_law 1175 = .ok (.aload_n 1, 1) := dq_1025.2.2.2.2.2.2.2.2.2.2.2
theorem dq_1026 : decode cL_law 1176 = .ok (.invokevirtual 149, 3) ∧ decode cL_law 1179 = .ok (.aload_n 2, 1) ∧ decode cL_law 1180 = .ok (.invokevirtual 152, 3) ∧ decode cL_law 1183 = .ok (.if_icmp .eq 319, 3) ∧ decode cL_law 1186 = .ok (.iconst 0, 1) ∧ decode cL_law 1187 = .ok (.ireturn, 1) ∧ decode cL_law 1188 = .ok (.aload_n 1, 1) ∧ decode cL_law 1189 = .ok (.invokevirtual 153, 3) ∧ decode cL_law 1192 = .ok (.aload_n 2, 1) ∧ decode cL_law 1193 = .ok (.invokevirtual 156, 3) ∧ decode cL_law 1196 = .ok (.if_icmp .eq 306, 3) ∧ decode cL_law 1199 = .ok (.iconst 0, 1) := by decide +kernel
theorem dL_law_1176 : decode cL_law 1176 = .ok (.invokevirtual 149, 3) := dq_1026.1
theorem dL_law_1179 : decode cL_law 1179 = .ok (.aload_n 2, 1) := dq_1026.2.1
theorem dL_law_1180 : decode cL_law 1180 = .ok (.invokevirtual 152, 3) := dq_1026.2.2.1
theorem dL_law_1183 : decode cL_law 1183 = .ok (.if_icmp .eq 319, 3) := dq_1026.2.2.2.1
theorem dL_law_1186 : decode cL_law 1186 = .ok (.iconst 0, 1) := dq_1026.2.2.2.2.1
theorem dL_law_1187 : decode cL_law 1187 = .ok (.ireturn, 1) := dq_1026.2.2.2.2.2.1
theorem dL_law_1188 : decode cL_law 1188 = .ok (.aload_n 1, 1) := dq_1026.2.2.2.2.2.2.1
theorem dL_law_1189 : decode cL_law 1189 = .ok (.invokevirtual 153, 3) := dq_1026.2.2.2.2.2.2.2.1
theorem dL_law_1192 : decode cL_law 1192 = .ok (.aload_n 2, 1) := dq_1026.2.2.2.2.2.2.2.2.1
theorem dL_law_1193 : decode cL_law 1193 = .ok (.invokevirtual 156, 3) := dq_1026.2.2.2.2.2.2.2.2.2.1
theorem dL_law_1196 : decode cL_law 1196 = .ok (.if_icmp .eq 306, 3) := dq_1026.2.2.2.2.2.2.2.2.2.2.1
theorem dL_law_1199 : decode cL_law 1199 = .ok (.iconst 0, 1) := dq_1026.2.2.2.2.2.2.2.2.2.2.2
theorem dq_1027 : decode cL_law 1200 = .ok (.ireturn, 1) ∧ decode cL_law 1201 = .ok (.aload_n 1, 1) ∧ decode cL_law 1202 = .ok (.aload_n 0, 1) ∧ decode cL_law 1203 = .ok (.iload_n 3, 1) ∧ decode cL_law 1204 = .ok (.iconst 1, 1) ∧ decode cL_law 1205 = .ok (.iadd, 1) ∧ decode cL_law 1206 = .ok (.iaload, 1) ∧ decode cL_law 1207 = .ok (.invokevirtual 157, 3) ∧ decode cL_law 1210 = .ok (.aload_n 2, 1) ∧ decode cL_law 1211 = .ok (.aload_n 0, 1) ∧ decode cL_law 1212 = .ok (.iload_n 3, 1) ∧ decode cL_law 1213 = .ok (.iconst 1, 1) := by decide +kernel
theorem dL_law_1200 : decode cL_law 1200 = .ok (.ireturn, 1) := dq_1027.1
theorem dL_law_1201 : decode cL_law 1201 = .ok (.aload_n 1, 1) := dq_1027.2.1
theorem dL_law_1202 : decode cL_law 1202 = .ok (.aload_n 0, 1) := dq_1027.2.2.1
theorem dL_law_1203 : decode cL_law 1203 = .ok (.iload_n 3, 1) := dq_1027.2.2.2.1
theorem dL_law_1204 : decode cL_law 1204 = .ok (.iconst 1, 1) := dq_1027.2.2.2.2.1
theorem dL_law_1205 : decode cL_law 1205 = .ok (.iadd, 1) := dq_1027.2.2.2.2.2.1
theorem dL_law_1206 : decode cL_law 1206 = .ok (.iaload, 1) := dq_1027.2.2.2.2.2.2.1
theorem dL_law_1207 : decode cL_law 1207 = .ok (.invokevirtual 157, 3) := dq_1027.2.2.2.2.2.2.2.1
theorem dL_law_1210 : decode cL_law 1210 = .ok (.aload_n 2, 1) := dq_1027.2.2.2.2.2.2.2.2.1
theorem dL_law_1211 : decode cL_law 1211 = .ok (.aload_n 0, 1) := dq_1027.2.2.2.2.2.2.2.2.2.1
theorem dL_law_1212 : decode cL_law 1212 = .ok (.iload_n 3, 1) := dq_1027.2.2.2.2.2.2.2.2.2.2.1
theorem dL_law_1213 : decode cL_law 1213 = .ok (.iconst 1, 1) := dq_1027.2.2.2.2.2.2.2.2.2.2.2
theorem dq_1028 : decode cL_law 1214 = .ok (.iadd, 1) ∧ decode cL_law 1215 = .ok (.iaload, 1) ∧ decode cL_law 1216 = .ok (.invokevirtual 160, 3) ∧ decode cL_law 1219 = .ok (.if_icmp .eq 283, 3) ∧ decode cL_law 1222 = .ok (.iconst 0, 1) ∧ decode cL_law 1223 = .ok (.ireturn, 1) ∧ decode cL_law 1224 = .ok (.aload_n 1, 1) ∧ decode cL_law 1225 = .ok (.aload_n 0, 1) ∧ decode cL_law 1226 = .ok (.iload_n 3, 1) ∧ decode cL_law 1227 = .ok (.iconst 1, 1) ∧ decode cL_law 1228 = .ok (.iadd, 1) ∧ decode cL_law 1229 = .ok (.iaload, 1) := by decide +kernel
theorem dL_law_1214 : decode cL_law 1214 = .ok (.iadd, 1) := dq_1028.1
theorem dL_law_1215 : decode cL_law 1215 = .ok (.iaload, 1) := dq_1028.2.1
theorem dL_law_1216 : decode cL_law 1216 = .ok (.invokevirtual 160, 3) := dq_1028.2.2.1
theorem dL_law_1219 : decode cL_law 1219 = .ok (.if_icmp .eq 283, 3) := dq_1028.2.2.2.1
theorem dL_law_1222 : decode cL_law 1222 = .ok (.iconst 0, 1) := dq_1028.2.2.2.2.1
theorem dL_law_1223 : decode cL_law 1223 = .ok (.ireturn, 1) := dq_1028.2.2.2.2.2.1
theorem dL_law_1224 : decode cL_law 1224 = .ok (.aload_n 1, 1) := dq_1028.2.2.2.2.2.2.1
theorem dL_law_1225 : decode cL_law 1225 = .ok (.aload_n 0, 1) := dq_1028.2.2.2.2.2.2.2.1
theorem dL_law_1226 : decode cL_law 1226 = .ok (.iload_n 3, 1) := dq_1028.2.2.2.2.2.2.2.2.1
theorem dL_law_1227 : decode cL_law 1227 = .ok (.iconst 1, 1) := dq_1028.2.2.2.2.2.2.2.2.2.1
theorem dL_law_1228 : decode cL_law 1228 = .ok (.iadd, 1) := dq_1028.2.2.2.2.2.2.2.2.2.2.1
theorem dL_law_1229 : decode cL_law 1229 = .ok (.iaload, 1) := dq_1028.2.2.2.2.2.2.2.2.2.2.2
theorem dq_1029 : decode cL_law 1230 = .ok (.invokevirtual 161, 3) ∧ decode cL_law 1233 = .ok (.aload_n 2, 1) ∧ decode cL_law 1234 = .ok (.aload_n 0, 1) ∧ decode cL_law 1235 = .ok (.iload_n 3, 1) ∧ decode cL_law 1236 = .ok (.iconst 1, 1) ∧ decode cL_law 1237 = .ok (.iadd, 1) ∧ decode cL_law 1238 = .ok (.iaload, 1) ∧ decode cL_law 1239 = .ok (.invokevirtual 165, 3) ∧ decode cL_law 1242 = .ok (.lcmp, 1) ∧ decode cL_law 1243 = .ok (.ifCond .eq 259, 3) ∧ decode cL_law 1246 = .ok (.iconst 0, 1) ∧ decode cL_law 1247 = .ok (.ireturn, 1) := by decide +kernel
theorem dL_law_1230 : decode cL_law 1230 = .ok (.invokevirtual 161, 3) := dq_1029.1
theorem dL_law_1233 : decode cL_law 1233 = .ok (.aload_n 2, 1) := dq_1029.2.1
theorem dL_law_1234 : decode cL_law 1234 = .ok (.aload_n 0, 1) := dq_1029.2.2.1
theorem dL_law_1235 : decode cL_law 1235 = .ok (.iload_n 3, 1) := dq_1029.2.2.2.1
theorem dL_law_1236 : decode cL_law 1236 = .ok (.iconst 1, 1) := dq_1029.2.2.2.2.1
theorem dL_law_1237 : decode cL_law 1237 = .ok (.iadd, 1) := dq_1029.2.2.2.2.2.1
theorem dL_law_1238 : decode cL_law 1238 = .ok (.iaload, 1) := dq_1029.2.2.2.2.2.2.1
theorem dL_law_1239 : decode cL_law 1239 = .ok (.invokevirtual 165, 3) := dq_1029.2.2.2.2.2.2.2.1
theorem dL_law_1242 : decode cL_law 1242 = .ok (.lcmp, 1) := dq_1029.2.2.2.2.2.2.2.2.1
theorem dL_law_1243 : decode cL_law 1243 = .ok (.ifCond .eq 259, 3) := dq_1029.2.2.2.2.2.2.2.2.2.1
theorem dL_law_1246 : decode cL_law 1246 = .ok (.iconst 0, 1) := dq_1029.2.2.2.2.2.2.2.2.2.2.1
theorem dL_law_1247 : decode cL_law 1247 = .ok (.ireturn, 1) := dq_1029.2.2.2.2.2.2.2.2.2.2.2
theorem dq_1030 : decode cL_law 1248 = .ok (.aload_n 1, 1) ∧ decode cL_law 1249 = .ok (.aload_n 0, 1) ∧ decode cL_law 1250 = .ok (.iload_n 3, 1) ∧ decode cL_law 1251 = .ok (.iconst 1, 1) ∧ decode cL_law 1252 = .ok (.iadd, 1) ∧ decode cL_law 1253 = .ok (.iaload, 1) ∧ decode cL_law 1254 = .ok (.aload_n 0, 1) ∧ decode cL_law 1255 = .ok (.iload_n 3, 1) ∧ decode cL_law 1256 = .ok (.iconst 2, 1) ∧ decode cL_law 1257 = .ok (.iadd, 1) ∧ decode cL_law 1258 = .ok (.iaload, 1) ∧ decode cL_law 1259 = .ok (.invokevirtual 166, 3) := by decide +kernel
theorem dL_law_1248 : decode cL_law 1248 = .ok (.aload_n 1, 1) := dq_1030.1
theorem dL_law_1249 : decode cL_law 1249 = .ok (.aload_n 0, 1) := dq_1030.2.1
theorem dL_law_1250 : decode cL_law 1250 = .ok (.iload_n 3, 1) := dq_1030.2.2.1
theorem dL_law_1251 : decode cL_law 1251 = .ok (.iconst 1, 1) := dq_1030.2.2.2.1
theorem dL_law_1252 : decode cL_law 1252 = .ok (.iadd, 1) := dq_1030.2.2.2.2.1
theorem dL_law_1253 : decode cL_law 1253 = .ok (.iaload, 1) := dq_1030.2.2.2.2.2.1
theorem dL_law_1254 : decode cL_law 1254 = .ok (.aload_n 0, 1) := dq_1030.2.2.2.2.2.2.1
theorem dL_law_1255 : decode cL_law 1255 = .ok (.iload_n 3, 1) := dq_1030.2.2.2.2.2.2.2.1
theorem dL_law_1256 : decode cL_law 1256 = .ok (.iconst 2, 1) := dq_1030.2.2.2.2.2.2.2.2.1
theorem dL_law_1257 : decode cL_law 1257 = .ok (.iadd, 1) := dq_1030.2.2.2.2.2.2.2.2.2.1
theorem dL_law_1258 : decode cL_law 1258 = .ok (.iaload, 1) := dq_1030.2.2.2.2.2.2.2.2.2.2.1
theorem dL_law_1259 : decode cL_law 1259 = .ok (.invokevirtual 166, 3) := dq_1030.2.2.2.2.2.2.2.2.2.2.2
theorem dq_1031 : decode cL_law 1262 = .ok (.aload_n 2, 1) ∧ decode cL_law 1263 = .ok (.aload_n 0, 1) ∧ decode cL_law 1264 = .ok (.iload_n 3, 1) ∧ decode cL_law 1265 = .ok (.iconst 1, 1) ∧ decode cL_law 1266 = .ok (.iadd, 1) ∧ decode cL_law 1267 = .ok (.iaload, 1) ∧ decode cL_law 1268 = .ok (.aload_n 0, 1) ∧ decode cL_law 1269 = .ok (.iload_n 3, 1) ∧ decode cL_law 1270 = .ok (.iconst 2, 1) ∧ decode cL_law 1271 = .ok (.iadd, 1) ∧ decode cL_law 1272 = .ok (.iaload, 1) ∧ decode cL_law 1273 = .ok (.invokevirtual 169, 3) := by decide +kernel
theorem dL_law_1262 : decode cL_law 1262 = .ok (.aload_n 2, 1) := dq_1031.1
theorem dL_law_1263 : decode cL_law 1263 = .ok (.aload_n 0, 1) := dq_1031.2.1
theorem dL_law_1264 : decode cL_law 1264 = .ok (.iload_n 3, 1) := dq_1031.2.2.1
theorem dL_law_1265 : decode cL_law 1265 = .ok (.iconst 1, 1) := dq_1031.2.2.2.1
theorem dL_law_1266 : decode cL_law 1266 = .ok (.iadd, 1) := dq_1031.2.2.2.2.1
theorem dL_law_1267 : decode cL_law 1267 = .ok (.iaload, 1) := dq_1031.2.2.2.2.2.1
theorem dL_law_1268 : decode cL_law 1268 = .ok (.aload_n 0, 1) := dq_1031.2.2.2.2.2.2.1
theorem dL_law_1269 : decode cL_law 1269 = .ok (.iload_n 3, 1) := dq_1031.2.2.2.2.2.2.2.1
theorem dL_law_1270 : decode cL_law 1270 = .ok (.iconst 2, 1) := dq_1031.2.2.2.2.2.2.2.2.1
theorem dL_law_1271 : decode cL_law 1271 = .ok (.iadd, 1) := dq_1031.2.2.2.2.2.2.2.2.2.1
theorem dL_law_1272 : decode cL_law 1272 = .ok (.iaload, 1) := dq_1031.2.2.2.2.2.2.2.2.2.2.1
theorem dL_law_1273 : decode cL_law 1273 = .ok (.invokevirtual 169, 3) := dq_1031.2.2.2.2.2.2.2.2.2.2.2
theorem dq_1032 : decode cL_law 1276 = .ok (.if_icmp .eq 226, 3) ∧ decode cL_law 1279 = .ok (.iconst 0, 1) ∧ decode cL_law 1280 = .ok (.ireturn, 1) ∧ decode cL_law 1281 = .ok (.aload_n 1, 1) ∧ decode cL_law 1282 = .ok (.invokevirtual 170, 3) ∧ decode cL_law 1285 = .ok (.aload_n 2, 1) ∧ decode cL_law 1286 = .ok (.invokevirtual 173, 3) ∧ decode cL_law 1289 = .ok (.if_icmp .eq 213, 3) ∧ decode cL_law 1292 = .ok (.iconst 0, 1) ∧ decode cL_law 1293 = .ok (.ireturn, 1) ∧ decode cL_law 1294 = .ok (.aload_n 1, 1) ∧ decode cL_law 1295 = .ok (.aload_n 0, 1) := by decide +kernel
theorem dL_law_1276 : decode cL_law 1276 = .ok (.if_icmp .eq 226, 3) := dq_1032.1
theorem dL_law_1279 : decode cL_law 1279 = .ok (.iconst 0, 1) := dq_1032.2.1
theorem dL_law_1280 : decode cL_law 1280 = .ok (.ireturn, 1) := dq_1032.2.2.1
theorem dL_law_1281 : decode cL_law 1281 = .ok (.aload_n 1, 1) := dq_1032.2.2.2.1
theorem dL_law_1282 : decode cL_law 1282 = .ok (.invokevirtual 170, 3) := dq_1032.2.2.2.2.1
theorem dL_law_1285 : decode cL_law 1285 = .ok (.aload_n 2, 1) := dq_1032.2.2.2.2.2.1
theorem dL_law_1286 : decode cL_law 1286 = .ok (.invokevirtual 173, 3) := dq_1032.2.2.2.2.2.2.1
theorem dL_law_1289 : decode cL_law 1289 = .ok (.if_icmp .eq 213, 3) := dq_1032.2.2.2.2.2.2.2.1
theorem dL_law_1292 : decode cL_law 1292 = .ok (.iconst 0, 1) := dq_1032.2.2.2.2.2.2.2.2.1
theorem dL_law_1293 : decode cL_law 1293 = .ok (.ireturn, 1) := dq_1032.2.2.2.2.2.2.2.2.2.1
theorem dL_law_1294 : decode cL_law 1294 = .ok (.aload_n 1, 1) := dq_1032.2.2.2.2.2.2.2.2.2.2.1
theorem dL_law_1295 : decode cL_law 1295 = .ok (.aload_n 0, 1) := dq_1032.2.2.2.2.2.2.2.2.2.2.2
theorem dq_1033 : decode cL_law 1296 = .ok (.iload_n 3, 1) ∧ decode cL_law 1297 = .ok (.iconst 1, 1) ∧ decode cL_law 1298 = .ok (.iadd, 1) ∧ decode cL_law 1299 = .ok (.iaload, 1) ∧ decode cL_law 1300 = .ok (.invokevirtual 174, 3) ∧ decode cL_law 1303 = .ok (.aload_n 2, 1) ∧ decode cL_law 1304 = .ok (.aload_n 0, 1) ∧ decode cL_law 1305 = .ok (.iload_n 3, 1) ∧ decode cL_law 1306 = .ok (.iconst 1, 1) ∧ decode cL_law 1307 = .ok (.iadd, 1) ∧ decode cL_law 1308 = .ok (.iaload, 1) ∧ decode cL_law 1309 = .ok (.invokevirtual 177, 3) := by decide +kernel
theorem dL_law_1296 : decode cL_law 1296 = .ok (.iload_n 3, 1) := dq_1033.1
theorem dL_law_1297 : decode cL_law 1297 = .ok (.iconst 1, 1) := dq_1033.2.1
theorem dL_law_1298 : decode cL_law 1298 = .ok (.iadd, 1) := dq_1033.2.2.1
theorem dL_law_1299 : decode cL_law 1299 = .ok (.iaload, 1) := dq_1033.2.2.2.1
theorem dL_law_1300 : decode cL_law 1300 = .ok (.invokevirtual 174, 3) := dq_1033.2.2.2.2.1
theorem dL_law_1303 : decode cL_law 1303 = .ok (.aload_n 2, 1) := dq_1033.2.2.2.2.2.1
theorem dL_law_1304 : decode cL_law 1304 = .ok (.aload_n 0, 1) := dq_1033.2.2.2.2.2.2.1
theorem dL_law_1305 : decode cL_law 1305 = .ok (.iload_n 3, 1) := dq_1033.2.2.2.2.2.2.2.1
theorem dL_law_1306 : decode cL_law 1306 = .ok (.iconst 1, 1) := dq_1033.2.2.2.2.2.2.2.2.1
theorem dL_law_1307 : decode cL_law 1307 = .ok (.iadd, 1) := dq_1033.2.2.2.2.2.2.2.2.2.1
theorem dL_law_1308 : decode cL_law 1308 = .ok (.iaload, 1) := dq_1033.2.2.2.2.2.2.2.2.2.2.1
theorem dL_law_1309 : decode cL_law 1309 = .ok (.invokevirtual 177, 3) := dq_1033.2.2.2.2.2.2.2.2.2.2.2
theorem dq_1034 : decode cL_law 1312 = .ok (.if_icmp .eq 190, 3) ∧ decode cL_law 1315 = .ok (.iconst 0, 1) ∧ decode cL_law 1316 = .ok (.ireturn, 1) ∧ decode cL_law 1317 = .ok (.aload_n 1, 1) ∧ decode cL_law 1318 = .ok (.aload_n 0, 1) ∧ decode cL_law 1319 = .ok (.iload_n 3, 1) ∧ decode cL_law 1320 = .ok (.iconst 1, 1) ∧ decode cL_law 1321 = .ok (.iadd, 1) ∧ decode cL_law 1322 = .ok (.iaload, 1) ∧ decode cL_law 1323 = .ok (.aload_n 0, 1) ∧ decode cL_law 1324 = .ok (.iload_n 3, 1) ∧ decode cL_law 1325 = .ok (.iconst 2, 1) := by decide +kernel
theorem dL_law_1312 : decode cL_law 1312 = .ok (.if_icmp .eq 190, 3) := dq_1034.1
theorem dL_law_1315 : decode cL_law 1315 = .ok (.iconst 0, 1) := dq_1034.2.1
theorem dL_law_1316 : decode cL_law 1316 = .ok (.ireturn, 1) := dq_1034.2.2.1
theorem dL_law_1317 : decode cL_law 1317 = .ok (.aload_n 1, 1) := dq_1034.2.2.2.1
theorem dL_law_1318 : decode cL_law 1318 = .ok (.aload_n 0, 1) := dq_1034.2.2.2.2.1
theorem dL_law_1319 : decode cL_law 1319 = .ok (.iload_n 3, 1) := dq_1034.2.2.2.2.2.1
theorem dL_law_1320 : decode cL_law 1320 = .ok (.iconst 1, 1) := dq_1034.2.2.2.2.2.2.1
theorem dL_law_1321 : decode cL_law 1321 = .ok (.iadd, 1) := dq_1034.2.2.2.2.2.2.2.1
theorem dL_law_1322 : decode cL_law 1322 = .ok (.iaload, 1) := dq_1034.2.2.2.2.2.2.2.2.1
theorem dL_law_1323 : decode cL_law 1323 = .ok (.aload_n 0, 1) := dq_1034.2.2.2.2.2.2.2.2.2.1
theorem dL_law_1324 : decode cL_law 1324 = .ok (.iload_n 3, 1) := dq_1034.2.2.2.2.2.2.2.2.2.2.1
theorem dL_law_1325 : decode cL_law 1325 = .ok (.iconst 2, 1) := dq_1034.2.2.2.2.2.2.2.2.2.2.2
theorem dq_1035 : decode cL_law 1326 = .ok (.iadd, 1) ∧ decode cL_law 1327 = .ok (.iaload, 1) ∧ decode cL_law 1328 = .ok (.aload_n 0, 1) ∧ decode cL_law 1329 = .ok (.iload_n 3, 1) ∧ decode cL_law 1330 = .ok (.iconst 3, 1) ∧ decode cL_law 1331 = .ok (.iadd, 1) ∧ decode cL_law 1332 = .ok (.iaload, 1) ∧ decode cL_law 1333 = .ok (.invokevirtual 178, 3) ∧ decode cL_law 1336 = .ok (.aload_n 2, 1) ∧ decode cL_law 1337 = .ok (.aload_n 0, 1) ∧ decode cL_law 1338 = .ok (.iload_n 3, 1) ∧ decode cL_law 1339 = .ok (.iconst 1, 1) := by decide +kernel
theorem dL_law_1326 : decode cL_law 1326 = .ok (.iadd, 1) := dq_1035.1
theorem dL_law_1327 : decode cL_law 1327 = .ok (.iaload, 1) := dq_1035.2.1
theorem dL_law_1328 : decode cL_law 1328 = .ok (.aload_n 0, 1) := dq_1035.2.2.1
theorem dL_law_1329 : decode cL_law 1329 = .ok (.iload_n 3, 1) := dq_1035.2.2.2.1
theorem dL_law_1330 : decode cL_law 1330 = .ok (.iconst 3, 1) := dq_1035.2.2.2.2.1
theorem dL_law_1331 : decode cL_law 1331 = .ok (.iadd, 1) := dq_1035.2.2.2.2.2.1
theorem dL_law_1332 : decode cL_law 1332 = .ok (.iaload, 1) := dq_1035.2.2.2.2.2.2.1
theorem dL_law_1333 : decode cL_law 1333 = .ok (.invokevirtual 178, 3) := dq_1035.2.2.2.2.2.2.2.1
theorem dL_law_1336 : decode cL_law 1336 = .ok (.aload_n 2, 1) := dq_1035.2.2.2.2.2.2.2.2.1
theorem dL_law_1337 : decode cL_law 1337 = .ok (.aload_n 0, 1) := dq_1035.2.2.2.2.2.2.2.2.2.1
theorem dL_law_1338 : decode cL_law 1338 = .ok (.iload_n 3, 1) := dq_1035.2.2.2.2.2.2.2.2.2.2.1
theorem dL_law_1339 : decode cL_law 1339 = .ok (.iconst 1, 1) := dq_1035.2.2.2.2.2.2.2.2.2.2.2
theorem dq_1036 : decode cL_law 1340 = .ok (.iadd, 1) ∧ decode cL_law 1341 = .ok (.iaload, 1) ∧ decode cL_law 1342 = .ok (.aload_n 0, 1) ∧ decode cL_law 1343 = .ok (.iload_n 3, 1) ∧ decode cL_law 1344 = .ok (.iconst 2, 1) ∧ decode cL_law 1345 = .ok (.iadd, 1) ∧ decode cL_law 1346 = .ok (.iaload, 1) ∧ decode cL_law 1347 = .ok (.aload_n 0, 1) ∧ decode cL_law 1348 = .ok (.iload_n 3, 1) ∧ decode cL_law 1349 = .ok (.iconst 3, 1) ∧ decode cL_law 1350 = .ok (.iadd, 1) ∧ decode cL_law 1351 = .ok (.iaload, 1) := by decide +kernel
theorem dL_law_1340 : decode cL_law 1340 = .ok (.iadd, 1) := dq_1036.1
theorem dL_law_1341 : decode cL_law 1341 = .ok (.iaload, 1) := dq_1036.2.1
theorem dL_law_1342 : decode cL_law 1342 = .ok (.aload_n 0, 1) := dq_1036.2.2.1
theorem dL_law_1343 : decode cL_law 1343 = .ok (.iload_n 3, 1) := dq_1036.2.2.2.1
theorem dL_law_1344 : decode cL_law 1344 = .ok (.iconst 2, 1) := dq_1036.2.2.2.2.1
theorem dL_law_1345 : decode cL_law 1345 = .ok (.iadd, 1) := dq_1036.2.2.2.2.2.1
theorem dL_law_1346 : decode cL_law 1346 = .ok (.iaload, 1) := dq_1036.2.2.2.2.2.2.1
theorem dL_law_1347 : decode cL_law 1347 = .ok (.aload_n 0, 1) := dq_1036.2.2.2.2.2.2.2.1
theorem dL_law_1348 : decode cL_law 1348 = .ok (.iload_n 3, 1) := dq_1036.2.2.2.2.2.2.2.2.1
theorem dL_law_1349 : decode cL_law 1349 = .ok (.iconst 3, 1) := dq_1036.2.2.2.2.2.2.2.2.2.1
theorem dL_law_1350 : decode cL_law 1350 = .ok (.iadd, 1) := dq_1036.2.2.2.2.2.2.2.2.2.2.1
theorem dL_law_1351 : decode cL_law 1351 = .ok (.iaload, 1) := dq_1036.2.2.2.2.2.2.2.2.2.2.2
theorem dq_1037 : decode cL_law 1352 = .ok (.invokevirtual 181, 3) ∧ decode cL_law 1355 = .ok (.if_icmp .eq 147, 3) ∧ decode cL_law 1358 = .ok (.iconst 0, 1) ∧ decode cL_law 1359 = .ok (.ireturn, 1) ∧ decode cL_law 1360 = .ok (.aload_n 1, 1) ∧ decode cL_law 1361 = .ok (.aload_n 0, 1) ∧ decode cL_law 1362 = .ok (.iload_n 3, 1) ∧ decode cL_law 1363 = .ok (.iconst 1, 1) ∧ decode cL_law 1364 = .ok (.iadd, 1) ∧ decode cL_law 1365 = .ok (.iaload, 1) ∧ decode cL_law 1366 = .ok (.aload_n 0, 1) ∧ decode cL_law 1367 = .ok (.iload_n 3, 1) := by decide +kernel
theorem dL_law_1352 : decode cL_law 1352 = .ok (.invokevirtual 181, 3) := dq_1037.1
theorem dL_law_1355 : decode cL_law 1355 = .ok (.if_icmp .eq 147, 3) := dq_1037.2.1
theorem dL_law_1358 : decode cL_law 1358 = .ok (.iconst 0, 1) := dq_1037.2.2.1
theorem dL_law_1359 : decode cL_law 1359 = .ok (.ireturn, 1) := dq_1037.2.2.2.1
theorem dL_law_1360 : decode cL_law 1360 = .ok (.aload_n 1, 1) := dq_1037.2.2.2.2.1
theorem dL_law_1361 : decode cL_law 1361 = .ok (.aload_n 0, 1) := dq_1037.2.2.2.2.2.1
theorem dL_law_1362 : decode cL_law 1362 = .ok (.iload_n 3, 1) := dq_1037.2.2.2.2.2.2.1
theorem dL_law_1363 : decode cL_law 1363 = .ok (.iconst 1, 1) := dq_1037.2.2.2.2.2.2.2.1
theorem dL_law_1364 : decode cL_law 1364 = .ok (.iadd, 1) := dq_1037.2.2.2.2.2.2.2.2.1
theorem dL_law_1365 : decode cL_law 1365 = .ok (.iaload, 1) := dq_1037.2.2.2.2.2.2.2.2.2.1
theorem dL_law_1366 : decode cL_law 1366 = .ok (.aload_n 0, 1) := dq_1037.2.2.2.2.2.2.2.2.2.2.1
theorem dL_law_1367 : decode cL_law 1367 = .ok (.iload_n 3, 1) := dq_1037.2.2.2.2.2.2.2.2.2.2.2
theorem dq_1038 : decode cL_law 1368 = .ok (.iconst 2, 1) ∧ decode cL_law 1369 = .ok (.iadd, 1) ∧ decode cL_law 1370 = .ok (.iaload, 1) ∧ decode cL_law 1371 = .ok (.aload_n 0, 1) ∧ decode cL_law 1372 = .ok (.iload_n 3, 1) ∧ decode cL_law 1373 = .ok (.iconst 3, 1) ∧ decode cL_law 1374 = .ok (.iadd, 1) ∧ decode cL_law 1375 = .ok (.iaload, 1) ∧ decode cL_law 1376 = .ok (.invokevirtual 182, 3) ∧ decode cL_law 1379 = .ok (.aload_n 2, 1) ∧ decode cL_law 1380 = .ok (.aload_n 0, 1) ∧ decode cL_law 1381 = .ok (.iload_n 3, 1) := by decide +kernel
theorem dL_law_1368 : decode cL_law 1368 = .ok (.iconst 2, 1) := dq_1038.1
theorem dL_law_1369 : decode cL_law 1369 = .ok (.iadd, 1) := dq_1038.2.1
theorem dL_law_1370 : decode cL_law 1370 = .ok (.iaload, 1) := dq_1038.2.2.1
theorem dL_law_1371 : decode cL_law 1371 = .ok (.aload_n 0, 1) := dq_1038.2.2.2.1
theorem dL_law_1372 : decode cL_law 1372 = .ok (.iload_n 3, 1) := dq_1038.2.2.2.2.1
theorem dL_law_1373 : decode cL_law 1373 = .ok (.iconst 3, 1) := dq_1038.2.2.2.2.2.1
theorem dL_law_1374 : decode cL_law 1374 = .ok (.iadd, 1) := dq_1038.2.2.2.2.2.2.1
theorem dL_law_1375 : decode cL_law 1375 = .ok (.iaload, 1) := dq_1038.2.2.2.2.2.2.2.1
theorem dL_law_1376 : decode cL_law 1376 = .ok (.invokevirtual 182, 3) := dq_1038.2.2.2.2.2.2.2.2.1
theorem dL_law_1379 : decode cL_law 1379 = .ok (.aload_n 2, 1) := dq_1038.2.2.2.2.2.2.2.2.2.1
theorem dL_law_1380 : decode cL_law 1380 = .ok (.aload_n 0, 1) := dq_1038.2.2.2.2.2.2.2.2.2.2.1
theorem dL_law_1381 : decode cL_law 1381 = .ok (.iload_n 3, 1) := dq_1038.2.2.2.2.2.2.2.2.2.2.2
theorem dq_1039 : decode cL_law 1382 = .ok (.iconst 1, 1) ∧ decode cL_law 1383 = .ok (.iadd, 1) ∧ decode cL_law 1384 = .ok (.iaload, 1) ∧ decode cL_law 1385 = .ok (.aload_n 0, 1) ∧ decode cL_law 1386 = .ok (.iload_n 3, 1) ∧ decode cL_law 1387 = .ok (.iconst 2, 1) ∧ decode cL_law 1388 = .ok (.iadd, 1) ∧ decode cL_law 1389 = .ok (.iaload, 1) ∧ decode cL_law 1390 = .ok (.aload_n 0, 1) ∧ decode cL_law 1391 = .ok (.iload_n 3, 1) ∧ decode cL_law 1392 = .ok (.iconst 3, 1) ∧ decode cL_law 1393 = .ok (.iadd, 1) := by decide +kernel
theorem dL_law_1382 : decode cL_law 1382 = .ok (.iconst 1, 1) := dq_1039.1
theorem dL_law_1383 : decode cL_law 1383 = .ok (.iadd, 1) := dq_1039.2.1
theorem dL_law_1384 : decode cL_law 1384 = .ok (.iaload, 1) := dq_1039.2.2.1
theorem dL_law_1385 : decode cL_law 1385 = .ok (.aload_n 0, 1) := dq_1039.2.2.2.1
theorem dL_law_1386 : decode cL_law 1386 = .ok (.iload_n 3, 1) := dq_1039.2.2.2.2.1
theorem dL_law_1387 : decode cL_law 1387 = .ok (.iconst 2, 1) := dq_1039.2.2.2.2.2.1
theorem dL_law_1388 : decode cL_law 1388 = .ok (.iadd, 1) := dq_1039.2.2.2.2.2.2.1
theorem dL_law_1389 : decode cL_law 1389 = .ok (.iaload, 1) := dq_1039.2.2.2.2.2.2.2.1
theorem dL_law_1390 : decode cL_law 1390 = .ok (.aload_n 0, 1) := dq_1039.2.2.2.2.2.2.2.2.1
theorem dL_law_1391 : decode cL_law 1391 = .ok (.iload_n 3, 1) := dq_1039.2.2.2.2.2.2.2.2.2.1
theorem dL_law_1392 : decode cL_law 1392 = .ok (.iconst 3, 1) := dq_1039.2.2.2.2.2.2.2.2.2.2.1
theorem dL_law_1393 : decode cL_law 1393 = .ok (.iadd, 1) := dq_1039.2.2.2.2.2.2.2.2.2.2.2
theorem dq_1040 : decode cL_law 1394 = .ok (.iaload, 1) ∧ decode cL_law 1395 = .ok (.invokevirtual 185, 3) ∧ decode cL_law 1398 = .ok (.if_icmp .eq 104, 3) ∧ decode cL_law 1401 = .ok (.iconst 0, 1) ∧ decode cL_law 1402 = .ok (.ireturn, 1) ∧ decode cL_law 1403 = .ok (.aload_n 1, 1) ∧ decode cL_law 1404 = .ok (.aload_n 0, 1) ∧ decode cL_law 1405 = .ok (.iload_n 3, 1) ∧ decode cL_law 1406 = .ok (.iconst 1, 1) ∧ decode cL_law 1407 = .ok (.iadd, 1) ∧ decode cL_law 1408 = .ok (.iaload, 1) ∧ decode cL_law 1409 = .ok (.aload_n 0, 1) := by decide +kernel
theorem dL_law_1394 : decode cL_law 1394 = .ok (.iaload, 1) := dq_1040.1
theorem dL_law_1395 : decode cL_law 1395 = .ok (.invokevirtual 185, 3) := dq_1040.2.1
theorem dL_law_1398 : decode cL_law 1398 = .ok (.if_icmp .eq 104, 3) := dq_1040.2.2.1
theorem dL_law_1401 : decode cL_law 1401 = .ok (.iconst 0, 1) := dq_1040.2.2.2.1
theorem dL_law_1402 : decode cL_law 1402 = .ok (.ireturn, 1) := dq_1040.2.2.2.2.1
theorem dL_law_1403 : decode cL_law 1403 = .ok (.aload_n 1, 1) := dq_1040.2.2.2.2.2.1
theorem dL_law_1404 : decode cL_law 1404 = .ok (.aload_n 0, 1) := dq_1040.2.2.2.2.2.2.1
theorem dL_law_1405 : decode cL_law 1405 = .ok (.iload_n 3, 1) := dq_1040.2.2.2.2.2.2.2.1
theorem dL_law_1406 : decode cL_law 1406 = .ok (.iconst 1, 1) := dq_1040.2.2.2.2.2.2.2.2.1
theorem dL_law_1407 : decode cL_law 1407 = .ok (.iadd, 1) := dq_1040.2.2.2.2.2.2.2.2.2.1
theorem dL_law_1408 : decode cL_law 1408 = .ok (.iaload, 1) := dq_1040.2.2.2.2.2.2.2.2.2.2.1
theorem dL_law_1409 : decode cL_law 1409 = .ok (.aload_n 0, 1) := dq_1040.2.2.2.2.2.2.2.2.2.2.2
theorem dq_1041 : decode cL_law 1410 = .ok (.iload_n 3, 1) ∧ decode cL_law 1411 = .ok (.iconst 2, 1) ∧ decode cL_law 1412 = .ok (.iadd, 1) ∧ decode cL_law 1413 = .ok (.iaload, 1) ∧ decode cL_law 1414 = .ok (.aload_n 0, 1) ∧ decode cL_law 1415 = .ok (.iload_n 3, 1) ∧ decode cL_law 1416 = .ok (.iconst 3, 1) ∧ decode cL_law 1417 = .ok (.iadd, 1) ∧ decode cL_law 1418 = .ok (.iaload, 1) ∧ decode cL_law 1419 = .ok (.aload_n 0, 1) ∧ decode cL_law 1420 = .ok (.iload_n 3, 1) ∧ decode cL_law 1421 = .ok (.iconst 4, 1) := by decide +kernel
theorem dL_law_1410 : decode cL_law 1410 = .ok (.iload_n 3, 1) := dq_1041.1
theorem dL_law_1411 : decode cL_law 1411 = .ok (.iconst 2, 1) := dq_1041.2.1
theorem dL_law_1412 : decode cL_law 1412 = .ok (.iadd, 1) := dq_1041.2.2.1
theorem dL_law_1413 : decode cL_law 1413 = .ok (.iaload, 1) := dq_1041.2.2.2.1
theorem dL_law_1414 : decode cL_law 1414 = .ok (.aload_n 0, 1) := dq_1041.2.2.2.2.1
theorem dL_law_1415 : decode cL_law 1415 = .ok (.iload_n 3, 1) := dq_1041.2.2.2.2.2.1
theorem dL_law_1416 : decode cL_law 1416 = .ok (.iconst 3, 1) := dq_1041.2.2.2.2.2.2.1
theorem dL_law_1417 : decode cL_law 1417 = .ok (.iadd, 1) := dq_1041.2.2.2.2.2.2.2.1
theorem dL_law_1418 : decode cL_law 1418 = .ok (.iaload, 1) := dq_1041.2.2.2.2.2.2.2.2.1
theorem dL_law_1419 : decode cL_law 1419 = .ok (.aload_n 0, 1) := dq_1041.2.2.2.2.2.2.2.2.2.1
theorem dL_law_1420 : decode cL_law 1420 = .ok (.iload_n 3, 1) := dq_1041.2.2.2.2.2.2.2.2.2.2.1
theorem dL_law_1421 : decode cL_law 1421 = .ok (.iconst 4, 1) := dq_1041.2.2.2.2.2.2.2.2.2.2.2
theorem dq_1042 : decode cL_law 1422 = .ok (.iadd, 1) ∧ decode cL_law 1423 = .ok (.iaload, 1) ∧ decode cL_law 1424 = .ok (.aload_n 0, 1) ∧ decode cL_law 1425 = .ok (.iload_n 3, 1) ∧ decode cL_law 1426 = .ok (.iconst 5, 1) ∧ decode cL_law 1427 = .ok (.iadd, 1) ∧ decode cL_law 1428 = .ok (.iaload, 1) ∧ decode cL_law 1429 = .ok (.invokevirtual 186, 3) ∧ decode cL_law 1432 = .ok (.aload_n 2, 1) ∧ decode cL_law 1433 = .ok (.aload_n 0, 1) ∧ decode cL_law 1434 = .ok (.iload_n 3, 1) ∧ decode cL_law 1435 = .ok (.iconst 1, 1) := by decide +kernel
theorem dL_law_1422 : decode cL_law 1422 = .ok (.iadd, 1) := dq_1042.1
theorem dL_law_1423 : decode cL_law 1423 = .ok (.iaload, 1) := dq_1042.2.1
theorem dL_law_1424 : decode cL_law 1424 = .ok (.aload_n 0, 1) := dq_1042.2.2.1
theorem dL_law_1425 : decode cL_law 1425 = .ok (.iload_n 3, 1) := dq_1042.2.2.2.1
theorem dL_law_1426 : decode cL_law 1426 = .ok (.iconst 5, 1) := dq_1042.2.2.2.2.1
theorem dL_law_1427 : decode cL_law 1427 = .ok (.iadd, 1) := dq_1042.2.2.2.2.2.1
theorem dL_law_1428 : decode cL_law 1428 = .ok (.iaload, 1) := dq_1042.2.2.2.2.2.2.1
theorem dL_law_1429 : decode cL_law 1429 = .ok (.invokevirtual 186, 3) := dq_1042.2.2.2.2.2.2.2.1
theorem dL_law_1432 : decode cL_law 1432 = .ok (.aload_n 2, 1) := dq_1042.2.2.2.2.2.2.2.2.1
theorem dL_law_1433 : decode cL_law 1433 = .ok (.aload_n 0, 1) := dq_1042.2.2.2.2.2.2.2.2.2.1
theorem dL_law_1434 : decode cL_law 1434 = .ok (.iload_n 3, 1) := dq_1042.2.2.2.2.2.2.2.2.2.2.1
theorem dL_law_1435 : decode cL_law 1435 = .ok (.iconst 1, 1) := dq_1042.2.2.2.2.2.2.2.2.2.2.2
theorem dq_1043 : decode cL_law 1436 = .ok (.iadd, 1) ∧ decode cL_law 1437 = .ok (.iaload, 1) ∧ decode cL_law 1438 = .ok (.aload_n 0, 1) ∧ decode cL_law 1439 = .ok (.iload_n 3, 1) ∧ decode cL_law 1440 = .ok (.iconst 2, 1) ∧ decode cL_law 1441 = .ok (.iadd, 1) ∧ decode cL_law 1442 = .ok (.iaload, 1) ∧ decode cL_law 1443 = .ok (.aload_n 0, 1) ∧ decode cL_law 1444 = .ok (.iload_n 3, 1) ∧ decode cL_law 1445 = .ok (.iconst 3, 1) ∧ decode cL_law 1446 = .ok (.iadd, 1) ∧ decode cL_law 1447 = .ok (.iaload, 1) := by decide +kernel
theorem dL_law_1436 : decode cL_law 1436 = .ok (.iadd, 1) := dq_1043.1
theorem dL_law_1437 : decode cL_law 1437 = .ok (.iaload, 1) := dq_1043.2.1
theorem dL_law_1438 : decode cL_law 1438 = .ok (.aload_n 0, 1) := dq_1043.2.2.1
theorem dL_law_1439 : decode cL_law 1439 = .ok (.iload_n 3, 1) := dq_1043.2.2.2.1
theorem dL_law_1440 : decode cL_law 1440 = .ok (.iconst 2, 1) := dq_1043.2.2.2.2.1
theorem dL_law_1441 : decode cL_law 1441 = .ok (.iadd, 1) := dq_1043.2.2.2.2.2.1
theorem dL_law_1442 : decode cL_law 1442 = .ok (.iaload, 1) := dq_1043.2.2.2.2.2.2.1
theorem dL_law_1443 : decode cL_law 1443 = .ok (.aload_n 0, 1) := dq_1043.2.2.2.2.2.2.2.1
theorem dL_law_1444 : decode cL_law 1444 = .ok (.iload_n 3, 1) := dq_1043.2.2.2.2.2.2.2.2.1
theorem dL_law_1445 : decode cL_law 1445 = .ok (.iconst 3, 1) := dq_1043.2.2.2.2.2.2.2.2.2.1
theorem dL_law_1446 : decode cL_law 1446 = .ok (.iadd, 1) := dq_1043.2.2.2.2.2.2.2.2.2.2.1
theorem dL_law_1447 : decode cL_law 1447 = .ok (.iaload, 1) := dq_1043.2.2.2.2.2.2.2.2.2.2.2
theorem dq_1044 : decode cL_law 1448 = .ok (.aload_n 0, 1) ∧ decode cL_law 1449 = .ok (.iload_n 3, 1) ∧ decode cL_law 1450 = .ok (.iconst 4, 1) ∧ decode cL_law 1451 = .ok (.iadd, 1) ∧ decode cL_law 1452 = .ok (.iaload, 1) ∧ decode cL_law 1453 = .ok (.aload_n 0, 1) ∧ decode cL_law 1454 = .ok (.iload_n 3, 1) ∧ decode cL_law 1455 = .ok (.iconst 5, 1) ∧ decode cL_law 1456 = .ok (.iadd, 1) ∧ decode cL_law 1457 = .ok (.iaload, 1) ∧ decode cL_law 1458 = .ok (.invokevirtual 189, 3) ∧ decode cL_law 1461 = .ok (.if_icmp .eq 41, 3) := by decide +kernel
theorem dL_law_1448 : decode cL_law 1448 = .ok (.aload_n 0, 1) := dq_1044.1
theorem dL_law_1449 : decode cL_law 1449 = .ok (.iload_n 3, 1) := dq_1044.2.1
theorem dL_law_1450 : decode cL_law 1450 = .ok (.iconst 4, 1) := dq_1044.2.2.1
theorem dL_law_1451 : decode cL_law 1451 = .ok (.iadd, 1) := dq_1044.2.2.2.1
theorem dL_law_1452 : decode cL_law 1452 = .ok (.iaload, 1) := dq_1044.2.2.2.2.1
theorem dL_law_1453 : decode cL_law 1453 = .ok (.aload_n 0, 1) := dq_1044.2.2.2.2.2.1
theorem dL_law_1454 : decode cL_law 1454 = .ok (.iload_n 3, 1) := dq_1044.2.2.2.2.2.2.1
theorem dL_law_1455 : decode cL_law 1455 = .ok (.iconst 5, 1) := dq_1044.2.2.2.2.2.2.2.1
theorem dL_law_1456 : decode cL_law 1456 = .ok (.iadd, 1) := dq_1044.2.2.2.2.2.2.2.2.1
theorem dL_law_1457 : decode cL_law 1457 = .ok (.iaload, 1) := dq_1044.2.2.2.2.2.2.2.2.2.1
theorem dL_law_1458 : decode cL_law 1458 = .ok (.invokevirtual 189, 3) := dq_1044.2.2.2.2.2.2.2.2.2.2.1
theorem dL_law_1461 : decode cL_law 1461 = .ok (.if_icmp .eq 41, 3) := dq_1044.2.2.2.2.2.2.2.2.2.2.2
theorem dq_1045 : decode cL_law 1464 = .ok (.iconst 0, 1) ∧ decode cL_law 1465 = .ok (.ireturn, 1) ∧ decode cL_law 1466 = .ok (.aload_n 1, 1) ∧ decode cL_law 1467 = .ok (.invokevirtual 190, 3) ∧ decode cL_law 1470 = .ok (.aload_n 2, 1) ∧ decode cL_law 1471 = .ok (.invokevirtual 193, 3) ∧ decode cL_law 1474 = .ok (.if_icmp .eq 28, 3) ∧ decode cL_law 1477 = .ok (.iconst 0, 1) ∧ decode cL_law 1478 = .ok (.ireturn, 1) ∧ decode cL_law 1479 = .ok (.aload_n 1, 1) ∧ decode cL_law 1480 = .ok (.aload_n 0, 1) ∧ decode cL_law 1481 = .ok (.iload_n 3, 1) := by decide +kernel
theorem dL_law_1464 : decode cL_law 1464 = .ok (.iconst 0, 1) := dq_1045.1
theorem dL_law_1465 : decode cL_law 1465 = .ok (.ireturn, 1) := dq_1045.2.1
theorem dL_law_1466 : decode cL_law 1466 = .ok (.aload_n 1, 1) := dq_1045.2.2.1
theorem dL_law_1467 : decode cL_law 1467 = .ok (.invokevirtual 190, 3) := dq_1045.2.2.2.1
theorem dL_law_1470 : decode cL_law 1470 = .ok (.aload_n 2, 1) := dq_1045.2.2.2.2.1
theorem dL_law_1471 : decode cL_law 1471 = .ok (.invokevirtual 193, 3) := dq_1045.2.2.2.2.2.1
theorem dL_law_1474 : decode cL_law 1474 = .ok (.if_icmp .eq 28, 3) := dq_1045.2.2.2.2.2.2.1
theorem dL_law_1477 : decode cL_law 1477 = .ok (.iconst 0, 1) := dq_1045.2.2.2.2.2.2.2.1
theorem dL_law_1478 : decode cL_law 1478 = .ok (.ireturn, 1) := dq_1045.2.2.2.2.2.2.2.2.1
theorem dL_law_1479 : decode cL_law 1479 = .ok (.aload_n 1, 1) := dq_1045.2.2.2.2.2.2.2.2.2.1
theorem dL_law_1480 : decode cL_law 1480 = .ok (.aload_n 0, 1) := dq_1045.2.2.2.2.2.2.2.2.2.2.1
theorem dL_law_1481 : decode cL_law 1481 = .ok (.iload_n 3, 1) := dq_1045.2.2.2.2.2.2.2.2.2.2.2
theorem dq_1046 : decode cL_law 1482 = .ok (.iconst 1, 1) ∧ decode cL_law 1483 = .ok (.iadd, 1) ∧ decode cL_law 1484 = .ok (.iaload, 1) ∧ decode cL_law 1485 = .ok (.invokevirtual 194, 3) ∧ decode cL_law 1488 = .ok (.aload_n 2, 1) ∧ decode cL_law 1489 = .ok (.aload_n 0, 1) ∧ decode cL_law 1490 = .ok (.iload_n 3, 1) ∧ decode cL_law 1491 = .ok (.iconst 1, 1) ∧ decode cL_law 1492 = .ok (.iadd, 1) ∧ decode cL_law 1493 = .ok (.iaload, 1) ∧ decode cL_law 1494 = .ok (.invokevirtual 197, 3) ∧ decode cL_law 1497 = .ok (.if_icmp .eq 5, 3) := by decide +kernel
theorem dL_law_1482 : decode cL_law 1482 = .ok (.iconst 1, 1) := dq_1046.1
theorem dL_law_1483 : decode cL_law 1483 = .ok (.iadd, 1) := dq_1046.2.1
theorem dL_law_1484 : decode cL_law 1484 = .ok (.iaload, 1) := dq_1046.2.2.1
theorem dL_law_1485 : decode cL_law 1485 = .ok (.invokevirtual 194, 3) := dq_1046.2.2.2.1
theorem dL_law_1488 : decode cL_law 1488 = .ok (.aload_n 2, 1) := dq_1046.2.2.2.2.1
theorem dL_law_1489 : decode cL_law 1489 = .ok (.aload_n 0, 1) := dq_1046.2.2.2.2.2.1
theorem dL_law_1490 : decode cL_law 1490 = .ok (.iload_n 3, 1) := dq_1046.2.2.2.2.2.2.1
theorem dL_law_1491 : decode cL_law 1491 = .ok (.iconst 1, 1) := dq_1046.2.2.2.2.2.2.2.1
theorem dL_law_1492 : decode cL_law 1492 = .ok (.iadd, 1) := dq_1046.2.2.2.2.2.2.2.2.1
theorem dL_law_1493 : decode cL_law 1493 = .ok (.iaload, 1) := dq_1046.2.2.2.2.2.2.2.2.2.1
theorem dL_law_1494 : decode cL_law 1494 = .ok (.invokevirtual 197, 3) := dq_1046.2.2.2.2.2.2.2.2.2.2.1
theorem dL_law_1497 : decode cL_law 1497 = .ok (.if_icmp .eq 5, 3) := dq_1046.2.2.2.2.2.2.2.2.2.2.2
theorem dq_1047 : decode cL_law 1500 = .ok (.iconst 0, 1) ∧ decode cL_law 1501 = .ok (.ireturn, 1) ∧ decode cL_law 1502 = .ok (.iinc 3 6, 3) ∧ decode cL_law 1505 = .ok (.goto (-1487), 3) ∧ decode cL_law 1508 = .ok (.iconst 1, 1) ∧ decode cL_law 1509 = .ok (.ireturn, 1) := by decide +kernel
theorem dL_law_1500 : decode cL_law 1500 = .ok (.iconst 0, 1) := dq_1047.1
theorem dL_law_1501 : decode cL_law 1501 = .ok (.ireturn, 1) := dq_1047.2.1
theorem dL_law_1502 : decode cL_law 1502 = .ok (.iinc 3 6, 3) := dq_1047.2.2.1
theorem dL_law_1505 : decode cL_law 1505 = .ok (.goto (-1487), 3) := dq_1047.2.2.2.1
theorem dL_law_1508 : decode cL_law 1508 = .ok (.iconst 1, 1) := dq_1047.2.2.2.2.1
theorem dL_law_1509 : decode cL_law 1509 = .ok (.ireturn, 1) := dq_1047.2.2.2.2.2
