theorem dX12_layClash_123 : decode cX12_layClash 123 = .ok (.iastore, 1) := by decide +kernel
theorem dX12_layClash_124 : decode cX12_layClash 124 = .ok (.iinc 8 1, 3) := by decide +kernel
theorem dX12_layClash_127 : decode cX12_layClash 127 = .ok (.goto (-64), 3) := by decide +kernel
theorem dX12_layClash_130 : decode cX12_layClash 130 = .ok (.iinc 5 1, 3) := by decide +kernel
theorem dX12_layClash_133 : decode cX12_layClash 133 = .ok (.goto (-103), 3) := by decide +kernel
theorem dX12_layClash_136 : decode cX12_layClash 136 = .ok (.iload 4, 2) := by decide +kernel
theorem dX12_layClash_138 : decode cX12_layClash 138 = .ok (.ireturn, 1) := by decide +kernel
theorem dX12_areTwo_0 : decode cX12_areTwo 0 = .ok (.aload_n 0, 1) := by decide +kernel
theorem dX12_areTwo_1 : decode cX12_areTwo 1 = .ok (.iload_n 1, 1) := by decide +kernel
theorem dX12_areTwo_2 : decode cX12_areTwo 2 = .ok (.invokevirtual 213, 3) := by decide +kernel
theorem dX12_areTwo_5 : decode cX12_areTwo 5 = .ok (.ifCond .eq 20, 3) := by decide +kernel
theorem dX12_areTwo_8 : decode cX12_areTwo 8 = .ok (.aload_n 0, 1) := by decide +kernel
theorem dX12_areTwo_9 : decode cX12_areTwo 9 = .ok (.iload_n 2, 1) := by decide +kernel
theorem dX12_areTwo_10 : decode cX12_areTwo 10 = .ok (.invokevirtual 213, 3) := by decide +kernel
theorem dX12_areTwo_13 : decode cX12_areTwo 13 = .ok (.ifCond .eq 12, 3) := by decide +kernel
theorem dX12_areTwo_16 : decode cX12_areTwo 16 = .ok (.iload_n 1, 1) := by decide +kernel
theorem dX12_areTwo_17 : decode cX12_areTwo 17 = .ok (.iload_n 2, 1) := by decide +kernel
theorem dX12_areTwo_18 : decode cX12_areTwo 18 = .ok (.if_icmp .eq 7, 3) := by decide +kernel
theorem dX12_areTwo_21 : decode cX12_areTwo 21 = .ok (.iconst 1, 1) := by decide +kernel
theorem dX12_areTwo_22 : decode cX12_areTwo 22 = .ok (.goto 4, 3) := by decide +kernel
theorem dX12_areTwo_25 : decode cX12_areTwo 25 = .ok (.iconst 0, 1) := by decide +kernel
theorem dX12_areTwo_26 : decode cX12_areTwo 26 = .ok (.ireturn, 1) := by decide +kernel
theorem dX12_clash_0 : decode cX12_clash 0 = .ok (.aload_n 0, 1) := by decide +kernel
theorem dX12_clash_1 : decode cX12_clash 1 = .ok (.iconst 0, 1) := by decide +kernel
theorem dX12_clash_2 : decode cX12_clash 2 = .ok (.putfield 175, 3) := by decide +kernel
theorem dX12_clash_5 : decode cX12_clash 5 = .ok (.aload_n 0, 1) := by decide +kernel
theorem dX12_clash_6 : decode cX12_clash 6 = .ok (.iload_n 1, 1) := by decide +kernel
theorem dX12_clash_7 : decode cX12_clash 7 = .ok (.iload_n 2, 1) := by decide +kernel
theorem dX12_clash_8 : decode cX12_clash 8 = .ok (.invokevirtual 516, 3) := by decide +kernel
theorem dX12_clash_11 : decode cX12_clash 11 = .ok (.ifCond .eq 20, 3) := by decide +kernel
theorem dX12_clash_14 : decode cX12_clash 14 = .ok (.iload_n 3, 1) := by decide +kernel
theorem dX12_clash_15 : decode cX12_clash 15 = .ok (.invokestatic 228, 3) := by decide +kernel
theorem dX12_clash_18 : decode cX12_clash 18 = .ok (.ifCond .eq 13, 3) := by decide +kernel
theorem dX12_clash_21 : decode cX12_clash 21 = .ok (.aload_n 0, 1) := by decide +kernel
theorem dX12_clash_22 : decode cX12_clash 22 = .ok (.iload_n 1, 1) := by decide +kernel
theorem dX12_clash_23 : decode cX12_clash 23 = .ok (.iload_n 2, 1) := by decide +kernel
theorem dX12_clash_24 : decode cX12_clash 24 = .ok (.iload_n 3, 1) := by decide +kernel
theorem dX12_clash_25 : decode cX12_clash 25 = .ok (.invokevirtual 519, 3) := by decide +kernel
theorem dX12_clash_28 : decode cX12_clash 28 = .ok (.goto 4, 3) := by decide +kernel
theorem dX12_clash_31 : decode cX12_clash 31 = .ok (.iconst (-1), 1) := by decide +kernel
theorem dX12_clash_32 : decode cX12_clash 32 = .ok (.ireturn, 1) := by decide +kernel
theorem dX12_best_0 : decode cX12_best 0 = .ok (.aload_n 0, 1) := by decide +kernel
theorem dX12_best_1 : decode cX12_best 1 = .ok (.iconst 0, 1) := by decide +kernel
theorem dX12_best_2 : decode cX12_best 2 = .ok (.putfield 175, 3) := by decide +kernel
theorem dX12_best_5 : decode cX12_best 5 = .ok (.aload_n 0, 1) := by decide +kernel
theorem dX12_best_6 : decode cX12_best 6 = .ok (.iload_n 1, 1) := by decide +kernel
theorem dX12_best_7 : decode cX12_best 7 = .ok (.iload_n 2, 1) := by decide +kernel
theorem dX12_best_8 : decode cX12_best 8 = .ok (.invokevirtual 516, 3) := by decide +kernel
theorem dX12_best_11 : decode cX12_best 11 = .ok (.ifCond .eq 13, 3) := by decide +kernel
theorem dX12_best_14 : decode cX12_best 14 = .ok (.iload_n 3, 1) := by decide +kernel
theorem dX12_best_15 : decode cX12_best 15 = .ok (.i2l, 1) := by decide +kernel
theorem dX12_best_16 : decode cX12_best 16 = .ok (.lconst 0, 1) := by decide +kernel
theorem dX12_best_17 : decode cX12_best 17 = .ok (.lconst 1, 1) := by decide +kernel
theorem dX12_best_18 : decode cX12_best 18 = .ok (.invokestatic 195, 3) := by decide +kernel
theorem dX12_best_21 : decode cX12_best 21 = .ok (.ifCond .ne 5, 3) := by decide +kernel
theorem dX12_best_24 : decode cX12_best 24 = .ok (.iconst (-1), 1) := by decide +kernel
theorem dX12_best_25 : decode cX12_best 25 = .ok (.ireturn, 1) := by decide +kernel
theorem dX12_best_26 : decode cX12_best 26 = .ok (.ldc_w 487, 3) := by decide +kernel
theorem dX12_best_29 : decode cX12_best 29 = .ok (.istore 4, 2) := by decide +kernel
theorem dX12_best_31 : decode cX12_best 31 = .ok (.iconst (-1), 1) := by decide +kernel
theorem dX12_best_32 : decode cX12_best 32 = .ok (.istore 5, 2) := by decide +kernel
theorem dX12_best_34 : decode cX12_best 34 = .ok (.iconst 0, 1) := by decide +kernel
theorem dX12_best_35 : decode cX12_best 35 = .ok (.istore 6, 2) := by decide +kernel
theorem dX12_best_37 : decode cX12_best 37 = .ok (.iload 6, 2) := by decide +kernel
theorem dX12_best_39 : decode cX12_best 39 = .ok (.bipush 8, 2) := by decide +kernel
theorem dX12_best_41 : decode cX12_best 41 = .ok (.if_icmp .ge 51, 3) := by decide +kernel
theorem dX12_best_44 : decode cX12_best 44 = .ok (.aload_n 0, 1) := by decide +kernel
theorem dX12_best_45 : decode cX12_best 45 = .ok (.iload_n 1, 1) := by decide +kernel
theorem dX12_best_46 : decode cX12_best 46 = .ok (.iload_n 2, 1) := by decide +kernel
theorem dX12_best_47 : decode cX12_best 47 = .ok (.iload 6, 2) := by decide +kernel
theorem dX12_best_49 : decode cX12_best 49 = .ok (.invokevirtual 519, 3) := by decide +kernel
theorem dX12_best_52 : decode cX12_best 52 = .ok (.istore 7, 2) := by decide +kernel
theorem dX12_best_54 : decode cX12_best 54 = .ok (.iload 7, 2) := by decide +kernel
theorem dX12_best_56 : decode cX12_best 56 = .ok (.iload 4, 2) := by decide +kernel
theorem dX12_best_58 : decode cX12_best 58 = .ok (.if_icmp .ge 8, 3) := by decide +kernel
theorem dX12_best_61 : decode cX12_best 61 = .ok (.iload 6, 2) := by decide +kernel
theorem dX12_best_63 : decode cX12_best 63 = .ok (.goto 5, 3) := by decide +kernel
theorem dX12_best_66 : decode cX12_best 66 = .ok (.iload 5, 2) := by decide +kernel
theorem dX12_best_68 : decode cX12_best 68 = .ok (.istore 5, 2) := by decide +kernel
theorem dX12_best_70 : decode cX12_best 70 = .ok (.iload 7, 2) := by decide +kernel
theorem dX12_best_72 : decode cX12_best 72 = .ok (.iload 4, 2) := by decide +kernel
theorem dX12_best_74 : decode cX12_best 74 = .ok (.if_icmp .ge 8, 3) := by decide +kernel
theorem dX12_best_77 : decode cX12_best 77 = .ok (.iload 7, 2) := by decide +kernel
theorem dX12_best_79 : decode cX12_best 79 = .ok (.goto 5, 3) := by decide +kernel
theorem dX12_best_82 : decode cX12_best 82 = .ok (.iload 4, 2) := by decide +kernel
theorem dX12_best_84 : decode cX12_best 84 = .ok (.istore 4, 2) := by decide +kernel
theorem dX12_best_86 : decode cX12_best 86 = .ok (.iinc 6 1, 3) := by decide +kernel
theorem dX12_best_89 : decode cX12_best 89 = .ok (.goto (-52), 3) := by decide +kernel
theorem dX12_best_92 : decode cX12_best 92 = .ok (.iload_n 3, 1) := by decide +kernel
theorem dX12_best_93 : decode cX12_best 93 = .ok (.ifCond .ne 8, 3) := by decide +kernel
theorem dX12_best_96 : decode cX12_best 96 = .ok (.iload 5, 2) := by decide +kernel
theorem dX12_best_98 : decode cX12_best 98 = .ok (.goto 5, 3) := by decide +kernel
theorem dX12_best_101 : decode cX12_best 101 = .ok (.iload 4, 2) := by decide +kernel
theorem dX12_best_103 : decode cX12_best 103 = .ok (.ireturn, 1) := by decide +kernel
theorem dX12_filed_0 : decode cX12_filed 0 = .ok (.aload_n 0, 1) := by decide +kernel
theorem dX12_filed_1 : decode cX12_filed 1 = .ok (.iconst 0, 1) := by decide +kernel
theorem dX12_filed_2 : decode cX12_filed 2 = .ok (.putfield 175, 3) := by decide +kernel
theorem dX12_filed_5 : decode cX12_filed 5 = .ok (.aload_n 0, 1) := by decide +kernel
theorem dX12_filed_6 : decode cX12_filed 6 = .ok (.iload_n 1, 1) := by decide +kernel
theorem dX12_filed_7 : decode cX12_filed 7 = .ok (.iload_n 2, 1) := by decide +kernel
theorem dX12_filed_8 : decode cX12_filed 8 = .ok (.invokevirtual 516, 3) := by decide +kernel
theorem dX12_filed_11 : decode cX12_filed 11 = .ok (.ifCond .eq 23, 3) := by decide +kernel
theorem dX12_filed_14 : decode cX12_filed 14 = .ok (.iload_n 3, 1) := by decide +kernel
theorem dX12_filed_15 : decode cX12_filed 15 = .ok (.invokestatic 228, 3) := by decide +kernel
theorem dX12_filed_18 : decode cX12_filed 18 = .ok (.ifCond .eq 16, 3) := by decide +kernel
theorem dX12_filed_21 : decode cX12_filed 21 = .ok (.iload 4, 2) := by decide +kernel
theorem dX12_filed_23 : decode cX12_filed 23 = .ok (.i2l, 1) := by decide +kernel
theorem dX12_filed_24 : decode cX12_filed 24 = .ok (.lconst 0, 1) := by decide +kernel
theorem dX12_filed_25 : decode cX12_filed 25 = .ok (.ldc2_w 522, 3) := by decide +kernel
theorem dX12_filed_28 : decode cX12_filed 28 = .ok (.invokestatic 195, 3) := by decide +kernel
theorem dX12_filed_31 : decode cX12_filed 31 = .ok (.ifCond .ne 5, 3) := by decide +kernel
theorem dX12_filed_34 : decode cX12_filed 34 = .ok (.iconst (-1), 1) := by decide +kernel
theorem dX12_filed_35 : decode cX12_filed 35 = .ok (.ireturn, 1) := by decide +kernel
theorem dX12_filed_36 : decode cX12_filed 36 = .ok (.aload_n 0, 1) := by decide +kernel
theorem dX12_filed_37 : decode cX12_filed 37 = .ok (.iload_n 1, 1) := by decide +kernel
theorem dX12_filed_38 : decode cX12_filed 38 = .ok (.iload_n 2, 1) := by decide +kernel
theorem dX12_filed_39 : decode cX12_filed 39 = .ok (.iload_n 3, 1) := by decide +kernel
theorem dX12_filed_40 : decode cX12_filed 40 = .ok (.invokevirtual 519, 3) := by decide +kernel
theorem dX12_filed_43 : decode cX12_filed 43 = .ok (.pop, 1) := by decide +kernel
theorem dX12_filed_44 : decode cX12_filed 44 = .ok (.ldc_w 487, 3) := by decide +kernel
theorem dX12_filed_47 : decode cX12_filed 47 = .ok (.istore 5, 2) := by decide +kernel
theorem dX12_filed_49 : decode cX12_filed 49 = .ok (.iconst 0, 1) := by decide +kernel
theorem dX12_filed_50 : decode cX12_filed 50 = .ok (.istore 6, 2) := by decide +kernel
theorem dX12_filed_52 : decode cX12_filed 52 = .ok (.iconst 0, 1) := by decide +kernel
theorem dX12_filed_53 : decode cX12_filed 53 = .ok (.istore 7, 2) := by decide +kernel
theorem dX12_filed_55 : decode cX12_filed 55 = .ok (.iconst 0, 1) := by decide +kernel
theorem dX12_filed_56 : decode cX12_filed 56 = .ok (.istore 8, 2) := by decide +kernel
theorem dX12_filed_58 : decode cX12_filed 58 = .ok (.iload 8, 2) := by decide +kernel
theorem dX12_filed_60 : decode cX12_filed 60 = .ok (.sipush 256, 3) := by decide +kernel
theorem dX12_filed_63 : decode cX12_filed 63 = .ok (.if_icmp .ge 128, 3) := by decide +kernel
theorem dX12_filed_66 : decode cX12_filed 66 = .ok (.iconst 0, 1) := by decide +kernel
theorem dX12_filed_67 : decode cX12_filed 67 = .ok (.istore 9, 2) := by decide +kernel
theorem dX12_filed_69 : decode cX12_filed 69 = .ok (.iconst 0, 1) := by decide +kernel
theorem dX12_filed_70 : decode cX12_filed 70 = .ok (.istore 10, 2) := by decide +kernel
theorem dX12_filed_72 : decode cX12_filed 72 = .ok (.iload 10, 2) := by decide +kernel
theorem dX12_filed_74 : decode cX12_filed 74 = .ok (.bipush 8, 2) := by decide +kernel
theorem dX12_filed_76 : decode cX12_filed 76 = .ok (.if_icmp .ge 35, 3) := by decide +kernel
theorem dX12_filed_79 : decode cX12_filed 79 = .ok (.iload 9, 2) := by decide +kernel
theorem dX12_filed_81 : decode cX12_filed 81 = .ok (.iload 8, 2) := by decide +kernel
theorem dX12_filed_83 : decode cX12_filed 83 = .ok (.iload 10, 2) := by decide +kernel
theorem dX12_filed_85 : decode cX12_filed 85 = .ok (.invokestatic 458, 3) := by decide +kernel
theorem dX12_filed_88 : decode cX12_filed 88 = .ok (.ifCond .eq 7, 3) := by decide +kernel
theorem dX12_filed_91 : decode cX12_filed 91 = .ok (.iconst 0, 1) := by decide +kernel
theorem dX12_filed_92 : decode cX12_filed 92 = .ok (.goto 10, 3) := by decide +kernel
theorem dX12_filed_95 : decode cX12_filed 95 = .ok (.aload_n 0, 1) := by decide +kernel
theorem dX12_filed_96 : decode cX12_filed 96 = .ok (.getfield 131, 3) := by decide +kernel
theorem dX12_filed_99 : decode cX12_filed 99 = .ok (.iload 10, 2) := by decide +kernel
theorem dX12_filed_101 : decode cX12_filed 101 = .ok (.iaload, 1) := by decide +kernel
theorem dX12_filed_102 : decode cX12_filed 102 = .ok (.ior, 1) := by decide +kernel
theorem dX12_filed_103 : decode cX12_filed 103 = .ok (.istore 9, 2) := by decide +kernel
theorem dX12_filed_105 : decode cX12_filed 105 = .ok (.iinc 10 1, 3) := by decide +kernel
theorem dX12_filed_108 : decode cX12_filed 108 = .ok (.goto (-36), 3) := by decide +kernel
theorem dX12_filed_111 : decode cX12_filed 111 = .ok (.iload 8, 2) := by decide +kernel
theorem dX12_filed_113 : decode cX12_filed 113 = .ok (.invokestatic 208, 3) := by decide +kernel
theorem dX12_filed_116 : decode cX12_filed 116 = .ok (.iload 9, 2) := by decide +kernel
theorem dX12_filed_118 : decode cX12_filed 118 = .ok (.invokestatic 208, 3) := by decide +kernel
theorem dX12_filed_121 : decode cX12_filed 121 = .ok (.iadd, 1) := by decide +kernel
theorem dX12_filed_122 : decode cX12_filed 122 = .ok (.iload 5, 2) := by decide +kernel
theorem dX12_filed_124 : decode cX12_filed 124 = .ok (.if_icmp .ge 7, 3) := by decide +kernel
theorem dX12_filed_127 : decode cX12_filed 127 = .ok (.iconst 1, 1) := by decide +kernel
theorem dX12_filed_128 : decode cX12_filed 128 = .ok (.goto 4, 3) := by decide +kernel
theorem dX12_filed_131 : decode cX12_filed 131 = .ok (.iconst 0, 1) := by decide +kernel
theorem dX12_filed_132 : decode cX12_filed 132 = .ok (.istore 10, 2) := by decide +kernel
theorem dX12_filed_134 : decode cX12_filed 134 = .ok (.iload 10, 2) := by decide +kernel
theorem dX12_filed_136 : decode cX12_filed 136 = .ok (.ifCond .eq 8, 3) := by decide +kernel
theorem dX12_filed_139 : decode cX12_filed 139 = .ok (.iload 8, 2) := by decide +kernel
theorem dX12_filed_141 : decode cX12_filed 141 = .ok (.goto 5, 3) := by decide +kernel
theorem dX12_filed_144 : decode cX12_filed 144 = .ok (.iload 6, 2) := by decide +kernel
theorem dX12_filed_146 : decode cX12_filed 146 = .ok (.istore 6, 2) := by decide +kernel
theorem dX12_filed_148 : decode cX12_filed 148 = .ok (.iload 10, 2) := by decide +kernel
theorem dX12_filed_150 : decode cX12_filed 150 = .ok (.ifCond .eq 8, 3) := by decide +kernel
theorem dX12_filed_153 : decode cX12_filed 153 = .ok (.iload 9, 2) := by decide +kernel
theorem dX12_filed_155 : decode cX12_filed 155 = .ok (.goto 5, 3) := by decide +kernel
theorem dX12_filed_158 : decode cX12_filed 158 = .ok (.iload 7, 2) := by decide +kernel
theorem dX12_filed_160 : decode cX12_filed 160 = .ok (.istore 7, 2) := by decide +kernel
theorem dX12_filed_162 : decode cX12_filed 162 = .ok (.iload 10, 2) := by decide +kernel
theorem dX12_filed_164 : decode cX12_filed 164 = .ok (.ifCond .eq 17, 3) := by decide +kernel
theorem dX12_filed_167 : decode cX12_filed 167 = .ok (.iload 8, 2) := by decide +kernel
theorem dX12_filed_169 : decode cX12_filed 169 = .ok (.invokestatic 208, 3) := by decide +kernel
theorem dX12_filed_172 : decode cX12_filed 172 = .ok (.iload 9, 2) := by decide +kernel
theorem dX12_filed_174 : decode cX12_filed 174 = .ok (.invokestatic 208, 3) := by decide +kernel
theorem dX12_filed_177 : decode cX12_filed 177 = .ok (.iadd, 1) := by decide +kernel
theorem dX12_filed_178 : decode cX12_filed 178 = .ok (.goto 5, 3) := by decide +kernel
theorem dX12_filed_181 : decode cX12_filed 181 = .ok (.iload 5, 2) := by decide +kernel
theorem dX12_filed_183 : decode cX12_filed 183 = .ok (.istore 5, 2) := by decide +kernel
theorem dX12_filed_185 : decode cX12_filed 185 = .ok (.iinc 8 1, 3) := by decide +kernel
theorem dX12_filed_188 : decode cX12_filed 188 = .ok (.goto (-130), 3) := by decide +kernel
theorem dX12_filed_191 : decode cX12_filed 191 = .ok (.iload 4, 2) := by decide +kernel
theorem dX12_filed_193 : decode cX12_filed 193 = .ok (.ifCond .ne 8, 3) := by decide +kernel
theorem dX12_filed_196 : decode cX12_filed 196 = .ok (.iload 5, 2) := by decide +kernel
theorem dX12_filed_198 : decode cX12_filed 198 = .ok (.goto 16, 3) := by decide +kernel
theorem dX12_filed_201 : decode cX12_filed 201 = .ok (.iload 4, 2) := by decide +kernel
theorem dX12_filed_203 : decode cX12_filed 203 = .ok (.iconst 1, 1) := by decide +kernel
theorem dX12_filed_204 : decode cX12_filed 204 = .ok (.if_icmp .ne 8, 3) := by decide +kernel
theorem dX12_filed_207 : decode cX12_filed 207 = .ok (.iload 6, 2) := by decide +kernel
theorem dX12_filed_209 : decode cX12_filed 209 = .ok (.goto 5, 3) := by decide +kernel
theorem dX12_filed_212 : decode cX12_filed 212 = .ok (.iload 7, 2) := by decide +kernel
theorem dX12_filed_214 : decode cX12_filed 214 = .ok (.ireturn, 1) := by decide +kernel
theorem dX12_leastOf_0 : decode cX12_leastOf 0 = .ok (.iload_n 1, 1) := by decide +kernel
theorem dX12_leastOf_1 : decode cX12_leastOf 1 = .ok (.istore_n 3, 1) := by decide +kernel
theorem dX12_leastOf_2 : decode cX12_leastOf 2 = .ok (.iconst 0, 1) := by decide +kernel
theorem dX12_leastOf_3 : decode cX12_leastOf 3 = .ok (.istore 4, 2) := by decide +kernel
theorem dX12_leastOf_5 : decode cX12_leastOf 5 = .ok (.iload 4, 2) := by decide +kernel
theorem dX12_leastOf_7 : decode cX12_leastOf 7 = .ok (.iconst 3, 1) := by decide +kernel
theorem dX12_leastOf_8 : decode cX12_leastOf 8 = .ok (.if_icmp .ge 29, 3) := by decide +kernel
theorem dX12_leastOf_11 : decode cX12_leastOf 11 = .ok (.aload_n 0, 1) := by decide +kernel
theorem dX12_leastOf_12 : decode cX12_leastOf 12 = .ok (.getfield 134, 3) := by decide +kernel
theorem dX12_leastOf_15 : decode cX12_leastOf 15 = .ok (.iload 4, 2) := by decide +kernel
theorem dX12_leastOf_17 : decode cX12_leastOf 17 = .ok (.iload 4, 2) := by decide +kernel
theorem dX12_leastOf_19 : decode cX12_leastOf 19 = .ok (.iload_n 2, 1) := by decide +kernel
theorem dX12_leastOf_20 : decode cX12_leastOf 20 = .ok (.if_icmp .ge 7, 3) := by decide +kernel
theorem dX12_leastOf_23 : decode cX12_leastOf 23 = .ok (.iconst 0, 1) := by decide +kernel
theorem dX12_leastOf_24 : decode cX12_leastOf 24 = .ok (.goto 6, 3) := by decide +kernel
theorem dX12_leastOf_27 : decode cX12_leastOf 27 = .ok (.ldc_w 487, 3) := by decide +kernel
theorem dX12_leastOf_30 : decode cX12_leastOf 30 = .ok (.iastore, 1) := by decide +kernel
theorem dX12_leastOf_31 : decode cX12_leastOf 31 = .ok (.iinc 4 1, 3) := by decide +kernel
theorem dX12_leastOf_34 : decode cX12_leastOf 34 = .ok (.goto (-29), 3) := by decide +kernel
theorem dX12_leastOf_37 : decode cX12_leastOf 37 = .ok (.aload_n 0, 1) := by decide +kernel
theorem dX12_leastOf_38 : decode cX12_leastOf 38 = .ok (.getfield 13, 3) := by decide +kernel
theorem dX12_leastOf_41 : decode cX12_leastOf 41 = .ok (.iconst 0, 1) := by decide +kernel
theorem dX12_leastOf_42 : decode cX12_leastOf 42 = .ok (.iaload, 1) := by decide +kernel
theorem dX12_leastOf_43 : decode cX12_leastOf 43 = .ok (.iconst 1, 1) := by decide +kernel
theorem dX12_leastOf_44 : decode cX12_leastOf 44 = .ok (.isub, 1) := by decide +kernel
theorem dX12_leastOf_45 : decode cX12_leastOf 45 = .ok (.istore 4, 2) := by decide +kernel
theorem dX12_leastOf_47 : decode cX12_leastOf 47 = .ok (.iload 4, 2) := by decide +kernel
theorem dX12_leastOf_49 : decode cX12_leastOf 49 = .ok (.ifCond .lt 31, 3) := by decide +kernel
theorem dX12_leastOf_52 : decode cX12_leastOf 52 = .ok (.aload_n 0, 1) := by decide +kernel
theorem dX12_leastOf_53 : decode cX12_leastOf 53 = .ok (.getfield 134, 3) := by decide +kernel
theorem dX12_leastOf_56 : decode cX12_leastOf 56 = .ok (.iload_n 3, 1) := by decide +kernel
theorem dX12_leastOf_57 : decode cX12_leastOf 57 = .ok (.iload_n 2, 1) := by decide +kernel
theorem dX12_leastOf_58 : decode cX12_leastOf 58 = .ok (.irem, 1) := by decide +kernel
theorem dX12_leastOf_59 : decode cX12_leastOf 59 = .ok (.dup2, 1) := by decide +kernel
theorem dX12_leastOf_60 : decode cX12_leastOf 60 = .ok (.iaload, 1) := by decide +kernel
theorem dX12_leastOf_61 : decode cX12_leastOf 61 = .ok (.aload_n 0, 1) := by decide +kernel
theorem dX12_leastOf_62 : decode cX12_leastOf 62 = .ok (.getfield 137, 3) := by decide +kernel
theorem dX12_leastOf_65 : decode cX12_leastOf 65 = .ok (.iload 4, 2) := by decide +kernel
theorem dX12_leastOf_67 : decode cX12_leastOf 67 = .ok (.iaload, 1) := by decide +kernel
theorem dX12_leastOf_68 : decode cX12_leastOf 68 = .ok (.iadd, 1) := by decide +kernel
theorem dX12_leastOf_69 : decode cX12_leastOf 69 = .ok (.iastore, 1) := by decide +kernel
theorem dX12_leastOf_70 : decode cX12_leastOf 70 = .ok (.iload_n 3, 1) := by decide +kernel
theorem dX12_leastOf_71 : decode cX12_leastOf 71 = .ok (.iload_n 2, 1) := by decide +kernel
theorem dX12_leastOf_72 : decode cX12_leastOf 72 = .ok (.idiv, 1) := by decide +kernel
theorem dX12_leastOf_73 : decode cX12_leastOf 73 = .ok (.istore_n 3, 1) := by decide +kernel
theorem dX12_leastOf_74 : decode cX12_leastOf 74 = .ok (.iinc 4 (-1), 3) := by decide +kernel
theorem dX12_leastOf_77 : decode cX12_leastOf 77 = .ok (.goto (-30), 3) := by decide +kernel
theorem dX12_leastOf_80 : decode cX12_leastOf 80 = .ok (.aload_n 0, 1) := by decide +kernel
theorem dX12_leastOf_81 : decode cX12_leastOf 81 = .ok (.getfield 134, 3) := by decide +kernel
theorem dX12_leastOf_84 : decode cX12_leastOf 84 = .ok (.iconst 0, 1) := by decide +kernel
theorem dX12_leastOf_85 : decode cX12_leastOf 85 = .ok (.iaload, 1) := by decide +kernel
theorem dX12_leastOf_86 : decode cX12_leastOf 86 = .ok (.aload_n 0, 1) := by decide +kernel
theorem dX12_leastOf_87 : decode cX12_leastOf 87 = .ok (.getfield 134, 3) := by decide +kernel
theorem dX12_leastOf_90 : decode cX12_leastOf 90 = .ok (.iconst 1, 1) := by decide +kernel
theorem dX12_leastOf_91 : decode cX12_leastOf 91 = .ok (.iaload, 1) := by decide +kernel
theorem dX12_leastOf_92 : decode cX12_leastOf 92 = .ok (.if_icmp .ge 12, 3) := by decide +kernel
theorem dX12_leastOf_95 : decode cX12_leastOf 95 = .ok (.aload_n 0, 1) := by decide +kernel
theorem dX12_leastOf_96 : decode cX12_leastOf 96 = .ok (.getfield 134, 3) := by decide +kernel
theorem dX12_leastOf_99 : decode cX12_leastOf 99 = .ok (.iconst 0, 1) := by decide +kernel
theorem dX12_leastOf_100 : decode cX12_leastOf 100 = .ok (.iaload, 1) := by decide +kernel
theorem dX12_leastOf_101 : decode cX12_leastOf 101 = .ok (.goto 9, 3) := by decide +kernel
theorem dX12_leastOf_104 : decode cX12_leastOf 104 = .ok (.aload_n 0, 1) := by decide +kernel
theorem dX12_leastOf_105 : decode cX12_leastOf 105 = .ok (.getfield 134, 3) := by decide +kernel
theorem dX12_leastOf_108 : decode cX12_leastOf 108 = .ok (.iconst 1, 1) := by decide +kernel
theorem dX12_leastOf_109 : decode cX12_leastOf 109 = .ok (.iaload, 1) := by decide +kernel
theorem dX12_leastOf_110 : decode cX12_leastOf 110 = .ok (.istore 4, 2) := by decide +kernel
theorem dX12_leastOf_112 : decode cX12_leastOf 112 = .ok (.iload 4, 2) := by decide +kernel
theorem dX12_leastOf_114 : decode cX12_leastOf 114 = .ok (.aload_n 0, 1) := by decide +kernel
theorem dX12_leastOf_115 : decode cX12_leastOf 115 = .ok (.getfield 134, 3) := by decide +kernel
theorem dX12_leastOf_118 : decode cX12_leastOf 118 = .ok (.iconst 2, 1) := by decide +kernel
theorem dX12_leastOf_119 : decode cX12_leastOf 119 = .ok (.iaload, 1) := by decide +kernel
theorem dX12_leastOf_120 : decode cX12_leastOf 120 = .ok (.if_icmp .ge 8, 3) := by decide +kernel
theorem dX12_leastOf_123 : decode cX12_leastOf 123 = .ok (.iload 4, 2) := by decide +kernel
theorem dX12_leastOf_125 : decode cX12_leastOf 125 = .ok (.goto 9, 3) := by decide +kernel
theorem dX12_leastOf_128 : decode cX12_leastOf 128 = .ok (.aload_n 0, 1) := by decide +kernel
theorem dX12_leastOf_129 : decode cX12_leastOf 129 = .ok (.getfield 134, 3) := by decide +kernel
theorem dX12_leastOf_132 : decode cX12_leastOf 132 = .ok (.iconst 2, 1) := by decide +kernel
theorem dX12_leastOf_133 : decode cX12_leastOf 133 = .ok (.iaload, 1) := by decide +kernel
theorem dX12_leastOf_134 : decode cX12_leastOf 134 = .ok (.ireturn, 1) := by decide +kernel
theorem dX12_shares_0 : decode cX12_shares 0 = .ok (.aload_n 0, 1) := by decide +kernel
theorem dX12_shares_1 : decode cX12_shares 1 = .ok (.iconst 0, 1) := by decide +kernel
theorem dX12_shares_2 : decode cX12_shares 2 = .ok (.putfield 175, 3) := by decide +kernel
theorem dX12_shares_5 : decode cX12_shares 5 = .ok (.iload_n 1, 1) := by decide +kernel
theorem dX12_shares_6 : decode cX12_shares 6 = .ok (.i2l, 1) := by decide +kernel
theorem dX12_shares_7 : decode cX12_shares 7 = .ok (.lconst 1, 1) := by decide +kernel
theorem dX12_shares_8 : decode cX12_shares 8 = .ok (.ldc2_w 524, 3) := by decide +kernel
theorem dX12_shares_11 : decode cX12_shares 11 = .ok (.invokestatic 195, 3) := by decide +kernel
theorem dX12_shares_14 : decode cX12_shares 14 = .ok (.ifCond .eq 19, 3) := by decide +kernel
theorem dX12_shares_17 : decode cX12_shares 17 = .ok (.iload_n 2, 1) := by decide +kernel
theorem dX12_shares_18 : decode cX12_shares 18 = .ok (.i2l, 1) := by decide +kernel
theorem dX12_shares_19 : decode cX12_shares 19 = .ok (.lconst 0, 1) := by decide +kernel
theorem dX12_shares_20 : decode cX12_shares 20 = .ok (.aload_n 0, 1) := by decide +kernel
theorem dX12_shares_21 : decode cX12_shares 21 = .ok (.getfield 13, 3) := by decide +kernel
theorem dX12_shares_24 : decode cX12_shares 24 = .ok (.iconst 0, 1) := by decide +kernel
theorem dX12_shares_25 : decode cX12_shares 25 = .ok (.iaload, 1) := by decide +kernel
theorem dX12_shares_26 : decode cX12_shares 26 = .ok (.i2l, 1) := by decide +kernel
theorem dX12_shares_27 : decode cX12_shares 27 = .ok (.invokestatic 195, 3) := by decide +kernel
theorem dX12_shares_30 : decode cX12_shares 30 = .ok (.ifCond .ne 5, 3) := by decide +kernel
theorem dX12_shares_33 : decode cX12_shares 33 = .ok (.iconst (-1), 1) := by decide +kernel
theorem dX12_shares_34 : decode cX12_shares 34 = .ok (.ireturn, 1) := by decide +kernel
theorem dX12_shares_35 : decode cX12_shares 35 = .ok (.iconst 1, 1) := by decide +kernel
theorem dX12_shares_36 : decode cX12_shares 36 = .ok (.istore_n 3, 1) := by decide +kernel
theorem dX12_shares_37 : decode cX12_shares 37 = .ok (.iconst 0, 1) := by decide +kernel
theorem dX12_shares_38 : decode cX12_shares 38 = .ok (.istore 4, 2) := by decide +kernel
theorem dX12_shares_40 : decode cX12_shares 40 = .ok (.iload 4, 2) := by decide +kernel
theorem dX12_shares_42 : decode cX12_shares 42 = .ok (.aload_n 0, 1) := by decide +kernel
theorem dX12_shares_43 : decode cX12_shares 43 = .ok (.getfield 13, 3) := by decide +kernel
theorem dX12_shares_46 : decode cX12_shares 46 = .ok (.iconst 0, 1) := by decide +kernel
theorem dX12_shares_47 : decode cX12_shares 47 = .ok (.iaload, 1) := by decide +kernel
theorem dX12_shares_48 : decode cX12_shares 48 = .ok (.if_icmp .ge 26, 3) := by decide +kernel
theorem dX12_shares_51 : decode cX12_shares 51 = .ok (.aload_n 0, 1) := by decide +kernel
theorem dX12_shares_52 : decode cX12_shares 52 = .ok (.getfield 137, 3) := by decide +kernel
theorem dX12_shares_55 : decode cX12_shares 55 = .ok (.iload 4, 2) := by decide +kernel
theorem dX12_shares_57 : decode cX12_shares 57 = .ok (.aload_n 0, 1) := by decide +kernel
theorem dX12_shares_58 : decode cX12_shares 58 = .ok (.iload 4, 2) := by decide +kernel
theorem dX12_shares_60 : decode cX12_shares 60 = .ok (.invokevirtual 222, 3) := by decide +kernel
theorem dX12_shares_63 : decode cX12_shares 63 = .ok (.iastore, 1) := by decide +kernel
theorem dX12_shares_64 : decode cX12_shares 64 = .ok (.iload_n 3, 1) := by decide +kernel
theorem dX12_shares_65 : decode cX12_shares 65 = .ok (.iload_n 1, 1) := by decide +kernel
theorem dX12_shares_66 : decode cX12_shares 66 = .ok (.imul, 1) := by decide +kernel
theorem dX12_shares_67 : decode cX12_shares 67 = .ok (.istore_n 3, 1) := by decide +kernel
theorem dX12_shares_68 : decode cX12_shares 68 = .ok (.iinc 4 1, 3) := by decide +kernel
theorem dX12_shares_71 : decode cX12_shares 71 = .ok (.goto (-31), 3) := by decide +kernel
theorem dX12_shares_74 : decode cX12_shares 74 = .ok (.iconst (-1), 1) := by decide +kernel
theorem dX12_shares_75 : decode cX12_shares 75 = .ok (.istore 4, 2) := by decide +kernel
theorem dX12_shares_77 : decode cX12_shares 77 = .ok (.iconst 0, 1) := by decide +kernel
theorem dX12_shares_78 : decode cX12_shares 78 = .ok (.istore 5, 2) := by decide +kernel
theorem dX12_shares_80 : decode cX12_shares 80 = .ok (.iconst 0, 1) := by decide +kernel
theorem dX12_shares_81 : decode cX12_shares 81 = .ok (.istore 6, 2) := by decide +kernel
theorem dX12_shares_83 : decode cX12_shares 83 = .ok (.iload 6, 2) := by decide +kernel
theorem dX12_shares_85 : decode cX12_shares 85 = .ok (.iload_n 3, 1) := by decide +kernel
theorem dX12_shares_86 : decode cX12_shares 86 = .ok (.if_icmp .ge 50, 3) := by decide +kernel
theorem dX12_shares_89 : decode cX12_shares 89 = .ok (.aload_n 0, 1) := by decide +kernel
theorem dX12_shares_90 : decode cX12_shares 90 = .ok (.iload 6, 2) := by decide +kernel
theorem dX12_shares_92 : decode cX12_shares 92 = .ok (.iload_n 1, 1) := by decide +kernel
theorem dX12_shares_93 : decode cX12_shares 93 = .ok (.invokevirtual 526, 3) := by decide +kernel
theorem dX12_shares_96 : decode cX12_shares 96 = .ok (.istore 7, 2) := by decide +kernel
theorem dX12_shares_98 : decode cX12_shares 98 = .ok (.iload 7, 2) := by decide +kernel
theorem dX12_shares_100 : decode cX12_shares 100 = .ok (.iload 4, 2) := by decide +kernel
theorem dX12_shares_102 : decode cX12_shares 102 = .ok (.if_icmp .le 8, 3) := by decide +kernel
theorem dX12_shares_105 : decode cX12_shares 105 = .ok (.iload 6, 2) := by decide +kernel
theorem dX12_shares_107 : decode cX12_shares 107 = .ok (.goto 5, 3) := by decide +kernel
theorem dX12_shares_110 : decode cX12_shares 110 = .ok (.iload 5, 2) := by decide +kernel
theorem dX12_shares_112 : decode cX12_shares 112 = .ok (.istore 5, 2) := by decide +kernel
theorem dX12_shares_114 : decode cX12_shares 114 = .ok (.iload 7, 2) := by decide +kernel
theorem dX12_shares_116 : decode cX12_shares 116 = .ok (.iload 4, 2) := by decide +kernel
theorem dX12_shares_118 : decode cX12_shares 118 = .ok (.if_icmp .le 8, 3) := by decide +kernel
theorem dX12_shares_121 : decode cX12_shares 121 = .ok (.iload 7, 2) := by decide +kernel
theorem dX12_shares_123 : decode cX12_shares 123 = .ok (.goto 5, 3) := by decide +kernel
theorem dX12_shares_126 : decode cX12_shares 126 = .ok (.iload 4, 2) := by decide +kernel
theorem dX12_shares_128 : decode cX12_shares 128 = .ok (.istore 4, 2) := by decide +kernel
theorem dX12_shares_130 : decode cX12_shares 130 = .ok (.iinc 6 1, 3) := by decide +kernel
theorem dX12_shares_133 : decode cX12_shares 133 = .ok (.goto (-50), 3) := by decide +kernel
theorem dX12_shares_136 : decode cX12_shares 136 = .ok (.iload_n 2, 1) := by decide +kernel
theorem dX12_shares_137 : decode cX12_shares 137 = .ok (.ifCond .ne 6, 3) := by decide +kernel
theorem dX12_shares_140 : decode cX12_shares 140 = .ok (.iload 4, 2) := by decide +kernel
theorem dX12_shares_142 : decode cX12_shares 142 = .ok (.ireturn, 1) := by decide +kernel
theorem dX12_shares_143 : decode cX12_shares 143 = .ok (.aload_n 0, 1) := by decide +kernel
theorem dX12_shares_144 : decode cX12_shares 144 = .ok (.getfield 13, 3) := by decide +kernel
theorem dX12_shares_147 : decode cX12_shares 147 = .ok (.iconst 0, 1) := by decide +kernel
theorem dX12_shares_148 : decode cX12_shares 148 = .ok (.iaload, 1) := by decide +kernel
theorem dX12_shares_149 : decode cX12_shares 149 = .ok (.iconst 1, 1) := by decide +kernel
theorem dX12_shares_150 : decode cX12_shares 150 = .ok (.isub, 1) := by decide +kernel
theorem dX12_shares_151 : decode cX12_shares 151 = .ok (.istore 6, 2) := by decide +kernel
theorem dX12_shares_153 : decode cX12_shares 153 = .ok (.iload 6, 2) := by decide +kernel
theorem dX12_shares_155 : decode cX12_shares 155 = .ok (.iload_n 2, 1) := by decide +kernel
theorem dX12_shares_156 : decode cX12_shares 156 = .ok (.iconst 1, 1) := by decide +kernel
theorem dX12_shares_157 : decode cX12_shares 157 = .ok (.isub, 1) := by decide +kernel
theorem dX12_shares_158 : decode cX12_shares 158 = .ok (.if_icmp .le 15, 3) := by decide +kernel
theorem dX12_shares_161 : decode cX12_shares 161 = .ok (.iload 5, 2) := by decide +kernel
theorem dX12_shares_163 : decode cX12_shares 163 = .ok (.iload_n 1, 1) := by decide +kernel
theorem dX12_shares_164 : decode cX12_shares 164 = .ok (.idiv, 1) := by decide +kernel
theorem dX12_shares_165 : decode cX12_shares 165 = .ok (.istore 5, 2) := by decide +kernel
theorem dX12_shares_167 : decode cX12_shares 167 = .ok (.iinc 6 (-1), 3) := by decide +kernel
theorem dX12_shares_170 : decode cX12_shares 170 = .ok (.goto (-17), 3) := by decide +kernel
theorem dX12_shares_173 : decode cX12_shares 173 = .ok (.iload 5, 2) := by decide +kernel
theorem dX12_shares_175 : decode cX12_shares 175 = .ok (.iload_n 1, 1) := by decide +kernel
theorem dX12_shares_176 : decode cX12_shares 176 = .ok (.irem, 1) := by decide +kernel
theorem dX12_shares_177 : decode cX12_shares 177 = .ok (.ireturn, 1) := by decide +kernel
theorem dX12_again_0 : decode cX12_again 0 = .ok (.aload_n 0, 1) := by decide +kernel
theorem dX12_again_1 : decode cX12_again 1 = .ok (.iconst 0, 1) := by decide +kernel
theorem dX12_again_2 : decode cX12_again 2 = .ok (.putfield 175, 3) := by decide +kernel
theorem dX12_again_5 : decode cX12_again 5 = .ok (.aload_n 0, 1) := by decide +kernel
theorem dX12_again_6 : decode cX12_again 6 = .ok (.iload_n 1, 1) := by decide +kernel
theorem dX12_again_7 : decode cX12_again 7 = .ok (.invokevirtual 213, 3) := by decide +kernel
theorem dX12_again_10 : decode cX12_again 10 = .ok (.ifCond .ne 5, 3) := by decide +kernel
theorem dX12_again_13 : decode cX12_again 13 = .ok (.iconst (-1), 1) := by decide +kernel
theorem dX12_again_14 : decode cX12_again 14 = .ok (.ireturn, 1) := by decide +kernel
theorem dX12_again_15 : decode cX12_again 15 = .ok (.iconst 0, 1) := by decide +kernel
theorem dX12_again_16 : decode cX12_again 16 = .ok (.istore_n 3, 1) := by decide +kernel
theorem dX12_again_17 : decode cX12_again 17 = .ok (.iconst (-1), 1) := by decide +kernel
theorem dX12_again_18 : decode cX12_again 18 = .ok (.istore 4, 2) := by decide +kernel
theorem dX12_again_20 : decode cX12_again 20 = .ok (.iconst 0, 1) := by decide +kernel
theorem dX12_again_21 : decode cX12_again 21 = .ok (.istore 5, 2) := by decide +kernel
theorem dX12_again_23 : decode cX12_again 23 = .ok (.iload 5, 2) := by decide +kernel
theorem dX12_again_25 : decode cX12_again 25 = .ok (.bipush 8, 2) := by decide +kernel
theorem dX12_again_27 : decode cX12_again 27 = .ok (.if_icmp .ge 68, 3) := by decide +kernel
theorem dX12_again_30 : decode cX12_again 30 = .ok (.iload 5, 2) := by decide +kernel
theorem dX12_again_32 : decode cX12_again 32 = .ok (.iconst 1, 1) := by decide +kernel
theorem dX12_again_33 : decode cX12_again 33 = .ok (.iadd, 1) := by decide +kernel
theorem dX12_again_34 : decode cX12_again 34 = .ok (.istore 6, 2) := by decide +kernel
theorem dX12_again_36 : decode cX12_again 36 = .ok (.iload 6, 2) := by decide +kernel
theorem dX12_again_38 : decode cX12_again 38 = .ok (.bipush 8, 2) := by decide +kernel
theorem dX12_again_40 : decode cX12_again 40 = .ok (.if_icmp .ge 49, 3) := by decide +kernel
theorem dX12_again_43 : decode cX12_again 43 = .ok (.aload_n 0, 1) := by decide +kernel
theorem dX12_again_44 : decode cX12_again 44 = .ok (.iload_n 1, 1) := by decide +kernel
theorem dX12_again_45 : decode cX12_again 45 = .ok (.iload 5, 2) := by decide +kernel
theorem dX12_again_47 : decode cX12_again 47 = .ok (.invokevirtual 204, 3) := by decide +kernel
theorem dX12_again_50 : decode cX12_again 50 = .ok (.aload_n 0, 1) := by decide +kernel
theorem dX12_again_51 : decode cX12_again 51 = .ok (.iload_n 1, 1) := by decide +kernel
theorem dX12_again_52 : decode cX12_again 52 = .ok (.iload 6, 2) := by decide +kernel
theorem dX12_again_54 : decode cX12_again 54 = .ok (.invokevirtual 204, 3) := by decide +kernel
theorem dX12_again_57 : decode cX12_again 57 = .ok (.if_icmp .ne 26, 3) := by decide +kernel
theorem dX12_again_60 : decode cX12_again 60 = .ok (.iload_n 3, 1) := by decide +kernel
theorem dX12_again_61 : decode cX12_again 61 = .ok (.iload_n 2, 1) := by decide +kernel
theorem dX12_again_62 : decode cX12_again 62 = .ok (.if_icmp .ne 14, 3) := by decide +kernel
theorem dX12_again_65 : decode cX12_again 65 = .ok (.bipush 10, 2) := by decide +kernel
theorem dX12_again_67 : decode cX12_again 67 = .ok (.iload 5, 2) := by decide +kernel
theorem dX12_again_69 : decode cX12_again 69 = .ok (.imul, 1) := by decide +kernel
theorem dX12_again_70 : decode cX12_again 70 = .ok (.iload 6, 2) := by decide +kernel
theorem dX12_again_72 : decode cX12_again 72 = .ok (.iadd, 1) := by decide +kernel
theorem dX12_again_73 : decode cX12_again 73 = .ok (.goto 5, 3) := by decide +kernel
theorem dX12_again_76 : decode cX12_again 76 = .ok (.iload 4, 2) := by decide +kernel
theorem dX12_again_78 : decode cX12_again 78 = .ok (.istore 4, 2) := by decide +kernel
theorem dX12_again_80 : decode cX12_again 80 = .ok (.iinc 3 1, 3) := by decide +kernel
theorem dX12_again_83 : decode cX12_again 83 = .ok (.iinc 6 1, 3) := by decide +kernel
theorem dX12_again_86 : decode cX12_again 86 = .ok (.goto (-50), 3) := by decide +kernel
theorem dX12_again_89 : decode cX12_again 89 = .ok (.iinc 5 1, 3) := by decide +kernel
theorem dX12_again_92 : decode cX12_again 92 = .ok (.goto (-69), 3) := by decide +kernel
theorem dX12_again_95 : decode cX12_again 95 = .ok (.iload_n 2, 1) := by decide +kernel
theorem dX12_again_96 : decode cX12_again 96 = .ok (.iconst (-1), 1) := by decide +kernel
theorem dX12_again_97 : decode cX12_again 97 = .ok (.if_icmp .ne 7, 3) := by decide +kernel
theorem dX12_again_100 : decode cX12_again 100 = .ok (.iload_n 3, 1) := by decide +kernel
theorem dX12_again_101 : decode cX12_again 101 = .ok (.goto 5, 3) := by decide +kernel
theorem dX12_again_104 : decode cX12_again 104 = .ok (.iload 4, 2) := by decide +kernel
theorem dX12_again_106 : decode cX12_again 106 = .ok (.ireturn, 1) := by decide +kernel
theorem dX12_ends_0 : decode cX12_ends 0 = .ok (.aload_n 0, 1) := by decide +kernel
theorem dX12_ends_1 : decode cX12_ends 1 = .ok (.iconst 0, 1) := by decide +kernel
theorem dX12_ends_2 : decode cX12_ends 2 = .ok (.putfield 175, 3) := by decide +kernel
theorem dX12_ends_5 : decode cX12_ends 5 = .ok (.iload_n 1, 1) := by decide +kernel
theorem dX12_ends_6 : decode cX12_ends 6 = .ok (.i2l, 1) := by decide +kernel
theorem dX12_ends_7 : decode cX12_ends 7 = .ok (.lconst 0, 1) := by decide +kernel
theorem dX12_ends_8 : decode cX12_ends 8 = .ok (.ldc2_w 239, 3) := by decide +kernel
theorem dX12_ends_11 : decode cX12_ends 11 = .ok (.invokestatic 195, 3) := by decide +kernel
theorem dX12_ends_14 : decode cX12_ends 14 = .ok (.ifCond .ne 5, 3) := by decide +kernel
theorem dX12_ends_17 : decode cX12_ends 17 = .ok (.iconst (-1), 1) := by decide +kernel
theorem dX12_ends_18 : decode cX12_ends 18 = .ok (.ireturn, 1) := by decide +kernel
theorem dX12_ends_19 : decode cX12_ends 19 = .ok (.iconst 0, 1) := by decide +kernel
theorem dX12_ends_20 : decode cX12_ends 20 = .ok (.istore_n 2, 1) := by decide +kernel
theorem dX12_ends_21 : decode cX12_ends 21 = .ok (.iconst 0, 1) := by decide +kernel
theorem dX12_ends_22 : decode cX12_ends 22 = .ok (.istore_n 3, 1) := by decide +kernel
theorem dX12_ends_23 : decode cX12_ends 23 = .ok (.iload_n 3, 1) := by decide +kernel
theorem dX12_ends_24 : decode cX12_ends 24 = .ok (.aload_n 0, 1) := by decide +kernel
theorem dX12_ends_25 : decode cX12_ends 25 = .ok (.getfield 13, 3) := by decide +kernel
theorem dX12_ends_28 : decode cX12_ends 28 = .ok (.iconst 0, 1) := by decide +kernel
theorem dX12_ends_29 : decode cX12_ends 29 = .ok (.iaload, 1) := by decide +kernel
theorem dX12_ends_30 : decode cX12_ends 30 = .ok (.if_icmp .ge 45, 3) := by decide +kernel
theorem dX12_ends_33 : decode cX12_ends 33 = .ok (.iload_n 2, 1) := by decide +kernel
theorem dX12_ends_34 : decode cX12_ends 34 = .ok (.aload_n 0, 1) := by decide +kernel
theorem dX12_ends_35 : decode cX12_ends 35 = .ok (.getfield 13, 3) := by decide +kernel
theorem dX12_ends_38 : decode cX12_ends 38 = .ok (.bipush 68, 2) := by decide +kernel
theorem dX12_ends_40 : decode cX12_ends 40 = .ok (.iload_n 3, 1) := by decide +kernel
theorem dX12_ends_41 : decode cX12_ends 41 = .ok (.iadd, 1) := by decide +kernel
theorem dX12_ends_42 : decode cX12_ends 42 = .ok (.iaload, 1) := by decide +kernel
theorem dX12_ends_43 : decode cX12_ends 43 = .ok (.iconst (-1), 1) := by decide +kernel
theorem dX12_ends_44 : decode cX12_ends 44 = .ok (.if_icmp .eq 22, 3) := by decide +kernel
theorem dX12_ends_47 : decode cX12_ends 47 = .ok (.aload_n 0, 1) := by decide +kernel
theorem dX12_ends_48 : decode cX12_ends 48 = .ok (.getfield 13, 3) := by decide +kernel
theorem dX12_ends_51 : decode cX12_ends 51 = .ok (.bipush 74, 2) := by decide +kernel
theorem dX12_ends_53 : decode cX12_ends 53 = .ok (.iload_n 3, 1) := by decide +kernel
theorem dX12_ends_54 : decode cX12_ends 54 = .ok (.iadd, 1) := by decide +kernel
theorem dX12_ends_55 : decode cX12_ends 55 = .ok (.iaload, 1) := by decide +kernel
theorem dX12_ends_56 : decode cX12_ends 56 = .ok (.iload_n 1, 1) := by decide +kernel
theorem dX12_ends_57 : decode cX12_ends 57 = .ok (.if_icmp .le 9, 3) := by decide +kernel
theorem dX12_ends_60 : decode cX12_ends 60 = .ok (.iconst 1, 1) := by decide +kernel
theorem dX12_ends_61 : decode cX12_ends 61 = .ok (.iload_n 3, 1) := by decide +kernel
theorem dX12_ends_62 : decode cX12_ends 62 = .ok (.ishl, 1) := by decide +kernel
theorem dX12_ends_63 : decode cX12_ends 63 = .ok (.goto 4, 3) := by decide +kernel
theorem dX12_ends_66 : decode cX12_ends 66 = .ok (.iconst 0, 1) := by decide +kernel
theorem dX12_ends_67 : decode cX12_ends 67 = .ok (.ior, 1) := by decide +kernel
theorem dX12_ends_68 : decode cX12_ends 68 = .ok (.istore_n 2, 1) := by decide +kernel
theorem dX12_ends_69 : decode cX12_ends 69 = .ok (.iinc 3 1, 3) := by decide +kernel
theorem dX12_ends_72 : decode cX12_ends 72 = .ok (.goto (-49), 3) := by decide +kernel
theorem dX12_ends_75 : decode cX12_ends 75 = .ok (.iload_n 2, 1) := by decide +kernel
theorem dX12_ends_76 : decode cX12_ends 76 = .ok (.ireturn, 1) := by decide +kernel
theorem dX12_stands_0 : decode cX12_stands 0 = .ok (.aload_n 0, 1) := by decide +kernel
theorem dX12_stands_1 : decode cX12_stands 1 = .ok (.iconst 0, 1) := by decide +kernel
theorem dX12_stands_2 : decode cX12_stands 2 = .ok (.putfield 175, 3) := by decide +kernel
theorem dX12_stands_5 : decode cX12_stands 5 = .ok (.aload_n 0, 1) := by decide +kernel
theorem dX12_stands_6 : decode cX12_stands 6 = .ok (.iload_n 1, 1) := by decide +kernel
theorem dX12_stands_7 : decode cX12_stands 7 = .ok (.invokevirtual 213, 3) := by decide +kernel
theorem dX12_stands_10 : decode cX12_stands 10 = .ok (.ifCond .eq 15, 3) := by decide +kernel
theorem dX12_stands_13 : decode cX12_stands 13 = .ok (.iload_n 2, 1) := by decide +kernel
theorem dX12_stands_14 : decode cX12_stands 14 = .ok (.i2l, 1) := by decide +kernel
theorem dX12_stands_15 : decode cX12_stands 15 = .ok (.lconst 0, 1) := by decide +kernel
theorem dX12_stands_16 : decode cX12_stands 16 = .ok (.ldc2_w 239, 3) := by decide +kernel
theorem dX12_stands_19 : decode cX12_stands 19 = .ok (.invokestatic 195, 3) := by decide +kernel
theorem dX12_stands_22 : decode cX12_stands 22 = .ok (.ifCond .ne 7, 3) := by decide +kernel
theorem dX12_stands_25 : decode cX12_stands 25 = .ok (.ldc2_w 302, 3) := by decide +kernel
theorem dX12_stands_28 : decode cX12_stands 28 = .ok (.lreturn, 1) := by decide +kernel
theorem dX12_stands_29 : decode cX12_stands 29 = .ok (.iconst 0, 1) := by decide +kernel
theorem dX12_stands_30 : decode cX12_stands 30 = .ok (.istore_n 3, 1) := by decide +kernel
theorem dX12_stands_31 : decode cX12_stands 31 = .ok (.iload_n 3, 1) := by decide +kernel
theorem dX12_stands_32 : decode cX12_stands 32 = .ok (.bipush 21, 2) := by decide +kernel
theorem dX12_stands_34 : decode cX12_stands 34 = .ok (.if_icmp .ge 35, 3) := by decide +kernel
theorem dX12_stands_37 : decode cX12_stands 37 = .ok (.aload_n 0, 1) := by decide +kernel
theorem dX12_stands_38 : decode cX12_stands 38 = .ok (.getfield 140, 3) := by decide +kernel
theorem dX12_stands_41 : decode cX12_stands 41 = .ok (.iload_n 3, 1) := by decide +kernel
theorem dX12_stands_42 : decode cX12_stands 42 = .ok (.iload_n 3, 1) := by decide +kernel
theorem dX12_stands_43 : decode cX12_stands 43 = .ok (.aload_n 0, 1) := by decide +kernel
theorem dX12_stands_44 : decode cX12_stands 44 = .ok (.getfield 13, 3) := by decide +kernel
theorem dX12_stands_47 : decode cX12_stands 47 = .ok (.bipush 62, 2) := by decide +kernel
theorem dX12_stands_49 : decode cX12_stands 49 = .ok (.iload_n 1, 1) := by decide +kernel
theorem dX12_stands_50 : decode cX12_stands 50 = .ok (.iadd, 1) := by decide +kernel
theorem dX12_stands_51 : decode cX12_stands 51 = .ok (.iaload, 1) := by decide +kernel
theorem dX12_stands_52 : decode cX12_stands 52 = .ok (.if_icmp .ne 9, 3) := by decide +kernel
theorem dX12_stands_55 : decode cX12_stands 55 = .ok (.ldc2_w 529, 3) := by decide +kernel
theorem dX12_stands_58 : decode cX12_stands 58 = .ok (.goto 4, 3) := by decide +kernel
theorem dX12_stands_61 : decode cX12_stands 61 = .ok (.lconst 0, 1) := by decide +kernel
theorem dX12_stands_62 : decode cX12_stands 62 = .ok (.lastore, 1) := by decide +kernel
theorem dX12_stands_63 : decode cX12_stands 63 = .ok (.iinc 3 1, 3) := by decide +kernel
theorem dX12_stands_66 : decode cX12_stands 66 = .ok (.goto (-35), 3) := by decide +kernel
theorem dX12_stands_69 : decode cX12_stands 69 = .ok (.aload_n 0, 1) := by decide +kernel
theorem dX12_stands_70 : decode cX12_stands 70 = .ok (.getfield 13, 3) := by decide +kernel
theorem dX12_stands_73 : decode cX12_stands 73 = .ok (.bipush 6, 2) := by decide +kernel
theorem dX12_stands_75 : decode cX12_stands 75 = .ok (.iaload, 1) := by decide +kernel
theorem dX12_stands_76 : decode cX12_stands 76 = .ok (.istore_n 3, 1) := by decide +kernel
theorem dX12_stands_77 : decode cX12_stands 77 = .ok (.iconst 0, 1) := by decide +kernel
theorem dX12_stands_78 : decode cX12_stands 78 = .ok (.istore 4, 2) := by decide +kernel
theorem dX12_stands_80 : decode cX12_stands 80 = .ok (.iload 4, 2) := by decide +kernel
theorem dX12_stands_82 : decode cX12_stands 82 = .ok (.iload_n 2, 1) := by decide +kernel
theorem dX12_stands_83 : decode cX12_stands 83 = .ok (.if_icmp .ge 74, 3) := by decide +kernel
theorem dX12_stands_86 : decode cX12_stands 86 = .ok (.iconst 1, 1) := by decide +kernel
theorem dX12_stands_87 : decode cX12_stands 87 = .ok (.istore 5, 2) := by decide +kernel
theorem dX12_stands_89 : decode cX12_stands 89 = .ok (.iload 5, 2) := by decide +kernel
theorem dX12_stands_91 : decode cX12_stands 91 = .ok (.bipush 21, 2) := by decide +kernel
theorem dX12_stands_93 : decode cX12_stands 93 = .ok (.if_icmp .ge 58, 3) := by decide +kernel
theorem dX12_stands_96 : decode cX12_stands 96 = .ok (.aload_n 0, 1) := by decide +kernel
theorem dX12_stands_97 : decode cX12_stands 97 = .ok (.getfield 140, 3) := by decide +kernel
theorem dX12_stands_100 : decode cX12_stands 100 = .ok (.iload 5, 2) := by decide +kernel
theorem dX12_stands_102 : decode cX12_stands 102 = .ok (.laload, 1) := by decide +kernel
theorem dX12_stands_103 : decode cX12_stands 103 = .ok (.lstore 6, 2) := by decide +kernel
theorem dX12_stands_105 : decode cX12_stands 105 = .ok (.aload_n 0, 1) := by decide +kernel
theorem dX12_stands_106 : decode cX12_stands 106 = .ok (.getfield 140, 3) := by decide +kernel
theorem dX12_stands_109 : decode cX12_stands 109 = .ok (.iload 5, 2) := by decide +kernel
theorem dX12_stands_111 : decode cX12_stands 111 = .ok (.lload 6, 2) := by decide +kernel
theorem dX12_stands_113 : decode cX12_stands 113 = .ok (.bipush 10, 2) := by decide +kernel
theorem dX12_stands_115 : decode cX12_stands 115 = .ok (.iload_n 3, 1) := by decide +kernel
theorem dX12_stands_116 : decode cX12_stands 116 = .ok (.isub, 1) := by decide +kernel
theorem dX12_stands_117 : decode cX12_stands 117 = .ok (.i2l, 1) := by decide +kernel
theorem dX12_stands_118 : decode cX12_stands 118 = .ok (.lmul, 1) := by decide +kernel
theorem dX12_stands_119 : decode cX12_stands 119 = .ok (.ldc2_w 259, 3) := by decide +kernel
theorem dX12_stands_122 : decode cX12_stands 122 = .ok (.ldiv, 1) := by decide +kernel
theorem dX12_stands_123 : decode cX12_stands 123 = .ok (.lastore, 1) := by decide +kernel
theorem dX12_stands_124 : decode cX12_stands 124 = .ok (.aload_n 0, 1) := by decide +kernel
theorem dX12_stands_125 : decode cX12_stands 125 = .ok (.getfield 140, 3) := by decide +kernel
theorem dX12_stands_128 : decode cX12_stands 128 = .ok (.iload 5, 2) := by decide +kernel
theorem dX12_stands_130 : decode cX12_stands 130 = .ok (.iconst 1, 1) := by decide +kernel
theorem dX12_stands_131 : decode cX12_stands 131 = .ok (.isub, 1) := by decide +kernel
theorem dX12_stands_132 : decode cX12_stands 132 = .ok (.dup2, 1) := by decide +kernel
theorem dX12_stands_133 : decode cX12_stands 133 = .ok (.laload, 1) := by decide +kernel
theorem dX12_stands_134 : decode cX12_stands 134 = .ok (.lload 6, 2) := by decide +kernel
theorem dX12_stands_136 : decode cX12_stands 136 = .ok (.iload_n 3, 1) := by decide +kernel
theorem dX12_stands_137 : decode cX12_stands 137 = .ok (.i2l, 1) := by decide +kernel
theorem dX12_stands_138 : decode cX12_stands 138 = .ok (.lmul, 1) := by decide +kernel
theorem dX12_stands_139 : decode cX12_stands 139 = .ok (.ldc2_w 259, 3) := by decide +kernel
theorem dX12_stands_142 : decode cX12_stands 142 = .ok (.ldiv, 1) := by decide +kernel
theorem dX12_stands_143 : decode cX12_stands 143 = .ok (.ladd, 1) := by decide +kernel
theorem dX12_stands_144 : decode cX12_stands 144 = .ok (.lastore, 1) := by decide +kernel
theorem dX12_stands_145 : decode cX12_stands 145 = .ok (.iinc 5 1, 3) := by decide +kernel
theorem dX12_stands_148 : decode cX12_stands 148 = .ok (.goto (-59), 3) := by decide +kernel
theorem dX12_stands_151 : decode cX12_stands 151 = .ok (.iinc 4 1, 3) := by decide +kernel
theorem dX12_stands_154 : decode cX12_stands 154 = .ok (.goto (-74), 3) := by decide +kernel
theorem dX12_stands_157 : decode cX12_stands 157 = .ok (.lconst 0, 1) := by decide +kernel
theorem dX12_stands_158 : decode cX12_stands 158 = .ok (.lstore 4, 2) := by decide +kernel
theorem dX12_stands_160 : decode cX12_stands 160 = .ok (.iconst 1, 1) := by decide +kernel
theorem dX12_stands_161 : decode cX12_stands 161 = .ok (.istore 6, 2) := by decide +kernel
theorem dX12_stands_163 : decode cX12_stands 163 = .ok (.iload 6, 2) := by decide +kernel
theorem dX12_stands_165 : decode cX12_stands 165 = .ok (.bipush 21, 2) := by decide +kernel
theorem dX12_stands_167 : decode cX12_stands 167 = .ok (.if_icmp .ge 21, 3) := by decide +kernel
theorem dX12_stands_170 : decode cX12_stands 170 = .ok (.lload 4, 2) := by decide +kernel
theorem dX12_stands_172 : decode cX12_stands 172 = .ok (.aload_n 0, 1) := by decide +kernel
theorem dX12_stands_173 : decode cX12_stands 173 = .ok (.getfield 140, 3) := by decide +kernel
theorem dX12_stands_176 : decode cX12_stands 176 = .ok (.iload 6, 2) := by decide +kernel
theorem dX12_stands_178 : decode cX12_stands 178 = .ok (.laload, 1) := by decide +kernel
theorem dX12_stands_179 : decode cX12_stands 179 = .ok (.ladd, 1) := by decide +kernel
theorem dX12_stands_180 : decode cX12_stands 180 = .ok (.lstore 4, 2) := by decide +kernel
theorem dX12_stands_182 : decode cX12_stands 182 = .ok (.iinc 6 1, 3) := by decide +kernel
theorem dX12_stands_185 : decode cX12_stands 185 = .ok (.goto (-22), 3) := by decide +kernel
theorem dX12_stands_188 : decode cX12_stands 188 = .ok (.lload 4, 2) := by decide +kernel
theorem dX12_stands_190 : decode cX12_stands 190 = .ok (.lreturn, 1) := by decide +kernel
theorem dX12_compare_0 : decode cX12_compare 0 = .ok (.aload_n 0, 1) := by decide +kernel
theorem dX12_compare_1 : decode cX12_compare 1 = .ok (.iconst 0, 1) := by decide +kernel
theorem dX12_compare_2 : decode cX12_compare 2 = .ok (.putfield 175, 3) := by decide +kernel
theorem dX12_compare_5 : decode cX12_compare 5 = .ok (.aload_n 0, 1) := by decide +kernel
theorem dX12_compare_6 : decode cX12_compare 6 = .ok (.iload_n 1, 1) := by decide +kernel
theorem dX12_compare_7 : decode cX12_compare 7 = .ok (.invokevirtual 421, 3) := by decide +kernel
theorem dX12_compare_10 : decode cX12_compare 10 = .ok (.ifCond .ne 5, 3) := by decide +kernel
theorem dX12_compare_13 : decode cX12_compare 13 = .ok (.iconst (-1), 1) := by decide +kernel
theorem dX12_compare_14 : decode cX12_compare 14 = .ok (.ireturn, 1) := by decide +kernel
theorem dX12_compare_15 : decode cX12_compare 15 = .ok (.aload_n 0, 1) := by decide +kernel
theorem dX12_compare_16 : decode cX12_compare 16 = .ok (.getfield 13, 3) := by decide +kernel
theorem dX12_compare_19 : decode cX12_compare 19 = .ok (.iconst 4, 1) := by decide +kernel
theorem dX12_compare_20 : decode cX12_compare 20 = .ok (.iaload, 1) := by decide +kernel
theorem dX12_compare_21 : decode cX12_compare 21 = .ok (.istore_n 2, 1) := by decide +kernel
theorem dX12_compare_22 : decode cX12_compare 22 = .ok (.aload_n 0, 1) := by decide +kernel
theorem dX12_compare_23 : decode cX12_compare 23 = .ok (.getfield 13, 3) := by decide +kernel
theorem dX12_compare_26 : decode cX12_compare 26 = .ok (.iconst 4, 1) := by decide +kernel
theorem dX12_compare_27 : decode cX12_compare 27 = .ok (.iload_n 1, 1) := by decide +kernel
theorem dX12_compare_28 : decode cX12_compare 28 = .ok (.iastore, 1) := by decide +kernel
theorem dX12_compare_29 : decode cX12_compare 29 = .ok (.iconst 0, 1) := by decide +kernel
theorem dX12_compare_30 : decode cX12_compare 30 = .ok (.istore_n 3, 1) := by decide +kernel
theorem dX12_compare_31 : decode cX12_compare 31 = .ok (.iconst 0, 1) := by decide +kernel
theorem dX12_compare_32 : decode cX12_compare 32 = .ok (.istore 4, 2) := by decide +kernel
theorem dX12_compare_34 : decode cX12_compare 34 = .ok (.iload 4, 2) := by decide +kernel
theorem dX12_compare_36 : decode cX12_compare 36 = .ok (.aload_n 0, 1) := by decide +kernel
theorem dX12_compare_37 : decode cX12_compare 37 = .ok (.getfield 13, 3) := by decide +kernel
theorem dX12_compare_40 : decode cX12_compare 40 = .ok (.iconst 0, 1) := by decide +kernel
theorem dX12_compare_41 : decode cX12_compare 41 = .ok (.iaload, 1) := by decide +kernel
theorem dX12_compare_42 : decode cX12_compare 42 = .ok (.if_icmp .ge 18, 3) := by decide +kernel
theorem dX12_compare_45 : decode cX12_compare 45 = .ok (.iload_n 3, 1) := by decide +kernel
theorem dX12_compare_46 : decode cX12_compare 46 = .ok (.aload_n 0, 1) := by decide +kernel
theorem dX12_compare_47 : decode cX12_compare 47 = .ok (.iload 4, 2) := by decide +kernel
theorem dX12_compare_49 : decode cX12_compare 49 = .ok (.invokevirtual 222, 3) := by decide +kernel
theorem dX12_compare_52 : decode cX12_compare 52 = .ok (.iadd, 1) := by decide +kernel
theorem dX12_compare_53 : decode cX12_compare 53 = .ok (.istore_n 3, 1) := by decide +kernel
theorem dX12_compare_54 : decode cX12_compare 54 = .ok (.iinc 4 1, 3) := by decide +kernel
theorem dX12_compare_57 : decode cX12_compare 57 = .ok (.goto (-23), 3) := by decide +kernel
theorem dX12_compare_60 : decode cX12_compare 60 = .ok (.aload_n 0, 1) := by decide +kernel
theorem dX12_compare_61 : decode cX12_compare 61 = .ok (.getfield 13, 3) := by decide +kernel
theorem dX12_compare_64 : decode cX12_compare 64 = .ok (.iconst 4, 1) := by decide +kernel
theorem dX12_compare_65 : decode cX12_compare 65 = .ok (.iload_n 2, 1) := by decide +kernel
theorem dX12_compare_66 : decode cX12_compare 66 = .ok (.iastore, 1) := by decide +kernel
theorem dX12_compare_67 : decode cX12_compare 67 = .ok (.iload_n 3, 1) := by decide +kernel
theorem dX12_compare_68 : decode cX12_compare 68 = .ok (.ireturn, 1) := by decide +kernel
theorem dX12_readSum_0 : decode cX12_readSum 0 = .ok (.aload_n 0, 1) := by decide +kernel
theorem dX12_readSum_1 : decode cX12_readSum 1 = .ok (.getfield 163, 3) := by decide +kernel
theorem dX12_readSum_4 : decode cX12_readSum 4 = .ok (.iload_n 1, 1) := by decide +kernel
theorem dX12_readSum_5 : decode cX12_readSum 5 = .ok (.aload_n 0, 1) := by decide +kernel
theorem dX12_readSum_6 : decode cX12_readSum 6 = .ok (.getfield 312, 3) := by decide +kernel
theorem dX12_readSum_9 : decode cX12_readSum 9 = .ok (.iastore, 1) := by decide +kernel
theorem dX12_readSum_10 : decode cX12_readSum 10 = .ok (.aload_n 0, 1) := by decide +kernel
theorem dX12_readSum_11 : decode cX12_readSum 11 = .ok (.getfield 275, 3) := by decide +kernel
theorem dX12_readSum_14 : decode cX12_readSum 14 = .ok (.ifCond .ne 8, 3) := by decide +kernel
theorem dX12_readSum_17 : decode cX12_readSum 17 = .ok (.aload_n 0, 1) := by decide +kernel
theorem dX12_readSum_18 : decode cX12_readSum 18 = .ok (.iconst 0, 1) := by decide +kernel
theorem dX12_readSum_19 : decode cX12_readSum 19 = .ok (.invokevirtual 407, 3) := by decide +kernel
theorem dX12_readSum_22 : decode cX12_readSum 22 = .ok (.aload_n 0, 1) := by decide +kernel
theorem dX12_readSum_23 : decode cX12_readSum 23 = .ok (.getfield 163, 3) := by decide +kernel
theorem dX12_readSum_26 : decode cX12_readSum 26 = .ok (.iload_n 1, 1) := by decide +kernel
theorem dX12_readSum_27 : decode cX12_readSum 27 = .ok (.iconst 1, 1) := by decide +kernel
theorem dX12_readSum_28 : decode cX12_readSum 28 = .ok (.iadd, 1) := by decide +kernel
theorem dX12_readSum_29 : decode cX12_readSum 29 = .ok (.aload_n 0, 1) := by decide +kernel
theorem dX12_readSum_30 : decode cX12_readSum 30 = .ok (.getfield 312, 3) := by decide +kernel
theorem dX12_readSum_33 : decode cX12_readSum 33 = .ok (.iastore, 1) := by decide +kernel
theorem dX12_readSum_34 : decode cX12_readSum 34 = .ok (.return_, 1) := by decide +kernel
theorem dX12_mustJoin_0 : decode cX12_mustJoin 0 = .ok (.aload_n 0, 1) := by decide +kernel
theorem dX12_mustJoin_1 : decode cX12_mustJoin 1 = .ok (.getfield 275, 3) := by decide +kernel
theorem dX12_mustJoin_4 : decode cX12_mustJoin 4 = .ok (.ifCond .ne 17, 3) := by decide +kernel
theorem dX12_mustJoin_7 : decode cX12_mustJoin 7 = .ok (.aload_n 0, 1) := by decide +kernel
theorem dX12_mustJoin_8 : decode cX12_mustJoin 8 = .ok (.aload_n 0, 1) := by decide +kernel
theorem dX12_mustJoin_9 : decode cX12_mustJoin 9 = .ok (.aload_n 0, 1) := by decide +kernel
theorem dX12_mustJoin_10 : decode cX12_mustJoin 10 = .ok (.getfield 160, 3) := by decide +kernel
theorem dX12_mustJoin_13 : decode cX12_mustJoin 13 = .ok (.iload_n 1, 1) := by decide +kernel
theorem dX12_mustJoin_14 : decode cX12_mustJoin 14 = .ok (.laload, 1) := by decide +kernel
theorem dX12_mustJoin_15 : decode cX12_mustJoin 15 = .ok (.invokevirtual 331, 3) := by decide +kernel
theorem dX12_mustJoin_18 : decode cX12_mustJoin 18 = .ok (.invokevirtual 308, 3) := by decide +kernel
theorem dX12_mustJoin_21 : decode cX12_mustJoin 21 = .ok (.return_, 1) := by decide +kernel
theorem dX12_readOrder_0 : decode cX12_readOrder 0 = .ok (.iconst (-1), 1) := by decide +kernel
theorem dX12_readOrder_1 : decode cX12_readOrder 1 = .ok (.istore_n 1, 1) := by decide +kernel
theorem dX12_readOrder_2 : decode cX12_readOrder 2 = .ok (.iconst 0, 1) := by decide +kernel
theorem dX12_readOrder_3 : decode cX12_readOrder 3 = .ok (.istore_n 2, 1) := by decide +kernel
theorem dX12_readOrder_4 : decode cX12_readOrder 4 = .ok (.iload_n 2, 1) := by decide +kernel
theorem dX12_readOrder_5 : decode cX12_readOrder 5 = .ok (.iconst 4, 1) := by decide +kernel
theorem dX12_readOrder_6 : decode cX12_readOrder 6 = .ok (.if_icmp .ge 28, 3) := by decide +kernel
theorem dX12_readOrder_9 : decode cX12_readOrder 9 = .ok (.aload_n 0, 1) := by decide +kernel
theorem dX12_readOrder_10 : decode cX12_readOrder 10 = .ok (.aload_n 0, 1) := by decide +kernel
theorem dX12_readOrder_11 : decode cX12_readOrder 11 = .ok (.getfield 151, 3) := by decide +kernel
theorem dX12_readOrder_14 : decode cX12_readOrder 14 = .ok (.iload_n 2, 1) := by decide +kernel
theorem dX12_readOrder_15 : decode cX12_readOrder 15 = .ok (.laload, 1) := by decide +kernel
theorem dX12_readOrder_16 : decode cX12_readOrder 16 = .ok (.invokevirtual 331, 3) := by decide +kernel
theorem dX12_readOrder_19 : decode cX12_readOrder 19 = .ok (.ifCond .eq 7, 3) := by decide +kernel
theorem dX12_readOrder_22 : decode cX12_readOrder 22 = .ok (.iload_n 2, 1) := by decide +kernel
theorem dX12_readOrder_23 : decode cX12_readOrder 23 = .ok (.goto 4, 3) := by decide +kernel
theorem dX12_readOrder_26 : decode cX12_readOrder 26 = .ok (.iload_n 1, 1) := by decide +kernel
theorem dX12_readOrder_27 : decode cX12_readOrder 27 = .ok (.istore_n 1, 1) := by decide +kernel
theorem dX12_readOrder_28 : decode cX12_readOrder 28 = .ok (.iinc 2 1, 3) := by decide +kernel
theorem dX12_readOrder_31 : decode cX12_readOrder 31 = .ok (.goto (-27), 3) := by decide +kernel
theorem dX12_readOrder_34 : decode cX12_readOrder 34 = .ok (.aload_n 0, 1) := by decide +kernel
theorem dX12_readOrder_35 : decode cX12_readOrder 35 = .ok (.iload_n 1, 1) := by decide +kernel
theorem dX12_readOrder_36 : decode cX12_readOrder 36 = .ok (.iconst (-1), 1) := by decide +kernel
theorem dX12_readOrder_37 : decode cX12_readOrder 37 = .ok (.if_icmp .eq 16, 3) := by decide +kernel
theorem dX12_readOrder_40 : decode cX12_readOrder 40 = .ok (.aload_n 0, 1) := by decide +kernel
theorem dX12_readOrder_41 : decode cX12_readOrder 41 = .ok (.getfield 404, 3) := by decide +kernel
theorem dX12_readOrder_44 : decode cX12_readOrder 44 = .ok (.bipush 12, 2) := by decide +kernel
theorem dX12_readOrder_46 : decode cX12_readOrder 46 = .ok (.if_icmp .ge 7, 3) := by decide +kernel
theorem dX12_readOrder_49 : decode cX12_readOrder 49 = .ok (.iconst 1, 1) := by decide +kernel
theorem dX12_readOrder_50 : decode cX12_readOrder 50 = .ok (.goto 4, 3) := by decide +kernel
theorem dX12_readOrder_53 : decode cX12_readOrder 53 = .ok (.iconst 0, 1) := by decide +kernel
theorem dX12_readOrder_54 : decode cX12_readOrder 54 = .ok (.invokevirtual 308, 3) := by decide +kernel
theorem dX12_readOrder_57 : decode cX12_readOrder 57 = .ok (.aload_n 0, 1) := by decide +kernel
theorem dX12_readOrder_58 : decode cX12_readOrder 58 = .ok (.getfield 275, 3) := by decide +kernel
theorem dX12_readOrder_61 : decode cX12_readOrder 61 = .ok (.ifCond .eq 4, 3) := by decide +kernel
theorem dX12_readOrder_64 : decode cX12_readOrder 64 = .ok (.return_, 1) := by decide +kernel
theorem dX12_readOrder_65 : decode cX12_readOrder 65 = .ok (.bipush 10, 2) := by decide +kernel
theorem dX12_readOrder_67 : decode cX12_readOrder 67 = .ok (.aload_n 0, 1) := by decide +kernel
theorem dX12_readOrder_68 : decode cX12_readOrder 68 = .ok (.getfield 404, 3) := by decide +kernel
theorem dX12_readOrder_71 : decode cX12_readOrder 71 = .ok (.imul, 1) := by decide +kernel
theorem dX12_readOrder_72 : decode cX12_readOrder 72 = .ok (.istore_n 2, 1) := by decide +kernel
theorem dX12_readOrder_73 : decode cX12_readOrder 73 = .ok (.aload_n 0, 1) := by decide +kernel
theorem dX12_readOrder_74 : decode cX12_readOrder 74 = .ok (.dup, 1) := by decide +kernel
theorem dX12_readOrder_75 : decode cX12_readOrder 75 = .ok (.getfield 404, 3) := by decide +kernel
theorem dX12_readOrder_78 : decode cX12_readOrder 78 = .ok (.iconst 1, 1) := by decide +kernel
theorem dX12_readOrder_79 : decode cX12_readOrder 79 = .ok (.iadd, 1) := by decide +kernel
theorem dX12_readOrder_80 : decode cX12_readOrder 80 = .ok (.putfield 404, 3) := by decide +kernel
theorem dX12_readOrder_83 : decode cX12_readOrder 83 = .ok (.iconst 0, 1) := by decide +kernel
theorem dX12_readOrder_84 : decode cX12_readOrder 84 = .ok (.istore_n 3, 1) := by decide +kernel
theorem dX12_readOrder_85 : decode cX12_readOrder 85 = .ok (.iload_n 3, 1) := by decide +kernel
theorem dX12_readOrder_86 : decode cX12_readOrder 86 = .ok (.bipush 10, 2) := by decide +kernel
theorem dX12_readOrder_88 : decode cX12_readOrder 88 = .ok (.if_icmp .ge 18, 3) := by decide +kernel
theorem dX12_readOrder_91 : decode cX12_readOrder 91 = .ok (.aload_n 0, 1) := by decide +kernel
theorem dX12_readOrder_92 : decode cX12_readOrder 92 = .ok (.getfield 163, 3) := by decide +kernel
theorem dX12_readOrder_95 : decode cX12_readOrder 95 = .ok (.iload_n 2, 1) := by decide +kernel
theorem dX12_readOrder_96 : decode cX12_readOrder 96 = .ok (.iload_n 3, 1) := by decide +kernel
theorem dX12_readOrder_97 : decode cX12_readOrder 97 = .ok (.iadd, 1) := by decide +kernel
theorem dX12_readOrder_98 : decode cX12_readOrder 98 = .ok (.iconst 0, 1) := by decide +kernel
theorem dX12_readOrder_99 : decode cX12_readOrder 99 = .ok (.iastore, 1) := by decide +kernel
theorem dX12_readOrder_100 : decode cX12_readOrder 100 = .ok (.iinc 3 1, 3) := by decide +kernel
theorem dX12_readOrder_103 : decode cX12_readOrder 103 = .ok (.goto (-18), 3) := by decide +kernel
theorem dX12_readOrder_106 : decode cX12_readOrder 106 = .ok (.aload_n 0, 1) := by decide +kernel
theorem dX12_readOrder_107 : decode cX12_readOrder 107 = .ok (.getfield 163, 3) := by decide +kernel
theorem dX12_readOrder_110 : decode cX12_readOrder 110 = .ok (.iload_n 2, 1) := by decide +kernel
theorem dX12_readOrder_111 : decode cX12_readOrder 111 = .ok (.iload_n 1, 1) := by decide +kernel
theorem dX12_readOrder_112 : decode cX12_readOrder 112 = .ok (.iastore, 1) := by decide +kernel
theorem dX12_readOrder_113 : decode cX12_readOrder 113 = .ok (.iload_n 1, 1) := by decide +kernel
theorem dX12_readOrder_114 : decode cX12_readOrder 114 = .ok (.iconst 3, 1) := by decide +kernel
theorem dX12_readOrder_115 : decode cX12_readOrder 115 = .ok (.if_icmp .eq 22, 3) := by decide +kernel
theorem dX12_readOrder_118 : decode cX12_readOrder 118 = .ok (.aload_n 0, 1) := by decide +kernel
theorem dX12_readOrder_119 : decode cX12_readOrder 119 = .ok (.iload_n 2, 1) := by decide +kernel
theorem dX12_readOrder_120 : decode cX12_readOrder 120 = .ok (.iconst 1, 1) := by decide +kernel
theorem dX12_readOrder_121 : decode cX12_readOrder 121 = .ok (.iadd, 1) := by decide +kernel
theorem dX12_readOrder_122 : decode cX12_readOrder 122 = .ok (.invokevirtual 531, 3) := by decide +kernel
theorem dX12_readOrder_125 : decode cX12_readOrder 125 = .ok (.aload_n 0, 1) := by decide +kernel
theorem dX12_readOrder_126 : decode cX12_readOrder 126 = .ok (.iload_n 1, 1) := by decide +kernel
theorem dX12_readOrder_127 : decode cX12_readOrder 127 = .ok (.invokevirtual 534, 3) := by decide +kernel
theorem dX12_readOrder_130 : decode cX12_readOrder 130 = .ok (.aload_n 0, 1) := by decide +kernel
theorem dX12_readOrder_131 : decode cX12_readOrder 131 = .ok (.iload_n 2, 1) := by decide +kernel
theorem dX12_readOrder_132 : decode cX12_readOrder 132 = .ok (.iconst 3, 1) := by decide +kernel
theorem dX12_readOrder_133 : decode cX12_readOrder 133 = .ok (.iadd, 1) := by decide +kernel
theorem dX12_readOrder_134 : decode cX12_readOrder 134 = .ok (.invokevirtual 531, 3) := by decide +kernel
theorem dX12_readOrder_137 : decode cX12_readOrder 137 = .ok (.iload_n 1, 1) := by decide +kernel
theorem dX12_readOrder_138 : decode cX12_readOrder 138 = .ok (.ifCond .ne 15, 3) := by decide +kernel
theorem dX12_readOrder_141 : decode cX12_readOrder 141 = .ok (.aload_n 0, 1) := by decide +kernel
theorem dX12_readOrder_142 : decode cX12_readOrder 142 = .ok (.iconst 1, 1) := by decide +kernel
theorem dX12_readOrder_143 : decode cX12_readOrder 143 = .ok (.invokevirtual 534, 3) := by decide +kernel
theorem dX12_readOrder_146 : decode cX12_readOrder 146 = .ok (.aload_n 0, 1) := by decide +kernel
theorem dX12_readOrder_147 : decode cX12_readOrder 147 = .ok (.iload_n 2, 1) := by decide +kernel
theorem dX12_readOrder_148 : decode cX12_readOrder 148 = .ok (.iconst 5, 1) := by decide +kernel
theorem dX12_readOrder_149 : decode cX12_readOrder 149 = .ok (.iadd, 1) := by decide +kernel
theorem dX12_readOrder_150 : decode cX12_readOrder 150 = .ok (.invokevirtual 531, 3) := by decide +kernel
theorem dX12_readOrder_153 : decode cX12_readOrder 153 = .ok (.aload_n 0, 1) := by decide +kernel
theorem dX12_readOrder_154 : decode cX12_readOrder 154 = .ok (.getfield 163, 3) := by decide +kernel
theorem dX12_readOrder_157 : decode cX12_readOrder 157 = .ok (.iload_n 2, 1) := by decide +kernel
theorem dX12_readOrder_158 : decode cX12_readOrder 158 = .ok (.bipush 9, 2) := by decide +kernel
theorem dX12_readOrder_160 : decode cX12_readOrder 160 = .ok (.iadd, 1) := by decide +kernel
theorem dX12_readOrder_161 : decode cX12_readOrder 161 = .ok (.iconst 1, 1) := by decide +kernel
theorem dX12_readOrder_162 : decode cX12_readOrder 162 = .ok (.iastore, 1) := by decide +kernel
theorem dX12_readOrder_163 : decode cX12_readOrder 163 = .ok (.aload_n 0, 1) := by decide +kernel
theorem dX12_readOrder_164 : decode cX12_readOrder 164 = .ok (.getfield 275, 3) := by decide +kernel
theorem dX12_readOrder_167 : decode cX12_readOrder 167 = .ok (.ifCond .ne 34, 3) := by decide +kernel
theorem dX12_readOrder_170 : decode cX12_readOrder 170 = .ok (.aload_n 0, 1) := by decide +kernel
theorem dX12_readOrder_171 : decode cX12_readOrder 171 = .ok (.ldc2_w 537, 3) := by decide +kernel
theorem dX12_readOrder_174 : decode cX12_readOrder 174 = .ok (.invokevirtual 331, 3) := by decide +kernel
theorem dX12_readOrder_177 : decode cX12_readOrder 177 = .ok (.ifCond .eq 24, 3) := by decide +kernel
theorem dX12_readOrder_180 : decode cX12_readOrder 180 = .ok (.aload_n 0, 1) := by decide +kernel
theorem dX12_readOrder_181 : decode cX12_readOrder 181 = .ok (.invokevirtual 279, 3) := by decide +kernel
theorem dX12_readOrder_184 : decode cX12_readOrder 184 = .ok (.aload_n 0, 1) := by decide +kernel
theorem dX12_readOrder_185 : decode cX12_readOrder 185 = .ok (.getfield 163, 3) := by decide +kernel
theorem dX12_readOrder_188 : decode cX12_readOrder 188 = .ok (.iload_n 2, 1) := by decide +kernel
theorem dX12_readOrder_189 : decode cX12_readOrder 189 = .ok (.bipush 9, 2) := by decide +kernel
theorem dX12_readOrder_191 : decode cX12_readOrder 191 = .ok (.iadd, 1) := by decide +kernel
theorem dX12_readOrder_192 : decode cX12_readOrder 192 = .ok (.aload_n 0, 1) := by decide +kernel
theorem dX12_readOrder_193 : decode cX12_readOrder 193 = .ok (.lconst 1, 1) := by decide +kernel
theorem dX12_readOrder_194 : decode cX12_readOrder 194 = .ok (.ldc2_w 211, 3) := by decide +kernel
theorem dX12_readOrder_197 : decode cX12_readOrder 197 = .ok (.invokevirtual 368, 3) := by decide +kernel
theorem dX12_readOrder_200 : decode cX12_readOrder 200 = .ok (.iastore, 1) := by decide +kernel
theorem dX12_readOrder_201 : decode cX12_readOrder 201 = .ok (.aload_n 0, 1) := by decide +kernel
theorem dX12_readOrder_202 : decode cX12_readOrder 202 = .ok (.getfield 163, 3) := by decide +kernel
theorem dX12_readOrder_205 : decode cX12_readOrder 205 = .ok (.iload_n 2, 1) := by decide +kernel
theorem dX12_readOrder_206 : decode cX12_readOrder 206 = .ok (.bipush 7, 2) := by decide +kernel
theorem dX12_readOrder_208 : decode cX12_readOrder 208 = .ok (.iadd, 1) := by decide +kernel
theorem dX12_readOrder_209 : decode cX12_readOrder 209 = .ok (.aload_n 0, 1) := by decide +kernel
theorem dX12_readOrder_210 : decode cX12_readOrder 210 = .ok (.getfield 312, 3) := by decide +kernel
theorem dX12_readOrder_213 : decode cX12_readOrder 213 = .ok (.iastore, 1) := by decide +kernel
theorem dX12_readOrder_214 : decode cX12_readOrder 214 = .ok (.aload_n 0, 1) := by decide +kernel
theorem dX12_readOrder_215 : decode cX12_readOrder 215 = .ok (.getfield 275, 3) := by decide +kernel
theorem dX12_readOrder_218 : decode cX12_readOrder 218 = .ok (.ifCond .ne 22, 3) := by decide +kernel
theorem dX12_readOrder_221 : decode cX12_readOrder 221 = .ok (.aload_n 0, 1) := by decide +kernel
theorem dX12_readOrder_222 : decode cX12_readOrder 222 = .ok (.ldc2_w 410, 3) := by decide +kernel
theorem dX12_readOrder_225 : decode cX12_readOrder 225 = .ok (.invokevirtual 331, 3) := by decide +kernel
theorem dX12_readOrder_228 : decode cX12_readOrder 228 = .ok (.ifCond .eq 12, 3) := by decide +kernel
theorem dX12_readOrder_231 : decode cX12_readOrder 231 = .ok (.aload_n 0, 1) := by decide +kernel
theorem dX12_readOrder_232 : decode cX12_readOrder 232 = .ok (.invokevirtual 279, 3) := by decide +kernel
theorem dX12_readOrder_235 : decode cX12_readOrder 235 = .ok (.aload_n 0, 1) := by decide +kernel
theorem dX12_readOrder_236 : decode cX12_readOrder 236 = .ok (.iconst 1, 1) := by decide +kernel
theorem dX12_readOrder_237 : decode cX12_readOrder 237 = .ok (.invokevirtual 407, 3) := by decide +kernel
theorem dX12_readOrder_240 : decode cX12_readOrder 240 = .ok (.aload_n 0, 1) := by decide +kernel
theorem dX12_readOrder_241 : decode cX12_readOrder 241 = .ok (.getfield 163, 3) := by decide +kernel
theorem dX12_readOrder_244 : decode cX12_readOrder 244 = .ok (.iload_n 2, 1) := by decide +kernel
theorem dX12_readOrder_245 : decode cX12_readOrder 245 = .ok (.bipush 8, 2) := by decide +kernel
theorem dX12_readOrder_247 : decode cX12_readOrder 247 = .ok (.iadd, 1) := by decide +kernel
theorem dX12_readOrder_248 : decode cX12_readOrder 248 = .ok (.aload_n 0, 1) := by decide +kernel
theorem dX12_readOrder_249 : decode cX12_readOrder 249 = .ok (.getfield 312, 3) := by decide +kernel
theorem dX12_readOrder_252 : decode cX12_readOrder 252 = .ok (.iastore, 1) := by decide +kernel
theorem dX12_readOrder_253 : decode cX12_readOrder 253 = .ok (.return_, 1) := by decide +kernel
theorem dX12_sumOf_0 : decode cX12_sumOf 0 = .ok (.aload_n 0, 1) := by decide +kernel
theorem dX12_sumOf_1 : decode cX12_sumOf 1 = .ok (.getfield 539, 3) := by decide +kernel
theorem dX12_sumOf_4 : decode cX12_sumOf 4 = .ok (.ifCond .ne 20, 3) := by decide +kernel
theorem dX12_sumOf_7 : decode cX12_sumOf 7 = .ok (.aload_n 0, 1) := by decide +kernel
theorem dX12_sumOf_8 : decode cX12_sumOf 8 = .ok (.getfield 163, 3) := by decide +kernel
theorem dX12_sumOf_11 : decode cX12_sumOf 11 = .ok (.iload_n 1, 1) := by decide +kernel
theorem dX12_sumOf_12 : decode cX12_sumOf 12 = .ok (.iaload, 1) := by decide +kernel
theorem dX12_sumOf_13 : decode cX12_sumOf 13 = .ok (.aload_n 0, 1) := by decide +kernel
theorem dX12_sumOf_14 : decode cX12_sumOf 14 = .ok (.getfield 163, 3) := by decide +kernel
theorem dX12_sumOf_17 : decode cX12_sumOf 17 = .ok (.iload_n 1, 1) := by decide +kernel
theorem dX12_sumOf_18 : decode cX12_sumOf 18 = .ok (.iconst 1, 1) := by decide +kernel
theorem dX12_sumOf_19 : decode cX12_sumOf 19 = .ok (.iadd, 1) := by decide +kernel
theorem dX12_sumOf_20 : decode cX12_sumOf 20 = .ok (.iaload, 1) := by decide +kernel
theorem dX12_sumOf_21 : decode cX12_sumOf 21 = .ok (.if_icmp .ne 5, 3) := by decide +kernel
theorem dX12_sumOf_24 : decode cX12_sumOf 24 = .ok (.iconst (-1), 1) := by decide +kernel
theorem dX12_sumOf_25 : decode cX12_sumOf 25 = .ok (.ireturn, 1) := by decide +kernel
theorem dX12_sumOf_26 : decode cX12_sumOf 26 = .ok (.aload_n 0, 1) := by decide +kernel
theorem dX12_sumOf_27 : decode cX12_sumOf 27 = .ok (.iconst 1, 1) := by decide +kernel
theorem dX12_sumOf_28 : decode cX12_sumOf 28 = .ok (.putfield 350, 3) := by decide +kernel
theorem dX12_sumOf_31 : decode cX12_sumOf 31 = .ok (.aload_n 0, 1) := by decide +kernel
theorem dX12_sumOf_32 : decode cX12_sumOf 32 = .ok (.aload_n 0, 1) := by decide +kernel
theorem dX12_sumOf_33 : decode cX12_sumOf 33 = .ok (.getfield 163, 3) := by decide +kernel
theorem dX12_sumOf_36 : decode cX12_sumOf 36 = .ok (.iload_n 1, 1) := by decide +kernel
theorem dX12_sumOf_37 : decode cX12_sumOf 37 = .ok (.iaload, 1) := by decide +kernel
theorem dX12_sumOf_38 : decode cX12_sumOf 38 = .ok (.aload_n 0, 1) := by decide +kernel
theorem dX12_sumOf_39 : decode cX12_sumOf 39 = .ok (.getfield 163, 3) := by decide +kernel
theorem dX12_sumOf_42 : decode cX12_sumOf 42 = .ok (.iload_n 1, 1) := by decide +kernel
theorem dX12_sumOf_43 : decode cX12_sumOf 43 = .ok (.iconst 1, 1) := by decide +kernel
theorem dX12_sumOf_44 : decode cX12_sumOf 44 = .ok (.iadd, 1) := by decide +kernel
theorem dX12_sumOf_45 : decode cX12_sumOf 45 = .ok (.iaload, 1) := by decide +kernel
theorem dX12_sumOf_46 : decode cX12_sumOf 46 = .ok (.invokevirtual 441, 3) := by decide +kernel
theorem dX12_sumOf_49 : decode cX12_sumOf 49 = .ok (.aload_n 0, 1) := by decide +kernel
theorem dX12_sumOf_50 : decode cX12_sumOf 50 = .ok (.iconst 0, 1) := by decide +kernel
theorem dX12_sumOf_51 : decode cX12_sumOf 51 = .ok (.putfield 350, 3) := by decide +kernel
theorem dX12_sumOf_54 : decode cX12_sumOf 54 = .ok (.aload_n 0, 1) := by decide +kernel
theorem dX12_sumOf_55 : decode cX12_sumOf 55 = .ok (.aload_n 0, 1) := by decide +kernel
theorem dX12_sumOf_56 : decode cX12_sumOf 56 = .ok (.getfield 424, 3) := by decide +kernel
theorem dX12_sumOf_59 : decode cX12_sumOf 59 = .ok (.putfield 539, 3) := by decide +kernel
theorem dX12_sumOf_62 : decode cX12_sumOf 62 = .ok (.aload_n 0, 1) := by decide +kernel
theorem dX12_sumOf_63 : decode cX12_sumOf 63 = .ok (.getfield 438, 3) := by decide +kernel
theorem dX12_sumOf_66 : decode cX12_sumOf 66 = .ok (.l2i, 1) := by decide +kernel
theorem dX12_sumOf_67 : decode cX12_sumOf 67 = .ok (.ireturn, 1) := by decide +kernel
theorem dX12_act_0 : decode cX12_act 0 = .ok (.iload_n 1, 1) := by decide +kernel
theorem dX12_act_1 : decode cX12_act 1 = .ok (.tableswitch 50 0 2 #[27, 36, 43], 27) := by decide +kernel
theorem dX12_act_28 : decode cX12_act 28 = .ok (.aload_n 0, 1) := by decide +kernel
theorem dX12_act_29 : decode cX12_act 29 = .ok (.iload_n 2, 1) := by decide +kernel
theorem dX12_act_30 : decode cX12_act 30 = .ok (.iload_n 3, 1) := by decide +kernel
theorem dX12_act_31 : decode cX12_act 31 = .ok (.iload 4, 2) := by decide +kernel
theorem dX12_act_33 : decode cX12_act 33 = .ok (.invokevirtual 468, 3) := by decide +kernel
theorem dX12_act_36 : decode cX12_act 36 = .ok (.ireturn, 1) := by decide +kernel
theorem dX12_act_37 : decode cX12_act 37 = .ok (.aload_n 0, 1) := by decide +kernel
theorem dX12_act_38 : decode cX12_act 38 = .ok (.iload_n 2, 1) := by decide +kernel
theorem dX12_act_39 : decode cX12_act 39 = .ok (.iload_n 3, 1) := by decide +kernel
theorem dX12_act_40 : decode cX12_act 40 = .ok (.invokevirtual 472, 3) := by decide +kernel
theorem dX12_act_43 : decode cX12_act 43 = .ok (.ireturn, 1) := by decide +kernel
theorem dX12_act_44 : decode cX12_act 44 = .ok (.aload_n 0, 1) := by decide +kernel
theorem dX12_act_45 : decode cX12_act 45 = .ok (.iload_n 2, 1) := by decide +kernel
theorem dX12_act_46 : decode cX12_act 46 = .ok (.iload_n 3, 1) := by decide +kernel
theorem dX12_act_47 : decode cX12_act 47 = .ok (.invokevirtual 475, 3) := by decide +kernel
theorem dX12_act_50 : decode cX12_act 50 = .ok (.ireturn, 1) := by decide +kernel
theorem dX12_act_51 : decode cX12_act 51 = .ok (.aload_n 0, 1) := by decide +kernel
theorem dX12_act_52 : decode cX12_act 52 = .ok (.invokevirtual 481, 3) := by decide +kernel
theorem dX12_act_55 : decode cX12_act 55 = .ok (.ireturn, 1) := by decide +kernel
theorem dX12_run_0 : decode cX12_run 0 = .ok (.aload_n 0, 1) := by decide +kernel
theorem dX12_run_1 : decode cX12_run 1 = .ok (.getfield 104, 3) := by decide +kernel
theorem dX12_run_4 : decode cX12_run 4 = .ok (.iconst 1, 1) := by decide +kernel
theorem dX12_run_5 : decode cX12_run 5 = .ok (.aload_n 0, 1) := by decide +kernel
theorem dX12_run_6 : decode cX12_run 6 = .ok (.getfield 13, 3) := by decide +kernel
theorem dX12_run_9 : decode cX12_run 9 = .ok (.iconst 5, 1) := by decide +kernel
theorem dX12_run_10 : decode cX12_run 10 = .ok (.iaload, 1) := by decide +kernel
theorem dX12_run_11 : decode cX12_run 11 = .ok (.i2l, 1) := by decide +kernel
theorem dX12_run_12 : decode cX12_run 12 = .ok (.lastore, 1) := by decide +kernel
theorem dX12_run_13 : decode cX12_run 13 = .ok (.aload_n 0, 1) := by decide +kernel
theorem dX12_run_14 : decode cX12_run 14 = .ok (.getfield 104, 3) := by decide +kernel
theorem dX12_run_17 : decode cX12_run 17 = .ok (.iconst 2, 1) := by decide +kernel
theorem dX12_run_18 : decode cX12_run 18 = .ok (.aload_n 0, 1) := by decide +kernel
theorem dX12_run_19 : decode cX12_run 19 = .ok (.getfield 542, 3) := by decide +kernel
theorem dX12_run_22 : decode cX12_run 22 = .ok (.i2l, 1) := by decide +kernel
theorem dX12_run_23 : decode cX12_run 23 = .ok (.lastore, 1) := by decide +kernel
theorem dX12_run_24 : decode cX12_run 24 = .ok (.aload_n 0, 1) := by decide +kernel
theorem dX12_run_25 : decode cX12_run 25 = .ok (.getfield 104, 3) := by decide +kernel
theorem dX12_run_28 : decode cX12_run 28 = .ok (.iconst 3, 1) := by decide +kernel
theorem dX12_run_29 : decode cX12_run 29 = .ok (.aload_n 0, 1) := by decide +kernel
theorem dX12_run_30 : decode cX12_run 30 = .ok (.getfield 545, 3) := by decide +kernel
theorem dX12_run_33 : decode cX12_run 33 = .ok (.i2l, 1) := by decide +kernel
theorem dX12_run_34 : decode cX12_run 34 = .ok (.lastore, 1) := by decide +kernel
theorem dX12_run_35 : decode cX12_run 35 = .ok (.aload_n 0, 1) := by decide +kernel
theorem dX12_run_36 : decode cX12_run 36 = .ok (.getfield 104, 3) := by decide +kernel
theorem dX12_run_39 : decode cX12_run 39 = .ok (.iconst 4, 1) := by decide +kernel
theorem dX12_run_40 : decode cX12_run 40 = .ok (.aload_n 0, 1) := by decide +kernel
theorem dX12_run_41 : decode cX12_run 41 = .ok (.invokevirtual 548, 3) := by decide +kernel
theorem dX12_run_44 : decode cX12_run 44 = .ok (.i2l, 1) := by decide +kernel
theorem dX12_run_45 : decode cX12_run 45 = .ok (.lastore, 1) := by decide +kernel
theorem dX12_run_46 : decode cX12_run 46 = .ok (.aload_n 0, 1) := by decide +kernel
theorem dX12_run_47 : decode cX12_run 47 = .ok (.iconst 0, 1) := by decide +kernel
theorem dX12_run_48 : decode cX12_run 48 = .ok (.putfield 539, 3) := by decide +kernel
theorem dX12_run_51 : decode cX12_run 51 = .ok (.aload_n 0, 1) := by decide +kernel
theorem dX12_run_52 : decode cX12_run 52 = .ok (.getfield 163, 3) := by decide +kernel
theorem dX12_run_55 : decode cX12_run 55 = .ok (.iload_n 1, 1) := by decide +kernel
theorem dX12_run_56 : decode cX12_run 56 = .ok (.bipush 7, 2) := by decide +kernel
theorem dX12_run_58 : decode cX12_run 58 = .ok (.iadd, 1) := by decide +kernel
theorem dX12_run_59 : decode cX12_run 59 = .ok (.iaload, 1) := by decide +kernel
theorem dX12_run_60 : decode cX12_run 60 = .ok (.aload_n 0, 1) := by decide +kernel
theorem dX12_run_61 : decode cX12_run 61 = .ok (.getfield 163, 3) := by decide +kernel
theorem dX12_run_64 : decode cX12_run 64 = .ok (.iload_n 1, 1) := by decide +kernel
theorem dX12_run_65 : decode cX12_run 65 = .ok (.bipush 8, 2) := by decide +kernel
theorem dX12_run_67 : decode cX12_run 67 = .ok (.iadd, 1) := by decide +kernel
theorem dX12_run_68 : decode cX12_run 68 = .ok (.iaload, 1) := by decide +kernel
theorem dX12_run_69 : decode cX12_run 69 = .ok (.if_icmp .ge 25, 3) := by decide +kernel
theorem dX12_run_72 : decode cX12_run 72 = .ok (.aload_n 0, 1) := by decide +kernel
theorem dX12_run_73 : decode cX12_run 73 = .ok (.iload_n 1, 1) := by decide +kernel
theorem dX12_run_74 : decode cX12_run 74 = .ok (.bipush 7, 2) := by decide +kernel
theorem dX12_run_76 : decode cX12_run 76 = .ok (.iadd, 1) := by decide +kernel
theorem dX12_run_77 : decode cX12_run 77 = .ok (.invokevirtual 551, 3) := by decide +kernel
theorem dX12_run_80 : decode cX12_run 80 = .ok (.istore_n 2, 1) := by decide +kernel
theorem dX12_run_81 : decode cX12_run 81 = .ok (.aload_n 0, 1) := by decide +kernel
theorem dX12_run_82 : decode cX12_run 82 = .ok (.getfield 539, 3) := by decide +kernel
theorem dX12_run_85 : decode cX12_run 85 = .ok (.ifCond .ne 7, 3) := by decide +kernel
theorem dX12_run_88 : decode cX12_run 88 = .ok (.iload_n 2, 1) := by decide +kernel
theorem dX12_run_89 : decode cX12_run 89 = .ok (.ifCond .ne 5, 3) := by decide +kernel
theorem dX12_run_92 : decode cX12_run 92 = .ok (.iconst 0, 1) := by decide +kernel
theorem dX12_run_93 : decode cX12_run 93 = .ok (.ireturn, 1) := by decide +kernel
theorem dX12_run_94 : decode cX12_run 94 = .ok (.aload_n 0, 1) := by decide +kernel
theorem dX12_run_95 : decode cX12_run 95 = .ok (.iload_n 1, 1) := by decide +kernel
theorem dX12_run_96 : decode cX12_run 96 = .ok (.iconst 1, 1) := by decide +kernel
theorem dX12_run_97 : decode cX12_run 97 = .ok (.iadd, 1) := by decide +kernel
theorem dX12_run_98 : decode cX12_run 98 = .ok (.invokevirtual 551, 3) := by decide +kernel
theorem dX12_run_101 : decode cX12_run 101 = .ok (.istore_n 2, 1) := by decide +kernel
theorem dX12_run_102 : decode cX12_run 102 = .ok (.aload_n 0, 1) := by decide +kernel
theorem dX12_run_103 : decode cX12_run 103 = .ok (.iload_n 1, 1) := by decide +kernel
theorem dX12_run_104 : decode cX12_run 104 = .ok (.iconst 3, 1) := by decide +kernel
theorem dX12_run_105 : decode cX12_run 105 = .ok (.iadd, 1) := by decide +kernel
theorem dX12_run_106 : decode cX12_run 106 = .ok (.invokevirtual 551, 3) := by decide +kernel
theorem dX12_run_109 : decode cX12_run 109 = .ok (.istore_n 3, 1) := by decide +kernel
theorem dX12_run_110 : decode cX12_run 110 = .ok (.aload_n 0, 1) := by decide +kernel
theorem dX12_run_111 : decode cX12_run 111 = .ok (.iload_n 1, 1) := by decide +kernel
theorem dX12_run_112 : decode cX12_run 112 = .ok (.iconst 5, 1) := by decide +kernel
theorem dX12_run_113 : decode cX12_run 113 = .ok (.iadd, 1) := by decide +kernel
theorem dX12_run_114 : decode cX12_run 114 = .ok (.invokevirtual 551, 3) := by decide +kernel
theorem dX12_run_117 : decode cX12_run 117 = .ok (.istore 4, 2) := by decide +kernel
theorem dX12_run_119 : decode cX12_run 119 = .ok (.aload_n 0, 1) := by decide +kernel
theorem dX12_run_120 : decode cX12_run 120 = .ok (.getfield 539, 3) := by decide +kernel
theorem dX12_run_123 : decode cX12_run 123 = .ok (.ifCond .eq 6, 3) := by decide +kernel
theorem dX12_run_126 : decode cX12_run 126 = .ok (.bipush (-3), 2) := by decide +kernel
theorem dX12_run_128 : decode cX12_run 128 = .ok (.ireturn, 1) := by decide +kernel
theorem dX12_run_129 : decode cX12_run 129 = .ok (.aload_n 0, 1) := by decide +kernel
theorem dX12_run_130 : decode cX12_run 130 = .ok (.aload_n 0, 1) := by decide +kernel
theorem dX12_run_131 : decode cX12_run 131 = .ok (.getfield 163, 3) := by decide +kernel
theorem dX12_run_134 : decode cX12_run 134 = .ok (.iload_n 1, 1) := by decide +kernel
theorem dX12_run_135 : decode cX12_run 135 = .ok (.iaload, 1) := by decide +kernel
theorem dX12_run_136 : decode cX12_run 136 = .ok (.iload_n 2, 1) := by decide +kernel
theorem dX12_run_137 : decode cX12_run 137 = .ok (.iload_n 3, 1) := by decide +kernel
theorem dX12_run_138 : decode cX12_run 138 = .ok (.iload 4, 2) := by decide +kernel
theorem dX12_run_140 : decode cX12_run 140 = .ok (.invokevirtual 554, 3) := by decide +kernel
theorem dX12_run_143 : decode cX12_run 143 = .ok (.istore 5, 2) := by decide +kernel
theorem dX12_run_145 : decode cX12_run 145 = .ok (.iload 5, 2) := by decide +kernel
theorem dX12_run_147 : decode cX12_run 147 = .ok (.ifCond .ge 6, 3) := by decide +kernel
theorem dX12_run_150 : decode cX12_run 150 = .ok (.bipush (-3), 2) := by decide +kernel
theorem dX12_run_152 : decode cX12_run 152 = .ok (.ireturn, 1) := by decide +kernel
theorem dX12_run_153 : decode cX12_run 153 = .ok (.aload_n 0, 1) := by decide +kernel
theorem dX12_run_154 : decode cX12_run 154 = .ok (.aload_n 0, 1) := by decide +kernel
theorem dX12_run_155 : decode cX12_run 155 = .ok (.getfield 163, 3) := by decide +kernel
theorem dX12_run_158 : decode cX12_run 158 = .ok (.iload_n 1, 1) := by decide +kernel
theorem dX12_run_159 : decode cX12_run 159 = .ok (.iaload, 1) := by decide +kernel
theorem dX12_run_160 : decode cX12_run 160 = .ok (.iconst 2, 1) := by decide +kernel
theorem dX12_run_161 : decode cX12_run 161 = .ok (.if_icmp .ne 8, 3) := by decide +kernel
theorem dX12_run_164 : decode cX12_run 164 = .ok (.iload 5, 2) := by decide +kernel
theorem dX12_run_166 : decode cX12_run 166 = .ok (.goto 7, 3) := by decide +kernel
theorem dX12_run_169 : decode cX12_run 169 = .ok (.aload_n 0, 1) := by decide +kernel
theorem dX12_run_170 : decode cX12_run 170 = .ok (.getfield 545, 3) := by decide +kernel
theorem dX12_run_173 : decode cX12_run 173 = .ok (.putfield 545, 3) := by decide +kernel
theorem dX12_run_176 : decode cX12_run 176 = .ok (.aload_n 0, 1) := by decide +kernel
theorem dX12_run_177 : decode cX12_run 177 = .ok (.dup, 1) := by decide +kernel
theorem dX12_run_178 : decode cX12_run 178 = .ok (.getfield 542, 3) := by decide +kernel
theorem dX12_run_181 : decode cX12_run 181 = .ok (.iconst 1, 1) := by decide +kernel
theorem dX12_run_182 : decode cX12_run 182 = .ok (.iadd, 1) := by decide +kernel
theorem dX12_run_183 : decode cX12_run 183 = .ok (.putfield 542, 3) := by decide +kernel
theorem dX12_run_186 : decode cX12_run 186 = .ok (.iconst 0, 1) := by decide +kernel
theorem dX12_run_187 : decode cX12_run 187 = .ok (.ireturn, 1) := by decide +kernel
theorem dX12_orders_0 : decode cX12_orders 0 = .ok (.aload_n 0, 1) := by decide +kernel
theorem dX12_orders_1 : decode cX12_orders 1 = .ok (.iconst 0, 1) := by decide +kernel
theorem dX12_orders_2 : decode cX12_orders 2 = .ok (.putfield 175, 3) := by decide +kernel
theorem dX12_orders_5 : decode cX12_orders 5 = .ok (.aload_n 0, 1) := by decide +kernel
theorem dX12_orders_6 : decode cX12_orders 6 = .ok (.iconst (-1), 1) := by decide +kernel
theorem dX12_orders_7 : decode cX12_orders 7 = .ok (.putfield 166, 3) := by decide +kernel
theorem dX12_orders_10 : decode cX12_orders 10 = .ok (.aload_n 0, 1) := by decide +kernel
theorem dX12_orders_11 : decode cX12_orders 11 = .ok (.iconst 1, 1) := by decide +kernel
theorem dX12_orders_12 : decode cX12_orders 12 = .ok (.invokevirtual 412, 3) := by decide +kernel
theorem dX12_orders_15 : decode cX12_orders 15 = .ok (.aload_n 0, 1) := by decide +kernel
theorem dX12_orders_16 : decode cX12_orders 16 = .ok (.invokevirtual 557, 3) := by decide +kernel
theorem dX12_orders_19 : decode cX12_orders 19 = .ok (.aload_n 0, 1) := by decide +kernel
theorem dX12_orders_20 : decode cX12_orders 20 = .ok (.getfield 275, 3) := by decide +kernel
theorem dX12_orders_23 : decode cX12_orders 23 = .ok (.ifCond .ne 23, 3) := by decide +kernel
theorem dX12_orders_26 : decode cX12_orders 26 = .ok (.aload_n 0, 1) := by decide +kernel
theorem dX12_orders_27 : decode cX12_orders 27 = .ok (.bipush 59, 2) := by decide +kernel
theorem dX12_orders_29 : decode cX12_orders 29 = .ok (.invokevirtual 344, 3) := by decide +kernel
theorem dX12_orders_32 : decode cX12_orders 32 = .ok (.ifCond .eq 14, 3) := by decide +kernel
theorem dX12_orders_35 : decode cX12_orders 35 = .ok (.aload_n 0, 1) := by decide +kernel
theorem dX12_orders_36 : decode cX12_orders 36 = .ok (.invokevirtual 279, 3) := by decide +kernel
theorem dX12_orders_39 : decode cX12_orders 39 = .ok (.aload_n 0, 1) := by decide +kernel
theorem dX12_orders_40 : decode cX12_orders 40 = .ok (.invokevirtual 557, 3) := by decide +kernel
theorem dX12_orders_43 : decode cX12_orders 43 = .ok (.goto (-24), 3) := by decide +kernel
theorem dX12_orders_46 : decode cX12_orders 46 = .ok (.aload_n 0, 1) := by decide +kernel
theorem dX12_orders_47 : decode cX12_orders 47 = .ok (.invokevirtual 418, 3) := by decide +kernel
theorem dX12_orders_50 : decode cX12_orders 50 = .ok (.aload_n 0, 1) := by decide +kernel
theorem dX12_orders_51 : decode cX12_orders 51 = .ok (.getfield 275, 3) := by decide +kernel
theorem dX12_orders_54 : decode cX12_orders 54 = .ok (.ifCond .eq 10, 3) := by decide +kernel
theorem dX12_orders_57 : decode cX12_orders 57 = .ok (.aload_n 0, 1) := by decide +kernel
theorem dX12_orders_58 : decode cX12_orders 58 = .ok (.bipush (-6), 2) := by decide +kernel
theorem dX12_orders_60 : decode cX12_orders 60 = .ok (.invokevirtual 184, 3) := by decide +kernel
theorem dX12_orders_63 : decode cX12_orders 63 = .ok (.ireturn, 1) := by decide +kernel
theorem dX12_orders_64 : decode cX12_orders 64 = .ok (.aload_n 0, 1) := by decide +kernel
theorem dX12_orders_65 : decode cX12_orders 65 = .ok (.bipush 17, 2) := by decide +kernel
theorem dX12_orders_67 : decode cX12_orders 67 = .ok (.invokevirtual 188, 3) := by decide +kernel
theorem dX12_orders_70 : decode cX12_orders 70 = .ok (.aload_n 0, 1) := by decide +kernel
theorem dX12_orders_71 : decode cX12_orders 71 = .ok (.getfield 181, 3) := by decide +kernel
theorem dX12_orders_74 : decode cX12_orders 74 = .ok (.istore_n 1, 1) := by decide +kernel
theorem dX12_orders_75 : decode cX12_orders 75 = .ok (.iconst 0, 1) := by decide +kernel
theorem dX12_orders_76 : decode cX12_orders 76 = .ok (.istore_n 2, 1) := by decide +kernel
theorem dX12_orders_77 : decode cX12_orders 77 = .ok (.iload_n 2, 1) := by decide +kernel
theorem dX12_orders_78 : decode cX12_orders 78 = .ok (.sipush 1200, 3) := by decide +kernel
theorem dX12_orders_81 : decode cX12_orders 81 = .ok (.if_icmp .ge 21, 3) := by decide +kernel
theorem dX12_orders_84 : decode cX12_orders 84 = .ok (.aload_n 0, 1) := by decide +kernel
theorem dX12_orders_85 : decode cX12_orders 85 = .ok (.getfield 29, 3) := by decide +kernel
theorem dX12_orders_88 : decode cX12_orders 88 = .ok (.iload_n 2, 1) := by decide +kernel
theorem dX12_orders_89 : decode cX12_orders 89 = .ok (.aload_n 0, 1) := by decide +kernel
theorem dX12_orders_90 : decode cX12_orders 90 = .ok (.getfield 23, 3) := by decide +kernel
theorem dX12_orders_93 : decode cX12_orders 93 = .ok (.iload_n 2, 1) := by decide +kernel
theorem dX12_orders_94 : decode cX12_orders 94 = .ok (.iaload, 1) := by decide +kernel
theorem dX12_orders_95 : decode cX12_orders 95 = .ok (.iastore, 1) := by decide +kernel
theorem dX12_orders_96 : decode cX12_orders 96 = .ok (.iinc 2 1, 3) := by decide +kernel
theorem dX12_orders_99 : decode cX12_orders 99 = .ok (.goto (-22), 3) := by decide +kernel
theorem dX12_orders_102 : decode cX12_orders 102 = .ok (.iconst 0, 1) := by decide +kernel
theorem dX12_orders_103 : decode cX12_orders 103 = .ok (.istore_n 2, 1) := by decide +kernel
theorem dX12_orders_104 : decode cX12_orders 104 = .ok (.iload_n 2, 1) := by decide +kernel
theorem dX12_orders_105 : decode cX12_orders 105 = .ok (.bipush 16, 2) := by decide +kernel
theorem dX12_orders_107 : decode cX12_orders 107 = .ok (.if_icmp .ge 21, 3) := by decide +kernel
theorem dX12_orders_110 : decode cX12_orders 110 = .ok (.aload_n 0, 1) := by decide +kernel
theorem dX12_orders_111 : decode cX12_orders 111 = .ok (.getfield 32, 3) := by decide +kernel
theorem dX12_orders_114 : decode cX12_orders 114 = .ok (.iload_n 2, 1) := by decide +kernel
theorem dX12_orders_115 : decode cX12_orders 115 = .ok (.aload_n 0, 1) := by decide +kernel
theorem dX12_orders_116 : decode cX12_orders 116 = .ok (.getfield 26, 3) := by decide +kernel
theorem dX12_orders_119 : decode cX12_orders 119 = .ok (.iload_n 2, 1) := by decide +kernel
theorem dX12_orders_120 : decode cX12_orders 120 = .ok (.iaload, 1) := by decide +kernel
theorem dX12_orders_121 : decode cX12_orders 121 = .ok (.iastore, 1) := by decide +kernel
theorem dX12_orders_122 : decode cX12_orders 122 = .ok (.iinc 2 1, 3) := by decide +kernel
theorem dX12_orders_125 : decode cX12_orders 125 = .ok (.goto (-21), 3) := by decide +kernel
theorem dX12_orders_128 : decode cX12_orders 128 = .ok (.aload_n 0, 1) := by decide +kernel
theorem dX12_orders_129 : decode cX12_orders 129 = .ok (.iconst 0, 1) := by decide +kernel
theorem dX12_orders_130 : decode cX12_orders 130 = .ok (.putfield 542, 3) := by decide +kernel
theorem dX12_orders_133 : decode cX12_orders 133 = .ok (.aload_n 0, 1) := by decide +kernel
theorem dX12_orders_134 : decode cX12_orders 134 = .ok (.iconst (-1), 1) := by decide +kernel
theorem dX12_orders_135 : decode cX12_orders 135 = .ok (.putfield 545, 3) := by decide +kernel
theorem dX12_orders_138 : decode cX12_orders 138 = .ok (.iconst 0, 1) := by decide +kernel
theorem dX12_orders_139 : decode cX12_orders 139 = .ok (.istore_n 2, 1) := by decide +kernel
theorem dX12_orders_140 : decode cX12_orders 140 = .ok (.iload_n 2, 1) := by decide +kernel
theorem dX12_orders_141 : decode cX12_orders 141 = .ok (.aload_n 0, 1) := by decide +kernel
theorem dX12_orders_142 : decode cX12_orders 142 = .ok (.getfield 404, 3) := by decide +kernel
theorem dX12_orders_145 : decode cX12_orders 145 = .ok (.if_icmp .ge 61, 3) := by decide +kernel
theorem dX12_orders_148 : decode cX12_orders 148 = .ok (.iconst 0, 1) := by decide +kernel
theorem dX12_orders_149 : decode cX12_orders 149 = .ok (.istore_n 3, 1) := by decide +kernel
theorem dX12_orders_150 : decode cX12_orders 150 = .ok (.iload_n 3, 1) := by decide +kernel
theorem dX12_orders_151 : decode cX12_orders 151 = .ok (.aload_n 0, 1) := by decide +kernel
theorem dX12_orders_152 : decode cX12_orders 152 = .ok (.getfield 163, 3) := by decide +kernel
theorem dX12_orders_155 : decode cX12_orders 155 = .ok (.bipush 10, 2) := by decide +kernel
theorem dX12_orders_157 : decode cX12_orders 157 = .ok (.iload_n 2, 1) := by decide +kernel
theorem dX12_orders_158 : decode cX12_orders 158 = .ok (.imul, 1) := by decide +kernel
theorem dX12_orders_159 : decode cX12_orders 159 = .ok (.bipush 9, 2) := by decide +kernel
theorem dX12_orders_161 : decode cX12_orders 161 = .ok (.iadd, 1) := by decide +kernel
theorem dX12_orders_162 : decode cX12_orders 162 = .ok (.iaload, 1) := by decide +kernel
theorem dX12_orders_163 : decode cX12_orders 163 = .ok (.if_icmp .ge 37, 3) := by decide +kernel
theorem dX12_orders_166 : decode cX12_orders 166 = .ok (.aload_n 0, 1) := by decide +kernel
theorem dX12_orders_167 : decode cX12_orders 167 = .ok (.bipush 10, 2) := by decide +kernel
theorem dX12_orders_169 : decode cX12_orders 169 = .ok (.iload_n 2, 1) := by decide +kernel
theorem dX12_orders_170 : decode cX12_orders 170 = .ok (.imul, 1) := by decide +kernel
theorem dX12_orders_171 : decode cX12_orders 171 = .ok (.invokevirtual 560, 3) := by decide +kernel
theorem dX12_orders_174 : decode cX12_orders 174 = .ok (.ifCond .ge 20, 3) := by decide +kernel
theorem dX12_orders_177 : decode cX12_orders 177 = .ok (.aload_n 0, 1) := by decide +kernel
theorem dX12_orders_178 : decode cX12_orders 178 = .ok (.iload_n 1, 1) := by decide +kernel
theorem dX12_orders_179 : decode cX12_orders 179 = .ok (.invokevirtual 563, 3) := by decide +kernel
theorem dX12_orders_182 : decode cX12_orders 182 = .ok (.aload_n 0, 1) := by decide +kernel
theorem dX12_orders_183 : decode cX12_orders 183 = .ok (.iload_n 2, 1) := by decide +kernel
theorem dX12_orders_184 : decode cX12_orders 184 = .ok (.putfield 166, 3) := by decide +kernel
theorem dX12_orders_187 : decode cX12_orders 187 = .ok (.aload_n 0, 1) := by decide +kernel
theorem dX12_orders_188 : decode cX12_orders 188 = .ok (.bipush (-3), 2) := by decide +kernel
theorem dX12_orders_190 : decode cX12_orders 190 = .ok (.invokevirtual 184, 3) := by decide +kernel
theorem dX12_orders_193 : decode cX12_orders 193 = .ok (.ireturn, 1) := by decide +kernel
theorem dX12_orders_194 : decode cX12_orders 194 = .ok (.iinc 3 1, 3) := by decide +kernel
theorem dX12_orders_197 : decode cX12_orders 197 = .ok (.goto (-47), 3) := by decide +kernel
theorem dX12_orders_200 : decode cX12_orders 200 = .ok (.iinc 2 1, 3) := by decide +kernel
theorem dX12_orders_203 : decode cX12_orders 203 = .ok (.goto (-63), 3) := by decide +kernel
theorem dX12_orders_206 : decode cX12_orders 206 = .ok (.aload_n 0, 1) := by decide +kernel
theorem dX12_orders_207 : decode cX12_orders 207 = .ok (.aload_n 0, 1) := by decide +kernel
theorem dX12_orders_208 : decode cX12_orders 208 = .ok (.getfield 542, 3) := by decide +kernel
theorem dX12_orders_211 : decode cX12_orders 211 = .ok (.invokevirtual 184, 3) := by decide +kernel
theorem dX12_orders_214 : decode cX12_orders 214 = .ok (.ireturn, 1) := by decide +kernel
theorem dX12_giveBack_0 : decode cX12_giveBack 0 = .ok (.aload_n 0, 1) := by decide +kernel
theorem dX12_giveBack_1 : decode cX12_giveBack 1 = .ok (.bipush 17, 2) := by decide +kernel
theorem dX12_giveBack_3 : decode cX12_giveBack 3 = .ok (.invokevirtual 192, 3) := by decide +kernel
theorem dX12_giveBack_6 : decode cX12_giveBack 6 = .ok (.iconst 0, 1) := by decide +kernel
theorem dX12_giveBack_7 : decode cX12_giveBack 7 = .ok (.istore_n 2, 1) := by decide +kernel
theorem dX12_giveBack_8 : decode cX12_giveBack 8 = .ok (.iload_n 2, 1) := by decide +kernel
theorem dX12_giveBack_9 : decode cX12_giveBack 9 = .ok (.sipush 1200, 3) := by decide +kernel
theorem dX12_giveBack_12 : decode cX12_giveBack 12 = .ok (.if_icmp .ge 21, 3) := by decide +kernel
theorem dX12_giveBack_15 : decode cX12_giveBack 15 = .ok (.aload_n 0, 1) := by decide +kernel
theorem dX12_giveBack_16 : decode cX12_giveBack 16 = .ok (.getfield 23, 3) := by decide +kernel
theorem dX12_giveBack_19 : decode cX12_giveBack 19 = .ok (.iload_n 2, 1) := by decide +kernel
theorem dX12_giveBack_20 : decode cX12_giveBack 20 = .ok (.aload_n 0, 1) := by decide +kernel
theorem dX12_giveBack_21 : decode cX12_giveBack 21 = .ok (.getfield 29, 3) := by decide +kernel
theorem dX12_giveBack_24 : decode cX12_giveBack 24 = .ok (.iload_n 2, 1) := by decide +kernel
theorem dX12_giveBack_25 : decode cX12_giveBack 25 = .ok (.iaload, 1) := by decide +kernel
theorem dX12_giveBack_26 : decode cX12_giveBack 26 = .ok (.iastore, 1) := by decide +kernel
theorem dX12_giveBack_27 : decode cX12_giveBack 27 = .ok (.iinc 2 1, 3) := by decide +kernel
theorem dX12_giveBack_30 : decode cX12_giveBack 30 = .ok (.goto (-22), 3) := by decide +kernel
theorem dX12_giveBack_33 : decode cX12_giveBack 33 = .ok (.iconst 0, 1) := by decide +kernel
theorem dX12_giveBack_34 : decode cX12_giveBack 34 = .ok (.istore_n 2, 1) := by decide +kernel
theorem dX12_giveBack_35 : decode cX12_giveBack 35 = .ok (.iload_n 2, 1) := by decide +kernel
theorem dX12_giveBack_36 : decode cX12_giveBack 36 = .ok (.bipush 16, 2) := by decide +kernel
theorem dX12_giveBack_38 : decode cX12_giveBack 38 = .ok (.if_icmp .ge 21, 3) := by decide +kernel
theorem dX12_giveBack_41 : decode cX12_giveBack 41 = .ok (.aload_n 0, 1) := by decide +kernel
theorem dX12_giveBack_42 : decode cX12_giveBack 42 = .ok (.getfield 26, 3) := by decide +kernel
theorem dX12_giveBack_45 : decode cX12_giveBack 45 = .ok (.iload_n 2, 1) := by decide +kernel
theorem dX12_giveBack_46 : decode cX12_giveBack 46 = .ok (.aload_n 0, 1) := by decide +kernel
theorem dX12_giveBack_47 : decode cX12_giveBack 47 = .ok (.getfield 32, 3) := by decide +kernel
theorem dX12_giveBack_50 : decode cX12_giveBack 50 = .ok (.iload_n 2, 1) := by decide +kernel
theorem dX12_giveBack_51 : decode cX12_giveBack 51 = .ok (.iaload, 1) := by decide +kernel
theorem dX12_giveBack_52 : decode cX12_giveBack 52 = .ok (.iastore, 1) := by decide +kernel
theorem dX12_giveBack_53 : decode cX12_giveBack 53 = .ok (.iinc 2 1, 3) := by decide +kernel
theorem dX12_giveBack_56 : decode cX12_giveBack 56 = .ok (.goto (-21), 3) := by decide +kernel
theorem dX12_giveBack_59 : decode cX12_giveBack 59 = .ok (.aload_n 0, 1) := by decide +kernel
theorem dX12_giveBack_60 : decode cX12_giveBack 60 = .ok (.iload_n 1, 1) := by decide +kernel
theorem dX12_giveBack_61 : decode cX12_giveBack 61 = .ok (.putfield 181, 3) := by decide +kernel
theorem dX12_giveBack_64 : decode cX12_giveBack 64 = .ok (.return_, 1) := by decide +kernel
theorem dX12_stopped_0 : decode cX12_stopped 0 = .ok (.aload_n 0, 1) := by decide +kernel
theorem dX12_stopped_1 : decode cX12_stopped 1 = .ok (.iconst 0, 1) := by decide +kernel
theorem dX12_stopped_2 : decode cX12_stopped 2 = .ok (.putfield 175, 3) := by decide +kernel
theorem dX12_stopped_5 : decode cX12_stopped 5 = .ok (.aload_n 0, 1) := by decide +kernel
theorem dX12_stopped_6 : decode cX12_stopped 6 = .ok (.getfield 166, 3) := by decide +kernel
theorem dX12_stopped_9 : decode cX12_stopped 9 = .ok (.ireturn, 1) := by decide +kernel
theorem dX12_draw_0 : decode cX12_draw 0 = .ok (.aload_n 0, 1) := by decide +kernel
theorem dX12_draw_1 : decode cX12_draw 1 = .ok (.aload_n 0, 1) := by decide +kernel
theorem dX12_draw_2 : decode cX12_draw 2 = .ok (.getfield 566, 3) := by decide +kernel
theorem dX12_draw_5 : decode cX12_draw 5 = .ok (.ldc2_w 569, 3) := by decide +kernel
theorem dX12_draw_8 : decode cX12_draw 8 = .ok (.lmul, 1) := by decide +kernel
theorem dX12_draw_9 : decode cX12_draw 9 = .ok (.ldc2_w 571, 3) := by decide +kernel
theorem dX12_draw_12 : decode cX12_draw 12 = .ok (.ladd, 1) := by decide +kernel
theorem dX12_draw_13 : decode cX12_draw 13 = .ok (.ldc2_w 573, 3) := by decide +kernel
theorem dX12_draw_16 : decode cX12_draw 16 = .ok (.lrem, 1) := by decide +kernel
theorem dX12_draw_17 : decode cX12_draw 17 = .ok (.putfield 566, 3) := by decide +kernel
theorem dX12_draw_20 : decode cX12_draw 20 = .ok (.aload_n 0, 1) := by decide +kernel
theorem dX12_draw_21 : decode cX12_draw 21 = .ok (.getfield 566, 3) := by decide +kernel
theorem dX12_draw_24 : decode cX12_draw 24 = .ok (.iload_n 1, 1) := by decide +kernel
theorem dX12_draw_25 : decode cX12_draw 25 = .ok (.i2l, 1) := by decide +kernel
theorem dX12_draw_26 : decode cX12_draw 26 = .ok (.lrem, 1) := by decide +kernel
theorem dX12_draw_27 : decode cX12_draw 27 = .ok (.l2i, 1) := by decide +kernel
theorem dX12_draw_28 : decode cX12_draw 28 = .ok (.ireturn, 1) := by decide +kernel
theorem dX12_generations_0 : decode cX12_generations 0 = .ok (.aload_n 0, 1) := by decide +kernel
theorem dX12_generations_1 : decode cX12_generations 1 = .ok (.iconst 0, 1) := by decide +kernel
theorem dX12_generations_2 : decode cX12_generations 2 = .ok (.putfield 175, 3) := by decide +kernel
theorem dX12_generations_5 : decode cX12_generations 5 = .ok (.iload_n 1, 1) := by decide +kernel
theorem dX12_generations_6 : decode cX12_generations 6 = .ok (.i2l, 1) := by decide +kernel
theorem dX12_generations_7 : decode cX12_generations 7 = .ok (.lconst 0, 1) := by decide +kernel
theorem dX12_generations_8 : decode cX12_generations 8 = .ok (.ldc2_w 304, 3) := by decide +kernel
theorem dX12_generations_11 : decode cX12_generations 11 = .ok (.invokestatic 195, 3) := by decide +kernel
theorem dX12_generations_14 : decode cX12_generations 14 = .ok (.ifCond .eq 15, 3) := by decide +kernel
theorem dX12_generations_17 : decode cX12_generations 17 = .ok (.iload_n 2, 1) := by decide +kernel
theorem dX12_generations_18 : decode cX12_generations 18 = .ok (.i2l, 1) := by decide +kernel
theorem dX12_generations_19 : decode cX12_generations 19 = .ok (.lconst 1, 1) := by decide +kernel
theorem dX12_generations_20 : decode cX12_generations 20 = .ok (.ldc2_w 239, 3) := by decide +kernel
theorem dX12_generations_23 : decode cX12_generations 23 = .ok (.invokestatic 195, 3) := by decide +kernel
theorem dX12_generations_26 : decode cX12_generations 26 = .ok (.ifCond .ne 9, 3) := by decide +kernel
theorem dX12_generations_29 : decode cX12_generations 29 = .ok (.aload_n 0, 1) := by decide +kernel
theorem dX12_generations_30 : decode cX12_generations 30 = .ok (.iconst (-1), 1) := by decide +kernel
theorem dX12_generations_31 : decode cX12_generations 31 = .ok (.invokevirtual 184, 3) := by decide +kernel
theorem dX12_generations_34 : decode cX12_generations 34 = .ok (.ireturn, 1) := by decide +kernel
theorem dX12_generations_35 : decode cX12_generations 35 = .ok (.aload_n 0, 1) := by decide +kernel
theorem dX12_generations_36 : decode cX12_generations 36 = .ok (.getfield 13, 3) := by decide +kernel
theorem dX12_generations_39 : decode cX12_generations 39 = .ok (.iconst 0, 1) := by decide +kernel
theorem dX12_generations_40 : decode cX12_generations 40 = .ok (.iaload, 1) := by decide +kernel
theorem dX12_generations_41 : decode cX12_generations 41 = .ok (.ifCond .ne 10, 3) := by decide +kernel
theorem dX12_generations_44 : decode cX12_generations 44 = .ok (.aload_n 0, 1) := by decide +kernel
theorem dX12_generations_45 : decode cX12_generations 45 = .ok (.bipush (-3), 2) := by decide +kernel
theorem dX12_generations_47 : decode cX12_generations 47 = .ok (.invokevirtual 184, 3) := by decide +kernel
theorem dX12_generations_50 : decode cX12_generations 50 = .ok (.ireturn, 1) := by decide +kernel
theorem dX12_generations_51 : decode cX12_generations 51 = .ok (.aload_n 0, 1) := by decide +kernel
theorem dX12_generations_52 : decode cX12_generations 52 = .ok (.bipush 16, 2) := by decide +kernel
theorem dX12_generations_54 : decode cX12_generations 54 = .ok (.invokevirtual 188, 3) := by decide +kernel
theorem dX12_generations_57 : decode cX12_generations 57 = .ok (.aload_n 0, 1) := by decide +kernel
theorem dX12_generations_58 : decode cX12_generations 58 = .ok (.iload_n 1, 1) := by decide +kernel
theorem dX12_generations_59 : decode cX12_generations 59 = .ok (.i2l, 1) := by decide +kernel
theorem dX12_generations_60 : decode cX12_generations 60 = .ok (.putfield 566, 3) := by decide +kernel
theorem dX12_generations_63 : decode cX12_generations 63 = .ok (.iconst 0, 1) := by decide +kernel
theorem dX12_generations_64 : decode cX12_generations 64 = .ok (.istore_n 3, 1) := by decide +kernel
theorem dX12_generations_65 : decode cX12_generations 65 = .ok (.iconst 0, 1) := by decide +kernel
theorem dX12_generations_66 : decode cX12_generations 66 = .ok (.istore 4, 2) := by decide +kernel
theorem dX12_generations_68 : decode cX12_generations 68 = .ok (.iload 4, 2) := by decide +kernel
theorem dX12_generations_70 : decode cX12_generations 70 = .ok (.iload_n 2, 1) := by decide +kernel
theorem dX12_generations_71 : decode cX12_generations 71 = .ok (.if_icmp .ge 162, 3) := by decide +kernel
theorem dX12_generations_74 : decode cX12_generations 74 = .ok (.aload_n 0, 1) := by decide +kernel
theorem dX12_generations_75 : decode cX12_generations 75 = .ok (.getfield 13, 3) := by decide +kernel
theorem dX12_generations_78 : decode cX12_generations 78 = .ok (.iconst 5, 1) := by decide +kernel
theorem dX12_generations_79 : decode cX12_generations 79 = .ok (.iaload, 1) := by decide +kernel
theorem dX12_generations_80 : decode cX12_generations 80 = .ok (.sipush 999, 3) := by decide +kernel
theorem dX12_generations_83 : decode cX12_generations 83 = .ok (.if_icmp .ge 150, 3) := by decide +kernel
theorem dX12_generations_86 : decode cX12_generations 86 = .ok (.aload_n 0, 1) := by decide +kernel
theorem dX12_generations_87 : decode cX12_generations 87 = .ok (.aload_n 0, 1) := by decide +kernel
theorem dX12_generations_88 : decode cX12_generations 88 = .ok (.getfield 13, 3) := by decide +kernel
theorem dX12_generations_91 : decode cX12_generations 91 = .ok (.iconst 0, 1) := by decide +kernel
theorem dX12_generations_92 : decode cX12_generations 92 = .ok (.iaload, 1) := by decide +kernel
theorem dX12_generations_93 : decode cX12_generations 93 = .ok (.invokevirtual 575, 3) := by decide +kernel
theorem dX12_generations_96 : decode cX12_generations 96 = .ok (.istore 5, 2) := by decide +kernel
theorem dX12_generations_98 : decode cX12_generations 98 = .ok (.aload_n 0, 1) := by decide +kernel
theorem dX12_generations_99 : decode cX12_generations 99 = .ok (.bipush 8, 2) := by decide +kernel
theorem dX12_generations_101 : decode cX12_generations 101 = .ok (.invokevirtual 575, 3) := by decide +kernel
theorem dX12_generations_104 : decode cX12_generations 104 = .ok (.istore 6, 2) := by decide +kernel
theorem dX12_generations_106 : decode cX12_generations 106 = .ok (.aload_n 0, 1) := by decide +kernel
theorem dX12_generations_107 : decode cX12_generations 107 = .ok (.bipush 8, 2) := by decide +kernel
theorem dX12_generations_109 : decode cX12_generations 109 = .ok (.invokevirtual 575, 3) := by decide +kernel
theorem dX12_generations_112 : decode cX12_generations 112 = .ok (.istore 7, 2) := by decide +kernel
theorem dX12_generations_114 : decode cX12_generations 114 = .ok (.aload_n 0, 1) := by decide +kernel
theorem dX12_generations_115 : decode cX12_generations 115 = .ok (.iconst 3, 1) := by decide +kernel
theorem dX12_generations_116 : decode cX12_generations 116 = .ok (.invokevirtual 575, 3) := by decide +kernel
theorem dX12_generations_119 : decode cX12_generations 119 = .ok (.istore 8, 2) := by decide +kernel
theorem dX12_generations_121 : decode cX12_generations 121 = .ok (.iload 8, 2) := by decide +kernel
theorem dX12_generations_123 : decode cX12_generations 123 = .ok (.ifCond .ne 39, 3) := by decide +kernel
theorem dX12_generations_126 : decode cX12_generations 126 = .ok (.aload_n 0, 1) := by decide +kernel
theorem dX12_generations_127 : decode cX12_generations 127 = .ok (.iload 7, 2) := by decide +kernel
theorem dX12_generations_129 : decode cX12_generations 129 = .ok (.iload 6, 2) := by decide +kernel
theorem dX12_generations_131 : decode cX12_generations 131 = .ok (.iload 5, 2) := by decide +kernel
theorem dX12_generations_133 : decode cX12_generations 133 = .ok (.invokevirtual 461, 3) := by decide +kernel
theorem dX12_generations_136 : decode cX12_generations 136 = .ok (.ifCond .eq 26, 3) := by decide +kernel
theorem dX12_generations_139 : decode cX12_generations 139 = .ok (.aload_n 0, 1) := by decide +kernel
theorem dX12_generations_140 : decode cX12_generations 140 = .ok (.getfield 13, 3) := by decide +kernel
theorem dX12_generations_143 : decode cX12_generations 143 = .ok (.bipush 8, 2) := by decide +kernel
theorem dX12_generations_145 : decode cX12_generations 145 = .ok (.bipush 8, 2) := by decide +kernel
theorem dX12_generations_147 : decode cX12_generations 147 = .ok (.iload 5, 2) := by decide +kernel
theorem dX12_generations_149 : decode cX12_generations 149 = .ok (.imul, 1) := by decide +kernel
theorem dX12_generations_150 : decode cX12_generations 150 = .ok (.iadd, 1) := by decide +kernel
theorem dX12_generations_151 : decode cX12_generations 151 = .ok (.iload 6, 2) := by decide +kernel
theorem dX12_generations_153 : decode cX12_generations 153 = .ok (.iadd, 1) := by decide +kernel
theorem dX12_generations_154 : decode cX12_generations 154 = .ok (.dup2, 1) := by decide +kernel
theorem dX12_generations_155 : decode cX12_generations 155 = .ok (.iaload, 1) := by decide +kernel
theorem dX12_generations_156 : decode cX12_generations 156 = .ok (.iconst 1, 1) := by decide +kernel
theorem dX12_generations_157 : decode cX12_generations 157 = .ok (.iload 7, 2) := by decide +kernel
theorem dX12_generations_159 : decode cX12_generations 159 = .ok (.ishl, 1) := by decide +kernel
theorem dX12_generations_160 : decode cX12_generations 160 = .ok (.isub, 1) := by decide +kernel
theorem dX12_generations_161 : decode cX12_generations 161 = .ok (.iastore, 1) := by decide +kernel
theorem dX12_generations_162 : decode cX12_generations 162 = .ok (.iload 8, 2) := by decide +kernel
theorem dX12_generations_164 : decode cX12_generations 164 = .ok (.iconst 1, 1) := by decide +kernel
theorem dX12_generations_165 : decode cX12_generations 165 = .ok (.if_icmp .ne 20, 3) := by decide +kernel
theorem dX12_generations_168 : decode cX12_generations 168 = .ok (.aload_n 0, 1) := by decide +kernel
theorem dX12_generations_169 : decode cX12_generations 169 = .ok (.getfield 13, 3) := by decide +kernel
theorem dX12_generations_172 : decode cX12_generations 172 = .ok (.bipush 56, 2) := by decide +kernel
theorem dX12_generations_174 : decode cX12_generations 174 = .ok (.iload 5, 2) := by decide +kernel
theorem dX12_generations_176 : decode cX12_generations 176 = .ok (.iadd, 1) := by decide +kernel
theorem dX12_generations_177 : decode cX12_generations 177 = .ok (.dup2, 1) := by decide +kernel
theorem dX12_generations_178 : decode cX12_generations 178 = .ok (.iaload, 1) := by decide +kernel
theorem dX12_generations_179 : decode cX12_generations 179 = .ok (.iconst 1, 1) := by decide +kernel
theorem dX12_generations_180 : decode cX12_generations 180 = .ok (.iload 7, 2) := by decide +kernel
theorem dX12_generations_182 : decode cX12_generations 182 = .ok (.ishl, 1) := by decide +kernel
theorem dX12_generations_183 : decode cX12_generations 183 = .ok (.ior, 1) := by decide +kernel
theorem dX12_generations_184 : decode cX12_generations 184 = .ok (.iastore, 1) := by decide +kernel
theorem dX12_generations_185 : decode cX12_generations 185 = .ok (.iload 8, 2) := by decide +kernel
theorem dX12_generations_187 : decode cX12_generations 187 = .ok (.iconst 2, 1) := by decide +kernel
theorem dX12_generations_188 : decode cX12_generations 188 = .ok (.if_icmp .ne 32, 3) := by decide +kernel
theorem dX12_generations_191 : decode cX12_generations 191 = .ok (.aload_n 0, 1) := by decide +kernel
theorem dX12_generations_192 : decode cX12_generations 192 = .ok (.getfield 13, 3) := by decide +kernel
theorem dX12_generations_195 : decode cX12_generations 195 = .ok (.bipush 62, 2) := by decide +kernel
theorem dX12_generations_197 : decode cX12_generations 197 = .ok (.iload 5, 2) := by decide +kernel
theorem dX12_generations_199 : decode cX12_generations 199 = .ok (.iadd, 1) := by decide +kernel
theorem dX12_generations_200 : decode cX12_generations 200 = .ok (.aload_n 0, 1) := by decide +kernel
theorem dX12_generations_201 : decode cX12_generations 201 = .ok (.getfield 13, 3) := by decide +kernel
theorem dX12_generations_204 : decode cX12_generations 204 = .ok (.bipush 62, 2) := by decide +kernel
theorem dX12_generations_206 : decode cX12_generations 206 = .ok (.iload 5, 2) := by decide +kernel
theorem dX12_generations_208 : decode cX12_generations 208 = .ok (.iadd, 1) := by decide +kernel
theorem dX12_generations_209 : decode cX12_generations 209 = .ok (.iaload, 1) := by decide +kernel
theorem dX12_generations_210 : decode cX12_generations 210 = .ok (.iconst 1, 1) := by decide +kernel
theorem dX12_generations_211 : decode cX12_generations 211 = .ok (.isub, 1) := by decide +kernel
theorem dX12_generations_212 : decode cX12_generations 212 = .ok (.i2l, 1) := by decide +kernel
theorem dX12_generations_213 : decode cX12_generations 213 = .ok (.iconst 0, 1) := by decide +kernel
theorem dX12_generations_214 : decode cX12_generations 214 = .ok (.bipush 20, 2) := by decide +kernel
theorem dX12_generations_216 : decode cX12_generations 216 = .ok (.invokestatic 454, 3) := by decide +kernel
theorem dX12_generations_219 : decode cX12_generations 219 = .ok (.iastore, 1) := by decide +kernel
theorem dX12_generations_220 : decode cX12_generations 220 = .ok (.iload_n 3, 1) := by decide +kernel
theorem dX12_generations_221 : decode cX12_generations 221 = .ok (.aload_n 0, 1) := by decide +kernel
theorem dX12_generations_222 : decode cX12_generations 222 = .ok (.invokevirtual 478, 3) := by decide +kernel
theorem dX12_generations_225 : decode cX12_generations 225 = .ok (.iadd, 1) := by decide +kernel
theorem dX12_generations_226 : decode cX12_generations 226 = .ok (.istore_n 3, 1) := by decide +kernel
theorem dX12_generations_227 : decode cX12_generations 227 = .ok (.iinc 4 1, 3) := by decide +kernel
theorem dX12_generations_230 : decode cX12_generations 230 = .ok (.goto (-162), 3) := by decide +kernel
theorem dX12_generations_233 : decode cX12_generations 233 = .ok (.aload_n 0, 1) := by decide +kernel
theorem dX12_generations_234 : decode cX12_generations 234 = .ok (.aload_n 0, 1) := by decide +kernel
theorem dX12_generations_235 : decode cX12_generations 235 = .ok (.getfield 13, 3) := by decide +kernel
theorem dX12_generations_238 : decode cX12_generations 238 = .ok (.iconst 0, 1) := by decide +kernel
theorem dX12_generations_239 : decode cX12_generations 239 = .ok (.iaload, 1) := by decide +kernel
theorem dX12_generations_240 : decode cX12_generations 240 = .ok (.putfield 172, 3) := by decide +kernel
theorem dX12_generations_243 : decode cX12_generations 243 = .ok (.iconst 0, 1) := by decide +kernel
theorem dX12_generations_244 : decode cX12_generations 244 = .ok (.istore 4, 2) := by decide +kernel
theorem dX12_generations_246 : decode cX12_generations 246 = .ok (.iload 4, 2) := by decide +kernel
theorem dX12_generations_248 : decode cX12_generations 248 = .ok (.aload_n 0, 1) := by decide +kernel
theorem dX12_generations_249 : decode cX12_generations 249 = .ok (.getfield 172, 3) := by decide +kernel
theorem dX12_generations_252 : decode cX12_generations 252 = .ok (.if_icmp .ge 62, 3) := by decide +kernel
theorem dX12_generations_255 : decode cX12_generations 255 = .ok (.aload_n 0, 1) := by decide +kernel
theorem dX12_generations_256 : decode cX12_generations 256 = .ok (.getfield 169, 3) := by decide +kernel
theorem dX12_generations_259 : decode cX12_generations 259 = .ok (.iload 4, 2) := by decide +kernel
theorem dX12_generations_261 : decode cX12_generations 261 = .ok (.aload_n 0, 1) := by decide +kernel
theorem dX12_generations_262 : decode cX12_generations 262 = .ok (.iload 4, 2) := by decide +kernel
theorem dX12_generations_264 : decode cX12_generations 264 = .ok (.invokevirtual 219, 3) := by decide +kernel
theorem dX12_generations_267 : decode cX12_generations 267 = .ok (.iastore, 1) := by decide +kernel
theorem dX12_generations_268 : decode cX12_generations 268 = .ok (.aload_n 0, 1) := by decide +kernel
theorem dX12_generations_269 : decode cX12_generations 269 = .ok (.getfield 169, 3) := by decide +kernel
theorem dX12_generations_272 : decode cX12_generations 272 = .ok (.bipush 6, 2) := by decide +kernel
theorem dX12_generations_274 : decode cX12_generations 274 = .ok (.iload 4, 2) := by decide +kernel
theorem dX12_generations_276 : decode cX12_generations 276 = .ok (.iadd, 1) := by decide +kernel
theorem dX12_generations_277 : decode cX12_generations 277 = .ok (.aload_n 0, 1) := by decide +kernel
theorem dX12_generations_278 : decode cX12_generations 278 = .ok (.getfield 13, 3) := by decide +kernel
theorem dX12_generations_281 : decode cX12_generations 281 = .ok (.bipush 62, 2) := by decide +kernel
theorem dX12_generations_283 : decode cX12_generations 283 = .ok (.iload 4, 2) := by decide +kernel
theorem dX12_generations_285 : decode cX12_generations 285 = .ok (.iadd, 1) := by decide +kernel
theorem dX12_generations_286 : decode cX12_generations 286 = .ok (.iaload, 1) := by decide +kernel
theorem dX12_generations_287 : decode cX12_generations 287 = .ok (.iastore, 1) := by decide +kernel
theorem dX12_generations_288 : decode cX12_generations 288 = .ok (.aload_n 0, 1) := by decide +kernel
theorem dX12_generations_289 : decode cX12_generations 289 = .ok (.getfield 169, 3) := by decide +kernel
theorem dX12_generations_292 : decode cX12_generations 292 = .ok (.bipush 12, 2) := by decide +kernel
theorem dX12_generations_294 : decode cX12_generations 294 = .ok (.iload 4, 2) := by decide +kernel
theorem dX12_generations_296 : decode cX12_generations 296 = .ok (.iadd, 1) := by decide +kernel
theorem dX12_generations_297 : decode cX12_generations 297 = .ok (.aload_n 0, 1) := by decide +kernel
theorem dX12_generations_298 : decode cX12_generations 298 = .ok (.getfield 13, 3) := by decide +kernel
theorem dX12_generations_301 : decode cX12_generations 301 = .ok (.bipush 74, 2) := by decide +kernel
theorem dX12_generations_303 : decode cX12_generations 303 = .ok (.iload 4, 2) := by decide +kernel
theorem dX12_generations_305 : decode cX12_generations 305 = .ok (.iadd, 1) := by decide +kernel
theorem dX12_generations_306 : decode cX12_generations 306 = .ok (.iaload, 1) := by decide +kernel
theorem dX12_generations_307 : decode cX12_generations 307 = .ok (.iastore, 1) := by decide +kernel
theorem dX12_generations_308 : decode cX12_generations 308 = .ok (.iinc 4 1, 3) := by decide +kernel
theorem dX12_generations_311 : decode cX12_generations 311 = .ok (.goto (-65), 3) := by decide +kernel
theorem dX12_generations_314 : decode cX12_generations 314 = .ok (.aload_n 0, 1) := by decide +kernel
theorem dX12_generations_315 : decode cX12_generations 315 = .ok (.bipush 16, 2) := by decide +kernel
theorem dX12_generations_317 : decode cX12_generations 317 = .ok (.invokevirtual 192, 3) := by decide +kernel
theorem dX12_generations_320 : decode cX12_generations 320 = .ok (.aload_n 0, 1) := by decide +kernel
theorem dX12_generations_321 : decode cX12_generations 321 = .ok (.iload_n 3, 1) := by decide +kernel
theorem dX12_generations_322 : decode cX12_generations 322 = .ok (.invokevirtual 184, 3) := by decide +kernel
theorem dX12_generations_325 : decode cX12_generations 325 = .ok (.ireturn, 1) := by decide +kernel
theorem dX12_drawn_0 : decode cX12_drawn 0 = .ok (.aload_n 0, 1) := by decide +kernel
theorem dX12_drawn_1 : decode cX12_drawn 1 = .ok (.iconst 0, 1) := by decide +kernel
theorem dX12_drawn_2 : decode cX12_drawn 2 = .ok (.putfield 175, 3) := by decide +kernel
theorem dX12_drawn_5 : decode cX12_drawn 5 = .ok (.iload_n 1, 1) := by decide +kernel
theorem dX12_drawn_6 : decode cX12_drawn 6 = .ok (.i2l, 1) := by decide +kernel
theorem dX12_drawn_7 : decode cX12_drawn 7 = .ok (.lconst 0, 1) := by decide +kernel
theorem dX12_drawn_8 : decode cX12_drawn 8 = .ok (.aload_n 0, 1) := by decide +kernel
theorem dX12_drawn_9 : decode cX12_drawn 9 = .ok (.getfield 172, 3) := by decide +kernel
theorem dX12_drawn_12 : decode cX12_drawn 12 = .ok (.i2l, 1) := by decide +kernel
theorem dX12_drawn_13 : decode cX12_drawn 13 = .ok (.lconst 1, 1) := by decide +kernel
theorem dX12_drawn_14 : decode cX12_drawn 14 = .ok (.lsub, 1) := by decide +kernel
theorem dX12_drawn_15 : decode cX12_drawn 15 = .ok (.invokestatic 195, 3) := by decide +kernel
theorem dX12_drawn_18 : decode cX12_drawn 18 = .ok (.ifCond .eq 29, 3) := by decide +kernel
theorem dX12_drawn_21 : decode cX12_drawn 21 = .ok (.iload_n 2, 1) := by decide +kernel
theorem dX12_drawn_22 : decode cX12_drawn 22 = .ok (.i2l, 1) := by decide +kernel
theorem dX12_drawn_23 : decode cX12_drawn 23 = .ok (.lconst 0, 1) := by decide +kernel
theorem dX12_drawn_24 : decode cX12_drawn 24 = .ok (.ldc2_w 522, 3) := by decide +kernel
theorem dX12_drawn_27 : decode cX12_drawn 27 = .ok (.invokestatic 195, 3) := by decide +kernel
theorem dX12_drawn_30 : decode cX12_drawn 30 = .ok (.ifCond .eq 17, 3) := by decide +kernel
theorem dX12_drawn_33 : decode cX12_drawn 33 = .ok (.aload_n 0, 1) := by decide +kernel
theorem dX12_drawn_34 : decode cX12_drawn 34 = .ok (.getfield 169, 3) := by decide +kernel
theorem dX12_drawn_37 : decode cX12_drawn 37 = .ok (.bipush 6, 2) := by decide +kernel
theorem dX12_drawn_39 : decode cX12_drawn 39 = .ok (.iload_n 2, 1) := by decide +kernel
theorem dX12_drawn_40 : decode cX12_drawn 40 = .ok (.imul, 1) := by decide +kernel
theorem dX12_drawn_41 : decode cX12_drawn 41 = .ok (.iload_n 1, 1) := by decide +kernel
theorem dX12_drawn_42 : decode cX12_drawn 42 = .ok (.iadd, 1) := by decide +kernel
theorem dX12_drawn_43 : decode cX12_drawn 43 = .ok (.iaload, 1) := by decide +kernel
theorem dX12_drawn_44 : decode cX12_drawn 44 = .ok (.goto 4, 3) := by decide +kernel
theorem dX12_drawn_47 : decode cX12_drawn 47 = .ok (.iconst (-1), 1) := by decide +kernel
theorem dX12_drawn_48 : decode cX12_drawn 48 = .ok (.ireturn, 1) := by decide +kernel
theorem dX12_count_0 : decode cX12_count 0 = .ok (.aload_n 0, 1) := by decide +kernel
theorem dX12_count_1 : decode cX12_count 1 = .ok (.iconst 0, 1) := by decide +kernel
theorem dX12_count_2 : decode cX12_count 2 = .ok (.putfield 175, 3) := by decide +kernel
theorem dX12_count_5 : decode cX12_count 5 = .ok (.iload_n 1, 1) := by decide +kernel
theorem dX12_count_6 : decode cX12_count 6 = .ok (.tableswitch 152 0 12 #[66, 73, 80, 85, 92, 99, 104, 109, 116, 123, 130, 137, 145], 66) := by decide +kernel
theorem dX12_count_72 : decode cX12_count 72 = .ok (.aload_n 0, 1) := by decide +kernel
theorem dX12_count_73 : decode cX12_count 73 = .ok (.getfield 13, 3) := by decide +kernel
theorem dX12_count_76 : decode cX12_count 76 = .ok (.iconst 0, 1) := by decide +kernel
theorem dX12_count_77 : decode cX12_count 77 = .ok (.iaload, 1) := by decide +kernel
theorem dX12_count_78 : decode cX12_count 78 = .ok (.ireturn, 1) := by decide +kernel
theorem dX12_count_79 : decode cX12_count 79 = .ok (.aload_n 0, 1) := by decide +kernel
theorem dX12_count_80 : decode cX12_count 80 = .ok (.getfield 13, 3) := by decide +kernel
theorem dX12_count_83 : decode cX12_count 83 = .ok (.iconst 1, 1) := by decide +kernel
theorem dX12_count_84 : decode cX12_count 84 = .ok (.iaload, 1) := by decide +kernel
theorem dX12_count_85 : decode cX12_count 85 = .ok (.ireturn, 1) := by decide +kernel
theorem dX12_count_86 : decode cX12_count 86 = .ok (.aload_n 0, 1) := by decide +kernel
theorem dX12_count_87 : decode cX12_count 87 = .ok (.invokevirtual 548, 3) := by decide +kernel
theorem dX12_count_90 : decode cX12_count 90 = .ok (.ireturn, 1) := by decide +kernel
theorem dX12_count_91 : decode cX12_count 91 = .ok (.aload_n 0, 1) := by decide +kernel
theorem dX12_count_92 : decode cX12_count 92 = .ok (.getfield 13, 3) := by decide +kernel
theorem dX12_count_95 : decode cX12_count 95 = .ok (.iconst 2, 1) := by decide +kernel
theorem dX12_count_96 : decode cX12_count 96 = .ok (.iaload, 1) := by decide +kernel
theorem dX12_count_97 : decode cX12_count 97 = .ok (.ireturn, 1) := by decide +kernel
theorem dX12_count_98 : decode cX12_count 98 = .ok (.aload_n 0, 1) := by decide +kernel
theorem dX12_count_99 : decode cX12_count 99 = .ok (.getfield 13, 3) := by decide +kernel
theorem dX12_count_102 : decode cX12_count 102 = .ok (.iconst 3, 1) := by decide +kernel
theorem dX12_count_103 : decode cX12_count 103 = .ok (.iaload, 1) := by decide +kernel
theorem dX12_count_104 : decode cX12_count 104 = .ok (.ireturn, 1) := by decide +kernel
theorem dX12_count_105 : decode cX12_count 105 = .ok (.aload_n 0, 1) := by decide +kernel
theorem dX12_count_106 : decode cX12_count 106 = .ok (.getfield 181, 3) := by decide +kernel
theorem dX12_count_109 : decode cX12_count 109 = .ok (.ireturn, 1) := by decide +kernel
theorem dX12_count_110 : decode cX12_count 110 = .ok (.aload_n 0, 1) := by decide +kernel
theorem dX12_count_111 : decode cX12_count 111 = .ok (.getfield 263, 3) := by decide +kernel
theorem dX12_count_114 : decode cX12_count 114 = .ok (.ireturn, 1) := by decide +kernel
theorem dX12_count_115 : decode cX12_count 115 = .ok (.aload_n 0, 1) := by decide +kernel
theorem dX12_count_116 : decode cX12_count 116 = .ok (.getfield 7, 3) := by decide +kernel
theorem dX12_count_119 : decode cX12_count 119 = .ok (.iconst 1, 1) := by decide +kernel
theorem dX12_count_120 : decode cX12_count 120 = .ok (.iaload, 1) := by decide +kernel
theorem dX12_count_121 : decode cX12_count 121 = .ok (.ireturn, 1) := by decide +kernel
theorem dX12_count_122 : decode cX12_count 122 = .ok (.aload_n 0, 1) := by decide +kernel
theorem dX12_count_123 : decode cX12_count 123 = .ok (.getfield 7, 3) := by decide +kernel
theorem dX12_count_126 : decode cX12_count 126 = .ok (.iconst 2, 1) := by decide +kernel
theorem dX12_count_127 : decode cX12_count 127 = .ok (.iaload, 1) := by decide +kernel
theorem dX12_count_128 : decode cX12_count 128 = .ok (.ireturn, 1) := by decide +kernel
theorem dX12_count_129 : decode cX12_count 129 = .ok (.aload_n 0, 1) := by decide +kernel
theorem dX12_count_130 : decode cX12_count 130 = .ok (.getfield 7, 3) := by decide +kernel
theorem dX12_count_133 : decode cX12_count 133 = .ok (.iconst 3, 1) := by decide +kernel
theorem dX12_count_134 : decode cX12_count 134 = .ok (.iaload, 1) := by decide +kernel
theorem dX12_count_135 : decode cX12_count 135 = .ok (.ireturn, 1) := by decide +kernel
theorem dX12_count_136 : decode cX12_count 136 = .ok (.aload_n 0, 1) := by decide +kernel
theorem dX12_count_137 : decode cX12_count 137 = .ok (.getfield 7, 3) := by decide +kernel
theorem dX12_count_140 : decode cX12_count 140 = .ok (.iconst 5, 1) := by decide +kernel
theorem dX12_count_141 : decode cX12_count 141 = .ok (.iaload, 1) := by decide +kernel
theorem dX12_count_142 : decode cX12_count 142 = .ok (.ireturn, 1) := by decide +kernel
theorem dX12_count_143 : decode cX12_count 143 = .ok (.aload_n 0, 1) := by decide +kernel
theorem dX12_count_144 : decode cX12_count 144 = .ok (.getfield 7, 3) := by decide +kernel
theorem dX12_count_147 : decode cX12_count 147 = .ok (.bipush 6, 2) := by decide +kernel
theorem dX12_count_149 : decode cX12_count 149 = .ok (.iaload, 1) := by decide +kernel
theorem dX12_count_150 : decode cX12_count 150 = .ok (.ireturn, 1) := by decide +kernel
theorem dX12_count_151 : decode cX12_count 151 = .ok (.aload_n 0, 1) := by decide +kernel
theorem dX12_count_152 : decode cX12_count 152 = .ok (.getfield 13, 3) := by decide +kernel
theorem dX12_count_155 : decode cX12_count 155 = .ok (.iconst 4, 1) := by decide +kernel
theorem dX12_count_156 : decode cX12_count 156 = .ok (.iaload, 1) := by decide +kernel
theorem dX12_count_157 : decode cX12_count 157 = .ok (.ireturn, 1) := by decide +kernel
theorem dX12_count_158 : decode cX12_count 158 = .ok (.iload_n 1, 1) := by decide +kernel
theorem dX12_count_159 : decode cX12_count 159 = .ok (.i2l, 1) := by decide +kernel
theorem dX12_count_160 : decode cX12_count 160 = .ok (.ldc2_w 578, 3) := by decide +kernel
theorem dX12_count_163 : decode cX12_count 163 = .ok (.ldc2_w 580, 3) := by decide +kernel
theorem dX12_count_166 : decode cX12_count 166 = .ok (.invokestatic 195, 3) := by decide +kernel
theorem dX12_count_169 : decode cX12_count 169 = .ok (.ifCond .eq 17, 3) := by decide +kernel
theorem dX12_count_172 : decode cX12_count 172 = .ok (.aload_n 0, 1) := by decide +kernel
theorem dX12_count_173 : decode cX12_count 173 = .ok (.getfield 13, 3) := by decide +kernel
theorem dX12_count_176 : decode cX12_count 176 = .ok (.iconst 5, 1) := by decide +kernel
theorem dX12_count_177 : decode cX12_count 177 = .ok (.iload_n 1, 1) := by decide +kernel
theorem dX12_count_178 : decode cX12_count 178 = .ok (.iadd, 1) := by decide +kernel
theorem dX12_count_179 : decode cX12_count 179 = .ok (.bipush 13, 2) := by decide +kernel
theorem dX12_count_181 : decode cX12_count 181 = .ok (.isub, 1) := by decide +kernel
theorem dX12_count_182 : decode cX12_count 182 = .ok (.iaload, 1) := by decide +kernel
theorem dX12_count_183 : decode cX12_count 183 = .ok (.goto 4, 3) := by decide +kernel
theorem dX12_count_186 : decode cX12_count 186 = .ok (.iconst (-1), 1) := by decide +kernel
theorem dX12_count_187 : decode cX12_count 187 = .ok (.ireturn, 1) := by decide +kernel
theorem dX12_status_0 : decode cX12_status 0 = .ok (.aload_n 0, 1) := by decide +kernel
theorem dX12_status_1 : decode cX12_status 1 = .ok (.iconst 0, 1) := by decide +kernel
theorem dX12_status_2 : decode cX12_status 2 = .ok (.putfield 175, 3) := by decide +kernel
theorem dX12_status_5 : decode cX12_status 5 = .ok (.aload_n 0, 1) := by decide +kernel
theorem dX12_status_6 : decode cX12_status 6 = .ok (.getfield 178, 3) := by decide +kernel
theorem dX12_status_9 : decode cX12_status 9 = .ok (.ireturn, 1) := by decide +kernel
