theorem dX11_init_0 : decode cX11_init 0 = .ok (.aload_n 0, 1) := by decide +kernel
theorem dX11_init_1 : decode cX11_init 1 = .ok (.invokespecial 1, 3) := by decide +kernel
theorem dX11_init_4 : decode cX11_init 4 = .ok (.aload_n 0, 1) := by decide +kernel
theorem dX11_init_5 : decode cX11_init 5 = .ok (.iconst 2, 1) := by decide +kernel
theorem dX11_init_6 : decode cX11_init 6 = .ok (.anewarray 9, 3) := by decide +kernel
theorem dX11_init_9 : decode cX11_init 9 = .ok (.putfield 11, 3) := by decide +kernel
theorem dX11_init_12 : decode cX11_init 12 = .ok (.aload_n 0, 1) := by decide +kernel
theorem dX11_init_13 : decode cX11_init 13 = .ok (.iconst 2, 1) := by decide +kernel
theorem dX11_init_14 : decode cX11_init 14 = .ok (.newarray .boolean, 2) := by decide +kernel
theorem dX11_init_16 : decode cX11_init 16 = .ok (.putfield 15, 3) := by decide +kernel
theorem dX11_init_19 : decode cX11_init 19 = .ok (.aload_n 0, 1) := by decide +kernel
theorem dX11_init_20 : decode cX11_init 20 = .ok (.new 19, 3) := by decide +kernel
theorem dX11_init_23 : decode cX11_init 23 = .ok (.dup, 1) := by decide +kernel
theorem dX11_init_24 : decode cX11_init 24 = .ok (.invokespecial 21, 3) := by decide +kernel
theorem dX11_init_27 : decode cX11_init 27 = .ok (.putfield 22, 3) := by decide +kernel
theorem dX11_init_30 : decode cX11_init 30 = .ok (.aload_n 0, 1) := by decide +kernel
theorem dX11_init_31 : decode cX11_init 31 = .ok (.new 26, 3) := by decide +kernel
theorem dX11_init_34 : decode cX11_init 34 = .ok (.dup, 1) := by decide +kernel
theorem dX11_init_35 : decode cX11_init 35 = .ok (.invokespecial 28, 3) := by decide +kernel
theorem dX11_init_38 : decode cX11_init 38 = .ok (.putfield 29, 3) := by decide +kernel
theorem dX11_init_41 : decode cX11_init 41 = .ok (.aload_n 0, 1) := by decide +kernel
theorem dX11_init_42 : decode cX11_init 42 = .ok (.sipush 400, 3) := by decide +kernel
theorem dX11_init_45 : decode cX11_init 45 = .ok (.newarray .int, 2) := by decide +kernel
theorem dX11_init_47 : decode cX11_init 47 = .ok (.putfield 33, 3) := by decide +kernel
theorem dX11_init_50 : decode cX11_init 50 = .ok (.aload_n 0, 1) := by decide +kernel
theorem dX11_init_51 : decode cX11_init 51 = .ok (.iconst 0, 1) := by decide +kernel
theorem dX11_init_52 : decode cX11_init 52 = .ok (.putfield 37, 3) := by decide +kernel
theorem dX11_init_55 : decode cX11_init 55 = .ok (.aload_n 0, 1) := by decide +kernel
theorem dX11_init_56 : decode cX11_init 56 = .ok (.iconst 0, 1) := by decide +kernel
theorem dX11_init_57 : decode cX11_init 57 = .ok (.putfield 41, 3) := by decide +kernel
theorem dX11_init_60 : decode cX11_init 60 = .ok (.aload_n 0, 1) := by decide +kernel
theorem dX11_init_61 : decode cX11_init 61 = .ok (.iconst (-1), 1) := by decide +kernel
theorem dX11_init_62 : decode cX11_init 62 = .ok (.putfield 44, 3) := by decide +kernel
theorem dX11_init_65 : decode cX11_init 65 = .ok (.aload_n 0, 1) := by decide +kernel
theorem dX11_init_66 : decode cX11_init 66 = .ok (.iconst 0, 1) := by decide +kernel
theorem dX11_init_67 : decode cX11_init 67 = .ok (.putfield 47, 3) := by decide +kernel
theorem dX11_init_70 : decode cX11_init 70 = .ok (.aload_n 0, 1) := by decide +kernel
theorem dX11_init_71 : decode cX11_init 71 = .ok (.bipush 7, 2) := by decide +kernel
theorem dX11_init_73 : decode cX11_init 73 = .ok (.newarray .int, 2) := by decide +kernel
theorem dX11_init_75 : decode cX11_init 75 = .ok (.putfield 50, 3) := by decide +kernel
theorem dX11_init_78 : decode cX11_init 78 = .ok (.aload_n 0, 1) := by decide +kernel
theorem dX11_init_79 : decode cX11_init 79 = .ok (.bipush 21, 2) := by decide +kernel
theorem dX11_init_81 : decode cX11_init 81 = .ok (.newarray .long, 2) := by decide +kernel
theorem dX11_init_83 : decode cX11_init 83 = .ok (.putfield 53, 3) := by decide +kernel
theorem dX11_init_86 : decode cX11_init 86 = .ok (.aload_n 0, 1) := by decide +kernel
theorem dX11_init_87 : decode cX11_init 87 = .ok (.bipush 6, 2) := by decide +kernel
theorem dX11_init_89 : decode cX11_init 89 = .ok (.newarray .int, 2) := by decide +kernel
theorem dX11_init_91 : decode cX11_init 91 = .ok (.putfield 57, 3) := by decide +kernel
theorem dX11_init_94 : decode cX11_init 94 = .ok (.aload_n 0, 1) := by decide +kernel
theorem dX11_init_95 : decode cX11_init 95 = .ok (.bipush 6, 2) := by decide +kernel
theorem dX11_init_97 : decode cX11_init 97 = .ok (.newarray .int, 2) := by decide +kernel
theorem dX11_init_99 : decode cX11_init 99 = .ok (.putfield 60, 3) := by decide +kernel
theorem dX11_init_102 : decode cX11_init 102 = .ok (.new 63, 3) := by decide +kernel
theorem dX11_init_105 : decode cX11_init 105 = .ok (.dup, 1) := by decide +kernel
theorem dX11_init_106 : decode cX11_init 106 = .ok (.invokespecial 65, 3) := by decide +kernel
theorem dX11_init_109 : decode cX11_init 109 = .ok (.astore_n 1, 1) := by decide +kernel
theorem dX11_init_110 : decode cX11_init 110 = .ok (.new 66, 3) := by decide +kernel
theorem dX11_init_113 : decode cX11_init 113 = .ok (.dup, 1) := by decide +kernel
theorem dX11_init_114 : decode cX11_init 114 = .ok (.iconst 0, 1) := by decide +kernel
theorem dX11_init_115 : decode cX11_init 115 = .ok (.aload_n 1, 1) := by decide +kernel
theorem dX11_init_116 : decode cX11_init 116 = .ok (.invokespecial 68, 3) := by decide +kernel
theorem dX11_init_119 : decode cX11_init 119 = .ok (.astore_n 2, 1) := by decide +kernel
theorem dX11_init_120 : decode cX11_init 120 = .ok (.new 9, 3) := by decide +kernel
theorem dX11_init_123 : decode cX11_init 123 = .ok (.dup, 1) := by decide +kernel
theorem dX11_init_124 : decode cX11_init 124 = .ok (.aload_n 2, 1) := by decide +kernel
theorem dX11_init_125 : decode cX11_init 125 = .ok (.invokespecial 71, 3) := by decide +kernel
theorem dX11_init_128 : decode cX11_init 128 = .ok (.astore_n 3, 1) := by decide +kernel
theorem dX11_init_129 : decode cX11_init 129 = .ok (.iconst 0, 1) := by decide +kernel
theorem dX11_init_130 : decode cX11_init 130 = .ok (.istore 4, 2) := by decide +kernel
theorem dX11_init_132 : decode cX11_init 132 = .ok (.iload 4, 2) := by decide +kernel
theorem dX11_init_134 : decode cX11_init 134 = .ok (.iconst 2, 1) := by decide +kernel
theorem dX11_init_135 : decode cX11_init 135 = .ok (.if_icmp .ge 24, 3) := by decide +kernel
theorem dX11_init_138 : decode cX11_init 138 = .ok (.aload_n 0, 1) := by decide +kernel
theorem dX11_init_139 : decode cX11_init 139 = .ok (.getfield 11, 3) := by decide +kernel
theorem dX11_init_142 : decode cX11_init 142 = .ok (.iload 4, 2) := by decide +kernel
theorem dX11_init_144 : decode cX11_init 144 = .ok (.new 9, 3) := by decide +kernel
theorem dX11_init_147 : decode cX11_init 147 = .ok (.dup, 1) := by decide +kernel
theorem dX11_init_148 : decode cX11_init 148 = .ok (.aload_n 2, 1) := by decide +kernel
theorem dX11_init_149 : decode cX11_init 149 = .ok (.invokespecial 71, 3) := by decide +kernel
theorem dX11_init_152 : decode cX11_init 152 = .ok (.aastore, 1) := by decide +kernel
theorem dX11_init_153 : decode cX11_init 153 = .ok (.iinc 4 1, 3) := by decide +kernel
theorem dX11_init_156 : decode cX11_init 156 = .ok (.goto (-24), 3) := by decide +kernel
theorem dX11_init_159 : decode cX11_init 159 = .ok (.new 74, 3) := by decide +kernel
theorem dX11_init_162 : decode cX11_init 162 = .ok (.dup, 1) := by decide +kernel
theorem dX11_init_163 : decode cX11_init 163 = .ok (.invokespecial 76, 3) := by decide +kernel
theorem dX11_init_166 : decode cX11_init 166 = .ok (.astore 4, 2) := by decide +kernel
theorem dX11_init_168 : decode cX11_init 168 = .ok (.new 77, 3) := by decide +kernel
theorem dX11_init_171 : decode cX11_init 171 = .ok (.dup, 1) := by decide +kernel
theorem dX11_init_172 : decode cX11_init 172 = .ok (.aload 4, 2) := by decide +kernel
theorem dX11_init_174 : decode cX11_init 174 = .ok (.invokespecial 79, 3) := by decide +kernel
theorem dX11_init_177 : decode cX11_init 177 = .ok (.astore 5, 2) := by decide +kernel
theorem dX11_init_179 : decode cX11_init 179 = .ok (.new 82, 3) := by decide +kernel
theorem dX11_init_182 : decode cX11_init 182 = .ok (.dup, 1) := by decide +kernel
theorem dX11_init_183 : decode cX11_init 183 = .ok (.aload_n 3, 1) := by decide +kernel
theorem dX11_init_184 : decode cX11_init 184 = .ok (.aload 5, 2) := by decide +kernel
theorem dX11_init_186 : decode cX11_init 186 = .ok (.aload 4, 2) := by decide +kernel
theorem dX11_init_188 : decode cX11_init 188 = .ok (.invokespecial 84, 3) := by decide +kernel
theorem dX11_init_191 : decode cX11_init 191 = .ok (.astore 6, 2) := by decide +kernel
theorem dX11_init_193 : decode cX11_init 193 = .ok (.aload_n 0, 1) := by decide +kernel
theorem dX11_init_194 : decode cX11_init 194 = .ok (.aload_n 1, 1) := by decide +kernel
theorem dX11_init_195 : decode cX11_init 195 = .ok (.putfield 87, 3) := by decide +kernel
theorem dX11_init_198 : decode cX11_init 198 = .ok (.aload_n 0, 1) := by decide +kernel
theorem dX11_init_199 : decode cX11_init 199 = .ok (.aload_n 3, 1) := by decide +kernel
theorem dX11_init_200 : decode cX11_init 200 = .ok (.putfield 91, 3) := by decide +kernel
theorem dX11_init_203 : decode cX11_init 203 = .ok (.aload_n 0, 1) := by decide +kernel
theorem dX11_init_204 : decode cX11_init 204 = .ok (.aload 5, 2) := by decide +kernel
theorem dX11_init_206 : decode cX11_init 206 = .ok (.putfield 95, 3) := by decide +kernel
theorem dX11_init_209 : decode cX11_init 209 = .ok (.aload_n 0, 1) := by decide +kernel
theorem dX11_init_210 : decode cX11_init 210 = .ok (.aload 6, 2) := by decide +kernel
theorem dX11_init_212 : decode cX11_init 212 = .ok (.putfield 99, 3) := by decide +kernel
theorem dX11_init_215 : decode cX11_init 215 = .ok (.aload_n 0, 1) := by decide +kernel
theorem dX11_init_216 : decode cX11_init 216 = .ok (.new 103, 3) := by decide +kernel
theorem dX11_init_219 : decode cX11_init 219 = .ok (.dup, 1) := by decide +kernel
theorem dX11_init_220 : decode cX11_init 220 = .ok (.aload 6, 2) := by decide +kernel
theorem dX11_init_222 : decode cX11_init 222 = .ok (.invokespecial 105, 3) := by decide +kernel
theorem dX11_init_225 : decode cX11_init 225 = .ok (.putfield 108, 3) := by decide +kernel
theorem dX11_init_228 : decode cX11_init 228 = .ok (.return_, 1) := by decide +kernel
theorem dX11_box_0 : decode cX11_box 0 = .ok (.iload_n 1, 1) := by decide +kernel
theorem dX11_box_1 : decode cX11_box 1 = .ok (.ifCond .lt 9, 3) := by decide +kernel
theorem dX11_box_4 : decode cX11_box 4 = .ok (.iload_n 1, 1) := by decide +kernel
theorem dX11_box_5 : decode cX11_box 5 = .ok (.bipush 20, 2) := by decide +kernel
theorem dX11_box_7 : decode cX11_box 7 = .ok (.if_icmp .le 9, 3) := by decide +kernel
theorem dX11_box_10 : decode cX11_box 10 = .ok (.aload_n 0, 1) := by decide +kernel
theorem dX11_box_11 : decode cX11_box 11 = .ok (.iconst (-1), 1) := by decide +kernel
theorem dX11_box_12 : decode cX11_box 12 = .ok (.invokevirtual 112, 3) := by decide +kernel
theorem dX11_box_15 : decode cX11_box 15 = .ok (.ireturn, 1) := by decide +kernel
theorem dX11_box_16 : decode cX11_box 16 = .ok (.aload_n 0, 1) := by decide +kernel
theorem dX11_box_17 : decode cX11_box 17 = .ok (.getfield 91, 3) := by decide +kernel
theorem dX11_box_20 : decode cX11_box 20 = .ok (.getfield 116, 3) := by decide +kernel
theorem dX11_box_23 : decode cX11_box 23 = .ok (.astore_n 2, 1) := by decide +kernel
theorem dX11_box_24 : decode cX11_box 24 = .ok (.aload_n 2, 1) := by decide +kernel
theorem dX11_box_25 : decode cX11_box 25 = .ok (.getfield 120, 3) := by decide +kernel
theorem dX11_box_28 : decode cX11_box 28 = .ok (.bipush 6, 2) := by decide +kernel
theorem dX11_box_30 : decode cX11_box 30 = .ok (.if_icmp .lt 10, 3) := by decide +kernel
theorem dX11_box_33 : decode cX11_box 33 = .ok (.aload_n 0, 1) := by decide +kernel
theorem dX11_box_34 : decode cX11_box 34 = .ok (.bipush (-5), 2) := by decide +kernel
theorem dX11_box_36 : decode cX11_box 36 = .ok (.invokevirtual 112, 3) := by decide +kernel
theorem dX11_box_39 : decode cX11_box 39 = .ok (.ireturn, 1) := by decide +kernel
theorem dX11_box_40 : decode cX11_box 40 = .ok (.aload_n 0, 1) := by decide +kernel
theorem dX11_box_41 : decode cX11_box 41 = .ok (.getfield 99, 3) := by decide +kernel
theorem dX11_box_44 : decode cX11_box 44 = .ok (.getfield 125, 3) := by decide +kernel
theorem dX11_box_47 : decode cX11_box 47 = .ok (.invokevirtual 129, 3) := by decide +kernel
theorem dX11_box_50 : decode cX11_box 50 = .ok (.aload_n 2, 1) := by decide +kernel
theorem dX11_box_51 : decode cX11_box 51 = .ok (.getfield 120, 3) := by decide +kernel
theorem dX11_box_54 : decode cX11_box 54 = .ok (.istore_n 3, 1) := by decide +kernel
theorem dX11_box_55 : decode cX11_box 55 = .ok (.aload_n 2, 1) := by decide +kernel
theorem dX11_box_56 : decode cX11_box 56 = .ok (.dup, 1) := by decide +kernel
theorem dX11_box_57 : decode cX11_box 57 = .ok (.getfield 120, 3) := by decide +kernel
theorem dX11_box_60 : decode cX11_box 60 = .ok (.iconst 1, 1) := by decide +kernel
theorem dX11_box_61 : decode cX11_box 61 = .ok (.iadd, 1) := by decide +kernel
theorem dX11_box_62 : decode cX11_box 62 = .ok (.putfield 120, 3) := by decide +kernel
theorem dX11_box_65 : decode cX11_box 65 = .ok (.aload_n 2, 1) := by decide +kernel
theorem dX11_box_66 : decode cX11_box 66 = .ok (.getfield 134, 3) := by decide +kernel
theorem dX11_box_69 : decode cX11_box 69 = .ok (.iload_n 3, 1) := by decide +kernel
theorem dX11_box_70 : decode cX11_box 70 = .ok (.iload_n 1, 1) := by decide +kernel
theorem dX11_box_71 : decode cX11_box 71 = .ok (.iastore, 1) := by decide +kernel
theorem dX11_box_72 : decode cX11_box 72 = .ok (.aload_n 0, 1) := by decide +kernel
theorem dX11_box_73 : decode cX11_box 73 = .ok (.iload_n 3, 1) := by decide +kernel
theorem dX11_box_74 : decode cX11_box 74 = .ok (.invokevirtual 137, 3) := by decide +kernel
theorem dX11_box_77 : decode cX11_box 77 = .ok (.ireturn, 1) := by decide +kernel
theorem dX11_of_0 : decode cX11_of 0 = .ok (.aload_n 0, 1) := by decide +kernel
theorem dX11_of_1 : decode cX11_of 1 = .ok (.getfield 91, 3) := by decide +kernel
theorem dX11_of_4 : decode cX11_of 4 = .ok (.getfield 116, 3) := by decide +kernel
theorem dX11_of_7 : decode cX11_of 7 = .ok (.astore_n 3, 1) := by decide +kernel
theorem dX11_of_8 : decode cX11_of 8 = .ok (.aload_n 3, 1) := by decide +kernel
theorem dX11_of_9 : decode cX11_of 9 = .ok (.iload_n 1, 1) := by decide +kernel
theorem dX11_of_10 : decode cX11_of 10 = .ok (.invokevirtual 140, 3) := by decide +kernel
theorem dX11_of_13 : decode cX11_of 13 = .ok (.ifCond .ne 5, 3) := by decide +kernel
theorem dX11_of_16 : decode cX11_of 16 = .ok (.iconst (-1), 1) := by decide +kernel
theorem dX11_of_17 : decode cX11_of 17 = .ok (.ireturn, 1) := by decide +kernel
theorem dX11_of_18 : decode cX11_of 18 = .ok (.iload_n 2, 1) := by decide +kernel
theorem dX11_of_19 : decode cX11_of 19 = .ok (.tableswitch 109 0 6 #[41, 48, 54, 61, 68, 75, 92], 41) := by decide +kernel
theorem dX11_of_60 : decode cX11_of 60 = .ok (.aload_n 3, 1) := by decide +kernel
theorem dX11_of_61 : decode cX11_of 61 = .ok (.getfield 134, 3) := by decide +kernel
theorem dX11_of_64 : decode cX11_of 64 = .ok (.iload_n 1, 1) := by decide +kernel
theorem dX11_of_65 : decode cX11_of 65 = .ok (.iaload, 1) := by decide +kernel
theorem dX11_of_66 : decode cX11_of 66 = .ok (.ireturn, 1) := by decide +kernel
theorem dX11_of_67 : decode cX11_of 67 = .ok (.aload_n 3, 1) := by decide +kernel
theorem dX11_of_68 : decode cX11_of 68 = .ok (.iload_n 1, 1) := by decide +kernel
theorem dX11_of_69 : decode cX11_of 69 = .ok (.invokevirtual 144, 3) := by decide +kernel
theorem dX11_of_72 : decode cX11_of 72 = .ok (.ireturn, 1) := by decide +kernel
theorem dX11_of_73 : decode cX11_of 73 = .ok (.aload_n 3, 1) := by decide +kernel
theorem dX11_of_74 : decode cX11_of 74 = .ok (.getfield 147, 3) := by decide +kernel
theorem dX11_of_77 : decode cX11_of 77 = .ok (.iload_n 1, 1) := by decide +kernel
theorem dX11_of_78 : decode cX11_of 78 = .ok (.iaload, 1) := by decide +kernel
theorem dX11_of_79 : decode cX11_of 79 = .ok (.ireturn, 1) := by decide +kernel
theorem dX11_of_80 : decode cX11_of 80 = .ok (.aload_n 3, 1) := by decide +kernel
theorem dX11_of_81 : decode cX11_of 81 = .ok (.getfield 150, 3) := by decide +kernel
theorem dX11_of_84 : decode cX11_of 84 = .ok (.iload_n 1, 1) := by decide +kernel
theorem dX11_of_85 : decode cX11_of 85 = .ok (.iaload, 1) := by decide +kernel
theorem dX11_of_86 : decode cX11_of 86 = .ok (.ireturn, 1) := by decide +kernel
theorem dX11_of_87 : decode cX11_of 87 = .ok (.aload_n 3, 1) := by decide +kernel
theorem dX11_of_88 : decode cX11_of 88 = .ok (.getfield 153, 3) := by decide +kernel
theorem dX11_of_91 : decode cX11_of 91 = .ok (.iload_n 1, 1) := by decide +kernel
theorem dX11_of_92 : decode cX11_of 92 = .ok (.iaload, 1) := by decide +kernel
theorem dX11_of_93 : decode cX11_of 93 = .ok (.ireturn, 1) := by decide +kernel
theorem dX11_of_94 : decode cX11_of 94 = .ok (.aload_n 0, 1) := by decide +kernel
theorem dX11_of_95 : decode cX11_of 95 = .ok (.getfield 95, 3) := by decide +kernel
theorem dX11_of_98 : decode cX11_of 98 = .ok (.aload_n 0, 1) := by decide +kernel
theorem dX11_of_99 : decode cX11_of 99 = .ok (.getfield 91, 3) := by decide +kernel
theorem dX11_of_102 : decode cX11_of 102 = .ok (.invokevirtual 156, 3) := by decide +kernel
theorem dX11_of_105 : decode cX11_of 105 = .ok (.aload_n 3, 1) := by decide +kernel
theorem dX11_of_106 : decode cX11_of 106 = .ok (.iload_n 1, 1) := by decide +kernel
theorem dX11_of_107 : decode cX11_of 107 = .ok (.invokevirtual 160, 3) := by decide +kernel
theorem dX11_of_110 : decode cX11_of 110 = .ok (.ireturn, 1) := by decide +kernel
theorem dX11_of_111 : decode cX11_of 111 = .ok (.aload_n 0, 1) := by decide +kernel
theorem dX11_of_112 : decode cX11_of 112 = .ok (.getfield 95, 3) := by decide +kernel
theorem dX11_of_115 : decode cX11_of 115 = .ok (.aload_n 0, 1) := by decide +kernel
theorem dX11_of_116 : decode cX11_of 116 = .ok (.getfield 91, 3) := by decide +kernel
theorem dX11_of_119 : decode cX11_of 119 = .ok (.invokevirtual 156, 3) := by decide +kernel
theorem dX11_of_122 : decode cX11_of 122 = .ok (.aload_n 3, 1) := by decide +kernel
theorem dX11_of_123 : decode cX11_of 123 = .ok (.iload_n 1, 1) := by decide +kernel
theorem dX11_of_124 : decode cX11_of 124 = .ok (.invokevirtual 163, 3) := by decide +kernel
theorem dX11_of_127 : decode cX11_of 127 = .ok (.ireturn, 1) := by decide +kernel
theorem dX11_of_128 : decode cX11_of 128 = .ok (.iload_n 2, 1) := by decide +kernel
theorem dX11_of_129 : decode cX11_of 129 = .ok (.bipush 7, 2) := by decide +kernel
theorem dX11_of_131 : decode cX11_of 131 = .ok (.if_icmp .lt 30, 3) := by decide +kernel
theorem dX11_of_134 : decode cX11_of 134 = .ok (.iload_n 2, 1) := by decide +kernel
theorem dX11_of_135 : decode cX11_of 135 = .ok (.bipush 7, 2) := by decide +kernel
theorem dX11_of_137 : decode cX11_of 137 = .ok (.isub, 1) := by decide +kernel
theorem dX11_of_138 : decode cX11_of 138 = .ok (.invokestatic 166, 3) := by decide +kernel
theorem dX11_of_141 : decode cX11_of 141 = .ok (.ifCond .eq 20, 3) := by decide +kernel
theorem dX11_of_144 : decode cX11_of 144 = .ok (.aload_n 3, 1) := by decide +kernel
theorem dX11_of_145 : decode cX11_of 145 = .ok (.getfield 169, 3) := by decide +kernel
theorem dX11_of_148 : decode cX11_of 148 = .ok (.iload_n 1, 1) := by decide +kernel
theorem dX11_of_149 : decode cX11_of 149 = .ok (.bipush 8, 2) := by decide +kernel
theorem dX11_of_151 : decode cX11_of 151 = .ok (.imul, 1) := by decide +kernel
theorem dX11_of_152 : decode cX11_of 152 = .ok (.iload_n 2, 1) := by decide +kernel
theorem dX11_of_153 : decode cX11_of 153 = .ok (.iadd, 1) := by decide +kernel
theorem dX11_of_154 : decode cX11_of 154 = .ok (.bipush 7, 2) := by decide +kernel
theorem dX11_of_156 : decode cX11_of 156 = .ok (.isub, 1) := by decide +kernel
theorem dX11_of_157 : decode cX11_of 157 = .ok (.iaload, 1) := by decide +kernel
theorem dX11_of_158 : decode cX11_of 158 = .ok (.goto 4, 3) := by decide +kernel
theorem dX11_of_161 : decode cX11_of 161 = .ok (.iconst (-1), 1) := by decide +kernel
theorem dX11_of_162 : decode cX11_of 162 = .ok (.ireturn, 1) := by decide +kernel
theorem dX11_pins_0 : decode cX11_pins 0 = .ok (.iload_n 2, 1) := by decide +kernel
theorem dX11_pins_1 : decode cX11_pins 1 = .ok (.invokestatic 166, 3) := by decide +kernel
theorem dX11_pins_4 : decode cX11_pins 4 = .ok (.ifCond .eq 14, 3) := by decide +kernel
theorem dX11_pins_7 : decode cX11_pins 7 = .ok (.iload_n 3, 1) := by decide +kernel
theorem dX11_pins_8 : decode cX11_pins 8 = .ok (.ifCond .lt 10, 3) := by decide +kernel
theorem dX11_pins_11 : decode cX11_pins 11 = .ok (.iload_n 3, 1) := by decide +kernel
theorem dX11_pins_12 : decode cX11_pins 12 = .ok (.sipush 256, 3) := by decide +kernel
theorem dX11_pins_15 : decode cX11_pins 15 = .ok (.if_icmp .lt 9, 3) := by decide +kernel
theorem dX11_pins_18 : decode cX11_pins 18 = .ok (.aload_n 0, 1) := by decide +kernel
theorem dX11_pins_19 : decode cX11_pins 19 = .ok (.iconst (-1), 1) := by decide +kernel
theorem dX11_pins_20 : decode cX11_pins 20 = .ok (.invokevirtual 112, 3) := by decide +kernel
theorem dX11_pins_23 : decode cX11_pins 23 = .ok (.ireturn, 1) := by decide +kernel
theorem dX11_pins_24 : decode cX11_pins 24 = .ok (.aload_n 0, 1) := by decide +kernel
theorem dX11_pins_25 : decode cX11_pins 25 = .ok (.getfield 91, 3) := by decide +kernel
theorem dX11_pins_28 : decode cX11_pins 28 = .ok (.getfield 116, 3) := by decide +kernel
theorem dX11_pins_31 : decode cX11_pins 31 = .ok (.astore 4, 2) := by decide +kernel
theorem dX11_pins_33 : decode cX11_pins 33 = .ok (.aload 4, 2) := by decide +kernel
theorem dX11_pins_35 : decode cX11_pins 35 = .ok (.iload_n 1, 1) := by decide +kernel
theorem dX11_pins_36 : decode cX11_pins 36 = .ok (.invokevirtual 140, 3) := by decide +kernel
theorem dX11_pins_39 : decode cX11_pins 39 = .ok (.ifCond .ne 10, 3) := by decide +kernel
theorem dX11_pins_42 : decode cX11_pins 42 = .ok (.aload_n 0, 1) := by decide +kernel
theorem dX11_pins_43 : decode cX11_pins 43 = .ok (.bipush (-2), 2) := by decide +kernel
theorem dX11_pins_45 : decode cX11_pins 45 = .ok (.invokevirtual 112, 3) := by decide +kernel
theorem dX11_pins_48 : decode cX11_pins 48 = .ok (.ireturn, 1) := by decide +kernel
theorem dX11_pins_49 : decode cX11_pins 49 = .ok (.aload_n 0, 1) := by decide +kernel
theorem dX11_pins_50 : decode cX11_pins 50 = .ok (.getfield 99, 3) := by decide +kernel
theorem dX11_pins_53 : decode cX11_pins 53 = .ok (.getfield 125, 3) := by decide +kernel
theorem dX11_pins_56 : decode cX11_pins 56 = .ok (.invokevirtual 129, 3) := by decide +kernel
theorem dX11_pins_59 : decode cX11_pins 59 = .ok (.aload 4, 2) := by decide +kernel
theorem dX11_pins_61 : decode cX11_pins 61 = .ok (.getfield 169, 3) := by decide +kernel
theorem dX11_pins_64 : decode cX11_pins 64 = .ok (.iload_n 1, 1) := by decide +kernel
theorem dX11_pins_65 : decode cX11_pins 65 = .ok (.bipush 8, 2) := by decide +kernel
theorem dX11_pins_67 : decode cX11_pins 67 = .ok (.imul, 1) := by decide +kernel
theorem dX11_pins_68 : decode cX11_pins 68 = .ok (.iload_n 2, 1) := by decide +kernel
theorem dX11_pins_69 : decode cX11_pins 69 = .ok (.iadd, 1) := by decide +kernel
theorem dX11_pins_70 : decode cX11_pins 70 = .ok (.iaload, 1) := by decide +kernel
theorem dX11_pins_71 : decode cX11_pins 71 = .ok (.istore 5, 2) := by decide +kernel
theorem dX11_pins_73 : decode cX11_pins 73 = .ok (.aload 4, 2) := by decide +kernel
theorem dX11_pins_75 : decode cX11_pins 75 = .ok (.getfield 169, 3) := by decide +kernel
theorem dX11_pins_78 : decode cX11_pins 78 = .ok (.iload_n 1, 1) := by decide +kernel
theorem dX11_pins_79 : decode cX11_pins 79 = .ok (.bipush 8, 2) := by decide +kernel
theorem dX11_pins_81 : decode cX11_pins 81 = .ok (.imul, 1) := by decide +kernel
theorem dX11_pins_82 : decode cX11_pins 82 = .ok (.iload_n 2, 1) := by decide +kernel
theorem dX11_pins_83 : decode cX11_pins 83 = .ok (.iadd, 1) := by decide +kernel
theorem dX11_pins_84 : decode cX11_pins 84 = .ok (.iload_n 3, 1) := by decide +kernel
theorem dX11_pins_85 : decode cX11_pins 85 = .ok (.iastore, 1) := by decide +kernel
theorem dX11_pins_86 : decode cX11_pins 86 = .ok (.aload_n 0, 1) := by decide +kernel
theorem dX11_pins_87 : decode cX11_pins 87 = .ok (.iload 5, 2) := by decide +kernel
theorem dX11_pins_89 : decode cX11_pins 89 = .ok (.invokevirtual 137, 3) := by decide +kernel
theorem dX11_pins_92 : decode cX11_pins 92 = .ok (.ireturn, 1) := by decide +kernel
theorem dX11_suitor_0 : decode cX11_suitor 0 = .ok (.iload_n 1, 1) := by decide +kernel
theorem dX11_suitor_1 : decode cX11_suitor 1 = .ok (.invokestatic 172, 3) := by decide +kernel
theorem dX11_suitor_4 : decode cX11_suitor 4 = .ok (.ifCond .eq 10, 3) := by decide +kernel
theorem dX11_suitor_7 : decode cX11_suitor 7 = .ok (.iload_n 2, 1) := by decide +kernel
theorem dX11_suitor_8 : decode cX11_suitor 8 = .ok (.invokestatic 175, 3) := by decide +kernel
theorem dX11_suitor_11 : decode cX11_suitor 11 = .ok (.ifCond .ne 9, 3) := by decide +kernel
theorem dX11_suitor_14 : decode cX11_suitor 14 = .ok (.aload_n 0, 1) := by decide +kernel
theorem dX11_suitor_15 : decode cX11_suitor 15 = .ok (.iconst (-1), 1) := by decide +kernel
theorem dX11_suitor_16 : decode cX11_suitor 16 = .ok (.invokevirtual 112, 3) := by decide +kernel
theorem dX11_suitor_19 : decode cX11_suitor 19 = .ok (.ireturn, 1) := by decide +kernel
theorem dX11_suitor_20 : decode cX11_suitor 20 = .ok (.aload_n 0, 1) := by decide +kernel
theorem dX11_suitor_21 : decode cX11_suitor 21 = .ok (.getfield 91, 3) := by decide +kernel
theorem dX11_suitor_24 : decode cX11_suitor 24 = .ok (.getfield 178, 3) := by decide +kernel
theorem dX11_suitor_27 : decode cX11_suitor 27 = .ok (.bipush 6, 2) := by decide +kernel
theorem dX11_suitor_29 : decode cX11_suitor 29 = .ok (.if_icmp .lt 10, 3) := by decide +kernel
theorem dX11_suitor_32 : decode cX11_suitor 32 = .ok (.aload_n 0, 1) := by decide +kernel
theorem dX11_suitor_33 : decode cX11_suitor 33 = .ok (.bipush (-5), 2) := by decide +kernel
theorem dX11_suitor_35 : decode cX11_suitor 35 = .ok (.invokevirtual 112, 3) := by decide +kernel
theorem dX11_suitor_38 : decode cX11_suitor 38 = .ok (.ireturn, 1) := by decide +kernel
theorem dX11_suitor_39 : decode cX11_suitor 39 = .ok (.aload_n 0, 1) := by decide +kernel
theorem dX11_suitor_40 : decode cX11_suitor 40 = .ok (.getfield 99, 3) := by decide +kernel
theorem dX11_suitor_43 : decode cX11_suitor 43 = .ok (.getfield 125, 3) := by decide +kernel
theorem dX11_suitor_46 : decode cX11_suitor 46 = .ok (.invokevirtual 129, 3) := by decide +kernel
theorem dX11_suitor_49 : decode cX11_suitor 49 = .ok (.aload_n 0, 1) := by decide +kernel
theorem dX11_suitor_50 : decode cX11_suitor 50 = .ok (.getfield 91, 3) := by decide +kernel
theorem dX11_suitor_53 : decode cX11_suitor 53 = .ok (.getfield 178, 3) := by decide +kernel
theorem dX11_suitor_56 : decode cX11_suitor 56 = .ok (.istore_n 3, 1) := by decide +kernel
theorem dX11_suitor_57 : decode cX11_suitor 57 = .ok (.aload_n 0, 1) := by decide +kernel
theorem dX11_suitor_58 : decode cX11_suitor 58 = .ok (.getfield 91, 3) := by decide +kernel
theorem dX11_suitor_61 : decode cX11_suitor 61 = .ok (.dup, 1) := by decide +kernel
theorem dX11_suitor_62 : decode cX11_suitor 62 = .ok (.getfield 178, 3) := by decide +kernel
theorem dX11_suitor_65 : decode cX11_suitor 65 = .ok (.iconst 1, 1) := by decide +kernel
theorem dX11_suitor_66 : decode cX11_suitor 66 = .ok (.iadd, 1) := by decide +kernel
theorem dX11_suitor_67 : decode cX11_suitor 67 = .ok (.putfield 178, 3) := by decide +kernel
theorem dX11_suitor_70 : decode cX11_suitor 70 = .ok (.aload_n 0, 1) := by decide +kernel
theorem dX11_suitor_71 : decode cX11_suitor 71 = .ok (.getfield 91, 3) := by decide +kernel
theorem dX11_suitor_74 : decode cX11_suitor 74 = .ok (.getfield 181, 3) := by decide +kernel
theorem dX11_suitor_77 : decode cX11_suitor 77 = .ok (.iload_n 3, 1) := by decide +kernel
theorem dX11_suitor_78 : decode cX11_suitor 78 = .ok (.iload_n 1, 1) := by decide +kernel
theorem dX11_suitor_79 : decode cX11_suitor 79 = .ok (.iastore, 1) := by decide +kernel
theorem dX11_suitor_80 : decode cX11_suitor 80 = .ok (.aload_n 0, 1) := by decide +kernel
theorem dX11_suitor_81 : decode cX11_suitor 81 = .ok (.getfield 91, 3) := by decide +kernel
theorem dX11_suitor_84 : decode cX11_suitor 84 = .ok (.getfield 184, 3) := by decide +kernel
theorem dX11_suitor_87 : decode cX11_suitor 87 = .ok (.iload_n 3, 1) := by decide +kernel
theorem dX11_suitor_88 : decode cX11_suitor 88 = .ok (.iload_n 2, 1) := by decide +kernel
theorem dX11_suitor_89 : decode cX11_suitor 89 = .ok (.iastore, 1) := by decide +kernel
theorem dX11_suitor_90 : decode cX11_suitor 90 = .ok (.aload_n 0, 1) := by decide +kernel
theorem dX11_suitor_91 : decode cX11_suitor 91 = .ok (.iload_n 3, 1) := by decide +kernel
theorem dX11_suitor_92 : decode cX11_suitor 92 = .ok (.invokevirtual 137, 3) := by decide +kernel
theorem dX11_suitor_95 : decode cX11_suitor 95 = .ok (.ireturn, 1) := by decide +kernel
theorem dX11_at_0 : decode cX11_at 0 = .ok (.aload_n 0, 1) := by decide +kernel
theorem dX11_at_1 : decode cX11_at 1 = .ok (.getfield 91, 3) := by decide +kernel
theorem dX11_at_4 : decode cX11_at 4 = .ok (.iload_n 1, 1) := by decide +kernel
theorem dX11_at_5 : decode cX11_at 5 = .ok (.invokevirtual 187, 3) := by decide +kernel
theorem dX11_at_8 : decode cX11_at 8 = .ok (.ifCond .ne 5, 3) := by decide +kernel
theorem dX11_at_11 : decode cX11_at 11 = .ok (.iconst (-1), 1) := by decide +kernel
theorem dX11_at_12 : decode cX11_at 12 = .ok (.ireturn, 1) := by decide +kernel
theorem dX11_at_13 : decode cX11_at 13 = .ok (.iload_n 2, 1) := by decide +kernel
theorem dX11_at_14 : decode cX11_at 14 = .ok (.tableswitch 58 0 2 #[26, 36, 46], 26) := by decide +kernel
theorem dX11_at_40 : decode cX11_at 40 = .ok (.aload_n 0, 1) := by decide +kernel
theorem dX11_at_41 : decode cX11_at 41 = .ok (.getfield 91, 3) := by decide +kernel
theorem dX11_at_44 : decode cX11_at 44 = .ok (.getfield 181, 3) := by decide +kernel
theorem dX11_at_47 : decode cX11_at 47 = .ok (.iload_n 1, 1) := by decide +kernel
theorem dX11_at_48 : decode cX11_at 48 = .ok (.iaload, 1) := by decide +kernel
theorem dX11_at_49 : decode cX11_at 49 = .ok (.ireturn, 1) := by decide +kernel
theorem dX11_at_50 : decode cX11_at 50 = .ok (.aload_n 0, 1) := by decide +kernel
theorem dX11_at_51 : decode cX11_at 51 = .ok (.getfield 91, 3) := by decide +kernel
theorem dX11_at_54 : decode cX11_at 54 = .ok (.getfield 184, 3) := by decide +kernel
theorem dX11_at_57 : decode cX11_at 57 = .ok (.iload_n 1, 1) := by decide +kernel
theorem dX11_at_58 : decode cX11_at 58 = .ok (.iaload, 1) := by decide +kernel
theorem dX11_at_59 : decode cX11_at 59 = .ok (.ireturn, 1) := by decide +kernel
theorem dX11_at_60 : decode cX11_at 60 = .ok (.aload_n 0, 1) := by decide +kernel
theorem dX11_at_61 : decode cX11_at 61 = .ok (.getfield 91, 3) := by decide +kernel
theorem dX11_at_64 : decode cX11_at 64 = .ok (.getfield 116, 3) := by decide +kernel
theorem dX11_at_67 : decode cX11_at 67 = .ok (.iload_n 1, 1) := by decide +kernel
theorem dX11_at_68 : decode cX11_at 68 = .ok (.invokevirtual 190, 3) := by decide +kernel
theorem dX11_at_71 : decode cX11_at 71 = .ok (.ireturn, 1) := by decide +kernel
theorem dX11_at_72 : decode cX11_at 72 = .ok (.iconst (-1), 1) := by decide +kernel
theorem dX11_at_73 : decode cX11_at 73 = .ok (.ireturn, 1) := by decide +kernel
theorem dX11_asks_0 : decode cX11_asks 0 = .ok (.aload_n 0, 1) := by decide +kernel
theorem dX11_asks_1 : decode cX11_asks 1 = .ok (.getfield 91, 3) := by decide +kernel
theorem dX11_asks_4 : decode cX11_asks 4 = .ok (.getfield 116, 3) := by decide +kernel
theorem dX11_asks_7 : decode cX11_asks 7 = .ok (.iload_n 1, 1) := by decide +kernel
theorem dX11_asks_8 : decode cX11_asks 8 = .ok (.invokevirtual 140, 3) := by decide +kernel
theorem dX11_asks_11 : decode cX11_asks 11 = .ok (.ifCond .eq 14, 3) := by decide +kernel
theorem dX11_asks_14 : decode cX11_asks 14 = .ok (.aload_n 0, 1) := by decide +kernel
theorem dX11_asks_15 : decode cX11_asks 15 = .ok (.getfield 91, 3) := by decide +kernel
theorem dX11_asks_18 : decode cX11_asks 18 = .ok (.iload_n 2, 1) := by decide +kernel
theorem dX11_asks_19 : decode cX11_asks 19 = .ok (.invokevirtual 187, 3) := by decide +kernel
theorem dX11_asks_22 : decode cX11_asks 22 = .ok (.ifCond .ne 5, 3) := by decide +kernel
theorem dX11_asks_25 : decode cX11_asks 25 = .ok (.iconst (-1), 1) := by decide +kernel
theorem dX11_asks_26 : decode cX11_asks 26 = .ok (.ireturn, 1) := by decide +kernel
theorem dX11_asks_27 : decode cX11_asks 27 = .ok (.iload_n 3, 1) := by decide +kernel
theorem dX11_asks_28 : decode cX11_asks 28 = .ok (.tableswitch 85 0 2 #[28, 49, 63], 28) := by decide +kernel
theorem dX11_asks_56 : decode cX11_asks 56 = .ok (.aload_n 0, 1) := by decide +kernel
theorem dX11_asks_57 : decode cX11_asks 57 = .ok (.getfield 91, 3) := by decide +kernel
theorem dX11_asks_60 : decode cX11_asks 60 = .ok (.getfield 116, 3) := by decide +kernel
theorem dX11_asks_63 : decode cX11_asks 63 = .ok (.iload_n 1, 1) := by decide +kernel
theorem dX11_asks_64 : decode cX11_asks 64 = .ok (.aload_n 0, 1) := by decide +kernel
theorem dX11_asks_65 : decode cX11_asks 65 = .ok (.getfield 91, 3) := by decide +kernel
theorem dX11_asks_68 : decode cX11_asks 68 = .ok (.getfield 181, 3) := by decide +kernel
theorem dX11_asks_71 : decode cX11_asks 71 = .ok (.iload_n 2, 1) := by decide +kernel
theorem dX11_asks_72 : decode cX11_asks 72 = .ok (.iaload, 1) := by decide +kernel
theorem dX11_asks_73 : decode cX11_asks 73 = .ok (.invokevirtual 193, 3) := by decide +kernel
theorem dX11_asks_76 : decode cX11_asks 76 = .ok (.ireturn, 1) := by decide +kernel
theorem dX11_asks_77 : decode cX11_asks 77 = .ok (.aload_n 0, 1) := by decide +kernel
theorem dX11_asks_78 : decode cX11_asks 78 = .ok (.getfield 95, 3) := by decide +kernel
theorem dX11_asks_81 : decode cX11_asks 81 = .ok (.aload_n 0, 1) := by decide +kernel
theorem dX11_asks_82 : decode cX11_asks 82 = .ok (.getfield 91, 3) := by decide +kernel
theorem dX11_asks_85 : decode cX11_asks 85 = .ok (.iload_n 1, 1) := by decide +kernel
theorem dX11_asks_86 : decode cX11_asks 86 = .ok (.iload_n 2, 1) := by decide +kernel
theorem dX11_asks_87 : decode cX11_asks 87 = .ok (.invokevirtual 197, 3) := by decide +kernel
theorem dX11_asks_90 : decode cX11_asks 90 = .ok (.ireturn, 1) := by decide +kernel
theorem dX11_asks_91 : decode cX11_asks 91 = .ok (.aload_n 0, 1) := by decide +kernel
theorem dX11_asks_92 : decode cX11_asks 92 = .ok (.getfield 95, 3) := by decide +kernel
theorem dX11_asks_95 : decode cX11_asks 95 = .ok (.aload_n 0, 1) := by decide +kernel
theorem dX11_asks_96 : decode cX11_asks 96 = .ok (.getfield 91, 3) := by decide +kernel
theorem dX11_asks_99 : decode cX11_asks 99 = .ok (.iload_n 1, 1) := by decide +kernel
theorem dX11_asks_100 : decode cX11_asks 100 = .ok (.iload_n 2, 1) := by decide +kernel
theorem dX11_asks_101 : decode cX11_asks 101 = .ok (.invokevirtual 201, 3) := by decide +kernel
theorem dX11_asks_104 : decode cX11_asks 104 = .ok (.ifCond .eq 7, 3) := by decide +kernel
theorem dX11_asks_107 : decode cX11_asks 107 = .ok (.iconst 1, 1) := by decide +kernel
theorem dX11_asks_108 : decode cX11_asks 108 = .ok (.goto 4, 3) := by decide +kernel
theorem dX11_asks_111 : decode cX11_asks 111 = .ok (.iconst 0, 1) := by decide +kernel
theorem dX11_asks_112 : decode cX11_asks 112 = .ok (.ireturn, 1) := by decide +kernel
theorem dX11_asks_113 : decode cX11_asks 113 = .ok (.iconst (-1), 1) := by decide +kernel
theorem dX11_asks_114 : decode cX11_asks 114 = .ok (.ireturn, 1) := by decide +kernel
theorem dX11_terms_0 : decode cX11_terms 0 = .ok (.iload_n 1, 1) := by decide +kernel
theorem dX11_terms_1 : decode cX11_terms 1 = .ok (.ifCond .lt 21, 3) := by decide +kernel
theorem dX11_terms_4 : decode cX11_terms 4 = .ok (.iload_n 1, 1) := by decide +kernel
theorem dX11_terms_5 : decode cX11_terms 5 = .ok (.iconst 3, 1) := by decide +kernel
theorem dX11_terms_6 : decode cX11_terms 6 = .ok (.if_icmp .ge 16, 3) := by decide +kernel
theorem dX11_terms_9 : decode cX11_terms 9 = .ok (.iload_n 2, 1) := by decide +kernel
theorem dX11_terms_10 : decode cX11_terms 10 = .ok (.ifCond .lt 12, 3) := by decide +kernel
theorem dX11_terms_13 : decode cX11_terms 13 = .ok (.iload_n 2, 1) := by decide +kernel
theorem dX11_terms_14 : decode cX11_terms 14 = .ok (.getstatic 205, 3) := by decide +kernel
theorem dX11_terms_17 : decode cX11_terms 17 = .ok (.iload_n 1, 1) := by decide +kernel
theorem dX11_terms_18 : decode cX11_terms 18 = .ok (.iaload, 1) := by decide +kernel
theorem dX11_terms_19 : decode cX11_terms 19 = .ok (.if_icmp .le 9, 3) := by decide +kernel
theorem dX11_terms_22 : decode cX11_terms 22 = .ok (.aload_n 0, 1) := by decide +kernel
theorem dX11_terms_23 : decode cX11_terms 23 = .ok (.iconst (-1), 1) := by decide +kernel
theorem dX11_terms_24 : decode cX11_terms 24 = .ok (.invokevirtual 112, 3) := by decide +kernel
theorem dX11_terms_27 : decode cX11_terms 27 = .ok (.ireturn, 1) := by decide +kernel
theorem dX11_terms_28 : decode cX11_terms 28 = .ok (.aload_n 0, 1) := by decide +kernel
theorem dX11_terms_29 : decode cX11_terms 29 = .ok (.getfield 99, 3) := by decide +kernel
theorem dX11_terms_32 : decode cX11_terms 32 = .ok (.getfield 125, 3) := by decide +kernel
theorem dX11_terms_35 : decode cX11_terms 35 = .ok (.invokevirtual 129, 3) := by decide +kernel
theorem dX11_terms_38 : decode cX11_terms 38 = .ok (.aload_n 0, 1) := by decide +kernel
theorem dX11_terms_39 : decode cX11_terms 39 = .ok (.getfield 91, 3) := by decide +kernel
theorem dX11_terms_42 : decode cX11_terms 42 = .ok (.getfield 116, 3) := by decide +kernel
theorem dX11_terms_45 : decode cX11_terms 45 = .ok (.getfield 208, 3) := by decide +kernel
theorem dX11_terms_48 : decode cX11_terms 48 = .ok (.iload_n 1, 1) := by decide +kernel
theorem dX11_terms_49 : decode cX11_terms 49 = .ok (.iaload, 1) := by decide +kernel
theorem dX11_terms_50 : decode cX11_terms 50 = .ok (.istore_n 3, 1) := by decide +kernel
theorem dX11_terms_51 : decode cX11_terms 51 = .ok (.aload_n 0, 1) := by decide +kernel
theorem dX11_terms_52 : decode cX11_terms 52 = .ok (.getfield 91, 3) := by decide +kernel
theorem dX11_terms_55 : decode cX11_terms 55 = .ok (.getfield 116, 3) := by decide +kernel
theorem dX11_terms_58 : decode cX11_terms 58 = .ok (.getfield 208, 3) := by decide +kernel
theorem dX11_terms_61 : decode cX11_terms 61 = .ok (.iload_n 1, 1) := by decide +kernel
theorem dX11_terms_62 : decode cX11_terms 62 = .ok (.iload_n 2, 1) := by decide +kernel
theorem dX11_terms_63 : decode cX11_terms 63 = .ok (.iastore, 1) := by decide +kernel
theorem dX11_terms_64 : decode cX11_terms 64 = .ok (.aload_n 0, 1) := by decide +kernel
theorem dX11_terms_65 : decode cX11_terms 65 = .ok (.iload_n 3, 1) := by decide +kernel
theorem dX11_terms_66 : decode cX11_terms 66 = .ok (.invokevirtual 137, 3) := by decide +kernel
theorem dX11_terms_69 : decode cX11_terms 69 = .ok (.ireturn, 1) := by decide +kernel
theorem dX11_feed_0 : decode cX11_feed 0 = .ok (.aload_n 0, 1) := by decide +kernel
theorem dX11_feed_1 : decode cX11_feed 1 = .ok (.getfield 37, 3) := by decide +kernel
theorem dX11_feed_4 : decode cX11_feed 4 = .ok (.bipush 20, 2) := by decide +kernel
theorem dX11_feed_6 : decode cX11_feed 6 = .ok (.iadd, 1) := by decide +kernel
theorem dX11_feed_7 : decode cX11_feed 7 = .ok (.sipush 400, 3) := by decide +kernel
theorem dX11_feed_10 : decode cX11_feed 10 = .ok (.if_icmp .le 5, 3) := by decide +kernel
theorem dX11_feed_13 : decode cX11_feed 13 = .ok (.iconst (-1), 1) := by decide +kernel
theorem dX11_feed_14 : decode cX11_feed 14 = .ok (.ireturn, 1) := by decide +kernel
theorem dX11_feed_15 : decode cX11_feed 15 = .ok (.aload_n 0, 1) := by decide +kernel
theorem dX11_feed_16 : decode cX11_feed 16 = .ok (.iload_n 1, 1) := by decide +kernel
theorem dX11_feed_17 : decode cX11_feed 17 = .ok (.invokevirtual 211, 3) := by decide +kernel
theorem dX11_feed_20 : decode cX11_feed 20 = .ok (.aload_n 0, 1) := by decide +kernel
theorem dX11_feed_21 : decode cX11_feed 21 = .ok (.iload_n 2, 1) := by decide +kernel
theorem dX11_feed_22 : decode cX11_feed 22 = .ok (.invokevirtual 211, 3) := by decide +kernel
theorem dX11_feed_25 : decode cX11_feed 25 = .ok (.aload_n 0, 1) := by decide +kernel
theorem dX11_feed_26 : decode cX11_feed 26 = .ok (.iload_n 3, 1) := by decide +kernel
theorem dX11_feed_27 : decode cX11_feed 27 = .ok (.invokevirtual 211, 3) := by decide +kernel
theorem dX11_feed_30 : decode cX11_feed 30 = .ok (.aload_n 0, 1) := by decide +kernel
theorem dX11_feed_31 : decode cX11_feed 31 = .ok (.iload 4, 2) := by decide +kernel
theorem dX11_feed_33 : decode cX11_feed 33 = .ok (.invokevirtual 211, 3) := by decide +kernel
theorem dX11_feed_36 : decode cX11_feed 36 = .ok (.aload_n 0, 1) := by decide +kernel
theorem dX11_feed_37 : decode cX11_feed 37 = .ok (.iload 5, 2) := by decide +kernel
theorem dX11_feed_39 : decode cX11_feed 39 = .ok (.invokevirtual 211, 3) := by decide +kernel
theorem dX11_feed_42 : decode cX11_feed 42 = .ok (.aload_n 0, 1) := by decide +kernel
theorem dX11_feed_43 : decode cX11_feed 43 = .ok (.getfield 37, 3) := by decide +kernel
theorem dX11_feed_46 : decode cX11_feed 46 = .ok (.ireturn, 1) := by decide +kernel
theorem dX11_feedNumber_0 : decode cX11_feedNumber 0 = .ok (.bipush 24, 2) := by decide +kernel
theorem dX11_feedNumber_2 : decode cX11_feedNumber 2 = .ok (.istore_n 2, 1) := by decide +kernel
theorem dX11_feedNumber_3 : decode cX11_feedNumber 3 = .ok (.iload_n 2, 1) := by decide +kernel
theorem dX11_feedNumber_4 : decode cX11_feedNumber 4 = .ok (.ifCond .lt 45, 3) := by decide +kernel
theorem dX11_feedNumber_7 : decode cX11_feedNumber 7 = .ok (.aload_n 0, 1) := by decide +kernel
theorem dX11_feedNumber_8 : decode cX11_feedNumber 8 = .ok (.getfield 37, 3) := by decide +kernel
theorem dX11_feedNumber_11 : decode cX11_feedNumber 11 = .ok (.sipush 400, 3) := by decide +kernel
theorem dX11_feedNumber_14 : decode cX11_feedNumber 14 = .ok (.if_icmp .ge 35, 3) := by decide +kernel
theorem dX11_feedNumber_17 : decode cX11_feedNumber 17 = .ok (.aload_n 0, 1) := by decide +kernel
theorem dX11_feedNumber_18 : decode cX11_feedNumber 18 = .ok (.getfield 33, 3) := by decide +kernel
theorem dX11_feedNumber_21 : decode cX11_feedNumber 21 = .ok (.aload_n 0, 1) := by decide +kernel
theorem dX11_feedNumber_22 : decode cX11_feedNumber 22 = .ok (.getfield 37, 3) := by decide +kernel
theorem dX11_feedNumber_25 : decode cX11_feedNumber 25 = .ok (.iload_n 1, 1) := by decide +kernel
theorem dX11_feedNumber_26 : decode cX11_feedNumber 26 = .ok (.iload_n 2, 1) := by decide +kernel
theorem dX11_feedNumber_27 : decode cX11_feedNumber 27 = .ok (.iushr, 1) := by decide +kernel
theorem dX11_feedNumber_28 : decode cX11_feedNumber 28 = .ok (.sipush 255, 3) := by decide +kernel
theorem dX11_feedNumber_31 : decode cX11_feedNumber 31 = .ok (.iand, 1) := by decide +kernel
theorem dX11_feedNumber_32 : decode cX11_feedNumber 32 = .ok (.iastore, 1) := by decide +kernel
theorem dX11_feedNumber_33 : decode cX11_feedNumber 33 = .ok (.aload_n 0, 1) := by decide +kernel
theorem dX11_feedNumber_34 : decode cX11_feedNumber 34 = .ok (.dup, 1) := by decide +kernel
theorem dX11_feedNumber_35 : decode cX11_feedNumber 35 = .ok (.getfield 37, 3) := by decide +kernel
theorem dX11_feedNumber_38 : decode cX11_feedNumber 38 = .ok (.iconst 1, 1) := by decide +kernel
theorem dX11_feedNumber_39 : decode cX11_feedNumber 39 = .ok (.iadd, 1) := by decide +kernel
theorem dX11_feedNumber_40 : decode cX11_feedNumber 40 = .ok (.putfield 37, 3) := by decide +kernel
theorem dX11_feedNumber_43 : decode cX11_feedNumber 43 = .ok (.iinc 2 (-8), 3) := by decide +kernel
theorem dX11_feedNumber_46 : decode cX11_feedNumber 46 = .ok (.goto (-43), 3) := by decide +kernel
theorem dX11_feedNumber_49 : decode cX11_feedNumber 49 = .ok (.return_, 1) := by decide +kernel
theorem dX11_end_0 : decode cX11_end 0 = .ok (.iload_n 1, 1) := by decide +kernel
theorem dX11_end_1 : decode cX11_end 1 = .ok (.ifCond .lt 11, 3) := by decide +kernel
theorem dX11_end_4 : decode cX11_end 4 = .ok (.iload_n 1, 1) := by decide +kernel
theorem dX11_end_5 : decode cX11_end 5 = .ok (.aload_n 0, 1) := by decide +kernel
theorem dX11_end_6 : decode cX11_end 6 = .ok (.getfield 37, 3) := by decide +kernel
theorem dX11_end_9 : decode cX11_end 9 = .ok (.if_icmp .le 5, 3) := by decide +kernel
theorem dX11_end_12 : decode cX11_end 12 = .ok (.iconst (-1), 1) := by decide +kernel
theorem dX11_end_13 : decode cX11_end 13 = .ok (.ireturn, 1) := by decide +kernel
theorem dX11_end_14 : decode cX11_end 14 = .ok (.aload_n 0, 1) := by decide +kernel
theorem dX11_end_15 : decode cX11_end 15 = .ok (.iload_n 1, 1) := by decide +kernel
theorem dX11_end_16 : decode cX11_end 16 = .ok (.putfield 37, 3) := by decide +kernel
theorem dX11_end_19 : decode cX11_end 19 = .ok (.iload_n 1, 1) := by decide +kernel
theorem dX11_end_20 : decode cX11_end 20 = .ok (.ireturn, 1) := by decide +kernel
theorem dX11_row_0 : decode cX11_row 0 = .ok (.aload_n 0, 1) := by decide +kernel
theorem dX11_row_1 : decode cX11_row 1 = .ok (.getfield 37, 3) := by decide +kernel
theorem dX11_row_4 : decode cX11_row 4 = .ok (.ifCond .ne 10, 3) := by decide +kernel
theorem dX11_row_7 : decode cX11_row 7 = .ok (.aload_n 0, 1) := by decide +kernel
theorem dX11_row_8 : decode cX11_row 8 = .ok (.bipush (-6), 2) := by decide +kernel
theorem dX11_row_10 : decode cX11_row 10 = .ok (.invokevirtual 112, 3) := by decide +kernel
theorem dX11_row_13 : decode cX11_row 13 = .ok (.ireturn, 1) := by decide +kernel
theorem dX11_row_14 : decode cX11_row 14 = .ok (.aload_n 0, 1) := by decide +kernel
theorem dX11_row_15 : decode cX11_row 15 = .ok (.getfield 99, 3) := by decide +kernel
theorem dX11_row_18 : decode cX11_row 18 = .ok (.getfield 125, 3) := by decide +kernel
theorem dX11_row_21 : decode cX11_row 21 = .ok (.invokevirtual 129, 3) := by decide +kernel
theorem dX11_row_24 : decode cX11_row 24 = .ok (.iconst 0, 1) := by decide +kernel
theorem dX11_row_25 : decode cX11_row 25 = .ok (.istore_n 1, 1) := by decide +kernel
theorem dX11_row_26 : decode cX11_row 26 = .ok (.aload_n 0, 1) := by decide +kernel
theorem dX11_row_27 : decode cX11_row 27 = .ok (.iconst 0, 1) := by decide +kernel
theorem dX11_row_28 : decode cX11_row 28 = .ok (.putfield 41, 3) := by decide +kernel
theorem dX11_row_31 : decode cX11_row 31 = .ok (.iconst 0, 1) := by decide +kernel
theorem dX11_row_32 : decode cX11_row 32 = .ok (.istore_n 2, 1) := by decide +kernel
theorem dX11_row_33 : decode cX11_row 33 = .ok (.iload_n 2, 1) := by decide +kernel
theorem dX11_row_34 : decode cX11_row 34 = .ok (.aload_n 0, 1) := by decide +kernel
theorem dX11_row_35 : decode cX11_row 35 = .ok (.getfield 37, 3) := by decide +kernel
theorem dX11_row_38 : decode cX11_row 38 = .ok (.if_icmp .ge 105, 3) := by decide +kernel
theorem dX11_row_41 : decode cX11_row 41 = .ok (.iload_n 2, 1) := by decide +kernel
theorem dX11_row_42 : decode cX11_row 42 = .ok (.iconst 2, 1) := by decide +kernel
theorem dX11_row_43 : decode cX11_row 43 = .ok (.iadd, 1) := by decide +kernel
theorem dX11_row_44 : decode cX11_row 44 = .ok (.aload_n 0, 1) := by decide +kernel
theorem dX11_row_45 : decode cX11_row 45 = .ok (.getfield 37, 3) := by decide +kernel
theorem dX11_row_48 : decode cX11_row 48 = .ok (.if_icmp .ge 79, 3) := by decide +kernel
theorem dX11_row_51 : decode cX11_row 51 = .ok (.aload_n 0, 1) := by decide +kernel
theorem dX11_row_52 : decode cX11_row 52 = .ok (.getfield 91, 3) := by decide +kernel
theorem dX11_row_55 : decode cX11_row 55 = .ok (.getfield 116, 3) := by decide +kernel
theorem dX11_row_58 : decode cX11_row 58 = .ok (.aload_n 0, 1) := by decide +kernel
theorem dX11_row_59 : decode cX11_row 59 = .ok (.getfield 33, 3) := by decide +kernel
theorem dX11_row_62 : decode cX11_row 62 = .ok (.iload_n 2, 1) := by decide +kernel
theorem dX11_row_63 : decode cX11_row 63 = .ok (.iaload, 1) := by decide +kernel
theorem dX11_row_64 : decode cX11_row 64 = .ok (.invokevirtual 140, 3) := by decide +kernel
theorem dX11_row_67 : decode cX11_row 67 = .ok (.ifCond .eq 60, 3) := by decide +kernel
theorem dX11_row_70 : decode cX11_row 70 = .ok (.aload_n 0, 1) := by decide +kernel
theorem dX11_row_71 : decode cX11_row 71 = .ok (.getfield 33, 3) := by decide +kernel
theorem dX11_row_74 : decode cX11_row 74 = .ok (.iload_n 2, 1) := by decide +kernel
theorem dX11_row_75 : decode cX11_row 75 = .ok (.iconst 1, 1) := by decide +kernel
theorem dX11_row_76 : decode cX11_row 76 = .ok (.iadd, 1) := by decide +kernel
theorem dX11_row_77 : decode cX11_row 77 = .ok (.iaload, 1) := by decide +kernel
theorem dX11_row_78 : decode cX11_row 78 = .ok (.invokestatic 166, 3) := by decide +kernel
theorem dX11_row_81 : decode cX11_row 81 = .ok (.ifCond .eq 46, 3) := by decide +kernel
theorem dX11_row_84 : decode cX11_row 84 = .ok (.aload_n 0, 1) := by decide +kernel
theorem dX11_row_85 : decode cX11_row 85 = .ok (.getfield 91, 3) := by decide +kernel
theorem dX11_row_88 : decode cX11_row 88 = .ok (.getfield 116, 3) := by decide +kernel
theorem dX11_row_91 : decode cX11_row 91 = .ok (.getfield 169, 3) := by decide +kernel
theorem dX11_row_94 : decode cX11_row 94 = .ok (.aload_n 0, 1) := by decide +kernel
theorem dX11_row_95 : decode cX11_row 95 = .ok (.getfield 33, 3) := by decide +kernel
theorem dX11_row_98 : decode cX11_row 98 = .ok (.iload_n 2, 1) := by decide +kernel
theorem dX11_row_99 : decode cX11_row 99 = .ok (.iaload, 1) := by decide +kernel
theorem dX11_row_100 : decode cX11_row 100 = .ok (.bipush 8, 2) := by decide +kernel
theorem dX11_row_102 : decode cX11_row 102 = .ok (.imul, 1) := by decide +kernel
theorem dX11_row_103 : decode cX11_row 103 = .ok (.aload_n 0, 1) := by decide +kernel
theorem dX11_row_104 : decode cX11_row 104 = .ok (.getfield 33, 3) := by decide +kernel
theorem dX11_row_107 : decode cX11_row 107 = .ok (.iload_n 2, 1) := by decide +kernel
theorem dX11_row_108 : decode cX11_row 108 = .ok (.iconst 1, 1) := by decide +kernel
theorem dX11_row_109 : decode cX11_row 109 = .ok (.iadd, 1) := by decide +kernel
theorem dX11_row_110 : decode cX11_row 110 = .ok (.iaload, 1) := by decide +kernel
theorem dX11_row_111 : decode cX11_row 111 = .ok (.iadd, 1) := by decide +kernel
theorem dX11_row_112 : decode cX11_row 112 = .ok (.aload_n 0, 1) := by decide +kernel
theorem dX11_row_113 : decode cX11_row 113 = .ok (.getfield 33, 3) := by decide +kernel
theorem dX11_row_116 : decode cX11_row 116 = .ok (.iload_n 2, 1) := by decide +kernel
theorem dX11_row_117 : decode cX11_row 117 = .ok (.iconst 2, 1) := by decide +kernel
theorem dX11_row_118 : decode cX11_row 118 = .ok (.iadd, 1) := by decide +kernel
theorem dX11_row_119 : decode cX11_row 119 = .ok (.iaload, 1) := by decide +kernel
theorem dX11_row_120 : decode cX11_row 120 = .ok (.iastore, 1) := by decide +kernel
theorem dX11_row_121 : decode cX11_row 121 = .ok (.iinc 1 1, 3) := by decide +kernel
theorem dX11_row_124 : decode cX11_row 124 = .ok (.goto 13, 3) := by decide +kernel
theorem dX11_row_127 : decode cX11_row 127 = .ok (.aload_n 0, 1) := by decide +kernel
theorem dX11_row_128 : decode cX11_row 128 = .ok (.dup, 1) := by decide +kernel
theorem dX11_row_129 : decode cX11_row 129 = .ok (.getfield 41, 3) := by decide +kernel
theorem dX11_row_132 : decode cX11_row 132 = .ok (.iconst 1, 1) := by decide +kernel
theorem dX11_row_133 : decode cX11_row 133 = .ok (.iadd, 1) := by decide +kernel
theorem dX11_row_134 : decode cX11_row 134 = .ok (.putfield 41, 3) := by decide +kernel
theorem dX11_row_137 : decode cX11_row 137 = .ok (.iinc 2 3, 3) := by decide +kernel
theorem dX11_row_140 : decode cX11_row 140 = .ok (.goto (-107), 3) := by decide +kernel
theorem dX11_row_143 : decode cX11_row 143 = .ok (.aload_n 0, 1) := by decide +kernel
theorem dX11_row_144 : decode cX11_row 144 = .ok (.iconst 0, 1) := by decide +kernel
theorem dX11_row_145 : decode cX11_row 145 = .ok (.putfield 37, 3) := by decide +kernel
theorem dX11_row_148 : decode cX11_row 148 = .ok (.aload_n 0, 1) := by decide +kernel
theorem dX11_row_149 : decode cX11_row 149 = .ok (.iload_n 1, 1) := by decide +kernel
theorem dX11_row_150 : decode cX11_row 150 = .ok (.invokevirtual 137, 3) := by decide +kernel
theorem dX11_row_153 : decode cX11_row 153 = .ok (.ireturn, 1) := by decide +kernel
theorem dX11_rust_0 : decode cX11_rust 0 = .ok (.aload_n 0, 1) := by decide +kernel
theorem dX11_rust_1 : decode cX11_rust 1 = .ok (.getfield 41, 3) := by decide +kernel
theorem dX11_rust_4 : decode cX11_rust 4 = .ok (.ireturn, 1) := by decide +kernel
theorem dX11_law_0 : decode cX11_law 0 = .ok (.aload_n 0, 1) := by decide +kernel
theorem dX11_law_1 : decode cX11_law 1 = .ok (.getfield 37, 3) := by decide +kernel
theorem dX11_law_4 : decode cX11_law 4 = .ok (.istore_n 1, 1) := by decide +kernel
theorem dX11_law_5 : decode cX11_law 5 = .ok (.aload_n 0, 1) := by decide +kernel
theorem dX11_law_6 : decode cX11_law 6 = .ok (.iconst 0, 1) := by decide +kernel
theorem dX11_law_7 : decode cX11_law 7 = .ok (.putfield 37, 3) := by decide +kernel
theorem dX11_law_10 : decode cX11_law 10 = .ok (.aload_n 0, 1) := by decide +kernel
theorem dX11_law_11 : decode cX11_law 11 = .ok (.getfield 91, 3) := by decide +kernel
theorem dX11_law_14 : decode cX11_law 14 = .ok (.getfield 215, 3) := by decide +kernel
theorem dX11_law_17 : decode cX11_law 17 = .ok (.bipush 6, 2) := by decide +kernel
theorem dX11_law_19 : decode cX11_law 19 = .ok (.if_icmp .lt 10, 3) := by decide +kernel
theorem dX11_law_22 : decode cX11_law 22 = .ok (.aload_n 0, 1) := by decide +kernel
theorem dX11_law_23 : decode cX11_law 23 = .ok (.bipush (-5), 2) := by decide +kernel
theorem dX11_law_25 : decode cX11_law 25 = .ok (.invokevirtual 112, 3) := by decide +kernel
theorem dX11_law_28 : decode cX11_law 28 = .ok (.ireturn, 1) := by decide +kernel
theorem dX11_law_29 : decode cX11_law 29 = .ok (.aload_n 0, 1) := by decide +kernel
theorem dX11_law_30 : decode cX11_law 30 = .ok (.getfield 87, 3) := by decide +kernel
theorem dX11_law_33 : decode cX11_law 33 = .ok (.aload_n 0, 1) := by decide +kernel
theorem dX11_law_34 : decode cX11_law 34 = .ok (.getfield 33, 3) := by decide +kernel
theorem dX11_law_37 : decode cX11_law 37 = .ok (.iload_n 1, 1) := by decide +kernel
theorem dX11_law_38 : decode cX11_law 38 = .ok (.iconst 0, 1) := by decide +kernel
theorem dX11_law_39 : decode cX11_law 39 = .ok (.invokevirtual 218, 3) := by decide +kernel
theorem dX11_law_42 : decode cX11_law 42 = .ok (.astore_n 2, 1) := by decide +kernel
theorem dX11_law_43 : decode cX11_law 43 = .ok (.aload_n 2, 1) := by decide +kernel
theorem dX11_law_44 : decode cX11_law 44 = .ok (.ifnonnull 10, 3) := by decide +kernel
theorem dX11_law_47 : decode cX11_law 47 = .ok (.aload_n 0, 1) := by decide +kernel
theorem dX11_law_48 : decode cX11_law 48 = .ok (.bipush (-6), 2) := by decide +kernel
theorem dX11_law_50 : decode cX11_law 50 = .ok (.invokevirtual 112, 3) := by decide +kernel
theorem dX11_law_53 : decode cX11_law 53 = .ok (.ireturn, 1) := by decide +kernel
theorem dX11_law_54 : decode cX11_law 54 = .ok (.aload_n 0, 1) := by decide +kernel
theorem dX11_law_55 : decode cX11_law 55 = .ok (.getfield 91, 3) := by decide +kernel
theorem dX11_law_58 : decode cX11_law 58 = .ok (.getfield 215, 3) := by decide +kernel
theorem dX11_law_61 : decode cX11_law 61 = .ok (.istore_n 3, 1) := by decide +kernel
theorem dX11_law_62 : decode cX11_law 62 = .ok (.aload_n 0, 1) := by decide +kernel
theorem dX11_law_63 : decode cX11_law 63 = .ok (.getfield 91, 3) := by decide +kernel
theorem dX11_law_66 : decode cX11_law 66 = .ok (.dup, 1) := by decide +kernel
theorem dX11_law_67 : decode cX11_law 67 = .ok (.getfield 215, 3) := by decide +kernel
theorem dX11_law_70 : decode cX11_law 70 = .ok (.iconst 1, 1) := by decide +kernel
theorem dX11_law_71 : decode cX11_law 71 = .ok (.iadd, 1) := by decide +kernel
theorem dX11_law_72 : decode cX11_law 72 = .ok (.putfield 215, 3) := by decide +kernel
theorem dX11_law_75 : decode cX11_law 75 = .ok (.aload_n 0, 1) := by decide +kernel
theorem dX11_law_76 : decode cX11_law 76 = .ok (.getfield 91, 3) := by decide +kernel
theorem dX11_law_79 : decode cX11_law 79 = .ok (.getfield 222, 3) := by decide +kernel
theorem dX11_law_82 : decode cX11_law 82 = .ok (.iload_n 3, 1) := by decide +kernel
theorem dX11_law_83 : decode cX11_law 83 = .ok (.aload_n 2, 1) := by decide +kernel
theorem dX11_law_84 : decode cX11_law 84 = .ok (.aastore, 1) := by decide +kernel
theorem dX11_law_85 : decode cX11_law 85 = .ok (.aload_n 0, 1) := by decide +kernel
theorem dX11_law_86 : decode cX11_law 86 = .ok (.iload_n 3, 1) := by decide +kernel
theorem dX11_law_87 : decode cX11_law 87 = .ok (.invokevirtual 137, 3) := by decide +kernel
theorem dX11_law_90 : decode cX11_law 90 = .ok (.ireturn, 1) := by decide +kernel
theorem dX11_orders_0 : decode cX11_orders 0 = .ok (.aload_n 0, 1) := by decide +kernel
theorem dX11_orders_1 : decode cX11_orders 1 = .ok (.getfield 37, 3) := by decide +kernel
theorem dX11_orders_4 : decode cX11_orders 4 = .ok (.istore_n 1, 1) := by decide +kernel
theorem dX11_orders_5 : decode cX11_orders 5 = .ok (.aload_n 0, 1) := by decide +kernel
theorem dX11_orders_6 : decode cX11_orders 6 = .ok (.iconst 0, 1) := by decide +kernel
theorem dX11_orders_7 : decode cX11_orders 7 = .ok (.putfield 37, 3) := by decide +kernel
theorem dX11_orders_10 : decode cX11_orders 10 = .ok (.aload_n 0, 1) := by decide +kernel
theorem dX11_orders_11 : decode cX11_orders 11 = .ok (.iconst (-1), 1) := by decide +kernel
theorem dX11_orders_12 : decode cX11_orders 12 = .ok (.putfield 44, 3) := by decide +kernel
theorem dX11_orders_15 : decode cX11_orders 15 = .ok (.aload_n 0, 1) := by decide +kernel
theorem dX11_orders_16 : decode cX11_orders 16 = .ok (.getfield 87, 3) := by decide +kernel
theorem dX11_orders_19 : decode cX11_orders 19 = .ok (.aload_n 0, 1) := by decide +kernel
theorem dX11_orders_20 : decode cX11_orders 20 = .ok (.getfield 33, 3) := by decide +kernel
theorem dX11_orders_23 : decode cX11_orders 23 = .ok (.iload_n 1, 1) := by decide +kernel
theorem dX11_orders_24 : decode cX11_orders 24 = .ok (.iconst 1, 1) := by decide +kernel
theorem dX11_orders_25 : decode cX11_orders 25 = .ok (.invokevirtual 218, 3) := by decide +kernel
theorem dX11_orders_28 : decode cX11_orders 28 = .ok (.astore_n 2, 1) := by decide +kernel
theorem dX11_orders_29 : decode cX11_orders 29 = .ok (.aload_n 2, 1) := by decide +kernel
theorem dX11_orders_30 : decode cX11_orders 30 = .ok (.ifnonnull 10, 3) := by decide +kernel
theorem dX11_orders_33 : decode cX11_orders 33 = .ok (.aload_n 0, 1) := by decide +kernel
theorem dX11_orders_34 : decode cX11_orders 34 = .ok (.bipush (-6), 2) := by decide +kernel
theorem dX11_orders_36 : decode cX11_orders 36 = .ok (.invokevirtual 112, 3) := by decide +kernel
theorem dX11_orders_39 : decode cX11_orders 39 = .ok (.ireturn, 1) := by decide +kernel
theorem dX11_orders_40 : decode cX11_orders 40 = .ok (.aload_n 0, 1) := by decide +kernel
theorem dX11_orders_41 : decode cX11_orders 41 = .ok (.getfield 99, 3) := by decide +kernel
theorem dX11_orders_44 : decode cX11_orders 44 = .ok (.invokevirtual 226, 3) := by decide +kernel
theorem dX11_orders_47 : decode cX11_orders 47 = .ok (.iconst 0, 1) := by decide +kernel
theorem dX11_orders_48 : decode cX11_orders 48 = .ok (.istore_n 3, 1) := by decide +kernel
theorem dX11_orders_49 : decode cX11_orders 49 = .ok (.iload_n 3, 1) := by decide +kernel
theorem dX11_orders_50 : decode cX11_orders 50 = .ok (.aload_n 2, 1) := by decide +kernel
theorem dX11_orders_51 : decode cX11_orders 51 = .ok (.getfield 229, 3) := by decide +kernel
theorem dX11_orders_54 : decode cX11_orders 54 = .ok (.if_icmp .ge 60, 3) := by decide +kernel
theorem dX11_orders_57 : decode cX11_orders 57 = .ok (.iconst 0, 1) := by decide +kernel
theorem dX11_orders_58 : decode cX11_orders 58 = .ok (.istore 4, 2) := by decide +kernel
theorem dX11_orders_60 : decode cX11_orders 60 = .ok (.iload 4, 2) := by decide +kernel
theorem dX11_orders_62 : decode cX11_orders 62 = .ok (.aload_n 2, 1) := by decide +kernel
theorem dX11_orders_63 : decode cX11_orders 63 = .ok (.getfield 232, 3) := by decide +kernel
theorem dX11_orders_66 : decode cX11_orders 66 = .ok (.iload_n 3, 1) := by decide +kernel
theorem dX11_orders_67 : decode cX11_orders 67 = .ok (.iaload, 1) := by decide +kernel
theorem dX11_orders_68 : decode cX11_orders 68 = .ok (.if_icmp .ge 40, 3) := by decide +kernel
theorem dX11_orders_71 : decode cX11_orders 71 = .ok (.aload_n 0, 1) := by decide +kernel
theorem dX11_orders_72 : decode cX11_orders 72 = .ok (.getfield 99, 3) := by decide +kernel
theorem dX11_orders_75 : decode cX11_orders 75 = .ok (.aload_n 2, 1) := by decide +kernel
theorem dX11_orders_76 : decode cX11_orders 76 = .ok (.iload_n 3, 1) := by decide +kernel
theorem dX11_orders_77 : decode cX11_orders 77 = .ok (.invokevirtual 235, 3) := by decide +kernel
theorem dX11_orders_80 : decode cX11_orders 80 = .ok (.ifCond .ne 22, 3) := by decide +kernel
theorem dX11_orders_83 : decode cX11_orders 83 = .ok (.aload_n 0, 1) := by decide +kernel
theorem dX11_orders_84 : decode cX11_orders 84 = .ok (.getfield 99, 3) := by decide +kernel
theorem dX11_orders_87 : decode cX11_orders 87 = .ok (.invokevirtual 239, 3) := by decide +kernel
theorem dX11_orders_90 : decode cX11_orders 90 = .ok (.aload_n 0, 1) := by decide +kernel
theorem dX11_orders_91 : decode cX11_orders 91 = .ok (.iload_n 3, 1) := by decide +kernel
theorem dX11_orders_92 : decode cX11_orders 92 = .ok (.putfield 44, 3) := by decide +kernel
theorem dX11_orders_95 : decode cX11_orders 95 = .ok (.aload_n 0, 1) := by decide +kernel
theorem dX11_orders_96 : decode cX11_orders 96 = .ok (.bipush (-3), 2) := by decide +kernel
theorem dX11_orders_98 : decode cX11_orders 98 = .ok (.invokevirtual 112, 3) := by decide +kernel
theorem dX11_orders_101 : decode cX11_orders 101 = .ok (.ireturn, 1) := by decide +kernel
theorem dX11_orders_102 : decode cX11_orders 102 = .ok (.iinc 4 1, 3) := by decide +kernel
theorem dX11_orders_105 : decode cX11_orders 105 = .ok (.goto (-45), 3) := by decide +kernel
theorem dX11_orders_108 : decode cX11_orders 108 = .ok (.iinc 3 1, 3) := by decide +kernel
theorem dX11_orders_111 : decode cX11_orders 111 = .ok (.goto (-62), 3) := by decide +kernel
theorem dX11_orders_114 : decode cX11_orders 114 = .ok (.aload_n 0, 1) := by decide +kernel
theorem dX11_orders_115 : decode cX11_orders 115 = .ok (.aload_n 0, 1) := by decide +kernel
theorem dX11_orders_116 : decode cX11_orders 116 = .ok (.getfield 99, 3) := by decide +kernel
theorem dX11_orders_119 : decode cX11_orders 119 = .ok (.getfield 242, 3) := by decide +kernel
theorem dX11_orders_122 : decode cX11_orders 122 = .ok (.invokevirtual 137, 3) := by decide +kernel
theorem dX11_orders_125 : decode cX11_orders 125 = .ok (.ireturn, 1) := by decide +kernel
theorem dX11_fault_0 : decode cX11_fault 0 = .ok (.aload_n 0, 1) := by decide +kernel
theorem dX11_fault_1 : decode cX11_fault 1 = .ok (.getfield 87, 3) := by decide +kernel
theorem dX11_fault_4 : decode cX11_fault 4 = .ok (.getfield 245, 3) := by decide +kernel
theorem dX11_fault_7 : decode cX11_fault 7 = .ok (.ireturn, 1) := by decide +kernel
theorem dX11_stopped_0 : decode cX11_stopped 0 = .ok (.aload_n 0, 1) := by decide +kernel
theorem dX11_stopped_1 : decode cX11_stopped 1 = .ok (.getfield 44, 3) := by decide +kernel
theorem dX11_stopped_4 : decode cX11_stopped 4 = .ok (.ireturn, 1) := by decide +kernel
theorem dX11_force_0 : decode cX11_force 0 = .ok (.iload_n 1, 1) := by decide +kernel
theorem dX11_force_1 : decode cX11_force 1 = .ok (.iconst (-1), 1) := by decide +kernel
theorem dX11_force_2 : decode cX11_force 2 = .ok (.if_icmp .eq 21, 3) := by decide +kernel
theorem dX11_force_5 : decode cX11_force 5 = .ok (.aload_n 0, 1) := by decide +kernel
theorem dX11_force_6 : decode cX11_force 6 = .ok (.getfield 91, 3) := by decide +kernel
theorem dX11_force_9 : decode cX11_force 9 = .ok (.iload_n 1, 1) := by decide +kernel
theorem dX11_force_10 : decode cX11_force 10 = .ok (.invokevirtual 248, 3) := by decide +kernel
theorem dX11_force_13 : decode cX11_force 13 = .ok (.ifCond .ne 10, 3) := by decide +kernel
theorem dX11_force_16 : decode cX11_force 16 = .ok (.aload_n 0, 1) := by decide +kernel
theorem dX11_force_17 : decode cX11_force 17 = .ok (.bipush (-2), 2) := by decide +kernel
theorem dX11_force_19 : decode cX11_force 19 = .ok (.invokevirtual 112, 3) := by decide +kernel
theorem dX11_force_22 : decode cX11_force 22 = .ok (.ireturn, 1) := by decide +kernel
theorem dX11_force_23 : decode cX11_force 23 = .ok (.aload_n 0, 1) := by decide +kernel
theorem dX11_force_24 : decode cX11_force 24 = .ok (.getfield 91, 3) := by decide +kernel
theorem dX11_force_27 : decode cX11_force 27 = .ok (.getfield 251, 3) := by decide +kernel
theorem dX11_force_30 : decode cX11_force 30 = .ok (.istore_n 2, 1) := by decide +kernel
theorem dX11_force_31 : decode cX11_force 31 = .ok (.aload_n 0, 1) := by decide +kernel
theorem dX11_force_32 : decode cX11_force 32 = .ok (.getfield 91, 3) := by decide +kernel
theorem dX11_force_35 : decode cX11_force 35 = .ok (.iload_n 1, 1) := by decide +kernel
theorem dX11_force_36 : decode cX11_force 36 = .ok (.putfield 251, 3) := by decide +kernel
theorem dX11_force_39 : decode cX11_force 39 = .ok (.aload_n 0, 1) := by decide +kernel
theorem dX11_force_40 : decode cX11_force 40 = .ok (.iload_n 2, 1) := by decide +kernel
theorem dX11_force_41 : decode cX11_force 41 = .ok (.invokevirtual 137, 3) := by decide +kernel
theorem dX11_force_44 : decode cX11_force 44 = .ok (.ireturn, 1) := by decide +kernel
theorem dX11_pull_0 : decode cX11_pull 0 = .ok (.aload_n 0, 1) := by decide +kernel
theorem dX11_pull_1 : decode cX11_pull 1 = .ok (.aload_n 0, 1) := by decide +kernel
theorem dX11_pull_2 : decode cX11_pull 2 = .ok (.getfield 99, 3) := by decide +kernel
theorem dX11_pull_5 : decode cX11_pull 5 = .ok (.iload_n 1, 1) := by decide +kernel
theorem dX11_pull_6 : decode cX11_pull 6 = .ok (.iload_n 2, 1) := by decide +kernel
theorem dX11_pull_7 : decode cX11_pull 7 = .ok (.iload_n 3, 1) := by decide +kernel
theorem dX11_pull_8 : decode cX11_pull 8 = .ok (.invokevirtual 254, 3) := by decide +kernel
theorem dX11_pull_11 : decode cX11_pull 11 = .ok (.invokevirtual 258, 3) := by decide +kernel
theorem dX11_pull_14 : decode cX11_pull 14 = .ok (.ireturn, 1) := by decide +kernel
theorem dX11_snap_0 : decode cX11_snap 0 = .ok (.aload_n 0, 1) := by decide +kernel
theorem dX11_snap_1 : decode cX11_snap 1 = .ok (.aload_n 0, 1) := by decide +kernel
theorem dX11_snap_2 : decode cX11_snap 2 = .ok (.getfield 99, 3) := by decide +kernel
theorem dX11_snap_5 : decode cX11_snap 5 = .ok (.iload_n 1, 1) := by decide +kernel
theorem dX11_snap_6 : decode cX11_snap 6 = .ok (.iload_n 2, 1) := by decide +kernel
theorem dX11_snap_7 : decode cX11_snap 7 = .ok (.invokevirtual 261, 3) := by decide +kernel
theorem dX11_snap_10 : decode cX11_snap 10 = .ok (.invokevirtual 258, 3) := by decide +kernel
theorem dX11_snap_13 : decode cX11_snap 13 = .ok (.ireturn, 1) := by decide +kernel
theorem dX11_wed_0 : decode cX11_wed 0 = .ok (.aload_n 0, 1) := by decide +kernel
theorem dX11_wed_1 : decode cX11_wed 1 = .ok (.aload_n 0, 1) := by decide +kernel
theorem dX11_wed_2 : decode cX11_wed 2 = .ok (.getfield 99, 3) := by decide +kernel
theorem dX11_wed_5 : decode cX11_wed 5 = .ok (.iload_n 1, 1) := by decide +kernel
theorem dX11_wed_6 : decode cX11_wed 6 = .ok (.iload_n 2, 1) := by decide +kernel
theorem dX11_wed_7 : decode cX11_wed 7 = .ok (.invokevirtual 264, 3) := by decide +kernel
theorem dX11_wed_10 : decode cX11_wed 10 = .ok (.invokevirtual 258, 3) := by decide +kernel
theorem dX11_wed_13 : decode cX11_wed 13 = .ok (.ireturn, 1) := by decide +kernel
theorem dX11_pass_0 : decode cX11_pass 0 = .ok (.aload_n 0, 1) := by decide +kernel
theorem dX11_pass_1 : decode cX11_pass 1 = .ok (.aload_n 0, 1) := by decide +kernel
theorem dX11_pass_2 : decode cX11_pass 2 = .ok (.getfield 99, 3) := by decide +kernel
theorem dX11_pass_5 : decode cX11_pass 5 = .ok (.invokevirtual 267, 3) := by decide +kernel
theorem dX11_pass_8 : decode cX11_pass 8 = .ok (.invokevirtual 258, 3) := by decide +kernel
theorem dX11_pass_11 : decode cX11_pass 11 = .ok (.ireturn, 1) := by decide +kernel
theorem dX11_undo_0 : decode cX11_undo 0 = .ok (.aload_n 0, 1) := by decide +kernel
theorem dX11_undo_1 : decode cX11_undo 1 = .ok (.getfield 99, 3) := by decide +kernel
theorem dX11_undo_4 : decode cX11_undo 4 = .ok (.getfield 125, 3) := by decide +kernel
theorem dX11_undo_7 : decode cX11_undo 7 = .ok (.aload_n 0, 1) := by decide +kernel
theorem dX11_undo_8 : decode cX11_undo 8 = .ok (.getfield 91, 3) := by decide +kernel
theorem dX11_undo_11 : decode cX11_undo 11 = .ok (.getfield 116, 3) := by decide +kernel
theorem dX11_undo_14 : decode cX11_undo 14 = .ok (.invokevirtual 271, 3) := by decide +kernel
theorem dX11_undo_17 : decode cX11_undo 17 = .ok (.istore_n 1, 1) := by decide +kernel
theorem dX11_undo_18 : decode cX11_undo 18 = .ok (.aload_n 0, 1) := by decide +kernel
theorem dX11_undo_19 : decode cX11_undo 19 = .ok (.iload_n 1, 1) := by decide +kernel
theorem dX11_undo_20 : decode cX11_undo 20 = .ok (.iconst (-1), 1) := by decide +kernel
theorem dX11_undo_21 : decode cX11_undo 21 = .ok (.if_icmp .ne 8, 3) := by decide +kernel
theorem dX11_undo_24 : decode cX11_undo 24 = .ok (.bipush (-3), 2) := by decide +kernel
theorem dX11_undo_26 : decode cX11_undo 26 = .ok (.goto 4, 3) := by decide +kernel
theorem dX11_undo_29 : decode cX11_undo 29 = .ok (.iload_n 1, 1) := by decide +kernel
theorem dX11_undo_30 : decode cX11_undo 30 = .ok (.invokevirtual 258, 3) := by decide +kernel
theorem dX11_undo_33 : decode cX11_undo 33 = .ok (.ireturn, 1) := by decide +kernel
theorem dX11_hear_0 : decode cX11_hear 0 = .ok (.iload_n 1, 1) := by decide +kernel
theorem dX11_hear_1 : decode cX11_hear 1 = .ok (.invokestatic 166, 3) := by decide +kernel
theorem dX11_hear_4 : decode cX11_hear 4 = .ok (.ifCond .eq 19, 3) := by decide +kernel
theorem dX11_hear_7 : decode cX11_hear 7 = .ok (.iload_n 2, 1) := by decide +kernel
theorem dX11_hear_8 : decode cX11_hear 8 = .ok (.invokestatic 172, 3) := by decide +kernel
theorem dX11_hear_11 : decode cX11_hear 11 = .ok (.ifCond .eq 12, 3) := by decide +kernel
theorem dX11_hear_14 : decode cX11_hear 14 = .ok (.iload_n 3, 1) := by decide +kernel
theorem dX11_hear_15 : decode cX11_hear 15 = .ok (.ifCond .lt 8, 3) := by decide +kernel
theorem dX11_hear_18 : decode cX11_hear 18 = .ok (.iload_n 3, 1) := by decide +kernel
theorem dX11_hear_19 : decode cX11_hear 19 = .ok (.iconst 1, 1) := by decide +kernel
theorem dX11_hear_20 : decode cX11_hear 20 = .ok (.if_icmp .le 9, 3) := by decide +kernel
theorem dX11_hear_23 : decode cX11_hear 23 = .ok (.aload_n 0, 1) := by decide +kernel
theorem dX11_hear_24 : decode cX11_hear 24 = .ok (.iconst (-1), 1) := by decide +kernel
theorem dX11_hear_25 : decode cX11_hear 25 = .ok (.invokevirtual 112, 3) := by decide +kernel
theorem dX11_hear_28 : decode cX11_hear 28 = .ok (.ireturn, 1) := by decide +kernel
theorem dX11_hear_29 : decode cX11_hear 29 = .ok (.aload_n 0, 1) := by decide +kernel
theorem dX11_hear_30 : decode cX11_hear 30 = .ok (.getfield 91, 3) := by decide +kernel
theorem dX11_hear_33 : decode cX11_hear 33 = .ok (.getfield 275, 3) := by decide +kernel
theorem dX11_hear_36 : decode cX11_hear 36 = .ok (.bipush 8, 2) := by decide +kernel
theorem dX11_hear_38 : decode cX11_hear 38 = .ok (.if_icmp .lt 10, 3) := by decide +kernel
theorem dX11_hear_41 : decode cX11_hear 41 = .ok (.aload_n 0, 1) := by decide +kernel
theorem dX11_hear_42 : decode cX11_hear 42 = .ok (.bipush (-5), 2) := by decide +kernel
theorem dX11_hear_44 : decode cX11_hear 44 = .ok (.invokevirtual 112, 3) := by decide +kernel
theorem dX11_hear_47 : decode cX11_hear 47 = .ok (.ireturn, 1) := by decide +kernel
theorem dX11_hear_48 : decode cX11_hear 48 = .ok (.aload_n 0, 1) := by decide +kernel
theorem dX11_hear_49 : decode cX11_hear 49 = .ok (.getfield 91, 3) := by decide +kernel
theorem dX11_hear_52 : decode cX11_hear 52 = .ok (.getfield 278, 3) := by decide +kernel
theorem dX11_hear_55 : decode cX11_hear 55 = .ok (.aload_n 0, 1) := by decide +kernel
theorem dX11_hear_56 : decode cX11_hear 56 = .ok (.getfield 91, 3) := by decide +kernel
theorem dX11_hear_59 : decode cX11_hear 59 = .ok (.getfield 275, 3) := by decide +kernel
theorem dX11_hear_62 : decode cX11_hear 62 = .ok (.iload_n 1, 1) := by decide +kernel
theorem dX11_hear_63 : decode cX11_hear 63 = .ok (.iastore, 1) := by decide +kernel
theorem dX11_hear_64 : decode cX11_hear 64 = .ok (.aload_n 0, 1) := by decide +kernel
theorem dX11_hear_65 : decode cX11_hear 65 = .ok (.getfield 91, 3) := by decide +kernel
theorem dX11_hear_68 : decode cX11_hear 68 = .ok (.getfield 281, 3) := by decide +kernel
theorem dX11_hear_71 : decode cX11_hear 71 = .ok (.aload_n 0, 1) := by decide +kernel
theorem dX11_hear_72 : decode cX11_hear 72 = .ok (.getfield 91, 3) := by decide +kernel
theorem dX11_hear_75 : decode cX11_hear 75 = .ok (.getfield 275, 3) := by decide +kernel
theorem dX11_hear_78 : decode cX11_hear 78 = .ok (.iload_n 2, 1) := by decide +kernel
theorem dX11_hear_79 : decode cX11_hear 79 = .ok (.iastore, 1) := by decide +kernel
theorem dX11_hear_80 : decode cX11_hear 80 = .ok (.aload_n 0, 1) := by decide +kernel
theorem dX11_hear_81 : decode cX11_hear 81 = .ok (.getfield 91, 3) := by decide +kernel
theorem dX11_hear_84 : decode cX11_hear 84 = .ok (.getfield 284, 3) := by decide +kernel
theorem dX11_hear_87 : decode cX11_hear 87 = .ok (.aload_n 0, 1) := by decide +kernel
theorem dX11_hear_88 : decode cX11_hear 88 = .ok (.getfield 91, 3) := by decide +kernel
theorem dX11_hear_91 : decode cX11_hear 91 = .ok (.getfield 275, 3) := by decide +kernel
theorem dX11_hear_94 : decode cX11_hear 94 = .ok (.iload_n 3, 1) := by decide +kernel
theorem dX11_hear_95 : decode cX11_hear 95 = .ok (.iastore, 1) := by decide +kernel
theorem dX11_hear_96 : decode cX11_hear 96 = .ok (.aload_n 0, 1) := by decide +kernel
theorem dX11_hear_97 : decode cX11_hear 97 = .ok (.getfield 91, 3) := by decide +kernel
theorem dX11_hear_100 : decode cX11_hear 100 = .ok (.dup, 1) := by decide +kernel
theorem dX11_hear_101 : decode cX11_hear 101 = .ok (.getfield 275, 3) := by decide +kernel
theorem dX11_hear_104 : decode cX11_hear 104 = .ok (.iconst 1, 1) := by decide +kernel
theorem dX11_hear_105 : decode cX11_hear 105 = .ok (.iadd, 1) := by decide +kernel
theorem dX11_hear_106 : decode cX11_hear 106 = .ok (.putfield 275, 3) := by decide +kernel
theorem dX11_hear_109 : decode cX11_hear 109 = .ok (.aload_n 0, 1) := by decide +kernel
theorem dX11_hear_110 : decode cX11_hear 110 = .ok (.aload_n 0, 1) := by decide +kernel
theorem dX11_hear_111 : decode cX11_hear 111 = .ok (.getfield 91, 3) := by decide +kernel
theorem dX11_hear_114 : decode cX11_hear 114 = .ok (.getfield 275, 3) := by decide +kernel
theorem dX11_hear_117 : decode cX11_hear 117 = .ok (.invokevirtual 137, 3) := by decide +kernel
theorem dX11_hear_120 : decode cX11_hear 120 = .ok (.ireturn, 1) := by decide +kernel
theorem dX11_forget_0 : decode cX11_forget 0 = .ok (.aload_n 0, 1) := by decide +kernel
theorem dX11_forget_1 : decode cX11_forget 1 = .ok (.getfield 91, 3) := by decide +kernel
theorem dX11_forget_4 : decode cX11_forget 4 = .ok (.getfield 275, 3) := by decide +kernel
theorem dX11_forget_7 : decode cX11_forget 7 = .ok (.istore_n 1, 1) := by decide +kernel
theorem dX11_forget_8 : decode cX11_forget 8 = .ok (.aload_n 0, 1) := by decide +kernel
theorem dX11_forget_9 : decode cX11_forget 9 = .ok (.getfield 91, 3) := by decide +kernel
theorem dX11_forget_12 : decode cX11_forget 12 = .ok (.iconst 0, 1) := by decide +kernel
theorem dX11_forget_13 : decode cX11_forget 13 = .ok (.putfield 275, 3) := by decide +kernel
theorem dX11_forget_16 : decode cX11_forget 16 = .ok (.iload_n 1, 1) := by decide +kernel
theorem dX11_forget_17 : decode cX11_forget 17 = .ok (.ireturn, 1) := by decide +kernel
theorem dX11_which_0 : decode cX11_which 0 = .ok (.aload_n 0, 1) := by decide +kernel
theorem dX11_which_1 : decode cX11_which 1 = .ok (.getfield 91, 3) := by decide +kernel
theorem dX11_which_4 : decode cX11_which 4 = .ok (.invokevirtual 287, 3) := by decide +kernel
theorem dX11_which_7 : decode cX11_which 7 = .ok (.ireturn, 1) := by decide +kernel
theorem dX11_listen_0 : decode cX11_listen 0 = .ok (.aload_n 0, 1) := by decide +kernel
theorem dX11_listen_1 : decode cX11_listen 1 = .ok (.getfield 91, 3) := by decide +kernel
theorem dX11_listen_4 : decode cX11_listen 4 = .ok (.invokevirtual 287, 3) := by decide +kernel
theorem dX11_listen_7 : decode cX11_listen 7 = .ok (.istore_n 2, 1) := by decide +kernel
theorem dX11_listen_8 : decode cX11_listen 8 = .ok (.iload_n 2, 1) := by decide +kernel
theorem dX11_listen_9 : decode cX11_listen 9 = .ok (.ifCond .eq 12, 3) := by decide +kernel
theorem dX11_listen_12 : decode cX11_listen 12 = .ok (.iload_n 1, 1) := by decide +kernel
theorem dX11_listen_13 : decode cX11_listen 13 = .ok (.ifCond .lt 8, 3) := by decide +kernel
theorem dX11_listen_16 : decode cX11_listen 16 = .ok (.iload_n 1, 1) := by decide +kernel
theorem dX11_listen_17 : decode cX11_listen 17 = .ok (.iconst 1, 1) := by decide +kernel
theorem dX11_listen_18 : decode cX11_listen 18 = .ok (.if_icmp .le 5, 3) := by decide +kernel
theorem dX11_listen_21 : decode cX11_listen 21 = .ok (.iconst (-1), 1) := by decide +kernel
theorem dX11_listen_22 : decode cX11_listen 22 = .ok (.ireturn, 1) := by decide +kernel
theorem dX11_listen_23 : decode cX11_listen 23 = .ok (.iload_n 2, 1) := by decide +kernel
theorem dX11_listen_24 : decode cX11_listen 24 = .ok (.invokestatic 290, 3) := by decide +kernel
theorem dX11_listen_27 : decode cX11_listen 27 = .ok (.istore_n 3, 1) := by decide +kernel
theorem dX11_listen_28 : decode cX11_listen 28 = .ok (.bipush 7, 2) := by decide +kernel
theorem dX11_listen_30 : decode cX11_listen 30 = .ok (.istore 4, 2) := by decide +kernel
theorem dX11_listen_32 : decode cX11_listen 32 = .ok (.iconst (-1), 1) := by decide +kernel
theorem dX11_listen_33 : decode cX11_listen 33 = .ok (.istore 5, 2) := by decide +kernel
theorem dX11_listen_35 : decode cX11_listen 35 = .ok (.iconst 0, 1) := by decide +kernel
theorem dX11_listen_36 : decode cX11_listen 36 = .ok (.istore 6, 2) := by decide +kernel
theorem dX11_listen_38 : decode cX11_listen 38 = .ok (.iload 6, 2) := by decide +kernel
theorem dX11_listen_40 : decode cX11_listen 40 = .ok (.bipush 8, 2) := by decide +kernel
theorem dX11_listen_42 : decode cX11_listen 42 = .ok (.if_icmp .ge 78, 3) := by decide +kernel
theorem dX11_listen_45 : decode cX11_listen 45 = .ok (.iconst 0, 1) := by decide +kernel
theorem dX11_listen_46 : decode cX11_listen 46 = .ok (.istore 7, 2) := by decide +kernel
theorem dX11_listen_48 : decode cX11_listen 48 = .ok (.iload 7, 2) := by decide +kernel
theorem dX11_listen_50 : decode cX11_listen 50 = .ok (.bipush 8, 2) := by decide +kernel
theorem dX11_listen_52 : decode cX11_listen 52 = .ok (.if_icmp .ge 62, 3) := by decide +kernel
theorem dX11_listen_55 : decode cX11_listen 55 = .ok (.iload_n 2, 1) := by decide +kernel
theorem dX11_listen_56 : decode cX11_listen 56 = .ok (.aload_n 0, 1) := by decide +kernel
theorem dX11_listen_57 : decode cX11_listen 57 = .ok (.getfield 91, 3) := by decide +kernel
theorem dX11_listen_60 : decode cX11_listen 60 = .ok (.getfield 116, 3) := by decide +kernel
theorem dX11_listen_63 : decode cX11_listen 63 = .ok (.iload 6, 2) := by decide +kernel
theorem dX11_listen_65 : decode cX11_listen 65 = .ok (.iload 7, 2) := by decide +kernel
theorem dX11_listen_67 : decode cX11_listen 67 = .ok (.invokevirtual 295, 3) := by decide +kernel
theorem dX11_listen_70 : decode cX11_listen 70 = .ok (.iand, 1) := by decide +kernel
theorem dX11_listen_71 : decode cX11_listen 71 = .ok (.invokestatic 290, 3) := by decide +kernel
theorem dX11_listen_74 : decode cX11_listen 74 = .ok (.istore 8, 2) := by decide +kernel
theorem dX11_listen_76 : decode cX11_listen 76 = .ok (.iload 8, 2) := by decide +kernel
theorem dX11_listen_78 : decode cX11_listen 78 = .ok (.iload_n 3, 1) := by decide +kernel
theorem dX11_listen_79 : decode cX11_listen 79 = .ok (.iload 8, 2) := by decide +kernel
theorem dX11_listen_81 : decode cX11_listen 81 = .ok (.isub, 1) := by decide +kernel
theorem dX11_listen_82 : decode cX11_listen 82 = .ok (.invokestatic 298, 3) := by decide +kernel
theorem dX11_listen_85 : decode cX11_listen 85 = .ok (.istore 9, 2) := by decide +kernel
theorem dX11_listen_87 : decode cX11_listen 87 = .ok (.iload 9, 2) := by decide +kernel
theorem dX11_listen_89 : decode cX11_listen 89 = .ok (.iload 4, 2) := by decide +kernel
theorem dX11_listen_91 : decode cX11_listen 91 = .ok (.if_icmp .ge 17, 3) := by decide +kernel
theorem dX11_listen_94 : decode cX11_listen 94 = .ok (.iload 9, 2) := by decide +kernel
theorem dX11_listen_96 : decode cX11_listen 96 = .ok (.istore 4, 2) := by decide +kernel
theorem dX11_listen_98 : decode cX11_listen 98 = .ok (.bipush 10, 2) := by decide +kernel
theorem dX11_listen_100 : decode cX11_listen 100 = .ok (.iload 6, 2) := by decide +kernel
theorem dX11_listen_102 : decode cX11_listen 102 = .ok (.imul, 1) := by decide +kernel
theorem dX11_listen_103 : decode cX11_listen 103 = .ok (.iload 7, 2) := by decide +kernel
theorem dX11_listen_105 : decode cX11_listen 105 = .ok (.iadd, 1) := by decide +kernel
theorem dX11_listen_106 : decode cX11_listen 106 = .ok (.istore 5, 2) := by decide +kernel
theorem dX11_listen_108 : decode cX11_listen 108 = .ok (.iinc 7 1, 3) := by decide +kernel
theorem dX11_listen_111 : decode cX11_listen 111 = .ok (.goto (-63), 3) := by decide +kernel
theorem dX11_listen_114 : decode cX11_listen 114 = .ok (.iinc 6 1, 3) := by decide +kernel
theorem dX11_listen_117 : decode cX11_listen 117 = .ok (.goto (-79), 3) := by decide +kernel
theorem dX11_listen_120 : decode cX11_listen 120 = .ok (.iload_n 1, 1) := by decide +kernel
theorem dX11_listen_121 : decode cX11_listen 121 = .ok (.ifCond .ne 8, 3) := by decide +kernel
theorem dX11_listen_124 : decode cX11_listen 124 = .ok (.iload 5, 2) := by decide +kernel
theorem dX11_listen_126 : decode cX11_listen 126 = .ok (.goto 5, 3) := by decide +kernel
theorem dX11_listen_129 : decode cX11_listen 129 = .ok (.iload 4, 2) := by decide +kernel
theorem dX11_listen_131 : decode cX11_listen 131 = .ok (.ireturn, 1) := by decide +kernel
theorem dX11_steady_0 : decode cX11_steady 0 = .ok (.aload_n 0, 1) := by decide +kernel
theorem dX11_steady_1 : decode cX11_steady 1 = .ok (.getfield 91, 3) := by decide +kernel
theorem dX11_steady_4 : decode cX11_steady 4 = .ok (.getfield 116, 3) := by decide +kernel
theorem dX11_steady_7 : decode cX11_steady 7 = .ok (.iload_n 1, 1) := by decide +kernel
theorem dX11_steady_8 : decode cX11_steady 8 = .ok (.invokevirtual 140, 3) := by decide +kernel
theorem dX11_steady_11 : decode cX11_steady 11 = .ok (.ifCond .ne 5, 3) := by decide +kernel
theorem dX11_steady_14 : decode cX11_steady 14 = .ok (.iconst (-1), 1) := by decide +kernel
theorem dX11_steady_15 : decode cX11_steady 15 = .ok (.ireturn, 1) := by decide +kernel
theorem dX11_steady_16 : decode cX11_steady 16 = .ok (.aload_n 0, 1) := by decide +kernel
theorem dX11_steady_17 : decode cX11_steady 17 = .ok (.getfield 22, 3) := by decide +kernel
theorem dX11_steady_20 : decode cX11_steady 20 = .ok (.aload_n 0, 1) := by decide +kernel
theorem dX11_steady_21 : decode cX11_steady 21 = .ok (.getfield 91, 3) := by decide +kernel
theorem dX11_steady_24 : decode cX11_steady 24 = .ok (.aload_n 0, 1) := by decide +kernel
theorem dX11_steady_25 : decode cX11_steady 25 = .ok (.getfield 95, 3) := by decide +kernel
theorem dX11_steady_28 : decode cX11_steady 28 = .ok (.invokevirtual 303, 3) := by decide +kernel
theorem dX11_steady_31 : decode cX11_steady 31 = .ok (.aload_n 0, 1) := by decide +kernel
theorem dX11_steady_32 : decode cX11_steady 32 = .ok (.getfield 22, 3) := by decide +kernel
theorem dX11_steady_35 : decode cX11_steady 35 = .ok (.aload_n 0, 1) := by decide +kernel
theorem dX11_steady_36 : decode cX11_steady 36 = .ok (.getfield 91, 3) := by decide +kernel
theorem dX11_steady_39 : decode cX11_steady 39 = .ok (.invokevirtual 307, 3) := by decide +kernel
theorem dX11_steady_42 : decode cX11_steady 42 = .ok (.aload_n 0, 1) := by decide +kernel
theorem dX11_steady_43 : decode cX11_steady 43 = .ok (.getfield 22, 3) := by decide +kernel
theorem dX11_steady_46 : decode cX11_steady 46 = .ok (.iload_n 1, 1) := by decide +kernel
theorem dX11_steady_47 : decode cX11_steady 47 = .ok (.invokevirtual 311, 3) := by decide +kernel
theorem dX11_steady_50 : decode cX11_steady 50 = .ok (.ireturn, 1) := by decide +kernel
theorem dX11_about_0 : decode cX11_about 0 = .ok (.iload_n 1, 1) := by decide +kernel
theorem dX11_about_1 : decode cX11_about 1 = .ok (.invokestatic 175, 3) := by decide +kernel
theorem dX11_about_4 : decode cX11_about 4 = .ok (.ifCond .eq 7, 3) := by decide +kernel
theorem dX11_about_7 : decode cX11_about 7 = .ok (.iload_n 2, 1) := by decide +kernel
theorem dX11_about_8 : decode cX11_about 8 = .ok (.ifCond .ge 5, 3) := by decide +kernel
theorem dX11_about_11 : decode cX11_about 11 = .ok (.iconst (-1), 1) := by decide +kernel
theorem dX11_about_12 : decode cX11_about 12 = .ok (.ireturn, 1) := by decide +kernel
theorem dX11_about_13 : decode cX11_about 13 = .ok (.iload_n 2, 1) := by decide +kernel
theorem dX11_about_14 : decode cX11_about 14 = .ok (.iconst 2, 1) := by decide +kernel
theorem dX11_about_15 : decode cX11_about 15 = .ok (.if_icmp .lt 39, 3) := by decide +kernel
theorem dX11_about_18 : decode cX11_about 18 = .ok (.aload_n 0, 1) := by decide +kernel
theorem dX11_about_19 : decode cX11_about 19 = .ok (.getfield 91, 3) := by decide +kernel
theorem dX11_about_22 : decode cX11_about 22 = .ok (.getfield 116, 3) := by decide +kernel
theorem dX11_about_25 : decode cX11_about 25 = .ok (.iload_n 2, 1) := by decide +kernel
theorem dX11_about_26 : decode cX11_about 26 = .ok (.iconst 2, 1) := by decide +kernel
theorem dX11_about_27 : decode cX11_about 27 = .ok (.isub, 1) := by decide +kernel
theorem dX11_about_28 : decode cX11_about 28 = .ok (.invokevirtual 140, 3) := by decide +kernel
theorem dX11_about_31 : decode cX11_about 31 = .ok (.ifCond .eq 21, 3) := by decide +kernel
theorem dX11_about_34 : decode cX11_about 34 = .ok (.aload_n 0, 1) := by decide +kernel
theorem dX11_about_35 : decode cX11_about 35 = .ok (.getfield 91, 3) := by decide +kernel
theorem dX11_about_38 : decode cX11_about 38 = .ok (.getfield 116, 3) := by decide +kernel
theorem dX11_about_41 : decode cX11_about 41 = .ok (.getfield 150, 3) := by decide +kernel
theorem dX11_about_44 : decode cX11_about 44 = .ok (.iload_n 2, 1) := by decide +kernel
theorem dX11_about_45 : decode cX11_about 45 = .ok (.iconst 2, 1) := by decide +kernel
theorem dX11_about_46 : decode cX11_about 46 = .ok (.isub, 1) := by decide +kernel
theorem dX11_about_47 : decode cX11_about 47 = .ok (.iaload, 1) := by decide +kernel
theorem dX11_about_48 : decode cX11_about 48 = .ok (.iconst (-1), 1) := by decide +kernel
theorem dX11_about_49 : decode cX11_about 49 = .ok (.if_icmp .eq 5, 3) := by decide +kernel
theorem dX11_about_52 : decode cX11_about 52 = .ok (.iconst (-1), 1) := by decide +kernel
theorem dX11_about_53 : decode cX11_about 53 = .ok (.ireturn, 1) := by decide +kernel
theorem dX11_about_54 : decode cX11_about 54 = .ok (.aload_n 0, 1) := by decide +kernel
theorem dX11_about_55 : decode cX11_about 55 = .ok (.getfield 22, 3) := by decide +kernel
theorem dX11_about_58 : decode cX11_about 58 = .ok (.aload_n 0, 1) := by decide +kernel
theorem dX11_about_59 : decode cX11_about 59 = .ok (.getfield 91, 3) := by decide +kernel
theorem dX11_about_62 : decode cX11_about 62 = .ok (.aload_n 0, 1) := by decide +kernel
theorem dX11_about_63 : decode cX11_about 63 = .ok (.getfield 95, 3) := by decide +kernel
theorem dX11_about_66 : decode cX11_about 66 = .ok (.invokevirtual 303, 3) := by decide +kernel
theorem dX11_about_69 : decode cX11_about 69 = .ok (.aload_n 0, 1) := by decide +kernel
theorem dX11_about_70 : decode cX11_about 70 = .ok (.getfield 22, 3) := by decide +kernel
theorem dX11_about_73 : decode cX11_about 73 = .ok (.aload_n 0, 1) := by decide +kernel
theorem dX11_about_74 : decode cX11_about 74 = .ok (.getfield 91, 3) := by decide +kernel
theorem dX11_about_77 : decode cX11_about 77 = .ok (.getfield 116, 3) := by decide +kernel
theorem dX11_about_80 : decode cX11_about 80 = .ok (.getfield 120, 3) := by decide +kernel
theorem dX11_about_83 : decode cX11_about 83 = .ok (.iload_n 1, 1) := by decide +kernel
theorem dX11_about_84 : decode cX11_about 84 = .ok (.invokevirtual 314, 3) := by decide +kernel
theorem dX11_about_87 : decode cX11_about 87 = .ok (.iload_n 2, 1) := by decide +kernel
theorem dX11_about_88 : decode cX11_about 88 = .ok (.lookupswitch 44 #[(0, 28), (1, 36)], 28) := by decide +kernel
theorem dX11_about_116 : decode cX11_about 116 = .ok (.aload_n 0, 1) := by decide +kernel
theorem dX11_about_117 : decode cX11_about 117 = .ok (.getfield 22, 3) := by decide +kernel
theorem dX11_about_120 : decode cX11_about 120 = .ok (.invokevirtual 318, 3) := by decide +kernel
theorem dX11_about_123 : decode cX11_about 123 = .ok (.ireturn, 1) := by decide +kernel
theorem dX11_about_124 : decode cX11_about 124 = .ok (.aload_n 0, 1) := by decide +kernel
theorem dX11_about_125 : decode cX11_about 125 = .ok (.getfield 22, 3) := by decide +kernel
theorem dX11_about_128 : decode cX11_about 128 = .ok (.invokevirtual 321, 3) := by decide +kernel
theorem dX11_about_131 : decode cX11_about 131 = .ok (.ireturn, 1) := by decide +kernel
theorem dX11_about_132 : decode cX11_about 132 = .ok (.aload_n 0, 1) := by decide +kernel
theorem dX11_about_133 : decode cX11_about 133 = .ok (.getfield 22, 3) := by decide +kernel
theorem dX11_about_136 : decode cX11_about 136 = .ok (.getfield 324, 3) := by decide +kernel
theorem dX11_about_139 : decode cX11_about 139 = .ok (.iload_n 2, 1) := by decide +kernel
theorem dX11_about_140 : decode cX11_about 140 = .ok (.iconst 2, 1) := by decide +kernel
theorem dX11_about_141 : decode cX11_about 141 = .ok (.isub, 1) := by decide +kernel
theorem dX11_about_142 : decode cX11_about 142 = .ok (.iaload, 1) := by decide +kernel
theorem dX11_about_143 : decode cX11_about 143 = .ok (.ireturn, 1) := by decide +kernel
theorem dX11_keep_0 : decode cX11_keep 0 = .ok (.aload_n 0, 1) := by decide +kernel
theorem dX11_keep_1 : decode cX11_keep 1 = .ok (.getfield 91, 3) := by decide +kernel
theorem dX11_keep_4 : decode cX11_keep 4 = .ok (.getfield 116, 3) := by decide +kernel
theorem dX11_keep_7 : decode cX11_keep 7 = .ok (.iload_n 1, 1) := by decide +kernel
theorem dX11_keep_8 : decode cX11_keep 8 = .ok (.invokevirtual 140, 3) := by decide +kernel
theorem dX11_keep_11 : decode cX11_keep 11 = .ok (.ifCond .eq 25, 3) := by decide +kernel
theorem dX11_keep_14 : decode cX11_keep 14 = .ok (.iload_n 2, 1) := by decide +kernel
theorem dX11_keep_15 : decode cX11_keep 15 = .ok (.ifCond .lt 21, 3) := by decide +kernel
theorem dX11_keep_18 : decode cX11_keep 18 = .ok (.iload_n 2, 1) := by decide +kernel
theorem dX11_keep_19 : decode cX11_keep 19 = .ok (.bipush 8, 2) := by decide +kernel
theorem dX11_keep_21 : decode cX11_keep 21 = .ok (.if_icmp .gt 15, 3) := by decide +kernel
theorem dX11_keep_24 : decode cX11_keep 24 = .ok (.iload_n 3, 1) := by decide +kernel
theorem dX11_keep_25 : decode cX11_keep 25 = .ok (.iconst (-1), 1) := by decide +kernel
theorem dX11_keep_26 : decode cX11_keep 26 = .ok (.if_icmp .eq 12, 3) := by decide +kernel
theorem dX11_keep_29 : decode cX11_keep 29 = .ok (.iload_n 3, 1) := by decide +kernel
theorem dX11_keep_30 : decode cX11_keep 30 = .ok (.invokestatic 166, 3) := by decide +kernel
theorem dX11_keep_33 : decode cX11_keep 33 = .ok (.ifCond .ne 5, 3) := by decide +kernel
theorem dX11_keep_36 : decode cX11_keep 36 = .ok (.iconst (-1), 1) := by decide +kernel
theorem dX11_keep_37 : decode cX11_keep 37 = .ok (.ireturn, 1) := by decide +kernel
theorem dX11_keep_38 : decode cX11_keep 38 = .ok (.aload_n 0, 1) := by decide +kernel
theorem dX11_keep_39 : decode cX11_keep 39 = .ok (.getfield 29, 3) := by decide +kernel
theorem dX11_keep_42 : decode cX11_keep 42 = .ok (.aload_n 0, 1) := by decide +kernel
theorem dX11_keep_43 : decode cX11_keep 43 = .ok (.getfield 91, 3) := by decide +kernel
theorem dX11_keep_46 : decode cX11_keep 46 = .ok (.getfield 116, 3) := by decide +kernel
theorem dX11_keep_49 : decode cX11_keep 49 = .ok (.iload_n 1, 1) := by decide +kernel
theorem dX11_keep_50 : decode cX11_keep 50 = .ok (.iload_n 2, 1) := by decide +kernel
theorem dX11_keep_51 : decode cX11_keep 51 = .ok (.invokevirtual 327, 3) := by decide +kernel
theorem dX11_keep_54 : decode cX11_keep 54 = .ok (.istore 4, 2) := by decide +kernel
theorem dX11_keep_56 : decode cX11_keep 56 = .ok (.iload_n 3, 1) := by decide +kernel
theorem dX11_keep_57 : decode cX11_keep 57 = .ok (.iconst (-1), 1) := by decide +kernel
theorem dX11_keep_58 : decode cX11_keep 58 = .ok (.if_icmp .ne 8, 3) := by decide +kernel
theorem dX11_keep_61 : decode cX11_keep 61 = .ok (.iload 4, 2) := by decide +kernel
theorem dX11_keep_63 : decode cX11_keep 63 = .ok (.goto 12, 3) := by decide +kernel
theorem dX11_keep_66 : decode cX11_keep 66 = .ok (.aload_n 0, 1) := by decide +kernel
theorem dX11_keep_67 : decode cX11_keep 67 = .ok (.getfield 29, 3) := by decide +kernel
theorem dX11_keep_70 : decode cX11_keep 70 = .ok (.getfield 331, 3) := by decide +kernel
theorem dX11_keep_73 : decode cX11_keep 73 = .ok (.iload_n 3, 1) := by decide +kernel
theorem dX11_keep_74 : decode cX11_keep 74 = .ok (.iaload, 1) := by decide +kernel
theorem dX11_keep_75 : decode cX11_keep 75 = .ok (.ireturn, 1) := by decide +kernel
theorem dX11_clash_0 : decode cX11_clash 0 = .ok (.aload_n 0, 1) := by decide +kernel
theorem dX11_clash_1 : decode cX11_clash 1 = .ok (.iload_n 1, 1) := by decide +kernel
theorem dX11_clash_2 : decode cX11_clash 2 = .ok (.iload_n 2, 1) := by decide +kernel
theorem dX11_clash_3 : decode cX11_clash 3 = .ok (.invokevirtual 332, 3) := by decide +kernel
theorem dX11_clash_6 : decode cX11_clash 6 = .ok (.ifCond .eq 30, 3) := by decide +kernel
theorem dX11_clash_9 : decode cX11_clash 9 = .ok (.iload_n 3, 1) := by decide +kernel
theorem dX11_clash_10 : decode cX11_clash 10 = .ok (.invokestatic 166, 3) := by decide +kernel
theorem dX11_clash_13 : decode cX11_clash 13 = .ok (.ifCond .eq 23, 3) := by decide +kernel
theorem dX11_clash_16 : decode cX11_clash 16 = .ok (.aload_n 0, 1) := by decide +kernel
theorem dX11_clash_17 : decode cX11_clash 17 = .ok (.getfield 29, 3) := by decide +kernel
theorem dX11_clash_20 : decode cX11_clash 20 = .ok (.aload_n 0, 1) := by decide +kernel
theorem dX11_clash_21 : decode cX11_clash 21 = .ok (.getfield 91, 3) := by decide +kernel
theorem dX11_clash_24 : decode cX11_clash 24 = .ok (.getfield 116, 3) := by decide +kernel
theorem dX11_clash_27 : decode cX11_clash 27 = .ok (.iload_n 1, 1) := by decide +kernel
theorem dX11_clash_28 : decode cX11_clash 28 = .ok (.iload_n 2, 1) := by decide +kernel
theorem dX11_clash_29 : decode cX11_clash 29 = .ok (.iload_n 3, 1) := by decide +kernel
theorem dX11_clash_30 : decode cX11_clash 30 = .ok (.invokevirtual 336, 3) := by decide +kernel
theorem dX11_clash_33 : decode cX11_clash 33 = .ok (.goto 4, 3) := by decide +kernel
theorem dX11_clash_36 : decode cX11_clash 36 = .ok (.iconst (-1), 1) := by decide +kernel
theorem dX11_clash_37 : decode cX11_clash 37 = .ok (.ireturn, 1) := by decide +kernel
theorem dX11_best_0 : decode cX11_best 0 = .ok (.aload_n 0, 1) := by decide +kernel
theorem dX11_best_1 : decode cX11_best 1 = .ok (.iload_n 1, 1) := by decide +kernel
theorem dX11_best_2 : decode cX11_best 2 = .ok (.iload_n 2, 1) := by decide +kernel
theorem dX11_best_3 : decode cX11_best 3 = .ok (.invokevirtual 332, 3) := by decide +kernel
theorem dX11_best_6 : decode cX11_best 6 = .ok (.ifCond .eq 12, 3) := by decide +kernel
theorem dX11_best_9 : decode cX11_best 9 = .ok (.iload_n 3, 1) := by decide +kernel
theorem dX11_best_10 : decode cX11_best 10 = .ok (.ifCond .lt 8, 3) := by decide +kernel
theorem dX11_best_13 : decode cX11_best 13 = .ok (.iload_n 3, 1) := by decide +kernel
theorem dX11_best_14 : decode cX11_best 14 = .ok (.iconst 1, 1) := by decide +kernel
theorem dX11_best_15 : decode cX11_best 15 = .ok (.if_icmp .le 5, 3) := by decide +kernel
theorem dX11_best_18 : decode cX11_best 18 = .ok (.iconst (-1), 1) := by decide +kernel
theorem dX11_best_19 : decode cX11_best 19 = .ok (.ireturn, 1) := by decide +kernel
theorem dX11_best_20 : decode cX11_best 20 = .ok (.iconst 0, 1) := by decide +kernel
theorem dX11_best_21 : decode cX11_best 21 = .ok (.istore 4, 2) := by decide +kernel
theorem dX11_best_23 : decode cX11_best 23 = .ok (.aload_n 0, 1) := by decide +kernel
theorem dX11_best_24 : decode cX11_best 24 = .ok (.getfield 29, 3) := by decide +kernel
theorem dX11_best_27 : decode cX11_best 27 = .ok (.aload_n 0, 1) := by decide +kernel
theorem dX11_best_28 : decode cX11_best 28 = .ok (.getfield 91, 3) := by decide +kernel
theorem dX11_best_31 : decode cX11_best 31 = .ok (.getfield 116, 3) := by decide +kernel
theorem dX11_best_34 : decode cX11_best 34 = .ok (.iload_n 1, 1) := by decide +kernel
theorem dX11_best_35 : decode cX11_best 35 = .ok (.iload_n 2, 1) := by decide +kernel
theorem dX11_best_36 : decode cX11_best 36 = .ok (.iconst 0, 1) := by decide +kernel
theorem dX11_best_37 : decode cX11_best 37 = .ok (.invokevirtual 336, 3) := by decide +kernel
theorem dX11_best_40 : decode cX11_best 40 = .ok (.istore 5, 2) := by decide +kernel
theorem dX11_best_42 : decode cX11_best 42 = .ok (.iconst 1, 1) := by decide +kernel
theorem dX11_best_43 : decode cX11_best 43 = .ok (.istore 6, 2) := by decide +kernel
theorem dX11_best_45 : decode cX11_best 45 = .ok (.iload 6, 2) := by decide +kernel
theorem dX11_best_47 : decode cX11_best 47 = .ok (.bipush 8, 2) := by decide +kernel
theorem dX11_best_49 : decode cX11_best 49 = .ok (.if_icmp .ge 44, 3) := by decide +kernel
theorem dX11_best_52 : decode cX11_best 52 = .ok (.aload_n 0, 1) := by decide +kernel
theorem dX11_best_53 : decode cX11_best 53 = .ok (.getfield 29, 3) := by decide +kernel
theorem dX11_best_56 : decode cX11_best 56 = .ok (.aload_n 0, 1) := by decide +kernel
theorem dX11_best_57 : decode cX11_best 57 = .ok (.getfield 91, 3) := by decide +kernel
theorem dX11_best_60 : decode cX11_best 60 = .ok (.getfield 116, 3) := by decide +kernel
theorem dX11_best_63 : decode cX11_best 63 = .ok (.iload_n 1, 1) := by decide +kernel
theorem dX11_best_64 : decode cX11_best 64 = .ok (.iload_n 2, 1) := by decide +kernel
theorem dX11_best_65 : decode cX11_best 65 = .ok (.iload 6, 2) := by decide +kernel
theorem dX11_best_67 : decode cX11_best 67 = .ok (.invokevirtual 336, 3) := by decide +kernel
theorem dX11_best_70 : decode cX11_best 70 = .ok (.istore 7, 2) := by decide +kernel
theorem dX11_best_72 : decode cX11_best 72 = .ok (.iload 7, 2) := by decide +kernel
theorem dX11_best_74 : decode cX11_best 74 = .ok (.iload 5, 2) := by decide +kernel
theorem dX11_best_76 : decode cX11_best 76 = .ok (.if_icmp .ge 11, 3) := by decide +kernel
theorem dX11_best_79 : decode cX11_best 79 = .ok (.iload 7, 2) := by decide +kernel
theorem dX11_best_81 : decode cX11_best 81 = .ok (.istore 5, 2) := by decide +kernel
theorem dX11_best_83 : decode cX11_best 83 = .ok (.iload 6, 2) := by decide +kernel
theorem dX11_best_85 : decode cX11_best 85 = .ok (.istore 4, 2) := by decide +kernel
theorem dX11_best_87 : decode cX11_best 87 = .ok (.iinc 6 1, 3) := by decide +kernel
theorem dX11_best_90 : decode cX11_best 90 = .ok (.goto (-45), 3) := by decide +kernel
theorem dX11_best_93 : decode cX11_best 93 = .ok (.iload_n 3, 1) := by decide +kernel
theorem dX11_best_94 : decode cX11_best 94 = .ok (.ifCond .ne 8, 3) := by decide +kernel
theorem dX11_best_97 : decode cX11_best 97 = .ok (.iload 4, 2) := by decide +kernel
theorem dX11_best_99 : decode cX11_best 99 = .ok (.goto 5, 3) := by decide +kernel
theorem dX11_best_102 : decode cX11_best 102 = .ok (.iload 5, 2) := by decide +kernel
theorem dX11_best_104 : decode cX11_best 104 = .ok (.ireturn, 1) := by decide +kernel
theorem dX11_filed_0 : decode cX11_filed 0 = .ok (.aload_n 0, 1) := by decide +kernel
theorem dX11_filed_1 : decode cX11_filed 1 = .ok (.iload_n 1, 1) := by decide +kernel
theorem dX11_filed_2 : decode cX11_filed 2 = .ok (.iload_n 2, 1) := by decide +kernel
theorem dX11_filed_3 : decode cX11_filed 3 = .ok (.invokevirtual 332, 3) := by decide +kernel
theorem dX11_filed_6 : decode cX11_filed 6 = .ok (.ifCond .eq 10, 3) := by decide +kernel
theorem dX11_filed_9 : decode cX11_filed 9 = .ok (.iload_n 3, 1) := by decide +kernel
theorem dX11_filed_10 : decode cX11_filed 10 = .ok (.invokestatic 166, 3) := by decide +kernel
theorem dX11_filed_13 : decode cX11_filed 13 = .ok (.ifCond .ne 5, 3) := by decide +kernel
theorem dX11_filed_16 : decode cX11_filed 16 = .ok (.iconst (-1), 1) := by decide +kernel
theorem dX11_filed_17 : decode cX11_filed 17 = .ok (.ireturn, 1) := by decide +kernel
theorem dX11_filed_18 : decode cX11_filed 18 = .ok (.aload_n 0, 1) := by decide +kernel
theorem dX11_filed_19 : decode cX11_filed 19 = .ok (.getfield 29, 3) := by decide +kernel
theorem dX11_filed_22 : decode cX11_filed 22 = .ok (.aload_n 0, 1) := by decide +kernel
theorem dX11_filed_23 : decode cX11_filed 23 = .ok (.getfield 91, 3) := by decide +kernel
theorem dX11_filed_26 : decode cX11_filed 26 = .ok (.getfield 116, 3) := by decide +kernel
theorem dX11_filed_29 : decode cX11_filed 29 = .ok (.iload_n 1, 1) := by decide +kernel
theorem dX11_filed_30 : decode cX11_filed 30 = .ok (.iload_n 2, 1) := by decide +kernel
theorem dX11_filed_31 : decode cX11_filed 31 = .ok (.iload_n 3, 1) := by decide +kernel
theorem dX11_filed_32 : decode cX11_filed 32 = .ok (.invokevirtual 340, 3) := by decide +kernel
theorem dX11_filed_35 : decode cX11_filed 35 = .ok (.iload 4, 2) := by decide +kernel
theorem dX11_filed_37 : decode cX11_filed 37 = .ok (.tableswitch 51 0 2 #[27, 35, 43], 27) := by decide +kernel
theorem dX11_filed_64 : decode cX11_filed 64 = .ok (.aload_n 0, 1) := by decide +kernel
theorem dX11_filed_65 : decode cX11_filed 65 = .ok (.getfield 29, 3) := by decide +kernel
theorem dX11_filed_68 : decode cX11_filed 68 = .ok (.getfield 344, 3) := by decide +kernel
theorem dX11_filed_71 : decode cX11_filed 71 = .ok (.ireturn, 1) := by decide +kernel
theorem dX11_filed_72 : decode cX11_filed 72 = .ok (.aload_n 0, 1) := by decide +kernel
theorem dX11_filed_73 : decode cX11_filed 73 = .ok (.getfield 29, 3) := by decide +kernel
theorem dX11_filed_76 : decode cX11_filed 76 = .ok (.getfield 347, 3) := by decide +kernel
theorem dX11_filed_79 : decode cX11_filed 79 = .ok (.ireturn, 1) := by decide +kernel
theorem dX11_filed_80 : decode cX11_filed 80 = .ok (.aload_n 0, 1) := by decide +kernel
theorem dX11_filed_81 : decode cX11_filed 81 = .ok (.getfield 29, 3) := by decide +kernel
theorem dX11_filed_84 : decode cX11_filed 84 = .ok (.getfield 350, 3) := by decide +kernel
theorem dX11_filed_87 : decode cX11_filed 87 = .ok (.ireturn, 1) := by decide +kernel
theorem dX11_filed_88 : decode cX11_filed 88 = .ok (.iconst (-1), 1) := by decide +kernel
theorem dX11_filed_89 : decode cX11_filed 89 = .ok (.ireturn, 1) := by decide +kernel
theorem dX11_again_0 : decode cX11_again 0 = .ok (.aload_n 0, 1) := by decide +kernel
theorem dX11_again_1 : decode cX11_again 1 = .ok (.getfield 91, 3) := by decide +kernel
theorem dX11_again_4 : decode cX11_again 4 = .ok (.getfield 116, 3) := by decide +kernel
theorem dX11_again_7 : decode cX11_again 7 = .ok (.iload_n 1, 1) := by decide +kernel
theorem dX11_again_8 : decode cX11_again 8 = .ok (.invokevirtual 140, 3) := by decide +kernel
theorem dX11_again_11 : decode cX11_again 11 = .ok (.ifCond .eq 8, 3) := by decide +kernel
theorem dX11_again_14 : decode cX11_again 14 = .ok (.iload_n 2, 1) := by decide +kernel
theorem dX11_again_15 : decode cX11_again 15 = .ok (.iconst (-1), 1) := by decide +kernel
theorem dX11_again_16 : decode cX11_again 16 = .ok (.if_icmp .ge 5, 3) := by decide +kernel
theorem dX11_again_19 : decode cX11_again 19 = .ok (.iconst (-1), 1) := by decide +kernel
theorem dX11_again_20 : decode cX11_again 20 = .ok (.ireturn, 1) := by decide +kernel
theorem dX11_again_21 : decode cX11_again 21 = .ok (.iconst 0, 1) := by decide +kernel
theorem dX11_again_22 : decode cX11_again 22 = .ok (.istore_n 3, 1) := by decide +kernel
theorem dX11_again_23 : decode cX11_again 23 = .ok (.iconst 0, 1) := by decide +kernel
theorem dX11_again_24 : decode cX11_again 24 = .ok (.istore 4, 2) := by decide +kernel
theorem dX11_again_26 : decode cX11_again 26 = .ok (.iload 4, 2) := by decide +kernel
theorem dX11_again_28 : decode cX11_again 28 = .ok (.bipush 8, 2) := by decide +kernel
theorem dX11_again_30 : decode cX11_again 30 = .ok (.if_icmp .ge 74, 3) := by decide +kernel
theorem dX11_again_33 : decode cX11_again 33 = .ok (.iload 4, 2) := by decide +kernel
theorem dX11_again_35 : decode cX11_again 35 = .ok (.iconst 1, 1) := by decide +kernel
theorem dX11_again_36 : decode cX11_again 36 = .ok (.iadd, 1) := by decide +kernel
theorem dX11_again_37 : decode cX11_again 37 = .ok (.istore 5, 2) := by decide +kernel
theorem dX11_again_39 : decode cX11_again 39 = .ok (.iload 5, 2) := by decide +kernel
theorem dX11_again_41 : decode cX11_again 41 = .ok (.bipush 8, 2) := by decide +kernel
theorem dX11_again_43 : decode cX11_again 43 = .ok (.if_icmp .ge 55, 3) := by decide +kernel
theorem dX11_again_46 : decode cX11_again 46 = .ok (.aload_n 0, 1) := by decide +kernel
theorem dX11_again_47 : decode cX11_again 47 = .ok (.getfield 91, 3) := by decide +kernel
theorem dX11_again_50 : decode cX11_again 50 = .ok (.getfield 116, 3) := by decide +kernel
theorem dX11_again_53 : decode cX11_again 53 = .ok (.iload_n 1, 1) := by decide +kernel
theorem dX11_again_54 : decode cX11_again 54 = .ok (.iload 4, 2) := by decide +kernel
theorem dX11_again_56 : decode cX11_again 56 = .ok (.invokevirtual 353, 3) := by decide +kernel
theorem dX11_again_59 : decode cX11_again 59 = .ok (.aload_n 0, 1) := by decide +kernel
theorem dX11_again_60 : decode cX11_again 60 = .ok (.getfield 91, 3) := by decide +kernel
theorem dX11_again_63 : decode cX11_again 63 = .ok (.getfield 116, 3) := by decide +kernel
theorem dX11_again_66 : decode cX11_again 66 = .ok (.iload_n 1, 1) := by decide +kernel
theorem dX11_again_67 : decode cX11_again 67 = .ok (.iload 5, 2) := by decide +kernel
theorem dX11_again_69 : decode cX11_again 69 = .ok (.invokevirtual 353, 3) := by decide +kernel
theorem dX11_again_72 : decode cX11_again 72 = .ok (.if_icmp .ne 20, 3) := by decide +kernel
theorem dX11_again_75 : decode cX11_again 75 = .ok (.iload_n 3, 1) := by decide +kernel
theorem dX11_again_76 : decode cX11_again 76 = .ok (.iload_n 2, 1) := by decide +kernel
theorem dX11_again_77 : decode cX11_again 77 = .ok (.if_icmp .ne 12, 3) := by decide +kernel
theorem dX11_again_80 : decode cX11_again 80 = .ok (.bipush 10, 2) := by decide +kernel
theorem dX11_again_82 : decode cX11_again 82 = .ok (.iload 4, 2) := by decide +kernel
theorem dX11_again_84 : decode cX11_again 84 = .ok (.imul, 1) := by decide +kernel
theorem dX11_again_85 : decode cX11_again 85 = .ok (.iload 5, 2) := by decide +kernel
theorem dX11_again_87 : decode cX11_again 87 = .ok (.iadd, 1) := by decide +kernel
theorem dX11_again_88 : decode cX11_again 88 = .ok (.ireturn, 1) := by decide +kernel
theorem dX11_again_89 : decode cX11_again 89 = .ok (.iinc 3 1, 3) := by decide +kernel
theorem dX11_again_92 : decode cX11_again 92 = .ok (.iinc 5 1, 3) := by decide +kernel
theorem dX11_again_95 : decode cX11_again 95 = .ok (.goto (-56), 3) := by decide +kernel
theorem dX11_again_98 : decode cX11_again 98 = .ok (.iinc 4 1, 3) := by decide +kernel
theorem dX11_again_101 : decode cX11_again 101 = .ok (.goto (-75), 3) := by decide +kernel
theorem dX11_again_104 : decode cX11_again 104 = .ok (.iload_n 2, 1) := by decide +kernel
theorem dX11_again_105 : decode cX11_again 105 = .ok (.iconst (-1), 1) := by decide +kernel
theorem dX11_again_106 : decode cX11_again 106 = .ok (.if_icmp .ne 7, 3) := by decide +kernel
theorem dX11_again_109 : decode cX11_again 109 = .ok (.iload_n 3, 1) := by decide +kernel
theorem dX11_again_110 : decode cX11_again 110 = .ok (.goto 4, 3) := by decide +kernel
theorem dX11_again_113 : decode cX11_again 113 = .ok (.iconst (-1), 1) := by decide +kernel
theorem dX11_again_114 : decode cX11_again 114 = .ok (.ireturn, 1) := by decide +kernel
theorem dX11_shares_0 : decode cX11_shares 0 = .ok (.iload_n 1, 1) := by decide +kernel
theorem dX11_shares_1 : decode cX11_shares 1 = .ok (.iconst 1, 1) := by decide +kernel
theorem dX11_shares_2 : decode cX11_shares 2 = .ok (.if_icmp .lt 32, 3) := by decide +kernel
theorem dX11_shares_5 : decode cX11_shares 5 = .ok (.iload_n 1, 1) := by decide +kernel
theorem dX11_shares_6 : decode cX11_shares 6 = .ok (.iconst 3, 1) := by decide +kernel
theorem dX11_shares_7 : decode cX11_shares 7 = .ok (.if_icmp .gt 27, 3) := by decide +kernel
theorem dX11_shares_10 : decode cX11_shares 10 = .ok (.iload_n 2, 1) := by decide +kernel
theorem dX11_shares_11 : decode cX11_shares 11 = .ok (.ifCond .lt 23, 3) := by decide +kernel
theorem dX11_shares_14 : decode cX11_shares 14 = .ok (.iload_n 2, 1) := by decide +kernel
theorem dX11_shares_15 : decode cX11_shares 15 = .ok (.ifCond .le 21, 3) := by decide +kernel
theorem dX11_shares_18 : decode cX11_shares 18 = .ok (.aload_n 0, 1) := by decide +kernel
theorem dX11_shares_19 : decode cX11_shares 19 = .ok (.getfield 91, 3) := by decide +kernel
theorem dX11_shares_22 : decode cX11_shares 22 = .ok (.getfield 116, 3) := by decide +kernel
theorem dX11_shares_25 : decode cX11_shares 25 = .ok (.iload_n 2, 1) := by decide +kernel
theorem dX11_shares_26 : decode cX11_shares 26 = .ok (.iconst 1, 1) := by decide +kernel
theorem dX11_shares_27 : decode cX11_shares 27 = .ok (.isub, 1) := by decide +kernel
theorem dX11_shares_28 : decode cX11_shares 28 = .ok (.invokevirtual 140, 3) := by decide +kernel
theorem dX11_shares_31 : decode cX11_shares 31 = .ok (.ifCond .ne 5, 3) := by decide +kernel
theorem dX11_shares_34 : decode cX11_shares 34 = .ok (.iconst (-1), 1) := by decide +kernel
theorem dX11_shares_35 : decode cX11_shares 35 = .ok (.ireturn, 1) := by decide +kernel
theorem dX11_shares_36 : decode cX11_shares 36 = .ok (.aload_n 0, 1) := by decide +kernel
theorem dX11_shares_37 : decode cX11_shares 37 = .ok (.invokevirtual 356, 3) := by decide +kernel
theorem dX11_shares_40 : decode cX11_shares 40 = .ok (.aload_n 0, 1) := by decide +kernel
theorem dX11_shares_41 : decode cX11_shares 41 = .ok (.getfield 91, 3) := by decide +kernel
theorem dX11_shares_44 : decode cX11_shares 44 = .ok (.getfield 116, 3) := by decide +kernel
theorem dX11_shares_47 : decode cX11_shares 47 = .ok (.getfield 120, 3) := by decide +kernel
theorem dX11_shares_50 : decode cX11_shares 50 = .ok (.istore_n 3, 1) := by decide +kernel
theorem dX11_shares_51 : decode cX11_shares 51 = .ok (.iconst 1, 1) := by decide +kernel
theorem dX11_shares_52 : decode cX11_shares 52 = .ok (.istore 4, 2) := by decide +kernel
theorem dX11_shares_54 : decode cX11_shares 54 = .ok (.iconst 0, 1) := by decide +kernel
theorem dX11_shares_55 : decode cX11_shares 55 = .ok (.istore 5, 2) := by decide +kernel
theorem dX11_shares_57 : decode cX11_shares 57 = .ok (.iload 5, 2) := by decide +kernel
theorem dX11_shares_59 : decode cX11_shares 59 = .ok (.iload_n 3, 1) := by decide +kernel
theorem dX11_shares_60 : decode cX11_shares 60 = .ok (.if_icmp .ge 15, 3) := by decide +kernel
theorem dX11_shares_63 : decode cX11_shares 63 = .ok (.iload 4, 2) := by decide +kernel
theorem dX11_shares_65 : decode cX11_shares 65 = .ok (.iload_n 1, 1) := by decide +kernel
theorem dX11_shares_66 : decode cX11_shares 66 = .ok (.imul, 1) := by decide +kernel
theorem dX11_shares_67 : decode cX11_shares 67 = .ok (.istore 4, 2) := by decide +kernel
theorem dX11_shares_69 : decode cX11_shares 69 = .ok (.iinc 5 1, 3) := by decide +kernel
theorem dX11_shares_72 : decode cX11_shares 72 = .ok (.goto (-15), 3) := by decide +kernel
theorem dX11_shares_75 : decode cX11_shares 75 = .ok (.iconst (-1), 1) := by decide +kernel
theorem dX11_shares_76 : decode cX11_shares 76 = .ok (.istore 5, 2) := by decide +kernel
theorem dX11_shares_78 : decode cX11_shares 78 = .ok (.iconst 0, 1) := by decide +kernel
theorem dX11_shares_79 : decode cX11_shares 79 = .ok (.istore 6, 2) := by decide +kernel
theorem dX11_shares_81 : decode cX11_shares 81 = .ok (.iconst 0, 1) := by decide +kernel
theorem dX11_shares_82 : decode cX11_shares 82 = .ok (.istore 7, 2) := by decide +kernel
theorem dX11_shares_84 : decode cX11_shares 84 = .ok (.iload 7, 2) := by decide +kernel
theorem dX11_shares_86 : decode cX11_shares 86 = .ok (.iload 4, 2) := by decide +kernel
theorem dX11_shares_88 : decode cX11_shares 88 = .ok (.if_icmp .ge 38, 3) := by decide +kernel
theorem dX11_shares_91 : decode cX11_shares 91 = .ok (.aload_n 0, 1) := by decide +kernel
theorem dX11_shares_92 : decode cX11_shares 92 = .ok (.iload 7, 2) := by decide +kernel
theorem dX11_shares_94 : decode cX11_shares 94 = .ok (.iload_n 1, 1) := by decide +kernel
theorem dX11_shares_95 : decode cX11_shares 95 = .ok (.invokevirtual 359, 3) := by decide +kernel
theorem dX11_shares_98 : decode cX11_shares 98 = .ok (.aload_n 0, 1) := by decide +kernel
theorem dX11_shares_99 : decode cX11_shares 99 = .ok (.iload_n 1, 1) := by decide +kernel
theorem dX11_shares_100 : decode cX11_shares 100 = .ok (.invokevirtual 362, 3) := by decide +kernel
theorem dX11_shares_103 : decode cX11_shares 103 = .ok (.istore 8, 2) := by decide +kernel
theorem dX11_shares_105 : decode cX11_shares 105 = .ok (.iload 8, 2) := by decide +kernel
theorem dX11_shares_107 : decode cX11_shares 107 = .ok (.iload 5, 2) := by decide +kernel
theorem dX11_shares_109 : decode cX11_shares 109 = .ok (.if_icmp .le 11, 3) := by decide +kernel
theorem dX11_shares_112 : decode cX11_shares 112 = .ok (.iload 8, 2) := by decide +kernel
theorem dX11_shares_114 : decode cX11_shares 114 = .ok (.istore 5, 2) := by decide +kernel
theorem dX11_shares_116 : decode cX11_shares 116 = .ok (.iload 7, 2) := by decide +kernel
theorem dX11_shares_118 : decode cX11_shares 118 = .ok (.istore 6, 2) := by decide +kernel
theorem dX11_shares_120 : decode cX11_shares 120 = .ok (.iinc 7 1, 3) := by decide +kernel
theorem dX11_shares_123 : decode cX11_shares 123 = .ok (.goto (-39), 3) := by decide +kernel
theorem dX11_shares_126 : decode cX11_shares 126 = .ok (.aload_n 0, 1) := by decide +kernel
theorem dX11_shares_127 : decode cX11_shares 127 = .ok (.iload 6, 2) := by decide +kernel
theorem dX11_shares_129 : decode cX11_shares 129 = .ok (.iload_n 1, 1) := by decide +kernel
theorem dX11_shares_130 : decode cX11_shares 130 = .ok (.invokevirtual 359, 3) := by decide +kernel
theorem dX11_shares_133 : decode cX11_shares 133 = .ok (.iload_n 2, 1) := by decide +kernel
theorem dX11_shares_134 : decode cX11_shares 134 = .ok (.ifCond .ne 8, 3) := by decide +kernel
theorem dX11_shares_137 : decode cX11_shares 137 = .ok (.iload 5, 2) := by decide +kernel
theorem dX11_shares_139 : decode cX11_shares 139 = .ok (.goto 11, 3) := by decide +kernel
theorem dX11_shares_142 : decode cX11_shares 142 = .ok (.aload_n 0, 1) := by decide +kernel
theorem dX11_shares_143 : decode cX11_shares 143 = .ok (.getfield 60, 3) := by decide +kernel
theorem dX11_shares_146 : decode cX11_shares 146 = .ok (.iload_n 2, 1) := by decide +kernel
theorem dX11_shares_147 : decode cX11_shares 147 = .ok (.iconst 1, 1) := by decide +kernel
theorem dX11_shares_148 : decode cX11_shares 148 = .ok (.isub, 1) := by decide +kernel
theorem dX11_shares_149 : decode cX11_shares 149 = .ok (.iaload, 1) := by decide +kernel
theorem dX11_shares_150 : decode cX11_shares 150 = .ok (.ireturn, 1) := by decide +kernel
theorem dX11_gatherLasting_0 : decode cX11_gatherLasting 0 = .ok (.iconst 0, 1) := by decide +kernel
theorem dX11_gatherLasting_1 : decode cX11_gatherLasting 1 = .ok (.istore_n 1, 1) := by decide +kernel
theorem dX11_gatherLasting_2 : decode cX11_gatherLasting 2 = .ok (.iload_n 1, 1) := by decide +kernel
theorem dX11_gatherLasting_3 : decode cX11_gatherLasting 3 = .ok (.aload_n 0, 1) := by decide +kernel
theorem dX11_gatherLasting_4 : decode cX11_gatherLasting 4 = .ok (.getfield 91, 3) := by decide +kernel
theorem dX11_gatherLasting_7 : decode cX11_gatherLasting 7 = .ok (.getfield 116, 3) := by decide +kernel
theorem dX11_gatherLasting_10 : decode cX11_gatherLasting 10 = .ok (.getfield 120, 3) := by decide +kernel
theorem dX11_gatherLasting_13 : decode cX11_gatherLasting 13 = .ok (.if_icmp .ge 37, 3) := by decide +kernel
theorem dX11_gatherLasting_16 : decode cX11_gatherLasting 16 = .ok (.aload_n 0, 1) := by decide +kernel
theorem dX11_gatherLasting_17 : decode cX11_gatherLasting 17 = .ok (.getfield 57, 3) := by decide +kernel
theorem dX11_gatherLasting_20 : decode cX11_gatherLasting 20 = .ok (.iload_n 1, 1) := by decide +kernel
theorem dX11_gatherLasting_21 : decode cX11_gatherLasting 21 = .ok (.aload_n 0, 1) := by decide +kernel
theorem dX11_gatherLasting_22 : decode cX11_gatherLasting 22 = .ok (.getfield 95, 3) := by decide +kernel
theorem dX11_gatherLasting_25 : decode cX11_gatherLasting 25 = .ok (.aload_n 0, 1) := by decide +kernel
theorem dX11_gatherLasting_26 : decode cX11_gatherLasting 26 = .ok (.getfield 91, 3) := by decide +kernel
theorem dX11_gatherLasting_29 : decode cX11_gatherLasting 29 = .ok (.invokevirtual 156, 3) := by decide +kernel
theorem dX11_gatherLasting_32 : decode cX11_gatherLasting 32 = .ok (.aload_n 0, 1) := by decide +kernel
theorem dX11_gatherLasting_33 : decode cX11_gatherLasting 33 = .ok (.getfield 91, 3) := by decide +kernel
theorem dX11_gatherLasting_36 : decode cX11_gatherLasting 36 = .ok (.getfield 116, 3) := by decide +kernel
theorem dX11_gatherLasting_39 : decode cX11_gatherLasting 39 = .ok (.iload_n 1, 1) := by decide +kernel
theorem dX11_gatherLasting_40 : decode cX11_gatherLasting 40 = .ok (.invokevirtual 160, 3) := by decide +kernel
theorem dX11_gatherLasting_43 : decode cX11_gatherLasting 43 = .ok (.iastore, 1) := by decide +kernel
theorem dX11_gatherLasting_44 : decode cX11_gatherLasting 44 = .ok (.iinc 1 1, 3) := by decide +kernel
theorem dX11_gatherLasting_47 : decode cX11_gatherLasting 47 = .ok (.goto (-45), 3) := by decide +kernel
theorem dX11_gatherLasting_50 : decode cX11_gatherLasting 50 = .ok (.return_, 1) := by decide +kernel
theorem dX11_writeShareRow_0 : decode cX11_writeShareRow 0 = .ok (.iload_n 1, 1) := by decide +kernel
theorem dX11_writeShareRow_1 : decode cX11_writeShareRow 1 = .ok (.istore_n 3, 1) := by decide +kernel
theorem dX11_writeShareRow_2 : decode cX11_writeShareRow 2 = .ok (.aload_n 0, 1) := by decide +kernel
theorem dX11_writeShareRow_3 : decode cX11_writeShareRow 3 = .ok (.getfield 91, 3) := by decide +kernel
theorem dX11_writeShareRow_6 : decode cX11_writeShareRow 6 = .ok (.getfield 116, 3) := by decide +kernel
theorem dX11_writeShareRow_9 : decode cX11_writeShareRow 9 = .ok (.getfield 120, 3) := by decide +kernel
theorem dX11_writeShareRow_12 : decode cX11_writeShareRow 12 = .ok (.iconst 1, 1) := by decide +kernel
theorem dX11_writeShareRow_13 : decode cX11_writeShareRow 13 = .ok (.isub, 1) := by decide +kernel
theorem dX11_writeShareRow_14 : decode cX11_writeShareRow 14 = .ok (.istore 4, 2) := by decide +kernel
theorem dX11_writeShareRow_16 : decode cX11_writeShareRow 16 = .ok (.iload 4, 2) := by decide +kernel
theorem dX11_writeShareRow_18 : decode cX11_writeShareRow 18 = .ok (.ifCond .lt 41, 3) := by decide +kernel
theorem dX11_writeShareRow_21 : decode cX11_writeShareRow 21 = .ok (.aload_n 0, 1) := by decide +kernel
theorem dX11_writeShareRow_22 : decode cX11_writeShareRow 22 = .ok (.getfield 60, 3) := by decide +kernel
theorem dX11_writeShareRow_25 : decode cX11_writeShareRow 25 = .ok (.iload 4, 2) := by decide +kernel
theorem dX11_writeShareRow_27 : decode cX11_writeShareRow 27 = .ok (.iload_n 2, 1) := by decide +kernel
theorem dX11_writeShareRow_28 : decode cX11_writeShareRow 28 = .ok (.iconst 1, 1) := by decide +kernel
theorem dX11_writeShareRow_29 : decode cX11_writeShareRow 29 = .ok (.if_icmp .le 9, 3) := by decide +kernel
theorem dX11_writeShareRow_32 : decode cX11_writeShareRow 32 = .ok (.iload_n 3, 1) := by decide +kernel
theorem dX11_writeShareRow_33 : decode cX11_writeShareRow 33 = .ok (.iload_n 2, 1) := by decide +kernel
theorem dX11_writeShareRow_34 : decode cX11_writeShareRow 34 = .ok (.irem, 1) := by decide +kernel
theorem dX11_writeShareRow_35 : decode cX11_writeShareRow 35 = .ok (.goto 4, 3) := by decide +kernel
theorem dX11_writeShareRow_38 : decode cX11_writeShareRow 38 = .ok (.iconst 0, 1) := by decide +kernel
theorem dX11_writeShareRow_39 : decode cX11_writeShareRow 39 = .ok (.iastore, 1) := by decide +kernel
theorem dX11_writeShareRow_40 : decode cX11_writeShareRow 40 = .ok (.iload_n 2, 1) := by decide +kernel
theorem dX11_writeShareRow_41 : decode cX11_writeShareRow 41 = .ok (.iconst 1, 1) := by decide +kernel
theorem dX11_writeShareRow_42 : decode cX11_writeShareRow 42 = .ok (.if_icmp .le 9, 3) := by decide +kernel
theorem dX11_writeShareRow_45 : decode cX11_writeShareRow 45 = .ok (.iload_n 3, 1) := by decide +kernel
theorem dX11_writeShareRow_46 : decode cX11_writeShareRow 46 = .ok (.iload_n 2, 1) := by decide +kernel
theorem dX11_writeShareRow_47 : decode cX11_writeShareRow 47 = .ok (.idiv, 1) := by decide +kernel
theorem dX11_writeShareRow_48 : decode cX11_writeShareRow 48 = .ok (.goto 4, 3) := by decide +kernel
theorem dX11_writeShareRow_51 : decode cX11_writeShareRow 51 = .ok (.iconst 0, 1) := by decide +kernel
theorem dX11_writeShareRow_52 : decode cX11_writeShareRow 52 = .ok (.istore_n 3, 1) := by decide +kernel
theorem dX11_writeShareRow_53 : decode cX11_writeShareRow 53 = .ok (.iinc 4 (-1), 3) := by decide +kernel
theorem dX11_writeShareRow_56 : decode cX11_writeShareRow 56 = .ok (.goto (-40), 3) := by decide +kernel
theorem dX11_writeShareRow_59 : decode cX11_writeShareRow 59 = .ok (.return_, 1) := by decide +kernel
theorem dX11_leastShare_0 : decode cX11_leastShare 0 = .ok (.sipush 360, 3) := by decide +kernel
theorem dX11_leastShare_3 : decode cX11_leastShare 3 = .ok (.istore_n 2, 1) := by decide +kernel
theorem dX11_leastShare_4 : decode cX11_leastShare 4 = .ok (.iconst 0, 1) := by decide +kernel
theorem dX11_leastShare_5 : decode cX11_leastShare 5 = .ok (.istore_n 3, 1) := by decide +kernel
theorem dX11_leastShare_6 : decode cX11_leastShare 6 = .ok (.iload_n 3, 1) := by decide +kernel
theorem dX11_leastShare_7 : decode cX11_leastShare 7 = .ok (.iload_n 1, 1) := by decide +kernel
theorem dX11_leastShare_8 : decode cX11_leastShare 8 = .ok (.if_icmp .ge 70, 3) := by decide +kernel
theorem dX11_leastShare_11 : decode cX11_leastShare 11 = .ok (.iconst 0, 1) := by decide +kernel
theorem dX11_leastShare_12 : decode cX11_leastShare 12 = .ok (.istore 4, 2) := by decide +kernel
theorem dX11_leastShare_14 : decode cX11_leastShare 14 = .ok (.iconst 0, 1) := by decide +kernel
theorem dX11_leastShare_15 : decode cX11_leastShare 15 = .ok (.istore 5, 2) := by decide +kernel
theorem dX11_leastShare_17 : decode cX11_leastShare 17 = .ok (.iload 5, 2) := by decide +kernel
theorem dX11_leastShare_19 : decode cX11_leastShare 19 = .ok (.aload_n 0, 1) := by decide +kernel
theorem dX11_leastShare_20 : decode cX11_leastShare 20 = .ok (.getfield 91, 3) := by decide +kernel
theorem dX11_leastShare_23 : decode cX11_leastShare 23 = .ok (.getfield 116, 3) := by decide +kernel
theorem dX11_leastShare_26 : decode cX11_leastShare 26 = .ok (.getfield 120, 3) := by decide +kernel
theorem dX11_leastShare_29 : decode cX11_leastShare 29 = .ok (.if_icmp .ge 36, 3) := by decide +kernel
theorem dX11_leastShare_32 : decode cX11_leastShare 32 = .ok (.iload 4, 2) := by decide +kernel
theorem dX11_leastShare_34 : decode cX11_leastShare 34 = .ok (.aload_n 0, 1) := by decide +kernel
theorem dX11_leastShare_35 : decode cX11_leastShare 35 = .ok (.getfield 60, 3) := by decide +kernel
theorem dX11_leastShare_38 : decode cX11_leastShare 38 = .ok (.iload 5, 2) := by decide +kernel
theorem dX11_leastShare_40 : decode cX11_leastShare 40 = .ok (.iaload, 1) := by decide +kernel
theorem dX11_leastShare_41 : decode cX11_leastShare 41 = .ok (.iload_n 3, 1) := by decide +kernel
theorem dX11_leastShare_42 : decode cX11_leastShare 42 = .ok (.if_icmp .ne 13, 3) := by decide +kernel
theorem dX11_leastShare_45 : decode cX11_leastShare 45 = .ok (.aload_n 0, 1) := by decide +kernel
theorem dX11_leastShare_46 : decode cX11_leastShare 46 = .ok (.getfield 57, 3) := by decide +kernel
theorem dX11_leastShare_49 : decode cX11_leastShare 49 = .ok (.iload 5, 2) := by decide +kernel
theorem dX11_leastShare_51 : decode cX11_leastShare 51 = .ok (.iaload, 1) := by decide +kernel
theorem dX11_leastShare_52 : decode cX11_leastShare 52 = .ok (.goto 4, 3) := by decide +kernel
theorem dX11_leastShare_55 : decode cX11_leastShare 55 = .ok (.iconst 0, 1) := by decide +kernel
theorem dX11_leastShare_56 : decode cX11_leastShare 56 = .ok (.iadd, 1) := by decide +kernel
theorem dX11_leastShare_57 : decode cX11_leastShare 57 = .ok (.istore 4, 2) := by decide +kernel
theorem dX11_leastShare_59 : decode cX11_leastShare 59 = .ok (.iinc 5 1, 3) := by decide +kernel
theorem dX11_leastShare_62 : decode cX11_leastShare 62 = .ok (.goto (-45), 3) := by decide +kernel
theorem dX11_leastShare_65 : decode cX11_leastShare 65 = .ok (.iload_n 2, 1) := by decide +kernel
theorem dX11_leastShare_66 : decode cX11_leastShare 66 = .ok (.iload 4, 2) := by decide +kernel
theorem dX11_leastShare_68 : decode cX11_leastShare 68 = .ok (.invokestatic 365, 3) := by decide +kernel
theorem dX11_leastShare_71 : decode cX11_leastShare 71 = .ok (.istore_n 2, 1) := by decide +kernel
theorem dX11_leastShare_72 : decode cX11_leastShare 72 = .ok (.iinc 3 1, 3) := by decide +kernel
theorem dX11_leastShare_75 : decode cX11_leastShare 75 = .ok (.goto (-69), 3) := by decide +kernel
theorem dX11_leastShare_78 : decode cX11_leastShare 78 = .ok (.iload_n 2, 1) := by decide +kernel
theorem dX11_leastShare_79 : decode cX11_leastShare 79 = .ok (.ireturn, 1) := by decide +kernel
theorem dX11_ends_0 : decode cX11_ends 0 = .ok (.iload_n 1, 1) := by decide +kernel
theorem dX11_ends_1 : decode cX11_ends 1 = .ok (.invokestatic 175, 3) := by decide +kernel
theorem dX11_ends_4 : decode cX11_ends 4 = .ok (.ifCond .ne 5, 3) := by decide +kernel
theorem dX11_ends_7 : decode cX11_ends 7 = .ok (.iconst (-1), 1) := by decide +kernel
theorem dX11_ends_8 : decode cX11_ends 8 = .ok (.ireturn, 1) := by decide +kernel
theorem dX11_ends_9 : decode cX11_ends 9 = .ok (.iconst 0, 1) := by decide +kernel
theorem dX11_ends_10 : decode cX11_ends 10 = .ok (.istore_n 2, 1) := by decide +kernel
theorem dX11_ends_11 : decode cX11_ends 11 = .ok (.iconst 0, 1) := by decide +kernel
theorem dX11_ends_12 : decode cX11_ends 12 = .ok (.istore_n 3, 1) := by decide +kernel
theorem dX11_ends_13 : decode cX11_ends 13 = .ok (.iload_n 3, 1) := by decide +kernel
theorem dX11_ends_14 : decode cX11_ends 14 = .ok (.aload_n 0, 1) := by decide +kernel
theorem dX11_ends_15 : decode cX11_ends 15 = .ok (.getfield 91, 3) := by decide +kernel
theorem dX11_ends_18 : decode cX11_ends 18 = .ok (.getfield 116, 3) := by decide +kernel
theorem dX11_ends_21 : decode cX11_ends 21 = .ok (.getfield 120, 3) := by decide +kernel
theorem dX11_ends_24 : decode cX11_ends 24 = .ok (.if_icmp .ge 35, 3) := by decide +kernel
theorem dX11_ends_27 : decode cX11_ends 27 = .ok (.iload_n 2, 1) := by decide +kernel
theorem dX11_ends_28 : decode cX11_ends 28 = .ok (.aload_n 0, 1) := by decide +kernel
theorem dX11_ends_29 : decode cX11_ends 29 = .ok (.getfield 91, 3) := by decide +kernel
theorem dX11_ends_32 : decode cX11_ends 32 = .ok (.getfield 116, 3) := by decide +kernel
theorem dX11_ends_35 : decode cX11_ends 35 = .ok (.getfield 153, 3) := by decide +kernel
theorem dX11_ends_38 : decode cX11_ends 38 = .ok (.iload_n 3, 1) := by decide +kernel
theorem dX11_ends_39 : decode cX11_ends 39 = .ok (.iaload, 1) := by decide +kernel
theorem dX11_ends_40 : decode cX11_ends 40 = .ok (.iload_n 1, 1) := by decide +kernel
theorem dX11_ends_41 : decode cX11_ends 41 = .ok (.if_icmp .le 9, 3) := by decide +kernel
theorem dX11_ends_44 : decode cX11_ends 44 = .ok (.iconst 1, 1) := by decide +kernel
theorem dX11_ends_45 : decode cX11_ends 45 = .ok (.iload_n 3, 1) := by decide +kernel
theorem dX11_ends_46 : decode cX11_ends 46 = .ok (.ishl, 1) := by decide +kernel
theorem dX11_ends_47 : decode cX11_ends 47 = .ok (.goto 4, 3) := by decide +kernel
theorem dX11_ends_50 : decode cX11_ends 50 = .ok (.iconst 0, 1) := by decide +kernel
theorem dX11_ends_51 : decode cX11_ends 51 = .ok (.ior, 1) := by decide +kernel
theorem dX11_ends_52 : decode cX11_ends 52 = .ok (.istore_n 2, 1) := by decide +kernel
theorem dX11_ends_53 : decode cX11_ends 53 = .ok (.iinc 3 1, 3) := by decide +kernel
theorem dX11_ends_56 : decode cX11_ends 56 = .ok (.goto (-43), 3) := by decide +kernel
theorem dX11_ends_59 : decode cX11_ends 59 = .ok (.iload_n 2, 1) := by decide +kernel
theorem dX11_ends_60 : decode cX11_ends 60 = .ok (.ireturn, 1) := by decide +kernel
theorem dX11_stands_0 : decode cX11_stands 0 = .ok (.aload_n 0, 1) := by decide +kernel
theorem dX11_stands_1 : decode cX11_stands 1 = .ok (.getfield 91, 3) := by decide +kernel
theorem dX11_stands_4 : decode cX11_stands 4 = .ok (.getfield 116, 3) := by decide +kernel
theorem dX11_stands_7 : decode cX11_stands 7 = .ok (.iload_n 1, 1) := by decide +kernel
theorem dX11_stands_8 : decode cX11_stands 8 = .ok (.invokevirtual 140, 3) := by decide +kernel
theorem dX11_stands_11 : decode cX11_stands 11 = .ok (.ifCond .eq 10, 3) := by decide +kernel
theorem dX11_stands_14 : decode cX11_stands 14 = .ok (.iload_n 2, 1) := by decide +kernel
theorem dX11_stands_15 : decode cX11_stands 15 = .ok (.invokestatic 175, 3) := by decide +kernel
theorem dX11_stands_18 : decode cX11_stands 18 = .ok (.ifCond .ne 7, 3) := by decide +kernel
theorem dX11_stands_21 : decode cX11_stands 21 = .ok (.ldc2_w 368, 3) := by decide +kernel
theorem dX11_stands_24 : decode cX11_stands 24 = .ok (.lreturn, 1) := by decide +kernel
theorem dX11_stands_25 : decode cX11_stands 25 = .ok (.aload_n 0, 1) := by decide +kernel
theorem dX11_stands_26 : decode cX11_stands 26 = .ok (.getfield 91, 3) := by decide +kernel
theorem dX11_stands_29 : decode cX11_stands 29 = .ok (.getfield 116, 3) := by decide +kernel
theorem dX11_stands_32 : decode cX11_stands 32 = .ok (.getfield 208, 3) := by decide +kernel
theorem dX11_stands_35 : decode cX11_stands 35 = .ok (.iconst 1, 1) := by decide +kernel
theorem dX11_stands_36 : decode cX11_stands 36 = .ok (.iaload, 1) := by decide +kernel
theorem dX11_stands_37 : decode cX11_stands 37 = .ok (.i2l, 1) := by decide +kernel
theorem dX11_stands_38 : decode cX11_stands 38 = .ok (.lstore_n 3, 1) := by decide +kernel
theorem dX11_stands_39 : decode cX11_stands 39 = .ok (.aload_n 0, 1) := by decide +kernel
theorem dX11_stands_40 : decode cX11_stands 40 = .ok (.getfield 53, 3) := by decide +kernel
theorem dX11_stands_43 : decode cX11_stands 43 = .ok (.lconst 0, 1) := by decide +kernel
theorem dX11_stands_44 : decode cX11_stands 44 = .ok (.invokestatic 370, 3) := by decide +kernel
theorem dX11_stands_47 : decode cX11_stands 47 = .ok (.aload_n 0, 1) := by decide +kernel
theorem dX11_stands_48 : decode cX11_stands 48 = .ok (.getfield 53, 3) := by decide +kernel
theorem dX11_stands_51 : decode cX11_stands 51 = .ok (.aload_n 0, 1) := by decide +kernel
theorem dX11_stands_52 : decode cX11_stands 52 = .ok (.getfield 91, 3) := by decide +kernel
theorem dX11_stands_55 : decode cX11_stands 55 = .ok (.getfield 116, 3) := by decide +kernel
theorem dX11_stands_58 : decode cX11_stands 58 = .ok (.getfield 134, 3) := by decide +kernel
theorem dX11_stands_61 : decode cX11_stands 61 = .ok (.iload_n 1, 1) := by decide +kernel
theorem dX11_stands_62 : decode cX11_stands 62 = .ok (.iaload, 1) := by decide +kernel
theorem dX11_stands_63 : decode cX11_stands 63 = .ok (.ldc2_w 376, 3) := by decide +kernel
theorem dX11_stands_66 : decode cX11_stands 66 = .ok (.lastore, 1) := by decide +kernel
theorem dX11_stands_67 : decode cX11_stands 67 = .ok (.iconst 0, 1) := by decide +kernel
theorem dX11_stands_68 : decode cX11_stands 68 = .ok (.istore 5, 2) := by decide +kernel
theorem dX11_stands_70 : decode cX11_stands 70 = .ok (.iload 5, 2) := by decide +kernel
theorem dX11_stands_72 : decode cX11_stands 72 = .ok (.iload_n 2, 1) := by decide +kernel
theorem dX11_stands_73 : decode cX11_stands 73 = .ok (.if_icmp .ge 73, 3) := by decide +kernel
theorem dX11_stands_76 : decode cX11_stands 76 = .ok (.iconst 1, 1) := by decide +kernel
theorem dX11_stands_77 : decode cX11_stands 77 = .ok (.istore 6, 2) := by decide +kernel
theorem dX11_stands_79 : decode cX11_stands 79 = .ok (.iload 6, 2) := by decide +kernel
theorem dX11_stands_81 : decode cX11_stands 81 = .ok (.bipush 20, 2) := by decide +kernel
theorem dX11_stands_83 : decode cX11_stands 83 = .ok (.if_icmp .gt 57, 3) := by decide +kernel
theorem dX11_stands_86 : decode cX11_stands 86 = .ok (.aload_n 0, 1) := by decide +kernel
theorem dX11_stands_87 : decode cX11_stands 87 = .ok (.getfield 53, 3) := by decide +kernel
theorem dX11_stands_90 : decode cX11_stands 90 = .ok (.iload 6, 2) := by decide +kernel
theorem dX11_stands_92 : decode cX11_stands 92 = .ok (.laload, 1) := by decide +kernel
theorem dX11_stands_93 : decode cX11_stands 93 = .ok (.lstore 7, 2) := by decide +kernel
theorem dX11_stands_95 : decode cX11_stands 95 = .ok (.aload_n 0, 1) := by decide +kernel
theorem dX11_stands_96 : decode cX11_stands 96 = .ok (.getfield 53, 3) := by decide +kernel
theorem dX11_stands_99 : decode cX11_stands 99 = .ok (.iload 6, 2) := by decide +kernel
theorem dX11_stands_101 : decode cX11_stands 101 = .ok (.lload 7, 2) := by decide +kernel
theorem dX11_stands_103 : decode cX11_stands 103 = .ok (.ldc2_w 378, 3) := by decide +kernel
theorem dX11_stands_106 : decode cX11_stands 106 = .ok (.lload_n 3, 1) := by decide +kernel
theorem dX11_stands_107 : decode cX11_stands 107 = .ok (.lsub, 1) := by decide +kernel
theorem dX11_stands_108 : decode cX11_stands 108 = .ok (.lmul, 1) := by decide +kernel
theorem dX11_stands_109 : decode cX11_stands 109 = .ok (.ldc2_w 378, 3) := by decide +kernel
theorem dX11_stands_112 : decode cX11_stands 112 = .ok (.ldiv, 1) := by decide +kernel
theorem dX11_stands_113 : decode cX11_stands 113 = .ok (.lastore, 1) := by decide +kernel
theorem dX11_stands_114 : decode cX11_stands 114 = .ok (.aload_n 0, 1) := by decide +kernel
theorem dX11_stands_115 : decode cX11_stands 115 = .ok (.getfield 53, 3) := by decide +kernel
theorem dX11_stands_118 : decode cX11_stands 118 = .ok (.iload 6, 2) := by decide +kernel
theorem dX11_stands_120 : decode cX11_stands 120 = .ok (.iconst 1, 1) := by decide +kernel
theorem dX11_stands_121 : decode cX11_stands 121 = .ok (.isub, 1) := by decide +kernel
theorem dX11_stands_122 : decode cX11_stands 122 = .ok (.dup2, 1) := by decide +kernel
theorem dX11_stands_123 : decode cX11_stands 123 = .ok (.laload, 1) := by decide +kernel
theorem dX11_stands_124 : decode cX11_stands 124 = .ok (.lload 7, 2) := by decide +kernel
theorem dX11_stands_126 : decode cX11_stands 126 = .ok (.lload_n 3, 1) := by decide +kernel
theorem dX11_stands_127 : decode cX11_stands 127 = .ok (.lmul, 1) := by decide +kernel
theorem dX11_stands_128 : decode cX11_stands 128 = .ok (.ldc2_w 378, 3) := by decide +kernel
theorem dX11_stands_131 : decode cX11_stands 131 = .ok (.ldiv, 1) := by decide +kernel
theorem dX11_stands_132 : decode cX11_stands 132 = .ok (.ladd, 1) := by decide +kernel
theorem dX11_stands_133 : decode cX11_stands 133 = .ok (.lastore, 1) := by decide +kernel
theorem dX11_stands_134 : decode cX11_stands 134 = .ok (.iinc 6 1, 3) := by decide +kernel
theorem dX11_stands_137 : decode cX11_stands 137 = .ok (.goto (-58), 3) := by decide +kernel
theorem dX11_stands_140 : decode cX11_stands 140 = .ok (.iinc 5 1, 3) := by decide +kernel
theorem dX11_stands_143 : decode cX11_stands 143 = .ok (.goto (-73), 3) := by decide +kernel
theorem dX11_stands_146 : decode cX11_stands 146 = .ok (.lconst 0, 1) := by decide +kernel
theorem dX11_stands_147 : decode cX11_stands 147 = .ok (.lstore 5, 2) := by decide +kernel
theorem dX11_stands_149 : decode cX11_stands 149 = .ok (.iconst 1, 1) := by decide +kernel
theorem dX11_stands_150 : decode cX11_stands 150 = .ok (.istore 7, 2) := by decide +kernel
theorem dX11_stands_152 : decode cX11_stands 152 = .ok (.iload 7, 2) := by decide +kernel
theorem dX11_stands_154 : decode cX11_stands 154 = .ok (.bipush 20, 2) := by decide +kernel
theorem dX11_stands_156 : decode cX11_stands 156 = .ok (.if_icmp .gt 21, 3) := by decide +kernel
theorem dX11_stands_159 : decode cX11_stands 159 = .ok (.lload 5, 2) := by decide +kernel
theorem dX11_stands_161 : decode cX11_stands 161 = .ok (.aload_n 0, 1) := by decide +kernel
theorem dX11_stands_162 : decode cX11_stands 162 = .ok (.getfield 53, 3) := by decide +kernel
theorem dX11_stands_165 : decode cX11_stands 165 = .ok (.iload 7, 2) := by decide +kernel
theorem dX11_stands_167 : decode cX11_stands 167 = .ok (.laload, 1) := by decide +kernel
theorem dX11_stands_168 : decode cX11_stands 168 = .ok (.ladd, 1) := by decide +kernel
theorem dX11_stands_169 : decode cX11_stands 169 = .ok (.lstore 5, 2) := by decide +kernel
theorem dX11_stands_171 : decode cX11_stands 171 = .ok (.iinc 7 1, 3) := by decide +kernel
theorem dX11_stands_174 : decode cX11_stands 174 = .ok (.goto (-22), 3) := by decide +kernel
theorem dX11_stands_177 : decode cX11_stands 177 = .ok (.lload 5, 2) := by decide +kernel
theorem dX11_stands_179 : decode cX11_stands 179 = .ok (.lreturn, 1) := by decide +kernel
theorem dX11_compare_0 : decode cX11_compare 0 = .ok (.iload_n 1, 1) := by decide +kernel
theorem dX11_compare_1 : decode cX11_compare 1 = .ok (.iconst (-1), 1) := by decide +kernel
theorem dX11_compare_2 : decode cX11_compare 2 = .ok (.if_icmp .eq 16, 3) := by decide +kernel
theorem dX11_compare_5 : decode cX11_compare 5 = .ok (.aload_n 0, 1) := by decide +kernel
theorem dX11_compare_6 : decode cX11_compare 6 = .ok (.getfield 91, 3) := by decide +kernel
theorem dX11_compare_9 : decode cX11_compare 9 = .ok (.iload_n 1, 1) := by decide +kernel
theorem dX11_compare_10 : decode cX11_compare 10 = .ok (.invokevirtual 248, 3) := by decide +kernel
theorem dX11_compare_13 : decode cX11_compare 13 = .ok (.ifCond .ne 5, 3) := by decide +kernel
theorem dX11_compare_16 : decode cX11_compare 16 = .ok (.iconst (-1), 1) := by decide +kernel
theorem dX11_compare_17 : decode cX11_compare 17 = .ok (.ireturn, 1) := by decide +kernel
theorem dX11_compare_18 : decode cX11_compare 18 = .ok (.iconst 0, 1) := by decide +kernel
theorem dX11_compare_19 : decode cX11_compare 19 = .ok (.istore_n 2, 1) := by decide +kernel
theorem dX11_compare_20 : decode cX11_compare 20 = .ok (.iconst 0, 1) := by decide +kernel
theorem dX11_compare_21 : decode cX11_compare 21 = .ok (.istore_n 3, 1) := by decide +kernel
theorem dX11_compare_22 : decode cX11_compare 22 = .ok (.iload_n 3, 1) := by decide +kernel
theorem dX11_compare_23 : decode cX11_compare 23 = .ok (.aload_n 0, 1) := by decide +kernel
theorem dX11_compare_24 : decode cX11_compare 24 = .ok (.getfield 91, 3) := by decide +kernel
theorem dX11_compare_27 : decode cX11_compare 27 = .ok (.getfield 116, 3) := by decide +kernel
theorem dX11_compare_30 : decode cX11_compare 30 = .ok (.getfield 120, 3) := by decide +kernel
theorem dX11_compare_33 : decode cX11_compare 33 = .ok (.if_icmp .ge 35, 3) := by decide +kernel
theorem dX11_compare_36 : decode cX11_compare 36 = .ok (.iload_n 2, 1) := by decide +kernel
theorem dX11_compare_37 : decode cX11_compare 37 = .ok (.aload_n 0, 1) := by decide +kernel
theorem dX11_compare_38 : decode cX11_compare 38 = .ok (.getfield 95, 3) := by decide +kernel
theorem dX11_compare_41 : decode cX11_compare 41 = .ok (.aload_n 0, 1) := by decide +kernel
theorem dX11_compare_42 : decode cX11_compare 42 = .ok (.getfield 91, 3) := by decide +kernel
theorem dX11_compare_45 : decode cX11_compare 45 = .ok (.iload_n 1, 1) := by decide +kernel
theorem dX11_compare_46 : decode cX11_compare 46 = .ok (.invokevirtual 380, 3) := by decide +kernel
theorem dX11_compare_49 : decode cX11_compare 49 = .ok (.aload_n 0, 1) := by decide +kernel
theorem dX11_compare_50 : decode cX11_compare 50 = .ok (.getfield 91, 3) := by decide +kernel
theorem dX11_compare_53 : decode cX11_compare 53 = .ok (.getfield 116, 3) := by decide +kernel
theorem dX11_compare_56 : decode cX11_compare 56 = .ok (.iload_n 3, 1) := by decide +kernel
theorem dX11_compare_57 : decode cX11_compare 57 = .ok (.invokevirtual 160, 3) := by decide +kernel
theorem dX11_compare_60 : decode cX11_compare 60 = .ok (.iadd, 1) := by decide +kernel
theorem dX11_compare_61 : decode cX11_compare 61 = .ok (.istore_n 2, 1) := by decide +kernel
theorem dX11_compare_62 : decode cX11_compare 62 = .ok (.iinc 3 1, 3) := by decide +kernel
theorem dX11_compare_65 : decode cX11_compare 65 = .ok (.goto (-43), 3) := by decide +kernel
theorem dX11_compare_68 : decode cX11_compare 68 = .ok (.iload_n 2, 1) := by decide +kernel
theorem dX11_compare_69 : decode cX11_compare 69 = .ok (.ireturn, 1) := by decide +kernel
theorem dX11_generations_0 : decode cX11_generations 0 = .ok (.iload_n 1, 1) := by decide +kernel
theorem dX11_generations_1 : decode cX11_generations 1 = .ok (.ifCond .lt 21, 3) := by decide +kernel
theorem dX11_generations_4 : decode cX11_generations 4 = .ok (.iload_n 1, 1) := by decide +kernel
theorem dX11_generations_5 : decode cX11_generations 5 = .ok (.ldc_w 384, 3) := by decide +kernel
theorem dX11_generations_8 : decode cX11_generations 8 = .ok (.if_icmp .gt 14, 3) := by decide +kernel
theorem dX11_generations_11 : decode cX11_generations 11 = .ok (.iload_n 2, 1) := by decide +kernel
theorem dX11_generations_12 : decode cX11_generations 12 = .ok (.iconst 1, 1) := by decide +kernel
theorem dX11_generations_13 : decode cX11_generations 13 = .ok (.if_icmp .lt 9, 3) := by decide +kernel
theorem dX11_generations_16 : decode cX11_generations 16 = .ok (.iload_n 2, 1) := by decide +kernel
theorem dX11_generations_17 : decode cX11_generations 17 = .ok (.bipush 60, 2) := by decide +kernel
theorem dX11_generations_19 : decode cX11_generations 19 = .ok (.if_icmp .le 9, 3) := by decide +kernel
theorem dX11_generations_22 : decode cX11_generations 22 = .ok (.aload_n 0, 1) := by decide +kernel
theorem dX11_generations_23 : decode cX11_generations 23 = .ok (.iconst (-1), 1) := by decide +kernel
theorem dX11_generations_24 : decode cX11_generations 24 = .ok (.invokevirtual 112, 3) := by decide +kernel
theorem dX11_generations_27 : decode cX11_generations 27 = .ok (.ireturn, 1) := by decide +kernel
theorem dX11_generations_28 : decode cX11_generations 28 = .ok (.aload_n 0, 1) := by decide +kernel
theorem dX11_generations_29 : decode cX11_generations 29 = .ok (.getfield 91, 3) := by decide +kernel
theorem dX11_generations_32 : decode cX11_generations 32 = .ok (.getfield 116, 3) := by decide +kernel
theorem dX11_generations_35 : decode cX11_generations 35 = .ok (.getfield 120, 3) := by decide +kernel
theorem dX11_generations_38 : decode cX11_generations 38 = .ok (.ifCond .ne 10, 3) := by decide +kernel
theorem dX11_generations_41 : decode cX11_generations 41 = .ok (.aload_n 0, 1) := by decide +kernel
theorem dX11_generations_42 : decode cX11_generations 42 = .ok (.bipush (-3), 2) := by decide +kernel
theorem dX11_generations_44 : decode cX11_generations 44 = .ok (.invokevirtual 112, 3) := by decide +kernel
theorem dX11_generations_47 : decode cX11_generations 47 = .ok (.ireturn, 1) := by decide +kernel
theorem dX11_generations_48 : decode cX11_generations 48 = .ok (.aload_n 0, 1) := by decide +kernel
theorem dX11_generations_49 : decode cX11_generations 49 = .ok (.aload_n 0, 1) := by decide +kernel
theorem dX11_generations_50 : decode cX11_generations 50 = .ok (.getfield 108, 3) := by decide +kernel
theorem dX11_generations_53 : decode cX11_generations 53 = .ok (.aload_n 0, 1) := by decide +kernel
theorem dX11_generations_54 : decode cX11_generations 54 = .ok (.getfield 91, 3) := by decide +kernel
theorem dX11_generations_57 : decode cX11_generations 57 = .ok (.iload_n 1, 1) := by decide +kernel
theorem dX11_generations_58 : decode cX11_generations 58 = .ok (.iload_n 2, 1) := by decide +kernel
theorem dX11_generations_59 : decode cX11_generations 59 = .ok (.invokevirtual 385, 3) := by decide +kernel
theorem dX11_generations_62 : decode cX11_generations 62 = .ok (.invokevirtual 137, 3) := by decide +kernel
theorem dX11_generations_65 : decode cX11_generations 65 = .ok (.ireturn, 1) := by decide +kernel
theorem dX11_drawn_0 : decode cX11_drawn 0 = .ok (.aload_n 0, 1) := by decide +kernel
theorem dX11_drawn_1 : decode cX11_drawn 1 = .ok (.getfield 108, 3) := by decide +kernel
theorem dX11_drawn_4 : decode cX11_drawn 4 = .ok (.getfield 388, 3) := by decide +kernel
theorem dX11_drawn_7 : decode cX11_drawn 7 = .ok (.iload_n 1, 1) := by decide +kernel
theorem dX11_drawn_8 : decode cX11_drawn 8 = .ok (.invokevirtual 140, 3) := by decide +kernel
theorem dX11_drawn_11 : decode cX11_drawn 11 = .ok (.ifCond .ne 5, 3) := by decide +kernel
theorem dX11_drawn_14 : decode cX11_drawn 14 = .ok (.iconst (-1), 1) := by decide +kernel
theorem dX11_drawn_15 : decode cX11_drawn 15 = .ok (.ireturn, 1) := by decide +kernel
theorem dX11_drawn_16 : decode cX11_drawn 16 = .ok (.iload_n 2, 1) := by decide +kernel
theorem dX11_drawn_17 : decode cX11_drawn 17 = .ok (.tableswitch 65 0 2 #[27, 39, 52], 27) := by decide +kernel
theorem dX11_drawn_44 : decode cX11_drawn 44 = .ok (.aload_n 0, 1) := by decide +kernel
theorem dX11_drawn_45 : decode cX11_drawn 45 = .ok (.getfield 108, 3) := by decide +kernel
theorem dX11_drawn_48 : decode cX11_drawn 48 = .ok (.getfield 388, 3) := by decide +kernel
theorem dX11_drawn_51 : decode cX11_drawn 51 = .ok (.iload_n 1, 1) := by decide +kernel
theorem dX11_drawn_52 : decode cX11_drawn 52 = .ok (.invokevirtual 144, 3) := by decide +kernel
theorem dX11_drawn_55 : decode cX11_drawn 55 = .ok (.ireturn, 1) := by decide +kernel
theorem dX11_drawn_56 : decode cX11_drawn 56 = .ok (.aload_n 0, 1) := by decide +kernel
theorem dX11_drawn_57 : decode cX11_drawn 57 = .ok (.getfield 108, 3) := by decide +kernel
theorem dX11_drawn_60 : decode cX11_drawn 60 = .ok (.getfield 388, 3) := by decide +kernel
theorem dX11_drawn_63 : decode cX11_drawn 63 = .ok (.getfield 134, 3) := by decide +kernel
theorem dX11_drawn_66 : decode cX11_drawn 66 = .ok (.iload_n 1, 1) := by decide +kernel
theorem dX11_drawn_67 : decode cX11_drawn 67 = .ok (.iaload, 1) := by decide +kernel
theorem dX11_drawn_68 : decode cX11_drawn 68 = .ok (.ireturn, 1) := by decide +kernel
theorem dX11_drawn_69 : decode cX11_drawn 69 = .ok (.aload_n 0, 1) := by decide +kernel
theorem dX11_drawn_70 : decode cX11_drawn 70 = .ok (.getfield 108, 3) := by decide +kernel
theorem dX11_drawn_73 : decode cX11_drawn 73 = .ok (.getfield 388, 3) := by decide +kernel
theorem dX11_drawn_76 : decode cX11_drawn 76 = .ok (.getfield 153, 3) := by decide +kernel
theorem dX11_drawn_79 : decode cX11_drawn 79 = .ok (.iload_n 1, 1) := by decide +kernel
theorem dX11_drawn_80 : decode cX11_drawn 80 = .ok (.iaload, 1) := by decide +kernel
theorem dX11_drawn_81 : decode cX11_drawn 81 = .ok (.ireturn, 1) := by decide +kernel
theorem dX11_drawn_82 : decode cX11_drawn 82 = .ok (.iconst (-1), 1) := by decide +kernel
theorem dX11_drawn_83 : decode cX11_drawn 83 = .ok (.ireturn, 1) := by decide +kernel
theorem dX11_image_0 : decode cX11_image 0 = .ok (.iload_n 1, 1) := by decide +kernel
theorem dX11_image_1 : decode cX11_image 1 = .ok (.ifCond .lt 8, 3) := by decide +kernel
theorem dX11_image_4 : decode cX11_image 4 = .ok (.iload_n 1, 1) := by decide +kernel
theorem dX11_image_5 : decode cX11_image 5 = .ok (.iconst 2, 1) := by decide +kernel
theorem dX11_image_6 : decode cX11_image 6 = .ok (.if_icmp .lt 9, 3) := by decide +kernel
theorem dX11_image_9 : decode cX11_image 9 = .ok (.aload_n 0, 1) := by decide +kernel
theorem dX11_image_10 : decode cX11_image 10 = .ok (.iconst (-1), 1) := by decide +kernel
theorem dX11_image_11 : decode cX11_image 11 = .ok (.invokevirtual 112, 3) := by decide +kernel
theorem dX11_image_14 : decode cX11_image 14 = .ok (.ireturn, 1) := by decide +kernel
theorem dX11_image_15 : decode cX11_image 15 = .ok (.aload_n 0, 1) := by decide +kernel
theorem dX11_image_16 : decode cX11_image 16 = .ok (.getfield 11, 3) := by decide +kernel
theorem dX11_image_19 : decode cX11_image 19 = .ok (.iload_n 1, 1) := by decide +kernel
theorem dX11_image_20 : decode cX11_image 20 = .ok (.aaload, 1) := by decide +kernel
theorem dX11_image_21 : decode cX11_image 21 = .ok (.aload_n 0, 1) := by decide +kernel
theorem dX11_image_22 : decode cX11_image 22 = .ok (.getfield 91, 3) := by decide +kernel
theorem dX11_image_25 : decode cX11_image 25 = .ok (.invokevirtual 389, 3) := by decide +kernel
theorem dX11_image_28 : decode cX11_image 28 = .ok (.aload_n 0, 1) := by decide +kernel
theorem dX11_image_29 : decode cX11_image 29 = .ok (.getfield 15, 3) := by decide +kernel
theorem dX11_image_32 : decode cX11_image 32 = .ok (.iload_n 1, 1) := by decide +kernel
theorem dX11_image_33 : decode cX11_image 33 = .ok (.iconst 1, 1) := by decide +kernel
theorem dX11_image_34 : decode cX11_image 34 = .ok (.bastore, 1) := by decide +kernel
theorem dX11_image_35 : decode cX11_image 35 = .ok (.aload_n 0, 1) := by decide +kernel
theorem dX11_image_36 : decode cX11_image 36 = .ok (.iconst 0, 1) := by decide +kernel
theorem dX11_image_37 : decode cX11_image 37 = .ok (.invokevirtual 137, 3) := by decide +kernel
theorem dX11_image_40 : decode cX11_image 40 = .ok (.ireturn, 1) := by decide +kernel
theorem dX11_back_0 : decode cX11_back 0 = .ok (.iload_n 1, 1) := by decide +kernel
theorem dX11_back_1 : decode cX11_back 1 = .ok (.ifCond .lt 8, 3) := by decide +kernel
theorem dX11_back_4 : decode cX11_back 4 = .ok (.iload_n 1, 1) := by decide +kernel
theorem dX11_back_5 : decode cX11_back 5 = .ok (.iconst 2, 1) := by decide +kernel
theorem dX11_back_6 : decode cX11_back 6 = .ok (.if_icmp .lt 9, 3) := by decide +kernel
theorem dX11_back_9 : decode cX11_back 9 = .ok (.aload_n 0, 1) := by decide +kernel
theorem dX11_back_10 : decode cX11_back 10 = .ok (.iconst (-1), 1) := by decide +kernel
theorem dX11_back_11 : decode cX11_back 11 = .ok (.invokevirtual 112, 3) := by decide +kernel
theorem dX11_back_14 : decode cX11_back 14 = .ok (.ireturn, 1) := by decide +kernel
theorem dX11_back_15 : decode cX11_back 15 = .ok (.aload_n 0, 1) := by decide +kernel
theorem dX11_back_16 : decode cX11_back 16 = .ok (.getfield 15, 3) := by decide +kernel
theorem dX11_back_19 : decode cX11_back 19 = .ok (.iload_n 1, 1) := by decide +kernel
theorem dX11_back_20 : decode cX11_back 20 = .ok (.baload, 1) := by decide +kernel
theorem dX11_back_21 : decode cX11_back 21 = .ok (.ifCond .ne 10, 3) := by decide +kernel
theorem dX11_back_24 : decode cX11_back 24 = .ok (.aload_n 0, 1) := by decide +kernel
theorem dX11_back_25 : decode cX11_back 25 = .ok (.bipush (-2), 2) := by decide +kernel
theorem dX11_back_27 : decode cX11_back 27 = .ok (.invokevirtual 112, 3) := by decide +kernel
theorem dX11_back_30 : decode cX11_back 30 = .ok (.ireturn, 1) := by decide +kernel
theorem dX11_back_31 : decode cX11_back 31 = .ok (.aload_n 0, 1) := by decide +kernel
theorem dX11_back_32 : decode cX11_back 32 = .ok (.getfield 91, 3) := by decide +kernel
theorem dX11_back_35 : decode cX11_back 35 = .ok (.aload_n 0, 1) := by decide +kernel
theorem dX11_back_36 : decode cX11_back 36 = .ok (.getfield 11, 3) := by decide +kernel
theorem dX11_back_39 : decode cX11_back 39 = .ok (.iload_n 1, 1) := by decide +kernel
theorem dX11_back_40 : decode cX11_back 40 = .ok (.aaload, 1) := by decide +kernel
theorem dX11_back_41 : decode cX11_back 41 = .ok (.invokevirtual 389, 3) := by decide +kernel
theorem dX11_back_44 : decode cX11_back 44 = .ok (.aload_n 0, 1) := by decide +kernel
theorem dX11_back_45 : decode cX11_back 45 = .ok (.getfield 99, 3) := by decide +kernel
theorem dX11_back_48 : decode cX11_back 48 = .ok (.getfield 125, 3) := by decide +kernel
theorem dX11_back_51 : decode cX11_back 51 = .ok (.invokevirtual 129, 3) := by decide +kernel
theorem dX11_back_54 : decode cX11_back 54 = .ok (.aload_n 0, 1) := by decide +kernel
theorem dX11_back_55 : decode cX11_back 55 = .ok (.iconst 0, 1) := by decide +kernel
theorem dX11_back_56 : decode cX11_back 56 = .ok (.invokevirtual 137, 3) := by decide +kernel
theorem dX11_back_59 : decode cX11_back 59 = .ok (.ireturn, 1) := by decide +kernel
theorem dX11_count_0 : decode cX11_count 0 = .ok (.iload_n 1, 1) := by decide +kernel
theorem dX11_count_1 : decode cX11_count 1 = .ok (.tableswitch 224 0 15 #[79, 90, 98, 109, 117, 125, 136, 141, 148, 155, 162, 169, 177, 185, 198, 211], 79) := by decide +kernel
theorem dX11_count_80 : decode cX11_count 80 = .ok (.aload_n 0, 1) := by decide +kernel
theorem dX11_count_81 : decode cX11_count 81 = .ok (.getfield 91, 3) := by decide +kernel
theorem dX11_count_84 : decode cX11_count 84 = .ok (.getfield 116, 3) := by decide +kernel
theorem dX11_count_87 : decode cX11_count 87 = .ok (.getfield 120, 3) := by decide +kernel
theorem dX11_count_90 : decode cX11_count 90 = .ok (.ireturn, 1) := by decide +kernel
theorem dX11_count_91 : decode cX11_count 91 = .ok (.aload_n 0, 1) := by decide +kernel
theorem dX11_count_92 : decode cX11_count 92 = .ok (.getfield 91, 3) := by decide +kernel
theorem dX11_count_95 : decode cX11_count 95 = .ok (.getfield 178, 3) := by decide +kernel
theorem dX11_count_98 : decode cX11_count 98 = .ok (.ireturn, 1) := by decide +kernel
theorem dX11_count_99 : decode cX11_count 99 = .ok (.aload_n 0, 1) := by decide +kernel
theorem dX11_count_100 : decode cX11_count 100 = .ok (.getfield 91, 3) := by decide +kernel
theorem dX11_count_103 : decode cX11_count 103 = .ok (.getfield 116, 3) := by decide +kernel
theorem dX11_count_106 : decode cX11_count 106 = .ok (.invokevirtual 392, 3) := by decide +kernel
theorem dX11_count_109 : decode cX11_count 109 = .ok (.ireturn, 1) := by decide +kernel
theorem dX11_count_110 : decode cX11_count 110 = .ok (.aload_n 0, 1) := by decide +kernel
theorem dX11_count_111 : decode cX11_count 111 = .ok (.getfield 91, 3) := by decide +kernel
theorem dX11_count_114 : decode cX11_count 114 = .ok (.getfield 275, 3) := by decide +kernel
theorem dX11_count_117 : decode cX11_count 117 = .ok (.ireturn, 1) := by decide +kernel
theorem dX11_count_118 : decode cX11_count 118 = .ok (.aload_n 0, 1) := by decide +kernel
theorem dX11_count_119 : decode cX11_count 119 = .ok (.getfield 91, 3) := by decide +kernel
theorem dX11_count_122 : decode cX11_count 122 = .ok (.getfield 215, 3) := by decide +kernel
theorem dX11_count_125 : decode cX11_count 125 = .ok (.ireturn, 1) := by decide +kernel
theorem dX11_count_126 : decode cX11_count 126 = .ok (.aload_n 0, 1) := by decide +kernel
theorem dX11_count_127 : decode cX11_count 127 = .ok (.getfield 99, 3) := by decide +kernel
theorem dX11_count_130 : decode cX11_count 130 = .ok (.getfield 125, 3) := by decide +kernel
theorem dX11_count_133 : decode cX11_count 133 = .ok (.getfield 395, 3) := by decide +kernel
theorem dX11_count_136 : decode cX11_count 136 = .ok (.ireturn, 1) := by decide +kernel
theorem dX11_count_137 : decode cX11_count 137 = .ok (.aload_n 0, 1) := by decide +kernel
theorem dX11_count_138 : decode cX11_count 138 = .ok (.getfield 37, 3) := by decide +kernel
theorem dX11_count_141 : decode cX11_count 141 = .ok (.ireturn, 1) := by decide +kernel
theorem dX11_count_142 : decode cX11_count 142 = .ok (.aload_n 0, 1) := by decide +kernel
theorem dX11_count_143 : decode cX11_count 143 = .ok (.getfield 50, 3) := by decide +kernel
theorem dX11_count_146 : decode cX11_count 146 = .ok (.iconst 1, 1) := by decide +kernel
theorem dX11_count_147 : decode cX11_count 147 = .ok (.iaload, 1) := by decide +kernel
theorem dX11_count_148 : decode cX11_count 148 = .ok (.ireturn, 1) := by decide +kernel
theorem dX11_count_149 : decode cX11_count 149 = .ok (.aload_n 0, 1) := by decide +kernel
theorem dX11_count_150 : decode cX11_count 150 = .ok (.getfield 50, 3) := by decide +kernel
theorem dX11_count_153 : decode cX11_count 153 = .ok (.iconst 2, 1) := by decide +kernel
theorem dX11_count_154 : decode cX11_count 154 = .ok (.iaload, 1) := by decide +kernel
theorem dX11_count_155 : decode cX11_count 155 = .ok (.ireturn, 1) := by decide +kernel
theorem dX11_count_156 : decode cX11_count 156 = .ok (.aload_n 0, 1) := by decide +kernel
theorem dX11_count_157 : decode cX11_count 157 = .ok (.getfield 50, 3) := by decide +kernel
theorem dX11_count_160 : decode cX11_count 160 = .ok (.iconst 3, 1) := by decide +kernel
theorem dX11_count_161 : decode cX11_count 161 = .ok (.iaload, 1) := by decide +kernel
theorem dX11_count_162 : decode cX11_count 162 = .ok (.ireturn, 1) := by decide +kernel
theorem dX11_count_163 : decode cX11_count 163 = .ok (.aload_n 0, 1) := by decide +kernel
theorem dX11_count_164 : decode cX11_count 164 = .ok (.getfield 50, 3) := by decide +kernel
theorem dX11_count_167 : decode cX11_count 167 = .ok (.iconst 5, 1) := by decide +kernel
theorem dX11_count_168 : decode cX11_count 168 = .ok (.iaload, 1) := by decide +kernel
theorem dX11_count_169 : decode cX11_count 169 = .ok (.ireturn, 1) := by decide +kernel
theorem dX11_count_170 : decode cX11_count 170 = .ok (.aload_n 0, 1) := by decide +kernel
theorem dX11_count_171 : decode cX11_count 171 = .ok (.getfield 50, 3) := by decide +kernel
theorem dX11_count_174 : decode cX11_count 174 = .ok (.bipush 6, 2) := by decide +kernel
theorem dX11_count_176 : decode cX11_count 176 = .ok (.iaload, 1) := by decide +kernel
theorem dX11_count_177 : decode cX11_count 177 = .ok (.ireturn, 1) := by decide +kernel
theorem dX11_count_178 : decode cX11_count 178 = .ok (.aload_n 0, 1) := by decide +kernel
theorem dX11_count_179 : decode cX11_count 179 = .ok (.getfield 91, 3) := by decide +kernel
theorem dX11_count_182 : decode cX11_count 182 = .ok (.getfield 251, 3) := by decide +kernel
theorem dX11_count_185 : decode cX11_count 185 = .ok (.ireturn, 1) := by decide +kernel
theorem dX11_count_186 : decode cX11_count 186 = .ok (.aload_n 0, 1) := by decide +kernel
theorem dX11_count_187 : decode cX11_count 187 = .ok (.getfield 91, 3) := by decide +kernel
theorem dX11_count_190 : decode cX11_count 190 = .ok (.getfield 116, 3) := by decide +kernel
theorem dX11_count_193 : decode cX11_count 193 = .ok (.getfield 208, 3) := by decide +kernel
theorem dX11_count_196 : decode cX11_count 196 = .ok (.iconst 0, 1) := by decide +kernel
theorem dX11_count_197 : decode cX11_count 197 = .ok (.iaload, 1) := by decide +kernel
theorem dX11_count_198 : decode cX11_count 198 = .ok (.ireturn, 1) := by decide +kernel
theorem dX11_count_199 : decode cX11_count 199 = .ok (.aload_n 0, 1) := by decide +kernel
theorem dX11_count_200 : decode cX11_count 200 = .ok (.getfield 91, 3) := by decide +kernel
theorem dX11_count_203 : decode cX11_count 203 = .ok (.getfield 116, 3) := by decide +kernel
theorem dX11_count_206 : decode cX11_count 206 = .ok (.getfield 208, 3) := by decide +kernel
theorem dX11_count_209 : decode cX11_count 209 = .ok (.iconst 1, 1) := by decide +kernel
theorem dX11_count_210 : decode cX11_count 210 = .ok (.iaload, 1) := by decide +kernel
theorem dX11_count_211 : decode cX11_count 211 = .ok (.ireturn, 1) := by decide +kernel
theorem dX11_count_212 : decode cX11_count 212 = .ok (.aload_n 0, 1) := by decide +kernel
theorem dX11_count_213 : decode cX11_count 213 = .ok (.getfield 91, 3) := by decide +kernel
theorem dX11_count_216 : decode cX11_count 216 = .ok (.getfield 116, 3) := by decide +kernel
theorem dX11_count_219 : decode cX11_count 219 = .ok (.getfield 208, 3) := by decide +kernel
theorem dX11_count_222 : decode cX11_count 222 = .ok (.iconst 2, 1) := by decide +kernel
theorem dX11_count_223 : decode cX11_count 223 = .ok (.iaload, 1) := by decide +kernel
theorem dX11_count_224 : decode cX11_count 224 = .ok (.ireturn, 1) := by decide +kernel
theorem dX11_count_225 : decode cX11_count 225 = .ok (.iconst (-1), 1) := by decide +kernel
theorem dX11_count_226 : decode cX11_count 226 = .ok (.ireturn, 1) := by decide +kernel
theorem dX11_status_0 : decode cX11_status 0 = .ok (.aload_n 0, 1) := by decide +kernel
theorem dX11_status_1 : decode cX11_status 1 = .ok (.getfield 47, 3) := by decide +kernel
theorem dX11_status_4 : decode cX11_status 4 = .ok (.ireturn, 1) := by decide +kernel
theorem dX11_refuse_0 : decode cX11_refuse 0 = .ok (.aload_n 0, 1) := by decide +kernel
theorem dX11_refuse_1 : decode cX11_refuse 1 = .ok (.iload_n 1, 1) := by decide +kernel
theorem dX11_refuse_2 : decode cX11_refuse 2 = .ok (.putfield 47, 3) := by decide +kernel
theorem dX11_refuse_5 : decode cX11_refuse 5 = .ok (.iload_n 1, 1) := by decide +kernel
theorem dX11_refuse_6 : decode cX11_refuse 6 = .ok (.ifCond .ge 20, 3) := by decide +kernel
theorem dX11_refuse_9 : decode cX11_refuse 9 = .ok (.iload_n 1, 1) := by decide +kernel
theorem dX11_refuse_10 : decode cX11_refuse 10 = .ok (.bipush (-6), 2) := by decide +kernel
theorem dX11_refuse_12 : decode cX11_refuse 12 = .ok (.if_icmp .lt 14, 3) := by decide +kernel
theorem dX11_refuse_15 : decode cX11_refuse 15 = .ok (.aload_n 0, 1) := by decide +kernel
theorem dX11_refuse_16 : decode cX11_refuse 16 = .ok (.getfield 50, 3) := by decide +kernel
theorem dX11_refuse_19 : decode cX11_refuse 19 = .ok (.iload_n 1, 1) := by decide +kernel
theorem dX11_refuse_20 : decode cX11_refuse 20 = .ok (.ineg, 1) := by decide +kernel
theorem dX11_refuse_21 : decode cX11_refuse 21 = .ok (.dup2, 1) := by decide +kernel
theorem dX11_refuse_22 : decode cX11_refuse 22 = .ok (.iaload, 1) := by decide +kernel
theorem dX11_refuse_23 : decode cX11_refuse 23 = .ok (.iconst 1, 1) := by decide +kernel
theorem dX11_refuse_24 : decode cX11_refuse 24 = .ok (.iadd, 1) := by decide +kernel
theorem dX11_refuse_25 : decode cX11_refuse 25 = .ok (.iastore, 1) := by decide +kernel
theorem dX11_refuse_26 : decode cX11_refuse 26 = .ok (.iload_n 1, 1) := by decide +kernel
theorem dX11_refuse_27 : decode cX11_refuse 27 = .ok (.ireturn, 1) := by decide +kernel
theorem dX11_grant_0 : decode cX11_grant 0 = .ok (.aload_n 0, 1) := by decide +kernel
theorem dX11_grant_1 : decode cX11_grant 1 = .ok (.iconst 0, 1) := by decide +kernel
theorem dX11_grant_2 : decode cX11_grant 2 = .ok (.putfield 47, 3) := by decide +kernel
theorem dX11_grant_5 : decode cX11_grant 5 = .ok (.iload_n 1, 1) := by decide +kernel
theorem dX11_grant_6 : decode cX11_grant 6 = .ok (.ireturn, 1) := by decide +kernel
theorem dX11_settle_0 : decode cX11_settle 0 = .ok (.iload_n 1, 1) := by decide +kernel
theorem dX11_settle_1 : decode cX11_settle 1 = .ok (.ifCond .ge 11, 3) := by decide +kernel
theorem dX11_settle_4 : decode cX11_settle 4 = .ok (.aload_n 0, 1) := by decide +kernel
theorem dX11_settle_5 : decode cX11_settle 5 = .ok (.iload_n 1, 1) := by decide +kernel
theorem dX11_settle_6 : decode cX11_settle 6 = .ok (.invokevirtual 112, 3) := by decide +kernel
theorem dX11_settle_9 : decode cX11_settle 9 = .ok (.goto 8, 3) := by decide +kernel
theorem dX11_settle_12 : decode cX11_settle 12 = .ok (.aload_n 0, 1) := by decide +kernel
theorem dX11_settle_13 : decode cX11_settle 13 = .ok (.iload_n 1, 1) := by decide +kernel
theorem dX11_settle_14 : decode cX11_settle 14 = .ok (.invokevirtual 137, 3) := by decide +kernel
theorem dX11_settle_17 : decode cX11_settle 17 = .ok (.ireturn, 1) := by decide +kernel
theorem dX11_areTwo_0 : decode cX11_areTwo 0 = .ok (.iload_n 1, 1) := by decide +kernel
theorem dX11_areTwo_1 : decode cX11_areTwo 1 = .ok (.iload_n 2, 1) := by decide +kernel
theorem dX11_areTwo_2 : decode cX11_areTwo 2 = .ok (.if_icmp .eq 35, 3) := by decide +kernel
theorem dX11_areTwo_5 : decode cX11_areTwo 5 = .ok (.aload_n 0, 1) := by decide +kernel
theorem dX11_areTwo_6 : decode cX11_areTwo 6 = .ok (.getfield 91, 3) := by decide +kernel
theorem dX11_areTwo_9 : decode cX11_areTwo 9 = .ok (.getfield 116, 3) := by decide +kernel
theorem dX11_areTwo_12 : decode cX11_areTwo 12 = .ok (.iload_n 1, 1) := by decide +kernel
theorem dX11_areTwo_13 : decode cX11_areTwo 13 = .ok (.invokevirtual 140, 3) := by decide +kernel
theorem dX11_areTwo_16 : decode cX11_areTwo 16 = .ok (.ifCond .eq 21, 3) := by decide +kernel
theorem dX11_areTwo_19 : decode cX11_areTwo 19 = .ok (.aload_n 0, 1) := by decide +kernel
theorem dX11_areTwo_20 : decode cX11_areTwo 20 = .ok (.getfield 91, 3) := by decide +kernel
theorem dX11_areTwo_23 : decode cX11_areTwo 23 = .ok (.getfield 116, 3) := by decide +kernel
theorem dX11_areTwo_26 : decode cX11_areTwo 26 = .ok (.iload_n 2, 1) := by decide +kernel
theorem dX11_areTwo_27 : decode cX11_areTwo 27 = .ok (.invokevirtual 140, 3) := by decide +kernel
theorem dX11_areTwo_30 : decode cX11_areTwo 30 = .ok (.ifCond .eq 7, 3) := by decide +kernel
theorem dX11_areTwo_33 : decode cX11_areTwo 33 = .ok (.iconst 1, 1) := by decide +kernel
theorem dX11_areTwo_34 : decode cX11_areTwo 34 = .ok (.goto 4, 3) := by decide +kernel
theorem dX11_areTwo_37 : decode cX11_areTwo 37 = .ok (.iconst 0, 1) := by decide +kernel
theorem dX11_areTwo_38 : decode cX11_areTwo 38 = .ok (.ireturn, 1) := by decide +kernel
theorem dX11_isBar_0 : decode cX11_isBar 0 = .ok (.iload_n 0, 1) := by decide +kernel
theorem dX11_isBar_1 : decode cX11_isBar 1 = .ok (.ifCond .lt 13, 3) := by decide +kernel
theorem dX11_isBar_4 : decode cX11_isBar 4 = .ok (.iload_n 0, 1) := by decide +kernel
theorem dX11_isBar_5 : decode cX11_isBar 5 = .ok (.bipush 8, 2) := by decide +kernel
theorem dX11_isBar_7 : decode cX11_isBar 7 = .ok (.if_icmp .ge 7, 3) := by decide +kernel
theorem dX11_isBar_10 : decode cX11_isBar 10 = .ok (.iconst 1, 1) := by decide +kernel
theorem dX11_isBar_11 : decode cX11_isBar 11 = .ok (.goto 4, 3) := by decide +kernel
theorem dX11_isBar_14 : decode cX11_isBar 14 = .ok (.iconst 0, 1) := by decide +kernel
theorem dX11_isBar_15 : decode cX11_isBar 15 = .ok (.ireturn, 1) := by decide +kernel
theorem dX11_isTooth_0 : decode cX11_isTooth 0 = .ok (.iload_n 0, 1) := by decide +kernel
theorem dX11_isTooth_1 : decode cX11_isTooth 1 = .ok (.ifCond .lt 13, 3) := by decide +kernel
theorem dX11_isTooth_4 : decode cX11_isTooth 4 = .ok (.iload_n 0, 1) := by decide +kernel
theorem dX11_isTooth_5 : decode cX11_isTooth 5 = .ok (.bipush 8, 2) := by decide +kernel
theorem dX11_isTooth_7 : decode cX11_isTooth 7 = .ok (.if_icmp .ge 7, 3) := by decide +kernel
theorem dX11_isTooth_10 : decode cX11_isTooth 10 = .ok (.iconst 1, 1) := by decide +kernel
theorem dX11_isTooth_11 : decode cX11_isTooth 11 = .ok (.goto 4, 3) := by decide +kernel
theorem dX11_isTooth_14 : decode cX11_isTooth 14 = .ok (.iconst 0, 1) := by decide +kernel
theorem dX11_isTooth_15 : decode cX11_isTooth 15 = .ok (.ireturn, 1) := by decide +kernel
theorem dX11_isYears_0 : decode cX11_isYears 0 = .ok (.iload_n 0, 1) := by decide +kernel
theorem dX11_isYears_1 : decode cX11_isYears 1 = .ok (.ifCond .lt 13, 3) := by decide +kernel
theorem dX11_isYears_4 : decode cX11_isYears 4 = .ok (.iload_n 0, 1) := by decide +kernel
theorem dX11_isYears_5 : decode cX11_isYears 5 = .ok (.bipush 60, 2) := by decide +kernel
theorem dX11_isYears_7 : decode cX11_isYears 7 = .ok (.if_icmp .gt 7, 3) := by decide +kernel
theorem dX11_isYears_10 : decode cX11_isYears 10 = .ok (.iconst 1, 1) := by decide +kernel
theorem dX11_isYears_11 : decode cX11_isYears 11 = .ok (.goto 4, 3) := by decide +kernel
theorem dX11_isYears_14 : decode cX11_isYears 14 = .ok (.iconst 0, 1) := by decide +kernel
theorem dX11_isYears_15 : decode cX11_isYears 15 = .ok (.ireturn, 1) := by decide +kernel
