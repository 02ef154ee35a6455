theorem dX5_init_0 : decode cX5_init 0 = .ok (.aload_n 0, 1) := by decide +kernel
theorem dX5_init_1 : decode cX5_init 1 = .ok (.invokespecial 7, 3) := by decide +kernel
theorem dX5_init_4 : decode cX5_init 4 = .ok (.aload_n 0, 1) := by decide +kernel
theorem dX5_init_5 : decode cX5_init 5 = .ok (.sipush 401, 3) := by decide +kernel
theorem dX5_init_8 : decode cX5_init 8 = .ok (.newarray .int, 2) := by decide +kernel
theorem dX5_init_10 : decode cX5_init 10 = .ok (.putfield 13, 3) := by decide +kernel
theorem dX5_init_13 : decode cX5_init 13 = .ok (.aload_n 0, 1) := by decide +kernel
theorem dX5_init_14 : decode cX5_init 14 = .ok (.sipush 401, 3) := by decide +kernel
theorem dX5_init_17 : decode cX5_init 17 = .ok (.newarray .int, 2) := by decide +kernel
theorem dX5_init_19 : decode cX5_init 19 = .ok (.putfield 17, 3) := by decide +kernel
theorem dX5_init_22 : decode cX5_init 22 = .ok (.aload_n 0, 1) := by decide +kernel
theorem dX5_init_23 : decode cX5_init 23 = .ok (.sipush 401, 3) := by decide +kernel
theorem dX5_init_26 : decode cX5_init 26 = .ok (.newarray .int, 2) := by decide +kernel
theorem dX5_init_28 : decode cX5_init 28 = .ok (.putfield 20, 3) := by decide +kernel
theorem dX5_init_31 : decode cX5_init 31 = .ok (.aload_n 0, 1) := by decide +kernel
theorem dX5_init_32 : decode cX5_init 32 = .ok (.iconst 0, 1) := by decide +kernel
theorem dX5_init_33 : decode cX5_init 33 = .ok (.putfield 23, 3) := by decide +kernel
theorem dX5_init_36 : decode cX5_init 36 = .ok (.aload_n 0, 1) := by decide +kernel
theorem dX5_init_37 : decode cX5_init 37 = .ok (.iconst 0, 1) := by decide +kernel
theorem dX5_init_38 : decode cX5_init 38 = .ok (.putfield 27, 3) := by decide +kernel
theorem dX5_init_41 : decode cX5_init 41 = .ok (.aload_n 0, 1) := by decide +kernel
theorem dX5_init_42 : decode cX5_init 42 = .ok (.iconst 0, 1) := by decide +kernel
theorem dX5_init_43 : decode cX5_init 43 = .ok (.putfield 30, 3) := by decide +kernel
theorem dX5_init_46 : decode cX5_init 46 = .ok (.aload_n 0, 1) := by decide +kernel
theorem dX5_init_47 : decode cX5_init 47 = .ok (.iconst 0, 1) := by decide +kernel
theorem dX5_init_48 : decode cX5_init 48 = .ok (.putfield 33, 3) := by decide +kernel
theorem dX5_init_51 : decode cX5_init 51 = .ok (.aload_n 0, 1) := by decide +kernel
theorem dX5_init_52 : decode cX5_init 52 = .ok (.bipush 12, 2) := by decide +kernel
theorem dX5_init_54 : decode cX5_init 54 = .ok (.newarray .int, 2) := by decide +kernel
theorem dX5_init_56 : decode cX5_init 56 = .ok (.putfield 37, 3) := by decide +kernel
theorem dX5_init_59 : decode cX5_init 59 = .ok (.aload_n 0, 1) := by decide +kernel
theorem dX5_init_60 : decode cX5_init 60 = .ok (.bipush 12, 2) := by decide +kernel
theorem dX5_init_62 : decode cX5_init 62 = .ok (.newarray .int, 2) := by decide +kernel
theorem dX5_init_64 : decode cX5_init 64 = .ok (.putfield 40, 3) := by decide +kernel
theorem dX5_init_67 : decode cX5_init 67 = .ok (.aload_n 0, 1) := by decide +kernel
theorem dX5_init_68 : decode cX5_init 68 = .ok (.bipush 48, 2) := by decide +kernel
theorem dX5_init_70 : decode cX5_init 70 = .ok (.newarray .int, 2) := by decide +kernel
theorem dX5_init_72 : decode cX5_init 72 = .ok (.putfield 43, 3) := by decide +kernel
theorem dX5_init_75 : decode cX5_init 75 = .ok (.aload_n 0, 1) := by decide +kernel
theorem dX5_init_76 : decode cX5_init 76 = .ok (.sipush 448, 3) := by decide +kernel
theorem dX5_init_79 : decode cX5_init 79 = .ok (.newarray .int, 2) := by decide +kernel
theorem dX5_init_81 : decode cX5_init 81 = .ok (.putfield 46, 3) := by decide +kernel
theorem dX5_init_84 : decode cX5_init 84 = .ok (.aload_n 0, 1) := by decide +kernel
theorem dX5_init_85 : decode cX5_init 85 = .ok (.sipush 448, 3) := by decide +kernel
theorem dX5_init_88 : decode cX5_init 88 = .ok (.newarray .int, 2) := by decide +kernel
theorem dX5_init_90 : decode cX5_init 90 = .ok (.putfield 49, 3) := by decide +kernel
theorem dX5_init_93 : decode cX5_init 93 = .ok (.aload_n 0, 1) := by decide +kernel
theorem dX5_init_94 : decode cX5_init 94 = .ok (.iconst 0, 1) := by decide +kernel
theorem dX5_init_95 : decode cX5_init 95 = .ok (.putfield 52, 3) := by decide +kernel
theorem dX5_init_98 : decode cX5_init 98 = .ok (.aload_n 0, 1) := by decide +kernel
theorem dX5_init_99 : decode cX5_init 99 = .ok (.iconst (-1), 1) := by decide +kernel
theorem dX5_init_100 : decode cX5_init 100 = .ok (.putfield 55, 3) := by decide +kernel
theorem dX5_init_103 : decode cX5_init 103 = .ok (.return_, 1) := by decide +kernel
theorem dX5_read_0 : decode cX5_read 0 = .ok (.aload_n 0, 1) := by decide +kernel
theorem dX5_read_1 : decode cX5_read 1 = .ok (.aload_n 1, 1) := by decide +kernel
theorem dX5_read_2 : decode cX5_read 2 = .ok (.iload_n 2, 1) := by decide +kernel
theorem dX5_read_3 : decode cX5_read 3 = .ok (.invokevirtual 58, 3) := by decide +kernel
theorem dX5_read_6 : decode cX5_read 6 = .ok (.aload_n 0, 1) := by decide +kernel
theorem dX5_read_7 : decode cX5_read 7 = .ok (.iconst 0, 1) := by decide +kernel
theorem dX5_read_8 : decode cX5_read 8 = .ok (.putfield 27, 3) := by decide +kernel
theorem dX5_read_11 : decode cX5_read 11 = .ok (.aload_n 0, 1) := by decide +kernel
theorem dX5_read_12 : decode cX5_read 12 = .ok (.iconst 0, 1) := by decide +kernel
theorem dX5_read_13 : decode cX5_read 13 = .ok (.putfield 30, 3) := by decide +kernel
theorem dX5_read_16 : decode cX5_read 16 = .ok (.aload_n 0, 1) := by decide +kernel
theorem dX5_read_17 : decode cX5_read 17 = .ok (.iconst 0, 1) := by decide +kernel
theorem dX5_read_18 : decode cX5_read 18 = .ok (.putfield 52, 3) := by decide +kernel
theorem dX5_read_21 : decode cX5_read 21 = .ok (.aload_n 0, 1) := by decide +kernel
theorem dX5_read_22 : decode cX5_read 22 = .ok (.iload_n 3, 1) := by decide +kernel
theorem dX5_read_23 : decode cX5_read 23 = .ok (.putfield 33, 3) := by decide +kernel
theorem dX5_read_26 : decode cX5_read 26 = .ok (.aload_n 0, 1) := by decide +kernel
theorem dX5_read_27 : decode cX5_read 27 = .ok (.getfield 43, 3) := by decide +kernel
theorem dX5_read_30 : decode cX5_read 30 = .ok (.iconst (-1), 1) := by decide +kernel
theorem dX5_read_31 : decode cX5_read 31 = .ok (.invokestatic 62, 3) := by decide +kernel
theorem dX5_read_34 : decode cX5_read 34 = .ok (.iconst 0, 1) := by decide +kernel
theorem dX5_read_35 : decode cX5_read 35 = .ok (.istore 4, 2) := by decide +kernel
theorem dX5_read_37 : decode cX5_read 37 = .ok (.iload 4, 2) := by decide +kernel
theorem dX5_read_39 : decode cX5_read 39 = .ok (.bipush 12, 2) := by decide +kernel
theorem dX5_read_41 : decode cX5_read 41 = .ok (.if_icmp .ge 69, 3) := by decide +kernel
theorem dX5_read_44 : decode cX5_read 44 = .ok (.aload_n 0, 1) := by decide +kernel
theorem dX5_read_45 : decode cX5_read 45 = .ok (.iload 4, 2) := by decide +kernel
theorem dX5_read_47 : decode cX5_read 47 = .ok (.invokevirtual 67, 3) := by decide +kernel
theorem dX5_read_50 : decode cX5_read 50 = .ok (.ifCond .ne 6, 3) := by decide +kernel
theorem dX5_read_53 : decode cX5_read 53 = .ok (.goto 57, 3) := by decide +kernel
theorem dX5_read_56 : decode cX5_read 56 = .ok (.aload_n 0, 1) := by decide +kernel
theorem dX5_read_57 : decode cX5_read 57 = .ok (.getfield 17, 3) := by decide +kernel
theorem dX5_read_60 : decode cX5_read 60 = .ok (.aload_n 0, 1) := by decide +kernel
theorem dX5_read_61 : decode cX5_read 61 = .ok (.getfield 27, 3) := by decide +kernel
theorem dX5_read_64 : decode cX5_read 64 = .ok (.iaload, 1) := by decide +kernel
theorem dX5_read_65 : decode cX5_read 65 = .ok (.bipush 92, 2) := by decide +kernel
theorem dX5_read_67 : decode cX5_read 67 = .ok (.if_icmp .ne 21, 3) := by decide +kernel
theorem dX5_read_70 : decode cX5_read 70 = .ok (.aload_n 0, 1) := by decide +kernel
theorem dX5_read_71 : decode cX5_read 71 = .ok (.iconst (-1), 1) := by decide +kernel
theorem dX5_read_72 : decode cX5_read 72 = .ok (.putfield 55, 3) := by decide +kernel
theorem dX5_read_75 : decode cX5_read 75 = .ok (.new 3, 3) := by decide +kernel
theorem dX5_read_78 : decode cX5_read 78 = .ok (.dup, 1) := by decide +kernel
theorem dX5_read_79 : decode cX5_read 79 = .ok (.iload 4, 2) := by decide +kernel
theorem dX5_read_81 : decode cX5_read 81 = .ok (.iconst 1, 1) := by decide +kernel
theorem dX5_read_82 : decode cX5_read 82 = .ok (.iadd, 1) := by decide +kernel
theorem dX5_read_83 : decode cX5_read 83 = .ok (.aload_n 0, 1) := by decide +kernel
theorem dX5_read_84 : decode cX5_read 84 = .ok (.invokespecial 71, 3) := by decide +kernel
theorem dX5_read_87 : decode cX5_read 87 = .ok (.areturn, 1) := by decide +kernel
theorem dX5_read_88 : decode cX5_read 88 = .ok (.aload_n 0, 1) := by decide +kernel
theorem dX5_read_89 : decode cX5_read 89 = .ok (.bipush 59, 2) := by decide +kernel
theorem dX5_read_91 : decode cX5_read 91 = .ok (.invokevirtual 74, 3) := by decide +kernel
theorem dX5_read_94 : decode cX5_read 94 = .ok (.ifCond .ne 6, 3) := by decide +kernel
theorem dX5_read_97 : decode cX5_read 97 = .ok (.goto 13, 3) := by decide +kernel
theorem dX5_read_100 : decode cX5_read 100 = .ok (.aload_n 0, 1) := by decide +kernel
theorem dX5_read_101 : decode cX5_read 101 = .ok (.invokevirtual 78, 3) := by decide +kernel
theorem dX5_read_104 : decode cX5_read 104 = .ok (.iinc 4 1, 3) := by decide +kernel
theorem dX5_read_107 : decode cX5_read 107 = .ok (.goto (-70), 3) := by decide +kernel
theorem dX5_read_110 : decode cX5_read 110 = .ok (.aload_n 0, 1) := by decide +kernel
theorem dX5_read_111 : decode cX5_read 111 = .ok (.aload_n 0, 1) := by decide +kernel
theorem dX5_read_112 : decode cX5_read 112 = .ok (.getfield 13, 3) := by decide +kernel
theorem dX5_read_115 : decode cX5_read 115 = .ok (.aload_n 0, 1) := by decide +kernel
theorem dX5_read_116 : decode cX5_read 116 = .ok (.getfield 27, 3) := by decide +kernel
theorem dX5_read_119 : decode cX5_read 119 = .ok (.iaload, 1) := by decide +kernel
theorem dX5_read_120 : decode cX5_read 120 = .ok (.putfield 55, 3) := by decide +kernel
theorem dX5_read_123 : decode cX5_read 123 = .ok (.aconst_null, 1) := by decide +kernel
theorem dX5_read_124 : decode cX5_read 124 = .ok (.areturn, 1) := by decide +kernel
theorem dX5_scan_0 : decode cX5_scan 0 = .ok (.aload_n 0, 1) := by decide +kernel
theorem dX5_scan_1 : decode cX5_scan 1 = .ok (.iconst 0, 1) := by decide +kernel
theorem dX5_scan_2 : decode cX5_scan 2 = .ok (.putfield 23, 3) := by decide +kernel
theorem dX5_scan_5 : decode cX5_scan 5 = .ok (.iconst 0, 1) := by decide +kernel
theorem dX5_scan_6 : decode cX5_scan 6 = .ok (.istore_n 3, 1) := by decide +kernel
theorem dX5_scan_7 : decode cX5_scan 7 = .ok (.iload_n 3, 1) := by decide +kernel
theorem dX5_scan_8 : decode cX5_scan 8 = .ok (.iload_n 2, 1) := by decide +kernel
theorem dX5_scan_9 : decode cX5_scan 9 = .ok (.if_icmp .ge 159, 3) := by decide +kernel
theorem dX5_scan_12 : decode cX5_scan 12 = .ok (.aload_n 0, 1) := by decide +kernel
theorem dX5_scan_13 : decode cX5_scan 13 = .ok (.getfield 23, 3) := by decide +kernel
theorem dX5_scan_16 : decode cX5_scan 16 = .ok (.sipush 400, 3) := by decide +kernel
theorem dX5_scan_19 : decode cX5_scan 19 = .ok (.if_icmp .ge 149, 3) := by decide +kernel
theorem dX5_scan_22 : decode cX5_scan 22 = .ok (.aload_n 1, 1) := by decide +kernel
theorem dX5_scan_23 : decode cX5_scan 23 = .ok (.iload_n 3, 1) := by decide +kernel
theorem dX5_scan_24 : decode cX5_scan 24 = .ok (.iaload, 1) := by decide +kernel
theorem dX5_scan_25 : decode cX5_scan 25 = .ok (.bipush 32, 2) := by decide +kernel
theorem dX5_scan_27 : decode cX5_scan 27 = .ok (.if_icmp .ne 6, 3) := by decide +kernel
theorem dX5_scan_30 : decode cX5_scan 30 = .ok (.goto 132, 3) := by decide +kernel
theorem dX5_scan_33 : decode cX5_scan 33 = .ok (.aload_n 1, 1) := by decide +kernel
theorem dX5_scan_34 : decode cX5_scan 34 = .ok (.iload_n 3, 1) := by decide +kernel
theorem dX5_scan_35 : decode cX5_scan 35 = .ok (.iload_n 2, 1) := by decide +kernel
theorem dX5_scan_36 : decode cX5_scan 36 = .ok (.invokestatic 81, 3) := by decide +kernel
theorem dX5_scan_39 : decode cX5_scan 39 = .ok (.istore 4, 2) := by decide +kernel
theorem dX5_scan_41 : decode cX5_scan 41 = .ok (.aload_n 0, 1) := by decide +kernel
theorem dX5_scan_42 : decode cX5_scan 42 = .ok (.getfield 13, 3) := by decide +kernel
theorem dX5_scan_45 : decode cX5_scan 45 = .ok (.aload_n 0, 1) := by decide +kernel
theorem dX5_scan_46 : decode cX5_scan 46 = .ok (.getfield 23, 3) := by decide +kernel
theorem dX5_scan_49 : decode cX5_scan 49 = .ok (.iload_n 3, 1) := by decide +kernel
theorem dX5_scan_50 : decode cX5_scan 50 = .ok (.iastore, 1) := by decide +kernel
theorem dX5_scan_51 : decode cX5_scan 51 = .ok (.aload_n 0, 1) := by decide +kernel
theorem dX5_scan_52 : decode cX5_scan 52 = .ok (.getfield 20, 3) := by decide +kernel
theorem dX5_scan_55 : decode cX5_scan 55 = .ok (.aload_n 0, 1) := by decide +kernel
theorem dX5_scan_56 : decode cX5_scan 56 = .ok (.getfield 23, 3) := by decide +kernel
theorem dX5_scan_59 : decode cX5_scan 59 = .ok (.iconst 0, 1) := by decide +kernel
theorem dX5_scan_60 : decode cX5_scan 60 = .ok (.iastore, 1) := by decide +kernel
theorem dX5_scan_61 : decode cX5_scan 61 = .ok (.aload_n 1, 1) := by decide +kernel
theorem dX5_scan_62 : decode cX5_scan 62 = .ok (.iload_n 3, 1) := by decide +kernel
theorem dX5_scan_63 : decode cX5_scan 63 = .ok (.iaload, 1) := by decide +kernel
theorem dX5_scan_64 : decode cX5_scan 64 = .ok (.invokestatic 85, 3) := by decide +kernel
theorem dX5_scan_67 : decode cX5_scan 67 = .ok (.ifCond .eq 22, 3) := by decide +kernel
theorem dX5_scan_70 : decode cX5_scan 70 = .ok (.aload_n 0, 1) := by decide +kernel
theorem dX5_scan_71 : decode cX5_scan 71 = .ok (.getfield 17, 3) := by decide +kernel
theorem dX5_scan_74 : decode cX5_scan 74 = .ok (.aload_n 0, 1) := by decide +kernel
theorem dX5_scan_75 : decode cX5_scan 75 = .ok (.getfield 23, 3) := by decide +kernel
theorem dX5_scan_78 : decode cX5_scan 78 = .ok (.aload_n 1, 1) := by decide +kernel
theorem dX5_scan_79 : decode cX5_scan 79 = .ok (.iload_n 3, 1) := by decide +kernel
theorem dX5_scan_80 : decode cX5_scan 80 = .ok (.iload 4, 2) := by decide +kernel
theorem dX5_scan_82 : decode cX5_scan 82 = .ok (.invokestatic 88, 3) := by decide +kernel
theorem dX5_scan_85 : decode cX5_scan 85 = .ok (.iastore, 1) := by decide +kernel
theorem dX5_scan_86 : decode cX5_scan 86 = .ok (.goto 57, 3) := by decide +kernel
theorem dX5_scan_89 : decode cX5_scan 89 = .ok (.aload_n 1, 1) := by decide +kernel
theorem dX5_scan_90 : decode cX5_scan 90 = .ok (.iload_n 3, 1) := by decide +kernel
theorem dX5_scan_91 : decode cX5_scan 91 = .ok (.iaload, 1) := by decide +kernel
theorem dX5_scan_92 : decode cX5_scan 92 = .ok (.invokestatic 91, 3) := by decide +kernel
theorem dX5_scan_95 : decode cX5_scan 95 = .ok (.ifCond .eq 33, 3) := by decide +kernel
theorem dX5_scan_98 : decode cX5_scan 98 = .ok (.aload_n 0, 1) := by decide +kernel
theorem dX5_scan_99 : decode cX5_scan 99 = .ok (.getfield 17, 3) := by decide +kernel
theorem dX5_scan_102 : decode cX5_scan 102 = .ok (.aload_n 0, 1) := by decide +kernel
theorem dX5_scan_103 : decode cX5_scan 103 = .ok (.getfield 23, 3) := by decide +kernel
theorem dX5_scan_106 : decode cX5_scan 106 = .ok (.bipush 91, 2) := by decide +kernel
theorem dX5_scan_108 : decode cX5_scan 108 = .ok (.iastore, 1) := by decide +kernel
theorem dX5_scan_109 : decode cX5_scan 109 = .ok (.aload_n 0, 1) := by decide +kernel
theorem dX5_scan_110 : decode cX5_scan 110 = .ok (.getfield 20, 3) := by decide +kernel
theorem dX5_scan_113 : decode cX5_scan 113 = .ok (.aload_n 0, 1) := by decide +kernel
theorem dX5_scan_114 : decode cX5_scan 114 = .ok (.getfield 23, 3) := by decide +kernel
theorem dX5_scan_117 : decode cX5_scan 117 = .ok (.aload_n 1, 1) := by decide +kernel
theorem dX5_scan_118 : decode cX5_scan 118 = .ok (.iload_n 3, 1) := by decide +kernel
theorem dX5_scan_119 : decode cX5_scan 119 = .ok (.iload 4, 2) := by decide +kernel
theorem dX5_scan_121 : decode cX5_scan 121 = .ok (.invokestatic 94, 3) := by decide +kernel
theorem dX5_scan_124 : decode cX5_scan 124 = .ok (.iastore, 1) := by decide +kernel
theorem dX5_scan_125 : decode cX5_scan 125 = .ok (.goto 18, 3) := by decide +kernel
theorem dX5_scan_128 : decode cX5_scan 128 = .ok (.aload_n 0, 1) := by decide +kernel
theorem dX5_scan_129 : decode cX5_scan 129 = .ok (.getfield 17, 3) := by decide +kernel
theorem dX5_scan_132 : decode cX5_scan 132 = .ok (.aload_n 0, 1) := by decide +kernel
theorem dX5_scan_133 : decode cX5_scan 133 = .ok (.getfield 23, 3) := by decide +kernel
theorem dX5_scan_136 : decode cX5_scan 136 = .ok (.bipush 100, 2) := by decide +kernel
theorem dX5_scan_138 : decode cX5_scan 138 = .ok (.aload_n 1, 1) := by decide +kernel
theorem dX5_scan_139 : decode cX5_scan 139 = .ok (.iload_n 3, 1) := by decide +kernel
theorem dX5_scan_140 : decode cX5_scan 140 = .ok (.iaload, 1) := by decide +kernel
theorem dX5_scan_141 : decode cX5_scan 141 = .ok (.iadd, 1) := by decide +kernel
theorem dX5_scan_142 : decode cX5_scan 142 = .ok (.iastore, 1) := by decide +kernel
theorem dX5_scan_143 : decode cX5_scan 143 = .ok (.aload_n 0, 1) := by decide +kernel
theorem dX5_scan_144 : decode cX5_scan 144 = .ok (.dup, 1) := by decide +kernel
theorem dX5_scan_145 : decode cX5_scan 145 = .ok (.getfield 23, 3) := by decide +kernel
theorem dX5_scan_148 : decode cX5_scan 148 = .ok (.iconst 1, 1) := by decide +kernel
theorem dX5_scan_149 : decode cX5_scan 149 = .ok (.iadd, 1) := by decide +kernel
theorem dX5_scan_150 : decode cX5_scan 150 = .ok (.putfield 23, 3) := by decide +kernel
theorem dX5_scan_153 : decode cX5_scan 153 = .ok (.iload_n 3, 1) := by decide +kernel
theorem dX5_scan_154 : decode cX5_scan 154 = .ok (.iload 4, 2) := by decide +kernel
theorem dX5_scan_156 : decode cX5_scan 156 = .ok (.iconst 1, 1) := by decide +kernel
theorem dX5_scan_157 : decode cX5_scan 157 = .ok (.isub, 1) := by decide +kernel
theorem dX5_scan_158 : decode cX5_scan 158 = .ok (.invokestatic 97, 3) := by decide +kernel
theorem dX5_scan_161 : decode cX5_scan 161 = .ok (.istore_n 3, 1) := by decide +kernel
theorem dX5_scan_162 : decode cX5_scan 162 = .ok (.iinc 3 1, 3) := by decide +kernel
theorem dX5_scan_165 : decode cX5_scan 165 = .ok (.goto (-158), 3) := by decide +kernel
theorem dX5_scan_168 : decode cX5_scan 168 = .ok (.aload_n 0, 1) := by decide +kernel
theorem dX5_scan_169 : decode cX5_scan 169 = .ok (.getfield 13, 3) := by decide +kernel
theorem dX5_scan_172 : decode cX5_scan 172 = .ok (.aload_n 0, 1) := by decide +kernel
theorem dX5_scan_173 : decode cX5_scan 173 = .ok (.getfield 23, 3) := by decide +kernel
theorem dX5_scan_176 : decode cX5_scan 176 = .ok (.iload_n 2, 1) := by decide +kernel
theorem dX5_scan_177 : decode cX5_scan 177 = .ok (.iastore, 1) := by decide +kernel
theorem dX5_scan_178 : decode cX5_scan 178 = .ok (.aload_n 0, 1) := by decide +kernel
theorem dX5_scan_179 : decode cX5_scan 179 = .ok (.getfield 17, 3) := by decide +kernel
theorem dX5_scan_182 : decode cX5_scan 182 = .ok (.aload_n 0, 1) := by decide +kernel
theorem dX5_scan_183 : decode cX5_scan 183 = .ok (.getfield 23, 3) := by decide +kernel
theorem dX5_scan_186 : decode cX5_scan 186 = .ok (.bipush 92, 2) := by decide +kernel
theorem dX5_scan_188 : decode cX5_scan 188 = .ok (.iastore, 1) := by decide +kernel
theorem dX5_scan_189 : decode cX5_scan 189 = .ok (.return_, 1) := by decide +kernel
theorem dX5_endOfRow_0 : decode cX5_endOfRow 0 = .ok (.aload_n 0, 1) := by decide +kernel
theorem dX5_endOfRow_1 : decode cX5_endOfRow 1 = .ok (.iload_n 1, 1) := by decide +kernel
theorem dX5_endOfRow_2 : decode cX5_endOfRow 2 = .ok (.iaload, 1) := by decide +kernel
theorem dX5_endOfRow_3 : decode cX5_endOfRow 3 = .ok (.invokestatic 85, 3) := by decide +kernel
theorem dX5_endOfRow_6 : decode cX5_endOfRow 6 = .ok (.istore_n 3, 1) := by decide +kernel
theorem dX5_endOfRow_7 : decode cX5_endOfRow 7 = .ok (.aload_n 0, 1) := by decide +kernel
theorem dX5_endOfRow_8 : decode cX5_endOfRow 8 = .ok (.iload_n 1, 1) := by decide +kernel
theorem dX5_endOfRow_9 : decode cX5_endOfRow 9 = .ok (.iaload, 1) := by decide +kernel
theorem dX5_endOfRow_10 : decode cX5_endOfRow 10 = .ok (.invokestatic 91, 3) := by decide +kernel
theorem dX5_endOfRow_13 : decode cX5_endOfRow 13 = .ok (.istore 4, 2) := by decide +kernel
theorem dX5_endOfRow_15 : decode cX5_endOfRow 15 = .ok (.iload_n 1, 1) := by decide +kernel
theorem dX5_endOfRow_16 : decode cX5_endOfRow 16 = .ok (.iconst 1, 1) := by decide +kernel
theorem dX5_endOfRow_17 : decode cX5_endOfRow 17 = .ok (.iadd, 1) := by decide +kernel
theorem dX5_endOfRow_18 : decode cX5_endOfRow 18 = .ok (.istore 5, 2) := by decide +kernel
theorem dX5_endOfRow_20 : decode cX5_endOfRow 20 = .ok (.iload 5, 2) := by decide +kernel
theorem dX5_endOfRow_22 : decode cX5_endOfRow 22 = .ok (.iload_n 2, 1) := by decide +kernel
theorem dX5_endOfRow_23 : decode cX5_endOfRow 23 = .ok (.if_icmp .ge 38, 3) := by decide +kernel
theorem dX5_endOfRow_26 : decode cX5_endOfRow 26 = .ok (.iload_n 3, 1) := by decide +kernel
theorem dX5_endOfRow_27 : decode cX5_endOfRow 27 = .ok (.ifCond .eq 13, 3) := by decide +kernel
theorem dX5_endOfRow_30 : decode cX5_endOfRow 30 = .ok (.aload_n 0, 1) := by decide +kernel
theorem dX5_endOfRow_31 : decode cX5_endOfRow 31 = .ok (.iload 5, 2) := by decide +kernel
theorem dX5_endOfRow_33 : decode cX5_endOfRow 33 = .ok (.iaload, 1) := by decide +kernel
theorem dX5_endOfRow_34 : decode cX5_endOfRow 34 = .ok (.invokestatic 85, 3) := by decide +kernel
theorem dX5_endOfRow_37 : decode cX5_endOfRow 37 = .ok (.ifCond .ne 18, 3) := by decide +kernel
theorem dX5_endOfRow_40 : decode cX5_endOfRow 40 = .ok (.iload 4, 2) := by decide +kernel
theorem dX5_endOfRow_42 : decode cX5_endOfRow 42 = .ok (.ifCond .eq 19, 3) := by decide +kernel
theorem dX5_endOfRow_45 : decode cX5_endOfRow 45 = .ok (.aload_n 0, 1) := by decide +kernel
theorem dX5_endOfRow_46 : decode cX5_endOfRow 46 = .ok (.iload 5, 2) := by decide +kernel
theorem dX5_endOfRow_48 : decode cX5_endOfRow 48 = .ok (.iaload, 1) := by decide +kernel
theorem dX5_endOfRow_49 : decode cX5_endOfRow 49 = .ok (.invokestatic 91, 3) := by decide +kernel
theorem dX5_endOfRow_52 : decode cX5_endOfRow 52 = .ok (.ifCond .eq 9, 3) := by decide +kernel
theorem dX5_endOfRow_55 : decode cX5_endOfRow 55 = .ok (.iinc 5 1, 3) := by decide +kernel
theorem dX5_endOfRow_58 : decode cX5_endOfRow 58 = .ok (.goto (-38), 3) := by decide +kernel
theorem dX5_endOfRow_61 : decode cX5_endOfRow 61 = .ok (.iload 5, 2) := by decide +kernel
theorem dX5_endOfRow_63 : decode cX5_endOfRow 63 = .ok (.ireturn, 1) := by decide +kernel
theorem dX5_isLetter_0 : decode cX5_isLetter 0 = .ok (.iload_n 0, 1) := by decide +kernel
theorem dX5_isLetter_1 : decode cX5_isLetter 1 = .ok (.bipush 97, 2) := by decide +kernel
theorem dX5_isLetter_3 : decode cX5_isLetter 3 = .ok (.if_icmp .lt 13, 3) := by decide +kernel
theorem dX5_isLetter_6 : decode cX5_isLetter 6 = .ok (.iload_n 0, 1) := by decide +kernel
theorem dX5_isLetter_7 : decode cX5_isLetter 7 = .ok (.bipush 122, 2) := by decide +kernel
theorem dX5_isLetter_9 : decode cX5_isLetter 9 = .ok (.if_icmp .gt 7, 3) := by decide +kernel
theorem dX5_isLetter_12 : decode cX5_isLetter 12 = .ok (.iconst 1, 1) := by decide +kernel
theorem dX5_isLetter_13 : decode cX5_isLetter 13 = .ok (.goto 4, 3) := by decide +kernel
theorem dX5_isLetter_16 : decode cX5_isLetter 16 = .ok (.iconst 0, 1) := by decide +kernel
theorem dX5_isLetter_17 : decode cX5_isLetter 17 = .ok (.ireturn, 1) := by decide +kernel
theorem dX5_isDigit_0 : decode cX5_isDigit 0 = .ok (.iload_n 0, 1) := by decide +kernel
theorem dX5_isDigit_1 : decode cX5_isDigit 1 = .ok (.bipush 48, 2) := by decide +kernel
theorem dX5_isDigit_3 : decode cX5_isDigit 3 = .ok (.if_icmp .lt 13, 3) := by decide +kernel
theorem dX5_isDigit_6 : decode cX5_isDigit 6 = .ok (.iload_n 0, 1) := by decide +kernel
theorem dX5_isDigit_7 : decode cX5_isDigit 7 = .ok (.bipush 57, 2) := by decide +kernel
theorem dX5_isDigit_9 : decode cX5_isDigit 9 = .ok (.if_icmp .gt 7, 3) := by decide +kernel
theorem dX5_isDigit_12 : decode cX5_isDigit 12 = .ok (.iconst 1, 1) := by decide +kernel
theorem dX5_isDigit_13 : decode cX5_isDigit 13 = .ok (.goto 4, 3) := by decide +kernel
theorem dX5_isDigit_16 : decode cX5_isDigit 16 = .ok (.iconst 0, 1) := by decide +kernel
theorem dX5_isDigit_17 : decode cX5_isDigit 17 = .ok (.ireturn, 1) := by decide +kernel
theorem dX5_numberAt_0 : decode cX5_numberAt 0 = .ok (.iconst 0, 1) := by decide +kernel
theorem dX5_numberAt_1 : decode cX5_numberAt 1 = .ok (.istore_n 3, 1) := by decide +kernel
theorem dX5_numberAt_2 : decode cX5_numberAt 2 = .ok (.iload_n 1, 1) := by decide +kernel
theorem dX5_numberAt_3 : decode cX5_numberAt 3 = .ok (.istore 4, 2) := by decide +kernel
theorem dX5_numberAt_5 : decode cX5_numberAt 5 = .ok (.iload 4, 2) := by decide +kernel
theorem dX5_numberAt_7 : decode cX5_numberAt 7 = .ok (.iload_n 2, 1) := by decide +kernel
theorem dX5_numberAt_8 : decode cX5_numberAt 8 = .ok (.if_icmp .ge 28, 3) := by decide +kernel
theorem dX5_numberAt_11 : decode cX5_numberAt 11 = .ok (.iload_n 3, 1) := by decide +kernel
theorem dX5_numberAt_12 : decode cX5_numberAt 12 = .ok (.bipush 10, 2) := by decide +kernel
theorem dX5_numberAt_14 : decode cX5_numberAt 14 = .ok (.imul, 1) := by decide +kernel
theorem dX5_numberAt_15 : decode cX5_numberAt 15 = .ok (.aload_n 0, 1) := by decide +kernel
theorem dX5_numberAt_16 : decode cX5_numberAt 16 = .ok (.iload 4, 2) := by decide +kernel
theorem dX5_numberAt_18 : decode cX5_numberAt 18 = .ok (.iaload, 1) := by decide +kernel
theorem dX5_numberAt_19 : decode cX5_numberAt 19 = .ok (.iadd, 1) := by decide +kernel
theorem dX5_numberAt_20 : decode cX5_numberAt 20 = .ok (.bipush 48, 2) := by decide +kernel
theorem dX5_numberAt_22 : decode cX5_numberAt 22 = .ok (.isub, 1) := by decide +kernel
theorem dX5_numberAt_23 : decode cX5_numberAt 23 = .ok (.sipush 1001, 3) := by decide +kernel
theorem dX5_numberAt_26 : decode cX5_numberAt 26 = .ok (.invokestatic 103, 3) := by decide +kernel
theorem dX5_numberAt_29 : decode cX5_numberAt 29 = .ok (.istore_n 3, 1) := by decide +kernel
theorem dX5_numberAt_30 : decode cX5_numberAt 30 = .ok (.iinc 4 1, 3) := by decide +kernel
theorem dX5_numberAt_33 : decode cX5_numberAt 33 = .ok (.goto (-28), 3) := by decide +kernel
theorem dX5_numberAt_36 : decode cX5_numberAt 36 = .ok (.iload_n 3, 1) := by decide +kernel
theorem dX5_numberAt_37 : decode cX5_numberAt 37 = .ok (.ireturn, 1) := by decide +kernel
theorem dX5_wordAt_0 : decode cX5_wordAt 0 = .ok (.iconst 0, 1) := by decide +kernel
theorem dX5_wordAt_1 : decode cX5_wordAt 1 = .ok (.istore_n 3, 1) := by decide +kernel
theorem dX5_wordAt_2 : decode cX5_wordAt 2 = .ok (.iconst 0, 1) := by decide +kernel
theorem dX5_wordAt_3 : decode cX5_wordAt 3 = .ok (.istore 4, 2) := by decide +kernel
theorem dX5_wordAt_5 : decode cX5_wordAt 5 = .ok (.iconst 0, 1) := by decide +kernel
theorem dX5_wordAt_6 : decode cX5_wordAt 6 = .ok (.istore 5, 2) := by decide +kernel
theorem dX5_wordAt_8 : decode cX5_wordAt 8 = .ok (.iload 5, 2) := by decide +kernel
theorem dX5_wordAt_10 : decode cX5_wordAt 10 = .ok (.ldc 106, 2) := by decide +kernel
theorem dX5_wordAt_12 : decode cX5_wordAt 12 = .ok (.invokevirtual 108, 3) := by decide +kernel
theorem dX5_wordAt_15 : decode cX5_wordAt 15 = .ok (.if_icmp .gt 65, 3) := by decide +kernel
theorem dX5_wordAt_18 : decode cX5_wordAt 18 = .ok (.iload 5, 2) := by decide +kernel
theorem dX5_wordAt_20 : decode cX5_wordAt 20 = .ok (.ldc 106, 2) := by decide +kernel
theorem dX5_wordAt_22 : decode cX5_wordAt 22 = .ok (.invokevirtual 108, 3) := by decide +kernel
theorem dX5_wordAt_25 : decode cX5_wordAt 25 = .ok (.if_icmp .eq 15, 3) := by decide +kernel
theorem dX5_wordAt_28 : decode cX5_wordAt 28 = .ok (.ldc 106, 2) := by decide +kernel
theorem dX5_wordAt_30 : decode cX5_wordAt 30 = .ok (.iload 5, 2) := by decide +kernel
theorem dX5_wordAt_32 : decode cX5_wordAt 32 = .ok (.invokevirtual 114, 3) := by decide +kernel
theorem dX5_wordAt_35 : decode cX5_wordAt 35 = .ok (.bipush 32, 2) := by decide +kernel
theorem dX5_wordAt_37 : decode cX5_wordAt 37 = .ok (.if_icmp .ne 37, 3) := by decide +kernel
theorem dX5_wordAt_40 : decode cX5_wordAt 40 = .ok (.iload 5, 2) := by decide +kernel
theorem dX5_wordAt_42 : decode cX5_wordAt 42 = .ok (.iload 4, 2) := by decide +kernel
theorem dX5_wordAt_44 : decode cX5_wordAt 44 = .ok (.isub, 1) := by decide +kernel
theorem dX5_wordAt_45 : decode cX5_wordAt 45 = .ok (.iload_n 2, 1) := by decide +kernel
theorem dX5_wordAt_46 : decode cX5_wordAt 46 = .ok (.iload_n 1, 1) := by decide +kernel
theorem dX5_wordAt_47 : decode cX5_wordAt 47 = .ok (.isub, 1) := by decide +kernel
theorem dX5_wordAt_48 : decode cX5_wordAt 48 = .ok (.if_icmp .ne 17, 3) := by decide +kernel
theorem dX5_wordAt_51 : decode cX5_wordAt 51 = .ok (.aload_n 0, 1) := by decide +kernel
theorem dX5_wordAt_52 : decode cX5_wordAt 52 = .ok (.iload_n 1, 1) := by decide +kernel
theorem dX5_wordAt_53 : decode cX5_wordAt 53 = .ok (.iload 4, 2) := by decide +kernel
theorem dX5_wordAt_55 : decode cX5_wordAt 55 = .ok (.iload 5, 2) := by decide +kernel
theorem dX5_wordAt_57 : decode cX5_wordAt 57 = .ok (.invokestatic 118, 3) := by decide +kernel
theorem dX5_wordAt_60 : decode cX5_wordAt 60 = .ok (.ifCond .eq 5, 3) := by decide +kernel
theorem dX5_wordAt_63 : decode cX5_wordAt 63 = .ok (.iload_n 3, 1) := by decide +kernel
theorem dX5_wordAt_64 : decode cX5_wordAt 64 = .ok (.ireturn, 1) := by decide +kernel
theorem dX5_wordAt_65 : decode cX5_wordAt 65 = .ok (.iinc 3 1, 3) := by decide +kernel
theorem dX5_wordAt_68 : decode cX5_wordAt 68 = .ok (.iload 5, 2) := by decide +kernel
theorem dX5_wordAt_70 : decode cX5_wordAt 70 = .ok (.iconst 1, 1) := by decide +kernel
theorem dX5_wordAt_71 : decode cX5_wordAt 71 = .ok (.iadd, 1) := by decide +kernel
theorem dX5_wordAt_72 : decode cX5_wordAt 72 = .ok (.istore 4, 2) := by decide +kernel
theorem dX5_wordAt_74 : decode cX5_wordAt 74 = .ok (.iinc 5 1, 3) := by decide +kernel
theorem dX5_wordAt_77 : decode cX5_wordAt 77 = .ok (.goto (-69), 3) := by decide +kernel
theorem dX5_wordAt_80 : decode cX5_wordAt 80 = .ok (.bipush 90, 2) := by decide +kernel
theorem dX5_wordAt_82 : decode cX5_wordAt 82 = .ok (.ireturn, 1) := by decide +kernel
theorem dX5_isSame_0 : decode cX5_isSame 0 = .ok (.iload_n 2, 1) := by decide +kernel
theorem dX5_isSame_1 : decode cX5_isSame 1 = .ok (.istore 4, 2) := by decide +kernel
theorem dX5_isSame_3 : decode cX5_isSame 3 = .ok (.iload 4, 2) := by decide +kernel
theorem dX5_isSame_5 : decode cX5_isSame 5 = .ok (.iload_n 3, 1) := by decide +kernel
theorem dX5_isSame_6 : decode cX5_isSame 6 = .ok (.if_icmp .ge 29, 3) := by decide +kernel
theorem dX5_isSame_9 : decode cX5_isSame 9 = .ok (.ldc 106, 2) := by decide +kernel
theorem dX5_isSame_11 : decode cX5_isSame 11 = .ok (.iload 4, 2) := by decide +kernel
theorem dX5_isSame_13 : decode cX5_isSame 13 = .ok (.invokevirtual 114, 3) := by decide +kernel
theorem dX5_isSame_16 : decode cX5_isSame 16 = .ok (.aload_n 0, 1) := by decide +kernel
theorem dX5_isSame_17 : decode cX5_isSame 17 = .ok (.iload_n 1, 1) := by decide +kernel
theorem dX5_isSame_18 : decode cX5_isSame 18 = .ok (.iload 4, 2) := by decide +kernel
theorem dX5_isSame_20 : decode cX5_isSame 20 = .ok (.iadd, 1) := by decide +kernel
theorem dX5_isSame_21 : decode cX5_isSame 21 = .ok (.iload_n 2, 1) := by decide +kernel
theorem dX5_isSame_22 : decode cX5_isSame 22 = .ok (.isub, 1) := by decide +kernel
theorem dX5_isSame_23 : decode cX5_isSame 23 = .ok (.iaload, 1) := by decide +kernel
theorem dX5_isSame_24 : decode cX5_isSame 24 = .ok (.if_icmp .eq 5, 3) := by decide +kernel
theorem dX5_isSame_27 : decode cX5_isSame 27 = .ok (.iconst 0, 1) := by decide +kernel
theorem dX5_isSame_28 : decode cX5_isSame 28 = .ok (.ireturn, 1) := by decide +kernel
theorem dX5_isSame_29 : decode cX5_isSame 29 = .ok (.iinc 4 1, 3) := by decide +kernel
theorem dX5_isSame_32 : decode cX5_isSame 32 = .ok (.goto (-29), 3) := by decide +kernel
theorem dX5_isSame_35 : decode cX5_isSame 35 = .ok (.iconst 1, 1) := by decide +kernel
theorem dX5_isSame_36 : decode cX5_isSame 36 = .ok (.ireturn, 1) := by decide +kernel
theorem dX5_goOn_0 : decode cX5_goOn 0 = .ok (.aload_n 0, 1) := by decide +kernel
theorem dX5_goOn_1 : decode cX5_goOn 1 = .ok (.getfield 27, 3) := by decide +kernel
theorem dX5_goOn_4 : decode cX5_goOn 4 = .ok (.aload_n 0, 1) := by decide +kernel
theorem dX5_goOn_5 : decode cX5_goOn 5 = .ok (.getfield 23, 3) := by decide +kernel
theorem dX5_goOn_8 : decode cX5_goOn 8 = .ok (.if_icmp .ge 13, 3) := by decide +kernel
theorem dX5_goOn_11 : decode cX5_goOn 11 = .ok (.aload_n 0, 1) := by decide +kernel
theorem dX5_goOn_12 : decode cX5_goOn 12 = .ok (.dup, 1) := by decide +kernel
theorem dX5_goOn_13 : decode cX5_goOn 13 = .ok (.getfield 27, 3) := by decide +kernel
theorem dX5_goOn_16 : decode cX5_goOn 16 = .ok (.iconst 1, 1) := by decide +kernel
theorem dX5_goOn_17 : decode cX5_goOn 17 = .ok (.iadd, 1) := by decide +kernel
theorem dX5_goOn_18 : decode cX5_goOn 18 = .ok (.putfield 27, 3) := by decide +kernel
theorem dX5_goOn_21 : decode cX5_goOn 21 = .ok (.return_, 1) := by decide +kernel
theorem dX5_isSign_0 : decode cX5_isSign 0 = .ok (.aload_n 0, 1) := by decide +kernel
theorem dX5_isSign_1 : decode cX5_isSign 1 = .ok (.getfield 17, 3) := by decide +kernel
theorem dX5_isSign_4 : decode cX5_isSign 4 = .ok (.aload_n 0, 1) := by decide +kernel
theorem dX5_isSign_5 : decode cX5_isSign 5 = .ok (.getfield 27, 3) := by decide +kernel
theorem dX5_isSign_8 : decode cX5_isSign 8 = .ok (.iaload, 1) := by decide +kernel
theorem dX5_isSign_9 : decode cX5_isSign 9 = .ok (.bipush 100, 2) := by decide +kernel
theorem dX5_isSign_11 : decode cX5_isSign 11 = .ok (.iload_n 1, 1) := by decide +kernel
theorem dX5_isSign_12 : decode cX5_isSign 12 = .ok (.iadd, 1) := by decide +kernel
theorem dX5_isSign_13 : decode cX5_isSign 13 = .ok (.if_icmp .ne 7, 3) := by decide +kernel
theorem dX5_isSign_16 : decode cX5_isSign 16 = .ok (.iconst 1, 1) := by decide +kernel
theorem dX5_isSign_17 : decode cX5_isSign 17 = .ok (.goto 4, 3) := by decide +kernel
theorem dX5_isSign_20 : decode cX5_isSign 20 = .ok (.iconst 0, 1) := by decide +kernel
theorem dX5_isSign_21 : decode cX5_isSign 21 = .ok (.ireturn, 1) := by decide +kernel
theorem dX5_put_0 : decode cX5_put 0 = .ok (.aload_n 0, 1) := by decide +kernel
theorem dX5_put_1 : decode cX5_put 1 = .ok (.getfield 52, 3) := by decide +kernel
theorem dX5_put_4 : decode cX5_put 4 = .ok (.sipush 448, 3) := by decide +kernel
theorem dX5_put_7 : decode cX5_put 7 = .ok (.if_icmp .lt 5, 3) := by decide +kernel
theorem dX5_put_10 : decode cX5_put 10 = .ok (.iconst 0, 1) := by decide +kernel
theorem dX5_put_11 : decode cX5_put 11 = .ok (.ireturn, 1) := by decide +kernel
theorem dX5_put_12 : decode cX5_put 12 = .ok (.aload_n 0, 1) := by decide +kernel
theorem dX5_put_13 : decode cX5_put 13 = .ok (.getfield 46, 3) := by decide +kernel
theorem dX5_put_16 : decode cX5_put 16 = .ok (.aload_n 0, 1) := by decide +kernel
theorem dX5_put_17 : decode cX5_put 17 = .ok (.getfield 52, 3) := by decide +kernel
theorem dX5_put_20 : decode cX5_put 20 = .ok (.iload_n 1, 1) := by decide +kernel
theorem dX5_put_21 : decode cX5_put 21 = .ok (.iastore, 1) := by decide +kernel
theorem dX5_put_22 : decode cX5_put 22 = .ok (.aload_n 0, 1) := by decide +kernel
theorem dX5_put_23 : decode cX5_put 23 = .ok (.getfield 49, 3) := by decide +kernel
theorem dX5_put_26 : decode cX5_put 26 = .ok (.aload_n 0, 1) := by decide +kernel
theorem dX5_put_27 : decode cX5_put 27 = .ok (.getfield 52, 3) := by decide +kernel
theorem dX5_put_30 : decode cX5_put 30 = .ok (.iload_n 2, 1) := by decide +kernel
theorem dX5_put_31 : decode cX5_put 31 = .ok (.iastore, 1) := by decide +kernel
theorem dX5_put_32 : decode cX5_put 32 = .ok (.aload_n 0, 1) := by decide +kernel
theorem dX5_put_33 : decode cX5_put 33 = .ok (.dup, 1) := by decide +kernel
theorem dX5_put_34 : decode cX5_put 34 = .ok (.getfield 52, 3) := by decide +kernel
theorem dX5_put_37 : decode cX5_put 37 = .ok (.iconst 1, 1) := by decide +kernel
theorem dX5_put_38 : decode cX5_put 38 = .ok (.iadd, 1) := by decide +kernel
theorem dX5_put_39 : decode cX5_put 39 = .ok (.putfield 52, 3) := by decide +kernel
theorem dX5_put_42 : decode cX5_put 42 = .ok (.iconst 1, 1) := by decide +kernel
theorem dX5_put_43 : decode cX5_put 43 = .ok (.ireturn, 1) := by decide +kernel
theorem dX5_readClause_0 : decode cX5_readClause 0 = .ok (.aload_n 0, 1) := by decide +kernel
theorem dX5_readClause_1 : decode cX5_readClause 1 = .ok (.getfield 33, 3) := by decide +kernel
theorem dX5_readClause_4 : decode cX5_readClause 4 = .ok (.ifCond .eq 8, 3) := by decide +kernel
theorem dX5_readClause_7 : decode cX5_readClause 7 = .ok (.bipush 12, 2) := by decide +kernel
theorem dX5_readClause_9 : decode cX5_readClause 9 = .ok (.goto 5, 3) := by decide +kernel
theorem dX5_readClause_12 : decode cX5_readClause 12 = .ok (.bipush 8, 2) := by decide +kernel
theorem dX5_readClause_14 : decode cX5_readClause 14 = .ok (.istore_n 2, 1) := by decide +kernel
theorem dX5_readClause_15 : decode cX5_readClause 15 = .ok (.aload_n 0, 1) := by decide +kernel
theorem dX5_readClause_16 : decode cX5_readClause 16 = .ok (.getfield 17, 3) := by decide +kernel
theorem dX5_readClause_19 : decode cX5_readClause 19 = .ok (.aload_n 0, 1) := by decide +kernel
theorem dX5_readClause_20 : decode cX5_readClause 20 = .ok (.getfield 27, 3) := by decide +kernel
theorem dX5_readClause_23 : decode cX5_readClause 23 = .ok (.iaload, 1) := by decide +kernel
theorem dX5_readClause_24 : decode cX5_readClause 24 = .ok (.iload_n 2, 1) := by decide +kernel
theorem dX5_readClause_25 : decode cX5_readClause 25 = .ok (.if_icmp .lt 18, 3) := by decide +kernel
theorem dX5_readClause_28 : decode cX5_readClause 28 = .ok (.aload_n 0, 1) := by decide +kernel
theorem dX5_readClause_29 : decode cX5_readClause 29 = .ok (.getfield 17, 3) := by decide +kernel
theorem dX5_readClause_32 : decode cX5_readClause 32 = .ok (.aload_n 0, 1) := by decide +kernel
theorem dX5_readClause_33 : decode cX5_readClause 33 = .ok (.getfield 27, 3) := by decide +kernel
theorem dX5_readClause_36 : decode cX5_readClause 36 = .ok (.iaload, 1) := by decide +kernel
theorem dX5_readClause_37 : decode cX5_readClause 37 = .ok (.iload_n 2, 1) := by decide +kernel
theorem dX5_readClause_38 : decode cX5_readClause 38 = .ok (.iconst 4, 1) := by decide +kernel
theorem dX5_readClause_39 : decode cX5_readClause 39 = .ok (.iadd, 1) := by decide +kernel
theorem dX5_readClause_40 : decode cX5_readClause 40 = .ok (.if_icmp .lt 5, 3) := by decide +kernel
theorem dX5_readClause_43 : decode cX5_readClause 43 = .ok (.iconst 0, 1) := by decide +kernel
theorem dX5_readClause_44 : decode cX5_readClause 44 = .ok (.ireturn, 1) := by decide +kernel
theorem dX5_readClause_45 : decode cX5_readClause 45 = .ok (.aload_n 0, 1) := by decide +kernel
theorem dX5_readClause_46 : decode cX5_readClause 46 = .ok (.getfield 37, 3) := by decide +kernel
theorem dX5_readClause_49 : decode cX5_readClause 49 = .ok (.iload_n 1, 1) := by decide +kernel
theorem dX5_readClause_50 : decode cX5_readClause 50 = .ok (.aload_n 0, 1) := by decide +kernel
theorem dX5_readClause_51 : decode cX5_readClause 51 = .ok (.getfield 17, 3) := by decide +kernel
theorem dX5_readClause_54 : decode cX5_readClause 54 = .ok (.aload_n 0, 1) := by decide +kernel
theorem dX5_readClause_55 : decode cX5_readClause 55 = .ok (.getfield 27, 3) := by decide +kernel
theorem dX5_readClause_58 : decode cX5_readClause 58 = .ok (.iaload, 1) := by decide +kernel
theorem dX5_readClause_59 : decode cX5_readClause 59 = .ok (.iload_n 2, 1) := by decide +kernel
theorem dX5_readClause_60 : decode cX5_readClause 60 = .ok (.isub, 1) := by decide +kernel
theorem dX5_readClause_61 : decode cX5_readClause 61 = .ok (.iastore, 1) := by decide +kernel
theorem dX5_readClause_62 : decode cX5_readClause 62 = .ok (.aload_n 0, 1) := by decide +kernel
theorem dX5_readClause_63 : decode cX5_readClause 63 = .ok (.getfield 40, 3) := by decide +kernel
theorem dX5_readClause_66 : decode cX5_readClause 66 = .ok (.iload_n 1, 1) := by decide +kernel
theorem dX5_readClause_67 : decode cX5_readClause 67 = .ok (.iconst 1, 1) := by decide +kernel
theorem dX5_readClause_68 : decode cX5_readClause 68 = .ok (.iastore, 1) := by decide +kernel
theorem dX5_readClause_69 : decode cX5_readClause 69 = .ok (.aload_n 0, 1) := by decide +kernel
theorem dX5_readClause_70 : decode cX5_readClause 70 = .ok (.invokevirtual 78, 3) := by decide +kernel
theorem dX5_readClause_73 : decode cX5_readClause 73 = .ok (.aload_n 0, 1) := by decide +kernel
theorem dX5_readClause_74 : decode cX5_readClause 74 = .ok (.iload_n 1, 1) := by decide +kernel
theorem dX5_readClause_75 : decode cX5_readClause 75 = .ok (.invokevirtual 122, 3) := by decide +kernel
theorem dX5_readClause_78 : decode cX5_readClause 78 = .ok (.ifCond .ne 5, 3) := by decide +kernel
theorem dX5_readClause_81 : decode cX5_readClause 81 = .ok (.iconst 0, 1) := by decide +kernel
theorem dX5_readClause_82 : decode cX5_readClause 82 = .ok (.ireturn, 1) := by decide +kernel
theorem dX5_readClause_83 : decode cX5_readClause 83 = .ok (.aload_n 0, 1) := by decide +kernel
theorem dX5_readClause_84 : decode cX5_readClause 84 = .ok (.getfield 33, 3) := by decide +kernel
theorem dX5_readClause_87 : decode cX5_readClause 87 = .ok (.ifCond .eq 82, 3) := by decide +kernel
theorem dX5_readClause_90 : decode cX5_readClause 90 = .ok (.aload_n 0, 1) := by decide +kernel
theorem dX5_readClause_91 : decode cX5_readClause 91 = .ok (.getfield 17, 3) := by decide +kernel
theorem dX5_readClause_94 : decode cX5_readClause 94 = .ok (.aload_n 0, 1) := by decide +kernel
theorem dX5_readClause_95 : decode cX5_readClause 95 = .ok (.getfield 27, 3) := by decide +kernel
theorem dX5_readClause_98 : decode cX5_readClause 98 = .ok (.iaload, 1) := by decide +kernel
theorem dX5_readClause_99 : decode cX5_readClause 99 = .ok (.iconst 4, 1) := by decide +kernel
theorem dX5_readClause_100 : decode cX5_readClause 100 = .ok (.if_icmp .ne 69, 3) := by decide +kernel
theorem dX5_readClause_103 : decode cX5_readClause 103 = .ok (.aload_n 0, 1) := by decide +kernel
theorem dX5_readClause_104 : decode cX5_readClause 104 = .ok (.invokevirtual 78, 3) := by decide +kernel
theorem dX5_readClause_107 : decode cX5_readClause 107 = .ok (.aload_n 0, 1) := by decide +kernel
theorem dX5_readClause_108 : decode cX5_readClause 108 = .ok (.getfield 17, 3) := by decide +kernel
theorem dX5_readClause_111 : decode cX5_readClause 111 = .ok (.aload_n 0, 1) := by decide +kernel
theorem dX5_readClause_112 : decode cX5_readClause 112 = .ok (.getfield 27, 3) := by decide +kernel
theorem dX5_readClause_115 : decode cX5_readClause 115 = .ok (.iaload, 1) := by decide +kernel
theorem dX5_readClause_116 : decode cX5_readClause 116 = .ok (.bipush 91, 2) := by decide +kernel
theorem dX5_readClause_118 : decode cX5_readClause 118 = .ok (.if_icmp .ne 30, 3) := by decide +kernel
theorem dX5_readClause_121 : decode cX5_readClause 121 = .ok (.aload_n 0, 1) := by decide +kernel
theorem dX5_readClause_122 : decode cX5_readClause 122 = .ok (.getfield 20, 3) := by decide +kernel
theorem dX5_readClause_125 : decode cX5_readClause 125 = .ok (.aload_n 0, 1) := by decide +kernel
theorem dX5_readClause_126 : decode cX5_readClause 126 = .ok (.getfield 27, 3) := by decide +kernel
theorem dX5_readClause_129 : decode cX5_readClause 129 = .ok (.iaload, 1) := by decide +kernel
theorem dX5_readClause_130 : decode cX5_readClause 130 = .ok (.iconst 1, 1) := by decide +kernel
theorem dX5_readClause_131 : decode cX5_readClause 131 = .ok (.if_icmp .lt 17, 3) := by decide +kernel
theorem dX5_readClause_134 : decode cX5_readClause 134 = .ok (.aload_n 0, 1) := by decide +kernel
theorem dX5_readClause_135 : decode cX5_readClause 135 = .ok (.getfield 20, 3) := by decide +kernel
theorem dX5_readClause_138 : decode cX5_readClause 138 = .ok (.aload_n 0, 1) := by decide +kernel
theorem dX5_readClause_139 : decode cX5_readClause 139 = .ok (.getfield 27, 3) := by decide +kernel
theorem dX5_readClause_142 : decode cX5_readClause 142 = .ok (.iaload, 1) := by decide +kernel
theorem dX5_readClause_143 : decode cX5_readClause 143 = .ok (.bipush 20, 2) := by decide +kernel
theorem dX5_readClause_145 : decode cX5_readClause 145 = .ok (.if_icmp .le 5, 3) := by decide +kernel
theorem dX5_readClause_148 : decode cX5_readClause 148 = .ok (.iconst 0, 1) := by decide +kernel
theorem dX5_readClause_149 : decode cX5_readClause 149 = .ok (.ireturn, 1) := by decide +kernel
theorem dX5_readClause_150 : decode cX5_readClause 150 = .ok (.aload_n 0, 1) := by decide +kernel
theorem dX5_readClause_151 : decode cX5_readClause 151 = .ok (.getfield 40, 3) := by decide +kernel
theorem dX5_readClause_154 : decode cX5_readClause 154 = .ok (.iload_n 1, 1) := by decide +kernel
theorem dX5_readClause_155 : decode cX5_readClause 155 = .ok (.aload_n 0, 1) := by decide +kernel
theorem dX5_readClause_156 : decode cX5_readClause 156 = .ok (.getfield 20, 3) := by decide +kernel
theorem dX5_readClause_159 : decode cX5_readClause 159 = .ok (.aload_n 0, 1) := by decide +kernel
theorem dX5_readClause_160 : decode cX5_readClause 160 = .ok (.getfield 27, 3) := by decide +kernel
theorem dX5_readClause_163 : decode cX5_readClause 163 = .ok (.iaload, 1) := by decide +kernel
theorem dX5_readClause_164 : decode cX5_readClause 164 = .ok (.iastore, 1) := by decide +kernel
theorem dX5_readClause_165 : decode cX5_readClause 165 = .ok (.aload_n 0, 1) := by decide +kernel
theorem dX5_readClause_166 : decode cX5_readClause 166 = .ok (.invokevirtual 78, 3) := by decide +kernel
theorem dX5_readClause_169 : decode cX5_readClause 169 = .ok (.aload_n 0, 1) := by decide +kernel
theorem dX5_readClause_170 : decode cX5_readClause 170 = .ok (.getfield 17, 3) := by decide +kernel
theorem dX5_readClause_173 : decode cX5_readClause 173 = .ok (.aload_n 0, 1) := by decide +kernel
theorem dX5_readClause_174 : decode cX5_readClause 174 = .ok (.getfield 27, 3) := by decide +kernel
theorem dX5_readClause_177 : decode cX5_readClause 177 = .ok (.iaload, 1) := by decide +kernel
theorem dX5_readClause_178 : decode cX5_readClause 178 = .ok (.ifCond .eq 5, 3) := by decide +kernel
theorem dX5_readClause_181 : decode cX5_readClause 181 = .ok (.iconst 1, 1) := by decide +kernel
theorem dX5_readClause_182 : decode cX5_readClause 182 = .ok (.ireturn, 1) := by decide +kernel
theorem dX5_readClause_183 : decode cX5_readClause 183 = .ok (.aload_n 0, 1) := by decide +kernel
theorem dX5_readClause_184 : decode cX5_readClause 184 = .ok (.invokevirtual 78, 3) := by decide +kernel
theorem dX5_readClause_187 : decode cX5_readClause 187 = .ok (.aload_n 0, 1) := by decide +kernel
theorem dX5_readClause_188 : decode cX5_readClause 188 = .ok (.getfield 43, 3) := by decide +kernel
theorem dX5_readClause_191 : decode cX5_readClause 191 = .ok (.iload_n 1, 1) := by decide +kernel
theorem dX5_readClause_192 : decode cX5_readClause 192 = .ok (.iconst 4, 1) := by decide +kernel
theorem dX5_readClause_193 : decode cX5_readClause 193 = .ok (.imul, 1) := by decide +kernel
theorem dX5_readClause_194 : decode cX5_readClause 194 = .ok (.iconst 3, 1) := by decide +kernel
theorem dX5_readClause_195 : decode cX5_readClause 195 = .ok (.iadd, 1) := by decide +kernel
theorem dX5_readClause_196 : decode cX5_readClause 196 = .ok (.aload_n 0, 1) := by decide +kernel
theorem dX5_readClause_197 : decode cX5_readClause 197 = .ok (.getfield 52, 3) := by decide +kernel
theorem dX5_readClause_200 : decode cX5_readClause 200 = .ok (.iastore, 1) := by decide +kernel
theorem dX5_readClause_201 : decode cX5_readClause 201 = .ok (.aload_n 0, 1) := by decide +kernel
theorem dX5_readClause_202 : decode cX5_readClause 202 = .ok (.iconst 0, 1) := by decide +kernel
theorem dX5_readClause_203 : decode cX5_readClause 203 = .ok (.iconst 0, 1) := by decide +kernel
theorem dX5_readClause_204 : decode cX5_readClause 204 = .ok (.invokevirtual 125, 3) := by decide +kernel
theorem dX5_readClause_207 : decode cX5_readClause 207 = .ok (.ifCond .eq 16, 3) := by decide +kernel
theorem dX5_readClause_210 : decode cX5_readClause 210 = .ok (.aload_n 0, 1) := by decide +kernel
theorem dX5_readClause_211 : decode cX5_readClause 211 = .ok (.iconst 0, 1) := by decide +kernel
theorem dX5_readClause_212 : decode cX5_readClause 212 = .ok (.iconst 0, 1) := by decide +kernel
theorem dX5_readClause_213 : decode cX5_readClause 213 = .ok (.invokevirtual 131, 3) := by decide +kernel
theorem dX5_readClause_216 : decode cX5_readClause 216 = .ok (.ifCond .eq 7, 3) := by decide +kernel
theorem dX5_readClause_219 : decode cX5_readClause 219 = .ok (.iconst 1, 1) := by decide +kernel
theorem dX5_readClause_220 : decode cX5_readClause 220 = .ok (.goto 4, 3) := by decide +kernel
theorem dX5_readClause_223 : decode cX5_readClause 223 = .ok (.iconst 0, 1) := by decide +kernel
theorem dX5_readClause_224 : decode cX5_readClause 224 = .ok (.ireturn, 1) := by decide +kernel
theorem dX5_readSums_0 : decode cX5_readSums 0 = .ok (.aload_n 0, 1) := by decide +kernel
theorem dX5_readSums_1 : decode cX5_readSums 1 = .ok (.aload_n 0, 1) := by decide +kernel
theorem dX5_readSums_2 : decode cX5_readSums 2 = .ok (.getfield 37, 3) := by decide +kernel
theorem dX5_readSums_5 : decode cX5_readSums 5 = .ok (.iload_n 1, 1) := by decide +kernel
theorem dX5_readSums_6 : decode cX5_readSums 6 = .ok (.iaload, 1) := by decide +kernel
theorem dX5_readSums_7 : decode cX5_readSums 7 = .ok (.invokevirtual 134, 3) := by decide +kernel
theorem dX5_readSums_10 : decode cX5_readSums 10 = .ok (.istore_n 2, 1) := by decide +kernel
theorem dX5_readSums_11 : decode cX5_readSums 11 = .ok (.iconst 0, 1) := by decide +kernel
theorem dX5_readSums_12 : decode cX5_readSums 12 = .ok (.istore_n 3, 1) := by decide +kernel
theorem dX5_readSums_13 : decode cX5_readSums 13 = .ok (.iload_n 3, 1) := by decide +kernel
theorem dX5_readSums_14 : decode cX5_readSums 14 = .ok (.iload_n 2, 1) := by decide +kernel
theorem dX5_readSums_15 : decode cX5_readSums 15 = .ok (.if_icmp .ge 75, 3) := by decide +kernel
theorem dX5_readSums_18 : decode cX5_readSums 18 = .ok (.iload_n 3, 1) := by decide +kernel
theorem dX5_readSums_19 : decode cX5_readSums 19 = .ok (.ifCond .le 31, 3) := by decide +kernel
theorem dX5_readSums_22 : decode cX5_readSums 22 = .ok (.aload_n 0, 1) := by decide +kernel
theorem dX5_readSums_23 : decode cX5_readSums 23 = .ok (.getfield 17, 3) := by decide +kernel
theorem dX5_readSums_26 : decode cX5_readSums 26 = .ok (.aload_n 0, 1) := by decide +kernel
theorem dX5_readSums_27 : decode cX5_readSums 27 = .ok (.getfield 27, 3) := by decide +kernel
theorem dX5_readSums_30 : decode cX5_readSums 30 = .ok (.iaload, 1) := by decide +kernel
theorem dX5_readSums_31 : decode cX5_readSums 31 = .ok (.aload_n 0, 1) := by decide +kernel
theorem dX5_readSums_32 : decode cX5_readSums 32 = .ok (.getfield 37, 3) := by decide +kernel
theorem dX5_readSums_35 : decode cX5_readSums 35 = .ok (.iload_n 1, 1) := by decide +kernel
theorem dX5_readSums_36 : decode cX5_readSums 36 = .ok (.iaload, 1) := by decide +kernel
theorem dX5_readSums_37 : decode cX5_readSums 37 = .ok (.iload_n 3, 1) := by decide +kernel
theorem dX5_readSums_38 : decode cX5_readSums 38 = .ok (.invokestatic 138, 3) := by decide +kernel
theorem dX5_readSums_41 : decode cX5_readSums 41 = .ok (.if_icmp .eq 5, 3) := by decide +kernel
theorem dX5_readSums_44 : decode cX5_readSums 44 = .ok (.iconst 0, 1) := by decide +kernel
theorem dX5_readSums_45 : decode cX5_readSums 45 = .ok (.ireturn, 1) := by decide +kernel
theorem dX5_readSums_46 : decode cX5_readSums 46 = .ok (.aload_n 0, 1) := by decide +kernel
theorem dX5_readSums_47 : decode cX5_readSums 47 = .ok (.invokevirtual 78, 3) := by decide +kernel
theorem dX5_readSums_50 : decode cX5_readSums 50 = .ok (.aload_n 0, 1) := by decide +kernel
theorem dX5_readSums_51 : decode cX5_readSums 51 = .ok (.getfield 43, 3) := by decide +kernel
theorem dX5_readSums_54 : decode cX5_readSums 54 = .ok (.iload_n 1, 1) := by decide +kernel
theorem dX5_readSums_55 : decode cX5_readSums 55 = .ok (.iconst 4, 1) := by decide +kernel
theorem dX5_readSums_56 : decode cX5_readSums 56 = .ok (.imul, 1) := by decide +kernel
theorem dX5_readSums_57 : decode cX5_readSums 57 = .ok (.iload_n 3, 1) := by decide +kernel
theorem dX5_readSums_58 : decode cX5_readSums 58 = .ok (.iadd, 1) := by decide +kernel
theorem dX5_readSums_59 : decode cX5_readSums 59 = .ok (.aload_n 0, 1) := by decide +kernel
theorem dX5_readSums_60 : decode cX5_readSums 60 = .ok (.getfield 52, 3) := by decide +kernel
theorem dX5_readSums_63 : decode cX5_readSums 63 = .ok (.iastore, 1) := by decide +kernel
theorem dX5_readSums_64 : decode cX5_readSums 64 = .ok (.aload_n 0, 1) := by decide +kernel
theorem dX5_readSums_65 : decode cX5_readSums 65 = .ok (.iconst 0, 1) := by decide +kernel
theorem dX5_readSums_66 : decode cX5_readSums 66 = .ok (.iconst 0, 1) := by decide +kernel
theorem dX5_readSums_67 : decode cX5_readSums 67 = .ok (.invokevirtual 141, 3) := by decide +kernel
theorem dX5_readSums_70 : decode cX5_readSums 70 = .ok (.ifCond .eq 12, 3) := by decide +kernel
theorem dX5_readSums_73 : decode cX5_readSums 73 = .ok (.aload_n 0, 1) := by decide +kernel
theorem dX5_readSums_74 : decode cX5_readSums 74 = .ok (.iconst 0, 1) := by decide +kernel
theorem dX5_readSums_75 : decode cX5_readSums 75 = .ok (.iconst 0, 1) := by decide +kernel
theorem dX5_readSums_76 : decode cX5_readSums 76 = .ok (.invokevirtual 131, 3) := by decide +kernel
theorem dX5_readSums_79 : decode cX5_readSums 79 = .ok (.ifCond .ne 5, 3) := by decide +kernel
theorem dX5_readSums_82 : decode cX5_readSums 82 = .ok (.iconst 0, 1) := by decide +kernel
theorem dX5_readSums_83 : decode cX5_readSums 83 = .ok (.ireturn, 1) := by decide +kernel
theorem dX5_readSums_84 : decode cX5_readSums 84 = .ok (.iinc 3 1, 3) := by decide +kernel
theorem dX5_readSums_87 : decode cX5_readSums 87 = .ok (.goto (-74), 3) := by decide +kernel
theorem dX5_readSums_90 : decode cX5_readSums 90 = .ok (.iconst 1, 1) := by decide +kernel
theorem dX5_readSums_91 : decode cX5_readSums 91 = .ok (.ireturn, 1) := by decide +kernel
theorem dX5_sumsOf_0 : decode cX5_sumsOf 0 = .ok (.aload_n 0, 1) := by decide +kernel
theorem dX5_sumsOf_1 : decode cX5_sumsOf 1 = .ok (.getfield 33, 3) := by decide +kernel
theorem dX5_sumsOf_4 : decode cX5_sumsOf 4 = .ok (.ifCond .ne 14, 3) := by decide +kernel
theorem dX5_sumsOf_7 : decode cX5_sumsOf 7 = .ok (.iload_n 1, 1) := by decide +kernel
theorem dX5_sumsOf_8 : decode cX5_sumsOf 8 = .ok (.iconst 3, 1) := by decide +kernel
theorem dX5_sumsOf_9 : decode cX5_sumsOf 9 = .ok (.if_icmp .ne 7, 3) := by decide +kernel
theorem dX5_sumsOf_12 : decode cX5_sumsOf 12 = .ok (.iconst 0, 1) := by decide +kernel
theorem dX5_sumsOf_13 : decode cX5_sumsOf 13 = .ok (.goto 4, 3) := by decide +kernel
theorem dX5_sumsOf_16 : decode cX5_sumsOf 16 = .ok (.iconst 1, 1) := by decide +kernel
theorem dX5_sumsOf_17 : decode cX5_sumsOf 17 = .ok (.ireturn, 1) := by decide +kernel
theorem dX5_sumsOf_18 : decode cX5_sumsOf 18 = .ok (.iload_n 1, 1) := by decide +kernel
theorem dX5_sumsOf_19 : decode cX5_sumsOf 19 = .ok (.lookupswitch 29 #[(0, 25), (3, 27)], 25) := by decide +kernel
theorem dX5_sumsOf_44 : decode cX5_sumsOf 44 = .ok (.iconst 3, 1) := by decide +kernel
theorem dX5_sumsOf_45 : decode cX5_sumsOf 45 = .ok (.ireturn, 1) := by decide +kernel
theorem dX5_sumsOf_46 : decode cX5_sumsOf 46 = .ok (.iconst 0, 1) := by decide +kernel
theorem dX5_sumsOf_47 : decode cX5_sumsOf 47 = .ok (.ireturn, 1) := by decide +kernel
theorem dX5_sumsOf_48 : decode cX5_sumsOf 48 = .ok (.iconst 2, 1) := by decide +kernel
theorem dX5_sumsOf_49 : decode cX5_sumsOf 49 = .ok (.ireturn, 1) := by decide +kernel
theorem dX5_wordAhead_0 : decode cX5_wordAhead 0 = .ok (.iload_n 0, 1) := by decide +kernel
theorem dX5_wordAhead_1 : decode cX5_wordAhead 1 = .ok (.iconst 2, 1) := by decide +kernel
theorem dX5_wordAhead_2 : decode cX5_wordAhead 2 = .ok (.if_icmp .ne 6, 3) := by decide +kernel
theorem dX5_wordAhead_5 : decode cX5_wordAhead 5 = .ok (.bipush 7, 2) := by decide +kernel
theorem dX5_wordAhead_7 : decode cX5_wordAhead 7 = .ok (.ireturn, 1) := by decide +kernel
theorem dX5_wordAhead_8 : decode cX5_wordAhead 8 = .ok (.iload_n 0, 1) := by decide +kernel
theorem dX5_wordAhead_9 : decode cX5_wordAhead 9 = .ok (.ifCond .ne 12, 3) := by decide +kernel
theorem dX5_wordAhead_12 : decode cX5_wordAhead 12 = .ok (.iload_n 1, 1) := by decide +kernel
theorem dX5_wordAhead_13 : decode cX5_wordAhead 13 = .ok (.iconst 1, 1) := by decide +kernel
theorem dX5_wordAhead_14 : decode cX5_wordAhead 14 = .ok (.if_icmp .ne 7, 3) := by decide +kernel
theorem dX5_wordAhead_17 : decode cX5_wordAhead 17 = .ok (.iconst 5, 1) := by decide +kernel
theorem dX5_wordAhead_18 : decode cX5_wordAhead 18 = .ok (.goto 5, 3) := by decide +kernel
theorem dX5_wordAhead_21 : decode cX5_wordAhead 21 = .ok (.bipush 6, 2) := by decide +kernel
theorem dX5_wordAhead_23 : decode cX5_wordAhead 23 = .ok (.ireturn, 1) := by decide +kernel
theorem dX5_readTest_0 : decode cX5_readTest 0 = .ok (.iconst (-1), 1) := by decide +kernel
theorem dX5_readTest_1 : decode cX5_readTest 1 = .ok (.istore_n 3, 1) := by decide +kernel
theorem dX5_readTest_2 : decode cX5_readTest 2 = .ok (.iconst 0, 1) := by decide +kernel
theorem dX5_readTest_3 : decode cX5_readTest 3 = .ok (.istore 4, 2) := by decide +kernel
theorem dX5_readTest_5 : decode cX5_readTest 5 = .ok (.iload 4, 2) := by decide +kernel
theorem dX5_readTest_7 : decode cX5_readTest 7 = .ok (.sipush 400, 3) := by decide +kernel
theorem dX5_readTest_10 : decode cX5_readTest 10 = .ok (.if_icmp .gt 104, 3) := by decide +kernel
theorem dX5_readTest_13 : decode cX5_readTest 13 = .ok (.iload_n 1, 1) := by decide +kernel
theorem dX5_readTest_14 : decode cX5_readTest 14 = .ok (.ifCond .ne 12, 3) := by decide +kernel
theorem dX5_readTest_17 : decode cX5_readTest 17 = .ok (.aload_n 0, 1) := by decide +kernel
theorem dX5_readTest_18 : decode cX5_readTest 18 = .ok (.iconst 1, 1) := by decide +kernel
theorem dX5_readTest_19 : decode cX5_readTest 19 = .ok (.iload_n 2, 1) := by decide +kernel
theorem dX5_readTest_20 : decode cX5_readTest 20 = .ok (.invokevirtual 125, 3) := by decide +kernel
theorem dX5_readTest_23 : decode cX5_readTest 23 = .ok (.goto 8, 3) := by decide +kernel
theorem dX5_readTest_26 : decode cX5_readTest 26 = .ok (.aload_n 0, 1) := by decide +kernel
theorem dX5_readTest_27 : decode cX5_readTest 27 = .ok (.iload_n 2, 1) := by decide +kernel
theorem dX5_readTest_28 : decode cX5_readTest 28 = .ok (.invokevirtual 144, 3) := by decide +kernel
theorem dX5_readTest_31 : decode cX5_readTest 31 = .ok (.istore 5, 2) := by decide +kernel
theorem dX5_readTest_33 : decode cX5_readTest 33 = .ok (.iload 5, 2) := by decide +kernel
theorem dX5_readTest_35 : decode cX5_readTest 35 = .ok (.ifCond .ne 5, 3) := by decide +kernel
theorem dX5_readTest_38 : decode cX5_readTest 38 = .ok (.iconst 0, 1) := by decide +kernel
theorem dX5_readTest_39 : decode cX5_readTest 39 = .ok (.ireturn, 1) := by decide +kernel
theorem dX5_readTest_40 : decode cX5_readTest 40 = .ok (.iload_n 3, 1) := by decide +kernel
theorem dX5_readTest_41 : decode cX5_readTest 41 = .ok (.iconst (-1), 1) := by decide +kernel
theorem dX5_readTest_42 : decode cX5_readTest 42 = .ok (.if_icmp .eq 13, 3) := by decide +kernel
theorem dX5_readTest_45 : decode cX5_readTest 45 = .ok (.aload_n 0, 1) := by decide +kernel
theorem dX5_readTest_46 : decode cX5_readTest 46 = .ok (.getfield 49, 3) := by decide +kernel
theorem dX5_readTest_49 : decode cX5_readTest 49 = .ok (.iload_n 3, 1) := by decide +kernel
theorem dX5_readTest_50 : decode cX5_readTest 50 = .ok (.aload_n 0, 1) := by decide +kernel
theorem dX5_readTest_51 : decode cX5_readTest 51 = .ok (.getfield 52, 3) := by decide +kernel
theorem dX5_readTest_54 : decode cX5_readTest 54 = .ok (.iastore, 1) := by decide +kernel
theorem dX5_readTest_55 : decode cX5_readTest 55 = .ok (.aload_n 0, 1) := by decide +kernel
theorem dX5_readTest_56 : decode cX5_readTest 56 = .ok (.getfield 17, 3) := by decide +kernel
theorem dX5_readTest_59 : decode cX5_readTest 59 = .ok (.aload_n 0, 1) := by decide +kernel
theorem dX5_readTest_60 : decode cX5_readTest 60 = .ok (.getfield 27, 3) := by decide +kernel
theorem dX5_readTest_63 : decode cX5_readTest 63 = .ok (.iaload, 1) := by decide +kernel
theorem dX5_readTest_64 : decode cX5_readTest 64 = .ok (.iload_n 1, 1) := by decide +kernel
theorem dX5_readTest_65 : decode cX5_readTest 65 = .ok (.ifCond .ne 7, 3) := by decide +kernel
theorem dX5_readTest_68 : decode cX5_readTest 68 = .ok (.iconst 1, 1) := by decide +kernel
theorem dX5_readTest_69 : decode cX5_readTest 69 = .ok (.goto 4, 3) := by decide +kernel
theorem dX5_readTest_72 : decode cX5_readTest 72 = .ok (.iconst 2, 1) := by decide +kernel
theorem dX5_readTest_73 : decode cX5_readTest 73 = .ok (.if_icmp .eq 5, 3) := by decide +kernel
theorem dX5_readTest_76 : decode cX5_readTest 76 = .ok (.iconst 1, 1) := by decide +kernel
theorem dX5_readTest_77 : decode cX5_readTest 77 = .ok (.ireturn, 1) := by decide +kernel
theorem dX5_readTest_78 : decode cX5_readTest 78 = .ok (.aload_n 0, 1) := by decide +kernel
theorem dX5_readTest_79 : decode cX5_readTest 79 = .ok (.getfield 52, 3) := by decide +kernel
theorem dX5_readTest_82 : decode cX5_readTest 82 = .ok (.istore_n 3, 1) := by decide +kernel
theorem dX5_readTest_83 : decode cX5_readTest 83 = .ok (.aload_n 0, 1) := by decide +kernel
theorem dX5_readTest_84 : decode cX5_readTest 84 = .ok (.iload_n 1, 1) := by decide +kernel
theorem dX5_readTest_85 : decode cX5_readTest 85 = .ok (.ifCond .ne 8, 3) := by decide +kernel
theorem dX5_readTest_88 : decode cX5_readTest 88 = .ok (.bipush 13, 2) := by decide +kernel
theorem dX5_readTest_90 : decode cX5_readTest 90 = .ok (.goto 5, 3) := by decide +kernel
theorem dX5_readTest_93 : decode cX5_readTest 93 = .ok (.bipush 12, 2) := by decide +kernel
theorem dX5_readTest_95 : decode cX5_readTest 95 = .ok (.iconst 0, 1) := by decide +kernel
theorem dX5_readTest_96 : decode cX5_readTest 96 = .ok (.invokevirtual 131, 3) := by decide +kernel
theorem dX5_readTest_99 : decode cX5_readTest 99 = .ok (.ifCond .ne 5, 3) := by decide +kernel
theorem dX5_readTest_102 : decode cX5_readTest 102 = .ok (.iconst 0, 1) := by decide +kernel
theorem dX5_readTest_103 : decode cX5_readTest 103 = .ok (.ireturn, 1) := by decide +kernel
theorem dX5_readTest_104 : decode cX5_readTest 104 = .ok (.aload_n 0, 1) := by decide +kernel
theorem dX5_readTest_105 : decode cX5_readTest 105 = .ok (.invokevirtual 78, 3) := by decide +kernel
theorem dX5_readTest_108 : decode cX5_readTest 108 = .ok (.iinc 4 1, 3) := by decide +kernel
theorem dX5_readTest_111 : decode cX5_readTest 111 = .ok (.goto (-106), 3) := by decide +kernel
theorem dX5_readTest_114 : decode cX5_readTest 114 = .ok (.iconst 0, 1) := by decide +kernel
theorem dX5_readTest_115 : decode cX5_readTest 115 = .ok (.ireturn, 1) := by decide +kernel
theorem dX5_readPlain_0 : decode cX5_readPlain 0 = .ok (.iconst 0, 1) := by decide +kernel
theorem dX5_readPlain_1 : decode cX5_readPlain 1 = .ok (.istore_n 2, 1) := by decide +kernel
theorem dX5_readPlain_2 : decode cX5_readPlain 2 = .ok (.iconst 0, 1) := by decide +kernel
theorem dX5_readPlain_3 : decode cX5_readPlain 3 = .ok (.istore_n 3, 1) := by decide +kernel
theorem dX5_readPlain_4 : decode cX5_readPlain 4 = .ok (.iload_n 3, 1) := by decide +kernel
theorem dX5_readPlain_5 : decode cX5_readPlain 5 = .ok (.sipush 400, 3) := by decide +kernel
theorem dX5_readPlain_8 : decode cX5_readPlain 8 = .ok (.if_icmp .gt 36, 3) := by decide +kernel
theorem dX5_readPlain_11 : decode cX5_readPlain 11 = .ok (.aload_n 0, 1) := by decide +kernel
theorem dX5_readPlain_12 : decode cX5_readPlain 12 = .ok (.getfield 17, 3) := by decide +kernel
theorem dX5_readPlain_15 : decode cX5_readPlain 15 = .ok (.aload_n 0, 1) := by decide +kernel
theorem dX5_readPlain_16 : decode cX5_readPlain 16 = .ok (.getfield 27, 3) := by decide +kernel
theorem dX5_readPlain_19 : decode cX5_readPlain 19 = .ok (.iaload, 1) := by decide +kernel
theorem dX5_readPlain_20 : decode cX5_readPlain 20 = .ok (.iconst 3, 1) := by decide +kernel
theorem dX5_readPlain_21 : decode cX5_readPlain 21 = .ok (.if_icmp .ne 23, 3) := by decide +kernel
theorem dX5_readPlain_24 : decode cX5_readPlain 24 = .ok (.iload_n 2, 1) := by decide +kernel
theorem dX5_readPlain_25 : decode cX5_readPlain 25 = .ok (.ifCond .ne 7, 3) := by decide +kernel
theorem dX5_readPlain_28 : decode cX5_readPlain 28 = .ok (.iconst 1, 1) := by decide +kernel
theorem dX5_readPlain_29 : decode cX5_readPlain 29 = .ok (.goto 4, 3) := by decide +kernel
theorem dX5_readPlain_32 : decode cX5_readPlain 32 = .ok (.iconst 0, 1) := by decide +kernel
theorem dX5_readPlain_33 : decode cX5_readPlain 33 = .ok (.istore_n 2, 1) := by decide +kernel
theorem dX5_readPlain_34 : decode cX5_readPlain 34 = .ok (.aload_n 0, 1) := by decide +kernel
theorem dX5_readPlain_35 : decode cX5_readPlain 35 = .ok (.invokevirtual 78, 3) := by decide +kernel
theorem dX5_readPlain_38 : decode cX5_readPlain 38 = .ok (.iinc 3 1, 3) := by decide +kernel
theorem dX5_readPlain_41 : decode cX5_readPlain 41 = .ok (.goto (-37), 3) := by decide +kernel
theorem dX5_readPlain_44 : decode cX5_readPlain 44 = .ok (.aload_n 0, 1) := by decide +kernel
theorem dX5_readPlain_45 : decode cX5_readPlain 45 = .ok (.bipush 40, 2) := by decide +kernel
theorem dX5_readPlain_47 : decode cX5_readPlain 47 = .ok (.invokevirtual 74, 3) := by decide +kernel
theorem dX5_readPlain_50 : decode cX5_readPlain 50 = .ok (.ifCond .eq 44, 3) := by decide +kernel
theorem dX5_readPlain_53 : decode cX5_readPlain 53 = .ok (.iload_n 1, 1) := by decide +kernel
theorem dX5_readPlain_54 : decode cX5_readPlain 54 = .ok (.bipush 8, 2) := by decide +kernel
theorem dX5_readPlain_56 : decode cX5_readPlain 56 = .ok (.if_icmp .lt 5, 3) := by decide +kernel
theorem dX5_readPlain_59 : decode cX5_readPlain 59 = .ok (.iconst 0, 1) := by decide +kernel
theorem dX5_readPlain_60 : decode cX5_readPlain 60 = .ok (.ireturn, 1) := by decide +kernel
theorem dX5_readPlain_61 : decode cX5_readPlain 61 = .ok (.aload_n 0, 1) := by decide +kernel
theorem dX5_readPlain_62 : decode cX5_readPlain 62 = .ok (.invokevirtual 78, 3) := by decide +kernel
theorem dX5_readPlain_65 : decode cX5_readPlain 65 = .ok (.aload_n 0, 1) := by decide +kernel
theorem dX5_readPlain_66 : decode cX5_readPlain 66 = .ok (.iconst 0, 1) := by decide +kernel
theorem dX5_readPlain_67 : decode cX5_readPlain 67 = .ok (.iload_n 1, 1) := by decide +kernel
theorem dX5_readPlain_68 : decode cX5_readPlain 68 = .ok (.iconst 1, 1) := by decide +kernel
theorem dX5_readPlain_69 : decode cX5_readPlain 69 = .ok (.iadd, 1) := by decide +kernel
theorem dX5_readPlain_70 : decode cX5_readPlain 70 = .ok (.invokevirtual 125, 3) := by decide +kernel
theorem dX5_readPlain_73 : decode cX5_readPlain 73 = .ok (.ifCond .eq 12, 3) := by decide +kernel
theorem dX5_readPlain_76 : decode cX5_readPlain 76 = .ok (.aload_n 0, 1) := by decide +kernel
theorem dX5_readPlain_77 : decode cX5_readPlain 77 = .ok (.bipush 41, 2) := by decide +kernel
theorem dX5_readPlain_79 : decode cX5_readPlain 79 = .ok (.invokevirtual 74, 3) := by decide +kernel
theorem dX5_readPlain_82 : decode cX5_readPlain 82 = .ok (.ifCond .ne 5, 3) := by decide +kernel
theorem dX5_readPlain_85 : decode cX5_readPlain 85 = .ok (.iconst 0, 1) := by decide +kernel
theorem dX5_readPlain_86 : decode cX5_readPlain 86 = .ok (.ireturn, 1) := by decide +kernel
theorem dX5_readPlain_87 : decode cX5_readPlain 87 = .ok (.aload_n 0, 1) := by decide +kernel
theorem dX5_readPlain_88 : decode cX5_readPlain 88 = .ok (.invokevirtual 78, 3) := by decide +kernel
theorem dX5_readPlain_91 : decode cX5_readPlain 91 = .ok (.goto 49, 3) := by decide +kernel
theorem dX5_readPlain_94 : decode cX5_readPlain 94 = .ok (.aload_n 0, 1) := by decide +kernel
theorem dX5_readPlain_95 : decode cX5_readPlain 95 = .ok (.iconst 0, 1) := by decide +kernel
theorem dX5_readPlain_96 : decode cX5_readPlain 96 = .ok (.iload_n 1, 1) := by decide +kernel
theorem dX5_readPlain_97 : decode cX5_readPlain 97 = .ok (.invokevirtual 141, 3) := by decide +kernel
theorem dX5_readPlain_100 : decode cX5_readPlain 100 = .ok (.ifCond .ne 5, 3) := by decide +kernel
theorem dX5_readPlain_103 : decode cX5_readPlain 103 = .ok (.iconst 0, 1) := by decide +kernel
theorem dX5_readPlain_104 : decode cX5_readPlain 104 = .ok (.ireturn, 1) := by decide +kernel
theorem dX5_readPlain_105 : decode cX5_readPlain 105 = .ok (.aload_n 0, 1) := by decide +kernel
theorem dX5_readPlain_106 : decode cX5_readPlain 106 = .ok (.invokevirtual 147, 3) := by decide +kernel
theorem dX5_readPlain_109 : decode cX5_readPlain 109 = .ok (.istore_n 3, 1) := by decide +kernel
theorem dX5_readPlain_110 : decode cX5_readPlain 110 = .ok (.iload_n 3, 1) := by decide +kernel
theorem dX5_readPlain_111 : decode cX5_readPlain 111 = .ok (.ifCond .ne 5, 3) := by decide +kernel
theorem dX5_readPlain_114 : decode cX5_readPlain 114 = .ok (.iconst 0, 1) := by decide +kernel
theorem dX5_readPlain_115 : decode cX5_readPlain 115 = .ok (.ireturn, 1) := by decide +kernel
theorem dX5_readPlain_116 : decode cX5_readPlain 116 = .ok (.aload_n 0, 1) := by decide +kernel
theorem dX5_readPlain_117 : decode cX5_readPlain 117 = .ok (.invokevirtual 78, 3) := by decide +kernel
theorem dX5_readPlain_120 : decode cX5_readPlain 120 = .ok (.aload_n 0, 1) := by decide +kernel
theorem dX5_readPlain_121 : decode cX5_readPlain 121 = .ok (.iconst 0, 1) := by decide +kernel
theorem dX5_readPlain_122 : decode cX5_readPlain 122 = .ok (.iload_n 1, 1) := by decide +kernel
theorem dX5_readPlain_123 : decode cX5_readPlain 123 = .ok (.invokevirtual 141, 3) := by decide +kernel
theorem dX5_readPlain_126 : decode cX5_readPlain 126 = .ok (.ifCond .eq 12, 3) := by decide +kernel
theorem dX5_readPlain_129 : decode cX5_readPlain 129 = .ok (.aload_n 0, 1) := by decide +kernel
theorem dX5_readPlain_130 : decode cX5_readPlain 130 = .ok (.iload_n 3, 1) := by decide +kernel
theorem dX5_readPlain_131 : decode cX5_readPlain 131 = .ok (.iconst 0, 1) := by decide +kernel
theorem dX5_readPlain_132 : decode cX5_readPlain 132 = .ok (.invokevirtual 131, 3) := by decide +kernel
theorem dX5_readPlain_135 : decode cX5_readPlain 135 = .ok (.ifCond .ne 5, 3) := by decide +kernel
theorem dX5_readPlain_138 : decode cX5_readPlain 138 = .ok (.iconst 0, 1) := by decide +kernel
theorem dX5_readPlain_139 : decode cX5_readPlain 139 = .ok (.ireturn, 1) := by decide +kernel
theorem dX5_readPlain_140 : decode cX5_readPlain 140 = .ok (.iload_n 2, 1) := by decide +kernel
theorem dX5_readPlain_141 : decode cX5_readPlain 141 = .ok (.ifCond .eq 13, 3) := by decide +kernel
theorem dX5_readPlain_144 : decode cX5_readPlain 144 = .ok (.aload_n 0, 1) := by decide +kernel
theorem dX5_readPlain_145 : decode cX5_readPlain 145 = .ok (.bipush 11, 2) := by decide +kernel
theorem dX5_readPlain_147 : decode cX5_readPlain 147 = .ok (.iconst 0, 1) := by decide +kernel
theorem dX5_readPlain_148 : decode cX5_readPlain 148 = .ok (.invokevirtual 131, 3) := by decide +kernel
theorem dX5_readPlain_151 : decode cX5_readPlain 151 = .ok (.ifCond .eq 7, 3) := by decide +kernel
theorem dX5_readPlain_154 : decode cX5_readPlain 154 = .ok (.iconst 1, 1) := by decide +kernel
theorem dX5_readPlain_155 : decode cX5_readPlain 155 = .ok (.goto 4, 3) := by decide +kernel
theorem dX5_readPlain_158 : decode cX5_readPlain 158 = .ok (.iconst 0, 1) := by decide +kernel
theorem dX5_readPlain_159 : decode cX5_readPlain 159 = .ok (.ireturn, 1) := by decide +kernel
theorem dX5_comparisonHere_0 : decode cX5_comparisonHere 0 = .ok (.aload_n 0, 1) := by decide +kernel
theorem dX5_comparisonHere_1 : decode cX5_comparisonHere 1 = .ok (.getfield 17, 3) := by decide +kernel
theorem dX5_comparisonHere_4 : decode cX5_comparisonHere 4 = .ok (.aload_n 0, 1) := by decide +kernel
theorem dX5_comparisonHere_5 : decode cX5_comparisonHere 5 = .ok (.getfield 27, 3) := by decide +kernel
theorem dX5_comparisonHere_8 : decode cX5_comparisonHere 8 = .ok (.iaload, 1) := by decide +kernel
theorem dX5_comparisonHere_9 : decode cX5_comparisonHere 9 = .ok (.tableswitch 36 160 162 #[27, 33, 30], 27) := by decide +kernel
theorem dX5_comparisonHere_36 : decode cX5_comparisonHere 36 = .ok (.bipush 8, 2) := by decide +kernel
theorem dX5_comparisonHere_38 : decode cX5_comparisonHere 38 = .ok (.ireturn, 1) := by decide +kernel
theorem dX5_comparisonHere_39 : decode cX5_comparisonHere 39 = .ok (.bipush 9, 2) := by decide +kernel
theorem dX5_comparisonHere_41 : decode cX5_comparisonHere 41 = .ok (.ireturn, 1) := by decide +kernel
theorem dX5_comparisonHere_42 : decode cX5_comparisonHere 42 = .ok (.bipush 10, 2) := by decide +kernel
theorem dX5_comparisonHere_44 : decode cX5_comparisonHere 44 = .ok (.ireturn, 1) := by decide +kernel
theorem dX5_comparisonHere_45 : decode cX5_comparisonHere 45 = .ok (.iconst 0, 1) := by decide +kernel
theorem dX5_comparisonHere_46 : decode cX5_comparisonHere 46 = .ok (.ireturn, 1) := by decide +kernel
theorem dX5_readSum_0 : decode cX5_readSum 0 = .ok (.iconst 0, 1) := by decide +kernel
theorem dX5_readSum_1 : decode cX5_readSum 1 = .ok (.istore_n 3, 1) := by decide +kernel
theorem dX5_readSum_2 : decode cX5_readSum 2 = .ok (.iconst 0, 1) := by decide +kernel
theorem dX5_readSum_3 : decode cX5_readSum 3 = .ok (.istore 4, 2) := by decide +kernel
theorem dX5_readSum_5 : decode cX5_readSum 5 = .ok (.iload 4, 2) := by decide +kernel
theorem dX5_readSum_7 : decode cX5_readSum 7 = .ok (.sipush 400, 3) := by decide +kernel
theorem dX5_readSum_10 : decode cX5_readSum 10 = .ok (.if_icmp .gt 65, 3) := by decide +kernel
theorem dX5_readSum_13 : decode cX5_readSum 13 = .ok (.iload_n 1, 1) := by decide +kernel
theorem dX5_readSum_14 : decode cX5_readSum 14 = .ok (.ifCond .ne 12, 3) := by decide +kernel
theorem dX5_readSum_17 : decode cX5_readSum 17 = .ok (.aload_n 0, 1) := by decide +kernel
theorem dX5_readSum_18 : decode cX5_readSum 18 = .ok (.iconst 1, 1) := by decide +kernel
theorem dX5_readSum_19 : decode cX5_readSum 19 = .ok (.iload_n 2, 1) := by decide +kernel
theorem dX5_readSum_20 : decode cX5_readSum 20 = .ok (.invokevirtual 141, 3) := by decide +kernel
theorem dX5_readSum_23 : decode cX5_readSum 23 = .ok (.goto 8, 3) := by decide +kernel
theorem dX5_readSum_26 : decode cX5_readSum 26 = .ok (.aload_n 0, 1) := by decide +kernel
theorem dX5_readSum_27 : decode cX5_readSum 27 = .ok (.iload_n 2, 1) := by decide +kernel
theorem dX5_readSum_28 : decode cX5_readSum 28 = .ok (.invokevirtual 150, 3) := by decide +kernel
theorem dX5_readSum_31 : decode cX5_readSum 31 = .ok (.istore 5, 2) := by decide +kernel
theorem dX5_readSum_33 : decode cX5_readSum 33 = .ok (.iload 5, 2) := by decide +kernel
theorem dX5_readSum_35 : decode cX5_readSum 35 = .ok (.ifCond .eq 16, 3) := by decide +kernel
theorem dX5_readSum_38 : decode cX5_readSum 38 = .ok (.iload_n 3, 1) := by decide +kernel
theorem dX5_readSum_39 : decode cX5_readSum 39 = .ok (.ifCond .eq 14, 3) := by decide +kernel
theorem dX5_readSum_42 : decode cX5_readSum 42 = .ok (.aload_n 0, 1) := by decide +kernel
theorem dX5_readSum_43 : decode cX5_readSum 43 = .ok (.iload_n 3, 1) := by decide +kernel
theorem dX5_readSum_44 : decode cX5_readSum 44 = .ok (.iconst 0, 1) := by decide +kernel
theorem dX5_readSum_45 : decode cX5_readSum 45 = .ok (.invokevirtual 131, 3) := by decide +kernel
theorem dX5_readSum_48 : decode cX5_readSum 48 = .ok (.ifCond .ne 5, 3) := by decide +kernel
theorem dX5_readSum_51 : decode cX5_readSum 51 = .ok (.iconst 0, 1) := by decide +kernel
theorem dX5_readSum_52 : decode cX5_readSum 52 = .ok (.ireturn, 1) := by decide +kernel
theorem dX5_readSum_53 : decode cX5_readSum 53 = .ok (.aload_n 0, 1) := by decide +kernel
theorem dX5_readSum_54 : decode cX5_readSum 54 = .ok (.iload_n 1, 1) := by decide +kernel
theorem dX5_readSum_55 : decode cX5_readSum 55 = .ok (.invokevirtual 153, 3) := by decide +kernel
theorem dX5_readSum_58 : decode cX5_readSum 58 = .ok (.istore_n 3, 1) := by decide +kernel
theorem dX5_readSum_59 : decode cX5_readSum 59 = .ok (.iload_n 3, 1) := by decide +kernel
theorem dX5_readSum_60 : decode cX5_readSum 60 = .ok (.ifCond .ne 5, 3) := by decide +kernel
theorem dX5_readSum_63 : decode cX5_readSum 63 = .ok (.iconst 1, 1) := by decide +kernel
theorem dX5_readSum_64 : decode cX5_readSum 64 = .ok (.ireturn, 1) := by decide +kernel
theorem dX5_readSum_65 : decode cX5_readSum 65 = .ok (.aload_n 0, 1) := by decide +kernel
theorem dX5_readSum_66 : decode cX5_readSum 66 = .ok (.invokevirtual 78, 3) := by decide +kernel
theorem dX5_readSum_69 : decode cX5_readSum 69 = .ok (.iinc 4 1, 3) := by decide +kernel
theorem dX5_readSum_72 : decode cX5_readSum 72 = .ok (.goto (-67), 3) := by decide +kernel
theorem dX5_readSum_75 : decode cX5_readSum 75 = .ok (.iconst 0, 1) := by decide +kernel
theorem dX5_readSum_76 : decode cX5_readSum 76 = .ok (.ireturn, 1) := by decide +kernel
theorem dX5_joinHere_0 : decode cX5_joinHere 0 = .ok (.aload_n 0, 1) := by decide +kernel
theorem dX5_joinHere_1 : decode cX5_joinHere 1 = .ok (.getfield 17, 3) := by decide +kernel
theorem dX5_joinHere_4 : decode cX5_joinHere 4 = .ok (.aload_n 0, 1) := by decide +kernel
theorem dX5_joinHere_5 : decode cX5_joinHere 5 = .ok (.getfield 27, 3) := by decide +kernel
theorem dX5_joinHere_8 : decode cX5_joinHere 8 = .ok (.iaload, 1) := by decide +kernel
theorem dX5_joinHere_9 : decode cX5_joinHere 9 = .ok (.tableswitch 114 137 147 #[102, 114, 114, 114, 114, 79, 59, 114, 69, 114, 90], 59) := by decide +kernel
theorem dX5_joinHere_68 : decode cX5_joinHere 68 = .ok (.iload_n 1, 1) := by decide +kernel
theorem dX5_joinHere_69 : decode cX5_joinHere 69 = .ok (.ifCond .ne 7, 3) := by decide +kernel
theorem dX5_joinHere_72 : decode cX5_joinHere 72 = .ok (.iconst 3, 1) := by decide +kernel
theorem dX5_joinHere_73 : decode cX5_joinHere 73 = .ok (.goto 4, 3) := by decide +kernel
theorem dX5_joinHere_76 : decode cX5_joinHere 76 = .ok (.iconst 0, 1) := by decide +kernel
theorem dX5_joinHere_77 : decode cX5_joinHere 77 = .ok (.ireturn, 1) := by decide +kernel
theorem dX5_joinHere_78 : decode cX5_joinHere 78 = .ok (.iload_n 1, 1) := by decide +kernel
theorem dX5_joinHere_79 : decode cX5_joinHere 79 = .ok (.ifCond .ne 7, 3) := by decide +kernel
theorem dX5_joinHere_82 : decode cX5_joinHere 82 = .ok (.iconst 4, 1) := by decide +kernel
theorem dX5_joinHere_83 : decode cX5_joinHere 83 = .ok (.goto 4, 3) := by decide +kernel
theorem dX5_joinHere_86 : decode cX5_joinHere 86 = .ok (.iconst 0, 1) := by decide +kernel
theorem dX5_joinHere_87 : decode cX5_joinHere 87 = .ok (.ireturn, 1) := by decide +kernel
theorem dX5_joinHere_88 : decode cX5_joinHere 88 = .ok (.iload_n 1, 1) := by decide +kernel
theorem dX5_joinHere_89 : decode cX5_joinHere 89 = .ok (.iconst 1, 1) := by decide +kernel
theorem dX5_joinHere_90 : decode cX5_joinHere 90 = .ok (.if_icmp .ne 7, 3) := by decide +kernel
theorem dX5_joinHere_93 : decode cX5_joinHere 93 = .ok (.iconst 5, 1) := by decide +kernel
theorem dX5_joinHere_94 : decode cX5_joinHere 94 = .ok (.goto 4, 3) := by decide +kernel
theorem dX5_joinHere_97 : decode cX5_joinHere 97 = .ok (.iconst 0, 1) := by decide +kernel
theorem dX5_joinHere_98 : decode cX5_joinHere 98 = .ok (.ireturn, 1) := by decide +kernel
theorem dX5_joinHere_99 : decode cX5_joinHere 99 = .ok (.iload_n 1, 1) := by decide +kernel
theorem dX5_joinHere_100 : decode cX5_joinHere 100 = .ok (.iconst 1, 1) := by decide +kernel
theorem dX5_joinHere_101 : decode cX5_joinHere 101 = .ok (.if_icmp .ne 8, 3) := by decide +kernel
theorem dX5_joinHere_104 : decode cX5_joinHere 104 = .ok (.bipush 6, 2) := by decide +kernel
theorem dX5_joinHere_106 : decode cX5_joinHere 106 = .ok (.goto 4, 3) := by decide +kernel
theorem dX5_joinHere_109 : decode cX5_joinHere 109 = .ok (.iconst 0, 1) := by decide +kernel
theorem dX5_joinHere_110 : decode cX5_joinHere 110 = .ok (.ireturn, 1) := by decide +kernel
theorem dX5_joinHere_111 : decode cX5_joinHere 111 = .ok (.iload_n 1, 1) := by decide +kernel
theorem dX5_joinHere_112 : decode cX5_joinHere 112 = .ok (.iconst 1, 1) := by decide +kernel
theorem dX5_joinHere_113 : decode cX5_joinHere 113 = .ok (.if_icmp .ne 8, 3) := by decide +kernel
theorem dX5_joinHere_116 : decode cX5_joinHere 116 = .ok (.bipush 7, 2) := by decide +kernel
theorem dX5_joinHere_118 : decode cX5_joinHere 118 = .ok (.goto 4, 3) := by decide +kernel
theorem dX5_joinHere_121 : decode cX5_joinHere 121 = .ok (.iconst 0, 1) := by decide +kernel
theorem dX5_joinHere_122 : decode cX5_joinHere 122 = .ok (.ireturn, 1) := by decide +kernel
theorem dX5_joinHere_123 : decode cX5_joinHere 123 = .ok (.iconst 0, 1) := by decide +kernel
theorem dX5_joinHere_124 : decode cX5_joinHere 124 = .ok (.ireturn, 1) := by decide +kernel
theorem dX5_readPart_0 : decode cX5_readPart 0 = .ok (.aload_n 0, 1) := by decide +kernel
theorem dX5_readPart_1 : decode cX5_readPart 1 = .ok (.bipush 91, 2) := by decide +kernel
theorem dX5_readPart_3 : decode cX5_readPart 3 = .ok (.invokevirtual 74, 3) := by decide +kernel
theorem dX5_readPart_6 : decode cX5_readPart 6 = .ok (.ifCond .eq 43, 3) := by decide +kernel
theorem dX5_readPart_9 : decode cX5_readPart 9 = .ok (.iload_n 1, 1) := by decide +kernel
theorem dX5_readPart_10 : decode cX5_readPart 10 = .ok (.bipush 8, 2) := by decide +kernel
theorem dX5_readPart_12 : decode cX5_readPart 12 = .ok (.if_icmp .lt 5, 3) := by decide +kernel
theorem dX5_readPart_15 : decode cX5_readPart 15 = .ok (.iconst 0, 1) := by decide +kernel
theorem dX5_readPart_16 : decode cX5_readPart 16 = .ok (.ireturn, 1) := by decide +kernel
theorem dX5_readPart_17 : decode cX5_readPart 17 = .ok (.aload_n 0, 1) := by decide +kernel
theorem dX5_readPart_18 : decode cX5_readPart 18 = .ok (.invokevirtual 78, 3) := by decide +kernel
theorem dX5_readPart_21 : decode cX5_readPart 21 = .ok (.aload_n 0, 1) := by decide +kernel
theorem dX5_readPart_22 : decode cX5_readPart 22 = .ok (.iconst 0, 1) := by decide +kernel
theorem dX5_readPart_23 : decode cX5_readPart 23 = .ok (.iload_n 1, 1) := by decide +kernel
theorem dX5_readPart_24 : decode cX5_readPart 24 = .ok (.iconst 1, 1) := by decide +kernel
theorem dX5_readPart_25 : decode cX5_readPart 25 = .ok (.iadd, 1) := by decide +kernel
theorem dX5_readPart_26 : decode cX5_readPart 26 = .ok (.invokevirtual 141, 3) := by decide +kernel
theorem dX5_readPart_29 : decode cX5_readPart 29 = .ok (.ifCond .eq 12, 3) := by decide +kernel
theorem dX5_readPart_32 : decode cX5_readPart 32 = .ok (.aload_n 0, 1) := by decide +kernel
theorem dX5_readPart_33 : decode cX5_readPart 33 = .ok (.bipush 93, 2) := by decide +kernel
theorem dX5_readPart_35 : decode cX5_readPart 35 = .ok (.invokevirtual 74, 3) := by decide +kernel
theorem dX5_readPart_38 : decode cX5_readPart 38 = .ok (.ifCond .ne 5, 3) := by decide +kernel
theorem dX5_readPart_41 : decode cX5_readPart 41 = .ok (.iconst 0, 1) := by decide +kernel
theorem dX5_readPart_42 : decode cX5_readPart 42 = .ok (.ireturn, 1) := by decide +kernel
theorem dX5_readPart_43 : decode cX5_readPart 43 = .ok (.aload_n 0, 1) := by decide +kernel
theorem dX5_readPart_44 : decode cX5_readPart 44 = .ok (.invokevirtual 78, 3) := by decide +kernel
theorem dX5_readPart_47 : decode cX5_readPart 47 = .ok (.iconst 1, 1) := by decide +kernel
theorem dX5_readPart_48 : decode cX5_readPart 48 = .ok (.ireturn, 1) := by decide +kernel
theorem dX5_readPart_49 : decode cX5_readPart 49 = .ok (.aload_n 0, 1) := by decide +kernel
theorem dX5_readPart_50 : decode cX5_readPart 50 = .ok (.getfield 30, 3) := by decide +kernel
theorem dX5_readPart_53 : decode cX5_readPart 53 = .ok (.bipush 50, 2) := by decide +kernel
theorem dX5_readPart_55 : decode cX5_readPart 55 = .ok (.if_icmp .lt 5, 3) := by decide +kernel
theorem dX5_readPart_58 : decode cX5_readPart 58 = .ok (.iconst 0, 1) := by decide +kernel
theorem dX5_readPart_59 : decode cX5_readPart 59 = .ok (.ireturn, 1) := by decide +kernel
theorem dX5_readPart_60 : decode cX5_readPart 60 = .ok (.aload_n 0, 1) := by decide +kernel
theorem dX5_readPart_61 : decode cX5_readPart 61 = .ok (.getfield 17, 3) := by decide +kernel
theorem dX5_readPart_64 : decode cX5_readPart 64 = .ok (.aload_n 0, 1) := by decide +kernel
theorem dX5_readPart_65 : decode cX5_readPart 65 = .ok (.getfield 27, 3) := by decide +kernel
theorem dX5_readPart_68 : decode cX5_readPart 68 = .ok (.iaload, 1) := by decide +kernel
theorem dX5_readPart_69 : decode cX5_readPart 69 = .ok (.bipush 16, 2) := by decide +kernel
theorem dX5_readPart_71 : decode cX5_readPart 71 = .ok (.isub, 1) := by decide +kernel
theorem dX5_readPart_72 : decode cX5_readPart 72 = .ok (.istore_n 2, 1) := by decide +kernel
theorem dX5_readPart_73 : decode cX5_readPart 73 = .ok (.aload_n 0, 1) := by decide +kernel
theorem dX5_readPart_74 : decode cX5_readPart 74 = .ok (.getfield 17, 3) := by decide +kernel
theorem dX5_readPart_77 : decode cX5_readPart 77 = .ok (.aload_n 0, 1) := by decide +kernel
theorem dX5_readPart_78 : decode cX5_readPart 78 = .ok (.getfield 27, 3) := by decide +kernel
theorem dX5_readPart_81 : decode cX5_readPart 81 = .ok (.iaload, 1) := by decide +kernel
theorem dX5_readPart_82 : decode cX5_readPart 82 = .ok (.bipush 91, 2) := by decide +kernel
theorem dX5_readPart_84 : decode cX5_readPart 84 = .ok (.if_icmp .ne 44, 3) := by decide +kernel
theorem dX5_readPart_87 : decode cX5_readPart 87 = .ok (.aload_n 0, 1) := by decide +kernel
theorem dX5_readPart_88 : decode cX5_readPart 88 = .ok (.getfield 20, 3) := by decide +kernel
theorem dX5_readPart_91 : decode cX5_readPart 91 = .ok (.aload_n 0, 1) := by decide +kernel
theorem dX5_readPart_92 : decode cX5_readPart 92 = .ok (.getfield 27, 3) := by decide +kernel
theorem dX5_readPart_95 : decode cX5_readPart 95 = .ok (.iaload, 1) := by decide +kernel
theorem dX5_readPart_96 : decode cX5_readPart 96 = .ok (.sipush 1000, 3) := by decide +kernel
theorem dX5_readPart_99 : decode cX5_readPart 99 = .ok (.if_icmp .gt 24, 3) := by decide +kernel
theorem dX5_readPart_102 : decode cX5_readPart 102 = .ok (.aload_n 0, 1) := by decide +kernel
theorem dX5_readPart_103 : decode cX5_readPart 103 = .ok (.iconst 1, 1) := by decide +kernel
theorem dX5_readPart_104 : decode cX5_readPart 104 = .ok (.aload_n 0, 1) := by decide +kernel
theorem dX5_readPart_105 : decode cX5_readPart 105 = .ok (.getfield 20, 3) := by decide +kernel
theorem dX5_readPart_108 : decode cX5_readPart 108 = .ok (.aload_n 0, 1) := by decide +kernel
theorem dX5_readPart_109 : decode cX5_readPart 109 = .ok (.getfield 27, 3) := by decide +kernel
theorem dX5_readPart_112 : decode cX5_readPart 112 = .ok (.iaload, 1) := by decide +kernel
theorem dX5_readPart_113 : decode cX5_readPart 113 = .ok (.invokevirtual 131, 3) := by decide +kernel
theorem dX5_readPart_116 : decode cX5_readPart 116 = .ok (.ifCond .eq 7, 3) := by decide +kernel
theorem dX5_readPart_119 : decode cX5_readPart 119 = .ok (.iconst 1, 1) := by decide +kernel
theorem dX5_readPart_120 : decode cX5_readPart 120 = .ok (.goto 4, 3) := by decide +kernel
theorem dX5_readPart_123 : decode cX5_readPart 123 = .ok (.iconst 0, 1) := by decide +kernel
theorem dX5_readPart_124 : decode cX5_readPart 124 = .ok (.istore_n 3, 1) := by decide +kernel
theorem dX5_readPart_125 : decode cX5_readPart 125 = .ok (.goto 120, 3) := by decide +kernel
theorem dX5_readPart_128 : decode cX5_readPart 128 = .ok (.aload_n 0, 1) := by decide +kernel
theorem dX5_readPart_129 : decode cX5_readPart 129 = .ok (.getfield 33, 3) := by decide +kernel
theorem dX5_readPart_132 : decode cX5_readPart 132 = .ok (.ifCond .eq 90, 3) := by decide +kernel
theorem dX5_readPart_135 : decode cX5_readPart 135 = .ok (.iload_n 2, 1) := by decide +kernel
theorem dX5_readPart_136 : decode cX5_readPart 136 = .ok (.bipush 12, 2) := by decide +kernel
theorem dX5_readPart_138 : decode cX5_readPart 138 = .ok (.if_icmp .eq 8, 3) := by decide +kernel
theorem dX5_readPart_141 : decode cX5_readPart 141 = .ok (.iload_n 2, 1) := by decide +kernel
theorem dX5_readPart_142 : decode cX5_readPart 142 = .ok (.iconst 2, 1) := by decide +kernel
theorem dX5_readPart_143 : decode cX5_readPart 143 = .ok (.if_icmp .ne 79, 3) := by decide +kernel
theorem dX5_readPart_146 : decode cX5_readPart 146 = .ok (.aload_n 0, 1) := by decide +kernel
theorem dX5_readPart_147 : decode cX5_readPart 147 = .ok (.invokevirtual 78, 3) := by decide +kernel
theorem dX5_readPart_150 : decode cX5_readPart 150 = .ok (.iload_n 2, 1) := by decide +kernel
theorem dX5_readPart_151 : decode cX5_readPart 151 = .ok (.bipush 12, 2) := by decide +kernel
theorem dX5_readPart_153 : decode cX5_readPart 153 = .ok (.if_icmp .ne 8, 3) := by decide +kernel
theorem dX5_readPart_156 : decode cX5_readPart 156 = .ok (.bipush 12, 2) := by decide +kernel
theorem dX5_readPart_158 : decode cX5_readPart 158 = .ok (.goto 5, 3) := by decide +kernel
theorem dX5_readPart_161 : decode cX5_readPart 161 = .ok (.bipush 18, 2) := by decide +kernel
theorem dX5_readPart_163 : decode cX5_readPart 163 = .ok (.istore 4, 2) := by decide +kernel
theorem dX5_readPart_165 : decode cX5_readPart 165 = .ok (.aload_n 0, 1) := by decide +kernel
theorem dX5_readPart_166 : decode cX5_readPart 166 = .ok (.getfield 17, 3) := by decide +kernel
theorem dX5_readPart_169 : decode cX5_readPart 169 = .ok (.aload_n 0, 1) := by decide +kernel
theorem dX5_readPart_170 : decode cX5_readPart 170 = .ok (.getfield 27, 3) := by decide +kernel
theorem dX5_readPart_173 : decode cX5_readPart 173 = .ok (.iaload, 1) := by decide +kernel
theorem dX5_readPart_174 : decode cX5_readPart 174 = .ok (.bipush 91, 2) := by decide +kernel
theorem dX5_readPart_176 : decode cX5_readPart 176 = .ok (.if_icmp .ne 41, 3) := by decide +kernel
theorem dX5_readPart_179 : decode cX5_readPart 179 = .ok (.aload_n 0, 1) := by decide +kernel
theorem dX5_readPart_180 : decode cX5_readPart 180 = .ok (.getfield 20, 3) := by decide +kernel
theorem dX5_readPart_183 : decode cX5_readPart 183 = .ok (.aload_n 0, 1) := by decide +kernel
theorem dX5_readPart_184 : decode cX5_readPart 184 = .ok (.getfield 27, 3) := by decide +kernel
theorem dX5_readPart_187 : decode cX5_readPart 187 = .ok (.iaload, 1) := by decide +kernel
theorem dX5_readPart_188 : decode cX5_readPart 188 = .ok (.bipush 6, 2) := by decide +kernel
theorem dX5_readPart_190 : decode cX5_readPart 190 = .ok (.if_icmp .ge 27, 3) := by decide +kernel
theorem dX5_readPart_193 : decode cX5_readPart 193 = .ok (.aload_n 0, 1) := by decide +kernel
theorem dX5_readPart_194 : decode cX5_readPart 194 = .ok (.iconst 2, 1) := by decide +kernel
theorem dX5_readPart_195 : decode cX5_readPart 195 = .ok (.iload 4, 2) := by decide +kernel
theorem dX5_readPart_197 : decode cX5_readPart 197 = .ok (.aload_n 0, 1) := by decide +kernel
theorem dX5_readPart_198 : decode cX5_readPart 198 = .ok (.getfield 20, 3) := by decide +kernel
theorem dX5_readPart_201 : decode cX5_readPart 201 = .ok (.aload_n 0, 1) := by decide +kernel
theorem dX5_readPart_202 : decode cX5_readPart 202 = .ok (.getfield 27, 3) := by decide +kernel
theorem dX5_readPart_205 : decode cX5_readPart 205 = .ok (.iaload, 1) := by decide +kernel
theorem dX5_readPart_206 : decode cX5_readPart 206 = .ok (.iadd, 1) := by decide +kernel
theorem dX5_readPart_207 : decode cX5_readPart 207 = .ok (.invokevirtual 131, 3) := by decide +kernel
theorem dX5_readPart_210 : decode cX5_readPart 210 = .ok (.ifCond .eq 7, 3) := by decide +kernel
theorem dX5_readPart_213 : decode cX5_readPart 213 = .ok (.iconst 1, 1) := by decide +kernel
theorem dX5_readPart_214 : decode cX5_readPart 214 = .ok (.goto 4, 3) := by decide +kernel
theorem dX5_readPart_217 : decode cX5_readPart 217 = .ok (.iconst 0, 1) := by decide +kernel
theorem dX5_readPart_218 : decode cX5_readPart 218 = .ok (.istore_n 3, 1) := by decide +kernel
theorem dX5_readPart_219 : decode cX5_readPart 219 = .ok (.goto 26, 3) := by decide +kernel
theorem dX5_readPart_222 : decode cX5_readPart 222 = .ok (.aload_n 0, 1) := by decide +kernel
theorem dX5_readPart_223 : decode cX5_readPart 223 = .ok (.iload_n 2, 1) := by decide +kernel
theorem dX5_readPart_224 : decode cX5_readPart 224 = .ok (.invokevirtual 156, 3) := by decide +kernel
theorem dX5_readPart_227 : decode cX5_readPart 227 = .ok (.ifCond .eq 16, 3) := by decide +kernel
theorem dX5_readPart_230 : decode cX5_readPart 230 = .ok (.aload_n 0, 1) := by decide +kernel
theorem dX5_readPart_231 : decode cX5_readPart 231 = .ok (.iconst 2, 1) := by decide +kernel
theorem dX5_readPart_232 : decode cX5_readPart 232 = .ok (.iload_n 2, 1) := by decide +kernel
theorem dX5_readPart_233 : decode cX5_readPart 233 = .ok (.invokevirtual 131, 3) := by decide +kernel
theorem dX5_readPart_236 : decode cX5_readPart 236 = .ok (.ifCond .eq 7, 3) := by decide +kernel
theorem dX5_readPart_239 : decode cX5_readPart 239 = .ok (.iconst 1, 1) := by decide +kernel
theorem dX5_readPart_240 : decode cX5_readPart 240 = .ok (.goto 4, 3) := by decide +kernel
theorem dX5_readPart_243 : decode cX5_readPart 243 = .ok (.iconst 0, 1) := by decide +kernel
theorem dX5_readPart_244 : decode cX5_readPart 244 = .ok (.istore_n 3, 1) := by decide +kernel
theorem dX5_readPart_245 : decode cX5_readPart 245 = .ok (.iload_n 3, 1) := by decide +kernel
theorem dX5_readPart_246 : decode cX5_readPart 246 = .ok (.ifCond .eq 17, 3) := by decide +kernel
theorem dX5_readPart_249 : decode cX5_readPart 249 = .ok (.aload_n 0, 1) := by decide +kernel
theorem dX5_readPart_250 : decode cX5_readPart 250 = .ok (.dup, 1) := by decide +kernel
theorem dX5_readPart_251 : decode cX5_readPart 251 = .ok (.getfield 30, 3) := by decide +kernel
theorem dX5_readPart_254 : decode cX5_readPart 254 = .ok (.iconst 1, 1) := by decide +kernel
theorem dX5_readPart_255 : decode cX5_readPart 255 = .ok (.iadd, 1) := by decide +kernel
theorem dX5_readPart_256 : decode cX5_readPart 256 = .ok (.putfield 30, 3) := by decide +kernel
theorem dX5_readPart_259 : decode cX5_readPart 259 = .ok (.aload_n 0, 1) := by decide +kernel
theorem dX5_readPart_260 : decode cX5_readPart 260 = .ok (.invokevirtual 78, 3) := by decide +kernel
theorem dX5_readPart_263 : decode cX5_readPart 263 = .ok (.iload_n 3, 1) := by decide +kernel
theorem dX5_readPart_264 : decode cX5_readPart 264 = .ok (.ireturn, 1) := by decide +kernel
theorem dX5_standsAlone_0 : decode cX5_standsAlone 0 = .ok (.aload_n 0, 1) := by decide +kernel
theorem dX5_standsAlone_1 : decode cX5_standsAlone 1 = .ok (.getfield 33, 3) := by decide +kernel
theorem dX5_standsAlone_4 : decode cX5_standsAlone 4 = .ok (.ifCond .eq 27, 3) := by decide +kernel
theorem dX5_standsAlone_7 : decode cX5_standsAlone 7 = .ok (.iload_n 1, 1) := by decide +kernel
theorem dX5_standsAlone_8 : decode cX5_standsAlone 8 = .ok (.bipush 7, 2) := by decide +kernel
theorem dX5_standsAlone_10 : decode cX5_standsAlone 10 = .ok (.if_icmp .eq 15, 3) := by decide +kernel
theorem dX5_standsAlone_13 : decode cX5_standsAlone 13 = .ok (.iload_n 1, 1) := by decide +kernel
theorem dX5_standsAlone_14 : decode cX5_standsAlone 14 = .ok (.bipush 9, 2) := by decide +kernel
theorem dX5_standsAlone_16 : decode cX5_standsAlone 16 = .ok (.if_icmp .lt 13, 3) := by decide +kernel
theorem dX5_standsAlone_19 : decode cX5_standsAlone 19 = .ok (.iload_n 1, 1) := by decide +kernel
theorem dX5_standsAlone_20 : decode cX5_standsAlone 20 = .ok (.bipush 11, 2) := by decide +kernel
theorem dX5_standsAlone_22 : decode cX5_standsAlone 22 = .ok (.if_icmp .gt 7, 3) := by decide +kernel
theorem dX5_standsAlone_25 : decode cX5_standsAlone 25 = .ok (.iconst 1, 1) := by decide +kernel
theorem dX5_standsAlone_26 : decode cX5_standsAlone 26 = .ok (.goto 4, 3) := by decide +kernel
theorem dX5_standsAlone_29 : decode cX5_standsAlone 29 = .ok (.iconst 0, 1) := by decide +kernel
theorem dX5_standsAlone_30 : decode cX5_standsAlone 30 = .ok (.ireturn, 1) := by decide +kernel
theorem dX5_standsAlone_31 : decode cX5_standsAlone 31 = .ok (.iload_n 1, 1) := by decide +kernel
theorem dX5_standsAlone_32 : decode cX5_standsAlone 32 = .ok (.ifCond .lt 13, 3) := by decide +kernel
theorem dX5_standsAlone_35 : decode cX5_standsAlone 35 = .ok (.iload_n 1, 1) := by decide +kernel
theorem dX5_standsAlone_36 : decode cX5_standsAlone 36 = .ok (.bipush 8, 2) := by decide +kernel
theorem dX5_standsAlone_38 : decode cX5_standsAlone 38 = .ok (.if_icmp .gt 7, 3) := by decide +kernel
theorem dX5_standsAlone_41 : decode cX5_standsAlone 41 = .ok (.iconst 1, 1) := by decide +kernel
theorem dX5_standsAlone_42 : decode cX5_standsAlone 42 = .ok (.goto 4, 3) := by decide +kernel
theorem dX5_standsAlone_45 : decode cX5_standsAlone 45 = .ok (.iconst 0, 1) := by decide +kernel
theorem dX5_standsAlone_46 : decode cX5_standsAlone 46 = .ok (.ireturn, 1) := by decide +kernel
