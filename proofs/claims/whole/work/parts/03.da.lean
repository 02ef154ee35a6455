theorem dX0_init_0 : decode cX0_init 0 = .ok (.aload_n 0, 1) := by decide +kernel
theorem dX0_init_1 : decode cX0_init 1 = .ok (.invokespecial 3, 3) := by decide +kernel
theorem dX0_init_4 : decode cX0_init 4 = .ok (.aload_n 0, 1) := by decide +kernel
theorem dX0_init_5 : decode cX0_init 5 = .ok (.new 9, 3) := by decide +kernel
theorem dX0_init_8 : decode cX0_init 8 = .ok (.dup, 1) := by decide +kernel
theorem dX0_init_9 : decode cX0_init 9 = .ok (.invokespecial 11, 3) := by decide +kernel
theorem dX0_init_12 : decode cX0_init 12 = .ok (.putfield 12, 3) := by decide +kernel
theorem dX0_init_15 : decode cX0_init 15 = .ok (.aload_n 0, 1) := by decide +kernel
theorem dX0_init_16 : decode cX0_init 16 = .ok (.bipush 24, 2) := by decide +kernel
theorem dX0_init_18 : decode cX0_init 18 = .ok (.newarray .int, 2) := by decide +kernel
theorem dX0_init_20 : decode cX0_init 20 = .ok (.putfield 20, 3) := by decide +kernel
theorem dX0_init_23 : decode cX0_init 23 = .ok (.aload_n 0, 1) := by decide +kernel
theorem dX0_init_24 : decode cX0_init 24 = .ok (.new 24, 3) := by decide +kernel
theorem dX0_init_27 : decode cX0_init 27 = .ok (.dup, 1) := by decide +kernel
theorem dX0_init_28 : decode cX0_init 28 = .ok (.invokespecial 26, 3) := by decide +kernel
theorem dX0_init_31 : decode cX0_init 31 = .ok (.putfield 27, 3) := by decide +kernel
theorem dX0_init_34 : decode cX0_init 34 = .ok (.aload_n 0, 1) := by decide +kernel
theorem dX0_init_35 : decode cX0_init 35 = .ok (.new 9, 3) := by decide +kernel
theorem dX0_init_38 : decode cX0_init 38 = .ok (.dup, 1) := by decide +kernel
theorem dX0_init_39 : decode cX0_init 39 = .ok (.invokespecial 11, 3) := by decide +kernel
theorem dX0_init_42 : decode cX0_init 42 = .ok (.putfield 31, 3) := by decide +kernel
theorem dX0_init_45 : decode cX0_init 45 = .ok (.aload_n 0, 1) := by decide +kernel
theorem dX0_init_46 : decode cX0_init 46 = .ok (.iconst 0, 1) := by decide +kernel
theorem dX0_init_47 : decode cX0_init 47 = .ok (.putfield 34, 3) := by decide +kernel
theorem dX0_init_50 : decode cX0_init 50 = .ok (.aload_n 0, 1) := by decide +kernel
theorem dX0_init_51 : decode cX0_init 51 = .ok (.iconst (-1), 1) := by decide +kernel
theorem dX0_init_52 : decode cX0_init 52 = .ok (.putfield 38, 3) := by decide +kernel
theorem dX0_init_55 : decode cX0_init 55 = .ok (.aload_n 0, 1) := by decide +kernel
theorem dX0_init_56 : decode cX0_init 56 = .ok (.aload_n 1, 1) := by decide +kernel
theorem dX0_init_57 : decode cX0_init 57 = .ok (.putfield 41, 3) := by decide +kernel
theorem dX0_init_60 : decode cX0_init 60 = .ok (.aload_n 0, 1) := by decide +kernel
theorem dX0_init_61 : decode cX0_init 61 = .ok (.aload_n 2, 1) := by decide +kernel
theorem dX0_init_62 : decode cX0_init 62 = .ok (.putfield 45, 3) := by decide +kernel
theorem dX0_init_65 : decode cX0_init 65 = .ok (.aload_n 0, 1) := by decide +kernel
theorem dX0_init_66 : decode cX0_init 66 = .ok (.aload_n 3, 1) := by decide +kernel
theorem dX0_init_67 : decode cX0_init 67 = .ok (.putfield 49, 3) := by decide +kernel
theorem dX0_init_70 : decode cX0_init 70 = .ok (.return_, 1) := by decide +kernel
theorem dX0_pullPin_0 : decode cX0_pullPin 0 = .ok (.aload_n 0, 1) := by decide +kernel
theorem dX0_pullPin_1 : decode cX0_pullPin 1 = .ok (.getfield 41, 3) := by decide +kernel
theorem dX0_pullPin_4 : decode cX0_pullPin 4 = .ok (.getfield 53, 3) := by decide +kernel
theorem dX0_pullPin_7 : decode cX0_pullPin 7 = .ok (.astore 4, 2) := by decide +kernel
theorem dX0_pullPin_9 : decode cX0_pullPin 9 = .ok (.iload_n 1, 1) := by decide +kernel
theorem dX0_pullPin_10 : decode cX0_pullPin 10 = .ok (.invokestatic 58, 3) := by decide +kernel
theorem dX0_pullPin_13 : decode cX0_pullPin 13 = .ok (.ifCond .eq 10, 3) := by decide +kernel
theorem dX0_pullPin_16 : decode cX0_pullPin 16 = .ok (.iload_n 2, 1) := by decide +kernel
theorem dX0_pullPin_17 : decode cX0_pullPin 17 = .ok (.invokestatic 62, 3) := by decide +kernel
theorem dX0_pullPin_20 : decode cX0_pullPin 20 = .ok (.ifCond .ne 5, 3) := by decide +kernel
theorem dX0_pullPin_23 : decode cX0_pullPin 23 = .ok (.iconst (-1), 1) := by decide +kernel
theorem dX0_pullPin_24 : decode cX0_pullPin 24 = .ok (.ireturn, 1) := by decide +kernel
theorem dX0_pullPin_25 : decode cX0_pullPin 25 = .ok (.aload 4, 2) := by decide +kernel
theorem dX0_pullPin_27 : decode cX0_pullPin 27 = .ok (.iload_n 3, 1) := by decide +kernel
theorem dX0_pullPin_28 : decode cX0_pullPin 28 = .ok (.invokevirtual 65, 3) := by decide +kernel
theorem dX0_pullPin_31 : decode cX0_pullPin 31 = .ok (.ifCond .ne 6, 3) := by decide +kernel
theorem dX0_pullPin_34 : decode cX0_pullPin 34 = .ok (.bipush (-2), 2) := by decide +kernel
theorem dX0_pullPin_36 : decode cX0_pullPin 36 = .ok (.ireturn, 1) := by decide +kernel
theorem dX0_pullPin_37 : decode cX0_pullPin 37 = .ok (.iload_n 3, 1) := by decide +kernel
theorem dX0_pullPin_38 : decode cX0_pullPin 38 = .ok (.bipush 8, 2) := by decide +kernel
theorem dX0_pullPin_40 : decode cX0_pullPin 40 = .ok (.imul, 1) := by decide +kernel
theorem dX0_pullPin_41 : decode cX0_pullPin 41 = .ok (.iload_n 2, 1) := by decide +kernel
theorem dX0_pullPin_42 : decode cX0_pullPin 42 = .ok (.iadd, 1) := by decide +kernel
theorem dX0_pullPin_43 : decode cX0_pullPin 43 = .ok (.istore 5, 2) := by decide +kernel
theorem dX0_pullPin_45 : decode cX0_pullPin 45 = .ok (.aload 4, 2) := by decide +kernel
theorem dX0_pullPin_47 : decode cX0_pullPin 47 = .ok (.getfield 68, 3) := by decide +kernel
theorem dX0_pullPin_50 : decode cX0_pullPin 50 = .ok (.iload 5, 2) := by decide +kernel
theorem dX0_pullPin_52 : decode cX0_pullPin 52 = .ok (.iaload, 1) := by decide +kernel
theorem dX0_pullPin_53 : decode cX0_pullPin 53 = .ok (.iload_n 1, 1) := by decide +kernel
theorem dX0_pullPin_54 : decode cX0_pullPin 54 = .ok (.ishr, 1) := by decide +kernel
theorem dX0_pullPin_55 : decode cX0_pullPin 55 = .ok (.iconst 1, 1) := by decide +kernel
theorem dX0_pullPin_56 : decode cX0_pullPin 56 = .ok (.iand, 1) := by decide +kernel
theorem dX0_pullPin_57 : decode cX0_pullPin 57 = .ok (.ifCond .ne 6, 3) := by decide +kernel
theorem dX0_pullPin_60 : decode cX0_pullPin 60 = .ok (.bipush (-3), 2) := by decide +kernel
theorem dX0_pullPin_62 : decode cX0_pullPin 62 = .ok (.ireturn, 1) := by decide +kernel
theorem dX0_pullPin_63 : decode cX0_pullPin 63 = .ok (.aload_n 0, 1) := by decide +kernel
theorem dX0_pullPin_64 : decode cX0_pullPin 64 = .ok (.getfield 12, 3) := by decide +kernel
theorem dX0_pullPin_67 : decode cX0_pullPin 67 = .ok (.iconst 0, 1) := by decide +kernel
theorem dX0_pullPin_68 : decode cX0_pullPin 68 = .ok (.aload 4, 2) := by decide +kernel
theorem dX0_pullPin_70 : decode cX0_pullPin 70 = .ok (.invokevirtual 73, 3) := by decide +kernel
theorem dX0_pullPin_73 : decode cX0_pullPin 73 = .ok (.aload 4, 2) := by decide +kernel
theorem dX0_pullPin_75 : decode cX0_pullPin 75 = .ok (.getfield 68, 3) := by decide +kernel
theorem dX0_pullPin_78 : decode cX0_pullPin 78 = .ok (.iload 5, 2) := by decide +kernel
theorem dX0_pullPin_80 : decode cX0_pullPin 80 = .ok (.dup2, 1) := by decide +kernel
theorem dX0_pullPin_81 : decode cX0_pullPin 81 = .ok (.iaload, 1) := by decide +kernel
theorem dX0_pullPin_82 : decode cX0_pullPin 82 = .ok (.iconst 1, 1) := by decide +kernel
theorem dX0_pullPin_83 : decode cX0_pullPin 83 = .ok (.iload_n 1, 1) := by decide +kernel
theorem dX0_pullPin_84 : decode cX0_pullPin 84 = .ok (.ishl, 1) := by decide +kernel
theorem dX0_pullPin_85 : decode cX0_pullPin 85 = .ok (.iconst (-1), 1) := by decide +kernel
theorem dX0_pullPin_86 : decode cX0_pullPin 86 = .ok (.ixor, 1) := by decide +kernel
theorem dX0_pullPin_87 : decode cX0_pullPin 87 = .ok (.iand, 1) := by decide +kernel
theorem dX0_pullPin_88 : decode cX0_pullPin 88 = .ok (.iastore, 1) := by decide +kernel
theorem dX0_pullPin_89 : decode cX0_pullPin 89 = .ok (.aload 4, 2) := by decide +kernel
theorem dX0_pullPin_91 : decode cX0_pullPin 91 = .ok (.iload_n 3, 1) := by decide +kernel
theorem dX0_pullPin_92 : decode cX0_pullPin 92 = .ok (.invokevirtual 77, 3) := by decide +kernel
theorem dX0_pullPin_95 : decode cX0_pullPin 95 = .ok (.ireturn, 1) := by decide +kernel
theorem dX0_snapTooth_0 : decode cX0_snapTooth 0 = .ok (.aload_n 0, 1) := by decide +kernel
theorem dX0_snapTooth_1 : decode cX0_snapTooth 1 = .ok (.getfield 41, 3) := by decide +kernel
theorem dX0_snapTooth_4 : decode cX0_snapTooth 4 = .ok (.getfield 53, 3) := by decide +kernel
theorem dX0_snapTooth_7 : decode cX0_snapTooth 7 = .ok (.astore_n 3, 1) := by decide +kernel
theorem dX0_snapTooth_8 : decode cX0_snapTooth 8 = .ok (.iload_n 1, 1) := by decide +kernel
theorem dX0_snapTooth_9 : decode cX0_snapTooth 9 = .ok (.invokestatic 58, 3) := by decide +kernel
theorem dX0_snapTooth_12 : decode cX0_snapTooth 12 = .ok (.ifCond .ne 5, 3) := by decide +kernel
theorem dX0_snapTooth_15 : decode cX0_snapTooth 15 = .ok (.iconst (-1), 1) := by decide +kernel
theorem dX0_snapTooth_16 : decode cX0_snapTooth 16 = .ok (.ireturn, 1) := by decide +kernel
theorem dX0_snapTooth_17 : decode cX0_snapTooth 17 = .ok (.aload_n 3, 1) := by decide +kernel
theorem dX0_snapTooth_18 : decode cX0_snapTooth 18 = .ok (.iload_n 2, 1) := by decide +kernel
theorem dX0_snapTooth_19 : decode cX0_snapTooth 19 = .ok (.invokevirtual 65, 3) := by decide +kernel
theorem dX0_snapTooth_22 : decode cX0_snapTooth 22 = .ok (.ifCond .ne 6, 3) := by decide +kernel
theorem dX0_snapTooth_25 : decode cX0_snapTooth 25 = .ok (.bipush (-2), 2) := by decide +kernel
theorem dX0_snapTooth_27 : decode cX0_snapTooth 27 = .ok (.ireturn, 1) := by decide +kernel
theorem dX0_snapTooth_28 : decode cX0_snapTooth 28 = .ok (.aload_n 3, 1) := by decide +kernel
theorem dX0_snapTooth_29 : decode cX0_snapTooth 29 = .ok (.getfield 81, 3) := by decide +kernel
theorem dX0_snapTooth_32 : decode cX0_snapTooth 32 = .ok (.iload_n 2, 1) := by decide +kernel
theorem dX0_snapTooth_33 : decode cX0_snapTooth 33 = .ok (.iaload, 1) := by decide +kernel
theorem dX0_snapTooth_34 : decode cX0_snapTooth 34 = .ok (.iload_n 1, 1) := by decide +kernel
theorem dX0_snapTooth_35 : decode cX0_snapTooth 35 = .ok (.ishr, 1) := by decide +kernel
theorem dX0_snapTooth_36 : decode cX0_snapTooth 36 = .ok (.iconst 1, 1) := by decide +kernel
theorem dX0_snapTooth_37 : decode cX0_snapTooth 37 = .ok (.iand, 1) := by decide +kernel
theorem dX0_snapTooth_38 : decode cX0_snapTooth 38 = .ok (.iconst 1, 1) := by decide +kernel
theorem dX0_snapTooth_39 : decode cX0_snapTooth 39 = .ok (.if_icmp .ne 6, 3) := by decide +kernel
theorem dX0_snapTooth_42 : decode cX0_snapTooth 42 = .ok (.bipush (-3), 2) := by decide +kernel
theorem dX0_snapTooth_44 : decode cX0_snapTooth 44 = .ok (.ireturn, 1) := by decide +kernel
theorem dX0_snapTooth_45 : decode cX0_snapTooth 45 = .ok (.aload_n 0, 1) := by decide +kernel
theorem dX0_snapTooth_46 : decode cX0_snapTooth 46 = .ok (.getfield 12, 3) := by decide +kernel
theorem dX0_snapTooth_49 : decode cX0_snapTooth 49 = .ok (.iconst 1, 1) := by decide +kernel
theorem dX0_snapTooth_50 : decode cX0_snapTooth 50 = .ok (.aload_n 3, 1) := by decide +kernel
theorem dX0_snapTooth_51 : decode cX0_snapTooth 51 = .ok (.invokevirtual 73, 3) := by decide +kernel
theorem dX0_snapTooth_54 : decode cX0_snapTooth 54 = .ok (.aload_n 3, 1) := by decide +kernel
theorem dX0_snapTooth_55 : decode cX0_snapTooth 55 = .ok (.getfield 81, 3) := by decide +kernel
theorem dX0_snapTooth_58 : decode cX0_snapTooth 58 = .ok (.iload_n 2, 1) := by decide +kernel
theorem dX0_snapTooth_59 : decode cX0_snapTooth 59 = .ok (.dup2, 1) := by decide +kernel
theorem dX0_snapTooth_60 : decode cX0_snapTooth 60 = .ok (.iaload, 1) := by decide +kernel
theorem dX0_snapTooth_61 : decode cX0_snapTooth 61 = .ok (.iconst 1, 1) := by decide +kernel
theorem dX0_snapTooth_62 : decode cX0_snapTooth 62 = .ok (.iload_n 1, 1) := by decide +kernel
theorem dX0_snapTooth_63 : decode cX0_snapTooth 63 = .ok (.ishl, 1) := by decide +kernel
theorem dX0_snapTooth_64 : decode cX0_snapTooth 64 = .ok (.ior, 1) := by decide +kernel
theorem dX0_snapTooth_65 : decode cX0_snapTooth 65 = .ok (.iastore, 1) := by decide +kernel
theorem dX0_snapTooth_66 : decode cX0_snapTooth 66 = .ok (.aload_n 3, 1) := by decide +kernel
theorem dX0_snapTooth_67 : decode cX0_snapTooth 67 = .ok (.iload_n 2, 1) := by decide +kernel
theorem dX0_snapTooth_68 : decode cX0_snapTooth 68 = .ok (.invokevirtual 77, 3) := by decide +kernel
theorem dX0_snapTooth_71 : decode cX0_snapTooth 71 = .ok (.ireturn, 1) := by decide +kernel
theorem dX0_wedBox_0 : decode cX0_wedBox 0 = .ok (.aload_n 0, 1) := by decide +kernel
theorem dX0_wedBox_1 : decode cX0_wedBox 1 = .ok (.getfield 41, 3) := by decide +kernel
theorem dX0_wedBox_4 : decode cX0_wedBox 4 = .ok (.getfield 53, 3) := by decide +kernel
theorem dX0_wedBox_7 : decode cX0_wedBox 7 = .ok (.astore_n 3, 1) := by decide +kernel
theorem dX0_wedBox_8 : decode cX0_wedBox 8 = .ok (.aload_n 3, 1) := by decide +kernel
theorem dX0_wedBox_9 : decode cX0_wedBox 9 = .ok (.iload_n 1, 1) := by decide +kernel
theorem dX0_wedBox_10 : decode cX0_wedBox 10 = .ok (.invokevirtual 65, 3) := by decide +kernel
theorem dX0_wedBox_13 : decode cX0_wedBox 13 = .ok (.ifCond .eq 14, 3) := by decide +kernel
theorem dX0_wedBox_16 : decode cX0_wedBox 16 = .ok (.aload_n 0, 1) := by decide +kernel
theorem dX0_wedBox_17 : decode cX0_wedBox 17 = .ok (.getfield 41, 3) := by decide +kernel
theorem dX0_wedBox_20 : decode cX0_wedBox 20 = .ok (.iload_n 2, 1) := by decide +kernel
theorem dX0_wedBox_21 : decode cX0_wedBox 21 = .ok (.invokevirtual 84, 3) := by decide +kernel
theorem dX0_wedBox_24 : decode cX0_wedBox 24 = .ok (.ifCond .ne 6, 3) := by decide +kernel
theorem dX0_wedBox_27 : decode cX0_wedBox 27 = .ok (.bipush (-2), 2) := by decide +kernel
theorem dX0_wedBox_29 : decode cX0_wedBox 29 = .ok (.ireturn, 1) := by decide +kernel
theorem dX0_wedBox_30 : decode cX0_wedBox 30 = .ok (.aload_n 3, 1) := by decide +kernel
theorem dX0_wedBox_31 : decode cX0_wedBox 31 = .ok (.getfield 87, 3) := by decide +kernel
theorem dX0_wedBox_34 : decode cX0_wedBox 34 = .ok (.iload_n 1, 1) := by decide +kernel
theorem dX0_wedBox_35 : decode cX0_wedBox 35 = .ok (.iaload, 1) := by decide +kernel
theorem dX0_wedBox_36 : decode cX0_wedBox 36 = .ok (.iconst (-1), 1) := by decide +kernel
theorem dX0_wedBox_37 : decode cX0_wedBox 37 = .ok (.if_icmp .ne 28, 3) := by decide +kernel
theorem dX0_wedBox_40 : decode cX0_wedBox 40 = .ok (.aload_n 3, 1) := by decide +kernel
theorem dX0_wedBox_41 : decode cX0_wedBox 41 = .ok (.iload_n 2, 1) := by decide +kernel
theorem dX0_wedBox_42 : decode cX0_wedBox 42 = .ok (.invokevirtual 90, 3) := by decide +kernel
theorem dX0_wedBox_45 : decode cX0_wedBox 45 = .ok (.iconst (-1), 1) := by decide +kernel
theorem dX0_wedBox_46 : decode cX0_wedBox 46 = .ok (.if_icmp .ne 19, 3) := by decide +kernel
theorem dX0_wedBox_49 : decode cX0_wedBox 49 = .ok (.aload_n 0, 1) := by decide +kernel
theorem dX0_wedBox_50 : decode cX0_wedBox 50 = .ok (.getfield 45, 3) := by decide +kernel
theorem dX0_wedBox_53 : decode cX0_wedBox 53 = .ok (.aload_n 0, 1) := by decide +kernel
theorem dX0_wedBox_54 : decode cX0_wedBox 54 = .ok (.getfield 41, 3) := by decide +kernel
theorem dX0_wedBox_57 : decode cX0_wedBox 57 = .ok (.iload_n 1, 1) := by decide +kernel
theorem dX0_wedBox_58 : decode cX0_wedBox 58 = .ok (.iload_n 2, 1) := by decide +kernel
theorem dX0_wedBox_59 : decode cX0_wedBox 59 = .ok (.invokevirtual 93, 3) := by decide +kernel
theorem dX0_wedBox_62 : decode cX0_wedBox 62 = .ok (.ifCond .eq 6, 3) := by decide +kernel
theorem dX0_wedBox_65 : decode cX0_wedBox 65 = .ok (.bipush (-3), 2) := by decide +kernel
theorem dX0_wedBox_67 : decode cX0_wedBox 67 = .ok (.ireturn, 1) := by decide +kernel
theorem dX0_wedBox_68 : decode cX0_wedBox 68 = .ok (.aload_n 0, 1) := by decide +kernel
theorem dX0_wedBox_69 : decode cX0_wedBox 69 = .ok (.getfield 45, 3) := by decide +kernel
theorem dX0_wedBox_72 : decode cX0_wedBox 72 = .ok (.aload_n 0, 1) := by decide +kernel
theorem dX0_wedBox_73 : decode cX0_wedBox 73 = .ok (.getfield 41, 3) := by decide +kernel
theorem dX0_wedBox_76 : decode cX0_wedBox 76 = .ok (.invokevirtual 99, 3) := by decide +kernel
theorem dX0_wedBox_79 : decode cX0_wedBox 79 = .ok (.aload_n 3, 1) := by decide +kernel
theorem dX0_wedBox_80 : decode cX0_wedBox 80 = .ok (.iload_n 1, 1) := by decide +kernel
theorem dX0_wedBox_81 : decode cX0_wedBox 81 = .ok (.invokevirtual 103, 3) := by decide +kernel
theorem dX0_wedBox_84 : decode cX0_wedBox 84 = .ok (.istore 4, 2) := by decide +kernel
theorem dX0_wedBox_86 : decode cX0_wedBox 86 = .ok (.iload 4, 2) := by decide +kernel
theorem dX0_wedBox_88 : decode cX0_wedBox 88 = .ok (.iconst 1, 1) := by decide +kernel
theorem dX0_wedBox_89 : decode cX0_wedBox 89 = .ok (.if_icmp .ge 6, 3) := by decide +kernel
theorem dX0_wedBox_92 : decode cX0_wedBox 92 = .ok (.bipush (-3), 2) := by decide +kernel
theorem dX0_wedBox_94 : decode cX0_wedBox 94 = .ok (.ireturn, 1) := by decide +kernel
theorem dX0_wedBox_95 : decode cX0_wedBox 95 = .ok (.aload_n 0, 1) := by decide +kernel
theorem dX0_wedBox_96 : decode cX0_wedBox 96 = .ok (.getfield 12, 3) := by decide +kernel
theorem dX0_wedBox_99 : decode cX0_wedBox 99 = .ok (.iconst 2, 1) := by decide +kernel
theorem dX0_wedBox_100 : decode cX0_wedBox 100 = .ok (.aload_n 3, 1) := by decide +kernel
theorem dX0_wedBox_101 : decode cX0_wedBox 101 = .ok (.invokevirtual 73, 3) := by decide +kernel
theorem dX0_wedBox_104 : decode cX0_wedBox 104 = .ok (.aload_n 3, 1) := by decide +kernel
theorem dX0_wedBox_105 : decode cX0_wedBox 105 = .ok (.getfield 87, 3) := by decide +kernel
theorem dX0_wedBox_108 : decode cX0_wedBox 108 = .ok (.iload_n 1, 1) := by decide +kernel
theorem dX0_wedBox_109 : decode cX0_wedBox 109 = .ok (.iload_n 2, 1) := by decide +kernel
theorem dX0_wedBox_110 : decode cX0_wedBox 110 = .ok (.iastore, 1) := by decide +kernel
theorem dX0_wedBox_111 : decode cX0_wedBox 111 = .ok (.aload_n 3, 1) := by decide +kernel
theorem dX0_wedBox_112 : decode cX0_wedBox 112 = .ok (.getfield 107, 3) := by decide +kernel
theorem dX0_wedBox_115 : decode cX0_wedBox 115 = .ok (.iload_n 1, 1) := by decide +kernel
theorem dX0_wedBox_116 : decode cX0_wedBox 116 = .ok (.iload 4, 2) := by decide +kernel
theorem dX0_wedBox_118 : decode cX0_wedBox 118 = .ok (.iastore, 1) := by decide +kernel
theorem dX0_wedBox_119 : decode cX0_wedBox 119 = .ok (.iload 4, 2) := by decide +kernel
theorem dX0_wedBox_121 : decode cX0_wedBox 121 = .ok (.ireturn, 1) := by decide +kernel
theorem dX0_passYear_0 : decode cX0_passYear 0 = .ok (.aload_n 0, 1) := by decide +kernel
theorem dX0_passYear_1 : decode cX0_passYear 1 = .ok (.getfield 41, 3) := by decide +kernel
theorem dX0_passYear_4 : decode cX0_passYear 4 = .ok (.getfield 53, 3) := by decide +kernel
theorem dX0_passYear_7 : decode cX0_passYear 7 = .ok (.astore_n 1, 1) := by decide +kernel
theorem dX0_passYear_8 : decode cX0_passYear 8 = .ok (.aload_n 1, 1) := by decide +kernel
theorem dX0_passYear_9 : decode cX0_passYear 9 = .ok (.getfield 110, 3) := by decide +kernel
theorem dX0_passYear_12 : decode cX0_passYear 12 = .ok (.iconst 0, 1) := by decide +kernel
theorem dX0_passYear_13 : decode cX0_passYear 13 = .ok (.iaload, 1) := by decide +kernel
theorem dX0_passYear_14 : decode cX0_passYear 14 = .ok (.sipush 999, 3) := by decide +kernel
theorem dX0_passYear_17 : decode cX0_passYear 17 = .ok (.if_icmp .lt 6, 3) := by decide +kernel
theorem dX0_passYear_20 : decode cX0_passYear 20 = .ok (.bipush (-3), 2) := by decide +kernel
theorem dX0_passYear_22 : decode cX0_passYear 22 = .ok (.ireturn, 1) := by decide +kernel
theorem dX0_passYear_23 : decode cX0_passYear 23 = .ok (.aload_n 0, 1) := by decide +kernel
theorem dX0_passYear_24 : decode cX0_passYear 24 = .ok (.getfield 12, 3) := by decide +kernel
theorem dX0_passYear_27 : decode cX0_passYear 27 = .ok (.iconst 3, 1) := by decide +kernel
theorem dX0_passYear_28 : decode cX0_passYear 28 = .ok (.aload_n 1, 1) := by decide +kernel
theorem dX0_passYear_29 : decode cX0_passYear 29 = .ok (.invokevirtual 73, 3) := by decide +kernel
theorem dX0_passYear_32 : decode cX0_passYear 32 = .ok (.aload_n 0, 1) := by decide +kernel
theorem dX0_passYear_33 : decode cX0_passYear 33 = .ok (.aload_n 1, 1) := by decide +kernel
theorem dX0_passYear_34 : decode cX0_passYear 34 = .ok (.aload_n 0, 1) := by decide +kernel
theorem dX0_passYear_35 : decode cX0_passYear 35 = .ok (.getfield 41, 3) := by decide +kernel
theorem dX0_passYear_38 : decode cX0_passYear 38 = .ok (.invokevirtual 99, 3) := by decide +kernel
theorem dX0_passYear_41 : decode cX0_passYear 41 = .ok (.invokevirtual 113, 3) := by decide +kernel
theorem dX0_passYear_44 : decode cX0_passYear 44 = .ok (.pop, 1) := by decide +kernel
theorem dX0_passYear_45 : decode cX0_passYear 45 = .ok (.aload_n 1, 1) := by decide +kernel
theorem dX0_passYear_46 : decode cX0_passYear 46 = .ok (.getfield 110, 3) := by decide +kernel
theorem dX0_passYear_49 : decode cX0_passYear 49 = .ok (.iconst 0, 1) := by decide +kernel
theorem dX0_passYear_50 : decode cX0_passYear 50 = .ok (.iaload, 1) := by decide +kernel
theorem dX0_passYear_51 : decode cX0_passYear 51 = .ok (.ireturn, 1) := by decide +kernel
theorem dX0_liveYear_0 : decode cX0_liveYear 0 = .ok (.iconst 0, 1) := by decide +kernel
theorem dX0_liveYear_1 : decode cX0_liveYear 1 = .ok (.istore_n 3, 1) := by decide +kernel
theorem dX0_liveYear_2 : decode cX0_liveYear 2 = .ok (.iconst 0, 1) := by decide +kernel
theorem dX0_liveYear_3 : decode cX0_liveYear 3 = .ok (.istore 4, 2) := by decide +kernel
theorem dX0_liveYear_5 : decode cX0_liveYear 5 = .ok (.iload 4, 2) := by decide +kernel
theorem dX0_liveYear_7 : decode cX0_liveYear 7 = .ok (.aload_n 1, 1) := by decide +kernel
theorem dX0_liveYear_8 : decode cX0_liveYear 8 = .ok (.getfield 117, 3) := by decide +kernel
theorem dX0_liveYear_11 : decode cX0_liveYear 11 = .ok (.if_icmp .ge 90, 3) := by decide +kernel
theorem dX0_liveYear_14 : decode cX0_liveYear 14 = .ok (.aload_n 1, 1) := by decide +kernel
theorem dX0_liveYear_15 : decode cX0_liveYear 15 = .ok (.getfield 120, 3) := by decide +kernel
theorem dX0_liveYear_18 : decode cX0_liveYear 18 = .ok (.iload 4, 2) := by decide +kernel
theorem dX0_liveYear_20 : decode cX0_liveYear 20 = .ok (.iconst 0, 1) := by decide +kernel
theorem dX0_liveYear_21 : decode cX0_liveYear 21 = .ok (.aload_n 1, 1) := by decide +kernel
theorem dX0_liveYear_22 : decode cX0_liveYear 22 = .ok (.getfield 120, 3) := by decide +kernel
theorem dX0_liveYear_25 : decode cX0_liveYear 25 = .ok (.iload 4, 2) := by decide +kernel
theorem dX0_liveYear_27 : decode cX0_liveYear 27 = .ok (.iaload, 1) := by decide +kernel
theorem dX0_liveYear_28 : decode cX0_liveYear 28 = .ok (.aload_n 0, 1) := by decide +kernel
theorem dX0_liveYear_29 : decode cX0_liveYear 29 = .ok (.getfield 45, 3) := by decide +kernel
theorem dX0_liveYear_32 : decode cX0_liveYear 32 = .ok (.aload_n 2, 1) := by decide +kernel
theorem dX0_liveYear_33 : decode cX0_liveYear 33 = .ok (.aload_n 1, 1) := by decide +kernel
theorem dX0_liveYear_34 : decode cX0_liveYear 34 = .ok (.iload 4, 2) := by decide +kernel
theorem dX0_liveYear_36 : decode cX0_liveYear 36 = .ok (.invokevirtual 123, 3) := by decide +kernel
theorem dX0_liveYear_39 : decode cX0_liveYear 39 = .ok (.isub, 1) := by decide +kernel
theorem dX0_liveYear_40 : decode cX0_liveYear 40 = .ok (.invokestatic 126, 3) := by decide +kernel
theorem dX0_liveYear_43 : decode cX0_liveYear 43 = .ok (.iastore, 1) := by decide +kernel
theorem dX0_liveYear_44 : decode cX0_liveYear 44 = .ok (.aload_n 1, 1) := by decide +kernel
theorem dX0_liveYear_45 : decode cX0_liveYear 45 = .ok (.getfield 87, 3) := by decide +kernel
theorem dX0_liveYear_48 : decode cX0_liveYear 48 = .ok (.iload 4, 2) := by decide +kernel
theorem dX0_liveYear_50 : decode cX0_liveYear 50 = .ok (.iaload, 1) := by decide +kernel
theorem dX0_liveYear_51 : decode cX0_liveYear 51 = .ok (.iconst (-1), 1) := by decide +kernel
theorem dX0_liveYear_52 : decode cX0_liveYear 52 = .ok (.if_icmp .eq 43, 3) := by decide +kernel
theorem dX0_liveYear_55 : decode cX0_liveYear 55 = .ok (.aload_n 1, 1) := by decide +kernel
theorem dX0_liveYear_56 : decode cX0_liveYear 56 = .ok (.getfield 107, 3) := by decide +kernel
theorem dX0_liveYear_59 : decode cX0_liveYear 59 = .ok (.iload 4, 2) := by decide +kernel
theorem dX0_liveYear_61 : decode cX0_liveYear 61 = .ok (.dup2, 1) := by decide +kernel
theorem dX0_liveYear_62 : decode cX0_liveYear 62 = .ok (.iaload, 1) := by decide +kernel
theorem dX0_liveYear_63 : decode cX0_liveYear 63 = .ok (.iconst 1, 1) := by decide +kernel
theorem dX0_liveYear_64 : decode cX0_liveYear 64 = .ok (.isub, 1) := by decide +kernel
theorem dX0_liveYear_65 : decode cX0_liveYear 65 = .ok (.iastore, 1) := by decide +kernel
theorem dX0_liveYear_66 : decode cX0_liveYear 66 = .ok (.aload_n 1, 1) := by decide +kernel
theorem dX0_liveYear_67 : decode cX0_liveYear 67 = .ok (.getfield 107, 3) := by decide +kernel
theorem dX0_liveYear_70 : decode cX0_liveYear 70 = .ok (.iload 4, 2) := by decide +kernel
theorem dX0_liveYear_72 : decode cX0_liveYear 72 = .ok (.iaload, 1) := by decide +kernel
theorem dX0_liveYear_73 : decode cX0_liveYear 73 = .ok (.ifCond .gt 22, 3) := by decide +kernel
theorem dX0_liveYear_76 : decode cX0_liveYear 76 = .ok (.aload_n 1, 1) := by decide +kernel
theorem dX0_liveYear_77 : decode cX0_liveYear 77 = .ok (.getfield 107, 3) := by decide +kernel
theorem dX0_liveYear_80 : decode cX0_liveYear 80 = .ok (.iload 4, 2) := by decide +kernel
theorem dX0_liveYear_82 : decode cX0_liveYear 82 = .ok (.iconst 0, 1) := by decide +kernel
theorem dX0_liveYear_83 : decode cX0_liveYear 83 = .ok (.iastore, 1) := by decide +kernel
theorem dX0_liveYear_84 : decode cX0_liveYear 84 = .ok (.aload_n 1, 1) := by decide +kernel
theorem dX0_liveYear_85 : decode cX0_liveYear 85 = .ok (.getfield 87, 3) := by decide +kernel
theorem dX0_liveYear_88 : decode cX0_liveYear 88 = .ok (.iload 4, 2) := by decide +kernel
theorem dX0_liveYear_90 : decode cX0_liveYear 90 = .ok (.iconst (-1), 1) := by decide +kernel
theorem dX0_liveYear_91 : decode cX0_liveYear 91 = .ok (.iastore, 1) := by decide +kernel
theorem dX0_liveYear_92 : decode cX0_liveYear 92 = .ok (.iinc 3 1, 3) := by decide +kernel
theorem dX0_liveYear_95 : decode cX0_liveYear 95 = .ok (.iinc 4 1, 3) := by decide +kernel
theorem dX0_liveYear_98 : decode cX0_liveYear 98 = .ok (.goto (-93), 3) := by decide +kernel
theorem dX0_liveYear_101 : decode cX0_liveYear 101 = .ok (.aload_n 1, 1) := by decide +kernel
theorem dX0_liveYear_102 : decode cX0_liveYear 102 = .ok (.getfield 110, 3) := by decide +kernel
theorem dX0_liveYear_105 : decode cX0_liveYear 105 = .ok (.iconst 0, 1) := by decide +kernel
theorem dX0_liveYear_106 : decode cX0_liveYear 106 = .ok (.dup2, 1) := by decide +kernel
theorem dX0_liveYear_107 : decode cX0_liveYear 107 = .ok (.iaload, 1) := by decide +kernel
theorem dX0_liveYear_108 : decode cX0_liveYear 108 = .ok (.iconst 1, 1) := by decide +kernel
theorem dX0_liveYear_109 : decode cX0_liveYear 109 = .ok (.iadd, 1) := by decide +kernel
theorem dX0_liveYear_110 : decode cX0_liveYear 110 = .ok (.iastore, 1) := by decide +kernel
theorem dX0_liveYear_111 : decode cX0_liveYear 111 = .ok (.iload_n 3, 1) := by decide +kernel
theorem dX0_liveYear_112 : decode cX0_liveYear 112 = .ok (.ireturn, 1) := by decide +kernel
theorem dX0_beginOrders_0 : decode cX0_beginOrders 0 = .ok (.aload_n 0, 1) := by decide +kernel
theorem dX0_beginOrders_1 : decode cX0_beginOrders 1 = .ok (.iconst 0, 1) := by decide +kernel
theorem dX0_beginOrders_2 : decode cX0_beginOrders 2 = .ok (.putfield 34, 3) := by decide +kernel
theorem dX0_beginOrders_5 : decode cX0_beginOrders 5 = .ok (.aload_n 0, 1) := by decide +kernel
theorem dX0_beginOrders_6 : decode cX0_beginOrders 6 = .ok (.iconst (-1), 1) := by decide +kernel
theorem dX0_beginOrders_7 : decode cX0_beginOrders 7 = .ok (.putfield 38, 3) := by decide +kernel
theorem dX0_beginOrders_10 : decode cX0_beginOrders 10 = .ok (.aload_n 0, 1) := by decide +kernel
theorem dX0_beginOrders_11 : decode cX0_beginOrders 11 = .ok (.getfield 27, 3) := by decide +kernel
theorem dX0_beginOrders_14 : decode cX0_beginOrders 14 = .ok (.aload_n 0, 1) := by decide +kernel
theorem dX0_beginOrders_15 : decode cX0_beginOrders 15 = .ok (.getfield 41, 3) := by decide +kernel
theorem dX0_beginOrders_18 : decode cX0_beginOrders 18 = .ok (.getfield 53, 3) := by decide +kernel
theorem dX0_beginOrders_21 : decode cX0_beginOrders 21 = .ok (.invokevirtual 132, 3) := by decide +kernel
theorem dX0_beginOrders_24 : decode cX0_beginOrders 24 = .ok (.aload_n 0, 1) := by decide +kernel
theorem dX0_beginOrders_25 : decode cX0_beginOrders 25 = .ok (.getfield 31, 3) := by decide +kernel
theorem dX0_beginOrders_28 : decode cX0_beginOrders 28 = .ok (.aload_n 0, 1) := by decide +kernel
theorem dX0_beginOrders_29 : decode cX0_beginOrders 29 = .ok (.getfield 12, 3) := by decide +kernel
theorem dX0_beginOrders_32 : decode cX0_beginOrders 32 = .ok (.invokevirtual 136, 3) := by decide +kernel
theorem dX0_beginOrders_35 : decode cX0_beginOrders 35 = .ok (.return_, 1) := by decide +kernel
theorem dX0_dropOrders_0 : decode cX0_dropOrders 0 = .ok (.aload_n 0, 1) := by decide +kernel
theorem dX0_dropOrders_1 : decode cX0_dropOrders 1 = .ok (.getfield 41, 3) := by decide +kernel
theorem dX0_dropOrders_4 : decode cX0_dropOrders 4 = .ok (.getfield 53, 3) := by decide +kernel
theorem dX0_dropOrders_7 : decode cX0_dropOrders 7 = .ok (.aload_n 0, 1) := by decide +kernel
theorem dX0_dropOrders_8 : decode cX0_dropOrders 8 = .ok (.getfield 27, 3) := by decide +kernel
theorem dX0_dropOrders_11 : decode cX0_dropOrders 11 = .ok (.invokevirtual 132, 3) := by decide +kernel
theorem dX0_dropOrders_14 : decode cX0_dropOrders 14 = .ok (.aload_n 0, 1) := by decide +kernel
theorem dX0_dropOrders_15 : decode cX0_dropOrders 15 = .ok (.getfield 12, 3) := by decide +kernel
theorem dX0_dropOrders_18 : decode cX0_dropOrders 18 = .ok (.aload_n 0, 1) := by decide +kernel
theorem dX0_dropOrders_19 : decode cX0_dropOrders 19 = .ok (.getfield 31, 3) := by decide +kernel
theorem dX0_dropOrders_22 : decode cX0_dropOrders 22 = .ok (.invokevirtual 136, 3) := by decide +kernel
theorem dX0_dropOrders_25 : decode cX0_dropOrders 25 = .ok (.return_, 1) := by decide +kernel
theorem dX0_runOnce_0 : decode cX0_runOnce 0 = .ok (.aload_n 0, 1) := by decide +kernel
theorem dX0_runOnce_1 : decode cX0_runOnce 1 = .ok (.invokevirtual 139, 3) := by decide +kernel
theorem dX0_runOnce_4 : decode cX0_runOnce 4 = .ok (.iload_n 2, 1) := by decide +kernel
theorem dX0_runOnce_5 : decode cX0_runOnce 5 = .ok (.iconst 4, 1) := by decide +kernel
theorem dX0_runOnce_6 : decode cX0_runOnce 6 = .ok (.imul, 1) := by decide +kernel
theorem dX0_runOnce_7 : decode cX0_runOnce 7 = .ok (.istore_n 3, 1) := by decide +kernel
theorem dX0_runOnce_8 : decode cX0_runOnce 8 = .ok (.aload_n 0, 1) := by decide +kernel
theorem dX0_runOnce_9 : decode cX0_runOnce 9 = .ok (.getfield 49, 3) := by decide +kernel
theorem dX0_runOnce_12 : decode cX0_runOnce 12 = .ok (.aload_n 1, 1) := by decide +kernel
theorem dX0_runOnce_13 : decode cX0_runOnce 13 = .ok (.aload_n 1, 1) := by decide +kernel
theorem dX0_runOnce_14 : decode cX0_runOnce 14 = .ok (.getfield 142, 3) := by decide +kernel
theorem dX0_runOnce_17 : decode cX0_runOnce 17 = .ok (.iload_n 3, 1) := by decide +kernel
theorem dX0_runOnce_18 : decode cX0_runOnce 18 = .ok (.iconst 3, 1) := by decide +kernel
theorem dX0_runOnce_19 : decode cX0_runOnce 19 = .ok (.iadd, 1) := by decide +kernel
theorem dX0_runOnce_20 : decode cX0_runOnce 20 = .ok (.iaload, 1) := by decide +kernel
theorem dX0_runOnce_21 : decode cX0_runOnce 21 = .ok (.aload_n 0, 1) := by decide +kernel
theorem dX0_runOnce_22 : decode cX0_runOnce 22 = .ok (.getfield 20, 3) := by decide +kernel
theorem dX0_runOnce_25 : decode cX0_runOnce 25 = .ok (.invokevirtual 145, 3) := by decide +kernel
theorem dX0_runOnce_28 : decode cX0_runOnce 28 = .ok (.iconst 1, 1) := by decide +kernel
theorem dX0_runOnce_29 : decode cX0_runOnce 29 = .ok (.if_icmp .eq 5, 3) := by decide +kernel
theorem dX0_runOnce_32 : decode cX0_runOnce 32 = .ok (.iconst 1, 1) := by decide +kernel
theorem dX0_runOnce_33 : decode cX0_runOnce 33 = .ok (.ireturn, 1) := by decide +kernel
theorem dX0_runOnce_34 : decode cX0_runOnce 34 = .ok (.aload_n 0, 1) := by decide +kernel
theorem dX0_runOnce_35 : decode cX0_runOnce 35 = .ok (.getfield 49, 3) := by decide +kernel
theorem dX0_runOnce_38 : decode cX0_runOnce 38 = .ok (.aload_n 1, 1) := by decide +kernel
theorem dX0_runOnce_39 : decode cX0_runOnce 39 = .ok (.aload_n 1, 1) := by decide +kernel
theorem dX0_runOnce_40 : decode cX0_runOnce 40 = .ok (.getfield 142, 3) := by decide +kernel
theorem dX0_runOnce_43 : decode cX0_runOnce 43 = .ok (.iload_n 3, 1) := by decide +kernel
theorem dX0_runOnce_44 : decode cX0_runOnce 44 = .ok (.iaload, 1) := by decide +kernel
theorem dX0_runOnce_45 : decode cX0_runOnce 45 = .ok (.aload_n 0, 1) := by decide +kernel
theorem dX0_runOnce_46 : decode cX0_runOnce 46 = .ok (.getfield 20, 3) := by decide +kernel
theorem dX0_runOnce_49 : decode cX0_runOnce 49 = .ok (.invokevirtual 145, 3) := by decide +kernel
theorem dX0_runOnce_52 : decode cX0_runOnce 52 = .ok (.istore 4, 2) := by decide +kernel
theorem dX0_runOnce_54 : decode cX0_runOnce 54 = .ok (.aload_n 0, 1) := by decide +kernel
theorem dX0_runOnce_55 : decode cX0_runOnce 55 = .ok (.getfield 49, 3) := by decide +kernel
theorem dX0_runOnce_58 : decode cX0_runOnce 58 = .ok (.aload_n 1, 1) := by decide +kernel
theorem dX0_runOnce_59 : decode cX0_runOnce 59 = .ok (.aload_n 1, 1) := by decide +kernel
theorem dX0_runOnce_60 : decode cX0_runOnce 60 = .ok (.getfield 142, 3) := by decide +kernel
theorem dX0_runOnce_63 : decode cX0_runOnce 63 = .ok (.iload_n 3, 1) := by decide +kernel
theorem dX0_runOnce_64 : decode cX0_runOnce 64 = .ok (.iconst 1, 1) := by decide +kernel
theorem dX0_runOnce_65 : decode cX0_runOnce 65 = .ok (.iadd, 1) := by decide +kernel
theorem dX0_runOnce_66 : decode cX0_runOnce 66 = .ok (.iaload, 1) := by decide +kernel
theorem dX0_runOnce_67 : decode cX0_runOnce 67 = .ok (.aload_n 0, 1) := by decide +kernel
theorem dX0_runOnce_68 : decode cX0_runOnce 68 = .ok (.getfield 20, 3) := by decide +kernel
theorem dX0_runOnce_71 : decode cX0_runOnce 71 = .ok (.invokevirtual 145, 3) := by decide +kernel
theorem dX0_runOnce_74 : decode cX0_runOnce 74 = .ok (.istore 5, 2) := by decide +kernel
theorem dX0_runOnce_76 : decode cX0_runOnce 76 = .ok (.aload_n 0, 1) := by decide +kernel
theorem dX0_runOnce_77 : decode cX0_runOnce 77 = .ok (.getfield 49, 3) := by decide +kernel
theorem dX0_runOnce_80 : decode cX0_runOnce 80 = .ok (.aload_n 1, 1) := by decide +kernel
theorem dX0_runOnce_81 : decode cX0_runOnce 81 = .ok (.aload_n 1, 1) := by decide +kernel
theorem dX0_runOnce_82 : decode cX0_runOnce 82 = .ok (.getfield 142, 3) := by decide +kernel
theorem dX0_runOnce_85 : decode cX0_runOnce 85 = .ok (.iload_n 3, 1) := by decide +kernel
theorem dX0_runOnce_86 : decode cX0_runOnce 86 = .ok (.iconst 2, 1) := by decide +kernel
theorem dX0_runOnce_87 : decode cX0_runOnce 87 = .ok (.iadd, 1) := by decide +kernel
theorem dX0_runOnce_88 : decode cX0_runOnce 88 = .ok (.iaload, 1) := by decide +kernel
theorem dX0_runOnce_89 : decode cX0_runOnce 89 = .ok (.aload_n 0, 1) := by decide +kernel
theorem dX0_runOnce_90 : decode cX0_runOnce 90 = .ok (.getfield 20, 3) := by decide +kernel
theorem dX0_runOnce_93 : decode cX0_runOnce 93 = .ok (.invokevirtual 145, 3) := by decide +kernel
theorem dX0_runOnce_96 : decode cX0_runOnce 96 = .ok (.istore 6, 2) := by decide +kernel
theorem dX0_runOnce_98 : decode cX0_runOnce 98 = .ok (.iload 4, 2) := by decide +kernel
theorem dX0_runOnce_100 : decode cX0_runOnce 100 = .ok (.ldc 149, 2) := by decide +kernel
theorem dX0_runOnce_102 : decode cX0_runOnce 102 = .ok (.if_icmp .eq 17, 3) := by decide +kernel
theorem dX0_runOnce_105 : decode cX0_runOnce 105 = .ok (.iload 5, 2) := by decide +kernel
theorem dX0_runOnce_107 : decode cX0_runOnce 107 = .ok (.ldc 149, 2) := by decide +kernel
theorem dX0_runOnce_109 : decode cX0_runOnce 109 = .ok (.if_icmp .eq 10, 3) := by decide +kernel
theorem dX0_runOnce_112 : decode cX0_runOnce 112 = .ok (.iload 6, 2) := by decide +kernel
theorem dX0_runOnce_114 : decode cX0_runOnce 114 = .ok (.ldc 149, 2) := by decide +kernel
theorem dX0_runOnce_116 : decode cX0_runOnce 116 = .ok (.if_icmp .ne 5, 3) := by decide +kernel
theorem dX0_runOnce_119 : decode cX0_runOnce 119 = .ok (.iconst 0, 1) := by decide +kernel
theorem dX0_runOnce_120 : decode cX0_runOnce 120 = .ok (.ireturn, 1) := by decide +kernel
theorem dX0_runOnce_121 : decode cX0_runOnce 121 = .ok (.aload_n 1, 1) := by decide +kernel
theorem dX0_runOnce_122 : decode cX0_runOnce 122 = .ok (.getfield 150, 3) := by decide +kernel
theorem dX0_runOnce_125 : decode cX0_runOnce 125 = .ok (.iload_n 2, 1) := by decide +kernel
theorem dX0_runOnce_126 : decode cX0_runOnce 126 = .ok (.iaload, 1) := by decide +kernel
theorem dX0_runOnce_127 : decode cX0_runOnce 127 = .ok (.tableswitch 72 0 2 #[25, 40, 53], 25) := by decide +kernel
theorem dX0_runOnce_152 : decode cX0_runOnce 152 = .ok (.aload_n 0, 1) := by decide +kernel
theorem dX0_runOnce_153 : decode cX0_runOnce 153 = .ok (.iload 4, 2) := by decide +kernel
theorem dX0_runOnce_155 : decode cX0_runOnce 155 = .ok (.iload 5, 2) := by decide +kernel
theorem dX0_runOnce_157 : decode cX0_runOnce 157 = .ok (.iload 6, 2) := by decide +kernel
theorem dX0_runOnce_159 : decode cX0_runOnce 159 = .ok (.invokevirtual 153, 3) := by decide +kernel
theorem dX0_runOnce_162 : decode cX0_runOnce 162 = .ok (.istore 7, 2) := by decide +kernel
theorem dX0_runOnce_164 : decode cX0_runOnce 164 = .ok (.goto 41, 3) := by decide +kernel
theorem dX0_runOnce_167 : decode cX0_runOnce 167 = .ok (.aload_n 0, 1) := by decide +kernel
theorem dX0_runOnce_168 : decode cX0_runOnce 168 = .ok (.iload 4, 2) := by decide +kernel
theorem dX0_runOnce_170 : decode cX0_runOnce 170 = .ok (.iload 5, 2) := by decide +kernel
theorem dX0_runOnce_172 : decode cX0_runOnce 172 = .ok (.invokevirtual 157, 3) := by decide +kernel
theorem dX0_runOnce_175 : decode cX0_runOnce 175 = .ok (.istore 7, 2) := by decide +kernel
theorem dX0_runOnce_177 : decode cX0_runOnce 177 = .ok (.goto 28, 3) := by decide +kernel
theorem dX0_runOnce_180 : decode cX0_runOnce 180 = .ok (.aload_n 0, 1) := by decide +kernel
theorem dX0_runOnce_181 : decode cX0_runOnce 181 = .ok (.iload 4, 2) := by decide +kernel
theorem dX0_runOnce_183 : decode cX0_runOnce 183 = .ok (.iload 5, 2) := by decide +kernel
theorem dX0_runOnce_185 : decode cX0_runOnce 185 = .ok (.invokevirtual 160, 3) := by decide +kernel
theorem dX0_runOnce_188 : decode cX0_runOnce 188 = .ok (.istore 7, 2) := by decide +kernel
theorem dX0_runOnce_190 : decode cX0_runOnce 190 = .ok (.aload_n 0, 1) := by decide +kernel
theorem dX0_runOnce_191 : decode cX0_runOnce 191 = .ok (.iload 7, 2) := by decide +kernel
theorem dX0_runOnce_193 : decode cX0_runOnce 193 = .ok (.putfield 38, 3) := by decide +kernel
theorem dX0_runOnce_196 : decode cX0_runOnce 196 = .ok (.goto 9, 3) := by decide +kernel
theorem dX0_runOnce_199 : decode cX0_runOnce 199 = .ok (.aload_n 0, 1) := by decide +kernel
theorem dX0_runOnce_200 : decode cX0_runOnce 200 = .ok (.invokevirtual 163, 3) := by decide +kernel
theorem dX0_runOnce_203 : decode cX0_runOnce 203 = .ok (.istore 7, 2) := by decide +kernel
theorem dX0_runOnce_205 : decode cX0_runOnce 205 = .ok (.aload_n 0, 1) := by decide +kernel
theorem dX0_runOnce_206 : decode cX0_runOnce 206 = .ok (.dup, 1) := by decide +kernel
theorem dX0_runOnce_207 : decode cX0_runOnce 207 = .ok (.getfield 34, 3) := by decide +kernel
theorem dX0_runOnce_210 : decode cX0_runOnce 210 = .ok (.iconst 1, 1) := by decide +kernel
theorem dX0_runOnce_211 : decode cX0_runOnce 211 = .ok (.iadd, 1) := by decide +kernel
theorem dX0_runOnce_212 : decode cX0_runOnce 212 = .ok (.putfield 34, 3) := by decide +kernel
theorem dX0_runOnce_215 : decode cX0_runOnce 215 = .ok (.iload 7, 2) := by decide +kernel
theorem dX0_runOnce_217 : decode cX0_runOnce 217 = .ok (.ifCond .lt 7, 3) := by decide +kernel
theorem dX0_runOnce_220 : decode cX0_runOnce 220 = .ok (.iconst 1, 1) := by decide +kernel
theorem dX0_runOnce_221 : decode cX0_runOnce 221 = .ok (.goto 4, 3) := by decide +kernel
theorem dX0_runOnce_224 : decode cX0_runOnce 224 = .ok (.iconst 0, 1) := by decide +kernel
theorem dX0_runOnce_225 : decode cX0_runOnce 225 = .ok (.ireturn, 1) := by decide +kernel
theorem dX0_lookAround_0 : decode cX0_lookAround 0 = .ok (.aload_n 0, 1) := by decide +kernel
theorem dX0_lookAround_1 : decode cX0_lookAround 1 = .ok (.getfield 41, 3) := by decide +kernel
theorem dX0_lookAround_4 : decode cX0_lookAround 4 = .ok (.getfield 53, 3) := by decide +kernel
theorem dX0_lookAround_7 : decode cX0_lookAround 7 = .ok (.astore_n 1, 1) := by decide +kernel
theorem dX0_lookAround_8 : decode cX0_lookAround 8 = .ok (.aload_n 0, 1) := by decide +kernel
theorem dX0_lookAround_9 : decode cX0_lookAround 9 = .ok (.getfield 20, 3) := by decide +kernel
theorem dX0_lookAround_12 : decode cX0_lookAround 12 = .ok (.bipush 7, 2) := by decide +kernel
theorem dX0_lookAround_14 : decode cX0_lookAround 14 = .ok (.aload_n 1, 1) := by decide +kernel
theorem dX0_lookAround_15 : decode cX0_lookAround 15 = .ok (.getfield 110, 3) := by decide +kernel
theorem dX0_lookAround_18 : decode cX0_lookAround 18 = .ok (.iconst 0, 1) := by decide +kernel
theorem dX0_lookAround_19 : decode cX0_lookAround 19 = .ok (.iaload, 1) := by decide +kernel
theorem dX0_lookAround_20 : decode cX0_lookAround 20 = .ok (.iastore, 1) := by decide +kernel
theorem dX0_lookAround_21 : decode cX0_lookAround 21 = .ok (.aload_n 0, 1) := by decide +kernel
theorem dX0_lookAround_22 : decode cX0_lookAround 22 = .ok (.getfield 20, 3) := by decide +kernel
theorem dX0_lookAround_25 : decode cX0_lookAround 25 = .ok (.bipush 9, 2) := by decide +kernel
theorem dX0_lookAround_27 : decode cX0_lookAround 27 = .ok (.aload_n 0, 1) := by decide +kernel
theorem dX0_lookAround_28 : decode cX0_lookAround 28 = .ok (.getfield 34, 3) := by decide +kernel
theorem dX0_lookAround_31 : decode cX0_lookAround 31 = .ok (.iastore, 1) := by decide +kernel
theorem dX0_lookAround_32 : decode cX0_lookAround 32 = .ok (.aload_n 0, 1) := by decide +kernel
theorem dX0_lookAround_33 : decode cX0_lookAround 33 = .ok (.getfield 20, 3) := by decide +kernel
theorem dX0_lookAround_36 : decode cX0_lookAround 36 = .ok (.bipush 10, 2) := by decide +kernel
theorem dX0_lookAround_38 : decode cX0_lookAround 38 = .ok (.aload_n 0, 1) := by decide +kernel
theorem dX0_lookAround_39 : decode cX0_lookAround 39 = .ok (.getfield 38, 3) := by decide +kernel
theorem dX0_lookAround_42 : decode cX0_lookAround 42 = .ok (.iastore, 1) := by decide +kernel
theorem dX0_lookAround_43 : decode cX0_lookAround 43 = .ok (.aload_n 0, 1) := by decide +kernel
theorem dX0_lookAround_44 : decode cX0_lookAround 44 = .ok (.getfield 20, 3) := by decide +kernel
theorem dX0_lookAround_47 : decode cX0_lookAround 47 = .ok (.bipush 11, 2) := by decide +kernel
theorem dX0_lookAround_49 : decode cX0_lookAround 49 = .ok (.aload_n 1, 1) := by decide +kernel
theorem dX0_lookAround_50 : decode cX0_lookAround 50 = .ok (.invokevirtual 167, 3) := by decide +kernel
theorem dX0_lookAround_53 : decode cX0_lookAround 53 = .ok (.iastore, 1) := by decide +kernel
theorem dX0_lookAround_54 : decode cX0_lookAround 54 = .ok (.iconst 0, 1) := by decide +kernel
theorem dX0_lookAround_55 : decode cX0_lookAround 55 = .ok (.istore_n 2, 1) := by decide +kernel
theorem dX0_lookAround_56 : decode cX0_lookAround 56 = .ok (.iload_n 2, 1) := by decide +kernel
theorem dX0_lookAround_57 : decode cX0_lookAround 57 = .ok (.bipush 6, 2) := by decide +kernel
theorem dX0_lookAround_59 : decode cX0_lookAround 59 = .ok (.if_icmp .ge 60, 3) := by decide +kernel
theorem dX0_lookAround_62 : decode cX0_lookAround 62 = .ok (.aload_n 1, 1) := by decide +kernel
theorem dX0_lookAround_63 : decode cX0_lookAround 63 = .ok (.iload_n 2, 1) := by decide +kernel
theorem dX0_lookAround_64 : decode cX0_lookAround 64 = .ok (.invokevirtual 65, 3) := by decide +kernel
theorem dX0_lookAround_67 : decode cX0_lookAround 67 = .ok (.istore_n 3, 1) := by decide +kernel
theorem dX0_lookAround_68 : decode cX0_lookAround 68 = .ok (.aload_n 0, 1) := by decide +kernel
theorem dX0_lookAround_69 : decode cX0_lookAround 69 = .ok (.getfield 20, 3) := by decide +kernel
theorem dX0_lookAround_72 : decode cX0_lookAround 72 = .ok (.bipush 12, 2) := by decide +kernel
theorem dX0_lookAround_74 : decode cX0_lookAround 74 = .ok (.iload_n 2, 1) := by decide +kernel
theorem dX0_lookAround_75 : decode cX0_lookAround 75 = .ok (.iadd, 1) := by decide +kernel
theorem dX0_lookAround_76 : decode cX0_lookAround 76 = .ok (.iload_n 3, 1) := by decide +kernel
theorem dX0_lookAround_77 : decode cX0_lookAround 77 = .ok (.ifCond .eq 12, 3) := by decide +kernel
theorem dX0_lookAround_80 : decode cX0_lookAround 80 = .ok (.aload_n 1, 1) := by decide +kernel
theorem dX0_lookAround_81 : decode cX0_lookAround 81 = .ok (.getfield 107, 3) := by decide +kernel
theorem dX0_lookAround_84 : decode cX0_lookAround 84 = .ok (.iload_n 2, 1) := by decide +kernel
theorem dX0_lookAround_85 : decode cX0_lookAround 85 = .ok (.iaload, 1) := by decide +kernel
theorem dX0_lookAround_86 : decode cX0_lookAround 86 = .ok (.goto 4, 3) := by decide +kernel
theorem dX0_lookAround_89 : decode cX0_lookAround 89 = .ok (.iconst (-1), 1) := by decide +kernel
theorem dX0_lookAround_90 : decode cX0_lookAround 90 = .ok (.iastore, 1) := by decide +kernel
theorem dX0_lookAround_91 : decode cX0_lookAround 91 = .ok (.aload_n 0, 1) := by decide +kernel
theorem dX0_lookAround_92 : decode cX0_lookAround 92 = .ok (.getfield 20, 3) := by decide +kernel
theorem dX0_lookAround_95 : decode cX0_lookAround 95 = .ok (.bipush 18, 2) := by decide +kernel
theorem dX0_lookAround_97 : decode cX0_lookAround 97 = .ok (.iload_n 2, 1) := by decide +kernel
theorem dX0_lookAround_98 : decode cX0_lookAround 98 = .ok (.iadd, 1) := by decide +kernel
theorem dX0_lookAround_99 : decode cX0_lookAround 99 = .ok (.iload_n 3, 1) := by decide +kernel
theorem dX0_lookAround_100 : decode cX0_lookAround 100 = .ok (.ifCond .eq 11, 3) := by decide +kernel
theorem dX0_lookAround_103 : decode cX0_lookAround 103 = .ok (.aload_n 1, 1) := by decide +kernel
theorem dX0_lookAround_104 : decode cX0_lookAround 104 = .ok (.iload_n 2, 1) := by decide +kernel
theorem dX0_lookAround_105 : decode cX0_lookAround 105 = .ok (.invokevirtual 77, 3) := by decide +kernel
theorem dX0_lookAround_108 : decode cX0_lookAround 108 = .ok (.goto 4, 3) := by decide +kernel
theorem dX0_lookAround_111 : decode cX0_lookAround 111 = .ok (.iconst (-1), 1) := by decide +kernel
theorem dX0_lookAround_112 : decode cX0_lookAround 112 = .ok (.iastore, 1) := by decide +kernel
theorem dX0_lookAround_113 : decode cX0_lookAround 113 = .ok (.iinc 2 1, 3) := by decide +kernel
theorem dX0_lookAround_116 : decode cX0_lookAround 116 = .ok (.goto (-60), 3) := by decide +kernel
theorem dX0_lookAround_119 : decode cX0_lookAround 119 = .ok (.return_, 1) := by decide +kernel
theorem dX1_init_0 : decode cX1_init 0 = .ok (.aload_n 0, 1) := by decide +kernel
theorem dX1_init_1 : decode cX1_init 1 = .ok (.invokespecial 3, 3) := by decide +kernel
theorem dX1_init_4 : decode cX1_init 4 = .ok (.aload_n 0, 1) := by decide +kernel
theorem dX1_init_5 : decode cX1_init 5 = .ok (.new 9, 3) := by decide +kernel
theorem dX1_init_8 : decode cX1_init 8 = .ok (.dup, 1) := by decide +kernel
theorem dX1_init_9 : decode cX1_init 9 = .ok (.invokespecial 11, 3) := by decide +kernel
theorem dX1_init_12 : decode cX1_init 12 = .ok (.putfield 12, 3) := by decide +kernel
theorem dX1_init_15 : decode cX1_init 15 = .ok (.aload_n 0, 1) := by decide +kernel
theorem dX1_init_16 : decode cX1_init 16 = .ok (.iconst 0, 1) := by decide +kernel
theorem dX1_init_17 : decode cX1_init 17 = .ok (.putfield 18, 3) := by decide +kernel
theorem dX1_init_20 : decode cX1_init 20 = .ok (.aload_n 0, 1) := by decide +kernel
theorem dX1_init_21 : decode cX1_init 21 = .ok (.aload_n 1, 1) := by decide +kernel
theorem dX1_init_22 : decode cX1_init 22 = .ok (.putfield 22, 3) := by decide +kernel
theorem dX1_init_25 : decode cX1_init 25 = .ok (.return_, 1) := by decide +kernel
theorem dX1_live_0 : decode cX1_live 0 = .ok (.aload_n 0, 1) := by decide +kernel
theorem dX1_live_1 : decode cX1_live 1 = .ok (.getfield 12, 3) := by decide +kernel
theorem dX1_live_4 : decode cX1_live 4 = .ok (.aload_n 1, 1) := by decide +kernel
theorem dX1_live_5 : decode cX1_live 5 = .ok (.getfield 26, 3) := by decide +kernel
theorem dX1_live_8 : decode cX1_live 8 = .ok (.invokevirtual 29, 3) := by decide +kernel
theorem dX1_live_11 : decode cX1_live 11 = .ok (.aload_n 0, 1) := by decide +kernel
theorem dX1_live_12 : decode cX1_live 12 = .ok (.iload_n 2, 1) := by decide +kernel
theorem dX1_live_13 : decode cX1_live 13 = .ok (.putfield 18, 3) := by decide +kernel
theorem dX1_live_16 : decode cX1_live 16 = .ok (.iconst 0, 1) := by decide +kernel
theorem dX1_live_17 : decode cX1_live 17 = .ok (.istore 4, 2) := by decide +kernel
theorem dX1_live_19 : decode cX1_live 19 = .ok (.iconst 0, 1) := by decide +kernel
theorem dX1_live_20 : decode cX1_live 20 = .ok (.istore 5, 2) := by decide +kernel
theorem dX1_live_22 : decode cX1_live 22 = .ok (.iload 5, 2) := by decide +kernel
theorem dX1_live_24 : decode cX1_live 24 = .ok (.iload_n 3, 1) := by decide +kernel
theorem dX1_live_25 : decode cX1_live 25 = .ok (.if_icmp .ge 88, 3) := by decide +kernel
theorem dX1_live_28 : decode cX1_live 28 = .ok (.aload_n 0, 1) := by decide +kernel
theorem dX1_live_29 : decode cX1_live 29 = .ok (.getfield 12, 3) := by decide +kernel
theorem dX1_live_32 : decode cX1_live 32 = .ok (.getfield 33, 3) := by decide +kernel
theorem dX1_live_35 : decode cX1_live 35 = .ok (.iconst 0, 1) := by decide +kernel
theorem dX1_live_36 : decode cX1_live 36 = .ok (.iaload, 1) := by decide +kernel
theorem dX1_live_37 : decode cX1_live 37 = .ok (.sipush 999, 3) := by decide +kernel
theorem dX1_live_40 : decode cX1_live 40 = .ok (.if_icmp .ge 73, 3) := by decide +kernel
theorem dX1_live_43 : decode cX1_live 43 = .ok (.aload_n 0, 1) := by decide +kernel
theorem dX1_live_44 : decode cX1_live 44 = .ok (.aload_n 0, 1) := by decide +kernel
theorem dX1_live_45 : decode cX1_live 45 = .ok (.getfield 12, 3) := by decide +kernel
theorem dX1_live_48 : decode cX1_live 48 = .ok (.getfield 37, 3) := by decide +kernel
theorem dX1_live_51 : decode cX1_live 51 = .ok (.invokevirtual 40, 3) := by decide +kernel
theorem dX1_live_54 : decode cX1_live 54 = .ok (.istore 6, 2) := by decide +kernel
theorem dX1_live_56 : decode cX1_live 56 = .ok (.aload_n 0, 1) := by decide +kernel
theorem dX1_live_57 : decode cX1_live 57 = .ok (.bipush 8, 2) := by decide +kernel
theorem dX1_live_59 : decode cX1_live 59 = .ok (.invokevirtual 40, 3) := by decide +kernel
theorem dX1_live_62 : decode cX1_live 62 = .ok (.istore 7, 2) := by decide +kernel
theorem dX1_live_64 : decode cX1_live 64 = .ok (.aload_n 0, 1) := by decide +kernel
theorem dX1_live_65 : decode cX1_live 65 = .ok (.bipush 8, 2) := by decide +kernel
theorem dX1_live_67 : decode cX1_live 67 = .ok (.invokevirtual 40, 3) := by decide +kernel
theorem dX1_live_70 : decode cX1_live 70 = .ok (.istore 8, 2) := by decide +kernel
theorem dX1_live_72 : decode cX1_live 72 = .ok (.aload_n 0, 1) := by decide +kernel
theorem dX1_live_73 : decode cX1_live 73 = .ok (.iload 6, 2) := by decide +kernel
theorem dX1_live_75 : decode cX1_live 75 = .ok (.iload 7, 2) := by decide +kernel
theorem dX1_live_77 : decode cX1_live 77 = .ok (.iload 8, 2) := by decide +kernel
theorem dX1_live_79 : decode cX1_live 79 = .ok (.aload_n 0, 1) := by decide +kernel
theorem dX1_live_80 : decode cX1_live 80 = .ok (.iconst 3, 1) := by decide +kernel
theorem dX1_live_81 : decode cX1_live 81 = .ok (.invokevirtual 40, 3) := by decide +kernel
theorem dX1_live_84 : decode cX1_live 84 = .ok (.invokevirtual 44, 3) := by decide +kernel
theorem dX1_live_87 : decode cX1_live 87 = .ok (.iload 4, 2) := by decide +kernel
theorem dX1_live_89 : decode cX1_live 89 = .ok (.aload_n 0, 1) := by decide +kernel
theorem dX1_live_90 : decode cX1_live 90 = .ok (.getfield 22, 3) := by decide +kernel
theorem dX1_live_93 : decode cX1_live 93 = .ok (.aload_n 0, 1) := by decide +kernel
theorem dX1_live_94 : decode cX1_live 94 = .ok (.getfield 12, 3) := by decide +kernel
theorem dX1_live_97 : decode cX1_live 97 = .ok (.aload_n 1, 1) := by decide +kernel
theorem dX1_live_98 : decode cX1_live 98 = .ok (.invokevirtual 48, 3) := by decide +kernel
theorem dX1_live_101 : decode cX1_live 101 = .ok (.invokevirtual 52, 3) := by decide +kernel
theorem dX1_live_104 : decode cX1_live 104 = .ok (.iadd, 1) := by decide +kernel
theorem dX1_live_105 : decode cX1_live 105 = .ok (.istore 4, 2) := by decide +kernel
theorem dX1_live_107 : decode cX1_live 107 = .ok (.iinc 5 1, 3) := by decide +kernel
theorem dX1_live_110 : decode cX1_live 110 = .ok (.goto (-88), 3) := by decide +kernel
theorem dX1_live_113 : decode cX1_live 113 = .ok (.iload 4, 2) := by decide +kernel
theorem dX1_live_115 : decode cX1_live 115 = .ok (.ireturn, 1) := by decide +kernel
theorem dX1_draw_0 : decode cX1_draw 0 = .ok (.aload_n 0, 1) := by decide +kernel
theorem dX1_draw_1 : decode cX1_draw 1 = .ok (.aload_n 0, 1) := by decide +kernel
theorem dX1_draw_2 : decode cX1_draw 2 = .ok (.getfield 18, 3) := by decide +kernel
theorem dX1_draw_5 : decode cX1_draw 5 = .ok (.i2l, 1) := by decide +kernel
theorem dX1_draw_6 : decode cX1_draw 6 = .ok (.ldc2_w 58, 3) := by decide +kernel
theorem dX1_draw_9 : decode cX1_draw 9 = .ok (.lmul, 1) := by decide +kernel
theorem dX1_draw_10 : decode cX1_draw 10 = .ok (.ldc2_w 60, 3) := by decide +kernel
theorem dX1_draw_13 : decode cX1_draw 13 = .ok (.ladd, 1) := by decide +kernel
theorem dX1_draw_14 : decode cX1_draw 14 = .ok (.ldc2_w 62, 3) := by decide +kernel
theorem dX1_draw_17 : decode cX1_draw 17 = .ok (.lrem, 1) := by decide +kernel
theorem dX1_draw_18 : decode cX1_draw 18 = .ok (.l2i, 1) := by decide +kernel
theorem dX1_draw_19 : decode cX1_draw 19 = .ok (.putfield 18, 3) := by decide +kernel
theorem dX1_draw_22 : decode cX1_draw 22 = .ok (.iload_n 1, 1) := by decide +kernel
theorem dX1_draw_23 : decode cX1_draw 23 = .ok (.ifCond .le 12, 3) := by decide +kernel
theorem dX1_draw_26 : decode cX1_draw 26 = .ok (.aload_n 0, 1) := by decide +kernel
theorem dX1_draw_27 : decode cX1_draw 27 = .ok (.getfield 18, 3) := by decide +kernel
theorem dX1_draw_30 : decode cX1_draw 30 = .ok (.iload_n 1, 1) := by decide +kernel
theorem dX1_draw_31 : decode cX1_draw 31 = .ok (.irem, 1) := by decide +kernel
theorem dX1_draw_32 : decode cX1_draw 32 = .ok (.goto 4, 3) := by decide +kernel
theorem dX1_draw_35 : decode cX1_draw 35 = .ok (.iconst 0, 1) := by decide +kernel
theorem dX1_draw_36 : decode cX1_draw 36 = .ok (.ireturn, 1) := by decide +kernel
theorem dX1_touch_0 : decode cX1_touch 0 = .ok (.iload 4, 2) := by decide +kernel
theorem dX1_touch_2 : decode cX1_touch 2 = .ok (.lookupswitch 69 #[(0, 26), (1, 51)], 26) := by decide +kernel
theorem dX1_touch_28 : decode cX1_touch 28 = .ok (.aload_n 0, 1) := by decide +kernel
theorem dX1_touch_29 : decode cX1_touch 29 = .ok (.getfield 12, 3) := by decide +kernel
theorem dX1_touch_32 : decode cX1_touch 32 = .ok (.getfield 64, 3) := by decide +kernel
theorem dX1_touch_35 : decode cX1_touch 35 = .ok (.iload_n 1, 1) := by decide +kernel
theorem dX1_touch_36 : decode cX1_touch 36 = .ok (.bipush 8, 2) := by decide +kernel
theorem dX1_touch_38 : decode cX1_touch 38 = .ok (.imul, 1) := by decide +kernel
theorem dX1_touch_39 : decode cX1_touch 39 = .ok (.iload_n 2, 1) := by decide +kernel
theorem dX1_touch_40 : decode cX1_touch 40 = .ok (.iadd, 1) := by decide +kernel
theorem dX1_touch_41 : decode cX1_touch 41 = .ok (.dup2, 1) := by decide +kernel
theorem dX1_touch_42 : decode cX1_touch 42 = .ok (.iaload, 1) := by decide +kernel
theorem dX1_touch_43 : decode cX1_touch 43 = .ok (.iconst 1, 1) := by decide +kernel
theorem dX1_touch_44 : decode cX1_touch 44 = .ok (.iload_n 3, 1) := by decide +kernel
theorem dX1_touch_45 : decode cX1_touch 45 = .ok (.ishl, 1) := by decide +kernel
theorem dX1_touch_46 : decode cX1_touch 46 = .ok (.iconst (-1), 1) := by decide +kernel
theorem dX1_touch_47 : decode cX1_touch 47 = .ok (.ixor, 1) := by decide +kernel
theorem dX1_touch_48 : decode cX1_touch 48 = .ok (.iand, 1) := by decide +kernel
theorem dX1_touch_49 : decode cX1_touch 49 = .ok (.iastore, 1) := by decide +kernel
theorem dX1_touch_50 : decode cX1_touch 50 = .ok (.goto 45, 3) := by decide +kernel
theorem dX1_touch_53 : decode cX1_touch 53 = .ok (.aload_n 0, 1) := by decide +kernel
theorem dX1_touch_54 : decode cX1_touch 54 = .ok (.getfield 12, 3) := by decide +kernel
theorem dX1_touch_57 : decode cX1_touch 57 = .ok (.getfield 67, 3) := by decide +kernel
theorem dX1_touch_60 : decode cX1_touch 60 = .ok (.iload_n 1, 1) := by decide +kernel
theorem dX1_touch_61 : decode cX1_touch 61 = .ok (.dup2, 1) := by decide +kernel
theorem dX1_touch_62 : decode cX1_touch 62 = .ok (.iaload, 1) := by decide +kernel
theorem dX1_touch_63 : decode cX1_touch 63 = .ok (.iconst 1, 1) := by decide +kernel
theorem dX1_touch_64 : decode cX1_touch 64 = .ok (.iload_n 3, 1) := by decide +kernel
theorem dX1_touch_65 : decode cX1_touch 65 = .ok (.ishl, 1) := by decide +kernel
theorem dX1_touch_66 : decode cX1_touch 66 = .ok (.ior, 1) := by decide +kernel
theorem dX1_touch_67 : decode cX1_touch 67 = .ok (.iastore, 1) := by decide +kernel
theorem dX1_touch_68 : decode cX1_touch 68 = .ok (.goto 27, 3) := by decide +kernel
theorem dX1_touch_71 : decode cX1_touch 71 = .ok (.aload_n 0, 1) := by decide +kernel
theorem dX1_touch_72 : decode cX1_touch 72 = .ok (.getfield 12, 3) := by decide +kernel
theorem dX1_touch_75 : decode cX1_touch 75 = .ok (.getfield 70, 3) := by decide +kernel
theorem dX1_touch_78 : decode cX1_touch 78 = .ok (.iload_n 1, 1) := by decide +kernel
theorem dX1_touch_79 : decode cX1_touch 79 = .ok (.iconst 0, 1) := by decide +kernel
theorem dX1_touch_80 : decode cX1_touch 80 = .ok (.aload_n 0, 1) := by decide +kernel
theorem dX1_touch_81 : decode cX1_touch 81 = .ok (.getfield 12, 3) := by decide +kernel
theorem dX1_touch_84 : decode cX1_touch 84 = .ok (.getfield 70, 3) := by decide +kernel
theorem dX1_touch_87 : decode cX1_touch 87 = .ok (.iload_n 1, 1) := by decide +kernel
theorem dX1_touch_88 : decode cX1_touch 88 = .ok (.iaload, 1) := by decide +kernel
theorem dX1_touch_89 : decode cX1_touch 89 = .ok (.iconst 1, 1) := by decide +kernel
theorem dX1_touch_90 : decode cX1_touch 90 = .ok (.isub, 1) := by decide +kernel
theorem dX1_touch_91 : decode cX1_touch 91 = .ok (.invokestatic 73, 3) := by decide +kernel
theorem dX1_touch_94 : decode cX1_touch 94 = .ok (.iastore, 1) := by decide +kernel
theorem dX1_touch_95 : decode cX1_touch 95 = .ok (.return_, 1) := by decide +kernel
theorem dX2_init_0 : decode cX2_init 0 = .ok (.aload_n 0, 1) := by decide +kernel
theorem dX2_init_1 : decode cX2_init 1 = .ok (.invokespecial 3, 3) := by decide +kernel
theorem dX2_init_4 : decode cX2_init 4 = .ok (.aload_n 0, 1) := by decide +kernel
theorem dX2_init_5 : decode cX2_init 5 = .ok (.iconst 0, 1) := by decide +kernel
theorem dX2_init_6 : decode cX2_init 6 = .ok (.putfield 9, 3) := by decide +kernel
theorem dX2_init_9 : decode cX2_init 9 = .ok (.aload_n 0, 1) := by decide +kernel
theorem dX2_init_10 : decode cX2_init 10 = .ok (.iconst 0, 1) := by decide +kernel
theorem dX2_init_11 : decode cX2_init 11 = .ok (.putfield 15, 3) := by decide +kernel
theorem dX2_init_14 : decode cX2_init 14 = .ok (.aload_n 0, 1) := by decide +kernel
theorem dX2_init_15 : decode cX2_init 15 = .ok (.bipush 16, 2) := by decide +kernel
theorem dX2_init_17 : decode cX2_init 17 = .ok (.newarray .int, 2) := by decide +kernel
theorem dX2_init_19 : decode cX2_init 19 = .ok (.putfield 18, 3) := by decide +kernel
theorem dX2_init_22 : decode cX2_init 22 = .ok (.aload_n 0, 1) := by decide +kernel
theorem dX2_init_23 : decode cX2_init 23 = .ok (.bipush 16, 2) := by decide +kernel
theorem dX2_init_25 : decode cX2_init 25 = .ok (.anewarray 22, 3) := by decide +kernel
theorem dX2_init_28 : decode cX2_init 28 = .ok (.putfield 24, 3) := by decide +kernel
theorem dX2_init_31 : decode cX2_init 31 = .ok (.iconst 0, 1) := by decide +kernel
theorem dX2_init_32 : decode cX2_init 32 = .ok (.istore_n 1, 1) := by decide +kernel
theorem dX2_init_33 : decode cX2_init 33 = .ok (.iload_n 1, 1) := by decide +kernel
theorem dX2_init_34 : decode cX2_init 34 = .ok (.bipush 16, 2) := by decide +kernel
theorem dX2_init_36 : decode cX2_init 36 = .ok (.if_icmp .ge 22, 3) := by decide +kernel
theorem dX2_init_39 : decode cX2_init 39 = .ok (.aload_n 0, 1) := by decide +kernel
theorem dX2_init_40 : decode cX2_init 40 = .ok (.getfield 24, 3) := by decide +kernel
theorem dX2_init_43 : decode cX2_init 43 = .ok (.iload_n 1, 1) := by decide +kernel
theorem dX2_init_44 : decode cX2_init 44 = .ok (.new 22, 3) := by decide +kernel
theorem dX2_init_47 : decode cX2_init 47 = .ok (.dup, 1) := by decide +kernel
theorem dX2_init_48 : decode cX2_init 48 = .ok (.invokespecial 28, 3) := by decide +kernel
theorem dX2_init_51 : decode cX2_init 51 = .ok (.aastore, 1) := by decide +kernel
theorem dX2_init_52 : decode cX2_init 52 = .ok (.iinc 1 1, 3) := by decide +kernel
theorem dX2_init_55 : decode cX2_init 55 = .ok (.goto (-22), 3) := by decide +kernel
theorem dX2_init_58 : decode cX2_init 58 = .ok (.return_, 1) := by decide +kernel
theorem dX2_clear_0 : decode cX2_clear 0 = .ok (.aload_n 0, 1) := by decide +kernel
theorem dX2_clear_1 : decode cX2_clear 1 = .ok (.iconst 0, 1) := by decide +kernel
theorem dX2_clear_2 : decode cX2_clear 2 = .ok (.putfield 9, 3) := by decide +kernel
theorem dX2_clear_5 : decode cX2_clear 5 = .ok (.return_, 1) := by decide +kernel
theorem dX2_put_0 : decode cX2_put 0 = .ok (.aload_n 0, 1) := by decide +kernel
theorem dX2_put_1 : decode cX2_put 1 = .ok (.getfield 15, 3) := by decide +kernel
theorem dX2_put_4 : decode cX2_put 4 = .ok (.aload_n 0, 1) := by decide +kernel
theorem dX2_put_5 : decode cX2_put 5 = .ok (.getfield 9, 3) := by decide +kernel
theorem dX2_put_8 : decode cX2_put 8 = .ok (.iadd, 1) := by decide +kernel
theorem dX2_put_9 : decode cX2_put 9 = .ok (.bipush 16, 2) := by decide +kernel
theorem dX2_put_11 : decode cX2_put 11 = .ok (.irem, 1) := by decide +kernel
theorem dX2_put_12 : decode cX2_put 12 = .ok (.istore_n 3, 1) := by decide +kernel
theorem dX2_put_13 : decode cX2_put 13 = .ok (.aload_n 0, 1) := by decide +kernel
theorem dX2_put_14 : decode cX2_put 14 = .ok (.getfield 9, 3) := by decide +kernel
theorem dX2_put_17 : decode cX2_put 17 = .ok (.bipush 16, 2) := by decide +kernel
theorem dX2_put_19 : decode cX2_put 19 = .ok (.if_icmp .ge 16, 3) := by decide +kernel
theorem dX2_put_22 : decode cX2_put 22 = .ok (.aload_n 0, 1) := by decide +kernel
theorem dX2_put_23 : decode cX2_put 23 = .ok (.dup, 1) := by decide +kernel
theorem dX2_put_24 : decode cX2_put 24 = .ok (.getfield 9, 3) := by decide +kernel
theorem dX2_put_27 : decode cX2_put 27 = .ok (.iconst 1, 1) := by decide +kernel
theorem dX2_put_28 : decode cX2_put 28 = .ok (.iadd, 1) := by decide +kernel
theorem dX2_put_29 : decode cX2_put 29 = .ok (.putfield 9, 3) := by decide +kernel
theorem dX2_put_32 : decode cX2_put 32 = .ok (.goto 16, 3) := by decide +kernel
theorem dX2_put_35 : decode cX2_put 35 = .ok (.aload_n 0, 1) := by decide +kernel
theorem dX2_put_36 : decode cX2_put 36 = .ok (.aload_n 0, 1) := by decide +kernel
theorem dX2_put_37 : decode cX2_put 37 = .ok (.getfield 15, 3) := by decide +kernel
theorem dX2_put_40 : decode cX2_put 40 = .ok (.iconst 1, 1) := by decide +kernel
theorem dX2_put_41 : decode cX2_put 41 = .ok (.iadd, 1) := by decide +kernel
theorem dX2_put_42 : decode cX2_put 42 = .ok (.bipush 16, 2) := by decide +kernel
theorem dX2_put_44 : decode cX2_put 44 = .ok (.irem, 1) := by decide +kernel
theorem dX2_put_45 : decode cX2_put 45 = .ok (.putfield 15, 3) := by decide +kernel
theorem dX2_put_48 : decode cX2_put 48 = .ok (.aload_n 0, 1) := by decide +kernel
theorem dX2_put_49 : decode cX2_put 49 = .ok (.getfield 18, 3) := by decide +kernel
theorem dX2_put_52 : decode cX2_put 52 = .ok (.iload_n 3, 1) := by decide +kernel
theorem dX2_put_53 : decode cX2_put 53 = .ok (.iload_n 1, 1) := by decide +kernel
theorem dX2_put_54 : decode cX2_put 54 = .ok (.iastore, 1) := by decide +kernel
theorem dX2_put_55 : decode cX2_put 55 = .ok (.aload_n 0, 1) := by decide +kernel
theorem dX2_put_56 : decode cX2_put 56 = .ok (.getfield 24, 3) := by decide +kernel
theorem dX2_put_59 : decode cX2_put 59 = .ok (.iload_n 3, 1) := by decide +kernel
theorem dX2_put_60 : decode cX2_put 60 = .ok (.aaload, 1) := by decide +kernel
theorem dX2_put_61 : decode cX2_put 61 = .ok (.aload_n 2, 1) := by decide +kernel
theorem dX2_put_62 : decode cX2_put 62 = .ok (.invokevirtual 29, 3) := by decide +kernel
theorem dX2_put_65 : decode cX2_put 65 = .ok (.return_, 1) := by decide +kernel
theorem dX2_takeBack_0 : decode cX2_takeBack 0 = .ok (.aload_n 0, 1) := by decide +kernel
theorem dX2_takeBack_1 : decode cX2_takeBack 1 = .ok (.getfield 9, 3) := by decide +kernel
theorem dX2_takeBack_4 : decode cX2_takeBack 4 = .ok (.ifCond .ne 5, 3) := by decide +kernel
theorem dX2_takeBack_7 : decode cX2_takeBack 7 = .ok (.iconst (-1), 1) := by decide +kernel
theorem dX2_takeBack_8 : decode cX2_takeBack 8 = .ok (.ireturn, 1) := by decide +kernel
theorem dX2_takeBack_9 : decode cX2_takeBack 9 = .ok (.aload_n 0, 1) := by decide +kernel
theorem dX2_takeBack_10 : decode cX2_takeBack 10 = .ok (.dup, 1) := by decide +kernel
theorem dX2_takeBack_11 : decode cX2_takeBack 11 = .ok (.getfield 9, 3) := by decide +kernel
theorem dX2_takeBack_14 : decode cX2_takeBack 14 = .ok (.iconst 1, 1) := by decide +kernel
theorem dX2_takeBack_15 : decode cX2_takeBack 15 = .ok (.isub, 1) := by decide +kernel
theorem dX2_takeBack_16 : decode cX2_takeBack 16 = .ok (.putfield 9, 3) := by decide +kernel
theorem dX2_takeBack_19 : decode cX2_takeBack 19 = .ok (.aload_n 0, 1) := by decide +kernel
theorem dX2_takeBack_20 : decode cX2_takeBack 20 = .ok (.getfield 15, 3) := by decide +kernel
theorem dX2_takeBack_23 : decode cX2_takeBack 23 = .ok (.aload_n 0, 1) := by decide +kernel
theorem dX2_takeBack_24 : decode cX2_takeBack 24 = .ok (.getfield 9, 3) := by decide +kernel
theorem dX2_takeBack_27 : decode cX2_takeBack 27 = .ok (.iadd, 1) := by decide +kernel
theorem dX2_takeBack_28 : decode cX2_takeBack 28 = .ok (.bipush 16, 2) := by decide +kernel
theorem dX2_takeBack_30 : decode cX2_takeBack 30 = .ok (.irem, 1) := by decide +kernel
theorem dX2_takeBack_31 : decode cX2_takeBack 31 = .ok (.istore_n 2, 1) := by decide +kernel
theorem dX2_takeBack_32 : decode cX2_takeBack 32 = .ok (.aload_n 1, 1) := by decide +kernel
theorem dX2_takeBack_33 : decode cX2_takeBack 33 = .ok (.aload_n 0, 1) := by decide +kernel
theorem dX2_takeBack_34 : decode cX2_takeBack 34 = .ok (.getfield 24, 3) := by decide +kernel
theorem dX2_takeBack_37 : decode cX2_takeBack 37 = .ok (.iload_n 2, 1) := by decide +kernel
theorem dX2_takeBack_38 : decode cX2_takeBack 38 = .ok (.aaload, 1) := by decide +kernel
theorem dX2_takeBack_39 : decode cX2_takeBack 39 = .ok (.invokevirtual 29, 3) := by decide +kernel
theorem dX2_takeBack_42 : decode cX2_takeBack 42 = .ok (.aload_n 0, 1) := by decide +kernel
theorem dX2_takeBack_43 : decode cX2_takeBack 43 = .ok (.getfield 18, 3) := by decide +kernel
theorem dX2_takeBack_46 : decode cX2_takeBack 46 = .ok (.iload_n 2, 1) := by decide +kernel
theorem dX2_takeBack_47 : decode cX2_takeBack 47 = .ok (.iaload, 1) := by decide +kernel
theorem dX2_takeBack_48 : decode cX2_takeBack 48 = .ok (.ireturn, 1) := by decide +kernel
theorem dX2_copyFrom_0 : decode cX2_copyFrom 0 = .ok (.aload_n 0, 1) := by decide +kernel
theorem dX2_copyFrom_1 : decode cX2_copyFrom 1 = .ok (.aload_n 1, 1) := by decide +kernel
theorem dX2_copyFrom_2 : decode cX2_copyFrom 2 = .ok (.getfield 9, 3) := by decide +kernel
theorem dX2_copyFrom_5 : decode cX2_copyFrom 5 = .ok (.putfield 9, 3) := by decide +kernel
theorem dX2_copyFrom_8 : decode cX2_copyFrom 8 = .ok (.aload_n 0, 1) := by decide +kernel
theorem dX2_copyFrom_9 : decode cX2_copyFrom 9 = .ok (.aload_n 1, 1) := by decide +kernel
theorem dX2_copyFrom_10 : decode cX2_copyFrom 10 = .ok (.getfield 15, 3) := by decide +kernel
theorem dX2_copyFrom_13 : decode cX2_copyFrom 13 = .ok (.putfield 15, 3) := by decide +kernel
theorem dX2_copyFrom_16 : decode cX2_copyFrom 16 = .ok (.iconst 0, 1) := by decide +kernel
theorem dX2_copyFrom_17 : decode cX2_copyFrom 17 = .ok (.istore_n 2, 1) := by decide +kernel
theorem dX2_copyFrom_18 : decode cX2_copyFrom 18 = .ok (.iload_n 2, 1) := by decide +kernel
theorem dX2_copyFrom_19 : decode cX2_copyFrom 19 = .ok (.bipush 16, 2) := by decide +kernel
theorem dX2_copyFrom_21 : decode cX2_copyFrom 21 = .ok (.if_icmp .ge 36, 3) := by decide +kernel
theorem dX2_copyFrom_24 : decode cX2_copyFrom 24 = .ok (.aload_n 0, 1) := by decide +kernel
theorem dX2_copyFrom_25 : decode cX2_copyFrom 25 = .ok (.getfield 18, 3) := by decide +kernel
theorem dX2_copyFrom_28 : decode cX2_copyFrom 28 = .ok (.iload_n 2, 1) := by decide +kernel
theorem dX2_copyFrom_29 : decode cX2_copyFrom 29 = .ok (.aload_n 1, 1) := by decide +kernel
theorem dX2_copyFrom_30 : decode cX2_copyFrom 30 = .ok (.getfield 18, 3) := by decide +kernel
theorem dX2_copyFrom_33 : decode cX2_copyFrom 33 = .ok (.iload_n 2, 1) := by decide +kernel
theorem dX2_copyFrom_34 : decode cX2_copyFrom 34 = .ok (.iaload, 1) := by decide +kernel
theorem dX2_copyFrom_35 : decode cX2_copyFrom 35 = .ok (.iastore, 1) := by decide +kernel
theorem dX2_copyFrom_36 : decode cX2_copyFrom 36 = .ok (.aload_n 0, 1) := by decide +kernel
theorem dX2_copyFrom_37 : decode cX2_copyFrom 37 = .ok (.getfield 24, 3) := by decide +kernel
theorem dX2_copyFrom_40 : decode cX2_copyFrom 40 = .ok (.iload_n 2, 1) := by decide +kernel
theorem dX2_copyFrom_41 : decode cX2_copyFrom 41 = .ok (.aaload, 1) := by decide +kernel
theorem dX2_copyFrom_42 : decode cX2_copyFrom 42 = .ok (.aload_n 1, 1) := by decide +kernel
theorem dX2_copyFrom_43 : decode cX2_copyFrom 43 = .ok (.getfield 24, 3) := by decide +kernel
theorem dX2_copyFrom_46 : decode cX2_copyFrom 46 = .ok (.iload_n 2, 1) := by decide +kernel
theorem dX2_copyFrom_47 : decode cX2_copyFrom 47 = .ok (.aaload, 1) := by decide +kernel
theorem dX2_copyFrom_48 : decode cX2_copyFrom 48 = .ok (.invokevirtual 29, 3) := by decide +kernel
theorem dX2_copyFrom_51 : decode cX2_copyFrom 51 = .ok (.iinc 2 1, 3) := by decide +kernel
theorem dX2_copyFrom_54 : decode cX2_copyFrom 54 = .ok (.goto (-36), 3) := by decide +kernel
theorem dX2_copyFrom_57 : decode cX2_copyFrom 57 = .ok (.return_, 1) := by decide +kernel
theorem dX3_init_0 : decode cX3_init 0 = .ok (.aload_n 0, 1) := by decide +kernel
theorem dX3_init_1 : decode cX3_init 1 = .ok (.invokespecial 3, 3) := by decide +kernel
theorem dX3_init_4 : decode cX3_init 4 = .ok (.aload_n 0, 1) := by decide +kernel
theorem dX3_init_5 : decode cX3_init 5 = .ok (.bipush 24, 2) := by decide +kernel
theorem dX3_init_7 : decode cX3_init 7 = .ok (.newarray .int, 2) := by decide +kernel
theorem dX3_init_9 : decode cX3_init 9 = .ok (.putfield 11, 3) := by decide +kernel
theorem dX3_init_12 : decode cX3_init 12 = .ok (.aload_n 0, 1) := by decide +kernel
theorem dX3_init_13 : decode cX3_init 13 = .ok (.aload_n 1, 1) := by decide +kernel
theorem dX3_init_14 : decode cX3_init 14 = .ok (.putfield 17, 3) := by decide +kernel
theorem dX3_init_17 : decode cX3_init 17 = .ok (.return_, 1) := by decide +kernel
theorem dX3_lasting_0 : decode cX3_lasting 0 = .ok (.aload_n 0, 1) := by decide +kernel
theorem dX3_lasting_1 : decode cX3_lasting 1 = .ok (.aload_n 2, 1) := by decide +kernel
theorem dX3_lasting_2 : decode cX3_lasting 2 = .ok (.iload_n 3, 1) := by decide +kernel
theorem dX3_lasting_3 : decode cX3_lasting 3 = .ok (.invokevirtual 21, 3) := by decide +kernel
theorem dX3_lasting_6 : decode cX3_lasting 6 = .ok (.aload_n 2, 1) := by decide +kernel
theorem dX3_lasting_7 : decode cX3_lasting 7 = .ok (.getfield 25, 3) := by decide +kernel
theorem dX3_lasting_10 : decode cX3_lasting 10 = .ok (.iload_n 3, 1) := by decide +kernel
theorem dX3_lasting_11 : decode cX3_lasting 11 = .ok (.iaload, 1) := by decide +kernel
theorem dX3_lasting_12 : decode cX3_lasting 12 = .ok (.aload_n 0, 1) := by decide +kernel
theorem dX3_lasting_13 : decode cX3_lasting 13 = .ok (.getfield 11, 3) := by decide +kernel
theorem dX3_lasting_16 : decode cX3_lasting 16 = .ok (.iconst 2, 1) := by decide +kernel
theorem dX3_lasting_17 : decode cX3_lasting 17 = .ok (.iaload, 1) := by decide +kernel
theorem dX3_lasting_18 : decode cX3_lasting 18 = .ok (.iconst 4, 1) := by decide +kernel
theorem dX3_lasting_19 : decode cX3_lasting 19 = .ok (.idiv, 1) := by decide +kernel
theorem dX3_lasting_20 : decode cX3_lasting 20 = .ok (.iadd, 1) := by decide +kernel
theorem dX3_lasting_21 : decode cX3_lasting 21 = .ok (.istore 4, 2) := by decide +kernel
theorem dX3_lasting_23 : decode cX3_lasting 23 = .ok (.aload_n 0, 1) := by decide +kernel
theorem dX3_lasting_24 : decode cX3_lasting 24 = .ok (.aload_n 1, 1) := by decide +kernel
theorem dX3_lasting_25 : decode cX3_lasting 25 = .ok (.iconst 0, 1) := by decide +kernel
theorem dX3_lasting_26 : decode cX3_lasting 26 = .ok (.bipush 60, 2) := by decide +kernel
theorem dX3_lasting_28 : decode cX3_lasting 28 = .ok (.iload 4, 2) := by decide +kernel
theorem dX3_lasting_30 : decode cX3_lasting 30 = .ok (.invokevirtual 32, 3) := by decide +kernel
theorem dX3_lasting_33 : decode cX3_lasting 33 = .ok (.ireturn, 1) := by decide +kernel
theorem dX3_losing_0 : decode cX3_losing 0 = .ok (.aload_n 0, 1) := by decide +kernel
theorem dX3_losing_1 : decode cX3_losing 1 = .ok (.aload_n 2, 1) := by decide +kernel
theorem dX3_losing_2 : decode cX3_losing 2 = .ok (.iload_n 3, 1) := by decide +kernel
theorem dX3_losing_3 : decode cX3_losing 3 = .ok (.invokevirtual 21, 3) := by decide +kernel
theorem dX3_losing_6 : decode cX3_losing 6 = .ok (.aload_n 0, 1) := by decide +kernel
theorem dX3_losing_7 : decode cX3_losing 7 = .ok (.aload_n 1, 1) := by decide +kernel
theorem dX3_losing_8 : decode cX3_losing 8 = .ok (.iconst 2, 1) := by decide +kernel
theorem dX3_losing_9 : decode cX3_losing 9 = .ok (.bipush 9, 2) := by decide +kernel
theorem dX3_losing_11 : decode cX3_losing 11 = .ok (.iconst 0, 1) := by decide +kernel
theorem dX3_losing_12 : decode cX3_losing 12 = .ok (.invokevirtual 32, 3) := by decide +kernel
theorem dX3_losing_15 : decode cX3_losing 15 = .ok (.ireturn, 1) := by decide +kernel
theorem dX3_liking_0 : decode cX3_liking 0 = .ok (.aload_n 0, 1) := by decide +kernel
theorem dX3_liking_1 : decode cX3_liking 1 = .ok (.aload_n 1, 1) := by decide +kernel
theorem dX3_liking_2 : decode cX3_liking 2 = .ok (.iload_n 2, 1) := by decide +kernel
theorem dX3_liking_3 : decode cX3_liking 3 = .ok (.iload_n 3, 1) := by decide +kernel
theorem dX3_liking_4 : decode cX3_liking 4 = .ok (.invokevirtual 36, 3) := by decide +kernel
theorem dX3_liking_7 : decode cX3_liking 7 = .ok (.aload_n 0, 1) := by decide +kernel
theorem dX3_liking_8 : decode cX3_liking 8 = .ok (.aload_n 1, 1) := by decide +kernel
theorem dX3_liking_9 : decode cX3_liking 9 = .ok (.invokevirtual 40, 3) := by decide +kernel
theorem dX3_liking_12 : decode cX3_liking 12 = .ok (.iconst 1, 1) := by decide +kernel
theorem dX3_liking_13 : decode cX3_liking 13 = .ok (.bipush 99, 2) := by decide +kernel
theorem dX3_liking_15 : decode cX3_liking 15 = .ok (.aload_n 0, 1) := by decide +kernel
theorem dX3_liking_16 : decode cX3_liking 16 = .ok (.getfield 11, 3) := by decide +kernel
theorem dX3_liking_19 : decode cX3_liking 19 = .ok (.iconst 5, 1) := by decide +kernel
theorem dX3_liking_20 : decode cX3_liking 20 = .ok (.iaload, 1) := by decide +kernel
theorem dX3_liking_21 : decode cX3_liking 21 = .ok (.invokevirtual 32, 3) := by decide +kernel
theorem dX3_liking_24 : decode cX3_liking 24 = .ok (.ireturn, 1) := by decide +kernel
theorem dX3_isBarred_0 : decode cX3_isBarred 0 = .ok (.aload_n 0, 1) := by decide +kernel
theorem dX3_isBarred_1 : decode cX3_isBarred 1 = .ok (.aload_n 1, 1) := by decide +kernel
theorem dX3_isBarred_2 : decode cX3_isBarred 2 = .ok (.iload_n 2, 1) := by decide +kernel
theorem dX3_isBarred_3 : decode cX3_isBarred 3 = .ok (.iload_n 3, 1) := by decide +kernel
theorem dX3_isBarred_4 : decode cX3_isBarred 4 = .ok (.invokevirtual 36, 3) := by decide +kernel
theorem dX3_isBarred_7 : decode cX3_isBarred 7 = .ok (.aload_n 0, 1) := by decide +kernel
theorem dX3_isBarred_8 : decode cX3_isBarred 8 = .ok (.aload_n 1, 1) := by decide +kernel
theorem dX3_isBarred_9 : decode cX3_isBarred 9 = .ok (.invokevirtual 40, 3) := by decide +kernel
theorem dX3_isBarred_12 : decode cX3_isBarred 12 = .ok (.iconst 3, 1) := by decide +kernel
theorem dX3_isBarred_13 : decode cX3_isBarred 13 = .ok (.iconst 1, 1) := by decide +kernel
theorem dX3_isBarred_14 : decode cX3_isBarred 14 = .ok (.iconst 0, 1) := by decide +kernel
theorem dX3_isBarred_15 : decode cX3_isBarred 15 = .ok (.invokevirtual 32, 3) := by decide +kernel
theorem dX3_isBarred_18 : decode cX3_isBarred 18 = .ok (.iconst 1, 1) := by decide +kernel
theorem dX3_isBarred_19 : decode cX3_isBarred 19 = .ok (.if_icmp .ne 7, 3) := by decide +kernel
theorem dX3_isBarred_22 : decode cX3_isBarred 22 = .ok (.iconst 1, 1) := by decide +kernel
theorem dX3_isBarred_23 : decode cX3_isBarred 23 = .ok (.goto 4, 3) := by decide +kernel
theorem dX3_isBarred_26 : decode cX3_isBarred 26 = .ok (.iconst 0, 1) := by decide +kernel
theorem dX3_isBarred_27 : decode cX3_isBarred 27 = .ok (.ireturn, 1) := by decide +kernel
theorem dX3_lookAt_0 : decode cX3_lookAt 0 = .ok (.aload_n 0, 1) := by decide +kernel
theorem dX3_lookAt_1 : decode cX3_lookAt 1 = .ok (.getfield 11, 3) := by decide +kernel
theorem dX3_lookAt_4 : decode cX3_lookAt 4 = .ok (.iconst 0, 1) := by decide +kernel
theorem dX3_lookAt_5 : decode cX3_lookAt 5 = .ok (.iload_n 2, 1) := by decide +kernel
theorem dX3_lookAt_6 : decode cX3_lookAt 6 = .ok (.iastore, 1) := by decide +kernel
theorem dX3_lookAt_7 : decode cX3_lookAt 7 = .ok (.aload_n 0, 1) := by decide +kernel
theorem dX3_lookAt_8 : decode cX3_lookAt 8 = .ok (.getfield 11, 3) := by decide +kernel
theorem dX3_lookAt_11 : decode cX3_lookAt 11 = .ok (.iconst 1, 1) := by decide +kernel
theorem dX3_lookAt_12 : decode cX3_lookAt 12 = .ok (.aload_n 1, 1) := by decide +kernel
theorem dX3_lookAt_13 : decode cX3_lookAt 13 = .ok (.getfield 25, 3) := by decide +kernel
theorem dX3_lookAt_16 : decode cX3_lookAt 16 = .ok (.iload_n 2, 1) := by decide +kernel
theorem dX3_lookAt_17 : decode cX3_lookAt 17 = .ok (.iaload, 1) := by decide +kernel
theorem dX3_lookAt_18 : decode cX3_lookAt 18 = .ok (.iastore, 1) := by decide +kernel
theorem dX3_lookAt_19 : decode cX3_lookAt 19 = .ok (.aload_n 0, 1) := by decide +kernel
theorem dX3_lookAt_20 : decode cX3_lookAt 20 = .ok (.getfield 11, 3) := by decide +kernel
theorem dX3_lookAt_23 : decode cX3_lookAt 23 = .ok (.iconst 2, 1) := by decide +kernel
theorem dX3_lookAt_24 : decode cX3_lookAt 24 = .ok (.aload_n 1, 1) := by decide +kernel
theorem dX3_lookAt_25 : decode cX3_lookAt 25 = .ok (.iload_n 2, 1) := by decide +kernel
theorem dX3_lookAt_26 : decode cX3_lookAt 26 = .ok (.invokevirtual 46, 3) := by decide +kernel
theorem dX3_lookAt_29 : decode cX3_lookAt 29 = .ok (.iastore, 1) := by decide +kernel
theorem dX3_lookAt_30 : decode cX3_lookAt 30 = .ok (.aload_n 0, 1) := by decide +kernel
theorem dX3_lookAt_31 : decode cX3_lookAt 31 = .ok (.getfield 11, 3) := by decide +kernel
theorem dX3_lookAt_34 : decode cX3_lookAt 34 = .ok (.iconst 3, 1) := by decide +kernel
theorem dX3_lookAt_35 : decode cX3_lookAt 35 = .ok (.aload_n 1, 1) := by decide +kernel
theorem dX3_lookAt_36 : decode cX3_lookAt 36 = .ok (.getfield 50, 3) := by decide +kernel
theorem dX3_lookAt_39 : decode cX3_lookAt 39 = .ok (.iload_n 2, 1) := by decide +kernel
theorem dX3_lookAt_40 : decode cX3_lookAt 40 = .ok (.iaload, 1) := by decide +kernel
theorem dX3_lookAt_41 : decode cX3_lookAt 41 = .ok (.invokestatic 53, 3) := by decide +kernel
theorem dX3_lookAt_44 : decode cX3_lookAt 44 = .ok (.iastore, 1) := by decide +kernel
theorem dX3_lookAt_45 : decode cX3_lookAt 45 = .ok (.aload_n 0, 1) := by decide +kernel
theorem dX3_lookAt_46 : decode cX3_lookAt 46 = .ok (.getfield 11, 3) := by decide +kernel
theorem dX3_lookAt_49 : decode cX3_lookAt 49 = .ok (.iconst 4, 1) := by decide +kernel
theorem dX3_lookAt_50 : decode cX3_lookAt 50 = .ok (.iconst (-1), 1) := by decide +kernel
theorem dX3_lookAt_51 : decode cX3_lookAt 51 = .ok (.iastore, 1) := by decide +kernel
theorem dX3_lookAt_52 : decode cX3_lookAt 52 = .ok (.aload_n 0, 1) := by decide +kernel
theorem dX3_lookAt_53 : decode cX3_lookAt 53 = .ok (.getfield 11, 3) := by decide +kernel
theorem dX3_lookAt_56 : decode cX3_lookAt 56 = .ok (.iconst 5, 1) := by decide +kernel
theorem dX3_lookAt_57 : decode cX3_lookAt 57 = .ok (.iconst (-1), 1) := by decide +kernel
theorem dX3_lookAt_58 : decode cX3_lookAt 58 = .ok (.iastore, 1) := by decide +kernel
theorem dX3_lookAt_59 : decode cX3_lookAt 59 = .ok (.aload_n 0, 1) := by decide +kernel
theorem dX3_lookAt_60 : decode cX3_lookAt 60 = .ok (.getfield 11, 3) := by decide +kernel
theorem dX3_lookAt_63 : decode cX3_lookAt 63 = .ok (.bipush 6, 2) := by decide +kernel
theorem dX3_lookAt_65 : decode cX3_lookAt 65 = .ok (.iconst (-1), 1) := by decide +kernel
theorem dX3_lookAt_66 : decode cX3_lookAt 66 = .ok (.iastore, 1) := by decide +kernel
theorem dX3_lookAt_67 : decode cX3_lookAt 67 = .ok (.aload_n 0, 1) := by decide +kernel
theorem dX3_lookAt_68 : decode cX3_lookAt 68 = .ok (.getfield 11, 3) := by decide +kernel
theorem dX3_lookAt_71 : decode cX3_lookAt 71 = .ok (.bipush 7, 2) := by decide +kernel
theorem dX3_lookAt_73 : decode cX3_lookAt 73 = .ok (.aload_n 1, 1) := by decide +kernel
theorem dX3_lookAt_74 : decode cX3_lookAt 74 = .ok (.getfield 58, 3) := by decide +kernel
theorem dX3_lookAt_77 : decode cX3_lookAt 77 = .ok (.iconst 0, 1) := by decide +kernel
theorem dX3_lookAt_78 : decode cX3_lookAt 78 = .ok (.iaload, 1) := by decide +kernel
theorem dX3_lookAt_79 : decode cX3_lookAt 79 = .ok (.iastore, 1) := by decide +kernel
theorem dX3_lookAt_80 : decode cX3_lookAt 80 = .ok (.aload_n 0, 1) := by decide +kernel
theorem dX3_lookAt_81 : decode cX3_lookAt 81 = .ok (.getfield 11, 3) := by decide +kernel
theorem dX3_lookAt_84 : decode cX3_lookAt 84 = .ok (.bipush 8, 2) := by decide +kernel
theorem dX3_lookAt_86 : decode cX3_lookAt 86 = .ok (.aload_n 1, 1) := by decide +kernel
theorem dX3_lookAt_87 : decode cX3_lookAt 87 = .ok (.getfield 58, 3) := by decide +kernel
theorem dX3_lookAt_90 : decode cX3_lookAt 90 = .ok (.iconst 2, 1) := by decide +kernel
theorem dX3_lookAt_91 : decode cX3_lookAt 91 = .ok (.iaload, 1) := by decide +kernel
theorem dX3_lookAt_92 : decode cX3_lookAt 92 = .ok (.iastore, 1) := by decide +kernel
theorem dX3_lookAt_93 : decode cX3_lookAt 93 = .ok (.return_, 1) := by decide +kernel
theorem dX3_lookAtBoth_0 : decode cX3_lookAtBoth 0 = .ok (.aload_n 0, 1) := by decide +kernel
theorem dX3_lookAtBoth_1 : decode cX3_lookAtBoth 1 = .ok (.aload_n 1, 1) := by decide +kernel
theorem dX3_lookAtBoth_2 : decode cX3_lookAtBoth 2 = .ok (.getfield 61, 3) := by decide +kernel
theorem dX3_lookAtBoth_5 : decode cX3_lookAtBoth 5 = .ok (.iload_n 2, 1) := by decide +kernel
theorem dX3_lookAtBoth_6 : decode cX3_lookAtBoth 6 = .ok (.invokevirtual 21, 3) := by decide +kernel
theorem dX3_lookAtBoth_9 : decode cX3_lookAtBoth 9 = .ok (.aload_n 0, 1) := by decide +kernel
theorem dX3_lookAtBoth_10 : decode cX3_lookAtBoth 10 = .ok (.getfield 11, 3) := by decide +kernel
theorem dX3_lookAtBoth_13 : decode cX3_lookAtBoth 13 = .ok (.iconst 4, 1) := by decide +kernel
theorem dX3_lookAtBoth_14 : decode cX3_lookAtBoth 14 = .ok (.iload_n 3, 1) := by decide +kernel
theorem dX3_lookAtBoth_15 : decode cX3_lookAtBoth 15 = .ok (.iastore, 1) := by decide +kernel
theorem dX3_lookAtBoth_16 : decode cX3_lookAtBoth 16 = .ok (.aload_n 0, 1) := by decide +kernel
theorem dX3_lookAtBoth_17 : decode cX3_lookAtBoth 17 = .ok (.getfield 11, 3) := by decide +kernel
theorem dX3_lookAtBoth_20 : decode cX3_lookAtBoth 20 = .ok (.iconst 5, 1) := by decide +kernel
theorem dX3_lookAtBoth_21 : decode cX3_lookAtBoth 21 = .ok (.aload_n 1, 1) := by decide +kernel
theorem dX3_lookAtBoth_22 : decode cX3_lookAtBoth 22 = .ok (.getfield 61, 3) := by decide +kernel
theorem dX3_lookAtBoth_25 : decode cX3_lookAtBoth 25 = .ok (.iload_n 2, 1) := by decide +kernel
theorem dX3_lookAtBoth_26 : decode cX3_lookAtBoth 26 = .ok (.aload_n 1, 1) := by decide +kernel
theorem dX3_lookAtBoth_27 : decode cX3_lookAtBoth 27 = .ok (.getfield 65, 3) := by decide +kernel
theorem dX3_lookAtBoth_30 : decode cX3_lookAtBoth 30 = .ok (.iload_n 3, 1) := by decide +kernel
theorem dX3_lookAtBoth_31 : decode cX3_lookAtBoth 31 = .ok (.iaload, 1) := by decide +kernel
theorem dX3_lookAtBoth_32 : decode cX3_lookAtBoth 32 = .ok (.invokevirtual 68, 3) := by decide +kernel
theorem dX3_lookAtBoth_35 : decode cX3_lookAtBoth 35 = .ok (.iastore, 1) := by decide +kernel
theorem dX3_lookAtBoth_36 : decode cX3_lookAtBoth 36 = .ok (.aload_n 0, 1) := by decide +kernel
theorem dX3_lookAtBoth_37 : decode cX3_lookAtBoth 37 = .ok (.getfield 11, 3) := by decide +kernel
theorem dX3_lookAtBoth_40 : decode cX3_lookAtBoth 40 = .ok (.bipush 6, 2) := by decide +kernel
theorem dX3_lookAtBoth_42 : decode cX3_lookAtBoth 42 = .ok (.aload_n 1, 1) := by decide +kernel
theorem dX3_lookAtBoth_43 : decode cX3_lookAtBoth 43 = .ok (.getfield 72, 3) := by decide +kernel
theorem dX3_lookAtBoth_46 : decode cX3_lookAtBoth 46 = .ok (.iload_n 3, 1) := by decide +kernel
theorem dX3_lookAtBoth_47 : decode cX3_lookAtBoth 47 = .ok (.iaload, 1) := by decide +kernel
theorem dX3_lookAtBoth_48 : decode cX3_lookAtBoth 48 = .ok (.iastore, 1) := by decide +kernel
theorem dX3_lookAtBoth_49 : decode cX3_lookAtBoth 49 = .ok (.return_, 1) := by decide +kernel
theorem dX3_told_0 : decode cX3_told 0 = .ok (.aload_n 1, 1) := by decide +kernel
theorem dX3_told_1 : decode cX3_told 1 = .ok (.getfield 75, 3) := by decide +kernel
theorem dX3_told_4 : decode cX3_told 4 = .ok (.iconst 1, 1) := by decide +kernel
theorem dX3_told_5 : decode cX3_told 5 = .ok (.isub, 1) := by decide +kernel
theorem dX3_told_6 : decode cX3_told 6 = .ok (.istore 5, 2) := by decide +kernel
theorem dX3_told_8 : decode cX3_told 8 = .ok (.iload 5, 2) := by decide +kernel
theorem dX3_told_10 : decode cX3_told 10 = .ok (.ifCond .lt 93, 3) := by decide +kernel
theorem dX3_told_13 : decode cX3_told 13 = .ok (.iload 5, 2) := by decide +kernel
theorem dX3_told_15 : decode cX3_told 15 = .ok (.iconst 4, 1) := by decide +kernel
theorem dX3_told_16 : decode cX3_told 16 = .ok (.imul, 1) := by decide +kernel
theorem dX3_told_17 : decode cX3_told 17 = .ok (.istore 6, 2) := by decide +kernel
theorem dX3_told_19 : decode cX3_told 19 = .ok (.aload_n 1, 1) := by decide +kernel
theorem dX3_told_20 : decode cX3_told 20 = .ok (.getfield 79, 3) := by decide +kernel
theorem dX3_told_23 : decode cX3_told 23 = .ok (.iload 5, 2) := by decide +kernel
theorem dX3_told_25 : decode cX3_told 25 = .ok (.iaload, 1) := by decide +kernel
theorem dX3_told_26 : decode cX3_told 26 = .ok (.iload_n 2, 1) := by decide +kernel
theorem dX3_told_27 : decode cX3_told 27 = .ok (.if_icmp .ne 70, 3) := by decide +kernel
theorem dX3_told_30 : decode cX3_told 30 = .ok (.aload_n 0, 1) := by decide +kernel
theorem dX3_told_31 : decode cX3_told 31 = .ok (.getfield 17, 3) := by decide +kernel
theorem dX3_told_34 : decode cX3_told 34 = .ok (.aload_n 1, 1) := by decide +kernel
theorem dX3_told_35 : decode cX3_told 35 = .ok (.aload_n 1, 1) := by decide +kernel
theorem dX3_told_36 : decode cX3_told 36 = .ok (.getfield 82, 3) := by decide +kernel
theorem dX3_told_39 : decode cX3_told 39 = .ok (.iload 6, 2) := by decide +kernel
theorem dX3_told_41 : decode cX3_told 41 = .ok (.iconst 3, 1) := by decide +kernel
theorem dX3_told_42 : decode cX3_told 42 = .ok (.iadd, 1) := by decide +kernel
theorem dX3_told_43 : decode cX3_told 43 = .ok (.iaload, 1) := by decide +kernel
theorem dX3_told_44 : decode cX3_told 44 = .ok (.aload_n 0, 1) := by decide +kernel
theorem dX3_told_45 : decode cX3_told 45 = .ok (.getfield 11, 3) := by decide +kernel
theorem dX3_told_48 : decode cX3_told 48 = .ok (.invokevirtual 85, 3) := by decide +kernel
theorem dX3_told_51 : decode cX3_told 51 = .ok (.iconst 1, 1) := by decide +kernel
theorem dX3_told_52 : decode cX3_told 52 = .ok (.if_icmp .eq 6, 3) := by decide +kernel
theorem dX3_told_55 : decode cX3_told 55 = .ok (.goto 42, 3) := by decide +kernel
theorem dX3_told_58 : decode cX3_told 58 = .ok (.aload_n 0, 1) := by decide +kernel
theorem dX3_told_59 : decode cX3_told 59 = .ok (.getfield 17, 3) := by decide +kernel
theorem dX3_told_62 : decode cX3_told 62 = .ok (.aload_n 1, 1) := by decide +kernel
theorem dX3_told_63 : decode cX3_told 63 = .ok (.aload_n 1, 1) := by decide +kernel
theorem dX3_told_64 : decode cX3_told 64 = .ok (.getfield 82, 3) := by decide +kernel
theorem dX3_told_67 : decode cX3_told 67 = .ok (.iload 6, 2) := by decide +kernel
theorem dX3_told_69 : decode cX3_told 69 = .ok (.iaload, 1) := by decide +kernel
theorem dX3_told_70 : decode cX3_told 70 = .ok (.aload_n 0, 1) := by decide +kernel
theorem dX3_told_71 : decode cX3_told 71 = .ok (.getfield 11, 3) := by decide +kernel
theorem dX3_told_74 : decode cX3_told 74 = .ok (.invokevirtual 85, 3) := by decide +kernel
theorem dX3_told_77 : decode cX3_told 77 = .ok (.istore 7, 2) := by decide +kernel
theorem dX3_told_79 : decode cX3_told 79 = .ok (.iload 7, 2) := by decide +kernel
theorem dX3_told_81 : decode cX3_told 81 = .ok (.ldc 89, 2) := by decide +kernel
theorem dX3_told_83 : decode cX3_told 83 = .ok (.if_icmp .eq 14, 3) := by decide +kernel
theorem dX3_told_86 : decode cX3_told 86 = .ok (.iconst 0, 1) := by decide +kernel
theorem dX3_told_87 : decode cX3_told 87 = .ok (.iload 7, 2) := by decide +kernel
theorem dX3_told_89 : decode cX3_told 89 = .ok (.iload_n 3, 1) := by decide +kernel
theorem dX3_told_90 : decode cX3_told 90 = .ok (.invokestatic 90, 3) := by decide +kernel
theorem dX3_told_93 : decode cX3_told 93 = .ok (.invokestatic 95, 3) := by decide +kernel
theorem dX3_told_96 : decode cX3_told 96 = .ok (.ireturn, 1) := by decide +kernel
theorem dX3_told_97 : decode cX3_told 97 = .ok (.iinc 5 (-1), 3) := by decide +kernel
theorem dX3_told_100 : decode cX3_told 100 = .ok (.goto (-92), 3) := by decide +kernel
theorem dX3_told_103 : decode cX3_told 103 = .ok (.iload 4, 2) := by decide +kernel
theorem dX3_told_105 : decode cX3_told 105 = .ok (.ireturn, 1) := by decide +kernel
theorem dX4_init_0 : decode cX4_init 0 = .ok (.aload_n 0, 1) := by decide +kernel
theorem dX4_init_1 : decode cX4_init 1 = .ok (.invokespecial 3, 3) := by decide +kernel
theorem dX4_init_4 : decode cX4_init 4 = .ok (.aload_n 0, 1) := by decide +kernel
theorem dX4_init_5 : decode cX4_init 5 = .ok (.bipush 36, 2) := by decide +kernel
theorem dX4_init_7 : decode cX4_init 7 = .ok (.newarray .int, 2) := by decide +kernel
theorem dX4_init_9 : decode cX4_init 9 = .ok (.putfield 9, 3) := by decide +kernel
theorem dX4_init_12 : decode cX4_init 12 = .ok (.aload_n 0, 1) := by decide +kernel
theorem dX4_init_13 : decode cX4_init 13 = .ok (.bipush 36, 2) := by decide +kernel
theorem dX4_init_15 : decode cX4_init 15 = .ok (.newarray .int, 2) := by decide +kernel
theorem dX4_init_17 : decode cX4_init 17 = .ok (.putfield 15, 3) := by decide +kernel
theorem dX4_init_20 : decode cX4_init 20 = .ok (.aload_n 0, 1) := by decide +kernel
theorem dX4_init_21 : decode cX4_init 21 = .ok (.bipush 36, 2) := by decide +kernel
theorem dX4_init_23 : decode cX4_init 23 = .ok (.newarray .int, 2) := by decide +kernel
theorem dX4_init_25 : decode cX4_init 25 = .ok (.putfield 18, 3) := by decide +kernel
theorem dX4_init_28 : decode cX4_init 28 = .ok (.aload_n 0, 1) := by decide +kernel
theorem dX4_init_29 : decode cX4_init 29 = .ok (.bipush 6, 2) := by decide +kernel
theorem dX4_init_31 : decode cX4_init 31 = .ok (.newarray .int, 2) := by decide +kernel
theorem dX4_init_33 : decode cX4_init 33 = .ok (.putfield 21, 3) := by decide +kernel
theorem dX4_init_36 : decode cX4_init 36 = .ok (.aload_n 0, 1) := by decide +kernel
theorem dX4_init_37 : decode cX4_init 37 = .ok (.sipush 448, 3) := by decide +kernel
theorem dX4_init_40 : decode cX4_init 40 = .ok (.newarray .int, 2) := by decide +kernel
theorem dX4_init_42 : decode cX4_init 42 = .ok (.putfield 24, 3) := by decide +kernel
theorem dX4_init_45 : decode cX4_init 45 = .ok (.aload_n 0, 1) := by decide +kernel
theorem dX4_init_46 : decode cX4_init 46 = .ok (.bipush 6, 2) := by decide +kernel
theorem dX4_init_48 : decode cX4_init 48 = .ok (.newarray .int, 2) := by decide +kernel
theorem dX4_init_50 : decode cX4_init 50 = .ok (.putfield 27, 3) := by decide +kernel
theorem dX4_init_53 : decode cX4_init 53 = .ok (.return_, 1) := by decide +kernel
theorem dX4_gather_0 : decode cX4_gather 0 = .ok (.aload_n 0, 1) := by decide +kernel
theorem dX4_gather_1 : decode cX4_gather 1 = .ok (.getfield 9, 3) := by decide +kernel
theorem dX4_gather_4 : decode cX4_gather 4 = .ok (.iconst (-1), 1) := by decide +kernel
theorem dX4_gather_5 : decode cX4_gather 5 = .ok (.invokestatic 30, 3) := by decide +kernel
theorem dX4_gather_8 : decode cX4_gather 8 = .ok (.aload_n 1, 1) := by decide +kernel
theorem dX4_gather_9 : decode cX4_gather 9 = .ok (.getfield 36, 3) := by decide +kernel
theorem dX4_gather_12 : decode cX4_gather 12 = .ok (.astore_n 3, 1) := by decide +kernel
theorem dX4_gather_13 : decode cX4_gather 13 = .ok (.iconst 0, 1) := by decide +kernel
theorem dX4_gather_14 : decode cX4_gather 14 = .ok (.istore 4, 2) := by decide +kernel
theorem dX4_gather_16 : decode cX4_gather 16 = .ok (.iload 4, 2) := by decide +kernel
theorem dX4_gather_18 : decode cX4_gather 18 = .ok (.aload_n 3, 1) := by decide +kernel
theorem dX4_gather_19 : decode cX4_gather 19 = .ok (.getfield 42, 3) := by decide +kernel
theorem dX4_gather_22 : decode cX4_gather 22 = .ok (.if_icmp .ge 133, 3) := by decide +kernel
theorem dX4_gather_25 : decode cX4_gather 25 = .ok (.aload_n 2, 1) := by decide +kernel
theorem dX4_gather_26 : decode cX4_gather 26 = .ok (.aload_n 1, 1) := by decide +kernel
theorem dX4_gather_27 : decode cX4_gather 27 = .ok (.invokevirtual 48, 3) := by decide +kernel
theorem dX4_gather_30 : decode cX4_gather 30 = .ok (.aload_n 3, 1) := by decide +kernel
theorem dX4_gather_31 : decode cX4_gather 31 = .ok (.iload 4, 2) := by decide +kernel
theorem dX4_gather_33 : decode cX4_gather 33 = .ok (.invokevirtual 52, 3) := by decide +kernel
theorem dX4_gather_36 : decode cX4_gather 36 = .ok (.istore 5, 2) := by decide +kernel
theorem dX4_gather_38 : decode cX4_gather 38 = .ok (.iconst 0, 1) := by decide +kernel
theorem dX4_gather_39 : decode cX4_gather 39 = .ok (.istore 6, 2) := by decide +kernel
theorem dX4_gather_41 : decode cX4_gather 41 = .ok (.iload 6, 2) := by decide +kernel
theorem dX4_gather_43 : decode cX4_gather 43 = .ok (.aload_n 1, 1) := by decide +kernel
theorem dX4_gather_44 : decode cX4_gather 44 = .ok (.getfield 58, 3) := by decide +kernel
theorem dX4_gather_47 : decode cX4_gather 47 = .ok (.if_icmp .ge 102, 3) := by decide +kernel
theorem dX4_gather_50 : decode cX4_gather 50 = .ok (.aload_n 3, 1) := by decide +kernel
theorem dX4_gather_51 : decode cX4_gather 51 = .ok (.getfield 61, 3) := by decide +kernel
theorem dX4_gather_54 : decode cX4_gather 54 = .ok (.iload 4, 2) := by decide +kernel
theorem dX4_gather_56 : decode cX4_gather 56 = .ok (.iaload, 1) := by decide +kernel
theorem dX4_gather_57 : decode cX4_gather 57 = .ok (.iconst (-1), 1) := by decide +kernel
theorem dX4_gather_58 : decode cX4_gather 58 = .ok (.if_icmp .ne 17, 3) := by decide +kernel
theorem dX4_gather_61 : decode cX4_gather 61 = .ok (.aload_n 3, 1) := by decide +kernel
theorem dX4_gather_62 : decode cX4_gather 62 = .ok (.iload 6, 2) := by decide +kernel
theorem dX4_gather_64 : decode cX4_gather 64 = .ok (.invokevirtual 64, 3) := by decide +kernel
theorem dX4_gather_67 : decode cX4_gather 67 = .ok (.iconst (-1), 1) := by decide +kernel
theorem dX4_gather_68 : decode cX4_gather 68 = .ok (.if_icmp .ne 7, 3) := by decide +kernel
theorem dX4_gather_71 : decode cX4_gather 71 = .ok (.iconst 1, 1) := by decide +kernel
theorem dX4_gather_72 : decode cX4_gather 72 = .ok (.goto 4, 3) := by decide +kernel
theorem dX4_gather_75 : decode cX4_gather 75 = .ok (.iconst 0, 1) := by decide +kernel
theorem dX4_gather_76 : decode cX4_gather 76 = .ok (.istore 7, 2) := by decide +kernel
theorem dX4_gather_78 : decode cX4_gather 78 = .ok (.iload 7, 2) := by decide +kernel
theorem dX4_gather_80 : decode cX4_gather 80 = .ok (.ifCond .eq 63, 3) := by decide +kernel
theorem dX4_gather_83 : decode cX4_gather 83 = .ok (.aload_n 2, 1) := by decide +kernel
theorem dX4_gather_84 : decode cX4_gather 84 = .ok (.aload_n 1, 1) := by decide +kernel
theorem dX4_gather_85 : decode cX4_gather 85 = .ok (.iload 4, 2) := by decide +kernel
theorem dX4_gather_87 : decode cX4_gather 87 = .ok (.iload 6, 2) := by decide +kernel
theorem dX4_gather_89 : decode cX4_gather 89 = .ok (.invokevirtual 68, 3) := by decide +kernel
theorem dX4_gather_92 : decode cX4_gather 92 = .ok (.ifCond .ne 51, 3) := by decide +kernel
theorem dX4_gather_95 : decode cX4_gather 95 = .ok (.aload_n 0, 1) := by decide +kernel
theorem dX4_gather_96 : decode cX4_gather 96 = .ok (.getfield 9, 3) := by decide +kernel
theorem dX4_gather_99 : decode cX4_gather 99 = .ok (.iload 4, 2) := by decide +kernel
theorem dX4_gather_101 : decode cX4_gather 101 = .ok (.bipush 6, 2) := by decide +kernel
theorem dX4_gather_103 : decode cX4_gather 103 = .ok (.imul, 1) := by decide +kernel
theorem dX4_gather_104 : decode cX4_gather 104 = .ok (.iload 6, 2) := by decide +kernel
theorem dX4_gather_106 : decode cX4_gather 106 = .ok (.iadd, 1) := by decide +kernel
theorem dX4_gather_107 : decode cX4_gather 107 = .ok (.aload_n 1, 1) := by decide +kernel
theorem dX4_gather_108 : decode cX4_gather 108 = .ok (.getfield 72, 3) := by decide +kernel
theorem dX4_gather_111 : decode cX4_gather 111 = .ok (.iload 6, 2) := by decide +kernel
theorem dX4_gather_113 : decode cX4_gather 113 = .ok (.iaload, 1) := by decide +kernel
theorem dX4_gather_114 : decode cX4_gather 114 = .ok (.iload 5, 2) := by decide +kernel
theorem dX4_gather_116 : decode cX4_gather 116 = .ok (.isub, 1) := by decide +kernel
theorem dX4_gather_117 : decode cX4_gather 117 = .ok (.invokestatic 75, 3) := by decide +kernel
theorem dX4_gather_120 : decode cX4_gather 120 = .ok (.iastore, 1) := by decide +kernel
theorem dX4_gather_121 : decode cX4_gather 121 = .ok (.aload_n 0, 1) := by decide +kernel
theorem dX4_gather_122 : decode cX4_gather 122 = .ok (.getfield 15, 3) := by decide +kernel
theorem dX4_gather_125 : decode cX4_gather 125 = .ok (.iload 4, 2) := by decide +kernel
theorem dX4_gather_127 : decode cX4_gather 127 = .ok (.bipush 6, 2) := by decide +kernel
theorem dX4_gather_129 : decode cX4_gather 129 = .ok (.imul, 1) := by decide +kernel
theorem dX4_gather_130 : decode cX4_gather 130 = .ok (.iload 6, 2) := by decide +kernel
theorem dX4_gather_132 : decode cX4_gather 132 = .ok (.iadd, 1) := by decide +kernel
theorem dX4_gather_133 : decode cX4_gather 133 = .ok (.aload_n 2, 1) := by decide +kernel
theorem dX4_gather_134 : decode cX4_gather 134 = .ok (.aload_n 1, 1) := by decide +kernel
theorem dX4_gather_135 : decode cX4_gather 135 = .ok (.iload 4, 2) := by decide +kernel
theorem dX4_gather_137 : decode cX4_gather 137 = .ok (.iload 6, 2) := by decide +kernel
theorem dX4_gather_139 : decode cX4_gather 139 = .ok (.invokevirtual 80, 3) := by decide +kernel
theorem dX4_gather_142 : decode cX4_gather 142 = .ok (.iastore, 1) := by decide +kernel
theorem dX4_gather_143 : decode cX4_gather 143 = .ok (.iinc 6 1, 3) := by decide +kernel
theorem dX4_gather_146 : decode cX4_gather 146 = .ok (.goto (-105), 3) := by decide +kernel
theorem dX4_gather_149 : decode cX4_gather 149 = .ok (.iinc 4 1, 3) := by decide +kernel
theorem dX4_gather_152 : decode cX4_gather 152 = .ok (.goto (-136), 3) := by decide +kernel
theorem dX4_gather_155 : decode cX4_gather 155 = .ok (.return_, 1) := by decide +kernel
theorem dX4_askAll_0 : decode cX4_askAll 0 = .ok (.aload_n 0, 1) := by decide +kernel
theorem dX4_askAll_1 : decode cX4_askAll 1 = .ok (.getfield 18, 3) := by decide +kernel
theorem dX4_askAll_4 : decode cX4_askAll 4 = .ok (.iconst 0, 1) := by decide +kernel
theorem dX4_askAll_5 : decode cX4_askAll 5 = .ok (.invokestatic 30, 3) := by decide +kernel
theorem dX4_askAll_8 : decode cX4_askAll 8 = .ok (.aload_n 0, 1) := by decide +kernel
theorem dX4_askAll_9 : decode cX4_askAll 9 = .ok (.getfield 21, 3) := by decide +kernel
theorem dX4_askAll_12 : decode cX4_askAll 12 = .ok (.iconst (-1), 1) := by decide +kernel
theorem dX4_askAll_13 : decode cX4_askAll 13 = .ok (.invokestatic 30, 3) := by decide +kernel
theorem dX4_askAll_16 : decode cX4_askAll 16 = .ok (.iconst 0, 1) := by decide +kernel
theorem dX4_askAll_17 : decode cX4_askAll 17 = .ok (.istore_n 2, 1) := by decide +kernel
theorem dX4_askAll_18 : decode cX4_askAll 18 = .ok (.iload_n 2, 1) := by decide +kernel
theorem dX4_askAll_19 : decode cX4_askAll 19 = .ok (.bipush 36, 2) := by decide +kernel
theorem dX4_askAll_21 : decode cX4_askAll 21 = .ok (.if_icmp .ge 83, 3) := by decide +kernel
theorem dX4_askAll_24 : decode cX4_askAll 24 = .ok (.aload_n 0, 1) := by decide +kernel
theorem dX4_askAll_25 : decode cX4_askAll 25 = .ok (.aload_n 1, 1) := by decide +kernel
theorem dX4_askAll_26 : decode cX4_askAll 26 = .ok (.getfield 36, 3) := by decide +kernel
theorem dX4_askAll_29 : decode cX4_askAll 29 = .ok (.getfield 42, 3) := by decide +kernel
theorem dX4_askAll_32 : decode cX4_askAll 32 = .ok (.invokevirtual 84, 3) := by decide +kernel
theorem dX4_askAll_35 : decode cX4_askAll 35 = .ok (.istore_n 3, 1) := by decide +kernel
theorem dX4_askAll_36 : decode cX4_askAll 36 = .ok (.iload_n 3, 1) := by decide +kernel
theorem dX4_askAll_37 : decode cX4_askAll 37 = .ok (.iconst (-1), 1) := by decide +kernel
theorem dX4_askAll_38 : decode cX4_askAll 38 = .ok (.if_icmp .ne 4, 3) := by decide +kernel
theorem dX4_askAll_41 : decode cX4_askAll 41 = .ok (.return_, 1) := by decide +kernel
theorem dX4_askAll_42 : decode cX4_askAll 42 = .ok (.aload_n 0, 1) := by decide +kernel
theorem dX4_askAll_43 : decode cX4_askAll 43 = .ok (.getfield 18, 3) := by decide +kernel
theorem dX4_askAll_46 : decode cX4_askAll 46 = .ok (.iload_n 3, 1) := by decide +kernel
theorem dX4_askAll_47 : decode cX4_askAll 47 = .ok (.iconst 1, 1) := by decide +kernel
theorem dX4_askAll_48 : decode cX4_askAll 48 = .ok (.iastore, 1) := by decide +kernel
theorem dX4_askAll_49 : decode cX4_askAll 49 = .ok (.iload_n 3, 1) := by decide +kernel
theorem dX4_askAll_50 : decode cX4_askAll 50 = .ok (.bipush 6, 2) := by decide +kernel
theorem dX4_askAll_52 : decode cX4_askAll 52 = .ok (.idiv, 1) := by decide +kernel
theorem dX4_askAll_53 : decode cX4_askAll 53 = .ok (.istore 4, 2) := by decide +kernel
theorem dX4_askAll_55 : decode cX4_askAll 55 = .ok (.iload_n 3, 1) := by decide +kernel
theorem dX4_askAll_56 : decode cX4_askAll 56 = .ok (.bipush 6, 2) := by decide +kernel
theorem dX4_askAll_58 : decode cX4_askAll 58 = .ok (.irem, 1) := by decide +kernel
theorem dX4_askAll_59 : decode cX4_askAll 59 = .ok (.istore 5, 2) := by decide +kernel
theorem dX4_askAll_61 : decode cX4_askAll 61 = .ok (.aload_n 0, 1) := by decide +kernel
theorem dX4_askAll_62 : decode cX4_askAll 62 = .ok (.getfield 21, 3) := by decide +kernel
theorem dX4_askAll_65 : decode cX4_askAll 65 = .ok (.iload 5, 2) := by decide +kernel
theorem dX4_askAll_67 : decode cX4_askAll 67 = .ok (.iaload, 1) := by decide +kernel
theorem dX4_askAll_68 : decode cX4_askAll 68 = .ok (.istore 6, 2) := by decide +kernel
theorem dX4_askAll_70 : decode cX4_askAll 70 = .ok (.iload 6, 2) := by decide +kernel
theorem dX4_askAll_72 : decode cX4_askAll 72 = .ok (.iconst (-1), 1) := by decide +kernel
theorem dX4_askAll_73 : decode cX4_askAll 73 = .ok (.if_icmp .eq 16, 3) := by decide +kernel
theorem dX4_askAll_76 : decode cX4_askAll 76 = .ok (.aload_n 0, 1) := by decide +kernel
theorem dX4_askAll_77 : decode cX4_askAll 77 = .ok (.iload 5, 2) := by decide +kernel
theorem dX4_askAll_79 : decode cX4_askAll 79 = .ok (.iload 4, 2) := by decide +kernel
theorem dX4_askAll_81 : decode cX4_askAll 81 = .ok (.iload 6, 2) := by decide +kernel
theorem dX4_askAll_83 : decode cX4_askAll 83 = .ok (.invokevirtual 87, 3) := by decide +kernel
theorem dX4_askAll_86 : decode cX4_askAll 86 = .ok (.ifCond .eq 12, 3) := by decide +kernel
theorem dX4_askAll_89 : decode cX4_askAll 89 = .ok (.aload_n 0, 1) := by decide +kernel
theorem dX4_askAll_90 : decode cX4_askAll 90 = .ok (.getfield 21, 3) := by decide +kernel
theorem dX4_askAll_93 : decode cX4_askAll 93 = .ok (.iload 5, 2) := by decide +kernel
theorem dX4_askAll_95 : decode cX4_askAll 95 = .ok (.iload 4, 2) := by decide +kernel
theorem dX4_askAll_97 : decode cX4_askAll 97 = .ok (.iastore, 1) := by decide +kernel
theorem dX4_askAll_98 : decode cX4_askAll 98 = .ok (.iinc 2 1, 3) := by decide +kernel
theorem dX4_askAll_101 : decode cX4_askAll 101 = .ok (.goto (-83), 3) := by decide +kernel
theorem dX4_askAll_104 : decode cX4_askAll 104 = .ok (.return_, 1) := by decide +kernel
theorem dX4_isLiked_0 : decode cX4_isLiked 0 = .ok (.aload_n 0, 1) := by decide +kernel
theorem dX4_isLiked_1 : decode cX4_isLiked 1 = .ok (.getfield 15, 3) := by decide +kernel
theorem dX4_isLiked_4 : decode cX4_isLiked 4 = .ok (.iload_n 2, 1) := by decide +kernel
theorem dX4_isLiked_5 : decode cX4_isLiked 5 = .ok (.bipush 6, 2) := by decide +kernel
theorem dX4_isLiked_7 : decode cX4_isLiked 7 = .ok (.imul, 1) := by decide +kernel
theorem dX4_isLiked_8 : decode cX4_isLiked 8 = .ok (.iload_n 1, 1) := by decide +kernel
theorem dX4_isLiked_9 : decode cX4_isLiked 9 = .ok (.iadd, 1) := by decide +kernel
theorem dX4_isLiked_10 : decode cX4_isLiked 10 = .ok (.iaload, 1) := by decide +kernel
theorem dX4_isLiked_11 : decode cX4_isLiked 11 = .ok (.istore 4, 2) := by decide +kernel
theorem dX4_isLiked_13 : decode cX4_isLiked 13 = .ok (.aload_n 0, 1) := by decide +kernel
theorem dX4_isLiked_14 : decode cX4_isLiked 14 = .ok (.getfield 15, 3) := by decide +kernel
theorem dX4_isLiked_17 : decode cX4_isLiked 17 = .ok (.iload_n 3, 1) := by decide +kernel
theorem dX4_isLiked_18 : decode cX4_isLiked 18 = .ok (.bipush 6, 2) := by decide +kernel
theorem dX4_isLiked_20 : decode cX4_isLiked 20 = .ok (.imul, 1) := by decide +kernel
theorem dX4_isLiked_21 : decode cX4_isLiked 21 = .ok (.iload_n 1, 1) := by decide +kernel
theorem dX4_isLiked_22 : decode cX4_isLiked 22 = .ok (.iadd, 1) := by decide +kernel
theorem dX4_isLiked_23 : decode cX4_isLiked 23 = .ok (.iaload, 1) := by decide +kernel
theorem dX4_isLiked_24 : decode cX4_isLiked 24 = .ok (.istore 5, 2) := by decide +kernel
theorem dX4_isLiked_26 : decode cX4_isLiked 26 = .ok (.iload 4, 2) := by decide +kernel
theorem dX4_isLiked_28 : decode cX4_isLiked 28 = .ok (.iload 5, 2) := by decide +kernel
theorem dX4_isLiked_30 : decode cX4_isLiked 30 = .ok (.if_icmp .gt 15, 3) := by decide +kernel
theorem dX4_isLiked_33 : decode cX4_isLiked 33 = .ok (.iload 4, 2) := by decide +kernel
theorem dX4_isLiked_35 : decode cX4_isLiked 35 = .ok (.iload 5, 2) := by decide +kernel
theorem dX4_isLiked_37 : decode cX4_isLiked 37 = .ok (.if_icmp .ne 12, 3) := by decide +kernel
theorem dX4_isLiked_40 : decode cX4_isLiked 40 = .ok (.iload_n 2, 1) := by decide +kernel
theorem dX4_isLiked_41 : decode cX4_isLiked 41 = .ok (.iload_n 3, 1) := by decide +kernel
theorem dX4_isLiked_42 : decode cX4_isLiked 42 = .ok (.if_icmp .ge 7, 3) := by decide +kernel
theorem dX4_isLiked_45 : decode cX4_isLiked 45 = .ok (.iconst 1, 1) := by decide +kernel
theorem dX4_isLiked_46 : decode cX4_isLiked 46 = .ok (.goto 4, 3) := by decide +kernel
theorem dX4_isLiked_49 : decode cX4_isLiked 49 = .ok (.iconst 0, 1) := by decide +kernel
theorem dX4_isLiked_50 : decode cX4_isLiked 50 = .ok (.ireturn, 1) := by decide +kernel
theorem dX4_nextToAsk_0 : decode cX4_nextToAsk 0 = .ok (.iconst 0, 1) := by decide +kernel
theorem dX4_nextToAsk_1 : decode cX4_nextToAsk 1 = .ok (.istore_n 2, 1) := by decide +kernel
theorem dX4_nextToAsk_2 : decode cX4_nextToAsk 2 = .ok (.iload_n 2, 1) := by decide +kernel
theorem dX4_nextToAsk_3 : decode cX4_nextToAsk 3 = .ok (.iload_n 1, 1) := by decide +kernel
theorem dX4_nextToAsk_4 : decode cX4_nextToAsk 4 = .ok (.if_icmp .ge 110, 3) := by decide +kernel
theorem dX4_nextToAsk_7 : decode cX4_nextToAsk 7 = .ok (.aload_n 0, 1) := by decide +kernel
theorem dX4_nextToAsk_8 : decode cX4_nextToAsk 8 = .ok (.iload_n 2, 1) := by decide +kernel
theorem dX4_nextToAsk_9 : decode cX4_nextToAsk 9 = .ok (.invokevirtual 91, 3) := by decide +kernel
theorem dX4_nextToAsk_12 : decode cX4_nextToAsk 12 = .ok (.iconst (-1), 1) := by decide +kernel
theorem dX4_nextToAsk_13 : decode cX4_nextToAsk 13 = .ok (.if_icmp .eq 6, 3) := by decide +kernel
theorem dX4_nextToAsk_16 : decode cX4_nextToAsk 16 = .ok (.goto 92, 3) := by decide +kernel
theorem dX4_nextToAsk_19 : decode cX4_nextToAsk 19 = .ok (.iconst (-1), 1) := by decide +kernel
theorem dX4_nextToAsk_20 : decode cX4_nextToAsk 20 = .ok (.istore_n 3, 1) := by decide +kernel
theorem dX4_nextToAsk_21 : decode cX4_nextToAsk 21 = .ok (.iload_n 2, 1) := by decide +kernel
theorem dX4_nextToAsk_22 : decode cX4_nextToAsk 22 = .ok (.bipush 6, 2) := by decide +kernel
theorem dX4_nextToAsk_24 : decode cX4_nextToAsk 24 = .ok (.imul, 1) := by decide +kernel
theorem dX4_nextToAsk_25 : decode cX4_nextToAsk 25 = .ok (.istore 4, 2) := by decide +kernel
theorem dX4_nextToAsk_27 : decode cX4_nextToAsk 27 = .ok (.iload 4, 2) := by decide +kernel
theorem dX4_nextToAsk_29 : decode cX4_nextToAsk 29 = .ok (.iload_n 2, 1) := by decide +kernel
theorem dX4_nextToAsk_30 : decode cX4_nextToAsk 30 = .ok (.iconst 1, 1) := by decide +kernel
theorem dX4_nextToAsk_31 : decode cX4_nextToAsk 31 = .ok (.iadd, 1) := by decide +kernel
theorem dX4_nextToAsk_32 : decode cX4_nextToAsk 32 = .ok (.bipush 6, 2) := by decide +kernel
theorem dX4_nextToAsk_34 : decode cX4_nextToAsk 34 = .ok (.imul, 1) := by decide +kernel
theorem dX4_nextToAsk_35 : decode cX4_nextToAsk 35 = .ok (.if_icmp .ge 66, 3) := by decide +kernel
theorem dX4_nextToAsk_38 : decode cX4_nextToAsk 38 = .ok (.aload_n 0, 1) := by decide +kernel
theorem dX4_nextToAsk_39 : decode cX4_nextToAsk 39 = .ok (.getfield 9, 3) := by decide +kernel
theorem dX4_nextToAsk_42 : decode cX4_nextToAsk 42 = .ok (.iload 4, 2) := by decide +kernel
theorem dX4_nextToAsk_44 : decode cX4_nextToAsk 44 = .ok (.iaload, 1) := by decide +kernel
theorem dX4_nextToAsk_45 : decode cX4_nextToAsk 45 = .ok (.iconst (-1), 1) := by decide +kernel
theorem dX4_nextToAsk_46 : decode cX4_nextToAsk 46 = .ok (.if_icmp .eq 17, 3) := by decide +kernel
theorem dX4_nextToAsk_49 : decode cX4_nextToAsk 49 = .ok (.aload_n 0, 1) := by decide +kernel
theorem dX4_nextToAsk_50 : decode cX4_nextToAsk 50 = .ok (.getfield 18, 3) := by decide +kernel
theorem dX4_nextToAsk_53 : decode cX4_nextToAsk 53 = .ok (.iload 4, 2) := by decide +kernel
theorem dX4_nextToAsk_55 : decode cX4_nextToAsk 55 = .ok (.iaload, 1) := by decide +kernel
theorem dX4_nextToAsk_56 : decode cX4_nextToAsk 56 = .ok (.ifCond .ne 7, 3) := by decide +kernel
theorem dX4_nextToAsk_59 : decode cX4_nextToAsk 59 = .ok (.iconst 1, 1) := by decide +kernel
theorem dX4_nextToAsk_60 : decode cX4_nextToAsk 60 = .ok (.goto 4, 3) := by decide +kernel
theorem dX4_nextToAsk_63 : decode cX4_nextToAsk 63 = .ok (.iconst 0, 1) := by decide +kernel
theorem dX4_nextToAsk_64 : decode cX4_nextToAsk 64 = .ok (.istore 5, 2) := by decide +kernel
theorem dX4_nextToAsk_66 : decode cX4_nextToAsk 66 = .ok (.iload 5, 2) := by decide +kernel
theorem dX4_nextToAsk_68 : decode cX4_nextToAsk 68 = .ok (.ifCond .eq 27, 3) := by decide +kernel
theorem dX4_nextToAsk_71 : decode cX4_nextToAsk 71 = .ok (.iload_n 3, 1) := by decide +kernel
theorem dX4_nextToAsk_72 : decode cX4_nextToAsk 72 = .ok (.iconst (-1), 1) := by decide +kernel
theorem dX4_nextToAsk_73 : decode cX4_nextToAsk 73 = .ok (.if_icmp .eq 19, 3) := by decide +kernel
theorem dX4_nextToAsk_76 : decode cX4_nextToAsk 76 = .ok (.aload_n 0, 1) := by decide +kernel
theorem dX4_nextToAsk_77 : decode cX4_nextToAsk 77 = .ok (.getfield 9, 3) := by decide +kernel
theorem dX4_nextToAsk_80 : decode cX4_nextToAsk 80 = .ok (.iload 4, 2) := by decide +kernel
theorem dX4_nextToAsk_82 : decode cX4_nextToAsk 82 = .ok (.iaload, 1) := by decide +kernel
theorem dX4_nextToAsk_83 : decode cX4_nextToAsk 83 = .ok (.aload_n 0, 1) := by decide +kernel
theorem dX4_nextToAsk_84 : decode cX4_nextToAsk 84 = .ok (.getfield 9, 3) := by decide +kernel
theorem dX4_nextToAsk_87 : decode cX4_nextToAsk 87 = .ok (.iload_n 3, 1) := by decide +kernel
theorem dX4_nextToAsk_88 : decode cX4_nextToAsk 88 = .ok (.iaload, 1) := by decide +kernel
theorem dX4_nextToAsk_89 : decode cX4_nextToAsk 89 = .ok (.if_icmp .ge 6, 3) := by decide +kernel
theorem dX4_nextToAsk_92 : decode cX4_nextToAsk 92 = .ok (.iload 4, 2) := by decide +kernel
theorem dX4_nextToAsk_94 : decode cX4_nextToAsk 94 = .ok (.istore_n 3, 1) := by decide +kernel
theorem dX4_nextToAsk_95 : decode cX4_nextToAsk 95 = .ok (.iinc 4 1, 3) := by decide +kernel
theorem dX4_nextToAsk_98 : decode cX4_nextToAsk 98 = .ok (.goto (-71), 3) := by decide +kernel
theorem dX4_nextToAsk_101 : decode cX4_nextToAsk 101 = .ok (.iload_n 3, 1) := by decide +kernel
theorem dX4_nextToAsk_102 : decode cX4_nextToAsk 102 = .ok (.iconst (-1), 1) := by decide +kernel
theorem dX4_nextToAsk_103 : decode cX4_nextToAsk 103 = .ok (.if_icmp .eq 5, 3) := by decide +kernel
theorem dX4_nextToAsk_106 : decode cX4_nextToAsk 106 = .ok (.iload_n 3, 1) := by decide +kernel
theorem dX4_nextToAsk_107 : decode cX4_nextToAsk 107 = .ok (.ireturn, 1) := by decide +kernel
theorem dX4_nextToAsk_108 : decode cX4_nextToAsk 108 = .ok (.iinc 2 1, 3) := by decide +kernel
theorem dX4_nextToAsk_111 : decode cX4_nextToAsk 111 = .ok (.goto (-109), 3) := by decide +kernel
theorem dX4_nextToAsk_114 : decode cX4_nextToAsk 114 = .ok (.iconst (-1), 1) := by decide +kernel
theorem dX4_nextToAsk_115 : decode cX4_nextToAsk 115 = .ok (.ireturn, 1) := by decide +kernel
theorem dX4_suitorThatKeeps_0 : decode cX4_suitorThatKeeps 0 = .ok (.iconst 0, 1) := by decide +kernel
theorem dX4_suitorThatKeeps_1 : decode cX4_suitorThatKeeps 1 = .ok (.istore_n 2, 1) := by decide +kernel
theorem dX4_suitorThatKeeps_2 : decode cX4_suitorThatKeeps 2 = .ok (.iload_n 2, 1) := by decide +kernel
theorem dX4_suitorThatKeeps_3 : decode cX4_suitorThatKeeps 3 = .ok (.bipush 6, 2) := by decide +kernel
theorem dX4_suitorThatKeeps_5 : decode cX4_suitorThatKeeps 5 = .ok (.if_icmp .ge 21, 3) := by decide +kernel
theorem dX4_suitorThatKeeps_8 : decode cX4_suitorThatKeeps 8 = .ok (.aload_n 0, 1) := by decide +kernel
theorem dX4_suitorThatKeeps_9 : decode cX4_suitorThatKeeps 9 = .ok (.getfield 21, 3) := by decide +kernel
theorem dX4_suitorThatKeeps_12 : decode cX4_suitorThatKeeps 12 = .ok (.iload_n 2, 1) := by decide +kernel
theorem dX4_suitorThatKeeps_13 : decode cX4_suitorThatKeeps 13 = .ok (.iaload, 1) := by decide +kernel
theorem dX4_suitorThatKeeps_14 : decode cX4_suitorThatKeeps 14 = .ok (.iload_n 1, 1) := by decide +kernel
theorem dX4_suitorThatKeeps_15 : decode cX4_suitorThatKeeps 15 = .ok (.if_icmp .ne 5, 3) := by decide +kernel
theorem dX4_suitorThatKeeps_18 : decode cX4_suitorThatKeeps 18 = .ok (.iload_n 2, 1) := by decide +kernel
theorem dX4_suitorThatKeeps_19 : decode cX4_suitorThatKeeps 19 = .ok (.ireturn, 1) := by decide +kernel
theorem dX4_suitorThatKeeps_20 : decode cX4_suitorThatKeeps 20 = .ok (.iinc 2 1, 3) := by decide +kernel
theorem dX4_suitorThatKeeps_23 : decode cX4_suitorThatKeeps 23 = .ok (.goto (-21), 3) := by decide +kernel
theorem dX4_suitorThatKeeps_26 : decode cX4_suitorThatKeeps 26 = .ok (.iconst (-1), 1) := by decide +kernel
theorem dX4_suitorThatKeeps_27 : decode cX4_suitorThatKeeps 27 = .ok (.ireturn, 1) := by decide +kernel
theorem dX4_matchAbout_0 : decode cX4_matchAbout 0 = .ok (.aload_n 0, 1) := by decide +kernel
theorem dX4_matchAbout_1 : decode cX4_matchAbout 1 = .ok (.getfield 24, 3) := by decide +kernel
theorem dX4_matchAbout_4 : decode cX4_matchAbout 4 = .ok (.iconst 0, 1) := by decide +kernel
theorem dX4_matchAbout_5 : decode cX4_matchAbout 5 = .ok (.invokestatic 30, 3) := by decide +kernel
theorem dX4_matchAbout_8 : decode cX4_matchAbout 8 = .ok (.iload_n 1, 1) := by decide +kernel
theorem dX4_matchAbout_9 : decode cX4_matchAbout 9 = .ok (.iconst 1, 1) := by decide +kernel
theorem dX4_matchAbout_10 : decode cX4_matchAbout 10 = .ok (.isub, 1) := by decide +kernel
theorem dX4_matchAbout_11 : decode cX4_matchAbout 11 = .ok (.istore_n 3, 1) := by decide +kernel
theorem dX4_matchAbout_12 : decode cX4_matchAbout 12 = .ok (.iload_n 3, 1) := by decide +kernel
theorem dX4_matchAbout_13 : decode cX4_matchAbout 13 = .ok (.ifCond .lt 88, 3) := by decide +kernel
theorem dX4_matchAbout_16 : decode cX4_matchAbout 16 = .ok (.iconst 0, 1) := by decide +kernel
theorem dX4_matchAbout_17 : decode cX4_matchAbout 17 = .ok (.istore 4, 2) := by decide +kernel
theorem dX4_matchAbout_19 : decode cX4_matchAbout 19 = .ok (.iload 4, 2) := by decide +kernel
theorem dX4_matchAbout_21 : decode cX4_matchAbout 21 = .ok (.bipush 64, 2) := by decide +kernel
theorem dX4_matchAbout_23 : decode cX4_matchAbout 23 = .ok (.if_icmp .ge 72, 3) := by decide +kernel
theorem dX4_matchAbout_26 : decode cX4_matchAbout 26 = .ok (.aload_n 0, 1) := by decide +kernel
theorem dX4_matchAbout_27 : decode cX4_matchAbout 27 = .ok (.getfield 24, 3) := by decide +kernel
theorem dX4_matchAbout_30 : decode cX4_matchAbout 30 = .ok (.iload_n 3, 1) := by decide +kernel
theorem dX4_matchAbout_31 : decode cX4_matchAbout 31 = .ok (.iconst 1, 1) := by decide +kernel
theorem dX4_matchAbout_32 : decode cX4_matchAbout 32 = .ok (.iadd, 1) := by decide +kernel
theorem dX4_matchAbout_33 : decode cX4_matchAbout 33 = .ok (.bipush 64, 2) := by decide +kernel
theorem dX4_matchAbout_35 : decode cX4_matchAbout 35 = .ok (.imul, 1) := by decide +kernel
theorem dX4_matchAbout_36 : decode cX4_matchAbout 36 = .ok (.iload 4, 2) := by decide +kernel
theorem dX4_matchAbout_38 : decode cX4_matchAbout 38 = .ok (.iadd, 1) := by decide +kernel
theorem dX4_matchAbout_39 : decode cX4_matchAbout 39 = .ok (.iaload, 1) := by decide +kernel
theorem dX4_matchAbout_40 : decode cX4_matchAbout 40 = .ok (.istore 5, 2) := by decide +kernel
theorem dX4_matchAbout_42 : decode cX4_matchAbout 42 = .ok (.iconst 0, 1) := by decide +kernel
theorem dX4_matchAbout_43 : decode cX4_matchAbout 43 = .ok (.istore 6, 2) := by decide +kernel
theorem dX4_matchAbout_45 : decode cX4_matchAbout 45 = .ok (.iload 6, 2) := by decide +kernel
theorem dX4_matchAbout_47 : decode cX4_matchAbout 47 = .ok (.bipush 6, 2) := by decide +kernel
theorem dX4_matchAbout_49 : decode cX4_matchAbout 49 = .ok (.if_icmp .ge 26, 3) := by decide +kernel
theorem dX4_matchAbout_52 : decode cX4_matchAbout 52 = .ok (.iload 5, 2) := by decide +kernel
theorem dX4_matchAbout_54 : decode cX4_matchAbout 54 = .ok (.aload_n 0, 1) := by decide +kernel
theorem dX4_matchAbout_55 : decode cX4_matchAbout 55 = .ok (.iload_n 3, 1) := by decide +kernel
theorem dX4_matchAbout_56 : decode cX4_matchAbout 56 = .ok (.iload 6, 2) := by decide +kernel
theorem dX4_matchAbout_58 : decode cX4_matchAbout 58 = .ok (.iload 4, 2) := by decide +kernel
theorem dX4_matchAbout_60 : decode cX4_matchAbout 60 = .ok (.iload_n 2, 1) := by decide +kernel
theorem dX4_matchAbout_61 : decode cX4_matchAbout 61 = .ok (.invokevirtual 94, 3) := by decide +kernel
theorem dX4_matchAbout_64 : decode cX4_matchAbout 64 = .ok (.invokestatic 98, 3) := by decide +kernel
theorem dX4_matchAbout_67 : decode cX4_matchAbout 67 = .ok (.istore 5, 2) := by decide +kernel
theorem dX4_matchAbout_69 : decode cX4_matchAbout 69 = .ok (.iinc 6 1, 3) := by decide +kernel
theorem dX4_matchAbout_72 : decode cX4_matchAbout 72 = .ok (.goto (-27), 3) := by decide +kernel
theorem dX4_matchAbout_75 : decode cX4_matchAbout 75 = .ok (.aload_n 0, 1) := by decide +kernel
theorem dX4_matchAbout_76 : decode cX4_matchAbout 76 = .ok (.getfield 24, 3) := by decide +kernel
theorem dX4_matchAbout_79 : decode cX4_matchAbout 79 = .ok (.iload_n 3, 1) := by decide +kernel
theorem dX4_matchAbout_80 : decode cX4_matchAbout 80 = .ok (.bipush 64, 2) := by decide +kernel
theorem dX4_matchAbout_82 : decode cX4_matchAbout 82 = .ok (.imul, 1) := by decide +kernel
theorem dX4_matchAbout_83 : decode cX4_matchAbout 83 = .ok (.iload 4, 2) := by decide +kernel
theorem dX4_matchAbout_85 : decode cX4_matchAbout 85 = .ok (.iadd, 1) := by decide +kernel
theorem dX4_matchAbout_86 : decode cX4_matchAbout 86 = .ok (.iload 5, 2) := by decide +kernel
theorem dX4_matchAbout_88 : decode cX4_matchAbout 88 = .ok (.iastore, 1) := by decide +kernel
theorem dX4_matchAbout_89 : decode cX4_matchAbout 89 = .ok (.iinc 4 1, 3) := by decide +kernel
theorem dX4_matchAbout_92 : decode cX4_matchAbout 92 = .ok (.goto (-73), 3) := by decide +kernel
theorem dX4_matchAbout_95 : decode cX4_matchAbout 95 = .ok (.iinc 3 (-1), 3) := by decide +kernel
theorem dX4_matchAbout_98 : decode cX4_matchAbout 98 = .ok (.goto (-86), 3) := by decide +kernel
theorem dX4_matchAbout_101 : decode cX4_matchAbout 101 = .ok (.aload_n 0, 1) := by decide +kernel
theorem dX4_matchAbout_102 : decode cX4_matchAbout 102 = .ok (.iload_n 1, 1) := by decide +kernel
theorem dX4_matchAbout_103 : decode cX4_matchAbout 103 = .ok (.iload_n 2, 1) := by decide +kernel
theorem dX4_matchAbout_104 : decode cX4_matchAbout 104 = .ok (.invokevirtual 102, 3) := by decide +kernel
theorem dX4_matchAbout_107 : decode cX4_matchAbout 107 = .ok (.return_, 1) := by decide +kernel
theorem dX4_worthWith_0 : decode cX4_worthWith 0 = .ok (.aload_n 0, 1) := by decide +kernel
theorem dX4_worthWith_1 : decode cX4_worthWith 1 = .ok (.getfield 9, 3) := by decide +kernel
theorem dX4_worthWith_4 : decode cX4_worthWith 4 = .ok (.iload_n 1, 1) := by decide +kernel
theorem dX4_worthWith_5 : decode cX4_worthWith 5 = .ok (.bipush 6, 2) := by decide +kernel
theorem dX4_worthWith_7 : decode cX4_worthWith 7 = .ok (.imul, 1) := by decide +kernel
theorem dX4_worthWith_8 : decode cX4_worthWith 8 = .ok (.iload_n 2, 1) := by decide +kernel
theorem dX4_worthWith_9 : decode cX4_worthWith 9 = .ok (.iadd, 1) := by decide +kernel
theorem dX4_worthWith_10 : decode cX4_worthWith 10 = .ok (.iaload, 1) := by decide +kernel
theorem dX4_worthWith_11 : decode cX4_worthWith 11 = .ok (.istore 5, 2) := by decide +kernel
theorem dX4_worthWith_13 : decode cX4_worthWith 13 = .ok (.iload 5, 2) := by decide +kernel
theorem dX4_worthWith_15 : decode cX4_worthWith 15 = .ok (.iconst (-1), 1) := by decide +kernel
theorem dX4_worthWith_16 : decode cX4_worthWith 16 = .ok (.if_icmp .eq 19, 3) := by decide +kernel
theorem dX4_worthWith_19 : decode cX4_worthWith 19 = .ok (.iload 5, 2) := by decide +kernel
theorem dX4_worthWith_21 : decode cX4_worthWith 21 = .ok (.iload 4, 2) := by decide +kernel
theorem dX4_worthWith_23 : decode cX4_worthWith 23 = .ok (.if_icmp .gt 12, 3) := by decide +kernel
theorem dX4_worthWith_26 : decode cX4_worthWith 26 = .ok (.iload_n 3, 1) := by decide +kernel
theorem dX4_worthWith_27 : decode cX4_worthWith 27 = .ok (.iload_n 2, 1) := by decide +kernel
theorem dX4_worthWith_28 : decode cX4_worthWith 28 = .ok (.ishr, 1) := by decide +kernel
theorem dX4_worthWith_29 : decode cX4_worthWith 29 = .ok (.iconst 1, 1) := by decide +kernel
theorem dX4_worthWith_30 : decode cX4_worthWith 30 = .ok (.iand, 1) := by decide +kernel
theorem dX4_worthWith_31 : decode cX4_worthWith 31 = .ok (.iconst 1, 1) := by decide +kernel
theorem dX4_worthWith_32 : decode cX4_worthWith 32 = .ok (.if_icmp .ne 5, 3) := by decide +kernel
theorem dX4_worthWith_35 : decode cX4_worthWith 35 = .ok (.iconst (-1), 1) := by decide +kernel
theorem dX4_worthWith_36 : decode cX4_worthWith 36 = .ok (.ireturn, 1) := by decide +kernel
theorem dX4_worthWith_37 : decode cX4_worthWith 37 = .ok (.sipush 1000, 3) := by decide +kernel
theorem dX4_worthWith_40 : decode cX4_worthWith 40 = .ok (.iload 5, 2) := by decide +kernel
theorem dX4_worthWith_42 : decode cX4_worthWith 42 = .ok (.isub, 1) := by decide +kernel
theorem dX4_worthWith_43 : decode cX4_worthWith 43 = .ok (.aload_n 0, 1) := by decide +kernel
theorem dX4_worthWith_44 : decode cX4_worthWith 44 = .ok (.getfield 24, 3) := by decide +kernel
theorem dX4_worthWith_47 : decode cX4_worthWith 47 = .ok (.iload_n 1, 1) := by decide +kernel
theorem dX4_worthWith_48 : decode cX4_worthWith 48 = .ok (.iconst 1, 1) := by decide +kernel
theorem dX4_worthWith_49 : decode cX4_worthWith 49 = .ok (.iadd, 1) := by decide +kernel
theorem dX4_worthWith_50 : decode cX4_worthWith 50 = .ok (.bipush 64, 2) := by decide +kernel
theorem dX4_worthWith_52 : decode cX4_worthWith 52 = .ok (.imul, 1) := by decide +kernel
theorem dX4_worthWith_53 : decode cX4_worthWith 53 = .ok (.iload_n 3, 1) := by decide +kernel
theorem dX4_worthWith_54 : decode cX4_worthWith 54 = .ok (.iconst 1, 1) := by decide +kernel
theorem dX4_worthWith_55 : decode cX4_worthWith 55 = .ok (.iload_n 2, 1) := by decide +kernel
theorem dX4_worthWith_56 : decode cX4_worthWith 56 = .ok (.ishl, 1) := by decide +kernel
theorem dX4_worthWith_57 : decode cX4_worthWith 57 = .ok (.ior, 1) := by decide +kernel
theorem dX4_worthWith_58 : decode cX4_worthWith 58 = .ok (.iadd, 1) := by decide +kernel
theorem dX4_worthWith_59 : decode cX4_worthWith 59 = .ok (.iaload, 1) := by decide +kernel
theorem dX4_worthWith_60 : decode cX4_worthWith 60 = .ok (.iadd, 1) := by decide +kernel
theorem dX4_worthWith_61 : decode cX4_worthWith 61 = .ok (.ireturn, 1) := by decide +kernel
theorem dX4_writeRow_0 : decode cX4_writeRow 0 = .ok (.iconst 0, 1) := by decide +kernel
theorem dX4_writeRow_1 : decode cX4_writeRow 1 = .ok (.istore_n 3, 1) := by decide +kernel
theorem dX4_writeRow_2 : decode cX4_writeRow 2 = .ok (.iconst 0, 1) := by decide +kernel
theorem dX4_writeRow_3 : decode cX4_writeRow 3 = .ok (.istore 4, 2) := by decide +kernel
theorem dX4_writeRow_5 : decode cX4_writeRow 5 = .ok (.iload 4, 2) := by decide +kernel
theorem dX4_writeRow_7 : decode cX4_writeRow 7 = .ok (.iload_n 1, 1) := by decide +kernel
theorem dX4_writeRow_8 : decode cX4_writeRow 8 = .ok (.if_icmp .ge 104, 3) := by decide +kernel
theorem dX4_writeRow_11 : decode cX4_writeRow 11 = .ok (.aload_n 0, 1) := by decide +kernel
theorem dX4_writeRow_12 : decode cX4_writeRow 12 = .ok (.getfield 27, 3) := by decide +kernel
theorem dX4_writeRow_15 : decode cX4_writeRow 15 = .ok (.iload 4, 2) := by decide +kernel
theorem dX4_writeRow_17 : decode cX4_writeRow 17 = .ok (.bipush 100, 2) := by decide +kernel
theorem dX4_writeRow_19 : decode cX4_writeRow 19 = .ok (.iastore, 1) := by decide +kernel
theorem dX4_writeRow_20 : decode cX4_writeRow 20 = .ok (.iconst 0, 1) := by decide +kernel
theorem dX4_writeRow_21 : decode cX4_writeRow 21 = .ok (.istore 5, 2) := by decide +kernel
theorem dX4_writeRow_23 : decode cX4_writeRow 23 = .ok (.iload 5, 2) := by decide +kernel
theorem dX4_writeRow_25 : decode cX4_writeRow 25 = .ok (.bipush 6, 2) := by decide +kernel
theorem dX4_writeRow_27 : decode cX4_writeRow 27 = .ok (.if_icmp .ge 55, 3) := by decide +kernel
theorem dX4_writeRow_30 : decode cX4_writeRow 30 = .ok (.aload_n 0, 1) := by decide +kernel
theorem dX4_writeRow_31 : decode cX4_writeRow 31 = .ok (.getfield 27, 3) := by decide +kernel
theorem dX4_writeRow_34 : decode cX4_writeRow 34 = .ok (.iload 4, 2) := by decide +kernel
theorem dX4_writeRow_36 : decode cX4_writeRow 36 = .ok (.iaload, 1) := by decide +kernel
theorem dX4_writeRow_37 : decode cX4_writeRow 37 = .ok (.bipush 100, 2) := by decide +kernel
theorem dX4_writeRow_39 : decode cX4_writeRow 39 = .ok (.if_icmp .ne 43, 3) := by decide +kernel
theorem dX4_writeRow_42 : decode cX4_writeRow 42 = .ok (.aload_n 0, 1) := by decide +kernel
theorem dX4_writeRow_43 : decode cX4_writeRow 43 = .ok (.iload 4, 2) := by decide +kernel
theorem dX4_writeRow_45 : decode cX4_writeRow 45 = .ok (.iload 5, 2) := by decide +kernel
theorem dX4_writeRow_47 : decode cX4_writeRow 47 = .ok (.iload_n 3, 1) := by decide +kernel
theorem dX4_writeRow_48 : decode cX4_writeRow 48 = .ok (.iload_n 2, 1) := by decide +kernel
theorem dX4_writeRow_49 : decode cX4_writeRow 49 = .ok (.invokevirtual 94, 3) := by decide +kernel
theorem dX4_writeRow_52 : decode cX4_writeRow 52 = .ok (.aload_n 0, 1) := by decide +kernel
theorem dX4_writeRow_53 : decode cX4_writeRow 53 = .ok (.getfield 24, 3) := by decide +kernel
theorem dX4_writeRow_56 : decode cX4_writeRow 56 = .ok (.iload 4, 2) := by decide +kernel
theorem dX4_writeRow_58 : decode cX4_writeRow 58 = .ok (.bipush 64, 2) := by decide +kernel
theorem dX4_writeRow_60 : decode cX4_writeRow 60 = .ok (.imul, 1) := by decide +kernel
theorem dX4_writeRow_61 : decode cX4_writeRow 61 = .ok (.iload_n 3, 1) := by decide +kernel
theorem dX4_writeRow_62 : decode cX4_writeRow 62 = .ok (.iadd, 1) := by decide +kernel
theorem dX4_writeRow_63 : decode cX4_writeRow 63 = .ok (.iaload, 1) := by decide +kernel
theorem dX4_writeRow_64 : decode cX4_writeRow 64 = .ok (.if_icmp .ne 12, 3) := by decide +kernel
theorem dX4_writeRow_67 : decode cX4_writeRow 67 = .ok (.aload_n 0, 1) := by decide +kernel
theorem dX4_writeRow_68 : decode cX4_writeRow 68 = .ok (.getfield 27, 3) := by decide +kernel
theorem dX4_writeRow_71 : decode cX4_writeRow 71 = .ok (.iload 4, 2) := by decide +kernel
theorem dX4_writeRow_73 : decode cX4_writeRow 73 = .ok (.iload 5, 2) := by decide +kernel
theorem dX4_writeRow_75 : decode cX4_writeRow 75 = .ok (.iastore, 1) := by decide +kernel
theorem dX4_writeRow_76 : decode cX4_writeRow 76 = .ok (.iinc 5 1, 3) := by decide +kernel
theorem dX4_writeRow_79 : decode cX4_writeRow 79 = .ok (.goto (-56), 3) := by decide +kernel
theorem dX4_writeRow_82 : decode cX4_writeRow 82 = .ok (.aload_n 0, 1) := by decide +kernel
theorem dX4_writeRow_83 : decode cX4_writeRow 83 = .ok (.getfield 27, 3) := by decide +kernel
theorem dX4_writeRow_86 : decode cX4_writeRow 86 = .ok (.iload 4, 2) := by decide +kernel
theorem dX4_writeRow_88 : decode cX4_writeRow 88 = .ok (.iaload, 1) := by decide +kernel
theorem dX4_writeRow_89 : decode cX4_writeRow 89 = .ok (.bipush 100, 2) := by decide +kernel
theorem dX4_writeRow_91 : decode cX4_writeRow 91 = .ok (.if_icmp .eq 15, 3) := by decide +kernel
theorem dX4_writeRow_94 : decode cX4_writeRow 94 = .ok (.iload_n 3, 1) := by decide +kernel
theorem dX4_writeRow_95 : decode cX4_writeRow 95 = .ok (.iconst 1, 1) := by decide +kernel
theorem dX4_writeRow_96 : decode cX4_writeRow 96 = .ok (.aload_n 0, 1) := by decide +kernel
theorem dX4_writeRow_97 : decode cX4_writeRow 97 = .ok (.getfield 27, 3) := by decide +kernel
theorem dX4_writeRow_100 : decode cX4_writeRow 100 = .ok (.iload 4, 2) := by decide +kernel
theorem dX4_writeRow_102 : decode cX4_writeRow 102 = .ok (.iaload, 1) := by decide +kernel
theorem dX4_writeRow_103 : decode cX4_writeRow 103 = .ok (.ishl, 1) := by decide +kernel
theorem dX4_writeRow_104 : decode cX4_writeRow 104 = .ok (.ior, 1) := by decide +kernel
theorem dX4_writeRow_105 : decode cX4_writeRow 105 = .ok (.istore_n 3, 1) := by decide +kernel
theorem dX4_writeRow_106 : decode cX4_writeRow 106 = .ok (.iinc 4 1, 3) := by decide +kernel
theorem dX4_writeRow_109 : decode cX4_writeRow 109 = .ok (.goto (-104), 3) := by decide +kernel
theorem dX4_writeRow_112 : decode cX4_writeRow 112 = .ok (.return_, 1) := by decide +kernel
theorem dX4_matched_0 : decode cX4_matched 0 = .ok (.aload_n 0, 1) := by decide +kernel
theorem dX4_matched_1 : decode cX4_matched 1 = .ok (.getfield 24, 3) := by decide +kernel
theorem dX4_matched_4 : decode cX4_matched 4 = .ok (.iconst 0, 1) := by decide +kernel
theorem dX4_matched_5 : decode cX4_matched 5 = .ok (.iaload, 1) := by decide +kernel
theorem dX4_matched_6 : decode cX4_matched 6 = .ok (.sipush 1000, 3) := by decide +kernel
theorem dX4_matched_9 : decode cX4_matched 9 = .ok (.iadd, 1) := by decide +kernel
theorem dX4_matched_10 : decode cX4_matched 10 = .ok (.iconst 1, 1) := by decide +kernel
theorem dX4_matched_11 : decode cX4_matched 11 = .ok (.isub, 1) := by decide +kernel
theorem dX4_matched_12 : decode cX4_matched 12 = .ok (.sipush 1000, 3) := by decide +kernel
theorem dX4_matched_15 : decode cX4_matched 15 = .ok (.idiv, 1) := by decide +kernel
theorem dX4_matched_16 : decode cX4_matched 16 = .ok (.ireturn, 1) := by decide +kernel
theorem dX4_differences_0 : decode cX4_differences 0 = .ok (.aload_n 0, 1) := by decide +kernel
theorem dX4_differences_1 : decode cX4_differences 1 = .ok (.invokevirtual 106, 3) := by decide +kernel
theorem dX4_differences_4 : decode cX4_differences 4 = .ok (.sipush 1000, 3) := by decide +kernel
theorem dX4_differences_7 : decode cX4_differences 7 = .ok (.imul, 1) := by decide +kernel
theorem dX4_differences_8 : decode cX4_differences 8 = .ok (.aload_n 0, 1) := by decide +kernel
theorem dX4_differences_9 : decode cX4_differences 9 = .ok (.getfield 24, 3) := by decide +kernel
theorem dX4_differences_12 : decode cX4_differences 12 = .ok (.iconst 0, 1) := by decide +kernel
theorem dX4_differences_13 : decode cX4_differences 13 = .ok (.iaload, 1) := by decide +kernel
theorem dX4_differences_14 : decode cX4_differences 14 = .ok (.isub, 1) := by decide +kernel
theorem dX4_differences_15 : decode cX4_differences 15 = .ok (.ireturn, 1) := by decide +kernel
theorem dX6_init_0 : decode cX6_init 0 = .ok (.aload_n 0, 1) := by decide +kernel
theorem dX6_init_1 : decode cX6_init 1 = .ok (.invokespecial 5, 3) := by decide +kernel
theorem dX6_init_4 : decode cX6_init 4 = .ok (.aload_n 0, 1) := by decide +kernel
theorem dX6_init_5 : decode cX6_init 5 = .ok (.bipush 64, 2) := by decide +kernel
theorem dX6_init_7 : decode cX6_init 7 = .ok (.newarray .int, 2) := by decide +kernel
theorem dX6_init_9 : decode cX6_init 9 = .ok (.putfield 11, 3) := by decide +kernel
theorem dX6_init_12 : decode cX6_init 12 = .ok (.return_, 1) := by decide +kernel
theorem dX6_reckon_0 : decode cX6_reckon 0 = .ok (.iload_n 2, 1) := by decide +kernel
theorem dX6_reckon_1 : decode cX6_reckon 1 = .ok (.ifCond .ge 5, 3) := by decide +kernel
theorem dX6_reckon_4 : decode cX6_reckon 4 = .ok (.iconst 1, 1) := by decide +kernel
theorem dX6_reckon_5 : decode cX6_reckon 5 = .ok (.ireturn, 1) := by decide +kernel
theorem dX6_reckon_6 : decode cX6_reckon 6 = .ok (.iconst 0, 1) := by decide +kernel
theorem dX6_reckon_7 : decode cX6_reckon 7 = .ok (.istore 4, 2) := by decide +kernel
theorem dX6_reckon_9 : decode cX6_reckon 9 = .ok (.iload_n 2, 1) := by decide +kernel
theorem dX6_reckon_10 : decode cX6_reckon 10 = .ok (.istore 5, 2) := by decide +kernel
theorem dX6_reckon_12 : decode cX6_reckon 12 = .ok (.iload 5, 2) := by decide +kernel
theorem dX6_reckon_14 : decode cX6_reckon 14 = .ok (.aload_n 1, 1) := by decide +kernel
theorem dX6_reckon_15 : decode cX6_reckon 15 = .ok (.getfield 15, 3) := by decide +kernel
theorem dX6_reckon_18 : decode cX6_reckon 18 = .ok (.arraylength, 1) := by decide +kernel
theorem dX6_reckon_19 : decode cX6_reckon 19 = .ok (.if_icmp .ge 273, 3) := by decide +kernel
theorem dX6_reckon_22 : decode cX6_reckon 22 = .ok (.aload_n 1, 1) := by decide +kernel
theorem dX6_reckon_23 : decode cX6_reckon 23 = .ok (.getfield 15, 3) := by decide +kernel
theorem dX6_reckon_26 : decode cX6_reckon 26 = .ok (.iload 5, 2) := by decide +kernel
theorem dX6_reckon_28 : decode cX6_reckon 28 = .ok (.iaload, 1) := by decide +kernel
theorem dX6_reckon_29 : decode cX6_reckon 29 = .ok (.istore 6, 2) := by decide +kernel
theorem dX6_reckon_31 : decode cX6_reckon 31 = .ok (.aload_n 1, 1) := by decide +kernel
theorem dX6_reckon_32 : decode cX6_reckon 32 = .ok (.getfield 20, 3) := by decide +kernel
theorem dX6_reckon_35 : decode cX6_reckon 35 = .ok (.iload 5, 2) := by decide +kernel
theorem dX6_reckon_37 : decode cX6_reckon 37 = .ok (.iaload, 1) := by decide +kernel
theorem dX6_reckon_38 : decode cX6_reckon 38 = .ok (.istore 7, 2) := by decide +kernel
theorem dX6_reckon_40 : decode cX6_reckon 40 = .ok (.iload 6, 2) := by decide +kernel
theorem dX6_reckon_42 : decode cX6_reckon 42 = .ok (.ifCond .ne 21, 3) := by decide +kernel
theorem dX6_reckon_45 : decode cX6_reckon 45 = .ok (.iload 4, 2) := by decide +kernel
theorem dX6_reckon_47 : decode cX6_reckon 47 = .ok (.iconst 1, 1) := by decide +kernel
theorem dX6_reckon_48 : decode cX6_reckon 48 = .ok (.if_icmp .ne 12, 3) := by decide +kernel
theorem dX6_reckon_51 : decode cX6_reckon 51 = .ok (.aload_n 0, 1) := by decide +kernel
theorem dX6_reckon_52 : decode cX6_reckon 52 = .ok (.getfield 11, 3) := by decide +kernel
theorem dX6_reckon_55 : decode cX6_reckon 55 = .ok (.iconst 0, 1) := by decide +kernel
theorem dX6_reckon_56 : decode cX6_reckon 56 = .ok (.iaload, 1) := by decide +kernel
theorem dX6_reckon_57 : decode cX6_reckon 57 = .ok (.goto 5, 3) := by decide +kernel
theorem dX6_reckon_60 : decode cX6_reckon 60 = .ok (.ldc 23, 2) := by decide +kernel
theorem dX6_reckon_62 : decode cX6_reckon 62 = .ok (.ireturn, 1) := by decide +kernel
theorem dX6_reckon_63 : decode cX6_reckon 63 = .ok (.iload 6, 2) := by decide +kernel
theorem dX6_reckon_65 : decode cX6_reckon 65 = .ok (.iconst 1, 1) := by decide +kernel
theorem dX6_reckon_66 : decode cX6_reckon 66 = .ok (.if_icmp .eq 9, 3) := by decide +kernel
theorem dX6_reckon_69 : decode cX6_reckon 69 = .ok (.iload 6, 2) := by decide +kernel
theorem dX6_reckon_71 : decode cX6_reckon 71 = .ok (.iconst 2, 1) := by decide +kernel
theorem dX6_reckon_72 : decode cX6_reckon 72 = .ok (.if_icmp .ne 62, 3) := by decide +kernel
theorem dX6_reckon_75 : decode cX6_reckon 75 = .ok (.iload 4, 2) := by decide +kernel
theorem dX6_reckon_77 : decode cX6_reckon 77 = .ok (.aload_n 0, 1) := by decide +kernel
theorem dX6_reckon_78 : decode cX6_reckon 78 = .ok (.getfield 11, 3) := by decide +kernel
theorem dX6_reckon_81 : decode cX6_reckon 81 = .ok (.arraylength, 1) := by decide +kernel
theorem dX6_reckon_82 : decode cX6_reckon 82 = .ok (.if_icmp .ge 21, 3) := by decide +kernel
theorem dX6_reckon_85 : decode cX6_reckon 85 = .ok (.iload 7, 2) := by decide +kernel
theorem dX6_reckon_87 : decode cX6_reckon 87 = .ok (.ifCond .lt 16, 3) := by decide +kernel
theorem dX6_reckon_90 : decode cX6_reckon 90 = .ok (.iload 6, 2) := by decide +kernel
theorem dX6_reckon_92 : decode cX6_reckon 92 = .ok (.iconst 2, 1) := by decide +kernel
theorem dX6_reckon_93 : decode cX6_reckon 93 = .ok (.if_icmp .ne 13, 3) := by decide +kernel
theorem dX6_reckon_96 : decode cX6_reckon 96 = .ok (.iload 7, 2) := by decide +kernel
theorem dX6_reckon_98 : decode cX6_reckon 98 = .ok (.aload_n 3, 1) := by decide +kernel
theorem dX6_reckon_99 : decode cX6_reckon 99 = .ok (.arraylength, 1) := by decide +kernel
theorem dX6_reckon_100 : decode cX6_reckon 100 = .ok (.if_icmp .lt 6, 3) := by decide +kernel
theorem dX6_reckon_103 : decode cX6_reckon 103 = .ok (.ldc 23, 2) := by decide +kernel
theorem dX6_reckon_105 : decode cX6_reckon 105 = .ok (.ireturn, 1) := by decide +kernel
theorem dX6_reckon_106 : decode cX6_reckon 106 = .ok (.aload_n 0, 1) := by decide +kernel
theorem dX6_reckon_107 : decode cX6_reckon 107 = .ok (.getfield 11, 3) := by decide +kernel
theorem dX6_reckon_110 : decode cX6_reckon 110 = .ok (.iload 4, 2) := by decide +kernel
theorem dX6_reckon_112 : decode cX6_reckon 112 = .ok (.iload 6, 2) := by decide +kernel
theorem dX6_reckon_114 : decode cX6_reckon 114 = .ok (.iconst 1, 1) := by decide +kernel
theorem dX6_reckon_115 : decode cX6_reckon 115 = .ok (.if_icmp .ne 8, 3) := by decide +kernel
theorem dX6_reckon_118 : decode cX6_reckon 118 = .ok (.iload 7, 2) := by decide +kernel
theorem dX6_reckon_120 : decode cX6_reckon 120 = .ok (.goto 7, 3) := by decide +kernel
theorem dX6_reckon_123 : decode cX6_reckon 123 = .ok (.aload_n 3, 1) := by decide +kernel
theorem dX6_reckon_124 : decode cX6_reckon 124 = .ok (.iload 7, 2) := by decide +kernel
theorem dX6_reckon_126 : decode cX6_reckon 126 = .ok (.iaload, 1) := by decide +kernel
theorem dX6_reckon_127 : decode cX6_reckon 127 = .ok (.iastore, 1) := by decide +kernel
theorem dX6_reckon_128 : decode cX6_reckon 128 = .ok (.iinc 4 1, 3) := by decide +kernel
theorem dX6_reckon_131 : decode cX6_reckon 131 = .ok (.goto 155, 3) := by decide +kernel
theorem dX6_reckon_134 : decode cX6_reckon 134 = .ok (.iload 6, 2) := by decide +kernel
theorem dX6_reckon_136 : decode cX6_reckon 136 = .ok (.bipush 11, 2) := by decide +kernel
theorem dX6_reckon_138 : decode cX6_reckon 138 = .ok (.if_icmp .lt 86, 3) := by decide +kernel
theorem dX6_reckon_141 : decode cX6_reckon 141 = .ok (.iload 4, 2) := by decide +kernel
theorem dX6_reckon_143 : decode cX6_reckon 143 = .ok (.iconst 1, 1) := by decide +kernel
theorem dX6_reckon_144 : decode cX6_reckon 144 = .ok (.if_icmp .ge 6, 3) := by decide +kernel
theorem dX6_reckon_147 : decode cX6_reckon 147 = .ok (.ldc 23, 2) := by decide +kernel
theorem dX6_reckon_149 : decode cX6_reckon 149 = .ok (.ireturn, 1) := by decide +kernel
theorem dX6_reckon_150 : decode cX6_reckon 150 = .ok (.iload 6, 2) := by decide +kernel
theorem dX6_reckon_152 : decode cX6_reckon 152 = .ok (.bipush 11, 2) := by decide +kernel
theorem dX6_reckon_154 : decode cX6_reckon 154 = .ok (.if_icmp .ne 26, 3) := by decide +kernel
theorem dX6_reckon_157 : decode cX6_reckon 157 = .ok (.aload_n 0, 1) := by decide +kernel
theorem dX6_reckon_158 : decode cX6_reckon 158 = .ok (.getfield 11, 3) := by decide +kernel
theorem dX6_reckon_161 : decode cX6_reckon 161 = .ok (.iload 4, 2) := by decide +kernel
theorem dX6_reckon_163 : decode cX6_reckon 163 = .ok (.iconst 1, 1) := by decide +kernel
theorem dX6_reckon_164 : decode cX6_reckon 164 = .ok (.isub, 1) := by decide +kernel
theorem dX6_reckon_165 : decode cX6_reckon 165 = .ok (.iconst 1, 1) := by decide +kernel
theorem dX6_reckon_166 : decode cX6_reckon 166 = .ok (.aload_n 0, 1) := by decide +kernel
theorem dX6_reckon_167 : decode cX6_reckon 167 = .ok (.getfield 11, 3) := by decide +kernel
theorem dX6_reckon_170 : decode cX6_reckon 170 = .ok (.iload 4, 2) := by decide +kernel
theorem dX6_reckon_172 : decode cX6_reckon 172 = .ok (.iconst 1, 1) := by decide +kernel
theorem dX6_reckon_173 : decode cX6_reckon 173 = .ok (.isub, 1) := by decide +kernel
theorem dX6_reckon_174 : decode cX6_reckon 174 = .ok (.iaload, 1) := by decide +kernel
theorem dX6_reckon_175 : decode cX6_reckon 175 = .ok (.isub, 1) := by decide +kernel
theorem dX6_reckon_176 : decode cX6_reckon 176 = .ok (.iastore, 1) := by decide +kernel
theorem dX6_reckon_177 : decode cX6_reckon 177 = .ok (.goto 109, 3) := by decide +kernel
theorem dX6_reckon_180 : decode cX6_reckon 180 = .ok (.aload_n 0, 1) := by decide +kernel
theorem dX6_reckon_181 : decode cX6_reckon 181 = .ok (.getfield 11, 3) := by decide +kernel
theorem dX6_reckon_184 : decode cX6_reckon 184 = .ok (.iload 4, 2) := by decide +kernel
theorem dX6_reckon_186 : decode cX6_reckon 186 = .ok (.iconst 1, 1) := by decide +kernel
theorem dX6_reckon_187 : decode cX6_reckon 187 = .ok (.isub, 1) := by decide +kernel
theorem dX6_reckon_188 : decode cX6_reckon 188 = .ok (.iaload, 1) := by decide +kernel
theorem dX6_reckon_189 : decode cX6_reckon 189 = .ok (.iload 6, 2) := by decide +kernel
theorem dX6_reckon_191 : decode cX6_reckon 191 = .ok (.bipush 13, 2) := by decide +kernel
theorem dX6_reckon_193 : decode cX6_reckon 193 = .ok (.if_icmp .ne 7, 3) := by decide +kernel
theorem dX6_reckon_196 : decode cX6_reckon 196 = .ok (.iconst 1, 1) := by decide +kernel
theorem dX6_reckon_197 : decode cX6_reckon 197 = .ok (.goto 4, 3) := by decide +kernel
theorem dX6_reckon_200 : decode cX6_reckon 200 = .ok (.iconst 0, 1) := by decide +kernel
theorem dX6_reckon_201 : decode cX6_reckon 201 = .ok (.if_icmp .ne 17, 3) := by decide +kernel
theorem dX6_reckon_204 : decode cX6_reckon 204 = .ok (.iload 5, 2) := by decide +kernel
theorem dX6_reckon_206 : decode cX6_reckon 206 = .ok (.iload 7, 2) := by decide +kernel
theorem dX6_reckon_208 : decode cX6_reckon 208 = .ok (.iconst 1, 1) := by decide +kernel
theorem dX6_reckon_209 : decode cX6_reckon 209 = .ok (.isub, 1) := by decide +kernel
theorem dX6_reckon_210 : decode cX6_reckon 210 = .ok (.invokestatic 24, 3) := by decide +kernel
theorem dX6_reckon_213 : decode cX6_reckon 213 = .ok (.istore 5, 2) := by decide +kernel
theorem dX6_reckon_215 : decode cX6_reckon 215 = .ok (.goto 71, 3) := by decide +kernel
theorem dX6_reckon_218 : decode cX6_reckon 218 = .ok (.iinc 4 (-1), 3) := by decide +kernel
theorem dX6_reckon_221 : decode cX6_reckon 221 = .ok (.goto 65, 3) := by decide +kernel
theorem dX6_reckon_224 : decode cX6_reckon 224 = .ok (.iload 4, 2) := by decide +kernel
theorem dX6_reckon_226 : decode cX6_reckon 226 = .ok (.iconst 2, 1) := by decide +kernel
theorem dX6_reckon_227 : decode cX6_reckon 227 = .ok (.if_icmp .ge 8, 3) := by decide +kernel
theorem dX6_reckon_230 : decode cX6_reckon 230 = .ok (.ldc 23, 2) := by decide +kernel
theorem dX6_reckon_232 : decode cX6_reckon 232 = .ok (.goto 28, 3) := by decide +kernel
theorem dX6_reckon_235 : decode cX6_reckon 235 = .ok (.iload 6, 2) := by decide +kernel
theorem dX6_reckon_237 : decode cX6_reckon 237 = .ok (.aload_n 0, 1) := by decide +kernel
theorem dX6_reckon_238 : decode cX6_reckon 238 = .ok (.getfield 11, 3) := by decide +kernel
theorem dX6_reckon_241 : decode cX6_reckon 241 = .ok (.iload 4, 2) := by decide +kernel
theorem dX6_reckon_243 : decode cX6_reckon 243 = .ok (.iconst 2, 1) := by decide +kernel
theorem dX6_reckon_244 : decode cX6_reckon 244 = .ok (.isub, 1) := by decide +kernel
theorem dX6_reckon_245 : decode cX6_reckon 245 = .ok (.iaload, 1) := by decide +kernel
theorem dX6_reckon_246 : decode cX6_reckon 246 = .ok (.i2l, 1) := by decide +kernel
theorem dX6_reckon_247 : decode cX6_reckon 247 = .ok (.aload_n 0, 1) := by decide +kernel
theorem dX6_reckon_248 : decode cX6_reckon 248 = .ok (.getfield 11, 3) := by decide +kernel
theorem dX6_reckon_251 : decode cX6_reckon 251 = .ok (.iload 4, 2) := by decide +kernel
theorem dX6_reckon_253 : decode cX6_reckon 253 = .ok (.iconst 1, 1) := by decide +kernel
theorem dX6_reckon_254 : decode cX6_reckon 254 = .ok (.isub, 1) := by decide +kernel
theorem dX6_reckon_255 : decode cX6_reckon 255 = .ok (.iaload, 1) := by decide +kernel
theorem dX6_reckon_256 : decode cX6_reckon 256 = .ok (.i2l, 1) := by decide +kernel
theorem dX6_reckon_257 : decode cX6_reckon 257 = .ok (.invokestatic 30, 3) := by decide +kernel
theorem dX6_reckon_260 : decode cX6_reckon 260 = .ok (.istore 8, 2) := by decide +kernel
theorem dX6_reckon_262 : decode cX6_reckon 262 = .ok (.iload 8, 2) := by decide +kernel
theorem dX6_reckon_264 : decode cX6_reckon 264 = .ok (.ldc 23, 2) := by decide +kernel
theorem dX6_reckon_266 : decode cX6_reckon 266 = .ok (.if_icmp .ne 6, 3) := by decide +kernel
theorem dX6_reckon_269 : decode cX6_reckon 269 = .ok (.ldc 23, 2) := by decide +kernel
theorem dX6_reckon_271 : decode cX6_reckon 271 = .ok (.ireturn, 1) := by decide +kernel
theorem dX6_reckon_272 : decode cX6_reckon 272 = .ok (.iinc 4 (-1), 3) := by decide +kernel
theorem dX6_reckon_275 : decode cX6_reckon 275 = .ok (.aload_n 0, 1) := by decide +kernel
theorem dX6_reckon_276 : decode cX6_reckon 276 = .ok (.getfield 11, 3) := by decide +kernel
theorem dX6_reckon_279 : decode cX6_reckon 279 = .ok (.iload 4, 2) := by decide +kernel
theorem dX6_reckon_281 : decode cX6_reckon 281 = .ok (.iconst 1, 1) := by decide +kernel
theorem dX6_reckon_282 : decode cX6_reckon 282 = .ok (.isub, 1) := by decide +kernel
theorem dX6_reckon_283 : decode cX6_reckon 283 = .ok (.iload 8, 2) := by decide +kernel
theorem dX6_reckon_285 : decode cX6_reckon 285 = .ok (.iastore, 1) := by decide +kernel
theorem dX6_reckon_286 : decode cX6_reckon 286 = .ok (.iinc 5 1, 3) := by decide +kernel
theorem dX6_reckon_289 : decode cX6_reckon 289 = .ok (.goto (-277), 3) := by decide +kernel
theorem dX6_reckon_292 : decode cX6_reckon 292 = .ok (.ldc 23, 2) := by decide +kernel
theorem dX6_reckon_294 : decode cX6_reckon 294 = .ok (.ireturn, 1) := by decide +kernel
theorem dX6_join_0 : decode cX6_join 0 = .ok (.iload_n 0, 1) := by decide +kernel
theorem dX6_join_1 : decode cX6_join 1 = .ok (.bipush 6, 2) := by decide +kernel
theorem dX6_join_3 : decode cX6_join 3 = .ok (.if_icmp .eq 9, 3) := by decide +kernel
theorem dX6_join_6 : decode cX6_join 6 = .ok (.iload_n 0, 1) := by decide +kernel
theorem dX6_join_7 : decode cX6_join 7 = .ok (.bipush 7, 2) := by decide +kernel
theorem dX6_join_9 : decode cX6_join 9 = .ok (.if_icmp .ne 12, 3) := by decide +kernel
theorem dX6_join_12 : decode cX6_join 12 = .ok (.lload_n 3, 1) := by decide +kernel
theorem dX6_join_13 : decode cX6_join 13 = .ok (.lconst 0, 1) := by decide +kernel
theorem dX6_join_14 : decode cX6_join 14 = .ok (.lcmp, 1) := by decide +kernel
theorem dX6_join_15 : decode cX6_join 15 = .ok (.ifCond .ne 6, 3) := by decide +kernel
theorem dX6_join_18 : decode cX6_join 18 = .ok (.ldc 23, 2) := by decide +kernel
theorem dX6_join_20 : decode cX6_join 20 = .ok (.ireturn, 1) := by decide +kernel
theorem dX6_join_21 : decode cX6_join 21 = .ok (.iload_n 0, 1) := by decide +kernel
theorem dX6_join_22 : decode cX6_join 22 = .ok (.tableswitch 114 3 9 #[42, 50, 58, 66, 74, 82, 98], 42) := by decide +kernel
theorem dX6_join_64 : decode cX6_join 64 = .ok (.lload_n 1, 1) := by decide +kernel
theorem dX6_join_65 : decode cX6_join 65 = .ok (.lload_n 3, 1) := by decide +kernel
theorem dX6_join_66 : decode cX6_join 66 = .ok (.ladd, 1) := by decide +kernel
theorem dX6_join_67 : decode cX6_join 67 = .ok (.lstore 5, 2) := by decide +kernel
theorem dX6_join_69 : decode cX6_join 69 = .ok (.goto 80, 3) := by decide +kernel
theorem dX6_join_72 : decode cX6_join 72 = .ok (.lload_n 1, 1) := by decide +kernel
theorem dX6_join_73 : decode cX6_join 73 = .ok (.lload_n 3, 1) := by decide +kernel
theorem dX6_join_74 : decode cX6_join 74 = .ok (.lsub, 1) := by decide +kernel
theorem dX6_join_75 : decode cX6_join 75 = .ok (.lstore 5, 2) := by decide +kernel
theorem dX6_join_77 : decode cX6_join 77 = .ok (.goto 72, 3) := by decide +kernel
theorem dX6_join_80 : decode cX6_join 80 = .ok (.lload_n 1, 1) := by decide +kernel
theorem dX6_join_81 : decode cX6_join 81 = .ok (.lload_n 3, 1) := by decide +kernel
theorem dX6_join_82 : decode cX6_join 82 = .ok (.lmul, 1) := by decide +kernel
theorem dX6_join_83 : decode cX6_join 83 = .ok (.lstore 5, 2) := by decide +kernel
theorem dX6_join_85 : decode cX6_join 85 = .ok (.goto 64, 3) := by decide +kernel
theorem dX6_join_88 : decode cX6_join 88 = .ok (.lload_n 1, 1) := by decide +kernel
theorem dX6_join_89 : decode cX6_join 89 = .ok (.lload_n 3, 1) := by decide +kernel
theorem dX6_join_90 : decode cX6_join 90 = .ok (.ldiv, 1) := by decide +kernel
theorem dX6_join_91 : decode cX6_join 91 = .ok (.lstore 5, 2) := by decide +kernel
theorem dX6_join_93 : decode cX6_join 93 = .ok (.goto 56, 3) := by decide +kernel
theorem dX6_join_96 : decode cX6_join 96 = .ok (.lload_n 1, 1) := by decide +kernel
theorem dX6_join_97 : decode cX6_join 97 = .ok (.lload_n 3, 1) := by decide +kernel
theorem dX6_join_98 : decode cX6_join 98 = .ok (.lrem, 1) := by decide +kernel
theorem dX6_join_99 : decode cX6_join 99 = .ok (.lstore 5, 2) := by decide +kernel
theorem dX6_join_101 : decode cX6_join 101 = .ok (.goto 48, 3) := by decide +kernel
theorem dX6_join_104 : decode cX6_join 104 = .ok (.lload_n 1, 1) := by decide +kernel
theorem dX6_join_105 : decode cX6_join 105 = .ok (.lload_n 3, 1) := by decide +kernel
theorem dX6_join_106 : decode cX6_join 106 = .ok (.lcmp, 1) := by decide +kernel
theorem dX6_join_107 : decode cX6_join 107 = .ok (.ifCond .ge 7, 3) := by decide +kernel
theorem dX6_join_110 : decode cX6_join 110 = .ok (.lconst 1, 1) := by decide +kernel
theorem dX6_join_111 : decode cX6_join 111 = .ok (.goto 4, 3) := by decide +kernel
theorem dX6_join_114 : decode cX6_join 114 = .ok (.lconst 0, 1) := by decide +kernel
theorem dX6_join_115 : decode cX6_join 115 = .ok (.lstore 5, 2) := by decide +kernel
theorem dX6_join_117 : decode cX6_join 117 = .ok (.goto 32, 3) := by decide +kernel
theorem dX6_join_120 : decode cX6_join 120 = .ok (.lload_n 1, 1) := by decide +kernel
theorem dX6_join_121 : decode cX6_join 121 = .ok (.lload_n 3, 1) := by decide +kernel
theorem dX6_join_122 : decode cX6_join 122 = .ok (.lcmp, 1) := by decide +kernel
theorem dX6_join_123 : decode cX6_join 123 = .ok (.ifCond .le 7, 3) := by decide +kernel
theorem dX6_join_126 : decode cX6_join 126 = .ok (.lconst 1, 1) := by decide +kernel
theorem dX6_join_127 : decode cX6_join 127 = .ok (.goto 4, 3) := by decide +kernel
theorem dX6_join_130 : decode cX6_join 130 = .ok (.lconst 0, 1) := by decide +kernel
theorem dX6_join_131 : decode cX6_join 131 = .ok (.lstore 5, 2) := by decide +kernel
theorem dX6_join_133 : decode cX6_join 133 = .ok (.goto 16, 3) := by decide +kernel
theorem dX6_join_136 : decode cX6_join 136 = .ok (.lload_n 1, 1) := by decide +kernel
theorem dX6_join_137 : decode cX6_join 137 = .ok (.lload_n 3, 1) := by decide +kernel
theorem dX6_join_138 : decode cX6_join 138 = .ok (.lcmp, 1) := by decide +kernel
theorem dX6_join_139 : decode cX6_join 139 = .ok (.ifCond .ne 7, 3) := by decide +kernel
theorem dX6_join_142 : decode cX6_join 142 = .ok (.lconst 1, 1) := by decide +kernel
theorem dX6_join_143 : decode cX6_join 143 = .ok (.goto 4, 3) := by decide +kernel
theorem dX6_join_146 : decode cX6_join 146 = .ok (.lconst 0, 1) := by decide +kernel
theorem dX6_join_147 : decode cX6_join 147 = .ok (.lstore 5, 2) := by decide +kernel
theorem dX6_join_149 : decode cX6_join 149 = .ok (.lload 5, 2) := by decide +kernel
theorem dX6_join_151 : decode cX6_join 151 = .ok (.ldc2_w 34, 3) := by decide +kernel
theorem dX6_join_154 : decode cX6_join 154 = .ok (.lcmp, 1) := by decide +kernel
theorem dX6_join_155 : decode cX6_join 155 = .ok (.ifCond .gt 12, 3) := by decide +kernel
theorem dX6_join_158 : decode cX6_join 158 = .ok (.lload 5, 2) := by decide +kernel
theorem dX6_join_160 : decode cX6_join 160 = .ok (.ldc2_w 36, 3) := by decide +kernel
theorem dX6_join_163 : decode cX6_join 163 = .ok (.lcmp, 1) := by decide +kernel
theorem dX6_join_164 : decode cX6_join 164 = .ok (.ifCond .ge 8, 3) := by decide +kernel
theorem dX6_join_167 : decode cX6_join 167 = .ok (.ldc 23, 2) := by decide +kernel
theorem dX6_join_169 : decode cX6_join 169 = .ok (.goto 6, 3) := by decide +kernel
theorem dX6_join_172 : decode cX6_join 172 = .ok (.lload 5, 2) := by decide +kernel
theorem dX6_join_174 : decode cX6_join 174 = .ok (.l2i, 1) := by decide +kernel
theorem dX6_join_175 : decode cX6_join 175 = .ok (.ireturn, 1) := by decide +kernel
theorem dX7_init_0 : decode cX7_init 0 = .ok (.aload_n 0, 1) := by decide +kernel
theorem dX7_init_1 : decode cX7_init 1 = .ok (.invokespecial 1, 3) := by decide +kernel
theorem dX7_init_4 : decode cX7_init 4 = .ok (.aload_n 0, 1) := by decide +kernel
theorem dX7_init_5 : decode cX7_init 5 = .ok (.iload_n 1, 1) := by decide +kernel
theorem dX7_init_6 : decode cX7_init 6 = .ok (.putfield 7, 3) := by decide +kernel
theorem dX7_init_9 : decode cX7_init 9 = .ok (.aload_n 0, 1) := by decide +kernel
theorem dX7_init_10 : decode cX7_init 10 = .ok (.aload_n 2, 1) := by decide +kernel
theorem dX7_init_11 : decode cX7_init 11 = .ok (.getfield 13, 3) := by decide +kernel
theorem dX7_init_14 : decode cX7_init 14 = .ok (.iload_n 1, 1) := by decide +kernel
theorem dX7_init_15 : decode cX7_init 15 = .ok (.invokestatic 19, 3) := by decide +kernel
theorem dX7_init_18 : decode cX7_init 18 = .ok (.putfield 25, 3) := by decide +kernel
theorem dX7_init_21 : decode cX7_init 21 = .ok (.aload_n 0, 1) := by decide +kernel
theorem dX7_init_22 : decode cX7_init 22 = .ok (.aload_n 2, 1) := by decide +kernel
theorem dX7_init_23 : decode cX7_init 23 = .ok (.getfield 26, 3) := by decide +kernel
theorem dX7_init_26 : decode cX7_init 26 = .ok (.iload_n 1, 1) := by decide +kernel
theorem dX7_init_27 : decode cX7_init 27 = .ok (.invokestatic 19, 3) := by decide +kernel
theorem dX7_init_30 : decode cX7_init 30 = .ok (.putfield 29, 3) := by decide +kernel
theorem dX7_init_33 : decode cX7_init 33 = .ok (.aload_n 0, 1) := by decide +kernel
theorem dX7_init_34 : decode cX7_init 34 = .ok (.aload_n 2, 1) := by decide +kernel
theorem dX7_init_35 : decode cX7_init 35 = .ok (.getfield 30, 3) := by decide +kernel
theorem dX7_init_38 : decode cX7_init 38 = .ok (.iload_n 1, 1) := by decide +kernel
theorem dX7_init_39 : decode cX7_init 39 = .ok (.iconst 4, 1) := by decide +kernel
theorem dX7_init_40 : decode cX7_init 40 = .ok (.imul, 1) := by decide +kernel
theorem dX7_init_41 : decode cX7_init 41 = .ok (.invokestatic 19, 3) := by decide +kernel
theorem dX7_init_44 : decode cX7_init 44 = .ok (.putfield 33, 3) := by decide +kernel
theorem dX7_init_47 : decode cX7_init 47 = .ok (.aload_n 0, 1) := by decide +kernel
theorem dX7_init_48 : decode cX7_init 48 = .ok (.aload_n 2, 1) := by decide +kernel
theorem dX7_init_49 : decode cX7_init 49 = .ok (.getfield 34, 3) := by decide +kernel
theorem dX7_init_52 : decode cX7_init 52 = .ok (.aload_n 2, 1) := by decide +kernel
theorem dX7_init_53 : decode cX7_init 53 = .ok (.getfield 37, 3) := by decide +kernel
theorem dX7_init_56 : decode cX7_init 56 = .ok (.invokestatic 19, 3) := by decide +kernel
theorem dX7_init_59 : decode cX7_init 59 = .ok (.putfield 40, 3) := by decide +kernel
theorem dX7_init_62 : decode cX7_init 62 = .ok (.aload_n 0, 1) := by decide +kernel
theorem dX7_init_63 : decode cX7_init 63 = .ok (.aload_n 2, 1) := by decide +kernel
theorem dX7_init_64 : decode cX7_init 64 = .ok (.getfield 41, 3) := by decide +kernel
theorem dX7_init_67 : decode cX7_init 67 = .ok (.aload_n 2, 1) := by decide +kernel
theorem dX7_init_68 : decode cX7_init 68 = .ok (.getfield 37, 3) := by decide +kernel
theorem dX7_init_71 : decode cX7_init 71 = .ok (.invokestatic 19, 3) := by decide +kernel
theorem dX7_init_74 : decode cX7_init 74 = .ok (.putfield 44, 3) := by decide +kernel
theorem dX7_init_77 : decode cX7_init 77 = .ok (.return_, 1) := by decide +kernel
theorem dX8_init_0 : decode cX8_init 0 = .ok (.aload_n 0, 1) := by decide +kernel
theorem dX8_init_1 : decode cX8_init 1 = .ok (.invokespecial 3, 3) := by decide +kernel
theorem dX8_init_4 : decode cX8_init 4 = .ok (.aload_n 0, 1) := by decide +kernel
theorem dX8_init_5 : decode cX8_init 5 = .ok (.sipush 2048, 3) := by decide +kernel
theorem dX8_init_8 : decode cX8_init 8 = .ok (.newarray .int, 2) := by decide +kernel
theorem dX8_init_10 : decode cX8_init 10 = .ok (.putfield 9, 3) := by decide +kernel
theorem dX8_init_13 : decode cX8_init 13 = .ok (.aload_n 0, 1) := by decide +kernel
theorem dX8_init_14 : decode cX8_init 14 = .ok (.sipush 256, 3) := by decide +kernel
theorem dX8_init_17 : decode cX8_init 17 = .ok (.newarray .int, 2) := by decide +kernel
theorem dX8_init_19 : decode cX8_init 19 = .ok (.putfield 15, 3) := by decide +kernel
theorem dX8_init_22 : decode cX8_init 22 = .ok (.aload_n 0, 1) := by decide +kernel
theorem dX8_init_23 : decode cX8_init 23 = .ok (.sipush 256, 3) := by decide +kernel
theorem dX8_init_26 : decode cX8_init 26 = .ok (.newarray .int, 2) := by decide +kernel
theorem dX8_init_28 : decode cX8_init 28 = .ok (.putfield 18, 3) := by decide +kernel
theorem dX8_init_31 : decode cX8_init 31 = .ok (.aload_n 0, 1) := by decide +kernel
theorem dX8_init_32 : decode cX8_init 32 = .ok (.bipush 8, 2) := by decide +kernel
theorem dX8_init_34 : decode cX8_init 34 = .ok (.newarray .int, 2) := by decide +kernel
theorem dX8_init_36 : decode cX8_init 36 = .ok (.putfield 21, 3) := by decide +kernel
theorem dX8_init_39 : decode cX8_init 39 = .ok (.aload_n 0, 1) := by decide +kernel
theorem dX8_init_40 : decode cX8_init 40 = .ok (.bipush 8, 2) := by decide +kernel
theorem dX8_init_42 : decode cX8_init 42 = .ok (.newarray .int, 2) := by decide +kernel
theorem dX8_init_44 : decode cX8_init 44 = .ok (.putfield 24, 3) := by decide +kernel
theorem dX8_init_47 : decode cX8_init 47 = .ok (.aload_n 0, 1) := by decide +kernel
theorem dX8_init_48 : decode cX8_init 48 = .ok (.iconst 0, 1) := by decide +kernel
theorem dX8_init_49 : decode cX8_init 49 = .ok (.putfield 27, 3) := by decide +kernel
theorem dX8_init_52 : decode cX8_init 52 = .ok (.aload_n 0, 1) := by decide +kernel
theorem dX8_init_53 : decode cX8_init 53 = .ok (.iconst 0, 1) := by decide +kernel
theorem dX8_init_54 : decode cX8_init 54 = .ok (.putfield 31, 3) := by decide +kernel
theorem dX8_init_57 : decode cX8_init 57 = .ok (.aload_n 0, 1) := by decide +kernel
theorem dX8_init_58 : decode cX8_init 58 = .ok (.iconst 0, 1) := by decide +kernel
theorem dX8_init_59 : decode cX8_init 59 = .ok (.putfield 34, 3) := by decide +kernel
theorem dX8_init_62 : decode cX8_init 62 = .ok (.return_, 1) := by decide +kernel
theorem dX8_keepRule_0 : decode cX8_keepRule 0 = .ok (.iconst 0, 1) := by decide +kernel
theorem dX8_keepRule_1 : decode cX8_keepRule 1 = .ok (.istore 4, 2) := by decide +kernel
theorem dX8_keepRule_3 : decode cX8_keepRule 3 = .ok (.iconst 0, 1) := by decide +kernel
theorem dX8_keepRule_4 : decode cX8_keepRule 4 = .ok (.istore 5, 2) := by decide +kernel
theorem dX8_keepRule_6 : decode cX8_keepRule 6 = .ok (.iconst 0, 1) := by decide +kernel
theorem dX8_keepRule_7 : decode cX8_keepRule 7 = .ok (.istore 6, 2) := by decide +kernel
theorem dX8_keepRule_9 : decode cX8_keepRule 9 = .ok (.iload 6, 2) := by decide +kernel
theorem dX8_keepRule_11 : decode cX8_keepRule 11 = .ok (.bipush 8, 2) := by decide +kernel
theorem dX8_keepRule_13 : decode cX8_keepRule 13 = .ok (.if_icmp .ge 76, 3) := by decide +kernel
theorem dX8_keepRule_16 : decode cX8_keepRule 16 = .ok (.aload_n 0, 1) := by decide +kernel
theorem dX8_keepRule_17 : decode cX8_keepRule 17 = .ok (.getfield 21, 3) := by decide +kernel
theorem dX8_keepRule_20 : decode cX8_keepRule 20 = .ok (.iload 6, 2) := by decide +kernel
theorem dX8_keepRule_22 : decode cX8_keepRule 22 = .ok (.aload_n 1, 1) := by decide +kernel
theorem dX8_keepRule_23 : decode cX8_keepRule 23 = .ok (.getfield 37, 3) := by decide +kernel
theorem dX8_keepRule_26 : decode cX8_keepRule 26 = .ok (.iload_n 2, 1) := by decide +kernel
theorem dX8_keepRule_27 : decode cX8_keepRule 27 = .ok (.bipush 8, 2) := by decide +kernel
theorem dX8_keepRule_29 : decode cX8_keepRule 29 = .ok (.imul, 1) := by decide +kernel
theorem dX8_keepRule_30 : decode cX8_keepRule 30 = .ok (.iload 6, 2) := by decide +kernel
theorem dX8_keepRule_32 : decode cX8_keepRule 32 = .ok (.iadd, 1) := by decide +kernel
theorem dX8_keepRule_33 : decode cX8_keepRule 33 = .ok (.iaload, 1) := by decide +kernel
theorem dX8_keepRule_34 : decode cX8_keepRule 34 = .ok (.iastore, 1) := by decide +kernel
theorem dX8_keepRule_35 : decode cX8_keepRule 35 = .ok (.iload 4, 2) := by decide +kernel
theorem dX8_keepRule_37 : decode cX8_keepRule 37 = .ok (.aload_n 0, 1) := by decide +kernel
theorem dX8_keepRule_38 : decode cX8_keepRule 38 = .ok (.getfield 21, 3) := by decide +kernel
theorem dX8_keepRule_41 : decode cX8_keepRule 41 = .ok (.iload 6, 2) := by decide +kernel
theorem dX8_keepRule_43 : decode cX8_keepRule 43 = .ok (.iaload, 1) := by decide +kernel
theorem dX8_keepRule_44 : decode cX8_keepRule 44 = .ok (.ior, 1) := by decide +kernel
theorem dX8_keepRule_45 : decode cX8_keepRule 45 = .ok (.istore 4, 2) := by decide +kernel
theorem dX8_keepRule_47 : decode cX8_keepRule 47 = .ok (.iload 5, 2) := by decide +kernel
theorem dX8_keepRule_49 : decode cX8_keepRule 49 = .ok (.iload 6, 2) := by decide +kernel
theorem dX8_keepRule_51 : decode cX8_keepRule 51 = .ok (.ifCond .le 26, 3) := by decide +kernel
theorem dX8_keepRule_54 : decode cX8_keepRule 54 = .ok (.aload_n 0, 1) := by decide +kernel
theorem dX8_keepRule_55 : decode cX8_keepRule 55 = .ok (.getfield 21, 3) := by decide +kernel
theorem dX8_keepRule_58 : decode cX8_keepRule 58 = .ok (.iload 6, 2) := by decide +kernel
theorem dX8_keepRule_60 : decode cX8_keepRule 60 = .ok (.iaload, 1) := by decide +kernel
theorem dX8_keepRule_61 : decode cX8_keepRule 61 = .ok (.aload_n 0, 1) := by decide +kernel
theorem dX8_keepRule_62 : decode cX8_keepRule 62 = .ok (.getfield 21, 3) := by decide +kernel
theorem dX8_keepRule_65 : decode cX8_keepRule 65 = .ok (.iload 6, 2) := by decide +kernel
theorem dX8_keepRule_67 : decode cX8_keepRule 67 = .ok (.iconst 1, 1) := by decide +kernel
theorem dX8_keepRule_68 : decode cX8_keepRule 68 = .ok (.isub, 1) := by decide +kernel
theorem dX8_keepRule_69 : decode cX8_keepRule 69 = .ok (.iaload, 1) := by decide +kernel
theorem dX8_keepRule_70 : decode cX8_keepRule 70 = .ok (.ixor, 1) := by decide +kernel
theorem dX8_keepRule_71 : decode cX8_keepRule 71 = .ok (.invokestatic 42, 3) := by decide +kernel
theorem dX8_keepRule_74 : decode cX8_keepRule 74 = .ok (.goto 4, 3) := by decide +kernel
theorem dX8_keepRule_77 : decode cX8_keepRule 77 = .ok (.iconst 0, 1) := by decide +kernel
theorem dX8_keepRule_78 : decode cX8_keepRule 78 = .ok (.invokestatic 48, 3) := by decide +kernel
theorem dX8_keepRule_81 : decode cX8_keepRule 81 = .ok (.istore 5, 2) := by decide +kernel
theorem dX8_keepRule_83 : decode cX8_keepRule 83 = .ok (.iinc 6 1, 3) := by decide +kernel
theorem dX8_keepRule_86 : decode cX8_keepRule 86 = .ok (.goto (-77), 3) := by decide +kernel
theorem dX8_keepRule_89 : decode cX8_keepRule 89 = .ok (.iload 5, 2) := by decide +kernel
theorem dX8_keepRule_91 : decode cX8_keepRule 91 = .ok (.iload_n 3, 1) := by decide +kernel
theorem dX8_keepRule_92 : decode cX8_keepRule 92 = .ok (.if_icmp .gt 5, 3) := by decide +kernel
theorem dX8_keepRule_95 : decode cX8_keepRule 95 = .ok (.iconst 0, 1) := by decide +kernel
theorem dX8_keepRule_96 : decode cX8_keepRule 96 = .ok (.ireturn, 1) := by decide +kernel
theorem dX8_keepRule_97 : decode cX8_keepRule 97 = .ok (.aload_n 0, 1) := by decide +kernel
theorem dX8_keepRule_98 : decode cX8_keepRule 98 = .ok (.getfield 15, 3) := by decide +kernel
theorem dX8_keepRule_101 : decode cX8_keepRule 101 = .ok (.iconst 0, 1) := by decide +kernel
theorem dX8_keepRule_102 : decode cX8_keepRule 102 = .ok (.invokestatic 54, 3) := by decide +kernel
theorem dX8_keepRule_105 : decode cX8_keepRule 105 = .ok (.bipush 7, 2) := by decide +kernel
theorem dX8_keepRule_107 : decode cX8_keepRule 107 = .ok (.istore 6, 2) := by decide +kernel
theorem dX8_keepRule_109 : decode cX8_keepRule 109 = .ok (.iload 6, 2) := by decide +kernel
theorem dX8_keepRule_111 : decode cX8_keepRule 111 = .ok (.ifCond .lt 76, 3) := by decide +kernel
theorem dX8_keepRule_114 : decode cX8_keepRule 114 = .ok (.aload_n 0, 1) := by decide +kernel
theorem dX8_keepRule_115 : decode cX8_keepRule 115 = .ok (.iload 6, 2) := by decide +kernel
theorem dX8_keepRule_117 : decode cX8_keepRule 117 = .ok (.aload_n 1, 1) := by decide +kernel
theorem dX8_keepRule_118 : decode cX8_keepRule 118 = .ok (.getfield 37, 3) := by decide +kernel
theorem dX8_keepRule_121 : decode cX8_keepRule 121 = .ok (.iload_n 2, 1) := by decide +kernel
theorem dX8_keepRule_122 : decode cX8_keepRule 122 = .ok (.bipush 8, 2) := by decide +kernel
theorem dX8_keepRule_124 : decode cX8_keepRule 124 = .ok (.imul, 1) := by decide +kernel
theorem dX8_keepRule_125 : decode cX8_keepRule 125 = .ok (.iload 6, 2) := by decide +kernel
theorem dX8_keepRule_127 : decode cX8_keepRule 127 = .ok (.iadd, 1) := by decide +kernel
theorem dX8_keepRule_128 : decode cX8_keepRule 128 = .ok (.iaload, 1) := by decide +kernel
theorem dX8_keepRule_129 : decode cX8_keepRule 129 = .ok (.iload 4, 2) := by decide +kernel
theorem dX8_keepRule_131 : decode cX8_keepRule 131 = .ok (.invokevirtual 60, 3) := by decide +kernel
theorem dX8_keepRule_134 : decode cX8_keepRule 134 = .ok (.aload_n 0, 1) := by decide +kernel
theorem dX8_keepRule_135 : decode cX8_keepRule 135 = .ok (.getfield 9, 3) := by decide +kernel
theorem dX8_keepRule_138 : decode cX8_keepRule 138 = .ok (.iload 6, 2) := by decide +kernel
theorem dX8_keepRule_140 : decode cX8_keepRule 140 = .ok (.sipush 256, 3) := by decide +kernel
theorem dX8_keepRule_143 : decode cX8_keepRule 143 = .ok (.imul, 1) := by decide +kernel
theorem dX8_keepRule_144 : decode cX8_keepRule 144 = .ok (.aload_n 0, 1) := by decide +kernel
theorem dX8_keepRule_145 : decode cX8_keepRule 145 = .ok (.getfield 15, 3) := by decide +kernel
theorem dX8_keepRule_148 : decode cX8_keepRule 148 = .ok (.iconst 0, 1) := by decide +kernel
theorem dX8_keepRule_149 : decode cX8_keepRule 149 = .ok (.sipush 256, 3) := by decide +kernel
theorem dX8_keepRule_152 : decode cX8_keepRule 152 = .ok (.invokestatic 64, 3) := by decide +kernel
theorem dX8_keepRule_155 : decode cX8_keepRule 155 = .ok (.iconst 0, 1) := by decide +kernel
theorem dX8_keepRule_156 : decode cX8_keepRule 156 = .ok (.istore 7, 2) := by decide +kernel
theorem dX8_keepRule_158 : decode cX8_keepRule 158 = .ok (.iload 7, 2) := by decide +kernel
theorem dX8_keepRule_160 : decode cX8_keepRule 160 = .ok (.iload_n 3, 1) := by decide +kernel
theorem dX8_keepRule_161 : decode cX8_keepRule 161 = .ok (.if_icmp .ge 20, 3) := by decide +kernel
theorem dX8_keepRule_164 : decode cX8_keepRule 164 = .ok (.iload 6, 2) := by decide +kernel
theorem dX8_keepRule_166 : decode cX8_keepRule 166 = .ok (.ifCond .le 15, 3) := by decide +kernel
theorem dX8_keepRule_169 : decode cX8_keepRule 169 = .ok (.aload_n 0, 1) := by decide +kernel
theorem dX8_keepRule_170 : decode cX8_keepRule 170 = .ok (.iload 4, 2) := by decide +kernel
theorem dX8_keepRule_172 : decode cX8_keepRule 172 = .ok (.invokevirtual 70, 3) := by decide +kernel
theorem dX8_keepRule_175 : decode cX8_keepRule 175 = .ok (.iinc 7 1, 3) := by decide +kernel
theorem dX8_keepRule_178 : decode cX8_keepRule 178 = .ok (.goto (-20), 3) := by decide +kernel
theorem dX8_keepRule_181 : decode cX8_keepRule 181 = .ok (.iinc 6 (-1), 3) := by decide +kernel
theorem dX8_keepRule_184 : decode cX8_keepRule 184 = .ok (.goto (-75), 3) := by decide +kernel
theorem dX8_keepRule_187 : decode cX8_keepRule 187 = .ok (.iconst 0, 1) := by decide +kernel
theorem dX8_keepRule_188 : decode cX8_keepRule 188 = .ok (.istore 6, 2) := by decide +kernel
theorem dX8_keepRule_190 : decode cX8_keepRule 190 = .ok (.iload 6, 2) := by decide +kernel
theorem dX8_keepRule_192 : decode cX8_keepRule 192 = .ok (.bipush 8, 2) := by decide +kernel
theorem dX8_keepRule_194 : decode cX8_keepRule 194 = .ok (.if_icmp .ge 23, 3) := by decide +kernel
theorem dX8_keepRule_197 : decode cX8_keepRule 197 = .ok (.aload_n 0, 1) := by decide +kernel
theorem dX8_keepRule_198 : decode cX8_keepRule 198 = .ok (.getfield 21, 3) := by decide +kernel
theorem dX8_keepRule_201 : decode cX8_keepRule 201 = .ok (.iload 6, 2) := by decide +kernel
theorem dX8_keepRule_203 : decode cX8_keepRule 203 = .ok (.aload_n 0, 1) := by decide +kernel
theorem dX8_keepRule_204 : decode cX8_keepRule 204 = .ok (.iload 6, 2) := by decide +kernel
theorem dX8_keepRule_206 : decode cX8_keepRule 206 = .ok (.iload_n 3, 1) := by decide +kernel
theorem dX8_keepRule_207 : decode cX8_keepRule 207 = .ok (.invokevirtual 74, 3) := by decide +kernel
theorem dX8_keepRule_210 : decode cX8_keepRule 210 = .ok (.iastore, 1) := by decide +kernel
theorem dX8_keepRule_211 : decode cX8_keepRule 211 = .ok (.iinc 6 1, 3) := by decide +kernel
theorem dX8_keepRule_214 : decode cX8_keepRule 214 = .ok (.goto (-24), 3) := by decide +kernel
theorem dX8_keepRule_217 : decode cX8_keepRule 217 = .ok (.aload_n 0, 1) := by decide +kernel
theorem dX8_keepRule_218 : decode cX8_keepRule 218 = .ok (.getfield 9, 3) := by decide +kernel
theorem dX8_keepRule_221 : decode cX8_keepRule 221 = .ok (.aload_n 0, 1) := by decide +kernel
theorem dX8_keepRule_222 : decode cX8_keepRule 222 = .ok (.getfield 21, 3) := by decide +kernel
theorem dX8_keepRule_225 : decode cX8_keepRule 225 = .ok (.iconst 0, 1) := by decide +kernel
theorem dX8_keepRule_226 : decode cX8_keepRule 226 = .ok (.iaload, 1) := by decide +kernel
theorem dX8_keepRule_227 : decode cX8_keepRule 227 = .ok (.iaload, 1) := by decide +kernel
theorem dX8_keepRule_228 : decode cX8_keepRule 228 = .ok (.ireturn, 1) := by decide +kernel
theorem dX8_weighSets_0 : decode cX8_weighSets 0 = .ok (.iconst 0, 1) := by decide +kernel
theorem dX8_weighSets_1 : decode cX8_weighSets 1 = .ok (.istore 4, 2) := by decide +kernel
theorem dX8_weighSets_3 : decode cX8_weighSets 3 = .ok (.iload 4, 2) := by decide +kernel
theorem dX8_weighSets_5 : decode cX8_weighSets 5 = .ok (.sipush 256, 3) := by decide +kernel
theorem dX8_weighSets_8 : decode cX8_weighSets 8 = .ok (.if_icmp .ge 74, 3) := by decide +kernel
theorem dX8_weighSets_11 : decode cX8_weighSets 11 = .ok (.iload 4, 2) := by decide +kernel
theorem dX8_weighSets_13 : decode cX8_weighSets 13 = .ok (.iload_n 2, 1) := by decide +kernel
theorem dX8_weighSets_14 : decode cX8_weighSets 14 = .ok (.iand, 1) := by decide +kernel
theorem dX8_weighSets_15 : decode cX8_weighSets 15 = .ok (.iload_n 2, 1) := by decide +kernel
theorem dX8_weighSets_16 : decode cX8_weighSets 16 = .ok (.if_icmp .ne 16, 3) := by decide +kernel
theorem dX8_weighSets_19 : decode cX8_weighSets 19 = .ok (.iload 4, 2) := by decide +kernel
theorem dX8_weighSets_21 : decode cX8_weighSets 21 = .ok (.iload_n 3, 1) := by decide +kernel
theorem dX8_weighSets_22 : decode cX8_weighSets 22 = .ok (.iconst (-1), 1) := by decide +kernel
theorem dX8_weighSets_23 : decode cX8_weighSets 23 = .ok (.ixor, 1) := by decide +kernel
theorem dX8_weighSets_24 : decode cX8_weighSets 24 = .ok (.iand, 1) := by decide +kernel
theorem dX8_weighSets_25 : decode cX8_weighSets 25 = .ok (.ifCond .ne 7, 3) := by decide +kernel
theorem dX8_weighSets_28 : decode cX8_weighSets 28 = .ok (.iconst 1, 1) := by decide +kernel
theorem dX8_weighSets_29 : decode cX8_weighSets 29 = .ok (.goto 4, 3) := by decide +kernel
theorem dX8_weighSets_32 : decode cX8_weighSets 32 = .ok (.iconst 0, 1) := by decide +kernel
theorem dX8_weighSets_33 : decode cX8_weighSets 33 = .ok (.istore 5, 2) := by decide +kernel
theorem dX8_weighSets_35 : decode cX8_weighSets 35 = .ok (.aload_n 0, 1) := by decide +kernel
theorem dX8_weighSets_36 : decode cX8_weighSets 36 = .ok (.getfield 9, 3) := by decide +kernel
theorem dX8_weighSets_39 : decode cX8_weighSets 39 = .ok (.iload_n 1, 1) := by decide +kernel
theorem dX8_weighSets_40 : decode cX8_weighSets 40 = .ok (.sipush 256, 3) := by decide +kernel
theorem dX8_weighSets_43 : decode cX8_weighSets 43 = .ok (.imul, 1) := by decide +kernel
theorem dX8_weighSets_44 : decode cX8_weighSets 44 = .ok (.iload 4, 2) := by decide +kernel
theorem dX8_weighSets_46 : decode cX8_weighSets 46 = .ok (.iadd, 1) := by decide +kernel
theorem dX8_weighSets_47 : decode cX8_weighSets 47 = .ok (.iload 5, 2) := by decide +kernel
theorem dX8_weighSets_49 : decode cX8_weighSets 49 = .ok (.ifCond .eq 23, 3) := by decide +kernel
theorem dX8_weighSets_52 : decode cX8_weighSets 52 = .ok (.iload 4, 2) := by decide +kernel
theorem dX8_weighSets_54 : decode cX8_weighSets 54 = .ok (.iload_n 2, 1) := by decide +kernel
theorem dX8_weighSets_55 : decode cX8_weighSets 55 = .ok (.iconst (-1), 1) := by decide +kernel
theorem dX8_weighSets_56 : decode cX8_weighSets 56 = .ok (.ixor, 1) := by decide +kernel
theorem dX8_weighSets_57 : decode cX8_weighSets 57 = .ok (.iand, 1) := by decide +kernel
theorem dX8_weighSets_58 : decode cX8_weighSets 58 = .ok (.invokestatic 42, 3) := by decide +kernel
theorem dX8_weighSets_61 : decode cX8_weighSets 61 = .ok (.aload_n 0, 1) := by decide +kernel
theorem dX8_weighSets_62 : decode cX8_weighSets 62 = .ok (.getfield 15, 3) := by decide +kernel
theorem dX8_weighSets_65 : decode cX8_weighSets 65 = .ok (.iload 4, 2) := by decide +kernel
theorem dX8_weighSets_67 : decode cX8_weighSets 67 = .ok (.iaload, 1) := by decide +kernel
theorem dX8_weighSets_68 : decode cX8_weighSets 68 = .ok (.iadd, 1) := by decide +kernel
theorem dX8_weighSets_69 : decode cX8_weighSets 69 = .ok (.goto 6, 3) := by decide +kernel
theorem dX8_weighSets_72 : decode cX8_weighSets 72 = .ok (.sipush 1000, 3) := by decide +kernel
theorem dX8_weighSets_75 : decode cX8_weighSets 75 = .ok (.iastore, 1) := by decide +kernel
theorem dX8_weighSets_76 : decode cX8_weighSets 76 = .ok (.iinc 4 1, 3) := by decide +kernel
theorem dX8_weighSets_79 : decode cX8_weighSets 79 = .ok (.goto (-76), 3) := by decide +kernel
theorem dX8_weighSets_82 : decode cX8_weighSets 82 = .ok (.return_, 1) := by decide +kernel
theorem dX8_widen_0 : decode cX8_widen 0 = .ok (.iconst 0, 1) := by decide +kernel
theorem dX8_widen_1 : decode cX8_widen 1 = .ok (.istore_n 2, 1) := by decide +kernel
theorem dX8_widen_2 : decode cX8_widen 2 = .ok (.iload_n 2, 1) := by decide +kernel
theorem dX8_widen_3 : decode cX8_widen 3 = .ok (.sipush 256, 3) := by decide +kernel
theorem dX8_widen_6 : decode cX8_widen 6 = .ok (.if_icmp .ge 66, 3) := by decide +kernel
theorem dX8_widen_9 : decode cX8_widen 9 = .ok (.iload_n 2, 1) := by decide +kernel
theorem dX8_widen_10 : decode cX8_widen 10 = .ok (.iload_n 1, 1) := by decide +kernel
theorem dX8_widen_11 : decode cX8_widen 11 = .ok (.iconst (-1), 1) := by decide +kernel
theorem dX8_widen_12 : decode cX8_widen 12 = .ok (.ixor, 1) := by decide +kernel
theorem dX8_widen_13 : decode cX8_widen 13 = .ok (.iand, 1) := by decide +kernel
theorem dX8_widen_14 : decode cX8_widen 14 = .ok (.ifCond .eq 6, 3) := by decide +kernel
theorem dX8_widen_17 : decode cX8_widen 17 = .ok (.goto 49, 3) := by decide +kernel
theorem dX8_widen_20 : decode cX8_widen 20 = .ok (.aload_n 0, 1) := by decide +kernel
theorem dX8_widen_21 : decode cX8_widen 21 = .ok (.getfield 15, 3) := by decide +kernel
theorem dX8_widen_24 : decode cX8_widen 24 = .ok (.iload_n 2, 1) := by decide +kernel
theorem dX8_widen_25 : decode cX8_widen 25 = .ok (.iaload, 1) := by decide +kernel
theorem dX8_widen_26 : decode cX8_widen 26 = .ok (.istore_n 3, 1) := by decide +kernel
theorem dX8_widen_27 : decode cX8_widen 27 = .ok (.iconst 0, 1) := by decide +kernel
theorem dX8_widen_28 : decode cX8_widen 28 = .ok (.istore 4, 2) := by decide +kernel
theorem dX8_widen_30 : decode cX8_widen 30 = .ok (.iload 4, 2) := by decide +kernel
theorem dX8_widen_32 : decode cX8_widen 32 = .ok (.bipush 8, 2) := by decide +kernel
theorem dX8_widen_34 : decode cX8_widen 34 = .ok (.if_icmp .ge 25, 3) := by decide +kernel
theorem dX8_widen_37 : decode cX8_widen 37 = .ok (.iload_n 3, 1) := by decide +kernel
theorem dX8_widen_38 : decode cX8_widen 38 = .ok (.aload_n 0, 1) := by decide +kernel
theorem dX8_widen_39 : decode cX8_widen 39 = .ok (.getfield 15, 3) := by decide +kernel
theorem dX8_widen_42 : decode cX8_widen 42 = .ok (.iload_n 2, 1) := by decide +kernel
theorem dX8_widen_43 : decode cX8_widen 43 = .ok (.iconst 1, 1) := by decide +kernel
theorem dX8_widen_44 : decode cX8_widen 44 = .ok (.iload 4, 2) := by decide +kernel
theorem dX8_widen_46 : decode cX8_widen 46 = .ok (.ishl, 1) := by decide +kernel
theorem dX8_widen_47 : decode cX8_widen 47 = .ok (.ixor, 1) := by decide +kernel
theorem dX8_widen_48 : decode cX8_widen 48 = .ok (.iaload, 1) := by decide +kernel
theorem dX8_widen_49 : decode cX8_widen 49 = .ok (.invokestatic 77, 3) := by decide +kernel
theorem dX8_widen_52 : decode cX8_widen 52 = .ok (.istore_n 3, 1) := by decide +kernel
theorem dX8_widen_53 : decode cX8_widen 53 = .ok (.iinc 4 1, 3) := by decide +kernel
theorem dX8_widen_56 : decode cX8_widen 56 = .ok (.goto (-26), 3) := by decide +kernel
theorem dX8_widen_59 : decode cX8_widen 59 = .ok (.aload_n 0, 1) := by decide +kernel
theorem dX8_widen_60 : decode cX8_widen 60 = .ok (.getfield 18, 3) := by decide +kernel
theorem dX8_widen_63 : decode cX8_widen 63 = .ok (.iload_n 2, 1) := by decide +kernel
theorem dX8_widen_64 : decode cX8_widen 64 = .ok (.iload_n 3, 1) := by decide +kernel
theorem dX8_widen_65 : decode cX8_widen 65 = .ok (.iastore, 1) := by decide +kernel
theorem dX8_widen_66 : decode cX8_widen 66 = .ok (.iinc 2 1, 3) := by decide +kernel
theorem dX8_widen_69 : decode cX8_widen 69 = .ok (.goto (-67), 3) := by decide +kernel
theorem dX8_widen_72 : decode cX8_widen 72 = .ok (.iconst 0, 1) := by decide +kernel
theorem dX8_widen_73 : decode cX8_widen 73 = .ok (.istore_n 2, 1) := by decide +kernel
theorem dX8_widen_74 : decode cX8_widen 74 = .ok (.iload_n 2, 1) := by decide +kernel
theorem dX8_widen_75 : decode cX8_widen 75 = .ok (.sipush 256, 3) := by decide +kernel
theorem dX8_widen_78 : decode cX8_widen 78 = .ok (.if_icmp .ge 35, 3) := by decide +kernel
theorem dX8_widen_81 : decode cX8_widen 81 = .ok (.aload_n 0, 1) := by decide +kernel
theorem dX8_widen_82 : decode cX8_widen 82 = .ok (.getfield 15, 3) := by decide +kernel
theorem dX8_widen_85 : decode cX8_widen 85 = .ok (.iload_n 2, 1) := by decide +kernel
theorem dX8_widen_86 : decode cX8_widen 86 = .ok (.iload_n 2, 1) := by decide +kernel
theorem dX8_widen_87 : decode cX8_widen 87 = .ok (.iload_n 1, 1) := by decide +kernel
theorem dX8_widen_88 : decode cX8_widen 88 = .ok (.iconst (-1), 1) := by decide +kernel
theorem dX8_widen_89 : decode cX8_widen 89 = .ok (.ixor, 1) := by decide +kernel
theorem dX8_widen_90 : decode cX8_widen 90 = .ok (.iand, 1) := by decide +kernel
theorem dX8_widen_91 : decode cX8_widen 91 = .ok (.ifCond .ne 12, 3) := by decide +kernel
theorem dX8_widen_94 : decode cX8_widen 94 = .ok (.aload_n 0, 1) := by decide +kernel
theorem dX8_widen_95 : decode cX8_widen 95 = .ok (.getfield 18, 3) := by decide +kernel
theorem dX8_widen_98 : decode cX8_widen 98 = .ok (.iload_n 2, 1) := by decide +kernel
theorem dX8_widen_99 : decode cX8_widen 99 = .ok (.iaload, 1) := by decide +kernel
theorem dX8_widen_100 : decode cX8_widen 100 = .ok (.goto 6, 3) := by decide +kernel
theorem dX8_widen_103 : decode cX8_widen 103 = .ok (.sipush 1000, 3) := by decide +kernel
theorem dX8_widen_106 : decode cX8_widen 106 = .ok (.iastore, 1) := by decide +kernel
theorem dX8_widen_107 : decode cX8_widen 107 = .ok (.iinc 2 1, 3) := by decide +kernel
theorem dX8_widen_110 : decode cX8_widen 110 = .ok (.goto (-36), 3) := by decide +kernel
theorem dX8_widen_113 : decode cX8_widen 113 = .ok (.return_, 1) := by decide +kernel
theorem dX8_cheapest_0 : decode cX8_cheapest 0 = .ok (.iconst 0, 1) := by decide +kernel
theorem dX8_cheapest_1 : decode cX8_cheapest 1 = .ok (.istore_n 3, 1) := by decide +kernel
theorem dX8_cheapest_2 : decode cX8_cheapest 2 = .ok (.sipush 1000, 3) := by decide +kernel
theorem dX8_cheapest_5 : decode cX8_cheapest 5 = .ok (.istore 4, 2) := by decide +kernel
theorem dX8_cheapest_7 : decode cX8_cheapest 7 = .ok (.iconst 0, 1) := by decide +kernel
theorem dX8_cheapest_8 : decode cX8_cheapest 8 = .ok (.istore 5, 2) := by decide +kernel
theorem dX8_cheapest_10 : decode cX8_cheapest 10 = .ok (.iload 5, 2) := by decide +kernel
theorem dX8_cheapest_12 : decode cX8_cheapest 12 = .ok (.sipush 256, 3) := by decide +kernel
theorem dX8_cheapest_15 : decode cX8_cheapest 15 = .ok (.if_icmp .ge 79, 3) := by decide +kernel
theorem dX8_cheapest_18 : decode cX8_cheapest 18 = .ok (.iload_n 1, 1) := by decide +kernel
theorem dX8_cheapest_19 : decode cX8_cheapest 19 = .ok (.ifCond .eq 21, 3) := by decide +kernel
theorem dX8_cheapest_22 : decode cX8_cheapest 22 = .ok (.iload 5, 2) := by decide +kernel
theorem dX8_cheapest_24 : decode cX8_cheapest 24 = .ok (.aload_n 0, 1) := by decide +kernel
theorem dX8_cheapest_25 : decode cX8_cheapest 25 = .ok (.getfield 21, 3) := by decide +kernel
theorem dX8_cheapest_28 : decode cX8_cheapest 28 = .ok (.iload_n 1, 1) := by decide +kernel
theorem dX8_cheapest_29 : decode cX8_cheapest 29 = .ok (.iconst 1, 1) := by decide +kernel
theorem dX8_cheapest_30 : decode cX8_cheapest 30 = .ok (.isub, 1) := by decide +kernel
theorem dX8_cheapest_31 : decode cX8_cheapest 31 = .ok (.iaload, 1) := by decide +kernel
theorem dX8_cheapest_32 : decode cX8_cheapest 32 = .ok (.ixor, 1) := by decide +kernel
theorem dX8_cheapest_33 : decode cX8_cheapest 33 = .ok (.invokestatic 42, 3) := by decide +kernel
theorem dX8_cheapest_36 : decode cX8_cheapest 36 = .ok (.iload_n 2, 1) := by decide +kernel
theorem dX8_cheapest_37 : decode cX8_cheapest 37 = .ok (.if_icmp .gt 7, 3) := by decide +kernel
theorem dX8_cheapest_40 : decode cX8_cheapest 40 = .ok (.iconst 1, 1) := by decide +kernel
theorem dX8_cheapest_41 : decode cX8_cheapest 41 = .ok (.goto 4, 3) := by decide +kernel
theorem dX8_cheapest_44 : decode cX8_cheapest 44 = .ok (.iconst 0, 1) := by decide +kernel
theorem dX8_cheapest_45 : decode cX8_cheapest 45 = .ok (.istore 6, 2) := by decide +kernel
theorem dX8_cheapest_47 : decode cX8_cheapest 47 = .ok (.iload 6, 2) := by decide +kernel
theorem dX8_cheapest_49 : decode cX8_cheapest 49 = .ok (.ifCond .eq 39, 3) := by decide +kernel
theorem dX8_cheapest_52 : decode cX8_cheapest 52 = .ok (.aload_n 0, 1) := by decide +kernel
theorem dX8_cheapest_53 : decode cX8_cheapest 53 = .ok (.getfield 9, 3) := by decide +kernel
theorem dX8_cheapest_56 : decode cX8_cheapest 56 = .ok (.iload_n 1, 1) := by decide +kernel
theorem dX8_cheapest_57 : decode cX8_cheapest 57 = .ok (.sipush 256, 3) := by decide +kernel
theorem dX8_cheapest_60 : decode cX8_cheapest 60 = .ok (.imul, 1) := by decide +kernel
theorem dX8_cheapest_61 : decode cX8_cheapest 61 = .ok (.iload 5, 2) := by decide +kernel
theorem dX8_cheapest_63 : decode cX8_cheapest 63 = .ok (.iadd, 1) := by decide +kernel
theorem dX8_cheapest_64 : decode cX8_cheapest 64 = .ok (.iaload, 1) := by decide +kernel
theorem dX8_cheapest_65 : decode cX8_cheapest 65 = .ok (.iload 4, 2) := by decide +kernel
theorem dX8_cheapest_67 : decode cX8_cheapest 67 = .ok (.if_icmp .ge 21, 3) := by decide +kernel
theorem dX8_cheapest_70 : decode cX8_cheapest 70 = .ok (.aload_n 0, 1) := by decide +kernel
theorem dX8_cheapest_71 : decode cX8_cheapest 71 = .ok (.getfield 9, 3) := by decide +kernel
theorem dX8_cheapest_74 : decode cX8_cheapest 74 = .ok (.iload_n 1, 1) := by decide +kernel
theorem dX8_cheapest_75 : decode cX8_cheapest 75 = .ok (.sipush 256, 3) := by decide +kernel
theorem dX8_cheapest_78 : decode cX8_cheapest 78 = .ok (.imul, 1) := by decide +kernel
theorem dX8_cheapest_79 : decode cX8_cheapest 79 = .ok (.iload 5, 2) := by decide +kernel
theorem dX8_cheapest_81 : decode cX8_cheapest 81 = .ok (.iadd, 1) := by decide +kernel
theorem dX8_cheapest_82 : decode cX8_cheapest 82 = .ok (.iaload, 1) := by decide +kernel
theorem dX8_cheapest_83 : decode cX8_cheapest 83 = .ok (.istore 4, 2) := by decide +kernel
theorem dX8_cheapest_85 : decode cX8_cheapest 85 = .ok (.iload 5, 2) := by decide +kernel
theorem dX8_cheapest_87 : decode cX8_cheapest 87 = .ok (.istore_n 3, 1) := by decide +kernel
theorem dX8_cheapest_88 : decode cX8_cheapest 88 = .ok (.iinc 5 1, 3) := by decide +kernel
theorem dX8_cheapest_91 : decode cX8_cheapest 91 = .ok (.goto (-81), 3) := by decide +kernel
theorem dX8_cheapest_94 : decode cX8_cheapest 94 = .ok (.iload_n 3, 1) := by decide +kernel
theorem dX8_cheapest_95 : decode cX8_cheapest 95 = .ok (.ireturn, 1) := by decide +kernel
theorem dX8_clashes_0 : decode cX8_clashes 0 = .ok (.iconst 0, 1) := by decide +kernel
theorem dX8_clashes_1 : decode cX8_clashes 1 = .ok (.istore 5, 2) := by decide +kernel
theorem dX8_clashes_3 : decode cX8_clashes 3 = .ok (.iconst 0, 1) := by decide +kernel
theorem dX8_clashes_4 : decode cX8_clashes 4 = .ok (.istore 6, 2) := by decide +kernel
theorem dX8_clashes_6 : decode cX8_clashes 6 = .ok (.iload 6, 2) := by decide +kernel
theorem dX8_clashes_8 : decode cX8_clashes 8 = .ok (.bipush 8, 2) := by decide +kernel
theorem dX8_clashes_10 : decode cX8_clashes 10 = .ok (.if_icmp .ge 59, 3) := by decide +kernel
theorem dX8_clashes_13 : decode cX8_clashes 13 = .ok (.aload_n 1, 1) := by decide +kernel
theorem dX8_clashes_14 : decode cX8_clashes 14 = .ok (.iload_n 2, 1) := by decide +kernel
theorem dX8_clashes_15 : decode cX8_clashes 15 = .ok (.iload 6, 2) := by decide +kernel
theorem dX8_clashes_17 : decode cX8_clashes 17 = .ok (.invokevirtual 80, 3) := by decide +kernel
theorem dX8_clashes_20 : decode cX8_clashes 20 = .ok (.istore 7, 2) := by decide +kernel
theorem dX8_clashes_22 : decode cX8_clashes 22 = .ok (.aload_n 1, 1) := by decide +kernel
theorem dX8_clashes_23 : decode cX8_clashes 23 = .ok (.iload_n 3, 1) := by decide +kernel
theorem dX8_clashes_24 : decode cX8_clashes 24 = .ok (.iload 6, 2) := by decide +kernel
theorem dX8_clashes_26 : decode cX8_clashes 26 = .ok (.iload 4, 2) := by decide +kernel
theorem dX8_clashes_28 : decode cX8_clashes 28 = .ok (.iadd, 1) := by decide +kernel
theorem dX8_clashes_29 : decode cX8_clashes 29 = .ok (.bipush 8, 2) := by decide +kernel
theorem dX8_clashes_31 : decode cX8_clashes 31 = .ok (.irem, 1) := by decide +kernel
theorem dX8_clashes_32 : decode cX8_clashes 32 = .ok (.invokevirtual 80, 3) := by decide +kernel
theorem dX8_clashes_35 : decode cX8_clashes 35 = .ok (.istore 8, 2) := by decide +kernel
theorem dX8_clashes_37 : decode cX8_clashes 37 = .ok (.iload 5, 2) := by decide +kernel
theorem dX8_clashes_39 : decode cX8_clashes 39 = .ok (.iload 7, 2) := by decide +kernel
theorem dX8_clashes_41 : decode cX8_clashes 41 = .ok (.iload 8, 2) := by decide +kernel
theorem dX8_clashes_43 : decode cX8_clashes 43 = .ok (.iconst 1, 1) := by decide +kernel
theorem dX8_clashes_44 : decode cX8_clashes 44 = .ok (.ishl, 1) := by decide +kernel
theorem dX8_clashes_45 : decode cX8_clashes 45 = .ok (.iand, 1) := by decide +kernel
theorem dX8_clashes_46 : decode cX8_clashes 46 = .ok (.invokestatic 42, 3) := by decide +kernel
theorem dX8_clashes_49 : decode cX8_clashes 49 = .ok (.iload 7, 2) := by decide +kernel
theorem dX8_clashes_51 : decode cX8_clashes 51 = .ok (.iload 8, 2) := by decide +kernel
theorem dX8_clashes_53 : decode cX8_clashes 53 = .ok (.iconst 1, 1) := by decide +kernel
theorem dX8_clashes_54 : decode cX8_clashes 54 = .ok (.ishr, 1) := by decide +kernel
theorem dX8_clashes_55 : decode cX8_clashes 55 = .ok (.iand, 1) := by decide +kernel
theorem dX8_clashes_56 : decode cX8_clashes 56 = .ok (.invokestatic 42, 3) := by decide +kernel
theorem dX8_clashes_59 : decode cX8_clashes 59 = .ok (.iadd, 1) := by decide +kernel
theorem dX8_clashes_60 : decode cX8_clashes 60 = .ok (.iadd, 1) := by decide +kernel
theorem dX8_clashes_61 : decode cX8_clashes 61 = .ok (.istore 5, 2) := by decide +kernel
theorem dX8_clashes_63 : decode cX8_clashes 63 = .ok (.iinc 6 1, 3) := by decide +kernel
theorem dX8_clashes_66 : decode cX8_clashes 66 = .ok (.goto (-60), 3) := by decide +kernel
theorem dX8_clashes_69 : decode cX8_clashes 69 = .ok (.iload 5, 2) := by decide +kernel
theorem dX8_clashes_71 : decode cX8_clashes 71 = .ok (.ireturn, 1) := by decide +kernel
theorem dX8_file_0 : decode cX8_file 0 = .ok (.aload_n 0, 1) := by decide +kernel
theorem dX8_file_1 : decode cX8_file 1 = .ok (.aload_n 1, 1) := by decide +kernel
theorem dX8_file_2 : decode cX8_file 2 = .ok (.iload_n 2, 1) := by decide +kernel
theorem dX8_file_3 : decode cX8_file 3 = .ok (.iload_n 3, 1) := by decide +kernel
theorem dX8_file_4 : decode cX8_file 4 = .ok (.iload 4, 2) := by decide +kernel
theorem dX8_file_6 : decode cX8_file 6 = .ok (.invokevirtual 83, 3) := by decide +kernel
theorem dX8_file_9 : decode cX8_file 9 = .ok (.aload_n 0, 1) := by decide +kernel
theorem dX8_file_10 : decode cX8_file 10 = .ok (.bipush 17, 2) := by decide +kernel
theorem dX8_file_12 : decode cX8_file 12 = .ok (.putfield 27, 3) := by decide +kernel
theorem dX8_file_15 : decode cX8_file 15 = .ok (.iconst 0, 1) := by decide +kernel
theorem dX8_file_16 : decode cX8_file 16 = .ok (.istore 5, 2) := by decide +kernel
theorem dX8_file_18 : decode cX8_file 18 = .ok (.iload 5, 2) := by decide +kernel
theorem dX8_file_20 : decode cX8_file 20 = .ok (.sipush 256, 3) := by decide +kernel
theorem dX8_file_23 : decode cX8_file 23 = .ok (.if_icmp .ge 94, 3) := by decide +kernel
theorem dX8_file_26 : decode cX8_file 26 = .ok (.iconst 0, 1) := by decide +kernel
theorem dX8_file_27 : decode cX8_file 27 = .ok (.istore 6, 2) := by decide +kernel
theorem dX8_file_29 : decode cX8_file 29 = .ok (.iconst 0, 1) := by decide +kernel
theorem dX8_file_30 : decode cX8_file 30 = .ok (.istore 7, 2) := by decide +kernel
theorem dX8_file_32 : decode cX8_file 32 = .ok (.iload 7, 2) := by decide +kernel
theorem dX8_file_34 : decode cX8_file 34 = .ok (.bipush 8, 2) := by decide +kernel
theorem dX8_file_36 : decode cX8_file 36 = .ok (.if_icmp .ge 35, 3) := by decide +kernel
theorem dX8_file_39 : decode cX8_file 39 = .ok (.iload 6, 2) := by decide +kernel
theorem dX8_file_41 : decode cX8_file 41 = .ok (.iload 5, 2) := by decide +kernel
theorem dX8_file_43 : decode cX8_file 43 = .ok (.iload 7, 2) := by decide +kernel
theorem dX8_file_45 : decode cX8_file 45 = .ok (.ishr, 1) := by decide +kernel
theorem dX8_file_46 : decode cX8_file 46 = .ok (.iconst 1, 1) := by decide +kernel
theorem dX8_file_47 : decode cX8_file 47 = .ok (.iand, 1) := by decide +kernel
theorem dX8_file_48 : decode cX8_file 48 = .ok (.ifCond .ne 13, 3) := by decide +kernel
theorem dX8_file_51 : decode cX8_file 51 = .ok (.aload_n 0, 1) := by decide +kernel
theorem dX8_file_52 : decode cX8_file 52 = .ok (.getfield 24, 3) := by decide +kernel
theorem dX8_file_55 : decode cX8_file 55 = .ok (.iload 7, 2) := by decide +kernel
theorem dX8_file_57 : decode cX8_file 57 = .ok (.iaload, 1) := by decide +kernel
theorem dX8_file_58 : decode cX8_file 58 = .ok (.goto 4, 3) := by decide +kernel
theorem dX8_file_61 : decode cX8_file 61 = .ok (.iconst 0, 1) := by decide +kernel
theorem dX8_file_62 : decode cX8_file 62 = .ok (.ior, 1) := by decide +kernel
theorem dX8_file_63 : decode cX8_file 63 = .ok (.istore 6, 2) := by decide +kernel
theorem dX8_file_65 : decode cX8_file 65 = .ok (.iinc 7 1, 3) := by decide +kernel
theorem dX8_file_68 : decode cX8_file 68 = .ok (.goto (-36), 3) := by decide +kernel
theorem dX8_file_71 : decode cX8_file 71 = .ok (.iload 5, 2) := by decide +kernel
theorem dX8_file_73 : decode cX8_file 73 = .ok (.invokestatic 42, 3) := by decide +kernel
theorem dX8_file_76 : decode cX8_file 76 = .ok (.iload 6, 2) := by decide +kernel
theorem dX8_file_78 : decode cX8_file 78 = .ok (.invokestatic 42, 3) := by decide +kernel
theorem dX8_file_81 : decode cX8_file 81 = .ok (.iadd, 1) := by decide +kernel
theorem dX8_file_82 : decode cX8_file 82 = .ok (.istore 7, 2) := by decide +kernel
theorem dX8_file_84 : decode cX8_file 84 = .ok (.iload 7, 2) := by decide +kernel
theorem dX8_file_86 : decode cX8_file 86 = .ok (.aload_n 0, 1) := by decide +kernel
theorem dX8_file_87 : decode cX8_file 87 = .ok (.getfield 27, 3) := by decide +kernel
theorem dX8_file_90 : decode cX8_file 90 = .ok (.if_icmp .ge 21, 3) := by decide +kernel
theorem dX8_file_93 : decode cX8_file 93 = .ok (.aload_n 0, 1) := by decide +kernel
theorem dX8_file_94 : decode cX8_file 94 = .ok (.iload 7, 2) := by decide +kernel
theorem dX8_file_96 : decode cX8_file 96 = .ok (.putfield 27, 3) := by decide +kernel
theorem dX8_file_99 : decode cX8_file 99 = .ok (.aload_n 0, 1) := by decide +kernel
theorem dX8_file_100 : decode cX8_file 100 = .ok (.iload 5, 2) := by decide +kernel
theorem dX8_file_102 : decode cX8_file 102 = .ok (.putfield 31, 3) := by decide +kernel
theorem dX8_file_105 : decode cX8_file 105 = .ok (.aload_n 0, 1) := by decide +kernel
theorem dX8_file_106 : decode cX8_file 106 = .ok (.iload 6, 2) := by decide +kernel
theorem dX8_file_108 : decode cX8_file 108 = .ok (.putfield 34, 3) := by decide +kernel
theorem dX8_file_111 : decode cX8_file 111 = .ok (.iinc 5 1, 3) := by decide +kernel
theorem dX8_file_114 : decode cX8_file 114 = .ok (.goto (-96), 3) := by decide +kernel
theorem dX8_file_117 : decode cX8_file 117 = .ok (.return_, 1) := by decide +kernel
theorem dX8_gatherClashes_0 : decode cX8_gatherClashes 0 = .ok (.aload_n 0, 1) := by decide +kernel
theorem dX8_gatherClashes_1 : decode cX8_gatherClashes 1 = .ok (.getfield 24, 3) := by decide +kernel
theorem dX8_gatherClashes_4 : decode cX8_gatherClashes 4 = .ok (.iconst 0, 1) := by decide +kernel
theorem dX8_gatherClashes_5 : decode cX8_gatherClashes 5 = .ok (.invokestatic 54, 3) := by decide +kernel
theorem dX8_gatherClashes_8 : decode cX8_gatherClashes 8 = .ok (.iconst 0, 1) := by decide +kernel
theorem dX8_gatherClashes_9 : decode cX8_gatherClashes 9 = .ok (.istore 5, 2) := by decide +kernel
theorem dX8_gatherClashes_11 : decode cX8_gatherClashes 11 = .ok (.iload 5, 2) := by decide +kernel
theorem dX8_gatherClashes_13 : decode cX8_gatherClashes 13 = .ok (.bipush 8, 2) := by decide +kernel
theorem dX8_gatherClashes_15 : decode cX8_gatherClashes 15 = .ok (.if_icmp .ge 94, 3) := by decide +kernel
theorem dX8_gatherClashes_18 : decode cX8_gatherClashes 18 = .ok (.aload_n 1, 1) := by decide +kernel
theorem dX8_gatherClashes_19 : decode cX8_gatherClashes 19 = .ok (.iload_n 2, 1) := by decide +kernel
theorem dX8_gatherClashes_20 : decode cX8_gatherClashes 20 = .ok (.iload 5, 2) := by decide +kernel
theorem dX8_gatherClashes_22 : decode cX8_gatherClashes 22 = .ok (.invokevirtual 80, 3) := by decide +kernel
theorem dX8_gatherClashes_25 : decode cX8_gatherClashes 25 = .ok (.istore 6, 2) := by decide +kernel
theorem dX8_gatherClashes_27 : decode cX8_gatherClashes 27 = .ok (.aload_n 1, 1) := by decide +kernel
theorem dX8_gatherClashes_28 : decode cX8_gatherClashes 28 = .ok (.iload_n 3, 1) := by decide +kernel
theorem dX8_gatherClashes_29 : decode cX8_gatherClashes 29 = .ok (.iload 5, 2) := by decide +kernel
theorem dX8_gatherClashes_31 : decode cX8_gatherClashes 31 = .ok (.iload 4, 2) := by decide +kernel
theorem dX8_gatherClashes_33 : decode cX8_gatherClashes 33 = .ok (.iadd, 1) := by decide +kernel
theorem dX8_gatherClashes_34 : decode cX8_gatherClashes 34 = .ok (.bipush 8, 2) := by decide +kernel
theorem dX8_gatherClashes_36 : decode cX8_gatherClashes 36 = .ok (.irem, 1) := by decide +kernel
theorem dX8_gatherClashes_37 : decode cX8_gatherClashes 37 = .ok (.invokevirtual 80, 3) := by decide +kernel
theorem dX8_gatherClashes_40 : decode cX8_gatherClashes 40 = .ok (.istore 7, 2) := by decide +kernel
theorem dX8_gatherClashes_42 : decode cX8_gatherClashes 42 = .ok (.iconst 0, 1) := by decide +kernel
theorem dX8_gatherClashes_43 : decode cX8_gatherClashes 43 = .ok (.istore 8, 2) := by decide +kernel
theorem dX8_gatherClashes_45 : decode cX8_gatherClashes 45 = .ok (.iload 8, 2) := by decide +kernel
theorem dX8_gatherClashes_47 : decode cX8_gatherClashes 47 = .ok (.bipush 8, 2) := by decide +kernel
theorem dX8_gatherClashes_49 : decode cX8_gatherClashes 49 = .ok (.if_icmp .ge 54, 3) := by decide +kernel
theorem dX8_gatherClashes_52 : decode cX8_gatherClashes 52 = .ok (.iconst 1, 1) := by decide +kernel
theorem dX8_gatherClashes_53 : decode cX8_gatherClashes 53 = .ok (.iload 8, 2) := by decide +kernel
theorem dX8_gatherClashes_55 : decode cX8_gatherClashes 55 = .ok (.ishl, 1) := by decide +kernel
theorem dX8_gatherClashes_56 : decode cX8_gatherClashes 56 = .ok (.iconst 1, 1) := by decide +kernel
theorem dX8_gatherClashes_57 : decode cX8_gatherClashes 57 = .ok (.ishl, 1) := by decide +kernel
theorem dX8_gatherClashes_58 : decode cX8_gatherClashes 58 = .ok (.iconst 1, 1) := by decide +kernel
theorem dX8_gatherClashes_59 : decode cX8_gatherClashes 59 = .ok (.iload 8, 2) := by decide +kernel
theorem dX8_gatherClashes_61 : decode cX8_gatherClashes 61 = .ok (.ishl, 1) := by decide +kernel
theorem dX8_gatherClashes_62 : decode cX8_gatherClashes 62 = .ok (.iconst 1, 1) := by decide +kernel
theorem dX8_gatherClashes_63 : decode cX8_gatherClashes 63 = .ok (.ishr, 1) := by decide +kernel
theorem dX8_gatherClashes_64 : decode cX8_gatherClashes 64 = .ok (.ior, 1) := by decide +kernel
theorem dX8_gatherClashes_65 : decode cX8_gatherClashes 65 = .ok (.istore 9, 2) := by decide +kernel
theorem dX8_gatherClashes_67 : decode cX8_gatherClashes 67 = .ok (.aload_n 0, 1) := by decide +kernel
theorem dX8_gatherClashes_68 : decode cX8_gatherClashes 68 = .ok (.getfield 24, 3) := by decide +kernel
theorem dX8_gatherClashes_71 : decode cX8_gatherClashes 71 = .ok (.iload 8, 2) := by decide +kernel
theorem dX8_gatherClashes_73 : decode cX8_gatherClashes 73 = .ok (.dup2, 1) := by decide +kernel
theorem dX8_gatherClashes_74 : decode cX8_gatherClashes 74 = .ok (.iaload, 1) := by decide +kernel
theorem dX8_gatherClashes_75 : decode cX8_gatherClashes 75 = .ok (.iload 6, 2) := by decide +kernel
theorem dX8_gatherClashes_77 : decode cX8_gatherClashes 77 = .ok (.iload 8, 2) := by decide +kernel
theorem dX8_gatherClashes_79 : decode cX8_gatherClashes 79 = .ok (.ishr, 1) := by decide +kernel
theorem dX8_gatherClashes_80 : decode cX8_gatherClashes 80 = .ok (.iconst 1, 1) := by decide +kernel
theorem dX8_gatherClashes_81 : decode cX8_gatherClashes 81 = .ok (.iand, 1) := by decide +kernel
theorem dX8_gatherClashes_82 : decode cX8_gatherClashes 82 = .ok (.iconst 1, 1) := by decide +kernel
theorem dX8_gatherClashes_83 : decode cX8_gatherClashes 83 = .ok (.if_icmp .ne 11, 3) := by decide +kernel
theorem dX8_gatherClashes_86 : decode cX8_gatherClashes 86 = .ok (.iload 7, 2) := by decide +kernel
theorem dX8_gatherClashes_88 : decode cX8_gatherClashes 88 = .ok (.iload 9, 2) := by decide +kernel
theorem dX8_gatherClashes_90 : decode cX8_gatherClashes 90 = .ok (.iand, 1) := by decide +kernel
theorem dX8_gatherClashes_91 : decode cX8_gatherClashes 91 = .ok (.goto 4, 3) := by decide +kernel
theorem dX8_gatherClashes_94 : decode cX8_gatherClashes 94 = .ok (.iconst 0, 1) := by decide +kernel
theorem dX8_gatherClashes_95 : decode cX8_gatherClashes 95 = .ok (.ior, 1) := by decide +kernel
theorem dX8_gatherClashes_96 : decode cX8_gatherClashes 96 = .ok (.iastore, 1) := by decide +kernel
theorem dX8_gatherClashes_97 : decode cX8_gatherClashes 97 = .ok (.iinc 8 1, 3) := by decide +kernel
theorem dX8_gatherClashes_100 : decode cX8_gatherClashes 100 = .ok (.goto (-55), 3) := by decide +kernel
theorem dX8_gatherClashes_103 : decode cX8_gatherClashes 103 = .ok (.iinc 5 1, 3) := by decide +kernel
theorem dX8_gatherClashes_106 : decode cX8_gatherClashes 106 = .ok (.goto (-95), 3) := by decide +kernel
theorem dX8_gatherClashes_109 : decode cX8_gatherClashes 109 = .ok (.return_, 1) := by decide +kernel
theorem dX9_init_0 : decode cX9_init 0 = .ok (.aload_n 0, 1) := by decide +kernel
theorem dX9_init_1 : decode cX9_init 1 = .ok (.invokespecial 3, 3) := by decide +kernel
theorem dX9_init_4 : decode cX9_init 4 = .ok (.aload_n 0, 1) := by decide +kernel
theorem dX9_init_5 : decode cX9_init 5 = .ok (.iconst 0, 1) := by decide +kernel
theorem dX9_init_6 : decode cX9_init 6 = .ok (.putfield 9, 3) := by decide +kernel
theorem dX9_init_9 : decode cX9_init 9 = .ok (.aload_n 0, 1) := by decide +kernel
theorem dX9_init_10 : decode cX9_init 10 = .ok (.bipush 48, 2) := by decide +kernel
theorem dX9_init_12 : decode cX9_init 12 = .ok (.newarray .int, 2) := by decide +kernel
theorem dX9_init_14 : decode cX9_init 14 = .ok (.putfield 15, 3) := by decide +kernel
theorem dX9_init_17 : decode cX9_init 17 = .ok (.aload_n 0, 1) := by decide +kernel
theorem dX9_init_18 : decode cX9_init 18 = .ok (.bipush 6, 2) := by decide +kernel
theorem dX9_init_20 : decode cX9_init 20 = .ok (.newarray .int, 2) := by decide +kernel
theorem dX9_init_22 : decode cX9_init 22 = .ok (.putfield 19, 3) := by decide +kernel
theorem dX9_init_25 : decode cX9_init 25 = .ok (.aload_n 0, 1) := by decide +kernel
theorem dX9_init_26 : decode cX9_init 26 = .ok (.bipush 6, 2) := by decide +kernel
theorem dX9_init_28 : decode cX9_init 28 = .ok (.newarray .int, 2) := by decide +kernel
theorem dX9_init_30 : decode cX9_init 30 = .ok (.putfield 22, 3) := by decide +kernel
theorem dX9_init_33 : decode cX9_init 33 = .ok (.aload_n 0, 1) := by decide +kernel
theorem dX9_init_34 : decode cX9_init 34 = .ok (.bipush 6, 2) := by decide +kernel
theorem dX9_init_36 : decode cX9_init 36 = .ok (.newarray .int, 2) := by decide +kernel
theorem dX9_init_38 : decode cX9_init 38 = .ok (.putfield 25, 3) := by decide +kernel
theorem dX9_init_41 : decode cX9_init 41 = .ok (.aload_n 0, 1) := by decide +kernel
theorem dX9_init_42 : decode cX9_init 42 = .ok (.bipush 6, 2) := by decide +kernel
theorem dX9_init_44 : decode cX9_init 44 = .ok (.newarray .int, 2) := by decide +kernel
theorem dX9_init_46 : decode cX9_init 46 = .ok (.putfield 28, 3) := by decide +kernel
theorem dX9_init_49 : decode cX9_init 49 = .ok (.aload_n 0, 1) := by decide +kernel
theorem dX9_init_50 : decode cX9_init 50 = .ok (.iconst 3, 1) := by decide +kernel
theorem dX9_init_51 : decode cX9_init 51 = .ok (.newarray .int, 2) := by decide +kernel
theorem dX9_init_53 : decode cX9_init 53 = .ok (.putfield 31, 3) := by decide +kernel
theorem dX9_init_56 : decode cX9_init 56 = .ok (.aload_n 0, 1) := by decide +kernel
theorem dX9_init_57 : decode cX9_init 57 = .ok (.getfield 25, 3) := by decide +kernel
theorem dX9_init_60 : decode cX9_init 60 = .ok (.iconst (-1), 1) := by decide +kernel
theorem dX9_init_61 : decode cX9_init 61 = .ok (.invokestatic 34, 3) := by decide +kernel
theorem dX9_init_64 : decode cX9_init 64 = .ok (.aload_n 0, 1) := by decide +kernel
theorem dX9_init_65 : decode cX9_init 65 = .ok (.getfield 31, 3) := by decide +kernel
theorem dX9_init_68 : decode cX9_init 68 = .ok (.iconst 1, 1) := by decide +kernel
theorem dX9_init_69 : decode cX9_init 69 = .ok (.iconst 2, 1) := by decide +kernel
theorem dX9_init_70 : decode cX9_init 70 = .ok (.iastore, 1) := by decide +kernel
theorem dX9_init_71 : decode cX9_init 71 = .ok (.return_, 1) := by decide +kernel
theorem dX9_copyFrom_0 : decode cX9_copyFrom 0 = .ok (.aload_n 0, 1) := by decide +kernel
theorem dX9_copyFrom_1 : decode cX9_copyFrom 1 = .ok (.aload_n 1, 1) := by decide +kernel
theorem dX9_copyFrom_2 : decode cX9_copyFrom 2 = .ok (.getfield 9, 3) := by decide +kernel
theorem dX9_copyFrom_5 : decode cX9_copyFrom 5 = .ok (.putfield 9, 3) := by decide +kernel
theorem dX9_copyFrom_8 : decode cX9_copyFrom 8 = .ok (.aload_n 1, 1) := by decide +kernel
theorem dX9_copyFrom_9 : decode cX9_copyFrom 9 = .ok (.getfield 15, 3) := by decide +kernel
theorem dX9_copyFrom_12 : decode cX9_copyFrom 12 = .ok (.iconst 0, 1) := by decide +kernel
theorem dX9_copyFrom_13 : decode cX9_copyFrom 13 = .ok (.aload_n 0, 1) := by decide +kernel
theorem dX9_copyFrom_14 : decode cX9_copyFrom 14 = .ok (.getfield 15, 3) := by decide +kernel
theorem dX9_copyFrom_17 : decode cX9_copyFrom 17 = .ok (.iconst 0, 1) := by decide +kernel
theorem dX9_copyFrom_18 : decode cX9_copyFrom 18 = .ok (.bipush 48, 2) := by decide +kernel
theorem dX9_copyFrom_20 : decode cX9_copyFrom 20 = .ok (.invokestatic 40, 3) := by decide +kernel
theorem dX9_copyFrom_23 : decode cX9_copyFrom 23 = .ok (.aload_n 1, 1) := by decide +kernel
theorem dX9_copyFrom_24 : decode cX9_copyFrom 24 = .ok (.getfield 19, 3) := by decide +kernel
theorem dX9_copyFrom_27 : decode cX9_copyFrom 27 = .ok (.iconst 0, 1) := by decide +kernel
theorem dX9_copyFrom_28 : decode cX9_copyFrom 28 = .ok (.aload_n 0, 1) := by decide +kernel
theorem dX9_copyFrom_29 : decode cX9_copyFrom 29 = .ok (.getfield 19, 3) := by decide +kernel
theorem dX9_copyFrom_32 : decode cX9_copyFrom 32 = .ok (.iconst 0, 1) := by decide +kernel
theorem dX9_copyFrom_33 : decode cX9_copyFrom 33 = .ok (.bipush 6, 2) := by decide +kernel
theorem dX9_copyFrom_35 : decode cX9_copyFrom 35 = .ok (.invokestatic 40, 3) := by decide +kernel
theorem dX9_copyFrom_38 : decode cX9_copyFrom 38 = .ok (.aload_n 1, 1) := by decide +kernel
theorem dX9_copyFrom_39 : decode cX9_copyFrom 39 = .ok (.getfield 22, 3) := by decide +kernel
theorem dX9_copyFrom_42 : decode cX9_copyFrom 42 = .ok (.iconst 0, 1) := by decide +kernel
theorem dX9_copyFrom_43 : decode cX9_copyFrom 43 = .ok (.aload_n 0, 1) := by decide +kernel
theorem dX9_copyFrom_44 : decode cX9_copyFrom 44 = .ok (.getfield 22, 3) := by decide +kernel
theorem dX9_copyFrom_47 : decode cX9_copyFrom 47 = .ok (.iconst 0, 1) := by decide +kernel
theorem dX9_copyFrom_48 : decode cX9_copyFrom 48 = .ok (.bipush 6, 2) := by decide +kernel
theorem dX9_copyFrom_50 : decode cX9_copyFrom 50 = .ok (.invokestatic 40, 3) := by decide +kernel
theorem dX9_copyFrom_53 : decode cX9_copyFrom 53 = .ok (.aload_n 1, 1) := by decide +kernel
theorem dX9_copyFrom_54 : decode cX9_copyFrom 54 = .ok (.getfield 25, 3) := by decide +kernel
theorem dX9_copyFrom_57 : decode cX9_copyFrom 57 = .ok (.iconst 0, 1) := by decide +kernel
theorem dX9_copyFrom_58 : decode cX9_copyFrom 58 = .ok (.aload_n 0, 1) := by decide +kernel
theorem dX9_copyFrom_59 : decode cX9_copyFrom 59 = .ok (.getfield 25, 3) := by decide +kernel
theorem dX9_copyFrom_62 : decode cX9_copyFrom 62 = .ok (.iconst 0, 1) := by decide +kernel
theorem dX9_copyFrom_63 : decode cX9_copyFrom 63 = .ok (.bipush 6, 2) := by decide +kernel
theorem dX9_copyFrom_65 : decode cX9_copyFrom 65 = .ok (.invokestatic 40, 3) := by decide +kernel
theorem dX9_copyFrom_68 : decode cX9_copyFrom 68 = .ok (.aload_n 1, 1) := by decide +kernel
theorem dX9_copyFrom_69 : decode cX9_copyFrom 69 = .ok (.getfield 28, 3) := by decide +kernel
theorem dX9_copyFrom_72 : decode cX9_copyFrom 72 = .ok (.iconst 0, 1) := by decide +kernel
theorem dX9_copyFrom_73 : decode cX9_copyFrom 73 = .ok (.aload_n 0, 1) := by decide +kernel
theorem dX9_copyFrom_74 : decode cX9_copyFrom 74 = .ok (.getfield 28, 3) := by decide +kernel
theorem dX9_copyFrom_77 : decode cX9_copyFrom 77 = .ok (.iconst 0, 1) := by decide +kernel
theorem dX9_copyFrom_78 : decode cX9_copyFrom 78 = .ok (.bipush 6, 2) := by decide +kernel
theorem dX9_copyFrom_80 : decode cX9_copyFrom 80 = .ok (.invokestatic 40, 3) := by decide +kernel
theorem dX9_copyFrom_83 : decode cX9_copyFrom 83 = .ok (.aload_n 1, 1) := by decide +kernel
theorem dX9_copyFrom_84 : decode cX9_copyFrom 84 = .ok (.getfield 31, 3) := by decide +kernel
theorem dX9_copyFrom_87 : decode cX9_copyFrom 87 = .ok (.iconst 0, 1) := by decide +kernel
theorem dX9_copyFrom_88 : decode cX9_copyFrom 88 = .ok (.aload_n 0, 1) := by decide +kernel
theorem dX9_copyFrom_89 : decode cX9_copyFrom 89 = .ok (.getfield 31, 3) := by decide +kernel
theorem dX9_copyFrom_92 : decode cX9_copyFrom 92 = .ok (.iconst 0, 1) := by decide +kernel
theorem dX9_copyFrom_93 : decode cX9_copyFrom 93 = .ok (.iconst 3, 1) := by decide +kernel
theorem dX9_copyFrom_94 : decode cX9_copyFrom 94 = .ok (.invokestatic 40, 3) := by decide +kernel
theorem dX9_copyFrom_97 : decode cX9_copyFrom 97 = .ok (.return_, 1) := by decide +kernel
theorem dX9_hasBox_0 : decode cX9_hasBox 0 = .ok (.iload_n 1, 1) := by decide +kernel
theorem dX9_hasBox_1 : decode cX9_hasBox 1 = .ok (.ifCond .lt 15, 3) := by decide +kernel
theorem dX9_hasBox_4 : decode cX9_hasBox 4 = .ok (.iload_n 1, 1) := by decide +kernel
theorem dX9_hasBox_5 : decode cX9_hasBox 5 = .ok (.aload_n 0, 1) := by decide +kernel
theorem dX9_hasBox_6 : decode cX9_hasBox 6 = .ok (.getfield 9, 3) := by decide +kernel
theorem dX9_hasBox_9 : decode cX9_hasBox 9 = .ok (.if_icmp .ge 7, 3) := by decide +kernel
theorem dX9_hasBox_12 : decode cX9_hasBox 12 = .ok (.iconst 1, 1) := by decide +kernel
theorem dX9_hasBox_13 : decode cX9_hasBox 13 = .ok (.goto 4, 3) := by decide +kernel
theorem dX9_hasBox_16 : decode cX9_hasBox 16 = .ok (.iconst 0, 1) := by decide +kernel
theorem dX9_hasBox_17 : decode cX9_hasBox 17 = .ok (.ireturn, 1) := by decide +kernel
theorem dX9_notesAt_0 : decode cX9_notesAt 0 = .ok (.aload_n 0, 1) := by decide +kernel
theorem dX9_notesAt_1 : decode cX9_notesAt 1 = .ok (.getfield 15, 3) := by decide +kernel
theorem dX9_notesAt_4 : decode cX9_notesAt 4 = .ok (.iload_n 1, 1) := by decide +kernel
theorem dX9_notesAt_5 : decode cX9_notesAt 5 = .ok (.bipush 8, 2) := by decide +kernel
theorem dX9_notesAt_7 : decode cX9_notesAt 7 = .ok (.imul, 1) := by decide +kernel
theorem dX9_notesAt_8 : decode cX9_notesAt 8 = .ok (.iload_n 2, 1) := by decide +kernel
theorem dX9_notesAt_9 : decode cX9_notesAt 9 = .ok (.iadd, 1) := by decide +kernel
theorem dX9_notesAt_10 : decode cX9_notesAt 10 = .ok (.iaload, 1) := by decide +kernel
theorem dX9_notesAt_11 : decode cX9_notesAt 11 = .ok (.aload_n 0, 1) := by decide +kernel
theorem dX9_notesAt_12 : decode cX9_notesAt 12 = .ok (.getfield 19, 3) := by decide +kernel
theorem dX9_notesAt_15 : decode cX9_notesAt 15 = .ok (.iload_n 1, 1) := by decide +kernel
theorem dX9_notesAt_16 : decode cX9_notesAt 16 = .ok (.iaload, 1) := by decide +kernel
theorem dX9_notesAt_17 : decode cX9_notesAt 17 = .ok (.iconst (-1), 1) := by decide +kernel
theorem dX9_notesAt_18 : decode cX9_notesAt 18 = .ok (.ixor, 1) := by decide +kernel
theorem dX9_notesAt_19 : decode cX9_notesAt 19 = .ok (.iand, 1) := by decide +kernel
theorem dX9_notesAt_20 : decode cX9_notesAt 20 = .ok (.ireturn, 1) := by decide +kernel
theorem dX9_notes_0 : decode cX9_notes 0 = .ok (.iconst 0, 1) := by decide +kernel
theorem dX9_notes_1 : decode cX9_notes 1 = .ok (.istore_n 2, 1) := by decide +kernel
theorem dX9_notes_2 : decode cX9_notes 2 = .ok (.iconst 0, 1) := by decide +kernel
theorem dX9_notes_3 : decode cX9_notes 3 = .ok (.istore_n 3, 1) := by decide +kernel
theorem dX9_notes_4 : decode cX9_notes 4 = .ok (.iload_n 3, 1) := by decide +kernel
theorem dX9_notes_5 : decode cX9_notes 5 = .ok (.bipush 8, 2) := by decide +kernel
theorem dX9_notes_7 : decode cX9_notes 7 = .ok (.if_icmp .ge 21, 3) := by decide +kernel
theorem dX9_notes_10 : decode cX9_notes 10 = .ok (.iload_n 2, 1) := by decide +kernel
theorem dX9_notes_11 : decode cX9_notes 11 = .ok (.aload_n 0, 1) := by decide +kernel
theorem dX9_notes_12 : decode cX9_notes 12 = .ok (.iload_n 1, 1) := by decide +kernel
theorem dX9_notes_13 : decode cX9_notes 13 = .ok (.iload_n 3, 1) := by decide +kernel
theorem dX9_notes_14 : decode cX9_notes 14 = .ok (.invokevirtual 46, 3) := by decide +kernel
theorem dX9_notes_17 : decode cX9_notes 17 = .ok (.invokestatic 50, 3) := by decide +kernel
theorem dX9_notes_20 : decode cX9_notes 20 = .ok (.iadd, 1) := by decide +kernel
theorem dX9_notes_21 : decode cX9_notes 21 = .ok (.istore_n 2, 1) := by decide +kernel
theorem dX9_notes_22 : decode cX9_notes 22 = .ok (.iinc 3 1, 3) := by decide +kernel
theorem dX9_notes_25 : decode cX9_notes 25 = .ok (.goto (-21), 3) := by decide +kernel
theorem dX9_notes_28 : decode cX9_notes 28 = .ok (.iload_n 2, 1) := by decide +kernel
theorem dX9_notes_29 : decode cX9_notes 29 = .ok (.ireturn, 1) := by decide +kernel
theorem dX9_barsWith_0 : decode cX9_barsWith 0 = .ok (.iconst 0, 1) := by decide +kernel
theorem dX9_barsWith_1 : decode cX9_barsWith 1 = .ok (.istore_n 3, 1) := by decide +kernel
theorem dX9_barsWith_2 : decode cX9_barsWith 2 = .ok (.iconst 0, 1) := by decide +kernel
theorem dX9_barsWith_3 : decode cX9_barsWith 3 = .ok (.istore 4, 2) := by decide +kernel
theorem dX9_barsWith_5 : decode cX9_barsWith 5 = .ok (.iload 4, 2) := by decide +kernel
theorem dX9_barsWith_7 : decode cX9_barsWith 7 = .ok (.bipush 8, 2) := by decide +kernel
theorem dX9_barsWith_9 : decode cX9_barsWith 9 = .ok (.if_icmp .ge 23, 3) := by decide +kernel
theorem dX9_barsWith_12 : decode cX9_barsWith 12 = .ok (.iload_n 3, 1) := by decide +kernel
theorem dX9_barsWith_13 : decode cX9_barsWith 13 = .ok (.aload_n 0, 1) := by decide +kernel
theorem dX9_barsWith_14 : decode cX9_barsWith 14 = .ok (.iload_n 1, 1) := by decide +kernel
theorem dX9_barsWith_15 : decode cX9_barsWith 15 = .ok (.iload 4, 2) := by decide +kernel
theorem dX9_barsWith_17 : decode cX9_barsWith 17 = .ok (.invokevirtual 46, 3) := by decide +kernel
theorem dX9_barsWith_20 : decode cX9_barsWith 20 = .ok (.iload_n 2, 1) := by decide +kernel
theorem dX9_barsWith_21 : decode cX9_barsWith 21 = .ok (.ishr, 1) := by decide +kernel
theorem dX9_barsWith_22 : decode cX9_barsWith 22 = .ok (.iconst 1, 1) := by decide +kernel
theorem dX9_barsWith_23 : decode cX9_barsWith 23 = .ok (.iand, 1) := by decide +kernel
theorem dX9_barsWith_24 : decode cX9_barsWith 24 = .ok (.iadd, 1) := by decide +kernel
theorem dX9_barsWith_25 : decode cX9_barsWith 25 = .ok (.istore_n 3, 1) := by decide +kernel
theorem dX9_barsWith_26 : decode cX9_barsWith 26 = .ok (.iinc 4 1, 3) := by decide +kernel
theorem dX9_barsWith_29 : decode cX9_barsWith 29 = .ok (.goto (-24), 3) := by decide +kernel
theorem dX9_barsWith_32 : decode cX9_barsWith 32 = .ok (.iload_n 3, 1) := by decide +kernel
theorem dX9_barsWith_33 : decode cX9_barsWith 33 = .ok (.ireturn, 1) := by decide +kernel
theorem dX9_boxesWith_0 : decode cX9_boxesWith 0 = .ok (.iconst 0, 1) := by decide +kernel
theorem dX9_boxesWith_1 : decode cX9_boxesWith 1 = .ok (.istore_n 3, 1) := by decide +kernel
theorem dX9_boxesWith_2 : decode cX9_boxesWith 2 = .ok (.iconst 0, 1) := by decide +kernel
theorem dX9_boxesWith_3 : decode cX9_boxesWith 3 = .ok (.istore 4, 2) := by decide +kernel
theorem dX9_boxesWith_5 : decode cX9_boxesWith 5 = .ok (.iload 4, 2) := by decide +kernel
theorem dX9_boxesWith_7 : decode cX9_boxesWith 7 = .ok (.aload_n 0, 1) := by decide +kernel
theorem dX9_boxesWith_8 : decode cX9_boxesWith 8 = .ok (.getfield 9, 3) := by decide +kernel
theorem dX9_boxesWith_11 : decode cX9_boxesWith 11 = .ok (.if_icmp .ge 26, 3) := by decide +kernel
theorem dX9_boxesWith_14 : decode cX9_boxesWith 14 = .ok (.iload_n 3, 1) := by decide +kernel
theorem dX9_boxesWith_15 : decode cX9_boxesWith 15 = .ok (.aload_n 0, 1) := by decide +kernel
theorem dX9_boxesWith_16 : decode cX9_boxesWith 16 = .ok (.iload 4, 2) := by decide +kernel
theorem dX9_boxesWith_18 : decode cX9_boxesWith 18 = .ok (.iload_n 1, 1) := by decide +kernel
theorem dX9_boxesWith_19 : decode cX9_boxesWith 19 = .ok (.invokevirtual 46, 3) := by decide +kernel
theorem dX9_boxesWith_22 : decode cX9_boxesWith 22 = .ok (.iload_n 2, 1) := by decide +kernel
theorem dX9_boxesWith_23 : decode cX9_boxesWith 23 = .ok (.ishr, 1) := by decide +kernel
theorem dX9_boxesWith_24 : decode cX9_boxesWith 24 = .ok (.iconst 1, 1) := by decide +kernel
theorem dX9_boxesWith_25 : decode cX9_boxesWith 25 = .ok (.iand, 1) := by decide +kernel
theorem dX9_boxesWith_26 : decode cX9_boxesWith 26 = .ok (.iload 4, 2) := by decide +kernel
theorem dX9_boxesWith_28 : decode cX9_boxesWith 28 = .ok (.ishl, 1) := by decide +kernel
theorem dX9_boxesWith_29 : decode cX9_boxesWith 29 = .ok (.ior, 1) := by decide +kernel
theorem dX9_boxesWith_30 : decode cX9_boxesWith 30 = .ok (.istore_n 3, 1) := by decide +kernel
theorem dX9_boxesWith_31 : decode cX9_boxesWith 31 = .ok (.iinc 4 1, 3) := by decide +kernel
theorem dX9_boxesWith_34 : decode cX9_boxesWith 34 = .ok (.goto (-29), 3) := by decide +kernel
theorem dX9_boxesWith_37 : decode cX9_boxesWith 37 = .ok (.iload_n 3, 1) := by decide +kernel
theorem dX9_boxesWith_38 : decode cX9_boxesWith 38 = .ok (.ireturn, 1) := by decide +kernel
theorem dX9_couples_0 : decode cX9_couples 0 = .ok (.iconst 0, 1) := by decide +kernel
theorem dX9_couples_1 : decode cX9_couples 1 = .ok (.istore_n 1, 1) := by decide +kernel
theorem dX9_couples_2 : decode cX9_couples 2 = .ok (.iconst 0, 1) := by decide +kernel
theorem dX9_couples_3 : decode cX9_couples 3 = .ok (.istore_n 2, 1) := by decide +kernel
theorem dX9_couples_4 : decode cX9_couples 4 = .ok (.iload_n 2, 1) := by decide +kernel
theorem dX9_couples_5 : decode cX9_couples 5 = .ok (.aload_n 0, 1) := by decide +kernel
theorem dX9_couples_6 : decode cX9_couples 6 = .ok (.getfield 9, 3) := by decide +kernel
theorem dX9_couples_9 : decode cX9_couples 9 = .ok (.if_icmp .ge 27, 3) := by decide +kernel
theorem dX9_couples_12 : decode cX9_couples 12 = .ok (.iload_n 1, 1) := by decide +kernel
theorem dX9_couples_13 : decode cX9_couples 13 = .ok (.aload_n 0, 1) := by decide +kernel
theorem dX9_couples_14 : decode cX9_couples 14 = .ok (.getfield 25, 3) := by decide +kernel
theorem dX9_couples_17 : decode cX9_couples 17 = .ok (.iload_n 2, 1) := by decide +kernel
theorem dX9_couples_18 : decode cX9_couples 18 = .ok (.iaload, 1) := by decide +kernel
theorem dX9_couples_19 : decode cX9_couples 19 = .ok (.iconst (-1), 1) := by decide +kernel
theorem dX9_couples_20 : decode cX9_couples 20 = .ok (.if_icmp .ne 7, 3) := by decide +kernel
theorem dX9_couples_23 : decode cX9_couples 23 = .ok (.iconst 0, 1) := by decide +kernel
theorem dX9_couples_24 : decode cX9_couples 24 = .ok (.goto 4, 3) := by decide +kernel
theorem dX9_couples_27 : decode cX9_couples 27 = .ok (.iconst 1, 1) := by decide +kernel
theorem dX9_couples_28 : decode cX9_couples 28 = .ok (.iadd, 1) := by decide +kernel
theorem dX9_couples_29 : decode cX9_couples 29 = .ok (.istore_n 1, 1) := by decide +kernel
theorem dX9_couples_30 : decode cX9_couples 30 = .ok (.iinc 2 1, 3) := by decide +kernel
theorem dX9_couples_33 : decode cX9_couples 33 = .ok (.goto (-29), 3) := by decide +kernel
theorem dX9_couples_36 : decode cX9_couples 36 = .ok (.iload_n 1, 1) := by decide +kernel
theorem dX9_couples_37 : decode cX9_couples 37 = .ok (.ireturn, 1) := by decide +kernel
theorem dX9_boxOf_0 : decode cX9_boxOf 0 = .ok (.iconst 0, 1) := by decide +kernel
theorem dX9_boxOf_1 : decode cX9_boxOf 1 = .ok (.istore_n 2, 1) := by decide +kernel
theorem dX9_boxOf_2 : decode cX9_boxOf 2 = .ok (.iload_n 2, 1) := by decide +kernel
theorem dX9_boxOf_3 : decode cX9_boxOf 3 = .ok (.aload_n 0, 1) := by decide +kernel
theorem dX9_boxOf_4 : decode cX9_boxOf 4 = .ok (.getfield 9, 3) := by decide +kernel
theorem dX9_boxOf_7 : decode cX9_boxOf 7 = .ok (.if_icmp .ge 21, 3) := by decide +kernel
theorem dX9_boxOf_10 : decode cX9_boxOf 10 = .ok (.aload_n 0, 1) := by decide +kernel
theorem dX9_boxOf_11 : decode cX9_boxOf 11 = .ok (.getfield 25, 3) := by decide +kernel
theorem dX9_boxOf_14 : decode cX9_boxOf 14 = .ok (.iload_n 2, 1) := by decide +kernel
theorem dX9_boxOf_15 : decode cX9_boxOf 15 = .ok (.iaload, 1) := by decide +kernel
theorem dX9_boxOf_16 : decode cX9_boxOf 16 = .ok (.iload_n 1, 1) := by decide +kernel
theorem dX9_boxOf_17 : decode cX9_boxOf 17 = .ok (.if_icmp .ne 5, 3) := by decide +kernel
theorem dX9_boxOf_20 : decode cX9_boxOf 20 = .ok (.iload_n 2, 1) := by decide +kernel
theorem dX9_boxOf_21 : decode cX9_boxOf 21 = .ok (.ireturn, 1) := by decide +kernel
theorem dX9_boxOf_22 : decode cX9_boxOf 22 = .ok (.iinc 2 1, 3) := by decide +kernel
theorem dX9_boxOf_25 : decode cX9_boxOf 25 = .ok (.goto (-23), 3) := by decide +kernel
theorem dX9_boxOf_28 : decode cX9_boxOf 28 = .ok (.iconst (-1), 1) := by decide +kernel
theorem dX9_boxOf_29 : decode cX9_boxOf 29 = .ok (.ireturn, 1) := by decide +kernel
theorem dX10_init_0 : decode cX10_init 0 = .ok (.aload_n 0, 1) := by decide +kernel
theorem dX10_init_1 : decode cX10_init 1 = .ok (.invokespecial 3, 3) := by decide +kernel
theorem dX10_init_4 : decode cX10_init 4 = .ok (.aload_n 0, 1) := by decide +kernel
theorem dX10_init_5 : decode cX10_init 5 = .ok (.new 9, 3) := by decide +kernel
theorem dX10_init_8 : decode cX10_init 8 = .ok (.dup, 1) := by decide +kernel
theorem dX10_init_9 : decode cX10_init 9 = .ok (.invokespecial 11, 3) := by decide +kernel
theorem dX10_init_12 : decode cX10_init 12 = .ok (.putfield 12, 3) := by decide +kernel
theorem dX10_init_15 : decode cX10_init 15 = .ok (.aload_n 0, 1) := by decide +kernel
theorem dX10_init_16 : decode cX10_init 16 = .ok (.iconst 0, 1) := by decide +kernel
theorem dX10_init_17 : decode cX10_init 17 = .ok (.putfield 18, 3) := by decide +kernel
theorem dX10_init_20 : decode cX10_init 20 = .ok (.aload_n 0, 1) := by decide +kernel
theorem dX10_init_21 : decode cX10_init 21 = .ok (.bipush 6, 2) := by decide +kernel
theorem dX10_init_23 : decode cX10_init 23 = .ok (.newarray .int, 2) := by decide +kernel
theorem dX10_init_25 : decode cX10_init 25 = .ok (.putfield 22, 3) := by decide +kernel
theorem dX10_init_28 : decode cX10_init 28 = .ok (.aload_n 0, 1) := by decide +kernel
theorem dX10_init_29 : decode cX10_init 29 = .ok (.bipush 6, 2) := by decide +kernel
theorem dX10_init_31 : decode cX10_init 31 = .ok (.newarray .int, 2) := by decide +kernel
theorem dX10_init_33 : decode cX10_init 33 = .ok (.putfield 26, 3) := by decide +kernel
theorem dX10_init_36 : decode cX10_init 36 = .ok (.aload_n 0, 1) := by decide +kernel
theorem dX10_init_37 : decode cX10_init 37 = .ok (.iconst 0, 1) := by decide +kernel
theorem dX10_init_38 : decode cX10_init 38 = .ok (.putfield 29, 3) := by decide +kernel
theorem dX10_init_41 : decode cX10_init 41 = .ok (.aload_n 0, 1) := by decide +kernel
theorem dX10_init_42 : decode cX10_init 42 = .ok (.bipush 8, 2) := by decide +kernel
theorem dX10_init_44 : decode cX10_init 44 = .ok (.newarray .int, 2) := by decide +kernel
theorem dX10_init_46 : decode cX10_init 46 = .ok (.putfield 32, 3) := by decide +kernel
theorem dX10_init_49 : decode cX10_init 49 = .ok (.aload_n 0, 1) := by decide +kernel
theorem dX10_init_50 : decode cX10_init 50 = .ok (.bipush 8, 2) := by decide +kernel
theorem dX10_init_52 : decode cX10_init 52 = .ok (.newarray .int, 2) := by decide +kernel
theorem dX10_init_54 : decode cX10_init 54 = .ok (.putfield 35, 3) := by decide +kernel
theorem dX10_init_57 : decode cX10_init 57 = .ok (.aload_n 0, 1) := by decide +kernel
theorem dX10_init_58 : decode cX10_init 58 = .ok (.bipush 8, 2) := by decide +kernel
theorem dX10_init_60 : decode cX10_init 60 = .ok (.newarray .int, 2) := by decide +kernel
theorem dX10_init_62 : decode cX10_init 62 = .ok (.putfield 38, 3) := by decide +kernel
theorem dX10_init_65 : decode cX10_init 65 = .ok (.aload_n 0, 1) := by decide +kernel
theorem dX10_init_66 : decode cX10_init 66 = .ok (.iconst 0, 1) := by decide +kernel
theorem dX10_init_67 : decode cX10_init 67 = .ok (.putfield 41, 3) := by decide +kernel
theorem dX10_init_70 : decode cX10_init 70 = .ok (.aload_n 0, 1) := by decide +kernel
theorem dX10_init_71 : decode cX10_init 71 = .ok (.bipush 6, 2) := by decide +kernel
theorem dX10_init_73 : decode cX10_init 73 = .ok (.anewarray 44, 3) := by decide +kernel
theorem dX10_init_76 : decode cX10_init 76 = .ok (.putfield 46, 3) := by decide +kernel
theorem dX10_init_79 : decode cX10_init 79 = .ok (.aload_n 0, 1) := by decide +kernel
theorem dX10_init_80 : decode cX10_init 80 = .ok (.iconst (-1), 1) := by decide +kernel
theorem dX10_init_81 : decode cX10_init 81 = .ok (.putfield 50, 3) := by decide +kernel
theorem dX10_init_84 : decode cX10_init 84 = .ok (.aload_n 0, 1) := by decide +kernel
theorem dX10_init_85 : decode cX10_init 85 = .ok (.aload_n 1, 1) := by decide +kernel
theorem dX10_init_86 : decode cX10_init 86 = .ok (.putfield 53, 3) := by decide +kernel
theorem dX10_init_89 : decode cX10_init 89 = .ok (.iconst 0, 1) := by decide +kernel
theorem dX10_init_90 : decode cX10_init 90 = .ok (.istore_n 2, 1) := by decide +kernel
theorem dX10_init_91 : decode cX10_init 91 = .ok (.iload_n 2, 1) := by decide +kernel
theorem dX10_init_92 : decode cX10_init 92 = .ok (.bipush 6, 2) := by decide +kernel
theorem dX10_init_94 : decode cX10_init 94 = .ok (.if_icmp .ge 16, 3) := by decide +kernel
theorem dX10_init_97 : decode cX10_init 97 = .ok (.aload_n 0, 1) := by decide +kernel
theorem dX10_init_98 : decode cX10_init 98 = .ok (.getfield 46, 3) := by decide +kernel
theorem dX10_init_101 : decode cX10_init 101 = .ok (.iload_n 2, 1) := by decide +kernel
theorem dX10_init_102 : decode cX10_init 102 = .ok (.aload_n 1, 1) := by decide +kernel
theorem dX10_init_103 : decode cX10_init 103 = .ok (.aastore, 1) := by decide +kernel
theorem dX10_init_104 : decode cX10_init 104 = .ok (.iinc 2 1, 3) := by decide +kernel
theorem dX10_init_107 : decode cX10_init 107 = .ok (.goto (-16), 3) := by decide +kernel
theorem dX10_init_110 : decode cX10_init 110 = .ok (.return_, 1) := by decide +kernel
theorem dX10_copyFrom_0 : decode cX10_copyFrom 0 = .ok (.aload_n 0, 1) := by decide +kernel
theorem dX10_copyFrom_1 : decode cX10_copyFrom 1 = .ok (.getfield 12, 3) := by decide +kernel
theorem dX10_copyFrom_4 : decode cX10_copyFrom 4 = .ok (.aload_n 1, 1) := by decide +kernel
theorem dX10_copyFrom_5 : decode cX10_copyFrom 5 = .ok (.getfield 12, 3) := by decide +kernel
theorem dX10_copyFrom_8 : decode cX10_copyFrom 8 = .ok (.invokevirtual 57, 3) := by decide +kernel
theorem dX10_copyFrom_11 : decode cX10_copyFrom 11 = .ok (.aload_n 0, 1) := by decide +kernel
theorem dX10_copyFrom_12 : decode cX10_copyFrom 12 = .ok (.aload_n 1, 1) := by decide +kernel
theorem dX10_copyFrom_13 : decode cX10_copyFrom 13 = .ok (.getfield 18, 3) := by decide +kernel
theorem dX10_copyFrom_16 : decode cX10_copyFrom 16 = .ok (.putfield 18, 3) := by decide +kernel
theorem dX10_copyFrom_19 : decode cX10_copyFrom 19 = .ok (.aload_n 1, 1) := by decide +kernel
theorem dX10_copyFrom_20 : decode cX10_copyFrom 20 = .ok (.getfield 22, 3) := by decide +kernel
theorem dX10_copyFrom_23 : decode cX10_copyFrom 23 = .ok (.iconst 0, 1) := by decide +kernel
theorem dX10_copyFrom_24 : decode cX10_copyFrom 24 = .ok (.aload_n 0, 1) := by decide +kernel
theorem dX10_copyFrom_25 : decode cX10_copyFrom 25 = .ok (.getfield 22, 3) := by decide +kernel
theorem dX10_copyFrom_28 : decode cX10_copyFrom 28 = .ok (.iconst 0, 1) := by decide +kernel
theorem dX10_copyFrom_29 : decode cX10_copyFrom 29 = .ok (.bipush 6, 2) := by decide +kernel
theorem dX10_copyFrom_31 : decode cX10_copyFrom 31 = .ok (.invokestatic 61, 3) := by decide +kernel
theorem dX10_copyFrom_34 : decode cX10_copyFrom 34 = .ok (.aload_n 1, 1) := by decide +kernel
theorem dX10_copyFrom_35 : decode cX10_copyFrom 35 = .ok (.getfield 26, 3) := by decide +kernel
theorem dX10_copyFrom_38 : decode cX10_copyFrom 38 = .ok (.iconst 0, 1) := by decide +kernel
theorem dX10_copyFrom_39 : decode cX10_copyFrom 39 = .ok (.aload_n 0, 1) := by decide +kernel
theorem dX10_copyFrom_40 : decode cX10_copyFrom 40 = .ok (.getfield 26, 3) := by decide +kernel
theorem dX10_copyFrom_43 : decode cX10_copyFrom 43 = .ok (.iconst 0, 1) := by decide +kernel
theorem dX10_copyFrom_44 : decode cX10_copyFrom 44 = .ok (.bipush 6, 2) := by decide +kernel
theorem dX10_copyFrom_46 : decode cX10_copyFrom 46 = .ok (.invokestatic 61, 3) := by decide +kernel
theorem dX10_copyFrom_49 : decode cX10_copyFrom 49 = .ok (.aload_n 0, 1) := by decide +kernel
theorem dX10_copyFrom_50 : decode cX10_copyFrom 50 = .ok (.aload_n 1, 1) := by decide +kernel
theorem dX10_copyFrom_51 : decode cX10_copyFrom 51 = .ok (.getfield 29, 3) := by decide +kernel
theorem dX10_copyFrom_54 : decode cX10_copyFrom 54 = .ok (.putfield 29, 3) := by decide +kernel
theorem dX10_copyFrom_57 : decode cX10_copyFrom 57 = .ok (.aload_n 1, 1) := by decide +kernel
theorem dX10_copyFrom_58 : decode cX10_copyFrom 58 = .ok (.getfield 32, 3) := by decide +kernel
theorem dX10_copyFrom_61 : decode cX10_copyFrom 61 = .ok (.iconst 0, 1) := by decide +kernel
theorem dX10_copyFrom_62 : decode cX10_copyFrom 62 = .ok (.aload_n 0, 1) := by decide +kernel
theorem dX10_copyFrom_63 : decode cX10_copyFrom 63 = .ok (.getfield 32, 3) := by decide +kernel
theorem dX10_copyFrom_66 : decode cX10_copyFrom 66 = .ok (.iconst 0, 1) := by decide +kernel
theorem dX10_copyFrom_67 : decode cX10_copyFrom 67 = .ok (.bipush 8, 2) := by decide +kernel
theorem dX10_copyFrom_69 : decode cX10_copyFrom 69 = .ok (.invokestatic 61, 3) := by decide +kernel
theorem dX10_copyFrom_72 : decode cX10_copyFrom 72 = .ok (.aload_n 1, 1) := by decide +kernel
theorem dX10_copyFrom_73 : decode cX10_copyFrom 73 = .ok (.getfield 35, 3) := by decide +kernel
theorem dX10_copyFrom_76 : decode cX10_copyFrom 76 = .ok (.iconst 0, 1) := by decide +kernel
theorem dX10_copyFrom_77 : decode cX10_copyFrom 77 = .ok (.aload_n 0, 1) := by decide +kernel
theorem dX10_copyFrom_78 : decode cX10_copyFrom 78 = .ok (.getfield 35, 3) := by decide +kernel
theorem dX10_copyFrom_81 : decode cX10_copyFrom 81 = .ok (.iconst 0, 1) := by decide +kernel
theorem dX10_copyFrom_82 : decode cX10_copyFrom 82 = .ok (.bipush 8, 2) := by decide +kernel
theorem dX10_copyFrom_84 : decode cX10_copyFrom 84 = .ok (.invokestatic 61, 3) := by decide +kernel
theorem dX10_copyFrom_87 : decode cX10_copyFrom 87 = .ok (.aload_n 1, 1) := by decide +kernel
theorem dX10_copyFrom_88 : decode cX10_copyFrom 88 = .ok (.getfield 38, 3) := by decide +kernel
theorem dX10_copyFrom_91 : decode cX10_copyFrom 91 = .ok (.iconst 0, 1) := by decide +kernel
theorem dX10_copyFrom_92 : decode cX10_copyFrom 92 = .ok (.aload_n 0, 1) := by decide +kernel
theorem dX10_copyFrom_93 : decode cX10_copyFrom 93 = .ok (.getfield 38, 3) := by decide +kernel
theorem dX10_copyFrom_96 : decode cX10_copyFrom 96 = .ok (.iconst 0, 1) := by decide +kernel
theorem dX10_copyFrom_97 : decode cX10_copyFrom 97 = .ok (.bipush 8, 2) := by decide +kernel
theorem dX10_copyFrom_99 : decode cX10_copyFrom 99 = .ok (.invokestatic 61, 3) := by decide +kernel
theorem dX10_copyFrom_102 : decode cX10_copyFrom 102 = .ok (.aload_n 0, 1) := by decide +kernel
theorem dX10_copyFrom_103 : decode cX10_copyFrom 103 = .ok (.aload_n 1, 1) := by decide +kernel
theorem dX10_copyFrom_104 : decode cX10_copyFrom 104 = .ok (.getfield 41, 3) := by decide +kernel
theorem dX10_copyFrom_107 : decode cX10_copyFrom 107 = .ok (.putfield 41, 3) := by decide +kernel
theorem dX10_copyFrom_110 : decode cX10_copyFrom 110 = .ok (.iconst 0, 1) := by decide +kernel
theorem dX10_copyFrom_111 : decode cX10_copyFrom 111 = .ok (.istore_n 2, 1) := by decide +kernel
theorem dX10_copyFrom_112 : decode cX10_copyFrom 112 = .ok (.iload_n 2, 1) := by decide +kernel
theorem dX10_copyFrom_113 : decode cX10_copyFrom 113 = .ok (.bipush 6, 2) := by decide +kernel
theorem dX10_copyFrom_115 : decode cX10_copyFrom 115 = .ok (.if_icmp .ge 21, 3) := by decide +kernel
theorem dX10_copyFrom_118 : decode cX10_copyFrom 118 = .ok (.aload_n 0, 1) := by decide +kernel
theorem dX10_copyFrom_119 : decode cX10_copyFrom 119 = .ok (.getfield 46, 3) := by decide +kernel
theorem dX10_copyFrom_122 : decode cX10_copyFrom 122 = .ok (.iload_n 2, 1) := by decide +kernel
theorem dX10_copyFrom_123 : decode cX10_copyFrom 123 = .ok (.aload_n 1, 1) := by decide +kernel
theorem dX10_copyFrom_124 : decode cX10_copyFrom 124 = .ok (.getfield 46, 3) := by decide +kernel
theorem dX10_copyFrom_127 : decode cX10_copyFrom 127 = .ok (.iload_n 2, 1) := by decide +kernel
theorem dX10_copyFrom_128 : decode cX10_copyFrom 128 = .ok (.aaload, 1) := by decide +kernel
theorem dX10_copyFrom_129 : decode cX10_copyFrom 129 = .ok (.aastore, 1) := by decide +kernel
theorem dX10_copyFrom_130 : decode cX10_copyFrom 130 = .ok (.iinc 2 1, 3) := by decide +kernel
theorem dX10_copyFrom_133 : decode cX10_copyFrom 133 = .ok (.goto (-21), 3) := by decide +kernel
theorem dX10_copyFrom_136 : decode cX10_copyFrom 136 = .ok (.aload_n 0, 1) := by decide +kernel
theorem dX10_copyFrom_137 : decode cX10_copyFrom 137 = .ok (.aload_n 1, 1) := by decide +kernel
theorem dX10_copyFrom_138 : decode cX10_copyFrom 138 = .ok (.getfield 50, 3) := by decide +kernel
theorem dX10_copyFrom_141 : decode cX10_copyFrom 141 = .ok (.putfield 50, 3) := by decide +kernel
theorem dX10_copyFrom_144 : decode cX10_copyFrom 144 = .ok (.return_, 1) := by decide +kernel
theorem dX10_hasSuitor_0 : decode cX10_hasSuitor 0 = .ok (.iload_n 1, 1) := by decide +kernel
theorem dX10_hasSuitor_1 : decode cX10_hasSuitor 1 = .ok (.ifCond .lt 15, 3) := by decide +kernel
theorem dX10_hasSuitor_4 : decode cX10_hasSuitor 4 = .ok (.iload_n 1, 1) := by decide +kernel
theorem dX10_hasSuitor_5 : decode cX10_hasSuitor 5 = .ok (.aload_n 0, 1) := by decide +kernel
theorem dX10_hasSuitor_6 : decode cX10_hasSuitor 6 = .ok (.getfield 18, 3) := by decide +kernel
theorem dX10_hasSuitor_9 : decode cX10_hasSuitor 9 = .ok (.if_icmp .ge 7, 3) := by decide +kernel
theorem dX10_hasSuitor_12 : decode cX10_hasSuitor 12 = .ok (.iconst 1, 1) := by decide +kernel
theorem dX10_hasSuitor_13 : decode cX10_hasSuitor 13 = .ok (.goto 4, 3) := by decide +kernel
theorem dX10_hasSuitor_16 : decode cX10_hasSuitor 16 = .ok (.iconst 0, 1) := by decide +kernel
theorem dX10_hasSuitor_17 : decode cX10_hasSuitor 17 = .ok (.ireturn, 1) := by decide +kernel
theorem dX10_hasLaw_0 : decode cX10_hasLaw 0 = .ok (.iload_n 1, 1) := by decide +kernel
theorem dX10_hasLaw_1 : decode cX10_hasLaw 1 = .ok (.ifCond .lt 15, 3) := by decide +kernel
theorem dX10_hasLaw_4 : decode cX10_hasLaw 4 = .ok (.iload_n 1, 1) := by decide +kernel
theorem dX10_hasLaw_5 : decode cX10_hasLaw 5 = .ok (.aload_n 0, 1) := by decide +kernel
theorem dX10_hasLaw_6 : decode cX10_hasLaw 6 = .ok (.getfield 41, 3) := by decide +kernel
theorem dX10_hasLaw_9 : decode cX10_hasLaw 9 = .ok (.if_icmp .ge 7, 3) := by decide +kernel
theorem dX10_hasLaw_12 : decode cX10_hasLaw 12 = .ok (.iconst 1, 1) := by decide +kernel
theorem dX10_hasLaw_13 : decode cX10_hasLaw 13 = .ok (.goto 4, 3) := by decide +kernel
theorem dX10_hasLaw_16 : decode cX10_hasLaw 16 = .ok (.iconst 0, 1) := by decide +kernel
theorem dX10_hasLaw_17 : decode cX10_hasLaw 17 = .ok (.ireturn, 1) := by decide +kernel
theorem dX10_lawNumbered_0 : decode cX10_lawNumbered 0 = .ok (.aload_n 0, 1) := by decide +kernel
theorem dX10_lawNumbered_1 : decode cX10_lawNumbered 1 = .ok (.iload_n 1, 1) := by decide +kernel
theorem dX10_lawNumbered_2 : decode cX10_lawNumbered 2 = .ok (.invokevirtual 67, 3) := by decide +kernel
theorem dX10_lawNumbered_5 : decode cX10_lawNumbered 5 = .ok (.ifCond .eq 12, 3) := by decide +kernel
theorem dX10_lawNumbered_8 : decode cX10_lawNumbered 8 = .ok (.aload_n 0, 1) := by decide +kernel
theorem dX10_lawNumbered_9 : decode cX10_lawNumbered 9 = .ok (.getfield 46, 3) := by decide +kernel
theorem dX10_lawNumbered_12 : decode cX10_lawNumbered 12 = .ok (.iload_n 1, 1) := by decide +kernel
theorem dX10_lawNumbered_13 : decode cX10_lawNumbered 13 = .ok (.aaload, 1) := by decide +kernel
theorem dX10_lawNumbered_14 : decode cX10_lawNumbered 14 = .ok (.goto 7, 3) := by decide +kernel
theorem dX10_lawNumbered_17 : decode cX10_lawNumbered 17 = .ok (.aload_n 0, 1) := by decide +kernel
theorem dX10_lawNumbered_18 : decode cX10_lawNumbered 18 = .ok (.getfield 53, 3) := by decide +kernel
theorem dX10_lawNumbered_21 : decode cX10_lawNumbered 21 = .ok (.areturn, 1) := by decide +kernel
theorem dX10_lawInForce_0 : decode cX10_lawInForce 0 = .ok (.aload_n 0, 1) := by decide +kernel
theorem dX10_lawInForce_1 : decode cX10_lawInForce 1 = .ok (.aload_n 0, 1) := by decide +kernel
theorem dX10_lawInForce_2 : decode cX10_lawInForce 2 = .ok (.getfield 50, 3) := by decide +kernel
theorem dX10_lawInForce_5 : decode cX10_lawInForce 5 = .ok (.invokevirtual 71, 3) := by decide +kernel
theorem dX10_lawInForce_8 : decode cX10_lawInForce 8 = .ok (.areturn, 1) := by decide +kernel
theorem dX10_boxesHeard_0 : decode cX10_boxesHeard 0 = .ok (.iconst 1, 1) := by decide +kernel
theorem dX10_boxesHeard_1 : decode cX10_boxesHeard 1 = .ok (.aload_n 0, 1) := by decide +kernel
theorem dX10_boxesHeard_2 : decode cX10_boxesHeard 2 = .ok (.getfield 12, 3) := by decide +kernel
theorem dX10_boxesHeard_5 : decode cX10_boxesHeard 5 = .ok (.getfield 75, 3) := by decide +kernel
theorem dX10_boxesHeard_8 : decode cX10_boxesHeard 8 = .ok (.ishl, 1) := by decide +kernel
theorem dX10_boxesHeard_9 : decode cX10_boxesHeard 9 = .ok (.iconst 1, 1) := by decide +kernel
theorem dX10_boxesHeard_10 : decode cX10_boxesHeard 10 = .ok (.isub, 1) := by decide +kernel
theorem dX10_boxesHeard_11 : decode cX10_boxesHeard 11 = .ok (.istore_n 1, 1) := by decide +kernel
theorem dX10_boxesHeard_12 : decode cX10_boxesHeard 12 = .ok (.iload_n 1, 1) := by decide +kernel
theorem dX10_boxesHeard_13 : decode cX10_boxesHeard 13 = .ok (.istore_n 2, 1) := by decide +kernel
theorem dX10_boxesHeard_14 : decode cX10_boxesHeard 14 = .ok (.iconst 0, 1) := by decide +kernel
theorem dX10_boxesHeard_15 : decode cX10_boxesHeard 15 = .ok (.istore_n 3, 1) := by decide +kernel
theorem dX10_boxesHeard_16 : decode cX10_boxesHeard 16 = .ok (.iload_n 3, 1) := by decide +kernel
theorem dX10_boxesHeard_17 : decode cX10_boxesHeard 17 = .ok (.aload_n 0, 1) := by decide +kernel
theorem dX10_boxesHeard_18 : decode cX10_boxesHeard 18 = .ok (.getfield 29, 3) := by decide +kernel
theorem dX10_boxesHeard_21 : decode cX10_boxesHeard 21 = .ok (.if_icmp .ge 52, 3) := by decide +kernel
theorem dX10_boxesHeard_24 : decode cX10_boxesHeard 24 = .ok (.aload_n 0, 1) := by decide +kernel
theorem dX10_boxesHeard_25 : decode cX10_boxesHeard 25 = .ok (.getfield 12, 3) := by decide +kernel
theorem dX10_boxesHeard_28 : decode cX10_boxesHeard 28 = .ok (.aload_n 0, 1) := by decide +kernel
theorem dX10_boxesHeard_29 : decode cX10_boxesHeard 29 = .ok (.getfield 32, 3) := by decide +kernel
theorem dX10_boxesHeard_32 : decode cX10_boxesHeard 32 = .ok (.iload_n 3, 1) := by decide +kernel
theorem dX10_boxesHeard_33 : decode cX10_boxesHeard 33 = .ok (.iaload, 1) := by decide +kernel
theorem dX10_boxesHeard_34 : decode cX10_boxesHeard 34 = .ok (.aload_n 0, 1) := by decide +kernel
theorem dX10_boxesHeard_35 : decode cX10_boxesHeard 35 = .ok (.getfield 35, 3) := by decide +kernel
theorem dX10_boxesHeard_38 : decode cX10_boxesHeard 38 = .ok (.iload_n 3, 1) := by decide +kernel
theorem dX10_boxesHeard_39 : decode cX10_boxesHeard 39 = .ok (.iaload, 1) := by decide +kernel
theorem dX10_boxesHeard_40 : decode cX10_boxesHeard 40 = .ok (.invokevirtual 78, 3) := by decide +kernel
theorem dX10_boxesHeard_43 : decode cX10_boxesHeard 43 = .ok (.istore 4, 2) := by decide +kernel
theorem dX10_boxesHeard_45 : decode cX10_boxesHeard 45 = .ok (.iload_n 2, 1) := by decide +kernel
theorem dX10_boxesHeard_46 : decode cX10_boxesHeard 46 = .ok (.aload_n 0, 1) := by decide +kernel
theorem dX10_boxesHeard_47 : decode cX10_boxesHeard 47 = .ok (.getfield 38, 3) := by decide +kernel
theorem dX10_boxesHeard_50 : decode cX10_boxesHeard 50 = .ok (.iload_n 3, 1) := by decide +kernel
theorem dX10_boxesHeard_51 : decode cX10_boxesHeard 51 = .ok (.iaload, 1) := by decide +kernel
theorem dX10_boxesHeard_52 : decode cX10_boxesHeard 52 = .ok (.iconst 1, 1) := by decide +kernel
theorem dX10_boxesHeard_53 : decode cX10_boxesHeard 53 = .ok (.if_icmp .ne 8, 3) := by decide +kernel
theorem dX10_boxesHeard_56 : decode cX10_boxesHeard 56 = .ok (.iload 4, 2) := by decide +kernel
theorem dX10_boxesHeard_58 : decode cX10_boxesHeard 58 = .ok (.goto 7, 3) := by decide +kernel
theorem dX10_boxesHeard_61 : decode cX10_boxesHeard 61 = .ok (.iload 4, 2) := by decide +kernel
theorem dX10_boxesHeard_63 : decode cX10_boxesHeard 63 = .ok (.iconst (-1), 1) := by decide +kernel
theorem dX10_boxesHeard_64 : decode cX10_boxesHeard 64 = .ok (.ixor, 1) := by decide +kernel
theorem dX10_boxesHeard_65 : decode cX10_boxesHeard 65 = .ok (.iand, 1) := by decide +kernel
theorem dX10_boxesHeard_66 : decode cX10_boxesHeard 66 = .ok (.istore_n 2, 1) := by decide +kernel
theorem dX10_boxesHeard_67 : decode cX10_boxesHeard 67 = .ok (.iinc 3 1, 3) := by decide +kernel
theorem dX10_boxesHeard_70 : decode cX10_boxesHeard 70 = .ok (.goto (-54), 3) := by decide +kernel
theorem dX10_boxesHeard_73 : decode cX10_boxesHeard 73 = .ok (.iload_n 2, 1) := by decide +kernel
theorem dX10_boxesHeard_74 : decode cX10_boxesHeard 74 = .ok (.ireturn, 1) := by decide +kernel
theorem dJ6_bitCount_0f7a4_0 : decode cJ6_bitCount_0f7a4 0 = .ok (.iload_n 0, 1) := by decide +kernel
theorem dJ6_bitCount_0f7a4_1 : decode cJ6_bitCount_0f7a4 1 = .ok (.iload_n 0, 1) := by decide +kernel
theorem dJ6_bitCount_0f7a4_2 : decode cJ6_bitCount_0f7a4 2 = .ok (.iconst 1, 1) := by decide +kernel
theorem dJ6_bitCount_0f7a4_3 : decode cJ6_bitCount_0f7a4 3 = .ok (.iushr, 1) := by decide +kernel
theorem dJ6_bitCount_0f7a4_4 : decode cJ6_bitCount_0f7a4 4 = .ok (.ldc_w 265, 3) := by decide +kernel
theorem dJ6_bitCount_0f7a4_7 : decode cJ6_bitCount_0f7a4 7 = .ok (.iand, 1) := by decide +kernel
theorem dJ6_bitCount_0f7a4_8 : decode cJ6_bitCount_0f7a4 8 = .ok (.isub, 1) := by decide +kernel
theorem dJ6_bitCount_0f7a4_9 : decode cJ6_bitCount_0f7a4 9 = .ok (.istore_n 0, 1) := by decide +kernel
theorem dJ6_bitCount_0f7a4_10 : decode cJ6_bitCount_0f7a4 10 = .ok (.iload_n 0, 1) := by decide +kernel
theorem dJ6_bitCount_0f7a4_11 : decode cJ6_bitCount_0f7a4 11 = .ok (.ldc_w 266, 3) := by decide +kernel
theorem dJ6_bitCount_0f7a4_14 : decode cJ6_bitCount_0f7a4 14 = .ok (.iand, 1) := by decide +kernel
theorem dJ6_bitCount_0f7a4_15 : decode cJ6_bitCount_0f7a4 15 = .ok (.iload_n 0, 1) := by decide +kernel
theorem dJ6_bitCount_0f7a4_16 : decode cJ6_bitCount_0f7a4 16 = .ok (.iconst 2, 1) := by decide +kernel
theorem dJ6_bitCount_0f7a4_17 : decode cJ6_bitCount_0f7a4 17 = .ok (.iushr, 1) := by decide +kernel
theorem dJ6_bitCount_0f7a4_18 : decode cJ6_bitCount_0f7a4 18 = .ok (.ldc_w 266, 3) := by decide +kernel
theorem dJ6_bitCount_0f7a4_21 : decode cJ6_bitCount_0f7a4 21 = .ok (.iand, 1) := by decide +kernel
theorem dJ6_bitCount_0f7a4_22 : decode cJ6_bitCount_0f7a4 22 = .ok (.iadd, 1) := by decide +kernel
theorem dJ6_bitCount_0f7a4_23 : decode cJ6_bitCount_0f7a4 23 = .ok (.istore_n 0, 1) := by decide +kernel
theorem dJ6_bitCount_0f7a4_24 : decode cJ6_bitCount_0f7a4 24 = .ok (.iload_n 0, 1) := by decide +kernel
theorem dJ6_bitCount_0f7a4_25 : decode cJ6_bitCount_0f7a4 25 = .ok (.iload_n 0, 1) := by decide +kernel
theorem dJ6_bitCount_0f7a4_26 : decode cJ6_bitCount_0f7a4 26 = .ok (.iconst 4, 1) := by decide +kernel
theorem dJ6_bitCount_0f7a4_27 : decode cJ6_bitCount_0f7a4 27 = .ok (.iushr, 1) := by decide +kernel
theorem dJ6_bitCount_0f7a4_28 : decode cJ6_bitCount_0f7a4 28 = .ok (.iadd, 1) := by decide +kernel
theorem dJ6_bitCount_0f7a4_29 : decode cJ6_bitCount_0f7a4 29 = .ok (.ldc_w 267, 3) := by decide +kernel
theorem dJ6_bitCount_0f7a4_32 : decode cJ6_bitCount_0f7a4 32 = .ok (.iand, 1) := by decide +kernel
theorem dJ6_bitCount_0f7a4_33 : decode cJ6_bitCount_0f7a4 33 = .ok (.istore_n 0, 1) := by decide +kernel
theorem dJ6_bitCount_0f7a4_34 : decode cJ6_bitCount_0f7a4 34 = .ok (.iload_n 0, 1) := by decide +kernel
theorem dJ6_bitCount_0f7a4_35 : decode cJ6_bitCount_0f7a4 35 = .ok (.iload_n 0, 1) := by decide +kernel
theorem dJ6_bitCount_0f7a4_36 : decode cJ6_bitCount_0f7a4 36 = .ok (.bipush 8, 2) := by decide +kernel
theorem dJ6_bitCount_0f7a4_38 : decode cJ6_bitCount_0f7a4 38 = .ok (.iushr, 1) := by decide +kernel
theorem dJ6_bitCount_0f7a4_39 : decode cJ6_bitCount_0f7a4 39 = .ok (.iadd, 1) := by decide +kernel
theorem dJ6_bitCount_0f7a4_40 : decode cJ6_bitCount_0f7a4 40 = .ok (.istore_n 0, 1) := by decide +kernel
theorem dJ6_bitCount_0f7a4_41 : decode cJ6_bitCount_0f7a4 41 = .ok (.iload_n 0, 1) := by decide +kernel
theorem dJ6_bitCount_0f7a4_42 : decode cJ6_bitCount_0f7a4 42 = .ok (.iload_n 0, 1) := by decide +kernel
theorem dJ6_bitCount_0f7a4_43 : decode cJ6_bitCount_0f7a4 43 = .ok (.bipush 16, 2) := by decide +kernel
theorem dJ6_bitCount_0f7a4_45 : decode cJ6_bitCount_0f7a4 45 = .ok (.iushr, 1) := by decide +kernel
theorem dJ6_bitCount_0f7a4_46 : decode cJ6_bitCount_0f7a4 46 = .ok (.iadd, 1) := by decide +kernel
theorem dJ6_bitCount_0f7a4_47 : decode cJ6_bitCount_0f7a4 47 = .ok (.istore_n 0, 1) := by decide +kernel
theorem dJ6_bitCount_0f7a4_48 : decode cJ6_bitCount_0f7a4 48 = .ok (.iload_n 0, 1) := by decide +kernel
theorem dJ6_bitCount_0f7a4_49 : decode cJ6_bitCount_0f7a4 49 = .ok (.bipush 63, 2) := by decide +kernel
theorem dJ6_bitCount_0f7a4_51 : decode cJ6_bitCount_0f7a4 51 = .ok (.iand, 1) := by decide +kernel
theorem dJ6_bitCount_0f7a4_52 : decode cJ6_bitCount_0f7a4 52 = .ok (.ireturn, 1) := by decide +kernel
theorem dJ9_abs_0f7a4_0 : decode cJ9_abs_0f7a4 0 = .ok (.iload_n 0, 1) := by decide +kernel
theorem dJ9_abs_0f7a4_1 : decode cJ9_abs_0f7a4 1 = .ok (.ifCond .ge 8, 3) := by decide +kernel
theorem dJ9_abs_0f7a4_4 : decode cJ9_abs_0f7a4 4 = .ok (.iload_n 0, 1) := by decide +kernel
theorem dJ9_abs_0f7a4_5 : decode cJ9_abs_0f7a4 5 = .ok (.ineg, 1) := by decide +kernel
theorem dJ9_abs_0f7a4_6 : decode cJ9_abs_0f7a4 6 = .ok (.goto 4, 3) := by decide +kernel
theorem dJ9_abs_0f7a4_9 : decode cJ9_abs_0f7a4 9 = .ok (.iload_n 0, 1) := by decide +kernel
theorem dJ9_abs_0f7a4_10 : decode cJ9_abs_0f7a4 10 = .ok (.ireturn, 1) := by decide +kernel
theorem dJ9_max_7cf53_0 : decode cJ9_max_7cf53 0 = .ok (.iload_n 0, 1) := by decide +kernel
theorem dJ9_max_7cf53_1 : decode cJ9_max_7cf53 1 = .ok (.iload_n 1, 1) := by decide +kernel
theorem dJ9_max_7cf53_2 : decode cJ9_max_7cf53 2 = .ok (.if_icmp .lt 7, 3) := by decide +kernel
theorem dJ9_max_7cf53_5 : decode cJ9_max_7cf53 5 = .ok (.iload_n 0, 1) := by decide +kernel
theorem dJ9_max_7cf53_6 : decode cJ9_max_7cf53 6 = .ok (.goto 4, 3) := by decide +kernel
theorem dJ9_max_7cf53_9 : decode cJ9_max_7cf53 9 = .ok (.iload_n 1, 1) := by decide +kernel
theorem dJ9_max_7cf53_10 : decode cJ9_max_7cf53 10 = .ok (.ireturn, 1) := by decide +kernel
theorem dJ9_min_7cf53_0 : decode cJ9_min_7cf53 0 = .ok (.iload_n 0, 1) := by decide +kernel
theorem dJ9_min_7cf53_1 : decode cJ9_min_7cf53 1 = .ok (.iload_n 1, 1) := by decide +kernel
theorem dJ9_min_7cf53_2 : decode cJ9_min_7cf53 2 = .ok (.if_icmp .gt 7, 3) := by decide +kernel
theorem dJ9_min_7cf53_5 : decode cJ9_min_7cf53 5 = .ok (.iload_n 0, 1) := by decide +kernel
theorem dJ9_min_7cf53_6 : decode cJ9_min_7cf53 6 = .ok (.goto 4, 3) := by decide +kernel
theorem dJ9_min_7cf53_9 : decode cJ9_min_7cf53 9 = .ok (.iload_n 1, 1) := by decide +kernel
theorem dJ9_min_7cf53_10 : decode cJ9_min_7cf53 10 = .ok (.ireturn, 1) := by decide +kernel
theorem dJ0_length_8abf5_0 : decode cJ0_length_8abf5 0 = .ok (.aload_n 0, 1) := by decide +kernel
theorem dJ0_length_8abf5_1 : decode cJ0_length_8abf5 1 = .ok (.getfield 9, 3) := by decide +kernel
theorem dJ0_length_8abf5_4 : decode cJ0_length_8abf5 4 = .ok (.arraylength, 1) := by decide +kernel
theorem dJ0_length_8abf5_5 : decode cJ0_length_8abf5 5 = .ok (.aload_n 0, 1) := by decide +kernel
theorem dJ0_length_8abf5_6 : decode cJ0_length_8abf5 6 = .ok (.invokevirtual 335, 3) := by decide +kernel
theorem dJ0_length_8abf5_9 : decode cJ0_length_8abf5 9 = .ok (.ishr, 1) := by decide +kernel
theorem dJ0_length_8abf5_10 : decode cJ0_length_8abf5 10 = .ok (.ireturn, 1) := by decide +kernel
theorem dJ0_charAt_5068e_0 : decode cJ0_charAt_5068e 0 = .ok (.aload_n 0, 1) := by decide +kernel
theorem dJ0_charAt_5068e_1 : decode cJ0_charAt_5068e 1 = .ok (.invokevirtual 492, 3) := by decide +kernel
theorem dJ0_charAt_5068e_4 : decode cJ0_charAt_5068e 4 = .ok (.ifCond .eq 12, 3) := by decide +kernel
theorem dJ0_charAt_5068e_7 : decode cJ0_charAt_5068e 7 = .ok (.aload_n 0, 1) := by decide +kernel
theorem dJ0_charAt_5068e_8 : decode cJ0_charAt_5068e 8 = .ok (.getfield 9, 3) := by decide +kernel
theorem dJ0_charAt_5068e_11 : decode cJ0_charAt_5068e 11 = .ok (.iload_n 1, 1) := by decide +kernel
theorem dJ0_charAt_5068e_12 : decode cJ0_charAt_5068e 12 = .ok (.invokestatic 495, 3) := by decide +kernel
theorem dJ0_charAt_5068e_15 : decode cJ0_charAt_5068e 15 = .ok (.ireturn, 1) := by decide +kernel
theorem dJ0_charAt_5068e_16 : decode cJ0_charAt_5068e 16 = .ok (.aload_n 0, 1) := by decide +kernel
theorem dJ0_charAt_5068e_17 : decode cJ0_charAt_5068e 17 = .ok (.getfield 9, 3) := by decide +kernel
theorem dJ0_charAt_5068e_20 : decode cJ0_charAt_5068e 20 = .ok (.iload_n 1, 1) := by decide +kernel
theorem dJ0_charAt_5068e_21 : decode cJ0_charAt_5068e 21 = .ok (.invokestatic 498, 3) := by decide +kernel
theorem dJ0_charAt_5068e_24 : decode cJ0_charAt_5068e 24 = .ok (.ireturn, 1) := by decide +kernel
theorem dJ0_coder_7d493_0 : decode cJ0_coder_7d493 0 = .ok (.getstatic 38, 3) := by decide +kernel
theorem dJ0_coder_7d493_3 : decode cJ0_coder_7d493 3 = .ok (.ifCond .eq 10, 3) := by decide +kernel
theorem dJ0_coder_7d493_6 : decode cJ0_coder_7d493 6 = .ok (.aload_n 0, 1) := by decide +kernel
theorem dJ0_coder_7d493_7 : decode cJ0_coder_7d493 7 = .ok (.getfield 15, 3) := by decide +kernel
theorem dJ0_coder_7d493_10 : decode cJ0_coder_7d493 10 = .ok (.goto 4, 3) := by decide +kernel
theorem dJ0_coder_7d493_13 : decode cJ0_coder_7d493 13 = .ok (.iconst 1, 1) := by decide +kernel
theorem dJ0_coder_7d493_14 : decode cJ0_coder_7d493 14 = .ok (.ireturn, 1) := by decide +kernel
theorem dJ0_isLatin1_aae02_0 : decode cJ0_isLatin1_aae02 0 = .ok (.getstatic 38, 3) := by decide +kernel
theorem dJ0_isLatin1_aae02_3 : decode cJ0_isLatin1_aae02 3 = .ok (.ifCond .eq 14, 3) := by decide +kernel
theorem dJ0_isLatin1_aae02_6 : decode cJ0_isLatin1_aae02 6 = .ok (.aload_n 0, 1) := by decide +kernel
theorem dJ0_isLatin1_aae02_7 : decode cJ0_isLatin1_aae02 7 = .ok (.getfield 15, 3) := by decide +kernel
theorem dJ0_isLatin1_aae02_10 : decode cJ0_isLatin1_aae02 10 = .ok (.ifCond .ne 7, 3) := by decide +kernel
theorem dJ0_isLatin1_aae02_13 : decode cJ0_isLatin1_aae02 13 = .ok (.iconst 1, 1) := by decide +kernel
theorem dJ0_isLatin1_aae02_14 : decode cJ0_isLatin1_aae02 14 = .ok (.goto 4, 3) := by decide +kernel
theorem dJ0_isLatin1_aae02_17 : decode cJ0_isLatin1_aae02 17 = .ok (.iconst 0, 1) := by decide +kernel
theorem dJ0_isLatin1_aae02_18 : decode cJ0_isLatin1_aae02 18 = .ok (.ireturn, 1) := by decide +kernel
theorem dJ0_checkIndex_df160_0 : decode cJ0_checkIndex_df160 0 = .ok (.iload_n 0, 1) := by decide +kernel
theorem dJ0_checkIndex_df160_1 : decode cJ0_checkIndex_df160 1 = .ok (.iload_n 1, 1) := by decide +kernel
theorem dJ0_checkIndex_df160_2 : decode cJ0_checkIndex_df160 2 = .ok (.getstatic 1053, 3) := by decide +kernel
theorem dJ0_checkIndex_df160_5 : decode cJ0_checkIndex_df160 5 = .ok (.invokestatic 1059, 3) := by decide +kernel
theorem dJ0_checkIndex_df160_8 : decode cJ0_checkIndex_df160 8 = .ok (.pop, 1) := by decide +kernel
theorem dJ0_checkIndex_df160_9 : decode cJ0_checkIndex_df160 9 = .ok (.return_, 1) := by decide +kernel
theorem dJ1_charAt_3b067_0 : decode cJ1_charAt_3b067 0 = .ok (.iload_n 1, 1) := by decide +kernel
theorem dJ1_charAt_3b067_1 : decode cJ1_charAt_3b067 1 = .ok (.aload_n 0, 1) := by decide +kernel
theorem dJ1_charAt_3b067_2 : decode cJ1_charAt_3b067 2 = .ok (.arraylength, 1) := by decide +kernel
theorem dJ1_charAt_3b067_3 : decode cJ1_charAt_3b067 3 = .ok (.invokestatic 9, 3) := by decide +kernel
theorem dJ1_charAt_3b067_6 : decode cJ1_charAt_3b067 6 = .ok (.aload_n 0, 1) := by decide +kernel
theorem dJ1_charAt_3b067_7 : decode cJ1_charAt_3b067 7 = .ok (.iload_n 1, 1) := by decide +kernel
theorem dJ1_charAt_3b067_8 : decode cJ1_charAt_3b067 8 = .ok (.baload, 1) := by decide +kernel
theorem dJ1_charAt_3b067_9 : decode cJ1_charAt_3b067 9 = .ok (.sipush 255, 3) := by decide +kernel
theorem dJ1_charAt_3b067_12 : decode cJ1_charAt_3b067 12 = .ok (.iand, 1) := by decide +kernel
theorem dJ1_charAt_3b067_13 : decode cJ1_charAt_3b067 13 = .ok (.i2c, 1) := by decide +kernel
theorem dJ1_charAt_3b067_14 : decode cJ1_charAt_3b067 14 = .ok (.ireturn, 1) := by decide +kernel
theorem dJ2_getChar_3b067_0 : decode cJ2_getChar_3b067 0 = .ok (.getstatic 44, 3) := by decide +kernel
theorem dJ2_getChar_3b067_3 : decode cJ2_getChar_3b067 3 = .ok (.ifCond .ne 25, 3) := by decide +kernel
theorem dJ2_getChar_3b067_6 : decode cJ2_getChar_3b067 6 = .ok (.iload_n 1, 1) := by decide +kernel
theorem dJ2_getChar_3b067_7 : decode cJ2_getChar_3b067 7 = .ok (.ifCond .lt 11, 3) := by decide +kernel
theorem dJ2_getChar_3b067_10 : decode cJ2_getChar_3b067 10 = .ok (.iload_n 1, 1) := by decide +kernel
theorem dJ2_getChar_3b067_11 : decode cJ2_getChar_3b067 11 = .ok (.aload_n 0, 1) := by decide +kernel
theorem dJ2_getChar_3b067_12 : decode cJ2_getChar_3b067 12 = .ok (.invokestatic 48, 3) := by decide +kernel
theorem dJ2_getChar_3b067_15 : decode cJ2_getChar_3b067 15 = .ok (.if_icmp .lt 13, 3) := by decide +kernel
theorem dJ2_getChar_3b067_18 : decode cJ2_getChar_3b067 18 = .ok (.new 52, 3) := by decide +kernel
theorem dJ2_getChar_3b067_21 : decode cJ2_getChar_3b067 21 = .ok (.dup, 1) := by decide +kernel
theorem dJ2_getChar_3b067_22 : decode cJ2_getChar_3b067 22 = .ok (.ldc 54, 2) := by decide +kernel
theorem dJ2_getChar_3b067_24 : decode cJ2_getChar_3b067 24 = .ok (.invokespecial 56, 3) := by decide +kernel
theorem dJ2_getChar_3b067_27 : decode cJ2_getChar_3b067 27 = .ok (.athrow, 1) := by decide +kernel
theorem dJ2_getChar_3b067_28 : decode cJ2_getChar_3b067 28 = .ok (.iload_n 1, 1) := by decide +kernel
theorem dJ2_getChar_3b067_29 : decode cJ2_getChar_3b067 29 = .ok (.iconst 1, 1) := by decide +kernel
theorem dJ2_getChar_3b067_30 : decode cJ2_getChar_3b067 30 = .ok (.ishl, 1) := by decide +kernel
theorem dJ2_getChar_3b067_31 : decode cJ2_getChar_3b067 31 = .ok (.istore_n 1, 1) := by decide +kernel
theorem dJ2_getChar_3b067_32 : decode cJ2_getChar_3b067 32 = .ok (.aload_n 0, 1) := by decide +kernel
theorem dJ2_getChar_3b067_33 : decode cJ2_getChar_3b067 33 = .ok (.iload_n 1, 1) := by decide +kernel
theorem dJ2_getChar_3b067_34 : decode cJ2_getChar_3b067 34 = .ok (.iinc 1 1, 3) := by decide +kernel
theorem dJ2_getChar_3b067_37 : decode cJ2_getChar_3b067 37 = .ok (.baload, 1) := by decide +kernel
theorem dJ2_getChar_3b067_38 : decode cJ2_getChar_3b067 38 = .ok (.sipush 255, 3) := by decide +kernel
theorem dJ2_getChar_3b067_41 : decode cJ2_getChar_3b067 41 = .ok (.iand, 1) := by decide +kernel
theorem dJ2_getChar_3b067_42 : decode cJ2_getChar_3b067 42 = .ok (.getstatic 59, 3) := by decide +kernel
theorem dJ2_getChar_3b067_45 : decode cJ2_getChar_3b067 45 = .ok (.ishl, 1) := by decide +kernel
theorem dJ2_getChar_3b067_46 : decode cJ2_getChar_3b067 46 = .ok (.aload_n 0, 1) := by decide +kernel
theorem dJ2_getChar_3b067_47 : decode cJ2_getChar_3b067 47 = .ok (.iload_n 1, 1) := by decide +kernel
theorem dJ2_getChar_3b067_48 : decode cJ2_getChar_3b067 48 = .ok (.baload, 1) := by decide +kernel
theorem dJ2_getChar_3b067_49 : decode cJ2_getChar_3b067 49 = .ok (.sipush 255, 3) := by decide +kernel
theorem dJ2_getChar_3b067_52 : decode cJ2_getChar_3b067 52 = .ok (.iand, 1) := by decide +kernel
theorem dJ2_getChar_3b067_53 : decode cJ2_getChar_3b067 53 = .ok (.getstatic 63, 3) := by decide +kernel
theorem dJ2_getChar_3b067_56 : decode cJ2_getChar_3b067 56 = .ok (.ishl, 1) := by decide +kernel
theorem dJ2_getChar_3b067_57 : decode cJ2_getChar_3b067 57 = .ok (.ior, 1) := by decide +kernel
theorem dJ2_getChar_3b067_58 : decode cJ2_getChar_3b067 58 = .ok (.i2c, 1) := by decide +kernel
theorem dJ2_getChar_3b067_59 : decode cJ2_getChar_3b067 59 = .ok (.ireturn, 1) := by decide +kernel
theorem dJ2_length_9d52b_0 : decode cJ2_length_9d52b 0 = .ok (.aload_n 0, 1) := by decide +kernel
theorem dJ2_length_9d52b_1 : decode cJ2_length_9d52b 1 = .ok (.arraylength, 1) := by decide +kernel
theorem dJ2_length_9d52b_2 : decode cJ2_length_9d52b 2 = .ok (.iconst 1, 1) := by decide +kernel
theorem dJ2_length_9d52b_3 : decode cJ2_length_9d52b 3 = .ok (.ishr, 1) := by decide +kernel
theorem dJ2_length_9d52b_4 : decode cJ2_length_9d52b 4 = .ok (.ireturn, 1) := by decide +kernel
theorem dJ2_charAt_3b067_0 : decode cJ2_charAt_3b067 0 = .ok (.iload_n 1, 1) := by decide +kernel
theorem dJ2_charAt_3b067_1 : decode cJ2_charAt_3b067 1 = .ok (.aload_n 0, 1) := by decide +kernel
theorem dJ2_charAt_3b067_2 : decode cJ2_charAt_3b067 2 = .ok (.invokestatic 67, 3) := by decide +kernel
theorem dJ2_charAt_3b067_5 : decode cJ2_charAt_3b067 5 = .ok (.aload_n 0, 1) := by decide +kernel
theorem dJ2_charAt_3b067_6 : decode cJ2_charAt_3b067 6 = .ok (.iload_n 1, 1) := by decide +kernel
theorem dJ2_charAt_3b067_7 : decode cJ2_charAt_3b067 7 = .ok (.invokestatic 71, 3) := by decide +kernel
theorem dJ2_charAt_3b067_10 : decode cJ2_charAt_3b067 10 = .ok (.ireturn, 1) := by decide +kernel
theorem dJ2_checkIndex_2214a_0 : decode cJ2_checkIndex_2214a 0 = .ok (.iload_n 0, 1) := by decide +kernel
theorem dJ2_checkIndex_2214a_1 : decode cJ2_checkIndex_2214a 1 = .ok (.aload_n 1, 1) := by decide +kernel
theorem dJ2_checkIndex_2214a_2 : decode cJ2_checkIndex_2214a 2 = .ok (.invokestatic 48, 3) := by decide +kernel
theorem dJ2_checkIndex_2214a_5 : decode cJ2_checkIndex_2214a 5 = .ok (.invokestatic 414, 3) := by decide +kernel
theorem dJ2_checkIndex_2214a_8 : decode cJ2_checkIndex_2214a 8 = .ok (.return_, 1) := by decide +kernel
theorem dJ7_fill_d0a16_0 : decode cJ7_fill_d0a16 0 = .ok (.iconst 0, 1) := by decide +kernel
theorem dJ7_fill_d0a16_1 : decode cJ7_fill_d0a16 1 = .ok (.istore_n 3, 1) := by decide +kernel
theorem dJ7_fill_d0a16_2 : decode cJ7_fill_d0a16 2 = .ok (.aload_n 0, 1) := by decide +kernel
theorem dJ7_fill_d0a16_3 : decode cJ7_fill_d0a16 3 = .ok (.arraylength, 1) := by decide +kernel
theorem dJ7_fill_d0a16_4 : decode cJ7_fill_d0a16 4 = .ok (.istore 4, 2) := by decide +kernel
theorem dJ7_fill_d0a16_6 : decode cJ7_fill_d0a16 6 = .ok (.iload_n 3, 1) := by decide +kernel
theorem dJ7_fill_d0a16_7 : decode cJ7_fill_d0a16 7 = .ok (.iload 4, 2) := by decide +kernel
theorem dJ7_fill_d0a16_9 : decode cJ7_fill_d0a16 9 = .ok (.if_icmp .ge 13, 3) := by decide +kernel
theorem dJ7_fill_d0a16_12 : decode cJ7_fill_d0a16 12 = .ok (.aload_n 0, 1) := by decide +kernel
theorem dJ7_fill_d0a16_13 : decode cJ7_fill_d0a16 13 = .ok (.iload_n 3, 1) := by decide +kernel
theorem dJ7_fill_d0a16_14 : decode cJ7_fill_d0a16 14 = .ok (.lload_n 1, 1) := by decide +kernel
theorem dJ7_fill_d0a16_15 : decode cJ7_fill_d0a16 15 = .ok (.lastore, 1) := by decide +kernel
theorem dJ7_fill_d0a16_16 : decode cJ7_fill_d0a16 16 = .ok (.iinc 3 1, 3) := by decide +kernel
theorem dJ7_fill_d0a16_19 : decode cJ7_fill_d0a16 19 = .ok (.goto (-13), 3) := by decide +kernel
theorem dJ7_fill_d0a16_22 : decode cJ7_fill_d0a16 22 = .ok (.return_, 1) := by decide +kernel
theorem dJ7_fill_53178_0 : decode cJ7_fill_53178 0 = .ok (.iconst 0, 1) := by decide +kernel
theorem dJ7_fill_53178_1 : decode cJ7_fill_53178 1 = .ok (.istore_n 2, 1) := by decide +kernel
theorem dJ7_fill_53178_2 : decode cJ7_fill_53178 2 = .ok (.aload_n 0, 1) := by decide +kernel
theorem dJ7_fill_53178_3 : decode cJ7_fill_53178 3 = .ok (.arraylength, 1) := by decide +kernel
theorem dJ7_fill_53178_4 : decode cJ7_fill_53178 4 = .ok (.istore_n 3, 1) := by decide +kernel
theorem dJ7_fill_53178_5 : decode cJ7_fill_53178 5 = .ok (.iload_n 2, 1) := by decide +kernel
theorem dJ7_fill_53178_6 : decode cJ7_fill_53178 6 = .ok (.iload_n 3, 1) := by decide +kernel
theorem dJ7_fill_53178_7 : decode cJ7_fill_53178 7 = .ok (.if_icmp .ge 13, 3) := by decide +kernel
theorem dJ7_fill_53178_10 : decode cJ7_fill_53178 10 = .ok (.aload_n 0, 1) := by decide +kernel
theorem dJ7_fill_53178_11 : decode cJ7_fill_53178 11 = .ok (.iload_n 2, 1) := by decide +kernel
theorem dJ7_fill_53178_12 : decode cJ7_fill_53178 12 = .ok (.iload_n 1, 1) := by decide +kernel
theorem dJ7_fill_53178_13 : decode cJ7_fill_53178 13 = .ok (.iastore, 1) := by decide +kernel
theorem dJ7_fill_53178_14 : decode cJ7_fill_53178 14 = .ok (.iinc 2 1, 3) := by decide +kernel
theorem dJ7_fill_53178_17 : decode cJ7_fill_53178 17 = .ok (.goto (-12), 3) := by decide +kernel
theorem dJ7_fill_53178_20 : decode cJ7_fill_53178 20 = .ok (.return_, 1) := by decide +kernel
theorem dJ7_copyOf_59c91_0 : decode cJ7_copyOf_59c91 0 = .ok (.iload_n 1, 1) := by decide +kernel
theorem dJ7_copyOf_59c91_1 : decode cJ7_copyOf_59c91 1 = .ok (.aload_n 0, 1) := by decide +kernel
theorem dJ7_copyOf_59c91_2 : decode cJ7_copyOf_59c91 2 = .ok (.arraylength, 1) := by decide +kernel
theorem dJ7_copyOf_59c91_3 : decode cJ7_copyOf_59c91 3 = .ok (.if_icmp .ne 11, 3) := by decide +kernel
theorem dJ7_copyOf_59c91_6 : decode cJ7_copyOf_59c91 6 = .ok (.aload_n 0, 1) := by decide +kernel
theorem dJ7_copyOf_59c91_7 : decode cJ7_copyOf_59c91 7 = .ok (.invokevirtual 316, 3) := by decide +kernel
theorem dJ7_copyOf_59c91_10 : decode cJ7_copyOf_59c91 10 = .ok (.checkcast 317, 3) := by decide +kernel
theorem dJ7_copyOf_59c91_13 : decode cJ7_copyOf_59c91 13 = .ok (.areturn, 1) := by decide +kernel
theorem dJ7_copyOf_59c91_14 : decode cJ7_copyOf_59c91 14 = .ok (.iload_n 1, 1) := by decide +kernel
theorem dJ7_copyOf_59c91_15 : decode cJ7_copyOf_59c91 15 = .ok (.newarray .int, 2) := by decide +kernel
theorem dJ7_copyOf_59c91_17 : decode cJ7_copyOf_59c91 17 = .ok (.astore_n 2, 1) := by decide +kernel
theorem dJ7_copyOf_59c91_18 : decode cJ7_copyOf_59c91 18 = .ok (.aload_n 0, 1) := by decide +kernel
theorem dJ7_copyOf_59c91_19 : decode cJ7_copyOf_59c91 19 = .ok (.iconst 0, 1) := by decide +kernel
theorem dJ7_copyOf_59c91_20 : decode cJ7_copyOf_59c91 20 = .ok (.aload_n 2, 1) := by decide +kernel
theorem dJ7_copyOf_59c91_21 : decode cJ7_copyOf_59c91 21 = .ok (.iconst 0, 1) := by decide +kernel
theorem dJ7_copyOf_59c91_22 : decode cJ7_copyOf_59c91 22 = .ok (.aload_n 0, 1) := by decide +kernel
theorem dJ7_copyOf_59c91_23 : decode cJ7_copyOf_59c91 23 = .ok (.arraylength, 1) := by decide +kernel
theorem dJ7_copyOf_59c91_24 : decode cJ7_copyOf_59c91 24 = .ok (.iload_n 1, 1) := by decide +kernel
theorem dJ7_copyOf_59c91_25 : decode cJ7_copyOf_59c91 25 = .ok (.invokestatic 304, 3) := by decide +kernel
theorem dJ7_copyOf_59c91_28 : decode cJ7_copyOf_59c91 28 = .ok (.invokestatic 150, 3) := by decide +kernel
theorem dJ7_copyOf_59c91_31 : decode cJ7_copyOf_59c91 31 = .ok (.aload_n 2, 1) := by decide +kernel
theorem dJ7_copyOf_59c91_32 : decode cJ7_copyOf_59c91 32 = .ok (.areturn, 1) := by decide +kernel
theorem dJ3_checkIndex_8e157_0 : decode cJ3_checkIndex_8e157 0 = .ok (.iload_n 0, 1) := by decide +kernel
theorem dJ3_checkIndex_8e157_1 : decode cJ3_checkIndex_8e157 1 = .ok (.ifCond .lt 8, 3) := by decide +kernel
theorem dJ3_checkIndex_8e157_4 : decode cJ3_checkIndex_8e157 4 = .ok (.iload_n 0, 1) := by decide +kernel
theorem dJ3_checkIndex_8e157_5 : decode cJ3_checkIndex_8e157 5 = .ok (.iload_n 1, 1) := by decide +kernel
theorem dJ3_checkIndex_8e157_6 : decode cJ3_checkIndex_8e157 6 = .ok (.if_icmp .lt 10, 3) := by decide +kernel
theorem dJ3_checkIndex_8e157_9 : decode cJ3_checkIndex_8e157 9 = .ok (.aload_n 2, 1) := by decide +kernel
theorem dJ3_checkIndex_8e157_10 : decode cJ3_checkIndex_8e157 10 = .ok (.iload_n 0, 1) := by decide +kernel
theorem dJ3_checkIndex_8e157_11 : decode cJ3_checkIndex_8e157 11 = .ok (.iload_n 1, 1) := by decide +kernel
theorem dJ3_checkIndex_8e157_12 : decode cJ3_checkIndex_8e157 12 = .ok (.invokestatic 95, 3) := by decide +kernel
theorem dJ3_checkIndex_8e157_15 : decode cJ3_checkIndex_8e157 15 = .ok (.athrow, 1) := by decide +kernel
theorem dJ3_checkIndex_8e157_16 : decode cJ3_checkIndex_8e157 16 = .ok (.iload_n 0, 1) := by decide +kernel
theorem dJ3_checkIndex_8e157_17 : decode cJ3_checkIndex_8e157 17 = .ok (.ireturn, 1) := by decide +kernel
