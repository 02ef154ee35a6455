theorem dX12_tells_202 : decode cX12_tells 202 = .ok (.iconst 2, 1) := by decide +kernel
theorem dX12_tells_203 : decode cX12_tells 203 = .ok (.iadd, 1) := by decide +kernel
theorem dX12_tells_204 : decode cX12_tells 204 = .ok (.bipush 8, 2) := by decide +kernel
theorem dX12_tells_206 : decode cX12_tells 206 = .ok (.iload 8, 2) := by decide +kernel
theorem dX12_tells_208 : decode cX12_tells 208 = .ok (.imul, 1) := by decide +kernel
theorem dX12_tells_209 : decode cX12_tells 209 = .ok (.iadd, 1) := by decide +kernel
theorem dX12_tells_210 : decode cX12_tells 210 = .ok (.istore 9, 2) := by decide +kernel
theorem dX12_tells_212 : decode cX12_tells 212 = .ok (.aload_n 0, 1) := by decide +kernel
theorem dX12_tells_213 : decode cX12_tells 213 = .ok (.getfield 13, 3) := by decide +kernel
theorem dX12_tells_216 : decode cX12_tells 216 = .ok (.iload 9, 2) := by decide +kernel
theorem dX12_tells_218 : decode cX12_tells 218 = .ok (.iaload, 1) := by decide +kernel
theorem dX12_tells_219 : decode cX12_tells 219 = .ok (.iload_n 1, 1) := by decide +kernel
theorem dX12_tells_220 : decode cX12_tells 220 = .ok (.if_icmp .ne 27, 3) := by decide +kernel
theorem dX12_tells_223 : decode cX12_tells 223 = .ok (.aload_n 0, 1) := by decide +kernel
theorem dX12_tells_224 : decode cX12_tells 224 = .ok (.iload 9, 2) := by decide +kernel
theorem dX12_tells_226 : decode cX12_tells 226 = .ok (.invokevirtual 447, 3) := by decide +kernel
theorem dX12_tells_229 : decode cX12_tells 229 = .ok (.ifCond .eq 18, 3) := by decide +kernel
theorem dX12_tells_232 : decode cX12_tells 232 = .ok (.iload_n 1, 1) := by decide +kernel
theorem dX12_tells_233 : decode cX12_tells 233 = .ok (.iconst 3, 1) := by decide +kernel
theorem dX12_tells_234 : decode cX12_tells 234 = .ok (.if_icmp .ne 7, 3) := by decide +kernel
theorem dX12_tells_237 : decode cX12_tells 237 = .ok (.lconst 1, 1) := by decide +kernel
theorem dX12_tells_238 : decode cX12_tells 238 = .ok (.goto 7, 3) := by decide +kernel
theorem dX12_tells_241 : decode cX12_tells 241 = .ok (.aload_n 0, 1) := by decide +kernel
theorem dX12_tells_242 : decode cX12_tells 242 = .ok (.getfield 444, 3) := by decide +kernel
theorem dX12_tells_245 : decode cX12_tells 245 = .ok (.lstore 6, 2) := by decide +kernel
theorem dX12_tells_247 : decode cX12_tells 247 = .ok (.iinc 8 1, 3) := by decide +kernel
theorem dX12_tells_250 : decode cX12_tells 250 = .ok (.goto (-68), 3) := by decide +kernel
theorem dX12_tells_253 : decode cX12_tells 253 = .ok (.lload 6, 2) := by decide +kernel
theorem dX12_tells_255 : decode cX12_tells 255 = .ok (.lreturn, 1) := by decide +kernel
theorem dX12_lastsOf_0 : decode cX12_lastsOf 0 = .ok (.aload_n 0, 1) := by decide +kernel
theorem dX12_lastsOf_1 : decode cX12_lastsOf 1 = .ok (.iconst 0, 1) := by decide +kernel
theorem dX12_lastsOf_2 : decode cX12_lastsOf 2 = .ok (.iload_n 1, 1) := by decide +kernel
theorem dX12_lastsOf_3 : decode cX12_lastsOf 3 = .ok (.iconst (-1), 1) := by decide +kernel
theorem dX12_lastsOf_4 : decode cX12_lastsOf 4 = .ok (.aload_n 0, 1) := by decide +kernel
theorem dX12_lastsOf_5 : decode cX12_lastsOf 5 = .ok (.getfield 13, 3) := by decide +kernel
theorem dX12_lastsOf_8 : decode cX12_lastsOf 8 = .ok (.bipush 62, 2) := by decide +kernel
theorem dX12_lastsOf_10 : decode cX12_lastsOf 10 = .ok (.iload_n 1, 1) := by decide +kernel
theorem dX12_lastsOf_11 : decode cX12_lastsOf 11 = .ok (.iadd, 1) := by decide +kernel
theorem dX12_lastsOf_12 : decode cX12_lastsOf 12 = .ok (.iaload, 1) := by decide +kernel
theorem dX12_lastsOf_13 : decode cX12_lastsOf 13 = .ok (.aload_n 0, 1) := by decide +kernel
theorem dX12_lastsOf_14 : decode cX12_lastsOf 14 = .ok (.iload_n 1, 1) := by decide +kernel
theorem dX12_lastsOf_15 : decode cX12_lastsOf 15 = .ok (.invokevirtual 219, 3) := by decide +kernel
theorem dX12_lastsOf_18 : decode cX12_lastsOf 18 = .ok (.iconst 4, 1) := by decide +kernel
theorem dX12_lastsOf_19 : decode cX12_lastsOf 19 = .ok (.idiv, 1) := by decide +kernel
theorem dX12_lastsOf_20 : decode cX12_lastsOf 20 = .ok (.iadd, 1) := by decide +kernel
theorem dX12_lastsOf_21 : decode cX12_lastsOf 21 = .ok (.i2l, 1) := by decide +kernel
theorem dX12_lastsOf_22 : decode cX12_lastsOf 22 = .ok (.invokevirtual 450, 3) := by decide +kernel
theorem dX12_lastsOf_25 : decode cX12_lastsOf 25 = .ok (.iconst 0, 1) := by decide +kernel
theorem dX12_lastsOf_26 : decode cX12_lastsOf 26 = .ok (.bipush 60, 2) := by decide +kernel
theorem dX12_lastsOf_28 : decode cX12_lastsOf 28 = .ok (.invokestatic 454, 3) := by decide +kernel
theorem dX12_lastsOf_31 : decode cX12_lastsOf 31 = .ok (.ireturn, 1) := by decide +kernel
theorem dX12_losesOf_0 : decode cX12_losesOf 0 = .ok (.aload_n 0, 1) := by decide +kernel
theorem dX12_losesOf_1 : decode cX12_losesOf 1 = .ok (.iconst 2, 1) := by decide +kernel
theorem dX12_losesOf_2 : decode cX12_losesOf 2 = .ok (.iload_n 1, 1) := by decide +kernel
theorem dX12_losesOf_3 : decode cX12_losesOf 3 = .ok (.iconst (-1), 1) := by decide +kernel
theorem dX12_losesOf_4 : decode cX12_losesOf 4 = .ok (.lconst 0, 1) := by decide +kernel
theorem dX12_losesOf_5 : decode cX12_losesOf 5 = .ok (.invokevirtual 450, 3) := by decide +kernel
theorem dX12_losesOf_8 : decode cX12_losesOf 8 = .ok (.iconst 0, 1) := by decide +kernel
theorem dX12_losesOf_9 : decode cX12_losesOf 9 = .ok (.bipush 9, 2) := by decide +kernel
theorem dX12_losesOf_11 : decode cX12_losesOf 11 = .ok (.invokestatic 454, 3) := by decide +kernel
theorem dX12_losesOf_14 : decode cX12_losesOf 14 = .ok (.ireturn, 1) := by decide +kernel
theorem dX12_likesOf_0 : decode cX12_likesOf 0 = .ok (.aload_n 0, 1) := by decide +kernel
theorem dX12_likesOf_1 : decode cX12_likesOf 1 = .ok (.iconst 1, 1) := by decide +kernel
theorem dX12_likesOf_2 : decode cX12_likesOf 2 = .ok (.iload_n 1, 1) := by decide +kernel
theorem dX12_likesOf_3 : decode cX12_likesOf 3 = .ok (.iload_n 2, 1) := by decide +kernel
theorem dX12_likesOf_4 : decode cX12_likesOf 4 = .ok (.aload_n 0, 1) := by decide +kernel
theorem dX12_likesOf_5 : decode cX12_likesOf 5 = .ok (.iload_n 1, 1) := by decide +kernel
theorem dX12_likesOf_6 : decode cX12_likesOf 6 = .ok (.iload_n 2, 1) := by decide +kernel
theorem dX12_likesOf_7 : decode cX12_likesOf 7 = .ok (.invokevirtual 247, 3) := by decide +kernel
theorem dX12_likesOf_10 : decode cX12_likesOf 10 = .ok (.i2l, 1) := by decide +kernel
theorem dX12_likesOf_11 : decode cX12_likesOf 11 = .ok (.invokevirtual 450, 3) := by decide +kernel
theorem dX12_likesOf_14 : decode cX12_likesOf 14 = .ok (.iconst 0, 1) := by decide +kernel
theorem dX12_likesOf_15 : decode cX12_likesOf 15 = .ok (.bipush 99, 2) := by decide +kernel
theorem dX12_likesOf_17 : decode cX12_likesOf 17 = .ok (.invokestatic 454, 3) := by decide +kernel
theorem dX12_likesOf_20 : decode cX12_likesOf 20 = .ok (.ireturn, 1) := by decide +kernel
theorem dX12_isBarred_0 : decode cX12_isBarred 0 = .ok (.aload_n 0, 1) := by decide +kernel
theorem dX12_isBarred_1 : decode cX12_isBarred 1 = .ok (.iconst 3, 1) := by decide +kernel
theorem dX12_isBarred_2 : decode cX12_isBarred 2 = .ok (.iload_n 1, 1) := by decide +kernel
theorem dX12_isBarred_3 : decode cX12_isBarred 3 = .ok (.iload_n 2, 1) := by decide +kernel
theorem dX12_isBarred_4 : decode cX12_isBarred 4 = .ok (.lconst 0, 1) := by decide +kernel
theorem dX12_isBarred_5 : decode cX12_isBarred 5 = .ok (.invokevirtual 450, 3) := by decide +kernel
theorem dX12_isBarred_8 : decode cX12_isBarred 8 = .ok (.lconst 1, 1) := by decide +kernel
theorem dX12_isBarred_9 : decode cX12_isBarred 9 = .ok (.lcmp, 1) := by decide +kernel
theorem dX12_isBarred_10 : decode cX12_isBarred 10 = .ok (.ifCond .ne 7, 3) := by decide +kernel
theorem dX12_isBarred_13 : decode cX12_isBarred 13 = .ok (.iconst 1, 1) := by decide +kernel
theorem dX12_isBarred_14 : decode cX12_isBarred 14 = .ok (.goto 4, 3) := by decide +kernel
theorem dX12_isBarred_17 : decode cX12_isBarred 17 = .ok (.iconst 0, 1) := by decide +kernel
theorem dX12_isBarred_18 : decode cX12_isBarred 18 = .ok (.ireturn, 1) := by decide +kernel
theorem dX12_canPull_0 : decode cX12_canPull 0 = .ok (.aload_n 0, 1) := by decide +kernel
theorem dX12_canPull_1 : decode cX12_canPull 1 = .ok (.getfield 13, 3) := by decide +kernel
theorem dX12_canPull_4 : decode cX12_canPull 4 = .ok (.bipush 8, 2) := by decide +kernel
theorem dX12_canPull_6 : decode cX12_canPull 6 = .ok (.bipush 8, 2) := by decide +kernel
theorem dX12_canPull_8 : decode cX12_canPull 8 = .ok (.iload_n 3, 1) := by decide +kernel
theorem dX12_canPull_9 : decode cX12_canPull 9 = .ok (.imul, 1) := by decide +kernel
theorem dX12_canPull_10 : decode cX12_canPull 10 = .ok (.iadd, 1) := by decide +kernel
theorem dX12_canPull_11 : decode cX12_canPull 11 = .ok (.iload_n 2, 1) := by decide +kernel
theorem dX12_canPull_12 : decode cX12_canPull 12 = .ok (.iadd, 1) := by decide +kernel
theorem dX12_canPull_13 : decode cX12_canPull 13 = .ok (.iaload, 1) := by decide +kernel
theorem dX12_canPull_14 : decode cX12_canPull 14 = .ok (.iload_n 1, 1) := by decide +kernel
theorem dX12_canPull_15 : decode cX12_canPull 15 = .ok (.invokestatic 458, 3) := by decide +kernel
theorem dX12_canPull_18 : decode cX12_canPull 18 = .ok (.ireturn, 1) := by decide +kernel
theorem dX12_pullNow_0 : decode cX12_pullNow 0 = .ok (.iload_n 1, 1) := by decide +kernel
theorem dX12_pullNow_1 : decode cX12_pullNow 1 = .ok (.invokestatic 236, 3) := by decide +kernel
theorem dX12_pullNow_4 : decode cX12_pullNow 4 = .ok (.ifCond .eq 10, 3) := by decide +kernel
theorem dX12_pullNow_7 : decode cX12_pullNow 7 = .ok (.iload_n 2, 1) := by decide +kernel
theorem dX12_pullNow_8 : decode cX12_pullNow 8 = .ok (.invokestatic 228, 3) := by decide +kernel
theorem dX12_pullNow_11 : decode cX12_pullNow 11 = .ok (.ifCond .ne 5, 3) := by decide +kernel
theorem dX12_pullNow_14 : decode cX12_pullNow 14 = .ok (.iconst (-1), 1) := by decide +kernel
theorem dX12_pullNow_15 : decode cX12_pullNow 15 = .ok (.ireturn, 1) := by decide +kernel
theorem dX12_pullNow_16 : decode cX12_pullNow 16 = .ok (.aload_n 0, 1) := by decide +kernel
theorem dX12_pullNow_17 : decode cX12_pullNow 17 = .ok (.iload_n 3, 1) := by decide +kernel
theorem dX12_pullNow_18 : decode cX12_pullNow 18 = .ok (.invokevirtual 213, 3) := by decide +kernel
theorem dX12_pullNow_21 : decode cX12_pullNow 21 = .ok (.ifCond .ne 6, 3) := by decide +kernel
theorem dX12_pullNow_24 : decode cX12_pullNow 24 = .ok (.bipush (-2), 2) := by decide +kernel
theorem dX12_pullNow_26 : decode cX12_pullNow 26 = .ok (.ireturn, 1) := by decide +kernel
theorem dX12_pullNow_27 : decode cX12_pullNow 27 = .ok (.aload_n 0, 1) := by decide +kernel
theorem dX12_pullNow_28 : decode cX12_pullNow 28 = .ok (.iload_n 1, 1) := by decide +kernel
theorem dX12_pullNow_29 : decode cX12_pullNow 29 = .ok (.iload_n 2, 1) := by decide +kernel
theorem dX12_pullNow_30 : decode cX12_pullNow 30 = .ok (.iload_n 3, 1) := by decide +kernel
theorem dX12_pullNow_31 : decode cX12_pullNow 31 = .ok (.invokevirtual 461, 3) := by decide +kernel
theorem dX12_pullNow_34 : decode cX12_pullNow 34 = .ok (.ifCond .ne 6, 3) := by decide +kernel
theorem dX12_pullNow_37 : decode cX12_pullNow 37 = .ok (.bipush (-3), 2) := by decide +kernel
theorem dX12_pullNow_39 : decode cX12_pullNow 39 = .ok (.ireturn, 1) := by decide +kernel
theorem dX12_pullNow_40 : decode cX12_pullNow 40 = .ok (.aload_n 0, 1) := by decide +kernel
theorem dX12_pullNow_41 : decode cX12_pullNow 41 = .ok (.iconst 0, 1) := by decide +kernel
theorem dX12_pullNow_42 : decode cX12_pullNow 42 = .ok (.invokevirtual 465, 3) := by decide +kernel
theorem dX12_pullNow_45 : decode cX12_pullNow 45 = .ok (.aload_n 0, 1) := by decide +kernel
theorem dX12_pullNow_46 : decode cX12_pullNow 46 = .ok (.getfield 13, 3) := by decide +kernel
theorem dX12_pullNow_49 : decode cX12_pullNow 49 = .ok (.bipush 8, 2) := by decide +kernel
theorem dX12_pullNow_51 : decode cX12_pullNow 51 = .ok (.bipush 8, 2) := by decide +kernel
theorem dX12_pullNow_53 : decode cX12_pullNow 53 = .ok (.iload_n 3, 1) := by decide +kernel
theorem dX12_pullNow_54 : decode cX12_pullNow 54 = .ok (.imul, 1) := by decide +kernel
theorem dX12_pullNow_55 : decode cX12_pullNow 55 = .ok (.iadd, 1) := by decide +kernel
theorem dX12_pullNow_56 : decode cX12_pullNow 56 = .ok (.iload_n 2, 1) := by decide +kernel
theorem dX12_pullNow_57 : decode cX12_pullNow 57 = .ok (.iadd, 1) := by decide +kernel
theorem dX12_pullNow_58 : decode cX12_pullNow 58 = .ok (.dup2, 1) := by decide +kernel
theorem dX12_pullNow_59 : decode cX12_pullNow 59 = .ok (.iaload, 1) := by decide +kernel
theorem dX12_pullNow_60 : decode cX12_pullNow 60 = .ok (.iconst 1, 1) := by decide +kernel
theorem dX12_pullNow_61 : decode cX12_pullNow 61 = .ok (.iload_n 1, 1) := by decide +kernel
theorem dX12_pullNow_62 : decode cX12_pullNow 62 = .ok (.ishl, 1) := by decide +kernel
theorem dX12_pullNow_63 : decode cX12_pullNow 63 = .ok (.isub, 1) := by decide +kernel
theorem dX12_pullNow_64 : decode cX12_pullNow 64 = .ok (.iastore, 1) := by decide +kernel
theorem dX12_pullNow_65 : decode cX12_pullNow 65 = .ok (.aload_n 0, 1) := by decide +kernel
theorem dX12_pullNow_66 : decode cX12_pullNow 66 = .ok (.iload_n 3, 1) := by decide +kernel
theorem dX12_pullNow_67 : decode cX12_pullNow 67 = .ok (.invokevirtual 219, 3) := by decide +kernel
theorem dX12_pullNow_70 : decode cX12_pullNow 70 = .ok (.ireturn, 1) := by decide +kernel
theorem dX12_pull_0 : decode cX12_pull 0 = .ok (.aload_n 0, 1) := by decide +kernel
theorem dX12_pull_1 : decode cX12_pull 1 = .ok (.iconst 0, 1) := by decide +kernel
theorem dX12_pull_2 : decode cX12_pull 2 = .ok (.putfield 175, 3) := by decide +kernel
theorem dX12_pull_5 : decode cX12_pull 5 = .ok (.aload_n 0, 1) := by decide +kernel
theorem dX12_pull_6 : decode cX12_pull 6 = .ok (.aload_n 0, 1) := by decide +kernel
theorem dX12_pull_7 : decode cX12_pull 7 = .ok (.iload_n 1, 1) := by decide +kernel
theorem dX12_pull_8 : decode cX12_pull 8 = .ok (.iload_n 2, 1) := by decide +kernel
theorem dX12_pull_9 : decode cX12_pull 9 = .ok (.iload_n 3, 1) := by decide +kernel
theorem dX12_pull_10 : decode cX12_pull 10 = .ok (.invokevirtual 468, 3) := by decide +kernel
theorem dX12_pull_13 : decode cX12_pull 13 = .ok (.invokevirtual 184, 3) := by decide +kernel
theorem dX12_pull_16 : decode cX12_pull 16 = .ok (.ireturn, 1) := by decide +kernel
theorem dX12_snapNow_0 : decode cX12_snapNow 0 = .ok (.iload_n 1, 1) := by decide +kernel
theorem dX12_snapNow_1 : decode cX12_snapNow 1 = .ok (.invokestatic 236, 3) := by decide +kernel
theorem dX12_snapNow_4 : decode cX12_snapNow 4 = .ok (.ifCond .ne 5, 3) := by decide +kernel
theorem dX12_snapNow_7 : decode cX12_snapNow 7 = .ok (.iconst (-1), 1) := by decide +kernel
theorem dX12_snapNow_8 : decode cX12_snapNow 8 = .ok (.ireturn, 1) := by decide +kernel
theorem dX12_snapNow_9 : decode cX12_snapNow 9 = .ok (.aload_n 0, 1) := by decide +kernel
theorem dX12_snapNow_10 : decode cX12_snapNow 10 = .ok (.iload_n 2, 1) := by decide +kernel
theorem dX12_snapNow_11 : decode cX12_snapNow 11 = .ok (.invokevirtual 213, 3) := by decide +kernel
theorem dX12_snapNow_14 : decode cX12_snapNow 14 = .ok (.ifCond .ne 6, 3) := by decide +kernel
theorem dX12_snapNow_17 : decode cX12_snapNow 17 = .ok (.bipush (-2), 2) := by decide +kernel
theorem dX12_snapNow_19 : decode cX12_snapNow 19 = .ok (.ireturn, 1) := by decide +kernel
theorem dX12_snapNow_20 : decode cX12_snapNow 20 = .ok (.aload_n 0, 1) := by decide +kernel
theorem dX12_snapNow_21 : decode cX12_snapNow 21 = .ok (.getfield 13, 3) := by decide +kernel
theorem dX12_snapNow_24 : decode cX12_snapNow 24 = .ok (.bipush 56, 2) := by decide +kernel
theorem dX12_snapNow_26 : decode cX12_snapNow 26 = .ok (.iload_n 2, 1) := by decide +kernel
theorem dX12_snapNow_27 : decode cX12_snapNow 27 = .ok (.iadd, 1) := by decide +kernel
theorem dX12_snapNow_28 : decode cX12_snapNow 28 = .ok (.iaload, 1) := by decide +kernel
theorem dX12_snapNow_29 : decode cX12_snapNow 29 = .ok (.iload_n 1, 1) := by decide +kernel
theorem dX12_snapNow_30 : decode cX12_snapNow 30 = .ok (.invokestatic 458, 3) := by decide +kernel
theorem dX12_snapNow_33 : decode cX12_snapNow 33 = .ok (.ifCond .eq 6, 3) := by decide +kernel
theorem dX12_snapNow_36 : decode cX12_snapNow 36 = .ok (.bipush (-3), 2) := by decide +kernel
theorem dX12_snapNow_38 : decode cX12_snapNow 38 = .ok (.ireturn, 1) := by decide +kernel
theorem dX12_snapNow_39 : decode cX12_snapNow 39 = .ok (.aload_n 0, 1) := by decide +kernel
theorem dX12_snapNow_40 : decode cX12_snapNow 40 = .ok (.iconst 1, 1) := by decide +kernel
theorem dX12_snapNow_41 : decode cX12_snapNow 41 = .ok (.invokevirtual 465, 3) := by decide +kernel
theorem dX12_snapNow_44 : decode cX12_snapNow 44 = .ok (.aload_n 0, 1) := by decide +kernel
theorem dX12_snapNow_45 : decode cX12_snapNow 45 = .ok (.getfield 13, 3) := by decide +kernel
theorem dX12_snapNow_48 : decode cX12_snapNow 48 = .ok (.bipush 56, 2) := by decide +kernel
theorem dX12_snapNow_50 : decode cX12_snapNow 50 = .ok (.iload_n 2, 1) := by decide +kernel
theorem dX12_snapNow_51 : decode cX12_snapNow 51 = .ok (.iadd, 1) := by decide +kernel
theorem dX12_snapNow_52 : decode cX12_snapNow 52 = .ok (.dup2, 1) := by decide +kernel
theorem dX12_snapNow_53 : decode cX12_snapNow 53 = .ok (.iaload, 1) := by decide +kernel
theorem dX12_snapNow_54 : decode cX12_snapNow 54 = .ok (.iconst 1, 1) := by decide +kernel
theorem dX12_snapNow_55 : decode cX12_snapNow 55 = .ok (.iload_n 1, 1) := by decide +kernel
theorem dX12_snapNow_56 : decode cX12_snapNow 56 = .ok (.ishl, 1) := by decide +kernel
theorem dX12_snapNow_57 : decode cX12_snapNow 57 = .ok (.iadd, 1) := by decide +kernel
theorem dX12_snapNow_58 : decode cX12_snapNow 58 = .ok (.iastore, 1) := by decide +kernel
theorem dX12_snapNow_59 : decode cX12_snapNow 59 = .ok (.aload_n 0, 1) := by decide +kernel
theorem dX12_snapNow_60 : decode cX12_snapNow 60 = .ok (.iload_n 2, 1) := by decide +kernel
theorem dX12_snapNow_61 : decode cX12_snapNow 61 = .ok (.invokevirtual 219, 3) := by decide +kernel
theorem dX12_snapNow_64 : decode cX12_snapNow 64 = .ok (.ireturn, 1) := by decide +kernel
theorem dX12_snap_0 : decode cX12_snap 0 = .ok (.aload_n 0, 1) := by decide +kernel
theorem dX12_snap_1 : decode cX12_snap 1 = .ok (.iconst 0, 1) := by decide +kernel
theorem dX12_snap_2 : decode cX12_snap 2 = .ok (.putfield 175, 3) := by decide +kernel
theorem dX12_snap_5 : decode cX12_snap 5 = .ok (.aload_n 0, 1) := by decide +kernel
theorem dX12_snap_6 : decode cX12_snap 6 = .ok (.aload_n 0, 1) := by decide +kernel
theorem dX12_snap_7 : decode cX12_snap 7 = .ok (.iload_n 1, 1) := by decide +kernel
theorem dX12_snap_8 : decode cX12_snap 8 = .ok (.iload_n 2, 1) := by decide +kernel
theorem dX12_snap_9 : decode cX12_snap 9 = .ok (.invokevirtual 472, 3) := by decide +kernel
theorem dX12_snap_12 : decode cX12_snap 12 = .ok (.invokevirtual 184, 3) := by decide +kernel
theorem dX12_snap_15 : decode cX12_snap 15 = .ok (.ireturn, 1) := by decide +kernel
theorem dX12_wedNow_0 : decode cX12_wedNow 0 = .ok (.aload_n 0, 1) := by decide +kernel
theorem dX12_wedNow_1 : decode cX12_wedNow 1 = .ok (.iload_n 1, 1) := by decide +kernel
theorem dX12_wedNow_2 : decode cX12_wedNow 2 = .ok (.invokevirtual 213, 3) := by decide +kernel
theorem dX12_wedNow_5 : decode cX12_wedNow 5 = .ok (.ifCond .eq 11, 3) := by decide +kernel
theorem dX12_wedNow_8 : decode cX12_wedNow 8 = .ok (.aload_n 0, 1) := by decide +kernel
theorem dX12_wedNow_9 : decode cX12_wedNow 9 = .ok (.iload_n 2, 1) := by decide +kernel
theorem dX12_wedNow_10 : decode cX12_wedNow 10 = .ok (.invokevirtual 241, 3) := by decide +kernel
theorem dX12_wedNow_13 : decode cX12_wedNow 13 = .ok (.ifCond .ne 6, 3) := by decide +kernel
theorem dX12_wedNow_16 : decode cX12_wedNow 16 = .ok (.bipush (-2), 2) := by decide +kernel
theorem dX12_wedNow_18 : decode cX12_wedNow 18 = .ok (.ireturn, 1) := by decide +kernel
theorem dX12_wedNow_19 : decode cX12_wedNow 19 = .ok (.aload_n 0, 1) := by decide +kernel
theorem dX12_wedNow_20 : decode cX12_wedNow 20 = .ok (.iload_n 1, 1) := by decide +kernel
theorem dX12_wedNow_21 : decode cX12_wedNow 21 = .ok (.invokevirtual 222, 3) := by decide +kernel
theorem dX12_wedNow_24 : decode cX12_wedNow 24 = .ok (.istore_n 3, 1) := by decide +kernel
theorem dX12_wedNow_25 : decode cX12_wedNow 25 = .ok (.aload_n 0, 1) := by decide +kernel
theorem dX12_wedNow_26 : decode cX12_wedNow 26 = .ok (.getfield 13, 3) := by decide +kernel
theorem dX12_wedNow_29 : decode cX12_wedNow 29 = .ok (.bipush 68, 2) := by decide +kernel
theorem dX12_wedNow_31 : decode cX12_wedNow 31 = .ok (.iload_n 1, 1) := by decide +kernel
theorem dX12_wedNow_32 : decode cX12_wedNow 32 = .ok (.iadd, 1) := by decide +kernel
theorem dX12_wedNow_33 : decode cX12_wedNow 33 = .ok (.iaload, 1) := by decide +kernel
theorem dX12_wedNow_34 : decode cX12_wedNow 34 = .ok (.iconst (-1), 1) := by decide +kernel
theorem dX12_wedNow_35 : decode cX12_wedNow 35 = .ok (.if_icmp .ne 25, 3) := by decide +kernel
theorem dX12_wedNow_38 : decode cX12_wedNow 38 = .ok (.aload_n 0, 1) := by decide +kernel
theorem dX12_wedNow_39 : decode cX12_wedNow 39 = .ok (.iload_n 2, 1) := by decide +kernel
theorem dX12_wedNow_40 : decode cX12_wedNow 40 = .ok (.invokevirtual 244, 3) := by decide +kernel
theorem dX12_wedNow_43 : decode cX12_wedNow 43 = .ok (.iconst (-1), 1) := by decide +kernel
theorem dX12_wedNow_44 : decode cX12_wedNow 44 = .ok (.if_icmp .ne 16, 3) := by decide +kernel
theorem dX12_wedNow_47 : decode cX12_wedNow 47 = .ok (.aload_n 0, 1) := by decide +kernel
theorem dX12_wedNow_48 : decode cX12_wedNow 48 = .ok (.iload_n 1, 1) := by decide +kernel
theorem dX12_wedNow_49 : decode cX12_wedNow 49 = .ok (.iload_n 2, 1) := by decide +kernel
theorem dX12_wedNow_50 : decode cX12_wedNow 50 = .ok (.invokevirtual 253, 3) := by decide +kernel
theorem dX12_wedNow_53 : decode cX12_wedNow 53 = .ok (.ifCond .ne 7, 3) := by decide +kernel
theorem dX12_wedNow_56 : decode cX12_wedNow 56 = .ok (.iload_n 3, 1) := by decide +kernel
theorem dX12_wedNow_57 : decode cX12_wedNow 57 = .ok (.ifCond .ne 6, 3) := by decide +kernel
theorem dX12_wedNow_60 : decode cX12_wedNow 60 = .ok (.bipush (-3), 2) := by decide +kernel
theorem dX12_wedNow_62 : decode cX12_wedNow 62 = .ok (.ireturn, 1) := by decide +kernel
theorem dX12_wedNow_63 : decode cX12_wedNow 63 = .ok (.aload_n 0, 1) := by decide +kernel
theorem dX12_wedNow_64 : decode cX12_wedNow 64 = .ok (.iconst 2, 1) := by decide +kernel
theorem dX12_wedNow_65 : decode cX12_wedNow 65 = .ok (.invokevirtual 465, 3) := by decide +kernel
theorem dX12_wedNow_68 : decode cX12_wedNow 68 = .ok (.aload_n 0, 1) := by decide +kernel
theorem dX12_wedNow_69 : decode cX12_wedNow 69 = .ok (.getfield 13, 3) := by decide +kernel
theorem dX12_wedNow_72 : decode cX12_wedNow 72 = .ok (.bipush 68, 2) := by decide +kernel
theorem dX12_wedNow_74 : decode cX12_wedNow 74 = .ok (.iload_n 1, 1) := by decide +kernel
theorem dX12_wedNow_75 : decode cX12_wedNow 75 = .ok (.iadd, 1) := by decide +kernel
theorem dX12_wedNow_76 : decode cX12_wedNow 76 = .ok (.iload_n 2, 1) := by decide +kernel
theorem dX12_wedNow_77 : decode cX12_wedNow 77 = .ok (.iastore, 1) := by decide +kernel
theorem dX12_wedNow_78 : decode cX12_wedNow 78 = .ok (.aload_n 0, 1) := by decide +kernel
theorem dX12_wedNow_79 : decode cX12_wedNow 79 = .ok (.getfield 13, 3) := by decide +kernel
theorem dX12_wedNow_82 : decode cX12_wedNow 82 = .ok (.bipush 74, 2) := by decide +kernel
theorem dX12_wedNow_84 : decode cX12_wedNow 84 = .ok (.iload_n 1, 1) := by decide +kernel
theorem dX12_wedNow_85 : decode cX12_wedNow 85 = .ok (.iadd, 1) := by decide +kernel
theorem dX12_wedNow_86 : decode cX12_wedNow 86 = .ok (.iload_n 3, 1) := by decide +kernel
theorem dX12_wedNow_87 : decode cX12_wedNow 87 = .ok (.iastore, 1) := by decide +kernel
theorem dX12_wedNow_88 : decode cX12_wedNow 88 = .ok (.iload_n 3, 1) := by decide +kernel
theorem dX12_wedNow_89 : decode cX12_wedNow 89 = .ok (.ireturn, 1) := by decide +kernel
theorem dX12_wed_0 : decode cX12_wed 0 = .ok (.aload_n 0, 1) := by decide +kernel
theorem dX12_wed_1 : decode cX12_wed 1 = .ok (.iconst 0, 1) := by decide +kernel
theorem dX12_wed_2 : decode cX12_wed 2 = .ok (.putfield 175, 3) := by decide +kernel
theorem dX12_wed_5 : decode cX12_wed 5 = .ok (.aload_n 0, 1) := by decide +kernel
theorem dX12_wed_6 : decode cX12_wed 6 = .ok (.aload_n 0, 1) := by decide +kernel
theorem dX12_wed_7 : decode cX12_wed 7 = .ok (.iload_n 1, 1) := by decide +kernel
theorem dX12_wed_8 : decode cX12_wed 8 = .ok (.iload_n 2, 1) := by decide +kernel
theorem dX12_wed_9 : decode cX12_wed 9 = .ok (.invokevirtual 475, 3) := by decide +kernel
theorem dX12_wed_12 : decode cX12_wed 12 = .ok (.invokevirtual 184, 3) := by decide +kernel
theorem dX12_wed_15 : decode cX12_wed 15 = .ok (.ireturn, 1) := by decide +kernel
theorem dX12_passIt_0 : decode cX12_passIt 0 = .ok (.iconst 0, 1) := by decide +kernel
theorem dX12_passIt_1 : decode cX12_passIt 1 = .ok (.istore_n 1, 1) := by decide +kernel
theorem dX12_passIt_2 : decode cX12_passIt 2 = .ok (.iload_n 1, 1) := by decide +kernel
theorem dX12_passIt_3 : decode cX12_passIt 3 = .ok (.aload_n 0, 1) := by decide +kernel
theorem dX12_passIt_4 : decode cX12_passIt 4 = .ok (.getfield 13, 3) := by decide +kernel
theorem dX12_passIt_7 : decode cX12_passIt 7 = .ok (.iconst 0, 1) := by decide +kernel
theorem dX12_passIt_8 : decode cX12_passIt 8 = .ok (.iaload, 1) := by decide +kernel
theorem dX12_passIt_9 : decode cX12_passIt 9 = .ok (.if_icmp .ge 20, 3) := by decide +kernel
theorem dX12_passIt_12 : decode cX12_passIt 12 = .ok (.aload_n 0, 1) := by decide +kernel
theorem dX12_passIt_13 : decode cX12_passIt 13 = .ok (.getfield 110, 3) := by decide +kernel
theorem dX12_passIt_16 : decode cX12_passIt 16 = .ok (.iload_n 1, 1) := by decide +kernel
theorem dX12_passIt_17 : decode cX12_passIt 17 = .ok (.aload_n 0, 1) := by decide +kernel
theorem dX12_passIt_18 : decode cX12_passIt 18 = .ok (.iload_n 1, 1) := by decide +kernel
theorem dX12_passIt_19 : decode cX12_passIt 19 = .ok (.invokevirtual 225, 3) := by decide +kernel
theorem dX12_passIt_22 : decode cX12_passIt 22 = .ok (.iastore, 1) := by decide +kernel
theorem dX12_passIt_23 : decode cX12_passIt 23 = .ok (.iinc 1 1, 3) := by decide +kernel
theorem dX12_passIt_26 : decode cX12_passIt 26 = .ok (.goto (-24), 3) := by decide +kernel
theorem dX12_passIt_29 : decode cX12_passIt 29 = .ok (.iconst 0, 1) := by decide +kernel
theorem dX12_passIt_30 : decode cX12_passIt 30 = .ok (.istore_n 1, 1) := by decide +kernel
theorem dX12_passIt_31 : decode cX12_passIt 31 = .ok (.iconst 0, 1) := by decide +kernel
theorem dX12_passIt_32 : decode cX12_passIt 32 = .ok (.istore_n 2, 1) := by decide +kernel
theorem dX12_passIt_33 : decode cX12_passIt 33 = .ok (.iload_n 2, 1) := by decide +kernel
theorem dX12_passIt_34 : decode cX12_passIt 34 = .ok (.aload_n 0, 1) := by decide +kernel
theorem dX12_passIt_35 : decode cX12_passIt 35 = .ok (.getfield 13, 3) := by decide +kernel
theorem dX12_passIt_38 : decode cX12_passIt 38 = .ok (.iconst 0, 1) := by decide +kernel
theorem dX12_passIt_39 : decode cX12_passIt 39 = .ok (.iaload, 1) := by decide +kernel
theorem dX12_passIt_40 : decode cX12_passIt 40 = .ok (.if_icmp .ge 121, 3) := by decide +kernel
theorem dX12_passIt_43 : decode cX12_passIt 43 = .ok (.aload_n 0, 1) := by decide +kernel
theorem dX12_passIt_44 : decode cX12_passIt 44 = .ok (.getfield 13, 3) := by decide +kernel
theorem dX12_passIt_47 : decode cX12_passIt 47 = .ok (.bipush 62, 2) := by decide +kernel
theorem dX12_passIt_49 : decode cX12_passIt 49 = .ok (.iload_n 2, 1) := by decide +kernel
theorem dX12_passIt_50 : decode cX12_passIt 50 = .ok (.iadd, 1) := by decide +kernel
theorem dX12_passIt_51 : decode cX12_passIt 51 = .ok (.aload_n 0, 1) := by decide +kernel
theorem dX12_passIt_52 : decode cX12_passIt 52 = .ok (.getfield 13, 3) := by decide +kernel
theorem dX12_passIt_55 : decode cX12_passIt 55 = .ok (.bipush 62, 2) := by decide +kernel
theorem dX12_passIt_57 : decode cX12_passIt 57 = .ok (.iload_n 2, 1) := by decide +kernel
theorem dX12_passIt_58 : decode cX12_passIt 58 = .ok (.iadd, 1) := by decide +kernel
theorem dX12_passIt_59 : decode cX12_passIt 59 = .ok (.iaload, 1) := by decide +kernel
theorem dX12_passIt_60 : decode cX12_passIt 60 = .ok (.aload_n 0, 1) := by decide +kernel
theorem dX12_passIt_61 : decode cX12_passIt 61 = .ok (.getfield 110, 3) := by decide +kernel
theorem dX12_passIt_64 : decode cX12_passIt 64 = .ok (.iload_n 2, 1) := by decide +kernel
theorem dX12_passIt_65 : decode cX12_passIt 65 = .ok (.iaload, 1) := by decide +kernel
theorem dX12_passIt_66 : decode cX12_passIt 66 = .ok (.isub, 1) := by decide +kernel
theorem dX12_passIt_67 : decode cX12_passIt 67 = .ok (.i2l, 1) := by decide +kernel
theorem dX12_passIt_68 : decode cX12_passIt 68 = .ok (.iconst 0, 1) := by decide +kernel
theorem dX12_passIt_69 : decode cX12_passIt 69 = .ok (.bipush 20, 2) := by decide +kernel
theorem dX12_passIt_71 : decode cX12_passIt 71 = .ok (.invokestatic 454, 3) := by decide +kernel
theorem dX12_passIt_74 : decode cX12_passIt 74 = .ok (.iastore, 1) := by decide +kernel
theorem dX12_passIt_75 : decode cX12_passIt 75 = .ok (.aload_n 0, 1) := by decide +kernel
theorem dX12_passIt_76 : decode cX12_passIt 76 = .ok (.getfield 13, 3) := by decide +kernel
theorem dX12_passIt_79 : decode cX12_passIt 79 = .ok (.bipush 68, 2) := by decide +kernel
theorem dX12_passIt_81 : decode cX12_passIt 81 = .ok (.iload_n 2, 1) := by decide +kernel
theorem dX12_passIt_82 : decode cX12_passIt 82 = .ok (.iadd, 1) := by decide +kernel
theorem dX12_passIt_83 : decode cX12_passIt 83 = .ok (.iaload, 1) := by decide +kernel
theorem dX12_passIt_84 : decode cX12_passIt 84 = .ok (.iconst (-1), 1) := by decide +kernel
theorem dX12_passIt_85 : decode cX12_passIt 85 = .ok (.if_icmp .eq 70, 3) := by decide +kernel
theorem dX12_passIt_88 : decode cX12_passIt 88 = .ok (.aload_n 0, 1) := by decide +kernel
theorem dX12_passIt_89 : decode cX12_passIt 89 = .ok (.getfield 13, 3) := by decide +kernel
theorem dX12_passIt_92 : decode cX12_passIt 92 = .ok (.bipush 74, 2) := by decide +kernel
theorem dX12_passIt_94 : decode cX12_passIt 94 = .ok (.iload_n 2, 1) := by decide +kernel
theorem dX12_passIt_95 : decode cX12_passIt 95 = .ok (.iadd, 1) := by decide +kernel
theorem dX12_passIt_96 : decode cX12_passIt 96 = .ok (.dup2, 1) := by decide +kernel
theorem dX12_passIt_97 : decode cX12_passIt 97 = .ok (.iaload, 1) := by decide +kernel
theorem dX12_passIt_98 : decode cX12_passIt 98 = .ok (.iconst 1, 1) := by decide +kernel
theorem dX12_passIt_99 : decode cX12_passIt 99 = .ok (.isub, 1) := by decide +kernel
theorem dX12_passIt_100 : decode cX12_passIt 100 = .ok (.iastore, 1) := by decide +kernel
theorem dX12_passIt_101 : decode cX12_passIt 101 = .ok (.iload_n 1, 1) := by decide +kernel
theorem dX12_passIt_102 : decode cX12_passIt 102 = .ok (.aload_n 0, 1) := by decide +kernel
theorem dX12_passIt_103 : decode cX12_passIt 103 = .ok (.getfield 13, 3) := by decide +kernel
theorem dX12_passIt_106 : decode cX12_passIt 106 = .ok (.bipush 74, 2) := by decide +kernel
theorem dX12_passIt_108 : decode cX12_passIt 108 = .ok (.iload_n 2, 1) := by decide +kernel
theorem dX12_passIt_109 : decode cX12_passIt 109 = .ok (.iadd, 1) := by decide +kernel
theorem dX12_passIt_110 : decode cX12_passIt 110 = .ok (.iaload, 1) := by decide +kernel
theorem dX12_passIt_111 : decode cX12_passIt 111 = .ok (.ifCond .ne 7, 3) := by decide +kernel
theorem dX12_passIt_114 : decode cX12_passIt 114 = .ok (.iconst 1, 1) := by decide +kernel
theorem dX12_passIt_115 : decode cX12_passIt 115 = .ok (.goto 4, 3) := by decide +kernel
theorem dX12_passIt_118 : decode cX12_passIt 118 = .ok (.iconst 0, 1) := by decide +kernel
theorem dX12_passIt_119 : decode cX12_passIt 119 = .ok (.iadd, 1) := by decide +kernel
theorem dX12_passIt_120 : decode cX12_passIt 120 = .ok (.istore_n 1, 1) := by decide +kernel
theorem dX12_passIt_121 : decode cX12_passIt 121 = .ok (.aload_n 0, 1) := by decide +kernel
theorem dX12_passIt_122 : decode cX12_passIt 122 = .ok (.getfield 13, 3) := by decide +kernel
theorem dX12_passIt_125 : decode cX12_passIt 125 = .ok (.bipush 68, 2) := by decide +kernel
theorem dX12_passIt_127 : decode cX12_passIt 127 = .ok (.iload_n 2, 1) := by decide +kernel
theorem dX12_passIt_128 : decode cX12_passIt 128 = .ok (.iadd, 1) := by decide +kernel
theorem dX12_passIt_129 : decode cX12_passIt 129 = .ok (.aload_n 0, 1) := by decide +kernel
theorem dX12_passIt_130 : decode cX12_passIt 130 = .ok (.getfield 13, 3) := by decide +kernel
theorem dX12_passIt_133 : decode cX12_passIt 133 = .ok (.bipush 74, 2) := by decide +kernel
theorem dX12_passIt_135 : decode cX12_passIt 135 = .ok (.iload_n 2, 1) := by decide +kernel
theorem dX12_passIt_136 : decode cX12_passIt 136 = .ok (.iadd, 1) := by decide +kernel
theorem dX12_passIt_137 : decode cX12_passIt 137 = .ok (.iaload, 1) := by decide +kernel
theorem dX12_passIt_138 : decode cX12_passIt 138 = .ok (.ifCond .ne 7, 3) := by decide +kernel
theorem dX12_passIt_141 : decode cX12_passIt 141 = .ok (.iconst (-1), 1) := by decide +kernel
theorem dX12_passIt_142 : decode cX12_passIt 142 = .ok (.goto 12, 3) := by decide +kernel
theorem dX12_passIt_145 : decode cX12_passIt 145 = .ok (.aload_n 0, 1) := by decide +kernel
theorem dX12_passIt_146 : decode cX12_passIt 146 = .ok (.getfield 13, 3) := by decide +kernel
theorem dX12_passIt_149 : decode cX12_passIt 149 = .ok (.bipush 68, 2) := by decide +kernel
theorem dX12_passIt_151 : decode cX12_passIt 151 = .ok (.iload_n 2, 1) := by decide +kernel
theorem dX12_passIt_152 : decode cX12_passIt 152 = .ok (.iadd, 1) := by decide +kernel
theorem dX12_passIt_153 : decode cX12_passIt 153 = .ok (.iaload, 1) := by decide +kernel
theorem dX12_passIt_154 : decode cX12_passIt 154 = .ok (.iastore, 1) := by decide +kernel
theorem dX12_passIt_155 : decode cX12_passIt 155 = .ok (.iinc 2 1, 3) := by decide +kernel
theorem dX12_passIt_158 : decode cX12_passIt 158 = .ok (.goto (-125), 3) := by decide +kernel
theorem dX12_passIt_161 : decode cX12_passIt 161 = .ok (.aload_n 0, 1) := by decide +kernel
theorem dX12_passIt_162 : decode cX12_passIt 162 = .ok (.getfield 13, 3) := by decide +kernel
theorem dX12_passIt_165 : decode cX12_passIt 165 = .ok (.iconst 5, 1) := by decide +kernel
theorem dX12_passIt_166 : decode cX12_passIt 166 = .ok (.dup2, 1) := by decide +kernel
theorem dX12_passIt_167 : decode cX12_passIt 167 = .ok (.iaload, 1) := by decide +kernel
theorem dX12_passIt_168 : decode cX12_passIt 168 = .ok (.iconst 1, 1) := by decide +kernel
theorem dX12_passIt_169 : decode cX12_passIt 169 = .ok (.iadd, 1) := by decide +kernel
theorem dX12_passIt_170 : decode cX12_passIt 170 = .ok (.iastore, 1) := by decide +kernel
theorem dX12_passIt_171 : decode cX12_passIt 171 = .ok (.iload_n 1, 1) := by decide +kernel
theorem dX12_passIt_172 : decode cX12_passIt 172 = .ok (.ireturn, 1) := by decide +kernel
theorem dX12_passNow_0 : decode cX12_passNow 0 = .ok (.aload_n 0, 1) := by decide +kernel
theorem dX12_passNow_1 : decode cX12_passNow 1 = .ok (.getfield 13, 3) := by decide +kernel
theorem dX12_passNow_4 : decode cX12_passNow 4 = .ok (.iconst 5, 1) := by decide +kernel
theorem dX12_passNow_5 : decode cX12_passNow 5 = .ok (.iaload, 1) := by decide +kernel
theorem dX12_passNow_6 : decode cX12_passNow 6 = .ok (.sipush 999, 3) := by decide +kernel
theorem dX12_passNow_9 : decode cX12_passNow 9 = .ok (.if_icmp .ne 6, 3) := by decide +kernel
theorem dX12_passNow_12 : decode cX12_passNow 12 = .ok (.bipush (-3), 2) := by decide +kernel
theorem dX12_passNow_14 : decode cX12_passNow 14 = .ok (.ireturn, 1) := by decide +kernel
theorem dX12_passNow_15 : decode cX12_passNow 15 = .ok (.aload_n 0, 1) := by decide +kernel
theorem dX12_passNow_16 : decode cX12_passNow 16 = .ok (.iconst 3, 1) := by decide +kernel
theorem dX12_passNow_17 : decode cX12_passNow 17 = .ok (.invokevirtual 465, 3) := by decide +kernel
theorem dX12_passNow_20 : decode cX12_passNow 20 = .ok (.aload_n 0, 1) := by decide +kernel
theorem dX12_passNow_21 : decode cX12_passNow 21 = .ok (.invokevirtual 478, 3) := by decide +kernel
theorem dX12_passNow_24 : decode cX12_passNow 24 = .ok (.pop, 1) := by decide +kernel
theorem dX12_passNow_25 : decode cX12_passNow 25 = .ok (.aload_n 0, 1) := by decide +kernel
theorem dX12_passNow_26 : decode cX12_passNow 26 = .ok (.getfield 13, 3) := by decide +kernel
theorem dX12_passNow_29 : decode cX12_passNow 29 = .ok (.iconst 5, 1) := by decide +kernel
theorem dX12_passNow_30 : decode cX12_passNow 30 = .ok (.iaload, 1) := by decide +kernel
theorem dX12_passNow_31 : decode cX12_passNow 31 = .ok (.ireturn, 1) := by decide +kernel
theorem dX12_pass_0 : decode cX12_pass 0 = .ok (.aload_n 0, 1) := by decide +kernel
theorem dX12_pass_1 : decode cX12_pass 1 = .ok (.iconst 0, 1) := by decide +kernel
theorem dX12_pass_2 : decode cX12_pass 2 = .ok (.putfield 175, 3) := by decide +kernel
theorem dX12_pass_5 : decode cX12_pass 5 = .ok (.aload_n 0, 1) := by decide +kernel
theorem dX12_pass_6 : decode cX12_pass 6 = .ok (.aload_n 0, 1) := by decide +kernel
theorem dX12_pass_7 : decode cX12_pass 7 = .ok (.invokevirtual 481, 3) := by decide +kernel
theorem dX12_pass_10 : decode cX12_pass 10 = .ok (.invokevirtual 184, 3) := by decide +kernel
theorem dX12_pass_13 : decode cX12_pass 13 = .ok (.ireturn, 1) := by decide +kernel
theorem dX12_hear_0 : decode cX12_hear 0 = .ok (.aload_n 0, 1) := by decide +kernel
theorem dX12_hear_1 : decode cX12_hear 1 = .ok (.iconst 0, 1) := by decide +kernel
theorem dX12_hear_2 : decode cX12_hear 2 = .ok (.putfield 175, 3) := by decide +kernel
theorem dX12_hear_5 : decode cX12_hear 5 = .ok (.iload_n 1, 1) := by decide +kernel
theorem dX12_hear_6 : decode cX12_hear 6 = .ok (.invokestatic 228, 3) := by decide +kernel
theorem dX12_hear_9 : decode cX12_hear 9 = .ok (.ifCond .eq 20, 3) := by decide +kernel
theorem dX12_hear_12 : decode cX12_hear 12 = .ok (.iload_n 2, 1) := by decide +kernel
theorem dX12_hear_13 : decode cX12_hear 13 = .ok (.invokestatic 236, 3) := by decide +kernel
theorem dX12_hear_16 : decode cX12_hear 16 = .ok (.ifCond .eq 13, 3) := by decide +kernel
theorem dX12_hear_19 : decode cX12_hear 19 = .ok (.iload_n 3, 1) := by decide +kernel
theorem dX12_hear_20 : decode cX12_hear 20 = .ok (.i2l, 1) := by decide +kernel
theorem dX12_hear_21 : decode cX12_hear 21 = .ok (.lconst 0, 1) := by decide +kernel
theorem dX12_hear_22 : decode cX12_hear 22 = .ok (.lconst 1, 1) := by decide +kernel
theorem dX12_hear_23 : decode cX12_hear 23 = .ok (.invokestatic 195, 3) := by decide +kernel
theorem dX12_hear_26 : decode cX12_hear 26 = .ok (.ifCond .ne 9, 3) := by decide +kernel
theorem dX12_hear_29 : decode cX12_hear 29 = .ok (.aload_n 0, 1) := by decide +kernel
theorem dX12_hear_30 : decode cX12_hear 30 = .ok (.iconst (-1), 1) := by decide +kernel
theorem dX12_hear_31 : decode cX12_hear 31 = .ok (.invokevirtual 184, 3) := by decide +kernel
theorem dX12_hear_34 : decode cX12_hear 34 = .ok (.ireturn, 1) := by decide +kernel
theorem dX12_hear_35 : decode cX12_hear 35 = .ok (.aload_n 0, 1) := by decide +kernel
theorem dX12_hear_36 : decode cX12_hear 36 = .ok (.getfield 13, 3) := by decide +kernel
theorem dX12_hear_39 : decode cX12_hear 39 = .ok (.iconst 2, 1) := by decide +kernel
theorem dX12_hear_40 : decode cX12_hear 40 = .ok (.iaload, 1) := by decide +kernel
theorem dX12_hear_41 : decode cX12_hear 41 = .ok (.istore 4, 2) := by decide +kernel
theorem dX12_hear_43 : decode cX12_hear 43 = .ok (.iload 4, 2) := by decide +kernel
theorem dX12_hear_45 : decode cX12_hear 45 = .ok (.bipush 8, 2) := by decide +kernel
theorem dX12_hear_47 : decode cX12_hear 47 = .ok (.if_icmp .ne 10, 3) := by decide +kernel
theorem dX12_hear_50 : decode cX12_hear 50 = .ok (.aload_n 0, 1) := by decide +kernel
theorem dX12_hear_51 : decode cX12_hear 51 = .ok (.bipush (-5), 2) := by decide +kernel
theorem dX12_hear_53 : decode cX12_hear 53 = .ok (.invokevirtual 184, 3) := by decide +kernel
theorem dX12_hear_56 : decode cX12_hear 56 = .ok (.ireturn, 1) := by decide +kernel
theorem dX12_hear_57 : decode cX12_hear 57 = .ok (.aload_n 0, 1) := by decide +kernel
theorem dX12_hear_58 : decode cX12_hear 58 = .ok (.getfield 13, 3) := by decide +kernel
theorem dX12_hear_61 : decode cX12_hear 61 = .ok (.bipush 92, 2) := by decide +kernel
theorem dX12_hear_63 : decode cX12_hear 63 = .ok (.iconst 3, 1) := by decide +kernel
theorem dX12_hear_64 : decode cX12_hear 64 = .ok (.iload 4, 2) := by decide +kernel
theorem dX12_hear_66 : decode cX12_hear 66 = .ok (.imul, 1) := by decide +kernel
theorem dX12_hear_67 : decode cX12_hear 67 = .ok (.iadd, 1) := by decide +kernel
theorem dX12_hear_68 : decode cX12_hear 68 = .ok (.iload_n 1, 1) := by decide +kernel
theorem dX12_hear_69 : decode cX12_hear 69 = .ok (.iastore, 1) := by decide +kernel
theorem dX12_hear_70 : decode cX12_hear 70 = .ok (.aload_n 0, 1) := by decide +kernel
theorem dX12_hear_71 : decode cX12_hear 71 = .ok (.getfield 13, 3) := by decide +kernel
theorem dX12_hear_74 : decode cX12_hear 74 = .ok (.bipush 92, 2) := by decide +kernel
theorem dX12_hear_76 : decode cX12_hear 76 = .ok (.iconst 3, 1) := by decide +kernel
theorem dX12_hear_77 : decode cX12_hear 77 = .ok (.iload 4, 2) := by decide +kernel
theorem dX12_hear_79 : decode cX12_hear 79 = .ok (.imul, 1) := by decide +kernel
theorem dX12_hear_80 : decode cX12_hear 80 = .ok (.iadd, 1) := by decide +kernel
theorem dX12_hear_81 : decode cX12_hear 81 = .ok (.iconst 1, 1) := by decide +kernel
theorem dX12_hear_82 : decode cX12_hear 82 = .ok (.iadd, 1) := by decide +kernel
theorem dX12_hear_83 : decode cX12_hear 83 = .ok (.iload_n 2, 1) := by decide +kernel
theorem dX12_hear_84 : decode cX12_hear 84 = .ok (.iastore, 1) := by decide +kernel
theorem dX12_hear_85 : decode cX12_hear 85 = .ok (.aload_n 0, 1) := by decide +kernel
theorem dX12_hear_86 : decode cX12_hear 86 = .ok (.getfield 13, 3) := by decide +kernel
theorem dX12_hear_89 : decode cX12_hear 89 = .ok (.bipush 92, 2) := by decide +kernel
theorem dX12_hear_91 : decode cX12_hear 91 = .ok (.iconst 3, 1) := by decide +kernel
theorem dX12_hear_92 : decode cX12_hear 92 = .ok (.iload 4, 2) := by decide +kernel
theorem dX12_hear_94 : decode cX12_hear 94 = .ok (.imul, 1) := by decide +kernel
theorem dX12_hear_95 : decode cX12_hear 95 = .ok (.iadd, 1) := by decide +kernel
theorem dX12_hear_96 : decode cX12_hear 96 = .ok (.iconst 2, 1) := by decide +kernel
theorem dX12_hear_97 : decode cX12_hear 97 = .ok (.iadd, 1) := by decide +kernel
theorem dX12_hear_98 : decode cX12_hear 98 = .ok (.iload_n 3, 1) := by decide +kernel
theorem dX12_hear_99 : decode cX12_hear 99 = .ok (.iastore, 1) := by decide +kernel
theorem dX12_hear_100 : decode cX12_hear 100 = .ok (.aload_n 0, 1) := by decide +kernel
theorem dX12_hear_101 : decode cX12_hear 101 = .ok (.getfield 13, 3) := by decide +kernel
theorem dX12_hear_104 : decode cX12_hear 104 = .ok (.iconst 2, 1) := by decide +kernel
theorem dX12_hear_105 : decode cX12_hear 105 = .ok (.dup2, 1) := by decide +kernel
theorem dX12_hear_106 : decode cX12_hear 106 = .ok (.iaload, 1) := by decide +kernel
theorem dX12_hear_107 : decode cX12_hear 107 = .ok (.iconst 1, 1) := by decide +kernel
theorem dX12_hear_108 : decode cX12_hear 108 = .ok (.iadd, 1) := by decide +kernel
theorem dX12_hear_109 : decode cX12_hear 109 = .ok (.iastore, 1) := by decide +kernel
theorem dX12_hear_110 : decode cX12_hear 110 = .ok (.aload_n 0, 1) := by decide +kernel
theorem dX12_hear_111 : decode cX12_hear 111 = .ok (.iload 4, 2) := by decide +kernel
theorem dX12_hear_113 : decode cX12_hear 113 = .ok (.iconst 1, 1) := by decide +kernel
theorem dX12_hear_114 : decode cX12_hear 114 = .ok (.iadd, 1) := by decide +kernel
theorem dX12_hear_115 : decode cX12_hear 115 = .ok (.invokevirtual 184, 3) := by decide +kernel
theorem dX12_hear_118 : decode cX12_hear 118 = .ok (.ireturn, 1) := by decide +kernel
theorem dX12_forget_0 : decode cX12_forget 0 = .ok (.aload_n 0, 1) := by decide +kernel
theorem dX12_forget_1 : decode cX12_forget 1 = .ok (.iconst 0, 1) := by decide +kernel
theorem dX12_forget_2 : decode cX12_forget 2 = .ok (.putfield 175, 3) := by decide +kernel
theorem dX12_forget_5 : decode cX12_forget 5 = .ok (.aload_n 0, 1) := by decide +kernel
theorem dX12_forget_6 : decode cX12_forget 6 = .ok (.getfield 13, 3) := by decide +kernel
theorem dX12_forget_9 : decode cX12_forget 9 = .ok (.iconst 2, 1) := by decide +kernel
theorem dX12_forget_10 : decode cX12_forget 10 = .ok (.iaload, 1) := by decide +kernel
theorem dX12_forget_11 : decode cX12_forget 11 = .ok (.istore_n 1, 1) := by decide +kernel
theorem dX12_forget_12 : decode cX12_forget 12 = .ok (.aload_n 0, 1) := by decide +kernel
theorem dX12_forget_13 : decode cX12_forget 13 = .ok (.getfield 13, 3) := by decide +kernel
theorem dX12_forget_16 : decode cX12_forget 16 = .ok (.iconst 2, 1) := by decide +kernel
theorem dX12_forget_17 : decode cX12_forget 17 = .ok (.iconst 0, 1) := by decide +kernel
theorem dX12_forget_18 : decode cX12_forget 18 = .ok (.iastore, 1) := by decide +kernel
theorem dX12_forget_19 : decode cX12_forget 19 = .ok (.iload_n 1, 1) := by decide +kernel
theorem dX12_forget_20 : decode cX12_forget 20 = .ok (.ireturn, 1) := by decide +kernel
theorem dX12_whichAre_0 : decode cX12_whichAre 0 = .ok (.iconst 0, 1) := by decide +kernel
theorem dX12_whichAre_1 : decode cX12_whichAre 1 = .ok (.istore_n 1, 1) := by decide +kernel
theorem dX12_whichAre_2 : decode cX12_whichAre 2 = .ok (.iconst 0, 1) := by decide +kernel
theorem dX12_whichAre_3 : decode cX12_whichAre 3 = .ok (.istore_n 2, 1) := by decide +kernel
theorem dX12_whichAre_4 : decode cX12_whichAre 4 = .ok (.iload_n 2, 1) := by decide +kernel
theorem dX12_whichAre_5 : decode cX12_whichAre 5 = .ok (.aload_n 0, 1) := by decide +kernel
theorem dX12_whichAre_6 : decode cX12_whichAre 6 = .ok (.getfield 13, 3) := by decide +kernel
theorem dX12_whichAre_9 : decode cX12_whichAre 9 = .ok (.iconst 0, 1) := by decide +kernel
theorem dX12_whichAre_10 : decode cX12_whichAre 10 = .ok (.iaload, 1) := by decide +kernel
theorem dX12_whichAre_11 : decode cX12_whichAre 11 = .ok (.if_icmp .ge 106, 3) := by decide +kernel
theorem dX12_whichAre_14 : decode cX12_whichAre 14 = .ok (.iconst 1, 1) := by decide +kernel
theorem dX12_whichAre_15 : decode cX12_whichAre 15 = .ok (.istore_n 3, 1) := by decide +kernel
theorem dX12_whichAre_16 : decode cX12_whichAre 16 = .ok (.iconst 0, 1) := by decide +kernel
theorem dX12_whichAre_17 : decode cX12_whichAre 17 = .ok (.istore 4, 2) := by decide +kernel
theorem dX12_whichAre_19 : decode cX12_whichAre 19 = .ok (.iload 4, 2) := by decide +kernel
theorem dX12_whichAre_21 : decode cX12_whichAre 21 = .ok (.aload_n 0, 1) := by decide +kernel
theorem dX12_whichAre_22 : decode cX12_whichAre 22 = .ok (.getfield 13, 3) := by decide +kernel
theorem dX12_whichAre_25 : decode cX12_whichAre 25 = .ok (.iconst 2, 1) := by decide +kernel
theorem dX12_whichAre_26 : decode cX12_whichAre 26 = .ok (.iaload, 1) := by decide +kernel
theorem dX12_whichAre_27 : decode cX12_whichAre 27 = .ok (.if_icmp .ge 70, 3) := by decide +kernel
theorem dX12_whichAre_30 : decode cX12_whichAre 30 = .ok (.iload_n 3, 1) := by decide +kernel
theorem dX12_whichAre_31 : decode cX12_whichAre 31 = .ok (.ifCond .eq 58, 3) := by decide +kernel
theorem dX12_whichAre_34 : decode cX12_whichAre 34 = .ok (.aload_n 0, 1) := by decide +kernel
theorem dX12_whichAre_35 : decode cX12_whichAre 35 = .ok (.iload_n 2, 1) := by decide +kernel
theorem dX12_whichAre_36 : decode cX12_whichAre 36 = .ok (.aload_n 0, 1) := by decide +kernel
theorem dX12_whichAre_37 : decode cX12_whichAre 37 = .ok (.getfield 13, 3) := by decide +kernel
theorem dX12_whichAre_40 : decode cX12_whichAre 40 = .ok (.bipush 92, 2) := by decide +kernel
theorem dX12_whichAre_42 : decode cX12_whichAre 42 = .ok (.iconst 3, 1) := by decide +kernel
theorem dX12_whichAre_43 : decode cX12_whichAre 43 = .ok (.iload 4, 2) := by decide +kernel
theorem dX12_whichAre_45 : decode cX12_whichAre 45 = .ok (.imul, 1) := by decide +kernel
theorem dX12_whichAre_46 : decode cX12_whichAre 46 = .ok (.iadd, 1) := by decide +kernel
theorem dX12_whichAre_47 : decode cX12_whichAre 47 = .ok (.iaload, 1) := by decide +kernel
theorem dX12_whichAre_48 : decode cX12_whichAre 48 = .ok (.invokevirtual 204, 3) := by decide +kernel
theorem dX12_whichAre_51 : decode cX12_whichAre 51 = .ok (.aload_n 0, 1) := by decide +kernel
theorem dX12_whichAre_52 : decode cX12_whichAre 52 = .ok (.getfield 13, 3) := by decide +kernel
theorem dX12_whichAre_55 : decode cX12_whichAre 55 = .ok (.bipush 92, 2) := by decide +kernel
theorem dX12_whichAre_57 : decode cX12_whichAre 57 = .ok (.iconst 3, 1) := by decide +kernel
theorem dX12_whichAre_58 : decode cX12_whichAre 58 = .ok (.iload 4, 2) := by decide +kernel
theorem dX12_whichAre_60 : decode cX12_whichAre 60 = .ok (.imul, 1) := by decide +kernel
theorem dX12_whichAre_61 : decode cX12_whichAre 61 = .ok (.iadd, 1) := by decide +kernel
theorem dX12_whichAre_62 : decode cX12_whichAre 62 = .ok (.iconst 1, 1) := by decide +kernel
theorem dX12_whichAre_63 : decode cX12_whichAre 63 = .ok (.iadd, 1) := by decide +kernel
theorem dX12_whichAre_64 : decode cX12_whichAre 64 = .ok (.iaload, 1) := by decide +kernel
theorem dX12_whichAre_65 : decode cX12_whichAre 65 = .ok (.ishr, 1) := by decide +kernel
theorem dX12_whichAre_66 : decode cX12_whichAre 66 = .ok (.iconst 1, 1) := by decide +kernel
theorem dX12_whichAre_67 : decode cX12_whichAre 67 = .ok (.iand, 1) := by decide +kernel
theorem dX12_whichAre_68 : decode cX12_whichAre 68 = .ok (.aload_n 0, 1) := by decide +kernel
theorem dX12_whichAre_69 : decode cX12_whichAre 69 = .ok (.getfield 13, 3) := by decide +kernel
theorem dX12_whichAre_72 : decode cX12_whichAre 72 = .ok (.bipush 92, 2) := by decide +kernel
theorem dX12_whichAre_74 : decode cX12_whichAre 74 = .ok (.iconst 3, 1) := by decide +kernel
theorem dX12_whichAre_75 : decode cX12_whichAre 75 = .ok (.iload 4, 2) := by decide +kernel
theorem dX12_whichAre_77 : decode cX12_whichAre 77 = .ok (.imul, 1) := by decide +kernel
theorem dX12_whichAre_78 : decode cX12_whichAre 78 = .ok (.iadd, 1) := by decide +kernel
theorem dX12_whichAre_79 : decode cX12_whichAre 79 = .ok (.iconst 2, 1) := by decide +kernel
theorem dX12_whichAre_80 : decode cX12_whichAre 80 = .ok (.iadd, 1) := by decide +kernel
theorem dX12_whichAre_81 : decode cX12_whichAre 81 = .ok (.iaload, 1) := by decide +kernel
theorem dX12_whichAre_82 : decode cX12_whichAre 82 = .ok (.if_icmp .ne 7, 3) := by decide +kernel
theorem dX12_whichAre_85 : decode cX12_whichAre 85 = .ok (.iconst 1, 1) := by decide +kernel
theorem dX12_whichAre_86 : decode cX12_whichAre 86 = .ok (.goto 4, 3) := by decide +kernel
theorem dX12_whichAre_89 : decode cX12_whichAre 89 = .ok (.iconst 0, 1) := by decide +kernel
theorem dX12_whichAre_90 : decode cX12_whichAre 90 = .ok (.istore_n 3, 1) := by decide +kernel
theorem dX12_whichAre_91 : decode cX12_whichAre 91 = .ok (.iinc 4 1, 3) := by decide +kernel
theorem dX12_whichAre_94 : decode cX12_whichAre 94 = .ok (.goto (-75), 3) := by decide +kernel
theorem dX12_whichAre_97 : decode cX12_whichAre 97 = .ok (.iload_n 1, 1) := by decide +kernel
theorem dX12_whichAre_98 : decode cX12_whichAre 98 = .ok (.iload_n 3, 1) := by decide +kernel
theorem dX12_whichAre_99 : decode cX12_whichAre 99 = .ok (.ifCond .eq 9, 3) := by decide +kernel
theorem dX12_whichAre_102 : decode cX12_whichAre 102 = .ok (.iconst 1, 1) := by decide +kernel
theorem dX12_whichAre_103 : decode cX12_whichAre 103 = .ok (.iload_n 2, 1) := by decide +kernel
theorem dX12_whichAre_104 : decode cX12_whichAre 104 = .ok (.ishl, 1) := by decide +kernel
theorem dX12_whichAre_105 : decode cX12_whichAre 105 = .ok (.goto 4, 3) := by decide +kernel
theorem dX12_whichAre_108 : decode cX12_whichAre 108 = .ok (.iconst 0, 1) := by decide +kernel
theorem dX12_whichAre_109 : decode cX12_whichAre 109 = .ok (.ior, 1) := by decide +kernel
theorem dX12_whichAre_110 : decode cX12_whichAre 110 = .ok (.istore_n 1, 1) := by decide +kernel
theorem dX12_whichAre_111 : decode cX12_whichAre 111 = .ok (.iinc 2 1, 3) := by decide +kernel
theorem dX12_whichAre_114 : decode cX12_whichAre 114 = .ok (.goto (-110), 3) := by decide +kernel
theorem dX12_whichAre_117 : decode cX12_whichAre 117 = .ok (.iload_n 1, 1) := by decide +kernel
theorem dX12_whichAre_118 : decode cX12_whichAre 118 = .ok (.ireturn, 1) := by decide +kernel
theorem dX12_which_0 : decode cX12_which 0 = .ok (.aload_n 0, 1) := by decide +kernel
theorem dX12_which_1 : decode cX12_which 1 = .ok (.iconst 0, 1) := by decide +kernel
theorem dX12_which_2 : decode cX12_which 2 = .ok (.putfield 175, 3) := by decide +kernel
theorem dX12_which_5 : decode cX12_which 5 = .ok (.aload_n 0, 1) := by decide +kernel
theorem dX12_which_6 : decode cX12_which 6 = .ok (.invokevirtual 484, 3) := by decide +kernel
theorem dX12_which_9 : decode cX12_which 9 = .ok (.ireturn, 1) := by decide +kernel
theorem dX12_listen_0 : decode cX12_listen 0 = .ok (.aload_n 0, 1) := by decide +kernel
theorem dX12_listen_1 : decode cX12_listen 1 = .ok (.iconst 0, 1) := by decide +kernel
theorem dX12_listen_2 : decode cX12_listen 2 = .ok (.putfield 175, 3) := by decide +kernel
theorem dX12_listen_5 : decode cX12_listen 5 = .ok (.aload_n 0, 1) := by decide +kernel
theorem dX12_listen_6 : decode cX12_listen 6 = .ok (.invokevirtual 484, 3) := by decide +kernel
theorem dX12_listen_9 : decode cX12_listen 9 = .ok (.istore_n 2, 1) := by decide +kernel
theorem dX12_listen_10 : decode cX12_listen 10 = .ok (.iload_n 1, 1) := by decide +kernel
theorem dX12_listen_11 : decode cX12_listen 11 = .ok (.i2l, 1) := by decide +kernel
theorem dX12_listen_12 : decode cX12_listen 12 = .ok (.lconst 0, 1) := by decide +kernel
theorem dX12_listen_13 : decode cX12_listen 13 = .ok (.lconst 1, 1) := by decide +kernel
theorem dX12_listen_14 : decode cX12_listen 14 = .ok (.invokestatic 195, 3) := by decide +kernel
theorem dX12_listen_17 : decode cX12_listen 17 = .ok (.ifCond .eq 7, 3) := by decide +kernel
theorem dX12_listen_20 : decode cX12_listen 20 = .ok (.iload_n 2, 1) := by decide +kernel
theorem dX12_listen_21 : decode cX12_listen 21 = .ok (.ifCond .ne 5, 3) := by decide +kernel
theorem dX12_listen_24 : decode cX12_listen 24 = .ok (.iconst (-1), 1) := by decide +kernel
theorem dX12_listen_25 : decode cX12_listen 25 = .ok (.ireturn, 1) := by decide +kernel
theorem dX12_listen_26 : decode cX12_listen 26 = .ok (.ldc_w 487, 3) := by decide +kernel
theorem dX12_listen_29 : decode cX12_listen 29 = .ok (.istore_n 3, 1) := by decide +kernel
theorem dX12_listen_30 : decode cX12_listen 30 = .ok (.iconst (-1), 1) := by decide +kernel
theorem dX12_listen_31 : decode cX12_listen 31 = .ok (.istore 4, 2) := by decide +kernel
theorem dX12_listen_33 : decode cX12_listen 33 = .ok (.iconst 0, 1) := by decide +kernel
theorem dX12_listen_34 : decode cX12_listen 34 = .ok (.istore 5, 2) := by decide +kernel
theorem dX12_listen_36 : decode cX12_listen 36 = .ok (.iload 5, 2) := by decide +kernel
theorem dX12_listen_38 : decode cX12_listen 38 = .ok (.bipush 64, 2) := by decide +kernel
theorem dX12_listen_40 : decode cX12_listen 40 = .ok (.if_icmp .ge 135, 3) := by decide +kernel
theorem dX12_listen_43 : decode cX12_listen 43 = .ok (.iconst 0, 1) := by decide +kernel
theorem dX12_listen_44 : decode cX12_listen 44 = .ok (.istore 6, 2) := by decide +kernel
theorem dX12_listen_46 : decode cX12_listen 46 = .ok (.iconst 0, 1) := by decide +kernel
theorem dX12_listen_47 : decode cX12_listen 47 = .ok (.istore 7, 2) := by decide +kernel
theorem dX12_listen_49 : decode cX12_listen 49 = .ok (.iload 7, 2) := by decide +kernel
theorem dX12_listen_51 : decode cX12_listen 51 = .ok (.aload_n 0, 1) := by decide +kernel
theorem dX12_listen_52 : decode cX12_listen 52 = .ok (.getfield 13, 3) := by decide +kernel
theorem dX12_listen_55 : decode cX12_listen 55 = .ok (.iconst 0, 1) := by decide +kernel
theorem dX12_listen_56 : decode cX12_listen 56 = .ok (.iaload, 1) := by decide +kernel
theorem dX12_listen_57 : decode cX12_listen 57 = .ok (.if_icmp .ge 46, 3) := by decide +kernel
theorem dX12_listen_60 : decode cX12_listen 60 = .ok (.iload 6, 2) := by decide +kernel
theorem dX12_listen_62 : decode cX12_listen 62 = .ok (.iload_n 2, 1) := by decide +kernel
theorem dX12_listen_63 : decode cX12_listen 63 = .ok (.iload 7, 2) := by decide +kernel
theorem dX12_listen_65 : decode cX12_listen 65 = .ok (.invokestatic 458, 3) := by decide +kernel
theorem dX12_listen_68 : decode cX12_listen 68 = .ok (.ifCond .eq 25, 3) := by decide +kernel
theorem dX12_listen_71 : decode cX12_listen 71 = .ok (.aload_n 0, 1) := by decide +kernel
theorem dX12_listen_72 : decode cX12_listen 72 = .ok (.iload 7, 2) := by decide +kernel
theorem dX12_listen_74 : decode cX12_listen 74 = .ok (.iload 5, 2) := by decide +kernel
theorem dX12_listen_76 : decode cX12_listen 76 = .ok (.bipush 8, 2) := by decide +kernel
theorem dX12_listen_78 : decode cX12_listen 78 = .ok (.idiv, 1) := by decide +kernel
theorem dX12_listen_79 : decode cX12_listen 79 = .ok (.invokevirtual 204, 3) := by decide +kernel
theorem dX12_listen_82 : decode cX12_listen 82 = .ok (.iload 5, 2) := by decide +kernel
theorem dX12_listen_84 : decode cX12_listen 84 = .ok (.bipush 8, 2) := by decide +kernel
theorem dX12_listen_86 : decode cX12_listen 86 = .ok (.irem, 1) := by decide +kernel
theorem dX12_listen_87 : decode cX12_listen 87 = .ok (.ishr, 1) := by decide +kernel
theorem dX12_listen_88 : decode cX12_listen 88 = .ok (.iconst 1, 1) := by decide +kernel
theorem dX12_listen_89 : decode cX12_listen 89 = .ok (.iand, 1) := by decide +kernel
theorem dX12_listen_90 : decode cX12_listen 90 = .ok (.goto 4, 3) := by decide +kernel
theorem dX12_listen_93 : decode cX12_listen 93 = .ok (.iconst 0, 1) := by decide +kernel
theorem dX12_listen_94 : decode cX12_listen 94 = .ok (.iadd, 1) := by decide +kernel
theorem dX12_listen_95 : decode cX12_listen 95 = .ok (.istore 6, 2) := by decide +kernel
theorem dX12_listen_97 : decode cX12_listen 97 = .ok (.iinc 7 1, 3) := by decide +kernel
theorem dX12_listen_100 : decode cX12_listen 100 = .ok (.goto (-51), 3) := by decide +kernel
theorem dX12_listen_103 : decode cX12_listen 103 = .ok (.iload 6, 2) := by decide +kernel
theorem dX12_listen_105 : decode cX12_listen 105 = .ok (.iload_n 2, 1) := by decide +kernel
theorem dX12_listen_106 : decode cX12_listen 106 = .ok (.invokestatic 208, 3) := by decide +kernel
theorem dX12_listen_109 : decode cX12_listen 109 = .ok (.iload 6, 2) := by decide +kernel
theorem dX12_listen_111 : decode cX12_listen 111 = .ok (.isub, 1) := by decide +kernel
theorem dX12_listen_112 : decode cX12_listen 112 = .ok (.if_icmp .le 8, 3) := by decide +kernel
theorem dX12_listen_115 : decode cX12_listen 115 = .ok (.iload 6, 2) := by decide +kernel
theorem dX12_listen_117 : decode cX12_listen 117 = .ok (.goto 10, 3) := by decide +kernel
theorem dX12_listen_120 : decode cX12_listen 120 = .ok (.iload_n 2, 1) := by decide +kernel
theorem dX12_listen_121 : decode cX12_listen 121 = .ok (.invokestatic 208, 3) := by decide +kernel
theorem dX12_listen_124 : decode cX12_listen 124 = .ok (.iload 6, 2) := by decide +kernel
theorem dX12_listen_126 : decode cX12_listen 126 = .ok (.isub, 1) := by decide +kernel
theorem dX12_listen_127 : decode cX12_listen 127 = .ok (.istore 7, 2) := by decide +kernel
theorem dX12_listen_129 : decode cX12_listen 129 = .ok (.iload 7, 2) := by decide +kernel
theorem dX12_listen_131 : decode cX12_listen 131 = .ok (.iload_n 3, 1) := by decide +kernel
theorem dX12_listen_132 : decode cX12_listen 132 = .ok (.if_icmp .ge 20, 3) := by decide +kernel
theorem dX12_listen_135 : decode cX12_listen 135 = .ok (.bipush 10, 2) := by decide +kernel
theorem dX12_listen_137 : decode cX12_listen 137 = .ok (.iload 5, 2) := by decide +kernel
theorem dX12_listen_139 : decode cX12_listen 139 = .ok (.bipush 8, 2) := by decide +kernel
theorem dX12_listen_141 : decode cX12_listen 141 = .ok (.idiv, 1) := by decide +kernel
theorem dX12_listen_142 : decode cX12_listen 142 = .ok (.imul, 1) := by decide +kernel
theorem dX12_listen_143 : decode cX12_listen 143 = .ok (.iload 5, 2) := by decide +kernel
theorem dX12_listen_145 : decode cX12_listen 145 = .ok (.bipush 8, 2) := by decide +kernel
theorem dX12_listen_147 : decode cX12_listen 147 = .ok (.irem, 1) := by decide +kernel
theorem dX12_listen_148 : decode cX12_listen 148 = .ok (.iadd, 1) := by decide +kernel
theorem dX12_listen_149 : decode cX12_listen 149 = .ok (.goto 5, 3) := by decide +kernel
theorem dX12_listen_152 : decode cX12_listen 152 = .ok (.iload 4, 2) := by decide +kernel
theorem dX12_listen_154 : decode cX12_listen 154 = .ok (.istore 4, 2) := by decide +kernel
theorem dX12_listen_156 : decode cX12_listen 156 = .ok (.iload 7, 2) := by decide +kernel
theorem dX12_listen_158 : decode cX12_listen 158 = .ok (.iload_n 3, 1) := by decide +kernel
theorem dX12_listen_159 : decode cX12_listen 159 = .ok (.if_icmp .ge 8, 3) := by decide +kernel
theorem dX12_listen_162 : decode cX12_listen 162 = .ok (.iload 7, 2) := by decide +kernel
theorem dX12_listen_164 : decode cX12_listen 164 = .ok (.goto 4, 3) := by decide +kernel
theorem dX12_listen_167 : decode cX12_listen 167 = .ok (.iload_n 3, 1) := by decide +kernel
theorem dX12_listen_168 : decode cX12_listen 168 = .ok (.istore_n 3, 1) := by decide +kernel
theorem dX12_listen_169 : decode cX12_listen 169 = .ok (.iinc 5 1, 3) := by decide +kernel
theorem dX12_listen_172 : decode cX12_listen 172 = .ok (.goto (-136), 3) := by decide +kernel
theorem dX12_listen_175 : decode cX12_listen 175 = .ok (.iload_n 1, 1) := by decide +kernel
theorem dX12_listen_176 : decode cX12_listen 176 = .ok (.ifCond .ne 8, 3) := by decide +kernel
theorem dX12_listen_179 : decode cX12_listen 179 = .ok (.iload 4, 2) := by decide +kernel
theorem dX12_listen_181 : decode cX12_listen 181 = .ok (.goto 4, 3) := by decide +kernel
theorem dX12_listen_184 : decode cX12_listen 184 = .ok (.iload_n 3, 1) := by decide +kernel
theorem dX12_listen_185 : decode cX12_listen 185 = .ok (.ireturn, 1) := by decide +kernel
theorem dX12_layTwos_0 : decode cX12_layTwos 0 = .ok (.iconst 0, 1) := by decide +kernel
theorem dX12_layTwos_1 : decode cX12_layTwos 1 = .ok (.istore_n 1, 1) := by decide +kernel
theorem dX12_layTwos_2 : decode cX12_layTwos 2 = .ok (.iload_n 1, 1) := by decide +kernel
theorem dX12_layTwos_3 : decode cX12_layTwos 3 = .ok (.aload_n 0, 1) := by decide +kernel
theorem dX12_layTwos_4 : decode cX12_layTwos 4 = .ok (.getfield 13, 3) := by decide +kernel
theorem dX12_layTwos_7 : decode cX12_layTwos 7 = .ok (.iconst 0, 1) := by decide +kernel
theorem dX12_layTwos_8 : decode cX12_layTwos 8 = .ok (.iaload, 1) := by decide +kernel
theorem dX12_layTwos_9 : decode cX12_layTwos 9 = .ok (.if_icmp .ge 150, 3) := by decide +kernel
theorem dX12_layTwos_12 : decode cX12_layTwos 12 = .ok (.iconst 0, 1) := by decide +kernel
theorem dX12_layTwos_13 : decode cX12_layTwos 13 = .ok (.istore_n 2, 1) := by decide +kernel
theorem dX12_layTwos_14 : decode cX12_layTwos 14 = .ok (.iload_n 2, 1) := by decide +kernel
theorem dX12_layTwos_15 : decode cX12_layTwos 15 = .ok (.aload_n 0, 1) := by decide +kernel
theorem dX12_layTwos_16 : decode cX12_layTwos 16 = .ok (.getfield 13, 3) := by decide +kernel
theorem dX12_layTwos_19 : decode cX12_layTwos 19 = .ok (.iconst 1, 1) := by decide +kernel
theorem dX12_layTwos_20 : decode cX12_layTwos 20 = .ok (.iaload, 1) := by decide +kernel
theorem dX12_layTwos_21 : decode cX12_layTwos 21 = .ok (.if_icmp .ge 132, 3) := by decide +kernel
theorem dX12_layTwos_24 : decode cX12_layTwos 24 = .ok (.aload_n 0, 1) := by decide +kernel
theorem dX12_layTwos_25 : decode cX12_layTwos 25 = .ok (.getfield 13, 3) := by decide +kernel
theorem dX12_layTwos_28 : decode cX12_layTwos 28 = .ok (.bipush 68, 2) := by decide +kernel
theorem dX12_layTwos_30 : decode cX12_layTwos 30 = .ok (.iload_n 1, 1) := by decide +kernel
theorem dX12_layTwos_31 : decode cX12_layTwos 31 = .ok (.iadd, 1) := by decide +kernel
theorem dX12_layTwos_32 : decode cX12_layTwos 32 = .ok (.iaload, 1) := by decide +kernel
theorem dX12_layTwos_33 : decode cX12_layTwos 33 = .ok (.iconst (-1), 1) := by decide +kernel
theorem dX12_layTwos_34 : decode cX12_layTwos 34 = .ok (.if_icmp .ne 25, 3) := by decide +kernel
theorem dX12_layTwos_37 : decode cX12_layTwos 37 = .ok (.aload_n 0, 1) := by decide +kernel
theorem dX12_layTwos_38 : decode cX12_layTwos 38 = .ok (.iload_n 2, 1) := by decide +kernel
theorem dX12_layTwos_39 : decode cX12_layTwos 39 = .ok (.invokevirtual 244, 3) := by decide +kernel
theorem dX12_layTwos_42 : decode cX12_layTwos 42 = .ok (.iconst (-1), 1) := by decide +kernel
theorem dX12_layTwos_43 : decode cX12_layTwos 43 = .ok (.if_icmp .ne 16, 3) := by decide +kernel
theorem dX12_layTwos_46 : decode cX12_layTwos 46 = .ok (.aload_n 0, 1) := by decide +kernel
theorem dX12_layTwos_47 : decode cX12_layTwos 47 = .ok (.iload_n 1, 1) := by decide +kernel
theorem dX12_layTwos_48 : decode cX12_layTwos 48 = .ok (.iload_n 2, 1) := by decide +kernel
theorem dX12_layTwos_49 : decode cX12_layTwos 49 = .ok (.invokevirtual 253, 3) := by decide +kernel
theorem dX12_layTwos_52 : decode cX12_layTwos 52 = .ok (.ifCond .ne 7, 3) := by decide +kernel
theorem dX12_layTwos_55 : decode cX12_layTwos 55 = .ok (.iconst 1, 1) := by decide +kernel
theorem dX12_layTwos_56 : decode cX12_layTwos 56 = .ok (.goto 4, 3) := by decide +kernel
theorem dX12_layTwos_59 : decode cX12_layTwos 59 = .ok (.iconst 0, 1) := by decide +kernel
theorem dX12_layTwos_60 : decode cX12_layTwos 60 = .ok (.istore_n 3, 1) := by decide +kernel
theorem dX12_layTwos_61 : decode cX12_layTwos 61 = .ok (.aload_n 0, 1) := by decide +kernel
theorem dX12_layTwos_62 : decode cX12_layTwos 62 = .ok (.iload_n 1, 1) := by decide +kernel
theorem dX12_layTwos_63 : decode cX12_layTwos 63 = .ok (.invokevirtual 222, 3) := by decide +kernel
theorem dX12_layTwos_66 : decode cX12_layTwos 66 = .ok (.aload_n 0, 1) := by decide +kernel
theorem dX12_layTwos_67 : decode cX12_layTwos 67 = .ok (.getfield 13, 3) := by decide +kernel
theorem dX12_layTwos_70 : decode cX12_layTwos 70 = .ok (.bipush 86, 2) := by decide +kernel
theorem dX12_layTwos_72 : decode cX12_layTwos 72 = .ok (.iload_n 2, 1) := by decide +kernel
theorem dX12_layTwos_73 : decode cX12_layTwos 73 = .ok (.iadd, 1) := by decide +kernel
theorem dX12_layTwos_74 : decode cX12_layTwos 74 = .ok (.iaload, 1) := by decide +kernel
theorem dX12_layTwos_75 : decode cX12_layTwos 75 = .ok (.isub, 1) := by decide +kernel
theorem dX12_layTwos_76 : decode cX12_layTwos 76 = .ok (.istore 4, 2) := by decide +kernel
theorem dX12_layTwos_78 : decode cX12_layTwos 78 = .ok (.aload_n 0, 1) := by decide +kernel
theorem dX12_layTwos_79 : decode cX12_layTwos 79 = .ok (.getfield 113, 3) := by decide +kernel
theorem dX12_layTwos_82 : decode cX12_layTwos 82 = .ok (.bipush 6, 2) := by decide +kernel
theorem dX12_layTwos_84 : decode cX12_layTwos 84 = .ok (.iload_n 1, 1) := by decide +kernel
theorem dX12_layTwos_85 : decode cX12_layTwos 85 = .ok (.imul, 1) := by decide +kernel
theorem dX12_layTwos_86 : decode cX12_layTwos 86 = .ok (.iload_n 2, 1) := by decide +kernel
theorem dX12_layTwos_87 : decode cX12_layTwos 87 = .ok (.iadd, 1) := by decide +kernel
theorem dX12_layTwos_88 : decode cX12_layTwos 88 = .ok (.iload_n 3, 1) := by decide +kernel
theorem dX12_layTwos_89 : decode cX12_layTwos 89 = .ok (.ifCond .eq 19, 3) := by decide +kernel
theorem dX12_layTwos_92 : decode cX12_layTwos 92 = .ok (.iload 4, 2) := by decide +kernel
theorem dX12_layTwos_94 : decode cX12_layTwos 94 = .ok (.ifCond .ge 9, 3) := by decide +kernel
theorem dX12_layTwos_97 : decode cX12_layTwos 97 = .ok (.iload 4, 2) := by decide +kernel
theorem dX12_layTwos_99 : decode cX12_layTwos 99 = .ok (.ineg, 1) := by decide +kernel
theorem dX12_layTwos_100 : decode cX12_layTwos 100 = .ok (.goto 9, 3) := by decide +kernel
theorem dX12_layTwos_103 : decode cX12_layTwos 103 = .ok (.iload 4, 2) := by decide +kernel
theorem dX12_layTwos_105 : decode cX12_layTwos 105 = .ok (.goto 4, 3) := by decide +kernel
theorem dX12_layTwos_108 : decode cX12_layTwos 108 = .ok (.iconst (-1), 1) := by decide +kernel
theorem dX12_layTwos_109 : decode cX12_layTwos 109 = .ok (.iastore, 1) := by decide +kernel
theorem dX12_layTwos_110 : decode cX12_layTwos 110 = .ok (.aload_n 0, 1) := by decide +kernel
theorem dX12_layTwos_111 : decode cX12_layTwos 111 = .ok (.getfield 116, 3) := by decide +kernel
theorem dX12_layTwos_114 : decode cX12_layTwos 114 = .ok (.bipush 6, 2) := by decide +kernel
theorem dX12_layTwos_116 : decode cX12_layTwos 116 = .ok (.iload_n 1, 1) := by decide +kernel
theorem dX12_layTwos_117 : decode cX12_layTwos 117 = .ok (.imul, 1) := by decide +kernel
theorem dX12_layTwos_118 : decode cX12_layTwos 118 = .ok (.iload_n 2, 1) := by decide +kernel
theorem dX12_layTwos_119 : decode cX12_layTwos 119 = .ok (.iadd, 1) := by decide +kernel
theorem dX12_layTwos_120 : decode cX12_layTwos 120 = .ok (.aload_n 0, 1) := by decide +kernel
theorem dX12_layTwos_121 : decode cX12_layTwos 121 = .ok (.iload_n 1, 1) := by decide +kernel
theorem dX12_layTwos_122 : decode cX12_layTwos 122 = .ok (.iload_n 2, 1) := by decide +kernel
theorem dX12_layTwos_123 : decode cX12_layTwos 123 = .ok (.invokevirtual 250, 3) := by decide +kernel
theorem dX12_layTwos_126 : decode cX12_layTwos 126 = .ok (.iastore, 1) := by decide +kernel
theorem dX12_layTwos_127 : decode cX12_layTwos 127 = .ok (.aload_n 0, 1) := by decide +kernel
theorem dX12_layTwos_128 : decode cX12_layTwos 128 = .ok (.getfield 122, 3) := by decide +kernel
theorem dX12_layTwos_131 : decode cX12_layTwos 131 = .ok (.bipush 6, 2) := by decide +kernel
theorem dX12_layTwos_133 : decode cX12_layTwos 133 = .ok (.iload_n 1, 1) := by decide +kernel
theorem dX12_layTwos_134 : decode cX12_layTwos 134 = .ok (.imul, 1) := by decide +kernel
theorem dX12_layTwos_135 : decode cX12_layTwos 135 = .ok (.iload_n 2, 1) := by decide +kernel
theorem dX12_layTwos_136 : decode cX12_layTwos 136 = .ok (.iadd, 1) := by decide +kernel
theorem dX12_layTwos_137 : decode cX12_layTwos 137 = .ok (.iload_n 3, 1) := by decide +kernel
theorem dX12_layTwos_138 : decode cX12_layTwos 138 = .ok (.ifCond .ne 7, 3) := by decide +kernel
theorem dX12_layTwos_141 : decode cX12_layTwos 141 = .ok (.iconst 1, 1) := by decide +kernel
theorem dX12_layTwos_142 : decode cX12_layTwos 142 = .ok (.goto 4, 3) := by decide +kernel
theorem dX12_layTwos_145 : decode cX12_layTwos 145 = .ok (.iconst 0, 1) := by decide +kernel
theorem dX12_layTwos_146 : decode cX12_layTwos 146 = .ok (.bastore, 1) := by decide +kernel
theorem dX12_layTwos_147 : decode cX12_layTwos 147 = .ok (.iinc 2 1, 3) := by decide +kernel
theorem dX12_layTwos_150 : decode cX12_layTwos 150 = .ok (.goto (-136), 3) := by decide +kernel
theorem dX12_layTwos_153 : decode cX12_layTwos 153 = .ok (.iinc 1 1, 3) := by decide +kernel
theorem dX12_layTwos_156 : decode cX12_layTwos 156 = .ok (.goto (-154), 3) := by decide +kernel
theorem dX12_layTwos_159 : decode cX12_layTwos 159 = .ok (.return_, 1) := by decide +kernel
theorem dX12_nearest_0 : decode cX12_nearest 0 = .ok (.iconst (-1), 1) := by decide +kernel
theorem dX12_nearest_1 : decode cX12_nearest 1 = .ok (.istore_n 2, 1) := by decide +kernel
theorem dX12_nearest_2 : decode cX12_nearest 2 = .ok (.iconst 0, 1) := by decide +kernel
theorem dX12_nearest_3 : decode cX12_nearest 3 = .ok (.istore_n 3, 1) := by decide +kernel
theorem dX12_nearest_4 : decode cX12_nearest 4 = .ok (.iload_n 3, 1) := by decide +kernel
theorem dX12_nearest_5 : decode cX12_nearest 5 = .ok (.aload_n 0, 1) := by decide +kernel
theorem dX12_nearest_6 : decode cX12_nearest 6 = .ok (.getfield 13, 3) := by decide +kernel
theorem dX12_nearest_9 : decode cX12_nearest 9 = .ok (.iconst 1, 1) := by decide +kernel
theorem dX12_nearest_10 : decode cX12_nearest 10 = .ok (.iaload, 1) := by decide +kernel
theorem dX12_nearest_11 : decode cX12_nearest 11 = .ok (.if_icmp .ge 59, 3) := by decide +kernel
theorem dX12_nearest_14 : decode cX12_nearest 14 = .ok (.aload_n 0, 1) := by decide +kernel
theorem dX12_nearest_15 : decode cX12_nearest 15 = .ok (.getfield 122, 3) := by decide +kernel
theorem dX12_nearest_18 : decode cX12_nearest 18 = .ok (.bipush 6, 2) := by decide +kernel
theorem dX12_nearest_20 : decode cX12_nearest 20 = .ok (.iload_n 1, 1) := by decide +kernel
theorem dX12_nearest_21 : decode cX12_nearest 21 = .ok (.imul, 1) := by decide +kernel
theorem dX12_nearest_22 : decode cX12_nearest 22 = .ok (.iload_n 3, 1) := by decide +kernel
theorem dX12_nearest_23 : decode cX12_nearest 23 = .ok (.iadd, 1) := by decide +kernel
theorem dX12_nearest_24 : decode cX12_nearest 24 = .ok (.baload, 1) := by decide +kernel
theorem dX12_nearest_25 : decode cX12_nearest 25 = .ok (.ifCond .ne 37, 3) := by decide +kernel
theorem dX12_nearest_28 : decode cX12_nearest 28 = .ok (.iload_n 2, 1) := by decide +kernel
theorem dX12_nearest_29 : decode cX12_nearest 29 = .ok (.iconst (-1), 1) := by decide +kernel
theorem dX12_nearest_30 : decode cX12_nearest 30 = .ok (.if_icmp .eq 28, 3) := by decide +kernel
theorem dX12_nearest_33 : decode cX12_nearest 33 = .ok (.aload_n 0, 1) := by decide +kernel
theorem dX12_nearest_34 : decode cX12_nearest 34 = .ok (.getfield 113, 3) := by decide +kernel
theorem dX12_nearest_37 : decode cX12_nearest 37 = .ok (.bipush 6, 2) := by decide +kernel
theorem dX12_nearest_39 : decode cX12_nearest 39 = .ok (.iload_n 1, 1) := by decide +kernel
theorem dX12_nearest_40 : decode cX12_nearest 40 = .ok (.imul, 1) := by decide +kernel
theorem dX12_nearest_41 : decode cX12_nearest 41 = .ok (.iload_n 3, 1) := by decide +kernel
theorem dX12_nearest_42 : decode cX12_nearest 42 = .ok (.iadd, 1) := by decide +kernel
theorem dX12_nearest_43 : decode cX12_nearest 43 = .ok (.iaload, 1) := by decide +kernel
theorem dX12_nearest_44 : decode cX12_nearest 44 = .ok (.aload_n 0, 1) := by decide +kernel
theorem dX12_nearest_45 : decode cX12_nearest 45 = .ok (.getfield 113, 3) := by decide +kernel
theorem dX12_nearest_48 : decode cX12_nearest 48 = .ok (.bipush 6, 2) := by decide +kernel
theorem dX12_nearest_50 : decode cX12_nearest 50 = .ok (.iload_n 1, 1) := by decide +kernel
theorem dX12_nearest_51 : decode cX12_nearest 51 = .ok (.imul, 1) := by decide +kernel
theorem dX12_nearest_52 : decode cX12_nearest 52 = .ok (.iload_n 2, 1) := by decide +kernel
theorem dX12_nearest_53 : decode cX12_nearest 53 = .ok (.iadd, 1) := by decide +kernel
theorem dX12_nearest_54 : decode cX12_nearest 54 = .ok (.iaload, 1) := by decide +kernel
theorem dX12_nearest_55 : decode cX12_nearest 55 = .ok (.if_icmp .ge 7, 3) := by decide +kernel
theorem dX12_nearest_58 : decode cX12_nearest 58 = .ok (.iload_n 3, 1) := by decide +kernel
theorem dX12_nearest_59 : decode cX12_nearest 59 = .ok (.goto 4, 3) := by decide +kernel
theorem dX12_nearest_62 : decode cX12_nearest 62 = .ok (.iload_n 2, 1) := by decide +kernel
theorem dX12_nearest_63 : decode cX12_nearest 63 = .ok (.istore_n 2, 1) := by decide +kernel
theorem dX12_nearest_64 : decode cX12_nearest 64 = .ok (.iinc 3 1, 3) := by decide +kernel
theorem dX12_nearest_67 : decode cX12_nearest 67 = .ok (.goto (-63), 3) := by decide +kernel
theorem dX12_nearest_70 : decode cX12_nearest 70 = .ok (.iload_n 2, 1) := by decide +kernel
theorem dX12_nearest_71 : decode cX12_nearest 71 = .ok (.ireturn, 1) := by decide +kernel
theorem dX12_keptBy_0 : decode cX12_keptBy 0 = .ok (.iconst (-1), 1) := by decide +kernel
theorem dX12_keptBy_1 : decode cX12_keptBy 1 = .ok (.istore_n 2, 1) := by decide +kernel
theorem dX12_keptBy_2 : decode cX12_keptBy 2 = .ok (.iconst 0, 1) := by decide +kernel
theorem dX12_keptBy_3 : decode cX12_keptBy 3 = .ok (.istore_n 3, 1) := by decide +kernel
theorem dX12_keptBy_4 : decode cX12_keptBy 4 = .ok (.iload_n 3, 1) := by decide +kernel
theorem dX12_keptBy_5 : decode cX12_keptBy 5 = .ok (.aload_n 0, 1) := by decide +kernel
theorem dX12_keptBy_6 : decode cX12_keptBy 6 = .ok (.getfield 13, 3) := by decide +kernel
theorem dX12_keptBy_9 : decode cX12_keptBy 9 = .ok (.iconst 0, 1) := by decide +kernel
theorem dX12_keptBy_10 : decode cX12_keptBy 10 = .ok (.iaload, 1) := by decide +kernel
theorem dX12_keptBy_11 : decode cX12_keptBy 11 = .ok (.if_icmp .ge 55, 3) := by decide +kernel
theorem dX12_keptBy_14 : decode cX12_keptBy 14 = .ok (.aload_n 0, 1) := by decide +kernel
theorem dX12_keptBy_15 : decode cX12_keptBy 15 = .ok (.getfield 119, 3) := by decide +kernel
theorem dX12_keptBy_18 : decode cX12_keptBy 18 = .ok (.iload_n 3, 1) := by decide +kernel
theorem dX12_keptBy_19 : decode cX12_keptBy 19 = .ok (.iaload, 1) := by decide +kernel
theorem dX12_keptBy_20 : decode cX12_keptBy 20 = .ok (.iload_n 1, 1) := by decide +kernel
theorem dX12_keptBy_21 : decode cX12_keptBy 21 = .ok (.if_icmp .ne 37, 3) := by decide +kernel
theorem dX12_keptBy_24 : decode cX12_keptBy 24 = .ok (.iload_n 2, 1) := by decide +kernel
theorem dX12_keptBy_25 : decode cX12_keptBy 25 = .ok (.iconst (-1), 1) := by decide +kernel
theorem dX12_keptBy_26 : decode cX12_keptBy 26 = .ok (.if_icmp .eq 28, 3) := by decide +kernel
theorem dX12_keptBy_29 : decode cX12_keptBy 29 = .ok (.aload_n 0, 1) := by decide +kernel
theorem dX12_keptBy_30 : decode cX12_keptBy 30 = .ok (.getfield 116, 3) := by decide +kernel
theorem dX12_keptBy_33 : decode cX12_keptBy 33 = .ok (.bipush 6, 2) := by decide +kernel
theorem dX12_keptBy_35 : decode cX12_keptBy 35 = .ok (.iload_n 3, 1) := by decide +kernel
theorem dX12_keptBy_36 : decode cX12_keptBy 36 = .ok (.imul, 1) := by decide +kernel
theorem dX12_keptBy_37 : decode cX12_keptBy 37 = .ok (.iload_n 1, 1) := by decide +kernel
theorem dX12_keptBy_38 : decode cX12_keptBy 38 = .ok (.iadd, 1) := by decide +kernel
theorem dX12_keptBy_39 : decode cX12_keptBy 39 = .ok (.iaload, 1) := by decide +kernel
theorem dX12_keptBy_40 : decode cX12_keptBy 40 = .ok (.aload_n 0, 1) := by decide +kernel
theorem dX12_keptBy_41 : decode cX12_keptBy 41 = .ok (.getfield 116, 3) := by decide +kernel
theorem dX12_keptBy_44 : decode cX12_keptBy 44 = .ok (.bipush 6, 2) := by decide +kernel
theorem dX12_keptBy_46 : decode cX12_keptBy 46 = .ok (.iload_n 2, 1) := by decide +kernel
theorem dX12_keptBy_47 : decode cX12_keptBy 47 = .ok (.imul, 1) := by decide +kernel
theorem dX12_keptBy_48 : decode cX12_keptBy 48 = .ok (.iload_n 1, 1) := by decide +kernel
theorem dX12_keptBy_49 : decode cX12_keptBy 49 = .ok (.iadd, 1) := by decide +kernel
theorem dX12_keptBy_50 : decode cX12_keptBy 50 = .ok (.iaload, 1) := by decide +kernel
theorem dX12_keptBy_51 : decode cX12_keptBy 51 = .ok (.if_icmp .le 7, 3) := by decide +kernel
theorem dX12_keptBy_54 : decode cX12_keptBy 54 = .ok (.iload_n 3, 1) := by decide +kernel
theorem dX12_keptBy_55 : decode cX12_keptBy 55 = .ok (.goto 4, 3) := by decide +kernel
theorem dX12_keptBy_58 : decode cX12_keptBy 58 = .ok (.iload_n 2, 1) := by decide +kernel
theorem dX12_keptBy_59 : decode cX12_keptBy 59 = .ok (.istore_n 2, 1) := by decide +kernel
theorem dX12_keptBy_60 : decode cX12_keptBy 60 = .ok (.iinc 3 1, 3) := by decide +kernel
theorem dX12_keptBy_63 : decode cX12_keptBy 63 = .ok (.goto (-59), 3) := by decide +kernel
theorem dX12_keptBy_66 : decode cX12_keptBy 66 = .ok (.iload_n 2, 1) := by decide +kernel
theorem dX12_keptBy_67 : decode cX12_keptBy 67 = .ok (.ireturn, 1) := by decide +kernel
theorem dX12_laySteady_0 : decode cX12_laySteady 0 = .ok (.aload_n 0, 1) := by decide +kernel
theorem dX12_laySteady_1 : decode cX12_laySteady 1 = .ok (.invokevirtual 488, 3) := by decide +kernel
theorem dX12_laySteady_4 : decode cX12_laySteady 4 = .ok (.iconst 1, 1) := by decide +kernel
theorem dX12_laySteady_5 : decode cX12_laySteady 5 = .ok (.istore_n 1, 1) := by decide +kernel
theorem dX12_laySteady_6 : decode cX12_laySteady 6 = .ok (.iload_n 1, 1) := by decide +kernel
theorem dX12_laySteady_7 : decode cX12_laySteady 7 = .ok (.ifCond .eq 90, 3) := by decide +kernel
theorem dX12_laySteady_10 : decode cX12_laySteady 10 = .ok (.iconst 0, 1) := by decide +kernel
theorem dX12_laySteady_11 : decode cX12_laySteady 11 = .ok (.istore_n 1, 1) := by decide +kernel
theorem dX12_laySteady_12 : decode cX12_laySteady 12 = .ok (.iconst 0, 1) := by decide +kernel
theorem dX12_laySteady_13 : decode cX12_laySteady 13 = .ok (.istore_n 2, 1) := by decide +kernel
theorem dX12_laySteady_14 : decode cX12_laySteady 14 = .ok (.iload_n 2, 1) := by decide +kernel
theorem dX12_laySteady_15 : decode cX12_laySteady 15 = .ok (.aload_n 0, 1) := by decide +kernel
theorem dX12_laySteady_16 : decode cX12_laySteady 16 = .ok (.getfield 13, 3) := by decide +kernel
theorem dX12_laySteady_19 : decode cX12_laySteady 19 = .ok (.iconst 0, 1) := by decide +kernel
theorem dX12_laySteady_20 : decode cX12_laySteady 20 = .ok (.iaload, 1) := by decide +kernel
theorem dX12_laySteady_21 : decode cX12_laySteady 21 = .ok (.if_icmp .ge 20, 3) := by decide +kernel
theorem dX12_laySteady_24 : decode cX12_laySteady 24 = .ok (.aload_n 0, 1) := by decide +kernel
theorem dX12_laySteady_25 : decode cX12_laySteady 25 = .ok (.getfield 119, 3) := by decide +kernel
theorem dX12_laySteady_28 : decode cX12_laySteady 28 = .ok (.iload_n 2, 1) := by decide +kernel
theorem dX12_laySteady_29 : decode cX12_laySteady 29 = .ok (.aload_n 0, 1) := by decide +kernel
theorem dX12_laySteady_30 : decode cX12_laySteady 30 = .ok (.iload_n 2, 1) := by decide +kernel
theorem dX12_laySteady_31 : decode cX12_laySteady 31 = .ok (.invokevirtual 491, 3) := by decide +kernel
theorem dX12_laySteady_34 : decode cX12_laySteady 34 = .ok (.iastore, 1) := by decide +kernel
theorem dX12_laySteady_35 : decode cX12_laySteady 35 = .ok (.iinc 2 1, 3) := by decide +kernel
theorem dX12_laySteady_38 : decode cX12_laySteady 38 = .ok (.goto (-24), 3) := by decide +kernel
theorem dX12_laySteady_41 : decode cX12_laySteady 41 = .ok (.iconst 0, 1) := by decide +kernel
theorem dX12_laySteady_42 : decode cX12_laySteady 42 = .ok (.istore_n 2, 1) := by decide +kernel
theorem dX12_laySteady_43 : decode cX12_laySteady 43 = .ok (.iload_n 2, 1) := by decide +kernel
theorem dX12_laySteady_44 : decode cX12_laySteady 44 = .ok (.aload_n 0, 1) := by decide +kernel
theorem dX12_laySteady_45 : decode cX12_laySteady 45 = .ok (.getfield 13, 3) := by decide +kernel
theorem dX12_laySteady_48 : decode cX12_laySteady 48 = .ok (.iconst 0, 1) := by decide +kernel
theorem dX12_laySteady_49 : decode cX12_laySteady 49 = .ok (.iaload, 1) := by decide +kernel
theorem dX12_laySteady_50 : decode cX12_laySteady 50 = .ok (.if_icmp .ge 44, 3) := by decide +kernel
theorem dX12_laySteady_53 : decode cX12_laySteady 53 = .ok (.aload_n 0, 1) := by decide +kernel
theorem dX12_laySteady_54 : decode cX12_laySteady 54 = .ok (.getfield 119, 3) := by decide +kernel
theorem dX12_laySteady_57 : decode cX12_laySteady 57 = .ok (.iload_n 2, 1) := by decide +kernel
theorem dX12_laySteady_58 : decode cX12_laySteady 58 = .ok (.iaload, 1) := by decide +kernel
theorem dX12_laySteady_59 : decode cX12_laySteady 59 = .ok (.istore_n 3, 1) := by decide +kernel
theorem dX12_laySteady_60 : decode cX12_laySteady 60 = .ok (.iload_n 3, 1) := by decide +kernel
theorem dX12_laySteady_61 : decode cX12_laySteady 61 = .ok (.iconst (-1), 1) := by decide +kernel
theorem dX12_laySteady_62 : decode cX12_laySteady 62 = .ok (.if_icmp .eq 26, 3) := by decide +kernel
theorem dX12_laySteady_65 : decode cX12_laySteady 65 = .ok (.aload_n 0, 1) := by decide +kernel
theorem dX12_laySteady_66 : decode cX12_laySteady 66 = .ok (.iload_n 3, 1) := by decide +kernel
theorem dX12_laySteady_67 : decode cX12_laySteady 67 = .ok (.invokevirtual 494, 3) := by decide +kernel
theorem dX12_laySteady_70 : decode cX12_laySteady 70 = .ok (.iload_n 2, 1) := by decide +kernel
theorem dX12_laySteady_71 : decode cX12_laySteady 71 = .ok (.if_icmp .eq 17, 3) := by decide +kernel
theorem dX12_laySteady_74 : decode cX12_laySteady 74 = .ok (.aload_n 0, 1) := by decide +kernel
theorem dX12_laySteady_75 : decode cX12_laySteady 75 = .ok (.getfield 122, 3) := by decide +kernel
theorem dX12_laySteady_78 : decode cX12_laySteady 78 = .ok (.bipush 6, 2) := by decide +kernel
theorem dX12_laySteady_80 : decode cX12_laySteady 80 = .ok (.iload_n 2, 1) := by decide +kernel
theorem dX12_laySteady_81 : decode cX12_laySteady 81 = .ok (.imul, 1) := by decide +kernel
theorem dX12_laySteady_82 : decode cX12_laySteady 82 = .ok (.iload_n 3, 1) := by decide +kernel
theorem dX12_laySteady_83 : decode cX12_laySteady 83 = .ok (.iadd, 1) := by decide +kernel
theorem dX12_laySteady_84 : decode cX12_laySteady 84 = .ok (.iconst 1, 1) := by decide +kernel
theorem dX12_laySteady_85 : decode cX12_laySteady 85 = .ok (.bastore, 1) := by decide +kernel
theorem dX12_laySteady_86 : decode cX12_laySteady 86 = .ok (.iconst 1, 1) := by decide +kernel
theorem dX12_laySteady_87 : decode cX12_laySteady 87 = .ok (.istore_n 1, 1) := by decide +kernel
theorem dX12_laySteady_88 : decode cX12_laySteady 88 = .ok (.iinc 2 1, 3) := by decide +kernel
theorem dX12_laySteady_91 : decode cX12_laySteady 91 = .ok (.goto (-48), 3) := by decide +kernel
theorem dX12_laySteady_94 : decode cX12_laySteady 94 = .ok (.goto (-88), 3) := by decide +kernel
theorem dX12_laySteady_97 : decode cX12_laySteady 97 = .ok (.return_, 1) := by decide +kernel
theorem dX12_steady_0 : decode cX12_steady 0 = .ok (.aload_n 0, 1) := by decide +kernel
theorem dX12_steady_1 : decode cX12_steady 1 = .ok (.iconst 0, 1) := by decide +kernel
theorem dX12_steady_2 : decode cX12_steady 2 = .ok (.putfield 175, 3) := by decide +kernel
theorem dX12_steady_5 : decode cX12_steady 5 = .ok (.aload_n 0, 1) := by decide +kernel
theorem dX12_steady_6 : decode cX12_steady 6 = .ok (.iload_n 1, 1) := by decide +kernel
theorem dX12_steady_7 : decode cX12_steady 7 = .ok (.invokevirtual 213, 3) := by decide +kernel
theorem dX12_steady_10 : decode cX12_steady 10 = .ok (.ifCond .ne 5, 3) := by decide +kernel
theorem dX12_steady_13 : decode cX12_steady 13 = .ok (.iconst (-1), 1) := by decide +kernel
theorem dX12_steady_14 : decode cX12_steady 14 = .ok (.ireturn, 1) := by decide +kernel
theorem dX12_steady_15 : decode cX12_steady 15 = .ok (.aload_n 0, 1) := by decide +kernel
theorem dX12_steady_16 : decode cX12_steady 16 = .ok (.invokevirtual 497, 3) := by decide +kernel
theorem dX12_steady_19 : decode cX12_steady 19 = .ok (.aload_n 0, 1) := by decide +kernel
theorem dX12_steady_20 : decode cX12_steady 20 = .ok (.getfield 119, 3) := by decide +kernel
theorem dX12_steady_23 : decode cX12_steady 23 = .ok (.iload_n 1, 1) := by decide +kernel
theorem dX12_steady_24 : decode cX12_steady 24 = .ok (.iaload, 1) := by decide +kernel
theorem dX12_steady_25 : decode cX12_steady 25 = .ok (.ireturn, 1) := by decide +kernel
theorem dX12_withSuitor_0 : decode cX12_withSuitor 0 = .ok (.aload_n 0, 1) := by decide +kernel
theorem dX12_withSuitor_1 : decode cX12_withSuitor 1 = .ok (.getfield 113, 3) := by decide +kernel
theorem dX12_withSuitor_4 : decode cX12_withSuitor 4 = .ok (.bipush 6, 2) := by decide +kernel
theorem dX12_withSuitor_6 : decode cX12_withSuitor 6 = .ok (.iload_n 1, 1) := by decide +kernel
theorem dX12_withSuitor_7 : decode cX12_withSuitor 7 = .ok (.imul, 1) := by decide +kernel
theorem dX12_withSuitor_8 : decode cX12_withSuitor 8 = .ok (.iload_n 3, 1) := by decide +kernel
theorem dX12_withSuitor_9 : decode cX12_withSuitor 9 = .ok (.iadd, 1) := by decide +kernel
theorem dX12_withSuitor_10 : decode cX12_withSuitor 10 = .ok (.iaload, 1) := by decide +kernel
theorem dX12_withSuitor_11 : decode cX12_withSuitor 11 = .ok (.istore 5, 2) := by decide +kernel
theorem dX12_withSuitor_13 : decode cX12_withSuitor 13 = .ok (.iload 5, 2) := by decide +kernel
theorem dX12_withSuitor_15 : decode cX12_withSuitor 15 = .ok (.iconst (-1), 1) := by decide +kernel
theorem dX12_withSuitor_16 : decode cX12_withSuitor 16 = .ok (.if_icmp .eq 18, 3) := by decide +kernel
theorem dX12_withSuitor_19 : decode cX12_withSuitor 19 = .ok (.iload 5, 2) := by decide +kernel
theorem dX12_withSuitor_21 : decode cX12_withSuitor 21 = .ok (.iload 4, 2) := by decide +kernel
theorem dX12_withSuitor_23 : decode cX12_withSuitor 23 = .ok (.if_icmp .gt 11, 3) := by decide +kernel
theorem dX12_withSuitor_26 : decode cX12_withSuitor 26 = .ok (.iload_n 2, 1) := by decide +kernel
theorem dX12_withSuitor_27 : decode cX12_withSuitor 27 = .ok (.iload_n 3, 1) := by decide +kernel
theorem dX12_withSuitor_28 : decode cX12_withSuitor 28 = .ok (.invokestatic 458, 3) := by decide +kernel
theorem dX12_withSuitor_31 : decode cX12_withSuitor 31 = .ok (.ifCond .eq 9, 3) := by decide +kernel
theorem dX12_withSuitor_34 : decode cX12_withSuitor 34 = .ok (.ldc_w 500, 3) := by decide +kernel
theorem dX12_withSuitor_37 : decode cX12_withSuitor 37 = .ok (.goto 27, 3) := by decide +kernel
theorem dX12_withSuitor_40 : decode cX12_withSuitor 40 = .ok (.sipush 1000, 3) := by decide +kernel
theorem dX12_withSuitor_43 : decode cX12_withSuitor 43 = .ok (.iload 5, 2) := by decide +kernel
theorem dX12_withSuitor_45 : decode cX12_withSuitor 45 = .ok (.isub, 1) := by decide +kernel
theorem dX12_withSuitor_46 : decode cX12_withSuitor 46 = .ok (.aload_n 0, 1) := by decide +kernel
theorem dX12_withSuitor_47 : decode cX12_withSuitor 47 = .ok (.getfield 125, 3) := by decide +kernel
theorem dX12_withSuitor_50 : decode cX12_withSuitor 50 = .ok (.bipush 64, 2) := by decide +kernel
theorem dX12_withSuitor_52 : decode cX12_withSuitor 52 = .ok (.iload_n 1, 1) := by decide +kernel
theorem dX12_withSuitor_53 : decode cX12_withSuitor 53 = .ok (.iconst 1, 1) := by decide +kernel
theorem dX12_withSuitor_54 : decode cX12_withSuitor 54 = .ok (.iadd, 1) := by decide +kernel
theorem dX12_withSuitor_55 : decode cX12_withSuitor 55 = .ok (.imul, 1) := by decide +kernel
theorem dX12_withSuitor_56 : decode cX12_withSuitor 56 = .ok (.iload_n 2, 1) := by decide +kernel
theorem dX12_withSuitor_57 : decode cX12_withSuitor 57 = .ok (.iconst 1, 1) := by decide +kernel
theorem dX12_withSuitor_58 : decode cX12_withSuitor 58 = .ok (.iload_n 3, 1) := by decide +kernel
theorem dX12_withSuitor_59 : decode cX12_withSuitor 59 = .ok (.ishl, 1) := by decide +kernel
theorem dX12_withSuitor_60 : decode cX12_withSuitor 60 = .ok (.ior, 1) := by decide +kernel
theorem dX12_withSuitor_61 : decode cX12_withSuitor 61 = .ok (.iadd, 1) := by decide +kernel
theorem dX12_withSuitor_62 : decode cX12_withSuitor 62 = .ok (.iaload, 1) := by decide +kernel
theorem dX12_withSuitor_63 : decode cX12_withSuitor 63 = .ok (.iadd, 1) := by decide +kernel
theorem dX12_withSuitor_64 : decode cX12_withSuitor 64 = .ok (.ireturn, 1) := by decide +kernel
theorem dX12_layAbout_0 : decode cX12_layAbout 0 = .ok (.aload_n 0, 1) := by decide +kernel
theorem dX12_layAbout_1 : decode cX12_layAbout 1 = .ok (.invokevirtual 488, 3) := by decide +kernel
theorem dX12_layAbout_4 : decode cX12_layAbout 4 = .ok (.aload_n 0, 1) := by decide +kernel
theorem dX12_layAbout_5 : decode cX12_layAbout 5 = .ok (.getfield 13, 3) := by decide +kernel
theorem dX12_layAbout_8 : decode cX12_layAbout 8 = .ok (.iconst 0, 1) := by decide +kernel
theorem dX12_layAbout_9 : decode cX12_layAbout 9 = .ok (.iaload, 1) := by decide +kernel
theorem dX12_layAbout_10 : decode cX12_layAbout 10 = .ok (.istore_n 2, 1) := by decide +kernel
theorem dX12_layAbout_11 : decode cX12_layAbout 11 = .ok (.iload_n 2, 1) := by decide +kernel
theorem dX12_layAbout_12 : decode cX12_layAbout 12 = .ok (.ifCond .lt 122, 3) := by decide +kernel
theorem dX12_layAbout_15 : decode cX12_layAbout 15 = .ok (.iconst 0, 1) := by decide +kernel
theorem dX12_layAbout_16 : decode cX12_layAbout 16 = .ok (.istore_n 3, 1) := by decide +kernel
theorem dX12_layAbout_17 : decode cX12_layAbout 17 = .ok (.iload_n 3, 1) := by decide +kernel
theorem dX12_layAbout_18 : decode cX12_layAbout 18 = .ok (.bipush 64, 2) := by decide +kernel
theorem dX12_layAbout_20 : decode cX12_layAbout 20 = .ok (.if_icmp .ge 108, 3) := by decide +kernel
theorem dX12_layAbout_23 : decode cX12_layAbout 23 = .ok (.iload_n 2, 1) := by decide +kernel
theorem dX12_layAbout_24 : decode cX12_layAbout 24 = .ok (.aload_n 0, 1) := by decide +kernel
theorem dX12_layAbout_25 : decode cX12_layAbout 25 = .ok (.getfield 13, 3) := by decide +kernel
theorem dX12_layAbout_28 : decode cX12_layAbout 28 = .ok (.iconst 0, 1) := by decide +kernel
theorem dX12_layAbout_29 : decode cX12_layAbout 29 = .ok (.iaload, 1) := by decide +kernel
theorem dX12_layAbout_30 : decode cX12_layAbout 30 = .ok (.if_icmp .ne 7, 3) := by decide +kernel
theorem dX12_layAbout_33 : decode cX12_layAbout 33 = .ok (.iconst 0, 1) := by decide +kernel
theorem dX12_layAbout_34 : decode cX12_layAbout 34 = .ok (.goto 16, 3) := by decide +kernel
theorem dX12_layAbout_37 : decode cX12_layAbout 37 = .ok (.aload_n 0, 1) := by decide +kernel
theorem dX12_layAbout_38 : decode cX12_layAbout 38 = .ok (.getfield 125, 3) := by decide +kernel
theorem dX12_layAbout_41 : decode cX12_layAbout 41 = .ok (.bipush 64, 2) := by decide +kernel
theorem dX12_layAbout_43 : decode cX12_layAbout 43 = .ok (.iload_n 2, 1) := by decide +kernel
theorem dX12_layAbout_44 : decode cX12_layAbout 44 = .ok (.iconst 1, 1) := by decide +kernel
theorem dX12_layAbout_45 : decode cX12_layAbout 45 = .ok (.iadd, 1) := by decide +kernel
theorem dX12_layAbout_46 : decode cX12_layAbout 46 = .ok (.imul, 1) := by decide +kernel
theorem dX12_layAbout_47 : decode cX12_layAbout 47 = .ok (.iload_n 3, 1) := by decide +kernel
theorem dX12_layAbout_48 : decode cX12_layAbout 48 = .ok (.iadd, 1) := by decide +kernel
theorem dX12_layAbout_49 : decode cX12_layAbout 49 = .ok (.iaload, 1) := by decide +kernel
theorem dX12_layAbout_50 : decode cX12_layAbout 50 = .ok (.istore 4, 2) := by decide +kernel
theorem dX12_layAbout_52 : decode cX12_layAbout 52 = .ok (.iconst 0, 1) := by decide +kernel
theorem dX12_layAbout_53 : decode cX12_layAbout 53 = .ok (.istore 5, 2) := by decide +kernel
theorem dX12_layAbout_55 : decode cX12_layAbout 55 = .ok (.iload 5, 2) := by decide +kernel
theorem dX12_layAbout_57 : decode cX12_layAbout 57 = .ok (.aload_n 0, 1) := by decide +kernel
theorem dX12_layAbout_58 : decode cX12_layAbout 58 = .ok (.getfield 13, 3) := by decide +kernel
theorem dX12_layAbout_61 : decode cX12_layAbout 61 = .ok (.iconst 1, 1) := by decide +kernel
theorem dX12_layAbout_62 : decode cX12_layAbout 62 = .ok (.iaload, 1) := by decide +kernel
theorem dX12_layAbout_63 : decode cX12_layAbout 63 = .ok (.if_icmp .ge 46, 3) := by decide +kernel
theorem dX12_layAbout_66 : decode cX12_layAbout 66 = .ok (.iload_n 2, 1) := by decide +kernel
theorem dX12_layAbout_67 : decode cX12_layAbout 67 = .ok (.aload_n 0, 1) := by decide +kernel
theorem dX12_layAbout_68 : decode cX12_layAbout 68 = .ok (.getfield 13, 3) := by decide +kernel
theorem dX12_layAbout_71 : decode cX12_layAbout 71 = .ok (.iconst 0, 1) := by decide +kernel
theorem dX12_layAbout_72 : decode cX12_layAbout 72 = .ok (.iaload, 1) := by decide +kernel
theorem dX12_layAbout_73 : decode cX12_layAbout 73 = .ok (.if_icmp .ge 36, 3) := by decide +kernel
theorem dX12_layAbout_76 : decode cX12_layAbout 76 = .ok (.aload_n 0, 1) := by decide +kernel
theorem dX12_layAbout_77 : decode cX12_layAbout 77 = .ok (.iload_n 2, 1) := by decide +kernel
theorem dX12_layAbout_78 : decode cX12_layAbout 78 = .ok (.iload_n 3, 1) := by decide +kernel
theorem dX12_layAbout_79 : decode cX12_layAbout 79 = .ok (.iload 5, 2) := by decide +kernel
theorem dX12_layAbout_81 : decode cX12_layAbout 81 = .ok (.iload_n 1, 1) := by decide +kernel
theorem dX12_layAbout_82 : decode cX12_layAbout 82 = .ok (.invokevirtual 501, 3) := by decide +kernel
theorem dX12_layAbout_85 : decode cX12_layAbout 85 = .ok (.istore 6, 2) := by decide +kernel
theorem dX12_layAbout_87 : decode cX12_layAbout 87 = .ok (.iload 6, 2) := by decide +kernel
theorem dX12_layAbout_89 : decode cX12_layAbout 89 = .ok (.iload 4, 2) := by decide +kernel
theorem dX12_layAbout_91 : decode cX12_layAbout 91 = .ok (.if_icmp .le 8, 3) := by decide +kernel
theorem dX12_layAbout_94 : decode cX12_layAbout 94 = .ok (.iload 6, 2) := by decide +kernel
theorem dX12_layAbout_96 : decode cX12_layAbout 96 = .ok (.goto 5, 3) := by decide +kernel
theorem dX12_layAbout_99 : decode cX12_layAbout 99 = .ok (.iload 4, 2) := by decide +kernel
theorem dX12_layAbout_101 : decode cX12_layAbout 101 = .ok (.istore 4, 2) := by decide +kernel
theorem dX12_layAbout_103 : decode cX12_layAbout 103 = .ok (.iinc 5 1, 3) := by decide +kernel
theorem dX12_layAbout_106 : decode cX12_layAbout 106 = .ok (.goto (-51), 3) := by decide +kernel
theorem dX12_layAbout_109 : decode cX12_layAbout 109 = .ok (.aload_n 0, 1) := by decide +kernel
theorem dX12_layAbout_110 : decode cX12_layAbout 110 = .ok (.getfield 125, 3) := by decide +kernel
theorem dX12_layAbout_113 : decode cX12_layAbout 113 = .ok (.bipush 64, 2) := by decide +kernel
theorem dX12_layAbout_115 : decode cX12_layAbout 115 = .ok (.iload_n 2, 1) := by decide +kernel
theorem dX12_layAbout_116 : decode cX12_layAbout 116 = .ok (.imul, 1) := by decide +kernel
theorem dX12_layAbout_117 : decode cX12_layAbout 117 = .ok (.iload_n 3, 1) := by decide +kernel
theorem dX12_layAbout_118 : decode cX12_layAbout 118 = .ok (.iadd, 1) := by decide +kernel
theorem dX12_layAbout_119 : decode cX12_layAbout 119 = .ok (.iload 4, 2) := by decide +kernel
theorem dX12_layAbout_121 : decode cX12_layAbout 121 = .ok (.iastore, 1) := by decide +kernel
theorem dX12_layAbout_122 : decode cX12_layAbout 122 = .ok (.iinc 3 1, 3) := by decide +kernel
theorem dX12_layAbout_125 : decode cX12_layAbout 125 = .ok (.goto (-108), 3) := by decide +kernel
theorem dX12_layAbout_128 : decode cX12_layAbout 128 = .ok (.iinc 2 (-1), 3) := by decide +kernel
theorem dX12_layAbout_131 : decode cX12_layAbout 131 = .ok (.goto (-120), 3) := by decide +kernel
theorem dX12_layAbout_134 : decode cX12_layAbout 134 = .ok (.return_, 1) := by decide +kernel
theorem dX12_about_0 : decode cX12_about 0 = .ok (.aload_n 0, 1) := by decide +kernel
theorem dX12_about_1 : decode cX12_about 1 = .ok (.iconst 0, 1) := by decide +kernel
theorem dX12_about_2 : decode cX12_about 2 = .ok (.putfield 175, 3) := by decide +kernel
theorem dX12_about_5 : decode cX12_about 5 = .ok (.iload_n 1, 1) := by decide +kernel
theorem dX12_about_6 : decode cX12_about 6 = .ok (.i2l, 1) := by decide +kernel
theorem dX12_about_7 : decode cX12_about 7 = .ok (.lconst 0, 1) := by decide +kernel
theorem dX12_about_8 : decode cX12_about 8 = .ok (.ldc2_w 239, 3) := by decide +kernel
theorem dX12_about_11 : decode cX12_about 11 = .ok (.invokestatic 195, 3) := by decide +kernel
theorem dX12_about_14 : decode cX12_about 14 = .ok (.ifCond .eq 21, 3) := by decide +kernel
theorem dX12_about_17 : decode cX12_about 17 = .ok (.iload_n 2, 1) := by decide +kernel
theorem dX12_about_18 : decode cX12_about 18 = .ok (.i2l, 1) := by decide +kernel
theorem dX12_about_19 : decode cX12_about 19 = .ok (.lconst 0, 1) := by decide +kernel
theorem dX12_about_20 : decode cX12_about 20 = .ok (.lconst 1, 1) := by decide +kernel
theorem dX12_about_21 : decode cX12_about 21 = .ok (.aload_n 0, 1) := by decide +kernel
theorem dX12_about_22 : decode cX12_about 22 = .ok (.getfield 13, 3) := by decide +kernel
theorem dX12_about_25 : decode cX12_about 25 = .ok (.iconst 0, 1) := by decide +kernel
theorem dX12_about_26 : decode cX12_about 26 = .ok (.iaload, 1) := by decide +kernel
theorem dX12_about_27 : decode cX12_about 27 = .ok (.i2l, 1) := by decide +kernel
theorem dX12_about_28 : decode cX12_about 28 = .ok (.ladd, 1) := by decide +kernel
theorem dX12_about_29 : decode cX12_about 29 = .ok (.invokestatic 195, 3) := by decide +kernel
theorem dX12_about_32 : decode cX12_about 32 = .ok (.ifCond .ne 5, 3) := by decide +kernel
theorem dX12_about_35 : decode cX12_about 35 = .ok (.iconst (-1), 1) := by decide +kernel
theorem dX12_about_36 : decode cX12_about 36 = .ok (.ireturn, 1) := by decide +kernel
theorem dX12_about_37 : decode cX12_about 37 = .ok (.aload_n 0, 1) := by decide +kernel
theorem dX12_about_38 : decode cX12_about 38 = .ok (.iload_n 1, 1) := by decide +kernel
theorem dX12_about_39 : decode cX12_about 39 = .ok (.invokevirtual 505, 3) := by decide +kernel
theorem dX12_about_42 : decode cX12_about 42 = .ok (.aload_n 0, 1) := by decide +kernel
theorem dX12_about_43 : decode cX12_about 43 = .ok (.getfield 125, 3) := by decide +kernel
theorem dX12_about_46 : decode cX12_about 46 = .ok (.iconst 0, 1) := by decide +kernel
theorem dX12_about_47 : decode cX12_about 47 = .ok (.iaload, 1) := by decide +kernel
theorem dX12_about_48 : decode cX12_about 48 = .ok (.sipush 1000, 3) := by decide +kernel
theorem dX12_about_51 : decode cX12_about 51 = .ok (.iadd, 1) := by decide +kernel
theorem dX12_about_52 : decode cX12_about 52 = .ok (.iconst 1, 1) := by decide +kernel
theorem dX12_about_53 : decode cX12_about 53 = .ok (.isub, 1) := by decide +kernel
theorem dX12_about_54 : decode cX12_about 54 = .ok (.sipush 1000, 3) := by decide +kernel
theorem dX12_about_57 : decode cX12_about 57 = .ok (.idiv, 1) := by decide +kernel
theorem dX12_about_58 : decode cX12_about 58 = .ok (.istore_n 3, 1) := by decide +kernel
theorem dX12_about_59 : decode cX12_about 59 = .ok (.iload_n 2, 1) := by decide +kernel
theorem dX12_about_60 : decode cX12_about 60 = .ok (.iconst 2, 1) := by decide +kernel
theorem dX12_about_61 : decode cX12_about 61 = .ok (.if_icmp .ge 24, 3) := by decide +kernel
theorem dX12_about_64 : decode cX12_about 64 = .ok (.iload_n 2, 1) := by decide +kernel
theorem dX12_about_65 : decode cX12_about 65 = .ok (.ifCond .ne 7, 3) := by decide +kernel
theorem dX12_about_68 : decode cX12_about 68 = .ok (.iload_n 3, 1) := by decide +kernel
theorem dX12_about_69 : decode cX12_about 69 = .ok (.goto 15, 3) := by decide +kernel
theorem dX12_about_72 : decode cX12_about 72 = .ok (.sipush 1000, 3) := by decide +kernel
theorem dX12_about_75 : decode cX12_about 75 = .ok (.iload_n 3, 1) := by decide +kernel
theorem dX12_about_76 : decode cX12_about 76 = .ok (.imul, 1) := by decide +kernel
theorem dX12_about_77 : decode cX12_about 77 = .ok (.aload_n 0, 1) := by decide +kernel
theorem dX12_about_78 : decode cX12_about 78 = .ok (.getfield 125, 3) := by decide +kernel
theorem dX12_about_81 : decode cX12_about 81 = .ok (.iconst 0, 1) := by decide +kernel
theorem dX12_about_82 : decode cX12_about 82 = .ok (.iaload, 1) := by decide +kernel
theorem dX12_about_83 : decode cX12_about 83 = .ok (.isub, 1) := by decide +kernel
theorem dX12_about_84 : decode cX12_about 84 = .ok (.ireturn, 1) := by decide +kernel
theorem dX12_about_85 : decode cX12_about 85 = .ok (.iconst 0, 1) := by decide +kernel
theorem dX12_about_86 : decode cX12_about 86 = .ok (.istore 4, 2) := by decide +kernel
theorem dX12_about_88 : decode cX12_about 88 = .ok (.iconst (-1), 1) := by decide +kernel
theorem dX12_about_89 : decode cX12_about 89 = .ok (.istore 5, 2) := by decide +kernel
theorem dX12_about_91 : decode cX12_about 91 = .ok (.iconst 0, 1) := by decide +kernel
theorem dX12_about_92 : decode cX12_about 92 = .ok (.istore 6, 2) := by decide +kernel
theorem dX12_about_94 : decode cX12_about 94 = .ok (.iload 6, 2) := by decide +kernel
theorem dX12_about_96 : decode cX12_about 96 = .ok (.iload_n 2, 1) := by decide +kernel
theorem dX12_about_97 : decode cX12_about 97 = .ok (.iconst 2, 1) := by decide +kernel
theorem dX12_about_98 : decode cX12_about 98 = .ok (.isub, 1) := by decide +kernel
theorem dX12_about_99 : decode cX12_about 99 = .ok (.if_icmp .gt 118, 3) := by decide +kernel
theorem dX12_about_102 : decode cX12_about 102 = .ok (.iconst 0, 1) := by decide +kernel
theorem dX12_about_103 : decode cX12_about 103 = .ok (.istore 7, 2) := by decide +kernel
theorem dX12_about_105 : decode cX12_about 105 = .ok (.iload 7, 2) := by decide +kernel
theorem dX12_about_107 : decode cX12_about 107 = .ok (.aload_n 0, 1) := by decide +kernel
theorem dX12_about_108 : decode cX12_about 108 = .ok (.getfield 13, 3) := by decide +kernel
theorem dX12_about_111 : decode cX12_about 111 = .ok (.iconst 1, 1) := by decide +kernel
theorem dX12_about_112 : decode cX12_about 112 = .ok (.iaload, 1) := by decide +kernel
theorem dX12_about_113 : decode cX12_about 113 = .ok (.if_icmp .ge 36, 3) := by decide +kernel
theorem dX12_about_116 : decode cX12_about 116 = .ok (.aload_n 0, 1) := by decide +kernel
theorem dX12_about_117 : decode cX12_about 117 = .ok (.iload 6, 2) := by decide +kernel
theorem dX12_about_119 : decode cX12_about 119 = .ok (.iload 4, 2) := by decide +kernel
theorem dX12_about_121 : decode cX12_about 121 = .ok (.iload 7, 2) := by decide +kernel
theorem dX12_about_123 : decode cX12_about 123 = .ok (.iload_n 1, 1) := by decide +kernel
theorem dX12_about_124 : decode cX12_about 124 = .ok (.invokevirtual 501, 3) := by decide +kernel
theorem dX12_about_127 : decode cX12_about 127 = .ok (.aload_n 0, 1) := by decide +kernel
theorem dX12_about_128 : decode cX12_about 128 = .ok (.getfield 125, 3) := by decide +kernel
theorem dX12_about_131 : decode cX12_about 131 = .ok (.bipush 64, 2) := by decide +kernel
theorem dX12_about_133 : decode cX12_about 133 = .ok (.iload 6, 2) := by decide +kernel
theorem dX12_about_135 : decode cX12_about 135 = .ok (.imul, 1) := by decide +kernel
theorem dX12_about_136 : decode cX12_about 136 = .ok (.iload 4, 2) := by decide +kernel
theorem dX12_about_138 : decode cX12_about 138 = .ok (.iadd, 1) := by decide +kernel
theorem dX12_about_139 : decode cX12_about 139 = .ok (.iaload, 1) := by decide +kernel
theorem dX12_about_140 : decode cX12_about 140 = .ok (.if_icmp .eq 9, 3) := by decide +kernel
theorem dX12_about_143 : decode cX12_about 143 = .ok (.iinc 7 1, 3) := by decide +kernel
theorem dX12_about_146 : decode cX12_about 146 = .ok (.goto (-41), 3) := by decide +kernel
theorem dX12_about_149 : decode cX12_about 149 = .ok (.aload_n 0, 1) := by decide +kernel
theorem dX12_about_150 : decode cX12_about 150 = .ok (.getfield 13, 3) := by decide +kernel
theorem dX12_about_153 : decode cX12_about 153 = .ok (.bipush 68, 2) := by decide +kernel
theorem dX12_about_155 : decode cX12_about 155 = .ok (.iload 6, 2) := by decide +kernel
theorem dX12_about_157 : decode cX12_about 157 = .ok (.iadd, 1) := by decide +kernel
theorem dX12_about_158 : decode cX12_about 158 = .ok (.iaload, 1) := by decide +kernel
theorem dX12_about_159 : decode cX12_about 159 = .ok (.iconst (-1), 1) := by decide +kernel
theorem dX12_about_160 : decode cX12_about 160 = .ok (.if_icmp .eq 7, 3) := by decide +kernel
theorem dX12_about_163 : decode cX12_about 163 = .ok (.iconst (-1), 1) := by decide +kernel
theorem dX12_about_164 : decode cX12_about 164 = .ok (.goto 21, 3) := by decide +kernel
theorem dX12_about_167 : decode cX12_about 167 = .ok (.iload 7, 2) := by decide +kernel
theorem dX12_about_169 : decode cX12_about 169 = .ok (.aload_n 0, 1) := by decide +kernel
theorem dX12_about_170 : decode cX12_about 170 = .ok (.getfield 13, 3) := by decide +kernel
theorem dX12_about_173 : decode cX12_about 173 = .ok (.iconst 1, 1) := by decide +kernel
theorem dX12_about_174 : decode cX12_about 174 = .ok (.iaload, 1) := by decide +kernel
theorem dX12_about_175 : decode cX12_about 175 = .ok (.if_icmp .ge 8, 3) := by decide +kernel
theorem dX12_about_178 : decode cX12_about 178 = .ok (.iload 7, 2) := by decide +kernel
theorem dX12_about_180 : decode cX12_about 180 = .ok (.goto 5, 3) := by decide +kernel
theorem dX12_about_183 : decode cX12_about 183 = .ok (.bipush 100, 2) := by decide +kernel
theorem dX12_about_185 : decode cX12_about 185 = .ok (.istore 5, 2) := by decide +kernel
theorem dX12_about_187 : decode cX12_about 187 = .ok (.iload 4, 2) := by decide +kernel
theorem dX12_about_189 : decode cX12_about 189 = .ok (.iload 7, 2) := by decide +kernel
theorem dX12_about_191 : decode cX12_about 191 = .ok (.aload_n 0, 1) := by decide +kernel
theorem dX12_about_192 : decode cX12_about 192 = .ok (.getfield 13, 3) := by decide +kernel
theorem dX12_about_195 : decode cX12_about 195 = .ok (.iconst 1, 1) := by decide +kernel
theorem dX12_about_196 : decode cX12_about 196 = .ok (.iaload, 1) := by decide +kernel
theorem dX12_about_197 : decode cX12_about 197 = .ok (.if_icmp .ge 10, 3) := by decide +kernel
theorem dX12_about_200 : decode cX12_about 200 = .ok (.iconst 1, 1) := by decide +kernel
theorem dX12_about_201 : decode cX12_about 201 = .ok (.iload 7, 2) := by decide +kernel
theorem dX12_about_203 : decode cX12_about 203 = .ok (.ishl, 1) := by decide +kernel
theorem dX12_about_204 : decode cX12_about 204 = .ok (.goto 4, 3) := by decide +kernel
theorem dX12_about_207 : decode cX12_about 207 = .ok (.iconst 0, 1) := by decide +kernel
theorem dX12_about_208 : decode cX12_about 208 = .ok (.ior, 1) := by decide +kernel
theorem dX12_about_209 : decode cX12_about 209 = .ok (.istore 4, 2) := by decide +kernel
theorem dX12_about_211 : decode cX12_about 211 = .ok (.iinc 6 1, 3) := by decide +kernel
theorem dX12_about_214 : decode cX12_about 214 = .ok (.goto (-120), 3) := by decide +kernel
theorem dX12_about_217 : decode cX12_about 217 = .ok (.iload 5, 2) := by decide +kernel
theorem dX12_about_219 : decode cX12_about 219 = .ok (.ireturn, 1) := by decide +kernel
theorem dX12_leastNext_0 : decode cX12_leastNext 0 = .ok (.ldc_w 487, 3) := by decide +kernel
theorem dX12_leastNext_3 : decode cX12_leastNext 3 = .ok (.istore 4, 2) := by decide +kernel
theorem dX12_leastNext_5 : decode cX12_leastNext 5 = .ok (.iconst 0, 1) := by decide +kernel
theorem dX12_leastNext_6 : decode cX12_leastNext 6 = .ok (.istore 5, 2) := by decide +kernel
theorem dX12_leastNext_8 : decode cX12_leastNext 8 = .ok (.iload 5, 2) := by decide +kernel
theorem dX12_leastNext_10 : decode cX12_leastNext 10 = .ok (.sipush 256, 3) := by decide +kernel
theorem dX12_leastNext_13 : decode cX12_leastNext 13 = .ok (.if_icmp .ge 57, 3) := by decide +kernel
theorem dX12_leastNext_16 : decode cX12_leastNext 16 = .ok (.iload_n 2, 1) := by decide +kernel
theorem dX12_leastNext_17 : decode cX12_leastNext 17 = .ok (.iload 5, 2) := by decide +kernel
theorem dX12_leastNext_19 : decode cX12_leastNext 19 = .ok (.ixor, 1) := by decide +kernel
theorem dX12_leastNext_20 : decode cX12_leastNext 20 = .ok (.invokestatic 208, 3) := by decide +kernel
theorem dX12_leastNext_23 : decode cX12_leastNext 23 = .ok (.iload_n 3, 1) := by decide +kernel
theorem dX12_leastNext_24 : decode cX12_leastNext 24 = .ok (.if_icmp .gt 40, 3) := by decide +kernel
theorem dX12_leastNext_27 : decode cX12_leastNext 27 = .ok (.aload_n 0, 1) := by decide +kernel
theorem dX12_leastNext_28 : decode cX12_leastNext 28 = .ok (.getfield 128, 3) := by decide +kernel
theorem dX12_leastNext_31 : decode cX12_leastNext 31 = .ok (.sipush 256, 3) := by decide +kernel
theorem dX12_leastNext_34 : decode cX12_leastNext 34 = .ok (.iload_n 1, 1) := by decide +kernel
theorem dX12_leastNext_35 : decode cX12_leastNext 35 = .ok (.iconst 1, 1) := by decide +kernel
theorem dX12_leastNext_36 : decode cX12_leastNext 36 = .ok (.iadd, 1) := by decide +kernel
theorem dX12_leastNext_37 : decode cX12_leastNext 37 = .ok (.imul, 1) := by decide +kernel
theorem dX12_leastNext_38 : decode cX12_leastNext 38 = .ok (.iload 5, 2) := by decide +kernel
theorem dX12_leastNext_40 : decode cX12_leastNext 40 = .ok (.iadd, 1) := by decide +kernel
theorem dX12_leastNext_41 : decode cX12_leastNext 41 = .ok (.iaload, 1) := by decide +kernel
theorem dX12_leastNext_42 : decode cX12_leastNext 42 = .ok (.iload 4, 2) := by decide +kernel
theorem dX12_leastNext_44 : decode cX12_leastNext 44 = .ok (.if_icmp .ge 20, 3) := by decide +kernel
theorem dX12_leastNext_47 : decode cX12_leastNext 47 = .ok (.aload_n 0, 1) := by decide +kernel
theorem dX12_leastNext_48 : decode cX12_leastNext 48 = .ok (.getfield 128, 3) := by decide +kernel
theorem dX12_leastNext_51 : decode cX12_leastNext 51 = .ok (.sipush 256, 3) := by decide +kernel
theorem dX12_leastNext_54 : decode cX12_leastNext 54 = .ok (.iload_n 1, 1) := by decide +kernel
theorem dX12_leastNext_55 : decode cX12_leastNext 55 = .ok (.iconst 1, 1) := by decide +kernel
theorem dX12_leastNext_56 : decode cX12_leastNext 56 = .ok (.iadd, 1) := by decide +kernel
theorem dX12_leastNext_57 : decode cX12_leastNext 57 = .ok (.imul, 1) := by decide +kernel
theorem dX12_leastNext_58 : decode cX12_leastNext 58 = .ok (.iload 5, 2) := by decide +kernel
theorem dX12_leastNext_60 : decode cX12_leastNext 60 = .ok (.iadd, 1) := by decide +kernel
theorem dX12_leastNext_61 : decode cX12_leastNext 61 = .ok (.iaload, 1) := by decide +kernel
theorem dX12_leastNext_62 : decode cX12_leastNext 62 = .ok (.istore 4, 2) := by decide +kernel
theorem dX12_leastNext_64 : decode cX12_leastNext 64 = .ok (.iinc 5 1, 3) := by decide +kernel
theorem dX12_leastNext_67 : decode cX12_leastNext 67 = .ok (.goto (-59), 3) := by decide +kernel
theorem dX12_leastNext_70 : decode cX12_leastNext 70 = .ok (.iload 4, 2) := by decide +kernel
theorem dX12_leastNext_72 : decode cX12_leastNext 72 = .ok (.ireturn, 1) := by decide +kernel
theorem dX12_layMore_0 : decode cX12_layMore 0 = .ok (.bipush 7, 2) := by decide +kernel
theorem dX12_layMore_2 : decode cX12_layMore 2 = .ok (.istore_n 3, 1) := by decide +kernel
theorem dX12_layMore_3 : decode cX12_layMore 3 = .ok (.iload_n 3, 1) := by decide +kernel
theorem dX12_layMore_4 : decode cX12_layMore 4 = .ok (.ifCond .lt 111, 3) := by decide +kernel
theorem dX12_layMore_7 : decode cX12_layMore 7 = .ok (.aload_n 0, 1) := by decide +kernel
theorem dX12_layMore_8 : decode cX12_layMore 8 = .ok (.getfield 13, 3) := by decide +kernel
theorem dX12_layMore_11 : decode cX12_layMore 11 = .ok (.bipush 8, 2) := by decide +kernel
theorem dX12_layMore_13 : decode cX12_layMore 13 = .ok (.bipush 8, 2) := by decide +kernel
theorem dX12_layMore_15 : decode cX12_layMore 15 = .ok (.iload_n 1, 1) := by decide +kernel
theorem dX12_layMore_16 : decode cX12_layMore 16 = .ok (.imul, 1) := by decide +kernel
theorem dX12_layMore_17 : decode cX12_layMore 17 = .ok (.iadd, 1) := by decide +kernel
theorem dX12_layMore_18 : decode cX12_layMore 18 = .ok (.iload_n 3, 1) := by decide +kernel
theorem dX12_layMore_19 : decode cX12_layMore 19 = .ok (.iadd, 1) := by decide +kernel
theorem dX12_layMore_20 : decode cX12_layMore 20 = .ok (.iaload, 1) := by decide +kernel
theorem dX12_layMore_21 : decode cX12_layMore 21 = .ok (.istore 4, 2) := by decide +kernel
theorem dX12_layMore_23 : decode cX12_layMore 23 = .ok (.iconst 0, 1) := by decide +kernel
theorem dX12_layMore_24 : decode cX12_layMore 24 = .ok (.istore 5, 2) := by decide +kernel
theorem dX12_layMore_26 : decode cX12_layMore 26 = .ok (.iload 5, 2) := by decide +kernel
theorem dX12_layMore_28 : decode cX12_layMore 28 = .ok (.sipush 256, 3) := by decide +kernel
theorem dX12_layMore_31 : decode cX12_layMore 31 = .ok (.if_icmp .ge 78, 3) := by decide +kernel
theorem dX12_layMore_34 : decode cX12_layMore 34 = .ok (.aload_n 0, 1) := by decide +kernel
theorem dX12_layMore_35 : decode cX12_layMore 35 = .ok (.getfield 128, 3) := by decide +kernel
theorem dX12_layMore_38 : decode cX12_layMore 38 = .ok (.sipush 256, 3) := by decide +kernel
theorem dX12_layMore_41 : decode cX12_layMore 41 = .ok (.iload_n 3, 1) := by decide +kernel
theorem dX12_layMore_42 : decode cX12_layMore 42 = .ok (.imul, 1) := by decide +kernel
theorem dX12_layMore_43 : decode cX12_layMore 43 = .ok (.iload 5, 2) := by decide +kernel
theorem dX12_layMore_45 : decode cX12_layMore 45 = .ok (.iadd, 1) := by decide +kernel
theorem dX12_layMore_46 : decode cX12_layMore 46 = .ok (.ldc_w 487, 3) := by decide +kernel
theorem dX12_layMore_49 : decode cX12_layMore 49 = .ok (.iastore, 1) := by decide +kernel
theorem dX12_layMore_50 : decode cX12_layMore 50 = .ok (.iload 5, 2) := by decide +kernel
theorem dX12_layMore_52 : decode cX12_layMore 52 = .ok (.iload 4, 2) := by decide +kernel
theorem dX12_layMore_54 : decode cX12_layMore 54 = .ok (.iand, 1) := by decide +kernel
theorem dX12_layMore_55 : decode cX12_layMore 55 = .ok (.iload 4, 2) := by decide +kernel
theorem dX12_layMore_57 : decode cX12_layMore 57 = .ok (.if_icmp .ne 46, 3) := by decide +kernel
theorem dX12_layMore_60 : decode cX12_layMore 60 = .ok (.aload_n 0, 1) := by decide +kernel
theorem dX12_layMore_61 : decode cX12_layMore 61 = .ok (.getfield 128, 3) := by decide +kernel
theorem dX12_layMore_64 : decode cX12_layMore 64 = .ok (.sipush 256, 3) := by decide +kernel
theorem dX12_layMore_67 : decode cX12_layMore 67 = .ok (.iload_n 3, 1) := by decide +kernel
theorem dX12_layMore_68 : decode cX12_layMore 68 = .ok (.imul, 1) := by decide +kernel
theorem dX12_layMore_69 : decode cX12_layMore 69 = .ok (.iload 5, 2) := by decide +kernel
theorem dX12_layMore_71 : decode cX12_layMore 71 = .ok (.iadd, 1) := by decide +kernel
theorem dX12_layMore_72 : decode cX12_layMore 72 = .ok (.iload 5, 2) := by decide +kernel
theorem dX12_layMore_74 : decode cX12_layMore 74 = .ok (.invokestatic 208, 3) := by decide +kernel
theorem dX12_layMore_77 : decode cX12_layMore 77 = .ok (.iload 4, 2) := by decide +kernel
theorem dX12_layMore_79 : decode cX12_layMore 79 = .ok (.invokestatic 208, 3) := by decide +kernel
theorem dX12_layMore_82 : decode cX12_layMore 82 = .ok (.isub, 1) := by decide +kernel
theorem dX12_layMore_83 : decode cX12_layMore 83 = .ok (.iload_n 3, 1) := by decide +kernel
theorem dX12_layMore_84 : decode cX12_layMore 84 = .ok (.bipush 7, 2) := by decide +kernel
theorem dX12_layMore_86 : decode cX12_layMore 86 = .ok (.if_icmp .ne 7, 3) := by decide +kernel
theorem dX12_layMore_89 : decode cX12_layMore 89 = .ok (.iconst 0, 1) := by decide +kernel
theorem dX12_layMore_90 : decode cX12_layMore 90 = .ok (.goto 11, 3) := by decide +kernel
theorem dX12_layMore_93 : decode cX12_layMore 93 = .ok (.aload_n 0, 1) := by decide +kernel
theorem dX12_layMore_94 : decode cX12_layMore 94 = .ok (.iload_n 3, 1) := by decide +kernel
theorem dX12_layMore_95 : decode cX12_layMore 95 = .ok (.iload 5, 2) := by decide +kernel
theorem dX12_layMore_97 : decode cX12_layMore 97 = .ok (.iload_n 2, 1) := by decide +kernel
theorem dX12_layMore_98 : decode cX12_layMore 98 = .ok (.invokevirtual 508, 3) := by decide +kernel
theorem dX12_layMore_101 : decode cX12_layMore 101 = .ok (.iadd, 1) := by decide +kernel
theorem dX12_layMore_102 : decode cX12_layMore 102 = .ok (.iastore, 1) := by decide +kernel
theorem dX12_layMore_103 : decode cX12_layMore 103 = .ok (.iinc 5 1, 3) := by decide +kernel
theorem dX12_layMore_106 : decode cX12_layMore 106 = .ok (.goto (-80), 3) := by decide +kernel
theorem dX12_layMore_109 : decode cX12_layMore 109 = .ok (.iinc 3 (-1), 3) := by decide +kernel
theorem dX12_layMore_112 : decode cX12_layMore 112 = .ok (.goto (-109), 3) := by decide +kernel
theorem dX12_layMore_115 : decode cX12_layMore 115 = .ok (.return_, 1) := by decide +kernel
theorem dX12_keep_0 : decode cX12_keep 0 = .ok (.aload_n 0, 1) := by decide +kernel
theorem dX12_keep_1 : decode cX12_keep 1 = .ok (.iconst 0, 1) := by decide +kernel
theorem dX12_keep_2 : decode cX12_keep 2 = .ok (.putfield 175, 3) := by decide +kernel
theorem dX12_keep_5 : decode cX12_keep 5 = .ok (.aload_n 0, 1) := by decide +kernel
theorem dX12_keep_6 : decode cX12_keep 6 = .ok (.iload_n 1, 1) := by decide +kernel
theorem dX12_keep_7 : decode cX12_keep 7 = .ok (.invokevirtual 213, 3) := by decide +kernel
theorem dX12_keep_10 : decode cX12_keep 10 = .ok (.ifCond .eq 27, 3) := by decide +kernel
theorem dX12_keep_13 : decode cX12_keep 13 = .ok (.iload_n 2, 1) := by decide +kernel
theorem dX12_keep_14 : decode cX12_keep 14 = .ok (.i2l, 1) := by decide +kernel
theorem dX12_keep_15 : decode cX12_keep 15 = .ok (.lconst 0, 1) := by decide +kernel
theorem dX12_keep_16 : decode cX12_keep 16 = .ok (.ldc2_w 511, 3) := by decide +kernel
theorem dX12_keep_19 : decode cX12_keep 19 = .ok (.invokestatic 195, 3) := by decide +kernel
theorem dX12_keep_22 : decode cX12_keep 22 = .ok (.ifCond .eq 15, 3) := by decide +kernel
theorem dX12_keep_25 : decode cX12_keep 25 = .ok (.iload_n 3, 1) := by decide +kernel
theorem dX12_keep_26 : decode cX12_keep 26 = .ok (.iconst (-1), 1) := by decide +kernel
theorem dX12_keep_27 : decode cX12_keep 27 = .ok (.if_icmp .eq 12, 3) := by decide +kernel
theorem dX12_keep_30 : decode cX12_keep 30 = .ok (.iload_n 3, 1) := by decide +kernel
theorem dX12_keep_31 : decode cX12_keep 31 = .ok (.invokestatic 228, 3) := by decide +kernel
theorem dX12_keep_34 : decode cX12_keep 34 = .ok (.ifCond .ne 5, 3) := by decide +kernel
theorem dX12_keep_37 : decode cX12_keep 37 = .ok (.iconst (-1), 1) := by decide +kernel
theorem dX12_keep_38 : decode cX12_keep 38 = .ok (.ireturn, 1) := by decide +kernel
theorem dX12_keep_39 : decode cX12_keep 39 = .ok (.aload_n 0, 1) := by decide +kernel
theorem dX12_keep_40 : decode cX12_keep 40 = .ok (.iload_n 1, 1) := by decide +kernel
theorem dX12_keep_41 : decode cX12_keep 41 = .ok (.iload_n 2, 1) := by decide +kernel
theorem dX12_keep_42 : decode cX12_keep 42 = .ok (.invokevirtual 513, 3) := by decide +kernel
theorem dX12_keep_45 : decode cX12_keep 45 = .ok (.ldc_w 487, 3) := by decide +kernel
theorem dX12_keep_48 : decode cX12_keep 48 = .ok (.istore 4, 2) := by decide +kernel
theorem dX12_keep_50 : decode cX12_keep 50 = .ok (.iconst 0, 1) := by decide +kernel
theorem dX12_keep_51 : decode cX12_keep 51 = .ok (.istore 5, 2) := by decide +kernel
theorem dX12_keep_53 : decode cX12_keep 53 = .ok (.iload 5, 2) := by decide +kernel
theorem dX12_keep_55 : decode cX12_keep 55 = .ok (.sipush 256, 3) := by decide +kernel
theorem dX12_keep_58 : decode cX12_keep 58 = .ok (.if_icmp .ge 35, 3) := by decide +kernel
theorem dX12_keep_61 : decode cX12_keep 61 = .ok (.aload_n 0, 1) := by decide +kernel
theorem dX12_keep_62 : decode cX12_keep 62 = .ok (.getfield 128, 3) := by decide +kernel
theorem dX12_keep_65 : decode cX12_keep 65 = .ok (.iload 5, 2) := by decide +kernel
theorem dX12_keep_67 : decode cX12_keep 67 = .ok (.iaload, 1) := by decide +kernel
theorem dX12_keep_68 : decode cX12_keep 68 = .ok (.iload 4, 2) := by decide +kernel
theorem dX12_keep_70 : decode cX12_keep 70 = .ok (.if_icmp .ge 13, 3) := by decide +kernel
theorem dX12_keep_73 : decode cX12_keep 73 = .ok (.aload_n 0, 1) := by decide +kernel
theorem dX12_keep_74 : decode cX12_keep 74 = .ok (.getfield 128, 3) := by decide +kernel
theorem dX12_keep_77 : decode cX12_keep 77 = .ok (.iload 5, 2) := by decide +kernel
theorem dX12_keep_79 : decode cX12_keep 79 = .ok (.iaload, 1) := by decide +kernel
theorem dX12_keep_80 : decode cX12_keep 80 = .ok (.goto 5, 3) := by decide +kernel
theorem dX12_keep_83 : decode cX12_keep 83 = .ok (.iload 4, 2) := by decide +kernel
theorem dX12_keep_85 : decode cX12_keep 85 = .ok (.istore 4, 2) := by decide +kernel
theorem dX12_keep_87 : decode cX12_keep 87 = .ok (.iinc 5 1, 3) := by decide +kernel
theorem dX12_keep_90 : decode cX12_keep 90 = .ok (.goto (-37), 3) := by decide +kernel
theorem dX12_keep_93 : decode cX12_keep 93 = .ok (.iload 4, 2) := by decide +kernel
theorem dX12_keep_95 : decode cX12_keep 95 = .ok (.istore 5, 2) := by decide +kernel
theorem dX12_keep_97 : decode cX12_keep 97 = .ok (.iconst 0, 1) := by decide +kernel
theorem dX12_keep_98 : decode cX12_keep 98 = .ok (.istore 6, 2) := by decide +kernel
theorem dX12_keep_100 : decode cX12_keep 100 = .ok (.iconst 0, 1) := by decide +kernel
theorem dX12_keep_101 : decode cX12_keep 101 = .ok (.istore 7, 2) := by decide +kernel
theorem dX12_keep_103 : decode cX12_keep 103 = .ok (.iload 7, 2) := by decide +kernel
theorem dX12_keep_105 : decode cX12_keep 105 = .ok (.iload_n 3, 1) := by decide +kernel
theorem dX12_keep_106 : decode cX12_keep 106 = .ok (.if_icmp .gt 91, 3) := by decide +kernel
theorem dX12_keep_109 : decode cX12_keep 109 = .ok (.iconst 0, 1) := by decide +kernel
theorem dX12_keep_110 : decode cX12_keep 110 = .ok (.istore 8, 2) := by decide +kernel
theorem dX12_keep_112 : decode cX12_keep 112 = .ok (.aload_n 0, 1) := by decide +kernel
theorem dX12_keep_113 : decode cX12_keep 113 = .ok (.getfield 128, 3) := by decide +kernel
theorem dX12_keep_116 : decode cX12_keep 116 = .ok (.sipush 256, 3) := by decide +kernel
theorem dX12_keep_119 : decode cX12_keep 119 = .ok (.iload 7, 2) := by decide +kernel
theorem dX12_keep_121 : decode cX12_keep 121 = .ok (.imul, 1) := by decide +kernel
theorem dX12_keep_122 : decode cX12_keep 122 = .ok (.iload 8, 2) := by decide +kernel
theorem dX12_keep_124 : decode cX12_keep 124 = .ok (.iadd, 1) := by decide +kernel
theorem dX12_keep_125 : decode cX12_keep 125 = .ok (.iaload, 1) := by decide +kernel
theorem dX12_keep_126 : decode cX12_keep 126 = .ok (.iload 4, 2) := by decide +kernel
theorem dX12_keep_128 : decode cX12_keep 128 = .ok (.if_icmp .ne 20, 3) := by decide +kernel
theorem dX12_keep_131 : decode cX12_keep 131 = .ok (.iload 7, 2) := by decide +kernel
theorem dX12_keep_133 : decode cX12_keep 133 = .ok (.ifCond .le 21, 3) := by decide +kernel
theorem dX12_keep_136 : decode cX12_keep 136 = .ok (.iload 6, 2) := by decide +kernel
theorem dX12_keep_138 : decode cX12_keep 138 = .ok (.iload 8, 2) := by decide +kernel
theorem dX12_keep_140 : decode cX12_keep 140 = .ok (.ixor, 1) := by decide +kernel
theorem dX12_keep_141 : decode cX12_keep 141 = .ok (.invokestatic 208, 3) := by decide +kernel
theorem dX12_keep_144 : decode cX12_keep 144 = .ok (.iload_n 2, 1) := by decide +kernel
theorem dX12_keep_145 : decode cX12_keep 145 = .ok (.if_icmp .le 9, 3) := by decide +kernel
theorem dX12_keep_148 : decode cX12_keep 148 = .ok (.iinc 8 1, 3) := by decide +kernel
theorem dX12_keep_151 : decode cX12_keep 151 = .ok (.goto (-39), 3) := by decide +kernel
theorem dX12_keep_154 : decode cX12_keep 154 = .ok (.iload 4, 2) := by decide +kernel
theorem dX12_keep_156 : decode cX12_keep 156 = .ok (.iload 8, 2) := by decide +kernel
theorem dX12_keep_158 : decode cX12_keep 158 = .ok (.invokestatic 208, 3) := by decide +kernel
theorem dX12_keep_161 : decode cX12_keep 161 = .ok (.aload_n 0, 1) := by decide +kernel
theorem dX12_keep_162 : decode cX12_keep 162 = .ok (.getfield 13, 3) := by decide +kernel
theorem dX12_keep_165 : decode cX12_keep 165 = .ok (.bipush 8, 2) := by decide +kernel
theorem dX12_keep_167 : decode cX12_keep 167 = .ok (.bipush 8, 2) := by decide +kernel
theorem dX12_keep_169 : decode cX12_keep 169 = .ok (.iload_n 1, 1) := by decide +kernel
theorem dX12_keep_170 : decode cX12_keep 170 = .ok (.imul, 1) := by decide +kernel
theorem dX12_keep_171 : decode cX12_keep 171 = .ok (.iadd, 1) := by decide +kernel
theorem dX12_keep_172 : decode cX12_keep 172 = .ok (.iload 7, 2) := by decide +kernel
theorem dX12_keep_174 : decode cX12_keep 174 = .ok (.iadd, 1) := by decide +kernel
theorem dX12_keep_175 : decode cX12_keep 175 = .ok (.iaload, 1) := by decide +kernel
theorem dX12_keep_176 : decode cX12_keep 176 = .ok (.invokestatic 208, 3) := by decide +kernel
theorem dX12_keep_179 : decode cX12_keep 179 = .ok (.isub, 1) := by decide +kernel
theorem dX12_keep_180 : decode cX12_keep 180 = .ok (.isub, 1) := by decide +kernel
theorem dX12_keep_181 : decode cX12_keep 181 = .ok (.istore 4, 2) := by decide +kernel
theorem dX12_keep_183 : decode cX12_keep 183 = .ok (.iload 8, 2) := by decide +kernel
theorem dX12_keep_185 : decode cX12_keep 185 = .ok (.istore 6, 2) := by decide +kernel
theorem dX12_keep_187 : decode cX12_keep 187 = .ok (.iload 8, 2) := by decide +kernel
theorem dX12_keep_189 : decode cX12_keep 189 = .ok (.istore 5, 2) := by decide +kernel
theorem dX12_keep_191 : decode cX12_keep 191 = .ok (.iinc 7 1, 3) := by decide +kernel
theorem dX12_keep_194 : decode cX12_keep 194 = .ok (.goto (-91), 3) := by decide +kernel
theorem dX12_keep_197 : decode cX12_keep 197 = .ok (.iload 5, 2) := by decide +kernel
theorem dX12_keep_199 : decode cX12_keep 199 = .ok (.ireturn, 1) := by decide +kernel
theorem dX12_layClash_0 : decode cX12_layClash 0 = .ok (.iconst 0, 1) := by decide +kernel
theorem dX12_layClash_1 : decode cX12_layClash 1 = .ok (.istore 4, 2) := by decide +kernel
theorem dX12_layClash_3 : decode cX12_layClash 3 = .ok (.iconst 0, 1) := by decide +kernel
theorem dX12_layClash_4 : decode cX12_layClash 4 = .ok (.istore 5, 2) := by decide +kernel
theorem dX12_layClash_6 : decode cX12_layClash 6 = .ok (.iload 5, 2) := by decide +kernel
theorem dX12_layClash_8 : decode cX12_layClash 8 = .ok (.bipush 8, 2) := by decide +kernel
theorem dX12_layClash_10 : decode cX12_layClash 10 = .ok (.if_icmp .ge 17, 3) := by decide +kernel
theorem dX12_layClash_13 : decode cX12_layClash 13 = .ok (.aload_n 0, 1) := by decide +kernel
theorem dX12_layClash_14 : decode cX12_layClash 14 = .ok (.getfield 131, 3) := by decide +kernel
theorem dX12_layClash_17 : decode cX12_layClash 17 = .ok (.iload 5, 2) := by decide +kernel
theorem dX12_layClash_19 : decode cX12_layClash 19 = .ok (.iconst 0, 1) := by decide +kernel
theorem dX12_layClash_20 : decode cX12_layClash 20 = .ok (.iastore, 1) := by decide +kernel
theorem dX12_layClash_21 : decode cX12_layClash 21 = .ok (.iinc 5 1, 3) := by decide +kernel
theorem dX12_layClash_24 : decode cX12_layClash 24 = .ok (.goto (-18), 3) := by decide +kernel
theorem dX12_layClash_27 : decode cX12_layClash 27 = .ok (.iconst 0, 1) := by decide +kernel
theorem dX12_layClash_28 : decode cX12_layClash 28 = .ok (.istore 5, 2) := by decide +kernel
theorem dX12_layClash_30 : decode cX12_layClash 30 = .ok (.iload 5, 2) := by decide +kernel
theorem dX12_layClash_32 : decode cX12_layClash 32 = .ok (.bipush 8, 2) := by decide +kernel
theorem dX12_layClash_34 : decode cX12_layClash 34 = .ok (.if_icmp .ge 102, 3) := by decide +kernel
theorem dX12_layClash_37 : decode cX12_layClash 37 = .ok (.aload_n 0, 1) := by decide +kernel
theorem dX12_layClash_38 : decode cX12_layClash 38 = .ok (.iload_n 1, 1) := by decide +kernel
theorem dX12_layClash_39 : decode cX12_layClash 39 = .ok (.iload 5, 2) := by decide +kernel
theorem dX12_layClash_41 : decode cX12_layClash 41 = .ok (.invokevirtual 204, 3) := by decide +kernel
theorem dX12_layClash_44 : decode cX12_layClash 44 = .ok (.istore 6, 2) := by decide +kernel
theorem dX12_layClash_46 : decode cX12_layClash 46 = .ok (.aload_n 0, 1) := by decide +kernel
theorem dX12_layClash_47 : decode cX12_layClash 47 = .ok (.iload_n 2, 1) := by decide +kernel
theorem dX12_layClash_48 : decode cX12_layClash 48 = .ok (.iload 5, 2) := by decide +kernel
theorem dX12_layClash_50 : decode cX12_layClash 50 = .ok (.iload_n 3, 1) := by decide +kernel
theorem dX12_layClash_51 : decode cX12_layClash 51 = .ok (.iadd, 1) := by decide +kernel
theorem dX12_layClash_52 : decode cX12_layClash 52 = .ok (.bipush 8, 2) := by decide +kernel
theorem dX12_layClash_54 : decode cX12_layClash 54 = .ok (.irem, 1) := by decide +kernel
theorem dX12_layClash_55 : decode cX12_layClash 55 = .ok (.invokevirtual 204, 3) := by decide +kernel
theorem dX12_layClash_58 : decode cX12_layClash 58 = .ok (.istore 7, 2) := by decide +kernel
theorem dX12_layClash_60 : decode cX12_layClash 60 = .ok (.iconst 0, 1) := by decide +kernel
theorem dX12_layClash_61 : decode cX12_layClash 61 = .ok (.istore 8, 2) := by decide +kernel
theorem dX12_layClash_63 : decode cX12_layClash 63 = .ok (.iload 8, 2) := by decide +kernel
theorem dX12_layClash_65 : decode cX12_layClash 65 = .ok (.bipush 8, 2) := by decide +kernel
theorem dX12_layClash_67 : decode cX12_layClash 67 = .ok (.if_icmp .ge 63, 3) := by decide +kernel
theorem dX12_layClash_70 : decode cX12_layClash 70 = .ok (.iload 6, 2) := by decide +kernel
theorem dX12_layClash_72 : decode cX12_layClash 72 = .ok (.iload 8, 2) := by decide +kernel
theorem dX12_layClash_74 : decode cX12_layClash 74 = .ok (.invokestatic 458, 3) := by decide +kernel
theorem dX12_layClash_77 : decode cX12_layClash 77 = .ok (.ifCond .eq 22, 3) := by decide +kernel
theorem dX12_layClash_80 : decode cX12_layClash 80 = .ok (.iload 7, 2) := by decide +kernel
theorem dX12_layClash_82 : decode cX12_layClash 82 = .ok (.iconst 1, 1) := by decide +kernel
theorem dX12_layClash_83 : decode cX12_layClash 83 = .ok (.iload 8, 2) := by decide +kernel
theorem dX12_layClash_85 : decode cX12_layClash 85 = .ok (.iconst 1, 1) := by decide +kernel
theorem dX12_layClash_86 : decode cX12_layClash 86 = .ok (.iadd, 1) := by decide +kernel
theorem dX12_layClash_87 : decode cX12_layClash 87 = .ok (.ishl, 1) := by decide +kernel
theorem dX12_layClash_88 : decode cX12_layClash 88 = .ok (.iconst 1, 1) := by decide +kernel
theorem dX12_layClash_89 : decode cX12_layClash 89 = .ok (.iload 8, 2) := by decide +kernel
theorem dX12_layClash_91 : decode cX12_layClash 91 = .ok (.ishl, 1) := by decide +kernel
theorem dX12_layClash_92 : decode cX12_layClash 92 = .ok (.iconst 1, 1) := by decide +kernel
theorem dX12_layClash_93 : decode cX12_layClash 93 = .ok (.ishr, 1) := by decide +kernel
theorem dX12_layClash_94 : decode cX12_layClash 94 = .ok (.ior, 1) := by decide +kernel
theorem dX12_layClash_95 : decode cX12_layClash 95 = .ok (.iand, 1) := by decide +kernel
theorem dX12_layClash_96 : decode cX12_layClash 96 = .ok (.goto 4, 3) := by decide +kernel
theorem dX12_layClash_99 : decode cX12_layClash 99 = .ok (.iconst 0, 1) := by decide +kernel
theorem dX12_layClash_100 : decode cX12_layClash 100 = .ok (.istore 9, 2) := by decide +kernel
theorem dX12_layClash_102 : decode cX12_layClash 102 = .ok (.iload 4, 2) := by decide +kernel
theorem dX12_layClash_104 : decode cX12_layClash 104 = .ok (.iload 9, 2) := by decide +kernel
theorem dX12_layClash_106 : decode cX12_layClash 106 = .ok (.invokestatic 208, 3) := by decide +kernel
theorem dX12_layClash_109 : decode cX12_layClash 109 = .ok (.iadd, 1) := by decide +kernel
theorem dX12_layClash_110 : decode cX12_layClash 110 = .ok (.istore 4, 2) := by decide +kernel
theorem dX12_layClash_112 : decode cX12_layClash 112 = .ok (.aload_n 0, 1) := by decide +kernel
theorem dX12_layClash_113 : decode cX12_layClash 113 = .ok (.getfield 131, 3) := by decide +kernel
theorem dX12_layClash_116 : decode cX12_layClash 116 = .ok (.iload 8, 2) := by decide +kernel
theorem dX12_layClash_118 : decode cX12_layClash 118 = .ok (.dup2, 1) := by decide +kernel
theorem dX12_layClash_119 : decode cX12_layClash 119 = .ok (.iaload, 1) := by decide +kernel
theorem dX12_layClash_120 : decode cX12_layClash 120 = .ok (.iload 9, 2) := by decide +kernel
theorem dX12_layClash_122 : decode cX12_layClash 122 = .ok (.ior, 1) := by decide +kernel
