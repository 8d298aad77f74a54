theorem dX0_init_0 : decode cX0_init 0 = .ok (.aload_n 0, 1) := by decide +kernel
theorem dX0_init_1 : decode cX0_init 1 = .ok (.invokespecial 3, 3) := by decide +kernel
theorem dX0_init_4 : decode cX0_init 4 = .ok (.aload_n 0, 1) := by decide +kernel
theorem dX0_init_5 : decode cX0_init 5 = .ok (.bipush 48, 2) := by decide +kernel
theorem dX0_init_7 : decode cX0_init 7 = .ok (.newarray .int, 2) := by decide +kernel
theorem dX0_init_9 : decode cX0_init 9 = .ok (.putfield 9, 3) := by decide +kernel
theorem dX0_init_12 : decode cX0_init 12 = .ok (.return_, 1) := by decide +kernel
theorem dX0_remember_0 : decode cX0_remember 0 = .ok (.aload_n 0, 1) := by decide +kernel
theorem dX0_remember_1 : decode cX0_remember 1 = .ok (.iconst 1, 1) := by decide +kernel
theorem dX0_remember_2 : decode cX0_remember 2 = .ok (.putfield 15, 3) := by decide +kernel
theorem dX0_remember_5 : decode cX0_remember 5 = .ok (.aload_n 0, 1) := by decide +kernel
theorem dX0_remember_6 : decode cX0_remember 6 = .ok (.iload_n 1, 1) := by decide +kernel
theorem dX0_remember_7 : decode cX0_remember 7 = .ok (.putfield 19, 3) := by decide +kernel
theorem dX0_remember_10 : decode cX0_remember 10 = .ok (.aload_n 0, 1) := by decide +kernel
theorem dX0_remember_11 : decode cX0_remember 11 = .ok (.iload_n 2, 1) := by decide +kernel
theorem dX0_remember_12 : decode cX0_remember 12 = .ok (.putfield 23, 3) := by decide +kernel
theorem dX0_remember_15 : decode cX0_remember 15 = .ok (.aload_n 3, 1) := by decide +kernel
theorem dX0_remember_16 : decode cX0_remember 16 = .ok (.iconst 0, 1) := by decide +kernel
theorem dX0_remember_17 : decode cX0_remember 17 = .ok (.aload_n 0, 1) := by decide +kernel
theorem dX0_remember_18 : decode cX0_remember 18 = .ok (.getfield 9, 3) := by decide +kernel
theorem dX0_remember_21 : decode cX0_remember 21 = .ok (.iconst 0, 1) := by decide +kernel
theorem dX0_remember_22 : decode cX0_remember 22 = .ok (.bipush 48, 2) := by decide +kernel
theorem dX0_remember_24 : decode cX0_remember 24 = .ok (.invokestatic 26, 3) := by decide +kernel
theorem dX0_remember_27 : decode cX0_remember 27 = .ok (.return_, 1) := by decide +kernel
theorem dX1_init_0 : decode cX1_init 0 = .ok (.aload_n 0, 1) := by decide +kernel
theorem dX1_init_1 : decode cX1_init 1 = .ok (.invokespecial 3, 3) := by decide +kernel
theorem dX1_init_4 : decode cX1_init 4 = .ok (.aload_n 0, 1) := by decide +kernel
theorem dX1_init_5 : decode cX1_init 5 = .ok (.iconst 5, 1) := by decide +kernel
theorem dX1_init_6 : decode cX1_init 6 = .ok (.bipush 48, 2) := by decide +kernel
theorem dX1_init_8 : decode cX1_init 8 = .ok (.multianewarray 11 2, 4) := by decide +kernel
theorem dX1_init_12 : decode cX1_init 12 = .ok (.putfield 13, 3) := by decide +kernel
theorem dX1_init_15 : decode cX1_init 15 = .ok (.aload_n 0, 1) := by decide +kernel
theorem dX1_init_16 : decode cX1_init 16 = .ok (.iconst 5, 1) := by decide +kernel
theorem dX1_init_17 : decode cX1_init 17 = .ok (.newarray .int, 2) := by decide +kernel
theorem dX1_init_19 : decode cX1_init 19 = .ok (.putfield 16, 3) := by decide +kernel
theorem dX1_init_22 : decode cX1_init 22 = .ok (.aload_n 0, 1) := by decide +kernel
theorem dX1_init_23 : decode cX1_init 23 = .ok (.iconst 5, 1) := by decide +kernel
theorem dX1_init_24 : decode cX1_init 24 = .ok (.newarray .int, 2) := by decide +kernel
theorem dX1_init_26 : decode cX1_init 26 = .ok (.putfield 20, 3) := by decide +kernel
theorem dX1_init_29 : decode cX1_init 29 = .ok (.return_, 1) := by decide +kernel
theorem dX1_reaches_0 : decode cX1_reaches 0 = .ok (.iload_n 1, 1) := by decide +kernel
theorem dX1_reaches_1 : decode cX1_reaches 1 = .ok (.aload_n 0, 1) := by decide +kernel
theorem dX1_reaches_2 : decode cX1_reaches 2 = .ok (.getfield 23, 3) := by decide +kernel
theorem dX1_reaches_5 : decode cX1_reaches 5 = .ok (.if_icmp .ge 7, 3) := by decide +kernel
theorem dX1_reaches_8 : decode cX1_reaches 8 = .ok (.iconst 1, 1) := by decide +kernel
theorem dX1_reaches_9 : decode cX1_reaches 9 = .ok (.goto 4, 3) := by decide +kernel
theorem dX1_reaches_12 : decode cX1_reaches 12 = .ok (.iconst 0, 1) := by decide +kernel
theorem dX1_reaches_13 : decode cX1_reaches 13 = .ok (.ireturn, 1) := by decide +kernel
theorem dX1_slot_0 : decode cX1_slot 0 = .ok (.aload_n 0, 1) := by decide +kernel
theorem dX1_slot_1 : decode cX1_slot 1 = .ok (.getfield 23, 3) := by decide +kernel
theorem dX1_slot_4 : decode cX1_slot 4 = .ok (.iconst 1, 1) := by decide +kernel
theorem dX1_slot_5 : decode cX1_slot 5 = .ok (.isub, 1) := by decide +kernel
theorem dX1_slot_6 : decode cX1_slot 6 = .ok (.iload_n 1, 1) := by decide +kernel
theorem dX1_slot_7 : decode cX1_slot 7 = .ok (.isub, 1) := by decide +kernel
theorem dX1_slot_8 : decode cX1_slot 8 = .ok (.iconst 5, 1) := by decide +kernel
theorem dX1_slot_9 : decode cX1_slot 9 = .ok (.invokestatic 27, 3) := by decide +kernel
theorem dX1_slot_12 : decode cX1_slot 12 = .ok (.ireturn, 1) := by decide +kernel
theorem dX1_errorsOf_0 : decode cX1_errorsOf 0 = .ok (.aload_n 0, 1) := by decide +kernel
theorem dX1_errorsOf_1 : decode cX1_errorsOf 1 = .ok (.getfield 13, 3) := by decide +kernel
theorem dX1_errorsOf_4 : decode cX1_errorsOf 4 = .ok (.aload_n 0, 1) := by decide +kernel
theorem dX1_errorsOf_5 : decode cX1_errorsOf 5 = .ok (.iload_n 1, 1) := by decide +kernel
theorem dX1_errorsOf_6 : decode cX1_errorsOf 6 = .ok (.invokevirtual 33, 3) := by decide +kernel
theorem dX1_errorsOf_9 : decode cX1_errorsOf 9 = .ok (.aaload, 1) := by decide +kernel
theorem dX1_errorsOf_10 : decode cX1_errorsOf 10 = .ok (.areturn, 1) := by decide +kernel
theorem dX1_add_0 : decode cX1_add 0 = .ok (.aload_n 0, 1) := by decide +kernel
theorem dX1_add_1 : decode cX1_add 1 = .ok (.dup, 1) := by decide +kernel
theorem dX1_add_2 : decode cX1_add 2 = .ok (.getfield 23, 3) := by decide +kernel
theorem dX1_add_5 : decode cX1_add 5 = .ok (.iconst 1, 1) := by decide +kernel
theorem dX1_add_6 : decode cX1_add 6 = .ok (.iadd, 1) := by decide +kernel
theorem dX1_add_7 : decode cX1_add 7 = .ok (.putfield 23, 3) := by decide +kernel
theorem dX1_add_10 : decode cX1_add 10 = .ok (.aload_n 0, 1) := by decide +kernel
theorem dX1_add_11 : decode cX1_add 11 = .ok (.iconst 0, 1) := by decide +kernel
theorem dX1_add_12 : decode cX1_add 12 = .ok (.invokevirtual 33, 3) := by decide +kernel
theorem dX1_add_15 : decode cX1_add 15 = .ok (.istore 5, 2) := by decide +kernel
theorem dX1_add_17 : decode cX1_add 17 = .ok (.iconst 0, 1) := by decide +kernel
theorem dX1_add_18 : decode cX1_add 18 = .ok (.istore 6, 2) := by decide +kernel
theorem dX1_add_20 : decode cX1_add 20 = .ok (.iconst 0, 1) := by decide +kernel
theorem dX1_add_21 : decode cX1_add 21 = .ok (.istore 7, 2) := by decide +kernel
theorem dX1_add_23 : decode cX1_add 23 = .ok (.iload 7, 2) := by decide +kernel
theorem dX1_add_25 : decode cX1_add 25 = .ok (.iload_n 3, 1) := by decide +kernel
theorem dX1_add_26 : decode cX1_add 26 = .ok (.if_icmp .ge 46, 3) := by decide +kernel
theorem dX1_add_29 : decode cX1_add 29 = .ok (.aload_n 0, 1) := by decide +kernel
theorem dX1_add_30 : decode cX1_add 30 = .ok (.getfield 13, 3) := by decide +kernel
theorem dX1_add_33 : decode cX1_add 33 = .ok (.iload 5, 2) := by decide +kernel
theorem dX1_add_35 : decode cX1_add 35 = .ok (.aaload, 1) := by decide +kernel
theorem dX1_add_36 : decode cX1_add 36 = .ok (.iload 7, 2) := by decide +kernel
theorem dX1_add_38 : decode cX1_add 38 = .ok (.aload_n 1, 1) := by decide +kernel
theorem dX1_add_39 : decode cX1_add 39 = .ok (.iload 7, 2) := by decide +kernel
theorem dX1_add_41 : decode cX1_add 41 = .ok (.iaload, 1) := by decide +kernel
theorem dX1_add_42 : decode cX1_add 42 = .ok (.aload_n 2, 1) := by decide +kernel
theorem dX1_add_43 : decode cX1_add 43 = .ok (.iload 7, 2) := by decide +kernel
theorem dX1_add_45 : decode cX1_add 45 = .ok (.iaload, 1) := by decide +kernel
theorem dX1_add_46 : decode cX1_add 46 = .ok (.isub, 1) := by decide +kernel
theorem dX1_add_47 : decode cX1_add 47 = .ok (.iastore, 1) := by decide +kernel
theorem dX1_add_48 : decode cX1_add 48 = .ok (.iload 6, 2) := by decide +kernel
theorem dX1_add_50 : decode cX1_add 50 = .ok (.aload_n 0, 1) := by decide +kernel
theorem dX1_add_51 : decode cX1_add 51 = .ok (.getfield 13, 3) := by decide +kernel
theorem dX1_add_54 : decode cX1_add 54 = .ok (.iload 5, 2) := by decide +kernel
theorem dX1_add_56 : decode cX1_add 56 = .ok (.aaload, 1) := by decide +kernel
theorem dX1_add_57 : decode cX1_add 57 = .ok (.iload 7, 2) := by decide +kernel
theorem dX1_add_59 : decode cX1_add 59 = .ok (.iaload, 1) := by decide +kernel
theorem dX1_add_60 : decode cX1_add 60 = .ok (.invokestatic 37, 3) := by decide +kernel
theorem dX1_add_63 : decode cX1_add 63 = .ok (.iadd, 1) := by decide +kernel
theorem dX1_add_64 : decode cX1_add 64 = .ok (.istore 6, 2) := by decide +kernel
theorem dX1_add_66 : decode cX1_add 66 = .ok (.iinc 7 1, 3) := by decide +kernel
theorem dX1_add_69 : decode cX1_add 69 = .ok (.goto (-46), 3) := by decide +kernel
theorem dX1_add_72 : decode cX1_add 72 = .ok (.aload_n 0, 1) := by decide +kernel
theorem dX1_add_73 : decode cX1_add 73 = .ok (.getfield 16, 3) := by decide +kernel
theorem dX1_add_76 : decode cX1_add 76 = .ok (.iload 5, 2) := by decide +kernel
theorem dX1_add_78 : decode cX1_add 78 = .ok (.iload 6, 2) := by decide +kernel
theorem dX1_add_80 : decode cX1_add 80 = .ok (.iastore, 1) := by decide +kernel
theorem dX1_add_81 : decode cX1_add 81 = .ok (.aload_n 0, 1) := by decide +kernel
theorem dX1_add_82 : decode cX1_add 82 = .ok (.getfield 20, 3) := by decide +kernel
theorem dX1_add_85 : decode cX1_add 85 = .ok (.iload 5, 2) := by decide +kernel
theorem dX1_add_87 : decode cX1_add 87 = .ok (.iload 4, 2) := by decide +kernel
theorem dX1_add_89 : decode cX1_add 89 = .ok (.iastore, 1) := by decide +kernel
theorem dX1_add_90 : decode cX1_add 90 = .ok (.return_, 1) := by decide +kernel
theorem dX1_staysWithin_0 : decode cX1_staysWithin 0 = .ok (.aload_n 0, 1) := by decide +kernel
theorem dX1_staysWithin_1 : decode cX1_staysWithin 1 = .ok (.getfield 23, 3) := by decide +kernel
theorem dX1_staysWithin_4 : decode cX1_staysWithin 4 = .ok (.iload_n 2, 1) := by decide +kernel
theorem dX1_staysWithin_5 : decode cX1_staysWithin 5 = .ok (.if_icmp .ge 5, 3) := by decide +kernel
theorem dX1_staysWithin_8 : decode cX1_staysWithin 8 = .ok (.iconst 0, 1) := by decide +kernel
theorem dX1_staysWithin_9 : decode cX1_staysWithin 9 = .ok (.ireturn, 1) := by decide +kernel
theorem dX1_staysWithin_10 : decode cX1_staysWithin 10 = .ok (.iconst 0, 1) := by decide +kernel
theorem dX1_staysWithin_11 : decode cX1_staysWithin 11 = .ok (.istore 4, 2) := by decide +kernel
theorem dX1_staysWithin_13 : decode cX1_staysWithin 13 = .ok (.iload 4, 2) := by decide +kernel
theorem dX1_staysWithin_15 : decode cX1_staysWithin 15 = .ok (.iload_n 2, 1) := by decide +kernel
theorem dX1_staysWithin_16 : decode cX1_staysWithin 16 = .ok (.if_icmp .ge 26, 3) := by decide +kernel
theorem dX1_staysWithin_19 : decode cX1_staysWithin 19 = .ok (.aload_n 0, 1) := by decide +kernel
theorem dX1_staysWithin_20 : decode cX1_staysWithin 20 = .ok (.iload 4, 2) := by decide +kernel
theorem dX1_staysWithin_22 : decode cX1_staysWithin 22 = .ok (.invokevirtual 40, 3) := by decide +kernel
theorem dX1_staysWithin_25 : decode cX1_staysWithin 25 = .ok (.iload_n 1, 1) := by decide +kernel
theorem dX1_staysWithin_26 : decode cX1_staysWithin 26 = .ok (.iaload, 1) := by decide +kernel
theorem dX1_staysWithin_27 : decode cX1_staysWithin 27 = .ok (.invokestatic 37, 3) := by decide +kernel
theorem dX1_staysWithin_30 : decode cX1_staysWithin 30 = .ok (.iload_n 3, 1) := by decide +kernel
theorem dX1_staysWithin_31 : decode cX1_staysWithin 31 = .ok (.if_icmp .le 5, 3) := by decide +kernel
theorem dX1_staysWithin_34 : decode cX1_staysWithin 34 = .ok (.iconst 0, 1) := by decide +kernel
theorem dX1_staysWithin_35 : decode cX1_staysWithin 35 = .ok (.ireturn, 1) := by decide +kernel
theorem dX1_staysWithin_36 : decode cX1_staysWithin 36 = .ok (.iinc 4 1, 3) := by decide +kernel
theorem dX1_staysWithin_39 : decode cX1_staysWithin 39 = .ok (.goto (-26), 3) := by decide +kernel
theorem dX1_staysWithin_42 : decode cX1_staysWithin 42 = .ok (.iconst 1, 1) := by decide +kernel
theorem dX1_staysWithin_43 : decode cX1_staysWithin 43 = .ok (.ireturn, 1) := by decide +kernel
theorem dX1_hasGrown_0 : decode cX1_hasGrown 0 = .ok (.aload_n 0, 1) := by decide +kernel
theorem dX1_hasGrown_1 : decode cX1_hasGrown 1 = .ok (.getfield 23, 3) := by decide +kernel
theorem dX1_hasGrown_4 : decode cX1_hasGrown 4 = .ok (.iconst 2, 1) := by decide +kernel
theorem dX1_hasGrown_5 : decode cX1_hasGrown 5 = .ok (.if_icmp .lt 30, 3) := by decide +kernel
theorem dX1_hasGrown_8 : decode cX1_hasGrown 8 = .ok (.aload_n 0, 1) := by decide +kernel
theorem dX1_hasGrown_9 : decode cX1_hasGrown 9 = .ok (.iconst 0, 1) := by decide +kernel
theorem dX1_hasGrown_10 : decode cX1_hasGrown 10 = .ok (.invokevirtual 40, 3) := by decide +kernel
theorem dX1_hasGrown_13 : decode cX1_hasGrown 13 = .ok (.iload_n 1, 1) := by decide +kernel
theorem dX1_hasGrown_14 : decode cX1_hasGrown 14 = .ok (.iaload, 1) := by decide +kernel
theorem dX1_hasGrown_15 : decode cX1_hasGrown 15 = .ok (.invokestatic 37, 3) := by decide +kernel
theorem dX1_hasGrown_18 : decode cX1_hasGrown 18 = .ok (.aload_n 0, 1) := by decide +kernel
theorem dX1_hasGrown_19 : decode cX1_hasGrown 19 = .ok (.iconst 1, 1) := by decide +kernel
theorem dX1_hasGrown_20 : decode cX1_hasGrown 20 = .ok (.invokevirtual 40, 3) := by decide +kernel
theorem dX1_hasGrown_23 : decode cX1_hasGrown 23 = .ok (.iload_n 1, 1) := by decide +kernel
theorem dX1_hasGrown_24 : decode cX1_hasGrown 24 = .ok (.iaload, 1) := by decide +kernel
theorem dX1_hasGrown_25 : decode cX1_hasGrown 25 = .ok (.invokestatic 37, 3) := by decide +kernel
theorem dX1_hasGrown_28 : decode cX1_hasGrown 28 = .ok (.if_icmp .le 7, 3) := by decide +kernel
theorem dX1_hasGrown_31 : decode cX1_hasGrown 31 = .ok (.iconst 1, 1) := by decide +kernel
theorem dX1_hasGrown_32 : decode cX1_hasGrown 32 = .ok (.goto 4, 3) := by decide +kernel
theorem dX1_hasGrown_35 : decode cX1_hasGrown 35 = .ok (.iconst 0, 1) := by decide +kernel
theorem dX1_hasGrown_36 : decode cX1_hasGrown 36 = .ok (.ireturn, 1) := by decide +kernel
theorem dX2_init_0 : decode cX2_init 0 = .ok (.aload_n 0, 1) := by decide +kernel
theorem dX2_init_1 : decode cX2_init 1 = .ok (.invokespecial 1, 3) := by decide +kernel
theorem dX2_init_4 : decode cX2_init 4 = .ok (.aload_n 0, 1) := by decide +kernel
theorem dX2_init_5 : decode cX2_init 5 = .ok (.bipush 6, 2) := by decide +kernel
theorem dX2_init_7 : decode cX2_init 7 = .ok (.newarray .int, 2) := by decide +kernel
theorem dX2_init_9 : decode cX2_init 9 = .ok (.putfield 9, 3) := by decide +kernel
theorem dX2_init_12 : decode cX2_init 12 = .ok (.return_, 1) := by decide +kernel
theorem dX2_becomeAsAtFirst_0 : decode cX2_becomeAsAtFirst 0 = .ok (.aload_n 0, 1) := by decide +kernel
theorem dX2_becomeAsAtFirst_1 : decode cX2_becomeAsAtFirst 1 = .ok (.getfield 9, 3) := by decide +kernel
theorem dX2_becomeAsAtFirst_4 : decode cX2_becomeAsAtFirst 4 = .ok (.iconst 0, 1) := by decide +kernel
theorem dX2_becomeAsAtFirst_5 : decode cX2_becomeAsAtFirst 5 = .ok (.invokestatic 13, 3) := by decide +kernel
theorem dX2_becomeAsAtFirst_8 : decode cX2_becomeAsAtFirst 8 = .ok (.aload_n 0, 1) := by decide +kernel
theorem dX2_becomeAsAtFirst_9 : decode cX2_becomeAsAtFirst 9 = .ok (.getfield 9, 3) := by decide +kernel
theorem dX2_becomeAsAtFirst_12 : decode cX2_becomeAsAtFirst 12 = .ok (.iconst 0, 1) := by decide +kernel
theorem dX2_becomeAsAtFirst_13 : decode cX2_becomeAsAtFirst 13 = .ok (.sipush 1000, 3) := by decide +kernel
theorem dX2_becomeAsAtFirst_16 : decode cX2_becomeAsAtFirst 16 = .ok (.iastore, 1) := by decide +kernel
theorem dX2_becomeAsAtFirst_17 : decode cX2_becomeAsAtFirst 17 = .ok (.aload_n 0, 1) := by decide +kernel
theorem dX2_becomeAsAtFirst_18 : decode cX2_becomeAsAtFirst 18 = .ok (.iconst 0, 1) := by decide +kernel
theorem dX2_becomeAsAtFirst_19 : decode cX2_becomeAsAtFirst 19 = .ok (.putfield 19, 3) := by decide +kernel
theorem dX2_becomeAsAtFirst_22 : decode cX2_becomeAsAtFirst 22 = .ok (.aload_n 0, 1) := by decide +kernel
theorem dX2_becomeAsAtFirst_23 : decode cX2_becomeAsAtFirst 23 = .ok (.iconst 0, 1) := by decide +kernel
theorem dX2_becomeAsAtFirst_24 : decode cX2_becomeAsAtFirst 24 = .ok (.putfield 23, 3) := by decide +kernel
theorem dX2_becomeAsAtFirst_27 : decode cX2_becomeAsAtFirst 27 = .ok (.return_, 1) := by decide +kernel
theorem dX2_outputAt_0 : decode cX2_outputAt 0 = .ok (.lconst 0, 1) := by decide +kernel
theorem dX2_outputAt_1 : decode cX2_outputAt 1 = .ok (.lstore_n 3, 1) := by decide +kernel
theorem dX2_outputAt_2 : decode cX2_outputAt 2 = .ok (.iload_n 2, 1) := by decide +kernel
theorem dX2_outputAt_3 : decode cX2_outputAt 3 = .ok (.iconst 5, 1) := by decide +kernel
theorem dX2_outputAt_4 : decode cX2_outputAt 4 = .ok (.invokestatic 26, 3) := by decide +kernel
theorem dX2_outputAt_7 : decode cX2_outputAt 7 = .ok (.istore 5, 2) := by decide +kernel
theorem dX2_outputAt_9 : decode cX2_outputAt 9 = .ok (.iconst 0, 1) := by decide +kernel
theorem dX2_outputAt_10 : decode cX2_outputAt 10 = .ok (.istore 6, 2) := by decide +kernel
theorem dX2_outputAt_12 : decode cX2_outputAt 12 = .ok (.iload 6, 2) := by decide +kernel
theorem dX2_outputAt_14 : decode cX2_outputAt 14 = .ok (.iload 5, 2) := by decide +kernel
theorem dX2_outputAt_16 : decode cX2_outputAt 16 = .ok (.if_icmp .gt 28, 3) := by decide +kernel
theorem dX2_outputAt_19 : decode cX2_outputAt 19 = .ok (.lload_n 3, 1) := by decide +kernel
theorem dX2_outputAt_20 : decode cX2_outputAt 20 = .ok (.aload_n 0, 1) := by decide +kernel
theorem dX2_outputAt_21 : decode cX2_outputAt 21 = .ok (.getfield 9, 3) := by decide +kernel
theorem dX2_outputAt_24 : decode cX2_outputAt 24 = .ok (.iload 6, 2) := by decide +kernel
theorem dX2_outputAt_26 : decode cX2_outputAt 26 = .ok (.iaload, 1) := by decide +kernel
theorem dX2_outputAt_27 : decode cX2_outputAt 27 = .ok (.i2l, 1) := by decide +kernel
theorem dX2_outputAt_28 : decode cX2_outputAt 28 = .ok (.aload_n 1, 1) := by decide +kernel
theorem dX2_outputAt_29 : decode cX2_outputAt 29 = .ok (.iload_n 2, 1) := by decide +kernel
theorem dX2_outputAt_30 : decode cX2_outputAt 30 = .ok (.iload 6, 2) := by decide +kernel
theorem dX2_outputAt_32 : decode cX2_outputAt 32 = .ok (.isub, 1) := by decide +kernel
theorem dX2_outputAt_33 : decode cX2_outputAt 33 = .ok (.iaload, 1) := by decide +kernel
theorem dX2_outputAt_34 : decode cX2_outputAt 34 = .ok (.i2l, 1) := by decide +kernel
theorem dX2_outputAt_35 : decode cX2_outputAt 35 = .ok (.lmul, 1) := by decide +kernel
theorem dX2_outputAt_36 : decode cX2_outputAt 36 = .ok (.ladd, 1) := by decide +kernel
theorem dX2_outputAt_37 : decode cX2_outputAt 37 = .ok (.lstore_n 3, 1) := by decide +kernel
theorem dX2_outputAt_38 : decode cX2_outputAt 38 = .ok (.iinc 6 1, 3) := by decide +kernel
theorem dX2_outputAt_41 : decode cX2_outputAt 41 = .ok (.goto (-29), 3) := by decide +kernel
theorem dX2_outputAt_44 : decode cX2_outputAt 44 = .ok (.lload_n 3, 1) := by decide +kernel
theorem dX2_outputAt_45 : decode cX2_outputAt 45 = .ok (.ldc2_w 32, 3) := by decide +kernel
theorem dX2_outputAt_48 : decode cX2_outputAt 48 = .ok (.invokestatic 34, 3) := by decide +kernel
theorem dX2_outputAt_51 : decode cX2_outputAt 51 = .ok (.aload_n 0, 1) := by decide +kernel
theorem dX2_outputAt_52 : decode cX2_outputAt 52 = .ok (.invokevirtual 38, 3) := by decide +kernel
theorem dX2_outputAt_55 : decode cX2_outputAt 55 = .ok (.i2l, 1) := by decide +kernel
theorem dX2_outputAt_56 : decode cX2_outputAt 56 = .ok (.ladd, 1) := by decide +kernel
theorem dX2_outputAt_57 : decode cX2_outputAt 57 = .ok (.lreturn, 1) := by decide +kernel
theorem dX2_nextDisturbance_0 : decode cX2_nextDisturbance 0 = .ok (.aload_n 0, 1) := by decide +kernel
theorem dX2_nextDisturbance_1 : decode cX2_nextDisturbance 1 = .ok (.getfield 19, 3) := by decide +kernel
theorem dX2_nextDisturbance_4 : decode cX2_nextDisturbance 4 = .ok (.ifCond .ne 5, 3) := by decide +kernel
theorem dX2_nextDisturbance_7 : decode cX2_nextDisturbance 7 = .ok (.iconst 0, 1) := by decide +kernel
theorem dX2_nextDisturbance_8 : decode cX2_nextDisturbance 8 = .ok (.ireturn, 1) := by decide +kernel
theorem dX2_nextDisturbance_9 : decode cX2_nextDisturbance 9 = .ok (.aload_n 0, 1) := by decide +kernel
theorem dX2_nextDisturbance_10 : decode cX2_nextDisturbance 10 = .ok (.aload_n 0, 1) := by decide +kernel
theorem dX2_nextDisturbance_11 : decode cX2_nextDisturbance 11 = .ok (.getfield 23, 3) := by decide +kernel
theorem dX2_nextDisturbance_14 : decode cX2_nextDisturbance 14 = .ok (.ldc 42, 2) := by decide +kernel
theorem dX2_nextDisturbance_16 : decode cX2_nextDisturbance 16 = .ok (.imul, 1) := by decide +kernel
theorem dX2_nextDisturbance_17 : decode cX2_nextDisturbance 17 = .ok (.sipush 12345, 3) := by decide +kernel
theorem dX2_nextDisturbance_20 : decode cX2_nextDisturbance 20 = .ok (.iadd, 1) := by decide +kernel
theorem dX2_nextDisturbance_21 : decode cX2_nextDisturbance 21 = .ok (.putfield 23, 3) := by decide +kernel
theorem dX2_nextDisturbance_24 : decode cX2_nextDisturbance 24 = .ok (.aload_n 0, 1) := by decide +kernel
theorem dX2_nextDisturbance_25 : decode cX2_nextDisturbance 25 = .ok (.getfield 23, 3) := by decide +kernel
theorem dX2_nextDisturbance_28 : decode cX2_nextDisturbance 28 = .ok (.bipush 16, 2) := by decide +kernel
theorem dX2_nextDisturbance_30 : decode cX2_nextDisturbance 30 = .ok (.iushr, 1) := by decide +kernel
theorem dX2_nextDisturbance_31 : decode cX2_nextDisturbance 31 = .ok (.iconst 2, 1) := by decide +kernel
theorem dX2_nextDisturbance_32 : decode cX2_nextDisturbance 32 = .ok (.aload_n 0, 1) := by decide +kernel
theorem dX2_nextDisturbance_33 : decode cX2_nextDisturbance 33 = .ok (.getfield 19, 3) := by decide +kernel
theorem dX2_nextDisturbance_36 : decode cX2_nextDisturbance 36 = .ok (.imul, 1) := by decide +kernel
theorem dX2_nextDisturbance_37 : decode cX2_nextDisturbance 37 = .ok (.iconst 1, 1) := by decide +kernel
theorem dX2_nextDisturbance_38 : decode cX2_nextDisturbance 38 = .ok (.iadd, 1) := by decide +kernel
theorem dX2_nextDisturbance_39 : decode cX2_nextDisturbance 39 = .ok (.irem, 1) := by decide +kernel
theorem dX2_nextDisturbance_40 : decode cX2_nextDisturbance 40 = .ok (.aload_n 0, 1) := by decide +kernel
theorem dX2_nextDisturbance_41 : decode cX2_nextDisturbance 41 = .ok (.getfield 19, 3) := by decide +kernel
theorem dX2_nextDisturbance_44 : decode cX2_nextDisturbance 44 = .ok (.isub, 1) := by decide +kernel
theorem dX2_nextDisturbance_45 : decode cX2_nextDisturbance 45 = .ok (.ireturn, 1) := by decide +kernel
theorem dX3_init_0 : decode cX3_init 0 = .ok (.aload_n 0, 1) := by decide +kernel
theorem dX3_init_1 : decode cX3_init 1 = .ok (.invokespecial 3, 3) := by decide +kernel
theorem dX3_init_4 : decode cX3_init 4 = .ok (.return_, 1) := by decide +kernel
theorem dX3_becomeAsAtFirst_0 : decode cX3_becomeAsAtFirst 0 = .ok (.aload_n 0, 1) := by decide +kernel
theorem dX3_becomeAsAtFirst_1 : decode cX3_becomeAsAtFirst 1 = .ok (.iload_n 1, 1) := by decide +kernel
theorem dX3_becomeAsAtFirst_2 : decode cX3_becomeAsAtFirst 2 = .ok (.putfield 9, 3) := by decide +kernel
theorem dX3_becomeAsAtFirst_5 : decode cX3_becomeAsAtFirst 5 = .ok (.aload_n 0, 1) := by decide +kernel
theorem dX3_becomeAsAtFirst_6 : decode cX3_becomeAsAtFirst 6 = .ok (.sipush 500, 3) := by decide +kernel
theorem dX3_becomeAsAtFirst_9 : decode cX3_becomeAsAtFirst 9 = .ok (.putfield 15, 3) := by decide +kernel
theorem dX3_becomeAsAtFirst_12 : decode cX3_becomeAsAtFirst 12 = .ok (.aload_n 0, 1) := by decide +kernel
theorem dX3_becomeAsAtFirst_13 : decode cX3_becomeAsAtFirst 13 = .ok (.iconst 0, 1) := by decide +kernel
theorem dX3_becomeAsAtFirst_14 : decode cX3_becomeAsAtFirst 14 = .ok (.putfield 18, 3) := by decide +kernel
theorem dX3_becomeAsAtFirst_17 : decode cX3_becomeAsAtFirst 17 = .ok (.aload_n 0, 1) := by decide +kernel
theorem dX3_becomeAsAtFirst_18 : decode cX3_becomeAsAtFirst 18 = .ok (.iconst 0, 1) := by decide +kernel
theorem dX3_becomeAsAtFirst_19 : decode cX3_becomeAsAtFirst 19 = .ok (.putfield 21, 3) := by decide +kernel
theorem dX3_becomeAsAtFirst_22 : decode cX3_becomeAsAtFirst 22 = .ok (.aload_n 0, 1) := by decide +kernel
theorem dX3_becomeAsAtFirst_23 : decode cX3_becomeAsAtFirst 23 = .ok (.iconst 1, 1) := by decide +kernel
theorem dX3_becomeAsAtFirst_24 : decode cX3_becomeAsAtFirst 24 = .ok (.putfield 24, 3) := by decide +kernel
theorem dX3_becomeAsAtFirst_27 : decode cX3_becomeAsAtFirst 27 = .ok (.aload_n 0, 1) := by decide +kernel
theorem dX3_becomeAsAtFirst_28 : decode cX3_becomeAsAtFirst 28 = .ok (.ldc 27, 2) := by decide +kernel
theorem dX3_becomeAsAtFirst_30 : decode cX3_becomeAsAtFirst 30 = .ok (.putfield 28, 3) := by decide +kernel
theorem dX3_becomeAsAtFirst_33 : decode cX3_becomeAsAtFirst 33 = .ok (.aload_n 0, 1) := by decide +kernel
theorem dX3_becomeAsAtFirst_34 : decode cX3_becomeAsAtFirst 34 = .ok (.iconst 4, 1) := by decide +kernel
theorem dX3_becomeAsAtFirst_35 : decode cX3_becomeAsAtFirst 35 = .ok (.putfield 31, 3) := by decide +kernel
theorem dX3_becomeAsAtFirst_38 : decode cX3_becomeAsAtFirst 38 = .ok (.aload_n 0, 1) := by decide +kernel
theorem dX3_becomeAsAtFirst_39 : decode cX3_becomeAsAtFirst 39 = .ok (.iconst 0, 1) := by decide +kernel
theorem dX3_becomeAsAtFirst_40 : decode cX3_becomeAsAtFirst 40 = .ok (.putfield 34, 3) := by decide +kernel
theorem dX3_becomeAsAtFirst_43 : decode cX3_becomeAsAtFirst 43 = .ok (.aload_n 0, 1) := by decide +kernel
theorem dX3_becomeAsAtFirst_44 : decode cX3_becomeAsAtFirst 44 = .ok (.bipush 10, 2) := by decide +kernel
theorem dX3_becomeAsAtFirst_46 : decode cX3_becomeAsAtFirst 46 = .ok (.putfield 37, 3) := by decide +kernel
theorem dX3_becomeAsAtFirst_49 : decode cX3_becomeAsAtFirst 49 = .ok (.aload_n 0, 1) := by decide +kernel
theorem dX3_becomeAsAtFirst_50 : decode cX3_becomeAsAtFirst 50 = .ok (.iconst 2, 1) := by decide +kernel
theorem dX3_becomeAsAtFirst_51 : decode cX3_becomeAsAtFirst 51 = .ok (.putfield 40, 3) := by decide +kernel
theorem dX3_becomeAsAtFirst_54 : decode cX3_becomeAsAtFirst 54 = .ok (.aload_n 0, 1) := by decide +kernel
theorem dX3_becomeAsAtFirst_55 : decode cX3_becomeAsAtFirst 55 = .ok (.iconst 0, 1) := by decide +kernel
theorem dX3_becomeAsAtFirst_56 : decode cX3_becomeAsAtFirst 56 = .ok (.putfield 43, 3) := by decide +kernel
theorem dX3_becomeAsAtFirst_59 : decode cX3_becomeAsAtFirst 59 = .ok (.return_, 1) := by decide +kernel
theorem dX4_init_0 : decode cX4_init 0 = .ok (.aload_n 0, 1) := by decide +kernel
theorem dX4_init_1 : decode cX4_init 1 = .ok (.invokespecial 1, 3) := by decide +kernel
theorem dX4_init_4 : decode cX4_init 4 = .ok (.aload_n 0, 1) := by decide +kernel
theorem dX4_init_5 : decode cX4_init 5 = .ok (.new 7, 3) := by decide +kernel
theorem dX4_init_8 : decode cX4_init 8 = .ok (.dup, 1) := by decide +kernel
theorem dX4_init_9 : decode cX4_init 9 = .ok (.invokespecial 9, 3) := by decide +kernel
theorem dX4_init_12 : decode cX4_init 12 = .ok (.putfield 10, 3) := by decide +kernel
theorem dX4_init_15 : decode cX4_init 15 = .ok (.aload_n 0, 1) := by decide +kernel
theorem dX4_init_16 : decode cX4_init 16 = .ok (.new 16, 3) := by decide +kernel
theorem dX4_init_19 : decode cX4_init 19 = .ok (.dup, 1) := by decide +kernel
theorem dX4_init_20 : decode cX4_init 20 = .ok (.invokespecial 18, 3) := by decide +kernel
theorem dX4_init_23 : decode cX4_init 23 = .ok (.putfield 19, 3) := by decide +kernel
theorem dX4_init_26 : decode cX4_init 26 = .ok (.aload_n 0, 1) := by decide +kernel
theorem dX4_init_27 : decode cX4_init 27 = .ok (.new 23, 3) := by decide +kernel
theorem dX4_init_30 : decode cX4_init 30 = .ok (.dup, 1) := by decide +kernel
theorem dX4_init_31 : decode cX4_init 31 = .ok (.invokespecial 25, 3) := by decide +kernel
theorem dX4_init_34 : decode cX4_init 34 = .ok (.putfield 26, 3) := by decide +kernel
theorem dX4_init_37 : decode cX4_init 37 = .ok (.aload_n 0, 1) := by decide +kernel
theorem dX4_init_38 : decode cX4_init 38 = .ok (.new 30, 3) := by decide +kernel
theorem dX4_init_41 : decode cX4_init 41 = .ok (.dup, 1) := by decide +kernel
theorem dX4_init_42 : decode cX4_init 42 = .ok (.invokespecial 32, 3) := by decide +kernel
theorem dX4_init_45 : decode cX4_init 45 = .ok (.putfield 33, 3) := by decide +kernel
theorem dX4_init_48 : decode cX4_init 48 = .ok (.aload_n 0, 1) := by decide +kernel
theorem dX4_init_49 : decode cX4_init 49 = .ok (.bipush 48, 2) := by decide +kernel
theorem dX4_init_51 : decode cX4_init 51 = .ok (.newarray .int, 2) := by decide +kernel
theorem dX4_init_53 : decode cX4_init 53 = .ok (.putfield 37, 3) := by decide +kernel
theorem dX4_init_56 : decode cX4_init 56 = .ok (.aload_n 0, 1) := by decide +kernel
theorem dX4_init_57 : decode cX4_init 57 = .ok (.bipush 48, 2) := by decide +kernel
theorem dX4_init_59 : decode cX4_init 59 = .ok (.newarray .int, 2) := by decide +kernel
theorem dX4_init_61 : decode cX4_init 61 = .ok (.putfield 41, 3) := by decide +kernel
theorem dX4_init_64 : decode cX4_init 64 = .ok (.aload_n 0, 1) := by decide +kernel
theorem dX4_init_65 : decode cX4_init 65 = .ok (.bipush 48, 2) := by decide +kernel
theorem dX4_init_67 : decode cX4_init 67 = .ok (.newarray .int, 2) := by decide +kernel
theorem dX4_init_69 : decode cX4_init 69 = .ok (.putfield 44, 3) := by decide +kernel
theorem dX4_init_72 : decode cX4_init 72 = .ok (.aload_n 0, 1) := by decide +kernel
theorem dX4_init_73 : decode cX4_init 73 = .ok (.bipush 48, 2) := by decide +kernel
theorem dX4_init_75 : decode cX4_init 75 = .ok (.newarray .int, 2) := by decide +kernel
theorem dX4_init_77 : decode cX4_init 77 = .ok (.putfield 47, 3) := by decide +kernel
theorem dX4_init_80 : decode cX4_init 80 = .ok (.aload_n 0, 1) := by decide +kernel
theorem dX4_init_81 : decode cX4_init 81 = .ok (.bipush 48, 2) := by decide +kernel
theorem dX4_init_83 : decode cX4_init 83 = .ok (.newarray .int, 2) := by decide +kernel
theorem dX4_init_85 : decode cX4_init 85 = .ok (.putfield 50, 3) := by decide +kernel
theorem dX4_init_88 : decode cX4_init 88 = .ok (.aload_n 0, 1) := by decide +kernel
theorem dX4_init_89 : decode cX4_init 89 = .ok (.bipush 48, 2) := by decide +kernel
theorem dX4_init_91 : decode cX4_init 91 = .ok (.newarray .int, 2) := by decide +kernel
theorem dX4_init_93 : decode cX4_init 93 = .ok (.putfield 53, 3) := by decide +kernel
theorem dX4_init_96 : decode cX4_init 96 = .ok (.aload_n 0, 1) := by decide +kernel
theorem dX4_init_97 : decode cX4_init 97 = .ok (.bipush 16, 2) := by decide +kernel
theorem dX4_init_99 : decode cX4_init 99 = .ok (.invokevirtual 56, 3) := by decide +kernel
theorem dX4_init_102 : decode cX4_init 102 = .ok (.return_, 1) := by decide +kernel
theorem dX4_reset_0 : decode cX4_reset 0 = .ok (.iload_n 1, 1) := by decide +kernel
theorem dX4_reset_1 : decode cX4_reset 1 = .ok (.iconst 4, 1) := by decide +kernel
theorem dX4_reset_2 : decode cX4_reset 2 = .ok (.bipush 48, 2) := by decide +kernel
theorem dX4_reset_4 : decode cX4_reset 4 = .ok (.invokestatic 60, 3) := by decide +kernel
theorem dX4_reset_7 : decode cX4_reset 7 = .ok (.ifCond .ne 6, 3) := by decide +kernel
theorem dX4_reset_10 : decode cX4_reset 10 = .ok (.ldc 64, 2) := by decide +kernel
theorem dX4_reset_12 : decode cX4_reset 12 = .ok (.ireturn, 1) := by decide +kernel
theorem dX4_reset_13 : decode cX4_reset 13 = .ok (.aload_n 0, 1) := by decide +kernel
theorem dX4_reset_14 : decode cX4_reset 14 = .ok (.getfield 10, 3) := by decide +kernel
theorem dX4_reset_17 : decode cX4_reset 17 = .ok (.getfield 65, 3) := by decide +kernel
theorem dX4_reset_20 : decode cX4_reset 20 = .ok (.istore_n 2, 1) := by decide +kernel
theorem dX4_reset_21 : decode cX4_reset 21 = .ok (.aload_n 0, 1) := by decide +kernel
theorem dX4_reset_22 : decode cX4_reset 22 = .ok (.iload_n 1, 1) := by decide +kernel
theorem dX4_reset_23 : decode cX4_reset 23 = .ok (.invokevirtual 56, 3) := by decide +kernel
theorem dX4_reset_26 : decode cX4_reset 26 = .ok (.iload_n 2, 1) := by decide +kernel
theorem dX4_reset_27 : decode cX4_reset 27 = .ok (.ireturn, 1) := by decide +kernel
theorem dX4_setReference_0 : decode cX4_setReference 0 = .ok (.aload_n 0, 1) := by decide +kernel
theorem dX4_setReference_1 : decode cX4_setReference 1 = .ok (.iload_n 1, 1) := by decide +kernel
theorem dX4_setReference_2 : decode cX4_setReference 2 = .ok (.invokevirtual 69, 3) := by decide +kernel
theorem dX4_setReference_5 : decode cX4_setReference 5 = .ok (.ifCond .eq 10, 3) := by decide +kernel
theorem dX4_setReference_8 : decode cX4_setReference 8 = .ok (.iload_n 2, 1) := by decide +kernel
theorem dX4_setReference_9 : decode cX4_setReference 9 = .ok (.invokestatic 73, 3) := by decide +kernel
theorem dX4_setReference_12 : decode cX4_setReference 12 = .ok (.ifCond .ne 6, 3) := by decide +kernel
theorem dX4_setReference_15 : decode cX4_setReference 15 = .ok (.ldc 64, 2) := by decide +kernel
theorem dX4_setReference_17 : decode cX4_setReference 17 = .ok (.ireturn, 1) := by decide +kernel
theorem dX4_setReference_18 : decode cX4_setReference 18 = .ok (.aload_n 0, 1) := by decide +kernel
theorem dX4_setReference_19 : decode cX4_setReference 19 = .ok (.getfield 37, 3) := by decide +kernel
theorem dX4_setReference_22 : decode cX4_setReference 22 = .ok (.iload_n 1, 1) := by decide +kernel
theorem dX4_setReference_23 : decode cX4_setReference 23 = .ok (.iaload, 1) := by decide +kernel
theorem dX4_setReference_24 : decode cX4_setReference 24 = .ok (.istore_n 3, 1) := by decide +kernel
theorem dX4_setReference_25 : decode cX4_setReference 25 = .ok (.aload_n 0, 1) := by decide +kernel
theorem dX4_setReference_26 : decode cX4_setReference 26 = .ok (.getfield 37, 3) := by decide +kernel
theorem dX4_setReference_29 : decode cX4_setReference 29 = .ok (.iload_n 1, 1) := by decide +kernel
theorem dX4_setReference_30 : decode cX4_setReference 30 = .ok (.iload_n 2, 1) := by decide +kernel
theorem dX4_setReference_31 : decode cX4_setReference 31 = .ok (.iastore, 1) := by decide +kernel
theorem dX4_setReference_32 : decode cX4_setReference 32 = .ok (.iload_n 3, 1) := by decide +kernel
theorem dX4_setReference_33 : decode cX4_setReference 33 = .ok (.ireturn, 1) := by decide +kernel
theorem dX4_setGain_0 : decode cX4_setGain 0 = .ok (.iload_n 1, 1) := by decide +kernel
theorem dX4_setGain_1 : decode cX4_setGain 1 = .ok (.iconst 0, 1) := by decide +kernel
theorem dX4_setGain_2 : decode cX4_setGain 2 = .ok (.sipush 2000, 3) := by decide +kernel
theorem dX4_setGain_5 : decode cX4_setGain 5 = .ok (.invokestatic 60, 3) := by decide +kernel
theorem dX4_setGain_8 : decode cX4_setGain 8 = .ok (.ifCond .eq 13, 3) := by decide +kernel
theorem dX4_setGain_11 : decode cX4_setGain 11 = .ok (.iload_n 2, 1) := by decide +kernel
theorem dX4_setGain_12 : decode cX4_setGain 12 = .ok (.iconst 0, 1) := by decide +kernel
theorem dX4_setGain_13 : decode cX4_setGain 13 = .ok (.bipush 8, 2) := by decide +kernel
theorem dX4_setGain_15 : decode cX4_setGain 15 = .ok (.invokestatic 60, 3) := by decide +kernel
theorem dX4_setGain_18 : decode cX4_setGain 18 = .ok (.ifCond .ne 6, 3) := by decide +kernel
theorem dX4_setGain_21 : decode cX4_setGain 21 = .ok (.ldc 64, 2) := by decide +kernel
theorem dX4_setGain_23 : decode cX4_setGain 23 = .ok (.ireturn, 1) := by decide +kernel
theorem dX4_setGain_24 : decode cX4_setGain 24 = .ok (.iload_n 1, 1) := by decide +kernel
theorem dX4_setGain_25 : decode cX4_setGain 25 = .ok (.aload_n 0, 1) := by decide +kernel
theorem dX4_setGain_26 : decode cX4_setGain 26 = .ok (.getfield 10, 3) := by decide +kernel
theorem dX4_setGain_29 : decode cX4_setGain 29 = .ok (.getfield 76, 3) := by decide +kernel
theorem dX4_setGain_32 : decode cX4_setGain 32 = .ok (.if_icmp .ne 14, 3) := by decide +kernel
theorem dX4_setGain_35 : decode cX4_setGain 35 = .ok (.iload_n 2, 1) := by decide +kernel
theorem dX4_setGain_36 : decode cX4_setGain 36 = .ok (.aload_n 0, 1) := by decide +kernel
theorem dX4_setGain_37 : decode cX4_setGain 37 = .ok (.getfield 10, 3) := by decide +kernel
theorem dX4_setGain_40 : decode cX4_setGain 40 = .ok (.getfield 79, 3) := by decide +kernel
theorem dX4_setGain_43 : decode cX4_setGain 43 = .ok (.if_icmp .eq 7, 3) := by decide +kernel
theorem dX4_setGain_46 : decode cX4_setGain 46 = .ok (.iconst 1, 1) := by decide +kernel
theorem dX4_setGain_47 : decode cX4_setGain 47 = .ok (.goto 4, 3) := by decide +kernel
theorem dX4_setGain_50 : decode cX4_setGain 50 = .ok (.iconst 0, 1) := by decide +kernel
theorem dX4_setGain_51 : decode cX4_setGain 51 = .ok (.istore_n 3, 1) := by decide +kernel
theorem dX4_setGain_52 : decode cX4_setGain 52 = .ok (.aload_n 0, 1) := by decide +kernel
theorem dX4_setGain_53 : decode cX4_setGain 53 = .ok (.getfield 10, 3) := by decide +kernel
theorem dX4_setGain_56 : decode cX4_setGain 56 = .ok (.iload_n 1, 1) := by decide +kernel
theorem dX4_setGain_57 : decode cX4_setGain 57 = .ok (.putfield 76, 3) := by decide +kernel
theorem dX4_setGain_60 : decode cX4_setGain 60 = .ok (.aload_n 0, 1) := by decide +kernel
theorem dX4_setGain_61 : decode cX4_setGain 61 = .ok (.getfield 10, 3) := by decide +kernel
theorem dX4_setGain_64 : decode cX4_setGain 64 = .ok (.iload_n 2, 1) := by decide +kernel
theorem dX4_setGain_65 : decode cX4_setGain 65 = .ok (.putfield 79, 3) := by decide +kernel
theorem dX4_setGain_68 : decode cX4_setGain 68 = .ok (.iload_n 3, 1) := by decide +kernel
theorem dX4_setGain_69 : decode cX4_setGain 69 = .ok (.invokestatic 82, 3) := by decide +kernel
theorem dX4_setGain_72 : decode cX4_setGain 72 = .ok (.ireturn, 1) := by decide +kernel
theorem dX4_setSmoothing_0 : decode cX4_setSmoothing 0 = .ok (.iload_n 1, 1) := by decide +kernel
theorem dX4_setSmoothing_1 : decode cX4_setSmoothing 1 = .ok (.iconst 0, 1) := by decide +kernel
theorem dX4_setSmoothing_2 : decode cX4_setSmoothing 2 = .ok (.sipush 333, 3) := by decide +kernel
theorem dX4_setSmoothing_5 : decode cX4_setSmoothing 5 = .ok (.invokestatic 60, 3) := by decide +kernel
theorem dX4_setSmoothing_8 : decode cX4_setSmoothing 8 = .ok (.ifCond .eq 12, 3) := by decide +kernel
theorem dX4_setSmoothing_11 : decode cX4_setSmoothing 11 = .ok (.iload_n 2, 1) := by decide +kernel
theorem dX4_setSmoothing_12 : decode cX4_setSmoothing 12 = .ok (.iconst 0, 1) := by decide +kernel
theorem dX4_setSmoothing_13 : decode cX4_setSmoothing 13 = .ok (.iconst 4, 1) := by decide +kernel
theorem dX4_setSmoothing_14 : decode cX4_setSmoothing 14 = .ok (.invokestatic 60, 3) := by decide +kernel
theorem dX4_setSmoothing_17 : decode cX4_setSmoothing 17 = .ok (.ifCond .ne 6, 3) := by decide +kernel
theorem dX4_setSmoothing_20 : decode cX4_setSmoothing 20 = .ok (.ldc 64, 2) := by decide +kernel
theorem dX4_setSmoothing_22 : decode cX4_setSmoothing 22 = .ok (.ireturn, 1) := by decide +kernel
theorem dX4_setSmoothing_23 : decode cX4_setSmoothing 23 = .ok (.iload_n 1, 1) := by decide +kernel
theorem dX4_setSmoothing_24 : decode cX4_setSmoothing 24 = .ok (.aload_n 0, 1) := by decide +kernel
theorem dX4_setSmoothing_25 : decode cX4_setSmoothing 25 = .ok (.getfield 10, 3) := by decide +kernel
theorem dX4_setSmoothing_28 : decode cX4_setSmoothing 28 = .ok (.getfield 86, 3) := by decide +kernel
theorem dX4_setSmoothing_31 : decode cX4_setSmoothing 31 = .ok (.if_icmp .ne 14, 3) := by decide +kernel
theorem dX4_setSmoothing_34 : decode cX4_setSmoothing 34 = .ok (.iload_n 2, 1) := by decide +kernel
theorem dX4_setSmoothing_35 : decode cX4_setSmoothing 35 = .ok (.aload_n 0, 1) := by decide +kernel
theorem dX4_setSmoothing_36 : decode cX4_setSmoothing 36 = .ok (.getfield 10, 3) := by decide +kernel
theorem dX4_setSmoothing_39 : decode cX4_setSmoothing 39 = .ok (.getfield 89, 3) := by decide +kernel
theorem dX4_setSmoothing_42 : decode cX4_setSmoothing 42 = .ok (.if_icmp .eq 7, 3) := by decide +kernel
theorem dX4_setSmoothing_45 : decode cX4_setSmoothing 45 = .ok (.iconst 1, 1) := by decide +kernel
theorem dX4_setSmoothing_46 : decode cX4_setSmoothing 46 = .ok (.goto 4, 3) := by decide +kernel
theorem dX4_setSmoothing_49 : decode cX4_setSmoothing 49 = .ok (.iconst 0, 1) := by decide +kernel
theorem dX4_setSmoothing_50 : decode cX4_setSmoothing 50 = .ok (.istore_n 3, 1) := by decide +kernel
theorem dX4_setSmoothing_51 : decode cX4_setSmoothing 51 = .ok (.aload_n 0, 1) := by decide +kernel
theorem dX4_setSmoothing_52 : decode cX4_setSmoothing 52 = .ok (.getfield 10, 3) := by decide +kernel
theorem dX4_setSmoothing_55 : decode cX4_setSmoothing 55 = .ok (.iload_n 1, 1) := by decide +kernel
theorem dX4_setSmoothing_56 : decode cX4_setSmoothing 56 = .ok (.putfield 86, 3) := by decide +kernel
theorem dX4_setSmoothing_59 : decode cX4_setSmoothing 59 = .ok (.aload_n 0, 1) := by decide +kernel
theorem dX4_setSmoothing_60 : decode cX4_setSmoothing 60 = .ok (.getfield 10, 3) := by decide +kernel
theorem dX4_setSmoothing_63 : decode cX4_setSmoothing 63 = .ok (.iload_n 2, 1) := by decide +kernel
theorem dX4_setSmoothing_64 : decode cX4_setSmoothing 64 = .ok (.putfield 89, 3) := by decide +kernel
theorem dX4_setSmoothing_67 : decode cX4_setSmoothing 67 = .ok (.iload_n 3, 1) := by decide +kernel
theorem dX4_setSmoothing_68 : decode cX4_setSmoothing 68 = .ok (.invokestatic 82, 3) := by decide +kernel
theorem dX4_setSmoothing_71 : decode cX4_setSmoothing 71 = .ok (.ireturn, 1) := by decide +kernel
theorem dX4_setLimits_0 : decode cX4_setLimits 0 = .ok (.iload_n 1, 1) := by decide +kernel
theorem dX4_setLimits_1 : decode cX4_setLimits 1 = .ok (.iconst 1, 1) := by decide +kernel
theorem dX4_setLimits_2 : decode cX4_setLimits 2 = .ok (.ldc 92, 2) := by decide +kernel
theorem dX4_setLimits_4 : decode cX4_setLimits 4 = .ok (.invokestatic 60, 3) := by decide +kernel
theorem dX4_setLimits_7 : decode cX4_setLimits 7 = .ok (.ifCond .eq 13, 3) := by decide +kernel
theorem dX4_setLimits_10 : decode cX4_setLimits 10 = .ok (.iload_n 2, 1) := by decide +kernel
theorem dX4_setLimits_11 : decode cX4_setLimits 11 = .ok (.iconst 1, 1) := by decide +kernel
theorem dX4_setLimits_12 : decode cX4_setLimits 12 = .ok (.bipush 10, 2) := by decide +kernel
theorem dX4_setLimits_14 : decode cX4_setLimits 14 = .ok (.invokestatic 60, 3) := by decide +kernel
theorem dX4_setLimits_17 : decode cX4_setLimits 17 = .ok (.ifCond .ne 6, 3) := by decide +kernel
theorem dX4_setLimits_20 : decode cX4_setLimits 20 = .ok (.ldc 64, 2) := by decide +kernel
theorem dX4_setLimits_22 : decode cX4_setLimits 22 = .ok (.ireturn, 1) := by decide +kernel
theorem dX4_setLimits_23 : decode cX4_setLimits 23 = .ok (.iload_n 1, 1) := by decide +kernel
theorem dX4_setLimits_24 : decode cX4_setLimits 24 = .ok (.aload_n 0, 1) := by decide +kernel
theorem dX4_setLimits_25 : decode cX4_setLimits 25 = .ok (.getfield 10, 3) := by decide +kernel
theorem dX4_setLimits_28 : decode cX4_setLimits 28 = .ok (.getfield 93, 3) := by decide +kernel
theorem dX4_setLimits_31 : decode cX4_setLimits 31 = .ok (.if_icmp .ne 14, 3) := by decide +kernel
theorem dX4_setLimits_34 : decode cX4_setLimits 34 = .ok (.iload_n 2, 1) := by decide +kernel
theorem dX4_setLimits_35 : decode cX4_setLimits 35 = .ok (.aload_n 0, 1) := by decide +kernel
theorem dX4_setLimits_36 : decode cX4_setLimits 36 = .ok (.getfield 10, 3) := by decide +kernel
theorem dX4_setLimits_39 : decode cX4_setLimits 39 = .ok (.getfield 96, 3) := by decide +kernel
theorem dX4_setLimits_42 : decode cX4_setLimits 42 = .ok (.if_icmp .eq 7, 3) := by decide +kernel
theorem dX4_setLimits_45 : decode cX4_setLimits 45 = .ok (.iconst 1, 1) := by decide +kernel
theorem dX4_setLimits_46 : decode cX4_setLimits 46 = .ok (.goto 4, 3) := by decide +kernel
theorem dX4_setLimits_49 : decode cX4_setLimits 49 = .ok (.iconst 0, 1) := by decide +kernel
theorem dX4_setLimits_50 : decode cX4_setLimits 50 = .ok (.istore_n 3, 1) := by decide +kernel
theorem dX4_setLimits_51 : decode cX4_setLimits 51 = .ok (.aload_n 0, 1) := by decide +kernel
theorem dX4_setLimits_52 : decode cX4_setLimits 52 = .ok (.getfield 10, 3) := by decide +kernel
theorem dX4_setLimits_55 : decode cX4_setLimits 55 = .ok (.iload_n 1, 1) := by decide +kernel
theorem dX4_setLimits_56 : decode cX4_setLimits 56 = .ok (.putfield 93, 3) := by decide +kernel
theorem dX4_setLimits_59 : decode cX4_setLimits 59 = .ok (.aload_n 0, 1) := by decide +kernel
theorem dX4_setLimits_60 : decode cX4_setLimits 60 = .ok (.getfield 10, 3) := by decide +kernel
theorem dX4_setLimits_63 : decode cX4_setLimits 63 = .ok (.iload_n 2, 1) := by decide +kernel
theorem dX4_setLimits_64 : decode cX4_setLimits 64 = .ok (.putfield 96, 3) := by decide +kernel
theorem dX4_setLimits_67 : decode cX4_setLimits 67 = .ok (.iload_n 3, 1) := by decide +kernel
theorem dX4_setLimits_68 : decode cX4_setLimits 68 = .ok (.invokestatic 82, 3) := by decide +kernel
theorem dX4_setLimits_71 : decode cX4_setLimits 71 = .ok (.ireturn, 1) := by decide +kernel
theorem dX4_setGreatestShift_0 : decode cX4_setGreatestShift 0 = .ok (.iload_n 1, 1) := by decide +kernel
theorem dX4_setGreatestShift_1 : decode cX4_setGreatestShift 1 = .ok (.iconst 0, 1) := by decide +kernel
theorem dX4_setGreatestShift_2 : decode cX4_setGreatestShift 2 = .ok (.iconst 5, 1) := by decide +kernel
theorem dX4_setGreatestShift_3 : decode cX4_setGreatestShift 3 = .ok (.invokestatic 60, 3) := by decide +kernel
theorem dX4_setGreatestShift_6 : decode cX4_setGreatestShift 6 = .ok (.ifCond .ne 6, 3) := by decide +kernel
theorem dX4_setGreatestShift_9 : decode cX4_setGreatestShift 9 = .ok (.ldc 64, 2) := by decide +kernel
theorem dX4_setGreatestShift_11 : decode cX4_setGreatestShift 11 = .ok (.ireturn, 1) := by decide +kernel
theorem dX4_setGreatestShift_12 : decode cX4_setGreatestShift 12 = .ok (.aload_n 0, 1) := by decide +kernel
theorem dX4_setGreatestShift_13 : decode cX4_setGreatestShift 13 = .ok (.getfield 10, 3) := by decide +kernel
theorem dX4_setGreatestShift_16 : decode cX4_setGreatestShift 16 = .ok (.getfield 99, 3) := by decide +kernel
theorem dX4_setGreatestShift_19 : decode cX4_setGreatestShift 19 = .ok (.istore_n 2, 1) := by decide +kernel
theorem dX4_setGreatestShift_20 : decode cX4_setGreatestShift 20 = .ok (.aload_n 0, 1) := by decide +kernel
theorem dX4_setGreatestShift_21 : decode cX4_setGreatestShift 21 = .ok (.getfield 10, 3) := by decide +kernel
theorem dX4_setGreatestShift_24 : decode cX4_setGreatestShift 24 = .ok (.iload_n 1, 1) := by decide +kernel
theorem dX4_setGreatestShift_25 : decode cX4_setGreatestShift 25 = .ok (.putfield 99, 3) := by decide +kernel
theorem dX4_setGreatestShift_28 : decode cX4_setGreatestShift 28 = .ok (.iload_n 2, 1) := by decide +kernel
theorem dX4_setGreatestShift_29 : decode cX4_setGreatestShift 29 = .ok (.ireturn, 1) := by decide +kernel
theorem dX4_setTolerance_0 : decode cX4_setTolerance 0 = .ok (.iload_n 1, 1) := by decide +kernel
theorem dX4_setTolerance_1 : decode cX4_setTolerance 1 = .ok (.iconst 0, 1) := by decide +kernel
theorem dX4_setTolerance_2 : decode cX4_setTolerance 2 = .ok (.ldc 92, 2) := by decide +kernel
theorem dX4_setTolerance_4 : decode cX4_setTolerance 4 = .ok (.invokestatic 60, 3) := by decide +kernel
theorem dX4_setTolerance_7 : decode cX4_setTolerance 7 = .ok (.ifCond .eq 12, 3) := by decide +kernel
theorem dX4_setTolerance_10 : decode cX4_setTolerance 10 = .ok (.iload_n 2, 1) := by decide +kernel
theorem dX4_setTolerance_11 : decode cX4_setTolerance 11 = .ok (.iconst 1, 1) := by decide +kernel
theorem dX4_setTolerance_12 : decode cX4_setTolerance 12 = .ok (.iconst 5, 1) := by decide +kernel
theorem dX4_setTolerance_13 : decode cX4_setTolerance 13 = .ok (.invokestatic 60, 3) := by decide +kernel
theorem dX4_setTolerance_16 : decode cX4_setTolerance 16 = .ok (.ifCond .ne 6, 3) := by decide +kernel
theorem dX4_setTolerance_19 : decode cX4_setTolerance 19 = .ok (.ldc 64, 2) := by decide +kernel
theorem dX4_setTolerance_21 : decode cX4_setTolerance 21 = .ok (.ireturn, 1) := by decide +kernel
theorem dX4_setTolerance_22 : decode cX4_setTolerance 22 = .ok (.iload_n 1, 1) := by decide +kernel
theorem dX4_setTolerance_23 : decode cX4_setTolerance 23 = .ok (.aload_n 0, 1) := by decide +kernel
theorem dX4_setTolerance_24 : decode cX4_setTolerance 24 = .ok (.getfield 10, 3) := by decide +kernel
theorem dX4_setTolerance_27 : decode cX4_setTolerance 27 = .ok (.getfield 102, 3) := by decide +kernel
theorem dX4_setTolerance_30 : decode cX4_setTolerance 30 = .ok (.if_icmp .ne 14, 3) := by decide +kernel
theorem dX4_setTolerance_33 : decode cX4_setTolerance 33 = .ok (.iload_n 2, 1) := by decide +kernel
theorem dX4_setTolerance_34 : decode cX4_setTolerance 34 = .ok (.aload_n 0, 1) := by decide +kernel
theorem dX4_setTolerance_35 : decode cX4_setTolerance 35 = .ok (.getfield 10, 3) := by decide +kernel
theorem dX4_setTolerance_38 : decode cX4_setTolerance 38 = .ok (.getfield 105, 3) := by decide +kernel
theorem dX4_setTolerance_41 : decode cX4_setTolerance 41 = .ok (.if_icmp .eq 7, 3) := by decide +kernel
theorem dX4_setTolerance_44 : decode cX4_setTolerance 44 = .ok (.iconst 1, 1) := by decide +kernel
theorem dX4_setTolerance_45 : decode cX4_setTolerance 45 = .ok (.goto 4, 3) := by decide +kernel
theorem dX4_setTolerance_48 : decode cX4_setTolerance 48 = .ok (.iconst 0, 1) := by decide +kernel
theorem dX4_setTolerance_49 : decode cX4_setTolerance 49 = .ok (.istore_n 3, 1) := by decide +kernel
theorem dX4_setTolerance_50 : decode cX4_setTolerance 50 = .ok (.aload_n 0, 1) := by decide +kernel
theorem dX4_setTolerance_51 : decode cX4_setTolerance 51 = .ok (.getfield 10, 3) := by decide +kernel
theorem dX4_setTolerance_54 : decode cX4_setTolerance 54 = .ok (.iload_n 1, 1) := by decide +kernel
theorem dX4_setTolerance_55 : decode cX4_setTolerance 55 = .ok (.putfield 102, 3) := by decide +kernel
theorem dX4_setTolerance_58 : decode cX4_setTolerance 58 = .ok (.aload_n 0, 1) := by decide +kernel
theorem dX4_setTolerance_59 : decode cX4_setTolerance 59 = .ok (.getfield 10, 3) := by decide +kernel
theorem dX4_setTolerance_62 : decode cX4_setTolerance 62 = .ok (.iload_n 2, 1) := by decide +kernel
theorem dX4_setTolerance_63 : decode cX4_setTolerance 63 = .ok (.putfield 105, 3) := by decide +kernel
theorem dX4_setTolerance_66 : decode cX4_setTolerance 66 = .ok (.iload_n 3, 1) := by decide +kernel
theorem dX4_setTolerance_67 : decode cX4_setTolerance 67 = .ok (.invokestatic 82, 3) := by decide +kernel
theorem dX4_setTolerance_70 : decode cX4_setTolerance 70 = .ok (.ireturn, 1) := by decide +kernel
theorem dX4_setGuard_0 : decode cX4_setGuard 0 = .ok (.iload_n 1, 1) := by decide +kernel
theorem dX4_setGuard_1 : decode cX4_setGuard 1 = .ok (.aload_n 0, 1) := by decide +kernel
theorem dX4_setGuard_2 : decode cX4_setGuard 2 = .ok (.getfield 10, 3) := by decide +kernel
theorem dX4_setGuard_5 : decode cX4_setGuard 5 = .ok (.getfield 108, 3) := by decide +kernel
theorem dX4_setGuard_8 : decode cX4_setGuard 8 = .ok (.if_icmp .eq 7, 3) := by decide +kernel
theorem dX4_setGuard_11 : decode cX4_setGuard 11 = .ok (.iconst 1, 1) := by decide +kernel
theorem dX4_setGuard_12 : decode cX4_setGuard 12 = .ok (.goto 4, 3) := by decide +kernel
theorem dX4_setGuard_15 : decode cX4_setGuard 15 = .ok (.iconst 0, 1) := by decide +kernel
theorem dX4_setGuard_16 : decode cX4_setGuard 16 = .ok (.istore_n 2, 1) := by decide +kernel
theorem dX4_setGuard_17 : decode cX4_setGuard 17 = .ok (.aload_n 0, 1) := by decide +kernel
theorem dX4_setGuard_18 : decode cX4_setGuard 18 = .ok (.getfield 10, 3) := by decide +kernel
theorem dX4_setGuard_21 : decode cX4_setGuard 21 = .ok (.iload_n 1, 1) := by decide +kernel
theorem dX4_setGuard_22 : decode cX4_setGuard 22 = .ok (.putfield 108, 3) := by decide +kernel
theorem dX4_setGuard_25 : decode cX4_setGuard 25 = .ok (.iload_n 2, 1) := by decide +kernel
theorem dX4_setGuard_26 : decode cX4_setGuard 26 = .ok (.invokestatic 82, 3) := by decide +kernel
theorem dX4_setGuard_29 : decode cX4_setGuard 29 = .ok (.ireturn, 1) := by decide +kernel
theorem dX4_setting_0 : decode cX4_setting 0 = .ok (.iload_n 1, 1) := by decide +kernel
theorem dX4_setting_1 : decode cX4_setting 1 = .ok (.tableswitch 150 0 10 #[59, 67, 75, 83, 91, 99, 107, 115, 123, 131, 139], 59) := by decide +kernel
theorem dX4_setting_60 : decode cX4_setting 60 = .ok (.aload_n 0, 1) := by decide +kernel
theorem dX4_setting_61 : decode cX4_setting 61 = .ok (.getfield 10, 3) := by decide +kernel
theorem dX4_setting_64 : decode cX4_setting 64 = .ok (.getfield 65, 3) := by decide +kernel
theorem dX4_setting_67 : decode cX4_setting 67 = .ok (.ireturn, 1) := by decide +kernel
theorem dX4_setting_68 : decode cX4_setting 68 = .ok (.aload_n 0, 1) := by decide +kernel
theorem dX4_setting_69 : decode cX4_setting 69 = .ok (.getfield 10, 3) := by decide +kernel
theorem dX4_setting_72 : decode cX4_setting 72 = .ok (.getfield 76, 3) := by decide +kernel
theorem dX4_setting_75 : decode cX4_setting 75 = .ok (.ireturn, 1) := by decide +kernel
theorem dX4_setting_76 : decode cX4_setting 76 = .ok (.aload_n 0, 1) := by decide +kernel
theorem dX4_setting_77 : decode cX4_setting 77 = .ok (.getfield 10, 3) := by decide +kernel
theorem dX4_setting_80 : decode cX4_setting 80 = .ok (.getfield 79, 3) := by decide +kernel
theorem dX4_setting_83 : decode cX4_setting 83 = .ok (.ireturn, 1) := by decide +kernel
theorem dX4_setting_84 : decode cX4_setting 84 = .ok (.aload_n 0, 1) := by decide +kernel
theorem dX4_setting_85 : decode cX4_setting 85 = .ok (.getfield 10, 3) := by decide +kernel
theorem dX4_setting_88 : decode cX4_setting 88 = .ok (.getfield 86, 3) := by decide +kernel
theorem dX4_setting_91 : decode cX4_setting 91 = .ok (.ireturn, 1) := by decide +kernel
theorem dX4_setting_92 : decode cX4_setting 92 = .ok (.aload_n 0, 1) := by decide +kernel
theorem dX4_setting_93 : decode cX4_setting 93 = .ok (.getfield 10, 3) := by decide +kernel
theorem dX4_setting_96 : decode cX4_setting 96 = .ok (.getfield 89, 3) := by decide +kernel
theorem dX4_setting_99 : decode cX4_setting 99 = .ok (.ireturn, 1) := by decide +kernel
theorem dX4_setting_100 : decode cX4_setting 100 = .ok (.aload_n 0, 1) := by decide +kernel
theorem dX4_setting_101 : decode cX4_setting 101 = .ok (.getfield 10, 3) := by decide +kernel
theorem dX4_setting_104 : decode cX4_setting 104 = .ok (.getfield 93, 3) := by decide +kernel
theorem dX4_setting_107 : decode cX4_setting 107 = .ok (.ireturn, 1) := by decide +kernel
theorem dX4_setting_108 : decode cX4_setting 108 = .ok (.aload_n 0, 1) := by decide +kernel
theorem dX4_setting_109 : decode cX4_setting 109 = .ok (.getfield 10, 3) := by decide +kernel
theorem dX4_setting_112 : decode cX4_setting 112 = .ok (.getfield 96, 3) := by decide +kernel
theorem dX4_setting_115 : decode cX4_setting 115 = .ok (.ireturn, 1) := by decide +kernel
theorem dX4_setting_116 : decode cX4_setting 116 = .ok (.aload_n 0, 1) := by decide +kernel
theorem dX4_setting_117 : decode cX4_setting 117 = .ok (.getfield 10, 3) := by decide +kernel
theorem dX4_setting_120 : decode cX4_setting 120 = .ok (.getfield 99, 3) := by decide +kernel
theorem dX4_setting_123 : decode cX4_setting 123 = .ok (.ireturn, 1) := by decide +kernel
theorem dX4_setting_124 : decode cX4_setting 124 = .ok (.aload_n 0, 1) := by decide +kernel
theorem dX4_setting_125 : decode cX4_setting 125 = .ok (.getfield 10, 3) := by decide +kernel
theorem dX4_setting_128 : decode cX4_setting 128 = .ok (.getfield 102, 3) := by decide +kernel
theorem dX4_setting_131 : decode cX4_setting 131 = .ok (.ireturn, 1) := by decide +kernel
theorem dX4_setting_132 : decode cX4_setting 132 = .ok (.aload_n 0, 1) := by decide +kernel
theorem dX4_setting_133 : decode cX4_setting 133 = .ok (.getfield 10, 3) := by decide +kernel
theorem dX4_setting_136 : decode cX4_setting 136 = .ok (.getfield 105, 3) := by decide +kernel
theorem dX4_setting_139 : decode cX4_setting 139 = .ok (.ireturn, 1) := by decide +kernel
theorem dX4_setting_140 : decode cX4_setting 140 = .ok (.aload_n 0, 1) := by decide +kernel
theorem dX4_setting_141 : decode cX4_setting 141 = .ok (.getfield 10, 3) := by decide +kernel
theorem dX4_setting_144 : decode cX4_setting 144 = .ok (.getfield 108, 3) := by decide +kernel
theorem dX4_setting_147 : decode cX4_setting 147 = .ok (.invokestatic 82, 3) := by decide +kernel
theorem dX4_setting_150 : decode cX4_setting 150 = .ok (.ireturn, 1) := by decide +kernel
theorem dX4_setting_151 : decode cX4_setting 151 = .ok (.ldc 64, 2) := by decide +kernel
theorem dX4_setting_153 : decode cX4_setting 153 = .ok (.ireturn, 1) := by decide +kernel
theorem dX4_startTrial_0 : decode cX4_startTrial 0 = .ok (.aload_n 0, 1) := by decide +kernel
theorem dX4_startTrial_1 : decode cX4_startTrial 1 = .ok (.getfield 112, 3) := by decide +kernel
theorem dX4_startTrial_4 : decode cX4_startTrial 4 = .ok (.ifCond .eq 6, 3) := by decide +kernel
theorem dX4_startTrial_7 : decode cX4_startTrial 7 = .ok (.ldc 115, 2) := by decide +kernel
theorem dX4_startTrial_9 : decode cX4_startTrial 9 = .ok (.ireturn, 1) := by decide +kernel
theorem dX4_startTrial_10 : decode cX4_startTrial 10 = .ok (.aload_n 0, 1) := by decide +kernel
theorem dX4_startTrial_11 : decode cX4_startTrial 11 = .ok (.invokevirtual 116, 3) := by decide +kernel
theorem dX4_startTrial_14 : decode cX4_startTrial 14 = .ok (.aload_n 0, 1) := by decide +kernel
theorem dX4_startTrial_15 : decode cX4_startTrial 15 = .ok (.getfield 119, 3) := by decide +kernel
theorem dX4_startTrial_18 : decode cX4_startTrial 18 = .ok (.iconst 1, 1) := by decide +kernel
theorem dX4_startTrial_19 : decode cX4_startTrial 19 = .ok (.isub, 1) := by decide +kernel
theorem dX4_startTrial_20 : decode cX4_startTrial 20 = .ok (.ireturn, 1) := by decide +kernel
theorem dX4_record_0 : decode cX4_record 0 = .ok (.aload_n 0, 1) := by decide +kernel
theorem dX4_record_1 : decode cX4_record 1 = .ok (.getfield 112, 3) := by decide +kernel
theorem dX4_record_4 : decode cX4_record 4 = .ok (.ifCond .ne 6, 3) := by decide +kernel
theorem dX4_record_7 : decode cX4_record 7 = .ok (.ldc 122, 2) := by decide +kernel
theorem dX4_record_9 : decode cX4_record 9 = .ok (.ireturn, 1) := by decide +kernel
theorem dX4_record_10 : decode cX4_record 10 = .ok (.iload_n 1, 1) := by decide +kernel
theorem dX4_record_11 : decode cX4_record 11 = .ok (.invokestatic 73, 3) := by decide +kernel
theorem dX4_record_14 : decode cX4_record 14 = .ok (.ifCond .ne 6, 3) := by decide +kernel
theorem dX4_record_17 : decode cX4_record 17 = .ok (.ldc 64, 2) := by decide +kernel
theorem dX4_record_19 : decode cX4_record 19 = .ok (.ireturn, 1) := by decide +kernel
theorem dX4_record_20 : decode cX4_record 20 = .ok (.aload_n 0, 1) := by decide +kernel
theorem dX4_record_21 : decode cX4_record 21 = .ok (.iload_n 1, 1) := by decide +kernel
theorem dX4_record_22 : decode cX4_record 22 = .ok (.invokevirtual 123, 3) := by decide +kernel
theorem dX4_record_25 : decode cX4_record 25 = .ok (.aload_n 0, 1) := by decide +kernel
theorem dX4_record_26 : decode cX4_record 26 = .ok (.getfield 112, 3) := by decide +kernel
theorem dX4_record_29 : decode cX4_record 29 = .ok (.ifCond .eq 15, 3) := by decide +kernel
theorem dX4_record_32 : decode cX4_record 32 = .ok (.aload_n 0, 1) := by decide +kernel
theorem dX4_record_33 : decode cX4_record 33 = .ok (.getfield 41, 3) := by decide +kernel
theorem dX4_record_36 : decode cX4_record 36 = .ok (.aload_n 0, 1) := by decide +kernel
theorem dX4_record_37 : decode cX4_record 37 = .ok (.getfield 126, 3) := by decide +kernel
theorem dX4_record_40 : decode cX4_record 40 = .ok (.iaload, 1) := by decide +kernel
theorem dX4_record_41 : decode cX4_record 41 = .ok (.goto 5, 3) := by decide +kernel
theorem dX4_record_44 : decode cX4_record 44 = .ok (.ldc 129, 2) := by decide +kernel
theorem dX4_record_46 : decode cX4_record 46 = .ok (.ireturn, 1) := by decide +kernel
theorem dX4_abort_0 : decode cX4_abort 0 = .ok (.aload_n 0, 1) := by decide +kernel
theorem dX4_abort_1 : decode cX4_abort 1 = .ok (.getfield 112, 3) := by decide +kernel
theorem dX4_abort_4 : decode cX4_abort 4 = .ok (.ifCond .ne 6, 3) := by decide +kernel
theorem dX4_abort_7 : decode cX4_abort 7 = .ok (.ldc 122, 2) := by decide +kernel
theorem dX4_abort_9 : decode cX4_abort 9 = .ok (.ireturn, 1) := by decide +kernel
theorem dX4_abort_10 : decode cX4_abort 10 = .ok (.aload_n 0, 1) := by decide +kernel
theorem dX4_abort_11 : decode cX4_abort 11 = .ok (.iconst 0, 1) := by decide +kernel
theorem dX4_abort_12 : decode cX4_abort 12 = .ok (.putfield 112, 3) := by decide +kernel
theorem dX4_abort_15 : decode cX4_abort 15 = .ok (.aload_n 0, 1) := by decide +kernel
theorem dX4_abort_16 : decode cX4_abort 16 = .ok (.dup, 1) := by decide +kernel
theorem dX4_abort_17 : decode cX4_abort 17 = .ok (.getfield 130, 3) := by decide +kernel
theorem dX4_abort_20 : decode cX4_abort 20 = .ok (.iconst 1, 1) := by decide +kernel
theorem dX4_abort_21 : decode cX4_abort 21 = .ok (.iadd, 1) := by decide +kernel
theorem dX4_abort_22 : decode cX4_abort 22 = .ok (.putfield 130, 3) := by decide +kernel
theorem dX4_abort_25 : decode cX4_abort 25 = .ok (.aload_n 0, 1) := by decide +kernel
theorem dX4_abort_26 : decode cX4_abort 26 = .ok (.getfield 126, 3) := by decide +kernel
theorem dX4_abort_29 : decode cX4_abort 29 = .ok (.ifCond .le 7, 3) := by decide +kernel
theorem dX4_abort_32 : decode cX4_abort 32 = .ok (.aload_n 0, 1) := by decide +kernel
theorem dX4_abort_33 : decode cX4_abort 33 = .ok (.invokevirtual 133, 3) := by decide +kernel
theorem dX4_abort_36 : decode cX4_abort 36 = .ok (.aload_n 0, 1) := by decide +kernel
theorem dX4_abort_37 : decode cX4_abort 37 = .ok (.getfield 126, 3) := by decide +kernel
theorem dX4_abort_40 : decode cX4_abort 40 = .ok (.ireturn, 1) := by decide +kernel
theorem dX4_position_0 : decode cX4_position 0 = .ok (.aload_n 0, 1) := by decide +kernel
theorem dX4_position_1 : decode cX4_position 1 = .ok (.getfield 112, 3) := by decide +kernel
theorem dX4_position_4 : decode cX4_position 4 = .ok (.ifCond .eq 10, 3) := by decide +kernel
theorem dX4_position_7 : decode cX4_position 7 = .ok (.aload_n 0, 1) := by decide +kernel
theorem dX4_position_8 : decode cX4_position 8 = .ok (.getfield 126, 3) := by decide +kernel
theorem dX4_position_11 : decode cX4_position 11 = .ok (.goto 5, 3) := by decide +kernel
theorem dX4_position_14 : decode cX4_position 14 = .ok (.ldc 122, 2) := by decide +kernel
theorem dX4_position_16 : decode cX4_position 16 = .ok (.ireturn, 1) := by decide +kernel
theorem dX4_input_0 : decode cX4_input 0 = .ok (.aload_n 0, 1) := by decide +kernel
theorem dX4_input_1 : decode cX4_input 1 = .ok (.iload_n 1, 1) := by decide +kernel
theorem dX4_input_2 : decode cX4_input 2 = .ok (.invokevirtual 69, 3) := by decide +kernel
theorem dX4_input_5 : decode cX4_input 5 = .ok (.ifCond .eq 12, 3) := by decide +kernel
theorem dX4_input_8 : decode cX4_input 8 = .ok (.aload_n 0, 1) := by decide +kernel
theorem dX4_input_9 : decode cX4_input 9 = .ok (.getfield 41, 3) := by decide +kernel
theorem dX4_input_12 : decode cX4_input 12 = .ok (.iload_n 1, 1) := by decide +kernel
theorem dX4_input_13 : decode cX4_input 13 = .ok (.iaload, 1) := by decide +kernel
theorem dX4_input_14 : decode cX4_input 14 = .ok (.goto 5, 3) := by decide +kernel
theorem dX4_input_17 : decode cX4_input 17 = .ok (.ldc 64, 2) := by decide +kernel
theorem dX4_input_19 : decode cX4_input 19 = .ok (.ireturn, 1) := by decide +kernel
theorem dX4_setInput_0 : decode cX4_setInput 0 = .ok (.aload_n 0, 1) := by decide +kernel
theorem dX4_setInput_1 : decode cX4_setInput 1 = .ok (.getfield 112, 3) := by decide +kernel
theorem dX4_setInput_4 : decode cX4_setInput 4 = .ok (.ifCond .eq 6, 3) := by decide +kernel
theorem dX4_setInput_7 : decode cX4_setInput 7 = .ok (.ldc 115, 2) := by decide +kernel
theorem dX4_setInput_9 : decode cX4_setInput 9 = .ok (.ireturn, 1) := by decide +kernel
theorem dX4_setInput_10 : decode cX4_setInput 10 = .ok (.aload_n 0, 1) := by decide +kernel
theorem dX4_setInput_11 : decode cX4_setInput 11 = .ok (.iload_n 1, 1) := by decide +kernel
theorem dX4_setInput_12 : decode cX4_setInput 12 = .ok (.invokevirtual 69, 3) := by decide +kernel
theorem dX4_setInput_15 : decode cX4_setInput 15 = .ok (.ifCond .eq 10, 3) := by decide +kernel
theorem dX4_setInput_18 : decode cX4_setInput 18 = .ok (.iload_n 2, 1) := by decide +kernel
theorem dX4_setInput_19 : decode cX4_setInput 19 = .ok (.invokestatic 73, 3) := by decide +kernel
theorem dX4_setInput_22 : decode cX4_setInput 22 = .ok (.ifCond .ne 6, 3) := by decide +kernel
theorem dX4_setInput_25 : decode cX4_setInput 25 = .ok (.ldc 64, 2) := by decide +kernel
theorem dX4_setInput_27 : decode cX4_setInput 27 = .ok (.ireturn, 1) := by decide +kernel
theorem dX4_setInput_28 : decode cX4_setInput 28 = .ok (.aload_n 0, 1) := by decide +kernel
theorem dX4_setInput_29 : decode cX4_setInput 29 = .ok (.getfield 41, 3) := by decide +kernel
theorem dX4_setInput_32 : decode cX4_setInput 32 = .ok (.iload_n 1, 1) := by decide +kernel
theorem dX4_setInput_33 : decode cX4_setInput 33 = .ok (.iaload, 1) := by decide +kernel
theorem dX4_setInput_34 : decode cX4_setInput 34 = .ok (.istore_n 3, 1) := by decide +kernel
theorem dX4_setInput_35 : decode cX4_setInput 35 = .ok (.aload_n 0, 1) := by decide +kernel
theorem dX4_setInput_36 : decode cX4_setInput 36 = .ok (.getfield 41, 3) := by decide +kernel
theorem dX4_setInput_39 : decode cX4_setInput 39 = .ok (.iload_n 1, 1) := by decide +kernel
theorem dX4_setInput_40 : decode cX4_setInput 40 = .ok (.iload_n 2, 1) := by decide +kernel
theorem dX4_setInput_41 : decode cX4_setInput 41 = .ok (.iastore, 1) := by decide +kernel
theorem dX4_setInput_42 : decode cX4_setInput 42 = .ok (.iload_n 3, 1) := by decide +kernel
theorem dX4_setInput_43 : decode cX4_setInput 43 = .ok (.ireturn, 1) := by decide +kernel
theorem dX4_reference_0 : decode cX4_reference 0 = .ok (.aload_n 0, 1) := by decide +kernel
theorem dX4_reference_1 : decode cX4_reference 1 = .ok (.iload_n 1, 1) := by decide +kernel
theorem dX4_reference_2 : decode cX4_reference 2 = .ok (.invokevirtual 69, 3) := by decide +kernel
theorem dX4_reference_5 : decode cX4_reference 5 = .ok (.ifCond .eq 12, 3) := by decide +kernel
theorem dX4_reference_8 : decode cX4_reference 8 = .ok (.aload_n 0, 1) := by decide +kernel
theorem dX4_reference_9 : decode cX4_reference 9 = .ok (.getfield 37, 3) := by decide +kernel
theorem dX4_reference_12 : decode cX4_reference 12 = .ok (.iload_n 1, 1) := by decide +kernel
theorem dX4_reference_13 : decode cX4_reference 13 = .ok (.iaload, 1) := by decide +kernel
theorem dX4_reference_14 : decode cX4_reference 14 = .ok (.goto 5, 3) := by decide +kernel
theorem dX4_reference_17 : decode cX4_reference 17 = .ok (.ldc 64, 2) := by decide +kernel
theorem dX4_reference_19 : decode cX4_reference 19 = .ok (.ireturn, 1) := by decide +kernel
theorem dX4_count_0 : decode cX4_count 0 = .ok (.iload_n 1, 1) := by decide +kernel
theorem dX4_count_1 : decode cX4_count 1 = .ok (.tableswitch 63 0 4 #[35, 40, 48, 53, 58], 35) := by decide +kernel
theorem dX4_count_36 : decode cX4_count 36 = .ok (.aload_n 0, 1) := by decide +kernel
theorem dX4_count_37 : decode cX4_count 37 = .ok (.getfield 119, 3) := by decide +kernel
theorem dX4_count_40 : decode cX4_count 40 = .ok (.ireturn, 1) := by decide +kernel
theorem dX4_count_41 : decode cX4_count 41 = .ok (.aload_n 0, 1) := by decide +kernel
theorem dX4_count_42 : decode cX4_count 42 = .ok (.getfield 26, 3) := by decide +kernel
theorem dX4_count_45 : decode cX4_count 45 = .ok (.getfield 136, 3) := by decide +kernel
theorem dX4_count_48 : decode cX4_count 48 = .ok (.ireturn, 1) := by decide +kernel
theorem dX4_count_49 : decode cX4_count 49 = .ok (.aload_n 0, 1) := by decide +kernel
theorem dX4_count_50 : decode cX4_count 50 = .ok (.getfield 130, 3) := by decide +kernel
theorem dX4_count_53 : decode cX4_count 53 = .ok (.ireturn, 1) := by decide +kernel
theorem dX4_count_54 : decode cX4_count 54 = .ok (.aload_n 0, 1) := by decide +kernel
theorem dX4_count_55 : decode cX4_count 55 = .ok (.getfield 139, 3) := by decide +kernel
theorem dX4_count_58 : decode cX4_count 58 = .ok (.ireturn, 1) := by decide +kernel
theorem dX4_count_59 : decode cX4_count 59 = .ok (.aload_n 0, 1) := by decide +kernel
theorem dX4_count_60 : decode cX4_count 60 = .ok (.getfield 142, 3) := by decide +kernel
theorem dX4_count_63 : decode cX4_count 63 = .ok (.ireturn, 1) := by decide +kernel
theorem dX4_count_64 : decode cX4_count 64 = .ok (.ldc 64, 2) := by decide +kernel
theorem dX4_count_66 : decode cX4_count 66 = .ok (.ireturn, 1) := by decide +kernel
theorem dX4_error_0 : decode cX4_error 0 = .ok (.aload_n 0, 1) := by decide +kernel
theorem dX4_error_1 : decode cX4_error 1 = .ok (.iload_n 1, 1) := by decide +kernel
theorem dX4_error_2 : decode cX4_error 2 = .ok (.invokevirtual 69, 3) := by decide +kernel
theorem dX4_error_5 : decode cX4_error 5 = .ok (.ifCond .eq 10, 3) := by decide +kernel
theorem dX4_error_8 : decode cX4_error 8 = .ok (.iload_n 2, 1) := by decide +kernel
theorem dX4_error_9 : decode cX4_error 9 = .ok (.invokestatic 145, 3) := by decide +kernel
theorem dX4_error_12 : decode cX4_error 12 = .ok (.ifCond .ne 6, 3) := by decide +kernel
theorem dX4_error_15 : decode cX4_error 15 = .ok (.ldc 64, 2) := by decide +kernel
theorem dX4_error_17 : decode cX4_error 17 = .ok (.ireturn, 1) := by decide +kernel
theorem dX4_error_18 : decode cX4_error 18 = .ok (.aload_n 0, 1) := by decide +kernel
theorem dX4_error_19 : decode cX4_error 19 = .ok (.getfield 26, 3) := by decide +kernel
theorem dX4_error_22 : decode cX4_error 22 = .ok (.iload_n 2, 1) := by decide +kernel
theorem dX4_error_23 : decode cX4_error 23 = .ok (.invokevirtual 148, 3) := by decide +kernel
theorem dX4_error_26 : decode cX4_error 26 = .ok (.ifCond .eq 16, 3) := by decide +kernel
theorem dX4_error_29 : decode cX4_error 29 = .ok (.aload_n 0, 1) := by decide +kernel
theorem dX4_error_30 : decode cX4_error 30 = .ok (.getfield 26, 3) := by decide +kernel
theorem dX4_error_33 : decode cX4_error 33 = .ok (.iload_n 2, 1) := by decide +kernel
theorem dX4_error_34 : decode cX4_error 34 = .ok (.invokevirtual 151, 3) := by decide +kernel
theorem dX4_error_37 : decode cX4_error 37 = .ok (.iload_n 1, 1) := by decide +kernel
theorem dX4_error_38 : decode cX4_error 38 = .ok (.iaload, 1) := by decide +kernel
theorem dX4_error_39 : decode cX4_error 39 = .ok (.goto 5, 3) := by decide +kernel
theorem dX4_error_42 : decode cX4_error 42 = .ok (.ldc 129, 2) := by decide +kernel
theorem dX4_error_44 : decode cX4_error 44 = .ok (.ireturn, 1) := by decide +kernel
theorem dX4_norm_0 : decode cX4_norm 0 = .ok (.iload_n 1, 1) := by decide +kernel
theorem dX4_norm_1 : decode cX4_norm 1 = .ok (.invokestatic 145, 3) := by decide +kernel
theorem dX4_norm_4 : decode cX4_norm 4 = .ok (.ifCond .ne 6, 3) := by decide +kernel
theorem dX4_norm_7 : decode cX4_norm 7 = .ok (.ldc 64, 2) := by decide +kernel
theorem dX4_norm_9 : decode cX4_norm 9 = .ok (.ireturn, 1) := by decide +kernel
theorem dX4_norm_10 : decode cX4_norm 10 = .ok (.aload_n 0, 1) := by decide +kernel
theorem dX4_norm_11 : decode cX4_norm 11 = .ok (.getfield 26, 3) := by decide +kernel
theorem dX4_norm_14 : decode cX4_norm 14 = .ok (.iload_n 1, 1) := by decide +kernel
theorem dX4_norm_15 : decode cX4_norm 15 = .ok (.invokevirtual 148, 3) := by decide +kernel
theorem dX4_norm_18 : decode cX4_norm 18 = .ok (.ifCond .eq 22, 3) := by decide +kernel
theorem dX4_norm_21 : decode cX4_norm 21 = .ok (.aload_n 0, 1) := by decide +kernel
theorem dX4_norm_22 : decode cX4_norm 22 = .ok (.getfield 26, 3) := by decide +kernel
theorem dX4_norm_25 : decode cX4_norm 25 = .ok (.getfield 155, 3) := by decide +kernel
theorem dX4_norm_28 : decode cX4_norm 28 = .ok (.aload_n 0, 1) := by decide +kernel
theorem dX4_norm_29 : decode cX4_norm 29 = .ok (.getfield 26, 3) := by decide +kernel
theorem dX4_norm_32 : decode cX4_norm 32 = .ok (.iload_n 1, 1) := by decide +kernel
theorem dX4_norm_33 : decode cX4_norm 33 = .ok (.invokevirtual 158, 3) := by decide +kernel
theorem dX4_norm_36 : decode cX4_norm 36 = .ok (.iaload, 1) := by decide +kernel
theorem dX4_norm_37 : decode cX4_norm 37 = .ok (.goto 5, 3) := by decide +kernel
theorem dX4_norm_40 : decode cX4_norm 40 = .ok (.ldc 129, 2) := by decide +kernel
theorem dX4_norm_42 : decode cX4_norm 42 = .ok (.ireturn, 1) := by decide +kernel
theorem dX4_shift_0 : decode cX4_shift 0 = .ok (.iload_n 1, 1) := by decide +kernel
theorem dX4_shift_1 : decode cX4_shift 1 = .ok (.invokestatic 145, 3) := by decide +kernel
theorem dX4_shift_4 : decode cX4_shift 4 = .ok (.ifCond .ne 6, 3) := by decide +kernel
theorem dX4_shift_7 : decode cX4_shift 7 = .ok (.ldc 64, 2) := by decide +kernel
theorem dX4_shift_9 : decode cX4_shift 9 = .ok (.ireturn, 1) := by decide +kernel
theorem dX4_shift_10 : decode cX4_shift 10 = .ok (.aload_n 0, 1) := by decide +kernel
theorem dX4_shift_11 : decode cX4_shift 11 = .ok (.getfield 26, 3) := by decide +kernel
theorem dX4_shift_14 : decode cX4_shift 14 = .ok (.iload_n 1, 1) := by decide +kernel
theorem dX4_shift_15 : decode cX4_shift 15 = .ok (.invokevirtual 148, 3) := by decide +kernel
theorem dX4_shift_18 : decode cX4_shift 18 = .ok (.ifCond .eq 22, 3) := by decide +kernel
theorem dX4_shift_21 : decode cX4_shift 21 = .ok (.aload_n 0, 1) := by decide +kernel
theorem dX4_shift_22 : decode cX4_shift 22 = .ok (.getfield 26, 3) := by decide +kernel
theorem dX4_shift_25 : decode cX4_shift 25 = .ok (.getfield 162, 3) := by decide +kernel
theorem dX4_shift_28 : decode cX4_shift 28 = .ok (.aload_n 0, 1) := by decide +kernel
theorem dX4_shift_29 : decode cX4_shift 29 = .ok (.getfield 26, 3) := by decide +kernel
theorem dX4_shift_32 : decode cX4_shift 32 = .ok (.iload_n 1, 1) := by decide +kernel
theorem dX4_shift_33 : decode cX4_shift 33 = .ok (.invokevirtual 158, 3) := by decide +kernel
theorem dX4_shift_36 : decode cX4_shift 36 = .ok (.iaload, 1) := by decide +kernel
theorem dX4_shift_37 : decode cX4_shift 37 = .ok (.goto 5, 3) := by decide +kernel
theorem dX4_shift_40 : decode cX4_shift 40 = .ok (.ldc 129, 2) := by decide +kernel
theorem dX4_shift_42 : decode cX4_shift 42 = .ok (.ireturn, 1) := by decide +kernel
theorem dX4_worstSample_0 : decode cX4_worstSample 0 = .ok (.iload_n 1, 1) := by decide +kernel
theorem dX4_worstSample_1 : decode cX4_worstSample 1 = .ok (.invokestatic 145, 3) := by decide +kernel
theorem dX4_worstSample_4 : decode cX4_worstSample 4 = .ok (.ifCond .ne 6, 3) := by decide +kernel
theorem dX4_worstSample_7 : decode cX4_worstSample 7 = .ok (.ldc 64, 2) := by decide +kernel
theorem dX4_worstSample_9 : decode cX4_worstSample 9 = .ok (.ireturn, 1) := by decide +kernel
theorem dX4_worstSample_10 : decode cX4_worstSample 10 = .ok (.aload_n 0, 1) := by decide +kernel
theorem dX4_worstSample_11 : decode cX4_worstSample 11 = .ok (.getfield 26, 3) := by decide +kernel
theorem dX4_worstSample_14 : decode cX4_worstSample 14 = .ok (.iload_n 1, 1) := by decide +kernel
theorem dX4_worstSample_15 : decode cX4_worstSample 15 = .ok (.invokevirtual 148, 3) := by decide +kernel
theorem dX4_worstSample_18 : decode cX4_worstSample 18 = .ok (.ifCond .eq 24, 3) := by decide +kernel
theorem dX4_worstSample_21 : decode cX4_worstSample 21 = .ok (.aload_n 0, 1) := by decide +kernel
theorem dX4_worstSample_22 : decode cX4_worstSample 22 = .ok (.getfield 26, 3) := by decide +kernel
theorem dX4_worstSample_25 : decode cX4_worstSample 25 = .ok (.iload_n 1, 1) := by decide +kernel
theorem dX4_worstSample_26 : decode cX4_worstSample 26 = .ok (.invokevirtual 151, 3) := by decide +kernel
theorem dX4_worstSample_29 : decode cX4_worstSample 29 = .ok (.aload_n 0, 1) := by decide +kernel
theorem dX4_worstSample_30 : decode cX4_worstSample 30 = .ok (.getfield 10, 3) := by decide +kernel
theorem dX4_worstSample_33 : decode cX4_worstSample 33 = .ok (.getfield 65, 3) := by decide +kernel
theorem dX4_worstSample_36 : decode cX4_worstSample 36 = .ok (.invokestatic 165, 3) := by decide +kernel
theorem dX4_worstSample_39 : decode cX4_worstSample 39 = .ok (.goto 5, 3) := by decide +kernel
theorem dX4_worstSample_42 : decode cX4_worstSample 42 = .ok (.ldc 129, 2) := by decide +kernel
theorem dX4_worstSample_44 : decode cX4_worstSample 44 = .ok (.ireturn, 1) := by decide +kernel
theorem dX4_energy_0 : decode cX4_energy 0 = .ok (.iload_n 1, 1) := by decide +kernel
theorem dX4_energy_1 : decode cX4_energy 1 = .ok (.invokestatic 145, 3) := by decide +kernel
theorem dX4_energy_4 : decode cX4_energy 4 = .ok (.ifCond .ne 7, 3) := by decide +kernel
theorem dX4_energy_7 : decode cX4_energy 7 = .ok (.ldc2_w 169, 3) := by decide +kernel
theorem dX4_energy_10 : decode cX4_energy 10 = .ok (.lreturn, 1) := by decide +kernel
theorem dX4_energy_11 : decode cX4_energy 11 = .ok (.aload_n 0, 1) := by decide +kernel
theorem dX4_energy_12 : decode cX4_energy 12 = .ok (.getfield 26, 3) := by decide +kernel
theorem dX4_energy_15 : decode cX4_energy 15 = .ok (.iload_n 1, 1) := by decide +kernel
theorem dX4_energy_16 : decode cX4_energy 16 = .ok (.invokevirtual 148, 3) := by decide +kernel
theorem dX4_energy_19 : decode cX4_energy 19 = .ok (.ifCond .eq 24, 3) := by decide +kernel
theorem dX4_energy_22 : decode cX4_energy 22 = .ok (.aload_n 0, 1) := by decide +kernel
theorem dX4_energy_23 : decode cX4_energy 23 = .ok (.getfield 26, 3) := by decide +kernel
theorem dX4_energy_26 : decode cX4_energy 26 = .ok (.iload_n 1, 1) := by decide +kernel
theorem dX4_energy_27 : decode cX4_energy 27 = .ok (.invokevirtual 151, 3) := by decide +kernel
theorem dX4_energy_30 : decode cX4_energy 30 = .ok (.aload_n 0, 1) := by decide +kernel
theorem dX4_energy_31 : decode cX4_energy 31 = .ok (.getfield 10, 3) := by decide +kernel
theorem dX4_energy_34 : decode cX4_energy 34 = .ok (.getfield 65, 3) := by decide +kernel
theorem dX4_energy_37 : decode cX4_energy 37 = .ok (.invokestatic 171, 3) := by decide +kernel
theorem dX4_energy_40 : decode cX4_energy 40 = .ok (.goto 6, 3) := by decide +kernel
theorem dX4_energy_43 : decode cX4_energy 43 = .ok (.ldc2_w 175, 3) := by decide +kernel
theorem dX4_energy_46 : decode cX4_energy 46 = .ok (.lreturn, 1) := by decide +kernel
theorem dX4_best_0 : decode cX4_best 0 = .ok (.iload_n 1, 1) := by decide +kernel
theorem dX4_best_1 : decode cX4_best 1 = .ok (.iconst 0, 1) := by decide +kernel
theorem dX4_best_2 : decode cX4_best 2 = .ok (.iconst 1, 1) := by decide +kernel
theorem dX4_best_3 : decode cX4_best 3 = .ok (.invokestatic 60, 3) := by decide +kernel
theorem dX4_best_6 : decode cX4_best 6 = .ok (.ifCond .ne 6, 3) := by decide +kernel
theorem dX4_best_9 : decode cX4_best 9 = .ok (.ldc 64, 2) := by decide +kernel
theorem dX4_best_11 : decode cX4_best 11 = .ok (.ireturn, 1) := by decide +kernel
theorem dX4_best_12 : decode cX4_best 12 = .ok (.aload_n 0, 1) := by decide +kernel
theorem dX4_best_13 : decode cX4_best 13 = .ok (.getfield 33, 3) := by decide +kernel
theorem dX4_best_16 : decode cX4_best 16 = .ok (.getfield 177, 3) := by decide +kernel
theorem dX4_best_19 : decode cX4_best 19 = .ok (.ifCond .ne 6, 3) := by decide +kernel
theorem dX4_best_22 : decode cX4_best 22 = .ok (.ldc 129, 2) := by decide +kernel
theorem dX4_best_24 : decode cX4_best 24 = .ok (.ireturn, 1) := by decide +kernel
theorem dX4_best_25 : decode cX4_best 25 = .ok (.iload_n 1, 1) := by decide +kernel
theorem dX4_best_26 : decode cX4_best 26 = .ok (.ifCond .ne 13, 3) := by decide +kernel
theorem dX4_best_29 : decode cX4_best 29 = .ok (.aload_n 0, 1) := by decide +kernel
theorem dX4_best_30 : decode cX4_best 30 = .ok (.getfield 33, 3) := by decide +kernel
theorem dX4_best_33 : decode cX4_best 33 = .ok (.getfield 180, 3) := by decide +kernel
theorem dX4_best_36 : decode cX4_best 36 = .ok (.goto 10, 3) := by decide +kernel
theorem dX4_best_39 : decode cX4_best 39 = .ok (.aload_n 0, 1) := by decide +kernel
theorem dX4_best_40 : decode cX4_best 40 = .ok (.getfield 33, 3) := by decide +kernel
theorem dX4_best_43 : decode cX4_best 43 = .ok (.getfield 183, 3) := by decide +kernel
theorem dX4_best_46 : decode cX4_best 46 = .ok (.ireturn, 1) := by decide +kernel
theorem dX4_bestInput_0 : decode cX4_bestInput 0 = .ok (.aload_n 0, 1) := by decide +kernel
theorem dX4_bestInput_1 : decode cX4_bestInput 1 = .ok (.iload_n 1, 1) := by decide +kernel
theorem dX4_bestInput_2 : decode cX4_bestInput 2 = .ok (.invokevirtual 69, 3) := by decide +kernel
theorem dX4_bestInput_5 : decode cX4_bestInput 5 = .ok (.ifCond .ne 6, 3) := by decide +kernel
theorem dX4_bestInput_8 : decode cX4_bestInput 8 = .ok (.ldc 64, 2) := by decide +kernel
theorem dX4_bestInput_10 : decode cX4_bestInput 10 = .ok (.ireturn, 1) := by decide +kernel
theorem dX4_bestInput_11 : decode cX4_bestInput 11 = .ok (.aload_n 0, 1) := by decide +kernel
theorem dX4_bestInput_12 : decode cX4_bestInput 12 = .ok (.getfield 33, 3) := by decide +kernel
theorem dX4_bestInput_15 : decode cX4_bestInput 15 = .ok (.getfield 177, 3) := by decide +kernel
theorem dX4_bestInput_18 : decode cX4_bestInput 18 = .ok (.ifCond .eq 15, 3) := by decide +kernel
theorem dX4_bestInput_21 : decode cX4_bestInput 21 = .ok (.aload_n 0, 1) := by decide +kernel
theorem dX4_bestInput_22 : decode cX4_bestInput 22 = .ok (.getfield 33, 3) := by decide +kernel
theorem dX4_bestInput_25 : decode cX4_bestInput 25 = .ok (.getfield 186, 3) := by decide +kernel
theorem dX4_bestInput_28 : decode cX4_bestInput 28 = .ok (.iload_n 1, 1) := by decide +kernel
theorem dX4_bestInput_29 : decode cX4_bestInput 29 = .ok (.iaload, 1) := by decide +kernel
theorem dX4_bestInput_30 : decode cX4_bestInput 30 = .ok (.goto 5, 3) := by decide +kernel
theorem dX4_bestInput_33 : decode cX4_bestInput 33 = .ok (.ldc 129, 2) := by decide +kernel
theorem dX4_bestInput_35 : decode cX4_bestInput 35 = .ok (.ireturn, 1) := by decide +kernel
theorem dX4_state_0 : decode cX4_state 0 = .ok (.aload_n 0, 1) := by decide +kernel
theorem dX4_state_1 : decode cX4_state 1 = .ok (.iload_n 1, 1) := by decide +kernel
theorem dX4_state_2 : decode cX4_state 2 = .ok (.invokevirtual 69, 3) := by decide +kernel
theorem dX4_state_5 : decode cX4_state 5 = .ok (.ifCond .ne 6, 3) := by decide +kernel
theorem dX4_state_8 : decode cX4_state 8 = .ok (.ldc 64, 2) := by decide +kernel
theorem dX4_state_10 : decode cX4_state 10 = .ok (.ireturn, 1) := by decide +kernel
theorem dX4_state_11 : decode cX4_state 11 = .ok (.aload_n 0, 1) := by decide +kernel
theorem dX4_state_12 : decode cX4_state 12 = .ok (.getfield 26, 3) := by decide +kernel
theorem dX4_state_15 : decode cX4_state 15 = .ok (.iconst 0, 1) := by decide +kernel
theorem dX4_state_16 : decode cX4_state 16 = .ok (.invokevirtual 148, 3) := by decide +kernel
theorem dX4_state_19 : decode cX4_state 19 = .ok (.ifCond .ne 5, 3) := by decide +kernel
theorem dX4_state_22 : decode cX4_state 22 = .ok (.iconst 0, 1) := by decide +kernel
theorem dX4_state_23 : decode cX4_state 23 = .ok (.ireturn, 1) := by decide +kernel
theorem dX4_state_24 : decode cX4_state 24 = .ok (.aload_n 0, 1) := by decide +kernel
theorem dX4_state_25 : decode cX4_state 25 = .ok (.iload_n 1, 1) := by decide +kernel
theorem dX4_state_26 : decode cX4_state 26 = .ok (.invokevirtual 189, 3) := by decide +kernel
theorem dX4_state_29 : decode cX4_state 29 = .ok (.ifCond .eq 5, 3) := by decide +kernel
theorem dX4_state_32 : decode cX4_state 32 = .ok (.iconst 1, 1) := by decide +kernel
theorem dX4_state_33 : decode cX4_state 33 = .ok (.ireturn, 1) := by decide +kernel
theorem dX4_state_34 : decode cX4_state 34 = .ok (.aload_n 0, 1) := by decide +kernel
theorem dX4_state_35 : decode cX4_state 35 = .ok (.getfield 26, 3) := by decide +kernel
theorem dX4_state_38 : decode cX4_state 38 = .ok (.iload_n 1, 1) := by decide +kernel
theorem dX4_state_39 : decode cX4_state 39 = .ok (.invokevirtual 192, 3) := by decide +kernel
theorem dX4_state_42 : decode cX4_state 42 = .ok (.ifCond .eq 7, 3) := by decide +kernel
theorem dX4_state_45 : decode cX4_state 45 = .ok (.iconst 2, 1) := by decide +kernel
theorem dX4_state_46 : decode cX4_state 46 = .ok (.goto 4, 3) := by decide +kernel
theorem dX4_state_49 : decode cX4_state 49 = .ok (.iconst 3, 1) := by decide +kernel
theorem dX4_state_50 : decode cX4_state 50 = .ok (.ireturn, 1) := by decide +kernel
theorem dX4_convergedCount_0 : decode cX4_convergedCount 0 = .ok (.iconst 0, 1) := by decide +kernel
theorem dX4_convergedCount_1 : decode cX4_convergedCount 1 = .ok (.istore_n 1, 1) := by decide +kernel
theorem dX4_convergedCount_2 : decode cX4_convergedCount 2 = .ok (.iconst 0, 1) := by decide +kernel
theorem dX4_convergedCount_3 : decode cX4_convergedCount 3 = .ok (.istore_n 2, 1) := by decide +kernel
theorem dX4_convergedCount_4 : decode cX4_convergedCount 4 = .ok (.iload_n 2, 1) := by decide +kernel
theorem dX4_convergedCount_5 : decode cX4_convergedCount 5 = .ok (.aload_n 0, 1) := by decide +kernel
theorem dX4_convergedCount_6 : decode cX4_convergedCount 6 = .ok (.getfield 10, 3) := by decide +kernel
theorem dX4_convergedCount_9 : decode cX4_convergedCount 9 = .ok (.getfield 65, 3) := by decide +kernel
theorem dX4_convergedCount_12 : decode cX4_convergedCount 12 = .ok (.if_icmp .ge 20, 3) := by decide +kernel
theorem dX4_convergedCount_15 : decode cX4_convergedCount 15 = .ok (.aload_n 0, 1) := by decide +kernel
theorem dX4_convergedCount_16 : decode cX4_convergedCount 16 = .ok (.iload_n 2, 1) := by decide +kernel
theorem dX4_convergedCount_17 : decode cX4_convergedCount 17 = .ok (.invokevirtual 189, 3) := by decide +kernel
theorem dX4_convergedCount_20 : decode cX4_convergedCount 20 = .ok (.ifCond .eq 6, 3) := by decide +kernel
theorem dX4_convergedCount_23 : decode cX4_convergedCount 23 = .ok (.iinc 1 1, 3) := by decide +kernel
theorem dX4_convergedCount_26 : decode cX4_convergedCount 26 = .ok (.iinc 2 1, 3) := by decide +kernel
theorem dX4_convergedCount_29 : decode cX4_convergedCount 29 = .ok (.goto (-25), 3) := by decide +kernel
theorem dX4_convergedCount_32 : decode cX4_convergedCount 32 = .ok (.iload_n 1, 1) := by decide +kernel
theorem dX4_convergedCount_33 : decode cX4_convergedCount 33 = .ok (.ireturn, 1) := by decide +kernel
theorem dX4_setPlant_0 : decode cX4_setPlant 0 = .ok (.iload_n 1, 1) := by decide +kernel
theorem dX4_setPlant_1 : decode cX4_setPlant 1 = .ok (.iconst 0, 1) := by decide +kernel
theorem dX4_setPlant_2 : decode cX4_setPlant 2 = .ok (.iconst 5, 1) := by decide +kernel
theorem dX4_setPlant_3 : decode cX4_setPlant 3 = .ok (.invokestatic 60, 3) := by decide +kernel
theorem dX4_setPlant_6 : decode cX4_setPlant 6 = .ok (.ifCond .eq 16, 3) := by decide +kernel
theorem dX4_setPlant_9 : decode cX4_setPlant 9 = .ok (.iload_n 2, 1) := by decide +kernel
theorem dX4_setPlant_10 : decode cX4_setPlant 10 = .ok (.sipush (-3000), 3) := by decide +kernel
theorem dX4_setPlant_13 : decode cX4_setPlant 13 = .ok (.sipush 3000, 3) := by decide +kernel
theorem dX4_setPlant_16 : decode cX4_setPlant 16 = .ok (.invokestatic 60, 3) := by decide +kernel
theorem dX4_setPlant_19 : decode cX4_setPlant 19 = .ok (.ifCond .ne 6, 3) := by decide +kernel
theorem dX4_setPlant_22 : decode cX4_setPlant 22 = .ok (.ldc 64, 2) := by decide +kernel
theorem dX4_setPlant_24 : decode cX4_setPlant 24 = .ok (.ireturn, 1) := by decide +kernel
theorem dX4_setPlant_25 : decode cX4_setPlant 25 = .ok (.aload_n 0, 1) := by decide +kernel
theorem dX4_setPlant_26 : decode cX4_setPlant 26 = .ok (.getfield 19, 3) := by decide +kernel
theorem dX4_setPlant_29 : decode cX4_setPlant 29 = .ok (.getfield 195, 3) := by decide +kernel
theorem dX4_setPlant_32 : decode cX4_setPlant 32 = .ok (.iload_n 1, 1) := by decide +kernel
theorem dX4_setPlant_33 : decode cX4_setPlant 33 = .ok (.iaload, 1) := by decide +kernel
theorem dX4_setPlant_34 : decode cX4_setPlant 34 = .ok (.istore_n 3, 1) := by decide +kernel
theorem dX4_setPlant_35 : decode cX4_setPlant 35 = .ok (.aload_n 0, 1) := by decide +kernel
theorem dX4_setPlant_36 : decode cX4_setPlant 36 = .ok (.getfield 19, 3) := by decide +kernel
theorem dX4_setPlant_39 : decode cX4_setPlant 39 = .ok (.getfield 195, 3) := by decide +kernel
theorem dX4_setPlant_42 : decode cX4_setPlant 42 = .ok (.iload_n 1, 1) := by decide +kernel
theorem dX4_setPlant_43 : decode cX4_setPlant 43 = .ok (.iload_n 2, 1) := by decide +kernel
theorem dX4_setPlant_44 : decode cX4_setPlant 44 = .ok (.iastore, 1) := by decide +kernel
theorem dX4_setPlant_45 : decode cX4_setPlant 45 = .ok (.iload_n 3, 1) := by decide +kernel
theorem dX4_setPlant_46 : decode cX4_setPlant 46 = .ok (.ireturn, 1) := by decide +kernel
theorem dX4_setDisturbance_0 : decode cX4_setDisturbance 0 = .ok (.iload_n 1, 1) := by decide +kernel
theorem dX4_setDisturbance_1 : decode cX4_setDisturbance 1 = .ok (.iconst 0, 1) := by decide +kernel
theorem dX4_setDisturbance_2 : decode cX4_setDisturbance 2 = .ok (.sipush 1000, 3) := by decide +kernel
theorem dX4_setDisturbance_5 : decode cX4_setDisturbance 5 = .ok (.invokestatic 60, 3) := by decide +kernel
theorem dX4_setDisturbance_8 : decode cX4_setDisturbance 8 = .ok (.ifCond .ne 6, 3) := by decide +kernel
theorem dX4_setDisturbance_11 : decode cX4_setDisturbance 11 = .ok (.ldc 64, 2) := by decide +kernel
theorem dX4_setDisturbance_13 : decode cX4_setDisturbance 13 = .ok (.ireturn, 1) := by decide +kernel
theorem dX4_setDisturbance_14 : decode cX4_setDisturbance 14 = .ok (.aload_n 0, 1) := by decide +kernel
theorem dX4_setDisturbance_15 : decode cX4_setDisturbance 15 = .ok (.getfield 19, 3) := by decide +kernel
theorem dX4_setDisturbance_18 : decode cX4_setDisturbance 18 = .ok (.getfield 198, 3) := by decide +kernel
theorem dX4_setDisturbance_21 : decode cX4_setDisturbance 21 = .ok (.istore_n 3, 1) := by decide +kernel
theorem dX4_setDisturbance_22 : decode cX4_setDisturbance 22 = .ok (.aload_n 0, 1) := by decide +kernel
theorem dX4_setDisturbance_23 : decode cX4_setDisturbance 23 = .ok (.getfield 19, 3) := by decide +kernel
theorem dX4_setDisturbance_26 : decode cX4_setDisturbance 26 = .ok (.iload_n 1, 1) := by decide +kernel
theorem dX4_setDisturbance_27 : decode cX4_setDisturbance 27 = .ok (.putfield 198, 3) := by decide +kernel
theorem dX4_setDisturbance_30 : decode cX4_setDisturbance 30 = .ok (.aload_n 0, 1) := by decide +kernel
theorem dX4_setDisturbance_31 : decode cX4_setDisturbance 31 = .ok (.getfield 19, 3) := by decide +kernel
theorem dX4_setDisturbance_34 : decode cX4_setDisturbance 34 = .ok (.iload_n 2, 1) := by decide +kernel
theorem dX4_setDisturbance_35 : decode cX4_setDisturbance 35 = .ok (.putfield 201, 3) := by decide +kernel
theorem dX4_setDisturbance_38 : decode cX4_setDisturbance 38 = .ok (.iload_n 3, 1) := by decide +kernel
theorem dX4_setDisturbance_39 : decode cX4_setDisturbance 39 = .ok (.ireturn, 1) := by decide +kernel
theorem dX4_simulate_0 : decode cX4_simulate 0 = .ok (.iload_n 1, 1) := by decide +kernel
theorem dX4_simulate_1 : decode cX4_simulate 1 = .ok (.iconst 1, 1) := by decide +kernel
theorem dX4_simulate_2 : decode cX4_simulate 2 = .ok (.bipush 20, 2) := by decide +kernel
theorem dX4_simulate_4 : decode cX4_simulate 4 = .ok (.invokestatic 60, 3) := by decide +kernel
theorem dX4_simulate_7 : decode cX4_simulate 7 = .ok (.ifCond .ne 6, 3) := by decide +kernel
theorem dX4_simulate_10 : decode cX4_simulate 10 = .ok (.ldc 64, 2) := by decide +kernel
theorem dX4_simulate_12 : decode cX4_simulate 12 = .ok (.ireturn, 1) := by decide +kernel
theorem dX4_simulate_13 : decode cX4_simulate 13 = .ok (.aload_n 0, 1) := by decide +kernel
theorem dX4_simulate_14 : decode cX4_simulate 14 = .ok (.getfield 112, 3) := by decide +kernel
theorem dX4_simulate_17 : decode cX4_simulate 17 = .ok (.ifCond .eq 6, 3) := by decide +kernel
theorem dX4_simulate_20 : decode cX4_simulate 20 = .ok (.ldc 115, 2) := by decide +kernel
theorem dX4_simulate_22 : decode cX4_simulate 22 = .ok (.ireturn, 1) := by decide +kernel
theorem dX4_simulate_23 : decode cX4_simulate 23 = .ok (.iconst 0, 1) := by decide +kernel
theorem dX4_simulate_24 : decode cX4_simulate 24 = .ok (.istore_n 2, 1) := by decide +kernel
theorem dX4_simulate_25 : decode cX4_simulate 25 = .ok (.iload_n 2, 1) := by decide +kernel
theorem dX4_simulate_26 : decode cX4_simulate 26 = .ok (.iload_n 1, 1) := by decide +kernel
theorem dX4_simulate_27 : decode cX4_simulate 27 = .ok (.if_icmp .ge 13, 3) := by decide +kernel
theorem dX4_simulate_30 : decode cX4_simulate 30 = .ok (.aload_n 0, 1) := by decide +kernel
theorem dX4_simulate_31 : decode cX4_simulate 31 = .ok (.invokevirtual 204, 3) := by decide +kernel
theorem dX4_simulate_34 : decode cX4_simulate 34 = .ok (.iinc 2 1, 3) := by decide +kernel
theorem dX4_simulate_37 : decode cX4_simulate 37 = .ok (.goto (-12), 3) := by decide +kernel
theorem dX4_simulate_40 : decode cX4_simulate 40 = .ok (.aload_n 0, 1) := by decide +kernel
theorem dX4_simulate_41 : decode cX4_simulate 41 = .ok (.getfield 26, 3) := by decide +kernel
theorem dX4_simulate_44 : decode cX4_simulate 44 = .ok (.getfield 155, 3) := by decide +kernel
theorem dX4_simulate_47 : decode cX4_simulate 47 = .ok (.aload_n 0, 1) := by decide +kernel
theorem dX4_simulate_48 : decode cX4_simulate 48 = .ok (.getfield 26, 3) := by decide +kernel
theorem dX4_simulate_51 : decode cX4_simulate 51 = .ok (.iconst 0, 1) := by decide +kernel
theorem dX4_simulate_52 : decode cX4_simulate 52 = .ok (.invokevirtual 158, 3) := by decide +kernel
theorem dX4_simulate_55 : decode cX4_simulate 55 = .ok (.iaload, 1) := by decide +kernel
theorem dX4_simulate_56 : decode cX4_simulate 56 = .ok (.ireturn, 1) := by decide +kernel
theorem dX4_suits_0 : decode cX4_suits 0 = .ok (.lconst 0, 1) := by decide +kernel
theorem dX4_suits_1 : decode cX4_suits 1 = .ok (.lstore_n 1, 1) := by decide +kernel
theorem dX4_suits_2 : decode cX4_suits 2 = .ok (.iconst 0, 1) := by decide +kernel
theorem dX4_suits_3 : decode cX4_suits 3 = .ok (.istore_n 3, 1) := by decide +kernel
theorem dX4_suits_4 : decode cX4_suits 4 = .ok (.iload_n 3, 1) := by decide +kernel
theorem dX4_suits_5 : decode cX4_suits 5 = .ok (.bipush 6, 2) := by decide +kernel
theorem dX4_suits_7 : decode cX4_suits 7 = .ok (.if_icmp .ge 45, 3) := by decide +kernel
theorem dX4_suits_10 : decode cX4_suits 10 = .ok (.iload_n 3, 1) := by decide +kernel
theorem dX4_suits_11 : decode cX4_suits 11 = .ok (.aload_n 0, 1) := by decide +kernel
theorem dX4_suits_12 : decode cX4_suits 12 = .ok (.getfield 10, 3) := by decide +kernel
theorem dX4_suits_15 : decode cX4_suits 15 = .ok (.getfield 79, 3) := by decide +kernel
theorem dX4_suits_18 : decode cX4_suits 18 = .ok (.if_icmp .eq 28, 3) := by decide +kernel
theorem dX4_suits_21 : decode cX4_suits 21 = .ok (.lload_n 1, 1) := by decide +kernel
theorem dX4_suits_22 : decode cX4_suits 22 = .ok (.aload_n 0, 1) := by decide +kernel
theorem dX4_suits_23 : decode cX4_suits 23 = .ok (.getfield 10, 3) := by decide +kernel
theorem dX4_suits_26 : decode cX4_suits 26 = .ok (.getfield 76, 3) := by decide +kernel
theorem dX4_suits_29 : decode cX4_suits 29 = .ok (.i2l, 1) := by decide +kernel
theorem dX4_suits_30 : decode cX4_suits 30 = .ok (.aload_n 0, 1) := by decide +kernel
theorem dX4_suits_31 : decode cX4_suits 31 = .ok (.getfield 19, 3) := by decide +kernel
theorem dX4_suits_34 : decode cX4_suits 34 = .ok (.getfield 195, 3) := by decide +kernel
theorem dX4_suits_37 : decode cX4_suits 37 = .ok (.iload_n 3, 1) := by decide +kernel
theorem dX4_suits_38 : decode cX4_suits 38 = .ok (.iaload, 1) := by decide +kernel
theorem dX4_suits_39 : decode cX4_suits 39 = .ok (.i2l, 1) := by decide +kernel
theorem dX4_suits_40 : decode cX4_suits 40 = .ok (.lmul, 1) := by decide +kernel
theorem dX4_suits_41 : decode cX4_suits 41 = .ok (.invokestatic 207, 3) := by decide +kernel
theorem dX4_suits_44 : decode cX4_suits 44 = .ok (.ladd, 1) := by decide +kernel
theorem dX4_suits_45 : decode cX4_suits 45 = .ok (.lstore_n 1, 1) := by decide +kernel
theorem dX4_suits_46 : decode cX4_suits 46 = .ok (.iinc 3 1, 3) := by decide +kernel
theorem dX4_suits_49 : decode cX4_suits 49 = .ok (.goto (-45), 3) := by decide +kernel
theorem dX4_suits_52 : decode cX4_suits 52 = .ok (.aload_n 0, 1) := by decide +kernel
theorem dX4_suits_53 : decode cX4_suits 53 = .ok (.getfield 10, 3) := by decide +kernel
theorem dX4_suits_56 : decode cX4_suits 56 = .ok (.getfield 79, 3) := by decide +kernel
theorem dX4_suits_59 : decode cX4_suits 59 = .ok (.bipush 6, 2) := by decide +kernel
theorem dX4_suits_61 : decode cX4_suits 61 = .ok (.if_icmp .ge 21, 3) := by decide +kernel
theorem dX4_suits_64 : decode cX4_suits 64 = .ok (.aload_n 0, 1) := by decide +kernel
theorem dX4_suits_65 : decode cX4_suits 65 = .ok (.getfield 19, 3) := by decide +kernel
theorem dX4_suits_68 : decode cX4_suits 68 = .ok (.getfield 195, 3) := by decide +kernel
theorem dX4_suits_71 : decode cX4_suits 71 = .ok (.aload_n 0, 1) := by decide +kernel
theorem dX4_suits_72 : decode cX4_suits 72 = .ok (.getfield 10, 3) := by decide +kernel
theorem dX4_suits_75 : decode cX4_suits 75 = .ok (.getfield 79, 3) := by decide +kernel
theorem dX4_suits_78 : decode cX4_suits 78 = .ok (.iaload, 1) := by decide +kernel
theorem dX4_suits_79 : decode cX4_suits 79 = .ok (.goto 4, 3) := by decide +kernel
theorem dX4_suits_82 : decode cX4_suits 82 = .ok (.iconst 0, 1) := by decide +kernel
theorem dX4_suits_83 : decode cX4_suits 83 = .ok (.istore_n 3, 1) := by decide +kernel
theorem dX4_suits_84 : decode cX4_suits 84 = .ok (.lload_n 1, 1) := by decide +kernel
theorem dX4_suits_85 : decode cX4_suits 85 = .ok (.ldc2_w 213, 3) := by decide +kernel
theorem dX4_suits_88 : decode cX4_suits 88 = .ok (.aload_n 0, 1) := by decide +kernel
theorem dX4_suits_89 : decode cX4_suits 89 = .ok (.getfield 10, 3) := by decide +kernel
theorem dX4_suits_92 : decode cX4_suits 92 = .ok (.getfield 76, 3) := by decide +kernel
theorem dX4_suits_95 : decode cX4_suits 95 = .ok (.i2l, 1) := by decide +kernel
theorem dX4_suits_96 : decode cX4_suits 96 = .ok (.iload_n 3, 1) := by decide +kernel
theorem dX4_suits_97 : decode cX4_suits 97 = .ok (.i2l, 1) := by decide +kernel
theorem dX4_suits_98 : decode cX4_suits 98 = .ok (.lmul, 1) := by decide +kernel
theorem dX4_suits_99 : decode cX4_suits 99 = .ok (.lsub, 1) := by decide +kernel
theorem dX4_suits_100 : decode cX4_suits 100 = .ok (.invokestatic 207, 3) := by decide +kernel
theorem dX4_suits_103 : decode cX4_suits 103 = .ok (.ladd, 1) := by decide +kernel
theorem dX4_suits_104 : decode cX4_suits 104 = .ok (.lstore_n 1, 1) := by decide +kernel
theorem dX4_suits_105 : decode cX4_suits 105 = .ok (.lload_n 1, 1) := by decide +kernel
theorem dX4_suits_106 : decode cX4_suits 106 = .ok (.ldc2_w 213, 3) := by decide +kernel
theorem dX4_suits_109 : decode cX4_suits 109 = .ok (.lcmp, 1) := by decide +kernel
theorem dX4_suits_110 : decode cX4_suits 110 = .ok (.ifCond .gt 7, 3) := by decide +kernel
theorem dX4_suits_113 : decode cX4_suits 113 = .ok (.iconst 1, 1) := by decide +kernel
theorem dX4_suits_114 : decode cX4_suits 114 = .ok (.goto 4, 3) := by decide +kernel
theorem dX4_suits_117 : decode cX4_suits 117 = .ok (.iconst 0, 1) := by decide +kernel
theorem dX4_suits_118 : decode cX4_suits 118 = .ok (.invokestatic 82, 3) := by decide +kernel
theorem dX4_suits_121 : decode cX4_suits 121 = .ok (.ireturn, 1) := by decide +kernel
theorem dX4_isWithin_0 : decode cX4_isWithin 0 = .ok (.iload_n 0, 1) := by decide +kernel
theorem dX4_isWithin_1 : decode cX4_isWithin 1 = .ok (.iload_n 1, 1) := by decide +kernel
theorem dX4_isWithin_2 : decode cX4_isWithin 2 = .ok (.if_icmp .lt 12, 3) := by decide +kernel
theorem dX4_isWithin_5 : decode cX4_isWithin 5 = .ok (.iload_n 0, 1) := by decide +kernel
theorem dX4_isWithin_6 : decode cX4_isWithin 6 = .ok (.iload_n 2, 1) := by decide +kernel
theorem dX4_isWithin_7 : decode cX4_isWithin 7 = .ok (.if_icmp .gt 7, 3) := by decide +kernel
theorem dX4_isWithin_10 : decode cX4_isWithin 10 = .ok (.iconst 1, 1) := by decide +kernel
theorem dX4_isWithin_11 : decode cX4_isWithin 11 = .ok (.goto 4, 3) := by decide +kernel
theorem dX4_isWithin_14 : decode cX4_isWithin 14 = .ok (.iconst 0, 1) := by decide +kernel
theorem dX4_isWithin_15 : decode cX4_isWithin 15 = .ok (.ireturn, 1) := by decide +kernel
theorem dX4_isSignal_0 : decode cX4_isSignal 0 = .ok (.iload_n 0, 1) := by decide +kernel
theorem dX4_isSignal_1 : decode cX4_isSignal 1 = .ok (.ldc 215, 2) := by decide +kernel
theorem dX4_isSignal_3 : decode cX4_isSignal 3 = .ok (.ldc 92, 2) := by decide +kernel
theorem dX4_isSignal_5 : decode cX4_isSignal 5 = .ok (.invokestatic 60, 3) := by decide +kernel
theorem dX4_isSignal_8 : decode cX4_isSignal 8 = .ok (.ireturn, 1) := by decide +kernel
theorem dX4_isAge_0 : decode cX4_isAge 0 = .ok (.iload_n 0, 1) := by decide +kernel
theorem dX4_isAge_1 : decode cX4_isAge 1 = .ok (.iconst 0, 1) := by decide +kernel
theorem dX4_isAge_2 : decode cX4_isAge 2 = .ok (.iconst 4, 1) := by decide +kernel
theorem dX4_isAge_3 : decode cX4_isAge 3 = .ok (.invokestatic 60, 3) := by decide +kernel
theorem dX4_isAge_6 : decode cX4_isAge 6 = .ok (.ireturn, 1) := by decide +kernel
theorem dX4_isSample_0 : decode cX4_isSample 0 = .ok (.iload_n 1, 1) := by decide +kernel
theorem dX4_isSample_1 : decode cX4_isSample 1 = .ok (.iconst 0, 1) := by decide +kernel
theorem dX4_isSample_2 : decode cX4_isSample 2 = .ok (.aload_n 0, 1) := by decide +kernel
theorem dX4_isSample_3 : decode cX4_isSample 3 = .ok (.getfield 10, 3) := by decide +kernel
theorem dX4_isSample_6 : decode cX4_isSample 6 = .ok (.getfield 65, 3) := by decide +kernel
theorem dX4_isSample_9 : decode cX4_isSample 9 = .ok (.iconst 1, 1) := by decide +kernel
theorem dX4_isSample_10 : decode cX4_isSample 10 = .ok (.isub, 1) := by decide +kernel
theorem dX4_isSample_11 : decode cX4_isSample 11 = .ok (.invokestatic 60, 3) := by decide +kernel
theorem dX4_isSample_14 : decode cX4_isSample 14 = .ok (.ireturn, 1) := by decide +kernel
theorem dX4_oneIf_0 : decode cX4_oneIf 0 = .ok (.iload_n 0, 1) := by decide +kernel
theorem dX4_oneIf_1 : decode cX4_oneIf 1 = .ok (.ifCond .eq 7, 3) := by decide +kernel
theorem dX4_oneIf_4 : decode cX4_oneIf 4 = .ok (.iconst 1, 1) := by decide +kernel
theorem dX4_oneIf_5 : decode cX4_oneIf 5 = .ok (.goto 4, 3) := by decide +kernel
theorem dX4_oneIf_8 : decode cX4_oneIf 8 = .ok (.iconst 0, 1) := by decide +kernel
theorem dX4_oneIf_9 : decode cX4_oneIf 9 = .ok (.ireturn, 1) := by decide +kernel
theorem dX4_limitTo_0 : decode cX4_limitTo 0 = .ok (.iload_n 2, 1) := by decide +kernel
theorem dX4_limitTo_1 : decode cX4_limitTo 1 = .ok (.ineg, 1) := by decide +kernel
theorem dX4_limitTo_2 : decode cX4_limitTo 2 = .ok (.i2l, 1) := by decide +kernel
theorem dX4_limitTo_3 : decode cX4_limitTo 3 = .ok (.iload_n 2, 1) := by decide +kernel
theorem dX4_limitTo_4 : decode cX4_limitTo 4 = .ok (.i2l, 1) := by decide +kernel
theorem dX4_limitTo_5 : decode cX4_limitTo 5 = .ok (.lload_n 0, 1) := by decide +kernel
theorem dX4_limitTo_6 : decode cX4_limitTo 6 = .ok (.invokestatic 216, 3) := by decide +kernel
theorem dX4_limitTo_9 : decode cX4_limitTo 9 = .ok (.invokestatic 220, 3) := by decide +kernel
theorem dX4_limitTo_12 : decode cX4_limitTo 12 = .ok (.l2i, 1) := by decide +kernel
theorem dX4_limitTo_13 : decode cX4_limitTo 13 = .ok (.ireturn, 1) := by decide +kernel
theorem dX4_startAnew_0 : decode cX4_startAnew 0 = .ok (.aload_n 0, 1) := by decide +kernel
theorem dX4_startAnew_1 : decode cX4_startAnew 1 = .ok (.getfield 10, 3) := by decide +kernel
theorem dX4_startAnew_4 : decode cX4_startAnew 4 = .ok (.iload_n 1, 1) := by decide +kernel
theorem dX4_startAnew_5 : decode cX4_startAnew 5 = .ok (.invokevirtual 223, 3) := by decide +kernel
theorem dX4_startAnew_8 : decode cX4_startAnew 8 = .ok (.aload_n 0, 1) := by decide +kernel
theorem dX4_startAnew_9 : decode cX4_startAnew 9 = .ok (.getfield 19, 3) := by decide +kernel
theorem dX4_startAnew_12 : decode cX4_startAnew 12 = .ok (.invokevirtual 226, 3) := by decide +kernel
theorem dX4_startAnew_15 : decode cX4_startAnew 15 = .ok (.aload_n 0, 1) := by decide +kernel
theorem dX4_startAnew_16 : decode cX4_startAnew 16 = .ok (.getfield 26, 3) := by decide +kernel
theorem dX4_startAnew_19 : decode cX4_startAnew 19 = .ok (.iconst 0, 1) := by decide +kernel
theorem dX4_startAnew_20 : decode cX4_startAnew 20 = .ok (.putfield 136, 3) := by decide +kernel
theorem dX4_startAnew_23 : decode cX4_startAnew 23 = .ok (.aload_n 0, 1) := by decide +kernel
theorem dX4_startAnew_24 : decode cX4_startAnew 24 = .ok (.getfield 33, 3) := by decide +kernel
theorem dX4_startAnew_27 : decode cX4_startAnew 27 = .ok (.iconst 0, 1) := by decide +kernel
theorem dX4_startAnew_28 : decode cX4_startAnew 28 = .ok (.putfield 177, 3) := by decide +kernel
theorem dX4_startAnew_31 : decode cX4_startAnew 31 = .ok (.aload_n 0, 1) := by decide +kernel
theorem dX4_startAnew_32 : decode cX4_startAnew 32 = .ok (.getfield 37, 3) := by decide +kernel
theorem dX4_startAnew_35 : decode cX4_startAnew 35 = .ok (.iconst 0, 1) := by decide +kernel
theorem dX4_startAnew_36 : decode cX4_startAnew 36 = .ok (.invokestatic 228, 3) := by decide +kernel
theorem dX4_startAnew_39 : decode cX4_startAnew 39 = .ok (.aload_n 0, 1) := by decide +kernel
theorem dX4_startAnew_40 : decode cX4_startAnew 40 = .ok (.getfield 41, 3) := by decide +kernel
theorem dX4_startAnew_43 : decode cX4_startAnew 43 = .ok (.iconst 0, 1) := by decide +kernel
theorem dX4_startAnew_44 : decode cX4_startAnew 44 = .ok (.invokestatic 228, 3) := by decide +kernel
theorem dX4_startAnew_47 : decode cX4_startAnew 47 = .ok (.aload_n 0, 1) := by decide +kernel
theorem dX4_startAnew_48 : decode cX4_startAnew 48 = .ok (.iconst 0, 1) := by decide +kernel
theorem dX4_startAnew_49 : decode cX4_startAnew 49 = .ok (.putfield 112, 3) := by decide +kernel
theorem dX4_startAnew_52 : decode cX4_startAnew 52 = .ok (.aload_n 0, 1) := by decide +kernel
theorem dX4_startAnew_53 : decode cX4_startAnew 53 = .ok (.iconst 0, 1) := by decide +kernel
theorem dX4_startAnew_54 : decode cX4_startAnew 54 = .ok (.putfield 126, 3) := by decide +kernel
theorem dX4_startAnew_57 : decode cX4_startAnew 57 = .ok (.aload_n 0, 1) := by decide +kernel
theorem dX4_startAnew_58 : decode cX4_startAnew 58 = .ok (.iconst 0, 1) := by decide +kernel
theorem dX4_startAnew_59 : decode cX4_startAnew 59 = .ok (.putfield 119, 3) := by decide +kernel
theorem dX4_startAnew_62 : decode cX4_startAnew 62 = .ok (.aload_n 0, 1) := by decide +kernel
theorem dX4_startAnew_63 : decode cX4_startAnew 63 = .ok (.iconst 0, 1) := by decide +kernel
theorem dX4_startAnew_64 : decode cX4_startAnew 64 = .ok (.putfield 130, 3) := by decide +kernel
theorem dX4_startAnew_67 : decode cX4_startAnew 67 = .ok (.aload_n 0, 1) := by decide +kernel
theorem dX4_startAnew_68 : decode cX4_startAnew 68 = .ok (.iconst 0, 1) := by decide +kernel
theorem dX4_startAnew_69 : decode cX4_startAnew 69 = .ok (.putfield 139, 3) := by decide +kernel
theorem dX4_startAnew_72 : decode cX4_startAnew 72 = .ok (.aload_n 0, 1) := by decide +kernel
theorem dX4_startAnew_73 : decode cX4_startAnew 73 = .ok (.iconst 0, 1) := by decide +kernel
theorem dX4_startAnew_74 : decode cX4_startAnew 74 = .ok (.putfield 142, 3) := by decide +kernel
theorem dX4_startAnew_77 : decode cX4_startAnew 77 = .ok (.return_, 1) := by decide +kernel
theorem dX4_beginTrial_0 : decode cX4_beginTrial 0 = .ok (.aload_n 0, 1) := by decide +kernel
theorem dX4_beginTrial_1 : decode cX4_beginTrial 1 = .ok (.iconst 1, 1) := by decide +kernel
theorem dX4_beginTrial_2 : decode cX4_beginTrial 2 = .ok (.putfield 112, 3) := by decide +kernel
theorem dX4_beginTrial_5 : decode cX4_beginTrial 5 = .ok (.aload_n 0, 1) := by decide +kernel
theorem dX4_beginTrial_6 : decode cX4_beginTrial 6 = .ok (.iconst 0, 1) := by decide +kernel
theorem dX4_beginTrial_7 : decode cX4_beginTrial 7 = .ok (.putfield 126, 3) := by decide +kernel
theorem dX4_beginTrial_10 : decode cX4_beginTrial 10 = .ok (.aload_n 0, 1) := by decide +kernel
theorem dX4_beginTrial_11 : decode cX4_beginTrial 11 = .ok (.dup, 1) := by decide +kernel
theorem dX4_beginTrial_12 : decode cX4_beginTrial 12 = .ok (.getfield 119, 3) := by decide +kernel
theorem dX4_beginTrial_15 : decode cX4_beginTrial 15 = .ok (.iconst 1, 1) := by decide +kernel
theorem dX4_beginTrial_16 : decode cX4_beginTrial 16 = .ok (.iadd, 1) := by decide +kernel
theorem dX4_beginTrial_17 : decode cX4_beginTrial 17 = .ok (.putfield 119, 3) := by decide +kernel
theorem dX4_beginTrial_20 : decode cX4_beginTrial 20 = .ok (.return_, 1) := by decide +kernel
theorem dX4_takeOutput_0 : decode cX4_takeOutput 0 = .ok (.aload_n 0, 1) := by decide +kernel
theorem dX4_takeOutput_1 : decode cX4_takeOutput 1 = .ok (.getfield 47, 3) := by decide +kernel
theorem dX4_takeOutput_4 : decode cX4_takeOutput 4 = .ok (.aload_n 0, 1) := by decide +kernel
theorem dX4_takeOutput_5 : decode cX4_takeOutput 5 = .ok (.getfield 126, 3) := by decide +kernel
theorem dX4_takeOutput_8 : decode cX4_takeOutput 8 = .ok (.iload_n 1, 1) := by decide +kernel
theorem dX4_takeOutput_9 : decode cX4_takeOutput 9 = .ok (.iastore, 1) := by decide +kernel
theorem dX4_takeOutput_10 : decode cX4_takeOutput 10 = .ok (.aload_n 0, 1) := by decide +kernel
theorem dX4_takeOutput_11 : decode cX4_takeOutput 11 = .ok (.dup, 1) := by decide +kernel
theorem dX4_takeOutput_12 : decode cX4_takeOutput 12 = .ok (.getfield 126, 3) := by decide +kernel
theorem dX4_takeOutput_15 : decode cX4_takeOutput 15 = .ok (.iconst 1, 1) := by decide +kernel
theorem dX4_takeOutput_16 : decode cX4_takeOutput 16 = .ok (.iadd, 1) := by decide +kernel
theorem dX4_takeOutput_17 : decode cX4_takeOutput 17 = .ok (.putfield 126, 3) := by decide +kernel
theorem dX4_takeOutput_20 : decode cX4_takeOutput 20 = .ok (.aload_n 0, 1) := by decide +kernel
theorem dX4_takeOutput_21 : decode cX4_takeOutput 21 = .ok (.getfield 126, 3) := by decide +kernel
theorem dX4_takeOutput_24 : decode cX4_takeOutput 24 = .ok (.aload_n 0, 1) := by decide +kernel
theorem dX4_takeOutput_25 : decode cX4_takeOutput 25 = .ok (.getfield 10, 3) := by decide +kernel
theorem dX4_takeOutput_28 : decode cX4_takeOutput 28 = .ok (.getfield 65, 3) := by decide +kernel
theorem dX4_takeOutput_31 : decode cX4_takeOutput 31 = .ok (.if_icmp .lt 7, 3) := by decide +kernel
theorem dX4_takeOutput_34 : decode cX4_takeOutput 34 = .ok (.aload_n 0, 1) := by decide +kernel
theorem dX4_takeOutput_35 : decode cX4_takeOutput 35 = .ok (.invokevirtual 234, 3) := by decide +kernel
theorem dX4_takeOutput_38 : decode cX4_takeOutput 38 = .ok (.return_, 1) := by decide +kernel
theorem dX4_simulateTrial_0 : decode cX4_simulateTrial 0 = .ok (.aload_n 0, 1) := by decide +kernel
theorem dX4_simulateTrial_1 : decode cX4_simulateTrial 1 = .ok (.invokevirtual 116, 3) := by decide +kernel
theorem dX4_simulateTrial_4 : decode cX4_simulateTrial 4 = .ok (.iconst 0, 1) := by decide +kernel
theorem dX4_simulateTrial_5 : decode cX4_simulateTrial 5 = .ok (.istore_n 1, 1) := by decide +kernel
theorem dX4_simulateTrial_6 : decode cX4_simulateTrial 6 = .ok (.iload_n 1, 1) := by decide +kernel
theorem dX4_simulateTrial_7 : decode cX4_simulateTrial 7 = .ok (.aload_n 0, 1) := by decide +kernel
theorem dX4_simulateTrial_8 : decode cX4_simulateTrial 8 = .ok (.getfield 10, 3) := by decide +kernel
theorem dX4_simulateTrial_11 : decode cX4_simulateTrial 11 = .ok (.getfield 65, 3) := by decide +kernel
theorem dX4_simulateTrial_14 : decode cX4_simulateTrial 14 = .ok (.if_icmp .ge 30, 3) := by decide +kernel
theorem dX4_simulateTrial_17 : decode cX4_simulateTrial 17 = .ok (.aload_n 0, 1) := by decide +kernel
theorem dX4_simulateTrial_18 : decode cX4_simulateTrial 18 = .ok (.aload_n 0, 1) := by decide +kernel
theorem dX4_simulateTrial_19 : decode cX4_simulateTrial 19 = .ok (.getfield 19, 3) := by decide +kernel
theorem dX4_simulateTrial_22 : decode cX4_simulateTrial 22 = .ok (.aload_n 0, 1) := by decide +kernel
theorem dX4_simulateTrial_23 : decode cX4_simulateTrial 23 = .ok (.getfield 41, 3) := by decide +kernel
theorem dX4_simulateTrial_26 : decode cX4_simulateTrial 26 = .ok (.iload_n 1, 1) := by decide +kernel
theorem dX4_simulateTrial_27 : decode cX4_simulateTrial 27 = .ok (.invokevirtual 237, 3) := by decide +kernel
theorem dX4_simulateTrial_30 : decode cX4_simulateTrial 30 = .ok (.ldc 92, 2) := by decide +kernel
theorem dX4_simulateTrial_32 : decode cX4_simulateTrial 32 = .ok (.invokestatic 240, 3) := by decide +kernel
theorem dX4_simulateTrial_35 : decode cX4_simulateTrial 35 = .ok (.invokevirtual 123, 3) := by decide +kernel
theorem dX4_simulateTrial_38 : decode cX4_simulateTrial 38 = .ok (.iinc 1 1, 3) := by decide +kernel
theorem dX4_simulateTrial_41 : decode cX4_simulateTrial 41 = .ok (.goto (-35), 3) := by decide +kernel
theorem dX4_simulateTrial_44 : decode cX4_simulateTrial 44 = .ok (.return_, 1) := by decide +kernel
theorem dX4_completeTrial_0 : decode cX4_completeTrial 0 = .ok (.aload_n 0, 1) := by decide +kernel
theorem dX4_completeTrial_1 : decode cX4_completeTrial 1 = .ok (.iconst 0, 1) := by decide +kernel
theorem dX4_completeTrial_2 : decode cX4_completeTrial 2 = .ok (.putfield 112, 3) := by decide +kernel
theorem dX4_completeTrial_5 : decode cX4_completeTrial 5 = .ok (.aload_n 0, 1) := by decide +kernel
theorem dX4_completeTrial_6 : decode cX4_completeTrial 6 = .ok (.getfield 26, 3) := by decide +kernel
theorem dX4_completeTrial_9 : decode cX4_completeTrial 9 = .ok (.iconst 0, 1) := by decide +kernel
theorem dX4_completeTrial_10 : decode cX4_completeTrial 10 = .ok (.invokevirtual 148, 3) := by decide +kernel
theorem dX4_completeTrial_13 : decode cX4_completeTrial 13 = .ok (.ifCond .eq 10, 3) := by decide +kernel
theorem dX4_completeTrial_16 : decode cX4_completeTrial 16 = .ok (.aload_n 0, 1) := by decide +kernel
theorem dX4_completeTrial_17 : decode cX4_completeTrial 17 = .ok (.invokevirtual 244, 3) := by decide +kernel
theorem dX4_completeTrial_20 : decode cX4_completeTrial 20 = .ok (.goto 4, 3) := by decide +kernel
theorem dX4_completeTrial_23 : decode cX4_completeTrial 23 = .ok (.iconst 0, 1) := by decide +kernel
theorem dX4_completeTrial_24 : decode cX4_completeTrial 24 = .ok (.istore_n 1, 1) := by decide +kernel
theorem dX4_completeTrial_25 : decode cX4_completeTrial 25 = .ok (.iconst 0, 1) := by decide +kernel
theorem dX4_completeTrial_26 : decode cX4_completeTrial 26 = .ok (.istore_n 2, 1) := by decide +kernel
theorem dX4_completeTrial_27 : decode cX4_completeTrial 27 = .ok (.iload_n 2, 1) := by decide +kernel
theorem dX4_completeTrial_28 : decode cX4_completeTrial 28 = .ok (.aload_n 0, 1) := by decide +kernel
theorem dX4_completeTrial_29 : decode cX4_completeTrial 29 = .ok (.getfield 10, 3) := by decide +kernel
theorem dX4_completeTrial_32 : decode cX4_completeTrial 32 = .ok (.getfield 65, 3) := by decide +kernel
theorem dX4_completeTrial_35 : decode cX4_completeTrial 35 = .ok (.if_icmp .ge 22, 3) := by decide +kernel
theorem dX4_completeTrial_38 : decode cX4_completeTrial 38 = .ok (.aload_n 0, 1) := by decide +kernel
theorem dX4_completeTrial_39 : decode cX4_completeTrial 39 = .ok (.getfield 50, 3) := by decide +kernel
theorem dX4_completeTrial_42 : decode cX4_completeTrial 42 = .ok (.iload_n 2, 1) := by decide +kernel
theorem dX4_completeTrial_43 : decode cX4_completeTrial 43 = .ok (.aload_n 0, 1) := by decide +kernel
theorem dX4_completeTrial_44 : decode cX4_completeTrial 44 = .ok (.iload_n 2, 1) := by decide +kernel
theorem dX4_completeTrial_45 : decode cX4_completeTrial 45 = .ok (.iload_n 1, 1) := by decide +kernel
theorem dX4_completeTrial_46 : decode cX4_completeTrial 46 = .ok (.iadd, 1) := by decide +kernel
theorem dX4_completeTrial_47 : decode cX4_completeTrial 47 = .ok (.invokevirtual 248, 3) := by decide +kernel
theorem dX4_completeTrial_50 : decode cX4_completeTrial 50 = .ok (.iastore, 1) := by decide +kernel
theorem dX4_completeTrial_51 : decode cX4_completeTrial 51 = .ok (.iinc 2 1, 3) := by decide +kernel
theorem dX4_completeTrial_54 : decode cX4_completeTrial 54 = .ok (.goto (-27), 3) := by decide +kernel
theorem dX4_completeTrial_57 : decode cX4_completeTrial 57 = .ok (.aload_n 0, 1) := by decide +kernel
theorem dX4_completeTrial_58 : decode cX4_completeTrial 58 = .ok (.getfield 26, 3) := by decide +kernel
theorem dX4_completeTrial_61 : decode cX4_completeTrial 61 = .ok (.aload_n 0, 1) := by decide +kernel
theorem dX4_completeTrial_62 : decode cX4_completeTrial 62 = .ok (.getfield 37, 3) := by decide +kernel
theorem dX4_completeTrial_65 : decode cX4_completeTrial 65 = .ok (.aload_n 0, 1) := by decide +kernel
theorem dX4_completeTrial_66 : decode cX4_completeTrial 66 = .ok (.getfield 50, 3) := by decide +kernel
theorem dX4_completeTrial_69 : decode cX4_completeTrial 69 = .ok (.aload_n 0, 1) := by decide +kernel
theorem dX4_completeTrial_70 : decode cX4_completeTrial 70 = .ok (.getfield 10, 3) := by decide +kernel
theorem dX4_completeTrial_73 : decode cX4_completeTrial 73 = .ok (.getfield 65, 3) := by decide +kernel
theorem dX4_completeTrial_76 : decode cX4_completeTrial 76 = .ok (.iload_n 1, 1) := by decide +kernel
theorem dX4_completeTrial_77 : decode cX4_completeTrial 77 = .ok (.invokevirtual 251, 3) := by decide +kernel
theorem dX4_completeTrial_80 : decode cX4_completeTrial 80 = .ok (.aload_n 0, 1) := by decide +kernel
theorem dX4_completeTrial_81 : decode cX4_completeTrial 81 = .ok (.aload_n 0, 1) := by decide +kernel
theorem dX4_completeTrial_82 : decode cX4_completeTrial 82 = .ok (.getfield 26, 3) := by decide +kernel
theorem dX4_completeTrial_85 : decode cX4_completeTrial 85 = .ok (.getfield 155, 3) := by decide +kernel
theorem dX4_completeTrial_88 : decode cX4_completeTrial 88 = .ok (.aload_n 0, 1) := by decide +kernel
theorem dX4_completeTrial_89 : decode cX4_completeTrial 89 = .ok (.getfield 26, 3) := by decide +kernel
theorem dX4_completeTrial_92 : decode cX4_completeTrial 92 = .ok (.iconst 0, 1) := by decide +kernel
theorem dX4_completeTrial_93 : decode cX4_completeTrial 93 = .ok (.invokevirtual 158, 3) := by decide +kernel
theorem dX4_completeTrial_96 : decode cX4_completeTrial 96 = .ok (.iaload, 1) := by decide +kernel
theorem dX4_completeTrial_97 : decode cX4_completeTrial 97 = .ok (.invokevirtual 255, 3) := by decide +kernel
theorem dX4_completeTrial_100 : decode cX4_completeTrial 100 = .ok (.aload_n 0, 1) := by decide +kernel
theorem dX4_completeTrial_101 : decode cX4_completeTrial 101 = .ok (.getfield 10, 3) := by decide +kernel
theorem dX4_completeTrial_104 : decode cX4_completeTrial 104 = .ok (.getfield 108, 3) := by decide +kernel
theorem dX4_completeTrial_107 : decode cX4_completeTrial 107 = .ok (.ifCond .eq 18, 3) := by decide +kernel
theorem dX4_completeTrial_110 : decode cX4_completeTrial 110 = .ok (.aload_n 0, 1) := by decide +kernel
theorem dX4_completeTrial_111 : decode cX4_completeTrial 111 = .ok (.getfield 142, 3) := by decide +kernel
theorem dX4_completeTrial_114 : decode cX4_completeTrial 114 = .ok (.iconst 2, 1) := by decide +kernel
theorem dX4_completeTrial_115 : decode cX4_completeTrial 115 = .ok (.if_icmp .lt 10, 3) := by decide +kernel
theorem dX4_completeTrial_118 : decode cX4_completeTrial 118 = .ok (.aload_n 0, 1) := by decide +kernel
theorem dX4_completeTrial_119 : decode cX4_completeTrial 119 = .ok (.invokevirtual 258, 3) := by decide +kernel
theorem dX4_completeTrial_122 : decode cX4_completeTrial 122 = .ok (.goto 23, 3) := by decide +kernel
theorem dX4_completeTrial_125 : decode cX4_completeTrial 125 = .ok (.aload_n 0, 1) := by decide +kernel
theorem dX4_completeTrial_126 : decode cX4_completeTrial 126 = .ok (.aload_n 0, 1) := by decide +kernel
theorem dX4_completeTrial_127 : decode cX4_completeTrial 127 = .ok (.getfield 26, 3) := by decide +kernel
theorem dX4_completeTrial_130 : decode cX4_completeTrial 130 = .ok (.iconst 0, 1) := by decide +kernel
theorem dX4_completeTrial_131 : decode cX4_completeTrial 131 = .ok (.invokevirtual 151, 3) := by decide +kernel
theorem dX4_completeTrial_134 : decode cX4_completeTrial 134 = .ok (.aload_n 0, 1) := by decide +kernel
theorem dX4_completeTrial_135 : decode cX4_completeTrial 135 = .ok (.getfield 10, 3) := by decide +kernel
theorem dX4_completeTrial_138 : decode cX4_completeTrial 138 = .ok (.getfield 65, 3) := by decide +kernel
theorem dX4_completeTrial_141 : decode cX4_completeTrial 141 = .ok (.iconst 0, 1) := by decide +kernel
theorem dX4_completeTrial_142 : decode cX4_completeTrial 142 = .ok (.invokevirtual 261, 3) := by decide +kernel
theorem dX4_completeTrial_145 : decode cX4_completeTrial 145 = .ok (.return_, 1) := by decide +kernel
theorem dX4_bestFittingShift_0 : decode cX4_bestFittingShift 0 = .ok (.iconst 0, 1) := by decide +kernel
theorem dX4_bestFittingShift_1 : decode cX4_bestFittingShift 1 = .ok (.istore_n 1, 1) := by decide +kernel
theorem dX4_bestFittingShift_2 : decode cX4_bestFittingShift 2 = .ok (.aload_n 0, 1) := by decide +kernel
theorem dX4_bestFittingShift_3 : decode cX4_bestFittingShift 3 = .ok (.iconst 0, 1) := by decide +kernel
theorem dX4_bestFittingShift_4 : decode cX4_bestFittingShift 4 = .ok (.invokevirtual 265, 3) := by decide +kernel
theorem dX4_bestFittingShift_7 : decode cX4_bestFittingShift 7 = .ok (.lstore_n 2, 1) := by decide +kernel
theorem dX4_bestFittingShift_8 : decode cX4_bestFittingShift 8 = .ok (.iconst 2, 1) := by decide +kernel
theorem dX4_bestFittingShift_9 : decode cX4_bestFittingShift 9 = .ok (.istore 4, 2) := by decide +kernel
theorem dX4_bestFittingShift_11 : decode cX4_bestFittingShift 11 = .ok (.iload 4, 2) := by decide +kernel
theorem dX4_bestFittingShift_13 : decode cX4_bestFittingShift 13 = .ok (.iconst 2, 1) := by decide +kernel
theorem dX4_bestFittingShift_14 : decode cX4_bestFittingShift 14 = .ok (.aload_n 0, 1) := by decide +kernel
theorem dX4_bestFittingShift_15 : decode cX4_bestFittingShift 15 = .ok (.getfield 10, 3) := by decide +kernel
theorem dX4_bestFittingShift_18 : decode cX4_bestFittingShift 18 = .ok (.getfield 99, 3) := by decide +kernel
theorem dX4_bestFittingShift_21 : decode cX4_bestFittingShift 21 = .ok (.imul, 1) := by decide +kernel
theorem dX4_bestFittingShift_22 : decode cX4_bestFittingShift 22 = .ok (.iconst 1, 1) := by decide +kernel
theorem dX4_bestFittingShift_23 : decode cX4_bestFittingShift 23 = .ok (.iadd, 1) := by decide +kernel
theorem dX4_bestFittingShift_24 : decode cX4_bestFittingShift 24 = .ok (.if_icmp .gt 51, 3) := by decide +kernel
theorem dX4_bestFittingShift_27 : decode cX4_bestFittingShift 27 = .ok (.iload 4, 2) := by decide +kernel
theorem dX4_bestFittingShift_29 : decode cX4_bestFittingShift 29 = .ok (.iconst 2, 1) := by decide +kernel
theorem dX4_bestFittingShift_30 : decode cX4_bestFittingShift 30 = .ok (.irem, 1) := by decide +kernel
theorem dX4_bestFittingShift_31 : decode cX4_bestFittingShift 31 = .ok (.ifCond .ne 11, 3) := by decide +kernel
theorem dX4_bestFittingShift_34 : decode cX4_bestFittingShift 34 = .ok (.iload 4, 2) := by decide +kernel
theorem dX4_bestFittingShift_36 : decode cX4_bestFittingShift 36 = .ok (.ineg, 1) := by decide +kernel
theorem dX4_bestFittingShift_37 : decode cX4_bestFittingShift 37 = .ok (.iconst 2, 1) := by decide +kernel
theorem dX4_bestFittingShift_38 : decode cX4_bestFittingShift 38 = .ok (.idiv, 1) := by decide +kernel
theorem dX4_bestFittingShift_39 : decode cX4_bestFittingShift 39 = .ok (.goto 7, 3) := by decide +kernel
theorem dX4_bestFittingShift_42 : decode cX4_bestFittingShift 42 = .ok (.iload 4, 2) := by decide +kernel
theorem dX4_bestFittingShift_44 : decode cX4_bestFittingShift 44 = .ok (.iconst 2, 1) := by decide +kernel
theorem dX4_bestFittingShift_45 : decode cX4_bestFittingShift 45 = .ok (.idiv, 1) := by decide +kernel
theorem dX4_bestFittingShift_46 : decode cX4_bestFittingShift 46 = .ok (.istore 5, 2) := by decide +kernel
theorem dX4_bestFittingShift_48 : decode cX4_bestFittingShift 48 = .ok (.aload_n 0, 1) := by decide +kernel
theorem dX4_bestFittingShift_49 : decode cX4_bestFittingShift 49 = .ok (.iload 5, 2) := by decide +kernel
theorem dX4_bestFittingShift_51 : decode cX4_bestFittingShift 51 = .ok (.invokevirtual 265, 3) := by decide +kernel
theorem dX4_bestFittingShift_54 : decode cX4_bestFittingShift 54 = .ok (.lstore 6, 2) := by decide +kernel
theorem dX4_bestFittingShift_56 : decode cX4_bestFittingShift 56 = .ok (.lload 6, 2) := by decide +kernel
theorem dX4_bestFittingShift_58 : decode cX4_bestFittingShift 58 = .ok (.lload_n 2, 1) := by decide +kernel
theorem dX4_bestFittingShift_59 : decode cX4_bestFittingShift 59 = .ok (.lcmp, 1) := by decide +kernel
theorem dX4_bestFittingShift_60 : decode cX4_bestFittingShift 60 = .ok (.ifCond .ge 9, 3) := by decide +kernel
theorem dX4_bestFittingShift_63 : decode cX4_bestFittingShift 63 = .ok (.lload 6, 2) := by decide +kernel
theorem dX4_bestFittingShift_65 : decode cX4_bestFittingShift 65 = .ok (.lstore_n 2, 1) := by decide +kernel
theorem dX4_bestFittingShift_66 : decode cX4_bestFittingShift 66 = .ok (.iload 5, 2) := by decide +kernel
theorem dX4_bestFittingShift_68 : decode cX4_bestFittingShift 68 = .ok (.istore_n 1, 1) := by decide +kernel
theorem dX4_bestFittingShift_69 : decode cX4_bestFittingShift 69 = .ok (.iinc 4 1, 3) := by decide +kernel
theorem dX4_bestFittingShift_72 : decode cX4_bestFittingShift 72 = .ok (.goto (-61), 3) := by decide +kernel
theorem dX4_bestFittingShift_75 : decode cX4_bestFittingShift 75 = .ok (.iload_n 1, 1) := by decide +kernel
theorem dX4_bestFittingShift_76 : decode cX4_bestFittingShift 76 = .ok (.ireturn, 1) := by decide +kernel
theorem dX4_misfit_0 : decode cX4_misfit 0 = .ok (.lconst 0, 1) := by decide +kernel
theorem dX4_misfit_1 : decode cX4_misfit 1 = .ok (.lstore_n 2, 1) := by decide +kernel
theorem dX4_misfit_2 : decode cX4_misfit 2 = .ok (.iconst 0, 1) := by decide +kernel
theorem dX4_misfit_3 : decode cX4_misfit 3 = .ok (.istore 4, 2) := by decide +kernel
theorem dX4_misfit_5 : decode cX4_misfit 5 = .ok (.iload 4, 2) := by decide +kernel
theorem dX4_misfit_7 : decode cX4_misfit 7 = .ok (.aload_n 0, 1) := by decide +kernel
theorem dX4_misfit_8 : decode cX4_misfit 8 = .ok (.getfield 10, 3) := by decide +kernel
theorem dX4_misfit_11 : decode cX4_misfit 11 = .ok (.getfield 65, 3) := by decide +kernel
theorem dX4_misfit_14 : decode cX4_misfit 14 = .ok (.if_icmp .ge 32, 3) := by decide +kernel
theorem dX4_misfit_17 : decode cX4_misfit 17 = .ok (.lload_n 2, 1) := by decide +kernel
theorem dX4_misfit_18 : decode cX4_misfit 18 = .ok (.aload_n 0, 1) := by decide +kernel
theorem dX4_misfit_19 : decode cX4_misfit 19 = .ok (.iload 4, 2) := by decide +kernel
theorem dX4_misfit_21 : decode cX4_misfit 21 = .ok (.iload_n 1, 1) := by decide +kernel
theorem dX4_misfit_22 : decode cX4_misfit 22 = .ok (.iadd, 1) := by decide +kernel
theorem dX4_misfit_23 : decode cX4_misfit 23 = .ok (.invokevirtual 248, 3) := by decide +kernel
theorem dX4_misfit_26 : decode cX4_misfit 26 = .ok (.aload_n 0, 1) := by decide +kernel
theorem dX4_misfit_27 : decode cX4_misfit 27 = .ok (.getfield 50, 3) := by decide +kernel
theorem dX4_misfit_30 : decode cX4_misfit 30 = .ok (.iload 4, 2) := by decide +kernel
theorem dX4_misfit_32 : decode cX4_misfit 32 = .ok (.iaload, 1) := by decide +kernel
theorem dX4_misfit_33 : decode cX4_misfit 33 = .ok (.isub, 1) := by decide +kernel
theorem dX4_misfit_34 : decode cX4_misfit 34 = .ok (.invokestatic 269, 3) := by decide +kernel
theorem dX4_misfit_37 : decode cX4_misfit 37 = .ok (.i2l, 1) := by decide +kernel
theorem dX4_misfit_38 : decode cX4_misfit 38 = .ok (.ladd, 1) := by decide +kernel
theorem dX4_misfit_39 : decode cX4_misfit 39 = .ok (.lstore_n 2, 1) := by decide +kernel
theorem dX4_misfit_40 : decode cX4_misfit 40 = .ok (.iinc 4 1, 3) := by decide +kernel
theorem dX4_misfit_43 : decode cX4_misfit 43 = .ok (.goto (-38), 3) := by decide +kernel
theorem dX4_misfit_46 : decode cX4_misfit 46 = .ok (.lload_n 2, 1) := by decide +kernel
theorem dX4_misfit_47 : decode cX4_misfit 47 = .ok (.lreturn, 1) := by decide +kernel
theorem dX4_rawAt_0 : decode cX4_rawAt 0 = .ok (.aload_n 0, 1) := by decide +kernel
theorem dX4_rawAt_1 : decode cX4_rawAt 1 = .ok (.getfield 47, 3) := by decide +kernel
theorem dX4_rawAt_4 : decode cX4_rawAt 4 = .ok (.iconst 0, 1) := by decide +kernel
theorem dX4_rawAt_5 : decode cX4_rawAt 5 = .ok (.aload_n 0, 1) := by decide +kernel
theorem dX4_rawAt_6 : decode cX4_rawAt 6 = .ok (.getfield 10, 3) := by decide +kernel
theorem dX4_rawAt_9 : decode cX4_rawAt 9 = .ok (.getfield 65, 3) := by decide +kernel
theorem dX4_rawAt_12 : decode cX4_rawAt 12 = .ok (.iconst 1, 1) := by decide +kernel
theorem dX4_rawAt_13 : decode cX4_rawAt 13 = .ok (.isub, 1) := by decide +kernel
theorem dX4_rawAt_14 : decode cX4_rawAt 14 = .ok (.iload_n 1, 1) := by decide +kernel
theorem dX4_rawAt_15 : decode cX4_rawAt 15 = .ok (.invokestatic 271, 3) := by decide +kernel
theorem dX4_rawAt_18 : decode cX4_rawAt 18 = .ok (.invokestatic 274, 3) := by decide +kernel
theorem dX4_rawAt_21 : decode cX4_rawAt 21 = .ok (.iaload, 1) := by decide +kernel
theorem dX4_rawAt_22 : decode cX4_rawAt 22 = .ok (.ireturn, 1) := by decide +kernel
theorem dX4_judge_0 : decode cX4_judge 0 = .ok (.aload_n 0, 1) := by decide +kernel
theorem dX4_judge_1 : decode cX4_judge 1 = .ok (.getfield 33, 3) := by decide +kernel
theorem dX4_judge_4 : decode cX4_judge 4 = .ok (.getfield 177, 3) := by decide +kernel
theorem dX4_judge_7 : decode cX4_judge 7 = .ok (.ifCond .eq 14, 3) := by decide +kernel
theorem dX4_judge_10 : decode cX4_judge 10 = .ok (.iload_n 1, 1) := by decide +kernel
theorem dX4_judge_11 : decode cX4_judge 11 = .ok (.aload_n 0, 1) := by decide +kernel
theorem dX4_judge_12 : decode cX4_judge 12 = .ok (.getfield 33, 3) := by decide +kernel
theorem dX4_judge_15 : decode cX4_judge 15 = .ok (.getfield 180, 3) := by decide +kernel
theorem dX4_judge_18 : decode cX4_judge 18 = .ok (.if_icmp .ge 29, 3) := by decide +kernel
theorem dX4_judge_21 : decode cX4_judge 21 = .ok (.aload_n 0, 1) := by decide +kernel
theorem dX4_judge_22 : decode cX4_judge 22 = .ok (.getfield 33, 3) := by decide +kernel
theorem dX4_judge_25 : decode cX4_judge 25 = .ok (.iload_n 1, 1) := by decide +kernel
theorem dX4_judge_26 : decode cX4_judge 26 = .ok (.aload_n 0, 1) := by decide +kernel
theorem dX4_judge_27 : decode cX4_judge 27 = .ok (.getfield 119, 3) := by decide +kernel
theorem dX4_judge_30 : decode cX4_judge 30 = .ok (.iconst 1, 1) := by decide +kernel
theorem dX4_judge_31 : decode cX4_judge 31 = .ok (.isub, 1) := by decide +kernel
theorem dX4_judge_32 : decode cX4_judge 32 = .ok (.aload_n 0, 1) := by decide +kernel
theorem dX4_judge_33 : decode cX4_judge 33 = .ok (.getfield 41, 3) := by decide +kernel
theorem dX4_judge_36 : decode cX4_judge 36 = .ok (.invokevirtual 276, 3) := by decide +kernel
theorem dX4_judge_39 : decode cX4_judge 39 = .ok (.aload_n 0, 1) := by decide +kernel
theorem dX4_judge_40 : decode cX4_judge 40 = .ok (.iconst 0, 1) := by decide +kernel
theorem dX4_judge_41 : decode cX4_judge 41 = .ok (.putfield 142, 3) := by decide +kernel
theorem dX4_judge_44 : decode cX4_judge 44 = .ok (.goto 32, 3) := by decide +kernel
theorem dX4_judge_47 : decode cX4_judge 47 = .ok (.iload_n 1, 1) := by decide +kernel
theorem dX4_judge_48 : decode cX4_judge 48 = .ok (.aload_n 0, 1) := by decide +kernel
theorem dX4_judge_49 : decode cX4_judge 49 = .ok (.getfield 33, 3) := by decide +kernel
theorem dX4_judge_52 : decode cX4_judge 52 = .ok (.getfield 180, 3) := by decide +kernel
theorem dX4_judge_55 : decode cX4_judge 55 = .ok (.if_icmp .le 16, 3) := by decide +kernel
theorem dX4_judge_58 : decode cX4_judge 58 = .ok (.aload_n 0, 1) := by decide +kernel
theorem dX4_judge_59 : decode cX4_judge 59 = .ok (.dup, 1) := by decide +kernel
theorem dX4_judge_60 : decode cX4_judge 60 = .ok (.getfield 142, 3) := by decide +kernel
theorem dX4_judge_63 : decode cX4_judge 63 = .ok (.iconst 1, 1) := by decide +kernel
theorem dX4_judge_64 : decode cX4_judge 64 = .ok (.iadd, 1) := by decide +kernel
theorem dX4_judge_65 : decode cX4_judge 65 = .ok (.putfield 142, 3) := by decide +kernel
theorem dX4_judge_68 : decode cX4_judge 68 = .ok (.goto 8, 3) := by decide +kernel
theorem dX4_judge_71 : decode cX4_judge 71 = .ok (.aload_n 0, 1) := by decide +kernel
theorem dX4_judge_72 : decode cX4_judge 72 = .ok (.iconst 0, 1) := by decide +kernel
theorem dX4_judge_73 : decode cX4_judge 73 = .ok (.putfield 142, 3) := by decide +kernel
theorem dX4_judge_76 : decode cX4_judge 76 = .ok (.return_, 1) := by decide +kernel
theorem dX4_fallBack_0 : decode cX4_fallBack 0 = .ok (.aload_n 0, 1) := by decide +kernel
theorem dX4_fallBack_1 : decode cX4_fallBack 1 = .ok (.getfield 33, 3) := by decide +kernel
theorem dX4_fallBack_4 : decode cX4_fallBack 4 = .ok (.getfield 186, 3) := by decide +kernel
theorem dX4_fallBack_7 : decode cX4_fallBack 7 = .ok (.iconst 0, 1) := by decide +kernel
theorem dX4_fallBack_8 : decode cX4_fallBack 8 = .ok (.aload_n 0, 1) := by decide +kernel
theorem dX4_fallBack_9 : decode cX4_fallBack 9 = .ok (.getfield 41, 3) := by decide +kernel
theorem dX4_fallBack_12 : decode cX4_fallBack 12 = .ok (.iconst 0, 1) := by decide +kernel
theorem dX4_fallBack_13 : decode cX4_fallBack 13 = .ok (.bipush 48, 2) := by decide +kernel
theorem dX4_fallBack_15 : decode cX4_fallBack 15 = .ok (.invokestatic 280, 3) := by decide +kernel
theorem dX4_fallBack_18 : decode cX4_fallBack 18 = .ok (.aload_n 0, 1) := by decide +kernel
theorem dX4_fallBack_19 : decode cX4_fallBack 19 = .ok (.getfield 10, 3) := by decide +kernel
theorem dX4_fallBack_22 : decode cX4_fallBack 22 = .ok (.dup, 1) := by decide +kernel
theorem dX4_fallBack_23 : decode cX4_fallBack 23 = .ok (.getfield 76, 3) := by decide +kernel
theorem dX4_fallBack_26 : decode cX4_fallBack 26 = .ok (.iconst 2, 1) := by decide +kernel
theorem dX4_fallBack_27 : decode cX4_fallBack 27 = .ok (.idiv, 1) := by decide +kernel
theorem dX4_fallBack_28 : decode cX4_fallBack 28 = .ok (.putfield 76, 3) := by decide +kernel
theorem dX4_fallBack_31 : decode cX4_fallBack 31 = .ok (.aload_n 0, 1) := by decide +kernel
theorem dX4_fallBack_32 : decode cX4_fallBack 32 = .ok (.iconst 0, 1) := by decide +kernel
theorem dX4_fallBack_33 : decode cX4_fallBack 33 = .ok (.putfield 142, 3) := by decide +kernel
theorem dX4_fallBack_36 : decode cX4_fallBack 36 = .ok (.aload_n 0, 1) := by decide +kernel
theorem dX4_fallBack_37 : decode cX4_fallBack 37 = .ok (.dup, 1) := by decide +kernel
theorem dX4_fallBack_38 : decode cX4_fallBack 38 = .ok (.getfield 139, 3) := by decide +kernel
theorem dX4_fallBack_41 : decode cX4_fallBack 41 = .ok (.iconst 1, 1) := by decide +kernel
theorem dX4_fallBack_42 : decode cX4_fallBack 42 = .ok (.iadd, 1) := by decide +kernel
theorem dX4_fallBack_43 : decode cX4_fallBack 43 = .ok (.putfield 139, 3) := by decide +kernel
theorem dX4_fallBack_46 : decode cX4_fallBack 46 = .ok (.return_, 1) := by decide +kernel
theorem dX4_learnFromPart_0 : decode cX4_learnFromPart 0 = .ok (.iconst 0, 1) := by decide +kernel
theorem dX4_learnFromPart_1 : decode cX4_learnFromPart 1 = .ok (.istore_n 1, 1) := by decide +kernel
theorem dX4_learnFromPart_2 : decode cX4_learnFromPart 2 = .ok (.iload_n 1, 1) := by decide +kernel
theorem dX4_learnFromPart_3 : decode cX4_learnFromPart 3 = .ok (.aload_n 0, 1) := by decide +kernel
theorem dX4_learnFromPart_4 : decode cX4_learnFromPart 4 = .ok (.getfield 126, 3) := by decide +kernel
theorem dX4_learnFromPart_7 : decode cX4_learnFromPart 7 = .ok (.if_icmp .ge 28, 3) := by decide +kernel
theorem dX4_learnFromPart_10 : decode cX4_learnFromPart 10 = .ok (.aload_n 0, 1) := by decide +kernel
theorem dX4_learnFromPart_11 : decode cX4_learnFromPart 11 = .ok (.getfield 53, 3) := by decide +kernel
theorem dX4_learnFromPart_14 : decode cX4_learnFromPart 14 = .ok (.iload_n 1, 1) := by decide +kernel
theorem dX4_learnFromPart_15 : decode cX4_learnFromPart 15 = .ok (.aload_n 0, 1) := by decide +kernel
theorem dX4_learnFromPart_16 : decode cX4_learnFromPart 16 = .ok (.getfield 37, 3) := by decide +kernel
theorem dX4_learnFromPart_19 : decode cX4_learnFromPart 19 = .ok (.iload_n 1, 1) := by decide +kernel
theorem dX4_learnFromPart_20 : decode cX4_learnFromPart 20 = .ok (.iaload, 1) := by decide +kernel
theorem dX4_learnFromPart_21 : decode cX4_learnFromPart 21 = .ok (.aload_n 0, 1) := by decide +kernel
theorem dX4_learnFromPart_22 : decode cX4_learnFromPart 22 = .ok (.getfield 47, 3) := by decide +kernel
theorem dX4_learnFromPart_25 : decode cX4_learnFromPart 25 = .ok (.iload_n 1, 1) := by decide +kernel
theorem dX4_learnFromPart_26 : decode cX4_learnFromPart 26 = .ok (.iaload, 1) := by decide +kernel
theorem dX4_learnFromPart_27 : decode cX4_learnFromPart 27 = .ok (.isub, 1) := by decide +kernel
theorem dX4_learnFromPart_28 : decode cX4_learnFromPart 28 = .ok (.iastore, 1) := by decide +kernel
theorem dX4_learnFromPart_29 : decode cX4_learnFromPart 29 = .ok (.iinc 1 1, 3) := by decide +kernel
theorem dX4_learnFromPart_32 : decode cX4_learnFromPart 32 = .ok (.goto (-30), 3) := by decide +kernel
theorem dX4_learnFromPart_35 : decode cX4_learnFromPart 35 = .ok (.aload_n 0, 1) := by decide +kernel
theorem dX4_learnFromPart_36 : decode cX4_learnFromPart 36 = .ok (.aload_n 0, 1) := by decide +kernel
theorem dX4_learnFromPart_37 : decode cX4_learnFromPart 37 = .ok (.getfield 53, 3) := by decide +kernel
theorem dX4_learnFromPart_40 : decode cX4_learnFromPart 40 = .ok (.aload_n 0, 1) := by decide +kernel
theorem dX4_learnFromPart_41 : decode cX4_learnFromPart 41 = .ok (.getfield 126, 3) := by decide +kernel
theorem dX4_learnFromPart_44 : decode cX4_learnFromPart 44 = .ok (.iconst 1, 1) := by decide +kernel
theorem dX4_learnFromPart_45 : decode cX4_learnFromPart 45 = .ok (.invokevirtual 261, 3) := by decide +kernel
theorem dX4_learnFromPart_48 : decode cX4_learnFromPart 48 = .ok (.return_, 1) := by decide +kernel
theorem dX4_correct_0 : decode cX4_correct 0 = .ok (.iconst 0, 1) := by decide +kernel
theorem dX4_correct_1 : decode cX4_correct 1 = .ok (.istore 4, 2) := by decide +kernel
theorem dX4_correct_3 : decode cX4_correct 3 = .ok (.iload 4, 2) := by decide +kernel
theorem dX4_correct_5 : decode cX4_correct 5 = .ok (.aload_n 0, 1) := by decide +kernel
theorem dX4_correct_6 : decode cX4_correct 6 = .ok (.getfield 10, 3) := by decide +kernel
theorem dX4_correct_9 : decode cX4_correct 9 = .ok (.getfield 79, 3) := by decide +kernel
theorem dX4_correct_12 : decode cX4_correct 12 = .ok (.iadd, 1) := by decide +kernel
theorem dX4_correct_13 : decode cX4_correct 13 = .ok (.iload_n 2, 1) := by decide +kernel
theorem dX4_correct_14 : decode cX4_correct 14 = .ok (.if_icmp .ge 99, 3) := by decide +kernel
theorem dX4_correct_17 : decode cX4_correct 17 = .ok (.iload 4, 2) := by decide +kernel
theorem dX4_correct_19 : decode cX4_correct 19 = .ok (.aload_n 0, 1) := by decide +kernel
theorem dX4_correct_20 : decode cX4_correct 20 = .ok (.getfield 10, 3) := by decide +kernel
theorem dX4_correct_23 : decode cX4_correct 23 = .ok (.getfield 79, 3) := by decide +kernel
theorem dX4_correct_26 : decode cX4_correct 26 = .ok (.iadd, 1) := by decide +kernel
theorem dX4_correct_27 : decode cX4_correct 27 = .ok (.istore 5, 2) := by decide +kernel
theorem dX4_correct_29 : decode cX4_correct 29 = .ok (.iload_n 3, 1) := by decide +kernel
theorem dX4_correct_30 : decode cX4_correct 30 = .ok (.ifCond .eq 20, 3) := by decide +kernel
theorem dX4_correct_33 : decode cX4_correct 33 = .ok (.aload_n 0, 1) := by decide +kernel
theorem dX4_correct_34 : decode cX4_correct 34 = .ok (.getfield 10, 3) := by decide +kernel
theorem dX4_correct_37 : decode cX4_correct 37 = .ok (.getfield 96, 3) := by decide +kernel
theorem dX4_correct_40 : decode cX4_correct 40 = .ok (.iload_n 2, 1) := by decide +kernel
theorem dX4_correct_41 : decode cX4_correct 41 = .ok (.iload 5, 2) := by decide +kernel
theorem dX4_correct_43 : decode cX4_correct 43 = .ok (.isub, 1) := by decide +kernel
theorem dX4_correct_44 : decode cX4_correct 44 = .ok (.invokestatic 271, 3) := by decide +kernel
theorem dX4_correct_47 : decode cX4_correct 47 = .ok (.goto 10, 3) := by decide +kernel
theorem dX4_correct_50 : decode cX4_correct 50 = .ok (.aload_n 0, 1) := by decide +kernel
theorem dX4_correct_51 : decode cX4_correct 51 = .ok (.getfield 10, 3) := by decide +kernel
theorem dX4_correct_54 : decode cX4_correct 54 = .ok (.getfield 96, 3) := by decide +kernel
theorem dX4_correct_57 : decode cX4_correct 57 = .ok (.istore 6, 2) := by decide +kernel
theorem dX4_correct_59 : decode cX4_correct 59 = .ok (.aload_n 0, 1) := by decide +kernel
theorem dX4_correct_60 : decode cX4_correct 60 = .ok (.getfield 10, 3) := by decide +kernel
theorem dX4_correct_63 : decode cX4_correct 63 = .ok (.getfield 76, 3) := by decide +kernel
theorem dX4_correct_66 : decode cX4_correct 66 = .ok (.i2l, 1) := by decide +kernel
theorem dX4_correct_67 : decode cX4_correct 67 = .ok (.aload_n 1, 1) := by decide +kernel
theorem dX4_correct_68 : decode cX4_correct 68 = .ok (.iload 5, 2) := by decide +kernel
theorem dX4_correct_70 : decode cX4_correct 70 = .ok (.iaload, 1) := by decide +kernel
theorem dX4_correct_71 : decode cX4_correct 71 = .ok (.i2l, 1) := by decide +kernel
theorem dX4_correct_72 : decode cX4_correct 72 = .ok (.lmul, 1) := by decide +kernel
theorem dX4_correct_73 : decode cX4_correct 73 = .ok (.iload 6, 2) := by decide +kernel
theorem dX4_correct_75 : decode cX4_correct 75 = .ok (.i2l, 1) := by decide +kernel
theorem dX4_correct_76 : decode cX4_correct 76 = .ok (.lmul, 1) := by decide +kernel
theorem dX4_correct_77 : decode cX4_correct 77 = .ok (.lstore 7, 2) := by decide +kernel
theorem dX4_correct_79 : decode cX4_correct 79 = .ok (.aload_n 0, 1) := by decide +kernel
theorem dX4_correct_80 : decode cX4_correct 80 = .ok (.getfield 41, 3) := by decide +kernel
theorem dX4_correct_83 : decode cX4_correct 83 = .ok (.iload 4, 2) := by decide +kernel
theorem dX4_correct_85 : decode cX4_correct 85 = .ok (.dup2, 1) := by decide +kernel
theorem dX4_correct_86 : decode cX4_correct 86 = .ok (.iaload, 1) := by decide +kernel
theorem dX4_correct_87 : decode cX4_correct 87 = .ok (.lload 7, 2) := by decide +kernel
theorem dX4_correct_89 : decode cX4_correct 89 = .ok (.ldc2_w 286, 3) := by decide +kernel
theorem dX4_correct_92 : decode cX4_correct 92 = .ok (.aload_n 0, 1) := by decide +kernel
theorem dX4_correct_93 : decode cX4_correct 93 = .ok (.getfield 10, 3) := by decide +kernel
theorem dX4_correct_96 : decode cX4_correct 96 = .ok (.getfield 96, 3) := by decide +kernel
theorem dX4_correct_99 : decode cX4_correct 99 = .ok (.i2l, 1) := by decide +kernel
theorem dX4_correct_100 : decode cX4_correct 100 = .ok (.lmul, 1) := by decide +kernel
theorem dX4_correct_101 : decode cX4_correct 101 = .ok (.invokestatic 288, 3) := by decide +kernel
theorem dX4_correct_104 : decode cX4_correct 104 = .ok (.l2i, 1) := by decide +kernel
theorem dX4_correct_105 : decode cX4_correct 105 = .ok (.iadd, 1) := by decide +kernel
theorem dX4_correct_106 : decode cX4_correct 106 = .ok (.iastore, 1) := by decide +kernel
theorem dX4_correct_107 : decode cX4_correct 107 = .ok (.iinc 4 1, 3) := by decide +kernel
theorem dX4_correct_110 : decode cX4_correct 110 = .ok (.goto (-107), 3) := by decide +kernel
theorem dX4_correct_113 : decode cX4_correct 113 = .ok (.iconst 0, 1) := by decide +kernel
theorem dX4_correct_114 : decode cX4_correct 114 = .ok (.istore 4, 2) := by decide +kernel
theorem dX4_correct_116 : decode cX4_correct 116 = .ok (.iload 4, 2) := by decide +kernel
theorem dX4_correct_118 : decode cX4_correct 118 = .ok (.aload_n 0, 1) := by decide +kernel
theorem dX4_correct_119 : decode cX4_correct 119 = .ok (.getfield 10, 3) := by decide +kernel
theorem dX4_correct_122 : decode cX4_correct 122 = .ok (.getfield 89, 3) := by decide +kernel
theorem dX4_correct_125 : decode cX4_correct 125 = .ok (.if_icmp .ge 13, 3) := by decide +kernel
theorem dX4_correct_128 : decode cX4_correct 128 = .ok (.aload_n 0, 1) := by decide +kernel
theorem dX4_correct_129 : decode cX4_correct 129 = .ok (.invokevirtual 291, 3) := by decide +kernel
theorem dX4_correct_132 : decode cX4_correct 132 = .ok (.iinc 4 1, 3) := by decide +kernel
theorem dX4_correct_135 : decode cX4_correct 135 = .ok (.goto (-19), 3) := by decide +kernel
theorem dX4_correct_138 : decode cX4_correct 138 = .ok (.iconst 0, 1) := by decide +kernel
theorem dX4_correct_139 : decode cX4_correct 139 = .ok (.istore 4, 2) := by decide +kernel
theorem dX4_correct_141 : decode cX4_correct 141 = .ok (.iload 4, 2) := by decide +kernel
theorem dX4_correct_143 : decode cX4_correct 143 = .ok (.aload_n 0, 1) := by decide +kernel
theorem dX4_correct_144 : decode cX4_correct 144 = .ok (.getfield 10, 3) := by decide +kernel
theorem dX4_correct_147 : decode cX4_correct 147 = .ok (.getfield 65, 3) := by decide +kernel
theorem dX4_correct_150 : decode cX4_correct 150 = .ok (.if_icmp .ge 34, 3) := by decide +kernel
theorem dX4_correct_153 : decode cX4_correct 153 = .ok (.aload_n 0, 1) := by decide +kernel
theorem dX4_correct_154 : decode cX4_correct 154 = .ok (.getfield 41, 3) := by decide +kernel
theorem dX4_correct_157 : decode cX4_correct 157 = .ok (.iload 4, 2) := by decide +kernel
theorem dX4_correct_159 : decode cX4_correct 159 = .ok (.aload_n 0, 1) := by decide +kernel
theorem dX4_correct_160 : decode cX4_correct 160 = .ok (.getfield 41, 3) := by decide +kernel
theorem dX4_correct_163 : decode cX4_correct 163 = .ok (.iload 4, 2) := by decide +kernel
theorem dX4_correct_165 : decode cX4_correct 165 = .ok (.iaload, 1) := by decide +kernel
theorem dX4_correct_166 : decode cX4_correct 166 = .ok (.i2l, 1) := by decide +kernel
theorem dX4_correct_167 : decode cX4_correct 167 = .ok (.aload_n 0, 1) := by decide +kernel
theorem dX4_correct_168 : decode cX4_correct 168 = .ok (.getfield 10, 3) := by decide +kernel
theorem dX4_correct_171 : decode cX4_correct 171 = .ok (.getfield 93, 3) := by decide +kernel
theorem dX4_correct_174 : decode cX4_correct 174 = .ok (.invokestatic 240, 3) := by decide +kernel
theorem dX4_correct_177 : decode cX4_correct 177 = .ok (.iastore, 1) := by decide +kernel
theorem dX4_correct_178 : decode cX4_correct 178 = .ok (.iinc 4 1, 3) := by decide +kernel
theorem dX4_correct_181 : decode cX4_correct 181 = .ok (.goto (-40), 3) := by decide +kernel
theorem dX4_correct_184 : decode cX4_correct 184 = .ok (.return_, 1) := by decide +kernel
theorem dX4_smoothOnce_0 : decode cX4_smoothOnce 0 = .ok (.aload_n 0, 1) := by decide +kernel
theorem dX4_smoothOnce_1 : decode cX4_smoothOnce 1 = .ok (.getfield 10, 3) := by decide +kernel
theorem dX4_smoothOnce_4 : decode cX4_smoothOnce 4 = .ok (.getfield 65, 3) := by decide +kernel
theorem dX4_smoothOnce_7 : decode cX4_smoothOnce 7 = .ok (.iconst 1, 1) := by decide +kernel
theorem dX4_smoothOnce_8 : decode cX4_smoothOnce 8 = .ok (.isub, 1) := by decide +kernel
theorem dX4_smoothOnce_9 : decode cX4_smoothOnce 9 = .ok (.istore_n 1, 1) := by decide +kernel
theorem dX4_smoothOnce_10 : decode cX4_smoothOnce 10 = .ok (.aload_n 0, 1) := by decide +kernel
theorem dX4_smoothOnce_11 : decode cX4_smoothOnce 11 = .ok (.getfield 10, 3) := by decide +kernel
theorem dX4_smoothOnce_14 : decode cX4_smoothOnce 14 = .ok (.getfield 86, 3) := by decide +kernel
theorem dX4_smoothOnce_17 : decode cX4_smoothOnce 17 = .ok (.i2l, 1) := by decide +kernel
theorem dX4_smoothOnce_18 : decode cX4_smoothOnce 18 = .ok (.lstore_n 2, 1) := by decide +kernel
theorem dX4_smoothOnce_19 : decode cX4_smoothOnce 19 = .ok (.ldc2_w 286, 3) := by decide +kernel
theorem dX4_smoothOnce_22 : decode cX4_smoothOnce 22 = .ok (.ldc2_w 294, 3) := by decide +kernel
theorem dX4_smoothOnce_25 : decode cX4_smoothOnce 25 = .ok (.lload_n 2, 1) := by decide +kernel
theorem dX4_smoothOnce_26 : decode cX4_smoothOnce 26 = .ok (.lmul, 1) := by decide +kernel
theorem dX4_smoothOnce_27 : decode cX4_smoothOnce 27 = .ok (.lsub, 1) := by decide +kernel
theorem dX4_smoothOnce_28 : decode cX4_smoothOnce 28 = .ok (.lstore 4, 2) := by decide +kernel
theorem dX4_smoothOnce_30 : decode cX4_smoothOnce 30 = .ok (.iconst 0, 1) := by decide +kernel
theorem dX4_smoothOnce_31 : decode cX4_smoothOnce 31 = .ok (.istore 6, 2) := by decide +kernel
theorem dX4_smoothOnce_33 : decode cX4_smoothOnce 33 = .ok (.iload 6, 2) := by decide +kernel
theorem dX4_smoothOnce_35 : decode cX4_smoothOnce 35 = .ok (.iload_n 1, 1) := by decide +kernel
theorem dX4_smoothOnce_36 : decode cX4_smoothOnce 36 = .ok (.if_icmp .gt 76, 3) := by decide +kernel
theorem dX4_smoothOnce_39 : decode cX4_smoothOnce 39 = .ok (.aload_n 0, 1) := by decide +kernel
theorem dX4_smoothOnce_40 : decode cX4_smoothOnce 40 = .ok (.getfield 41, 3) := by decide +kernel
theorem dX4_smoothOnce_43 : decode cX4_smoothOnce 43 = .ok (.iconst 0, 1) := by decide +kernel
theorem dX4_smoothOnce_44 : decode cX4_smoothOnce 44 = .ok (.iload 6, 2) := by decide +kernel
theorem dX4_smoothOnce_46 : decode cX4_smoothOnce 46 = .ok (.iconst 1, 1) := by decide +kernel
theorem dX4_smoothOnce_47 : decode cX4_smoothOnce 47 = .ok (.isub, 1) := by decide +kernel
theorem dX4_smoothOnce_48 : decode cX4_smoothOnce 48 = .ok (.invokestatic 274, 3) := by decide +kernel
theorem dX4_smoothOnce_51 : decode cX4_smoothOnce 51 = .ok (.iaload, 1) := by decide +kernel
theorem dX4_smoothOnce_52 : decode cX4_smoothOnce 52 = .ok (.i2l, 1) := by decide +kernel
theorem dX4_smoothOnce_53 : decode cX4_smoothOnce 53 = .ok (.lstore 7, 2) := by decide +kernel
theorem dX4_smoothOnce_55 : decode cX4_smoothOnce 55 = .ok (.aload_n 0, 1) := by decide +kernel
theorem dX4_smoothOnce_56 : decode cX4_smoothOnce 56 = .ok (.getfield 41, 3) := by decide +kernel
theorem dX4_smoothOnce_59 : decode cX4_smoothOnce 59 = .ok (.iload_n 1, 1) := by decide +kernel
theorem dX4_smoothOnce_60 : decode cX4_smoothOnce 60 = .ok (.iload 6, 2) := by decide +kernel
theorem dX4_smoothOnce_62 : decode cX4_smoothOnce 62 = .ok (.iconst 1, 1) := by decide +kernel
theorem dX4_smoothOnce_63 : decode cX4_smoothOnce 63 = .ok (.iadd, 1) := by decide +kernel
theorem dX4_smoothOnce_64 : decode cX4_smoothOnce 64 = .ok (.invokestatic 271, 3) := by decide +kernel
theorem dX4_smoothOnce_67 : decode cX4_smoothOnce 67 = .ok (.iaload, 1) := by decide +kernel
theorem dX4_smoothOnce_68 : decode cX4_smoothOnce 68 = .ok (.i2l, 1) := by decide +kernel
theorem dX4_smoothOnce_69 : decode cX4_smoothOnce 69 = .ok (.lstore 9, 2) := by decide +kernel
theorem dX4_smoothOnce_71 : decode cX4_smoothOnce 71 = .ok (.aload_n 0, 1) := by decide +kernel
theorem dX4_smoothOnce_72 : decode cX4_smoothOnce 72 = .ok (.getfield 44, 3) := by decide +kernel
theorem dX4_smoothOnce_75 : decode cX4_smoothOnce 75 = .ok (.iload 6, 2) := by decide +kernel
theorem dX4_smoothOnce_77 : decode cX4_smoothOnce 77 = .ok (.lload_n 2, 1) := by decide +kernel
theorem dX4_smoothOnce_78 : decode cX4_smoothOnce 78 = .ok (.lload 7, 2) := by decide +kernel
theorem dX4_smoothOnce_80 : decode cX4_smoothOnce 80 = .ok (.lmul, 1) := by decide +kernel
theorem dX4_smoothOnce_81 : decode cX4_smoothOnce 81 = .ok (.lload 4, 2) := by decide +kernel
theorem dX4_smoothOnce_83 : decode cX4_smoothOnce 83 = .ok (.aload_n 0, 1) := by decide +kernel
theorem dX4_smoothOnce_84 : decode cX4_smoothOnce 84 = .ok (.getfield 41, 3) := by decide +kernel
theorem dX4_smoothOnce_87 : decode cX4_smoothOnce 87 = .ok (.iload 6, 2) := by decide +kernel
theorem dX4_smoothOnce_89 : decode cX4_smoothOnce 89 = .ok (.iaload, 1) := by decide +kernel
theorem dX4_smoothOnce_90 : decode cX4_smoothOnce 90 = .ok (.i2l, 1) := by decide +kernel
theorem dX4_smoothOnce_91 : decode cX4_smoothOnce 91 = .ok (.lmul, 1) := by decide +kernel
theorem dX4_smoothOnce_92 : decode cX4_smoothOnce 92 = .ok (.ladd, 1) := by decide +kernel
theorem dX4_smoothOnce_93 : decode cX4_smoothOnce 93 = .ok (.lload_n 2, 1) := by decide +kernel
theorem dX4_smoothOnce_94 : decode cX4_smoothOnce 94 = .ok (.lload 9, 2) := by decide +kernel
theorem dX4_smoothOnce_96 : decode cX4_smoothOnce 96 = .ok (.lmul, 1) := by decide +kernel
theorem dX4_smoothOnce_97 : decode cX4_smoothOnce 97 = .ok (.ladd, 1) := by decide +kernel
theorem dX4_smoothOnce_98 : decode cX4_smoothOnce 98 = .ok (.ldc2_w 286, 3) := by decide +kernel
theorem dX4_smoothOnce_101 : decode cX4_smoothOnce 101 = .ok (.invokestatic 288, 3) := by decide +kernel
theorem dX4_smoothOnce_104 : decode cX4_smoothOnce 104 = .ok (.l2i, 1) := by decide +kernel
theorem dX4_smoothOnce_105 : decode cX4_smoothOnce 105 = .ok (.iastore, 1) := by decide +kernel
theorem dX4_smoothOnce_106 : decode cX4_smoothOnce 106 = .ok (.iinc 6 1, 3) := by decide +kernel
theorem dX4_smoothOnce_109 : decode cX4_smoothOnce 109 = .ok (.goto (-76), 3) := by decide +kernel
theorem dX4_smoothOnce_112 : decode cX4_smoothOnce 112 = .ok (.aload_n 0, 1) := by decide +kernel
theorem dX4_smoothOnce_113 : decode cX4_smoothOnce 113 = .ok (.getfield 44, 3) := by decide +kernel
theorem dX4_smoothOnce_116 : decode cX4_smoothOnce 116 = .ok (.iconst 0, 1) := by decide +kernel
theorem dX4_smoothOnce_117 : decode cX4_smoothOnce 117 = .ok (.aload_n 0, 1) := by decide +kernel
theorem dX4_smoothOnce_118 : decode cX4_smoothOnce 118 = .ok (.getfield 41, 3) := by decide +kernel
theorem dX4_smoothOnce_121 : decode cX4_smoothOnce 121 = .ok (.iconst 0, 1) := by decide +kernel
theorem dX4_smoothOnce_122 : decode cX4_smoothOnce 122 = .ok (.aload_n 0, 1) := by decide +kernel
theorem dX4_smoothOnce_123 : decode cX4_smoothOnce 123 = .ok (.getfield 10, 3) := by decide +kernel
theorem dX4_smoothOnce_126 : decode cX4_smoothOnce 126 = .ok (.getfield 65, 3) := by decide +kernel
theorem dX4_smoothOnce_129 : decode cX4_smoothOnce 129 = .ok (.invokestatic 280, 3) := by decide +kernel
theorem dX4_smoothOnce_132 : decode cX4_smoothOnce 132 = .ok (.return_, 1) := by decide +kernel
theorem dX4_hasConverged_0 : decode cX4_hasConverged 0 = .ok (.aload_n 0, 1) := by decide +kernel
theorem dX4_hasConverged_1 : decode cX4_hasConverged 1 = .ok (.getfield 26, 3) := by decide +kernel
theorem dX4_hasConverged_4 : decode cX4_hasConverged 4 = .ok (.iload_n 1, 1) := by decide +kernel
theorem dX4_hasConverged_5 : decode cX4_hasConverged 5 = .ok (.aload_n 0, 1) := by decide +kernel
theorem dX4_hasConverged_6 : decode cX4_hasConverged 6 = .ok (.getfield 10, 3) := by decide +kernel
theorem dX4_hasConverged_9 : decode cX4_hasConverged 9 = .ok (.getfield 105, 3) := by decide +kernel
theorem dX4_hasConverged_12 : decode cX4_hasConverged 12 = .ok (.aload_n 0, 1) := by decide +kernel
theorem dX4_hasConverged_13 : decode cX4_hasConverged 13 = .ok (.getfield 10, 3) := by decide +kernel
theorem dX4_hasConverged_16 : decode cX4_hasConverged 16 = .ok (.getfield 102, 3) := by decide +kernel
theorem dX4_hasConverged_19 : decode cX4_hasConverged 19 = .ok (.invokevirtual 296, 3) := by decide +kernel
theorem dX4_hasConverged_22 : decode cX4_hasConverged 22 = .ok (.ireturn, 1) := by decide +kernel
theorem dX4_indexOfGreatest_0 : decode cX4_indexOfGreatest 0 = .ok (.iconst 0, 1) := by decide +kernel
theorem dX4_indexOfGreatest_1 : decode cX4_indexOfGreatest 1 = .ok (.istore_n 2, 1) := by decide +kernel
theorem dX4_indexOfGreatest_2 : decode cX4_indexOfGreatest 2 = .ok (.iconst 1, 1) := by decide +kernel
theorem dX4_indexOfGreatest_3 : decode cX4_indexOfGreatest 3 = .ok (.istore_n 3, 1) := by decide +kernel
theorem dX4_indexOfGreatest_4 : decode cX4_indexOfGreatest 4 = .ok (.iload_n 3, 1) := by decide +kernel
theorem dX4_indexOfGreatest_5 : decode cX4_indexOfGreatest 5 = .ok (.iload_n 1, 1) := by decide +kernel
theorem dX4_indexOfGreatest_6 : decode cX4_indexOfGreatest 6 = .ok (.if_icmp .ge 26, 3) := by decide +kernel
theorem dX4_indexOfGreatest_9 : decode cX4_indexOfGreatest 9 = .ok (.aload_n 0, 1) := by decide +kernel
theorem dX4_indexOfGreatest_10 : decode cX4_indexOfGreatest 10 = .ok (.iload_n 3, 1) := by decide +kernel
theorem dX4_indexOfGreatest_11 : decode cX4_indexOfGreatest 11 = .ok (.iaload, 1) := by decide +kernel
theorem dX4_indexOfGreatest_12 : decode cX4_indexOfGreatest 12 = .ok (.invokestatic 269, 3) := by decide +kernel
theorem dX4_indexOfGreatest_15 : decode cX4_indexOfGreatest 15 = .ok (.aload_n 0, 1) := by decide +kernel
theorem dX4_indexOfGreatest_16 : decode cX4_indexOfGreatest 16 = .ok (.iload_n 2, 1) := by decide +kernel
theorem dX4_indexOfGreatest_17 : decode cX4_indexOfGreatest 17 = .ok (.iaload, 1) := by decide +kernel
theorem dX4_indexOfGreatest_18 : decode cX4_indexOfGreatest 18 = .ok (.invokestatic 269, 3) := by decide +kernel
theorem dX4_indexOfGreatest_21 : decode cX4_indexOfGreatest 21 = .ok (.if_icmp .le 5, 3) := by decide +kernel
theorem dX4_indexOfGreatest_24 : decode cX4_indexOfGreatest 24 = .ok (.iload_n 3, 1) := by decide +kernel
theorem dX4_indexOfGreatest_25 : decode cX4_indexOfGreatest 25 = .ok (.istore_n 2, 1) := by decide +kernel
theorem dX4_indexOfGreatest_26 : decode cX4_indexOfGreatest 26 = .ok (.iinc 3 1, 3) := by decide +kernel
theorem dX4_indexOfGreatest_29 : decode cX4_indexOfGreatest 29 = .ok (.goto (-25), 3) := by decide +kernel
theorem dX4_indexOfGreatest_32 : decode cX4_indexOfGreatest 32 = .ok (.iload_n 2, 1) := by decide +kernel
theorem dX4_indexOfGreatest_33 : decode cX4_indexOfGreatest 33 = .ok (.ireturn, 1) := by decide +kernel
theorem dX4_sumOfSquares_0 : decode cX4_sumOfSquares 0 = .ok (.lconst 0, 1) := by decide +kernel
theorem dX4_sumOfSquares_1 : decode cX4_sumOfSquares 1 = .ok (.lstore_n 2, 1) := by decide +kernel
theorem dX4_sumOfSquares_2 : decode cX4_sumOfSquares 2 = .ok (.iconst 0, 1) := by decide +kernel
theorem dX4_sumOfSquares_3 : decode cX4_sumOfSquares 3 = .ok (.istore 4, 2) := by decide +kernel
theorem dX4_sumOfSquares_5 : decode cX4_sumOfSquares 5 = .ok (.iload 4, 2) := by decide +kernel
theorem dX4_sumOfSquares_7 : decode cX4_sumOfSquares 7 = .ok (.iload_n 1, 1) := by decide +kernel
theorem dX4_sumOfSquares_8 : decode cX4_sumOfSquares 8 = .ok (.if_icmp .ge 23, 3) := by decide +kernel
theorem dX4_sumOfSquares_11 : decode cX4_sumOfSquares 11 = .ok (.lload_n 2, 1) := by decide +kernel
theorem dX4_sumOfSquares_12 : decode cX4_sumOfSquares 12 = .ok (.aload_n 0, 1) := by decide +kernel
theorem dX4_sumOfSquares_13 : decode cX4_sumOfSquares 13 = .ok (.iload 4, 2) := by decide +kernel
theorem dX4_sumOfSquares_15 : decode cX4_sumOfSquares 15 = .ok (.iaload, 1) := by decide +kernel
theorem dX4_sumOfSquares_16 : decode cX4_sumOfSquares 16 = .ok (.i2l, 1) := by decide +kernel
theorem dX4_sumOfSquares_17 : decode cX4_sumOfSquares 17 = .ok (.aload_n 0, 1) := by decide +kernel
theorem dX4_sumOfSquares_18 : decode cX4_sumOfSquares 18 = .ok (.iload 4, 2) := by decide +kernel
theorem dX4_sumOfSquares_20 : decode cX4_sumOfSquares 20 = .ok (.iaload, 1) := by decide +kernel
theorem dX4_sumOfSquares_21 : decode cX4_sumOfSquares 21 = .ok (.i2l, 1) := by decide +kernel
theorem dX4_sumOfSquares_22 : decode cX4_sumOfSquares 22 = .ok (.lmul, 1) := by decide +kernel
theorem dX4_sumOfSquares_23 : decode cX4_sumOfSquares 23 = .ok (.ladd, 1) := by decide +kernel
theorem dX4_sumOfSquares_24 : decode cX4_sumOfSquares 24 = .ok (.lstore_n 2, 1) := by decide +kernel
theorem dX4_sumOfSquares_25 : decode cX4_sumOfSquares 25 = .ok (.iinc 4 1, 3) := by decide +kernel
theorem dX4_sumOfSquares_28 : decode cX4_sumOfSquares 28 = .ok (.goto (-23), 3) := by decide +kernel
theorem dX4_sumOfSquares_31 : decode cX4_sumOfSquares 31 = .ok (.lload_n 2, 1) := by decide +kernel
theorem dX4_sumOfSquares_32 : decode cX4_sumOfSquares 32 = .ok (.lreturn, 1) := by decide +kernel
theorem dJ9_floorDiv_f86c9_0 : decode cJ9_floorDiv_f86c9 0 = .ok (.lload_n 0, 1) := by decide +kernel
theorem dJ9_floorDiv_f86c9_1 : decode cJ9_floorDiv_f86c9 1 = .ok (.lload_n 2, 1) := by decide +kernel
theorem dJ9_floorDiv_f86c9_2 : decode cJ9_floorDiv_f86c9 2 = .ok (.ldiv, 1) := by decide +kernel
theorem dJ9_floorDiv_f86c9_3 : decode cJ9_floorDiv_f86c9 3 = .ok (.lstore 4, 2) := by decide +kernel
theorem dJ9_floorDiv_f86c9_5 : decode cJ9_floorDiv_f86c9 5 = .ok (.lload_n 0, 1) := by decide +kernel
theorem dJ9_floorDiv_f86c9_6 : decode cJ9_floorDiv_f86c9 6 = .ok (.lload_n 2, 1) := by decide +kernel
theorem dJ9_floorDiv_f86c9_7 : decode cJ9_floorDiv_f86c9 7 = .ok (.lxor, 1) := by decide +kernel
theorem dJ9_floorDiv_f86c9_8 : decode cJ9_floorDiv_f86c9 8 = .ok (.lconst 0, 1) := by decide +kernel
theorem dJ9_floorDiv_f86c9_9 : decode cJ9_floorDiv_f86c9 9 = .ok (.lcmp, 1) := by decide +kernel
theorem dJ9_floorDiv_f86c9_10 : decode cJ9_floorDiv_f86c9 10 = .ok (.ifCond .ge 17, 3) := by decide +kernel
theorem dJ9_floorDiv_f86c9_13 : decode cJ9_floorDiv_f86c9 13 = .ok (.lload 4, 2) := by decide +kernel
theorem dJ9_floorDiv_f86c9_15 : decode cJ9_floorDiv_f86c9 15 = .ok (.lload_n 2, 1) := by decide +kernel
theorem dJ9_floorDiv_f86c9_16 : decode cJ9_floorDiv_f86c9 16 = .ok (.lmul, 1) := by decide +kernel
theorem dJ9_floorDiv_f86c9_17 : decode cJ9_floorDiv_f86c9 17 = .ok (.lload_n 0, 1) := by decide +kernel
theorem dJ9_floorDiv_f86c9_18 : decode cJ9_floorDiv_f86c9 18 = .ok (.lcmp, 1) := by decide +kernel
theorem dJ9_floorDiv_f86c9_19 : decode cJ9_floorDiv_f86c9 19 = .ok (.ifCond .eq 8, 3) := by decide +kernel
theorem dJ9_floorDiv_f86c9_22 : decode cJ9_floorDiv_f86c9 22 = .ok (.lload 4, 2) := by decide +kernel
theorem dJ9_floorDiv_f86c9_24 : decode cJ9_floorDiv_f86c9 24 = .ok (.lconst 1, 1) := by decide +kernel
theorem dJ9_floorDiv_f86c9_25 : decode cJ9_floorDiv_f86c9 25 = .ok (.lsub, 1) := by decide +kernel
theorem dJ9_floorDiv_f86c9_26 : decode cJ9_floorDiv_f86c9 26 = .ok (.lreturn, 1) := by decide +kernel
theorem dJ9_floorDiv_f86c9_27 : decode cJ9_floorDiv_f86c9 27 = .ok (.lload 4, 2) := by decide +kernel
theorem dJ9_floorDiv_f86c9_29 : decode cJ9_floorDiv_f86c9 29 = .ok (.lreturn, 1) := by decide +kernel
theorem dJ9_floorMod_7cf53_0 : decode cJ9_floorMod_7cf53 0 = .ok (.iload_n 0, 1) := by decide +kernel
theorem dJ9_floorMod_7cf53_1 : decode cJ9_floorMod_7cf53 1 = .ok (.iload_n 1, 1) := by decide +kernel
theorem dJ9_floorMod_7cf53_2 : decode cJ9_floorMod_7cf53 2 = .ok (.irem, 1) := by decide +kernel
theorem dJ9_floorMod_7cf53_3 : decode cJ9_floorMod_7cf53 3 = .ok (.istore_n 2, 1) := by decide +kernel
theorem dJ9_floorMod_7cf53_4 : decode cJ9_floorMod_7cf53 4 = .ok (.iload_n 0, 1) := by decide +kernel
theorem dJ9_floorMod_7cf53_5 : decode cJ9_floorMod_7cf53 5 = .ok (.iload_n 1, 1) := by decide +kernel
theorem dJ9_floorMod_7cf53_6 : decode cJ9_floorMod_7cf53 6 = .ok (.ixor, 1) := by decide +kernel
theorem dJ9_floorMod_7cf53_7 : decode cJ9_floorMod_7cf53 7 = .ok (.ifCond .ge 11, 3) := by decide +kernel
theorem dJ9_floorMod_7cf53_10 : decode cJ9_floorMod_7cf53 10 = .ok (.iload_n 2, 1) := by decide +kernel
theorem dJ9_floorMod_7cf53_11 : decode cJ9_floorMod_7cf53 11 = .ok (.ifCond .eq 7, 3) := by decide +kernel
theorem dJ9_floorMod_7cf53_14 : decode cJ9_floorMod_7cf53 14 = .ok (.iload_n 2, 1) := by decide +kernel
theorem dJ9_floorMod_7cf53_15 : decode cJ9_floorMod_7cf53 15 = .ok (.iload_n 1, 1) := by decide +kernel
theorem dJ9_floorMod_7cf53_16 : decode cJ9_floorMod_7cf53 16 = .ok (.iadd, 1) := by decide +kernel
theorem dJ9_floorMod_7cf53_17 : decode cJ9_floorMod_7cf53 17 = .ok (.ireturn, 1) := by decide +kernel
theorem dJ9_floorMod_7cf53_18 : decode cJ9_floorMod_7cf53 18 = .ok (.iload_n 2, 1) := by decide +kernel
theorem dJ9_floorMod_7cf53_19 : decode cJ9_floorMod_7cf53 19 = .ok (.ireturn, 1) := by decide +kernel
theorem dJ9_abs_0f7a4_0 : decode cJ9_abs_0f7a4 0 = .ok (.iload_n 0, 1) := by decide +kernel
theorem dJ9_abs_0f7a4_1 : decode cJ9_abs_0f7a4 1 = .ok (.ifCond .ge 8, 3) := by decide +kernel
theorem dJ9_abs_0f7a4_4 : decode cJ9_abs_0f7a4 4 = .ok (.iload_n 0, 1) := by decide +kernel
theorem dJ9_abs_0f7a4_5 : decode cJ9_abs_0f7a4 5 = .ok (.ineg, 1) := by decide +kernel
theorem dJ9_abs_0f7a4_6 : decode cJ9_abs_0f7a4 6 = .ok (.goto 4, 3) := by decide +kernel
theorem dJ9_abs_0f7a4_9 : decode cJ9_abs_0f7a4 9 = .ok (.iload_n 0, 1) := by decide +kernel
theorem dJ9_abs_0f7a4_10 : decode cJ9_abs_0f7a4 10 = .ok (.ireturn, 1) := by decide +kernel
theorem dJ9_abs_067f4_0 : decode cJ9_abs_067f4 0 = .ok (.lload_n 0, 1) := by decide +kernel
theorem dJ9_abs_067f4_1 : decode cJ9_abs_067f4 1 = .ok (.lconst 0, 1) := by decide +kernel
theorem dJ9_abs_067f4_2 : decode cJ9_abs_067f4 2 = .ok (.lcmp, 1) := by decide +kernel
theorem dJ9_abs_067f4_3 : decode cJ9_abs_067f4 3 = .ok (.ifCond .ge 8, 3) := by decide +kernel
theorem dJ9_abs_067f4_6 : decode cJ9_abs_067f4 6 = .ok (.lload_n 0, 1) := by decide +kernel
theorem dJ9_abs_067f4_7 : decode cJ9_abs_067f4 7 = .ok (.lneg, 1) := by decide +kernel
theorem dJ9_abs_067f4_8 : decode cJ9_abs_067f4 8 = .ok (.goto 4, 3) := by decide +kernel
theorem dJ9_abs_067f4_11 : decode cJ9_abs_067f4 11 = .ok (.lload_n 0, 1) := by decide +kernel
theorem dJ9_abs_067f4_12 : decode cJ9_abs_067f4 12 = .ok (.lreturn, 1) := by decide +kernel
theorem dJ9_max_7cf53_0 : decode cJ9_max_7cf53 0 = .ok (.iload_n 0, 1) := by decide +kernel
theorem dJ9_max_7cf53_1 : decode cJ9_max_7cf53 1 = .ok (.iload_n 1, 1) := by decide +kernel
theorem dJ9_max_7cf53_2 : decode cJ9_max_7cf53 2 = .ok (.if_icmp .lt 7, 3) := by decide +kernel
theorem dJ9_max_7cf53_5 : decode cJ9_max_7cf53 5 = .ok (.iload_n 0, 1) := by decide +kernel
theorem dJ9_max_7cf53_6 : decode cJ9_max_7cf53 6 = .ok (.goto 4, 3) := by decide +kernel
theorem dJ9_max_7cf53_9 : decode cJ9_max_7cf53 9 = .ok (.iload_n 1, 1) := by decide +kernel
theorem dJ9_max_7cf53_10 : decode cJ9_max_7cf53 10 = .ok (.ireturn, 1) := by decide +kernel
theorem dJ9_max_f86c9_0 : decode cJ9_max_f86c9 0 = .ok (.lload_n 0, 1) := by decide +kernel
theorem dJ9_max_f86c9_1 : decode cJ9_max_f86c9 1 = .ok (.lload_n 2, 1) := by decide +kernel
theorem dJ9_max_f86c9_2 : decode cJ9_max_f86c9 2 = .ok (.lcmp, 1) := by decide +kernel
theorem dJ9_max_f86c9_3 : decode cJ9_max_f86c9 3 = .ok (.ifCond .lt 7, 3) := by decide +kernel
theorem dJ9_max_f86c9_6 : decode cJ9_max_f86c9 6 = .ok (.lload_n 0, 1) := by decide +kernel
theorem dJ9_max_f86c9_7 : decode cJ9_max_f86c9 7 = .ok (.goto 4, 3) := by decide +kernel
theorem dJ9_max_f86c9_10 : decode cJ9_max_f86c9 10 = .ok (.lload_n 2, 1) := by decide +kernel
theorem dJ9_max_f86c9_11 : decode cJ9_max_f86c9 11 = .ok (.lreturn, 1) := by decide +kernel
theorem dJ9_min_7cf53_0 : decode cJ9_min_7cf53 0 = .ok (.iload_n 0, 1) := by decide +kernel
theorem dJ9_min_7cf53_1 : decode cJ9_min_7cf53 1 = .ok (.iload_n 1, 1) := by decide +kernel
theorem dJ9_min_7cf53_2 : decode cJ9_min_7cf53 2 = .ok (.if_icmp .gt 7, 3) := by decide +kernel
theorem dJ9_min_7cf53_5 : decode cJ9_min_7cf53 5 = .ok (.iload_n 0, 1) := by decide +kernel
theorem dJ9_min_7cf53_6 : decode cJ9_min_7cf53 6 = .ok (.goto 4, 3) := by decide +kernel
theorem dJ9_min_7cf53_9 : decode cJ9_min_7cf53 9 = .ok (.iload_n 1, 1) := by decide +kernel
theorem dJ9_min_7cf53_10 : decode cJ9_min_7cf53 10 = .ok (.ireturn, 1) := by decide +kernel
theorem dJ9_min_f86c9_0 : decode cJ9_min_f86c9 0 = .ok (.lload_n 0, 1) := by decide +kernel
theorem dJ9_min_f86c9_1 : decode cJ9_min_f86c9 1 = .ok (.lload_n 2, 1) := by decide +kernel
theorem dJ9_min_f86c9_2 : decode cJ9_min_f86c9 2 = .ok (.lcmp, 1) := by decide +kernel
theorem dJ9_min_f86c9_3 : decode cJ9_min_f86c9 3 = .ok (.ifCond .gt 7, 3) := by decide +kernel
theorem dJ9_min_f86c9_6 : decode cJ9_min_f86c9 6 = .ok (.lload_n 0, 1) := by decide +kernel
theorem dJ9_min_f86c9_7 : decode cJ9_min_f86c9 7 = .ok (.goto 4, 3) := by decide +kernel
theorem dJ9_min_f86c9_10 : decode cJ9_min_f86c9 10 = .ok (.lload_n 2, 1) := by decide +kernel
theorem dJ9_min_f86c9_11 : decode cJ9_min_f86c9 11 = .ok (.lreturn, 1) := by decide +kernel
theorem dJ7_fill_53178_0 : decode cJ7_fill_53178 0 = .ok (.iconst 0, 1) := by decide +kernel
theorem dJ7_fill_53178_1 : decode cJ7_fill_53178 1 = .ok (.istore_n 2, 1) := by decide +kernel
theorem dJ7_fill_53178_2 : decode cJ7_fill_53178 2 = .ok (.aload_n 0, 1) := by decide +kernel
theorem dJ7_fill_53178_3 : decode cJ7_fill_53178 3 = .ok (.arraylength, 1) := by decide +kernel
theorem dJ7_fill_53178_4 : decode cJ7_fill_53178 4 = .ok (.istore_n 3, 1) := by decide +kernel
theorem dJ7_fill_53178_5 : decode cJ7_fill_53178 5 = .ok (.iload_n 2, 1) := by decide +kernel
theorem dJ7_fill_53178_6 : decode cJ7_fill_53178 6 = .ok (.iload_n 3, 1) := by decide +kernel
theorem dJ7_fill_53178_7 : decode cJ7_fill_53178 7 = .ok (.if_icmp .ge 13, 3) := by decide +kernel
theorem dJ7_fill_53178_10 : decode cJ7_fill_53178 10 = .ok (.aload_n 0, 1) := by decide +kernel
theorem dJ7_fill_53178_11 : decode cJ7_fill_53178 11 = .ok (.iload_n 2, 1) := by decide +kernel
theorem dJ7_fill_53178_12 : decode cJ7_fill_53178 12 = .ok (.iload_n 1, 1) := by decide +kernel
theorem dJ7_fill_53178_13 : decode cJ7_fill_53178 13 = .ok (.iastore, 1) := by decide +kernel
theorem dJ7_fill_53178_14 : decode cJ7_fill_53178 14 = .ok (.iinc 2 1, 3) := by decide +kernel
theorem dJ7_fill_53178_17 : decode cJ7_fill_53178 17 = .ok (.goto (-12), 3) := by decide +kernel
theorem dJ7_fill_53178_20 : decode cJ7_fill_53178 20 = .ok (.return_, 1) := by decide +kernel
