theorem dX5_init_0 : decode cX5_init 0 = .ok (.aload_n 0, 1) := by decide +kernel
theorem dX5_init_1 : decode cX5_init 1 = .ok (.invokespecial 1, 3) := by decide +kernel
theorem dX5_init_4 : decode cX5_init 4 = .ok (.aload_n 0, 1) := by decide +kernel
theorem dX5_init_5 : decode cX5_init 5 = .ok (.bipush 48, 2) := by decide +kernel
theorem dX5_init_7 : decode cX5_init 7 = .ok (.newarray .int, 2) := by decide +kernel
theorem dX5_init_9 : decode cX5_init 9 = .ok (.putfield 7, 3) := by decide +kernel
theorem dX5_init_12 : decode cX5_init 12 = .ok (.aload_n 0, 1) := by decide +kernel
theorem dX5_init_13 : decode cX5_init 13 = .ok (.bipush 48, 2) := by decide +kernel
theorem dX5_init_15 : decode cX5_init 15 = .ok (.newarray .int, 2) := by decide +kernel
theorem dX5_init_17 : decode cX5_init 17 = .ok (.putfield 13, 3) := by decide +kernel
theorem dX5_init_20 : decode cX5_init 20 = .ok (.aload_n 0, 1) := by decide +kernel
theorem dX5_init_21 : decode cX5_init 21 = .ok (.bipush 48, 2) := by decide +kernel
theorem dX5_init_23 : decode cX5_init 23 = .ok (.newarray .int, 2) := by decide +kernel
theorem dX5_init_25 : decode cX5_init 25 = .ok (.putfield 16, 3) := by decide +kernel
theorem dX5_init_28 : decode cX5_init 28 = .ok (.aload_n 0, 1) := by decide +kernel
theorem dX5_init_29 : decode cX5_init 29 = .ok (.bipush 48, 2) := by decide +kernel
theorem dX5_init_31 : decode cX5_init 31 = .ok (.newarray .int, 2) := by decide +kernel
theorem dX5_init_33 : decode cX5_init 33 = .ok (.putfield 19, 3) := by decide +kernel
theorem dX5_init_36 : decode cX5_init 36 = .ok (.aload_n 0, 1) := by decide +kernel
theorem dX5_init_37 : decode cX5_init 37 = .ok (.bipush 48, 2) := by decide +kernel
theorem dX5_init_39 : decode cX5_init 39 = .ok (.newarray .int, 2) := by decide +kernel
theorem dX5_init_41 : decode cX5_init 41 = .ok (.putfield 22, 3) := by decide +kernel
theorem dX5_init_44 : decode cX5_init 44 = .ok (.aload_n 0, 1) := by decide +kernel
theorem dX5_init_45 : decode cX5_init 45 = .ok (.sipush 240, 3) := by decide +kernel
theorem dX5_init_48 : decode cX5_init 48 = .ok (.newarray .int, 2) := by decide +kernel
theorem dX5_init_50 : decode cX5_init 50 = .ok (.putfield 25, 3) := by decide +kernel
theorem dX5_init_53 : decode cX5_init 53 = .ok (.aload_n 0, 1) := by decide +kernel
theorem dX5_init_54 : decode cX5_init 54 = .ok (.iconst 5, 1) := by decide +kernel
theorem dX5_init_55 : decode cX5_init 55 = .ok (.newarray .int, 2) := by decide +kernel
theorem dX5_init_57 : decode cX5_init 57 = .ok (.putfield 28, 3) := by decide +kernel
theorem dX5_init_60 : decode cX5_init 60 = .ok (.aload_n 0, 1) := by decide +kernel
theorem dX5_init_61 : decode cX5_init 61 = .ok (.iconst 5, 1) := by decide +kernel
theorem dX5_init_62 : decode cX5_init 62 = .ok (.newarray .int, 2) := by decide +kernel
theorem dX5_init_64 : decode cX5_init 64 = .ok (.putfield 31, 3) := by decide +kernel
theorem dX5_init_67 : decode cX5_init 67 = .ok (.aload_n 0, 1) := by decide +kernel
theorem dX5_init_68 : decode cX5_init 68 = .ok (.bipush 48, 2) := by decide +kernel
theorem dX5_init_70 : decode cX5_init 70 = .ok (.newarray .int, 2) := by decide +kernel
theorem dX5_init_72 : decode cX5_init 72 = .ok (.putfield 34, 3) := by decide +kernel
theorem dX5_init_75 : decode cX5_init 75 = .ok (.aload_n 0, 1) := by decide +kernel
theorem dX5_init_76 : decode cX5_init 76 = .ok (.bipush 48, 2) := by decide +kernel
theorem dX5_init_78 : decode cX5_init 78 = .ok (.newarray .int, 2) := by decide +kernel
theorem dX5_init_80 : decode cX5_init 80 = .ok (.putfield 37, 3) := by decide +kernel
theorem dX5_init_83 : decode cX5_init 83 = .ok (.aload_n 0, 1) := by decide +kernel
theorem dX5_init_84 : decode cX5_init 84 = .ok (.bipush 6, 2) := by decide +kernel
theorem dX5_init_86 : decode cX5_init 86 = .ok (.newarray .int, 2) := by decide +kernel
theorem dX5_init_88 : decode cX5_init 88 = .ok (.putfield 40, 3) := by decide +kernel
theorem dX5_init_91 : decode cX5_init 91 = .ok (.aload_n 0, 1) := by decide +kernel
theorem dX5_init_92 : decode cX5_init 92 = .ok (.bipush 16, 2) := by decide +kernel
theorem dX5_init_94 : decode cX5_init 94 = .ok (.invokevirtual 43, 3) := by decide +kernel
theorem dX5_init_97 : decode cX5_init 97 = .ok (.return_, 1) := by decide +kernel
theorem dX5_in_0 : decode cX5_in 0 = .ok (.iload_n 0, 1) := by decide +kernel
theorem dX5_in_1 : decode cX5_in 1 = .ok (.iload_n 1, 1) := by decide +kernel
theorem dX5_in_2 : decode cX5_in 2 = .ok (.if_icmp .lt 12, 3) := by decide +kernel
theorem dX5_in_5 : decode cX5_in 5 = .ok (.iload_n 0, 1) := by decide +kernel
theorem dX5_in_6 : decode cX5_in 6 = .ok (.iload_n 2, 1) := by decide +kernel
theorem dX5_in_7 : decode cX5_in 7 = .ok (.if_icmp .gt 7, 3) := by decide +kernel
theorem dX5_in_10 : decode cX5_in 10 = .ok (.iconst 1, 1) := by decide +kernel
theorem dX5_in_11 : decode cX5_in 11 = .ok (.goto 4, 3) := by decide +kernel
theorem dX5_in_14 : decode cX5_in 14 = .ok (.iconst 0, 1) := by decide +kernel
theorem dX5_in_15 : decode cX5_in 15 = .ok (.ireturn, 1) := by decide +kernel
theorem dX5_down_0 : decode cX5_down 0 = .ok (.lload_n 0, 1) := by decide +kernel
theorem dX5_down_1 : decode cX5_down 1 = .ok (.lload_n 2, 1) := by decide +kernel
theorem dX5_down_2 : decode cX5_down 2 = .ok (.ldiv, 1) := by decide +kernel
theorem dX5_down_3 : decode cX5_down 3 = .ok (.lstore 4, 2) := by decide +kernel
theorem dX5_down_5 : decode cX5_down 5 = .ok (.lload 4, 2) := by decide +kernel
theorem dX5_down_7 : decode cX5_down 7 = .ok (.lload_n 2, 1) := by decide +kernel
theorem dX5_down_8 : decode cX5_down 8 = .ok (.lmul, 1) := by decide +kernel
theorem dX5_down_9 : decode cX5_down 9 = .ok (.lload_n 0, 1) := by decide +kernel
theorem dX5_down_10 : decode cX5_down 10 = .ok (.lcmp, 1) := by decide +kernel
theorem dX5_down_11 : decode cX5_down 11 = .ok (.ifCond .le 10, 3) := by decide +kernel
theorem dX5_down_14 : decode cX5_down 14 = .ok (.lload 4, 2) := by decide +kernel
theorem dX5_down_16 : decode cX5_down 16 = .ok (.lconst 1, 1) := by decide +kernel
theorem dX5_down_17 : decode cX5_down 17 = .ok (.lsub, 1) := by decide +kernel
theorem dX5_down_18 : decode cX5_down 18 = .ok (.goto 5, 3) := by decide +kernel
theorem dX5_down_21 : decode cX5_down 21 = .ok (.lload 4, 2) := by decide +kernel
theorem dX5_down_23 : decode cX5_down 23 = .ok (.lreturn, 1) := by decide +kernel
theorem dX5_size_0 : decode cX5_size 0 = .ok (.iload_n 0, 1) := by decide +kernel
theorem dX5_size_1 : decode cX5_size 1 = .ok (.ifCond .ge 8, 3) := by decide +kernel
theorem dX5_size_4 : decode cX5_size 4 = .ok (.iload_n 0, 1) := by decide +kernel
theorem dX5_size_5 : decode cX5_size 5 = .ok (.ineg, 1) := by decide +kernel
theorem dX5_size_6 : decode cX5_size 6 = .ok (.goto 4, 3) := by decide +kernel
theorem dX5_size_9 : decode cX5_size 9 = .ok (.iload_n 0, 1) := by decide +kernel
theorem dX5_size_10 : decode cX5_size 10 = .ok (.ireturn, 1) := by decide +kernel
theorem dX5_kept_0 : decode cX5_kept 0 = .ok (.lload_n 0, 1) := by decide +kernel
theorem dX5_kept_1 : decode cX5_kept 1 = .ok (.iload_n 2, 1) := by decide +kernel
theorem dX5_kept_2 : decode cX5_kept 2 = .ok (.i2l, 1) := by decide +kernel
theorem dX5_kept_3 : decode cX5_kept 3 = .ok (.lcmp, 1) := by decide +kernel
theorem dX5_kept_4 : decode cX5_kept 4 = .ok (.ifCond .le 7, 3) := by decide +kernel
theorem dX5_kept_7 : decode cX5_kept 7 = .ok (.iload_n 2, 1) := by decide +kernel
theorem dX5_kept_8 : decode cX5_kept 8 = .ok (.goto 18, 3) := by decide +kernel
theorem dX5_kept_11 : decode cX5_kept 11 = .ok (.lload_n 0, 1) := by decide +kernel
theorem dX5_kept_12 : decode cX5_kept 12 = .ok (.iload_n 2, 1) := by decide +kernel
theorem dX5_kept_13 : decode cX5_kept 13 = .ok (.ineg, 1) := by decide +kernel
theorem dX5_kept_14 : decode cX5_kept 14 = .ok (.i2l, 1) := by decide +kernel
theorem dX5_kept_15 : decode cX5_kept 15 = .ok (.lcmp, 1) := by decide +kernel
theorem dX5_kept_16 : decode cX5_kept 16 = .ok (.ifCond .ge 8, 3) := by decide +kernel
theorem dX5_kept_19 : decode cX5_kept 19 = .ok (.iload_n 2, 1) := by decide +kernel
theorem dX5_kept_20 : decode cX5_kept 20 = .ok (.ineg, 1) := by decide +kernel
theorem dX5_kept_21 : decode cX5_kept 21 = .ok (.goto 5, 3) := by decide +kernel
theorem dX5_kept_24 : decode cX5_kept 24 = .ok (.lload_n 0, 1) := by decide +kernel
theorem dX5_kept_25 : decode cX5_kept 25 = .ok (.l2i, 1) := by decide +kernel
theorem dX5_kept_26 : decode cX5_kept 26 = .ok (.ireturn, 1) := by decide +kernel
theorem dX5_begin_0 : decode cX5_begin 0 = .ok (.aload_n 0, 1) := by decide +kernel
theorem dX5_begin_1 : decode cX5_begin 1 = .ok (.iload_n 1, 1) := by decide +kernel
theorem dX5_begin_2 : decode cX5_begin 2 = .ok (.putfield 47, 3) := by decide +kernel
theorem dX5_begin_5 : decode cX5_begin 5 = .ok (.iconst 0, 1) := by decide +kernel
theorem dX5_begin_6 : decode cX5_begin 6 = .ok (.istore_n 2, 1) := by decide +kernel
theorem dX5_begin_7 : decode cX5_begin 7 = .ok (.iload_n 2, 1) := by decide +kernel
theorem dX5_begin_8 : decode cX5_begin 8 = .ok (.bipush 48, 2) := by decide +kernel
theorem dX5_begin_10 : decode cX5_begin 10 = .ok (.if_icmp .ge 23, 3) := by decide +kernel
theorem dX5_begin_13 : decode cX5_begin 13 = .ok (.aload_n 0, 1) := by decide +kernel
theorem dX5_begin_14 : decode cX5_begin 14 = .ok (.getfield 7, 3) := by decide +kernel
theorem dX5_begin_17 : decode cX5_begin 17 = .ok (.iload_n 2, 1) := by decide +kernel
theorem dX5_begin_18 : decode cX5_begin 18 = .ok (.iconst 0, 1) := by decide +kernel
theorem dX5_begin_19 : decode cX5_begin 19 = .ok (.iastore, 1) := by decide +kernel
theorem dX5_begin_20 : decode cX5_begin 20 = .ok (.aload_n 0, 1) := by decide +kernel
theorem dX5_begin_21 : decode cX5_begin 21 = .ok (.getfield 13, 3) := by decide +kernel
theorem dX5_begin_24 : decode cX5_begin 24 = .ok (.iload_n 2, 1) := by decide +kernel
theorem dX5_begin_25 : decode cX5_begin 25 = .ok (.iconst 0, 1) := by decide +kernel
theorem dX5_begin_26 : decode cX5_begin 26 = .ok (.iastore, 1) := by decide +kernel
theorem dX5_begin_27 : decode cX5_begin 27 = .ok (.iinc 2 1, 3) := by decide +kernel
theorem dX5_begin_30 : decode cX5_begin 30 = .ok (.goto (-23), 3) := by decide +kernel
theorem dX5_begin_33 : decode cX5_begin 33 = .ok (.aload_n 0, 1) := by decide +kernel
theorem dX5_begin_34 : decode cX5_begin 34 = .ok (.sipush 500, 3) := by decide +kernel
theorem dX5_begin_37 : decode cX5_begin 37 = .ok (.putfield 51, 3) := by decide +kernel
theorem dX5_begin_40 : decode cX5_begin 40 = .ok (.aload_n 0, 1) := by decide +kernel
theorem dX5_begin_41 : decode cX5_begin 41 = .ok (.iconst 0, 1) := by decide +kernel
theorem dX5_begin_42 : decode cX5_begin 42 = .ok (.putfield 54, 3) := by decide +kernel
theorem dX5_begin_45 : decode cX5_begin 45 = .ok (.aload_n 0, 1) := by decide +kernel
theorem dX5_begin_46 : decode cX5_begin 46 = .ok (.iconst 0, 1) := by decide +kernel
theorem dX5_begin_47 : decode cX5_begin 47 = .ok (.putfield 57, 3) := by decide +kernel
theorem dX5_begin_50 : decode cX5_begin 50 = .ok (.aload_n 0, 1) := by decide +kernel
theorem dX5_begin_51 : decode cX5_begin 51 = .ok (.iconst 1, 1) := by decide +kernel
theorem dX5_begin_52 : decode cX5_begin 52 = .ok (.putfield 60, 3) := by decide +kernel
theorem dX5_begin_55 : decode cX5_begin 55 = .ok (.aload_n 0, 1) := by decide +kernel
theorem dX5_begin_56 : decode cX5_begin 56 = .ok (.ldc 63, 2) := by decide +kernel
theorem dX5_begin_58 : decode cX5_begin 58 = .ok (.putfield 64, 3) := by decide +kernel
theorem dX5_begin_61 : decode cX5_begin 61 = .ok (.aload_n 0, 1) := by decide +kernel
theorem dX5_begin_62 : decode cX5_begin 62 = .ok (.iconst 4, 1) := by decide +kernel
theorem dX5_begin_63 : decode cX5_begin 63 = .ok (.putfield 67, 3) := by decide +kernel
theorem dX5_begin_66 : decode cX5_begin 66 = .ok (.aload_n 0, 1) := by decide +kernel
theorem dX5_begin_67 : decode cX5_begin 67 = .ok (.iconst 0, 1) := by decide +kernel
theorem dX5_begin_68 : decode cX5_begin 68 = .ok (.putfield 70, 3) := by decide +kernel
theorem dX5_begin_71 : decode cX5_begin 71 = .ok (.aload_n 0, 1) := by decide +kernel
theorem dX5_begin_72 : decode cX5_begin 72 = .ok (.bipush 10, 2) := by decide +kernel
theorem dX5_begin_74 : decode cX5_begin 74 = .ok (.putfield 73, 3) := by decide +kernel
theorem dX5_begin_77 : decode cX5_begin 77 = .ok (.aload_n 0, 1) := by decide +kernel
theorem dX5_begin_78 : decode cX5_begin 78 = .ok (.iconst 2, 1) := by decide +kernel
theorem dX5_begin_79 : decode cX5_begin 79 = .ok (.putfield 76, 3) := by decide +kernel
theorem dX5_begin_82 : decode cX5_begin 82 = .ok (.aload_n 0, 1) := by decide +kernel
theorem dX5_begin_83 : decode cX5_begin 83 = .ok (.iconst 0, 1) := by decide +kernel
theorem dX5_begin_84 : decode cX5_begin 84 = .ok (.putfield 79, 3) := by decide +kernel
theorem dX5_begin_87 : decode cX5_begin 87 = .ok (.aload_n 0, 1) := by decide +kernel
theorem dX5_begin_88 : decode cX5_begin 88 = .ok (.iconst 0, 1) := by decide +kernel
theorem dX5_begin_89 : decode cX5_begin 89 = .ok (.putfield 83, 3) := by decide +kernel
theorem dX5_begin_92 : decode cX5_begin 92 = .ok (.aload_n 0, 1) := by decide +kernel
theorem dX5_begin_93 : decode cX5_begin 93 = .ok (.iconst 0, 1) := by decide +kernel
theorem dX5_begin_94 : decode cX5_begin 94 = .ok (.putfield 86, 3) := by decide +kernel
theorem dX5_begin_97 : decode cX5_begin 97 = .ok (.aload_n 0, 1) := by decide +kernel
theorem dX5_begin_98 : decode cX5_begin 98 = .ok (.iconst 0, 1) := by decide +kernel
theorem dX5_begin_99 : decode cX5_begin 99 = .ok (.putfield 89, 3) := by decide +kernel
theorem dX5_begin_102 : decode cX5_begin 102 = .ok (.aload_n 0, 1) := by decide +kernel
theorem dX5_begin_103 : decode cX5_begin 103 = .ok (.iconst 0, 1) := by decide +kernel
theorem dX5_begin_104 : decode cX5_begin 104 = .ok (.putfield 92, 3) := by decide +kernel
theorem dX5_begin_107 : decode cX5_begin 107 = .ok (.aload_n 0, 1) := by decide +kernel
theorem dX5_begin_108 : decode cX5_begin 108 = .ok (.iconst 0, 1) := by decide +kernel
theorem dX5_begin_109 : decode cX5_begin 109 = .ok (.putfield 95, 3) := by decide +kernel
theorem dX5_begin_112 : decode cX5_begin 112 = .ok (.aload_n 0, 1) := by decide +kernel
theorem dX5_begin_113 : decode cX5_begin 113 = .ok (.iconst 0, 1) := by decide +kernel
theorem dX5_begin_114 : decode cX5_begin 114 = .ok (.putfield 98, 3) := by decide +kernel
theorem dX5_begin_117 : decode cX5_begin 117 = .ok (.aload_n 0, 1) := by decide +kernel
theorem dX5_begin_118 : decode cX5_begin 118 = .ok (.iconst 0, 1) := by decide +kernel
theorem dX5_begin_119 : decode cX5_begin 119 = .ok (.putfield 101, 3) := by decide +kernel
theorem dX5_begin_122 : decode cX5_begin 122 = .ok (.aload_n 0, 1) := by decide +kernel
theorem dX5_begin_123 : decode cX5_begin 123 = .ok (.iconst (-1), 1) := by decide +kernel
theorem dX5_begin_124 : decode cX5_begin 124 = .ok (.putfield 104, 3) := by decide +kernel
theorem dX5_begin_127 : decode cX5_begin 127 = .ok (.iconst 0, 1) := by decide +kernel
theorem dX5_begin_128 : decode cX5_begin 128 = .ok (.istore_n 2, 1) := by decide +kernel
theorem dX5_begin_129 : decode cX5_begin 129 = .ok (.iload_n 2, 1) := by decide +kernel
theorem dX5_begin_130 : decode cX5_begin 130 = .ok (.bipush 6, 2) := by decide +kernel
theorem dX5_begin_132 : decode cX5_begin 132 = .ok (.if_icmp .ge 26, 3) := by decide +kernel
theorem dX5_begin_135 : decode cX5_begin 135 = .ok (.aload_n 0, 1) := by decide +kernel
theorem dX5_begin_136 : decode cX5_begin 136 = .ok (.getfield 40, 3) := by decide +kernel
theorem dX5_begin_139 : decode cX5_begin 139 = .ok (.iload_n 2, 1) := by decide +kernel
theorem dX5_begin_140 : decode cX5_begin 140 = .ok (.iload_n 2, 1) := by decide +kernel
theorem dX5_begin_141 : decode cX5_begin 141 = .ok (.ifCond .ne 9, 3) := by decide +kernel
theorem dX5_begin_144 : decode cX5_begin 144 = .ok (.sipush 1000, 3) := by decide +kernel
theorem dX5_begin_147 : decode cX5_begin 147 = .ok (.goto 4, 3) := by decide +kernel
theorem dX5_begin_150 : decode cX5_begin 150 = .ok (.iconst 0, 1) := by decide +kernel
theorem dX5_begin_151 : decode cX5_begin 151 = .ok (.iastore, 1) := by decide +kernel
theorem dX5_begin_152 : decode cX5_begin 152 = .ok (.iinc 2 1, 3) := by decide +kernel
theorem dX5_begin_155 : decode cX5_begin 155 = .ok (.goto (-26), 3) := by decide +kernel
theorem dX5_begin_158 : decode cX5_begin 158 = .ok (.aload_n 0, 1) := by decide +kernel
theorem dX5_begin_159 : decode cX5_begin 159 = .ok (.iconst 0, 1) := by decide +kernel
theorem dX5_begin_160 : decode cX5_begin 160 = .ok (.putfield 107, 3) := by decide +kernel
theorem dX5_begin_163 : decode cX5_begin 163 = .ok (.aload_n 0, 1) := by decide +kernel
theorem dX5_begin_164 : decode cX5_begin 164 = .ok (.iconst 0, 1) := by decide +kernel
theorem dX5_begin_165 : decode cX5_begin 165 = .ok (.putfield 110, 3) := by decide +kernel
theorem dX5_begin_168 : decode cX5_begin 168 = .ok (.return_, 1) := by decide +kernel
theorem dX5_reset_0 : decode cX5_reset 0 = .ok (.iload_n 1, 1) := by decide +kernel
theorem dX5_reset_1 : decode cX5_reset 1 = .ok (.iconst 4, 1) := by decide +kernel
theorem dX5_reset_2 : decode cX5_reset 2 = .ok (.bipush 48, 2) := by decide +kernel
theorem dX5_reset_4 : decode cX5_reset 4 = .ok (.invokestatic 113, 3) := by decide +kernel
theorem dX5_reset_7 : decode cX5_reset 7 = .ok (.ifCond .ne 6, 3) := by decide +kernel
theorem dX5_reset_10 : decode cX5_reset 10 = .ok (.ldc 117, 2) := by decide +kernel
theorem dX5_reset_12 : decode cX5_reset 12 = .ok (.ireturn, 1) := by decide +kernel
theorem dX5_reset_13 : decode cX5_reset 13 = .ok (.aload_n 0, 1) := by decide +kernel
theorem dX5_reset_14 : decode cX5_reset 14 = .ok (.getfield 47, 3) := by decide +kernel
theorem dX5_reset_17 : decode cX5_reset 17 = .ok (.istore_n 2, 1) := by decide +kernel
theorem dX5_reset_18 : decode cX5_reset 18 = .ok (.aload_n 0, 1) := by decide +kernel
theorem dX5_reset_19 : decode cX5_reset 19 = .ok (.iload_n 1, 1) := by decide +kernel
theorem dX5_reset_20 : decode cX5_reset 20 = .ok (.invokevirtual 43, 3) := by decide +kernel
theorem dX5_reset_23 : decode cX5_reset 23 = .ok (.iload_n 2, 1) := by decide +kernel
theorem dX5_reset_24 : decode cX5_reset 24 = .ok (.ireturn, 1) := by decide +kernel
theorem dX5_noSample_0 : decode cX5_noSample 0 = .ok (.iload_n 1, 1) := by decide +kernel
theorem dX5_noSample_1 : decode cX5_noSample 1 = .ok (.iconst 0, 1) := by decide +kernel
theorem dX5_noSample_2 : decode cX5_noSample 2 = .ok (.aload_n 0, 1) := by decide +kernel
theorem dX5_noSample_3 : decode cX5_noSample 3 = .ok (.getfield 47, 3) := by decide +kernel
theorem dX5_noSample_6 : decode cX5_noSample 6 = .ok (.iconst 1, 1) := by decide +kernel
theorem dX5_noSample_7 : decode cX5_noSample 7 = .ok (.isub, 1) := by decide +kernel
theorem dX5_noSample_8 : decode cX5_noSample 8 = .ok (.invokestatic 113, 3) := by decide +kernel
theorem dX5_noSample_11 : decode cX5_noSample 11 = .ok (.ifCond .ne 7, 3) := by decide +kernel
theorem dX5_noSample_14 : decode cX5_noSample 14 = .ok (.iconst 1, 1) := by decide +kernel
theorem dX5_noSample_15 : decode cX5_noSample 15 = .ok (.goto 4, 3) := by decide +kernel
theorem dX5_noSample_18 : decode cX5_noSample 18 = .ok (.iconst 0, 1) := by decide +kernel
theorem dX5_noSample_19 : decode cX5_noSample 19 = .ok (.ireturn, 1) := by decide +kernel
theorem dX5_setReference_0 : decode cX5_setReference 0 = .ok (.aload_n 0, 1) := by decide +kernel
theorem dX5_setReference_1 : decode cX5_setReference 1 = .ok (.iload_n 1, 1) := by decide +kernel
theorem dX5_setReference_2 : decode cX5_setReference 2 = .ok (.invokevirtual 118, 3) := by decide +kernel
theorem dX5_setReference_5 : decode cX5_setReference 5 = .ok (.ifCond .ne 14, 3) := by decide +kernel
theorem dX5_setReference_8 : decode cX5_setReference 8 = .ok (.iload_n 2, 1) := by decide +kernel
theorem dX5_setReference_9 : decode cX5_setReference 9 = .ok (.ldc 122, 2) := by decide +kernel
theorem dX5_setReference_11 : decode cX5_setReference 11 = .ok (.ldc 63, 2) := by decide +kernel
theorem dX5_setReference_13 : decode cX5_setReference 13 = .ok (.invokestatic 113, 3) := by decide +kernel
theorem dX5_setReference_16 : decode cX5_setReference 16 = .ok (.ifCond .ne 6, 3) := by decide +kernel
theorem dX5_setReference_19 : decode cX5_setReference 19 = .ok (.ldc 117, 2) := by decide +kernel
theorem dX5_setReference_21 : decode cX5_setReference 21 = .ok (.ireturn, 1) := by decide +kernel
theorem dX5_setReference_22 : decode cX5_setReference 22 = .ok (.aload_n 0, 1) := by decide +kernel
theorem dX5_setReference_23 : decode cX5_setReference 23 = .ok (.getfield 7, 3) := by decide +kernel
theorem dX5_setReference_26 : decode cX5_setReference 26 = .ok (.iload_n 1, 1) := by decide +kernel
theorem dX5_setReference_27 : decode cX5_setReference 27 = .ok (.iaload, 1) := by decide +kernel
theorem dX5_setReference_28 : decode cX5_setReference 28 = .ok (.istore_n 3, 1) := by decide +kernel
theorem dX5_setReference_29 : decode cX5_setReference 29 = .ok (.aload_n 0, 1) := by decide +kernel
theorem dX5_setReference_30 : decode cX5_setReference 30 = .ok (.getfield 7, 3) := by decide +kernel
theorem dX5_setReference_33 : decode cX5_setReference 33 = .ok (.iload_n 1, 1) := by decide +kernel
theorem dX5_setReference_34 : decode cX5_setReference 34 = .ok (.iload_n 2, 1) := by decide +kernel
theorem dX5_setReference_35 : decode cX5_setReference 35 = .ok (.iastore, 1) := by decide +kernel
theorem dX5_setReference_36 : decode cX5_setReference 36 = .ok (.iload_n 3, 1) := by decide +kernel
theorem dX5_setReference_37 : decode cX5_setReference 37 = .ok (.ireturn, 1) := by decide +kernel
theorem dX5_setGain_0 : decode cX5_setGain 0 = .ok (.iload_n 1, 1) := by decide +kernel
theorem dX5_setGain_1 : decode cX5_setGain 1 = .ok (.iconst 0, 1) := by decide +kernel
theorem dX5_setGain_2 : decode cX5_setGain 2 = .ok (.sipush 2000, 3) := by decide +kernel
theorem dX5_setGain_5 : decode cX5_setGain 5 = .ok (.invokestatic 113, 3) := by decide +kernel
theorem dX5_setGain_8 : decode cX5_setGain 8 = .ok (.ifCond .eq 13, 3) := by decide +kernel
theorem dX5_setGain_11 : decode cX5_setGain 11 = .ok (.iload_n 2, 1) := by decide +kernel
theorem dX5_setGain_12 : decode cX5_setGain 12 = .ok (.iconst 0, 1) := by decide +kernel
theorem dX5_setGain_13 : decode cX5_setGain 13 = .ok (.bipush 8, 2) := by decide +kernel
theorem dX5_setGain_15 : decode cX5_setGain 15 = .ok (.invokestatic 113, 3) := by decide +kernel
theorem dX5_setGain_18 : decode cX5_setGain 18 = .ok (.ifCond .ne 6, 3) := by decide +kernel
theorem dX5_setGain_21 : decode cX5_setGain 21 = .ok (.ldc 117, 2) := by decide +kernel
theorem dX5_setGain_23 : decode cX5_setGain 23 = .ok (.ireturn, 1) := by decide +kernel
theorem dX5_setGain_24 : decode cX5_setGain 24 = .ok (.iload_n 1, 1) := by decide +kernel
theorem dX5_setGain_25 : decode cX5_setGain 25 = .ok (.aload_n 0, 1) := by decide +kernel
theorem dX5_setGain_26 : decode cX5_setGain 26 = .ok (.getfield 51, 3) := by decide +kernel
theorem dX5_setGain_29 : decode cX5_setGain 29 = .ok (.if_icmp .ne 11, 3) := by decide +kernel
theorem dX5_setGain_32 : decode cX5_setGain 32 = .ok (.iload_n 2, 1) := by decide +kernel
theorem dX5_setGain_33 : decode cX5_setGain 33 = .ok (.aload_n 0, 1) := by decide +kernel
theorem dX5_setGain_34 : decode cX5_setGain 34 = .ok (.getfield 54, 3) := by decide +kernel
theorem dX5_setGain_37 : decode cX5_setGain 37 = .ok (.if_icmp .eq 7, 3) := by decide +kernel
theorem dX5_setGain_40 : decode cX5_setGain 40 = .ok (.iconst 1, 1) := by decide +kernel
theorem dX5_setGain_41 : decode cX5_setGain 41 = .ok (.goto 4, 3) := by decide +kernel
theorem dX5_setGain_44 : decode cX5_setGain 44 = .ok (.iconst 0, 1) := by decide +kernel
theorem dX5_setGain_45 : decode cX5_setGain 45 = .ok (.istore_n 3, 1) := by decide +kernel
theorem dX5_setGain_46 : decode cX5_setGain 46 = .ok (.aload_n 0, 1) := by decide +kernel
theorem dX5_setGain_47 : decode cX5_setGain 47 = .ok (.iload_n 1, 1) := by decide +kernel
theorem dX5_setGain_48 : decode cX5_setGain 48 = .ok (.putfield 51, 3) := by decide +kernel
theorem dX5_setGain_51 : decode cX5_setGain 51 = .ok (.aload_n 0, 1) := by decide +kernel
theorem dX5_setGain_52 : decode cX5_setGain 52 = .ok (.iload_n 2, 1) := by decide +kernel
theorem dX5_setGain_53 : decode cX5_setGain 53 = .ok (.putfield 54, 3) := by decide +kernel
theorem dX5_setGain_56 : decode cX5_setGain 56 = .ok (.iload_n 3, 1) := by decide +kernel
theorem dX5_setGain_57 : decode cX5_setGain 57 = .ok (.ireturn, 1) := by decide +kernel
theorem dX5_setSmoothing_0 : decode cX5_setSmoothing 0 = .ok (.iload_n 1, 1) := by decide +kernel
theorem dX5_setSmoothing_1 : decode cX5_setSmoothing 1 = .ok (.iconst 0, 1) := by decide +kernel
theorem dX5_setSmoothing_2 : decode cX5_setSmoothing 2 = .ok (.sipush 333, 3) := by decide +kernel
theorem dX5_setSmoothing_5 : decode cX5_setSmoothing 5 = .ok (.invokestatic 113, 3) := by decide +kernel
theorem dX5_setSmoothing_8 : decode cX5_setSmoothing 8 = .ok (.ifCond .eq 12, 3) := by decide +kernel
theorem dX5_setSmoothing_11 : decode cX5_setSmoothing 11 = .ok (.iload_n 2, 1) := by decide +kernel
theorem dX5_setSmoothing_12 : decode cX5_setSmoothing 12 = .ok (.iconst 0, 1) := by decide +kernel
theorem dX5_setSmoothing_13 : decode cX5_setSmoothing 13 = .ok (.iconst 4, 1) := by decide +kernel
theorem dX5_setSmoothing_14 : decode cX5_setSmoothing 14 = .ok (.invokestatic 113, 3) := by decide +kernel
theorem dX5_setSmoothing_17 : decode cX5_setSmoothing 17 = .ok (.ifCond .ne 6, 3) := by decide +kernel
theorem dX5_setSmoothing_20 : decode cX5_setSmoothing 20 = .ok (.ldc 117, 2) := by decide +kernel
theorem dX5_setSmoothing_22 : decode cX5_setSmoothing 22 = .ok (.ireturn, 1) := by decide +kernel
theorem dX5_setSmoothing_23 : decode cX5_setSmoothing 23 = .ok (.iload_n 1, 1) := by decide +kernel
theorem dX5_setSmoothing_24 : decode cX5_setSmoothing 24 = .ok (.aload_n 0, 1) := by decide +kernel
theorem dX5_setSmoothing_25 : decode cX5_setSmoothing 25 = .ok (.getfield 57, 3) := by decide +kernel
theorem dX5_setSmoothing_28 : decode cX5_setSmoothing 28 = .ok (.if_icmp .ne 11, 3) := by decide +kernel
theorem dX5_setSmoothing_31 : decode cX5_setSmoothing 31 = .ok (.iload_n 2, 1) := by decide +kernel
theorem dX5_setSmoothing_32 : decode cX5_setSmoothing 32 = .ok (.aload_n 0, 1) := by decide +kernel
theorem dX5_setSmoothing_33 : decode cX5_setSmoothing 33 = .ok (.getfield 60, 3) := by decide +kernel
theorem dX5_setSmoothing_36 : decode cX5_setSmoothing 36 = .ok (.if_icmp .eq 7, 3) := by decide +kernel
theorem dX5_setSmoothing_39 : decode cX5_setSmoothing 39 = .ok (.iconst 1, 1) := by decide +kernel
theorem dX5_setSmoothing_40 : decode cX5_setSmoothing 40 = .ok (.goto 4, 3) := by decide +kernel
theorem dX5_setSmoothing_43 : decode cX5_setSmoothing 43 = .ok (.iconst 0, 1) := by decide +kernel
theorem dX5_setSmoothing_44 : decode cX5_setSmoothing 44 = .ok (.istore_n 3, 1) := by decide +kernel
theorem dX5_setSmoothing_45 : decode cX5_setSmoothing 45 = .ok (.aload_n 0, 1) := by decide +kernel
theorem dX5_setSmoothing_46 : decode cX5_setSmoothing 46 = .ok (.iload_n 1, 1) := by decide +kernel
theorem dX5_setSmoothing_47 : decode cX5_setSmoothing 47 = .ok (.putfield 57, 3) := by decide +kernel
theorem dX5_setSmoothing_50 : decode cX5_setSmoothing 50 = .ok (.aload_n 0, 1) := by decide +kernel
theorem dX5_setSmoothing_51 : decode cX5_setSmoothing 51 = .ok (.iload_n 2, 1) := by decide +kernel
theorem dX5_setSmoothing_52 : decode cX5_setSmoothing 52 = .ok (.putfield 60, 3) := by decide +kernel
theorem dX5_setSmoothing_55 : decode cX5_setSmoothing 55 = .ok (.iload_n 3, 1) := by decide +kernel
theorem dX5_setSmoothing_56 : decode cX5_setSmoothing 56 = .ok (.ireturn, 1) := by decide +kernel
theorem dX5_setLimits_0 : decode cX5_setLimits 0 = .ok (.iload_n 1, 1) := by decide +kernel
theorem dX5_setLimits_1 : decode cX5_setLimits 1 = .ok (.iconst 1, 1) := by decide +kernel
theorem dX5_setLimits_2 : decode cX5_setLimits 2 = .ok (.ldc 63, 2) := by decide +kernel
theorem dX5_setLimits_4 : decode cX5_setLimits 4 = .ok (.invokestatic 113, 3) := by decide +kernel
theorem dX5_setLimits_7 : decode cX5_setLimits 7 = .ok (.ifCond .eq 13, 3) := by decide +kernel
theorem dX5_setLimits_10 : decode cX5_setLimits 10 = .ok (.iload_n 2, 1) := by decide +kernel
theorem dX5_setLimits_11 : decode cX5_setLimits 11 = .ok (.iconst 1, 1) := by decide +kernel
theorem dX5_setLimits_12 : decode cX5_setLimits 12 = .ok (.bipush 10, 2) := by decide +kernel
theorem dX5_setLimits_14 : decode cX5_setLimits 14 = .ok (.invokestatic 113, 3) := by decide +kernel
theorem dX5_setLimits_17 : decode cX5_setLimits 17 = .ok (.ifCond .ne 6, 3) := by decide +kernel
theorem dX5_setLimits_20 : decode cX5_setLimits 20 = .ok (.ldc 117, 2) := by decide +kernel
theorem dX5_setLimits_22 : decode cX5_setLimits 22 = .ok (.ireturn, 1) := by decide +kernel
theorem dX5_setLimits_23 : decode cX5_setLimits 23 = .ok (.iload_n 1, 1) := by decide +kernel
theorem dX5_setLimits_24 : decode cX5_setLimits 24 = .ok (.aload_n 0, 1) := by decide +kernel
theorem dX5_setLimits_25 : decode cX5_setLimits 25 = .ok (.getfield 64, 3) := by decide +kernel
theorem dX5_setLimits_28 : decode cX5_setLimits 28 = .ok (.if_icmp .ne 11, 3) := by decide +kernel
theorem dX5_setLimits_31 : decode cX5_setLimits 31 = .ok (.iload_n 2, 1) := by decide +kernel
theorem dX5_setLimits_32 : decode cX5_setLimits 32 = .ok (.aload_n 0, 1) := by decide +kernel
theorem dX5_setLimits_33 : decode cX5_setLimits 33 = .ok (.getfield 67, 3) := by decide +kernel
theorem dX5_setLimits_36 : decode cX5_setLimits 36 = .ok (.if_icmp .eq 7, 3) := by decide +kernel
theorem dX5_setLimits_39 : decode cX5_setLimits 39 = .ok (.iconst 1, 1) := by decide +kernel
theorem dX5_setLimits_40 : decode cX5_setLimits 40 = .ok (.goto 4, 3) := by decide +kernel
theorem dX5_setLimits_43 : decode cX5_setLimits 43 = .ok (.iconst 0, 1) := by decide +kernel
theorem dX5_setLimits_44 : decode cX5_setLimits 44 = .ok (.istore_n 3, 1) := by decide +kernel
theorem dX5_setLimits_45 : decode cX5_setLimits 45 = .ok (.aload_n 0, 1) := by decide +kernel
theorem dX5_setLimits_46 : decode cX5_setLimits 46 = .ok (.iload_n 1, 1) := by decide +kernel
theorem dX5_setLimits_47 : decode cX5_setLimits 47 = .ok (.putfield 64, 3) := by decide +kernel
theorem dX5_setLimits_50 : decode cX5_setLimits 50 = .ok (.aload_n 0, 1) := by decide +kernel
theorem dX5_setLimits_51 : decode cX5_setLimits 51 = .ok (.iload_n 2, 1) := by decide +kernel
theorem dX5_setLimits_52 : decode cX5_setLimits 52 = .ok (.putfield 67, 3) := by decide +kernel
theorem dX5_setLimits_55 : decode cX5_setLimits 55 = .ok (.iload_n 3, 1) := by decide +kernel
theorem dX5_setLimits_56 : decode cX5_setLimits 56 = .ok (.ireturn, 1) := by decide +kernel
theorem dX5_setGreatestShift_0 : decode cX5_setGreatestShift 0 = .ok (.iload_n 1, 1) := by decide +kernel
theorem dX5_setGreatestShift_1 : decode cX5_setGreatestShift 1 = .ok (.iconst 0, 1) := by decide +kernel
theorem dX5_setGreatestShift_2 : decode cX5_setGreatestShift 2 = .ok (.iconst 5, 1) := by decide +kernel
theorem dX5_setGreatestShift_3 : decode cX5_setGreatestShift 3 = .ok (.invokestatic 113, 3) := by decide +kernel
theorem dX5_setGreatestShift_6 : decode cX5_setGreatestShift 6 = .ok (.ifCond .ne 6, 3) := by decide +kernel
theorem dX5_setGreatestShift_9 : decode cX5_setGreatestShift 9 = .ok (.ldc 117, 2) := by decide +kernel
theorem dX5_setGreatestShift_11 : decode cX5_setGreatestShift 11 = .ok (.ireturn, 1) := by decide +kernel
theorem dX5_setGreatestShift_12 : decode cX5_setGreatestShift 12 = .ok (.aload_n 0, 1) := by decide +kernel
theorem dX5_setGreatestShift_13 : decode cX5_setGreatestShift 13 = .ok (.getfield 70, 3) := by decide +kernel
theorem dX5_setGreatestShift_16 : decode cX5_setGreatestShift 16 = .ok (.istore_n 2, 1) := by decide +kernel
theorem dX5_setGreatestShift_17 : decode cX5_setGreatestShift 17 = .ok (.aload_n 0, 1) := by decide +kernel
theorem dX5_setGreatestShift_18 : decode cX5_setGreatestShift 18 = .ok (.iload_n 1, 1) := by decide +kernel
theorem dX5_setGreatestShift_19 : decode cX5_setGreatestShift 19 = .ok (.putfield 70, 3) := by decide +kernel
theorem dX5_setGreatestShift_22 : decode cX5_setGreatestShift 22 = .ok (.iload_n 2, 1) := by decide +kernel
theorem dX5_setGreatestShift_23 : decode cX5_setGreatestShift 23 = .ok (.ireturn, 1) := by decide +kernel
theorem dX5_setTolerance_0 : decode cX5_setTolerance 0 = .ok (.iload_n 1, 1) := by decide +kernel
theorem dX5_setTolerance_1 : decode cX5_setTolerance 1 = .ok (.iconst 0, 1) := by decide +kernel
theorem dX5_setTolerance_2 : decode cX5_setTolerance 2 = .ok (.ldc 63, 2) := by decide +kernel
theorem dX5_setTolerance_4 : decode cX5_setTolerance 4 = .ok (.invokestatic 113, 3) := by decide +kernel
theorem dX5_setTolerance_7 : decode cX5_setTolerance 7 = .ok (.ifCond .eq 12, 3) := by decide +kernel
theorem dX5_setTolerance_10 : decode cX5_setTolerance 10 = .ok (.iload_n 2, 1) := by decide +kernel
theorem dX5_setTolerance_11 : decode cX5_setTolerance 11 = .ok (.iconst 1, 1) := by decide +kernel
theorem dX5_setTolerance_12 : decode cX5_setTolerance 12 = .ok (.iconst 5, 1) := by decide +kernel
theorem dX5_setTolerance_13 : decode cX5_setTolerance 13 = .ok (.invokestatic 113, 3) := by decide +kernel
theorem dX5_setTolerance_16 : decode cX5_setTolerance 16 = .ok (.ifCond .ne 6, 3) := by decide +kernel
theorem dX5_setTolerance_19 : decode cX5_setTolerance 19 = .ok (.ldc 117, 2) := by decide +kernel
theorem dX5_setTolerance_21 : decode cX5_setTolerance 21 = .ok (.ireturn, 1) := by decide +kernel
theorem dX5_setTolerance_22 : decode cX5_setTolerance 22 = .ok (.iload_n 1, 1) := by decide +kernel
theorem dX5_setTolerance_23 : decode cX5_setTolerance 23 = .ok (.aload_n 0, 1) := by decide +kernel
theorem dX5_setTolerance_24 : decode cX5_setTolerance 24 = .ok (.getfield 73, 3) := by decide +kernel
theorem dX5_setTolerance_27 : decode cX5_setTolerance 27 = .ok (.if_icmp .ne 11, 3) := by decide +kernel
theorem dX5_setTolerance_30 : decode cX5_setTolerance 30 = .ok (.iload_n 2, 1) := by decide +kernel
theorem dX5_setTolerance_31 : decode cX5_setTolerance 31 = .ok (.aload_n 0, 1) := by decide +kernel
theorem dX5_setTolerance_32 : decode cX5_setTolerance 32 = .ok (.getfield 76, 3) := by decide +kernel
theorem dX5_setTolerance_35 : decode cX5_setTolerance 35 = .ok (.if_icmp .eq 7, 3) := by decide +kernel
theorem dX5_setTolerance_38 : decode cX5_setTolerance 38 = .ok (.iconst 1, 1) := by decide +kernel
theorem dX5_setTolerance_39 : decode cX5_setTolerance 39 = .ok (.goto 4, 3) := by decide +kernel
theorem dX5_setTolerance_42 : decode cX5_setTolerance 42 = .ok (.iconst 0, 1) := by decide +kernel
theorem dX5_setTolerance_43 : decode cX5_setTolerance 43 = .ok (.istore_n 3, 1) := by decide +kernel
theorem dX5_setTolerance_44 : decode cX5_setTolerance 44 = .ok (.aload_n 0, 1) := by decide +kernel
theorem dX5_setTolerance_45 : decode cX5_setTolerance 45 = .ok (.iload_n 1, 1) := by decide +kernel
theorem dX5_setTolerance_46 : decode cX5_setTolerance 46 = .ok (.putfield 73, 3) := by decide +kernel
theorem dX5_setTolerance_49 : decode cX5_setTolerance 49 = .ok (.aload_n 0, 1) := by decide +kernel
theorem dX5_setTolerance_50 : decode cX5_setTolerance 50 = .ok (.iload_n 2, 1) := by decide +kernel
theorem dX5_setTolerance_51 : decode cX5_setTolerance 51 = .ok (.putfield 76, 3) := by decide +kernel
theorem dX5_setTolerance_54 : decode cX5_setTolerance 54 = .ok (.iload_n 3, 1) := by decide +kernel
theorem dX5_setTolerance_55 : decode cX5_setTolerance 55 = .ok (.ireturn, 1) := by decide +kernel
theorem dX5_setGuard_0 : decode cX5_setGuard 0 = .ok (.iload_n 1, 1) := by decide +kernel
theorem dX5_setGuard_1 : decode cX5_setGuard 1 = .ok (.aload_n 0, 1) := by decide +kernel
theorem dX5_setGuard_2 : decode cX5_setGuard 2 = .ok (.getfield 79, 3) := by decide +kernel
theorem dX5_setGuard_5 : decode cX5_setGuard 5 = .ok (.if_icmp .eq 7, 3) := by decide +kernel
theorem dX5_setGuard_8 : decode cX5_setGuard 8 = .ok (.iconst 1, 1) := by decide +kernel
theorem dX5_setGuard_9 : decode cX5_setGuard 9 = .ok (.goto 4, 3) := by decide +kernel
theorem dX5_setGuard_12 : decode cX5_setGuard 12 = .ok (.iconst 0, 1) := by decide +kernel
theorem dX5_setGuard_13 : decode cX5_setGuard 13 = .ok (.istore_n 2, 1) := by decide +kernel
theorem dX5_setGuard_14 : decode cX5_setGuard 14 = .ok (.aload_n 0, 1) := by decide +kernel
theorem dX5_setGuard_15 : decode cX5_setGuard 15 = .ok (.iload_n 1, 1) := by decide +kernel
theorem dX5_setGuard_16 : decode cX5_setGuard 16 = .ok (.putfield 79, 3) := by decide +kernel
theorem dX5_setGuard_19 : decode cX5_setGuard 19 = .ok (.iload_n 2, 1) := by decide +kernel
theorem dX5_setGuard_20 : decode cX5_setGuard 20 = .ok (.ireturn, 1) := by decide +kernel
theorem dX5_setting_0 : decode cX5_setting 0 = .ok (.iload_n 1, 1) := by decide +kernel
theorem dX5_setting_1 : decode cX5_setting 1 = .ok (.tableswitch 122 0 10 #[59, 64, 69, 74, 79, 84, 89, 94, 99, 104, 109], 59) := by decide +kernel
theorem dX5_setting_60 : decode cX5_setting 60 = .ok (.aload_n 0, 1) := by decide +kernel
theorem dX5_setting_61 : decode cX5_setting 61 = .ok (.getfield 47, 3) := by decide +kernel
theorem dX5_setting_64 : decode cX5_setting 64 = .ok (.ireturn, 1) := by decide +kernel
theorem dX5_setting_65 : decode cX5_setting 65 = .ok (.aload_n 0, 1) := by decide +kernel
theorem dX5_setting_66 : decode cX5_setting 66 = .ok (.getfield 51, 3) := by decide +kernel
theorem dX5_setting_69 : decode cX5_setting 69 = .ok (.ireturn, 1) := by decide +kernel
theorem dX5_setting_70 : decode cX5_setting 70 = .ok (.aload_n 0, 1) := by decide +kernel
theorem dX5_setting_71 : decode cX5_setting 71 = .ok (.getfield 54, 3) := by decide +kernel
theorem dX5_setting_74 : decode cX5_setting 74 = .ok (.ireturn, 1) := by decide +kernel
theorem dX5_setting_75 : decode cX5_setting 75 = .ok (.aload_n 0, 1) := by decide +kernel
theorem dX5_setting_76 : decode cX5_setting 76 = .ok (.getfield 57, 3) := by decide +kernel
theorem dX5_setting_79 : decode cX5_setting 79 = .ok (.ireturn, 1) := by decide +kernel
theorem dX5_setting_80 : decode cX5_setting 80 = .ok (.aload_n 0, 1) := by decide +kernel
theorem dX5_setting_81 : decode cX5_setting 81 = .ok (.getfield 60, 3) := by decide +kernel
theorem dX5_setting_84 : decode cX5_setting 84 = .ok (.ireturn, 1) := by decide +kernel
theorem dX5_setting_85 : decode cX5_setting 85 = .ok (.aload_n 0, 1) := by decide +kernel
theorem dX5_setting_86 : decode cX5_setting 86 = .ok (.getfield 64, 3) := by decide +kernel
theorem dX5_setting_89 : decode cX5_setting 89 = .ok (.ireturn, 1) := by decide +kernel
theorem dX5_setting_90 : decode cX5_setting 90 = .ok (.aload_n 0, 1) := by decide +kernel
theorem dX5_setting_91 : decode cX5_setting 91 = .ok (.getfield 67, 3) := by decide +kernel
theorem dX5_setting_94 : decode cX5_setting 94 = .ok (.ireturn, 1) := by decide +kernel
theorem dX5_setting_95 : decode cX5_setting 95 = .ok (.aload_n 0, 1) := by decide +kernel
theorem dX5_setting_96 : decode cX5_setting 96 = .ok (.getfield 70, 3) := by decide +kernel
theorem dX5_setting_99 : decode cX5_setting 99 = .ok (.ireturn, 1) := by decide +kernel
theorem dX5_setting_100 : decode cX5_setting 100 = .ok (.aload_n 0, 1) := by decide +kernel
theorem dX5_setting_101 : decode cX5_setting 101 = .ok (.getfield 73, 3) := by decide +kernel
theorem dX5_setting_104 : decode cX5_setting 104 = .ok (.ireturn, 1) := by decide +kernel
theorem dX5_setting_105 : decode cX5_setting 105 = .ok (.aload_n 0, 1) := by decide +kernel
theorem dX5_setting_106 : decode cX5_setting 106 = .ok (.getfield 76, 3) := by decide +kernel
theorem dX5_setting_109 : decode cX5_setting 109 = .ok (.ireturn, 1) := by decide +kernel
theorem dX5_setting_110 : decode cX5_setting 110 = .ok (.aload_n 0, 1) := by decide +kernel
theorem dX5_setting_111 : decode cX5_setting 111 = .ok (.getfield 79, 3) := by decide +kernel
theorem dX5_setting_114 : decode cX5_setting 114 = .ok (.ifCond .eq 7, 3) := by decide +kernel
theorem dX5_setting_117 : decode cX5_setting 117 = .ok (.iconst 1, 1) := by decide +kernel
theorem dX5_setting_118 : decode cX5_setting 118 = .ok (.goto 4, 3) := by decide +kernel
theorem dX5_setting_121 : decode cX5_setting 121 = .ok (.iconst 0, 1) := by decide +kernel
theorem dX5_setting_122 : decode cX5_setting 122 = .ok (.ireturn, 1) := by decide +kernel
theorem dX5_setting_123 : decode cX5_setting 123 = .ok (.ldc 117, 2) := by decide +kernel
theorem dX5_setting_125 : decode cX5_setting 125 = .ok (.ireturn, 1) := by decide +kernel
theorem dX5_correct_0 : decode cX5_correct 0 = .ok (.iconst 0, 1) := by decide +kernel
theorem dX5_correct_1 : decode cX5_correct 1 = .ok (.istore_n 3, 1) := by decide +kernel
theorem dX5_correct_2 : decode cX5_correct 2 = .ok (.iload_n 3, 1) := by decide +kernel
theorem dX5_correct_3 : decode cX5_correct 3 = .ok (.aload_n 0, 1) := by decide +kernel
theorem dX5_correct_4 : decode cX5_correct 4 = .ok (.getfield 54, 3) := by decide +kernel
theorem dX5_correct_7 : decode cX5_correct 7 = .ok (.iadd, 1) := by decide +kernel
theorem dX5_correct_8 : decode cX5_correct 8 = .ok (.iload_n 1, 1) := by decide +kernel
theorem dX5_correct_9 : decode cX5_correct 9 = .ok (.if_icmp .ge 88, 3) := by decide +kernel
theorem dX5_correct_12 : decode cX5_correct 12 = .ok (.iload_n 1, 1) := by decide +kernel
theorem dX5_correct_13 : decode cX5_correct 13 = .ok (.iload_n 3, 1) := by decide +kernel
theorem dX5_correct_14 : decode cX5_correct 14 = .ok (.isub, 1) := by decide +kernel
theorem dX5_correct_15 : decode cX5_correct 15 = .ok (.aload_n 0, 1) := by decide +kernel
theorem dX5_correct_16 : decode cX5_correct 16 = .ok (.getfield 54, 3) := by decide +kernel
theorem dX5_correct_19 : decode cX5_correct 19 = .ok (.isub, 1) := by decide +kernel
theorem dX5_correct_20 : decode cX5_correct 20 = .ok (.istore 4, 2) := by decide +kernel
theorem dX5_correct_22 : decode cX5_correct 22 = .ok (.iload_n 2, 1) := by decide +kernel
theorem dX5_correct_23 : decode cX5_correct 23 = .ok (.ifCond .eq 18, 3) := by decide +kernel
theorem dX5_correct_26 : decode cX5_correct 26 = .ok (.iload 4, 2) := by decide +kernel
theorem dX5_correct_28 : decode cX5_correct 28 = .ok (.aload_n 0, 1) := by decide +kernel
theorem dX5_correct_29 : decode cX5_correct 29 = .ok (.getfield 67, 3) := by decide +kernel
theorem dX5_correct_32 : decode cX5_correct 32 = .ok (.if_icmp .ge 9, 3) := by decide +kernel
theorem dX5_correct_35 : decode cX5_correct 35 = .ok (.iload 4, 2) := by decide +kernel
theorem dX5_correct_37 : decode cX5_correct 37 = .ok (.i2l, 1) := by decide +kernel
theorem dX5_correct_38 : decode cX5_correct 38 = .ok (.goto 8, 3) := by decide +kernel
theorem dX5_correct_41 : decode cX5_correct 41 = .ok (.aload_n 0, 1) := by decide +kernel
theorem dX5_correct_42 : decode cX5_correct 42 = .ok (.getfield 67, 3) := by decide +kernel
theorem dX5_correct_45 : decode cX5_correct 45 = .ok (.i2l, 1) := by decide +kernel
theorem dX5_correct_46 : decode cX5_correct 46 = .ok (.lstore 5, 2) := by decide +kernel
theorem dX5_correct_48 : decode cX5_correct 48 = .ok (.aload_n 0, 1) := by decide +kernel
theorem dX5_correct_49 : decode cX5_correct 49 = .ok (.getfield 13, 3) := by decide +kernel
theorem dX5_correct_52 : decode cX5_correct 52 = .ok (.iload_n 3, 1) := by decide +kernel
theorem dX5_correct_53 : decode cX5_correct 53 = .ok (.dup2, 1) := by decide +kernel
theorem dX5_correct_54 : decode cX5_correct 54 = .ok (.iaload, 1) := by decide +kernel
theorem dX5_correct_55 : decode cX5_correct 55 = .ok (.aload_n 0, 1) := by decide +kernel
theorem dX5_correct_56 : decode cX5_correct 56 = .ok (.getfield 51, 3) := by decide +kernel
theorem dX5_correct_59 : decode cX5_correct 59 = .ok (.i2l, 1) := by decide +kernel
theorem dX5_correct_60 : decode cX5_correct 60 = .ok (.aload_n 0, 1) := by decide +kernel
theorem dX5_correct_61 : decode cX5_correct 61 = .ok (.getfield 19, 3) := by decide +kernel
theorem dX5_correct_64 : decode cX5_correct 64 = .ok (.iload_n 3, 1) := by decide +kernel
theorem dX5_correct_65 : decode cX5_correct 65 = .ok (.aload_n 0, 1) := by decide +kernel
theorem dX5_correct_66 : decode cX5_correct 66 = .ok (.getfield 54, 3) := by decide +kernel
theorem dX5_correct_69 : decode cX5_correct 69 = .ok (.iadd, 1) := by decide +kernel
theorem dX5_correct_70 : decode cX5_correct 70 = .ok (.iaload, 1) := by decide +kernel
theorem dX5_correct_71 : decode cX5_correct 71 = .ok (.i2l, 1) := by decide +kernel
theorem dX5_correct_72 : decode cX5_correct 72 = .ok (.lmul, 1) := by decide +kernel
theorem dX5_correct_73 : decode cX5_correct 73 = .ok (.lload 5, 2) := by decide +kernel
theorem dX5_correct_75 : decode cX5_correct 75 = .ok (.lmul, 1) := by decide +kernel
theorem dX5_correct_76 : decode cX5_correct 76 = .ok (.ldc2_w 123, 3) := by decide +kernel
theorem dX5_correct_79 : decode cX5_correct 79 = .ok (.aload_n 0, 1) := by decide +kernel
theorem dX5_correct_80 : decode cX5_correct 80 = .ok (.getfield 67, 3) := by decide +kernel
theorem dX5_correct_83 : decode cX5_correct 83 = .ok (.i2l, 1) := by decide +kernel
theorem dX5_correct_84 : decode cX5_correct 84 = .ok (.lmul, 1) := by decide +kernel
theorem dX5_correct_85 : decode cX5_correct 85 = .ok (.invokestatic 125, 3) := by decide +kernel
theorem dX5_correct_88 : decode cX5_correct 88 = .ok (.l2i, 1) := by decide +kernel
theorem dX5_correct_89 : decode cX5_correct 89 = .ok (.iadd, 1) := by decide +kernel
theorem dX5_correct_90 : decode cX5_correct 90 = .ok (.iastore, 1) := by decide +kernel
theorem dX5_correct_91 : decode cX5_correct 91 = .ok (.iinc 3 1, 3) := by decide +kernel
theorem dX5_correct_94 : decode cX5_correct 94 = .ok (.goto (-92), 3) := by decide +kernel
theorem dX5_correct_97 : decode cX5_correct 97 = .ok (.iconst 0, 1) := by decide +kernel
theorem dX5_correct_98 : decode cX5_correct 98 = .ok (.istore_n 3, 1) := by decide +kernel
theorem dX5_correct_99 : decode cX5_correct 99 = .ok (.iload_n 3, 1) := by decide +kernel
theorem dX5_correct_100 : decode cX5_correct 100 = .ok (.aload_n 0, 1) := by decide +kernel
theorem dX5_correct_101 : decode cX5_correct 101 = .ok (.getfield 60, 3) := by decide +kernel
theorem dX5_correct_104 : decode cX5_correct 104 = .ok (.if_icmp .ge 13, 3) := by decide +kernel
theorem dX5_correct_107 : decode cX5_correct 107 = .ok (.aload_n 0, 1) := by decide +kernel
theorem dX5_correct_108 : decode cX5_correct 108 = .ok (.invokevirtual 129, 3) := by decide +kernel
theorem dX5_correct_111 : decode cX5_correct 111 = .ok (.iinc 3 1, 3) := by decide +kernel
theorem dX5_correct_114 : decode cX5_correct 114 = .ok (.goto (-15), 3) := by decide +kernel
theorem dX5_correct_117 : decode cX5_correct 117 = .ok (.iconst 0, 1) := by decide +kernel
theorem dX5_correct_118 : decode cX5_correct 118 = .ok (.istore_n 3, 1) := by decide +kernel
theorem dX5_correct_119 : decode cX5_correct 119 = .ok (.iload_n 3, 1) := by decide +kernel
theorem dX5_correct_120 : decode cX5_correct 120 = .ok (.aload_n 0, 1) := by decide +kernel
theorem dX5_correct_121 : decode cX5_correct 121 = .ok (.getfield 47, 3) := by decide +kernel
theorem dX5_correct_124 : decode cX5_correct 124 = .ok (.if_icmp .ge 29, 3) := by decide +kernel
theorem dX5_correct_127 : decode cX5_correct 127 = .ok (.aload_n 0, 1) := by decide +kernel
theorem dX5_correct_128 : decode cX5_correct 128 = .ok (.getfield 13, 3) := by decide +kernel
theorem dX5_correct_131 : decode cX5_correct 131 = .ok (.iload_n 3, 1) := by decide +kernel
theorem dX5_correct_132 : decode cX5_correct 132 = .ok (.aload_n 0, 1) := by decide +kernel
theorem dX5_correct_133 : decode cX5_correct 133 = .ok (.getfield 13, 3) := by decide +kernel
theorem dX5_correct_136 : decode cX5_correct 136 = .ok (.iload_n 3, 1) := by decide +kernel
theorem dX5_correct_137 : decode cX5_correct 137 = .ok (.iaload, 1) := by decide +kernel
theorem dX5_correct_138 : decode cX5_correct 138 = .ok (.i2l, 1) := by decide +kernel
theorem dX5_correct_139 : decode cX5_correct 139 = .ok (.aload_n 0, 1) := by decide +kernel
theorem dX5_correct_140 : decode cX5_correct 140 = .ok (.getfield 64, 3) := by decide +kernel
theorem dX5_correct_143 : decode cX5_correct 143 = .ok (.invokestatic 132, 3) := by decide +kernel
theorem dX5_correct_146 : decode cX5_correct 146 = .ok (.iastore, 1) := by decide +kernel
theorem dX5_correct_147 : decode cX5_correct 147 = .ok (.iinc 3 1, 3) := by decide +kernel
theorem dX5_correct_150 : decode cX5_correct 150 = .ok (.goto (-31), 3) := by decide +kernel
theorem dX5_correct_153 : decode cX5_correct 153 = .ok (.return_, 1) := by decide +kernel
theorem dX5_smooth_0 : decode cX5_smooth 0 = .ok (.iconst 0, 1) := by decide +kernel
theorem dX5_smooth_1 : decode cX5_smooth 1 = .ok (.istore_n 1, 1) := by decide +kernel
theorem dX5_smooth_2 : decode cX5_smooth 2 = .ok (.iload_n 1, 1) := by decide +kernel
theorem dX5_smooth_3 : decode cX5_smooth 3 = .ok (.aload_n 0, 1) := by decide +kernel
theorem dX5_smooth_4 : decode cX5_smooth 4 = .ok (.getfield 47, 3) := by decide +kernel
theorem dX5_smooth_7 : decode cX5_smooth 7 = .ok (.if_icmp .ge 101, 3) := by decide +kernel
theorem dX5_smooth_10 : decode cX5_smooth 10 = .ok (.aload_n 0, 1) := by decide +kernel
theorem dX5_smooth_11 : decode cX5_smooth 11 = .ok (.getfield 13, 3) := by decide +kernel
theorem dX5_smooth_14 : decode cX5_smooth 14 = .ok (.iload_n 1, 1) := by decide +kernel
theorem dX5_smooth_15 : decode cX5_smooth 15 = .ok (.ifCond .ne 7, 3) := by decide +kernel
theorem dX5_smooth_18 : decode cX5_smooth 18 = .ok (.iconst 0, 1) := by decide +kernel
theorem dX5_smooth_19 : decode cX5_smooth 19 = .ok (.goto 6, 3) := by decide +kernel
theorem dX5_smooth_22 : decode cX5_smooth 22 = .ok (.iload_n 1, 1) := by decide +kernel
theorem dX5_smooth_23 : decode cX5_smooth 23 = .ok (.iconst 1, 1) := by decide +kernel
theorem dX5_smooth_24 : decode cX5_smooth 24 = .ok (.isub, 1) := by decide +kernel
theorem dX5_smooth_25 : decode cX5_smooth 25 = .ok (.iaload, 1) := by decide +kernel
theorem dX5_smooth_26 : decode cX5_smooth 26 = .ok (.i2l, 1) := by decide +kernel
theorem dX5_smooth_27 : decode cX5_smooth 27 = .ok (.lstore_n 2, 1) := by decide +kernel
theorem dX5_smooth_28 : decode cX5_smooth 28 = .ok (.aload_n 0, 1) := by decide +kernel
theorem dX5_smooth_29 : decode cX5_smooth 29 = .ok (.getfield 13, 3) := by decide +kernel
theorem dX5_smooth_32 : decode cX5_smooth 32 = .ok (.iload_n 1, 1) := by decide +kernel
theorem dX5_smooth_33 : decode cX5_smooth 33 = .ok (.aload_n 0, 1) := by decide +kernel
theorem dX5_smooth_34 : decode cX5_smooth 34 = .ok (.getfield 47, 3) := by decide +kernel
theorem dX5_smooth_37 : decode cX5_smooth 37 = .ok (.iconst 1, 1) := by decide +kernel
theorem dX5_smooth_38 : decode cX5_smooth 38 = .ok (.isub, 1) := by decide +kernel
theorem dX5_smooth_39 : decode cX5_smooth 39 = .ok (.if_icmp .ne 7, 3) := by decide +kernel
theorem dX5_smooth_42 : decode cX5_smooth 42 = .ok (.iload_n 1, 1) := by decide +kernel
theorem dX5_smooth_43 : decode cX5_smooth 43 = .ok (.goto 6, 3) := by decide +kernel
theorem dX5_smooth_46 : decode cX5_smooth 46 = .ok (.iload_n 1, 1) := by decide +kernel
theorem dX5_smooth_47 : decode cX5_smooth 47 = .ok (.iconst 1, 1) := by decide +kernel
theorem dX5_smooth_48 : decode cX5_smooth 48 = .ok (.iadd, 1) := by decide +kernel
theorem dX5_smooth_49 : decode cX5_smooth 49 = .ok (.iaload, 1) := by decide +kernel
theorem dX5_smooth_50 : decode cX5_smooth 50 = .ok (.i2l, 1) := by decide +kernel
theorem dX5_smooth_51 : decode cX5_smooth 51 = .ok (.lstore 4, 2) := by decide +kernel
theorem dX5_smooth_53 : decode cX5_smooth 53 = .ok (.aload_n 0, 1) := by decide +kernel
theorem dX5_smooth_54 : decode cX5_smooth 54 = .ok (.getfield 22, 3) := by decide +kernel
theorem dX5_smooth_57 : decode cX5_smooth 57 = .ok (.iload_n 1, 1) := by decide +kernel
theorem dX5_smooth_58 : decode cX5_smooth 58 = .ok (.aload_n 0, 1) := by decide +kernel
theorem dX5_smooth_59 : decode cX5_smooth 59 = .ok (.getfield 57, 3) := by decide +kernel
theorem dX5_smooth_62 : decode cX5_smooth 62 = .ok (.i2l, 1) := by decide +kernel
theorem dX5_smooth_63 : decode cX5_smooth 63 = .ok (.lload_n 2, 1) := by decide +kernel
theorem dX5_smooth_64 : decode cX5_smooth 64 = .ok (.lmul, 1) := by decide +kernel
theorem dX5_smooth_65 : decode cX5_smooth 65 = .ok (.sipush 1000, 3) := by decide +kernel
theorem dX5_smooth_68 : decode cX5_smooth 68 = .ok (.iconst 2, 1) := by decide +kernel
theorem dX5_smooth_69 : decode cX5_smooth 69 = .ok (.aload_n 0, 1) := by decide +kernel
theorem dX5_smooth_70 : decode cX5_smooth 70 = .ok (.getfield 57, 3) := by decide +kernel
theorem dX5_smooth_73 : decode cX5_smooth 73 = .ok (.imul, 1) := by decide +kernel
theorem dX5_smooth_74 : decode cX5_smooth 74 = .ok (.isub, 1) := by decide +kernel
theorem dX5_smooth_75 : decode cX5_smooth 75 = .ok (.i2l, 1) := by decide +kernel
theorem dX5_smooth_76 : decode cX5_smooth 76 = .ok (.aload_n 0, 1) := by decide +kernel
theorem dX5_smooth_77 : decode cX5_smooth 77 = .ok (.getfield 13, 3) := by decide +kernel
theorem dX5_smooth_80 : decode cX5_smooth 80 = .ok (.iload_n 1, 1) := by decide +kernel
theorem dX5_smooth_81 : decode cX5_smooth 81 = .ok (.iaload, 1) := by decide +kernel
theorem dX5_smooth_82 : decode cX5_smooth 82 = .ok (.i2l, 1) := by decide +kernel
theorem dX5_smooth_83 : decode cX5_smooth 83 = .ok (.lmul, 1) := by decide +kernel
theorem dX5_smooth_84 : decode cX5_smooth 84 = .ok (.ladd, 1) := by decide +kernel
theorem dX5_smooth_85 : decode cX5_smooth 85 = .ok (.aload_n 0, 1) := by decide +kernel
theorem dX5_smooth_86 : decode cX5_smooth 86 = .ok (.getfield 57, 3) := by decide +kernel
theorem dX5_smooth_89 : decode cX5_smooth 89 = .ok (.i2l, 1) := by decide +kernel
theorem dX5_smooth_90 : decode cX5_smooth 90 = .ok (.lload 4, 2) := by decide +kernel
theorem dX5_smooth_92 : decode cX5_smooth 92 = .ok (.lmul, 1) := by decide +kernel
theorem dX5_smooth_93 : decode cX5_smooth 93 = .ok (.ladd, 1) := by decide +kernel
theorem dX5_smooth_94 : decode cX5_smooth 94 = .ok (.ldc2_w 123, 3) := by decide +kernel
theorem dX5_smooth_97 : decode cX5_smooth 97 = .ok (.invokestatic 125, 3) := by decide +kernel
theorem dX5_smooth_100 : decode cX5_smooth 100 = .ok (.l2i, 1) := by decide +kernel
theorem dX5_smooth_101 : decode cX5_smooth 101 = .ok (.iastore, 1) := by decide +kernel
theorem dX5_smooth_102 : decode cX5_smooth 102 = .ok (.iinc 1 1, 3) := by decide +kernel
theorem dX5_smooth_105 : decode cX5_smooth 105 = .ok (.goto (-103), 3) := by decide +kernel
theorem dX5_smooth_108 : decode cX5_smooth 108 = .ok (.iconst 0, 1) := by decide +kernel
theorem dX5_smooth_109 : decode cX5_smooth 109 = .ok (.istore_n 1, 1) := by decide +kernel
theorem dX5_smooth_110 : decode cX5_smooth 110 = .ok (.iload_n 1, 1) := by decide +kernel
theorem dX5_smooth_111 : decode cX5_smooth 111 = .ok (.aload_n 0, 1) := by decide +kernel
theorem dX5_smooth_112 : decode cX5_smooth 112 = .ok (.getfield 47, 3) := by decide +kernel
theorem dX5_smooth_115 : decode cX5_smooth 115 = .ok (.if_icmp .ge 21, 3) := by decide +kernel
theorem dX5_smooth_118 : decode cX5_smooth 118 = .ok (.aload_n 0, 1) := by decide +kernel
theorem dX5_smooth_119 : decode cX5_smooth 119 = .ok (.getfield 13, 3) := by decide +kernel
theorem dX5_smooth_122 : decode cX5_smooth 122 = .ok (.iload_n 1, 1) := by decide +kernel
theorem dX5_smooth_123 : decode cX5_smooth 123 = .ok (.aload_n 0, 1) := by decide +kernel
theorem dX5_smooth_124 : decode cX5_smooth 124 = .ok (.getfield 22, 3) := by decide +kernel
theorem dX5_smooth_127 : decode cX5_smooth 127 = .ok (.iload_n 1, 1) := by decide +kernel
theorem dX5_smooth_128 : decode cX5_smooth 128 = .ok (.iaload, 1) := by decide +kernel
theorem dX5_smooth_129 : decode cX5_smooth 129 = .ok (.iastore, 1) := by decide +kernel
theorem dX5_smooth_130 : decode cX5_smooth 130 = .ok (.iinc 1 1, 3) := by decide +kernel
theorem dX5_smooth_133 : decode cX5_smooth 133 = .ok (.goto (-23), 3) := by decide +kernel
theorem dX5_smooth_136 : decode cX5_smooth 136 = .ok (.return_, 1) := by decide +kernel
theorem dX5_rawAt_0 : decode cX5_rawAt 0 = .ok (.aload_n 0, 1) := by decide +kernel
theorem dX5_rawAt_1 : decode cX5_rawAt 1 = .ok (.getfield 16, 3) := by decide +kernel
theorem dX5_rawAt_4 : decode cX5_rawAt 4 = .ok (.iload_n 1, 1) := by decide +kernel
theorem dX5_rawAt_5 : decode cX5_rawAt 5 = .ok (.ifCond .ge 7, 3) := by decide +kernel
theorem dX5_rawAt_8 : decode cX5_rawAt 8 = .ok (.iconst 0, 1) := by decide +kernel
theorem dX5_rawAt_9 : decode cX5_rawAt 9 = .ok (.goto 21, 3) := by decide +kernel
theorem dX5_rawAt_12 : decode cX5_rawAt 12 = .ok (.iload_n 1, 1) := by decide +kernel
theorem dX5_rawAt_13 : decode cX5_rawAt 13 = .ok (.aload_n 0, 1) := by decide +kernel
theorem dX5_rawAt_14 : decode cX5_rawAt 14 = .ok (.getfield 47, 3) := by decide +kernel
theorem dX5_rawAt_17 : decode cX5_rawAt 17 = .ok (.if_icmp .lt 12, 3) := by decide +kernel
theorem dX5_rawAt_20 : decode cX5_rawAt 20 = .ok (.aload_n 0, 1) := by decide +kernel
theorem dX5_rawAt_21 : decode cX5_rawAt 21 = .ok (.getfield 47, 3) := by decide +kernel
theorem dX5_rawAt_24 : decode cX5_rawAt 24 = .ok (.iconst 1, 1) := by decide +kernel
theorem dX5_rawAt_25 : decode cX5_rawAt 25 = .ok (.isub, 1) := by decide +kernel
theorem dX5_rawAt_26 : decode cX5_rawAt 26 = .ok (.goto 4, 3) := by decide +kernel
theorem dX5_rawAt_29 : decode cX5_rawAt 29 = .ok (.iload_n 1, 1) := by decide +kernel
theorem dX5_rawAt_30 : decode cX5_rawAt 30 = .ok (.iaload, 1) := by decide +kernel
theorem dX5_rawAt_31 : decode cX5_rawAt 31 = .ok (.ireturn, 1) := by decide +kernel
theorem dX5_unlike_0 : decode cX5_unlike 0 = .ok (.lconst 0, 1) := by decide +kernel
theorem dX5_unlike_1 : decode cX5_unlike 1 = .ok (.lstore_n 2, 1) := by decide +kernel
theorem dX5_unlike_2 : decode cX5_unlike 2 = .ok (.iconst 0, 1) := by decide +kernel
theorem dX5_unlike_3 : decode cX5_unlike 3 = .ok (.istore 4, 2) := by decide +kernel
theorem dX5_unlike_5 : decode cX5_unlike 5 = .ok (.iload 4, 2) := by decide +kernel
theorem dX5_unlike_7 : decode cX5_unlike 7 = .ok (.aload_n 0, 1) := by decide +kernel
theorem dX5_unlike_8 : decode cX5_unlike 8 = .ok (.getfield 47, 3) := by decide +kernel
theorem dX5_unlike_11 : decode cX5_unlike 11 = .ok (.if_icmp .ge 32, 3) := by decide +kernel
theorem dX5_unlike_14 : decode cX5_unlike 14 = .ok (.lload_n 2, 1) := by decide +kernel
theorem dX5_unlike_15 : decode cX5_unlike 15 = .ok (.aload_n 0, 1) := by decide +kernel
theorem dX5_unlike_16 : decode cX5_unlike 16 = .ok (.iload 4, 2) := by decide +kernel
theorem dX5_unlike_18 : decode cX5_unlike 18 = .ok (.iload_n 1, 1) := by decide +kernel
theorem dX5_unlike_19 : decode cX5_unlike 19 = .ok (.iadd, 1) := by decide +kernel
theorem dX5_unlike_20 : decode cX5_unlike 20 = .ok (.invokevirtual 136, 3) := by decide +kernel
theorem dX5_unlike_23 : decode cX5_unlike 23 = .ok (.aload_n 0, 1) := by decide +kernel
theorem dX5_unlike_24 : decode cX5_unlike 24 = .ok (.getfield 34, 3) := by decide +kernel
theorem dX5_unlike_27 : decode cX5_unlike 27 = .ok (.iload 4, 2) := by decide +kernel
theorem dX5_unlike_29 : decode cX5_unlike 29 = .ok (.iaload, 1) := by decide +kernel
theorem dX5_unlike_30 : decode cX5_unlike 30 = .ok (.isub, 1) := by decide +kernel
theorem dX5_unlike_31 : decode cX5_unlike 31 = .ok (.invokestatic 140, 3) := by decide +kernel
theorem dX5_unlike_34 : decode cX5_unlike 34 = .ok (.i2l, 1) := by decide +kernel
theorem dX5_unlike_35 : decode cX5_unlike 35 = .ok (.ladd, 1) := by decide +kernel
theorem dX5_unlike_36 : decode cX5_unlike 36 = .ok (.lstore_n 2, 1) := by decide +kernel
theorem dX5_unlike_37 : decode cX5_unlike 37 = .ok (.iinc 4 1, 3) := by decide +kernel
theorem dX5_unlike_40 : decode cX5_unlike 40 = .ok (.goto (-35), 3) := by decide +kernel
theorem dX5_unlike_43 : decode cX5_unlike 43 = .ok (.lload_n 2, 1) := by decide +kernel
theorem dX5_unlike_44 : decode cX5_unlike 44 = .ok (.lreturn, 1) := by decide +kernel
theorem dX5_findShift_0 : decode cX5_findShift 0 = .ok (.iconst 0, 1) := by decide +kernel
theorem dX5_findShift_1 : decode cX5_findShift 1 = .ok (.istore_n 1, 1) := by decide +kernel
theorem dX5_findShift_2 : decode cX5_findShift 2 = .ok (.iconst 1, 1) := by decide +kernel
theorem dX5_findShift_3 : decode cX5_findShift 3 = .ok (.istore_n 2, 1) := by decide +kernel
theorem dX5_findShift_4 : decode cX5_findShift 4 = .ok (.iload_n 2, 1) := by decide +kernel
theorem dX5_findShift_5 : decode cX5_findShift 5 = .ok (.aload_n 0, 1) := by decide +kernel
theorem dX5_findShift_6 : decode cX5_findShift 6 = .ok (.getfield 70, 3) := by decide +kernel
theorem dX5_findShift_9 : decode cX5_findShift 9 = .ok (.if_icmp .gt 58, 3) := by decide +kernel
theorem dX5_findShift_12 : decode cX5_findShift 12 = .ok (.aload_n 0, 1) := by decide +kernel
theorem dX5_findShift_13 : decode cX5_findShift 13 = .ok (.getfield 92, 3) := by decide +kernel
theorem dX5_findShift_16 : decode cX5_findShift 16 = .ok (.ifCond .le 51, 3) := by decide +kernel
theorem dX5_findShift_19 : decode cX5_findShift 19 = .ok (.aload_n 0, 1) := by decide +kernel
theorem dX5_findShift_20 : decode cX5_findShift 20 = .ok (.iload_n 2, 1) := by decide +kernel
theorem dX5_findShift_21 : decode cX5_findShift 21 = .ok (.ineg, 1) := by decide +kernel
theorem dX5_findShift_22 : decode cX5_findShift 22 = .ok (.invokevirtual 143, 3) := by decide +kernel
theorem dX5_findShift_25 : decode cX5_findShift 25 = .ok (.aload_n 0, 1) := by decide +kernel
theorem dX5_findShift_26 : decode cX5_findShift 26 = .ok (.iload_n 1, 1) := by decide +kernel
theorem dX5_findShift_27 : decode cX5_findShift 27 = .ok (.invokevirtual 143, 3) := by decide +kernel
theorem dX5_findShift_30 : decode cX5_findShift 30 = .ok (.lcmp, 1) := by decide +kernel
theorem dX5_findShift_31 : decode cX5_findShift 31 = .ok (.ifCond .ge 8, 3) := by decide +kernel
theorem dX5_findShift_34 : decode cX5_findShift 34 = .ok (.iload_n 2, 1) := by decide +kernel
theorem dX5_findShift_35 : decode cX5_findShift 35 = .ok (.ineg, 1) := by decide +kernel
theorem dX5_findShift_36 : decode cX5_findShift 36 = .ok (.goto 4, 3) := by decide +kernel
theorem dX5_findShift_39 : decode cX5_findShift 39 = .ok (.iload_n 1, 1) := by decide +kernel
theorem dX5_findShift_40 : decode cX5_findShift 40 = .ok (.istore_n 1, 1) := by decide +kernel
theorem dX5_findShift_41 : decode cX5_findShift 41 = .ok (.aload_n 0, 1) := by decide +kernel
theorem dX5_findShift_42 : decode cX5_findShift 42 = .ok (.iload_n 2, 1) := by decide +kernel
theorem dX5_findShift_43 : decode cX5_findShift 43 = .ok (.invokevirtual 143, 3) := by decide +kernel
theorem dX5_findShift_46 : decode cX5_findShift 46 = .ok (.aload_n 0, 1) := by decide +kernel
theorem dX5_findShift_47 : decode cX5_findShift 47 = .ok (.iload_n 1, 1) := by decide +kernel
theorem dX5_findShift_48 : decode cX5_findShift 48 = .ok (.invokevirtual 143, 3) := by decide +kernel
theorem dX5_findShift_51 : decode cX5_findShift 51 = .ok (.lcmp, 1) := by decide +kernel
theorem dX5_findShift_52 : decode cX5_findShift 52 = .ok (.ifCond .ge 7, 3) := by decide +kernel
theorem dX5_findShift_55 : decode cX5_findShift 55 = .ok (.iload_n 2, 1) := by decide +kernel
theorem dX5_findShift_56 : decode cX5_findShift 56 = .ok (.goto 4, 3) := by decide +kernel
theorem dX5_findShift_59 : decode cX5_findShift 59 = .ok (.iload_n 1, 1) := by decide +kernel
theorem dX5_findShift_60 : decode cX5_findShift 60 = .ok (.istore_n 1, 1) := by decide +kernel
theorem dX5_findShift_61 : decode cX5_findShift 61 = .ok (.iinc 2 1, 3) := by decide +kernel
theorem dX5_findShift_64 : decode cX5_findShift 64 = .ok (.goto (-60), 3) := by decide +kernel
theorem dX5_findShift_67 : decode cX5_findShift 67 = .ok (.iload_n 1, 1) := by decide +kernel
theorem dX5_findShift_68 : decode cX5_findShift 68 = .ok (.ireturn, 1) := by decide +kernel
theorem dX5_makeRoom_0 : decode cX5_makeRoom 0 = .ok (.iconst 4, 1) := by decide +kernel
theorem dX5_makeRoom_1 : decode cX5_makeRoom 1 = .ok (.istore_n 1, 1) := by decide +kernel
theorem dX5_makeRoom_2 : decode cX5_makeRoom 2 = .ok (.iload_n 1, 1) := by decide +kernel
theorem dX5_makeRoom_3 : decode cX5_makeRoom 3 = .ok (.ifCond .le 75, 3) := by decide +kernel
theorem dX5_makeRoom_6 : decode cX5_makeRoom 6 = .ok (.iconst 0, 1) := by decide +kernel
theorem dX5_makeRoom_7 : decode cX5_makeRoom 7 = .ok (.istore_n 2, 1) := by decide +kernel
theorem dX5_makeRoom_8 : decode cX5_makeRoom 8 = .ok (.iload_n 2, 1) := by decide +kernel
theorem dX5_makeRoom_9 : decode cX5_makeRoom 9 = .ok (.bipush 48, 2) := by decide +kernel
theorem dX5_makeRoom_11 : decode cX5_makeRoom 11 = .ok (.if_icmp .ge 33, 3) := by decide +kernel
theorem dX5_makeRoom_14 : decode cX5_makeRoom 14 = .ok (.aload_n 0, 1) := by decide +kernel
theorem dX5_makeRoom_15 : decode cX5_makeRoom 15 = .ok (.getfield 25, 3) := by decide +kernel
theorem dX5_makeRoom_18 : decode cX5_makeRoom 18 = .ok (.bipush 48, 2) := by decide +kernel
theorem dX5_makeRoom_20 : decode cX5_makeRoom 20 = .ok (.iload_n 1, 1) := by decide +kernel
theorem dX5_makeRoom_21 : decode cX5_makeRoom 21 = .ok (.imul, 1) := by decide +kernel
theorem dX5_makeRoom_22 : decode cX5_makeRoom 22 = .ok (.iload_n 2, 1) := by decide +kernel
theorem dX5_makeRoom_23 : decode cX5_makeRoom 23 = .ok (.iadd, 1) := by decide +kernel
theorem dX5_makeRoom_24 : decode cX5_makeRoom 24 = .ok (.aload_n 0, 1) := by decide +kernel
theorem dX5_makeRoom_25 : decode cX5_makeRoom 25 = .ok (.getfield 25, 3) := by decide +kernel
theorem dX5_makeRoom_28 : decode cX5_makeRoom 28 = .ok (.bipush 48, 2) := by decide +kernel
theorem dX5_makeRoom_30 : decode cX5_makeRoom 30 = .ok (.iload_n 1, 1) := by decide +kernel
theorem dX5_makeRoom_31 : decode cX5_makeRoom 31 = .ok (.iconst 1, 1) := by decide +kernel
theorem dX5_makeRoom_32 : decode cX5_makeRoom 32 = .ok (.isub, 1) := by decide +kernel
theorem dX5_makeRoom_33 : decode cX5_makeRoom 33 = .ok (.imul, 1) := by decide +kernel
theorem dX5_makeRoom_34 : decode cX5_makeRoom 34 = .ok (.iload_n 2, 1) := by decide +kernel
theorem dX5_makeRoom_35 : decode cX5_makeRoom 35 = .ok (.iadd, 1) := by decide +kernel
theorem dX5_makeRoom_36 : decode cX5_makeRoom 36 = .ok (.iaload, 1) := by decide +kernel
theorem dX5_makeRoom_37 : decode cX5_makeRoom 37 = .ok (.iastore, 1) := by decide +kernel
theorem dX5_makeRoom_38 : decode cX5_makeRoom 38 = .ok (.iinc 2 1, 3) := by decide +kernel
theorem dX5_makeRoom_41 : decode cX5_makeRoom 41 = .ok (.goto (-33), 3) := by decide +kernel
theorem dX5_makeRoom_44 : decode cX5_makeRoom 44 = .ok (.aload_n 0, 1) := by decide +kernel
theorem dX5_makeRoom_45 : decode cX5_makeRoom 45 = .ok (.getfield 28, 3) := by decide +kernel
theorem dX5_makeRoom_48 : decode cX5_makeRoom 48 = .ok (.iload_n 1, 1) := by decide +kernel
theorem dX5_makeRoom_49 : decode cX5_makeRoom 49 = .ok (.aload_n 0, 1) := by decide +kernel
theorem dX5_makeRoom_50 : decode cX5_makeRoom 50 = .ok (.getfield 28, 3) := by decide +kernel
theorem dX5_makeRoom_53 : decode cX5_makeRoom 53 = .ok (.iload_n 1, 1) := by decide +kernel
theorem dX5_makeRoom_54 : decode cX5_makeRoom 54 = .ok (.iconst 1, 1) := by decide +kernel
theorem dX5_makeRoom_55 : decode cX5_makeRoom 55 = .ok (.isub, 1) := by decide +kernel
theorem dX5_makeRoom_56 : decode cX5_makeRoom 56 = .ok (.iaload, 1) := by decide +kernel
theorem dX5_makeRoom_57 : decode cX5_makeRoom 57 = .ok (.iastore, 1) := by decide +kernel
theorem dX5_makeRoom_58 : decode cX5_makeRoom 58 = .ok (.aload_n 0, 1) := by decide +kernel
theorem dX5_makeRoom_59 : decode cX5_makeRoom 59 = .ok (.getfield 31, 3) := by decide +kernel
theorem dX5_makeRoom_62 : decode cX5_makeRoom 62 = .ok (.iload_n 1, 1) := by decide +kernel
theorem dX5_makeRoom_63 : decode cX5_makeRoom 63 = .ok (.aload_n 0, 1) := by decide +kernel
theorem dX5_makeRoom_64 : decode cX5_makeRoom 64 = .ok (.getfield 31, 3) := by decide +kernel
theorem dX5_makeRoom_67 : decode cX5_makeRoom 67 = .ok (.iload_n 1, 1) := by decide +kernel
theorem dX5_makeRoom_68 : decode cX5_makeRoom 68 = .ok (.iconst 1, 1) := by decide +kernel
theorem dX5_makeRoom_69 : decode cX5_makeRoom 69 = .ok (.isub, 1) := by decide +kernel
theorem dX5_makeRoom_70 : decode cX5_makeRoom 70 = .ok (.iaload, 1) := by decide +kernel
theorem dX5_makeRoom_71 : decode cX5_makeRoom 71 = .ok (.iastore, 1) := by decide +kernel
theorem dX5_makeRoom_72 : decode cX5_makeRoom 72 = .ok (.iinc 1 (-1), 3) := by decide +kernel
theorem dX5_makeRoom_75 : decode cX5_makeRoom 75 = .ok (.goto (-73), 3) := by decide +kernel
theorem dX5_makeRoom_78 : decode cX5_makeRoom 78 = .ok (.return_, 1) := by decide +kernel
theorem dX5_finish_0 : decode cX5_finish 0 = .ok (.aload_n 0, 1) := by decide +kernel
theorem dX5_finish_1 : decode cX5_finish 1 = .ok (.invokevirtual 147, 3) := by decide +kernel
theorem dX5_finish_4 : decode cX5_finish 4 = .ok (.istore_n 1, 1) := by decide +kernel
theorem dX5_finish_5 : decode cX5_finish 5 = .ok (.aload_n 0, 1) := by decide +kernel
theorem dX5_finish_6 : decode cX5_finish 6 = .ok (.invokevirtual 151, 3) := by decide +kernel
theorem dX5_finish_9 : decode cX5_finish 9 = .ok (.iconst 0, 1) := by decide +kernel
theorem dX5_finish_10 : decode cX5_finish 10 = .ok (.istore_n 2, 1) := by decide +kernel
theorem dX5_finish_11 : decode cX5_finish 11 = .ok (.iconst 0, 1) := by decide +kernel
theorem dX5_finish_12 : decode cX5_finish 12 = .ok (.istore_n 3, 1) := by decide +kernel
theorem dX5_finish_13 : decode cX5_finish 13 = .ok (.iload_n 3, 1) := by decide +kernel
theorem dX5_finish_14 : decode cX5_finish 14 = .ok (.aload_n 0, 1) := by decide +kernel
theorem dX5_finish_15 : decode cX5_finish 15 = .ok (.getfield 47, 3) := by decide +kernel
theorem dX5_finish_18 : decode cX5_finish 18 = .ok (.if_icmp .ge 65, 3) := by decide +kernel
theorem dX5_finish_21 : decode cX5_finish 21 = .ok (.aload_n 0, 1) := by decide +kernel
theorem dX5_finish_22 : decode cX5_finish 22 = .ok (.getfield 34, 3) := by decide +kernel
theorem dX5_finish_25 : decode cX5_finish 25 = .ok (.iload_n 3, 1) := by decide +kernel
theorem dX5_finish_26 : decode cX5_finish 26 = .ok (.aload_n 0, 1) := by decide +kernel
theorem dX5_finish_27 : decode cX5_finish 27 = .ok (.iload_n 3, 1) := by decide +kernel
theorem dX5_finish_28 : decode cX5_finish 28 = .ok (.iload_n 1, 1) := by decide +kernel
theorem dX5_finish_29 : decode cX5_finish 29 = .ok (.iadd, 1) := by decide +kernel
theorem dX5_finish_30 : decode cX5_finish 30 = .ok (.invokevirtual 136, 3) := by decide +kernel
theorem dX5_finish_33 : decode cX5_finish 33 = .ok (.iastore, 1) := by decide +kernel
theorem dX5_finish_34 : decode cX5_finish 34 = .ok (.aload_n 0, 1) := by decide +kernel
theorem dX5_finish_35 : decode cX5_finish 35 = .ok (.getfield 19, 3) := by decide +kernel
theorem dX5_finish_38 : decode cX5_finish 38 = .ok (.iload_n 3, 1) := by decide +kernel
theorem dX5_finish_39 : decode cX5_finish 39 = .ok (.aload_n 0, 1) := by decide +kernel
theorem dX5_finish_40 : decode cX5_finish 40 = .ok (.getfield 7, 3) := by decide +kernel
theorem dX5_finish_43 : decode cX5_finish 43 = .ok (.iload_n 3, 1) := by decide +kernel
theorem dX5_finish_44 : decode cX5_finish 44 = .ok (.iaload, 1) := by decide +kernel
theorem dX5_finish_45 : decode cX5_finish 45 = .ok (.aload_n 0, 1) := by decide +kernel
theorem dX5_finish_46 : decode cX5_finish 46 = .ok (.getfield 34, 3) := by decide +kernel
theorem dX5_finish_49 : decode cX5_finish 49 = .ok (.iload_n 3, 1) := by decide +kernel
theorem dX5_finish_50 : decode cX5_finish 50 = .ok (.iaload, 1) := by decide +kernel
theorem dX5_finish_51 : decode cX5_finish 51 = .ok (.isub, 1) := by decide +kernel
theorem dX5_finish_52 : decode cX5_finish 52 = .ok (.iastore, 1) := by decide +kernel
theorem dX5_finish_53 : decode cX5_finish 53 = .ok (.aload_n 0, 1) := by decide +kernel
theorem dX5_finish_54 : decode cX5_finish 54 = .ok (.getfield 25, 3) := by decide +kernel
theorem dX5_finish_57 : decode cX5_finish 57 = .ok (.iload_n 3, 1) := by decide +kernel
theorem dX5_finish_58 : decode cX5_finish 58 = .ok (.aload_n 0, 1) := by decide +kernel
theorem dX5_finish_59 : decode cX5_finish 59 = .ok (.getfield 19, 3) := by decide +kernel
theorem dX5_finish_62 : decode cX5_finish 62 = .ok (.iload_n 3, 1) := by decide +kernel
theorem dX5_finish_63 : decode cX5_finish 63 = .ok (.iaload, 1) := by decide +kernel
theorem dX5_finish_64 : decode cX5_finish 64 = .ok (.iastore, 1) := by decide +kernel
theorem dX5_finish_65 : decode cX5_finish 65 = .ok (.iload_n 2, 1) := by decide +kernel
theorem dX5_finish_66 : decode cX5_finish 66 = .ok (.aload_n 0, 1) := by decide +kernel
theorem dX5_finish_67 : decode cX5_finish 67 = .ok (.getfield 19, 3) := by decide +kernel
theorem dX5_finish_70 : decode cX5_finish 70 = .ok (.iload_n 3, 1) := by decide +kernel
theorem dX5_finish_71 : decode cX5_finish 71 = .ok (.iaload, 1) := by decide +kernel
theorem dX5_finish_72 : decode cX5_finish 72 = .ok (.invokestatic 140, 3) := by decide +kernel
theorem dX5_finish_75 : decode cX5_finish 75 = .ok (.iadd, 1) := by decide +kernel
theorem dX5_finish_76 : decode cX5_finish 76 = .ok (.istore_n 2, 1) := by decide +kernel
theorem dX5_finish_77 : decode cX5_finish 77 = .ok (.iinc 3 1, 3) := by decide +kernel
theorem dX5_finish_80 : decode cX5_finish 80 = .ok (.goto (-67), 3) := by decide +kernel
theorem dX5_finish_83 : decode cX5_finish 83 = .ok (.aload_n 0, 1) := by decide +kernel
theorem dX5_finish_84 : decode cX5_finish 84 = .ok (.getfield 28, 3) := by decide +kernel
theorem dX5_finish_87 : decode cX5_finish 87 = .ok (.iconst 0, 1) := by decide +kernel
theorem dX5_finish_88 : decode cX5_finish 88 = .ok (.iload_n 2, 1) := by decide +kernel
theorem dX5_finish_89 : decode cX5_finish 89 = .ok (.iastore, 1) := by decide +kernel
theorem dX5_finish_90 : decode cX5_finish 90 = .ok (.aload_n 0, 1) := by decide +kernel
theorem dX5_finish_91 : decode cX5_finish 91 = .ok (.getfield 31, 3) := by decide +kernel
theorem dX5_finish_94 : decode cX5_finish 94 = .ok (.iconst 0, 1) := by decide +kernel
theorem dX5_finish_95 : decode cX5_finish 95 = .ok (.iload_n 1, 1) := by decide +kernel
theorem dX5_finish_96 : decode cX5_finish 96 = .ok (.iastore, 1) := by decide +kernel
theorem dX5_finish_97 : decode cX5_finish 97 = .ok (.aload_n 0, 1) := by decide +kernel
theorem dX5_finish_98 : decode cX5_finish 98 = .ok (.dup, 1) := by decide +kernel
theorem dX5_finish_99 : decode cX5_finish 99 = .ok (.getfield 92, 3) := by decide +kernel
theorem dX5_finish_102 : decode cX5_finish 102 = .ok (.iconst 1, 1) := by decide +kernel
theorem dX5_finish_103 : decode cX5_finish 103 = .ok (.iadd, 1) := by decide +kernel
theorem dX5_finish_104 : decode cX5_finish 104 = .ok (.putfield 92, 3) := by decide +kernel
theorem dX5_finish_107 : decode cX5_finish 107 = .ok (.aload_n 0, 1) := by decide +kernel
theorem dX5_finish_108 : decode cX5_finish 108 = .ok (.iload_n 2, 1) := by decide +kernel
theorem dX5_finish_109 : decode cX5_finish 109 = .ok (.invokevirtual 154, 3) := by decide +kernel
theorem dX5_finish_112 : decode cX5_finish 112 = .ok (.aload_n 0, 1) := by decide +kernel
theorem dX5_finish_113 : decode cX5_finish 113 = .ok (.getfield 79, 3) := by decide +kernel
theorem dX5_finish_116 : decode cX5_finish 116 = .ok (.ifCond .eq 67, 3) := by decide +kernel
theorem dX5_finish_119 : decode cX5_finish 119 = .ok (.aload_n 0, 1) := by decide +kernel
theorem dX5_finish_120 : decode cX5_finish 120 = .ok (.getfield 101, 3) := by decide +kernel
theorem dX5_finish_123 : decode cX5_finish 123 = .ok (.iconst 2, 1) := by decide +kernel
theorem dX5_finish_124 : decode cX5_finish 124 = .ok (.if_icmp .lt 59, 3) := by decide +kernel
theorem dX5_finish_127 : decode cX5_finish 127 = .ok (.iconst 0, 1) := by decide +kernel
theorem dX5_finish_128 : decode cX5_finish 128 = .ok (.istore_n 3, 1) := by decide +kernel
theorem dX5_finish_129 : decode cX5_finish 129 = .ok (.iload_n 3, 1) := by decide +kernel
theorem dX5_finish_130 : decode cX5_finish 130 = .ok (.aload_n 0, 1) := by decide +kernel
theorem dX5_finish_131 : decode cX5_finish 131 = .ok (.getfield 47, 3) := by decide +kernel
theorem dX5_finish_134 : decode cX5_finish 134 = .ok (.if_icmp .ge 21, 3) := by decide +kernel
theorem dX5_finish_137 : decode cX5_finish 137 = .ok (.aload_n 0, 1) := by decide +kernel
theorem dX5_finish_138 : decode cX5_finish 138 = .ok (.getfield 13, 3) := by decide +kernel
theorem dX5_finish_141 : decode cX5_finish 141 = .ok (.iload_n 3, 1) := by decide +kernel
theorem dX5_finish_142 : decode cX5_finish 142 = .ok (.aload_n 0, 1) := by decide +kernel
theorem dX5_finish_143 : decode cX5_finish 143 = .ok (.getfield 37, 3) := by decide +kernel
theorem dX5_finish_146 : decode cX5_finish 146 = .ok (.iload_n 3, 1) := by decide +kernel
theorem dX5_finish_147 : decode cX5_finish 147 = .ok (.iaload, 1) := by decide +kernel
theorem dX5_finish_148 : decode cX5_finish 148 = .ok (.iastore, 1) := by decide +kernel
theorem dX5_finish_149 : decode cX5_finish 149 = .ok (.iinc 3 1, 3) := by decide +kernel
theorem dX5_finish_152 : decode cX5_finish 152 = .ok (.goto (-23), 3) := by decide +kernel
theorem dX5_finish_155 : decode cX5_finish 155 = .ok (.aload_n 0, 1) := by decide +kernel
theorem dX5_finish_156 : decode cX5_finish 156 = .ok (.dup, 1) := by decide +kernel
theorem dX5_finish_157 : decode cX5_finish 157 = .ok (.getfield 51, 3) := by decide +kernel
theorem dX5_finish_160 : decode cX5_finish 160 = .ok (.iconst 2, 1) := by decide +kernel
theorem dX5_finish_161 : decode cX5_finish 161 = .ok (.idiv, 1) := by decide +kernel
theorem dX5_finish_162 : decode cX5_finish 162 = .ok (.putfield 51, 3) := by decide +kernel
theorem dX5_finish_165 : decode cX5_finish 165 = .ok (.aload_n 0, 1) := by decide +kernel
theorem dX5_finish_166 : decode cX5_finish 166 = .ok (.iconst 0, 1) := by decide +kernel
theorem dX5_finish_167 : decode cX5_finish 167 = .ok (.putfield 101, 3) := by decide +kernel
theorem dX5_finish_170 : decode cX5_finish 170 = .ok (.aload_n 0, 1) := by decide +kernel
theorem dX5_finish_171 : decode cX5_finish 171 = .ok (.dup, 1) := by decide +kernel
theorem dX5_finish_172 : decode cX5_finish 172 = .ok (.getfield 98, 3) := by decide +kernel
theorem dX5_finish_175 : decode cX5_finish 175 = .ok (.iconst 1, 1) := by decide +kernel
theorem dX5_finish_176 : decode cX5_finish 176 = .ok (.iadd, 1) := by decide +kernel
theorem dX5_finish_177 : decode cX5_finish 177 = .ok (.putfield 98, 3) := by decide +kernel
theorem dX5_finish_180 : decode cX5_finish 180 = .ok (.goto 12, 3) := by decide +kernel
theorem dX5_finish_183 : decode cX5_finish 183 = .ok (.aload_n 0, 1) := by decide +kernel
theorem dX5_finish_184 : decode cX5_finish 184 = .ok (.aload_n 0, 1) := by decide +kernel
theorem dX5_finish_185 : decode cX5_finish 185 = .ok (.getfield 47, 3) := by decide +kernel
theorem dX5_finish_188 : decode cX5_finish 188 = .ok (.iconst 0, 1) := by decide +kernel
theorem dX5_finish_189 : decode cX5_finish 189 = .ok (.invokevirtual 157, 3) := by decide +kernel
theorem dX5_finish_192 : decode cX5_finish 192 = .ok (.return_, 1) := by decide +kernel
theorem dX5_rate_0 : decode cX5_rate 0 = .ok (.aload_n 0, 1) := by decide +kernel
theorem dX5_rate_1 : decode cX5_rate 1 = .ok (.getfield 104, 3) := by decide +kernel
theorem dX5_rate_4 : decode cX5_rate 4 = .ok (.ifCond .lt 11, 3) := by decide +kernel
theorem dX5_rate_7 : decode cX5_rate 7 = .ok (.iload_n 1, 1) := by decide +kernel
theorem dX5_rate_8 : decode cX5_rate 8 = .ok (.aload_n 0, 1) := by decide +kernel
theorem dX5_rate_9 : decode cX5_rate 9 = .ok (.getfield 161, 3) := by decide +kernel
theorem dX5_rate_12 : decode cX5_rate 12 = .ok (.if_icmp .ge 54, 3) := by decide +kernel
theorem dX5_rate_15 : decode cX5_rate 15 = .ok (.aload_n 0, 1) := by decide +kernel
theorem dX5_rate_16 : decode cX5_rate 16 = .ok (.aload_n 0, 1) := by decide +kernel
theorem dX5_rate_17 : decode cX5_rate 17 = .ok (.getfield 89, 3) := by decide +kernel
theorem dX5_rate_20 : decode cX5_rate 20 = .ok (.iconst 1, 1) := by decide +kernel
theorem dX5_rate_21 : decode cX5_rate 21 = .ok (.isub, 1) := by decide +kernel
theorem dX5_rate_22 : decode cX5_rate 22 = .ok (.putfield 104, 3) := by decide +kernel
theorem dX5_rate_25 : decode cX5_rate 25 = .ok (.aload_n 0, 1) := by decide +kernel
theorem dX5_rate_26 : decode cX5_rate 26 = .ok (.iload_n 1, 1) := by decide +kernel
theorem dX5_rate_27 : decode cX5_rate 27 = .ok (.putfield 161, 3) := by decide +kernel
theorem dX5_rate_30 : decode cX5_rate 30 = .ok (.iconst 0, 1) := by decide +kernel
theorem dX5_rate_31 : decode cX5_rate 31 = .ok (.istore_n 2, 1) := by decide +kernel
theorem dX5_rate_32 : decode cX5_rate 32 = .ok (.iload_n 2, 1) := by decide +kernel
theorem dX5_rate_33 : decode cX5_rate 33 = .ok (.aload_n 0, 1) := by decide +kernel
theorem dX5_rate_34 : decode cX5_rate 34 = .ok (.getfield 47, 3) := by decide +kernel
theorem dX5_rate_37 : decode cX5_rate 37 = .ok (.if_icmp .ge 21, 3) := by decide +kernel
theorem dX5_rate_40 : decode cX5_rate 40 = .ok (.aload_n 0, 1) := by decide +kernel
theorem dX5_rate_41 : decode cX5_rate 41 = .ok (.getfield 37, 3) := by decide +kernel
theorem dX5_rate_44 : decode cX5_rate 44 = .ok (.iload_n 2, 1) := by decide +kernel
theorem dX5_rate_45 : decode cX5_rate 45 = .ok (.aload_n 0, 1) := by decide +kernel
theorem dX5_rate_46 : decode cX5_rate 46 = .ok (.getfield 13, 3) := by decide +kernel
theorem dX5_rate_49 : decode cX5_rate 49 = .ok (.iload_n 2, 1) := by decide +kernel
theorem dX5_rate_50 : decode cX5_rate 50 = .ok (.iaload, 1) := by decide +kernel
theorem dX5_rate_51 : decode cX5_rate 51 = .ok (.iastore, 1) := by decide +kernel
theorem dX5_rate_52 : decode cX5_rate 52 = .ok (.iinc 2 1, 3) := by decide +kernel
theorem dX5_rate_55 : decode cX5_rate 55 = .ok (.goto (-23), 3) := by decide +kernel
theorem dX5_rate_58 : decode cX5_rate 58 = .ok (.aload_n 0, 1) := by decide +kernel
theorem dX5_rate_59 : decode cX5_rate 59 = .ok (.iconst 0, 1) := by decide +kernel
theorem dX5_rate_60 : decode cX5_rate 60 = .ok (.putfield 101, 3) := by decide +kernel
theorem dX5_rate_63 : decode cX5_rate 63 = .ok (.goto 25, 3) := by decide +kernel
theorem dX5_rate_66 : decode cX5_rate 66 = .ok (.aload_n 0, 1) := by decide +kernel
theorem dX5_rate_67 : decode cX5_rate 67 = .ok (.iload_n 1, 1) := by decide +kernel
theorem dX5_rate_68 : decode cX5_rate 68 = .ok (.aload_n 0, 1) := by decide +kernel
theorem dX5_rate_69 : decode cX5_rate 69 = .ok (.getfield 161, 3) := by decide +kernel
theorem dX5_rate_72 : decode cX5_rate 72 = .ok (.if_icmp .le 12, 3) := by decide +kernel
theorem dX5_rate_75 : decode cX5_rate 75 = .ok (.aload_n 0, 1) := by decide +kernel
theorem dX5_rate_76 : decode cX5_rate 76 = .ok (.getfield 101, 3) := by decide +kernel
theorem dX5_rate_79 : decode cX5_rate 79 = .ok (.iconst 1, 1) := by decide +kernel
theorem dX5_rate_80 : decode cX5_rate 80 = .ok (.iadd, 1) := by decide +kernel
theorem dX5_rate_81 : decode cX5_rate 81 = .ok (.goto 4, 3) := by decide +kernel
theorem dX5_rate_84 : decode cX5_rate 84 = .ok (.iconst 0, 1) := by decide +kernel
theorem dX5_rate_85 : decode cX5_rate 85 = .ok (.putfield 101, 3) := by decide +kernel
theorem dX5_rate_88 : decode cX5_rate 88 = .ok (.return_, 1) := by decide +kernel
theorem dX5_startTrial_0 : decode cX5_startTrial 0 = .ok (.aload_n 0, 1) := by decide +kernel
theorem dX5_startTrial_1 : decode cX5_startTrial 1 = .ok (.getfield 83, 3) := by decide +kernel
theorem dX5_startTrial_4 : decode cX5_startTrial 4 = .ok (.ifCond .eq 6, 3) := by decide +kernel
theorem dX5_startTrial_7 : decode cX5_startTrial 7 = .ok (.ldc 164, 2) := by decide +kernel
theorem dX5_startTrial_9 : decode cX5_startTrial 9 = .ok (.ireturn, 1) := by decide +kernel
theorem dX5_startTrial_10 : decode cX5_startTrial 10 = .ok (.aload_n 0, 1) := by decide +kernel
theorem dX5_startTrial_11 : decode cX5_startTrial 11 = .ok (.iconst 1, 1) := by decide +kernel
theorem dX5_startTrial_12 : decode cX5_startTrial 12 = .ok (.putfield 83, 3) := by decide +kernel
theorem dX5_startTrial_15 : decode cX5_startTrial 15 = .ok (.aload_n 0, 1) := by decide +kernel
theorem dX5_startTrial_16 : decode cX5_startTrial 16 = .ok (.iconst 0, 1) := by decide +kernel
theorem dX5_startTrial_17 : decode cX5_startTrial 17 = .ok (.putfield 86, 3) := by decide +kernel
theorem dX5_startTrial_20 : decode cX5_startTrial 20 = .ok (.aload_n 0, 1) := by decide +kernel
theorem dX5_startTrial_21 : decode cX5_startTrial 21 = .ok (.dup, 1) := by decide +kernel
theorem dX5_startTrial_22 : decode cX5_startTrial 22 = .ok (.getfield 89, 3) := by decide +kernel
theorem dX5_startTrial_25 : decode cX5_startTrial 25 = .ok (.iconst 1, 1) := by decide +kernel
theorem dX5_startTrial_26 : decode cX5_startTrial 26 = .ok (.iadd, 1) := by decide +kernel
theorem dX5_startTrial_27 : decode cX5_startTrial 27 = .ok (.putfield 89, 3) := by decide +kernel
theorem dX5_startTrial_30 : decode cX5_startTrial 30 = .ok (.aload_n 0, 1) := by decide +kernel
theorem dX5_startTrial_31 : decode cX5_startTrial 31 = .ok (.getfield 89, 3) := by decide +kernel
theorem dX5_startTrial_34 : decode cX5_startTrial 34 = .ok (.iconst 1, 1) := by decide +kernel
theorem dX5_startTrial_35 : decode cX5_startTrial 35 = .ok (.isub, 1) := by decide +kernel
theorem dX5_startTrial_36 : decode cX5_startTrial 36 = .ok (.ireturn, 1) := by decide +kernel
theorem dX5_record_0 : decode cX5_record 0 = .ok (.aload_n 0, 1) := by decide +kernel
theorem dX5_record_1 : decode cX5_record 1 = .ok (.getfield 83, 3) := by decide +kernel
theorem dX5_record_4 : decode cX5_record 4 = .ok (.ifCond .ne 6, 3) := by decide +kernel
theorem dX5_record_7 : decode cX5_record 7 = .ok (.ldc 165, 2) := by decide +kernel
theorem dX5_record_9 : decode cX5_record 9 = .ok (.ireturn, 1) := by decide +kernel
theorem dX5_record_10 : decode cX5_record 10 = .ok (.iload_n 1, 1) := by decide +kernel
theorem dX5_record_11 : decode cX5_record 11 = .ok (.ldc 122, 2) := by decide +kernel
theorem dX5_record_13 : decode cX5_record 13 = .ok (.ldc 63, 2) := by decide +kernel
theorem dX5_record_15 : decode cX5_record 15 = .ok (.invokestatic 113, 3) := by decide +kernel
theorem dX5_record_18 : decode cX5_record 18 = .ok (.ifCond .ne 6, 3) := by decide +kernel
theorem dX5_record_21 : decode cX5_record 21 = .ok (.ldc 117, 2) := by decide +kernel
theorem dX5_record_23 : decode cX5_record 23 = .ok (.ireturn, 1) := by decide +kernel
theorem dX5_record_24 : decode cX5_record 24 = .ok (.aload_n 0, 1) := by decide +kernel
theorem dX5_record_25 : decode cX5_record 25 = .ok (.getfield 16, 3) := by decide +kernel
theorem dX5_record_28 : decode cX5_record 28 = .ok (.aload_n 0, 1) := by decide +kernel
theorem dX5_record_29 : decode cX5_record 29 = .ok (.getfield 86, 3) := by decide +kernel
theorem dX5_record_32 : decode cX5_record 32 = .ok (.iload_n 1, 1) := by decide +kernel
theorem dX5_record_33 : decode cX5_record 33 = .ok (.iastore, 1) := by decide +kernel
theorem dX5_record_34 : decode cX5_record 34 = .ok (.aload_n 0, 1) := by decide +kernel
theorem dX5_record_35 : decode cX5_record 35 = .ok (.dup, 1) := by decide +kernel
theorem dX5_record_36 : decode cX5_record 36 = .ok (.getfield 86, 3) := by decide +kernel
theorem dX5_record_39 : decode cX5_record 39 = .ok (.iconst 1, 1) := by decide +kernel
theorem dX5_record_40 : decode cX5_record 40 = .ok (.iadd, 1) := by decide +kernel
theorem dX5_record_41 : decode cX5_record 41 = .ok (.putfield 86, 3) := by decide +kernel
theorem dX5_record_44 : decode cX5_record 44 = .ok (.aload_n 0, 1) := by decide +kernel
theorem dX5_record_45 : decode cX5_record 45 = .ok (.getfield 86, 3) := by decide +kernel
theorem dX5_record_48 : decode cX5_record 48 = .ok (.aload_n 0, 1) := by decide +kernel
theorem dX5_record_49 : decode cX5_record 49 = .ok (.getfield 47, 3) := by decide +kernel
theorem dX5_record_52 : decode cX5_record 52 = .ok (.if_icmp .ge 13, 3) := by decide +kernel
theorem dX5_record_55 : decode cX5_record 55 = .ok (.aload_n 0, 1) := by decide +kernel
theorem dX5_record_56 : decode cX5_record 56 = .ok (.getfield 13, 3) := by decide +kernel
theorem dX5_record_59 : decode cX5_record 59 = .ok (.aload_n 0, 1) := by decide +kernel
theorem dX5_record_60 : decode cX5_record 60 = .ok (.getfield 86, 3) := by decide +kernel
theorem dX5_record_63 : decode cX5_record 63 = .ok (.iaload, 1) := by decide +kernel
theorem dX5_record_64 : decode cX5_record 64 = .ok (.ireturn, 1) := by decide +kernel
theorem dX5_record_65 : decode cX5_record 65 = .ok (.aload_n 0, 1) := by decide +kernel
theorem dX5_record_66 : decode cX5_record 66 = .ok (.iconst 0, 1) := by decide +kernel
theorem dX5_record_67 : decode cX5_record 67 = .ok (.putfield 83, 3) := by decide +kernel
theorem dX5_record_70 : decode cX5_record 70 = .ok (.aload_n 0, 1) := by decide +kernel
theorem dX5_record_71 : decode cX5_record 71 = .ok (.invokevirtual 166, 3) := by decide +kernel
theorem dX5_record_74 : decode cX5_record 74 = .ok (.ldc 169, 2) := by decide +kernel
theorem dX5_record_76 : decode cX5_record 76 = .ok (.ireturn, 1) := by decide +kernel
theorem dX5_abort_0 : decode cX5_abort 0 = .ok (.aload_n 0, 1) := by decide +kernel
theorem dX5_abort_1 : decode cX5_abort 1 = .ok (.getfield 83, 3) := by decide +kernel
theorem dX5_abort_4 : decode cX5_abort 4 = .ok (.ifCond .ne 6, 3) := by decide +kernel
theorem dX5_abort_7 : decode cX5_abort 7 = .ok (.ldc 165, 2) := by decide +kernel
theorem dX5_abort_9 : decode cX5_abort 9 = .ok (.ireturn, 1) := by decide +kernel
theorem dX5_abort_10 : decode cX5_abort 10 = .ok (.aload_n 0, 1) := by decide +kernel
theorem dX5_abort_11 : decode cX5_abort 11 = .ok (.iconst 0, 1) := by decide +kernel
theorem dX5_abort_12 : decode cX5_abort 12 = .ok (.putfield 83, 3) := by decide +kernel
theorem dX5_abort_15 : decode cX5_abort 15 = .ok (.aload_n 0, 1) := by decide +kernel
theorem dX5_abort_16 : decode cX5_abort 16 = .ok (.dup, 1) := by decide +kernel
theorem dX5_abort_17 : decode cX5_abort 17 = .ok (.getfield 95, 3) := by decide +kernel
theorem dX5_abort_20 : decode cX5_abort 20 = .ok (.iconst 1, 1) := by decide +kernel
theorem dX5_abort_21 : decode cX5_abort 21 = .ok (.iadd, 1) := by decide +kernel
theorem dX5_abort_22 : decode cX5_abort 22 = .ok (.putfield 95, 3) := by decide +kernel
theorem dX5_abort_25 : decode cX5_abort 25 = .ok (.iconst 0, 1) := by decide +kernel
theorem dX5_abort_26 : decode cX5_abort 26 = .ok (.istore_n 1, 1) := by decide +kernel
theorem dX5_abort_27 : decode cX5_abort 27 = .ok (.iload_n 1, 1) := by decide +kernel
theorem dX5_abort_28 : decode cX5_abort 28 = .ok (.aload_n 0, 1) := by decide +kernel
theorem dX5_abort_29 : decode cX5_abort 29 = .ok (.getfield 86, 3) := by decide +kernel
theorem dX5_abort_32 : decode cX5_abort 32 = .ok (.if_icmp .ge 28, 3) := by decide +kernel
theorem dX5_abort_35 : decode cX5_abort 35 = .ok (.aload_n 0, 1) := by decide +kernel
theorem dX5_abort_36 : decode cX5_abort 36 = .ok (.getfield 19, 3) := by decide +kernel
theorem dX5_abort_39 : decode cX5_abort 39 = .ok (.iload_n 1, 1) := by decide +kernel
theorem dX5_abort_40 : decode cX5_abort 40 = .ok (.aload_n 0, 1) := by decide +kernel
theorem dX5_abort_41 : decode cX5_abort 41 = .ok (.getfield 7, 3) := by decide +kernel
theorem dX5_abort_44 : decode cX5_abort 44 = .ok (.iload_n 1, 1) := by decide +kernel
theorem dX5_abort_45 : decode cX5_abort 45 = .ok (.iaload, 1) := by decide +kernel
theorem dX5_abort_46 : decode cX5_abort 46 = .ok (.aload_n 0, 1) := by decide +kernel
theorem dX5_abort_47 : decode cX5_abort 47 = .ok (.getfield 16, 3) := by decide +kernel
theorem dX5_abort_50 : decode cX5_abort 50 = .ok (.iload_n 1, 1) := by decide +kernel
theorem dX5_abort_51 : decode cX5_abort 51 = .ok (.iaload, 1) := by decide +kernel
theorem dX5_abort_52 : decode cX5_abort 52 = .ok (.isub, 1) := by decide +kernel
theorem dX5_abort_53 : decode cX5_abort 53 = .ok (.iastore, 1) := by decide +kernel
theorem dX5_abort_54 : decode cX5_abort 54 = .ok (.iinc 1 1, 3) := by decide +kernel
theorem dX5_abort_57 : decode cX5_abort 57 = .ok (.goto (-30), 3) := by decide +kernel
theorem dX5_abort_60 : decode cX5_abort 60 = .ok (.aload_n 0, 1) := by decide +kernel
theorem dX5_abort_61 : decode cX5_abort 61 = .ok (.getfield 86, 3) := by decide +kernel
theorem dX5_abort_64 : decode cX5_abort 64 = .ok (.ifCond .le 12, 3) := by decide +kernel
theorem dX5_abort_67 : decode cX5_abort 67 = .ok (.aload_n 0, 1) := by decide +kernel
theorem dX5_abort_68 : decode cX5_abort 68 = .ok (.aload_n 0, 1) := by decide +kernel
theorem dX5_abort_69 : decode cX5_abort 69 = .ok (.getfield 86, 3) := by decide +kernel
theorem dX5_abort_72 : decode cX5_abort 72 = .ok (.iconst 1, 1) := by decide +kernel
theorem dX5_abort_73 : decode cX5_abort 73 = .ok (.invokevirtual 157, 3) := by decide +kernel
theorem dX5_abort_76 : decode cX5_abort 76 = .ok (.aload_n 0, 1) := by decide +kernel
theorem dX5_abort_77 : decode cX5_abort 77 = .ok (.getfield 86, 3) := by decide +kernel
theorem dX5_abort_80 : decode cX5_abort 80 = .ok (.ireturn, 1) := by decide +kernel
theorem dX5_position_0 : decode cX5_position 0 = .ok (.aload_n 0, 1) := by decide +kernel
theorem dX5_position_1 : decode cX5_position 1 = .ok (.getfield 83, 3) := by decide +kernel
theorem dX5_position_4 : decode cX5_position 4 = .ok (.ifCond .eq 10, 3) := by decide +kernel
theorem dX5_position_7 : decode cX5_position 7 = .ok (.aload_n 0, 1) := by decide +kernel
theorem dX5_position_8 : decode cX5_position 8 = .ok (.getfield 86, 3) := by decide +kernel
theorem dX5_position_11 : decode cX5_position 11 = .ok (.goto 5, 3) := by decide +kernel
theorem dX5_position_14 : decode cX5_position 14 = .ok (.ldc 165, 2) := by decide +kernel
theorem dX5_position_16 : decode cX5_position 16 = .ok (.ireturn, 1) := by decide +kernel
theorem dX5_input_0 : decode cX5_input 0 = .ok (.aload_n 0, 1) := by decide +kernel
theorem dX5_input_1 : decode cX5_input 1 = .ok (.iload_n 1, 1) := by decide +kernel
theorem dX5_input_2 : decode cX5_input 2 = .ok (.invokevirtual 118, 3) := by decide +kernel
theorem dX5_input_5 : decode cX5_input 5 = .ok (.ifCond .eq 8, 3) := by decide +kernel
theorem dX5_input_8 : decode cX5_input 8 = .ok (.ldc 117, 2) := by decide +kernel
theorem dX5_input_10 : decode cX5_input 10 = .ok (.goto 9, 3) := by decide +kernel
theorem dX5_input_13 : decode cX5_input 13 = .ok (.aload_n 0, 1) := by decide +kernel
theorem dX5_input_14 : decode cX5_input 14 = .ok (.getfield 13, 3) := by decide +kernel
theorem dX5_input_17 : decode cX5_input 17 = .ok (.iload_n 1, 1) := by decide +kernel
theorem dX5_input_18 : decode cX5_input 18 = .ok (.iaload, 1) := by decide +kernel
theorem dX5_input_19 : decode cX5_input 19 = .ok (.ireturn, 1) := by decide +kernel
theorem dX5_setInput_0 : decode cX5_setInput 0 = .ok (.aload_n 0, 1) := by decide +kernel
theorem dX5_setInput_1 : decode cX5_setInput 1 = .ok (.getfield 83, 3) := by decide +kernel
theorem dX5_setInput_4 : decode cX5_setInput 4 = .ok (.ifCond .eq 6, 3) := by decide +kernel
theorem dX5_setInput_7 : decode cX5_setInput 7 = .ok (.ldc 164, 2) := by decide +kernel
theorem dX5_setInput_9 : decode cX5_setInput 9 = .ok (.ireturn, 1) := by decide +kernel
theorem dX5_setInput_10 : decode cX5_setInput 10 = .ok (.aload_n 0, 1) := by decide +kernel
theorem dX5_setInput_11 : decode cX5_setInput 11 = .ok (.iload_n 1, 1) := by decide +kernel
theorem dX5_setInput_12 : decode cX5_setInput 12 = .ok (.invokevirtual 118, 3) := by decide +kernel
theorem dX5_setInput_15 : decode cX5_setInput 15 = .ok (.ifCond .ne 14, 3) := by decide +kernel
theorem dX5_setInput_18 : decode cX5_setInput 18 = .ok (.iload_n 2, 1) := by decide +kernel
theorem dX5_setInput_19 : decode cX5_setInput 19 = .ok (.ldc 122, 2) := by decide +kernel
theorem dX5_setInput_21 : decode cX5_setInput 21 = .ok (.ldc 63, 2) := by decide +kernel
theorem dX5_setInput_23 : decode cX5_setInput 23 = .ok (.invokestatic 113, 3) := by decide +kernel
theorem dX5_setInput_26 : decode cX5_setInput 26 = .ok (.ifCond .ne 6, 3) := by decide +kernel
theorem dX5_setInput_29 : decode cX5_setInput 29 = .ok (.ldc 117, 2) := by decide +kernel
theorem dX5_setInput_31 : decode cX5_setInput 31 = .ok (.ireturn, 1) := by decide +kernel
theorem dX5_setInput_32 : decode cX5_setInput 32 = .ok (.aload_n 0, 1) := by decide +kernel
theorem dX5_setInput_33 : decode cX5_setInput 33 = .ok (.getfield 13, 3) := by decide +kernel
theorem dX5_setInput_36 : decode cX5_setInput 36 = .ok (.iload_n 1, 1) := by decide +kernel
theorem dX5_setInput_37 : decode cX5_setInput 37 = .ok (.iaload, 1) := by decide +kernel
theorem dX5_setInput_38 : decode cX5_setInput 38 = .ok (.istore_n 3, 1) := by decide +kernel
theorem dX5_setInput_39 : decode cX5_setInput 39 = .ok (.aload_n 0, 1) := by decide +kernel
theorem dX5_setInput_40 : decode cX5_setInput 40 = .ok (.getfield 13, 3) := by decide +kernel
theorem dX5_setInput_43 : decode cX5_setInput 43 = .ok (.iload_n 1, 1) := by decide +kernel
theorem dX5_setInput_44 : decode cX5_setInput 44 = .ok (.iload_n 2, 1) := by decide +kernel
theorem dX5_setInput_45 : decode cX5_setInput 45 = .ok (.iastore, 1) := by decide +kernel
theorem dX5_setInput_46 : decode cX5_setInput 46 = .ok (.iload_n 3, 1) := by decide +kernel
theorem dX5_setInput_47 : decode cX5_setInput 47 = .ok (.ireturn, 1) := by decide +kernel
theorem dX5_reference_0 : decode cX5_reference 0 = .ok (.aload_n 0, 1) := by decide +kernel
theorem dX5_reference_1 : decode cX5_reference 1 = .ok (.iload_n 1, 1) := by decide +kernel
theorem dX5_reference_2 : decode cX5_reference 2 = .ok (.invokevirtual 118, 3) := by decide +kernel
theorem dX5_reference_5 : decode cX5_reference 5 = .ok (.ifCond .eq 8, 3) := by decide +kernel
theorem dX5_reference_8 : decode cX5_reference 8 = .ok (.ldc 117, 2) := by decide +kernel
theorem dX5_reference_10 : decode cX5_reference 10 = .ok (.goto 9, 3) := by decide +kernel
theorem dX5_reference_13 : decode cX5_reference 13 = .ok (.aload_n 0, 1) := by decide +kernel
theorem dX5_reference_14 : decode cX5_reference 14 = .ok (.getfield 7, 3) := by decide +kernel
theorem dX5_reference_17 : decode cX5_reference 17 = .ok (.iload_n 1, 1) := by decide +kernel
theorem dX5_reference_18 : decode cX5_reference 18 = .ok (.iaload, 1) := by decide +kernel
theorem dX5_reference_19 : decode cX5_reference 19 = .ok (.ireturn, 1) := by decide +kernel
theorem dX5_count_0 : decode cX5_count 0 = .ok (.iload_n 1, 1) := by decide +kernel
theorem dX5_count_1 : decode cX5_count 1 = .ok (.tableswitch 60 0 4 #[35, 40, 45, 50, 55], 35) := by decide +kernel
theorem dX5_count_36 : decode cX5_count 36 = .ok (.aload_n 0, 1) := by decide +kernel
theorem dX5_count_37 : decode cX5_count 37 = .ok (.getfield 89, 3) := by decide +kernel
theorem dX5_count_40 : decode cX5_count 40 = .ok (.ireturn, 1) := by decide +kernel
theorem dX5_count_41 : decode cX5_count 41 = .ok (.aload_n 0, 1) := by decide +kernel
theorem dX5_count_42 : decode cX5_count 42 = .ok (.getfield 92, 3) := by decide +kernel
theorem dX5_count_45 : decode cX5_count 45 = .ok (.ireturn, 1) := by decide +kernel
theorem dX5_count_46 : decode cX5_count 46 = .ok (.aload_n 0, 1) := by decide +kernel
theorem dX5_count_47 : decode cX5_count 47 = .ok (.getfield 95, 3) := by decide +kernel
theorem dX5_count_50 : decode cX5_count 50 = .ok (.ireturn, 1) := by decide +kernel
theorem dX5_count_51 : decode cX5_count 51 = .ok (.aload_n 0, 1) := by decide +kernel
theorem dX5_count_52 : decode cX5_count 52 = .ok (.getfield 98, 3) := by decide +kernel
theorem dX5_count_55 : decode cX5_count 55 = .ok (.ireturn, 1) := by decide +kernel
theorem dX5_count_56 : decode cX5_count 56 = .ok (.aload_n 0, 1) := by decide +kernel
theorem dX5_count_57 : decode cX5_count 57 = .ok (.getfield 101, 3) := by decide +kernel
theorem dX5_count_60 : decode cX5_count 60 = .ok (.ireturn, 1) := by decide +kernel
theorem dX5_count_61 : decode cX5_count 61 = .ok (.ldc 117, 2) := by decide +kernel
theorem dX5_count_63 : decode cX5_count 63 = .ok (.ireturn, 1) := by decide +kernel
theorem dX5_isAge_0 : decode cX5_isAge 0 = .ok (.iload_n 0, 1) := by decide +kernel
theorem dX5_isAge_1 : decode cX5_isAge 1 = .ok (.iconst 0, 1) := by decide +kernel
theorem dX5_isAge_2 : decode cX5_isAge 2 = .ok (.iconst 4, 1) := by decide +kernel
theorem dX5_isAge_3 : decode cX5_isAge 3 = .ok (.invokestatic 113, 3) := by decide +kernel
theorem dX5_isAge_6 : decode cX5_isAge 6 = .ok (.ireturn, 1) := by decide +kernel
theorem dX5_error_0 : decode cX5_error 0 = .ok (.aload_n 0, 1) := by decide +kernel
theorem dX5_error_1 : decode cX5_error 1 = .ok (.iload_n 1, 1) := by decide +kernel
theorem dX5_error_2 : decode cX5_error 2 = .ok (.invokevirtual 118, 3) := by decide +kernel
theorem dX5_error_5 : decode cX5_error 5 = .ok (.ifCond .ne 10, 3) := by decide +kernel
theorem dX5_error_8 : decode cX5_error 8 = .ok (.iload_n 2, 1) := by decide +kernel
theorem dX5_error_9 : decode cX5_error 9 = .ok (.invokestatic 170, 3) := by decide +kernel
theorem dX5_error_12 : decode cX5_error 12 = .ok (.ifCond .ne 6, 3) := by decide +kernel
theorem dX5_error_15 : decode cX5_error 15 = .ok (.ldc 117, 2) := by decide +kernel
theorem dX5_error_17 : decode cX5_error 17 = .ok (.ireturn, 1) := by decide +kernel
theorem dX5_error_18 : decode cX5_error 18 = .ok (.iload_n 2, 1) := by decide +kernel
theorem dX5_error_19 : decode cX5_error 19 = .ok (.aload_n 0, 1) := by decide +kernel
theorem dX5_error_20 : decode cX5_error 20 = .ok (.getfield 92, 3) := by decide +kernel
theorem dX5_error_23 : decode cX5_error 23 = .ok (.if_icmp .ge 17, 3) := by decide +kernel
theorem dX5_error_26 : decode cX5_error 26 = .ok (.aload_n 0, 1) := by decide +kernel
theorem dX5_error_27 : decode cX5_error 27 = .ok (.getfield 25, 3) := by decide +kernel
theorem dX5_error_30 : decode cX5_error 30 = .ok (.bipush 48, 2) := by decide +kernel
theorem dX5_error_32 : decode cX5_error 32 = .ok (.iload_n 2, 1) := by decide +kernel
theorem dX5_error_33 : decode cX5_error 33 = .ok (.imul, 1) := by decide +kernel
theorem dX5_error_34 : decode cX5_error 34 = .ok (.iload_n 1, 1) := by decide +kernel
theorem dX5_error_35 : decode cX5_error 35 = .ok (.iadd, 1) := by decide +kernel
theorem dX5_error_36 : decode cX5_error 36 = .ok (.iaload, 1) := by decide +kernel
theorem dX5_error_37 : decode cX5_error 37 = .ok (.goto 5, 3) := by decide +kernel
theorem dX5_error_40 : decode cX5_error 40 = .ok (.ldc 169, 2) := by decide +kernel
theorem dX5_error_42 : decode cX5_error 42 = .ok (.ireturn, 1) := by decide +kernel
theorem dX5_norm_0 : decode cX5_norm 0 = .ok (.iload_n 1, 1) := by decide +kernel
theorem dX5_norm_1 : decode cX5_norm 1 = .ok (.invokestatic 170, 3) := by decide +kernel
theorem dX5_norm_4 : decode cX5_norm 4 = .ok (.ifCond .ne 8, 3) := by decide +kernel
theorem dX5_norm_7 : decode cX5_norm 7 = .ok (.ldc 117, 2) := by decide +kernel
theorem dX5_norm_9 : decode cX5_norm 9 = .ok (.goto 22, 3) := by decide +kernel
theorem dX5_norm_12 : decode cX5_norm 12 = .ok (.iload_n 1, 1) := by decide +kernel
theorem dX5_norm_13 : decode cX5_norm 13 = .ok (.aload_n 0, 1) := by decide +kernel
theorem dX5_norm_14 : decode cX5_norm 14 = .ok (.getfield 92, 3) := by decide +kernel
theorem dX5_norm_17 : decode cX5_norm 17 = .ok (.if_icmp .ge 12, 3) := by decide +kernel
theorem dX5_norm_20 : decode cX5_norm 20 = .ok (.aload_n 0, 1) := by decide +kernel
theorem dX5_norm_21 : decode cX5_norm 21 = .ok (.getfield 28, 3) := by decide +kernel
theorem dX5_norm_24 : decode cX5_norm 24 = .ok (.iload_n 1, 1) := by decide +kernel
theorem dX5_norm_25 : decode cX5_norm 25 = .ok (.iaload, 1) := by decide +kernel
theorem dX5_norm_26 : decode cX5_norm 26 = .ok (.goto 5, 3) := by decide +kernel
theorem dX5_norm_29 : decode cX5_norm 29 = .ok (.ldc 169, 2) := by decide +kernel
theorem dX5_norm_31 : decode cX5_norm 31 = .ok (.ireturn, 1) := by decide +kernel
theorem dX5_shift_0 : decode cX5_shift 0 = .ok (.iload_n 1, 1) := by decide +kernel
theorem dX5_shift_1 : decode cX5_shift 1 = .ok (.invokestatic 170, 3) := by decide +kernel
theorem dX5_shift_4 : decode cX5_shift 4 = .ok (.ifCond .ne 8, 3) := by decide +kernel
theorem dX5_shift_7 : decode cX5_shift 7 = .ok (.ldc 117, 2) := by decide +kernel
theorem dX5_shift_9 : decode cX5_shift 9 = .ok (.goto 22, 3) := by decide +kernel
theorem dX5_shift_12 : decode cX5_shift 12 = .ok (.iload_n 1, 1) := by decide +kernel
theorem dX5_shift_13 : decode cX5_shift 13 = .ok (.aload_n 0, 1) := by decide +kernel
theorem dX5_shift_14 : decode cX5_shift 14 = .ok (.getfield 92, 3) := by decide +kernel
theorem dX5_shift_17 : decode cX5_shift 17 = .ok (.if_icmp .ge 12, 3) := by decide +kernel
theorem dX5_shift_20 : decode cX5_shift 20 = .ok (.aload_n 0, 1) := by decide +kernel
theorem dX5_shift_21 : decode cX5_shift 21 = .ok (.getfield 31, 3) := by decide +kernel
theorem dX5_shift_24 : decode cX5_shift 24 = .ok (.iload_n 1, 1) := by decide +kernel
theorem dX5_shift_25 : decode cX5_shift 25 = .ok (.iaload, 1) := by decide +kernel
theorem dX5_shift_26 : decode cX5_shift 26 = .ok (.goto 5, 3) := by decide +kernel
theorem dX5_shift_29 : decode cX5_shift 29 = .ok (.ldc 169, 2) := by decide +kernel
theorem dX5_shift_31 : decode cX5_shift 31 = .ok (.ireturn, 1) := by decide +kernel
theorem dX5_worstSample_0 : decode cX5_worstSample 0 = .ok (.iload_n 1, 1) := by decide +kernel
theorem dX5_worstSample_1 : decode cX5_worstSample 1 = .ok (.invokestatic 170, 3) := by decide +kernel
theorem dX5_worstSample_4 : decode cX5_worstSample 4 = .ok (.ifCond .ne 6, 3) := by decide +kernel
theorem dX5_worstSample_7 : decode cX5_worstSample 7 = .ok (.ldc 117, 2) := by decide +kernel
theorem dX5_worstSample_9 : decode cX5_worstSample 9 = .ok (.ireturn, 1) := by decide +kernel
theorem dX5_worstSample_10 : decode cX5_worstSample 10 = .ok (.iload_n 1, 1) := by decide +kernel
theorem dX5_worstSample_11 : decode cX5_worstSample 11 = .ok (.aload_n 0, 1) := by decide +kernel
theorem dX5_worstSample_12 : decode cX5_worstSample 12 = .ok (.getfield 92, 3) := by decide +kernel
theorem dX5_worstSample_15 : decode cX5_worstSample 15 = .ok (.if_icmp .lt 6, 3) := by decide +kernel
theorem dX5_worstSample_18 : decode cX5_worstSample 18 = .ok (.ldc 169, 2) := by decide +kernel
theorem dX5_worstSample_20 : decode cX5_worstSample 20 = .ok (.ireturn, 1) := by decide +kernel
theorem dX5_worstSample_21 : decode cX5_worstSample 21 = .ok (.iconst 0, 1) := by decide +kernel
theorem dX5_worstSample_22 : decode cX5_worstSample 22 = .ok (.istore_n 2, 1) := by decide +kernel
theorem dX5_worstSample_23 : decode cX5_worstSample 23 = .ok (.iconst 1, 1) := by decide +kernel
theorem dX5_worstSample_24 : decode cX5_worstSample 24 = .ok (.istore_n 3, 1) := by decide +kernel
theorem dX5_worstSample_25 : decode cX5_worstSample 25 = .ok (.iload_n 3, 1) := by decide +kernel
theorem dX5_worstSample_26 : decode cX5_worstSample 26 = .ok (.aload_n 0, 1) := by decide +kernel
theorem dX5_worstSample_27 : decode cX5_worstSample 27 = .ok (.getfield 47, 3) := by decide +kernel
theorem dX5_worstSample_30 : decode cX5_worstSample 30 = .ok (.if_icmp .ge 46, 3) := by decide +kernel
theorem dX5_worstSample_33 : decode cX5_worstSample 33 = .ok (.aload_n 0, 1) := by decide +kernel
theorem dX5_worstSample_34 : decode cX5_worstSample 34 = .ok (.getfield 25, 3) := by decide +kernel
theorem dX5_worstSample_37 : decode cX5_worstSample 37 = .ok (.bipush 48, 2) := by decide +kernel
theorem dX5_worstSample_39 : decode cX5_worstSample 39 = .ok (.iload_n 1, 1) := by decide +kernel
theorem dX5_worstSample_40 : decode cX5_worstSample 40 = .ok (.imul, 1) := by decide +kernel
theorem dX5_worstSample_41 : decode cX5_worstSample 41 = .ok (.iload_n 3, 1) := by decide +kernel
theorem dX5_worstSample_42 : decode cX5_worstSample 42 = .ok (.iadd, 1) := by decide +kernel
theorem dX5_worstSample_43 : decode cX5_worstSample 43 = .ok (.iaload, 1) := by decide +kernel
theorem dX5_worstSample_44 : decode cX5_worstSample 44 = .ok (.invokestatic 140, 3) := by decide +kernel
theorem dX5_worstSample_47 : decode cX5_worstSample 47 = .ok (.aload_n 0, 1) := by decide +kernel
theorem dX5_worstSample_48 : decode cX5_worstSample 48 = .ok (.getfield 25, 3) := by decide +kernel
theorem dX5_worstSample_51 : decode cX5_worstSample 51 = .ok (.bipush 48, 2) := by decide +kernel
theorem dX5_worstSample_53 : decode cX5_worstSample 53 = .ok (.iload_n 1, 1) := by decide +kernel
theorem dX5_worstSample_54 : decode cX5_worstSample 54 = .ok (.imul, 1) := by decide +kernel
theorem dX5_worstSample_55 : decode cX5_worstSample 55 = .ok (.iload_n 2, 1) := by decide +kernel
theorem dX5_worstSample_56 : decode cX5_worstSample 56 = .ok (.iadd, 1) := by decide +kernel
theorem dX5_worstSample_57 : decode cX5_worstSample 57 = .ok (.iaload, 1) := by decide +kernel
theorem dX5_worstSample_58 : decode cX5_worstSample 58 = .ok (.invokestatic 140, 3) := by decide +kernel
theorem dX5_worstSample_61 : decode cX5_worstSample 61 = .ok (.if_icmp .le 7, 3) := by decide +kernel
theorem dX5_worstSample_64 : decode cX5_worstSample 64 = .ok (.iload_n 3, 1) := by decide +kernel
theorem dX5_worstSample_65 : decode cX5_worstSample 65 = .ok (.goto 4, 3) := by decide +kernel
theorem dX5_worstSample_68 : decode cX5_worstSample 68 = .ok (.iload_n 2, 1) := by decide +kernel
theorem dX5_worstSample_69 : decode cX5_worstSample 69 = .ok (.istore_n 2, 1) := by decide +kernel
theorem dX5_worstSample_70 : decode cX5_worstSample 70 = .ok (.iinc 3 1, 3) := by decide +kernel
theorem dX5_worstSample_73 : decode cX5_worstSample 73 = .ok (.goto (-48), 3) := by decide +kernel
theorem dX5_worstSample_76 : decode cX5_worstSample 76 = .ok (.iload_n 2, 1) := by decide +kernel
theorem dX5_worstSample_77 : decode cX5_worstSample 77 = .ok (.ireturn, 1) := by decide +kernel
theorem dX5_energy_0 : decode cX5_energy 0 = .ok (.iload_n 1, 1) := by decide +kernel
theorem dX5_energy_1 : decode cX5_energy 1 = .ok (.invokestatic 170, 3) := by decide +kernel
theorem dX5_energy_4 : decode cX5_energy 4 = .ok (.ifCond .eq 11, 3) := by decide +kernel
theorem dX5_energy_7 : decode cX5_energy 7 = .ok (.iload_n 1, 1) := by decide +kernel
theorem dX5_energy_8 : decode cX5_energy 8 = .ok (.aload_n 0, 1) := by decide +kernel
theorem dX5_energy_9 : decode cX5_energy 9 = .ok (.getfield 92, 3) := by decide +kernel
theorem dX5_energy_12 : decode cX5_energy 12 = .ok (.if_icmp .lt 20, 3) := by decide +kernel
theorem dX5_energy_15 : decode cX5_energy 15 = .ok (.iload_n 1, 1) := by decide +kernel
theorem dX5_energy_16 : decode cX5_energy 16 = .ok (.invokestatic 170, 3) := by decide +kernel
theorem dX5_energy_19 : decode cX5_energy 19 = .ok (.ifCond .eq 9, 3) := by decide +kernel
theorem dX5_energy_22 : decode cX5_energy 22 = .ok (.ldc2_w 173, 3) := by decide +kernel
theorem dX5_energy_25 : decode cX5_energy 25 = .ok (.goto 6, 3) := by decide +kernel
theorem dX5_energy_28 : decode cX5_energy 28 = .ok (.ldc2_w 175, 3) := by decide +kernel
theorem dX5_energy_31 : decode cX5_energy 31 = .ok (.lreturn, 1) := by decide +kernel
theorem dX5_energy_32 : decode cX5_energy 32 = .ok (.lconst 0, 1) := by decide +kernel
theorem dX5_energy_33 : decode cX5_energy 33 = .ok (.lstore_n 2, 1) := by decide +kernel
theorem dX5_energy_34 : decode cX5_energy 34 = .ok (.iconst 0, 1) := by decide +kernel
theorem dX5_energy_35 : decode cX5_energy 35 = .ok (.istore 4, 2) := by decide +kernel
theorem dX5_energy_37 : decode cX5_energy 37 = .ok (.iload 4, 2) := by decide +kernel
theorem dX5_energy_39 : decode cX5_energy 39 = .ok (.aload_n 0, 1) := by decide +kernel
theorem dX5_energy_40 : decode cX5_energy 40 = .ok (.getfield 47, 3) := by decide +kernel
theorem dX5_energy_43 : decode cX5_energy 43 = .ok (.if_icmp .ge 32, 3) := by decide +kernel
theorem dX5_energy_46 : decode cX5_energy 46 = .ok (.aload_n 0, 1) := by decide +kernel
theorem dX5_energy_47 : decode cX5_energy 47 = .ok (.getfield 25, 3) := by decide +kernel
theorem dX5_energy_50 : decode cX5_energy 50 = .ok (.bipush 48, 2) := by decide +kernel
theorem dX5_energy_52 : decode cX5_energy 52 = .ok (.iload_n 1, 1) := by decide +kernel
theorem dX5_energy_53 : decode cX5_energy 53 = .ok (.imul, 1) := by decide +kernel
theorem dX5_energy_54 : decode cX5_energy 54 = .ok (.iload 4, 2) := by decide +kernel
theorem dX5_energy_56 : decode cX5_energy 56 = .ok (.iadd, 1) := by decide +kernel
theorem dX5_energy_57 : decode cX5_energy 57 = .ok (.iaload, 1) := by decide +kernel
theorem dX5_energy_58 : decode cX5_energy 58 = .ok (.i2l, 1) := by decide +kernel
theorem dX5_energy_59 : decode cX5_energy 59 = .ok (.lstore 5, 2) := by decide +kernel
theorem dX5_energy_61 : decode cX5_energy 61 = .ok (.lload_n 2, 1) := by decide +kernel
theorem dX5_energy_62 : decode cX5_energy 62 = .ok (.lload 5, 2) := by decide +kernel
theorem dX5_energy_64 : decode cX5_energy 64 = .ok (.lload 5, 2) := by decide +kernel
theorem dX5_energy_66 : decode cX5_energy 66 = .ok (.lmul, 1) := by decide +kernel
theorem dX5_energy_67 : decode cX5_energy 67 = .ok (.ladd, 1) := by decide +kernel
theorem dX5_energy_68 : decode cX5_energy 68 = .ok (.lstore_n 2, 1) := by decide +kernel
theorem dX5_energy_69 : decode cX5_energy 69 = .ok (.iinc 4 1, 3) := by decide +kernel
theorem dX5_energy_72 : decode cX5_energy 72 = .ok (.goto (-35), 3) := by decide +kernel
theorem dX5_energy_75 : decode cX5_energy 75 = .ok (.lload_n 2, 1) := by decide +kernel
theorem dX5_energy_76 : decode cX5_energy 76 = .ok (.lreturn, 1) := by decide +kernel
theorem dX5_best_0 : decode cX5_best 0 = .ok (.iload_n 1, 1) := by decide +kernel
theorem dX5_best_1 : decode cX5_best 1 = .ok (.iconst 0, 1) := by decide +kernel
theorem dX5_best_2 : decode cX5_best 2 = .ok (.iconst 1, 1) := by decide +kernel
theorem dX5_best_3 : decode cX5_best 3 = .ok (.invokestatic 113, 3) := by decide +kernel
theorem dX5_best_6 : decode cX5_best 6 = .ok (.ifCond .ne 6, 3) := by decide +kernel
theorem dX5_best_9 : decode cX5_best 9 = .ok (.ldc 117, 2) := by decide +kernel
theorem dX5_best_11 : decode cX5_best 11 = .ok (.ireturn, 1) := by decide +kernel
theorem dX5_best_12 : decode cX5_best 12 = .ok (.aload_n 0, 1) := by decide +kernel
theorem dX5_best_13 : decode cX5_best 13 = .ok (.getfield 104, 3) := by decide +kernel
theorem dX5_best_16 : decode cX5_best 16 = .ok (.ifCond .ge 8, 3) := by decide +kernel
theorem dX5_best_19 : decode cX5_best 19 = .ok (.ldc 169, 2) := by decide +kernel
theorem dX5_best_21 : decode cX5_best 21 = .ok (.goto 18, 3) := by decide +kernel
theorem dX5_best_24 : decode cX5_best 24 = .ok (.iload_n 1, 1) := by decide +kernel
theorem dX5_best_25 : decode cX5_best 25 = .ok (.ifCond .ne 10, 3) := by decide +kernel
theorem dX5_best_28 : decode cX5_best 28 = .ok (.aload_n 0, 1) := by decide +kernel
theorem dX5_best_29 : decode cX5_best 29 = .ok (.getfield 161, 3) := by decide +kernel
theorem dX5_best_32 : decode cX5_best 32 = .ok (.goto 7, 3) := by decide +kernel
theorem dX5_best_35 : decode cX5_best 35 = .ok (.aload_n 0, 1) := by decide +kernel
theorem dX5_best_36 : decode cX5_best 36 = .ok (.getfield 104, 3) := by decide +kernel
theorem dX5_best_39 : decode cX5_best 39 = .ok (.ireturn, 1) := by decide +kernel
theorem dX5_bestInput_0 : decode cX5_bestInput 0 = .ok (.aload_n 0, 1) := by decide +kernel
theorem dX5_bestInput_1 : decode cX5_bestInput 1 = .ok (.iload_n 1, 1) := by decide +kernel
theorem dX5_bestInput_2 : decode cX5_bestInput 2 = .ok (.invokevirtual 118, 3) := by decide +kernel
theorem dX5_bestInput_5 : decode cX5_bestInput 5 = .ok (.ifCond .eq 8, 3) := by decide +kernel
theorem dX5_bestInput_8 : decode cX5_bestInput 8 = .ok (.ldc 117, 2) := by decide +kernel
theorem dX5_bestInput_10 : decode cX5_bestInput 10 = .ok (.goto 21, 3) := by decide +kernel
theorem dX5_bestInput_13 : decode cX5_bestInput 13 = .ok (.aload_n 0, 1) := by decide +kernel
theorem dX5_bestInput_14 : decode cX5_bestInput 14 = .ok (.getfield 104, 3) := by decide +kernel
theorem dX5_bestInput_17 : decode cX5_bestInput 17 = .ok (.ifCond .ge 8, 3) := by decide +kernel
theorem dX5_bestInput_20 : decode cX5_bestInput 20 = .ok (.ldc 169, 2) := by decide +kernel
theorem dX5_bestInput_22 : decode cX5_bestInput 22 = .ok (.goto 9, 3) := by decide +kernel
theorem dX5_bestInput_25 : decode cX5_bestInput 25 = .ok (.aload_n 0, 1) := by decide +kernel
theorem dX5_bestInput_26 : decode cX5_bestInput 26 = .ok (.getfield 37, 3) := by decide +kernel
theorem dX5_bestInput_29 : decode cX5_bestInput 29 = .ok (.iload_n 1, 1) := by decide +kernel
theorem dX5_bestInput_30 : decode cX5_bestInput 30 = .ok (.iaload, 1) := by decide +kernel
theorem dX5_bestInput_31 : decode cX5_bestInput 31 = .ok (.ireturn, 1) := by decide +kernel
theorem dX5_isSteady_0 : decode cX5_isSteady 0 = .ok (.aload_n 0, 1) := by decide +kernel
theorem dX5_isSteady_1 : decode cX5_isSteady 1 = .ok (.getfield 92, 3) := by decide +kernel
theorem dX5_isSteady_4 : decode cX5_isSteady 4 = .ok (.aload_n 0, 1) := by decide +kernel
theorem dX5_isSteady_5 : decode cX5_isSteady 5 = .ok (.getfield 76, 3) := by decide +kernel
theorem dX5_isSteady_8 : decode cX5_isSteady 8 = .ok (.if_icmp .lt 7, 3) := by decide +kernel
theorem dX5_isSteady_11 : decode cX5_isSteady 11 = .ok (.iconst 1, 1) := by decide +kernel
theorem dX5_isSteady_12 : decode cX5_isSteady 12 = .ok (.goto 4, 3) := by decide +kernel
theorem dX5_isSteady_15 : decode cX5_isSteady 15 = .ok (.iconst 0, 1) := by decide +kernel
theorem dX5_isSteady_16 : decode cX5_isSteady 16 = .ok (.istore_n 2, 1) := by decide +kernel
theorem dX5_isSteady_17 : decode cX5_isSteady 17 = .ok (.iconst 0, 1) := by decide +kernel
theorem dX5_isSteady_18 : decode cX5_isSteady 18 = .ok (.istore_n 3, 1) := by decide +kernel
theorem dX5_isSteady_19 : decode cX5_isSteady 19 = .ok (.iload_n 3, 1) := by decide +kernel
theorem dX5_isSteady_20 : decode cX5_isSteady 20 = .ok (.aload_n 0, 1) := by decide +kernel
theorem dX5_isSteady_21 : decode cX5_isSteady 21 = .ok (.getfield 76, 3) := by decide +kernel
theorem dX5_isSteady_24 : decode cX5_isSteady 24 = .ok (.if_icmp .ge 40, 3) := by decide +kernel
theorem dX5_isSteady_27 : decode cX5_isSteady 27 = .ok (.iload_n 2, 1) := by decide +kernel
theorem dX5_isSteady_28 : decode cX5_isSteady 28 = .ok (.ifCond .eq 36, 3) := by decide +kernel
theorem dX5_isSteady_31 : decode cX5_isSteady 31 = .ok (.aload_n 0, 1) := by decide +kernel
theorem dX5_isSteady_32 : decode cX5_isSteady 32 = .ok (.getfield 25, 3) := by decide +kernel
theorem dX5_isSteady_35 : decode cX5_isSteady 35 = .ok (.bipush 48, 2) := by decide +kernel
theorem dX5_isSteady_37 : decode cX5_isSteady 37 = .ok (.iload_n 3, 1) := by decide +kernel
theorem dX5_isSteady_38 : decode cX5_isSteady 38 = .ok (.imul, 1) := by decide +kernel
theorem dX5_isSteady_39 : decode cX5_isSteady 39 = .ok (.iload_n 1, 1) := by decide +kernel
theorem dX5_isSteady_40 : decode cX5_isSteady 40 = .ok (.iadd, 1) := by decide +kernel
theorem dX5_isSteady_41 : decode cX5_isSteady 41 = .ok (.iaload, 1) := by decide +kernel
theorem dX5_isSteady_42 : decode cX5_isSteady 42 = .ok (.invokestatic 140, 3) := by decide +kernel
theorem dX5_isSteady_45 : decode cX5_isSteady 45 = .ok (.aload_n 0, 1) := by decide +kernel
theorem dX5_isSteady_46 : decode cX5_isSteady 46 = .ok (.getfield 73, 3) := by decide +kernel
theorem dX5_isSteady_49 : decode cX5_isSteady 49 = .ok (.if_icmp .gt 7, 3) := by decide +kernel
theorem dX5_isSteady_52 : decode cX5_isSteady 52 = .ok (.iconst 1, 1) := by decide +kernel
theorem dX5_isSteady_53 : decode cX5_isSteady 53 = .ok (.goto 4, 3) := by decide +kernel
theorem dX5_isSteady_56 : decode cX5_isSteady 56 = .ok (.iconst 0, 1) := by decide +kernel
theorem dX5_isSteady_57 : decode cX5_isSteady 57 = .ok (.istore_n 2, 1) := by decide +kernel
theorem dX5_isSteady_58 : decode cX5_isSteady 58 = .ok (.iinc 3 1, 3) := by decide +kernel
theorem dX5_isSteady_61 : decode cX5_isSteady 61 = .ok (.goto (-42), 3) := by decide +kernel
theorem dX5_isSteady_64 : decode cX5_isSteady 64 = .ok (.iload_n 2, 1) := by decide +kernel
theorem dX5_isSteady_65 : decode cX5_isSteady 65 = .ok (.ireturn, 1) := by decide +kernel
theorem dX5_state_0 : decode cX5_state 0 = .ok (.aload_n 0, 1) := by decide +kernel
theorem dX5_state_1 : decode cX5_state 1 = .ok (.iload_n 1, 1) := by decide +kernel
theorem dX5_state_2 : decode cX5_state 2 = .ok (.invokevirtual 118, 3) := by decide +kernel
theorem dX5_state_5 : decode cX5_state 5 = .ok (.ifCond .eq 6, 3) := by decide +kernel
theorem dX5_state_8 : decode cX5_state 8 = .ok (.ldc 117, 2) := by decide +kernel
theorem dX5_state_10 : decode cX5_state 10 = .ok (.ireturn, 1) := by decide +kernel
theorem dX5_state_11 : decode cX5_state 11 = .ok (.aload_n 0, 1) := by decide +kernel
theorem dX5_state_12 : decode cX5_state 12 = .ok (.getfield 92, 3) := by decide +kernel
theorem dX5_state_15 : decode cX5_state 15 = .ok (.ifCond .ne 5, 3) := by decide +kernel
theorem dX5_state_18 : decode cX5_state 18 = .ok (.iconst 0, 1) := by decide +kernel
theorem dX5_state_19 : decode cX5_state 19 = .ok (.ireturn, 1) := by decide +kernel
theorem dX5_state_20 : decode cX5_state 20 = .ok (.aload_n 0, 1) := by decide +kernel
theorem dX5_state_21 : decode cX5_state 21 = .ok (.iload_n 1, 1) := by decide +kernel
theorem dX5_state_22 : decode cX5_state 22 = .ok (.invokevirtual 177, 3) := by decide +kernel
theorem dX5_state_25 : decode cX5_state 25 = .ok (.ifCond .eq 7, 3) := by decide +kernel
theorem dX5_state_28 : decode cX5_state 28 = .ok (.iconst 1, 1) := by decide +kernel
theorem dX5_state_29 : decode cX5_state 29 = .ok (.goto 40, 3) := by decide +kernel
theorem dX5_state_32 : decode cX5_state 32 = .ok (.aload_n 0, 1) := by decide +kernel
theorem dX5_state_33 : decode cX5_state 33 = .ok (.getfield 92, 3) := by decide +kernel
theorem dX5_state_36 : decode cX5_state 36 = .ok (.iconst 1, 1) := by decide +kernel
theorem dX5_state_37 : decode cX5_state 37 = .ok (.if_icmp .le 31, 3) := by decide +kernel
theorem dX5_state_40 : decode cX5_state 40 = .ok (.aload_n 0, 1) := by decide +kernel
theorem dX5_state_41 : decode cX5_state 41 = .ok (.getfield 25, 3) := by decide +kernel
theorem dX5_state_44 : decode cX5_state 44 = .ok (.iload_n 1, 1) := by decide +kernel
theorem dX5_state_45 : decode cX5_state 45 = .ok (.iaload, 1) := by decide +kernel
theorem dX5_state_46 : decode cX5_state 46 = .ok (.invokestatic 140, 3) := by decide +kernel
theorem dX5_state_49 : decode cX5_state 49 = .ok (.aload_n 0, 1) := by decide +kernel
theorem dX5_state_50 : decode cX5_state 50 = .ok (.getfield 25, 3) := by decide +kernel
theorem dX5_state_53 : decode cX5_state 53 = .ok (.bipush 48, 2) := by decide +kernel
theorem dX5_state_55 : decode cX5_state 55 = .ok (.iload_n 1, 1) := by decide +kernel
theorem dX5_state_56 : decode cX5_state 56 = .ok (.iadd, 1) := by decide +kernel
theorem dX5_state_57 : decode cX5_state 57 = .ok (.iaload, 1) := by decide +kernel
theorem dX5_state_58 : decode cX5_state 58 = .ok (.invokestatic 140, 3) := by decide +kernel
theorem dX5_state_61 : decode cX5_state 61 = .ok (.if_icmp .le 7, 3) := by decide +kernel
theorem dX5_state_64 : decode cX5_state 64 = .ok (.iconst 2, 1) := by decide +kernel
theorem dX5_state_65 : decode cX5_state 65 = .ok (.goto 4, 3) := by decide +kernel
theorem dX5_state_68 : decode cX5_state 68 = .ok (.iconst 3, 1) := by decide +kernel
theorem dX5_state_69 : decode cX5_state 69 = .ok (.ireturn, 1) := by decide +kernel
theorem dX5_convergedCount_0 : decode cX5_convergedCount 0 = .ok (.iconst 0, 1) := by decide +kernel
theorem dX5_convergedCount_1 : decode cX5_convergedCount 1 = .ok (.istore_n 1, 1) := by decide +kernel
theorem dX5_convergedCount_2 : decode cX5_convergedCount 2 = .ok (.iconst 0, 1) := by decide +kernel
theorem dX5_convergedCount_3 : decode cX5_convergedCount 3 = .ok (.istore_n 2, 1) := by decide +kernel
theorem dX5_convergedCount_4 : decode cX5_convergedCount 4 = .ok (.iload_n 2, 1) := by decide +kernel
theorem dX5_convergedCount_5 : decode cX5_convergedCount 5 = .ok (.aload_n 0, 1) := by decide +kernel
theorem dX5_convergedCount_6 : decode cX5_convergedCount 6 = .ok (.getfield 47, 3) := by decide +kernel
theorem dX5_convergedCount_9 : decode cX5_convergedCount 9 = .ok (.if_icmp .ge 25, 3) := by decide +kernel
theorem dX5_convergedCount_12 : decode cX5_convergedCount 12 = .ok (.iload_n 1, 1) := by decide +kernel
theorem dX5_convergedCount_13 : decode cX5_convergedCount 13 = .ok (.aload_n 0, 1) := by decide +kernel
theorem dX5_convergedCount_14 : decode cX5_convergedCount 14 = .ok (.iload_n 2, 1) := by decide +kernel
theorem dX5_convergedCount_15 : decode cX5_convergedCount 15 = .ok (.invokevirtual 177, 3) := by decide +kernel
theorem dX5_convergedCount_18 : decode cX5_convergedCount 18 = .ok (.ifCond .eq 7, 3) := by decide +kernel
theorem dX5_convergedCount_21 : decode cX5_convergedCount 21 = .ok (.iconst 1, 1) := by decide +kernel
theorem dX5_convergedCount_22 : decode cX5_convergedCount 22 = .ok (.goto 4, 3) := by decide +kernel
theorem dX5_convergedCount_25 : decode cX5_convergedCount 25 = .ok (.iconst 0, 1) := by decide +kernel
theorem dX5_convergedCount_26 : decode cX5_convergedCount 26 = .ok (.iadd, 1) := by decide +kernel
theorem dX5_convergedCount_27 : decode cX5_convergedCount 27 = .ok (.istore_n 1, 1) := by decide +kernel
theorem dX5_convergedCount_28 : decode cX5_convergedCount 28 = .ok (.iinc 2 1, 3) := by decide +kernel
theorem dX5_convergedCount_31 : decode cX5_convergedCount 31 = .ok (.goto (-27), 3) := by decide +kernel
theorem dX5_convergedCount_34 : decode cX5_convergedCount 34 = .ok (.iload_n 1, 1) := by decide +kernel
theorem dX5_convergedCount_35 : decode cX5_convergedCount 35 = .ok (.ireturn, 1) := by decide +kernel
theorem dX5_setPlant_0 : decode cX5_setPlant 0 = .ok (.iload_n 1, 1) := by decide +kernel
theorem dX5_setPlant_1 : decode cX5_setPlant 1 = .ok (.iconst 0, 1) := by decide +kernel
theorem dX5_setPlant_2 : decode cX5_setPlant 2 = .ok (.iconst 5, 1) := by decide +kernel
theorem dX5_setPlant_3 : decode cX5_setPlant 3 = .ok (.invokestatic 113, 3) := by decide +kernel
theorem dX5_setPlant_6 : decode cX5_setPlant 6 = .ok (.ifCond .eq 16, 3) := by decide +kernel
theorem dX5_setPlant_9 : decode cX5_setPlant 9 = .ok (.iload_n 2, 1) := by decide +kernel
theorem dX5_setPlant_10 : decode cX5_setPlant 10 = .ok (.sipush (-3000), 3) := by decide +kernel
theorem dX5_setPlant_13 : decode cX5_setPlant 13 = .ok (.sipush 3000, 3) := by decide +kernel
theorem dX5_setPlant_16 : decode cX5_setPlant 16 = .ok (.invokestatic 113, 3) := by decide +kernel
theorem dX5_setPlant_19 : decode cX5_setPlant 19 = .ok (.ifCond .ne 6, 3) := by decide +kernel
theorem dX5_setPlant_22 : decode cX5_setPlant 22 = .ok (.ldc 117, 2) := by decide +kernel
theorem dX5_setPlant_24 : decode cX5_setPlant 24 = .ok (.ireturn, 1) := by decide +kernel
theorem dX5_setPlant_25 : decode cX5_setPlant 25 = .ok (.aload_n 0, 1) := by decide +kernel
theorem dX5_setPlant_26 : decode cX5_setPlant 26 = .ok (.getfield 40, 3) := by decide +kernel
theorem dX5_setPlant_29 : decode cX5_setPlant 29 = .ok (.iload_n 1, 1) := by decide +kernel
theorem dX5_setPlant_30 : decode cX5_setPlant 30 = .ok (.iaload, 1) := by decide +kernel
theorem dX5_setPlant_31 : decode cX5_setPlant 31 = .ok (.istore_n 3, 1) := by decide +kernel
theorem dX5_setPlant_32 : decode cX5_setPlant 32 = .ok (.aload_n 0, 1) := by decide +kernel
theorem dX5_setPlant_33 : decode cX5_setPlant 33 = .ok (.getfield 40, 3) := by decide +kernel
theorem dX5_setPlant_36 : decode cX5_setPlant 36 = .ok (.iload_n 1, 1) := by decide +kernel
theorem dX5_setPlant_37 : decode cX5_setPlant 37 = .ok (.iload_n 2, 1) := by decide +kernel
theorem dX5_setPlant_38 : decode cX5_setPlant 38 = .ok (.iastore, 1) := by decide +kernel
theorem dX5_setPlant_39 : decode cX5_setPlant 39 = .ok (.iload_n 3, 1) := by decide +kernel
theorem dX5_setPlant_40 : decode cX5_setPlant 40 = .ok (.ireturn, 1) := by decide +kernel
theorem dX5_setDisturbance_0 : decode cX5_setDisturbance 0 = .ok (.iload_n 1, 1) := by decide +kernel
theorem dX5_setDisturbance_1 : decode cX5_setDisturbance 1 = .ok (.iconst 0, 1) := by decide +kernel
theorem dX5_setDisturbance_2 : decode cX5_setDisturbance 2 = .ok (.sipush 1000, 3) := by decide +kernel
theorem dX5_setDisturbance_5 : decode cX5_setDisturbance 5 = .ok (.invokestatic 113, 3) := by decide +kernel
theorem dX5_setDisturbance_8 : decode cX5_setDisturbance 8 = .ok (.ifCond .ne 6, 3) := by decide +kernel
theorem dX5_setDisturbance_11 : decode cX5_setDisturbance 11 = .ok (.ldc 117, 2) := by decide +kernel
theorem dX5_setDisturbance_13 : decode cX5_setDisturbance 13 = .ok (.ireturn, 1) := by decide +kernel
theorem dX5_setDisturbance_14 : decode cX5_setDisturbance 14 = .ok (.aload_n 0, 1) := by decide +kernel
theorem dX5_setDisturbance_15 : decode cX5_setDisturbance 15 = .ok (.getfield 107, 3) := by decide +kernel
theorem dX5_setDisturbance_18 : decode cX5_setDisturbance 18 = .ok (.istore_n 3, 1) := by decide +kernel
theorem dX5_setDisturbance_19 : decode cX5_setDisturbance 19 = .ok (.aload_n 0, 1) := by decide +kernel
theorem dX5_setDisturbance_20 : decode cX5_setDisturbance 20 = .ok (.iload_n 1, 1) := by decide +kernel
theorem dX5_setDisturbance_21 : decode cX5_setDisturbance 21 = .ok (.putfield 107, 3) := by decide +kernel
theorem dX5_setDisturbance_24 : decode cX5_setDisturbance 24 = .ok (.aload_n 0, 1) := by decide +kernel
theorem dX5_setDisturbance_25 : decode cX5_setDisturbance 25 = .ok (.iload_n 2, 1) := by decide +kernel
theorem dX5_setDisturbance_26 : decode cX5_setDisturbance 26 = .ok (.putfield 110, 3) := by decide +kernel
theorem dX5_setDisturbance_29 : decode cX5_setDisturbance 29 = .ok (.iload_n 3, 1) := by decide +kernel
theorem dX5_setDisturbance_30 : decode cX5_setDisturbance 30 = .ok (.ireturn, 1) := by decide +kernel
theorem dX5_outputOf_0 : decode cX5_outputOf 0 = .ok (.lconst 0, 1) := by decide +kernel
theorem dX5_outputOf_1 : decode cX5_outputOf 1 = .ok (.lstore_n 2, 1) := by decide +kernel
theorem dX5_outputOf_2 : decode cX5_outputOf 2 = .ok (.iconst 0, 1) := by decide +kernel
theorem dX5_outputOf_3 : decode cX5_outputOf 3 = .ok (.istore 4, 2) := by decide +kernel
theorem dX5_outputOf_5 : decode cX5_outputOf 5 = .ok (.iload 4, 2) := by decide +kernel
theorem dX5_outputOf_7 : decode cX5_outputOf 7 = .ok (.bipush 6, 2) := by decide +kernel
theorem dX5_outputOf_9 : decode cX5_outputOf 9 = .ok (.if_icmp .ge 37, 3) := by decide +kernel
theorem dX5_outputOf_12 : decode cX5_outputOf 12 = .ok (.iload 4, 2) := by decide +kernel
theorem dX5_outputOf_14 : decode cX5_outputOf 14 = .ok (.iload_n 1, 1) := by decide +kernel
theorem dX5_outputOf_15 : decode cX5_outputOf 15 = .ok (.if_icmp .gt 31, 3) := by decide +kernel
theorem dX5_outputOf_18 : decode cX5_outputOf 18 = .ok (.lload_n 2, 1) := by decide +kernel
theorem dX5_outputOf_19 : decode cX5_outputOf 19 = .ok (.aload_n 0, 1) := by decide +kernel
theorem dX5_outputOf_20 : decode cX5_outputOf 20 = .ok (.getfield 40, 3) := by decide +kernel
theorem dX5_outputOf_23 : decode cX5_outputOf 23 = .ok (.iload 4, 2) := by decide +kernel
theorem dX5_outputOf_25 : decode cX5_outputOf 25 = .ok (.iaload, 1) := by decide +kernel
theorem dX5_outputOf_26 : decode cX5_outputOf 26 = .ok (.i2l, 1) := by decide +kernel
theorem dX5_outputOf_27 : decode cX5_outputOf 27 = .ok (.aload_n 0, 1) := by decide +kernel
theorem dX5_outputOf_28 : decode cX5_outputOf 28 = .ok (.getfield 13, 3) := by decide +kernel
theorem dX5_outputOf_31 : decode cX5_outputOf 31 = .ok (.iload_n 1, 1) := by decide +kernel
theorem dX5_outputOf_32 : decode cX5_outputOf 32 = .ok (.iload 4, 2) := by decide +kernel
theorem dX5_outputOf_34 : decode cX5_outputOf 34 = .ok (.isub, 1) := by decide +kernel
theorem dX5_outputOf_35 : decode cX5_outputOf 35 = .ok (.iaload, 1) := by decide +kernel
theorem dX5_outputOf_36 : decode cX5_outputOf 36 = .ok (.i2l, 1) := by decide +kernel
theorem dX5_outputOf_37 : decode cX5_outputOf 37 = .ok (.lmul, 1) := by decide +kernel
theorem dX5_outputOf_38 : decode cX5_outputOf 38 = .ok (.ladd, 1) := by decide +kernel
theorem dX5_outputOf_39 : decode cX5_outputOf 39 = .ok (.lstore_n 2, 1) := by decide +kernel
theorem dX5_outputOf_40 : decode cX5_outputOf 40 = .ok (.iinc 4 1, 3) := by decide +kernel
theorem dX5_outputOf_43 : decode cX5_outputOf 43 = .ok (.goto (-38), 3) := by decide +kernel
theorem dX5_outputOf_46 : decode cX5_outputOf 46 = .ok (.lload_n 2, 1) := by decide +kernel
theorem dX5_outputOf_47 : decode cX5_outputOf 47 = .ok (.ldc2_w 123, 3) := by decide +kernel
theorem dX5_outputOf_50 : decode cX5_outputOf 50 = .ok (.invokestatic 125, 3) := by decide +kernel
theorem dX5_outputOf_53 : decode cX5_outputOf 53 = .ok (.lstore 4, 2) := by decide +kernel
theorem dX5_outputOf_55 : decode cX5_outputOf 55 = .ok (.aload_n 0, 1) := by decide +kernel
theorem dX5_outputOf_56 : decode cX5_outputOf 56 = .ok (.getfield 107, 3) := by decide +kernel
theorem dX5_outputOf_59 : decode cX5_outputOf 59 = .ok (.ifCond .le 45, 3) := by decide +kernel
theorem dX5_outputOf_62 : decode cX5_outputOf 62 = .ok (.aload_n 0, 1) := by decide +kernel
theorem dX5_outputOf_63 : decode cX5_outputOf 63 = .ok (.aload_n 0, 1) := by decide +kernel
theorem dX5_outputOf_64 : decode cX5_outputOf 64 = .ok (.getfield 110, 3) := by decide +kernel
theorem dX5_outputOf_67 : decode cX5_outputOf 67 = .ok (.ldc 180, 2) := by decide +kernel
theorem dX5_outputOf_69 : decode cX5_outputOf 69 = .ok (.imul, 1) := by decide +kernel
theorem dX5_outputOf_70 : decode cX5_outputOf 70 = .ok (.sipush 12345, 3) := by decide +kernel
theorem dX5_outputOf_73 : decode cX5_outputOf 73 = .ok (.iadd, 1) := by decide +kernel
theorem dX5_outputOf_74 : decode cX5_outputOf 74 = .ok (.putfield 110, 3) := by decide +kernel
theorem dX5_outputOf_77 : decode cX5_outputOf 77 = .ok (.lload 4, 2) := by decide +kernel
theorem dX5_outputOf_79 : decode cX5_outputOf 79 = .ok (.aload_n 0, 1) := by decide +kernel
theorem dX5_outputOf_80 : decode cX5_outputOf 80 = .ok (.getfield 110, 3) := by decide +kernel
theorem dX5_outputOf_83 : decode cX5_outputOf 83 = .ok (.bipush 16, 2) := by decide +kernel
theorem dX5_outputOf_85 : decode cX5_outputOf 85 = .ok (.iushr, 1) := by decide +kernel
theorem dX5_outputOf_86 : decode cX5_outputOf 86 = .ok (.iconst 2, 1) := by decide +kernel
theorem dX5_outputOf_87 : decode cX5_outputOf 87 = .ok (.aload_n 0, 1) := by decide +kernel
theorem dX5_outputOf_88 : decode cX5_outputOf 88 = .ok (.getfield 107, 3) := by decide +kernel
theorem dX5_outputOf_91 : decode cX5_outputOf 91 = .ok (.imul, 1) := by decide +kernel
theorem dX5_outputOf_92 : decode cX5_outputOf 92 = .ok (.iconst 1, 1) := by decide +kernel
theorem dX5_outputOf_93 : decode cX5_outputOf 93 = .ok (.iadd, 1) := by decide +kernel
theorem dX5_outputOf_94 : decode cX5_outputOf 94 = .ok (.irem, 1) := by decide +kernel
theorem dX5_outputOf_95 : decode cX5_outputOf 95 = .ok (.aload_n 0, 1) := by decide +kernel
theorem dX5_outputOf_96 : decode cX5_outputOf 96 = .ok (.getfield 107, 3) := by decide +kernel
theorem dX5_outputOf_99 : decode cX5_outputOf 99 = .ok (.isub, 1) := by decide +kernel
theorem dX5_outputOf_100 : decode cX5_outputOf 100 = .ok (.i2l, 1) := by decide +kernel
theorem dX5_outputOf_101 : decode cX5_outputOf 101 = .ok (.ladd, 1) := by decide +kernel
theorem dX5_outputOf_102 : decode cX5_outputOf 102 = .ok (.lstore 4, 2) := by decide +kernel
theorem dX5_outputOf_104 : decode cX5_outputOf 104 = .ok (.lload 4, 2) := by decide +kernel
theorem dX5_outputOf_106 : decode cX5_outputOf 106 = .ok (.ldc 63, 2) := by decide +kernel
theorem dX5_outputOf_108 : decode cX5_outputOf 108 = .ok (.invokestatic 132, 3) := by decide +kernel
theorem dX5_outputOf_111 : decode cX5_outputOf 111 = .ok (.ireturn, 1) := by decide +kernel
theorem dX5_simulate_0 : decode cX5_simulate 0 = .ok (.iload_n 1, 1) := by decide +kernel
theorem dX5_simulate_1 : decode cX5_simulate 1 = .ok (.iconst 1, 1) := by decide +kernel
theorem dX5_simulate_2 : decode cX5_simulate 2 = .ok (.bipush 20, 2) := by decide +kernel
theorem dX5_simulate_4 : decode cX5_simulate 4 = .ok (.invokestatic 113, 3) := by decide +kernel
theorem dX5_simulate_7 : decode cX5_simulate 7 = .ok (.ifCond .ne 6, 3) := by decide +kernel
theorem dX5_simulate_10 : decode cX5_simulate 10 = .ok (.ldc 117, 2) := by decide +kernel
theorem dX5_simulate_12 : decode cX5_simulate 12 = .ok (.ireturn, 1) := by decide +kernel
theorem dX5_simulate_13 : decode cX5_simulate 13 = .ok (.aload_n 0, 1) := by decide +kernel
theorem dX5_simulate_14 : decode cX5_simulate 14 = .ok (.getfield 83, 3) := by decide +kernel
theorem dX5_simulate_17 : decode cX5_simulate 17 = .ok (.ifCond .eq 6, 3) := by decide +kernel
theorem dX5_simulate_20 : decode cX5_simulate 20 = .ok (.ldc 164, 2) := by decide +kernel
theorem dX5_simulate_22 : decode cX5_simulate 22 = .ok (.ireturn, 1) := by decide +kernel
theorem dX5_simulate_23 : decode cX5_simulate 23 = .ok (.iconst 0, 1) := by decide +kernel
theorem dX5_simulate_24 : decode cX5_simulate 24 = .ok (.istore_n 2, 1) := by decide +kernel
theorem dX5_simulate_25 : decode cX5_simulate 25 = .ok (.iload_n 2, 1) := by decide +kernel
theorem dX5_simulate_26 : decode cX5_simulate 26 = .ok (.iload_n 1, 1) := by decide +kernel
theorem dX5_simulate_27 : decode cX5_simulate 27 = .ok (.if_icmp .ge 37, 3) := by decide +kernel
theorem dX5_simulate_30 : decode cX5_simulate 30 = .ok (.aload_n 0, 1) := by decide +kernel
theorem dX5_simulate_31 : decode cX5_simulate 31 = .ok (.invokevirtual 181, 3) := by decide +kernel
theorem dX5_simulate_34 : decode cX5_simulate 34 = .ok (.pop, 1) := by decide +kernel
theorem dX5_simulate_35 : decode cX5_simulate 35 = .ok (.aload_n 0, 1) := by decide +kernel
theorem dX5_simulate_36 : decode cX5_simulate 36 = .ok (.getfield 83, 3) := by decide +kernel
theorem dX5_simulate_39 : decode cX5_simulate 39 = .ok (.ifCond .eq 19, 3) := by decide +kernel
theorem dX5_simulate_42 : decode cX5_simulate 42 = .ok (.aload_n 0, 1) := by decide +kernel
theorem dX5_simulate_43 : decode cX5_simulate 43 = .ok (.aload_n 0, 1) := by decide +kernel
theorem dX5_simulate_44 : decode cX5_simulate 44 = .ok (.aload_n 0, 1) := by decide +kernel
theorem dX5_simulate_45 : decode cX5_simulate 45 = .ok (.getfield 86, 3) := by decide +kernel
theorem dX5_simulate_48 : decode cX5_simulate 48 = .ok (.invokevirtual 184, 3) := by decide +kernel
theorem dX5_simulate_51 : decode cX5_simulate 51 = .ok (.invokevirtual 187, 3) := by decide +kernel
theorem dX5_simulate_54 : decode cX5_simulate 54 = .ok (.pop, 1) := by decide +kernel
theorem dX5_simulate_55 : decode cX5_simulate 55 = .ok (.goto (-20), 3) := by decide +kernel
theorem dX5_simulate_58 : decode cX5_simulate 58 = .ok (.iinc 2 1, 3) := by decide +kernel
theorem dX5_simulate_61 : decode cX5_simulate 61 = .ok (.goto (-36), 3) := by decide +kernel
theorem dX5_simulate_64 : decode cX5_simulate 64 = .ok (.aload_n 0, 1) := by decide +kernel
theorem dX5_simulate_65 : decode cX5_simulate 65 = .ok (.getfield 28, 3) := by decide +kernel
theorem dX5_simulate_68 : decode cX5_simulate 68 = .ok (.iconst 0, 1) := by decide +kernel
theorem dX5_simulate_69 : decode cX5_simulate 69 = .ok (.iaload, 1) := by decide +kernel
theorem dX5_simulate_70 : decode cX5_simulate 70 = .ok (.ireturn, 1) := by decide +kernel
theorem dX5_suits_0 : decode cX5_suits 0 = .ok (.lconst 0, 1) := by decide +kernel
theorem dX5_suits_1 : decode cX5_suits 1 = .ok (.lstore_n 1, 1) := by decide +kernel
theorem dX5_suits_2 : decode cX5_suits 2 = .ok (.iconst 0, 1) := by decide +kernel
theorem dX5_suits_3 : decode cX5_suits 3 = .ok (.istore_n 3, 1) := by decide +kernel
theorem dX5_suits_4 : decode cX5_suits 4 = .ok (.iload_n 3, 1) := by decide +kernel
theorem dX5_suits_5 : decode cX5_suits 5 = .ok (.bipush 6, 2) := by decide +kernel
theorem dX5_suits_7 : decode cX5_suits 7 = .ok (.if_icmp .ge 39, 3) := by decide +kernel
theorem dX5_suits_10 : decode cX5_suits 10 = .ok (.lload_n 1, 1) := by decide +kernel
theorem dX5_suits_11 : decode cX5_suits 11 = .ok (.iload_n 3, 1) := by decide +kernel
theorem dX5_suits_12 : decode cX5_suits 12 = .ok (.aload_n 0, 1) := by decide +kernel
theorem dX5_suits_13 : decode cX5_suits 13 = .ok (.getfield 54, 3) := by decide +kernel
theorem dX5_suits_16 : decode cX5_suits 16 = .ok (.if_icmp .ne 7, 3) := by decide +kernel
theorem dX5_suits_19 : decode cX5_suits 19 = .ok (.lconst 0, 1) := by decide +kernel
theorem dX5_suits_20 : decode cX5_suits 20 = .ok (.goto 18, 3) := by decide +kernel
theorem dX5_suits_23 : decode cX5_suits 23 = .ok (.aload_n 0, 1) := by decide +kernel
theorem dX5_suits_24 : decode cX5_suits 24 = .ok (.getfield 51, 3) := by decide +kernel
theorem dX5_suits_27 : decode cX5_suits 27 = .ok (.aload_n 0, 1) := by decide +kernel
theorem dX5_suits_28 : decode cX5_suits 28 = .ok (.getfield 40, 3) := by decide +kernel
theorem dX5_suits_31 : decode cX5_suits 31 = .ok (.iload_n 3, 1) := by decide +kernel
theorem dX5_suits_32 : decode cX5_suits 32 = .ok (.iaload, 1) := by decide +kernel
theorem dX5_suits_33 : decode cX5_suits 33 = .ok (.imul, 1) := by decide +kernel
theorem dX5_suits_34 : decode cX5_suits 34 = .ok (.invokestatic 140, 3) := by decide +kernel
theorem dX5_suits_37 : decode cX5_suits 37 = .ok (.i2l, 1) := by decide +kernel
theorem dX5_suits_38 : decode cX5_suits 38 = .ok (.ladd, 1) := by decide +kernel
theorem dX5_suits_39 : decode cX5_suits 39 = .ok (.lstore_n 1, 1) := by decide +kernel
theorem dX5_suits_40 : decode cX5_suits 40 = .ok (.iinc 3 1, 3) := by decide +kernel
theorem dX5_suits_43 : decode cX5_suits 43 = .ok (.goto (-39), 3) := by decide +kernel
theorem dX5_suits_46 : decode cX5_suits 46 = .ok (.ldc 63, 2) := by decide +kernel
theorem dX5_suits_48 : decode cX5_suits 48 = .ok (.aload_n 0, 1) := by decide +kernel
theorem dX5_suits_49 : decode cX5_suits 49 = .ok (.getfield 54, 3) := by decide +kernel
theorem dX5_suits_52 : decode cX5_suits 52 = .ok (.bipush 6, 2) := by decide +kernel
theorem dX5_suits_54 : decode cX5_suits 54 = .ok (.if_icmp .ge 20, 3) := by decide +kernel
theorem dX5_suits_57 : decode cX5_suits 57 = .ok (.aload_n 0, 1) := by decide +kernel
theorem dX5_suits_58 : decode cX5_suits 58 = .ok (.getfield 51, 3) := by decide +kernel
theorem dX5_suits_61 : decode cX5_suits 61 = .ok (.aload_n 0, 1) := by decide +kernel
theorem dX5_suits_62 : decode cX5_suits 62 = .ok (.getfield 40, 3) := by decide +kernel
theorem dX5_suits_65 : decode cX5_suits 65 = .ok (.aload_n 0, 1) := by decide +kernel
theorem dX5_suits_66 : decode cX5_suits 66 = .ok (.getfield 54, 3) := by decide +kernel
theorem dX5_suits_69 : decode cX5_suits 69 = .ok (.iaload, 1) := by decide +kernel
theorem dX5_suits_70 : decode cX5_suits 70 = .ok (.imul, 1) := by decide +kernel
theorem dX5_suits_71 : decode cX5_suits 71 = .ok (.goto 4, 3) := by decide +kernel
theorem dX5_suits_74 : decode cX5_suits 74 = .ok (.iconst 0, 1) := by decide +kernel
theorem dX5_suits_75 : decode cX5_suits 75 = .ok (.isub, 1) := by decide +kernel
theorem dX5_suits_76 : decode cX5_suits 76 = .ok (.istore_n 3, 1) := by decide +kernel
theorem dX5_suits_77 : decode cX5_suits 77 = .ok (.lload_n 1, 1) := by decide +kernel
theorem dX5_suits_78 : decode cX5_suits 78 = .ok (.iload_n 3, 1) := by decide +kernel
theorem dX5_suits_79 : decode cX5_suits 79 = .ok (.invokestatic 140, 3) := by decide +kernel
theorem dX5_suits_82 : decode cX5_suits 82 = .ok (.i2l, 1) := by decide +kernel
theorem dX5_suits_83 : decode cX5_suits 83 = .ok (.ladd, 1) := by decide +kernel
theorem dX5_suits_84 : decode cX5_suits 84 = .ok (.ldc2_w 190, 3) := by decide +kernel
theorem dX5_suits_87 : decode cX5_suits 87 = .ok (.lcmp, 1) := by decide +kernel
theorem dX5_suits_88 : decode cX5_suits 88 = .ok (.ifCond .gt 7, 3) := by decide +kernel
theorem dX5_suits_91 : decode cX5_suits 91 = .ok (.iconst 1, 1) := by decide +kernel
theorem dX5_suits_92 : decode cX5_suits 92 = .ok (.goto 4, 3) := by decide +kernel
theorem dX5_suits_95 : decode cX5_suits 95 = .ok (.iconst 0, 1) := by decide +kernel
theorem dX5_suits_96 : decode cX5_suits 96 = .ok (.ireturn, 1) := by decide +kernel
