theorem dX3_init_0 : decode cX3_init 0 = .ok (.aload_n 0, 1) := by decide +kernel
theorem dX3_init_1 : decode cX3_init 1 = .ok (.invokespecial 1, 3) := by decide +kernel
theorem dX3_init_4 : decode cX3_init 4 = .ok (.aload_n 0, 1) := by decide +kernel
theorem dX3_init_5 : decode cX3_init 5 = .ok (.bipush 8, 2) := by decide +kernel
theorem dX3_init_7 : decode cX3_init 7 = .ok (.newarray .int, 2) := by decide +kernel
theorem dX3_init_9 : decode cX3_init 9 = .ok (.putfield 7, 3) := by decide +kernel
theorem dX3_init_12 : decode cX3_init 12 = .ok (.aload_n 0, 1) := by decide +kernel
theorem dX3_init_13 : decode cX3_init 13 = .ok (.bipush 8, 2) := by decide +kernel
theorem dX3_init_15 : decode cX3_init 15 = .ok (.newarray .int, 2) := by decide +kernel
theorem dX3_init_17 : decode cX3_init 17 = .ok (.putfield 13, 3) := by decide +kernel
theorem dX3_init_20 : decode cX3_init 20 = .ok (.aload_n 0, 1) := by decide +kernel
theorem dX3_init_21 : decode cX3_init 21 = .ok (.bipush 8, 2) := by decide +kernel
theorem dX3_init_23 : decode cX3_init 23 = .ok (.newarray .int, 2) := by decide +kernel
theorem dX3_init_25 : decode cX3_init 25 = .ok (.putfield 16, 3) := by decide +kernel
theorem dX3_init_28 : decode cX3_init 28 = .ok (.aload_n 0, 1) := by decide +kernel
theorem dX3_init_29 : decode cX3_init 29 = .ok (.bipush 8, 2) := by decide +kernel
theorem dX3_init_31 : decode cX3_init 31 = .ok (.newarray .int, 2) := by decide +kernel
theorem dX3_init_33 : decode cX3_init 33 = .ok (.putfield 19, 3) := by decide +kernel
theorem dX3_init_36 : decode cX3_init 36 = .ok (.aload_n 0, 1) := by decide +kernel
theorem dX3_init_37 : decode cX3_init 37 = .ok (.bipush 8, 2) := by decide +kernel
theorem dX3_init_39 : decode cX3_init 39 = .ok (.newarray .int, 2) := by decide +kernel
theorem dX3_init_41 : decode cX3_init 41 = .ok (.putfield 22, 3) := by decide +kernel
theorem dX3_init_44 : decode cX3_init 44 = .ok (.aload_n 0, 1) := by decide +kernel
theorem dX3_init_45 : decode cX3_init 45 = .ok (.bipush 8, 2) := by decide +kernel
theorem dX3_init_47 : decode cX3_init 47 = .ok (.newarray .int, 2) := by decide +kernel
theorem dX3_init_49 : decode cX3_init 49 = .ok (.putfield 25, 3) := by decide +kernel
theorem dX3_init_52 : decode cX3_init 52 = .ok (.aload_n 0, 1) := by decide +kernel
theorem dX3_init_53 : decode cX3_init 53 = .ok (.bipush 8, 2) := by decide +kernel
theorem dX3_init_55 : decode cX3_init 55 = .ok (.newarray .int, 2) := by decide +kernel
theorem dX3_init_57 : decode cX3_init 57 = .ok (.putfield 28, 3) := by decide +kernel
theorem dX3_init_60 : decode cX3_init 60 = .ok (.aload_n 0, 1) := by decide +kernel
theorem dX3_init_61 : decode cX3_init 61 = .ok (.bipush 8, 2) := by decide +kernel
theorem dX3_init_63 : decode cX3_init 63 = .ok (.newarray .int, 2) := by decide +kernel
theorem dX3_init_65 : decode cX3_init 65 = .ok (.putfield 31, 3) := by decide +kernel
theorem dX3_init_68 : decode cX3_init 68 = .ok (.aload_n 0, 1) := by decide +kernel
theorem dX3_init_69 : decode cX3_init 69 = .ok (.bipush 8, 2) := by decide +kernel
theorem dX3_init_71 : decode cX3_init 71 = .ok (.newarray .int, 2) := by decide +kernel
theorem dX3_init_73 : decode cX3_init 73 = .ok (.putfield 34, 3) := by decide +kernel
theorem dX3_init_76 : decode cX3_init 76 = .ok (.aload_n 0, 1) := by decide +kernel
theorem dX3_init_77 : decode cX3_init 77 = .ok (.bipush 8, 2) := by decide +kernel
theorem dX3_init_79 : decode cX3_init 79 = .ok (.newarray .int, 2) := by decide +kernel
theorem dX3_init_81 : decode cX3_init 81 = .ok (.putfield 37, 3) := by decide +kernel
theorem dX3_init_84 : decode cX3_init 84 = .ok (.aload_n 0, 1) := by decide +kernel
theorem dX3_init_85 : decode cX3_init 85 = .ok (.bipush 8, 2) := by decide +kernel
theorem dX3_init_87 : decode cX3_init 87 = .ok (.newarray .int, 2) := by decide +kernel
theorem dX3_init_89 : decode cX3_init 89 = .ok (.putfield 40, 3) := by decide +kernel
theorem dX3_init_92 : decode cX3_init 92 = .ok (.aload_n 0, 1) := by decide +kernel
theorem dX3_init_93 : decode cX3_init 93 = .ok (.bipush 8, 2) := by decide +kernel
theorem dX3_init_95 : decode cX3_init 95 = .ok (.newarray .int, 2) := by decide +kernel
theorem dX3_init_97 : decode cX3_init 97 = .ok (.putfield 43, 3) := by decide +kernel
theorem dX3_init_100 : decode cX3_init 100 = .ok (.aload_n 0, 1) := by decide +kernel
theorem dX3_init_101 : decode cX3_init 101 = .ok (.bipush 8, 2) := by decide +kernel
theorem dX3_init_103 : decode cX3_init 103 = .ok (.newarray .int, 2) := by decide +kernel
theorem dX3_init_105 : decode cX3_init 105 = .ok (.putfield 46, 3) := by decide +kernel
theorem dX3_init_108 : decode cX3_init 108 = .ok (.aload_n 0, 1) := by decide +kernel
theorem dX3_init_109 : decode cX3_init 109 = .ok (.bipush 8, 2) := by decide +kernel
theorem dX3_init_111 : decode cX3_init 111 = .ok (.newarray .int, 2) := by decide +kernel
theorem dX3_init_113 : decode cX3_init 113 = .ok (.putfield 49, 3) := by decide +kernel
theorem dX3_init_116 : decode cX3_init 116 = .ok (.aload_n 0, 1) := by decide +kernel
theorem dX3_init_117 : decode cX3_init 117 = .ok (.iconst 4, 1) := by decide +kernel
theorem dX3_init_118 : decode cX3_init 118 = .ok (.newarray .int, 2) := by decide +kernel
theorem dX3_init_120 : decode cX3_init 120 = .ok (.putfield 52, 3) := by decide +kernel
theorem dX3_init_123 : decode cX3_init 123 = .ok (.aload_n 0, 1) := by decide +kernel
theorem dX3_init_124 : decode cX3_init 124 = .ok (.iconst 4, 1) := by decide +kernel
theorem dX3_init_125 : decode cX3_init 125 = .ok (.newarray .int, 2) := by decide +kernel
theorem dX3_init_127 : decode cX3_init 127 = .ok (.putfield 55, 3) := by decide +kernel
theorem dX3_init_130 : decode cX3_init 130 = .ok (.aload_n 0, 1) := by decide +kernel
theorem dX3_init_131 : decode cX3_init 131 = .ok (.sipush 240, 3) := by decide +kernel
theorem dX3_init_134 : decode cX3_init 134 = .ok (.newarray .int, 2) := by decide +kernel
theorem dX3_init_136 : decode cX3_init 136 = .ok (.putfield 58, 3) := by decide +kernel
theorem dX3_init_139 : decode cX3_init 139 = .ok (.aload_n 0, 1) := by decide +kernel
theorem dX3_init_140 : decode cX3_init 140 = .ok (.bipush 60, 2) := by decide +kernel
theorem dX3_init_142 : decode cX3_init 142 = .ok (.newarray .int, 2) := by decide +kernel
theorem dX3_init_144 : decode cX3_init 144 = .ok (.putfield 61, 3) := by decide +kernel
theorem dX3_init_147 : decode cX3_init 147 = .ok (.iconst 0, 1) := by decide +kernel
theorem dX3_init_148 : decode cX3_init 148 = .ok (.istore_n 1, 1) := by decide +kernel
theorem dX3_init_149 : decode cX3_init 149 = .ok (.iload_n 1, 1) := by decide +kernel
theorem dX3_init_150 : decode cX3_init 150 = .ok (.iconst 4, 1) := by decide +kernel
theorem dX3_init_151 : decode cX3_init 151 = .ok (.if_icmp .ge 16, 3) := by decide +kernel
theorem dX3_init_154 : decode cX3_init 154 = .ok (.aload_n 0, 1) := by decide +kernel
theorem dX3_init_155 : decode cX3_init 155 = .ok (.getfield 52, 3) := by decide +kernel
theorem dX3_init_158 : decode cX3_init 158 = .ok (.iload_n 1, 1) := by decide +kernel
theorem dX3_init_159 : decode cX3_init 159 = .ok (.iconst (-1), 1) := by decide +kernel
theorem dX3_init_160 : decode cX3_init 160 = .ok (.iastore, 1) := by decide +kernel
theorem dX3_init_161 : decode cX3_init 161 = .ok (.iinc 1 1, 3) := by decide +kernel
theorem dX3_init_164 : decode cX3_init 164 = .ok (.goto (-15), 3) := by decide +kernel
theorem dX3_init_167 : decode cX3_init 167 = .ok (.return_, 1) := by decide +kernel
theorem dX3_in_0 : decode cX3_in 0 = .ok (.lload_n 0, 1) := by decide +kernel
theorem dX3_in_1 : decode cX3_in 1 = .ok (.lload_n 2, 1) := by decide +kernel
theorem dX3_in_2 : decode cX3_in 2 = .ok (.lcmp, 1) := by decide +kernel
theorem dX3_in_3 : decode cX3_in 3 = .ok (.ifCond .lt 14, 3) := by decide +kernel
theorem dX3_in_6 : decode cX3_in 6 = .ok (.lload_n 0, 1) := by decide +kernel
theorem dX3_in_7 : decode cX3_in 7 = .ok (.lload 4, 2) := by decide +kernel
theorem dX3_in_9 : decode cX3_in 9 = .ok (.lcmp, 1) := by decide +kernel
theorem dX3_in_10 : decode cX3_in 10 = .ok (.ifCond .gt 7, 3) := by decide +kernel
theorem dX3_in_13 : decode cX3_in 13 = .ok (.iconst 1, 1) := by decide +kernel
theorem dX3_in_14 : decode cX3_in 14 = .ok (.goto 4, 3) := by decide +kernel
theorem dX3_in_17 : decode cX3_in 17 = .ok (.iconst 0, 1) := by decide +kernel
theorem dX3_in_18 : decode cX3_in 18 = .ok (.ireturn, 1) := by decide +kernel
theorem dX3_lost_0 : decode cX3_lost 0 = .ok (.ldc2_w 64, 3) := by decide +kernel
theorem dX3_lost_3 : decode cX3_lost 3 = .ok (.lreturn, 1) := by decide +kernel
theorem dX3_isIn_0 : decode cX3_isIn 0 = .ok (.iload_n 0, 1) := by decide +kernel
theorem dX3_isIn_1 : decode cX3_isIn 1 = .ok (.iload_n 1, 1) := by decide +kernel
theorem dX3_isIn_2 : decode cX3_isIn 2 = .ok (.ishr, 1) := by decide +kernel
theorem dX3_isIn_3 : decode cX3_isIn 3 = .ok (.iconst 1, 1) := by decide +kernel
theorem dX3_isIn_4 : decode cX3_isIn 4 = .ok (.iand, 1) := by decide +kernel
theorem dX3_isIn_5 : decode cX3_isIn 5 = .ok (.iconst 1, 1) := by decide +kernel
theorem dX3_isIn_6 : decode cX3_isIn 6 = .ok (.if_icmp .ne 7, 3) := by decide +kernel
theorem dX3_isIn_9 : decode cX3_isIn 9 = .ok (.iconst 1, 1) := by decide +kernel
theorem dX3_isIn_10 : decode cX3_isIn 10 = .ok (.goto 4, 3) := by decide +kernel
theorem dX3_isIn_13 : decode cX3_isIn 13 = .ok (.iconst 0, 1) := by decide +kernel
theorem dX3_isIn_14 : decode cX3_isIn 14 = .ok (.ireturn, 1) := by decide +kernel
theorem dX3_share_0 : decode cX3_share 0 = .ok (.lload_n 0, 1) := by decide +kernel
theorem dX3_share_1 : decode cX3_share 1 = .ok (.lstore 5, 2) := by decide +kernel
theorem dX3_share_3 : decode cX3_share 3 = .ok (.lload_n 2, 1) := by decide +kernel
theorem dX3_share_4 : decode cX3_share 4 = .ok (.lstore 7, 2) := by decide +kernel
theorem dX3_share_6 : decode cX3_share 6 = .ok (.lload 7, 2) := by decide +kernel
theorem dX3_share_8 : decode cX3_share 8 = .ok (.lconst 0, 1) := by decide +kernel
theorem dX3_share_9 : decode cX3_share 9 = .ok (.lcmp, 1) := by decide +kernel
theorem dX3_share_10 : decode cX3_share 10 = .ok (.ifCond .eq 21, 3) := by decide +kernel
theorem dX3_share_13 : decode cX3_share 13 = .ok (.lload 5, 2) := by decide +kernel
theorem dX3_share_15 : decode cX3_share 15 = .ok (.lload 7, 2) := by decide +kernel
theorem dX3_share_17 : decode cX3_share 17 = .ok (.lrem, 1) := by decide +kernel
theorem dX3_share_18 : decode cX3_share 18 = .ok (.lstore 9, 2) := by decide +kernel
theorem dX3_share_20 : decode cX3_share 20 = .ok (.lload 7, 2) := by decide +kernel
theorem dX3_share_22 : decode cX3_share 22 = .ok (.lstore 5, 2) := by decide +kernel
theorem dX3_share_24 : decode cX3_share 24 = .ok (.lload 9, 2) := by decide +kernel
theorem dX3_share_26 : decode cX3_share 26 = .ok (.lstore 7, 2) := by decide +kernel
theorem dX3_share_28 : decode cX3_share 28 = .ok (.goto (-22), 3) := by decide +kernel
theorem dX3_share_31 : decode cX3_share 31 = .ok (.iload 4, 2) := by decide +kernel
theorem dX3_share_33 : decode cX3_share 33 = .ok (.ifCond .ne 7, 3) := by decide +kernel
theorem dX3_share_36 : decode cX3_share 36 = .ok (.lload_n 0, 1) := by decide +kernel
theorem dX3_share_37 : decode cX3_share 37 = .ok (.goto 4, 3) := by decide +kernel
theorem dX3_share_40 : decode cX3_share 40 = .ok (.lload_n 2, 1) := by decide +kernel
theorem dX3_share_41 : decode cX3_share 41 = .ok (.lload 5, 2) := by decide +kernel
theorem dX3_share_43 : decode cX3_share 43 = .ok (.ldiv, 1) := by decide +kernel
theorem dX3_share_44 : decode cX3_share 44 = .ok (.lreturn, 1) := by decide +kernel
theorem dX3_refused_0 : decode cX3_refused 0 = .ok (.aload_n 0, 1) := by decide +kernel
theorem dX3_refused_1 : decode cX3_refused 1 = .ok (.iconst 0, 1) := by decide +kernel
theorem dX3_refused_2 : decode cX3_refused 2 = .ok (.putfield 66, 3) := by decide +kernel
theorem dX3_refused_5 : decode cX3_refused 5 = .ok (.iload_n 1, 1) := by decide +kernel
theorem dX3_refused_6 : decode cX3_refused 6 = .ok (.ireturn, 1) := by decide +kernel
theorem dX3_failed_0 : decode cX3_failed 0 = .ok (.aload_n 0, 1) := by decide +kernel
theorem dX3_failed_1 : decode cX3_failed 1 = .ok (.iload_n 1, 1) := by decide +kernel
theorem dX3_failed_2 : decode cX3_failed 2 = .ok (.putfield 66, 3) := by decide +kernel
theorem dX3_failed_5 : decode cX3_failed 5 = .ok (.bipush (-10), 2) := by decide +kernel
theorem dX3_failed_7 : decode cX3_failed 7 = .ok (.iload_n 1, 1) := by decide +kernel
theorem dX3_failed_8 : decode cX3_failed 8 = .ok (.isub, 1) := by decide +kernel
theorem dX3_failed_9 : decode cX3_failed 9 = .ok (.ireturn, 1) := by decide +kernel
theorem dX3_failedLong_0 : decode cX3_failedLong 0 = .ok (.aload_n 0, 1) := by decide +kernel
theorem dX3_failedLong_1 : decode cX3_failedLong 1 = .ok (.iload_n 1, 1) := by decide +kernel
theorem dX3_failedLong_2 : decode cX3_failedLong 2 = .ok (.putfield 66, 3) := by decide +kernel
theorem dX3_failedLong_5 : decode cX3_failedLong 5 = .ok (.invokestatic 70, 3) := by decide +kernel
theorem dX3_failedLong_8 : decode cX3_failedLong 8 = .ok (.lreturn, 1) := by decide +kernel
theorem dX3_noHouse_0 : decode cX3_noHouse 0 = .ok (.iload_n 1, 1) := by decide +kernel
theorem dX3_noHouse_1 : decode cX3_noHouse 1 = .ok (.i2l, 1) := by decide +kernel
theorem dX3_noHouse_2 : decode cX3_noHouse 2 = .ok (.lconst 0, 1) := by decide +kernel
theorem dX3_noHouse_3 : decode cX3_noHouse 3 = .ok (.aload_n 0, 1) := by decide +kernel
theorem dX3_noHouse_4 : decode cX3_noHouse 4 = .ok (.getfield 74, 3) := by decide +kernel
theorem dX3_noHouse_7 : decode cX3_noHouse 7 = .ok (.i2l, 1) := by decide +kernel
theorem dX3_noHouse_8 : decode cX3_noHouse 8 = .ok (.lconst 1, 1) := by decide +kernel
theorem dX3_noHouse_9 : decode cX3_noHouse 9 = .ok (.lsub, 1) := by decide +kernel
theorem dX3_noHouse_10 : decode cX3_noHouse 10 = .ok (.invokestatic 77, 3) := by decide +kernel
theorem dX3_noHouse_13 : decode cX3_noHouse 13 = .ok (.ifCond .ne 7, 3) := by decide +kernel
theorem dX3_noHouse_16 : decode cX3_noHouse 16 = .ok (.iconst 1, 1) := by decide +kernel
theorem dX3_noHouse_17 : decode cX3_noHouse 17 = .ok (.goto 4, 3) := by decide +kernel
theorem dX3_noHouse_20 : decode cX3_noHouse 20 = .ok (.iconst 0, 1) := by decide +kernel
theorem dX3_noHouse_21 : decode cX3_noHouse 21 = .ok (.ireturn, 1) := by decide +kernel
theorem dX3_isCrate_0 : decode cX3_isCrate 0 = .ok (.iload_n 0, 1) := by decide +kernel
theorem dX3_isCrate_1 : decode cX3_isCrate 1 = .ok (.i2l, 1) := by decide +kernel
theorem dX3_isCrate_2 : decode cX3_isCrate 2 = .ok (.lconst 0, 1) := by decide +kernel
theorem dX3_isCrate_3 : decode cX3_isCrate 3 = .ok (.ldc2_w 81, 3) := by decide +kernel
theorem dX3_isCrate_6 : decode cX3_isCrate 6 = .ok (.invokestatic 77, 3) := by decide +kernel
theorem dX3_isCrate_9 : decode cX3_isCrate 9 = .ok (.ireturn, 1) := by decide +kernel
theorem dX3_codeAt_0 : decode cX3_codeAt 0 = .ok (.aload_n 0, 1) := by decide +kernel
theorem dX3_codeAt_1 : decode cX3_codeAt 1 = .ok (.getfield 83, 3) := by decide +kernel
theorem dX3_codeAt_4 : decode cX3_codeAt 4 = .ok (.iload_n 2, 1) := by decide +kernel
theorem dX3_codeAt_5 : decode cX3_codeAt 5 = .ok (.if_icmp .ge 17, 3) := by decide +kernel
theorem dX3_codeAt_8 : decode cX3_codeAt 8 = .ok (.aload_n 0, 1) := by decide +kernel
theorem dX3_codeAt_9 : decode cX3_codeAt 9 = .ok (.getfield 58, 3) := by decide +kernel
theorem dX3_codeAt_12 : decode cX3_codeAt 12 = .ok (.iload_n 1, 1) := by decide +kernel
theorem dX3_codeAt_13 : decode cX3_codeAt 13 = .ok (.aload_n 0, 1) := by decide +kernel
theorem dX3_codeAt_14 : decode cX3_codeAt 14 = .ok (.getfield 83, 3) := by decide +kernel
theorem dX3_codeAt_17 : decode cX3_codeAt 17 = .ok (.iadd, 1) := by decide +kernel
theorem dX3_codeAt_18 : decode cX3_codeAt 18 = .ok (.iaload, 1) := by decide +kernel
theorem dX3_codeAt_19 : decode cX3_codeAt 19 = .ok (.goto 5, 3) := by decide +kernel
theorem dX3_codeAt_22 : decode cX3_codeAt 22 = .ok (.bipush (-9), 2) := by decide +kernel
theorem dX3_codeAt_24 : decode cX3_codeAt 24 = .ok (.ireturn, 1) := by decide +kernel
theorem dX3_figure_0 : decode cX3_figure 0 = .ok (.iload_n 3, 1) := by decide +kernel
theorem dX3_figure_1 : decode cX3_figure 1 = .ok (.ifCond .ge 8, 3) := by decide +kernel
theorem dX3_figure_4 : decode cX3_figure 4 = .ok (.bipush (-9), 2) := by decide +kernel
theorem dX3_figure_6 : decode cX3_figure 6 = .ok (.goto 12, 3) := by decide +kernel
theorem dX3_figure_9 : decode cX3_figure 9 = .ok (.aload_n 0, 1) := by decide +kernel
theorem dX3_figure_10 : decode cX3_figure 10 = .ok (.iload_n 1, 1) := by decide +kernel
theorem dX3_figure_11 : decode cX3_figure 11 = .ok (.iload_n 2, 1) := by decide +kernel
theorem dX3_figure_12 : decode cX3_figure 12 = .ok (.invokevirtual 86, 3) := by decide +kernel
theorem dX3_figure_15 : decode cX3_figure 15 = .ok (.bipush 48, 2) := by decide +kernel
theorem dX3_figure_17 : decode cX3_figure 17 = .ok (.isub, 1) := by decide +kernel
theorem dX3_figure_18 : decode cX3_figure 18 = .ok (.istore 4, 2) := by decide +kernel
theorem dX3_figure_20 : decode cX3_figure 20 = .ok (.iload 4, 2) := by decide +kernel
theorem dX3_figure_22 : decode cX3_figure 22 = .ok (.i2l, 1) := by decide +kernel
theorem dX3_figure_23 : decode cX3_figure 23 = .ok (.lconst 0, 1) := by decide +kernel
theorem dX3_figure_24 : decode cX3_figure 24 = .ok (.ldc2_w 90, 3) := by decide +kernel
theorem dX3_figure_27 : decode cX3_figure 27 = .ok (.invokestatic 77, 3) := by decide +kernel
theorem dX3_figure_30 : decode cX3_figure 30 = .ok (.istore 5, 2) := by decide +kernel
theorem dX3_figure_32 : decode cX3_figure 32 = .ok (.aload_n 0, 1) := by decide +kernel
theorem dX3_figure_33 : decode cX3_figure 33 = .ok (.dup, 1) := by decide +kernel
theorem dX3_figure_34 : decode cX3_figure 34 = .ok (.getfield 83, 3) := by decide +kernel
theorem dX3_figure_37 : decode cX3_figure 37 = .ok (.iload 5, 2) := by decide +kernel
theorem dX3_figure_39 : decode cX3_figure 39 = .ok (.ifCond .eq 7, 3) := by decide +kernel
theorem dX3_figure_42 : decode cX3_figure 42 = .ok (.iconst 1, 1) := by decide +kernel
theorem dX3_figure_43 : decode cX3_figure 43 = .ok (.goto 4, 3) := by decide +kernel
theorem dX3_figure_46 : decode cX3_figure 46 = .ok (.iconst 0, 1) := by decide +kernel
theorem dX3_figure_47 : decode cX3_figure 47 = .ok (.iadd, 1) := by decide +kernel
theorem dX3_figure_48 : decode cX3_figure 48 = .ok (.putfield 83, 3) := by decide +kernel
theorem dX3_figure_51 : decode cX3_figure 51 = .ok (.iload 5, 2) := by decide +kernel
theorem dX3_figure_53 : decode cX3_figure 53 = .ok (.ifCond .eq 8, 3) := by decide +kernel
theorem dX3_figure_56 : decode cX3_figure 56 = .ok (.iload 4, 2) := by decide +kernel
theorem dX3_figure_58 : decode cX3_figure 58 = .ok (.goto 5, 3) := by decide +kernel
theorem dX3_figure_61 : decode cX3_figure 61 = .ok (.bipush (-9), 2) := by decide +kernel
theorem dX3_figure_63 : decode cX3_figure 63 = .ok (.ireturn, 1) := by decide +kernel
theorem dX3_readsHouse_0 : decode cX3_readsHouse 0 = .ok (.aload_n 0, 1) := by decide +kernel
theorem dX3_readsHouse_1 : decode cX3_readsHouse 1 = .ok (.getfield 92, 3) := by decide +kernel
theorem dX3_readsHouse_4 : decode cX3_readsHouse 4 = .ok (.bipush 8, 2) := by decide +kernel
theorem dX3_readsHouse_6 : decode cX3_readsHouse 6 = .ok (.if_icmp .eq 14, 3) := by decide +kernel
theorem dX3_readsHouse_9 : decode cX3_readsHouse 9 = .ok (.aload_n 0, 1) := by decide +kernel
theorem dX3_readsHouse_10 : decode cX3_readsHouse 10 = .ok (.iload_n 1, 1) := by decide +kernel
theorem dX3_readsHouse_11 : decode cX3_readsHouse 11 = .ok (.iload_n 2, 1) := by decide +kernel
theorem dX3_readsHouse_12 : decode cX3_readsHouse 12 = .ok (.invokevirtual 86, 3) := by decide +kernel
theorem dX3_readsHouse_15 : decode cX3_readsHouse 15 = .ok (.bipush 59, 2) := by decide +kernel
theorem dX3_readsHouse_17 : decode cX3_readsHouse 17 = .ok (.if_icmp .eq 5, 3) := by decide +kernel
theorem dX3_readsHouse_20 : decode cX3_readsHouse 20 = .ok (.iconst 0, 1) := by decide +kernel
theorem dX3_readsHouse_21 : decode cX3_readsHouse 21 = .ok (.ireturn, 1) := by decide +kernel
theorem dX3_readsHouse_22 : decode cX3_readsHouse 22 = .ok (.aload_n 0, 1) := by decide +kernel
theorem dX3_readsHouse_23 : decode cX3_readsHouse 23 = .ok (.dup, 1) := by decide +kernel
theorem dX3_readsHouse_24 : decode cX3_readsHouse 24 = .ok (.getfield 83, 3) := by decide +kernel
theorem dX3_readsHouse_27 : decode cX3_readsHouse 27 = .ok (.iconst 1, 1) := by decide +kernel
theorem dX3_readsHouse_28 : decode cX3_readsHouse 28 = .ok (.iadd, 1) := by decide +kernel
theorem dX3_readsHouse_29 : decode cX3_readsHouse 29 = .ok (.putfield 83, 3) := by decide +kernel
theorem dX3_readsHouse_32 : decode cX3_readsHouse 32 = .ok (.aload_n 0, 1) := by decide +kernel
theorem dX3_readsHouse_33 : decode cX3_readsHouse 33 = .ok (.iload_n 1, 1) := by decide +kernel
theorem dX3_readsHouse_34 : decode cX3_readsHouse 34 = .ok (.iload_n 2, 1) := by decide +kernel
theorem dX3_readsHouse_35 : decode cX3_readsHouse 35 = .ok (.invokevirtual 86, 3) := by decide +kernel
theorem dX3_readsHouse_38 : decode cX3_readsHouse 38 = .ok (.istore_n 3, 1) := by decide +kernel
theorem dX3_readsHouse_39 : decode cX3_readsHouse 39 = .ok (.iload_n 3, 1) := by decide +kernel
theorem dX3_readsHouse_40 : decode cX3_readsHouse 40 = .ok (.bipush 112, 2) := by decide +kernel
theorem dX3_readsHouse_42 : decode cX3_readsHouse 42 = .ok (.if_icmp .eq 17, 3) := by decide +kernel
theorem dX3_readsHouse_45 : decode cX3_readsHouse 45 = .ok (.iload_n 3, 1) := by decide +kernel
theorem dX3_readsHouse_46 : decode cX3_readsHouse 46 = .ok (.bipush 116, 2) := by decide +kernel
theorem dX3_readsHouse_48 : decode cX3_readsHouse 48 = .ok (.if_icmp .eq 11, 3) := by decide +kernel
theorem dX3_readsHouse_51 : decode cX3_readsHouse 51 = .ok (.iload_n 3, 1) := by decide +kernel
theorem dX3_readsHouse_52 : decode cX3_readsHouse 52 = .ok (.bipush 98, 2) := by decide +kernel
theorem dX3_readsHouse_54 : decode cX3_readsHouse 54 = .ok (.if_icmp .eq 5, 3) := by decide +kernel
theorem dX3_readsHouse_57 : decode cX3_readsHouse 57 = .ok (.iconst 0, 1) := by decide +kernel
theorem dX3_readsHouse_58 : decode cX3_readsHouse 58 = .ok (.ireturn, 1) := by decide +kernel
theorem dX3_readsHouse_59 : decode cX3_readsHouse 59 = .ok (.aload_n 0, 1) := by decide +kernel
theorem dX3_readsHouse_60 : decode cX3_readsHouse 60 = .ok (.dup, 1) := by decide +kernel
theorem dX3_readsHouse_61 : decode cX3_readsHouse 61 = .ok (.getfield 83, 3) := by decide +kernel
theorem dX3_readsHouse_64 : decode cX3_readsHouse 64 = .ok (.iconst 1, 1) := by decide +kernel
theorem dX3_readsHouse_65 : decode cX3_readsHouse 65 = .ok (.iadd, 1) := by decide +kernel
theorem dX3_readsHouse_66 : decode cX3_readsHouse 66 = .ok (.putfield 83, 3) := by decide +kernel
theorem dX3_readsHouse_69 : decode cX3_readsHouse 69 = .ok (.aload_n 0, 1) := by decide +kernel
theorem dX3_readsHouse_70 : decode cX3_readsHouse 70 = .ok (.iload_n 1, 1) := by decide +kernel
theorem dX3_readsHouse_71 : decode cX3_readsHouse 71 = .ok (.iload_n 2, 1) := by decide +kernel
theorem dX3_readsHouse_72 : decode cX3_readsHouse 72 = .ok (.iconst 0, 1) := by decide +kernel
theorem dX3_readsHouse_73 : decode cX3_readsHouse 73 = .ok (.invokevirtual 95, 3) := by decide +kernel
theorem dX3_readsHouse_76 : decode cX3_readsHouse 76 = .ok (.istore 4, 2) := by decide +kernel
theorem dX3_readsHouse_78 : decode cX3_readsHouse 78 = .ok (.aload_n 0, 1) := by decide +kernel
theorem dX3_readsHouse_79 : decode cX3_readsHouse 79 = .ok (.iload_n 1, 1) := by decide +kernel
theorem dX3_readsHouse_80 : decode cX3_readsHouse 80 = .ok (.iload_n 2, 1) := by decide +kernel
theorem dX3_readsHouse_81 : decode cX3_readsHouse 81 = .ok (.iload 4, 2) := by decide +kernel
theorem dX3_readsHouse_83 : decode cX3_readsHouse 83 = .ok (.invokevirtual 95, 3) := by decide +kernel
theorem dX3_readsHouse_86 : decode cX3_readsHouse 86 = .ok (.istore 5, 2) := by decide +kernel
theorem dX3_readsHouse_88 : decode cX3_readsHouse 88 = .ok (.aload_n 0, 1) := by decide +kernel
theorem dX3_readsHouse_89 : decode cX3_readsHouse 89 = .ok (.getfield 22, 3) := by decide +kernel
theorem dX3_readsHouse_92 : decode cX3_readsHouse 92 = .ok (.aload_n 0, 1) := by decide +kernel
theorem dX3_readsHouse_93 : decode cX3_readsHouse 93 = .ok (.getfield 92, 3) := by decide +kernel
theorem dX3_readsHouse_96 : decode cX3_readsHouse 96 = .ok (.iload_n 3, 1) := by decide +kernel
theorem dX3_readsHouse_97 : decode cX3_readsHouse 97 = .ok (.bipush 112, 2) := by decide +kernel
theorem dX3_readsHouse_99 : decode cX3_readsHouse 99 = .ok (.if_icmp .ne 7, 3) := by decide +kernel
theorem dX3_readsHouse_102 : decode cX3_readsHouse 102 = .ok (.iconst 0, 1) := by decide +kernel
theorem dX3_readsHouse_103 : decode cX3_readsHouse 103 = .ok (.goto 14, 3) := by decide +kernel
theorem dX3_readsHouse_106 : decode cX3_readsHouse 106 = .ok (.iload_n 3, 1) := by decide +kernel
theorem dX3_readsHouse_107 : decode cX3_readsHouse 107 = .ok (.bipush 116, 2) := by decide +kernel
theorem dX3_readsHouse_109 : decode cX3_readsHouse 109 = .ok (.if_icmp .ne 7, 3) := by decide +kernel
theorem dX3_readsHouse_112 : decode cX3_readsHouse 112 = .ok (.iconst 1, 1) := by decide +kernel
theorem dX3_readsHouse_113 : decode cX3_readsHouse 113 = .ok (.goto 4, 3) := by decide +kernel
theorem dX3_readsHouse_116 : decode cX3_readsHouse 116 = .ok (.iconst 2, 1) := by decide +kernel
theorem dX3_readsHouse_117 : decode cX3_readsHouse 117 = .ok (.iastore, 1) := by decide +kernel
theorem dX3_readsHouse_118 : decode cX3_readsHouse 118 = .ok (.aload_n 0, 1) := by decide +kernel
theorem dX3_readsHouse_119 : decode cX3_readsHouse 119 = .ok (.getfield 25, 3) := by decide +kernel
theorem dX3_readsHouse_122 : decode cX3_readsHouse 122 = .ok (.aload_n 0, 1) := by decide +kernel
theorem dX3_readsHouse_123 : decode cX3_readsHouse 123 = .ok (.getfield 92, 3) := by decide +kernel
theorem dX3_readsHouse_126 : decode cX3_readsHouse 126 = .ok (.iload 4, 2) := by decide +kernel
theorem dX3_readsHouse_128 : decode cX3_readsHouse 128 = .ok (.iastore, 1) := by decide +kernel
theorem dX3_readsHouse_129 : decode cX3_readsHouse 129 = .ok (.aload_n 0, 1) := by decide +kernel
theorem dX3_readsHouse_130 : decode cX3_readsHouse 130 = .ok (.getfield 28, 3) := by decide +kernel
theorem dX3_readsHouse_133 : decode cX3_readsHouse 133 = .ok (.aload_n 0, 1) := by decide +kernel
theorem dX3_readsHouse_134 : decode cX3_readsHouse 134 = .ok (.getfield 92, 3) := by decide +kernel
theorem dX3_readsHouse_137 : decode cX3_readsHouse 137 = .ok (.iload 5, 2) := by decide +kernel
theorem dX3_readsHouse_139 : decode cX3_readsHouse 139 = .ok (.iastore, 1) := by decide +kernel
theorem dX3_readsHouse_140 : decode cX3_readsHouse 140 = .ok (.aload_n 0, 1) := by decide +kernel
theorem dX3_readsHouse_141 : decode cX3_readsHouse 141 = .ok (.dup, 1) := by decide +kernel
theorem dX3_readsHouse_142 : decode cX3_readsHouse 142 = .ok (.getfield 92, 3) := by decide +kernel
theorem dX3_readsHouse_145 : decode cX3_readsHouse 145 = .ok (.iconst 1, 1) := by decide +kernel
theorem dX3_readsHouse_146 : decode cX3_readsHouse 146 = .ok (.iadd, 1) := by decide +kernel
theorem dX3_readsHouse_147 : decode cX3_readsHouse 147 = .ok (.putfield 92, 3) := by decide +kernel
theorem dX3_readsHouse_150 : decode cX3_readsHouse 150 = .ok (.iload 5, 2) := by decide +kernel
theorem dX3_readsHouse_152 : decode cX3_readsHouse 152 = .ok (.ifCond .lt 7, 3) := by decide +kernel
theorem dX3_readsHouse_155 : decode cX3_readsHouse 155 = .ok (.iconst 1, 1) := by decide +kernel
theorem dX3_readsHouse_156 : decode cX3_readsHouse 156 = .ok (.goto 4, 3) := by decide +kernel
theorem dX3_readsHouse_159 : decode cX3_readsHouse 159 = .ok (.iconst 0, 1) := by decide +kernel
theorem dX3_readsHouse_160 : decode cX3_readsHouse 160 = .ok (.ireturn, 1) := by decide +kernel
theorem dX3_readsStreet_0 : decode cX3_readsStreet 0 = .ok (.aload_n 0, 1) := by decide +kernel
theorem dX3_readsStreet_1 : decode cX3_readsStreet 1 = .ok (.iconst 0, 1) := by decide +kernel
theorem dX3_readsStreet_2 : decode cX3_readsStreet 2 = .ok (.putfield 83, 3) := by decide +kernel
theorem dX3_readsStreet_5 : decode cX3_readsStreet 5 = .ok (.aload_n 0, 1) := by decide +kernel
theorem dX3_readsStreet_6 : decode cX3_readsStreet 6 = .ok (.iconst 0, 1) := by decide +kernel
theorem dX3_readsStreet_7 : decode cX3_readsStreet 7 = .ok (.putfield 92, 3) := by decide +kernel
theorem dX3_readsStreet_10 : decode cX3_readsStreet 10 = .ok (.aload_n 0, 1) := by decide +kernel
theorem dX3_readsStreet_11 : decode cX3_readsStreet 11 = .ok (.iload_n 1, 1) := by decide +kernel
theorem dX3_readsStreet_12 : decode cX3_readsStreet 12 = .ok (.iload_n 2, 1) := by decide +kernel
theorem dX3_readsStreet_13 : decode cX3_readsStreet 13 = .ok (.invokevirtual 86, 3) := by decide +kernel
theorem dX3_readsStreet_16 : decode cX3_readsStreet 16 = .ok (.bipush 108, 2) := by decide +kernel
theorem dX3_readsStreet_18 : decode cX3_readsStreet 18 = .ok (.if_icmp .eq 5, 3) := by decide +kernel
theorem dX3_readsStreet_21 : decode cX3_readsStreet 21 = .ok (.iconst 0, 1) := by decide +kernel
theorem dX3_readsStreet_22 : decode cX3_readsStreet 22 = .ok (.ireturn, 1) := by decide +kernel
theorem dX3_readsStreet_23 : decode cX3_readsStreet 23 = .ok (.aload_n 0, 1) := by decide +kernel
theorem dX3_readsStreet_24 : decode cX3_readsStreet 24 = .ok (.dup, 1) := by decide +kernel
theorem dX3_readsStreet_25 : decode cX3_readsStreet 25 = .ok (.getfield 83, 3) := by decide +kernel
theorem dX3_readsStreet_28 : decode cX3_readsStreet 28 = .ok (.iconst 1, 1) := by decide +kernel
theorem dX3_readsStreet_29 : decode cX3_readsStreet 29 = .ok (.iadd, 1) := by decide +kernel
theorem dX3_readsStreet_30 : decode cX3_readsStreet 30 = .ok (.putfield 83, 3) := by decide +kernel
theorem dX3_readsStreet_33 : decode cX3_readsStreet 33 = .ok (.aload_n 0, 1) := by decide +kernel
theorem dX3_readsStreet_34 : decode cX3_readsStreet 34 = .ok (.iload_n 1, 1) := by decide +kernel
theorem dX3_readsStreet_35 : decode cX3_readsStreet 35 = .ok (.iload_n 2, 1) := by decide +kernel
theorem dX3_readsStreet_36 : decode cX3_readsStreet 36 = .ok (.iconst 0, 1) := by decide +kernel
theorem dX3_readsStreet_37 : decode cX3_readsStreet 37 = .ok (.invokevirtual 95, 3) := by decide +kernel
theorem dX3_readsStreet_40 : decode cX3_readsStreet 40 = .ok (.istore_n 3, 1) := by decide +kernel
theorem dX3_readsStreet_41 : decode cX3_readsStreet 41 = .ok (.aload_n 0, 1) := by decide +kernel
theorem dX3_readsStreet_42 : decode cX3_readsStreet 42 = .ok (.iload_n 1, 1) := by decide +kernel
theorem dX3_readsStreet_43 : decode cX3_readsStreet 43 = .ok (.iload_n 2, 1) := by decide +kernel
theorem dX3_readsStreet_44 : decode cX3_readsStreet 44 = .ok (.iload_n 3, 1) := by decide +kernel
theorem dX3_readsStreet_45 : decode cX3_readsStreet 45 = .ok (.invokevirtual 95, 3) := by decide +kernel
theorem dX3_readsStreet_48 : decode cX3_readsStreet 48 = .ok (.istore 4, 2) := by decide +kernel
theorem dX3_readsStreet_50 : decode cX3_readsStreet 50 = .ok (.aload_n 0, 1) := by decide +kernel
theorem dX3_readsStreet_51 : decode cX3_readsStreet 51 = .ok (.bipush 10, 2) := by decide +kernel
theorem dX3_readsStreet_53 : decode cX3_readsStreet 53 = .ok (.iload_n 3, 1) := by decide +kernel
theorem dX3_readsStreet_54 : decode cX3_readsStreet 54 = .ok (.imul, 1) := by decide +kernel
theorem dX3_readsStreet_55 : decode cX3_readsStreet 55 = .ok (.iload 4, 2) := by decide +kernel
theorem dX3_readsStreet_57 : decode cX3_readsStreet 57 = .ok (.iadd, 1) := by decide +kernel
theorem dX3_readsStreet_58 : decode cX3_readsStreet 58 = .ok (.putfield 99, 3) := by decide +kernel
theorem dX3_readsStreet_61 : decode cX3_readsStreet 61 = .ok (.iload 4, 2) := by decide +kernel
theorem dX3_readsStreet_63 : decode cX3_readsStreet 63 = .ok (.ifCond .lt 7, 3) := by decide +kernel
theorem dX3_readsStreet_66 : decode cX3_readsStreet 66 = .ok (.iconst 1, 1) := by decide +kernel
theorem dX3_readsStreet_67 : decode cX3_readsStreet 67 = .ok (.goto 4, 3) := by decide +kernel
theorem dX3_readsStreet_70 : decode cX3_readsStreet 70 = .ok (.iconst 0, 1) := by decide +kernel
theorem dX3_readsStreet_71 : decode cX3_readsStreet 71 = .ok (.istore 5, 2) := by decide +kernel
theorem dX3_readsStreet_73 : decode cX3_readsStreet 73 = .ok (.iload 5, 2) := by decide +kernel
theorem dX3_readsStreet_75 : decode cX3_readsStreet 75 = .ok (.ifCond .eq 30, 3) := by decide +kernel
theorem dX3_readsStreet_78 : decode cX3_readsStreet 78 = .ok (.aload_n 0, 1) := by decide +kernel
theorem dX3_readsStreet_79 : decode cX3_readsStreet 79 = .ok (.getfield 92, 3) := by decide +kernel
theorem dX3_readsStreet_82 : decode cX3_readsStreet 82 = .ok (.iconst 1, 1) := by decide +kernel
theorem dX3_readsStreet_83 : decode cX3_readsStreet 83 = .ok (.if_icmp .lt 11, 3) := by decide +kernel
theorem dX3_readsStreet_86 : decode cX3_readsStreet 86 = .ok (.aload_n 0, 1) := by decide +kernel
theorem dX3_readsStreet_87 : decode cX3_readsStreet 87 = .ok (.getfield 83, 3) := by decide +kernel
theorem dX3_readsStreet_90 : decode cX3_readsStreet 90 = .ok (.iload_n 2, 1) := by decide +kernel
theorem dX3_readsStreet_91 : decode cX3_readsStreet 91 = .ok (.if_icmp .ge 14, 3) := by decide +kernel
theorem dX3_readsStreet_94 : decode cX3_readsStreet 94 = .ok (.aload_n 0, 1) := by decide +kernel
theorem dX3_readsStreet_95 : decode cX3_readsStreet 95 = .ok (.iload_n 1, 1) := by decide +kernel
theorem dX3_readsStreet_96 : decode cX3_readsStreet 96 = .ok (.iload_n 2, 1) := by decide +kernel
theorem dX3_readsStreet_97 : decode cX3_readsStreet 97 = .ok (.invokevirtual 102, 3) := by decide +kernel
theorem dX3_readsStreet_100 : decode cX3_readsStreet 100 = .ok (.istore 5, 2) := by decide +kernel
theorem dX3_readsStreet_102 : decode cX3_readsStreet 102 = .ok (.goto (-29), 3) := by decide +kernel
theorem dX3_readsStreet_105 : decode cX3_readsStreet 105 = .ok (.iload 5, 2) := by decide +kernel
theorem dX3_readsStreet_107 : decode cX3_readsStreet 107 = .ok (.ireturn, 1) := by decide +kernel
theorem dX3_cellsBarred_0 : decode cX3_cellsBarred 0 = .ok (.aload_n 0, 1) := by decide +kernel
theorem dX3_cellsBarred_1 : decode cX3_cellsBarred 1 = .ok (.getfield 52, 3) := by decide +kernel
theorem dX3_cellsBarred_4 : decode cX3_cellsBarred 4 = .ok (.iload_n 1, 1) := by decide +kernel
theorem dX3_cellsBarred_5 : decode cX3_cellsBarred 5 = .ok (.iaload, 1) := by decide +kernel
theorem dX3_cellsBarred_6 : decode cX3_cellsBarred 6 = .ok (.ifCond .lt 19, 3) := by decide +kernel
theorem dX3_cellsBarred_9 : decode cX3_cellsBarred 9 = .ok (.aload_n 0, 1) := by decide +kernel
theorem dX3_cellsBarred_10 : decode cX3_cellsBarred 10 = .ok (.getfield 55, 3) := by decide +kernel
theorem dX3_cellsBarred_13 : decode cX3_cellsBarred 13 = .ok (.iload_n 1, 1) := by decide +kernel
theorem dX3_cellsBarred_14 : decode cX3_cellsBarred 14 = .ok (.iaload, 1) := by decide +kernel
theorem dX3_cellsBarred_15 : decode cX3_cellsBarred 15 = .ok (.iload_n 2, 1) := by decide +kernel
theorem dX3_cellsBarred_16 : decode cX3_cellsBarred 16 = .ok (.if_icmp .eq 9, 3) := by decide +kernel
theorem dX3_cellsBarred_19 : decode cX3_cellsBarred 19 = .ok (.aload_n 0, 1) := by decide +kernel
theorem dX3_cellsBarred_20 : decode cX3_cellsBarred 20 = .ok (.iconst 2, 1) := by decide +kernel
theorem dX3_cellsBarred_21 : decode cX3_cellsBarred 21 = .ok (.invokevirtual 106, 3) := by decide +kernel
theorem dX3_cellsBarred_24 : decode cX3_cellsBarred 24 = .ok (.ireturn, 1) := by decide +kernel
theorem dX3_cellsBarred_25 : decode cX3_cellsBarred 25 = .ok (.aload_n 0, 1) := by decide +kernel
theorem dX3_cellsBarred_26 : decode cX3_cellsBarred 26 = .ok (.getfield 52, 3) := by decide +kernel
theorem dX3_cellsBarred_29 : decode cX3_cellsBarred 29 = .ok (.iload_n 1, 1) := by decide +kernel
theorem dX3_cellsBarred_30 : decode cX3_cellsBarred 30 = .ok (.iaload, 1) := by decide +kernel
theorem dX3_cellsBarred_31 : decode cX3_cellsBarred 31 = .ok (.ifCond .ge 9, 3) := by decide +kernel
theorem dX3_cellsBarred_34 : decode cX3_cellsBarred 34 = .ok (.aload_n 0, 1) := by decide +kernel
theorem dX3_cellsBarred_35 : decode cX3_cellsBarred 35 = .ok (.iconst 1, 1) := by decide +kernel
theorem dX3_cellsBarred_36 : decode cX3_cellsBarred 36 = .ok (.invokevirtual 106, 3) := by decide +kernel
theorem dX3_cellsBarred_39 : decode cX3_cellsBarred 39 = .ok (.ireturn, 1) := by decide +kernel
theorem dX3_cellsBarred_40 : decode cX3_cellsBarred 40 = .ok (.lload 4, 2) := by decide +kernel
theorem dX3_cellsBarred_42 : decode cX3_cellsBarred 42 = .ok (.lconst 0, 1) := by decide +kernel
theorem dX3_cellsBarred_43 : decode cX3_cellsBarred 43 = .ok (.lcmp, 1) := by decide +kernel
theorem dX3_cellsBarred_44 : decode cX3_cellsBarred 44 = .ok (.ifCond .ge 9, 3) := by decide +kernel
theorem dX3_cellsBarred_47 : decode cX3_cellsBarred 47 = .ok (.aload_n 0, 1) := by decide +kernel
theorem dX3_cellsBarred_48 : decode cX3_cellsBarred 48 = .ok (.iconst 4, 1) := by decide +kernel
theorem dX3_cellsBarred_49 : decode cX3_cellsBarred 49 = .ok (.invokevirtual 106, 3) := by decide +kernel
theorem dX3_cellsBarred_52 : decode cX3_cellsBarred 52 = .ok (.ireturn, 1) := by decide +kernel
theorem dX3_cellsBarred_53 : decode cX3_cellsBarred 53 = .ok (.iload_n 3, 1) := by decide +kernel
theorem dX3_cellsBarred_54 : decode cX3_cellsBarred 54 = .ok (.lload 4, 2) := by decide +kernel
theorem dX3_cellsBarred_56 : decode cX3_cellsBarred 56 = .ok (.aload_n 0, 1) := by decide +kernel
theorem dX3_cellsBarred_57 : decode cX3_cellsBarred 57 = .ok (.getfield 52, 3) := by decide +kernel
theorem dX3_cellsBarred_60 : decode cX3_cellsBarred 60 = .ok (.iload_n 1, 1) := by decide +kernel
theorem dX3_cellsBarred_61 : decode cX3_cellsBarred 61 = .ok (.iaload, 1) := by decide +kernel
theorem dX3_cellsBarred_62 : decode cX3_cellsBarred 62 = .ok (.invokestatic 110, 3) := by decide +kernel
theorem dX3_cellsBarred_65 : decode cX3_cellsBarred 65 = .ok (.ifCond .eq 11, 3) := by decide +kernel
theorem dX3_cellsBarred_68 : decode cX3_cellsBarred 68 = .ok (.aload_n 0, 1) := by decide +kernel
theorem dX3_cellsBarred_69 : decode cX3_cellsBarred 69 = .ok (.iconst 3, 1) := by decide +kernel
theorem dX3_cellsBarred_70 : decode cX3_cellsBarred 70 = .ok (.invokevirtual 106, 3) := by decide +kernel
theorem dX3_cellsBarred_73 : decode cX3_cellsBarred 73 = .ok (.goto 4, 3) := by decide +kernel
theorem dX3_cellsBarred_76 : decode cX3_cellsBarred 76 = .ok (.iconst 0, 1) := by decide +kernel
theorem dX3_cellsBarred_77 : decode cX3_cellsBarred 77 = .ok (.ireturn, 1) := by decide +kernel
theorem dX3_street_0 : decode cX3_street 0 = .ok (.iload_n 1, 1) := by decide +kernel
theorem dX3_street_1 : decode cX3_street 1 = .ok (.invokestatic 114, 3) := by decide +kernel
theorem dX3_street_4 : decode cX3_street 4 = .ok (.ifCond .eq 9, 3) := by decide +kernel
theorem dX3_street_7 : decode cX3_street 7 = .ok (.aload_n 0, 1) := by decide +kernel
theorem dX3_street_8 : decode cX3_street 8 = .ok (.iconst (-1), 1) := by decide +kernel
theorem dX3_street_9 : decode cX3_street 9 = .ok (.invokevirtual 118, 3) := by decide +kernel
theorem dX3_street_12 : decode cX3_street 12 = .ok (.ireturn, 1) := by decide +kernel
theorem dX3_street_13 : decode cX3_street 13 = .ok (.iload_n 2, 1) := by decide +kernel
theorem dX3_street_14 : decode cX3_street 14 = .ok (.i2l, 1) := by decide +kernel
theorem dX3_street_15 : decode cX3_street 15 = .ok (.lconst 0, 1) := by decide +kernel
theorem dX3_street_16 : decode cX3_street 16 = .ok (.ldc2_w 121, 3) := by decide +kernel
theorem dX3_street_19 : decode cX3_street 19 = .ok (.invokestatic 77, 3) := by decide +kernel
theorem dX3_street_22 : decode cX3_street 22 = .ok (.ifCond .ne 10, 3) := by decide +kernel
theorem dX3_street_25 : decode cX3_street 25 = .ok (.aload_n 0, 1) := by decide +kernel
theorem dX3_street_26 : decode cX3_street 26 = .ok (.bipush (-2), 2) := by decide +kernel
theorem dX3_street_28 : decode cX3_street 28 = .ok (.invokevirtual 118, 3) := by decide +kernel
theorem dX3_street_31 : decode cX3_street 31 = .ok (.ireturn, 1) := by decide +kernel
theorem dX3_street_32 : decode cX3_street 32 = .ok (.aload_n 0, 1) := by decide +kernel
theorem dX3_street_33 : decode cX3_street 33 = .ok (.iload_n 1, 1) := by decide +kernel
theorem dX3_street_34 : decode cX3_street 34 = .ok (.iload_n 2, 1) := by decide +kernel
theorem dX3_street_35 : decode cX3_street 35 = .ok (.iload_n 3, 1) := by decide +kernel
theorem dX3_street_36 : decode cX3_street 36 = .ok (.iload 4, 2) := by decide +kernel
theorem dX3_street_38 : decode cX3_street 38 = .ok (.i2l, 1) := by decide +kernel
theorem dX3_street_39 : decode cX3_street 39 = .ok (.invokevirtual 123, 3) := by decide +kernel
theorem dX3_street_42 : decode cX3_street 42 = .ok (.istore 5, 2) := by decide +kernel
theorem dX3_street_44 : decode cX3_street 44 = .ok (.iload 5, 2) := by decide +kernel
theorem dX3_street_46 : decode cX3_street 46 = .ok (.ifCond .ge 6, 3) := by decide +kernel
theorem dX3_street_49 : decode cX3_street 49 = .ok (.iload 5, 2) := by decide +kernel
theorem dX3_street_51 : decode cX3_street 51 = .ok (.ireturn, 1) := by decide +kernel
theorem dX3_street_52 : decode cX3_street 52 = .ok (.aload_n 0, 1) := by decide +kernel
theorem dX3_street_53 : decode cX3_street 53 = .ok (.bipush 60, 2) := by decide +kernel
theorem dX3_street_55 : decode cX3_street 55 = .ok (.iload_n 1, 1) := by decide +kernel
theorem dX3_street_56 : decode cX3_street 56 = .ok (.imul, 1) := by decide +kernel
theorem dX3_street_57 : decode cX3_street 57 = .ok (.iload_n 3, 1) := by decide +kernel
theorem dX3_street_58 : decode cX3_street 58 = .ok (.iadd, 1) := by decide +kernel
theorem dX3_street_59 : decode cX3_street 59 = .ok (.iload 4, 2) := by decide +kernel
theorem dX3_street_61 : decode cX3_street 61 = .ok (.invokevirtual 127, 3) := by decide +kernel
theorem dX3_street_64 : decode cX3_street 64 = .ok (.ifCond .ne 15, 3) := by decide +kernel
theorem dX3_street_67 : decode cX3_street 67 = .ok (.aload_n 0, 1) := by decide +kernel
theorem dX3_street_68 : decode cX3_street 68 = .ok (.bipush (-100), 2) := by decide +kernel
theorem dX3_street_70 : decode cX3_street 70 = .ok (.aload_n 0, 1) := by decide +kernel
theorem dX3_street_71 : decode cX3_street 71 = .ok (.getfield 83, 3) := by decide +kernel
theorem dX3_street_74 : decode cX3_street 74 = .ok (.isub, 1) := by decide +kernel
theorem dX3_street_75 : decode cX3_street 75 = .ok (.invokevirtual 118, 3) := by decide +kernel
theorem dX3_street_78 : decode cX3_street 78 = .ok (.ireturn, 1) := by decide +kernel
theorem dX3_street_79 : decode cX3_street 79 = .ok (.aload_n 0, 1) := by decide +kernel
theorem dX3_street_80 : decode cX3_street 80 = .ok (.aload_n 0, 1) := by decide +kernel
theorem dX3_street_81 : decode cX3_street 81 = .ok (.getfield 92, 3) := by decide +kernel
theorem dX3_street_84 : decode cX3_street 84 = .ok (.putfield 74, 3) := by decide +kernel
theorem dX3_street_87 : decode cX3_street 87 = .ok (.aload_n 0, 1) := by decide +kernel
theorem dX3_street_88 : decode cX3_street 88 = .ok (.aload_n 0, 1) := by decide +kernel
theorem dX3_street_89 : decode cX3_street 89 = .ok (.getfield 99, 3) := by decide +kernel
theorem dX3_street_92 : decode cX3_street 92 = .ok (.putfield 130, 3) := by decide +kernel
theorem dX3_street_95 : decode cX3_street 95 = .ok (.aload_n 0, 1) := by decide +kernel
theorem dX3_street_96 : decode cX3_street 96 = .ok (.iconst 0, 1) := by decide +kernel
theorem dX3_street_97 : decode cX3_street 97 = .ok (.putfield 133, 3) := by decide +kernel
theorem dX3_street_100 : decode cX3_street 100 = .ok (.iconst 0, 1) := by decide +kernel
theorem dX3_street_101 : decode cX3_street 101 = .ok (.istore 6, 2) := by decide +kernel
theorem dX3_street_103 : decode cX3_street 103 = .ok (.iload 6, 2) := by decide +kernel
theorem dX3_street_105 : decode cX3_street 105 = .ok (.aload_n 0, 1) := by decide +kernel
theorem dX3_street_106 : decode cX3_street 106 = .ok (.getfield 74, 3) := by decide +kernel
theorem dX3_street_109 : decode cX3_street 109 = .ok (.if_icmp .ge 59, 3) := by decide +kernel
theorem dX3_street_112 : decode cX3_street 112 = .ok (.aload_n 0, 1) := by decide +kernel
theorem dX3_street_113 : decode cX3_street 113 = .ok (.getfield 7, 3) := by decide +kernel
theorem dX3_street_116 : decode cX3_street 116 = .ok (.iload 6, 2) := by decide +kernel
theorem dX3_street_118 : decode cX3_street 118 = .ok (.aload_n 0, 1) := by decide +kernel
theorem dX3_street_119 : decode cX3_street 119 = .ok (.getfield 22, 3) := by decide +kernel
theorem dX3_street_122 : decode cX3_street 122 = .ok (.iload 6, 2) := by decide +kernel
theorem dX3_street_124 : decode cX3_street 124 = .ok (.iaload, 1) := by decide +kernel
theorem dX3_street_125 : decode cX3_street 125 = .ok (.iastore, 1) := by decide +kernel
theorem dX3_street_126 : decode cX3_street 126 = .ok (.aload_n 0, 1) := by decide +kernel
theorem dX3_street_127 : decode cX3_street 127 = .ok (.getfield 13, 3) := by decide +kernel
theorem dX3_street_130 : decode cX3_street 130 = .ok (.iload 6, 2) := by decide +kernel
theorem dX3_street_132 : decode cX3_street 132 = .ok (.aload_n 0, 1) := by decide +kernel
theorem dX3_street_133 : decode cX3_street 133 = .ok (.getfield 25, 3) := by decide +kernel
theorem dX3_street_136 : decode cX3_street 136 = .ok (.iload 6, 2) := by decide +kernel
theorem dX3_street_138 : decode cX3_street 138 = .ok (.iaload, 1) := by decide +kernel
theorem dX3_street_139 : decode cX3_street 139 = .ok (.iastore, 1) := by decide +kernel
theorem dX3_street_140 : decode cX3_street 140 = .ok (.aload_n 0, 1) := by decide +kernel
theorem dX3_street_141 : decode cX3_street 141 = .ok (.getfield 16, 3) := by decide +kernel
theorem dX3_street_144 : decode cX3_street 144 = .ok (.iload 6, 2) := by decide +kernel
theorem dX3_street_146 : decode cX3_street 146 = .ok (.aload_n 0, 1) := by decide +kernel
theorem dX3_street_147 : decode cX3_street 147 = .ok (.getfield 28, 3) := by decide +kernel
theorem dX3_street_150 : decode cX3_street 150 = .ok (.iload 6, 2) := by decide +kernel
theorem dX3_street_152 : decode cX3_street 152 = .ok (.iaload, 1) := by decide +kernel
theorem dX3_street_153 : decode cX3_street 153 = .ok (.iastore, 1) := by decide +kernel
theorem dX3_street_154 : decode cX3_street 154 = .ok (.aload_n 0, 1) := by decide +kernel
theorem dX3_street_155 : decode cX3_street 155 = .ok (.getfield 19, 3) := by decide +kernel
theorem dX3_street_158 : decode cX3_street 158 = .ok (.iload 6, 2) := by decide +kernel
theorem dX3_street_160 : decode cX3_street 160 = .ok (.iconst 0, 1) := by decide +kernel
theorem dX3_street_161 : decode cX3_street 161 = .ok (.iastore, 1) := by decide +kernel
theorem dX3_street_162 : decode cX3_street 162 = .ok (.iinc 6 1, 3) := by decide +kernel
theorem dX3_street_165 : decode cX3_street 165 = .ok (.goto (-62), 3) := by decide +kernel
theorem dX3_street_168 : decode cX3_street 168 = .ok (.aload_n 0, 1) := by decide +kernel
theorem dX3_street_169 : decode cX3_street 169 = .ok (.iconst 0, 1) := by decide +kernel
theorem dX3_street_170 : decode cX3_street 170 = .ok (.putfield 136, 3) := by decide +kernel
theorem dX3_street_173 : decode cX3_street 173 = .ok (.aload_n 0, 1) := by decide +kernel
theorem dX3_street_174 : decode cX3_street 174 = .ok (.aload_n 0, 1) := by decide +kernel
theorem dX3_street_175 : decode cX3_street 175 = .ok (.getfield 74, 3) := by decide +kernel
theorem dX3_street_178 : decode cX3_street 178 = .ok (.invokevirtual 118, 3) := by decide +kernel
theorem dX3_street_181 : decode cX3_street 181 = .ok (.ireturn, 1) := by decide +kernel
theorem dX3_sourOf_0 : decode cX3_sourOf 0 = .ok (.aload_n 0, 1) := by decide +kernel
theorem dX3_sourOf_1 : decode cX3_sourOf 1 = .ok (.getfield 13, 3) := by decide +kernel
theorem dX3_sourOf_4 : decode cX3_sourOf 4 = .ok (.iload_n 1, 1) := by decide +kernel
theorem dX3_sourOf_5 : decode cX3_sourOf 5 = .ok (.iaload, 1) := by decide +kernel
theorem dX3_sourOf_6 : decode cX3_sourOf 6 = .ok (.iconst 1, 1) := by decide +kernel
theorem dX3_sourOf_7 : decode cX3_sourOf 7 = .ok (.iadd, 1) := by decide +kernel
theorem dX3_sourOf_8 : decode cX3_sourOf 8 = .ok (.istore_n 2, 1) := by decide +kernel
theorem dX3_sourOf_9 : decode cX3_sourOf 9 = .ok (.aload_n 0, 1) := by decide +kernel
theorem dX3_sourOf_10 : decode cX3_sourOf 10 = .ok (.getfield 7, 3) := by decide +kernel
theorem dX3_sourOf_13 : decode cX3_sourOf 13 = .ok (.iload_n 1, 1) := by decide +kernel
theorem dX3_sourOf_14 : decode cX3_sourOf 14 = .ok (.iaload, 1) := by decide +kernel
theorem dX3_sourOf_15 : decode cX3_sourOf 15 = .ok (.ifCond .ne 12, 3) := by decide +kernel
theorem dX3_sourOf_18 : decode cX3_sourOf 18 = .ok (.aload_n 0, 1) := by decide +kernel
theorem dX3_sourOf_19 : decode cX3_sourOf 19 = .ok (.getfield 13, 3) := by decide +kernel
theorem dX3_sourOf_22 : decode cX3_sourOf 22 = .ok (.iload_n 1, 1) := by decide +kernel
theorem dX3_sourOf_23 : decode cX3_sourOf 23 = .ok (.iaload, 1) := by decide +kernel
theorem dX3_sourOf_24 : decode cX3_sourOf 24 = .ok (.goto 20, 3) := by decide +kernel
theorem dX3_sourOf_27 : decode cX3_sourOf 27 = .ok (.aload_n 0, 1) := by decide +kernel
theorem dX3_sourOf_28 : decode cX3_sourOf 28 = .ok (.getfield 7, 3) := by decide +kernel
theorem dX3_sourOf_31 : decode cX3_sourOf 31 = .ok (.iload_n 1, 1) := by decide +kernel
theorem dX3_sourOf_32 : decode cX3_sourOf 32 = .ok (.iaload, 1) := by decide +kernel
theorem dX3_sourOf_33 : decode cX3_sourOf 33 = .ok (.iconst 1, 1) := by decide +kernel
theorem dX3_sourOf_34 : decode cX3_sourOf 34 = .ok (.if_icmp .ne 7, 3) := by decide +kernel
theorem dX3_sourOf_37 : decode cX3_sourOf 37 = .ok (.iload_n 2, 1) := by decide +kernel
theorem dX3_sourOf_38 : decode cX3_sourOf 38 = .ok (.goto 6, 3) := by decide +kernel
theorem dX3_sourOf_41 : decode cX3_sourOf 41 = .ok (.iconst 2, 1) := by decide +kernel
theorem dX3_sourOf_42 : decode cX3_sourOf 42 = .ok (.iload_n 2, 1) := by decide +kernel
theorem dX3_sourOf_43 : decode cX3_sourOf 43 = .ok (.imul, 1) := by decide +kernel
theorem dX3_sourOf_44 : decode cX3_sourOf 44 = .ok (.ireturn, 1) := by decide +kernel
theorem dX3_sourOfAll_0 : decode cX3_sourOfAll 0 = .ok (.iconst 0, 1) := by decide +kernel
theorem dX3_sourOfAll_1 : decode cX3_sourOfAll 1 = .ok (.istore_n 1, 1) := by decide +kernel
theorem dX3_sourOfAll_2 : decode cX3_sourOfAll 2 = .ok (.iconst 0, 1) := by decide +kernel
theorem dX3_sourOfAll_3 : decode cX3_sourOfAll 3 = .ok (.istore_n 2, 1) := by decide +kernel
theorem dX3_sourOfAll_4 : decode cX3_sourOfAll 4 = .ok (.iload_n 2, 1) := by decide +kernel
theorem dX3_sourOfAll_5 : decode cX3_sourOfAll 5 = .ok (.aload_n 0, 1) := by decide +kernel
theorem dX3_sourOfAll_6 : decode cX3_sourOfAll 6 = .ok (.getfield 74, 3) := by decide +kernel
theorem dX3_sourOfAll_9 : decode cX3_sourOfAll 9 = .ok (.if_icmp .ge 17, 3) := by decide +kernel
theorem dX3_sourOfAll_12 : decode cX3_sourOfAll 12 = .ok (.iload_n 1, 1) := by decide +kernel
theorem dX3_sourOfAll_13 : decode cX3_sourOfAll 13 = .ok (.aload_n 0, 1) := by decide +kernel
theorem dX3_sourOfAll_14 : decode cX3_sourOfAll 14 = .ok (.iload_n 2, 1) := by decide +kernel
theorem dX3_sourOfAll_15 : decode cX3_sourOfAll 15 = .ok (.invokevirtual 139, 3) := by decide +kernel
theorem dX3_sourOfAll_18 : decode cX3_sourOfAll 18 = .ok (.iadd, 1) := by decide +kernel
theorem dX3_sourOfAll_19 : decode cX3_sourOfAll 19 = .ok (.istore_n 1, 1) := by decide +kernel
theorem dX3_sourOfAll_20 : decode cX3_sourOfAll 20 = .ok (.iinc 2 1, 3) := by decide +kernel
theorem dX3_sourOfAll_23 : decode cX3_sourOfAll 23 = .ok (.goto (-19), 3) := by decide +kernel
theorem dX3_sourOfAll_26 : decode cX3_sourOfAll 26 = .ok (.iload_n 1, 1) := by decide +kernel
theorem dX3_sourOfAll_27 : decode cX3_sourOfAll 27 = .ok (.ireturn, 1) := by decide +kernel
theorem dX3_aheadOf_0 : decode cX3_aheadOf 0 = .ok (.iload_n 2, 1) := by decide +kernel
theorem dX3_aheadOf_1 : decode cX3_aheadOf 1 = .ok (.aload_n 0, 1) := by decide +kernel
theorem dX3_aheadOf_2 : decode cX3_aheadOf 2 = .ok (.iload_n 1, 1) := by decide +kernel
theorem dX3_aheadOf_3 : decode cX3_aheadOf 3 = .ok (.invokevirtual 139, 3) := by decide +kernel
theorem dX3_aheadOf_6 : decode cX3_aheadOf 6 = .ok (.imul, 1) := by decide +kernel
theorem dX3_aheadOf_7 : decode cX3_aheadOf 7 = .ok (.iload_n 3, 1) := by decide +kernel
theorem dX3_aheadOf_8 : decode cX3_aheadOf 8 = .ok (.irem, 1) := by decide +kernel
theorem dX3_aheadOf_9 : decode cX3_aheadOf 9 = .ok (.istore 4, 2) := by decide +kernel
theorem dX3_aheadOf_11 : decode cX3_aheadOf 11 = .ok (.iconst 0, 1) := by decide +kernel
theorem dX3_aheadOf_12 : decode cX3_aheadOf 12 = .ok (.istore 5, 2) := by decide +kernel
theorem dX3_aheadOf_14 : decode cX3_aheadOf 14 = .ok (.iconst 0, 1) := by decide +kernel
theorem dX3_aheadOf_15 : decode cX3_aheadOf 15 = .ok (.istore 6, 2) := by decide +kernel
theorem dX3_aheadOf_17 : decode cX3_aheadOf 17 = .ok (.iload 6, 2) := by decide +kernel
theorem dX3_aheadOf_19 : decode cX3_aheadOf 19 = .ok (.aload_n 0, 1) := by decide +kernel
theorem dX3_aheadOf_20 : decode cX3_aheadOf 20 = .ok (.getfield 74, 3) := by decide +kernel
theorem dX3_aheadOf_23 : decode cX3_aheadOf 23 = .ok (.if_icmp .ge 51, 3) := by decide +kernel
theorem dX3_aheadOf_26 : decode cX3_aheadOf 26 = .ok (.iload_n 2, 1) := by decide +kernel
theorem dX3_aheadOf_27 : decode cX3_aheadOf 27 = .ok (.aload_n 0, 1) := by decide +kernel
theorem dX3_aheadOf_28 : decode cX3_aheadOf 28 = .ok (.iload 6, 2) := by decide +kernel
theorem dX3_aheadOf_30 : decode cX3_aheadOf 30 = .ok (.invokevirtual 139, 3) := by decide +kernel
theorem dX3_aheadOf_33 : decode cX3_aheadOf 33 = .ok (.imul, 1) := by decide +kernel
theorem dX3_aheadOf_34 : decode cX3_aheadOf 34 = .ok (.iload_n 3, 1) := by decide +kernel
theorem dX3_aheadOf_35 : decode cX3_aheadOf 35 = .ok (.irem, 1) := by decide +kernel
theorem dX3_aheadOf_36 : decode cX3_aheadOf 36 = .ok (.istore 7, 2) := by decide +kernel
theorem dX3_aheadOf_38 : decode cX3_aheadOf 38 = .ok (.iload 5, 2) := by decide +kernel
theorem dX3_aheadOf_40 : decode cX3_aheadOf 40 = .ok (.iload 7, 2) := by decide +kernel
theorem dX3_aheadOf_42 : decode cX3_aheadOf 42 = .ok (.iload 4, 2) := by decide +kernel
theorem dX3_aheadOf_44 : decode cX3_aheadOf 44 = .ok (.if_icmp .gt 16, 3) := by decide +kernel
theorem dX3_aheadOf_47 : decode cX3_aheadOf 47 = .ok (.iload 7, 2) := by decide +kernel
theorem dX3_aheadOf_49 : decode cX3_aheadOf 49 = .ok (.iload 4, 2) := by decide +kernel
theorem dX3_aheadOf_51 : decode cX3_aheadOf 51 = .ok (.if_icmp .ne 13, 3) := by decide +kernel
theorem dX3_aheadOf_54 : decode cX3_aheadOf 54 = .ok (.iload 6, 2) := by decide +kernel
theorem dX3_aheadOf_56 : decode cX3_aheadOf 56 = .ok (.iload_n 1, 1) := by decide +kernel
theorem dX3_aheadOf_57 : decode cX3_aheadOf 57 = .ok (.if_icmp .ge 7, 3) := by decide +kernel
theorem dX3_aheadOf_60 : decode cX3_aheadOf 60 = .ok (.iconst 1, 1) := by decide +kernel
theorem dX3_aheadOf_61 : decode cX3_aheadOf 61 = .ok (.goto 4, 3) := by decide +kernel
theorem dX3_aheadOf_64 : decode cX3_aheadOf 64 = .ok (.iconst 0, 1) := by decide +kernel
theorem dX3_aheadOf_65 : decode cX3_aheadOf 65 = .ok (.iadd, 1) := by decide +kernel
theorem dX3_aheadOf_66 : decode cX3_aheadOf 66 = .ok (.istore 5, 2) := by decide +kernel
theorem dX3_aheadOf_68 : decode cX3_aheadOf 68 = .ok (.iinc 6 1, 3) := by decide +kernel
theorem dX3_aheadOf_71 : decode cX3_aheadOf 71 = .ok (.goto (-54), 3) := by decide +kernel
theorem dX3_aheadOf_74 : decode cX3_aheadOf 74 = .ok (.iload 5, 2) := by decide +kernel
theorem dX3_aheadOf_76 : decode cX3_aheadOf 76 = .ok (.ireturn, 1) := by decide +kernel
theorem dX3_dealtTo_0 : decode cX3_dealtTo 0 = .ok (.aload_n 0, 1) := by decide +kernel
theorem dX3_dealtTo_1 : decode cX3_dealtTo 1 = .ok (.invokevirtual 142, 3) := by decide +kernel
theorem dX3_dealtTo_4 : decode cX3_dealtTo 4 = .ok (.istore_n 3, 1) := by decide +kernel
theorem dX3_dealtTo_5 : decode cX3_dealtTo 5 = .ok (.iload_n 3, 1) := by decide +kernel
theorem dX3_dealtTo_6 : decode cX3_dealtTo 6 = .ok (.ifCond .ne 5, 3) := by decide +kernel
theorem dX3_dealtTo_9 : decode cX3_dealtTo 9 = .ok (.iconst 0, 1) := by decide +kernel
theorem dX3_dealtTo_10 : decode cX3_dealtTo 10 = .ok (.ireturn, 1) := by decide +kernel
theorem dX3_dealtTo_11 : decode cX3_dealtTo 11 = .ok (.iload_n 2, 1) := by decide +kernel
theorem dX3_dealtTo_12 : decode cX3_dealtTo 12 = .ok (.istore 4, 2) := by decide +kernel
theorem dX3_dealtTo_14 : decode cX3_dealtTo 14 = .ok (.iconst 0, 1) := by decide +kernel
theorem dX3_dealtTo_15 : decode cX3_dealtTo 15 = .ok (.istore 5, 2) := by decide +kernel
theorem dX3_dealtTo_17 : decode cX3_dealtTo 17 = .ok (.iload 5, 2) := by decide +kernel
theorem dX3_dealtTo_19 : decode cX3_dealtTo 19 = .ok (.aload_n 0, 1) := by decide +kernel
theorem dX3_dealtTo_20 : decode cX3_dealtTo 20 = .ok (.getfield 74, 3) := by decide +kernel
theorem dX3_dealtTo_23 : decode cX3_dealtTo 23 = .ok (.if_icmp .ge 24, 3) := by decide +kernel
theorem dX3_dealtTo_26 : decode cX3_dealtTo 26 = .ok (.iload 4, 2) := by decide +kernel
theorem dX3_dealtTo_28 : decode cX3_dealtTo 28 = .ok (.iload_n 2, 1) := by decide +kernel
theorem dX3_dealtTo_29 : decode cX3_dealtTo 29 = .ok (.aload_n 0, 1) := by decide +kernel
theorem dX3_dealtTo_30 : decode cX3_dealtTo 30 = .ok (.iload 5, 2) := by decide +kernel
theorem dX3_dealtTo_32 : decode cX3_dealtTo 32 = .ok (.invokevirtual 139, 3) := by decide +kernel
theorem dX3_dealtTo_35 : decode cX3_dealtTo 35 = .ok (.imul, 1) := by decide +kernel
theorem dX3_dealtTo_36 : decode cX3_dealtTo 36 = .ok (.iload_n 3, 1) := by decide +kernel
theorem dX3_dealtTo_37 : decode cX3_dealtTo 37 = .ok (.idiv, 1) := by decide +kernel
theorem dX3_dealtTo_38 : decode cX3_dealtTo 38 = .ok (.isub, 1) := by decide +kernel
theorem dX3_dealtTo_39 : decode cX3_dealtTo 39 = .ok (.istore 4, 2) := by decide +kernel
theorem dX3_dealtTo_41 : decode cX3_dealtTo 41 = .ok (.iinc 5 1, 3) := by decide +kernel
theorem dX3_dealtTo_44 : decode cX3_dealtTo 44 = .ok (.goto (-27), 3) := by decide +kernel
theorem dX3_dealtTo_47 : decode cX3_dealtTo 47 = .ok (.iload_n 2, 1) := by decide +kernel
theorem dX3_dealtTo_48 : decode cX3_dealtTo 48 = .ok (.aload_n 0, 1) := by decide +kernel
theorem dX3_dealtTo_49 : decode cX3_dealtTo 49 = .ok (.iload_n 1, 1) := by decide +kernel
theorem dX3_dealtTo_50 : decode cX3_dealtTo 50 = .ok (.invokevirtual 139, 3) := by decide +kernel
theorem dX3_dealtTo_53 : decode cX3_dealtTo 53 = .ok (.imul, 1) := by decide +kernel
theorem dX3_dealtTo_54 : decode cX3_dealtTo 54 = .ok (.iload_n 3, 1) := by decide +kernel
theorem dX3_dealtTo_55 : decode cX3_dealtTo 55 = .ok (.idiv, 1) := by decide +kernel
theorem dX3_dealtTo_56 : decode cX3_dealtTo 56 = .ok (.aload_n 0, 1) := by decide +kernel
theorem dX3_dealtTo_57 : decode cX3_dealtTo 57 = .ok (.iload_n 1, 1) := by decide +kernel
theorem dX3_dealtTo_58 : decode cX3_dealtTo 58 = .ok (.iload_n 2, 1) := by decide +kernel
theorem dX3_dealtTo_59 : decode cX3_dealtTo 59 = .ok (.iload_n 3, 1) := by decide +kernel
theorem dX3_dealtTo_60 : decode cX3_dealtTo 60 = .ok (.invokevirtual 146, 3) := by decide +kernel
theorem dX3_dealtTo_63 : decode cX3_dealtTo 63 = .ok (.iload 4, 2) := by decide +kernel
theorem dX3_dealtTo_65 : decode cX3_dealtTo 65 = .ok (.if_icmp .ge 7, 3) := by decide +kernel
theorem dX3_dealtTo_68 : decode cX3_dealtTo 68 = .ok (.iconst 1, 1) := by decide +kernel
theorem dX3_dealtTo_69 : decode cX3_dealtTo 69 = .ok (.goto 4, 3) := by decide +kernel
theorem dX3_dealtTo_72 : decode cX3_dealtTo 72 = .ok (.iconst 0, 1) := by decide +kernel
theorem dX3_dealtTo_73 : decode cX3_dealtTo 73 = .ok (.iadd, 1) := by decide +kernel
theorem dX3_dealtTo_74 : decode cX3_dealtTo 74 = .ok (.ireturn, 1) := by decide +kernel
theorem dX3_ofHouse_0 : decode cX3_ofHouse 0 = .ok (.aload_n 0, 1) := by decide +kernel
theorem dX3_ofHouse_1 : decode cX3_ofHouse 1 = .ok (.iload_n 1, 1) := by decide +kernel
theorem dX3_ofHouse_2 : decode cX3_ofHouse 2 = .ok (.invokevirtual 149, 3) := by decide +kernel
theorem dX3_ofHouse_5 : decode cX3_ofHouse 5 = .ok (.ifCond .eq 5, 3) := by decide +kernel
theorem dX3_ofHouse_8 : decode cX3_ofHouse 8 = .ok (.iconst (-1), 1) := by decide +kernel
theorem dX3_ofHouse_9 : decode cX3_ofHouse 9 = .ok (.ireturn, 1) := by decide +kernel
theorem dX3_ofHouse_10 : decode cX3_ofHouse 10 = .ok (.iload_n 2, 1) := by decide +kernel
theorem dX3_ofHouse_11 : decode cX3_ofHouse 11 = .ok (.tableswitch 94 0 6 #[41, 48, 55, 62, 69, 78, 84], 41) := by decide +kernel
theorem dX3_ofHouse_52 : decode cX3_ofHouse 52 = .ok (.aload_n 0, 1) := by decide +kernel
theorem dX3_ofHouse_53 : decode cX3_ofHouse 53 = .ok (.getfield 7, 3) := by decide +kernel
theorem dX3_ofHouse_56 : decode cX3_ofHouse 56 = .ok (.iload_n 1, 1) := by decide +kernel
theorem dX3_ofHouse_57 : decode cX3_ofHouse 57 = .ok (.iaload, 1) := by decide +kernel
theorem dX3_ofHouse_58 : decode cX3_ofHouse 58 = .ok (.ireturn, 1) := by decide +kernel
theorem dX3_ofHouse_59 : decode cX3_ofHouse 59 = .ok (.aload_n 0, 1) := by decide +kernel
theorem dX3_ofHouse_60 : decode cX3_ofHouse 60 = .ok (.getfield 13, 3) := by decide +kernel
theorem dX3_ofHouse_63 : decode cX3_ofHouse 63 = .ok (.iload_n 1, 1) := by decide +kernel
theorem dX3_ofHouse_64 : decode cX3_ofHouse 64 = .ok (.iaload, 1) := by decide +kernel
theorem dX3_ofHouse_65 : decode cX3_ofHouse 65 = .ok (.ireturn, 1) := by decide +kernel
theorem dX3_ofHouse_66 : decode cX3_ofHouse 66 = .ok (.aload_n 0, 1) := by decide +kernel
theorem dX3_ofHouse_67 : decode cX3_ofHouse 67 = .ok (.getfield 16, 3) := by decide +kernel
theorem dX3_ofHouse_70 : decode cX3_ofHouse 70 = .ok (.iload_n 1, 1) := by decide +kernel
theorem dX3_ofHouse_71 : decode cX3_ofHouse 71 = .ok (.iaload, 1) := by decide +kernel
theorem dX3_ofHouse_72 : decode cX3_ofHouse 72 = .ok (.ireturn, 1) := by decide +kernel
theorem dX3_ofHouse_73 : decode cX3_ofHouse 73 = .ok (.aload_n 0, 1) := by decide +kernel
theorem dX3_ofHouse_74 : decode cX3_ofHouse 74 = .ok (.getfield 19, 3) := by decide +kernel
theorem dX3_ofHouse_77 : decode cX3_ofHouse 77 = .ok (.iload_n 1, 1) := by decide +kernel
theorem dX3_ofHouse_78 : decode cX3_ofHouse 78 = .ok (.iaload, 1) := by decide +kernel
theorem dX3_ofHouse_79 : decode cX3_ofHouse 79 = .ok (.ireturn, 1) := by decide +kernel
theorem dX3_ofHouse_80 : decode cX3_ofHouse 80 = .ok (.aload_n 0, 1) := by decide +kernel
theorem dX3_ofHouse_81 : decode cX3_ofHouse 81 = .ok (.getfield 19, 3) := by decide +kernel
theorem dX3_ofHouse_84 : decode cX3_ofHouse 84 = .ok (.iload_n 1, 1) := by decide +kernel
theorem dX3_ofHouse_85 : decode cX3_ofHouse 85 = .ok (.iaload, 1) := by decide +kernel
theorem dX3_ofHouse_86 : decode cX3_ofHouse 86 = .ok (.iconst 4, 1) := by decide +kernel
theorem dX3_ofHouse_87 : decode cX3_ofHouse 87 = .ok (.idiv, 1) := by decide +kernel
theorem dX3_ofHouse_88 : decode cX3_ofHouse 88 = .ok (.ireturn, 1) := by decide +kernel
theorem dX3_ofHouse_89 : decode cX3_ofHouse 89 = .ok (.aload_n 0, 1) := by decide +kernel
theorem dX3_ofHouse_90 : decode cX3_ofHouse 90 = .ok (.iload_n 1, 1) := by decide +kernel
theorem dX3_ofHouse_91 : decode cX3_ofHouse 91 = .ok (.invokevirtual 139, 3) := by decide +kernel
theorem dX3_ofHouse_94 : decode cX3_ofHouse 94 = .ok (.ireturn, 1) := by decide +kernel
theorem dX3_ofHouse_95 : decode cX3_ofHouse 95 = .ok (.aload_n 0, 1) := by decide +kernel
theorem dX3_ofHouse_96 : decode cX3_ofHouse 96 = .ok (.iload_n 1, 1) := by decide +kernel
theorem dX3_ofHouse_97 : decode cX3_ofHouse 97 = .ok (.aload_n 0, 1) := by decide +kernel
theorem dX3_ofHouse_98 : decode cX3_ofHouse 98 = .ok (.getfield 130, 3) := by decide +kernel
theorem dX3_ofHouse_101 : decode cX3_ofHouse 101 = .ok (.invokevirtual 152, 3) := by decide +kernel
theorem dX3_ofHouse_104 : decode cX3_ofHouse 104 = .ok (.ireturn, 1) := by decide +kernel
theorem dX3_ofHouse_105 : decode cX3_ofHouse 105 = .ok (.bipush (-2), 2) := by decide +kernel
theorem dX3_ofHouse_107 : decode cX3_ofHouse 107 = .ok (.ireturn, 1) := by decide +kernel
theorem dX3_anger_0 : decode cX3_anger 0 = .ok (.aload_n 0, 1) := by decide +kernel
theorem dX3_anger_1 : decode cX3_anger 1 = .ok (.iload_n 1, 1) := by decide +kernel
theorem dX3_anger_2 : decode cX3_anger 2 = .ok (.invokevirtual 149, 3) := by decide +kernel
theorem dX3_anger_5 : decode cX3_anger 5 = .ok (.ifCond .eq 5, 3) := by decide +kernel
theorem dX3_anger_8 : decode cX3_anger 8 = .ok (.iconst (-1), 1) := by decide +kernel
theorem dX3_anger_9 : decode cX3_anger 9 = .ok (.ireturn, 1) := by decide +kernel
theorem dX3_anger_10 : decode cX3_anger 10 = .ok (.iload_n 2, 1) := by decide +kernel
theorem dX3_anger_11 : decode cX3_anger 11 = .ok (.i2l, 1) := by decide +kernel
theorem dX3_anger_12 : decode cX3_anger 12 = .ok (.lconst 0, 1) := by decide +kernel
theorem dX3_anger_13 : decode cX3_anger 13 = .ok (.ldc2_w 90, 3) := by decide +kernel
theorem dX3_anger_16 : decode cX3_anger 16 = .ok (.invokestatic 77, 3) := by decide +kernel
theorem dX3_anger_19 : decode cX3_anger 19 = .ok (.ifCond .ne 6, 3) := by decide +kernel
theorem dX3_anger_22 : decode cX3_anger 22 = .ok (.bipush (-2), 2) := by decide +kernel
theorem dX3_anger_24 : decode cX3_anger 24 = .ok (.ireturn, 1) := by decide +kernel
theorem dX3_anger_25 : decode cX3_anger 25 = .ok (.aload_n 0, 1) := by decide +kernel
theorem dX3_anger_26 : decode cX3_anger 26 = .ok (.getfield 13, 3) := by decide +kernel
theorem dX3_anger_29 : decode cX3_anger 29 = .ok (.iload_n 1, 1) := by decide +kernel
theorem dX3_anger_30 : decode cX3_anger 30 = .ok (.iaload, 1) := by decide +kernel
theorem dX3_anger_31 : decode cX3_anger 31 = .ok (.istore_n 3, 1) := by decide +kernel
theorem dX3_anger_32 : decode cX3_anger 32 = .ok (.aload_n 0, 1) := by decide +kernel
theorem dX3_anger_33 : decode cX3_anger 33 = .ok (.getfield 13, 3) := by decide +kernel
theorem dX3_anger_36 : decode cX3_anger 36 = .ok (.iload_n 1, 1) := by decide +kernel
theorem dX3_anger_37 : decode cX3_anger 37 = .ok (.iload_n 2, 1) := by decide +kernel
theorem dX3_anger_38 : decode cX3_anger 38 = .ok (.iastore, 1) := by decide +kernel
theorem dX3_anger_39 : decode cX3_anger 39 = .ok (.iload_n 3, 1) := by decide +kernel
theorem dX3_anger_40 : decode cX3_anger 40 = .ok (.ireturn, 1) := by decide +kernel
theorem dX3_crate_0 : decode cX3_crate 0 = .ok (.aload_n 0, 1) := by decide +kernel
theorem dX3_crate_1 : decode cX3_crate 1 = .ok (.getfield 74, 3) := by decide +kernel
theorem dX3_crate_4 : decode cX3_crate 4 = .ok (.ifCond .ne 6, 3) := by decide +kernel
theorem dX3_crate_7 : decode cX3_crate 7 = .ok (.bipush (-3), 2) := by decide +kernel
theorem dX3_crate_9 : decode cX3_crate 9 = .ok (.ireturn, 1) := by decide +kernel
theorem dX3_crate_10 : decode cX3_crate 10 = .ok (.iload_n 1, 1) := by decide +kernel
theorem dX3_crate_11 : decode cX3_crate 11 = .ok (.invokestatic 155, 3) := by decide +kernel
theorem dX3_crate_14 : decode cX3_crate 14 = .ok (.ifCond .ne 6, 3) := by decide +kernel
theorem dX3_crate_17 : decode cX3_crate 17 = .ok (.bipush (-2), 2) := by decide +kernel
theorem dX3_crate_19 : decode cX3_crate 19 = .ok (.ireturn, 1) := by decide +kernel
theorem dX3_crate_20 : decode cX3_crate 20 = .ok (.aload_n 0, 1) := by decide +kernel
theorem dX3_crate_21 : decode cX3_crate 21 = .ok (.getfield 130, 3) := by decide +kernel
theorem dX3_crate_24 : decode cX3_crate 24 = .ok (.istore_n 2, 1) := by decide +kernel
theorem dX3_crate_25 : decode cX3_crate 25 = .ok (.aload_n 0, 1) := by decide +kernel
theorem dX3_crate_26 : decode cX3_crate 26 = .ok (.iload_n 1, 1) := by decide +kernel
theorem dX3_crate_27 : decode cX3_crate 27 = .ok (.putfield 130, 3) := by decide +kernel
theorem dX3_crate_30 : decode cX3_crate 30 = .ok (.iload_n 2, 1) := by decide +kernel
theorem dX3_crate_31 : decode cX3_crate 31 = .ok (.ireturn, 1) := by decide +kernel
theorem dX3_deal_0 : decode cX3_deal 0 = .ok (.aload_n 0, 1) := by decide +kernel
theorem dX3_deal_1 : decode cX3_deal 1 = .ok (.iload_n 1, 1) := by decide +kernel
theorem dX3_deal_2 : decode cX3_deal 2 = .ok (.invokevirtual 149, 3) := by decide +kernel
theorem dX3_deal_5 : decode cX3_deal 5 = .ok (.ifCond .eq 5, 3) := by decide +kernel
theorem dX3_deal_8 : decode cX3_deal 8 = .ok (.iconst (-1), 1) := by decide +kernel
theorem dX3_deal_9 : decode cX3_deal 9 = .ok (.ireturn, 1) := by decide +kernel
theorem dX3_deal_10 : decode cX3_deal 10 = .ok (.iload_n 2, 1) := by decide +kernel
theorem dX3_deal_11 : decode cX3_deal 11 = .ok (.invokestatic 155, 3) := by decide +kernel
theorem dX3_deal_14 : decode cX3_deal 14 = .ok (.ifCond .eq 12, 3) := by decide +kernel
theorem dX3_deal_17 : decode cX3_deal 17 = .ok (.aload_n 0, 1) := by decide +kernel
theorem dX3_deal_18 : decode cX3_deal 18 = .ok (.iload_n 1, 1) := by decide +kernel
theorem dX3_deal_19 : decode cX3_deal 19 = .ok (.iload_n 2, 1) := by decide +kernel
theorem dX3_deal_20 : decode cX3_deal 20 = .ok (.invokevirtual 152, 3) := by decide +kernel
theorem dX3_deal_23 : decode cX3_deal 23 = .ok (.goto 5, 3) := by decide +kernel
theorem dX3_deal_26 : decode cX3_deal 26 = .ok (.bipush (-2), 2) := by decide +kernel
theorem dX3_deal_28 : decode cX3_deal 28 = .ok (.ireturn, 1) := by decide +kernel
theorem dX3_passes_0 : decode cX3_passes 0 = .ok (.iconst 0, 1) := by decide +kernel
theorem dX3_passes_1 : decode cX3_passes 1 = .ok (.istore_n 1, 1) := by decide +kernel
theorem dX3_passes_2 : decode cX3_passes 2 = .ok (.iload_n 1, 1) := by decide +kernel
theorem dX3_passes_3 : decode cX3_passes 3 = .ok (.aload_n 0, 1) := by decide +kernel
theorem dX3_passes_4 : decode cX3_passes 4 = .ok (.getfield 74, 3) := by decide +kernel
theorem dX3_passes_7 : decode cX3_passes 7 = .ok (.if_icmp .ge 33, 3) := by decide +kernel
theorem dX3_passes_10 : decode cX3_passes 10 = .ok (.aload_n 0, 1) := by decide +kernel
theorem dX3_passes_11 : decode cX3_passes 11 = .ok (.getfield 31, 3) := by decide +kernel
theorem dX3_passes_14 : decode cX3_passes 14 = .ok (.iload_n 1, 1) := by decide +kernel
theorem dX3_passes_15 : decode cX3_passes 15 = .ok (.aload_n 0, 1) := by decide +kernel
theorem dX3_passes_16 : decode cX3_passes 16 = .ok (.iload_n 1, 1) := by decide +kernel
theorem dX3_passes_17 : decode cX3_passes 17 = .ok (.aload_n 0, 1) := by decide +kernel
theorem dX3_passes_18 : decode cX3_passes 18 = .ok (.getfield 130, 3) := by decide +kernel
theorem dX3_passes_21 : decode cX3_passes 21 = .ok (.invokevirtual 152, 3) := by decide +kernel
theorem dX3_passes_24 : decode cX3_passes 24 = .ok (.aload_n 0, 1) := by decide +kernel
theorem dX3_passes_25 : decode cX3_passes 25 = .ok (.getfield 19, 3) := by decide +kernel
theorem dX3_passes_28 : decode cX3_passes 28 = .ok (.iload_n 1, 1) := by decide +kernel
theorem dX3_passes_29 : decode cX3_passes 29 = .ok (.iaload, 1) := by decide +kernel
theorem dX3_passes_30 : decode cX3_passes 30 = .ok (.iconst 4, 1) := by decide +kernel
theorem dX3_passes_31 : decode cX3_passes 31 = .ok (.idiv, 1) := by decide +kernel
theorem dX3_passes_32 : decode cX3_passes 32 = .ok (.iadd, 1) := by decide +kernel
theorem dX3_passes_33 : decode cX3_passes 33 = .ok (.iastore, 1) := by decide +kernel
theorem dX3_passes_34 : decode cX3_passes 34 = .ok (.iinc 1 1, 3) := by decide +kernel
theorem dX3_passes_37 : decode cX3_passes 37 = .ok (.goto (-35), 3) := by decide +kernel
theorem dX3_passes_40 : decode cX3_passes 40 = .ok (.iconst 0, 1) := by decide +kernel
theorem dX3_passes_41 : decode cX3_passes 41 = .ok (.istore_n 1, 1) := by decide +kernel
theorem dX3_passes_42 : decode cX3_passes 42 = .ok (.iload_n 1, 1) := by decide +kernel
theorem dX3_passes_43 : decode cX3_passes 43 = .ok (.aload_n 0, 1) := by decide +kernel
theorem dX3_passes_44 : decode cX3_passes 44 = .ok (.getfield 74, 3) := by decide +kernel
theorem dX3_passes_47 : decode cX3_passes 47 = .ok (.if_icmp .ge 120, 3) := by decide +kernel
theorem dX3_passes_50 : decode cX3_passes 50 = .ok (.aload_n 0, 1) := by decide +kernel
theorem dX3_passes_51 : decode cX3_passes 51 = .ok (.getfield 16, 3) := by decide +kernel
theorem dX3_passes_54 : decode cX3_passes 54 = .ok (.iload_n 1, 1) := by decide +kernel
theorem dX3_passes_55 : decode cX3_passes 55 = .ok (.dup2, 1) := by decide +kernel
theorem dX3_passes_56 : decode cX3_passes 56 = .ok (.iaload, 1) := by decide +kernel
theorem dX3_passes_57 : decode cX3_passes 57 = .ok (.aload_n 0, 1) := by decide +kernel
theorem dX3_passes_58 : decode cX3_passes 58 = .ok (.getfield 31, 3) := by decide +kernel
theorem dX3_passes_61 : decode cX3_passes 61 = .ok (.iload_n 1, 1) := by decide +kernel
theorem dX3_passes_62 : decode cX3_passes 62 = .ok (.iaload, 1) := by decide +kernel
theorem dX3_passes_63 : decode cX3_passes 63 = .ok (.iadd, 1) := by decide +kernel
theorem dX3_passes_64 : decode cX3_passes 64 = .ok (.iastore, 1) := by decide +kernel
theorem dX3_passes_65 : decode cX3_passes 65 = .ok (.aload_n 0, 1) := by decide +kernel
theorem dX3_passes_66 : decode cX3_passes 66 = .ok (.getfield 16, 3) := by decide +kernel
theorem dX3_passes_69 : decode cX3_passes 69 = .ok (.iload_n 1, 1) := by decide +kernel
theorem dX3_passes_70 : decode cX3_passes 70 = .ok (.iaload, 1) := by decide +kernel
theorem dX3_passes_71 : decode cX3_passes 71 = .ok (.ifCond .le 7, 3) := by decide +kernel
theorem dX3_passes_74 : decode cX3_passes 74 = .ok (.iconst 1, 1) := by decide +kernel
theorem dX3_passes_75 : decode cX3_passes 75 = .ok (.goto 4, 3) := by decide +kernel
theorem dX3_passes_78 : decode cX3_passes 78 = .ok (.iconst 0, 1) := by decide +kernel
theorem dX3_passes_79 : decode cX3_passes 79 = .ok (.istore_n 2, 1) := by decide +kernel
theorem dX3_passes_80 : decode cX3_passes 80 = .ok (.aload_n 0, 1) := by decide +kernel
theorem dX3_passes_81 : decode cX3_passes 81 = .ok (.getfield 13, 3) := by decide +kernel
theorem dX3_passes_84 : decode cX3_passes 84 = .ok (.iload_n 1, 1) := by decide +kernel
theorem dX3_passes_85 : decode cX3_passes 85 = .ok (.iaload, 1) := by decide +kernel
theorem dX3_passes_86 : decode cX3_passes 86 = .ok (.iload_n 2, 1) := by decide +kernel
theorem dX3_passes_87 : decode cX3_passes 87 = .ok (.ifCond .eq 7, 3) := by decide +kernel
theorem dX3_passes_90 : decode cX3_passes 90 = .ok (.iconst (-1), 1) := by decide +kernel
theorem dX3_passes_91 : decode cX3_passes 91 = .ok (.goto 4, 3) := by decide +kernel
theorem dX3_passes_94 : decode cX3_passes 94 = .ok (.iconst 1, 1) := by decide +kernel
theorem dX3_passes_95 : decode cX3_passes 95 = .ok (.iadd, 1) := by decide +kernel
theorem dX3_passes_96 : decode cX3_passes 96 = .ok (.istore_n 3, 1) := by decide +kernel
theorem dX3_passes_97 : decode cX3_passes 97 = .ok (.aload_n 0, 1) := by decide +kernel
theorem dX3_passes_98 : decode cX3_passes 98 = .ok (.getfield 16, 3) := by decide +kernel
theorem dX3_passes_101 : decode cX3_passes 101 = .ok (.iload_n 1, 1) := by decide +kernel
theorem dX3_passes_102 : decode cX3_passes 102 = .ok (.dup2, 1) := by decide +kernel
theorem dX3_passes_103 : decode cX3_passes 103 = .ok (.iaload, 1) := by decide +kernel
theorem dX3_passes_104 : decode cX3_passes 104 = .ok (.iload_n 2, 1) := by decide +kernel
theorem dX3_passes_105 : decode cX3_passes 105 = .ok (.ifCond .eq 7, 3) := by decide +kernel
theorem dX3_passes_108 : decode cX3_passes 108 = .ok (.iconst 1, 1) := by decide +kernel
theorem dX3_passes_109 : decode cX3_passes 109 = .ok (.goto 4, 3) := by decide +kernel
theorem dX3_passes_112 : decode cX3_passes 112 = .ok (.iconst 0, 1) := by decide +kernel
theorem dX3_passes_113 : decode cX3_passes 113 = .ok (.isub, 1) := by decide +kernel
theorem dX3_passes_114 : decode cX3_passes 114 = .ok (.iastore, 1) := by decide +kernel
theorem dX3_passes_115 : decode cX3_passes 115 = .ok (.aload_n 0, 1) := by decide +kernel
theorem dX3_passes_116 : decode cX3_passes 116 = .ok (.getfield 19, 3) := by decide +kernel
theorem dX3_passes_119 : decode cX3_passes 119 = .ok (.iload_n 1, 1) := by decide +kernel
theorem dX3_passes_120 : decode cX3_passes 120 = .ok (.dup2, 1) := by decide +kernel
theorem dX3_passes_121 : decode cX3_passes 121 = .ok (.iaload, 1) := by decide +kernel
theorem dX3_passes_122 : decode cX3_passes 122 = .ok (.iload_n 2, 1) := by decide +kernel
theorem dX3_passes_123 : decode cX3_passes 123 = .ok (.ifCond .eq 7, 3) := by decide +kernel
theorem dX3_passes_126 : decode cX3_passes 126 = .ok (.iconst 1, 1) := by decide +kernel
theorem dX3_passes_127 : decode cX3_passes 127 = .ok (.goto 4, 3) := by decide +kernel
theorem dX3_passes_130 : decode cX3_passes 130 = .ok (.iconst 0, 1) := by decide +kernel
theorem dX3_passes_131 : decode cX3_passes 131 = .ok (.iadd, 1) := by decide +kernel
theorem dX3_passes_132 : decode cX3_passes 132 = .ok (.iastore, 1) := by decide +kernel
theorem dX3_passes_133 : decode cX3_passes 133 = .ok (.aload_n 0, 1) := by decide +kernel
theorem dX3_passes_134 : decode cX3_passes 134 = .ok (.getfield 13, 3) := by decide +kernel
theorem dX3_passes_137 : decode cX3_passes 137 = .ok (.iload_n 1, 1) := by decide +kernel
theorem dX3_passes_138 : decode cX3_passes 138 = .ok (.iload_n 3, 1) := by decide +kernel
theorem dX3_passes_139 : decode cX3_passes 139 = .ok (.i2l, 1) := by decide +kernel
theorem dX3_passes_140 : decode cX3_passes 140 = .ok (.lconst 0, 1) := by decide +kernel
theorem dX3_passes_141 : decode cX3_passes 141 = .ok (.ldc2_w 90, 3) := by decide +kernel
theorem dX3_passes_144 : decode cX3_passes 144 = .ok (.invokestatic 77, 3) := by decide +kernel
theorem dX3_passes_147 : decode cX3_passes 147 = .ok (.ifCond .eq 7, 3) := by decide +kernel
theorem dX3_passes_150 : decode cX3_passes 150 = .ok (.iload_n 3, 1) := by decide +kernel
theorem dX3_passes_151 : decode cX3_passes 151 = .ok (.goto 9, 3) := by decide +kernel
theorem dX3_passes_154 : decode cX3_passes 154 = .ok (.aload_n 0, 1) := by decide +kernel
theorem dX3_passes_155 : decode cX3_passes 155 = .ok (.getfield 13, 3) := by decide +kernel
theorem dX3_passes_158 : decode cX3_passes 158 = .ok (.iload_n 1, 1) := by decide +kernel
theorem dX3_passes_159 : decode cX3_passes 159 = .ok (.iaload, 1) := by decide +kernel
theorem dX3_passes_160 : decode cX3_passes 160 = .ok (.iastore, 1) := by decide +kernel
theorem dX3_passes_161 : decode cX3_passes 161 = .ok (.iinc 1 1, 3) := by decide +kernel
theorem dX3_passes_164 : decode cX3_passes 164 = .ok (.goto (-122), 3) := by decide +kernel
theorem dX3_passes_167 : decode cX3_passes 167 = .ok (.aload_n 0, 1) := by decide +kernel
theorem dX3_passes_168 : decode cX3_passes 168 = .ok (.dup, 1) := by decide +kernel
theorem dX3_passes_169 : decode cX3_passes 169 = .ok (.getfield 133, 3) := by decide +kernel
theorem dX3_passes_172 : decode cX3_passes 172 = .ok (.iconst 1, 1) := by decide +kernel
theorem dX3_passes_173 : decode cX3_passes 173 = .ok (.iadd, 1) := by decide +kernel
theorem dX3_passes_174 : decode cX3_passes 174 = .ok (.putfield 133, 3) := by decide +kernel
theorem dX3_passes_177 : decode cX3_passes 177 = .ok (.return_, 1) := by decide +kernel
theorem dX3_without_0 : decode cX3_without 0 = .ok (.iconst 0, 1) := by decide +kernel
theorem dX3_without_1 : decode cX3_without 1 = .ok (.istore_n 1, 1) := by decide +kernel
theorem dX3_without_2 : decode cX3_without 2 = .ok (.iconst 0, 1) := by decide +kernel
theorem dX3_without_3 : decode cX3_without 3 = .ok (.istore_n 2, 1) := by decide +kernel
theorem dX3_without_4 : decode cX3_without 4 = .ok (.iload_n 2, 1) := by decide +kernel
theorem dX3_without_5 : decode cX3_without 5 = .ok (.aload_n 0, 1) := by decide +kernel
theorem dX3_without_6 : decode cX3_without 6 = .ok (.getfield 74, 3) := by decide +kernel
theorem dX3_without_9 : decode cX3_without 9 = .ok (.if_icmp .ge 26, 3) := by decide +kernel
theorem dX3_without_12 : decode cX3_without 12 = .ok (.iload_n 1, 1) := by decide +kernel
theorem dX3_without_13 : decode cX3_without 13 = .ok (.aload_n 0, 1) := by decide +kernel
theorem dX3_without_14 : decode cX3_without 14 = .ok (.getfield 16, 3) := by decide +kernel
theorem dX3_without_17 : decode cX3_without 17 = .ok (.iload_n 2, 1) := by decide +kernel
theorem dX3_without_18 : decode cX3_without 18 = .ok (.iaload, 1) := by decide +kernel
theorem dX3_without_19 : decode cX3_without 19 = .ok (.ifCond .ne 7, 3) := by decide +kernel
theorem dX3_without_22 : decode cX3_without 22 = .ok (.iconst 1, 1) := by decide +kernel
theorem dX3_without_23 : decode cX3_without 23 = .ok (.goto 4, 3) := by decide +kernel
theorem dX3_without_26 : decode cX3_without 26 = .ok (.iconst 0, 1) := by decide +kernel
theorem dX3_without_27 : decode cX3_without 27 = .ok (.iadd, 1) := by decide +kernel
theorem dX3_without_28 : decode cX3_without 28 = .ok (.istore_n 1, 1) := by decide +kernel
theorem dX3_without_29 : decode cX3_without 29 = .ok (.iinc 2 1, 3) := by decide +kernel
theorem dX3_without_32 : decode cX3_without 32 = .ok (.goto (-28), 3) := by decide +kernel
theorem dX3_without_35 : decode cX3_without 35 = .ok (.iload_n 1, 1) := by decide +kernel
theorem dX3_without_36 : decode cX3_without 36 = .ok (.ireturn, 1) := by decide +kernel
theorem dX3_weeks_0 : decode cX3_weeks 0 = .ok (.iload_n 1, 1) := by decide +kernel
theorem dX3_weeks_1 : decode cX3_weeks 1 = .ok (.i2l, 1) := by decide +kernel
theorem dX3_weeks_2 : decode cX3_weeks 2 = .ok (.lconst 1, 1) := by decide +kernel
theorem dX3_weeks_3 : decode cX3_weeks 3 = .ok (.ldc2_w 158, 3) := by decide +kernel
theorem dX3_weeks_6 : decode cX3_weeks 6 = .ok (.invokestatic 77, 3) := by decide +kernel
theorem dX3_weeks_9 : decode cX3_weeks 9 = .ok (.ifCond .ne 6, 3) := by decide +kernel
theorem dX3_weeks_12 : decode cX3_weeks 12 = .ok (.bipush (-2), 2) := by decide +kernel
theorem dX3_weeks_14 : decode cX3_weeks 14 = .ok (.ireturn, 1) := by decide +kernel
theorem dX3_weeks_15 : decode cX3_weeks 15 = .ok (.aload_n 0, 1) := by decide +kernel
theorem dX3_weeks_16 : decode cX3_weeks 16 = .ok (.getfield 74, 3) := by decide +kernel
theorem dX3_weeks_19 : decode cX3_weeks 19 = .ok (.ifCond .ne 6, 3) := by decide +kernel
theorem dX3_weeks_22 : decode cX3_weeks 22 = .ok (.bipush (-3), 2) := by decide +kernel
theorem dX3_weeks_24 : decode cX3_weeks 24 = .ok (.ireturn, 1) := by decide +kernel
theorem dX3_weeks_25 : decode cX3_weeks 25 = .ok (.iconst 0, 1) := by decide +kernel
theorem dX3_weeks_26 : decode cX3_weeks 26 = .ok (.istore_n 2, 1) := by decide +kernel
theorem dX3_weeks_27 : decode cX3_weeks 27 = .ok (.iload_n 2, 1) := by decide +kernel
theorem dX3_weeks_28 : decode cX3_weeks 28 = .ok (.iload_n 1, 1) := by decide +kernel
theorem dX3_weeks_29 : decode cX3_weeks 29 = .ok (.if_icmp .ge 13, 3) := by decide +kernel
theorem dX3_weeks_32 : decode cX3_weeks 32 = .ok (.aload_n 0, 1) := by decide +kernel
theorem dX3_weeks_33 : decode cX3_weeks 33 = .ok (.invokevirtual 160, 3) := by decide +kernel
theorem dX3_weeks_36 : decode cX3_weeks 36 = .ok (.iinc 2 1, 3) := by decide +kernel
theorem dX3_weeks_39 : decode cX3_weeks 39 = .ok (.goto (-12), 3) := by decide +kernel
theorem dX3_weeks_42 : decode cX3_weeks 42 = .ok (.aload_n 0, 1) := by decide +kernel
theorem dX3_weeks_43 : decode cX3_weeks 43 = .ok (.invokevirtual 163, 3) := by decide +kernel
theorem dX3_weeks_46 : decode cX3_weeks 46 = .ok (.ireturn, 1) := by decide +kernel
theorem dX3_gave_0 : decode cX3_gave 0 = .ok (.aload_n 0, 1) := by decide +kernel
theorem dX3_gave_1 : decode cX3_gave 1 = .ok (.getfield 16, 3) := by decide +kernel
theorem dX3_gave_4 : decode cX3_gave 4 = .ok (.iload_n 1, 1) := by decide +kernel
theorem dX3_gave_5 : decode cX3_gave 5 = .ok (.iaload, 1) := by decide +kernel
theorem dX3_gave_6 : decode cX3_gave 6 = .ok (.ifCond .le 7, 3) := by decide +kernel
theorem dX3_gave_9 : decode cX3_gave 9 = .ok (.iconst 1, 1) := by decide +kernel
theorem dX3_gave_10 : decode cX3_gave 10 = .ok (.goto 4, 3) := by decide +kernel
theorem dX3_gave_13 : decode cX3_gave 13 = .ok (.iconst 0, 1) := by decide +kernel
theorem dX3_gave_14 : decode cX3_gave 14 = .ok (.istore_n 2, 1) := by decide +kernel
theorem dX3_gave_15 : decode cX3_gave 15 = .ok (.iload_n 1, 1) := by decide +kernel
theorem dX3_gave_16 : decode cX3_gave 16 = .ok (.iconst 1, 1) := by decide +kernel
theorem dX3_gave_17 : decode cX3_gave 17 = .ok (.iadd, 1) := by decide +kernel
theorem dX3_gave_18 : decode cX3_gave 18 = .ok (.aload_n 0, 1) := by decide +kernel
theorem dX3_gave_19 : decode cX3_gave 19 = .ok (.getfield 74, 3) := by decide +kernel
theorem dX3_gave_22 : decode cX3_gave 22 = .ok (.if_icmp .ne 7, 3) := by decide +kernel
theorem dX3_gave_25 : decode cX3_gave 25 = .ok (.iconst 0, 1) := by decide +kernel
theorem dX3_gave_26 : decode cX3_gave 26 = .ok (.goto 6, 3) := by decide +kernel
theorem dX3_gave_29 : decode cX3_gave 29 = .ok (.iload_n 1, 1) := by decide +kernel
theorem dX3_gave_30 : decode cX3_gave 30 = .ok (.iconst 1, 1) := by decide +kernel
theorem dX3_gave_31 : decode cX3_gave 31 = .ok (.iadd, 1) := by decide +kernel
theorem dX3_gave_32 : decode cX3_gave 32 = .ok (.istore_n 3, 1) := by decide +kernel
theorem dX3_gave_33 : decode cX3_gave 33 = .ok (.aload_n 0, 1) := by decide +kernel
theorem dX3_gave_34 : decode cX3_gave 34 = .ok (.getfield 16, 3) := by decide +kernel
theorem dX3_gave_37 : decode cX3_gave 37 = .ok (.iload_n 1, 1) := by decide +kernel
theorem dX3_gave_38 : decode cX3_gave 38 = .ok (.dup2, 1) := by decide +kernel
theorem dX3_gave_39 : decode cX3_gave 39 = .ok (.iaload, 1) := by decide +kernel
theorem dX3_gave_40 : decode cX3_gave 40 = .ok (.iload_n 2, 1) := by decide +kernel
theorem dX3_gave_41 : decode cX3_gave 41 = .ok (.ifCond .eq 7, 3) := by decide +kernel
theorem dX3_gave_44 : decode cX3_gave 44 = .ok (.iconst 1, 1) := by decide +kernel
theorem dX3_gave_45 : decode cX3_gave 45 = .ok (.goto 4, 3) := by decide +kernel
theorem dX3_gave_48 : decode cX3_gave 48 = .ok (.iconst 0, 1) := by decide +kernel
theorem dX3_gave_49 : decode cX3_gave 49 = .ok (.isub, 1) := by decide +kernel
theorem dX3_gave_50 : decode cX3_gave 50 = .ok (.iastore, 1) := by decide +kernel
theorem dX3_gave_51 : decode cX3_gave 51 = .ok (.aload_n 0, 1) := by decide +kernel
theorem dX3_gave_52 : decode cX3_gave 52 = .ok (.getfield 16, 3) := by decide +kernel
theorem dX3_gave_55 : decode cX3_gave 55 = .ok (.iload_n 3, 1) := by decide +kernel
theorem dX3_gave_56 : decode cX3_gave 56 = .ok (.dup2, 1) := by decide +kernel
theorem dX3_gave_57 : decode cX3_gave 57 = .ok (.iaload, 1) := by decide +kernel
theorem dX3_gave_58 : decode cX3_gave 58 = .ok (.iload_n 2, 1) := by decide +kernel
theorem dX3_gave_59 : decode cX3_gave 59 = .ok (.ifCond .eq 7, 3) := by decide +kernel
theorem dX3_gave_62 : decode cX3_gave 62 = .ok (.iconst 1, 1) := by decide +kernel
theorem dX3_gave_63 : decode cX3_gave 63 = .ok (.goto 4, 3) := by decide +kernel
theorem dX3_gave_66 : decode cX3_gave 66 = .ok (.iconst 0, 1) := by decide +kernel
theorem dX3_gave_67 : decode cX3_gave 67 = .ok (.iadd, 1) := by decide +kernel
theorem dX3_gave_68 : decode cX3_gave 68 = .ok (.iastore, 1) := by decide +kernel
theorem dX3_gave_69 : decode cX3_gave 69 = .ok (.iload_n 2, 1) := by decide +kernel
theorem dX3_gave_70 : decode cX3_gave 70 = .ok (.ireturn, 1) := by decide +kernel
theorem dX3_gift_0 : decode cX3_gift 0 = .ok (.aload_n 0, 1) := by decide +kernel
theorem dX3_gift_1 : decode cX3_gift 1 = .ok (.iload_n 1, 1) := by decide +kernel
theorem dX3_gift_2 : decode cX3_gift 2 = .ok (.invokevirtual 149, 3) := by decide +kernel
theorem dX3_gift_5 : decode cX3_gift 5 = .ok (.ifCond .eq 5, 3) := by decide +kernel
theorem dX3_gift_8 : decode cX3_gift 8 = .ok (.iconst (-1), 1) := by decide +kernel
theorem dX3_gift_9 : decode cX3_gift 9 = .ok (.ireturn, 1) := by decide +kernel
theorem dX3_gift_10 : decode cX3_gift 10 = .ok (.aload_n 0, 1) := by decide +kernel
theorem dX3_gift_11 : decode cX3_gift 11 = .ok (.iload_n 1, 1) := by decide +kernel
theorem dX3_gift_12 : decode cX3_gift 12 = .ok (.invokevirtual 166, 3) := by decide +kernel
theorem dX3_gift_15 : decode cX3_gift 15 = .ok (.ifCond .eq 12, 3) := by decide +kernel
theorem dX3_gift_18 : decode cX3_gift 18 = .ok (.aload_n 0, 1) := by decide +kernel
theorem dX3_gift_19 : decode cX3_gift 19 = .ok (.getfield 16, 3) := by decide +kernel
theorem dX3_gift_22 : decode cX3_gift 22 = .ok (.iload_n 1, 1) := by decide +kernel
theorem dX3_gift_23 : decode cX3_gift 23 = .ok (.iaload, 1) := by decide +kernel
theorem dX3_gift_24 : decode cX3_gift 24 = .ok (.goto 5, 3) := by decide +kernel
theorem dX3_gift_27 : decode cX3_gift 27 = .ok (.bipush (-3), 2) := by decide +kernel
theorem dX3_gift_29 : decode cX3_gift 29 = .ok (.ireturn, 1) := by decide +kernel
theorem dX3_keepAll_0 : decode cX3_keepAll 0 = .ok (.aload_n 0, 1) := by decide +kernel
theorem dX3_keepAll_1 : decode cX3_keepAll 1 = .ok (.aload_n 0, 1) := by decide +kernel
theorem dX3_keepAll_2 : decode cX3_keepAll 2 = .ok (.getfield 130, 3) := by decide +kernel
theorem dX3_keepAll_5 : decode cX3_keepAll 5 = .ok (.putfield 169, 3) := by decide +kernel
theorem dX3_keepAll_8 : decode cX3_keepAll 8 = .ok (.aload_n 0, 1) := by decide +kernel
theorem dX3_keepAll_9 : decode cX3_keepAll 9 = .ok (.aload_n 0, 1) := by decide +kernel
theorem dX3_keepAll_10 : decode cX3_keepAll 10 = .ok (.getfield 133, 3) := by decide +kernel
theorem dX3_keepAll_13 : decode cX3_keepAll 13 = .ok (.putfield 172, 3) := by decide +kernel
theorem dX3_keepAll_16 : decode cX3_keepAll 16 = .ok (.iconst 0, 1) := by decide +kernel
theorem dX3_keepAll_17 : decode cX3_keepAll 17 = .ok (.istore_n 1, 1) := by decide +kernel
theorem dX3_keepAll_18 : decode cX3_keepAll 18 = .ok (.iload_n 1, 1) := by decide +kernel
theorem dX3_keepAll_19 : decode cX3_keepAll 19 = .ok (.aload_n 0, 1) := by decide +kernel
theorem dX3_keepAll_20 : decode cX3_keepAll 20 = .ok (.getfield 74, 3) := by decide +kernel
theorem dX3_keepAll_23 : decode cX3_keepAll 23 = .ok (.if_icmp .ge 45, 3) := by decide +kernel
theorem dX3_keepAll_26 : decode cX3_keepAll 26 = .ok (.aload_n 0, 1) := by decide +kernel
theorem dX3_keepAll_27 : decode cX3_keepAll 27 = .ok (.getfield 34, 3) := by decide +kernel
theorem dX3_keepAll_30 : decode cX3_keepAll 30 = .ok (.iload_n 1, 1) := by decide +kernel
theorem dX3_keepAll_31 : decode cX3_keepAll 31 = .ok (.aload_n 0, 1) := by decide +kernel
theorem dX3_keepAll_32 : decode cX3_keepAll 32 = .ok (.getfield 13, 3) := by decide +kernel
theorem dX3_keepAll_35 : decode cX3_keepAll 35 = .ok (.iload_n 1, 1) := by decide +kernel
theorem dX3_keepAll_36 : decode cX3_keepAll 36 = .ok (.iaload, 1) := by decide +kernel
theorem dX3_keepAll_37 : decode cX3_keepAll 37 = .ok (.iastore, 1) := by decide +kernel
theorem dX3_keepAll_38 : decode cX3_keepAll 38 = .ok (.aload_n 0, 1) := by decide +kernel
theorem dX3_keepAll_39 : decode cX3_keepAll 39 = .ok (.getfield 37, 3) := by decide +kernel
theorem dX3_keepAll_42 : decode cX3_keepAll 42 = .ok (.iload_n 1, 1) := by decide +kernel
theorem dX3_keepAll_43 : decode cX3_keepAll 43 = .ok (.aload_n 0, 1) := by decide +kernel
theorem dX3_keepAll_44 : decode cX3_keepAll 44 = .ok (.getfield 16, 3) := by decide +kernel
theorem dX3_keepAll_47 : decode cX3_keepAll 47 = .ok (.iload_n 1, 1) := by decide +kernel
theorem dX3_keepAll_48 : decode cX3_keepAll 48 = .ok (.iaload, 1) := by decide +kernel
theorem dX3_keepAll_49 : decode cX3_keepAll 49 = .ok (.iastore, 1) := by decide +kernel
theorem dX3_keepAll_50 : decode cX3_keepAll 50 = .ok (.aload_n 0, 1) := by decide +kernel
theorem dX3_keepAll_51 : decode cX3_keepAll 51 = .ok (.getfield 40, 3) := by decide +kernel
theorem dX3_keepAll_54 : decode cX3_keepAll 54 = .ok (.iload_n 1, 1) := by decide +kernel
theorem dX3_keepAll_55 : decode cX3_keepAll 55 = .ok (.aload_n 0, 1) := by decide +kernel
theorem dX3_keepAll_56 : decode cX3_keepAll 56 = .ok (.getfield 19, 3) := by decide +kernel
theorem dX3_keepAll_59 : decode cX3_keepAll 59 = .ok (.iload_n 1, 1) := by decide +kernel
theorem dX3_keepAll_60 : decode cX3_keepAll 60 = .ok (.iaload, 1) := by decide +kernel
theorem dX3_keepAll_61 : decode cX3_keepAll 61 = .ok (.iastore, 1) := by decide +kernel
theorem dX3_keepAll_62 : decode cX3_keepAll 62 = .ok (.iinc 1 1, 3) := by decide +kernel
theorem dX3_keepAll_65 : decode cX3_keepAll 65 = .ok (.goto (-47), 3) := by decide +kernel
theorem dX3_keepAll_68 : decode cX3_keepAll 68 = .ok (.return_, 1) := by decide +kernel
theorem dX3_bringBack_0 : decode cX3_bringBack 0 = .ok (.aload_n 0, 1) := by decide +kernel
theorem dX3_bringBack_1 : decode cX3_bringBack 1 = .ok (.aload_n 0, 1) := by decide +kernel
theorem dX3_bringBack_2 : decode cX3_bringBack 2 = .ok (.getfield 169, 3) := by decide +kernel
theorem dX3_bringBack_5 : decode cX3_bringBack 5 = .ok (.putfield 130, 3) := by decide +kernel
theorem dX3_bringBack_8 : decode cX3_bringBack 8 = .ok (.aload_n 0, 1) := by decide +kernel
theorem dX3_bringBack_9 : decode cX3_bringBack 9 = .ok (.aload_n 0, 1) := by decide +kernel
theorem dX3_bringBack_10 : decode cX3_bringBack 10 = .ok (.getfield 172, 3) := by decide +kernel
theorem dX3_bringBack_13 : decode cX3_bringBack 13 = .ok (.putfield 133, 3) := by decide +kernel
theorem dX3_bringBack_16 : decode cX3_bringBack 16 = .ok (.iconst 0, 1) := by decide +kernel
theorem dX3_bringBack_17 : decode cX3_bringBack 17 = .ok (.istore_n 1, 1) := by decide +kernel
theorem dX3_bringBack_18 : decode cX3_bringBack 18 = .ok (.iload_n 1, 1) := by decide +kernel
theorem dX3_bringBack_19 : decode cX3_bringBack 19 = .ok (.aload_n 0, 1) := by decide +kernel
theorem dX3_bringBack_20 : decode cX3_bringBack 20 = .ok (.getfield 74, 3) := by decide +kernel
theorem dX3_bringBack_23 : decode cX3_bringBack 23 = .ok (.if_icmp .ge 45, 3) := by decide +kernel
theorem dX3_bringBack_26 : decode cX3_bringBack 26 = .ok (.aload_n 0, 1) := by decide +kernel
theorem dX3_bringBack_27 : decode cX3_bringBack 27 = .ok (.getfield 13, 3) := by decide +kernel
theorem dX3_bringBack_30 : decode cX3_bringBack 30 = .ok (.iload_n 1, 1) := by decide +kernel
theorem dX3_bringBack_31 : decode cX3_bringBack 31 = .ok (.aload_n 0, 1) := by decide +kernel
theorem dX3_bringBack_32 : decode cX3_bringBack 32 = .ok (.getfield 34, 3) := by decide +kernel
theorem dX3_bringBack_35 : decode cX3_bringBack 35 = .ok (.iload_n 1, 1) := by decide +kernel
theorem dX3_bringBack_36 : decode cX3_bringBack 36 = .ok (.iaload, 1) := by decide +kernel
theorem dX3_bringBack_37 : decode cX3_bringBack 37 = .ok (.iastore, 1) := by decide +kernel
theorem dX3_bringBack_38 : decode cX3_bringBack 38 = .ok (.aload_n 0, 1) := by decide +kernel
theorem dX3_bringBack_39 : decode cX3_bringBack 39 = .ok (.getfield 16, 3) := by decide +kernel
theorem dX3_bringBack_42 : decode cX3_bringBack 42 = .ok (.iload_n 1, 1) := by decide +kernel
theorem dX3_bringBack_43 : decode cX3_bringBack 43 = .ok (.aload_n 0, 1) := by decide +kernel
theorem dX3_bringBack_44 : decode cX3_bringBack 44 = .ok (.getfield 37, 3) := by decide +kernel
theorem dX3_bringBack_47 : decode cX3_bringBack 47 = .ok (.iload_n 1, 1) := by decide +kernel
theorem dX3_bringBack_48 : decode cX3_bringBack 48 = .ok (.iaload, 1) := by decide +kernel
theorem dX3_bringBack_49 : decode cX3_bringBack 49 = .ok (.iastore, 1) := by decide +kernel
theorem dX3_bringBack_50 : decode cX3_bringBack 50 = .ok (.aload_n 0, 1) := by decide +kernel
theorem dX3_bringBack_51 : decode cX3_bringBack 51 = .ok (.getfield 19, 3) := by decide +kernel
theorem dX3_bringBack_54 : decode cX3_bringBack 54 = .ok (.iload_n 1, 1) := by decide +kernel
theorem dX3_bringBack_55 : decode cX3_bringBack 55 = .ok (.aload_n 0, 1) := by decide +kernel
theorem dX3_bringBack_56 : decode cX3_bringBack 56 = .ok (.getfield 40, 3) := by decide +kernel
theorem dX3_bringBack_59 : decode cX3_bringBack 59 = .ok (.iload_n 1, 1) := by decide +kernel
theorem dX3_bringBack_60 : decode cX3_bringBack 60 = .ok (.iaload, 1) := by decide +kernel
theorem dX3_bringBack_61 : decode cX3_bringBack 61 = .ok (.iastore, 1) := by decide +kernel
theorem dX3_bringBack_62 : decode cX3_bringBack 62 = .ok (.iinc 1 1, 3) := by decide +kernel
theorem dX3_bringBack_65 : decode cX3_bringBack 65 = .ok (.goto (-47), 3) := by decide +kernel
theorem dX3_bringBack_68 : decode cX3_bringBack 68 = .ok (.return_, 1) := by decide +kernel
theorem dX3_pairsBarred_0 : decode cX3_pairsBarred 0 = .ok (.iconst 0, 1) := by decide +kernel
theorem dX3_pairsBarred_1 : decode cX3_pairsBarred 1 = .ok (.istore_n 3, 1) := by decide +kernel
theorem dX3_pairsBarred_2 : decode cX3_pairsBarred 2 = .ok (.iload_n 3, 1) := by decide +kernel
theorem dX3_pairsBarred_3 : decode cX3_pairsBarred 3 = .ok (.iload_n 2, 1) := by decide +kernel
theorem dX3_pairsBarred_4 : decode cX3_pairsBarred 4 = .ok (.if_icmp .ge 100, 3) := by decide +kernel
theorem dX3_pairsBarred_7 : decode cX3_pairsBarred 7 = .ok (.aload_n 0, 1) := by decide +kernel
theorem dX3_pairsBarred_8 : decode cX3_pairsBarred 8 = .ok (.getfield 58, 3) := by decide +kernel
theorem dX3_pairsBarred_11 : decode cX3_pairsBarred 11 = .ok (.iload_n 1, 1) := by decide +kernel
theorem dX3_pairsBarred_12 : decode cX3_pairsBarred 12 = .ok (.iconst 2, 1) := by decide +kernel
theorem dX3_pairsBarred_13 : decode cX3_pairsBarred 13 = .ok (.iload_n 3, 1) := by decide +kernel
theorem dX3_pairsBarred_14 : decode cX3_pairsBarred 14 = .ok (.imul, 1) := by decide +kernel
theorem dX3_pairsBarred_15 : decode cX3_pairsBarred 15 = .ok (.iadd, 1) := by decide +kernel
theorem dX3_pairsBarred_16 : decode cX3_pairsBarred 16 = .ok (.iaload, 1) := by decide +kernel
theorem dX3_pairsBarred_17 : decode cX3_pairsBarred 17 = .ok (.istore 4, 2) := by decide +kernel
theorem dX3_pairsBarred_19 : decode cX3_pairsBarred 19 = .ok (.aload_n 0, 1) := by decide +kernel
theorem dX3_pairsBarred_20 : decode cX3_pairsBarred 20 = .ok (.getfield 58, 3) := by decide +kernel
theorem dX3_pairsBarred_23 : decode cX3_pairsBarred 23 = .ok (.iload_n 1, 1) := by decide +kernel
theorem dX3_pairsBarred_24 : decode cX3_pairsBarred 24 = .ok (.iconst 2, 1) := by decide +kernel
theorem dX3_pairsBarred_25 : decode cX3_pairsBarred 25 = .ok (.iload_n 3, 1) := by decide +kernel
theorem dX3_pairsBarred_26 : decode cX3_pairsBarred 26 = .ok (.imul, 1) := by decide +kernel
theorem dX3_pairsBarred_27 : decode cX3_pairsBarred 27 = .ok (.iadd, 1) := by decide +kernel
theorem dX3_pairsBarred_28 : decode cX3_pairsBarred 28 = .ok (.iconst 1, 1) := by decide +kernel
theorem dX3_pairsBarred_29 : decode cX3_pairsBarred 29 = .ok (.iadd, 1) := by decide +kernel
theorem dX3_pairsBarred_30 : decode cX3_pairsBarred 30 = .ok (.iaload, 1) := by decide +kernel
theorem dX3_pairsBarred_31 : decode cX3_pairsBarred 31 = .ok (.istore 5, 2) := by decide +kernel
theorem dX3_pairsBarred_33 : decode cX3_pairsBarred 33 = .ok (.iload 5, 2) := by decide +kernel
theorem dX3_pairsBarred_35 : decode cX3_pairsBarred 35 = .ok (.i2l, 1) := by decide +kernel
theorem dX3_pairsBarred_36 : decode cX3_pairsBarred 36 = .ok (.lconst 0, 1) := by decide +kernel
theorem dX3_pairsBarred_37 : decode cX3_pairsBarred 37 = .ok (.ldc2_w 121, 3) := by decide +kernel
theorem dX3_pairsBarred_40 : decode cX3_pairsBarred 40 = .ok (.invokestatic 77, 3) := by decide +kernel
theorem dX3_pairsBarred_43 : decode cX3_pairsBarred 43 = .ok (.ifCond .eq 35, 3) := by decide +kernel
theorem dX3_pairsBarred_46 : decode cX3_pairsBarred 46 = .ok (.iload 5, 2) := by decide +kernel
theorem dX3_pairsBarred_48 : decode cX3_pairsBarred 48 = .ok (.ifCond .ne 16, 3) := by decide +kernel
theorem dX3_pairsBarred_51 : decode cX3_pairsBarred 51 = .ok (.iload 4, 2) := by decide +kernel
theorem dX3_pairsBarred_53 : decode cX3_pairsBarred 53 = .ok (.i2l, 1) := by decide +kernel
theorem dX3_pairsBarred_54 : decode cX3_pairsBarred 54 = .ok (.lconst 0, 1) := by decide +kernel
theorem dX3_pairsBarred_55 : decode cX3_pairsBarred 55 = .ok (.ldc2_w 90, 3) := by decide +kernel
theorem dX3_pairsBarred_58 : decode cX3_pairsBarred 58 = .ok (.invokestatic 77, 3) := by decide +kernel
theorem dX3_pairsBarred_61 : decode cX3_pairsBarred 61 = .ok (.ifCond .eq 17, 3) := by decide +kernel
theorem dX3_pairsBarred_64 : decode cX3_pairsBarred 64 = .ok (.iload 5, 2) := by decide +kernel
theorem dX3_pairsBarred_66 : decode cX3_pairsBarred 66 = .ok (.iconst 2, 1) := by decide +kernel
theorem dX3_pairsBarred_67 : decode cX3_pairsBarred 67 = .ok (.if_icmp .ne 14, 3) := by decide +kernel
theorem dX3_pairsBarred_70 : decode cX3_pairsBarred 70 = .ok (.iload 4, 2) := by decide +kernel
theorem dX3_pairsBarred_72 : decode cX3_pairsBarred 72 = .ok (.invokestatic 155, 3) := by decide +kernel
theorem dX3_pairsBarred_75 : decode cX3_pairsBarred 75 = .ok (.ifCond .ne 6, 3) := by decide +kernel
theorem dX3_pairsBarred_78 : decode cX3_pairsBarred 78 = .ok (.bipush (-2), 2) := by decide +kernel
theorem dX3_pairsBarred_80 : decode cX3_pairsBarred 80 = .ok (.ireturn, 1) := by decide +kernel
theorem dX3_pairsBarred_81 : decode cX3_pairsBarred 81 = .ok (.iload 5, 2) := by decide +kernel
theorem dX3_pairsBarred_83 : decode cX3_pairsBarred 83 = .ok (.iconst 1, 1) := by decide +kernel
theorem dX3_pairsBarred_84 : decode cX3_pairsBarred 84 = .ok (.if_icmp .ne 14, 3) := by decide +kernel
theorem dX3_pairsBarred_87 : decode cX3_pairsBarred 87 = .ok (.aload_n 0, 1) := by decide +kernel
theorem dX3_pairsBarred_88 : decode cX3_pairsBarred 88 = .ok (.iload 4, 2) := by decide +kernel
theorem dX3_pairsBarred_90 : decode cX3_pairsBarred 90 = .ok (.invokevirtual 149, 3) := by decide +kernel
theorem dX3_pairsBarred_93 : decode cX3_pairsBarred 93 = .ok (.ifCond .eq 5, 3) := by decide +kernel
theorem dX3_pairsBarred_96 : decode cX3_pairsBarred 96 = .ok (.iconst (-1), 1) := by decide +kernel
theorem dX3_pairsBarred_97 : decode cX3_pairsBarred 97 = .ok (.ireturn, 1) := by decide +kernel
theorem dX3_pairsBarred_98 : decode cX3_pairsBarred 98 = .ok (.iinc 3 1, 3) := by decide +kernel
theorem dX3_pairsBarred_101 : decode cX3_pairsBarred 101 = .ok (.goto (-99), 3) := by decide +kernel
theorem dX3_pairsBarred_104 : decode cX3_pairsBarred 104 = .ok (.iconst 0, 1) := by decide +kernel
theorem dX3_pairsBarred_105 : decode cX3_pairsBarred 105 = .ok (.ireturn, 1) := by decide +kernel
theorem dX3_did_0 : decode cX3_did 0 = .ok (.iload_n 2, 1) := by decide +kernel
theorem dX3_did_1 : decode cX3_did 1 = .ok (.iconst 1, 1) := by decide +kernel
theorem dX3_did_2 : decode cX3_did 2 = .ok (.if_icmp .ne 9, 3) := by decide +kernel
theorem dX3_did_5 : decode cX3_did 5 = .ok (.aload_n 0, 1) := by decide +kernel
theorem dX3_did_6 : decode cX3_did 6 = .ok (.iload_n 1, 1) := by decide +kernel
theorem dX3_did_7 : decode cX3_did 7 = .ok (.invokevirtual 166, 3) := by decide +kernel
theorem dX3_did_10 : decode cX3_did 10 = .ok (.ireturn, 1) := by decide +kernel
theorem dX3_did_11 : decode cX3_did 11 = .ok (.iload_n 2, 1) := by decide +kernel
theorem dX3_did_12 : decode cX3_did 12 = .ok (.iconst 2, 1) := by decide +kernel
theorem dX3_did_13 : decode cX3_did 13 = .ok (.if_icmp .ne 10, 3) := by decide +kernel
theorem dX3_did_16 : decode cX3_did 16 = .ok (.aload_n 0, 1) := by decide +kernel
theorem dX3_did_17 : decode cX3_did 17 = .ok (.iload_n 1, 1) := by decide +kernel
theorem dX3_did_18 : decode cX3_did 18 = .ok (.putfield 130, 3) := by decide +kernel
theorem dX3_did_21 : decode cX3_did 21 = .ok (.iconst 1, 1) := by decide +kernel
theorem dX3_did_22 : decode cX3_did 22 = .ok (.ireturn, 1) := by decide +kernel
theorem dX3_did_23 : decode cX3_did 23 = .ok (.iconst 0, 1) := by decide +kernel
theorem dX3_did_24 : decode cX3_did 24 = .ok (.istore_n 3, 1) := by decide +kernel
theorem dX3_did_25 : decode cX3_did 25 = .ok (.iload_n 3, 1) := by decide +kernel
theorem dX3_did_26 : decode cX3_did 26 = .ok (.iload_n 1, 1) := by decide +kernel
theorem dX3_did_27 : decode cX3_did 27 = .ok (.if_icmp .ge 34, 3) := by decide +kernel
theorem dX3_did_30 : decode cX3_did 30 = .ok (.aload_n 0, 1) := by decide +kernel
theorem dX3_did_31 : decode cX3_did 31 = .ok (.invokevirtual 160, 3) := by decide +kernel
theorem dX3_did_34 : decode cX3_did 34 = .ok (.aload_n 0, 1) := by decide +kernel
theorem dX3_did_35 : decode cX3_did 35 = .ok (.dup, 1) := by decide +kernel
theorem dX3_did_36 : decode cX3_did 36 = .ok (.getfield 175, 3) := by decide +kernel
theorem dX3_did_39 : decode cX3_did 39 = .ok (.aload_n 0, 1) := by decide +kernel
theorem dX3_did_40 : decode cX3_did 40 = .ok (.invokevirtual 163, 3) := by decide +kernel
theorem dX3_did_43 : decode cX3_did 43 = .ok (.ifCond .le 7, 3) := by decide +kernel
theorem dX3_did_46 : decode cX3_did 46 = .ok (.iconst 1, 1) := by decide +kernel
theorem dX3_did_47 : decode cX3_did 47 = .ok (.goto 4, 3) := by decide +kernel
theorem dX3_did_50 : decode cX3_did 50 = .ok (.iconst 0, 1) := by decide +kernel
theorem dX3_did_51 : decode cX3_did 51 = .ok (.iadd, 1) := by decide +kernel
theorem dX3_did_52 : decode cX3_did 52 = .ok (.putfield 175, 3) := by decide +kernel
theorem dX3_did_55 : decode cX3_did 55 = .ok (.iinc 3 1, 3) := by decide +kernel
theorem dX3_did_58 : decode cX3_did 58 = .ok (.goto (-33), 3) := by decide +kernel
theorem dX3_did_61 : decode cX3_did 61 = .ok (.iconst 1, 1) := by decide +kernel
theorem dX3_did_62 : decode cX3_did 62 = .ok (.ireturn, 1) := by decide +kernel
theorem dX3_seasonBy_0 : decode cX3_seasonBy 0 = .ok (.bipush (-9), 2) := by decide +kernel
theorem dX3_seasonBy_2 : decode cX3_seasonBy 2 = .ok (.istore 4, 2) := by decide +kernel
theorem dX3_seasonBy_4 : decode cX3_seasonBy 4 = .ok (.aload_n 0, 1) := by decide +kernel
theorem dX3_seasonBy_5 : decode cX3_seasonBy 5 = .ok (.iconst 0, 1) := by decide +kernel
theorem dX3_seasonBy_6 : decode cX3_seasonBy 6 = .ok (.putfield 175, 3) := by decide +kernel
theorem dX3_seasonBy_9 : decode cX3_seasonBy 9 = .ok (.iconst 0, 1) := by decide +kernel
theorem dX3_seasonBy_10 : decode cX3_seasonBy 10 = .ok (.istore 5, 2) := by decide +kernel
theorem dX3_seasonBy_12 : decode cX3_seasonBy 12 = .ok (.iload 5, 2) := by decide +kernel
theorem dX3_seasonBy_14 : decode cX3_seasonBy 14 = .ok (.iload_n 2, 1) := by decide +kernel
theorem dX3_seasonBy_15 : decode cX3_seasonBy 15 = .ok (.if_icmp .ge 54, 3) := by decide +kernel
theorem dX3_seasonBy_18 : decode cX3_seasonBy 18 = .ok (.iload 4, 2) := by decide +kernel
theorem dX3_seasonBy_20 : decode cX3_seasonBy 20 = .ok (.ifCond .ge 49, 3) := by decide +kernel
theorem dX3_seasonBy_23 : decode cX3_seasonBy 23 = .ok (.aload_n 0, 1) := by decide +kernel
theorem dX3_seasonBy_24 : decode cX3_seasonBy 24 = .ok (.aload_n 0, 1) := by decide +kernel
theorem dX3_seasonBy_25 : decode cX3_seasonBy 25 = .ok (.getfield 58, 3) := by decide +kernel
theorem dX3_seasonBy_28 : decode cX3_seasonBy 28 = .ok (.iload_n 1, 1) := by decide +kernel
theorem dX3_seasonBy_29 : decode cX3_seasonBy 29 = .ok (.iconst 2, 1) := by decide +kernel
theorem dX3_seasonBy_30 : decode cX3_seasonBy 30 = .ok (.iload 5, 2) := by decide +kernel
theorem dX3_seasonBy_32 : decode cX3_seasonBy 32 = .ok (.imul, 1) := by decide +kernel
theorem dX3_seasonBy_33 : decode cX3_seasonBy 33 = .ok (.iadd, 1) := by decide +kernel
theorem dX3_seasonBy_34 : decode cX3_seasonBy 34 = .ok (.iaload, 1) := by decide +kernel
theorem dX3_seasonBy_35 : decode cX3_seasonBy 35 = .ok (.aload_n 0, 1) := by decide +kernel
theorem dX3_seasonBy_36 : decode cX3_seasonBy 36 = .ok (.getfield 58, 3) := by decide +kernel
theorem dX3_seasonBy_39 : decode cX3_seasonBy 39 = .ok (.iload_n 1, 1) := by decide +kernel
theorem dX3_seasonBy_40 : decode cX3_seasonBy 40 = .ok (.iconst 2, 1) := by decide +kernel
theorem dX3_seasonBy_41 : decode cX3_seasonBy 41 = .ok (.iload 5, 2) := by decide +kernel
theorem dX3_seasonBy_43 : decode cX3_seasonBy 43 = .ok (.imul, 1) := by decide +kernel
theorem dX3_seasonBy_44 : decode cX3_seasonBy 44 = .ok (.iadd, 1) := by decide +kernel
theorem dX3_seasonBy_45 : decode cX3_seasonBy 45 = .ok (.iconst 1, 1) := by decide +kernel
theorem dX3_seasonBy_46 : decode cX3_seasonBy 46 = .ok (.iadd, 1) := by decide +kernel
theorem dX3_seasonBy_47 : decode cX3_seasonBy 47 = .ok (.iaload, 1) := by decide +kernel
theorem dX3_seasonBy_48 : decode cX3_seasonBy 48 = .ok (.invokevirtual 178, 3) := by decide +kernel
theorem dX3_seasonBy_51 : decode cX3_seasonBy 51 = .ok (.ifCond .eq 8, 3) := by decide +kernel
theorem dX3_seasonBy_54 : decode cX3_seasonBy 54 = .ok (.bipush (-9), 2) := by decide +kernel
theorem dX3_seasonBy_56 : decode cX3_seasonBy 56 = .ok (.goto 5, 3) := by decide +kernel
theorem dX3_seasonBy_59 : decode cX3_seasonBy 59 = .ok (.iload 5, 2) := by decide +kernel
theorem dX3_seasonBy_61 : decode cX3_seasonBy 61 = .ok (.istore 4, 2) := by decide +kernel
theorem dX3_seasonBy_63 : decode cX3_seasonBy 63 = .ok (.iinc 5 1, 3) := by decide +kernel
theorem dX3_seasonBy_66 : decode cX3_seasonBy 66 = .ok (.goto (-54), 3) := by decide +kernel
theorem dX3_seasonBy_69 : decode cX3_seasonBy 69 = .ok (.iload_n 3, 1) := by decide +kernel
theorem dX3_seasonBy_70 : decode cX3_seasonBy 70 = .ok (.iconst 1, 1) := by decide +kernel
theorem dX3_seasonBy_71 : decode cX3_seasonBy 71 = .ok (.if_icmp .ne 6, 3) := by decide +kernel
theorem dX3_seasonBy_74 : decode cX3_seasonBy 74 = .ok (.iload 4, 2) := by decide +kernel
theorem dX3_seasonBy_76 : decode cX3_seasonBy 76 = .ok (.ireturn, 1) := by decide +kernel
theorem dX3_seasonBy_77 : decode cX3_seasonBy 77 = .ok (.iload 4, 2) := by decide +kernel
theorem dX3_seasonBy_79 : decode cX3_seasonBy 79 = .ok (.ifCond .lt 9, 3) := by decide +kernel
theorem dX3_seasonBy_82 : decode cX3_seasonBy 82 = .ok (.bipush (-100), 2) := by decide +kernel
theorem dX3_seasonBy_84 : decode cX3_seasonBy 84 = .ok (.iload 4, 2) := by decide +kernel
theorem dX3_seasonBy_86 : decode cX3_seasonBy 86 = .ok (.isub, 1) := by decide +kernel
theorem dX3_seasonBy_87 : decode cX3_seasonBy 87 = .ok (.ireturn, 1) := by decide +kernel
theorem dX3_seasonBy_88 : decode cX3_seasonBy 88 = .ok (.iload_n 3, 1) := by decide +kernel
theorem dX3_seasonBy_89 : decode cX3_seasonBy 89 = .ok (.bipush 10, 2) := by decide +kernel
theorem dX3_seasonBy_91 : decode cX3_seasonBy 91 = .ok (.if_icmp .lt 29, 3) := by decide +kernel
theorem dX3_seasonBy_94 : decode cX3_seasonBy 94 = .ok (.aload_n 0, 1) := by decide +kernel
theorem dX3_seasonBy_95 : decode cX3_seasonBy 95 = .ok (.iload_n 3, 1) := by decide +kernel
theorem dX3_seasonBy_96 : decode cX3_seasonBy 96 = .ok (.bipush 10, 2) := by decide +kernel
theorem dX3_seasonBy_98 : decode cX3_seasonBy 98 = .ok (.isub, 1) := by decide +kernel
theorem dX3_seasonBy_99 : decode cX3_seasonBy 99 = .ok (.invokevirtual 149, 3) := by decide +kernel
theorem dX3_seasonBy_102 : decode cX3_seasonBy 102 = .ok (.ifCond .eq 8, 3) := by decide +kernel
theorem dX3_seasonBy_105 : decode cX3_seasonBy 105 = .ok (.bipush (-9), 2) := by decide +kernel
theorem dX3_seasonBy_107 : decode cX3_seasonBy 107 = .ok (.goto 12, 3) := by decide +kernel
theorem dX3_seasonBy_110 : decode cX3_seasonBy 110 = .ok (.aload_n 0, 1) := by decide +kernel
theorem dX3_seasonBy_111 : decode cX3_seasonBy 111 = .ok (.getfield 13, 3) := by decide +kernel
theorem dX3_seasonBy_114 : decode cX3_seasonBy 114 = .ok (.iload_n 3, 1) := by decide +kernel
theorem dX3_seasonBy_115 : decode cX3_seasonBy 115 = .ok (.bipush 10, 2) := by decide +kernel
theorem dX3_seasonBy_117 : decode cX3_seasonBy 117 = .ok (.isub, 1) := by decide +kernel
theorem dX3_seasonBy_118 : decode cX3_seasonBy 118 = .ok (.iaload, 1) := by decide +kernel
theorem dX3_seasonBy_119 : decode cX3_seasonBy 119 = .ok (.ireturn, 1) := by decide +kernel
theorem dX3_seasonBy_120 : decode cX3_seasonBy 120 = .ok (.iconst 0, 1) := by decide +kernel
theorem dX3_seasonBy_121 : decode cX3_seasonBy 121 = .ok (.istore 5, 2) := by decide +kernel
theorem dX3_seasonBy_123 : decode cX3_seasonBy 123 = .ok (.iconst 0, 1) := by decide +kernel
theorem dX3_seasonBy_124 : decode cX3_seasonBy 124 = .ok (.istore 6, 2) := by decide +kernel
theorem dX3_seasonBy_126 : decode cX3_seasonBy 126 = .ok (.iconst 0, 1) := by decide +kernel
theorem dX3_seasonBy_127 : decode cX3_seasonBy 127 = .ok (.istore 7, 2) := by decide +kernel
theorem dX3_seasonBy_129 : decode cX3_seasonBy 129 = .ok (.iconst 0, 1) := by decide +kernel
theorem dX3_seasonBy_130 : decode cX3_seasonBy 130 = .ok (.istore 8, 2) := by decide +kernel
theorem dX3_seasonBy_132 : decode cX3_seasonBy 132 = .ok (.iload 8, 2) := by decide +kernel
theorem dX3_seasonBy_134 : decode cX3_seasonBy 134 = .ok (.aload_n 0, 1) := by decide +kernel
theorem dX3_seasonBy_135 : decode cX3_seasonBy 135 = .ok (.getfield 74, 3) := by decide +kernel
theorem dX3_seasonBy_138 : decode cX3_seasonBy 138 = .ok (.if_icmp .ge 45, 3) := by decide +kernel
theorem dX3_seasonBy_141 : decode cX3_seasonBy 141 = .ok (.iload 5, 2) := by decide +kernel
theorem dX3_seasonBy_143 : decode cX3_seasonBy 143 = .ok (.aload_n 0, 1) := by decide +kernel
theorem dX3_seasonBy_144 : decode cX3_seasonBy 144 = .ok (.getfield 16, 3) := by decide +kernel
theorem dX3_seasonBy_147 : decode cX3_seasonBy 147 = .ok (.iload 8, 2) := by decide +kernel
theorem dX3_seasonBy_149 : decode cX3_seasonBy 149 = .ok (.iaload, 1) := by decide +kernel
theorem dX3_seasonBy_150 : decode cX3_seasonBy 150 = .ok (.iadd, 1) := by decide +kernel
theorem dX3_seasonBy_151 : decode cX3_seasonBy 151 = .ok (.istore 5, 2) := by decide +kernel
theorem dX3_seasonBy_153 : decode cX3_seasonBy 153 = .ok (.iload 6, 2) := by decide +kernel
theorem dX3_seasonBy_155 : decode cX3_seasonBy 155 = .ok (.aload_n 0, 1) := by decide +kernel
theorem dX3_seasonBy_156 : decode cX3_seasonBy 156 = .ok (.getfield 13, 3) := by decide +kernel
theorem dX3_seasonBy_159 : decode cX3_seasonBy 159 = .ok (.iload 8, 2) := by decide +kernel
theorem dX3_seasonBy_161 : decode cX3_seasonBy 161 = .ok (.iaload, 1) := by decide +kernel
theorem dX3_seasonBy_162 : decode cX3_seasonBy 162 = .ok (.iadd, 1) := by decide +kernel
theorem dX3_seasonBy_163 : decode cX3_seasonBy 163 = .ok (.istore 6, 2) := by decide +kernel
theorem dX3_seasonBy_165 : decode cX3_seasonBy 165 = .ok (.iload 7, 2) := by decide +kernel
theorem dX3_seasonBy_167 : decode cX3_seasonBy 167 = .ok (.aload_n 0, 1) := by decide +kernel
theorem dX3_seasonBy_168 : decode cX3_seasonBy 168 = .ok (.getfield 19, 3) := by decide +kernel
theorem dX3_seasonBy_171 : decode cX3_seasonBy 171 = .ok (.iload 8, 2) := by decide +kernel
theorem dX3_seasonBy_173 : decode cX3_seasonBy 173 = .ok (.iaload, 1) := by decide +kernel
theorem dX3_seasonBy_174 : decode cX3_seasonBy 174 = .ok (.iadd, 1) := by decide +kernel
theorem dX3_seasonBy_175 : decode cX3_seasonBy 175 = .ok (.istore 7, 2) := by decide +kernel
theorem dX3_seasonBy_177 : decode cX3_seasonBy 177 = .ok (.iinc 8 1, 3) := by decide +kernel
theorem dX3_seasonBy_180 : decode cX3_seasonBy 180 = .ok (.goto (-48), 3) := by decide +kernel
theorem dX3_seasonBy_183 : decode cX3_seasonBy 183 = .ok (.iload_n 3, 1) := by decide +kernel
theorem dX3_seasonBy_184 : decode cX3_seasonBy 184 = .ok (.ifCond .ne 8, 3) := by decide +kernel
theorem dX3_seasonBy_187 : decode cX3_seasonBy 187 = .ok (.iload 5, 2) := by decide +kernel
theorem dX3_seasonBy_189 : decode cX3_seasonBy 189 = .ok (.goto 27, 3) := by decide +kernel
theorem dX3_seasonBy_192 : decode cX3_seasonBy 192 = .ok (.iload_n 3, 1) := by decide +kernel
theorem dX3_seasonBy_193 : decode cX3_seasonBy 193 = .ok (.iconst 2, 1) := by decide +kernel
theorem dX3_seasonBy_194 : decode cX3_seasonBy 194 = .ok (.if_icmp .ne 8, 3) := by decide +kernel
theorem dX3_seasonBy_197 : decode cX3_seasonBy 197 = .ok (.iload 6, 2) := by decide +kernel
theorem dX3_seasonBy_199 : decode cX3_seasonBy 199 = .ok (.goto 17, 3) := by decide +kernel
theorem dX3_seasonBy_202 : decode cX3_seasonBy 202 = .ok (.iload_n 3, 1) := by decide +kernel
theorem dX3_seasonBy_203 : decode cX3_seasonBy 203 = .ok (.iconst 3, 1) := by decide +kernel
theorem dX3_seasonBy_204 : decode cX3_seasonBy 204 = .ok (.if_icmp .ne 10, 3) := by decide +kernel
theorem dX3_seasonBy_207 : decode cX3_seasonBy 207 = .ok (.aload_n 0, 1) := by decide +kernel
theorem dX3_seasonBy_208 : decode cX3_seasonBy 208 = .ok (.getfield 175, 3) := by decide +kernel
theorem dX3_seasonBy_211 : decode cX3_seasonBy 211 = .ok (.goto 5, 3) := by decide +kernel
theorem dX3_seasonBy_214 : decode cX3_seasonBy 214 = .ok (.iload 7, 2) := by decide +kernel
theorem dX3_seasonBy_216 : decode cX3_seasonBy 216 = .ok (.ireturn, 1) := by decide +kernel
theorem dX3_season_0 : decode cX3_season 0 = .ok (.iload_n 1, 1) := by decide +kernel
theorem dX3_season_1 : decode cX3_season 1 = .ok (.invokestatic 114, 3) := by decide +kernel
theorem dX3_season_4 : decode cX3_season 4 = .ok (.ifCond .eq 9, 3) := by decide +kernel
theorem dX3_season_7 : decode cX3_season 7 = .ok (.aload_n 0, 1) := by decide +kernel
theorem dX3_season_8 : decode cX3_season 8 = .ok (.iconst (-1), 1) := by decide +kernel
theorem dX3_season_9 : decode cX3_season 9 = .ok (.invokevirtual 118, 3) := by decide +kernel
theorem dX3_season_12 : decode cX3_season 12 = .ok (.ireturn, 1) := by decide +kernel
theorem dX3_season_13 : decode cX3_season 13 = .ok (.iload_n 2, 1) := by decide +kernel
theorem dX3_season_14 : decode cX3_season 14 = .ok (.i2l, 1) := by decide +kernel
theorem dX3_season_15 : decode cX3_season 15 = .ok (.lconst 0, 1) := by decide +kernel
theorem dX3_season_16 : decode cX3_season 16 = .ok (.ldc2_w 121, 3) := by decide +kernel
theorem dX3_season_19 : decode cX3_season 19 = .ok (.invokestatic 77, 3) := by decide +kernel
theorem dX3_season_22 : decode cX3_season 22 = .ok (.ifCond .eq 44, 3) := by decide +kernel
theorem dX3_season_25 : decode cX3_season 25 = .ok (.iload 4, 2) := by decide +kernel
theorem dX3_season_27 : decode cX3_season 27 = .ok (.i2l, 1) := by decide +kernel
theorem dX3_season_28 : decode cX3_season 28 = .ok (.lconst 0, 1) := by decide +kernel
theorem dX3_season_29 : decode cX3_season 29 = .ok (.ldc2_w 181, 3) := by decide +kernel
theorem dX3_season_32 : decode cX3_season 32 = .ok (.invokestatic 77, 3) := by decide +kernel
theorem dX3_season_35 : decode cX3_season 35 = .ok (.ifCond .eq 31, 3) := by decide +kernel
theorem dX3_season_38 : decode cX3_season 38 = .ok (.iload 5, 2) := by decide +kernel
theorem dX3_season_40 : decode cX3_season 40 = .ok (.i2l, 1) := by decide +kernel
theorem dX3_season_41 : decode cX3_season 41 = .ok (.lconst 0, 1) := by decide +kernel
theorem dX3_season_42 : decode cX3_season 42 = .ok (.ldc2_w 183, 3) := by decide +kernel
theorem dX3_season_45 : decode cX3_season 45 = .ok (.invokestatic 77, 3) := by decide +kernel
theorem dX3_season_48 : decode cX3_season 48 = .ok (.ifCond .ne 25, 3) := by decide +kernel
theorem dX3_season_51 : decode cX3_season 51 = .ok (.iload 5, 2) := by decide +kernel
theorem dX3_season_53 : decode cX3_season 53 = .ok (.i2l, 1) := by decide +kernel
theorem dX3_season_54 : decode cX3_season 54 = .ok (.ldc2_w 185, 3) := by decide +kernel
theorem dX3_season_57 : decode cX3_season 57 = .ok (.ldc2_w 187, 3) := by decide +kernel
theorem dX3_season_60 : decode cX3_season 60 = .ok (.invokestatic 77, 3) := by decide +kernel
theorem dX3_season_63 : decode cX3_season 63 = .ok (.ifCond .ne 10, 3) := by decide +kernel
theorem dX3_season_66 : decode cX3_season 66 = .ok (.aload_n 0, 1) := by decide +kernel
theorem dX3_season_67 : decode cX3_season 67 = .ok (.bipush (-2), 2) := by decide +kernel
theorem dX3_season_69 : decode cX3_season 69 = .ok (.invokevirtual 118, 3) := by decide +kernel
theorem dX3_season_72 : decode cX3_season 72 = .ok (.ireturn, 1) := by decide +kernel
theorem dX3_season_73 : decode cX3_season 73 = .ok (.aload_n 0, 1) := by decide +kernel
theorem dX3_season_74 : decode cX3_season 74 = .ok (.getfield 74, 3) := by decide +kernel
theorem dX3_season_77 : decode cX3_season 77 = .ok (.ifCond .ne 10, 3) := by decide +kernel
theorem dX3_season_80 : decode cX3_season 80 = .ok (.aload_n 0, 1) := by decide +kernel
theorem dX3_season_81 : decode cX3_season 81 = .ok (.bipush (-3), 2) := by decide +kernel
theorem dX3_season_83 : decode cX3_season 83 = .ok (.invokevirtual 118, 3) := by decide +kernel
theorem dX3_season_86 : decode cX3_season 86 = .ok (.ireturn, 1) := by decide +kernel
theorem dX3_season_87 : decode cX3_season 87 = .ok (.aload_n 0, 1) := by decide +kernel
theorem dX3_season_88 : decode cX3_season 88 = .ok (.iload_n 1, 1) := by decide +kernel
theorem dX3_season_89 : decode cX3_season 89 = .ok (.iload_n 2, 1) := by decide +kernel
theorem dX3_season_90 : decode cX3_season 90 = .ok (.iload_n 3, 1) := by decide +kernel
theorem dX3_season_91 : decode cX3_season 91 = .ok (.ldc2_w 121, 3) := by decide +kernel
theorem dX3_season_94 : decode cX3_season 94 = .ok (.iload 4, 2) := by decide +kernel
theorem dX3_season_96 : decode cX3_season 96 = .ok (.i2l, 1) := by decide +kernel
theorem dX3_season_97 : decode cX3_season 97 = .ok (.lmul, 1) := by decide +kernel
theorem dX3_season_98 : decode cX3_season 98 = .ok (.invokevirtual 123, 3) := by decide +kernel
theorem dX3_season_101 : decode cX3_season 101 = .ok (.istore 6, 2) := by decide +kernel
theorem dX3_season_103 : decode cX3_season 103 = .ok (.iload 6, 2) := by decide +kernel
theorem dX3_season_105 : decode cX3_season 105 = .ok (.ifCond .ge 6, 3) := by decide +kernel
theorem dX3_season_108 : decode cX3_season 108 = .ok (.iload 6, 2) := by decide +kernel
theorem dX3_season_110 : decode cX3_season 110 = .ok (.ireturn, 1) := by decide +kernel
theorem dX3_season_111 : decode cX3_season 111 = .ok (.aload_n 0, 1) := by decide +kernel
theorem dX3_season_112 : decode cX3_season 112 = .ok (.bipush 60, 2) := by decide +kernel
theorem dX3_season_114 : decode cX3_season 114 = .ok (.iload_n 1, 1) := by decide +kernel
theorem dX3_season_115 : decode cX3_season 115 = .ok (.imul, 1) := by decide +kernel
theorem dX3_season_116 : decode cX3_season 116 = .ok (.iload_n 3, 1) := by decide +kernel
theorem dX3_season_117 : decode cX3_season 117 = .ok (.iadd, 1) := by decide +kernel
theorem dX3_season_118 : decode cX3_season 118 = .ok (.iload 4, 2) := by decide +kernel
theorem dX3_season_120 : decode cX3_season 120 = .ok (.invokevirtual 189, 3) := by decide +kernel
theorem dX3_season_123 : decode cX3_season 123 = .ok (.istore 6, 2) := by decide +kernel
theorem dX3_season_125 : decode cX3_season 125 = .ok (.iload 6, 2) := by decide +kernel
theorem dX3_season_127 : decode cX3_season 127 = .ok (.ifCond .ge 10, 3) := by decide +kernel
theorem dX3_season_130 : decode cX3_season 130 = .ok (.aload_n 0, 1) := by decide +kernel
theorem dX3_season_131 : decode cX3_season 131 = .ok (.iload 6, 2) := by decide +kernel
theorem dX3_season_133 : decode cX3_season 133 = .ok (.invokevirtual 118, 3) := by decide +kernel
theorem dX3_season_136 : decode cX3_season 136 = .ok (.ireturn, 1) := by decide +kernel
theorem dX3_season_137 : decode cX3_season 137 = .ok (.aload_n 0, 1) := by decide +kernel
theorem dX3_season_138 : decode cX3_season 138 = .ok (.invokevirtual 192, 3) := by decide +kernel
theorem dX3_season_141 : decode cX3_season 141 = .ok (.aload_n 0, 1) := by decide +kernel
theorem dX3_season_142 : decode cX3_season 142 = .ok (.bipush 60, 2) := by decide +kernel
theorem dX3_season_144 : decode cX3_season 144 = .ok (.iload_n 1, 1) := by decide +kernel
theorem dX3_season_145 : decode cX3_season 145 = .ok (.imul, 1) := by decide +kernel
theorem dX3_season_146 : decode cX3_season 146 = .ok (.iload_n 3, 1) := by decide +kernel
theorem dX3_season_147 : decode cX3_season 147 = .ok (.iadd, 1) := by decide +kernel
theorem dX3_season_148 : decode cX3_season 148 = .ok (.iload 4, 2) := by decide +kernel
theorem dX3_season_150 : decode cX3_season 150 = .ok (.iload 5, 2) := by decide +kernel
theorem dX3_season_152 : decode cX3_season 152 = .ok (.invokevirtual 195, 3) := by decide +kernel
theorem dX3_season_155 : decode cX3_season 155 = .ok (.istore 7, 2) := by decide +kernel
theorem dX3_season_157 : decode cX3_season 157 = .ok (.aload_n 0, 1) := by decide +kernel
theorem dX3_season_158 : decode cX3_season 158 = .ok (.invokevirtual 198, 3) := by decide +kernel
theorem dX3_season_161 : decode cX3_season 161 = .ok (.aload_n 0, 1) := by decide +kernel
theorem dX3_season_162 : decode cX3_season 162 = .ok (.iload 7, 2) := by decide +kernel
theorem dX3_season_164 : decode cX3_season 164 = .ok (.invokevirtual 118, 3) := by decide +kernel
theorem dX3_season_167 : decode cX3_season 167 = .ok (.ireturn, 1) := by decide +kernel
theorem dX3_worstTemper_0 : decode cX3_worstTemper 0 = .ok (.iconst 0, 1) := by decide +kernel
theorem dX3_worstTemper_1 : decode cX3_worstTemper 1 = .ok (.istore_n 1, 1) := by decide +kernel
theorem dX3_worstTemper_2 : decode cX3_worstTemper 2 = .ok (.iconst 0, 1) := by decide +kernel
theorem dX3_worstTemper_3 : decode cX3_worstTemper 3 = .ok (.istore_n 2, 1) := by decide +kernel
theorem dX3_worstTemper_4 : decode cX3_worstTemper 4 = .ok (.iload_n 2, 1) := by decide +kernel
theorem dX3_worstTemper_5 : decode cX3_worstTemper 5 = .ok (.aload_n 0, 1) := by decide +kernel
theorem dX3_worstTemper_6 : decode cX3_worstTemper 6 = .ok (.getfield 74, 3) := by decide +kernel
theorem dX3_worstTemper_9 : decode cX3_worstTemper 9 = .ok (.if_icmp .ge 30, 3) := by decide +kernel
theorem dX3_worstTemper_12 : decode cX3_worstTemper 12 = .ok (.aload_n 0, 1) := by decide +kernel
theorem dX3_worstTemper_13 : decode cX3_worstTemper 13 = .ok (.getfield 13, 3) := by decide +kernel
theorem dX3_worstTemper_16 : decode cX3_worstTemper 16 = .ok (.iload_n 2, 1) := by decide +kernel
theorem dX3_worstTemper_17 : decode cX3_worstTemper 17 = .ok (.iaload, 1) := by decide +kernel
theorem dX3_worstTemper_18 : decode cX3_worstTemper 18 = .ok (.iload_n 1, 1) := by decide +kernel
theorem dX3_worstTemper_19 : decode cX3_worstTemper 19 = .ok (.if_icmp .le 12, 3) := by decide +kernel
theorem dX3_worstTemper_22 : decode cX3_worstTemper 22 = .ok (.aload_n 0, 1) := by decide +kernel
theorem dX3_worstTemper_23 : decode cX3_worstTemper 23 = .ok (.getfield 13, 3) := by decide +kernel
theorem dX3_worstTemper_26 : decode cX3_worstTemper 26 = .ok (.iload_n 2, 1) := by decide +kernel
theorem dX3_worstTemper_27 : decode cX3_worstTemper 27 = .ok (.iaload, 1) := by decide +kernel
theorem dX3_worstTemper_28 : decode cX3_worstTemper 28 = .ok (.goto 4, 3) := by decide +kernel
theorem dX3_worstTemper_31 : decode cX3_worstTemper 31 = .ok (.iload_n 1, 1) := by decide +kernel
theorem dX3_worstTemper_32 : decode cX3_worstTemper 32 = .ok (.istore_n 1, 1) := by decide +kernel
theorem dX3_worstTemper_33 : decode cX3_worstTemper 33 = .ok (.iinc 2 1, 3) := by decide +kernel
theorem dX3_worstTemper_36 : decode cX3_worstTemper 36 = .ok (.goto (-32), 3) := by decide +kernel
theorem dX3_worstTemper_39 : decode cX3_worstTemper 39 = .ok (.iload_n 1, 1) := by decide +kernel
theorem dX3_worstTemper_40 : decode cX3_worstTemper 40 = .ok (.ireturn, 1) := by decide +kernel
theorem dX3_calm_0 : decode cX3_calm 0 = .ok (.aload_n 0, 1) := by decide +kernel
theorem dX3_calm_1 : decode cX3_calm 1 = .ok (.getfield 74, 3) := by decide +kernel
theorem dX3_calm_4 : decode cX3_calm 4 = .ok (.ifCond .ne 6, 3) := by decide +kernel
theorem dX3_calm_7 : decode cX3_calm 7 = .ok (.bipush (-3), 2) := by decide +kernel
theorem dX3_calm_9 : decode cX3_calm 9 = .ok (.ireturn, 1) := by decide +kernel
theorem dX3_calm_10 : decode cX3_calm 10 = .ok (.iload_n 1, 1) := by decide +kernel
theorem dX3_calm_11 : decode cX3_calm 11 = .ok (.i2l, 1) := by decide +kernel
theorem dX3_calm_12 : decode cX3_calm 12 = .ok (.lconst 0, 1) := by decide +kernel
theorem dX3_calm_13 : decode cX3_calm 13 = .ok (.ldc2_w 201, 3) := by decide +kernel
theorem dX3_calm_16 : decode cX3_calm 16 = .ok (.invokestatic 77, 3) := by decide +kernel
theorem dX3_calm_19 : decode cX3_calm 19 = .ok (.ifCond .eq 15, 3) := by decide +kernel
theorem dX3_calm_22 : decode cX3_calm 22 = .ok (.iload_n 2, 1) := by decide +kernel
theorem dX3_calm_23 : decode cX3_calm 23 = .ok (.i2l, 1) := by decide +kernel
theorem dX3_calm_24 : decode cX3_calm 24 = .ok (.lconst 0, 1) := by decide +kernel
theorem dX3_calm_25 : decode cX3_calm 25 = .ok (.ldc2_w 90, 3) := by decide +kernel
theorem dX3_calm_28 : decode cX3_calm 28 = .ok (.invokestatic 77, 3) := by decide +kernel
theorem dX3_calm_31 : decode cX3_calm 31 = .ok (.ifCond .ne 6, 3) := by decide +kernel
theorem dX3_calm_34 : decode cX3_calm 34 = .ok (.bipush (-2), 2) := by decide +kernel
theorem dX3_calm_36 : decode cX3_calm 36 = .ok (.ireturn, 1) := by decide +kernel
theorem dX3_calm_37 : decode cX3_calm 37 = .ok (.aload_n 0, 1) := by decide +kernel
theorem dX3_calm_38 : decode cX3_calm 38 = .ok (.invokevirtual 192, 3) := by decide +kernel
theorem dX3_calm_41 : decode cX3_calm 41 = .ok (.bipush (-9), 2) := by decide +kernel
theorem dX3_calm_43 : decode cX3_calm 43 = .ok (.istore_n 3, 1) := by decide +kernel
theorem dX3_calm_44 : decode cX3_calm 44 = .ok (.iconst 0, 1) := by decide +kernel
theorem dX3_calm_45 : decode cX3_calm 45 = .ok (.istore 4, 2) := by decide +kernel
theorem dX3_calm_47 : decode cX3_calm 47 = .ok (.iload 4, 2) := by decide +kernel
theorem dX3_calm_49 : decode cX3_calm 49 = .ok (.bipush 100, 2) := by decide +kernel
theorem dX3_calm_51 : decode cX3_calm 51 = .ok (.if_icmp .ge 58, 3) := by decide +kernel
theorem dX3_calm_54 : decode cX3_calm 54 = .ok (.iload_n 3, 1) := by decide +kernel
theorem dX3_calm_55 : decode cX3_calm 55 = .ok (.ifCond .ge 54, 3) := by decide +kernel
theorem dX3_calm_58 : decode cX3_calm 58 = .ok (.aload_n 0, 1) := by decide +kernel
theorem dX3_calm_59 : decode cX3_calm 59 = .ok (.iload 4, 2) := by decide +kernel
theorem dX3_calm_61 : decode cX3_calm 61 = .ok (.putfield 130, 3) := by decide +kernel
theorem dX3_calm_64 : decode cX3_calm 64 = .ok (.iconst 0, 1) := by decide +kernel
theorem dX3_calm_65 : decode cX3_calm 65 = .ok (.istore 5, 2) := by decide +kernel
theorem dX3_calm_67 : decode cX3_calm 67 = .ok (.iload 5, 2) := by decide +kernel
theorem dX3_calm_69 : decode cX3_calm 69 = .ok (.iload_n 1, 1) := by decide +kernel
theorem dX3_calm_70 : decode cX3_calm 70 = .ok (.if_icmp .ge 13, 3) := by decide +kernel
theorem dX3_calm_73 : decode cX3_calm 73 = .ok (.aload_n 0, 1) := by decide +kernel
theorem dX3_calm_74 : decode cX3_calm 74 = .ok (.invokevirtual 160, 3) := by decide +kernel
theorem dX3_calm_77 : decode cX3_calm 77 = .ok (.iinc 5 1, 3) := by decide +kernel
theorem dX3_calm_80 : decode cX3_calm 80 = .ok (.goto (-13), 3) := by decide +kernel
theorem dX3_calm_83 : decode cX3_calm 83 = .ok (.aload_n 0, 1) := by decide +kernel
theorem dX3_calm_84 : decode cX3_calm 84 = .ok (.invokevirtual 203, 3) := by decide +kernel
theorem dX3_calm_87 : decode cX3_calm 87 = .ok (.iload_n 2, 1) := by decide +kernel
theorem dX3_calm_88 : decode cX3_calm 88 = .ok (.if_icmp .gt 8, 3) := by decide +kernel
theorem dX3_calm_91 : decode cX3_calm 91 = .ok (.iload 4, 2) := by decide +kernel
theorem dX3_calm_93 : decode cX3_calm 93 = .ok (.goto 5, 3) := by decide +kernel
theorem dX3_calm_96 : decode cX3_calm 96 = .ok (.bipush (-9), 2) := by decide +kernel
theorem dX3_calm_98 : decode cX3_calm 98 = .ok (.istore_n 3, 1) := by decide +kernel
theorem dX3_calm_99 : decode cX3_calm 99 = .ok (.aload_n 0, 1) := by decide +kernel
theorem dX3_calm_100 : decode cX3_calm 100 = .ok (.invokevirtual 198, 3) := by decide +kernel
theorem dX3_calm_103 : decode cX3_calm 103 = .ok (.iinc 4 1, 3) := by decide +kernel
theorem dX3_calm_106 : decode cX3_calm 106 = .ok (.goto (-59), 3) := by decide +kernel
theorem dX3_calm_109 : decode cX3_calm 109 = .ok (.iload_n 3, 1) := by decide +kernel
theorem dX3_calm_110 : decode cX3_calm 110 = .ok (.ireturn, 1) := by decide +kernel
theorem dX3_wonder_0 : decode cX3_wonder 0 = .ok (.aload_n 0, 1) := by decide +kernel
theorem dX3_wonder_1 : decode cX3_wonder 1 = .ok (.getfield 74, 3) := by decide +kernel
theorem dX3_wonder_4 : decode cX3_wonder 4 = .ok (.ifCond .ne 6, 3) := by decide +kernel
theorem dX3_wonder_7 : decode cX3_wonder 7 = .ok (.bipush (-3), 2) := by decide +kernel
theorem dX3_wonder_9 : decode cX3_wonder 9 = .ok (.ireturn, 1) := by decide +kernel
theorem dX3_wonder_10 : decode cX3_wonder 10 = .ok (.iload_n 1, 1) := by decide +kernel
theorem dX3_wonder_11 : decode cX3_wonder 11 = .ok (.i2l, 1) := by decide +kernel
theorem dX3_wonder_12 : decode cX3_wonder 12 = .ok (.lconst 0, 1) := by decide +kernel
theorem dX3_wonder_13 : decode cX3_wonder 13 = .ok (.lconst 1, 1) := by decide +kernel
theorem dX3_wonder_14 : decode cX3_wonder 14 = .ok (.invokestatic 77, 3) := by decide +kernel
theorem dX3_wonder_17 : decode cX3_wonder 17 = .ok (.ifCond .ne 6, 3) := by decide +kernel
theorem dX3_wonder_20 : decode cX3_wonder 20 = .ok (.bipush (-2), 2) := by decide +kernel
theorem dX3_wonder_22 : decode cX3_wonder 22 = .ok (.ireturn, 1) := by decide +kernel
theorem dX3_wonder_23 : decode cX3_wonder 23 = .ok (.bipush (-9), 2) := by decide +kernel
theorem dX3_wonder_25 : decode cX3_wonder 25 = .ok (.istore_n 2, 1) := by decide +kernel
theorem dX3_wonder_26 : decode cX3_wonder 26 = .ok (.bipush (-9), 2) := by decide +kernel
theorem dX3_wonder_28 : decode cX3_wonder 28 = .ok (.istore_n 3, 1) := by decide +kernel
theorem dX3_wonder_29 : decode cX3_wonder 29 = .ok (.aload_n 0, 1) := by decide +kernel
theorem dX3_wonder_30 : decode cX3_wonder 30 = .ok (.getfield 130, 3) := by decide +kernel
theorem dX3_wonder_33 : decode cX3_wonder 33 = .ok (.istore 4, 2) := by decide +kernel
theorem dX3_wonder_35 : decode cX3_wonder 35 = .ok (.iload 4, 2) := by decide +kernel
theorem dX3_wonder_37 : decode cX3_wonder 37 = .ok (.bipush 99, 2) := by decide +kernel
theorem dX3_wonder_39 : decode cX3_wonder 39 = .ok (.if_icmp .ge 72, 3) := by decide +kernel
theorem dX3_wonder_42 : decode cX3_wonder 42 = .ok (.iload_n 2, 1) := by decide +kernel
theorem dX3_wonder_43 : decode cX3_wonder 43 = .ok (.ifCond .ge 68, 3) := by decide +kernel
theorem dX3_wonder_46 : decode cX3_wonder 46 = .ok (.aload_n 0, 1) := by decide +kernel
theorem dX3_wonder_47 : decode cX3_wonder 47 = .ok (.getfield 74, 3) := by decide +kernel
theorem dX3_wonder_50 : decode cX3_wonder 50 = .ok (.iconst 1, 1) := by decide +kernel
theorem dX3_wonder_51 : decode cX3_wonder 51 = .ok (.isub, 1) := by decide +kernel
theorem dX3_wonder_52 : decode cX3_wonder 52 = .ok (.istore 5, 2) := by decide +kernel
theorem dX3_wonder_54 : decode cX3_wonder 54 = .ok (.iload 5, 2) := by decide +kernel
theorem dX3_wonder_56 : decode cX3_wonder 56 = .ok (.ifCond .lt 37, 3) := by decide +kernel
theorem dX3_wonder_59 : decode cX3_wonder 59 = .ok (.aload_n 0, 1) := by decide +kernel
theorem dX3_wonder_60 : decode cX3_wonder 60 = .ok (.iload 5, 2) := by decide +kernel
theorem dX3_wonder_62 : decode cX3_wonder 62 = .ok (.iload 4, 2) := by decide +kernel
theorem dX3_wonder_64 : decode cX3_wonder 64 = .ok (.invokevirtual 152, 3) := by decide +kernel
theorem dX3_wonder_67 : decode cX3_wonder 67 = .ok (.aload_n 0, 1) := by decide +kernel
theorem dX3_wonder_68 : decode cX3_wonder 68 = .ok (.iload 5, 2) := by decide +kernel
theorem dX3_wonder_70 : decode cX3_wonder 70 = .ok (.iload 4, 2) := by decide +kernel
theorem dX3_wonder_72 : decode cX3_wonder 72 = .ok (.iconst 1, 1) := by decide +kernel
theorem dX3_wonder_73 : decode cX3_wonder 73 = .ok (.iadd, 1) := by decide +kernel
theorem dX3_wonder_74 : decode cX3_wonder 74 = .ok (.invokevirtual 152, 3) := by decide +kernel
theorem dX3_wonder_77 : decode cX3_wonder 77 = .ok (.if_icmp .le 8, 3) := by decide +kernel
theorem dX3_wonder_80 : decode cX3_wonder 80 = .ok (.iload 5, 2) := by decide +kernel
theorem dX3_wonder_82 : decode cX3_wonder 82 = .ok (.goto 4, 3) := by decide +kernel
theorem dX3_wonder_85 : decode cX3_wonder 85 = .ok (.iload_n 3, 1) := by decide +kernel
theorem dX3_wonder_86 : decode cX3_wonder 86 = .ok (.istore_n 3, 1) := by decide +kernel
theorem dX3_wonder_87 : decode cX3_wonder 87 = .ok (.iinc 5 (-1), 3) := by decide +kernel
theorem dX3_wonder_90 : decode cX3_wonder 90 = .ok (.goto (-36), 3) := by decide +kernel
theorem dX3_wonder_93 : decode cX3_wonder 93 = .ok (.iload_n 3, 1) := by decide +kernel
theorem dX3_wonder_94 : decode cX3_wonder 94 = .ok (.ifCond .lt 8, 3) := by decide +kernel
theorem dX3_wonder_97 : decode cX3_wonder 97 = .ok (.iload 4, 2) := by decide +kernel
theorem dX3_wonder_99 : decode cX3_wonder 99 = .ok (.goto 5, 3) := by decide +kernel
theorem dX3_wonder_102 : decode cX3_wonder 102 = .ok (.bipush (-9), 2) := by decide +kernel
theorem dX3_wonder_104 : decode cX3_wonder 104 = .ok (.istore_n 2, 1) := by decide +kernel
theorem dX3_wonder_105 : decode cX3_wonder 105 = .ok (.iinc 4 1, 3) := by decide +kernel
theorem dX3_wonder_108 : decode cX3_wonder 108 = .ok (.goto (-73), 3) := by decide +kernel
theorem dX3_wonder_111 : decode cX3_wonder 111 = .ok (.iload_n 1, 1) := by decide +kernel
theorem dX3_wonder_112 : decode cX3_wonder 112 = .ok (.ifCond .ne 7, 3) := by decide +kernel
theorem dX3_wonder_115 : decode cX3_wonder 115 = .ok (.iload_n 2, 1) := by decide +kernel
theorem dX3_wonder_116 : decode cX3_wonder 116 = .ok (.goto 4, 3) := by decide +kernel
theorem dX3_wonder_119 : decode cX3_wonder 119 = .ok (.iload_n 3, 1) := by decide +kernel
theorem dX3_wonder_120 : decode cX3_wonder 120 = .ok (.ireturn, 1) := by decide +kernel
theorem dX3_nextOne_0 : decode cX3_nextOne 0 = .ok (.bipush (-9), 2) := by decide +kernel
theorem dX3_nextOne_2 : decode cX3_nextOne 2 = .ok (.istore_n 1, 1) := by decide +kernel
theorem dX3_nextOne_3 : decode cX3_nextOne 3 = .ok (.iconst 0, 1) := by decide +kernel
theorem dX3_nextOne_4 : decode cX3_nextOne 4 = .ok (.istore_n 2, 1) := by decide +kernel
theorem dX3_nextOne_5 : decode cX3_nextOne 5 = .ok (.iload_n 2, 1) := by decide +kernel
theorem dX3_nextOne_6 : decode cX3_nextOne 6 = .ok (.aload_n 0, 1) := by decide +kernel
theorem dX3_nextOne_7 : decode cX3_nextOne 7 = .ok (.getfield 74, 3) := by decide +kernel
theorem dX3_nextOne_10 : decode cX3_nextOne 10 = .ok (.if_icmp .ge 68, 3) := by decide +kernel
theorem dX3_nextOne_13 : decode cX3_nextOne 13 = .ok (.iload_n 1, 1) := by decide +kernel
theorem dX3_nextOne_14 : decode cX3_nextOne 14 = .ok (.ifCond .lt 34, 3) := by decide +kernel
theorem dX3_nextOne_17 : decode cX3_nextOne 17 = .ok (.aload_n 0, 1) := by decide +kernel
theorem dX3_nextOne_18 : decode cX3_nextOne 18 = .ok (.iload_n 2, 1) := by decide +kernel
theorem dX3_nextOne_19 : decode cX3_nextOne 19 = .ok (.invokevirtual 139, 3) := by decide +kernel
theorem dX3_nextOne_22 : decode cX3_nextOne 22 = .ok (.aload_n 0, 1) := by decide +kernel
theorem dX3_nextOne_23 : decode cX3_nextOne 23 = .ok (.getfield 43, 3) := by decide +kernel
theorem dX3_nextOne_26 : decode cX3_nextOne 26 = .ok (.iload_n 1, 1) := by decide +kernel
theorem dX3_nextOne_27 : decode cX3_nextOne 27 = .ok (.iaload, 1) := by decide +kernel
theorem dX3_nextOne_28 : decode cX3_nextOne 28 = .ok (.iconst 1, 1) := by decide +kernel
theorem dX3_nextOne_29 : decode cX3_nextOne 29 = .ok (.iadd, 1) := by decide +kernel
theorem dX3_nextOne_30 : decode cX3_nextOne 30 = .ok (.imul, 1) := by decide +kernel
theorem dX3_nextOne_31 : decode cX3_nextOne 31 = .ok (.aload_n 0, 1) := by decide +kernel
theorem dX3_nextOne_32 : decode cX3_nextOne 32 = .ok (.iload_n 1, 1) := by decide +kernel
theorem dX3_nextOne_33 : decode cX3_nextOne 33 = .ok (.invokevirtual 139, 3) := by decide +kernel
theorem dX3_nextOne_36 : decode cX3_nextOne 36 = .ok (.aload_n 0, 1) := by decide +kernel
theorem dX3_nextOne_37 : decode cX3_nextOne 37 = .ok (.getfield 43, 3) := by decide +kernel
theorem dX3_nextOne_40 : decode cX3_nextOne 40 = .ok (.iload_n 2, 1) := by decide +kernel
theorem dX3_nextOne_41 : decode cX3_nextOne 41 = .ok (.iaload, 1) := by decide +kernel
theorem dX3_nextOne_42 : decode cX3_nextOne 42 = .ok (.iconst 1, 1) := by decide +kernel
theorem dX3_nextOne_43 : decode cX3_nextOne 43 = .ok (.iadd, 1) := by decide +kernel
theorem dX3_nextOne_44 : decode cX3_nextOne 44 = .ok (.imul, 1) := by decide +kernel
theorem dX3_nextOne_45 : decode cX3_nextOne 45 = .ok (.if_icmp .le 7, 3) := by decide +kernel
theorem dX3_nextOne_48 : decode cX3_nextOne 48 = .ok (.iconst 1, 1) := by decide +kernel
theorem dX3_nextOne_49 : decode cX3_nextOne 49 = .ok (.goto 4, 3) := by decide +kernel
theorem dX3_nextOne_52 : decode cX3_nextOne 52 = .ok (.iconst 0, 1) := by decide +kernel
theorem dX3_nextOne_53 : decode cX3_nextOne 53 = .ok (.istore_n 3, 1) := by decide +kernel
theorem dX3_nextOne_54 : decode cX3_nextOne 54 = .ok (.aload_n 0, 1) := by decide +kernel
theorem dX3_nextOne_55 : decode cX3_nextOne 55 = .ok (.iload_n 2, 1) := by decide +kernel
theorem dX3_nextOne_56 : decode cX3_nextOne 56 = .ok (.invokevirtual 139, 3) := by decide +kernel
theorem dX3_nextOne_59 : decode cX3_nextOne 59 = .ok (.ifCond .le 11, 3) := by decide +kernel
theorem dX3_nextOne_62 : decode cX3_nextOne 62 = .ok (.iload_n 3, 1) := by decide +kernel
theorem dX3_nextOne_63 : decode cX3_nextOne 63 = .ok (.ifCond .eq 7, 3) := by decide +kernel
theorem dX3_nextOne_66 : decode cX3_nextOne 66 = .ok (.iload_n 2, 1) := by decide +kernel
theorem dX3_nextOne_67 : decode cX3_nextOne 67 = .ok (.goto 4, 3) := by decide +kernel
theorem dX3_nextOne_70 : decode cX3_nextOne 70 = .ok (.iload_n 1, 1) := by decide +kernel
theorem dX3_nextOne_71 : decode cX3_nextOne 71 = .ok (.istore_n 1, 1) := by decide +kernel
theorem dX3_nextOne_72 : decode cX3_nextOne 72 = .ok (.iinc 2 1, 3) := by decide +kernel
theorem dX3_nextOne_75 : decode cX3_nextOne 75 = .ok (.goto (-70), 3) := by decide +kernel
theorem dX3_nextOne_78 : decode cX3_nextOne 78 = .ok (.iload_n 1, 1) := by decide +kernel
theorem dX3_nextOne_79 : decode cX3_nextOne 79 = .ok (.ireturn, 1) := by decide +kernel
theorem dX3_otherwise_0 : decode cX3_otherwise 0 = .ok (.aload_n 0, 1) := by decide +kernel
theorem dX3_otherwise_1 : decode cX3_otherwise 1 = .ok (.iload_n 1, 1) := by decide +kernel
theorem dX3_otherwise_2 : decode cX3_otherwise 2 = .ok (.invokevirtual 149, 3) := by decide +kernel
theorem dX3_otherwise_5 : decode cX3_otherwise 5 = .ok (.ifCond .eq 5, 3) := by decide +kernel
theorem dX3_otherwise_8 : decode cX3_otherwise 8 = .ok (.iconst (-1), 1) := by decide +kernel
theorem dX3_otherwise_9 : decode cX3_otherwise 9 = .ok (.ireturn, 1) := by decide +kernel
theorem dX3_otherwise_10 : decode cX3_otherwise 10 = .ok (.iconst 0, 1) := by decide +kernel
theorem dX3_otherwise_11 : decode cX3_otherwise 11 = .ok (.istore_n 2, 1) := by decide +kernel
theorem dX3_otherwise_12 : decode cX3_otherwise 12 = .ok (.iload_n 2, 1) := by decide +kernel
theorem dX3_otherwise_13 : decode cX3_otherwise 13 = .ok (.aload_n 0, 1) := by decide +kernel
theorem dX3_otherwise_14 : decode cX3_otherwise 14 = .ok (.getfield 74, 3) := by decide +kernel
theorem dX3_otherwise_17 : decode cX3_otherwise 17 = .ok (.if_icmp .ge 16, 3) := by decide +kernel
theorem dX3_otherwise_20 : decode cX3_otherwise 20 = .ok (.aload_n 0, 1) := by decide +kernel
theorem dX3_otherwise_21 : decode cX3_otherwise 21 = .ok (.getfield 43, 3) := by decide +kernel
theorem dX3_otherwise_24 : decode cX3_otherwise 24 = .ok (.iload_n 2, 1) := by decide +kernel
theorem dX3_otherwise_25 : decode cX3_otherwise 25 = .ok (.iconst 0, 1) := by decide +kernel
theorem dX3_otherwise_26 : decode cX3_otherwise 26 = .ok (.iastore, 1) := by decide +kernel
theorem dX3_otherwise_27 : decode cX3_otherwise 27 = .ok (.iinc 2 1, 3) := by decide +kernel
theorem dX3_otherwise_30 : decode cX3_otherwise 30 = .ok (.goto (-18), 3) := by decide +kernel
theorem dX3_otherwise_33 : decode cX3_otherwise 33 = .ok (.iconst 0, 1) := by decide +kernel
theorem dX3_otherwise_34 : decode cX3_otherwise 34 = .ok (.istore_n 2, 1) := by decide +kernel
theorem dX3_otherwise_35 : decode cX3_otherwise 35 = .ok (.iload_n 2, 1) := by decide +kernel
theorem dX3_otherwise_36 : decode cX3_otherwise 36 = .ok (.aload_n 0, 1) := by decide +kernel
theorem dX3_otherwise_37 : decode cX3_otherwise 37 = .ok (.getfield 130, 3) := by decide +kernel
theorem dX3_otherwise_40 : decode cX3_otherwise 40 = .ok (.if_icmp .ge 28, 3) := by decide +kernel
theorem dX3_otherwise_43 : decode cX3_otherwise 43 = .ok (.aload_n 0, 1) := by decide +kernel
theorem dX3_otherwise_44 : decode cX3_otherwise 44 = .ok (.invokevirtual 206, 3) := by decide +kernel
theorem dX3_otherwise_47 : decode cX3_otherwise 47 = .ok (.istore_n 3, 1) := by decide +kernel
theorem dX3_otherwise_48 : decode cX3_otherwise 48 = .ok (.iload_n 3, 1) := by decide +kernel
theorem dX3_otherwise_49 : decode cX3_otherwise 49 = .ok (.ifCond .lt 13, 3) := by decide +kernel
theorem dX3_otherwise_52 : decode cX3_otherwise 52 = .ok (.aload_n 0, 1) := by decide +kernel
theorem dX3_otherwise_53 : decode cX3_otherwise 53 = .ok (.getfield 43, 3) := by decide +kernel
theorem dX3_otherwise_56 : decode cX3_otherwise 56 = .ok (.iload_n 3, 1) := by decide +kernel
theorem dX3_otherwise_57 : decode cX3_otherwise 57 = .ok (.dup2, 1) := by decide +kernel
theorem dX3_otherwise_58 : decode cX3_otherwise 58 = .ok (.iaload, 1) := by decide +kernel
theorem dX3_otherwise_59 : decode cX3_otherwise 59 = .ok (.iconst 1, 1) := by decide +kernel
theorem dX3_otherwise_60 : decode cX3_otherwise 60 = .ok (.iadd, 1) := by decide +kernel
theorem dX3_otherwise_61 : decode cX3_otherwise 61 = .ok (.iastore, 1) := by decide +kernel
theorem dX3_otherwise_62 : decode cX3_otherwise 62 = .ok (.iinc 2 1, 3) := by decide +kernel
theorem dX3_otherwise_65 : decode cX3_otherwise 65 = .ok (.goto (-30), 3) := by decide +kernel
theorem dX3_otherwise_68 : decode cX3_otherwise 68 = .ok (.aload_n 0, 1) := by decide +kernel
theorem dX3_otherwise_69 : decode cX3_otherwise 69 = .ok (.getfield 43, 3) := by decide +kernel
theorem dX3_otherwise_72 : decode cX3_otherwise 72 = .ok (.iload_n 1, 1) := by decide +kernel
theorem dX3_otherwise_73 : decode cX3_otherwise 73 = .ok (.iaload, 1) := by decide +kernel
theorem dX3_otherwise_74 : decode cX3_otherwise 74 = .ok (.ireturn, 1) := by decide +kernel
theorem dX3_apart_0 : decode cX3_apart 0 = .ok (.iconst 0, 1) := by decide +kernel
theorem dX3_apart_1 : decode cX3_apart 1 = .ok (.istore_n 2, 1) := by decide +kernel
theorem dX3_apart_2 : decode cX3_apart 2 = .ok (.iconst 0, 1) := by decide +kernel
theorem dX3_apart_3 : decode cX3_apart 3 = .ok (.istore_n 3, 1) := by decide +kernel
theorem dX3_apart_4 : decode cX3_apart 4 = .ok (.iload_n 3, 1) := by decide +kernel
theorem dX3_apart_5 : decode cX3_apart 5 = .ok (.aload_n 0, 1) := by decide +kernel
theorem dX3_apart_6 : decode cX3_apart 6 = .ok (.getfield 74, 3) := by decide +kernel
theorem dX3_apart_9 : decode cX3_apart 9 = .ok (.if_icmp .ge 34, 3) := by decide +kernel
theorem dX3_apart_12 : decode cX3_apart 12 = .ok (.iload_n 2, 1) := by decide +kernel
theorem dX3_apart_13 : decode cX3_apart 13 = .ok (.iload_n 1, 1) := by decide +kernel
theorem dX3_apart_14 : decode cX3_apart 14 = .ok (.iload_n 3, 1) := by decide +kernel
theorem dX3_apart_15 : decode cX3_apart 15 = .ok (.invokestatic 209, 3) := by decide +kernel
theorem dX3_apart_18 : decode cX3_apart 18 = .ok (.ifCond .eq 11, 3) := by decide +kernel
theorem dX3_apart_21 : decode cX3_apart 21 = .ok (.aload_n 0, 1) := by decide +kernel
theorem dX3_apart_22 : decode cX3_apart 22 = .ok (.iload_n 3, 1) := by decide +kernel
theorem dX3_apart_23 : decode cX3_apart 23 = .ok (.invokevirtual 139, 3) := by decide +kernel
theorem dX3_apart_26 : decode cX3_apart 26 = .ok (.goto 9, 3) := by decide +kernel
theorem dX3_apart_29 : decode cX3_apart 29 = .ok (.aload_n 0, 1) := by decide +kernel
theorem dX3_apart_30 : decode cX3_apart 30 = .ok (.iload_n 3, 1) := by decide +kernel
theorem dX3_apart_31 : decode cX3_apart 31 = .ok (.invokevirtual 139, 3) := by decide +kernel
theorem dX3_apart_34 : decode cX3_apart 34 = .ok (.ineg, 1) := by decide +kernel
theorem dX3_apart_35 : decode cX3_apart 35 = .ok (.iadd, 1) := by decide +kernel
theorem dX3_apart_36 : decode cX3_apart 36 = .ok (.istore_n 2, 1) := by decide +kernel
theorem dX3_apart_37 : decode cX3_apart 37 = .ok (.iinc 3 1, 3) := by decide +kernel
theorem dX3_apart_40 : decode cX3_apart 40 = .ok (.goto (-36), 3) := by decide +kernel
theorem dX3_apart_43 : decode cX3_apart 43 = .ok (.iload_n 2, 1) := by decide +kernel
theorem dX3_apart_44 : decode cX3_apart 44 = .ok (.ifCond .ge 8, 3) := by decide +kernel
theorem dX3_apart_47 : decode cX3_apart 47 = .ok (.iload_n 2, 1) := by decide +kernel
theorem dX3_apart_48 : decode cX3_apart 48 = .ok (.ineg, 1) := by decide +kernel
theorem dX3_apart_49 : decode cX3_apart 49 = .ok (.goto 4, 3) := by decide +kernel
theorem dX3_apart_52 : decode cX3_apart 52 = .ok (.iload_n 2, 1) := by decide +kernel
theorem dX3_apart_53 : decode cX3_apart 53 = .ok (.ireturn, 1) := by decide +kernel
theorem dX3_halves_0 : decode cX3_halves 0 = .ok (.aload_n 0, 1) := by decide +kernel
theorem dX3_halves_1 : decode cX3_halves 1 = .ok (.getfield 74, 3) := by decide +kernel
theorem dX3_halves_4 : decode cX3_halves 4 = .ok (.ifCond .ne 6, 3) := by decide +kernel
theorem dX3_halves_7 : decode cX3_halves 7 = .ok (.bipush (-3), 2) := by decide +kernel
theorem dX3_halves_9 : decode cX3_halves 9 = .ok (.ireturn, 1) := by decide +kernel
theorem dX3_halves_10 : decode cX3_halves 10 = .ok (.iload_n 1, 1) := by decide +kernel
theorem dX3_halves_11 : decode cX3_halves 11 = .ok (.i2l, 1) := by decide +kernel
theorem dX3_halves_12 : decode cX3_halves 12 = .ok (.lconst 0, 1) := by decide +kernel
theorem dX3_halves_13 : decode cX3_halves 13 = .ok (.lconst 1, 1) := by decide +kernel
theorem dX3_halves_14 : decode cX3_halves 14 = .ok (.invokestatic 77, 3) := by decide +kernel
theorem dX3_halves_17 : decode cX3_halves 17 = .ok (.ifCond .ne 6, 3) := by decide +kernel
theorem dX3_halves_20 : decode cX3_halves 20 = .ok (.bipush (-2), 2) := by decide +kernel
theorem dX3_halves_22 : decode cX3_halves 22 = .ok (.ireturn, 1) := by decide +kernel
theorem dX3_halves_23 : decode cX3_halves 23 = .ok (.iconst 1, 1) := by decide +kernel
theorem dX3_halves_24 : decode cX3_halves 24 = .ok (.istore_n 2, 1) := by decide +kernel
theorem dX3_halves_25 : decode cX3_halves 25 = .ok (.iconst 1, 1) := by decide +kernel
theorem dX3_halves_26 : decode cX3_halves 26 = .ok (.istore_n 3, 1) := by decide +kernel
theorem dX3_halves_27 : decode cX3_halves 27 = .ok (.iload_n 3, 1) := by decide +kernel
theorem dX3_halves_28 : decode cX3_halves 28 = .ok (.iconst 1, 1) := by decide +kernel
theorem dX3_halves_29 : decode cX3_halves 29 = .ok (.aload_n 0, 1) := by decide +kernel
theorem dX3_halves_30 : decode cX3_halves 30 = .ok (.getfield 74, 3) := by decide +kernel
theorem dX3_halves_33 : decode cX3_halves 33 = .ok (.ishl, 1) := by decide +kernel
theorem dX3_halves_34 : decode cX3_halves 34 = .ok (.if_icmp .ge 28, 3) := by decide +kernel
theorem dX3_halves_37 : decode cX3_halves 37 = .ok (.aload_n 0, 1) := by decide +kernel
theorem dX3_halves_38 : decode cX3_halves 38 = .ok (.iload_n 3, 1) := by decide +kernel
theorem dX3_halves_39 : decode cX3_halves 39 = .ok (.invokevirtual 212, 3) := by decide +kernel
theorem dX3_halves_42 : decode cX3_halves 42 = .ok (.aload_n 0, 1) := by decide +kernel
theorem dX3_halves_43 : decode cX3_halves 43 = .ok (.iload_n 2, 1) := by decide +kernel
theorem dX3_halves_44 : decode cX3_halves 44 = .ok (.invokevirtual 212, 3) := by decide +kernel
theorem dX3_halves_47 : decode cX3_halves 47 = .ok (.if_icmp .ge 7, 3) := by decide +kernel
theorem dX3_halves_50 : decode cX3_halves 50 = .ok (.iload_n 3, 1) := by decide +kernel
theorem dX3_halves_51 : decode cX3_halves 51 = .ok (.goto 4, 3) := by decide +kernel
theorem dX3_halves_54 : decode cX3_halves 54 = .ok (.iload_n 2, 1) := by decide +kernel
theorem dX3_halves_55 : decode cX3_halves 55 = .ok (.istore_n 2, 1) := by decide +kernel
theorem dX3_halves_56 : decode cX3_halves 56 = .ok (.iinc 3 2, 3) := by decide +kernel
theorem dX3_halves_59 : decode cX3_halves 59 = .ok (.goto (-32), 3) := by decide +kernel
theorem dX3_halves_62 : decode cX3_halves 62 = .ok (.iload_n 1, 1) := by decide +kernel
theorem dX3_halves_63 : decode cX3_halves 63 = .ok (.ifCond .ne 7, 3) := by decide +kernel
theorem dX3_halves_66 : decode cX3_halves 66 = .ok (.iload_n 2, 1) := by decide +kernel
theorem dX3_halves_67 : decode cX3_halves 67 = .ok (.goto 8, 3) := by decide +kernel
theorem dX3_halves_70 : decode cX3_halves 70 = .ok (.aload_n 0, 1) := by decide +kernel
theorem dX3_halves_71 : decode cX3_halves 71 = .ok (.iload_n 2, 1) := by decide +kernel
theorem dX3_halves_72 : decode cX3_halves 72 = .ok (.invokevirtual 212, 3) := by decide +kernel
theorem dX3_halves_75 : decode cX3_halves 75 = .ok (.ireturn, 1) := by decide +kernel
theorem dX3_reading_0 : decode cX3_reading 0 = .ok (.aload_n 0, 1) := by decide +kernel
theorem dX3_reading_1 : decode cX3_reading 1 = .ok (.iload_n 1, 1) := by decide +kernel
theorem dX3_reading_2 : decode cX3_reading 2 = .ok (.invokevirtual 149, 3) := by decide +kernel
theorem dX3_reading_5 : decode cX3_reading 5 = .ok (.ifCond .eq 5, 3) := by decide +kernel
theorem dX3_reading_8 : decode cX3_reading 8 = .ok (.iconst (-1), 1) := by decide +kernel
theorem dX3_reading_9 : decode cX3_reading 9 = .ok (.ireturn, 1) := by decide +kernel
theorem dX3_reading_10 : decode cX3_reading 10 = .ok (.iload_n 2, 1) := by decide +kernel
theorem dX3_reading_11 : decode cX3_reading 11 = .ok (.invokestatic 155, 3) := by decide +kernel
theorem dX3_reading_14 : decode cX3_reading 14 = .ok (.ifCond .ne 6, 3) := by decide +kernel
theorem dX3_reading_17 : decode cX3_reading 17 = .ok (.bipush (-2), 2) := by decide +kernel
theorem dX3_reading_19 : decode cX3_reading 19 = .ok (.ireturn, 1) := by decide +kernel
theorem dX3_reading_20 : decode cX3_reading 20 = .ok (.aload_n 0, 1) := by decide +kernel
theorem dX3_reading_21 : decode cX3_reading 21 = .ok (.getfield 136, 3) := by decide +kernel
theorem dX3_reading_24 : decode cX3_reading 24 = .ok (.bipush 8, 2) := by decide +kernel
theorem dX3_reading_26 : decode cX3_reading 26 = .ok (.if_icmp .ne 6, 3) := by decide +kernel
theorem dX3_reading_29 : decode cX3_reading 29 = .ok (.bipush (-4), 2) := by decide +kernel
theorem dX3_reading_31 : decode cX3_reading 31 = .ok (.ireturn, 1) := by decide +kernel
theorem dX3_reading_32 : decode cX3_reading 32 = .ok (.aload_n 0, 1) := by decide +kernel
theorem dX3_reading_33 : decode cX3_reading 33 = .ok (.getfield 46, 3) := by decide +kernel
theorem dX3_reading_36 : decode cX3_reading 36 = .ok (.aload_n 0, 1) := by decide +kernel
theorem dX3_reading_37 : decode cX3_reading 37 = .ok (.getfield 136, 3) := by decide +kernel
theorem dX3_reading_40 : decode cX3_reading 40 = .ok (.iload_n 1, 1) := by decide +kernel
theorem dX3_reading_41 : decode cX3_reading 41 = .ok (.iastore, 1) := by decide +kernel
theorem dX3_reading_42 : decode cX3_reading 42 = .ok (.aload_n 0, 1) := by decide +kernel
theorem dX3_reading_43 : decode cX3_reading 43 = .ok (.getfield 49, 3) := by decide +kernel
theorem dX3_reading_46 : decode cX3_reading 46 = .ok (.aload_n 0, 1) := by decide +kernel
theorem dX3_reading_47 : decode cX3_reading 47 = .ok (.getfield 136, 3) := by decide +kernel
theorem dX3_reading_50 : decode cX3_reading 50 = .ok (.iload_n 2, 1) := by decide +kernel
theorem dX3_reading_51 : decode cX3_reading 51 = .ok (.iastore, 1) := by decide +kernel
theorem dX3_reading_52 : decode cX3_reading 52 = .ok (.aload_n 0, 1) := by decide +kernel
theorem dX3_reading_53 : decode cX3_reading 53 = .ok (.dup, 1) := by decide +kernel
theorem dX3_reading_54 : decode cX3_reading 54 = .ok (.getfield 136, 3) := by decide +kernel
theorem dX3_reading_57 : decode cX3_reading 57 = .ok (.iconst 1, 1) := by decide +kernel
theorem dX3_reading_58 : decode cX3_reading 58 = .ok (.iadd, 1) := by decide +kernel
theorem dX3_reading_59 : decode cX3_reading 59 = .ok (.putfield 136, 3) := by decide +kernel
theorem dX3_reading_62 : decode cX3_reading 62 = .ok (.aload_n 0, 1) := by decide +kernel
theorem dX3_reading_63 : decode cX3_reading 63 = .ok (.getfield 136, 3) := by decide +kernel
theorem dX3_reading_66 : decode cX3_reading 66 = .ok (.iconst 1, 1) := by decide +kernel
theorem dX3_reading_67 : decode cX3_reading 67 = .ok (.isub, 1) := by decide +kernel
theorem dX3_reading_68 : decode cX3_reading 68 = .ok (.ireturn, 1) := by decide +kernel
theorem dX3_back_0 : decode cX3_back 0 = .ok (.iload_n 1, 1) := by decide +kernel
theorem dX3_back_1 : decode cX3_back 1 = .ok (.i2l, 1) := by decide +kernel
theorem dX3_back_2 : decode cX3_back 2 = .ok (.lconst 0, 1) := by decide +kernel
theorem dX3_back_3 : decode cX3_back 3 = .ok (.aload_n 0, 1) := by decide +kernel
theorem dX3_back_4 : decode cX3_back 4 = .ok (.getfield 136, 3) := by decide +kernel
theorem dX3_back_7 : decode cX3_back 7 = .ok (.i2l, 1) := by decide +kernel
theorem dX3_back_8 : decode cX3_back 8 = .ok (.invokestatic 77, 3) := by decide +kernel
theorem dX3_back_11 : decode cX3_back 11 = .ok (.ifCond .ne 6, 3) := by decide +kernel
theorem dX3_back_14 : decode cX3_back 14 = .ok (.bipush (-2), 2) := by decide +kernel
theorem dX3_back_16 : decode cX3_back 16 = .ok (.ireturn, 1) := by decide +kernel
theorem dX3_back_17 : decode cX3_back 17 = .ok (.aload_n 0, 1) := by decide +kernel
theorem dX3_back_18 : decode cX3_back 18 = .ok (.dup, 1) := by decide +kernel
theorem dX3_back_19 : decode cX3_back 19 = .ok (.getfield 136, 3) := by decide +kernel
theorem dX3_back_22 : decode cX3_back 22 = .ok (.iload_n 1, 1) := by decide +kernel
theorem dX3_back_23 : decode cX3_back 23 = .ok (.isub, 1) := by decide +kernel
theorem dX3_back_24 : decode cX3_back 24 = .ok (.putfield 136, 3) := by decide +kernel
theorem dX3_back_27 : decode cX3_back 27 = .ok (.aload_n 0, 1) := by decide +kernel
theorem dX3_back_28 : decode cX3_back 28 = .ok (.getfield 136, 3) := by decide +kernel
theorem dX3_back_31 : decode cX3_back 31 = .ok (.ireturn, 1) := by decide +kernel
theorem dX3_areSo_0 : decode cX3_areSo 0 = .ok (.iconst 1, 1) := by decide +kernel
theorem dX3_areSo_1 : decode cX3_areSo 1 = .ok (.istore_n 1, 1) := by decide +kernel
theorem dX3_areSo_2 : decode cX3_areSo 2 = .ok (.iconst 0, 1) := by decide +kernel
theorem dX3_areSo_3 : decode cX3_areSo 3 = .ok (.istore_n 2, 1) := by decide +kernel
theorem dX3_areSo_4 : decode cX3_areSo 4 = .ok (.iload_n 2, 1) := by decide +kernel
theorem dX3_areSo_5 : decode cX3_areSo 5 = .ok (.aload_n 0, 1) := by decide +kernel
theorem dX3_areSo_6 : decode cX3_areSo 6 = .ok (.getfield 136, 3) := by decide +kernel
theorem dX3_areSo_9 : decode cX3_areSo 9 = .ok (.if_icmp .ge 42, 3) := by decide +kernel
theorem dX3_areSo_12 : decode cX3_areSo 12 = .ok (.iload_n 1, 1) := by decide +kernel
theorem dX3_areSo_13 : decode cX3_areSo 13 = .ok (.ifCond .eq 30, 3) := by decide +kernel
theorem dX3_areSo_16 : decode cX3_areSo 16 = .ok (.aload_n 0, 1) := by decide +kernel
theorem dX3_areSo_17 : decode cX3_areSo 17 = .ok (.aload_n 0, 1) := by decide +kernel
theorem dX3_areSo_18 : decode cX3_areSo 18 = .ok (.getfield 46, 3) := by decide +kernel
theorem dX3_areSo_21 : decode cX3_areSo 21 = .ok (.iload_n 2, 1) := by decide +kernel
theorem dX3_areSo_22 : decode cX3_areSo 22 = .ok (.iaload, 1) := by decide +kernel
theorem dX3_areSo_23 : decode cX3_areSo 23 = .ok (.aload_n 0, 1) := by decide +kernel
theorem dX3_areSo_24 : decode cX3_areSo 24 = .ok (.getfield 130, 3) := by decide +kernel
theorem dX3_areSo_27 : decode cX3_areSo 27 = .ok (.invokevirtual 152, 3) := by decide +kernel
theorem dX3_areSo_30 : decode cX3_areSo 30 = .ok (.aload_n 0, 1) := by decide +kernel
theorem dX3_areSo_31 : decode cX3_areSo 31 = .ok (.getfield 49, 3) := by decide +kernel
theorem dX3_areSo_34 : decode cX3_areSo 34 = .ok (.iload_n 2, 1) := by decide +kernel
theorem dX3_areSo_35 : decode cX3_areSo 35 = .ok (.iaload, 1) := by decide +kernel
theorem dX3_areSo_36 : decode cX3_areSo 36 = .ok (.if_icmp .ne 7, 3) := by decide +kernel
theorem dX3_areSo_39 : decode cX3_areSo 39 = .ok (.iconst 1, 1) := by decide +kernel
theorem dX3_areSo_40 : decode cX3_areSo 40 = .ok (.goto 4, 3) := by decide +kernel
theorem dX3_areSo_43 : decode cX3_areSo 43 = .ok (.iconst 0, 1) := by decide +kernel
theorem dX3_areSo_44 : decode cX3_areSo 44 = .ok (.istore_n 1, 1) := by decide +kernel
theorem dX3_areSo_45 : decode cX3_areSo 45 = .ok (.iinc 2 1, 3) := by decide +kernel
theorem dX3_areSo_48 : decode cX3_areSo 48 = .ok (.goto (-44), 3) := by decide +kernel
theorem dX3_areSo_51 : decode cX3_areSo 51 = .ok (.iload_n 1, 1) := by decide +kernel
theorem dX3_areSo_52 : decode cX3_areSo 52 = .ok (.ireturn, 1) := by decide +kernel
theorem dX3_tempers_0 : decode cX3_tempers 0 = .ok (.aload_n 0, 1) := by decide +kernel
theorem dX3_tempers_1 : decode cX3_tempers 1 = .ok (.iload_n 1, 1) := by decide +kernel
theorem dX3_tempers_2 : decode cX3_tempers 2 = .ok (.invokevirtual 149, 3) := by decide +kernel
theorem dX3_tempers_5 : decode cX3_tempers 5 = .ok (.ifCond .eq 5, 3) := by decide +kernel
theorem dX3_tempers_8 : decode cX3_tempers 8 = .ok (.iconst (-1), 1) := by decide +kernel
theorem dX3_tempers_9 : decode cX3_tempers 9 = .ok (.ireturn, 1) := by decide +kernel
theorem dX3_tempers_10 : decode cX3_tempers 10 = .ok (.aload_n 0, 1) := by decide +kernel
theorem dX3_tempers_11 : decode cX3_tempers 11 = .ok (.getfield 13, 3) := by decide +kernel
theorem dX3_tempers_14 : decode cX3_tempers 14 = .ok (.iload_n 1, 1) := by decide +kernel
theorem dX3_tempers_15 : decode cX3_tempers 15 = .ok (.iaload, 1) := by decide +kernel
theorem dX3_tempers_16 : decode cX3_tempers 16 = .ok (.istore_n 2, 1) := by decide +kernel
theorem dX3_tempers_17 : decode cX3_tempers 17 = .ok (.iconst 0, 1) := by decide +kernel
theorem dX3_tempers_18 : decode cX3_tempers 18 = .ok (.istore_n 3, 1) := by decide +kernel
theorem dX3_tempers_19 : decode cX3_tempers 19 = .ok (.iconst 0, 1) := by decide +kernel
theorem dX3_tempers_20 : decode cX3_tempers 20 = .ok (.istore 4, 2) := by decide +kernel
theorem dX3_tempers_22 : decode cX3_tempers 22 = .ok (.iload 4, 2) := by decide +kernel
theorem dX3_tempers_24 : decode cX3_tempers 24 = .ok (.bipush 10, 2) := by decide +kernel
theorem dX3_tempers_26 : decode cX3_tempers 26 = .ok (.if_icmp .ge 35, 3) := by decide +kernel
theorem dX3_tempers_29 : decode cX3_tempers 29 = .ok (.aload_n 0, 1) := by decide +kernel
theorem dX3_tempers_30 : decode cX3_tempers 30 = .ok (.getfield 13, 3) := by decide +kernel
theorem dX3_tempers_33 : decode cX3_tempers 33 = .ok (.iload_n 1, 1) := by decide +kernel
theorem dX3_tempers_34 : decode cX3_tempers 34 = .ok (.iload 4, 2) := by decide +kernel
theorem dX3_tempers_36 : decode cX3_tempers 36 = .ok (.iastore, 1) := by decide +kernel
theorem dX3_tempers_37 : decode cX3_tempers 37 = .ok (.iload_n 3, 1) := by decide +kernel
theorem dX3_tempers_38 : decode cX3_tempers 38 = .ok (.aload_n 0, 1) := by decide +kernel
theorem dX3_tempers_39 : decode cX3_tempers 39 = .ok (.invokevirtual 215, 3) := by decide +kernel
theorem dX3_tempers_42 : decode cX3_tempers 42 = .ok (.ifCond .eq 10, 3) := by decide +kernel
theorem dX3_tempers_45 : decode cX3_tempers 45 = .ok (.iconst 1, 1) := by decide +kernel
theorem dX3_tempers_46 : decode cX3_tempers 46 = .ok (.iload 4, 2) := by decide +kernel
theorem dX3_tempers_48 : decode cX3_tempers 48 = .ok (.ishl, 1) := by decide +kernel
theorem dX3_tempers_49 : decode cX3_tempers 49 = .ok (.goto 4, 3) := by decide +kernel
theorem dX3_tempers_52 : decode cX3_tempers 52 = .ok (.iconst 0, 1) := by decide +kernel
theorem dX3_tempers_53 : decode cX3_tempers 53 = .ok (.ior, 1) := by decide +kernel
theorem dX3_tempers_54 : decode cX3_tempers 54 = .ok (.istore_n 3, 1) := by decide +kernel
theorem dX3_tempers_55 : decode cX3_tempers 55 = .ok (.iinc 4 1, 3) := by decide +kernel
theorem dX3_tempers_58 : decode cX3_tempers 58 = .ok (.goto (-36), 3) := by decide +kernel
theorem dX3_tempers_61 : decode cX3_tempers 61 = .ok (.aload_n 0, 1) := by decide +kernel
theorem dX3_tempers_62 : decode cX3_tempers 62 = .ok (.getfield 13, 3) := by decide +kernel
theorem dX3_tempers_65 : decode cX3_tempers 65 = .ok (.iload_n 1, 1) := by decide +kernel
theorem dX3_tempers_66 : decode cX3_tempers 66 = .ok (.iload_n 2, 1) := by decide +kernel
theorem dX3_tempers_67 : decode cX3_tempers 67 = .ok (.iastore, 1) := by decide +kernel
theorem dX3_tempers_68 : decode cX3_tempers 68 = .ok (.iload_n 3, 1) := by decide +kernel
theorem dX3_tempers_69 : decode cX3_tempers 69 = .ok (.ireturn, 1) := by decide +kernel
theorem dX3_kinds_0 : decode cX3_kinds 0 = .ok (.aload_n 0, 1) := by decide +kernel
theorem dX3_kinds_1 : decode cX3_kinds 1 = .ok (.iload_n 1, 1) := by decide +kernel
theorem dX3_kinds_2 : decode cX3_kinds 2 = .ok (.invokevirtual 149, 3) := by decide +kernel
theorem dX3_kinds_5 : decode cX3_kinds 5 = .ok (.ifCond .eq 5, 3) := by decide +kernel
theorem dX3_kinds_8 : decode cX3_kinds 8 = .ok (.iconst (-1), 1) := by decide +kernel
theorem dX3_kinds_9 : decode cX3_kinds 9 = .ok (.ireturn, 1) := by decide +kernel
theorem dX3_kinds_10 : decode cX3_kinds 10 = .ok (.aload_n 0, 1) := by decide +kernel
theorem dX3_kinds_11 : decode cX3_kinds 11 = .ok (.getfield 7, 3) := by decide +kernel
theorem dX3_kinds_14 : decode cX3_kinds 14 = .ok (.iload_n 1, 1) := by decide +kernel
theorem dX3_kinds_15 : decode cX3_kinds 15 = .ok (.iaload, 1) := by decide +kernel
theorem dX3_kinds_16 : decode cX3_kinds 16 = .ok (.istore_n 2, 1) := by decide +kernel
theorem dX3_kinds_17 : decode cX3_kinds 17 = .ok (.iconst 0, 1) := by decide +kernel
theorem dX3_kinds_18 : decode cX3_kinds 18 = .ok (.istore_n 3, 1) := by decide +kernel
theorem dX3_kinds_19 : decode cX3_kinds 19 = .ok (.iconst 0, 1) := by decide +kernel
theorem dX3_kinds_20 : decode cX3_kinds 20 = .ok (.istore 4, 2) := by decide +kernel
theorem dX3_kinds_22 : decode cX3_kinds 22 = .ok (.iload 4, 2) := by decide +kernel
theorem dX3_kinds_24 : decode cX3_kinds 24 = .ok (.iconst 3, 1) := by decide +kernel
theorem dX3_kinds_25 : decode cX3_kinds 25 = .ok (.if_icmp .ge 35, 3) := by decide +kernel
theorem dX3_kinds_28 : decode cX3_kinds 28 = .ok (.aload_n 0, 1) := by decide +kernel
theorem dX3_kinds_29 : decode cX3_kinds 29 = .ok (.getfield 7, 3) := by decide +kernel
theorem dX3_kinds_32 : decode cX3_kinds 32 = .ok (.iload_n 1, 1) := by decide +kernel
theorem dX3_kinds_33 : decode cX3_kinds 33 = .ok (.iload 4, 2) := by decide +kernel
theorem dX3_kinds_35 : decode cX3_kinds 35 = .ok (.iastore, 1) := by decide +kernel
theorem dX3_kinds_36 : decode cX3_kinds 36 = .ok (.iload_n 3, 1) := by decide +kernel
theorem dX3_kinds_37 : decode cX3_kinds 37 = .ok (.aload_n 0, 1) := by decide +kernel
theorem dX3_kinds_38 : decode cX3_kinds 38 = .ok (.invokevirtual 215, 3) := by decide +kernel
theorem dX3_kinds_41 : decode cX3_kinds 41 = .ok (.ifCond .eq 10, 3) := by decide +kernel
theorem dX3_kinds_44 : decode cX3_kinds 44 = .ok (.iconst 1, 1) := by decide +kernel
theorem dX3_kinds_45 : decode cX3_kinds 45 = .ok (.iload 4, 2) := by decide +kernel
theorem dX3_kinds_47 : decode cX3_kinds 47 = .ok (.ishl, 1) := by decide +kernel
theorem dX3_kinds_48 : decode cX3_kinds 48 = .ok (.goto 4, 3) := by decide +kernel
theorem dX3_kinds_51 : decode cX3_kinds 51 = .ok (.iconst 0, 1) := by decide +kernel
theorem dX3_kinds_52 : decode cX3_kinds 52 = .ok (.ior, 1) := by decide +kernel
theorem dX3_kinds_53 : decode cX3_kinds 53 = .ok (.istore_n 3, 1) := by decide +kernel
theorem dX3_kinds_54 : decode cX3_kinds 54 = .ok (.iinc 4 1, 3) := by decide +kernel
theorem dX3_kinds_57 : decode cX3_kinds 57 = .ok (.goto (-35), 3) := by decide +kernel
theorem dX3_kinds_60 : decode cX3_kinds 60 = .ok (.aload_n 0, 1) := by decide +kernel
theorem dX3_kinds_61 : decode cX3_kinds 61 = .ok (.getfield 7, 3) := by decide +kernel
theorem dX3_kinds_64 : decode cX3_kinds 64 = .ok (.iload_n 1, 1) := by decide +kernel
theorem dX3_kinds_65 : decode cX3_kinds 65 = .ok (.iload_n 2, 1) := by decide +kernel
theorem dX3_kinds_66 : decode cX3_kinds 66 = .ok (.iastore, 1) := by decide +kernel
theorem dX3_kinds_67 : decode cX3_kinds 67 = .ok (.iload_n 3, 1) := by decide +kernel
theorem dX3_kinds_68 : decode cX3_kinds 68 = .ok (.ireturn, 1) := by decide +kernel
theorem dX3_crates_0 : decode cX3_crates 0 = .ok (.aload_n 0, 1) := by decide +kernel
theorem dX3_crates_1 : decode cX3_crates 1 = .ok (.getfield 74, 3) := by decide +kernel
theorem dX3_crates_4 : decode cX3_crates 4 = .ok (.ifCond .ne 6, 3) := by decide +kernel
theorem dX3_crates_7 : decode cX3_crates 7 = .ok (.bipush (-3), 2) := by decide +kernel
theorem dX3_crates_9 : decode cX3_crates 9 = .ok (.ireturn, 1) := by decide +kernel
theorem dX3_crates_10 : decode cX3_crates 10 = .ok (.iload_n 1, 1) := by decide +kernel
theorem dX3_crates_11 : decode cX3_crates 11 = .ok (.i2l, 1) := by decide +kernel
theorem dX3_crates_12 : decode cX3_crates 12 = .ok (.lconst 0, 1) := by decide +kernel
theorem dX3_crates_13 : decode cX3_crates 13 = .ok (.ldc2_w 121, 3) := by decide +kernel
theorem dX3_crates_16 : decode cX3_crates 16 = .ok (.invokestatic 77, 3) := by decide +kernel
theorem dX3_crates_19 : decode cX3_crates 19 = .ok (.ifCond .ne 6, 3) := by decide +kernel
theorem dX3_crates_22 : decode cX3_crates 22 = .ok (.bipush (-2), 2) := by decide +kernel
theorem dX3_crates_24 : decode cX3_crates 24 = .ok (.ireturn, 1) := by decide +kernel
theorem dX3_crates_25 : decode cX3_crates 25 = .ok (.aload_n 0, 1) := by decide +kernel
theorem dX3_crates_26 : decode cX3_crates 26 = .ok (.getfield 130, 3) := by decide +kernel
theorem dX3_crates_29 : decode cX3_crates 29 = .ok (.istore_n 2, 1) := by decide +kernel
theorem dX3_crates_30 : decode cX3_crates 30 = .ok (.iconst 0, 1) := by decide +kernel
theorem dX3_crates_31 : decode cX3_crates 31 = .ok (.istore_n 3, 1) := by decide +kernel
theorem dX3_crates_32 : decode cX3_crates 32 = .ok (.bipush (-9), 2) := by decide +kernel
theorem dX3_crates_34 : decode cX3_crates 34 = .ok (.istore 4, 2) := by decide +kernel
theorem dX3_crates_36 : decode cX3_crates 36 = .ok (.bipush (-9), 2) := by decide +kernel
theorem dX3_crates_38 : decode cX3_crates 38 = .ok (.istore 5, 2) := by decide +kernel
theorem dX3_crates_40 : decode cX3_crates 40 = .ok (.iconst 0, 1) := by decide +kernel
theorem dX3_crates_41 : decode cX3_crates 41 = .ok (.istore 6, 2) := by decide +kernel
theorem dX3_crates_43 : decode cX3_crates 43 = .ok (.iload 6, 2) := by decide +kernel
theorem dX3_crates_45 : decode cX3_crates 45 = .ok (.bipush 100, 2) := by decide +kernel
theorem dX3_crates_47 : decode cX3_crates 47 = .ok (.if_icmp .ge 67, 3) := by decide +kernel
theorem dX3_crates_50 : decode cX3_crates 50 = .ok (.aload_n 0, 1) := by decide +kernel
theorem dX3_crates_51 : decode cX3_crates 51 = .ok (.iload 6, 2) := by decide +kernel
theorem dX3_crates_53 : decode cX3_crates 53 = .ok (.putfield 130, 3) := by decide +kernel
theorem dX3_crates_56 : decode cX3_crates 56 = .ok (.aload_n 0, 1) := by decide +kernel
theorem dX3_crates_57 : decode cX3_crates 57 = .ok (.invokevirtual 215, 3) := by decide +kernel
theorem dX3_crates_60 : decode cX3_crates 60 = .ok (.istore 7, 2) := by decide +kernel
theorem dX3_crates_62 : decode cX3_crates 62 = .ok (.iload_n 3, 1) := by decide +kernel
theorem dX3_crates_63 : decode cX3_crates 63 = .ok (.iload 7, 2) := by decide +kernel
theorem dX3_crates_65 : decode cX3_crates 65 = .ok (.ifCond .eq 7, 3) := by decide +kernel
theorem dX3_crates_68 : decode cX3_crates 68 = .ok (.iconst 1, 1) := by decide +kernel
theorem dX3_crates_69 : decode cX3_crates 69 = .ok (.goto 4, 3) := by decide +kernel
theorem dX3_crates_72 : decode cX3_crates 72 = .ok (.iconst 0, 1) := by decide +kernel
theorem dX3_crates_73 : decode cX3_crates 73 = .ok (.iadd, 1) := by decide +kernel
theorem dX3_crates_74 : decode cX3_crates 74 = .ok (.istore_n 3, 1) := by decide +kernel
theorem dX3_crates_75 : decode cX3_crates 75 = .ok (.iload 7, 2) := by decide +kernel
theorem dX3_crates_77 : decode cX3_crates 77 = .ok (.ifCond .eq 13, 3) := by decide +kernel
theorem dX3_crates_80 : decode cX3_crates 80 = .ok (.iload 4, 2) := by decide +kernel
theorem dX3_crates_82 : decode cX3_crates 82 = .ok (.ifCond .ge 8, 3) := by decide +kernel
theorem dX3_crates_85 : decode cX3_crates 85 = .ok (.iload 6, 2) := by decide +kernel
theorem dX3_crates_87 : decode cX3_crates 87 = .ok (.goto 5, 3) := by decide +kernel
theorem dX3_crates_90 : decode cX3_crates 90 = .ok (.iload 4, 2) := by decide +kernel
theorem dX3_crates_92 : decode cX3_crates 92 = .ok (.istore 4, 2) := by decide +kernel
theorem dX3_crates_94 : decode cX3_crates 94 = .ok (.iload 7, 2) := by decide +kernel
theorem dX3_crates_96 : decode cX3_crates 96 = .ok (.ifCond .eq 8, 3) := by decide +kernel
theorem dX3_crates_99 : decode cX3_crates 99 = .ok (.iload 6, 2) := by decide +kernel
theorem dX3_crates_101 : decode cX3_crates 101 = .ok (.goto 5, 3) := by decide +kernel
theorem dX3_crates_104 : decode cX3_crates 104 = .ok (.iload 5, 2) := by decide +kernel
theorem dX3_crates_106 : decode cX3_crates 106 = .ok (.istore 5, 2) := by decide +kernel
theorem dX3_crates_108 : decode cX3_crates 108 = .ok (.iinc 6 1, 3) := by decide +kernel
theorem dX3_crates_111 : decode cX3_crates 111 = .ok (.goto (-68), 3) := by decide +kernel
theorem dX3_crates_114 : decode cX3_crates 114 = .ok (.aload_n 0, 1) := by decide +kernel
theorem dX3_crates_115 : decode cX3_crates 115 = .ok (.iload_n 2, 1) := by decide +kernel
theorem dX3_crates_116 : decode cX3_crates 116 = .ok (.putfield 130, 3) := by decide +kernel
theorem dX3_crates_119 : decode cX3_crates 119 = .ok (.iload_n 1, 1) := by decide +kernel
theorem dX3_crates_120 : decode cX3_crates 120 = .ok (.ifCond .ne 7, 3) := by decide +kernel
theorem dX3_crates_123 : decode cX3_crates 123 = .ok (.iload_n 3, 1) := by decide +kernel
theorem dX3_crates_124 : decode cX3_crates 124 = .ok (.goto 15, 3) := by decide +kernel
theorem dX3_crates_127 : decode cX3_crates 127 = .ok (.iload_n 1, 1) := by decide +kernel
theorem dX3_crates_128 : decode cX3_crates 128 = .ok (.iconst 1, 1) := by decide +kernel
theorem dX3_crates_129 : decode cX3_crates 129 = .ok (.if_icmp .ne 8, 3) := by decide +kernel
theorem dX3_crates_132 : decode cX3_crates 132 = .ok (.iload 4, 2) := by decide +kernel
theorem dX3_crates_134 : decode cX3_crates 134 = .ok (.goto 5, 3) := by decide +kernel
theorem dX3_crates_137 : decode cX3_crates 137 = .ok (.iload 5, 2) := by decide +kernel
theorem dX3_crates_139 : decode cX3_crates 139 = .ok (.ireturn, 1) := by decide +kernel
theorem dX3_odds_0 : decode cX3_odds 0 = .ok (.aload_n 0, 1) := by decide +kernel
theorem dX3_odds_1 : decode cX3_odds 1 = .ok (.iload_n 1, 1) := by decide +kernel
theorem dX3_odds_2 : decode cX3_odds 2 = .ok (.invokevirtual 149, 3) := by decide +kernel
theorem dX3_odds_5 : decode cX3_odds 5 = .ok (.ifCond .ne 20, 3) := by decide +kernel
theorem dX3_odds_8 : decode cX3_odds 8 = .ok (.iload_n 2, 1) := by decide +kernel
theorem dX3_odds_9 : decode cX3_odds 9 = .ok (.invokestatic 155, 3) := by decide +kernel
theorem dX3_odds_12 : decode cX3_odds 12 = .ok (.ifCond .eq 13, 3) := by decide +kernel
theorem dX3_odds_15 : decode cX3_odds 15 = .ok (.iload_n 3, 1) := by decide +kernel
theorem dX3_odds_16 : decode cX3_odds 16 = .ok (.i2l, 1) := by decide +kernel
theorem dX3_odds_17 : decode cX3_odds 17 = .ok (.lconst 0, 1) := by decide +kernel
theorem dX3_odds_18 : decode cX3_odds 18 = .ok (.lconst 1, 1) := by decide +kernel
theorem dX3_odds_19 : decode cX3_odds 19 = .ok (.invokestatic 77, 3) := by decide +kernel
theorem dX3_odds_22 : decode cX3_odds 22 = .ok (.ifCond .ne 7, 3) := by decide +kernel
theorem dX3_odds_25 : decode cX3_odds 25 = .ok (.invokestatic 70, 3) := by decide +kernel
theorem dX3_odds_28 : decode cX3_odds 28 = .ok (.lreturn, 1) := by decide +kernel
theorem dX3_odds_29 : decode cX3_odds 29 = .ok (.lconst 0, 1) := by decide +kernel
theorem dX3_odds_30 : decode cX3_odds 30 = .ok (.lstore 4, 2) := by decide +kernel
theorem dX3_odds_32 : decode cX3_odds 32 = .ok (.iconst 0, 1) := by decide +kernel
theorem dX3_odds_33 : decode cX3_odds 33 = .ok (.istore 6, 2) := by decide +kernel
theorem dX3_odds_35 : decode cX3_odds 35 = .ok (.iload 6, 2) := by decide +kernel
theorem dX3_odds_37 : decode cX3_odds 37 = .ok (.bipush 100, 2) := by decide +kernel
theorem dX3_odds_39 : decode cX3_odds 39 = .ok (.if_icmp .ge 30, 3) := by decide +kernel
theorem dX3_odds_42 : decode cX3_odds 42 = .ok (.lload 4, 2) := by decide +kernel
theorem dX3_odds_44 : decode cX3_odds 44 = .ok (.aload_n 0, 1) := by decide +kernel
theorem dX3_odds_45 : decode cX3_odds 45 = .ok (.iload_n 1, 1) := by decide +kernel
theorem dX3_odds_46 : decode cX3_odds 46 = .ok (.iload 6, 2) := by decide +kernel
theorem dX3_odds_48 : decode cX3_odds 48 = .ok (.invokevirtual 152, 3) := by decide +kernel
theorem dX3_odds_51 : decode cX3_odds 51 = .ok (.iload_n 2, 1) := by decide +kernel
theorem dX3_odds_52 : decode cX3_odds 52 = .ok (.if_icmp .lt 7, 3) := by decide +kernel
theorem dX3_odds_55 : decode cX3_odds 55 = .ok (.lconst 1, 1) := by decide +kernel
theorem dX3_odds_56 : decode cX3_odds 56 = .ok (.goto 4, 3) := by decide +kernel
theorem dX3_odds_59 : decode cX3_odds 59 = .ok (.lconst 0, 1) := by decide +kernel
theorem dX3_odds_60 : decode cX3_odds 60 = .ok (.ladd, 1) := by decide +kernel
theorem dX3_odds_61 : decode cX3_odds 61 = .ok (.lstore 4, 2) := by decide +kernel
theorem dX3_odds_63 : decode cX3_odds 63 = .ok (.iinc 6 1, 3) := by decide +kernel
theorem dX3_odds_66 : decode cX3_odds 66 = .ok (.goto (-31), 3) := by decide +kernel
theorem dX3_odds_69 : decode cX3_odds 69 = .ok (.lload 4, 2) := by decide +kernel
theorem dX3_odds_71 : decode cX3_odds 71 = .ok (.ldc2_w 219, 3) := by decide +kernel
theorem dX3_odds_74 : decode cX3_odds 74 = .ok (.iload_n 3, 1) := by decide +kernel
theorem dX3_odds_75 : decode cX3_odds 75 = .ok (.invokestatic 221, 3) := by decide +kernel
theorem dX3_odds_78 : decode cX3_odds 78 = .ok (.lreturn, 1) := by decide +kernel
theorem dX3_noSheet_0 : decode cX3_noSheet 0 = .ok (.iload_n 0, 1) := by decide +kernel
theorem dX3_noSheet_1 : decode cX3_noSheet 1 = .ok (.i2l, 1) := by decide +kernel
theorem dX3_noSheet_2 : decode cX3_noSheet 2 = .ok (.lconst 0, 1) := by decide +kernel
theorem dX3_noSheet_3 : decode cX3_noSheet 3 = .ok (.ldc2_w 225, 3) := by decide +kernel
theorem dX3_noSheet_6 : decode cX3_noSheet 6 = .ok (.invokestatic 77, 3) := by decide +kernel
theorem dX3_noSheet_9 : decode cX3_noSheet 9 = .ok (.ifCond .ne 7, 3) := by decide +kernel
theorem dX3_noSheet_12 : decode cX3_noSheet 12 = .ok (.iconst 1, 1) := by decide +kernel
theorem dX3_noSheet_13 : decode cX3_noSheet 13 = .ok (.goto 4, 3) := by decide +kernel
theorem dX3_noSheet_16 : decode cX3_noSheet 16 = .ok (.iconst 0, 1) := by decide +kernel
theorem dX3_noSheet_17 : decode cX3_noSheet 17 = .ok (.ireturn, 1) := by decide +kernel
theorem dX3_sheet_0 : decode cX3_sheet 0 = .ok (.iload_n 1, 1) := by decide +kernel
theorem dX3_sheet_1 : decode cX3_sheet 1 = .ok (.invokestatic 114, 3) := by decide +kernel
theorem dX3_sheet_4 : decode cX3_sheet 4 = .ok (.ifCond .eq 9, 3) := by decide +kernel
theorem dX3_sheet_7 : decode cX3_sheet 7 = .ok (.aload_n 0, 1) := by decide +kernel
theorem dX3_sheet_8 : decode cX3_sheet 8 = .ok (.iconst (-1), 1) := by decide +kernel
theorem dX3_sheet_9 : decode cX3_sheet 9 = .ok (.invokevirtual 118, 3) := by decide +kernel
theorem dX3_sheet_12 : decode cX3_sheet 12 = .ok (.ireturn, 1) := by decide +kernel
theorem dX3_sheet_13 : decode cX3_sheet 13 = .ok (.iload_n 2, 1) := by decide +kernel
theorem dX3_sheet_14 : decode cX3_sheet 14 = .ok (.i2l, 1) := by decide +kernel
theorem dX3_sheet_15 : decode cX3_sheet 15 = .ok (.lconst 0, 1) := by decide +kernel
theorem dX3_sheet_16 : decode cX3_sheet 16 = .ok (.ldc2_w 121, 3) := by decide +kernel
theorem dX3_sheet_19 : decode cX3_sheet 19 = .ok (.invokestatic 77, 3) := by decide +kernel
theorem dX3_sheet_22 : decode cX3_sheet 22 = .ok (.ifCond .eq 9, 3) := by decide +kernel
theorem dX3_sheet_25 : decode cX3_sheet 25 = .ok (.iload_n 3, 1) := by decide +kernel
theorem dX3_sheet_26 : decode cX3_sheet 26 = .ok (.bipush 60, 2) := by decide +kernel
theorem dX3_sheet_28 : decode cX3_sheet 28 = .ok (.if_icmp .le 10, 3) := by decide +kernel
theorem dX3_sheet_31 : decode cX3_sheet 31 = .ok (.aload_n 0, 1) := by decide +kernel
theorem dX3_sheet_32 : decode cX3_sheet 32 = .ok (.bipush (-2), 2) := by decide +kernel
theorem dX3_sheet_34 : decode cX3_sheet 34 = .ok (.invokevirtual 118, 3) := by decide +kernel
theorem dX3_sheet_37 : decode cX3_sheet 37 = .ok (.ireturn, 1) := by decide +kernel
theorem dX3_sheet_38 : decode cX3_sheet 38 = .ok (.iload_n 3, 1) := by decide +kernel
theorem dX3_sheet_39 : decode cX3_sheet 39 = .ok (.ifCond .ge 9, 3) := by decide +kernel
theorem dX3_sheet_42 : decode cX3_sheet 42 = .ok (.aload_n 0, 1) := by decide +kernel
theorem dX3_sheet_43 : decode cX3_sheet 43 = .ok (.iconst 4, 1) := by decide +kernel
theorem dX3_sheet_44 : decode cX3_sheet 44 = .ok (.invokevirtual 106, 3) := by decide +kernel
theorem dX3_sheet_47 : decode cX3_sheet 47 = .ok (.ireturn, 1) := by decide +kernel
theorem dX3_sheet_48 : decode cX3_sheet 48 = .ok (.aload_n 0, 1) := by decide +kernel
theorem dX3_sheet_49 : decode cX3_sheet 49 = .ok (.getfield 52, 3) := by decide +kernel
theorem dX3_sheet_52 : decode cX3_sheet 52 = .ok (.iload_n 1, 1) := by decide +kernel
theorem dX3_sheet_53 : decode cX3_sheet 53 = .ok (.iload_n 3, 1) := by decide +kernel
theorem dX3_sheet_54 : decode cX3_sheet 54 = .ok (.iastore, 1) := by decide +kernel
theorem dX3_sheet_55 : decode cX3_sheet 55 = .ok (.aload_n 0, 1) := by decide +kernel
theorem dX3_sheet_56 : decode cX3_sheet 56 = .ok (.getfield 55, 3) := by decide +kernel
theorem dX3_sheet_59 : decode cX3_sheet 59 = .ok (.iload_n 1, 1) := by decide +kernel
theorem dX3_sheet_60 : decode cX3_sheet 60 = .ok (.iload_n 2, 1) := by decide +kernel
theorem dX3_sheet_61 : decode cX3_sheet 61 = .ok (.iastore, 1) := by decide +kernel
theorem dX3_sheet_62 : decode cX3_sheet 62 = .ok (.iconst 0, 1) := by decide +kernel
theorem dX3_sheet_63 : decode cX3_sheet 63 = .ok (.istore 4, 2) := by decide +kernel
theorem dX3_sheet_65 : decode cX3_sheet 65 = .ok (.iload 4, 2) := by decide +kernel
theorem dX3_sheet_67 : decode cX3_sheet 67 = .ok (.iload_n 3, 1) := by decide +kernel
theorem dX3_sheet_68 : decode cX3_sheet 68 = .ok (.if_icmp .ge 22, 3) := by decide +kernel
theorem dX3_sheet_71 : decode cX3_sheet 71 = .ok (.aload_n 0, 1) := by decide +kernel
theorem dX3_sheet_72 : decode cX3_sheet 72 = .ok (.getfield 58, 3) := by decide +kernel
theorem dX3_sheet_75 : decode cX3_sheet 75 = .ok (.bipush 60, 2) := by decide +kernel
theorem dX3_sheet_77 : decode cX3_sheet 77 = .ok (.iload_n 1, 1) := by decide +kernel
theorem dX3_sheet_78 : decode cX3_sheet 78 = .ok (.imul, 1) := by decide +kernel
theorem dX3_sheet_79 : decode cX3_sheet 79 = .ok (.iload 4, 2) := by decide +kernel
theorem dX3_sheet_81 : decode cX3_sheet 81 = .ok (.iadd, 1) := by decide +kernel
theorem dX3_sheet_82 : decode cX3_sheet 82 = .ok (.iconst 0, 1) := by decide +kernel
theorem dX3_sheet_83 : decode cX3_sheet 83 = .ok (.iastore, 1) := by decide +kernel
theorem dX3_sheet_84 : decode cX3_sheet 84 = .ok (.iinc 4 1, 3) := by decide +kernel
theorem dX3_sheet_87 : decode cX3_sheet 87 = .ok (.goto (-22), 3) := by decide +kernel
theorem dX3_sheet_90 : decode cX3_sheet 90 = .ok (.aload_n 0, 1) := by decide +kernel
theorem dX3_sheet_91 : decode cX3_sheet 91 = .ok (.iconst 1, 1) := by decide +kernel
theorem dX3_sheet_92 : decode cX3_sheet 92 = .ok (.invokevirtual 118, 3) := by decide +kernel
theorem dX3_sheet_95 : decode cX3_sheet 95 = .ok (.ireturn, 1) := by decide +kernel
theorem dX3_lose_0 : decode cX3_lose 0 = .ok (.iload_n 1, 1) := by decide +kernel
theorem dX3_lose_1 : decode cX3_lose 1 = .ok (.invokestatic 114, 3) := by decide +kernel
theorem dX3_lose_4 : decode cX3_lose 4 = .ok (.ifCond .eq 5, 3) := by decide +kernel
theorem dX3_lose_7 : decode cX3_lose 7 = .ok (.iconst (-1), 1) := by decide +kernel
theorem dX3_lose_8 : decode cX3_lose 8 = .ok (.ireturn, 1) := by decide +kernel
theorem dX3_lose_9 : decode cX3_lose 9 = .ok (.aload_n 0, 1) := by decide +kernel
theorem dX3_lose_10 : decode cX3_lose 10 = .ok (.getfield 52, 3) := by decide +kernel
theorem dX3_lose_13 : decode cX3_lose 13 = .ok (.iload_n 1, 1) := by decide +kernel
theorem dX3_lose_14 : decode cX3_lose 14 = .ok (.iaload, 1) := by decide +kernel
theorem dX3_lose_15 : decode cX3_lose 15 = .ok (.ifCond .ge 7, 3) := by decide +kernel
theorem dX3_lose_18 : decode cX3_lose 18 = .ok (.iconst 0, 1) := by decide +kernel
theorem dX3_lose_19 : decode cX3_lose 19 = .ok (.goto 4, 3) := by decide +kernel
theorem dX3_lose_22 : decode cX3_lose 22 = .ok (.iconst 1, 1) := by decide +kernel
theorem dX3_lose_23 : decode cX3_lose 23 = .ok (.istore_n 2, 1) := by decide +kernel
theorem dX3_lose_24 : decode cX3_lose 24 = .ok (.aload_n 0, 1) := by decide +kernel
theorem dX3_lose_25 : decode cX3_lose 25 = .ok (.getfield 52, 3) := by decide +kernel
theorem dX3_lose_28 : decode cX3_lose 28 = .ok (.iload_n 1, 1) := by decide +kernel
theorem dX3_lose_29 : decode cX3_lose 29 = .ok (.iconst (-1), 1) := by decide +kernel
theorem dX3_lose_30 : decode cX3_lose 30 = .ok (.iastore, 1) := by decide +kernel
theorem dX3_lose_31 : decode cX3_lose 31 = .ok (.iload_n 2, 1) := by decide +kernel
theorem dX3_lose_32 : decode cX3_lose 32 = .ok (.ireturn, 1) := by decide +kernel
theorem dX3_noCell_0 : decode cX3_noCell 0 = .ok (.aload_n 0, 1) := by decide +kernel
theorem dX3_noCell_1 : decode cX3_noCell 1 = .ok (.getfield 52, 3) := by decide +kernel
theorem dX3_noCell_4 : decode cX3_noCell 4 = .ok (.iload_n 1, 1) := by decide +kernel
theorem dX3_noCell_5 : decode cX3_noCell 5 = .ok (.iaload, 1) := by decide +kernel
theorem dX3_noCell_6 : decode cX3_noCell 6 = .ok (.ifCond .ge 7, 3) := by decide +kernel
theorem dX3_noCell_9 : decode cX3_noCell 9 = .ok (.iconst 1, 1) := by decide +kernel
theorem dX3_noCell_10 : decode cX3_noCell 10 = .ok (.goto 26, 3) := by decide +kernel
theorem dX3_noCell_13 : decode cX3_noCell 13 = .ok (.iload_n 2, 1) := by decide +kernel
theorem dX3_noCell_14 : decode cX3_noCell 14 = .ok (.i2l, 1) := by decide +kernel
theorem dX3_noCell_15 : decode cX3_noCell 15 = .ok (.lconst 0, 1) := by decide +kernel
theorem dX3_noCell_16 : decode cX3_noCell 16 = .ok (.aload_n 0, 1) := by decide +kernel
theorem dX3_noCell_17 : decode cX3_noCell 17 = .ok (.getfield 52, 3) := by decide +kernel
theorem dX3_noCell_20 : decode cX3_noCell 20 = .ok (.iload_n 1, 1) := by decide +kernel
theorem dX3_noCell_21 : decode cX3_noCell 21 = .ok (.iaload, 1) := by decide +kernel
theorem dX3_noCell_22 : decode cX3_noCell 22 = .ok (.i2l, 1) := by decide +kernel
theorem dX3_noCell_23 : decode cX3_noCell 23 = .ok (.lconst 1, 1) := by decide +kernel
theorem dX3_noCell_24 : decode cX3_noCell 24 = .ok (.lsub, 1) := by decide +kernel
theorem dX3_noCell_25 : decode cX3_noCell 25 = .ok (.invokestatic 77, 3) := by decide +kernel
theorem dX3_noCell_28 : decode cX3_noCell 28 = .ok (.ifCond .eq 7, 3) := by decide +kernel
theorem dX3_noCell_31 : decode cX3_noCell 31 = .ok (.iconst 0, 1) := by decide +kernel
theorem dX3_noCell_32 : decode cX3_noCell 32 = .ok (.goto 4, 3) := by decide +kernel
theorem dX3_noCell_35 : decode cX3_noCell 35 = .ok (.iconst 3, 1) := by decide +kernel
theorem dX3_noCell_36 : decode cX3_noCell 36 = .ok (.ireturn, 1) := by decide +kernel
theorem dX3_put_0 : decode cX3_put 0 = .ok (.iload_n 1, 1) := by decide +kernel
theorem dX3_put_1 : decode cX3_put 1 = .ok (.invokestatic 114, 3) := by decide +kernel
theorem dX3_put_4 : decode cX3_put 4 = .ok (.ifCond .eq 9, 3) := by decide +kernel
theorem dX3_put_7 : decode cX3_put 7 = .ok (.aload_n 0, 1) := by decide +kernel
theorem dX3_put_8 : decode cX3_put 8 = .ok (.iconst (-1), 1) := by decide +kernel
theorem dX3_put_9 : decode cX3_put 9 = .ok (.invokevirtual 118, 3) := by decide +kernel
theorem dX3_put_12 : decode cX3_put 12 = .ok (.ireturn, 1) := by decide +kernel
theorem dX3_put_13 : decode cX3_put 13 = .ok (.aload_n 0, 1) := by decide +kernel
theorem dX3_put_14 : decode cX3_put 14 = .ok (.iload_n 1, 1) := by decide +kernel
theorem dX3_put_15 : decode cX3_put 15 = .ok (.iload_n 2, 1) := by decide +kernel
theorem dX3_put_16 : decode cX3_put 16 = .ok (.invokevirtual 227, 3) := by decide +kernel
theorem dX3_put_19 : decode cX3_put 19 = .ok (.ifCond .le 14, 3) := by decide +kernel
theorem dX3_put_22 : decode cX3_put 22 = .ok (.aload_n 0, 1) := by decide +kernel
theorem dX3_put_23 : decode cX3_put 23 = .ok (.aload_n 0, 1) := by decide +kernel
theorem dX3_put_24 : decode cX3_put 24 = .ok (.iload_n 1, 1) := by decide +kernel
theorem dX3_put_25 : decode cX3_put 25 = .ok (.iload_n 2, 1) := by decide +kernel
theorem dX3_put_26 : decode cX3_put 26 = .ok (.invokevirtual 227, 3) := by decide +kernel
theorem dX3_put_29 : decode cX3_put 29 = .ok (.invokevirtual 106, 3) := by decide +kernel
theorem dX3_put_32 : decode cX3_put 32 = .ok (.ireturn, 1) := by decide +kernel
theorem dX3_put_33 : decode cX3_put 33 = .ok (.aload_n 0, 1) := by decide +kernel
theorem dX3_put_34 : decode cX3_put 34 = .ok (.getfield 58, 3) := by decide +kernel
theorem dX3_put_37 : decode cX3_put 37 = .ok (.bipush 60, 2) := by decide +kernel
theorem dX3_put_39 : decode cX3_put 39 = .ok (.iload_n 1, 1) := by decide +kernel
theorem dX3_put_40 : decode cX3_put 40 = .ok (.imul, 1) := by decide +kernel
theorem dX3_put_41 : decode cX3_put 41 = .ok (.iload_n 2, 1) := by decide +kernel
theorem dX3_put_42 : decode cX3_put 42 = .ok (.iadd, 1) := by decide +kernel
theorem dX3_put_43 : decode cX3_put 43 = .ok (.aload_n 0, 1) := by decide +kernel
theorem dX3_put_44 : decode cX3_put 44 = .ok (.getfield 55, 3) := by decide +kernel
theorem dX3_put_47 : decode cX3_put 47 = .ok (.iload_n 1, 1) := by decide +kernel
theorem dX3_put_48 : decode cX3_put 48 = .ok (.iaload, 1) := by decide +kernel
theorem dX3_put_49 : decode cX3_put 49 = .ok (.ifCond .ne 8, 3) := by decide +kernel
theorem dX3_put_52 : decode cX3_put 52 = .ok (.iload_n 3, 1) := by decide +kernel
theorem dX3_put_53 : decode cX3_put 53 = .ok (.i2b, 1) := by decide +kernel
theorem dX3_put_54 : decode cX3_put 54 = .ok (.goto 19, 3) := by decide +kernel
theorem dX3_put_57 : decode cX3_put 57 = .ok (.aload_n 0, 1) := by decide +kernel
theorem dX3_put_58 : decode cX3_put 58 = .ok (.getfield 55, 3) := by decide +kernel
theorem dX3_put_61 : decode cX3_put 61 = .ok (.iload_n 1, 1) := by decide +kernel
theorem dX3_put_62 : decode cX3_put 62 = .ok (.iaload, 1) := by decide +kernel
theorem dX3_put_63 : decode cX3_put 63 = .ok (.iconst 1, 1) := by decide +kernel
theorem dX3_put_64 : decode cX3_put 64 = .ok (.if_icmp .ne 8, 3) := by decide +kernel
theorem dX3_put_67 : decode cX3_put 67 = .ok (.iload_n 3, 1) := by decide +kernel
theorem dX3_put_68 : decode cX3_put 68 = .ok (.i2s, 1) := by decide +kernel
theorem dX3_put_69 : decode cX3_put 69 = .ok (.goto 4, 3) := by decide +kernel
theorem dX3_put_72 : decode cX3_put 72 = .ok (.iload_n 3, 1) := by decide +kernel
theorem dX3_put_73 : decode cX3_put 73 = .ok (.iastore, 1) := by decide +kernel
theorem dX3_put_74 : decode cX3_put 74 = .ok (.aload_n 0, 1) := by decide +kernel
theorem dX3_put_75 : decode cX3_put 75 = .ok (.iconst 1, 1) := by decide +kernel
theorem dX3_put_76 : decode cX3_put 76 = .ok (.invokevirtual 118, 3) := by decide +kernel
theorem dX3_put_79 : decode cX3_put 79 = .ok (.ireturn, 1) := by decide +kernel
theorem dX3_cell_0 : decode cX3_cell 0 = .ok (.aload_n 0, 1) := by decide +kernel
theorem dX3_cell_1 : decode cX3_cell 1 = .ok (.iconst 0, 1) := by decide +kernel
theorem dX3_cell_2 : decode cX3_cell 2 = .ok (.putfield 66, 3) := by decide +kernel
theorem dX3_cell_5 : decode cX3_cell 5 = .ok (.iload_n 1, 1) := by decide +kernel
theorem dX3_cell_6 : decode cX3_cell 6 = .ok (.invokestatic 114, 3) := by decide +kernel
theorem dX3_cell_9 : decode cX3_cell 9 = .ok (.ifCond .ne 15, 3) := by decide +kernel
theorem dX3_cell_12 : decode cX3_cell 12 = .ok (.iload_n 3, 1) := by decide +kernel
theorem dX3_cell_13 : decode cX3_cell 13 = .ok (.i2l, 1) := by decide +kernel
theorem dX3_cell_14 : decode cX3_cell 14 = .ok (.lconst 0, 1) := by decide +kernel
theorem dX3_cell_15 : decode cX3_cell 15 = .ok (.ldc2_w 121, 3) := by decide +kernel
theorem dX3_cell_18 : decode cX3_cell 18 = .ok (.invokestatic 77, 3) := by decide +kernel
theorem dX3_cell_21 : decode cX3_cell 21 = .ok (.ifCond .ne 7, 3) := by decide +kernel
theorem dX3_cell_24 : decode cX3_cell 24 = .ok (.invokestatic 70, 3) := by decide +kernel
theorem dX3_cell_27 : decode cX3_cell 27 = .ok (.lreturn, 1) := by decide +kernel
theorem dX3_cell_28 : decode cX3_cell 28 = .ok (.aload_n 0, 1) := by decide +kernel
theorem dX3_cell_29 : decode cX3_cell 29 = .ok (.getfield 52, 3) := by decide +kernel
theorem dX3_cell_32 : decode cX3_cell 32 = .ok (.iload_n 1, 1) := by decide +kernel
theorem dX3_cell_33 : decode cX3_cell 33 = .ok (.iaload, 1) := by decide +kernel
theorem dX3_cell_34 : decode cX3_cell 34 = .ok (.ifCond .lt 19, 3) := by decide +kernel
theorem dX3_cell_37 : decode cX3_cell 37 = .ok (.aload_n 0, 1) := by decide +kernel
theorem dX3_cell_38 : decode cX3_cell 38 = .ok (.getfield 55, 3) := by decide +kernel
theorem dX3_cell_41 : decode cX3_cell 41 = .ok (.iload_n 1, 1) := by decide +kernel
theorem dX3_cell_42 : decode cX3_cell 42 = .ok (.iaload, 1) := by decide +kernel
theorem dX3_cell_43 : decode cX3_cell 43 = .ok (.iload_n 3, 1) := by decide +kernel
theorem dX3_cell_44 : decode cX3_cell 44 = .ok (.if_icmp .eq 9, 3) := by decide +kernel
theorem dX3_cell_47 : decode cX3_cell 47 = .ok (.aload_n 0, 1) := by decide +kernel
theorem dX3_cell_48 : decode cX3_cell 48 = .ok (.iconst 2, 1) := by decide +kernel
theorem dX3_cell_49 : decode cX3_cell 49 = .ok (.invokevirtual 230, 3) := by decide +kernel
theorem dX3_cell_52 : decode cX3_cell 52 = .ok (.lreturn, 1) := by decide +kernel
theorem dX3_cell_53 : decode cX3_cell 53 = .ok (.aload_n 0, 1) := by decide +kernel
theorem dX3_cell_54 : decode cX3_cell 54 = .ok (.iload_n 1, 1) := by decide +kernel
theorem dX3_cell_55 : decode cX3_cell 55 = .ok (.iload_n 2, 1) := by decide +kernel
theorem dX3_cell_56 : decode cX3_cell 56 = .ok (.invokevirtual 227, 3) := by decide +kernel
theorem dX3_cell_59 : decode cX3_cell 59 = .ok (.ifCond .le 16, 3) := by decide +kernel
theorem dX3_cell_62 : decode cX3_cell 62 = .ok (.aload_n 0, 1) := by decide +kernel
theorem dX3_cell_63 : decode cX3_cell 63 = .ok (.aload_n 0, 1) := by decide +kernel
theorem dX3_cell_64 : decode cX3_cell 64 = .ok (.iload_n 1, 1) := by decide +kernel
theorem dX3_cell_65 : decode cX3_cell 65 = .ok (.iload_n 2, 1) := by decide +kernel
theorem dX3_cell_66 : decode cX3_cell 66 = .ok (.invokevirtual 227, 3) := by decide +kernel
theorem dX3_cell_69 : decode cX3_cell 69 = .ok (.invokevirtual 230, 3) := by decide +kernel
theorem dX3_cell_72 : decode cX3_cell 72 = .ok (.goto 15, 3) := by decide +kernel
theorem dX3_cell_75 : decode cX3_cell 75 = .ok (.aload_n 0, 1) := by decide +kernel
theorem dX3_cell_76 : decode cX3_cell 76 = .ok (.getfield 58, 3) := by decide +kernel
theorem dX3_cell_79 : decode cX3_cell 79 = .ok (.bipush 60, 2) := by decide +kernel
theorem dX3_cell_81 : decode cX3_cell 81 = .ok (.iload_n 1, 1) := by decide +kernel
theorem dX3_cell_82 : decode cX3_cell 82 = .ok (.imul, 1) := by decide +kernel
theorem dX3_cell_83 : decode cX3_cell 83 = .ok (.iload_n 2, 1) := by decide +kernel
theorem dX3_cell_84 : decode cX3_cell 84 = .ok (.iadd, 1) := by decide +kernel
theorem dX3_cell_85 : decode cX3_cell 85 = .ok (.iaload, 1) := by decide +kernel
theorem dX3_cell_86 : decode cX3_cell 86 = .ok (.i2l, 1) := by decide +kernel
theorem dX3_cell_87 : decode cX3_cell 87 = .ok (.lreturn, 1) := by decide +kernel
theorem dX3_isBeyond_0 : decode cX3_isBeyond 0 = .ok (.iload_n 0, 1) := by decide +kernel
theorem dX3_isBeyond_1 : decode cX3_isBeyond 1 = .ok (.ifCond .lt 19, 3) := by decide +kernel
theorem dX3_isBeyond_4 : decode cX3_isBeyond 4 = .ok (.lload_n 1, 1) := by decide +kernel
theorem dX3_isBeyond_5 : decode cX3_isBeyond 5 = .ok (.lconst 0, 1) := by decide +kernel
theorem dX3_isBeyond_6 : decode cX3_isBeyond 6 = .ok (.lcmp, 1) := by decide +kernel
theorem dX3_isBeyond_7 : decode cX3_isBeyond 7 = .ok (.ifCond .lt 13, 3) := by decide +kernel
theorem dX3_isBeyond_10 : decode cX3_isBeyond 10 = .ok (.iload_n 0, 1) := by decide +kernel
theorem dX3_isBeyond_11 : decode cX3_isBeyond 11 = .ok (.i2l, 1) := by decide +kernel
theorem dX3_isBeyond_12 : decode cX3_isBeyond 12 = .ok (.lload_n 1, 1) := by decide +kernel
theorem dX3_isBeyond_13 : decode cX3_isBeyond 13 = .ok (.ladd, 1) := by decide +kernel
theorem dX3_isBeyond_14 : decode cX3_isBeyond 14 = .ok (.iload_n 3, 1) := by decide +kernel
theorem dX3_isBeyond_15 : decode cX3_isBeyond 15 = .ok (.i2l, 1) := by decide +kernel
theorem dX3_isBeyond_16 : decode cX3_isBeyond 16 = .ok (.lcmp, 1) := by decide +kernel
theorem dX3_isBeyond_17 : decode cX3_isBeyond 17 = .ok (.ifCond .le 7, 3) := by decide +kernel
theorem dX3_isBeyond_20 : decode cX3_isBeyond 20 = .ok (.iconst 1, 1) := by decide +kernel
theorem dX3_isBeyond_21 : decode cX3_isBeyond 21 = .ok (.goto 4, 3) := by decide +kernel
theorem dX3_isBeyond_24 : decode cX3_isBeyond 24 = .ok (.iconst 0, 1) := by decide +kernel
theorem dX3_isBeyond_25 : decode cX3_isBeyond 25 = .ok (.ireturn, 1) := by decide +kernel
theorem dX3_copy_0 : decode cX3_copy 0 = .ok (.iload_n 1, 1) := by decide +kernel
theorem dX3_copy_1 : decode cX3_copy 1 = .ok (.invokestatic 114, 3) := by decide +kernel
theorem dX3_copy_4 : decode cX3_copy 4 = .ok (.ifCond .ne 10, 3) := by decide +kernel
theorem dX3_copy_7 : decode cX3_copy 7 = .ok (.iload_n 3, 1) := by decide +kernel
theorem dX3_copy_8 : decode cX3_copy 8 = .ok (.invokestatic 114, 3) := by decide +kernel
theorem dX3_copy_11 : decode cX3_copy 11 = .ok (.ifCond .eq 9, 3) := by decide +kernel
theorem dX3_copy_14 : decode cX3_copy 14 = .ok (.aload_n 0, 1) := by decide +kernel
theorem dX3_copy_15 : decode cX3_copy 15 = .ok (.iconst (-1), 1) := by decide +kernel
theorem dX3_copy_16 : decode cX3_copy 16 = .ok (.invokevirtual 118, 3) := by decide +kernel
theorem dX3_copy_19 : decode cX3_copy 19 = .ok (.ireturn, 1) := by decide +kernel
theorem dX3_copy_20 : decode cX3_copy 20 = .ok (.aload_n 0, 1) := by decide +kernel
theorem dX3_copy_21 : decode cX3_copy 21 = .ok (.getfield 52, 3) := by decide +kernel
theorem dX3_copy_24 : decode cX3_copy 24 = .ok (.iload_n 1, 1) := by decide +kernel
theorem dX3_copy_25 : decode cX3_copy 25 = .ok (.iaload, 1) := by decide +kernel
theorem dX3_copy_26 : decode cX3_copy 26 = .ok (.ifCond .lt 12, 3) := by decide +kernel
theorem dX3_copy_29 : decode cX3_copy 29 = .ok (.aload_n 0, 1) := by decide +kernel
theorem dX3_copy_30 : decode cX3_copy 30 = .ok (.getfield 52, 3) := by decide +kernel
theorem dX3_copy_33 : decode cX3_copy 33 = .ok (.iload_n 3, 1) := by decide +kernel
theorem dX3_copy_34 : decode cX3_copy 34 = .ok (.iaload, 1) := by decide +kernel
theorem dX3_copy_35 : decode cX3_copy 35 = .ok (.ifCond .ge 9, 3) := by decide +kernel
theorem dX3_copy_38 : decode cX3_copy 38 = .ok (.aload_n 0, 1) := by decide +kernel
theorem dX3_copy_39 : decode cX3_copy 39 = .ok (.iconst 1, 1) := by decide +kernel
theorem dX3_copy_40 : decode cX3_copy 40 = .ok (.invokevirtual 106, 3) := by decide +kernel
theorem dX3_copy_43 : decode cX3_copy 43 = .ok (.ireturn, 1) := by decide +kernel
theorem dX3_copy_44 : decode cX3_copy 44 = .ok (.aload_n 0, 1) := by decide +kernel
theorem dX3_copy_45 : decode cX3_copy 45 = .ok (.getfield 55, 3) := by decide +kernel
theorem dX3_copy_48 : decode cX3_copy 48 = .ok (.iload_n 1, 1) := by decide +kernel
theorem dX3_copy_49 : decode cX3_copy 49 = .ok (.iaload, 1) := by decide +kernel
theorem dX3_copy_50 : decode cX3_copy 50 = .ok (.aload_n 0, 1) := by decide +kernel
theorem dX3_copy_51 : decode cX3_copy 51 = .ok (.getfield 55, 3) := by decide +kernel
theorem dX3_copy_54 : decode cX3_copy 54 = .ok (.iload_n 3, 1) := by decide +kernel
theorem dX3_copy_55 : decode cX3_copy 55 = .ok (.iaload, 1) := by decide +kernel
theorem dX3_copy_56 : decode cX3_copy 56 = .ok (.if_icmp .eq 9, 3) := by decide +kernel
theorem dX3_copy_59 : decode cX3_copy 59 = .ok (.aload_n 0, 1) := by decide +kernel
theorem dX3_copy_60 : decode cX3_copy 60 = .ok (.iconst 2, 1) := by decide +kernel
theorem dX3_copy_61 : decode cX3_copy 61 = .ok (.invokevirtual 106, 3) := by decide +kernel
theorem dX3_copy_64 : decode cX3_copy 64 = .ok (.ireturn, 1) := by decide +kernel
theorem dX3_copy_65 : decode cX3_copy 65 = .ok (.iload_n 2, 1) := by decide +kernel
theorem dX3_copy_66 : decode cX3_copy 66 = .ok (.iload 5, 2) := by decide +kernel
theorem dX3_copy_68 : decode cX3_copy 68 = .ok (.i2l, 1) := by decide +kernel
theorem dX3_copy_69 : decode cX3_copy 69 = .ok (.aload_n 0, 1) := by decide +kernel
theorem dX3_copy_70 : decode cX3_copy 70 = .ok (.getfield 52, 3) := by decide +kernel
theorem dX3_copy_73 : decode cX3_copy 73 = .ok (.iload_n 1, 1) := by decide +kernel
theorem dX3_copy_74 : decode cX3_copy 74 = .ok (.iaload, 1) := by decide +kernel
theorem dX3_copy_75 : decode cX3_copy 75 = .ok (.invokestatic 110, 3) := by decide +kernel
theorem dX3_copy_78 : decode cX3_copy 78 = .ok (.ifCond .ne 20, 3) := by decide +kernel
theorem dX3_copy_81 : decode cX3_copy 81 = .ok (.iload 4, 2) := by decide +kernel
theorem dX3_copy_83 : decode cX3_copy 83 = .ok (.iload 5, 2) := by decide +kernel
theorem dX3_copy_85 : decode cX3_copy 85 = .ok (.i2l, 1) := by decide +kernel
theorem dX3_copy_86 : decode cX3_copy 86 = .ok (.aload_n 0, 1) := by decide +kernel
theorem dX3_copy_87 : decode cX3_copy 87 = .ok (.getfield 52, 3) := by decide +kernel
theorem dX3_copy_90 : decode cX3_copy 90 = .ok (.iload_n 3, 1) := by decide +kernel
theorem dX3_copy_91 : decode cX3_copy 91 = .ok (.iaload, 1) := by decide +kernel
theorem dX3_copy_92 : decode cX3_copy 92 = .ok (.invokestatic 110, 3) := by decide +kernel
theorem dX3_copy_95 : decode cX3_copy 95 = .ok (.ifCond .eq 9, 3) := by decide +kernel
theorem dX3_copy_98 : decode cX3_copy 98 = .ok (.aload_n 0, 1) := by decide +kernel
theorem dX3_copy_99 : decode cX3_copy 99 = .ok (.iconst 3, 1) := by decide +kernel
theorem dX3_copy_100 : decode cX3_copy 100 = .ok (.invokevirtual 106, 3) := by decide +kernel
theorem dX3_copy_103 : decode cX3_copy 103 = .ok (.ireturn, 1) := by decide +kernel
theorem dX3_copy_104 : decode cX3_copy 104 = .ok (.iconst 0, 1) := by decide +kernel
theorem dX3_copy_105 : decode cX3_copy 105 = .ok (.istore 6, 2) := by decide +kernel
theorem dX3_copy_107 : decode cX3_copy 107 = .ok (.iload 6, 2) := by decide +kernel
theorem dX3_copy_109 : decode cX3_copy 109 = .ok (.iload 5, 2) := by decide +kernel
theorem dX3_copy_111 : decode cX3_copy 111 = .ok (.if_icmp .ge 30, 3) := by decide +kernel
theorem dX3_copy_114 : decode cX3_copy 114 = .ok (.aload_n 0, 1) := by decide +kernel
theorem dX3_copy_115 : decode cX3_copy 115 = .ok (.getfield 61, 3) := by decide +kernel
theorem dX3_copy_118 : decode cX3_copy 118 = .ok (.iload 6, 2) := by decide +kernel
theorem dX3_copy_120 : decode cX3_copy 120 = .ok (.aload_n 0, 1) := by decide +kernel
theorem dX3_copy_121 : decode cX3_copy 121 = .ok (.getfield 58, 3) := by decide +kernel
theorem dX3_copy_124 : decode cX3_copy 124 = .ok (.bipush 60, 2) := by decide +kernel
theorem dX3_copy_126 : decode cX3_copy 126 = .ok (.iload_n 1, 1) := by decide +kernel
theorem dX3_copy_127 : decode cX3_copy 127 = .ok (.imul, 1) := by decide +kernel
theorem dX3_copy_128 : decode cX3_copy 128 = .ok (.iload_n 2, 1) := by decide +kernel
theorem dX3_copy_129 : decode cX3_copy 129 = .ok (.iadd, 1) := by decide +kernel
theorem dX3_copy_130 : decode cX3_copy 130 = .ok (.iload 6, 2) := by decide +kernel
theorem dX3_copy_132 : decode cX3_copy 132 = .ok (.iadd, 1) := by decide +kernel
theorem dX3_copy_133 : decode cX3_copy 133 = .ok (.iaload, 1) := by decide +kernel
theorem dX3_copy_134 : decode cX3_copy 134 = .ok (.iastore, 1) := by decide +kernel
theorem dX3_copy_135 : decode cX3_copy 135 = .ok (.iinc 6 1, 3) := by decide +kernel
theorem dX3_copy_138 : decode cX3_copy 138 = .ok (.goto (-31), 3) := by decide +kernel
theorem dX3_copy_141 : decode cX3_copy 141 = .ok (.iconst 0, 1) := by decide +kernel
theorem dX3_copy_142 : decode cX3_copy 142 = .ok (.istore 6, 2) := by decide +kernel
theorem dX3_copy_144 : decode cX3_copy 144 = .ok (.iload 6, 2) := by decide +kernel
theorem dX3_copy_146 : decode cX3_copy 146 = .ok (.iload 5, 2) := by decide +kernel
theorem dX3_copy_148 : decode cX3_copy 148 = .ok (.if_icmp .ge 31, 3) := by decide +kernel
theorem dX3_copy_151 : decode cX3_copy 151 = .ok (.aload_n 0, 1) := by decide +kernel
theorem dX3_copy_152 : decode cX3_copy 152 = .ok (.getfield 58, 3) := by decide +kernel
theorem dX3_copy_155 : decode cX3_copy 155 = .ok (.bipush 60, 2) := by decide +kernel
theorem dX3_copy_157 : decode cX3_copy 157 = .ok (.iload_n 3, 1) := by decide +kernel
theorem dX3_copy_158 : decode cX3_copy 158 = .ok (.imul, 1) := by decide +kernel
theorem dX3_copy_159 : decode cX3_copy 159 = .ok (.iload 4, 2) := by decide +kernel
theorem dX3_copy_161 : decode cX3_copy 161 = .ok (.iadd, 1) := by decide +kernel
theorem dX3_copy_162 : decode cX3_copy 162 = .ok (.iload 6, 2) := by decide +kernel
theorem dX3_copy_164 : decode cX3_copy 164 = .ok (.iadd, 1) := by decide +kernel
theorem dX3_copy_165 : decode cX3_copy 165 = .ok (.aload_n 0, 1) := by decide +kernel
theorem dX3_copy_166 : decode cX3_copy 166 = .ok (.getfield 61, 3) := by decide +kernel
theorem dX3_copy_169 : decode cX3_copy 169 = .ok (.iload 6, 2) := by decide +kernel
theorem dX3_copy_171 : decode cX3_copy 171 = .ok (.iaload, 1) := by decide +kernel
theorem dX3_copy_172 : decode cX3_copy 172 = .ok (.iastore, 1) := by decide +kernel
theorem dX3_copy_173 : decode cX3_copy 173 = .ok (.iinc 6 1, 3) := by decide +kernel
theorem dX3_copy_176 : decode cX3_copy 176 = .ok (.goto (-32), 3) := by decide +kernel
theorem dX3_copy_179 : decode cX3_copy 179 = .ok (.aload_n 0, 1) := by decide +kernel
theorem dX3_copy_180 : decode cX3_copy 180 = .ok (.iload 5, 2) := by decide +kernel
theorem dX3_copy_182 : decode cX3_copy 182 = .ok (.invokevirtual 118, 3) := by decide +kernel
theorem dX3_copy_185 : decode cX3_copy 185 = .ok (.ireturn, 1) := by decide +kernel
theorem dX3_traced_0 : decode cX3_traced 0 = .ok (.aload_n 0, 1) := by decide +kernel
theorem dX3_traced_1 : decode cX3_traced 1 = .ok (.bipush 31, 2) := by decide +kernel
theorem dX3_traced_3 : decode cX3_traced 3 = .ok (.aload_n 0, 1) := by decide +kernel
theorem dX3_traced_4 : decode cX3_traced 4 = .ok (.getfield 234, 3) := by decide +kernel
theorem dX3_traced_7 : decode cX3_traced 7 = .ok (.imul, 1) := by decide +kernel
theorem dX3_traced_8 : decode cX3_traced 8 = .ok (.iload_n 1, 1) := by decide +kernel
theorem dX3_traced_9 : decode cX3_traced 9 = .ok (.iadd, 1) := by decide +kernel
theorem dX3_traced_10 : decode cX3_traced 10 = .ok (.putfield 234, 3) := by decide +kernel
theorem dX3_traced_13 : decode cX3_traced 13 = .ok (.return_, 1) := by decide +kernel
theorem dX3_tell_0 : decode cX3_tell 0 = .ok (.aload_n 0, 1) := by decide +kernel
theorem dX3_tell_1 : decode cX3_tell 1 = .ok (.iload_n 1, 1) := by decide +kernel
theorem dX3_tell_2 : decode cX3_tell 2 = .ok (.invokevirtual 149, 3) := by decide +kernel
theorem dX3_tell_5 : decode cX3_tell 5 = .ok (.ifCond .eq 5, 3) := by decide +kernel
theorem dX3_tell_8 : decode cX3_tell 8 = .ok (.iconst (-1), 1) := by decide +kernel
theorem dX3_tell_9 : decode cX3_tell 9 = .ok (.ireturn, 1) := by decide +kernel
theorem dX3_tell_10 : decode cX3_tell 10 = .ok (.aload_n 0, 1) := by decide +kernel
theorem dX3_tell_11 : decode cX3_tell 11 = .ok (.getfield 7, 3) := by decide +kernel
theorem dX3_tell_14 : decode cX3_tell 14 = .ok (.iload_n 1, 1) := by decide +kernel
theorem dX3_tell_15 : decode cX3_tell 15 = .ok (.iaload, 1) := by decide +kernel
theorem dX3_tell_16 : decode cX3_tell 16 = .ok (.istore_n 2, 1) := by decide +kernel
theorem dX3_tell_17 : decode cX3_tell 17 = .ok (.iload_n 2, 1) := by decide +kernel
theorem dX3_tell_18 : decode cX3_tell 18 = .ok (.iconst 2, 1) := by decide +kernel
theorem dX3_tell_19 : decode cX3_tell 19 = .ok (.if_icmp .ne 8, 3) := by decide +kernel
theorem dX3_tell_22 : decode cX3_tell 22 = .ok (.aload_n 0, 1) := by decide +kernel
theorem dX3_tell_23 : decode cX3_tell 23 = .ok (.iconst 3, 1) := by decide +kernel
theorem dX3_tell_24 : decode cX3_tell 24 = .ok (.invokevirtual 237, 3) := by decide +kernel
theorem dX3_tell_27 : decode cX3_tell 27 = .ok (.iload_n 2, 1) := by decide +kernel
theorem dX3_tell_28 : decode cX3_tell 28 = .ok (.ifCond .le 8, 3) := by decide +kernel
theorem dX3_tell_31 : decode cX3_tell 31 = .ok (.aload_n 0, 1) := by decide +kernel
theorem dX3_tell_32 : decode cX3_tell 32 = .ok (.iconst 2, 1) := by decide +kernel
theorem dX3_tell_33 : decode cX3_tell 33 = .ok (.invokevirtual 237, 3) := by decide +kernel
theorem dX3_tell_36 : decode cX3_tell 36 = .ok (.aload_n 0, 1) := by decide +kernel
theorem dX3_tell_37 : decode cX3_tell 37 = .ok (.iconst 1, 1) := by decide +kernel
theorem dX3_tell_38 : decode cX3_tell 38 = .ok (.invokevirtual 237, 3) := by decide +kernel
theorem dX3_tell_41 : decode cX3_tell 41 = .ok (.iload_n 2, 1) := by decide +kernel
theorem dX3_tell_42 : decode cX3_tell 42 = .ok (.iconst 2, 1) := by decide +kernel
theorem dX3_tell_43 : decode cX3_tell 43 = .ok (.if_icmp .ne 8, 3) := by decide +kernel
theorem dX3_tell_46 : decode cX3_tell 46 = .ok (.aload_n 0, 1) := by decide +kernel
theorem dX3_tell_47 : decode cX3_tell 47 = .ok (.iconst 1, 1) := by decide +kernel
theorem dX3_tell_48 : decode cX3_tell 48 = .ok (.invokevirtual 237, 3) := by decide +kernel
theorem dX3_tell_51 : decode cX3_tell 51 = .ok (.aload_n 0, 1) := by decide +kernel
theorem dX3_tell_52 : decode cX3_tell 52 = .ok (.getfield 13, 3) := by decide +kernel
theorem dX3_tell_55 : decode cX3_tell 55 = .ok (.iload_n 1, 1) := by decide +kernel
theorem dX3_tell_56 : decode cX3_tell 56 = .ok (.iaload, 1) := by decide +kernel
theorem dX3_tell_57 : decode cX3_tell 57 = .ok (.istore_n 3, 1) := by decide +kernel
theorem dX3_tell_58 : decode cX3_tell 58 = .ok (.iload_n 2, 1) := by decide +kernel
theorem dX3_tell_59 : decode cX3_tell 59 = .ok (.ifCond .ne 7, 3) := by decide +kernel
theorem dX3_tell_62 : decode cX3_tell 62 = .ok (.iload_n 3, 1) := by decide +kernel
theorem dX3_tell_63 : decode cX3_tell 63 = .ok (.goto 21, 3) := by decide +kernel
theorem dX3_tell_66 : decode cX3_tell 66 = .ok (.iload_n 2, 1) := by decide +kernel
theorem dX3_tell_67 : decode cX3_tell 67 = .ok (.iconst 1, 1) := by decide +kernel
theorem dX3_tell_68 : decode cX3_tell 68 = .ok (.if_icmp .ne 10, 3) := by decide +kernel
theorem dX3_tell_71 : decode cX3_tell 71 = .ok (.iload_n 3, 1) := by decide +kernel
theorem dX3_tell_72 : decode cX3_tell 72 = .ok (.bipush 100, 2) := by decide +kernel
theorem dX3_tell_74 : decode cX3_tell 74 = .ok (.iadd, 1) := by decide +kernel
theorem dX3_tell_75 : decode cX3_tell 75 = .ok (.goto 9, 3) := by decide +kernel
theorem dX3_tell_78 : decode cX3_tell 78 = .ok (.iconst 2, 1) := by decide +kernel
theorem dX3_tell_79 : decode cX3_tell 79 = .ok (.iload_n 3, 1) := by decide +kernel
theorem dX3_tell_80 : decode cX3_tell 80 = .ok (.imul, 1) := by decide +kernel
theorem dX3_tell_81 : decode cX3_tell 81 = .ok (.bipush 100, 2) := by decide +kernel
theorem dX3_tell_83 : decode cX3_tell 83 = .ok (.iadd, 1) := by decide +kernel
theorem dX3_tell_84 : decode cX3_tell 84 = .ok (.ireturn, 1) := by decide +kernel
theorem dX3_knock_0 : decode cX3_knock 0 = .ok (.aload_n 0, 1) := by decide +kernel
theorem dX3_knock_1 : decode cX3_knock 1 = .ok (.iload_n 1, 1) := by decide +kernel
theorem dX3_knock_2 : decode cX3_knock 2 = .ok (.invokevirtual 149, 3) := by decide +kernel
theorem dX3_knock_5 : decode cX3_knock 5 = .ok (.ifCond .eq 5, 3) := by decide +kernel
theorem dX3_knock_8 : decode cX3_knock 8 = .ok (.iconst (-1), 1) := by decide +kernel
theorem dX3_knock_9 : decode cX3_knock 9 = .ok (.ireturn, 1) := by decide +kernel
theorem dX3_knock_10 : decode cX3_knock 10 = .ok (.aload_n 0, 1) := by decide +kernel
theorem dX3_knock_11 : decode cX3_knock 11 = .ok (.aload_n 0, 1) := by decide +kernel
theorem dX3_knock_12 : decode cX3_knock 12 = .ok (.getfield 7, 3) := by decide +kernel
theorem dX3_knock_15 : decode cX3_knock 15 = .ok (.iload_n 1, 1) := by decide +kernel
theorem dX3_knock_16 : decode cX3_knock 16 = .ok (.iaload, 1) := by decide +kernel
theorem dX3_knock_17 : decode cX3_knock 17 = .ok (.iconst 2, 1) := by decide +kernel
theorem dX3_knock_18 : decode cX3_knock 18 = .ok (.if_icmp .ne 7, 3) := by decide +kernel
theorem dX3_knock_21 : decode cX3_knock 21 = .ok (.iconst 5, 1) := by decide +kernel
theorem dX3_knock_22 : decode cX3_knock 22 = .ok (.goto 4, 3) := by decide +kernel
theorem dX3_knock_25 : decode cX3_knock 25 = .ok (.iconst 4, 1) := by decide +kernel
theorem dX3_knock_26 : decode cX3_knock 26 = .ok (.invokevirtual 237, 3) := by decide +kernel
theorem dX3_knock_29 : decode cX3_knock 29 = .ok (.aload_n 0, 1) := by decide +kernel
theorem dX3_knock_30 : decode cX3_knock 30 = .ok (.getfield 7, 3) := by decide +kernel
theorem dX3_knock_33 : decode cX3_knock 33 = .ok (.iload_n 1, 1) := by decide +kernel
theorem dX3_knock_34 : decode cX3_knock 34 = .ok (.iaload, 1) := by decide +kernel
theorem dX3_knock_35 : decode cX3_knock 35 = .ok (.iconst 2, 1) := by decide +kernel
theorem dX3_knock_36 : decode cX3_knock 36 = .ok (.if_icmp .ne 8, 3) := by decide +kernel
theorem dX3_knock_39 : decode cX3_knock 39 = .ok (.bipush 30, 2) := by decide +kernel
theorem dX3_knock_41 : decode cX3_knock 41 = .ok (.goto 4, 3) := by decide +kernel
theorem dX3_knock_44 : decode cX3_knock 44 = .ok (.iload_n 1, 1) := by decide +kernel
theorem dX3_knock_45 : decode cX3_knock 45 = .ok (.ireturn, 1) := by decide +kernel
theorem dX3_as_0 : decode cX3_as 0 = .ok (.aload_n 0, 1) := by decide +kernel
theorem dX3_as_1 : decode cX3_as 1 = .ok (.iload_n 1, 1) := by decide +kernel
theorem dX3_as_2 : decode cX3_as 2 = .ok (.invokevirtual 149, 3) := by decide +kernel
theorem dX3_as_5 : decode cX3_as 5 = .ok (.ifCond .eq 9, 3) := by decide +kernel
theorem dX3_as_8 : decode cX3_as 8 = .ok (.aload_n 0, 1) := by decide +kernel
theorem dX3_as_9 : decode cX3_as 9 = .ok (.iconst (-1), 1) := by decide +kernel
theorem dX3_as_10 : decode cX3_as 10 = .ok (.invokevirtual 118, 3) := by decide +kernel
theorem dX3_as_13 : decode cX3_as 13 = .ok (.ireturn, 1) := by decide +kernel
theorem dX3_as_14 : decode cX3_as 14 = .ok (.iload_n 2, 1) := by decide +kernel
theorem dX3_as_15 : decode cX3_as 15 = .ok (.i2l, 1) := by decide +kernel
theorem dX3_as_16 : decode cX3_as 16 = .ok (.lconst 0, 1) := by decide +kernel
theorem dX3_as_17 : decode cX3_as 17 = .ok (.ldc2_w 121, 3) := by decide +kernel
theorem dX3_as_20 : decode cX3_as 20 = .ok (.invokestatic 77, 3) := by decide +kernel
theorem dX3_as_23 : decode cX3_as 23 = .ok (.ifCond .ne 10, 3) := by decide +kernel
theorem dX3_as_26 : decode cX3_as 26 = .ok (.aload_n 0, 1) := by decide +kernel
theorem dX3_as_27 : decode cX3_as 27 = .ok (.bipush (-2), 2) := by decide +kernel
theorem dX3_as_29 : decode cX3_as 29 = .ok (.invokevirtual 118, 3) := by decide +kernel
theorem dX3_as_32 : decode cX3_as 32 = .ok (.ireturn, 1) := by decide +kernel
theorem dX3_as_33 : decode cX3_as 33 = .ok (.aload_n 0, 1) := by decide +kernel
theorem dX3_as_34 : decode cX3_as 34 = .ok (.getfield 7, 3) := by decide +kernel
theorem dX3_as_37 : decode cX3_as 37 = .ok (.iload_n 1, 1) := by decide +kernel
theorem dX3_as_38 : decode cX3_as 38 = .ok (.iaload, 1) := by decide +kernel
theorem dX3_as_39 : decode cX3_as 39 = .ok (.iload_n 2, 1) := by decide +kernel
theorem dX3_as_40 : decode cX3_as 40 = .ok (.if_icmp .lt 11, 3) := by decide +kernel
theorem dX3_as_43 : decode cX3_as 43 = .ok (.aload_n 0, 1) := by decide +kernel
theorem dX3_as_44 : decode cX3_as 44 = .ok (.iconst 1, 1) := by decide +kernel
theorem dX3_as_45 : decode cX3_as 45 = .ok (.invokevirtual 118, 3) := by decide +kernel
theorem dX3_as_48 : decode cX3_as 48 = .ok (.goto 8, 3) := by decide +kernel
theorem dX3_as_51 : decode cX3_as 51 = .ok (.aload_n 0, 1) := by decide +kernel
theorem dX3_as_52 : decode cX3_as 52 = .ok (.iconst 2, 1) := by decide +kernel
theorem dX3_as_53 : decode cX3_as 53 = .ok (.invokevirtual 106, 3) := by decide +kernel
theorem dX3_as_56 : decode cX3_as 56 = .ok (.ireturn, 1) := by decide +kernel
theorem dX3_trace_0 : decode cX3_trace 0 = .ok (.aload_n 0, 1) := by decide +kernel
theorem dX3_trace_1 : decode cX3_trace 1 = .ok (.getfield 234, 3) := by decide +kernel
theorem dX3_trace_4 : decode cX3_trace 4 = .ok (.ireturn, 1) := by decide +kernel
theorem dX3_fault_0 : decode cX3_fault 0 = .ok (.aload_n 0, 1) := by decide +kernel
theorem dX3_fault_1 : decode cX3_fault 1 = .ok (.getfield 66, 3) := by decide +kernel
theorem dX3_fault_4 : decode cX3_fault 4 = .ok (.ireturn, 1) := by decide +kernel
theorem dX3_many_0 : decode cX3_many 0 = .ok (.iload_n 1, 1) := by decide +kernel
theorem dX3_many_1 : decode cX3_many 1 = .ok (.tableswitch 60 0 4 #[35, 40, 45, 50, 55], 35) := by decide +kernel
theorem dX3_many_36 : decode cX3_many 36 = .ok (.aload_n 0, 1) := by decide +kernel
theorem dX3_many_37 : decode cX3_many 37 = .ok (.getfield 74, 3) := by decide +kernel
theorem dX3_many_40 : decode cX3_many 40 = .ok (.ireturn, 1) := by decide +kernel
theorem dX3_many_41 : decode cX3_many 41 = .ok (.aload_n 0, 1) := by decide +kernel
theorem dX3_many_42 : decode cX3_many 42 = .ok (.getfield 130, 3) := by decide +kernel
theorem dX3_many_45 : decode cX3_many 45 = .ok (.ireturn, 1) := by decide +kernel
theorem dX3_many_46 : decode cX3_many 46 = .ok (.aload_n 0, 1) := by decide +kernel
theorem dX3_many_47 : decode cX3_many 47 = .ok (.getfield 133, 3) := by decide +kernel
theorem dX3_many_50 : decode cX3_many 50 = .ok (.ireturn, 1) := by decide +kernel
theorem dX3_many_51 : decode cX3_many 51 = .ok (.aload_n 0, 1) := by decide +kernel
theorem dX3_many_52 : decode cX3_many 52 = .ok (.invokevirtual 163, 3) := by decide +kernel
theorem dX3_many_55 : decode cX3_many 55 = .ok (.ireturn, 1) := by decide +kernel
theorem dX3_many_56 : decode cX3_many 56 = .ok (.aload_n 0, 1) := by decide +kernel
theorem dX3_many_57 : decode cX3_many 57 = .ok (.getfield 136, 3) := by decide +kernel
theorem dX3_many_60 : decode cX3_many 60 = .ok (.ireturn, 1) := by decide +kernel
theorem dX3_many_61 : decode cX3_many 61 = .ok (.bipush (-2), 2) := by decide +kernel
theorem dX3_many_63 : decode cX3_many 63 = .ok (.ireturn, 1) := by decide +kernel
