theorem dX0_init_0 : decode cX0_init 0 = .ok (.aload_n 0, 1) := by decide +kernel
theorem dX0_init_1 : decode cX0_init 1 = .ok (.invokespecial 3, 3) := by decide +kernel
theorem dX0_init_4 : decode cX0_init 4 = .ok (.aload_n 0, 1) := by decide +kernel
theorem dX0_init_5 : decode cX0_init 5 = .ok (.bipush 50, 2) := by decide +kernel
theorem dX0_init_7 : decode cX0_init 7 = .ok (.newarray .int, 2) := by decide +kernel
theorem dX0_init_9 : decode cX0_init 9 = .ok (.putfield 11, 3) := by decide +kernel
theorem dX0_init_12 : decode cX0_init 12 = .ok (.aload_n 0, 1) := by decide +kernel
theorem dX0_init_13 : decode cX0_init 13 = .ok (.iconst 0, 1) := by decide +kernel
theorem dX0_init_14 : decode cX0_init 14 = .ok (.putfield 15, 3) := by decide +kernel
theorem dX0_init_17 : decode cX0_init 17 = .ok (.aload_n 0, 1) := by decide +kernel
theorem dX0_init_18 : decode cX0_init 18 = .ok (.bipush 24, 2) := by decide +kernel
theorem dX0_init_20 : decode cX0_init 20 = .ok (.newarray .int, 2) := by decide +kernel
theorem dX0_init_22 : decode cX0_init 22 = .ok (.putfield 19, 3) := by decide +kernel
theorem dX0_init_25 : decode cX0_init 25 = .ok (.aload_n 0, 1) := by decide +kernel
theorem dX0_init_26 : decode cX0_init 26 = .ok (.iconst 0, 1) := by decide +kernel
theorem dX0_init_27 : decode cX0_init 27 = .ok (.putfield 22, 3) := by decide +kernel
theorem dX0_init_30 : decode cX0_init 30 = .ok (.aload_n 0, 1) := by decide +kernel
theorem dX0_init_31 : decode cX0_init 31 = .ok (.iconst 0, 1) := by decide +kernel
theorem dX0_init_32 : decode cX0_init 32 = .ok (.putfield 25, 3) := by decide +kernel
theorem dX0_init_35 : decode cX0_init 35 = .ok (.aload_n 0, 1) := by decide +kernel
theorem dX0_init_36 : decode cX0_init 36 = .ok (.iconst 0, 1) := by decide +kernel
theorem dX0_init_37 : decode cX0_init 37 = .ok (.putfield 28, 3) := by decide +kernel
theorem dX0_init_40 : decode cX0_init 40 = .ok (.return_, 1) := by decide +kernel
theorem dX0_isKind_0 : decode cX0_isKind 0 = .ok (.iload_n 0, 1) := by decide +kernel
theorem dX0_isKind_1 : decode cX0_isKind 1 = .ok (.iconst 0, 1) := by decide +kernel
theorem dX0_isKind_2 : decode cX0_isKind 2 = .ok (.bipush 7, 2) := by decide +kernel
theorem dX0_isKind_4 : decode cX0_isKind 4 = .ok (.invokestatic 31, 3) := by decide +kernel
theorem dX0_isKind_7 : decode cX0_isKind 7 = .ok (.ireturn, 1) := by decide +kernel
theorem dX0_isUnder_0 : decode cX0_isUnder 0 = .ok (.iload_n 0, 1) := by decide +kernel
theorem dX0_isUnder_1 : decode cX0_isUnder 1 = .ok (.istore_n 2, 1) := by decide +kernel
theorem dX0_isUnder_2 : decode cX0_isUnder 2 = .ok (.iconst 0, 1) := by decide +kernel
theorem dX0_isUnder_3 : decode cX0_isUnder 3 = .ok (.istore_n 3, 1) := by decide +kernel
theorem dX0_isUnder_4 : decode cX0_isUnder 4 = .ok (.iload_n 3, 1) := by decide +kernel
theorem dX0_isUnder_5 : decode cX0_isUnder 5 = .ok (.bipush 8, 2) := by decide +kernel
theorem dX0_isUnder_7 : decode cX0_isUnder 7 = .ok (.if_icmp .ge 29, 3) := by decide +kernel
theorem dX0_isUnder_10 : decode cX0_isUnder 10 = .ok (.iload_n 2, 1) := by decide +kernel
theorem dX0_isUnder_11 : decode cX0_isUnder 11 = .ok (.invokestatic 35, 3) := by decide +kernel
theorem dX0_isUnder_14 : decode cX0_isUnder 14 = .ok (.ifCond .eq 22, 3) := by decide +kernel
theorem dX0_isUnder_17 : decode cX0_isUnder 17 = .ok (.iload_n 2, 1) := by decide +kernel
theorem dX0_isUnder_18 : decode cX0_isUnder 18 = .ok (.iload_n 1, 1) := by decide +kernel
theorem dX0_isUnder_19 : decode cX0_isUnder 19 = .ok (.if_icmp .ne 5, 3) := by decide +kernel
theorem dX0_isUnder_22 : decode cX0_isUnder 22 = .ok (.iconst 1, 1) := by decide +kernel
theorem dX0_isUnder_23 : decode cX0_isUnder 23 = .ok (.ireturn, 1) := by decide +kernel
theorem dX0_isUnder_24 : decode cX0_isUnder 24 = .ok (.getstatic 39, 3) := by decide +kernel
theorem dX0_isUnder_27 : decode cX0_isUnder 27 = .ok (.iload_n 2, 1) := by decide +kernel
theorem dX0_isUnder_28 : decode cX0_isUnder 28 = .ok (.iaload, 1) := by decide +kernel
theorem dX0_isUnder_29 : decode cX0_isUnder 29 = .ok (.istore_n 2, 1) := by decide +kernel
theorem dX0_isUnder_30 : decode cX0_isUnder 30 = .ok (.iinc 3 1, 3) := by decide +kernel
theorem dX0_isUnder_33 : decode cX0_isUnder 33 = .ok (.goto (-29), 3) := by decide +kernel
theorem dX0_isUnder_36 : decode cX0_isUnder 36 = .ok (.iconst 0, 1) := by decide +kernel
theorem dX0_isUnder_37 : decode cX0_isUnder 37 = .ok (.ireturn, 1) := by decide +kernel
theorem dX0_size_0 : decode cX0_size 0 = .ok (.aload_n 0, 1) := by decide +kernel
theorem dX0_size_1 : decode cX0_size 1 = .ok (.getfield 15, 3) := by decide +kernel
theorem dX0_size_4 : decode cX0_size 4 = .ok (.ireturn, 1) := by decide +kernel
theorem dX0_has_0 : decode cX0_has 0 = .ok (.iconst 0, 1) := by decide +kernel
theorem dX0_has_1 : decode cX0_has 1 = .ok (.iload_n 1, 1) := by decide +kernel
theorem dX0_has_2 : decode cX0_has 2 = .ok (.if_icmp .gt 15, 3) := by decide +kernel
theorem dX0_has_5 : decode cX0_has 5 = .ok (.iload_n 1, 1) := by decide +kernel
theorem dX0_has_6 : decode cX0_has 6 = .ok (.aload_n 0, 1) := by decide +kernel
theorem dX0_has_7 : decode cX0_has 7 = .ok (.getfield 15, 3) := by decide +kernel
theorem dX0_has_10 : decode cX0_has 10 = .ok (.if_icmp .ge 7, 3) := by decide +kernel
theorem dX0_has_13 : decode cX0_has 13 = .ok (.iconst 1, 1) := by decide +kernel
theorem dX0_has_14 : decode cX0_has 14 = .ok (.goto 4, 3) := by decide +kernel
theorem dX0_has_17 : decode cX0_has 17 = .ok (.iconst 0, 1) := by decide +kernel
theorem dX0_has_18 : decode cX0_has 18 = .ok (.ireturn, 1) := by decide +kernel
theorem dX0_add_0 : decode cX0_add 0 = .ok (.aload_n 0, 1) := by decide +kernel
theorem dX0_add_1 : decode cX0_add 1 = .ok (.getfield 15, 3) := by decide +kernel
theorem dX0_add_4 : decode cX0_add 4 = .ok (.bipush 50, 2) := by decide +kernel
theorem dX0_add_6 : decode cX0_add 6 = .ok (.if_icmp .lt 6, 3) := by decide +kernel
theorem dX0_add_9 : decode cX0_add 9 = .ok (.bipush (-3), 2) := by decide +kernel
theorem dX0_add_11 : decode cX0_add 11 = .ok (.ireturn, 1) := by decide +kernel
theorem dX0_add_12 : decode cX0_add 12 = .ok (.aload_n 0, 1) := by decide +kernel
theorem dX0_add_13 : decode cX0_add 13 = .ok (.getfield 11, 3) := by decide +kernel
theorem dX0_add_16 : decode cX0_add 16 = .ok (.aload_n 0, 1) := by decide +kernel
theorem dX0_add_17 : decode cX0_add 17 = .ok (.getfield 15, 3) := by decide +kernel
theorem dX0_add_20 : decode cX0_add 20 = .ok (.iload_n 1, 1) := by decide +kernel
theorem dX0_add_21 : decode cX0_add 21 = .ok (.iastore, 1) := by decide +kernel
theorem dX0_add_22 : decode cX0_add 22 = .ok (.aload_n 0, 1) := by decide +kernel
theorem dX0_add_23 : decode cX0_add 23 = .ok (.dup, 1) := by decide +kernel
theorem dX0_add_24 : decode cX0_add 24 = .ok (.getfield 15, 3) := by decide +kernel
theorem dX0_add_27 : decode cX0_add 27 = .ok (.iconst 1, 1) := by decide +kernel
theorem dX0_add_28 : decode cX0_add 28 = .ok (.iadd, 1) := by decide +kernel
theorem dX0_add_29 : decode cX0_add 29 = .ok (.putfield 15, 3) := by decide +kernel
theorem dX0_add_32 : decode cX0_add 32 = .ok (.aload_n 0, 1) := by decide +kernel
theorem dX0_add_33 : decode cX0_add 33 = .ok (.getfield 15, 3) := by decide +kernel
theorem dX0_add_36 : decode cX0_add 36 = .ok (.iconst 1, 1) := by decide +kernel
theorem dX0_add_37 : decode cX0_add 37 = .ok (.isub, 1) := by decide +kernel
theorem dX0_add_38 : decode cX0_add 38 = .ok (.ireturn, 1) := by decide +kernel
theorem dX0_kindOf_0 : decode cX0_kindOf 0 = .ok (.aload_n 0, 1) := by decide +kernel
theorem dX0_kindOf_1 : decode cX0_kindOf 1 = .ok (.iload_n 1, 1) := by decide +kernel
theorem dX0_kindOf_2 : decode cX0_kindOf 2 = .ok (.invokevirtual 42, 3) := by decide +kernel
theorem dX0_kindOf_5 : decode cX0_kindOf 5 = .ok (.ifCond .eq 12, 3) := by decide +kernel
theorem dX0_kindOf_8 : decode cX0_kindOf 8 = .ok (.aload_n 0, 1) := by decide +kernel
theorem dX0_kindOf_9 : decode cX0_kindOf 9 = .ok (.getfield 11, 3) := by decide +kernel
theorem dX0_kindOf_12 : decode cX0_kindOf 12 = .ok (.iload_n 1, 1) := by decide +kernel
theorem dX0_kindOf_13 : decode cX0_kindOf 13 = .ok (.iaload, 1) := by decide +kernel
theorem dX0_kindOf_14 : decode cX0_kindOf 14 = .ok (.goto 4, 3) := by decide +kernel
theorem dX0_kindOf_17 : decode cX0_kindOf 17 = .ok (.iconst (-1), 1) := by decide +kernel
theorem dX0_kindOf_18 : decode cX0_kindOf 18 = .ok (.ireturn, 1) := by decide +kernel
theorem dX0_ranInAll_0 : decode cX0_ranInAll 0 = .ok (.aload_n 0, 1) := by decide +kernel
theorem dX0_ranInAll_1 : decode cX0_ranInAll 1 = .ok (.getfield 22, 3) := by decide +kernel
theorem dX0_ranInAll_4 : decode cX0_ranInAll 4 = .ok (.ireturn, 1) := by decide +kernel
theorem dX0_ranAt_0 : decode cX0_ranAt 0 = .ok (.iconst 0, 1) := by decide +kernel
theorem dX0_ranAt_1 : decode cX0_ranAt 1 = .ok (.iload_n 1, 1) := by decide +kernel
theorem dX0_ranAt_2 : decode cX0_ranAt 2 = .ok (.if_icmp .gt 26, 3) := by decide +kernel
theorem dX0_ranAt_5 : decode cX0_ranAt 5 = .ok (.iload_n 1, 1) := by decide +kernel
theorem dX0_ranAt_6 : decode cX0_ranAt 6 = .ok (.aload_n 0, 1) := by decide +kernel
theorem dX0_ranAt_7 : decode cX0_ranAt 7 = .ok (.getfield 22, 3) := by decide +kernel
theorem dX0_ranAt_10 : decode cX0_ranAt 10 = .ok (.if_icmp .ge 18, 3) := by decide +kernel
theorem dX0_ranAt_13 : decode cX0_ranAt 13 = .ok (.iload_n 1, 1) := by decide +kernel
theorem dX0_ranAt_14 : decode cX0_ranAt 14 = .ok (.bipush 24, 2) := by decide +kernel
theorem dX0_ranAt_16 : decode cX0_ranAt 16 = .ok (.if_icmp .ge 12, 3) := by decide +kernel
theorem dX0_ranAt_19 : decode cX0_ranAt 19 = .ok (.aload_n 0, 1) := by decide +kernel
theorem dX0_ranAt_20 : decode cX0_ranAt 20 = .ok (.getfield 19, 3) := by decide +kernel
theorem dX0_ranAt_23 : decode cX0_ranAt 23 = .ok (.iload_n 1, 1) := by decide +kernel
theorem dX0_ranAt_24 : decode cX0_ranAt 24 = .ok (.iaload, 1) := by decide +kernel
theorem dX0_ranAt_25 : decode cX0_ranAt 25 = .ok (.goto 4, 3) := by decide +kernel
theorem dX0_ranAt_28 : decode cX0_ranAt 28 = .ok (.iconst (-1), 1) := by decide +kernel
theorem dX0_ranAt_29 : decode cX0_ranAt 29 = .ok (.ireturn, 1) := by decide +kernel
theorem dX0_start_0 : decode cX0_start 0 = .ok (.aload_n 0, 1) := by decide +kernel
theorem dX0_start_1 : decode cX0_start 1 = .ok (.iconst 0, 1) := by decide +kernel
theorem dX0_start_2 : decode cX0_start 2 = .ok (.putfield 22, 3) := by decide +kernel
theorem dX0_start_5 : decode cX0_start 5 = .ok (.aload_n 0, 1) := by decide +kernel
theorem dX0_start_6 : decode cX0_start 6 = .ok (.iload_n 1, 1) := by decide +kernel
theorem dX0_start_7 : decode cX0_start 7 = .ok (.invokevirtual 42, 3) := by decide +kernel
theorem dX0_start_10 : decode cX0_start 10 = .ok (.ifCond .eq 12, 3) := by decide +kernel
theorem dX0_start_13 : decode cX0_start 13 = .ok (.iload_n 2, 1) := by decide +kernel
theorem dX0_start_14 : decode cX0_start 14 = .ok (.iconst 0, 1) := by decide +kernel
theorem dX0_start_15 : decode cX0_start 15 = .ok (.iconst 3, 1) := by decide +kernel
theorem dX0_start_16 : decode cX0_start 16 = .ok (.invokestatic 31, 3) := by decide +kernel
theorem dX0_start_19 : decode cX0_start 19 = .ok (.ifCond .ne 5, 3) := by decide +kernel
theorem dX0_start_22 : decode cX0_start 22 = .ok (.iconst 0, 1) := by decide +kernel
theorem dX0_start_23 : decode cX0_start 23 = .ok (.ireturn, 1) := by decide +kernel
theorem dX0_start_24 : decode cX0_start 24 = .ok (.aload_n 0, 1) := by decide +kernel
theorem dX0_start_25 : decode cX0_start 25 = .ok (.iload_n 1, 1) := by decide +kernel
theorem dX0_start_26 : decode cX0_start 26 = .ok (.putfield 25, 3) := by decide +kernel
theorem dX0_start_29 : decode cX0_start 29 = .ok (.aload_n 0, 1) := by decide +kernel
theorem dX0_start_30 : decode cX0_start 30 = .ok (.aload_n 0, 1) := by decide +kernel
theorem dX0_start_31 : decode cX0_start 31 = .ok (.iload_n 1, 1) := by decide +kernel
theorem dX0_start_32 : decode cX0_start 32 = .ok (.invokevirtual 45, 3) := by decide +kernel
theorem dX0_start_35 : decode cX0_start 35 = .ok (.putfield 28, 3) := by decide +kernel
theorem dX0_start_38 : decode cX0_start 38 = .ok (.aload_n 0, 1) := by decide +kernel
theorem dX0_start_39 : decode cX0_start 39 = .ok (.iload_n 2, 1) := by decide +kernel
theorem dX0_start_40 : decode cX0_start 40 = .ok (.aload_n 0, 1) := by decide +kernel
theorem dX0_start_41 : decode cX0_start 41 = .ok (.getfield 28, 3) := by decide +kernel
theorem dX0_start_44 : decode cX0_start 44 = .ok (.iload_n 3, 1) := by decide +kernel
theorem dX0_start_45 : decode cX0_start 45 = .ok (.iconst 0, 1) := by decide +kernel
theorem dX0_start_46 : decode cX0_start 46 = .ok (.invokevirtual 49, 3) := by decide +kernel
theorem dX0_start_49 : decode cX0_start 49 = .ok (.ireturn, 1) := by decide +kernel
theorem dX0_run_0 : decode cX0_run 0 = .ok (.iload_n 1, 1) := by decide +kernel
theorem dX0_run_1 : decode cX0_run 1 = .ok (.iload_n 2, 1) := by decide +kernel
theorem dX0_run_2 : decode cX0_run 2 = .ok (.invokestatic 53, 3) := by decide +kernel
theorem dX0_run_5 : decode cX0_run 5 = .ok (.istore 5, 2) := by decide +kernel
theorem dX0_run_7 : decode cX0_run 7 = .ok (.iload 5, 2) := by decide +kernel
theorem dX0_run_9 : decode cX0_run 9 = .ok (.ifCond .lt 10, 3) := by decide +kernel
theorem dX0_run_12 : decode cX0_run 12 = .ok (.iload 4, 2) := by decide +kernel
theorem dX0_run_14 : decode cX0_run 14 = .ok (.bipush 40, 2) := by decide +kernel
theorem dX0_run_16 : decode cX0_run 16 = .ok (.if_icmp .le 5, 3) := by decide +kernel
theorem dX0_run_19 : decode cX0_run 19 = .ok (.iconst 0, 1) := by decide +kernel
theorem dX0_run_20 : decode cX0_run 20 = .ok (.ireturn, 1) := by decide +kernel
theorem dX0_run_21 : decode cX0_run 21 = .ok (.iload_n 1, 1) := by decide +kernel
theorem dX0_run_22 : decode cX0_run 22 = .ok (.iload 5, 2) := by decide +kernel
theorem dX0_run_24 : decode cX0_run 24 = .ok (.invokestatic 57, 3) := by decide +kernel
theorem dX0_run_27 : decode cX0_run 27 = .ok (.istore 6, 2) := by decide +kernel
theorem dX0_run_29 : decode cX0_run 29 = .ok (.aload_n 0, 1) := by decide +kernel
theorem dX0_run_30 : decode cX0_run 30 = .ok (.iload 6, 2) := by decide +kernel
theorem dX0_run_32 : decode cX0_run 32 = .ok (.invokevirtual 60, 3) := by decide +kernel
theorem dX0_run_35 : decode cX0_run 35 = .ok (.aload_n 0, 1) := by decide +kernel
theorem dX0_run_36 : decode cX0_run 36 = .ok (.iload 6, 2) := by decide +kernel
theorem dX0_run_38 : decode cX0_run 38 = .ok (.getstatic 39, 3) := by decide +kernel
theorem dX0_run_41 : decode cX0_run 41 = .ok (.iload 5, 2) := by decide +kernel
theorem dX0_run_43 : decode cX0_run 43 = .ok (.iaload, 1) := by decide +kernel
theorem dX0_run_44 : decode cX0_run 44 = .ok (.iload_n 3, 1) := by decide +kernel
theorem dX0_run_45 : decode cX0_run 45 = .ok (.iload 4, 2) := by decide +kernel
theorem dX0_run_47 : decode cX0_run 47 = .ok (.iconst 1, 1) := by decide +kernel
theorem dX0_run_48 : decode cX0_run 48 = .ok (.iadd, 1) := by decide +kernel
theorem dX0_run_49 : decode cX0_run 49 = .ok (.invokevirtual 64, 3) := by decide +kernel
theorem dX0_run_52 : decode cX0_run 52 = .ok (.ireturn, 1) := by decide +kernel
theorem dX0_perform_0 : decode cX0_perform 0 = .ok (.iload_n 1, 1) := by decide +kernel
theorem dX0_perform_1 : decode cX0_perform 1 = .ok (.lookupswitch 299 #[(1, 115), (2, 122), (10, 148), (11, 163), (20, 170), (30, 182), (40, 193), (41, 205), (50, 217), (60, 240), (70, 252), (80, 264), (81, 287)], 115) := by decide +kernel
theorem dX0_perform_116 : decode cX0_perform 116 = .ok (.iload_n 3, 1) := by decide +kernel
theorem dX0_perform_117 : decode cX0_perform 117 = .ok (.aload_n 0, 1) := by decide +kernel
theorem dX0_perform_118 : decode cX0_perform 118 = .ok (.getfield 25, 3) := by decide +kernel
theorem dX0_perform_121 : decode cX0_perform 121 = .ok (.iadd, 1) := by decide +kernel
theorem dX0_perform_122 : decode cX0_perform 122 = .ok (.ireturn, 1) := by decide +kernel
theorem dX0_perform_123 : decode cX0_perform 123 = .ok (.aload_n 0, 1) := by decide +kernel
theorem dX0_perform_124 : decode cX0_perform 124 = .ok (.iconst 1, 1) := by decide +kernel
theorem dX0_perform_125 : decode cX0_perform 125 = .ok (.aload_n 0, 1) := by decide +kernel
theorem dX0_perform_126 : decode cX0_perform 126 = .ok (.getfield 28, 3) := by decide +kernel
theorem dX0_perform_129 : decode cX0_perform 129 = .ok (.iload_n 3, 1) := by decide +kernel
theorem dX0_perform_130 : decode cX0_perform 130 = .ok (.iload 4, 2) := by decide +kernel
theorem dX0_perform_132 : decode cX0_perform 132 = .ok (.invokevirtual 49, 3) := by decide +kernel
theorem dX0_perform_135 : decode cX0_perform 135 = .ok (.aload_n 0, 1) := by decide +kernel
theorem dX0_perform_136 : decode cX0_perform 136 = .ok (.iconst 2, 1) := by decide +kernel
theorem dX0_perform_137 : decode cX0_perform 137 = .ok (.aload_n 0, 1) := by decide +kernel
theorem dX0_perform_138 : decode cX0_perform 138 = .ok (.getfield 28, 3) := by decide +kernel
theorem dX0_perform_141 : decode cX0_perform 141 = .ok (.iconst 1, 1) := by decide +kernel
theorem dX0_perform_142 : decode cX0_perform 142 = .ok (.iload 4, 2) := by decide +kernel
theorem dX0_perform_144 : decode cX0_perform 144 = .ok (.invokevirtual 49, 3) := by decide +kernel
theorem dX0_perform_147 : decode cX0_perform 147 = .ok (.isub, 1) := by decide +kernel
theorem dX0_perform_148 : decode cX0_perform 148 = .ok (.ireturn, 1) := by decide +kernel
theorem dX0_perform_149 : decode cX0_perform 149 = .ok (.aload_n 0, 1) := by decide +kernel
theorem dX0_perform_150 : decode cX0_perform 150 = .ok (.iconst 0, 1) := by decide +kernel
theorem dX0_perform_151 : decode cX0_perform 151 = .ok (.aload_n 0, 1) := by decide +kernel
theorem dX0_perform_152 : decode cX0_perform 152 = .ok (.getfield 28, 3) := by decide +kernel
theorem dX0_perform_155 : decode cX0_perform 155 = .ok (.iload_n 3, 1) := by decide +kernel
theorem dX0_perform_156 : decode cX0_perform 156 = .ok (.iload 4, 2) := by decide +kernel
theorem dX0_perform_158 : decode cX0_perform 158 = .ok (.invokevirtual 49, 3) := by decide +kernel
theorem dX0_perform_161 : decode cX0_perform 161 = .ok (.iconst 2, 1) := by decide +kernel
theorem dX0_perform_162 : decode cX0_perform 162 = .ok (.imul, 1) := by decide +kernel
theorem dX0_perform_163 : decode cX0_perform 163 = .ok (.ireturn, 1) := by decide +kernel
theorem dX0_perform_164 : decode cX0_perform 164 = .ok (.iload_n 3, 1) := by decide +kernel
theorem dX0_perform_165 : decode cX0_perform 165 = .ok (.aload_n 0, 1) := by decide +kernel
theorem dX0_perform_166 : decode cX0_perform 166 = .ok (.getfield 25, 3) := by decide +kernel
theorem dX0_perform_169 : decode cX0_perform 169 = .ok (.ixor, 1) := by decide +kernel
theorem dX0_perform_170 : decode cX0_perform 170 = .ok (.ireturn, 1) := by decide +kernel
theorem dX0_perform_171 : decode cX0_perform 171 = .ok (.aload_n 0, 1) := by decide +kernel
theorem dX0_perform_172 : decode cX0_perform 172 = .ok (.iconst 0, 1) := by decide +kernel
theorem dX0_perform_173 : decode cX0_perform 173 = .ok (.iload_n 2, 1) := by decide +kernel
theorem dX0_perform_174 : decode cX0_perform 174 = .ok (.iload_n 3, 1) := by decide +kernel
theorem dX0_perform_175 : decode cX0_perform 175 = .ok (.iload 4, 2) := by decide +kernel
theorem dX0_perform_177 : decode cX0_perform 177 = .ok (.invokevirtual 49, 3) := by decide +kernel
theorem dX0_perform_180 : decode cX0_perform 180 = .ok (.iconst 3, 1) := by decide +kernel
theorem dX0_perform_181 : decode cX0_perform 181 = .ok (.iadd, 1) := by decide +kernel
theorem dX0_perform_182 : decode cX0_perform 182 = .ok (.ireturn, 1) := by decide +kernel
theorem dX0_perform_183 : decode cX0_perform 183 = .ok (.aload_n 0, 1) := by decide +kernel
theorem dX0_perform_184 : decode cX0_perform 184 = .ok (.iconst 1, 1) := by decide +kernel
theorem dX0_perform_185 : decode cX0_perform 185 = .ok (.iload_n 2, 1) := by decide +kernel
theorem dX0_perform_186 : decode cX0_perform 186 = .ok (.iload_n 3, 1) := by decide +kernel
theorem dX0_perform_187 : decode cX0_perform 187 = .ok (.iload 4, 2) := by decide +kernel
theorem dX0_perform_189 : decode cX0_perform 189 = .ok (.invokevirtual 49, 3) := by decide +kernel
theorem dX0_perform_192 : decode cX0_perform 192 = .ok (.ineg, 1) := by decide +kernel
theorem dX0_perform_193 : decode cX0_perform 193 = .ok (.ireturn, 1) := by decide +kernel
theorem dX0_perform_194 : decode cX0_perform 194 = .ok (.aload_n 0, 1) := by decide +kernel
theorem dX0_perform_195 : decode cX0_perform 195 = .ok (.iconst 2, 1) := by decide +kernel
theorem dX0_perform_196 : decode cX0_perform 196 = .ok (.iload_n 2, 1) := by decide +kernel
theorem dX0_perform_197 : decode cX0_perform 197 = .ok (.iload_n 3, 1) := by decide +kernel
theorem dX0_perform_198 : decode cX0_perform 198 = .ok (.iload 4, 2) := by decide +kernel
theorem dX0_perform_200 : decode cX0_perform 200 = .ok (.invokevirtual 49, 3) := by decide +kernel
theorem dX0_perform_203 : decode cX0_perform 203 = .ok (.iconst 3, 1) := by decide +kernel
theorem dX0_perform_204 : decode cX0_perform 204 = .ok (.imul, 1) := by decide +kernel
theorem dX0_perform_205 : decode cX0_perform 205 = .ok (.ireturn, 1) := by decide +kernel
theorem dX0_perform_206 : decode cX0_perform 206 = .ok (.aload_n 0, 1) := by decide +kernel
theorem dX0_perform_207 : decode cX0_perform 207 = .ok (.iconst 1, 1) := by decide +kernel
theorem dX0_perform_208 : decode cX0_perform 208 = .ok (.iload_n 2, 1) := by decide +kernel
theorem dX0_perform_209 : decode cX0_perform 209 = .ok (.iload_n 3, 1) := by decide +kernel
theorem dX0_perform_210 : decode cX0_perform 210 = .ok (.iconst 1, 1) := by decide +kernel
theorem dX0_perform_211 : decode cX0_perform 211 = .ok (.iadd, 1) := by decide +kernel
theorem dX0_perform_212 : decode cX0_perform 212 = .ok (.iload 4, 2) := by decide +kernel
theorem dX0_perform_214 : decode cX0_perform 214 = .ok (.invokevirtual 49, 3) := by decide +kernel
theorem dX0_perform_217 : decode cX0_perform 217 = .ok (.ireturn, 1) := by decide +kernel
theorem dX0_perform_218 : decode cX0_perform 218 = .ok (.aload_n 0, 1) := by decide +kernel
theorem dX0_perform_219 : decode cX0_perform 219 = .ok (.iconst 2, 1) := by decide +kernel
theorem dX0_perform_220 : decode cX0_perform 220 = .ok (.iload_n 2, 1) := by decide +kernel
theorem dX0_perform_221 : decode cX0_perform 221 = .ok (.iload_n 3, 1) := by decide +kernel
theorem dX0_perform_222 : decode cX0_perform 222 = .ok (.iload 4, 2) := by decide +kernel
theorem dX0_perform_224 : decode cX0_perform 224 = .ok (.invokevirtual 49, 3) := by decide +kernel
theorem dX0_perform_227 : decode cX0_perform 227 = .ok (.aload_n 0, 1) := by decide +kernel
theorem dX0_perform_228 : decode cX0_perform 228 = .ok (.iconst 0, 1) := by decide +kernel
theorem dX0_perform_229 : decode cX0_perform 229 = .ok (.aload_n 0, 1) := by decide +kernel
theorem dX0_perform_230 : decode cX0_perform 230 = .ok (.getfield 28, 3) := by decide +kernel
theorem dX0_perform_233 : decode cX0_perform 233 = .ok (.iconst 2, 1) := by decide +kernel
theorem dX0_perform_234 : decode cX0_perform 234 = .ok (.iload 4, 2) := by decide +kernel
theorem dX0_perform_236 : decode cX0_perform 236 = .ok (.invokevirtual 49, 3) := by decide +kernel
theorem dX0_perform_239 : decode cX0_perform 239 = .ok (.isub, 1) := by decide +kernel
theorem dX0_perform_240 : decode cX0_perform 240 = .ok (.ireturn, 1) := by decide +kernel
theorem dX0_perform_241 : decode cX0_perform 241 = .ok (.aload_n 0, 1) := by decide +kernel
theorem dX0_perform_242 : decode cX0_perform 242 = .ok (.iconst 3, 1) := by decide +kernel
theorem dX0_perform_243 : decode cX0_perform 243 = .ok (.iload_n 2, 1) := by decide +kernel
theorem dX0_perform_244 : decode cX0_perform 244 = .ok (.iload_n 3, 1) := by decide +kernel
theorem dX0_perform_245 : decode cX0_perform 245 = .ok (.iload 4, 2) := by decide +kernel
theorem dX0_perform_247 : decode cX0_perform 247 = .ok (.invokevirtual 49, 3) := by decide +kernel
theorem dX0_perform_250 : decode cX0_perform 250 = .ok (.iconst 5, 1) := by decide +kernel
theorem dX0_perform_251 : decode cX0_perform 251 = .ok (.ixor, 1) := by decide +kernel
theorem dX0_perform_252 : decode cX0_perform 252 = .ok (.ireturn, 1) := by decide +kernel
theorem dX0_perform_253 : decode cX0_perform 253 = .ok (.aload_n 0, 1) := by decide +kernel
theorem dX0_perform_254 : decode cX0_perform 254 = .ok (.iconst 0, 1) := by decide +kernel
theorem dX0_perform_255 : decode cX0_perform 255 = .ok (.iload_n 2, 1) := by decide +kernel
theorem dX0_perform_256 : decode cX0_perform 256 = .ok (.iload_n 3, 1) := by decide +kernel
theorem dX0_perform_257 : decode cX0_perform 257 = .ok (.iload 4, 2) := by decide +kernel
theorem dX0_perform_259 : decode cX0_perform 259 = .ok (.invokevirtual 49, 3) := by decide +kernel
theorem dX0_perform_262 : decode cX0_perform 262 = .ok (.iconst 2, 1) := by decide +kernel
theorem dX0_perform_263 : decode cX0_perform 263 = .ok (.imul, 1) := by decide +kernel
theorem dX0_perform_264 : decode cX0_perform 264 = .ok (.ireturn, 1) := by decide +kernel
theorem dX0_perform_265 : decode cX0_perform 265 = .ok (.aload_n 0, 1) := by decide +kernel
theorem dX0_perform_266 : decode cX0_perform 266 = .ok (.iconst 1, 1) := by decide +kernel
theorem dX0_perform_267 : decode cX0_perform 267 = .ok (.iload_n 2, 1) := by decide +kernel
theorem dX0_perform_268 : decode cX0_perform 268 = .ok (.iload_n 3, 1) := by decide +kernel
theorem dX0_perform_269 : decode cX0_perform 269 = .ok (.iload 4, 2) := by decide +kernel
theorem dX0_perform_271 : decode cX0_perform 271 = .ok (.invokevirtual 49, 3) := by decide +kernel
theorem dX0_perform_274 : decode cX0_perform 274 = .ok (.aload_n 0, 1) := by decide +kernel
theorem dX0_perform_275 : decode cX0_perform 275 = .ok (.iconst 2, 1) := by decide +kernel
theorem dX0_perform_276 : decode cX0_perform 276 = .ok (.aload_n 0, 1) := by decide +kernel
theorem dX0_perform_277 : decode cX0_perform 277 = .ok (.getfield 28, 3) := by decide +kernel
theorem dX0_perform_280 : decode cX0_perform 280 = .ok (.iconst 2, 1) := by decide +kernel
theorem dX0_perform_281 : decode cX0_perform 281 = .ok (.iload 4, 2) := by decide +kernel
theorem dX0_perform_283 : decode cX0_perform 283 = .ok (.invokevirtual 49, 3) := by decide +kernel
theorem dX0_perform_286 : decode cX0_perform 286 = .ok (.iadd, 1) := by decide +kernel
theorem dX0_perform_287 : decode cX0_perform 287 = .ok (.ireturn, 1) := by decide +kernel
theorem dX0_perform_288 : decode cX0_perform 288 = .ok (.aload_n 0, 1) := by decide +kernel
theorem dX0_perform_289 : decode cX0_perform 289 = .ok (.iconst 3, 1) := by decide +kernel
theorem dX0_perform_290 : decode cX0_perform 290 = .ok (.iload_n 2, 1) := by decide +kernel
theorem dX0_perform_291 : decode cX0_perform 291 = .ok (.iload_n 3, 1) := by decide +kernel
theorem dX0_perform_292 : decode cX0_perform 292 = .ok (.iload 4, 2) := by decide +kernel
theorem dX0_perform_294 : decode cX0_perform 294 = .ok (.invokevirtual 49, 3) := by decide +kernel
theorem dX0_perform_297 : decode cX0_perform 297 = .ok (.iconst 1, 1) := by decide +kernel
theorem dX0_perform_298 : decode cX0_perform 298 = .ok (.isub, 1) := by decide +kernel
theorem dX0_perform_299 : decode cX0_perform 299 = .ok (.ireturn, 1) := by decide +kernel
theorem dX0_perform_300 : decode cX0_perform 300 = .ok (.iconst 0, 1) := by decide +kernel
theorem dX0_perform_301 : decode cX0_perform 301 = .ok (.ireturn, 1) := by decide +kernel
theorem dX0_ownerOf_0 : decode cX0_ownerOf 0 = .ok (.iload_n 1, 1) := by decide +kernel
theorem dX0_ownerOf_1 : decode cX0_ownerOf 1 = .ok (.istore_n 2, 1) := by decide +kernel
theorem dX0_ownerOf_2 : decode cX0_ownerOf 2 = .ok (.iconst 0, 1) := by decide +kernel
theorem dX0_ownerOf_3 : decode cX0_ownerOf 3 = .ok (.istore_n 3, 1) := by decide +kernel
theorem dX0_ownerOf_4 : decode cX0_ownerOf 4 = .ok (.iload_n 3, 1) := by decide +kernel
theorem dX0_ownerOf_5 : decode cX0_ownerOf 5 = .ok (.bipush 8, 2) := by decide +kernel
theorem dX0_ownerOf_7 : decode cX0_ownerOf 7 = .ok (.if_icmp .ge 30, 3) := by decide +kernel
theorem dX0_ownerOf_10 : decode cX0_ownerOf 10 = .ok (.iload_n 2, 1) := by decide +kernel
theorem dX0_ownerOf_11 : decode cX0_ownerOf 11 = .ok (.invokestatic 35, 3) := by decide +kernel
theorem dX0_ownerOf_14 : decode cX0_ownerOf 14 = .ok (.ifCond .eq 23, 3) := by decide +kernel
theorem dX0_ownerOf_17 : decode cX0_ownerOf 17 = .ok (.iload_n 0, 1) := by decide +kernel
theorem dX0_ownerOf_18 : decode cX0_ownerOf 18 = .ok (.iload_n 2, 1) := by decide +kernel
theorem dX0_ownerOf_19 : decode cX0_ownerOf 19 = .ok (.invokestatic 57, 3) := by decide +kernel
theorem dX0_ownerOf_22 : decode cX0_ownerOf 22 = .ok (.ifCond .ne 15, 3) := by decide +kernel
theorem dX0_ownerOf_25 : decode cX0_ownerOf 25 = .ok (.getstatic 39, 3) := by decide +kernel
theorem dX0_ownerOf_28 : decode cX0_ownerOf 28 = .ok (.iload_n 2, 1) := by decide +kernel
theorem dX0_ownerOf_29 : decode cX0_ownerOf 29 = .ok (.iaload, 1) := by decide +kernel
theorem dX0_ownerOf_30 : decode cX0_ownerOf 30 = .ok (.istore_n 2, 1) := by decide +kernel
theorem dX0_ownerOf_31 : decode cX0_ownerOf 31 = .ok (.iinc 3 1, 3) := by decide +kernel
theorem dX0_ownerOf_34 : decode cX0_ownerOf 34 = .ok (.goto (-30), 3) := by decide +kernel
theorem dX0_ownerOf_37 : decode cX0_ownerOf 37 = .ok (.iload_n 2, 1) := by decide +kernel
theorem dX0_ownerOf_38 : decode cX0_ownerOf 38 = .ok (.invokestatic 35, 3) := by decide +kernel
theorem dX0_ownerOf_41 : decode cX0_ownerOf 41 = .ok (.ifCond .eq 7, 3) := by decide +kernel
theorem dX0_ownerOf_44 : decode cX0_ownerOf 44 = .ok (.iload_n 2, 1) := by decide +kernel
theorem dX0_ownerOf_45 : decode cX0_ownerOf 45 = .ok (.goto 4, 3) := by decide +kernel
theorem dX0_ownerOf_48 : decode cX0_ownerOf 48 = .ok (.iconst (-1), 1) := by decide +kernel
theorem dX0_ownerOf_49 : decode cX0_ownerOf 49 = .ok (.ireturn, 1) := by decide +kernel
theorem dX0_ownBody_0 : decode cX0_ownBody 0 = .ok (.iload_n 1, 1) := by decide +kernel
theorem dX0_ownBody_1 : decode cX0_ownBody 1 = .ok (.iconst 4, 1) := by decide +kernel
theorem dX0_ownBody_2 : decode cX0_ownBody 2 = .ok (.imul, 1) := by decide +kernel
theorem dX0_ownBody_3 : decode cX0_ownBody 3 = .ok (.iload_n 0, 1) := by decide +kernel
theorem dX0_ownBody_4 : decode cX0_ownBody 4 = .ok (.iadd, 1) := by decide +kernel
theorem dX0_ownBody_5 : decode cX0_ownBody 5 = .ok (.istore_n 2, 1) := by decide +kernel
theorem dX0_ownBody_6 : decode cX0_ownBody 6 = .ok (.iconst 0, 1) := by decide +kernel
theorem dX0_ownBody_7 : decode cX0_ownBody 7 = .ok (.iload_n 2, 1) := by decide +kernel
theorem dX0_ownBody_8 : decode cX0_ownBody 8 = .ok (.if_icmp .gt 19, 3) := by decide +kernel
theorem dX0_ownBody_11 : decode cX0_ownBody 11 = .ok (.iload_n 2, 1) := by decide +kernel
theorem dX0_ownBody_12 : decode cX0_ownBody 12 = .ok (.getstatic 67, 3) := by decide +kernel
theorem dX0_ownBody_15 : decode cX0_ownBody 15 = .ok (.arraylength, 1) := by decide +kernel
theorem dX0_ownBody_16 : decode cX0_ownBody 16 = .ok (.if_icmp .ge 11, 3) := by decide +kernel
theorem dX0_ownBody_19 : decode cX0_ownBody 19 = .ok (.getstatic 67, 3) := by decide +kernel
theorem dX0_ownBody_22 : decode cX0_ownBody 22 = .ok (.iload_n 2, 1) := by decide +kernel
theorem dX0_ownBody_23 : decode cX0_ownBody 23 = .ok (.iaload, 1) := by decide +kernel
theorem dX0_ownBody_24 : decode cX0_ownBody 24 = .ok (.goto 4, 3) := by decide +kernel
theorem dX0_ownBody_27 : decode cX0_ownBody 27 = .ok (.iconst 0, 1) := by decide +kernel
theorem dX0_ownBody_28 : decode cX0_ownBody 28 = .ok (.ireturn, 1) := by decide +kernel
theorem dX0_note_0 : decode cX0_note 0 = .ok (.aload_n 0, 1) := by decide +kernel
theorem dX0_note_1 : decode cX0_note 1 = .ok (.getfield 22, 3) := by decide +kernel
theorem dX0_note_4 : decode cX0_note 4 = .ok (.bipush 24, 2) := by decide +kernel
theorem dX0_note_6 : decode cX0_note 6 = .ok (.if_icmp .ge 13, 3) := by decide +kernel
theorem dX0_note_9 : decode cX0_note 9 = .ok (.aload_n 0, 1) := by decide +kernel
theorem dX0_note_10 : decode cX0_note 10 = .ok (.getfield 19, 3) := by decide +kernel
theorem dX0_note_13 : decode cX0_note 13 = .ok (.aload_n 0, 1) := by decide +kernel
theorem dX0_note_14 : decode cX0_note 14 = .ok (.getfield 22, 3) := by decide +kernel
theorem dX0_note_17 : decode cX0_note 17 = .ok (.iload_n 1, 1) := by decide +kernel
theorem dX0_note_18 : decode cX0_note 18 = .ok (.iastore, 1) := by decide +kernel
theorem dX0_note_19 : decode cX0_note 19 = .ok (.aload_n 0, 1) := by decide +kernel
theorem dX0_note_20 : decode cX0_note 20 = .ok (.dup, 1) := by decide +kernel
theorem dX0_note_21 : decode cX0_note 21 = .ok (.getfield 22, 3) := by decide +kernel
theorem dX0_note_24 : decode cX0_note 24 = .ok (.iconst 1, 1) := by decide +kernel
theorem dX0_note_25 : decode cX0_note 25 = .ok (.iadd, 1) := by decide +kernel
theorem dX0_note_26 : decode cX0_note 26 = .ok (.putfield 22, 3) := by decide +kernel
theorem dX0_note_29 : decode cX0_note 29 = .ok (.return_, 1) := by decide +kernel
theorem dX1_init_0 : decode cX1_init 0 = .ok (.aload_n 0, 1) := by decide +kernel
theorem dX1_init_1 : decode cX1_init 1 = .ok (.invokespecial 3, 3) := by decide +kernel
theorem dX1_init_4 : decode cX1_init 4 = .ok (.aload_n 0, 1) := by decide +kernel
theorem dX1_init_5 : decode cX1_init 5 = .ok (.bipush 40, 2) := by decide +kernel
theorem dX1_init_7 : decode cX1_init 7 = .ok (.newarray .int, 2) := by decide +kernel
theorem dX1_init_9 : decode cX1_init 9 = .ok (.putfield 11, 3) := by decide +kernel
theorem dX1_init_12 : decode cX1_init 12 = .ok (.aload_n 0, 1) := by decide +kernel
theorem dX1_init_13 : decode cX1_init 13 = .ok (.bipush 40, 2) := by decide +kernel
theorem dX1_init_15 : decode cX1_init 15 = .ok (.newarray .int, 2) := by decide +kernel
theorem dX1_init_17 : decode cX1_init 17 = .ok (.putfield 15, 3) := by decide +kernel
theorem dX1_init_20 : decode cX1_init 20 = .ok (.aload_n 0, 1) := by decide +kernel
theorem dX1_init_21 : decode cX1_init 21 = .ok (.bipush 40, 2) := by decide +kernel
theorem dX1_init_23 : decode cX1_init 23 = .ok (.newarray .int, 2) := by decide +kernel
theorem dX1_init_25 : decode cX1_init 25 = .ok (.putfield 18, 3) := by decide +kernel
theorem dX1_init_28 : decode cX1_init 28 = .ok (.aload_n 0, 1) := by decide +kernel
theorem dX1_init_29 : decode cX1_init 29 = .ok (.bipush 40, 2) := by decide +kernel
theorem dX1_init_31 : decode cX1_init 31 = .ok (.newarray .int, 2) := by decide +kernel
theorem dX1_init_33 : decode cX1_init 33 = .ok (.putfield 21, 3) := by decide +kernel
theorem dX1_init_36 : decode cX1_init 36 = .ok (.aload_n 0, 1) := by decide +kernel
theorem dX1_init_37 : decode cX1_init 37 = .ok (.iconst 0, 1) := by decide +kernel
theorem dX1_init_38 : decode cX1_init 38 = .ok (.putfield 24, 3) := by decide +kernel
theorem dX1_init_41 : decode cX1_init 41 = .ok (.aload_n 0, 1) := by decide +kernel
theorem dX1_init_42 : decode cX1_init 42 = .ok (.iconst 0, 1) := by decide +kernel
theorem dX1_init_43 : decode cX1_init 43 = .ok (.putfield 28, 3) := by decide +kernel
theorem dX1_init_46 : decode cX1_init 46 = .ok (.aload_n 0, 1) := by decide +kernel
theorem dX1_init_47 : decode cX1_init 47 = .ok (.aload_n 1, 1) := by decide +kernel
theorem dX1_init_48 : decode cX1_init 48 = .ok (.putfield 31, 3) := by decide +kernel
theorem dX1_init_51 : decode cX1_init 51 = .ok (.aload_n 0, 1) := by decide +kernel
theorem dX1_init_52 : decode cX1_init 52 = .ok (.aload_n 2, 1) := by decide +kernel
theorem dX1_init_53 : decode cX1_init 53 = .ok (.putfield 35, 3) := by decide +kernel
theorem dX1_init_56 : decode cX1_init 56 = .ok (.return_, 1) := by decide +kernel
theorem dX1_toUndo_0 : decode cX1_toUndo 0 = .ok (.aload_n 0, 1) := by decide +kernel
theorem dX1_toUndo_1 : decode cX1_toUndo 1 = .ok (.getfield 24, 3) := by decide +kernel
theorem dX1_toUndo_4 : decode cX1_toUndo 4 = .ok (.ireturn, 1) := by decide +kernel
theorem dX1_toRedo_0 : decode cX1_toRedo 0 = .ok (.aload_n 0, 1) := by decide +kernel
theorem dX1_toRedo_1 : decode cX1_toRedo 1 = .ok (.getfield 28, 3) := by decide +kernel
theorem dX1_toRedo_4 : decode cX1_toRedo 4 = .ok (.aload_n 0, 1) := by decide +kernel
theorem dX1_toRedo_5 : decode cX1_toRedo 5 = .ok (.getfield 24, 3) := by decide +kernel
theorem dX1_toRedo_8 : decode cX1_toRedo 8 = .ok (.isub, 1) := by decide +kernel
theorem dX1_toRedo_9 : decode cX1_toRedo 9 = .ok (.ireturn, 1) := by decide +kernel
theorem dX1_change_0 : decode cX1_change 0 = .ok (.aload_n 0, 1) := by decide +kernel
theorem dX1_change_1 : decode cX1_change 1 = .ok (.iload_n 1, 1) := by decide +kernel
theorem dX1_change_2 : decode cX1_change 2 = .ok (.iload_n 2, 1) := by decide +kernel
theorem dX1_change_3 : decode cX1_change 3 = .ok (.invokevirtual 39, 3) := by decide +kernel
theorem dX1_change_6 : decode cX1_change 6 = .ok (.istore 4, 2) := by decide +kernel
theorem dX1_change_8 : decode cX1_change 8 = .ok (.iload 4, 2) := by decide +kernel
theorem dX1_change_10 : decode cX1_change 10 = .ok (.iload_n 3, 1) := by decide +kernel
theorem dX1_change_11 : decode cX1_change 11 = .ok (.if_icmp .eq 19, 3) := by decide +kernel
theorem dX1_change_14 : decode cX1_change 14 = .ok (.aload_n 0, 1) := by decide +kernel
theorem dX1_change_15 : decode cX1_change 15 = .ok (.iload_n 1, 1) := by decide +kernel
theorem dX1_change_16 : decode cX1_change 16 = .ok (.iload_n 2, 1) := by decide +kernel
theorem dX1_change_17 : decode cX1_change 17 = .ok (.iload_n 3, 1) := by decide +kernel
theorem dX1_change_18 : decode cX1_change 18 = .ok (.invokevirtual 43, 3) := by decide +kernel
theorem dX1_change_21 : decode cX1_change 21 = .ok (.aload_n 0, 1) := by decide +kernel
theorem dX1_change_22 : decode cX1_change 22 = .ok (.iload_n 1, 1) := by decide +kernel
theorem dX1_change_23 : decode cX1_change 23 = .ok (.iload_n 2, 1) := by decide +kernel
theorem dX1_change_24 : decode cX1_change 24 = .ok (.iload 4, 2) := by decide +kernel
theorem dX1_change_26 : decode cX1_change 26 = .ok (.iload_n 3, 1) := by decide +kernel
theorem dX1_change_27 : decode cX1_change 27 = .ok (.invokevirtual 47, 3) := by decide +kernel
theorem dX1_change_30 : decode cX1_change 30 = .ok (.iload 4, 2) := by decide +kernel
theorem dX1_change_32 : decode cX1_change 32 = .ok (.ireturn, 1) := by decide +kernel
theorem dX1_valueOf_0 : decode cX1_valueOf 0 = .ok (.iload_n 2, 1) := by decide +kernel
theorem dX1_valueOf_1 : decode cX1_valueOf 1 = .ok (.tableswitch 69 0 3 #[31, 40, 49, 59], 31) := by decide +kernel
theorem dX1_valueOf_32 : decode cX1_valueOf 32 = .ok (.aload_n 0, 1) := by decide +kernel
theorem dX1_valueOf_33 : decode cX1_valueOf 33 = .ok (.getfield 35, 3) := by decide +kernel
theorem dX1_valueOf_36 : decode cX1_valueOf 36 = .ok (.iload_n 1, 1) := by decide +kernel
theorem dX1_valueOf_37 : decode cX1_valueOf 37 = .ok (.invokevirtual 51, 3) := by decide +kernel
theorem dX1_valueOf_40 : decode cX1_valueOf 40 = .ok (.ireturn, 1) := by decide +kernel
theorem dX1_valueOf_41 : decode cX1_valueOf 41 = .ok (.aload_n 0, 1) := by decide +kernel
theorem dX1_valueOf_42 : decode cX1_valueOf 42 = .ok (.getfield 35, 3) := by decide +kernel
theorem dX1_valueOf_45 : decode cX1_valueOf 45 = .ok (.iload_n 1, 1) := by decide +kernel
theorem dX1_valueOf_46 : decode cX1_valueOf 46 = .ok (.invokevirtual 57, 3) := by decide +kernel
theorem dX1_valueOf_49 : decode cX1_valueOf 49 = .ok (.ireturn, 1) := by decide +kernel
theorem dX1_valueOf_50 : decode cX1_valueOf 50 = .ok (.aload_n 0, 1) := by decide +kernel
theorem dX1_valueOf_51 : decode cX1_valueOf 51 = .ok (.getfield 31, 3) := by decide +kernel
theorem dX1_valueOf_54 : decode cX1_valueOf 54 = .ok (.iload_n 1, 1) := by decide +kernel
theorem dX1_valueOf_55 : decode cX1_valueOf 55 = .ok (.iconst 3, 1) := by decide +kernel
theorem dX1_valueOf_56 : decode cX1_valueOf 56 = .ok (.invokevirtual 60, 3) := by decide +kernel
theorem dX1_valueOf_59 : decode cX1_valueOf 59 = .ok (.ireturn, 1) := by decide +kernel
theorem dX1_valueOf_60 : decode cX1_valueOf 60 = .ok (.aload_n 0, 1) := by decide +kernel
theorem dX1_valueOf_61 : decode cX1_valueOf 61 = .ok (.getfield 31, 3) := by decide +kernel
theorem dX1_valueOf_64 : decode cX1_valueOf 64 = .ok (.iload_n 1, 1) := by decide +kernel
theorem dX1_valueOf_65 : decode cX1_valueOf 65 = .ok (.iconst 4, 1) := by decide +kernel
theorem dX1_valueOf_66 : decode cX1_valueOf 66 = .ok (.invokevirtual 60, 3) := by decide +kernel
theorem dX1_valueOf_69 : decode cX1_valueOf 69 = .ok (.ireturn, 1) := by decide +kernel
theorem dX1_valueOf_70 : decode cX1_valueOf 70 = .ok (.ldc 65, 2) := by decide +kernel
theorem dX1_valueOf_72 : decode cX1_valueOf 72 = .ok (.ireturn, 1) := by decide +kernel
theorem dX1_become_0 : decode cX1_become 0 = .ok (.iload_n 2, 1) := by decide +kernel
theorem dX1_become_1 : decode cX1_become 1 = .ok (.tableswitch 79 0 3 #[31, 43, 55, 67], 31) := by decide +kernel
theorem dX1_become_32 : decode cX1_become 32 = .ok (.aload_n 0, 1) := by decide +kernel
theorem dX1_become_33 : decode cX1_become 33 = .ok (.getfield 35, 3) := by decide +kernel
theorem dX1_become_36 : decode cX1_become 36 = .ok (.iload_n 1, 1) := by decide +kernel
theorem dX1_become_37 : decode cX1_become 37 = .ok (.iload_n 3, 1) := by decide +kernel
theorem dX1_become_38 : decode cX1_become 38 = .ok (.invokevirtual 66, 3) := by decide +kernel
theorem dX1_become_41 : decode cX1_become 41 = .ok (.goto 39, 3) := by decide +kernel
theorem dX1_become_44 : decode cX1_become 44 = .ok (.aload_n 0, 1) := by decide +kernel
theorem dX1_become_45 : decode cX1_become 45 = .ok (.getfield 35, 3) := by decide +kernel
theorem dX1_become_48 : decode cX1_become 48 = .ok (.iload_n 1, 1) := by decide +kernel
theorem dX1_become_49 : decode cX1_become 49 = .ok (.iload_n 3, 1) := by decide +kernel
theorem dX1_become_50 : decode cX1_become 50 = .ok (.invokevirtual 70, 3) := by decide +kernel
theorem dX1_become_53 : decode cX1_become 53 = .ok (.goto 27, 3) := by decide +kernel
theorem dX1_become_56 : decode cX1_become 56 = .ok (.aload_n 0, 1) := by decide +kernel
theorem dX1_become_57 : decode cX1_become 57 = .ok (.getfield 31, 3) := by decide +kernel
theorem dX1_become_60 : decode cX1_become 60 = .ok (.iload_n 1, 1) := by decide +kernel
theorem dX1_become_61 : decode cX1_become 61 = .ok (.iload_n 3, 1) := by decide +kernel
theorem dX1_become_62 : decode cX1_become 62 = .ok (.invokevirtual 73, 3) := by decide +kernel
theorem dX1_become_65 : decode cX1_become 65 = .ok (.goto 15, 3) := by decide +kernel
theorem dX1_become_68 : decode cX1_become 68 = .ok (.aload_n 0, 1) := by decide +kernel
theorem dX1_become_69 : decode cX1_become 69 = .ok (.getfield 31, 3) := by decide +kernel
theorem dX1_become_72 : decode cX1_become 72 = .ok (.iload_n 1, 1) := by decide +kernel
theorem dX1_become_73 : decode cX1_become 73 = .ok (.iload_n 3, 1) := by decide +kernel
theorem dX1_become_74 : decode cX1_become 74 = .ok (.invokevirtual 76, 3) := by decide +kernel
theorem dX1_become_77 : decode cX1_become 77 = .ok (.goto 3, 3) := by decide +kernel
theorem dX1_become_80 : decode cX1_become 80 = .ok (.return_, 1) := by decide +kernel
theorem dX1_remember_0 : decode cX1_remember 0 = .ok (.aload_n 0, 1) := by decide +kernel
theorem dX1_remember_1 : decode cX1_remember 1 = .ok (.getfield 24, 3) := by decide +kernel
theorem dX1_remember_4 : decode cX1_remember 4 = .ok (.bipush 40, 2) := by decide +kernel
theorem dX1_remember_6 : decode cX1_remember 6 = .ok (.if_icmp .lt 7, 3) := by decide +kernel
theorem dX1_remember_9 : decode cX1_remember 9 = .ok (.aload_n 0, 1) := by decide +kernel
theorem dX1_remember_10 : decode cX1_remember 10 = .ok (.invokevirtual 79, 3) := by decide +kernel
theorem dX1_remember_13 : decode cX1_remember 13 = .ok (.aload_n 0, 1) := by decide +kernel
theorem dX1_remember_14 : decode cX1_remember 14 = .ok (.getfield 11, 3) := by decide +kernel
theorem dX1_remember_17 : decode cX1_remember 17 = .ok (.aload_n 0, 1) := by decide +kernel
theorem dX1_remember_18 : decode cX1_remember 18 = .ok (.getfield 24, 3) := by decide +kernel
theorem dX1_remember_21 : decode cX1_remember 21 = .ok (.iload_n 1, 1) := by decide +kernel
theorem dX1_remember_22 : decode cX1_remember 22 = .ok (.iastore, 1) := by decide +kernel
theorem dX1_remember_23 : decode cX1_remember 23 = .ok (.aload_n 0, 1) := by decide +kernel
theorem dX1_remember_24 : decode cX1_remember 24 = .ok (.getfield 15, 3) := by decide +kernel
theorem dX1_remember_27 : decode cX1_remember 27 = .ok (.aload_n 0, 1) := by decide +kernel
theorem dX1_remember_28 : decode cX1_remember 28 = .ok (.getfield 24, 3) := by decide +kernel
theorem dX1_remember_31 : decode cX1_remember 31 = .ok (.iload_n 2, 1) := by decide +kernel
theorem dX1_remember_32 : decode cX1_remember 32 = .ok (.iastore, 1) := by decide +kernel
theorem dX1_remember_33 : decode cX1_remember 33 = .ok (.aload_n 0, 1) := by decide +kernel
theorem dX1_remember_34 : decode cX1_remember 34 = .ok (.getfield 18, 3) := by decide +kernel
theorem dX1_remember_37 : decode cX1_remember 37 = .ok (.aload_n 0, 1) := by decide +kernel
theorem dX1_remember_38 : decode cX1_remember 38 = .ok (.getfield 24, 3) := by decide +kernel
theorem dX1_remember_41 : decode cX1_remember 41 = .ok (.iload_n 3, 1) := by decide +kernel
theorem dX1_remember_42 : decode cX1_remember 42 = .ok (.iastore, 1) := by decide +kernel
theorem dX1_remember_43 : decode cX1_remember 43 = .ok (.aload_n 0, 1) := by decide +kernel
theorem dX1_remember_44 : decode cX1_remember 44 = .ok (.getfield 21, 3) := by decide +kernel
theorem dX1_remember_47 : decode cX1_remember 47 = .ok (.aload_n 0, 1) := by decide +kernel
theorem dX1_remember_48 : decode cX1_remember 48 = .ok (.getfield 24, 3) := by decide +kernel
theorem dX1_remember_51 : decode cX1_remember 51 = .ok (.iload 4, 2) := by decide +kernel
theorem dX1_remember_53 : decode cX1_remember 53 = .ok (.iastore, 1) := by decide +kernel
theorem dX1_remember_54 : decode cX1_remember 54 = .ok (.aload_n 0, 1) := by decide +kernel
theorem dX1_remember_55 : decode cX1_remember 55 = .ok (.dup, 1) := by decide +kernel
theorem dX1_remember_56 : decode cX1_remember 56 = .ok (.getfield 24, 3) := by decide +kernel
theorem dX1_remember_59 : decode cX1_remember 59 = .ok (.iconst 1, 1) := by decide +kernel
theorem dX1_remember_60 : decode cX1_remember 60 = .ok (.iadd, 1) := by decide +kernel
theorem dX1_remember_61 : decode cX1_remember 61 = .ok (.putfield 24, 3) := by decide +kernel
theorem dX1_remember_64 : decode cX1_remember 64 = .ok (.aload_n 0, 1) := by decide +kernel
theorem dX1_remember_65 : decode cX1_remember 65 = .ok (.aload_n 0, 1) := by decide +kernel
theorem dX1_remember_66 : decode cX1_remember 66 = .ok (.getfield 24, 3) := by decide +kernel
theorem dX1_remember_69 : decode cX1_remember 69 = .ok (.putfield 28, 3) := by decide +kernel
theorem dX1_remember_72 : decode cX1_remember 72 = .ok (.return_, 1) := by decide +kernel
theorem dX1_dropOldest_0 : decode cX1_dropOldest 0 = .ok (.aload_n 0, 1) := by decide +kernel
theorem dX1_dropOldest_1 : decode cX1_dropOldest 1 = .ok (.bipush 39, 2) := by decide +kernel
theorem dX1_dropOldest_3 : decode cX1_dropOldest 3 = .ok (.putfield 24, 3) := by decide +kernel
theorem dX1_dropOldest_6 : decode cX1_dropOldest 6 = .ok (.aload_n 0, 1) := by decide +kernel
theorem dX1_dropOldest_7 : decode cX1_dropOldest 7 = .ok (.getfield 11, 3) := by decide +kernel
theorem dX1_dropOldest_10 : decode cX1_dropOldest 10 = .ok (.iconst 1, 1) := by decide +kernel
theorem dX1_dropOldest_11 : decode cX1_dropOldest 11 = .ok (.aload_n 0, 1) := by decide +kernel
theorem dX1_dropOldest_12 : decode cX1_dropOldest 12 = .ok (.getfield 11, 3) := by decide +kernel
theorem dX1_dropOldest_15 : decode cX1_dropOldest 15 = .ok (.iconst 0, 1) := by decide +kernel
theorem dX1_dropOldest_16 : decode cX1_dropOldest 16 = .ok (.aload_n 0, 1) := by decide +kernel
theorem dX1_dropOldest_17 : decode cX1_dropOldest 17 = .ok (.getfield 24, 3) := by decide +kernel
theorem dX1_dropOldest_20 : decode cX1_dropOldest 20 = .ok (.invokestatic 82, 3) := by decide +kernel
theorem dX1_dropOldest_23 : decode cX1_dropOldest 23 = .ok (.aload_n 0, 1) := by decide +kernel
theorem dX1_dropOldest_24 : decode cX1_dropOldest 24 = .ok (.getfield 15, 3) := by decide +kernel
theorem dX1_dropOldest_27 : decode cX1_dropOldest 27 = .ok (.iconst 1, 1) := by decide +kernel
theorem dX1_dropOldest_28 : decode cX1_dropOldest 28 = .ok (.aload_n 0, 1) := by decide +kernel
theorem dX1_dropOldest_29 : decode cX1_dropOldest 29 = .ok (.getfield 15, 3) := by decide +kernel
theorem dX1_dropOldest_32 : decode cX1_dropOldest 32 = .ok (.iconst 0, 1) := by decide +kernel
theorem dX1_dropOldest_33 : decode cX1_dropOldest 33 = .ok (.aload_n 0, 1) := by decide +kernel
theorem dX1_dropOldest_34 : decode cX1_dropOldest 34 = .ok (.getfield 24, 3) := by decide +kernel
theorem dX1_dropOldest_37 : decode cX1_dropOldest 37 = .ok (.invokestatic 82, 3) := by decide +kernel
theorem dX1_dropOldest_40 : decode cX1_dropOldest 40 = .ok (.aload_n 0, 1) := by decide +kernel
theorem dX1_dropOldest_41 : decode cX1_dropOldest 41 = .ok (.getfield 18, 3) := by decide +kernel
theorem dX1_dropOldest_44 : decode cX1_dropOldest 44 = .ok (.iconst 1, 1) := by decide +kernel
theorem dX1_dropOldest_45 : decode cX1_dropOldest 45 = .ok (.aload_n 0, 1) := by decide +kernel
theorem dX1_dropOldest_46 : decode cX1_dropOldest 46 = .ok (.getfield 18, 3) := by decide +kernel
theorem dX1_dropOldest_49 : decode cX1_dropOldest 49 = .ok (.iconst 0, 1) := by decide +kernel
theorem dX1_dropOldest_50 : decode cX1_dropOldest 50 = .ok (.aload_n 0, 1) := by decide +kernel
theorem dX1_dropOldest_51 : decode cX1_dropOldest 51 = .ok (.getfield 24, 3) := by decide +kernel
theorem dX1_dropOldest_54 : decode cX1_dropOldest 54 = .ok (.invokestatic 82, 3) := by decide +kernel
theorem dX1_dropOldest_57 : decode cX1_dropOldest 57 = .ok (.aload_n 0, 1) := by decide +kernel
theorem dX1_dropOldest_58 : decode cX1_dropOldest 58 = .ok (.getfield 21, 3) := by decide +kernel
theorem dX1_dropOldest_61 : decode cX1_dropOldest 61 = .ok (.iconst 1, 1) := by decide +kernel
theorem dX1_dropOldest_62 : decode cX1_dropOldest 62 = .ok (.aload_n 0, 1) := by decide +kernel
theorem dX1_dropOldest_63 : decode cX1_dropOldest 63 = .ok (.getfield 21, 3) := by decide +kernel
theorem dX1_dropOldest_66 : decode cX1_dropOldest 66 = .ok (.iconst 0, 1) := by decide +kernel
theorem dX1_dropOldest_67 : decode cX1_dropOldest 67 = .ok (.aload_n 0, 1) := by decide +kernel
theorem dX1_dropOldest_68 : decode cX1_dropOldest 68 = .ok (.getfield 24, 3) := by decide +kernel
theorem dX1_dropOldest_71 : decode cX1_dropOldest 71 = .ok (.invokestatic 82, 3) := by decide +kernel
theorem dX1_dropOldest_74 : decode cX1_dropOldest 74 = .ok (.return_, 1) := by decide +kernel
theorem dX1_goBack_0 : decode cX1_goBack 0 = .ok (.aload_n 0, 1) := by decide +kernel
theorem dX1_goBack_1 : decode cX1_goBack 1 = .ok (.getfield 24, 3) := by decide +kernel
theorem dX1_goBack_4 : decode cX1_goBack 4 = .ok (.ifCond .le 44, 3) := by decide +kernel
theorem dX1_goBack_7 : decode cX1_goBack 7 = .ok (.aload_n 0, 1) := by decide +kernel
theorem dX1_goBack_8 : decode cX1_goBack 8 = .ok (.dup, 1) := by decide +kernel
theorem dX1_goBack_9 : decode cX1_goBack 9 = .ok (.getfield 24, 3) := by decide +kernel
theorem dX1_goBack_12 : decode cX1_goBack 12 = .ok (.iconst 1, 1) := by decide +kernel
theorem dX1_goBack_13 : decode cX1_goBack 13 = .ok (.isub, 1) := by decide +kernel
theorem dX1_goBack_14 : decode cX1_goBack 14 = .ok (.putfield 24, 3) := by decide +kernel
theorem dX1_goBack_17 : decode cX1_goBack 17 = .ok (.aload_n 0, 1) := by decide +kernel
theorem dX1_goBack_18 : decode cX1_goBack 18 = .ok (.aload_n 0, 1) := by decide +kernel
theorem dX1_goBack_19 : decode cX1_goBack 19 = .ok (.getfield 11, 3) := by decide +kernel
theorem dX1_goBack_22 : decode cX1_goBack 22 = .ok (.aload_n 0, 1) := by decide +kernel
theorem dX1_goBack_23 : decode cX1_goBack 23 = .ok (.getfield 24, 3) := by decide +kernel
theorem dX1_goBack_26 : decode cX1_goBack 26 = .ok (.iaload, 1) := by decide +kernel
theorem dX1_goBack_27 : decode cX1_goBack 27 = .ok (.aload_n 0, 1) := by decide +kernel
theorem dX1_goBack_28 : decode cX1_goBack 28 = .ok (.getfield 15, 3) := by decide +kernel
theorem dX1_goBack_31 : decode cX1_goBack 31 = .ok (.aload_n 0, 1) := by decide +kernel
theorem dX1_goBack_32 : decode cX1_goBack 32 = .ok (.getfield 24, 3) := by decide +kernel
theorem dX1_goBack_35 : decode cX1_goBack 35 = .ok (.iaload, 1) := by decide +kernel
theorem dX1_goBack_36 : decode cX1_goBack 36 = .ok (.aload_n 0, 1) := by decide +kernel
theorem dX1_goBack_37 : decode cX1_goBack 37 = .ok (.getfield 18, 3) := by decide +kernel
theorem dX1_goBack_40 : decode cX1_goBack 40 = .ok (.aload_n 0, 1) := by decide +kernel
theorem dX1_goBack_41 : decode cX1_goBack 41 = .ok (.getfield 24, 3) := by decide +kernel
theorem dX1_goBack_44 : decode cX1_goBack 44 = .ok (.iaload, 1) := by decide +kernel
theorem dX1_goBack_45 : decode cX1_goBack 45 = .ok (.invokevirtual 43, 3) := by decide +kernel
theorem dX1_goBack_48 : decode cX1_goBack 48 = .ok (.return_, 1) := by decide +kernel
theorem dX1_goForward_0 : decode cX1_goForward 0 = .ok (.aload_n 0, 1) := by decide +kernel
theorem dX1_goForward_1 : decode cX1_goForward 1 = .ok (.getfield 24, 3) := by decide +kernel
theorem dX1_goForward_4 : decode cX1_goForward 4 = .ok (.aload_n 0, 1) := by decide +kernel
theorem dX1_goForward_5 : decode cX1_goForward 5 = .ok (.getfield 28, 3) := by decide +kernel
theorem dX1_goForward_8 : decode cX1_goForward 8 = .ok (.if_icmp .ge 53, 3) := by decide +kernel
theorem dX1_goForward_11 : decode cX1_goForward 11 = .ok (.aload_n 0, 1) := by decide +kernel
theorem dX1_goForward_12 : decode cX1_goForward 12 = .ok (.getfield 24, 3) := by decide +kernel
theorem dX1_goForward_15 : decode cX1_goForward 15 = .ok (.bipush 40, 2) := by decide +kernel
theorem dX1_goForward_17 : decode cX1_goForward 17 = .ok (.if_icmp .ge 44, 3) := by decide +kernel
theorem dX1_goForward_20 : decode cX1_goForward 20 = .ok (.aload_n 0, 1) := by decide +kernel
theorem dX1_goForward_21 : decode cX1_goForward 21 = .ok (.aload_n 0, 1) := by decide +kernel
theorem dX1_goForward_22 : decode cX1_goForward 22 = .ok (.getfield 11, 3) := by decide +kernel
theorem dX1_goForward_25 : decode cX1_goForward 25 = .ok (.aload_n 0, 1) := by decide +kernel
theorem dX1_goForward_26 : decode cX1_goForward 26 = .ok (.getfield 24, 3) := by decide +kernel
theorem dX1_goForward_29 : decode cX1_goForward 29 = .ok (.iaload, 1) := by decide +kernel
theorem dX1_goForward_30 : decode cX1_goForward 30 = .ok (.aload_n 0, 1) := by decide +kernel
theorem dX1_goForward_31 : decode cX1_goForward 31 = .ok (.getfield 15, 3) := by decide +kernel
theorem dX1_goForward_34 : decode cX1_goForward 34 = .ok (.aload_n 0, 1) := by decide +kernel
theorem dX1_goForward_35 : decode cX1_goForward 35 = .ok (.getfield 24, 3) := by decide +kernel
theorem dX1_goForward_38 : decode cX1_goForward 38 = .ok (.iaload, 1) := by decide +kernel
theorem dX1_goForward_39 : decode cX1_goForward 39 = .ok (.aload_n 0, 1) := by decide +kernel
theorem dX1_goForward_40 : decode cX1_goForward 40 = .ok (.getfield 21, 3) := by decide +kernel
theorem dX1_goForward_43 : decode cX1_goForward 43 = .ok (.aload_n 0, 1) := by decide +kernel
theorem dX1_goForward_44 : decode cX1_goForward 44 = .ok (.getfield 24, 3) := by decide +kernel
theorem dX1_goForward_47 : decode cX1_goForward 47 = .ok (.iaload, 1) := by decide +kernel
theorem dX1_goForward_48 : decode cX1_goForward 48 = .ok (.invokevirtual 43, 3) := by decide +kernel
theorem dX1_goForward_51 : decode cX1_goForward 51 = .ok (.aload_n 0, 1) := by decide +kernel
theorem dX1_goForward_52 : decode cX1_goForward 52 = .ok (.dup, 1) := by decide +kernel
theorem dX1_goForward_53 : decode cX1_goForward 53 = .ok (.getfield 24, 3) := by decide +kernel
theorem dX1_goForward_56 : decode cX1_goForward 56 = .ok (.iconst 1, 1) := by decide +kernel
theorem dX1_goForward_57 : decode cX1_goForward 57 = .ok (.iadd, 1) := by decide +kernel
theorem dX1_goForward_58 : decode cX1_goForward 58 = .ok (.putfield 24, 3) := by decide +kernel
theorem dX1_goForward_61 : decode cX1_goForward 61 = .ok (.return_, 1) := by decide +kernel
theorem dX2_init_0 : decode cX2_init 0 = .ok (.aload_n 0, 1) := by decide +kernel
theorem dX2_init_1 : decode cX2_init 1 = .ok (.invokespecial 3, 3) := by decide +kernel
theorem dX2_init_4 : decode cX2_init 4 = .ok (.aload_n 0, 1) := by decide +kernel
theorem dX2_init_5 : decode cX2_init 5 = .ok (.bipush 6, 2) := by decide +kernel
theorem dX2_init_7 : decode cX2_init 7 = .ok (.newarray .int, 2) := by decide +kernel
theorem dX2_init_9 : decode cX2_init 9 = .ok (.putfield 9, 3) := by decide +kernel
theorem dX2_init_12 : decode cX2_init 12 = .ok (.aload_n 0, 1) := by decide +kernel
theorem dX2_init_13 : decode cX2_init 13 = .ok (.bipush 6, 2) := by decide +kernel
theorem dX2_init_15 : decode cX2_init 15 = .ok (.newarray .int, 2) := by decide +kernel
theorem dX2_init_17 : decode cX2_init 17 = .ok (.putfield 15, 3) := by decide +kernel
theorem dX2_init_20 : decode cX2_init 20 = .ok (.aload_n 0, 1) := by decide +kernel
theorem dX2_init_21 : decode cX2_init 21 = .ok (.bipush 6, 2) := by decide +kernel
theorem dX2_init_23 : decode cX2_init 23 = .ok (.newarray .int, 2) := by decide +kernel
theorem dX2_init_25 : decode cX2_init 25 = .ok (.putfield 18, 3) := by decide +kernel
theorem dX2_init_28 : decode cX2_init 28 = .ok (.aload_n 0, 1) := by decide +kernel
theorem dX2_init_29 : decode cX2_init 29 = .ok (.bipush 6, 2) := by decide +kernel
theorem dX2_init_31 : decode cX2_init 31 = .ok (.newarray .int, 2) := by decide +kernel
theorem dX2_init_33 : decode cX2_init 33 = .ok (.putfield 21, 3) := by decide +kernel
theorem dX2_init_36 : decode cX2_init 36 = .ok (.aload_n 0, 1) := by decide +kernel
theorem dX2_init_37 : decode cX2_init 37 = .ok (.bipush 6, 2) := by decide +kernel
theorem dX2_init_39 : decode cX2_init 39 = .ok (.newarray .int, 2) := by decide +kernel
theorem dX2_init_41 : decode cX2_init 41 = .ok (.putfield 24, 3) := by decide +kernel
theorem dX2_init_44 : decode cX2_init 44 = .ok (.aload_n 0, 1) := by decide +kernel
theorem dX2_init_45 : decode cX2_init 45 = .ok (.iconst 0, 1) := by decide +kernel
theorem dX2_init_46 : decode cX2_init 46 = .ok (.putfield 27, 3) := by decide +kernel
theorem dX2_init_49 : decode cX2_init 49 = .ok (.aload_n 0, 1) := by decide +kernel
theorem dX2_init_50 : decode cX2_init 50 = .ok (.sipush 600, 3) := by decide +kernel
theorem dX2_init_53 : decode cX2_init 53 = .ok (.newarray .int, 2) := by decide +kernel
theorem dX2_init_55 : decode cX2_init 55 = .ok (.putfield 31, 3) := by decide +kernel
theorem dX2_init_58 : decode cX2_init 58 = .ok (.aload_n 0, 1) := by decide +kernel
theorem dX2_init_59 : decode cX2_init 59 = .ok (.sipush 600, 3) := by decide +kernel
theorem dX2_init_62 : decode cX2_init 62 = .ok (.newarray .int, 2) := by decide +kernel
theorem dX2_init_64 : decode cX2_init 64 = .ok (.putfield 34, 3) := by decide +kernel
theorem dX2_init_67 : decode cX2_init 67 = .ok (.aload_n 0, 1) := by decide +kernel
theorem dX2_init_68 : decode cX2_init 68 = .ok (.sipush 600, 3) := by decide +kernel
theorem dX2_init_71 : decode cX2_init 71 = .ok (.newarray .int, 2) := by decide +kernel
theorem dX2_init_73 : decode cX2_init 73 = .ok (.putfield 37, 3) := by decide +kernel
theorem dX2_init_76 : decode cX2_init 76 = .ok (.aload_n 0, 1) := by decide +kernel
theorem dX2_init_77 : decode cX2_init 77 = .ok (.iconst 0, 1) := by decide +kernel
theorem dX2_init_78 : decode cX2_init 78 = .ok (.putfield 40, 3) := by decide +kernel
theorem dX2_init_81 : decode cX2_init 81 = .ok (.aload_n 0, 1) := by decide +kernel
theorem dX2_init_82 : decode cX2_init 82 = .ok (.bipush 6, 2) := by decide +kernel
theorem dX2_init_84 : decode cX2_init 84 = .ok (.sipush 600, 3) := by decide +kernel
theorem dX2_init_87 : decode cX2_init 87 = .ok (.multianewarray 43 2, 4) := by decide +kernel
theorem dX2_init_91 : decode cX2_init 91 = .ok (.putfield 45, 3) := by decide +kernel
theorem dX2_init_94 : decode cX2_init 94 = .ok (.aload_n 0, 1) := by decide +kernel
theorem dX2_init_95 : decode cX2_init 95 = .ok (.bipush 6, 2) := by decide +kernel
theorem dX2_init_97 : decode cX2_init 97 = .ok (.sipush 600, 3) := by decide +kernel
theorem dX2_init_100 : decode cX2_init 100 = .ok (.multianewarray 43 2, 4) := by decide +kernel
theorem dX2_init_104 : decode cX2_init 104 = .ok (.putfield 48, 3) := by decide +kernel
theorem dX2_init_107 : decode cX2_init 107 = .ok (.aload_n 0, 1) := by decide +kernel
theorem dX2_init_108 : decode cX2_init 108 = .ok (.sipush 600, 3) := by decide +kernel
theorem dX2_init_111 : decode cX2_init 111 = .ok (.newarray .int, 2) := by decide +kernel
theorem dX2_init_113 : decode cX2_init 113 = .ok (.putfield 51, 3) := by decide +kernel
theorem dX2_init_116 : decode cX2_init 116 = .ok (.aload_n 0, 1) := by decide +kernel
theorem dX2_init_117 : decode cX2_init 117 = .ok (.bipush 6, 2) := by decide +kernel
theorem dX2_init_119 : decode cX2_init 119 = .ok (.newarray .boolean, 2) := by decide +kernel
theorem dX2_init_121 : decode cX2_init 121 = .ok (.putfield 54, 3) := by decide +kernel
theorem dX2_init_124 : decode cX2_init 124 = .ok (.aload_n 0, 1) := by decide +kernel
theorem dX2_init_125 : decode cX2_init 125 = .ok (.bipush 7, 2) := by decide +kernel
theorem dX2_init_127 : decode cX2_init 127 = .ok (.newarray .int, 2) := by decide +kernel
theorem dX2_init_129 : decode cX2_init 129 = .ok (.putfield 60, 3) := by decide +kernel
theorem dX2_init_132 : decode cX2_init 132 = .ok (.aload_n 0, 1) := by decide +kernel
theorem dX2_init_133 : decode cX2_init 133 = .ok (.aload_n 1, 1) := by decide +kernel
theorem dX2_init_134 : decode cX2_init 134 = .ok (.putfield 63, 3) := by decide +kernel
theorem dX2_init_137 : decode cX2_init 137 = .ok (.return_, 1) := by decide +kernel
theorem dX2_size_0 : decode cX2_size 0 = .ok (.aload_n 0, 1) := by decide +kernel
theorem dX2_size_1 : decode cX2_size 1 = .ok (.getfield 27, 3) := by decide +kernel
theorem dX2_size_4 : decode cX2_size 4 = .ok (.ireturn, 1) := by decide +kernel
theorem dX2_has_0 : decode cX2_has 0 = .ok (.iconst 0, 1) := by decide +kernel
theorem dX2_has_1 : decode cX2_has 1 = .ok (.iload_n 1, 1) := by decide +kernel
theorem dX2_has_2 : decode cX2_has 2 = .ok (.if_icmp .gt 15, 3) := by decide +kernel
theorem dX2_has_5 : decode cX2_has 5 = .ok (.iload_n 1, 1) := by decide +kernel
theorem dX2_has_6 : decode cX2_has 6 = .ok (.aload_n 0, 1) := by decide +kernel
theorem dX2_has_7 : decode cX2_has 7 = .ok (.getfield 27, 3) := by decide +kernel
theorem dX2_has_10 : decode cX2_has 10 = .ok (.if_icmp .ge 7, 3) := by decide +kernel
theorem dX2_has_13 : decode cX2_has 13 = .ok (.iconst 1, 1) := by decide +kernel
theorem dX2_has_14 : decode cX2_has 14 = .ok (.goto 4, 3) := by decide +kernel
theorem dX2_has_17 : decode cX2_has 17 = .ok (.iconst 0, 1) := by decide +kernel
theorem dX2_has_18 : decode cX2_has 18 = .ok (.ireturn, 1) := by decide +kernel
theorem dX2_add_0 : decode cX2_add 0 = .ok (.aload_n 0, 1) := by decide +kernel
theorem dX2_add_1 : decode cX2_add 1 = .ok (.getfield 27, 3) := by decide +kernel
theorem dX2_add_4 : decode cX2_add 4 = .ok (.bipush 6, 2) := by decide +kernel
theorem dX2_add_6 : decode cX2_add 6 = .ok (.if_icmp .lt 6, 3) := by decide +kernel
theorem dX2_add_9 : decode cX2_add 9 = .ok (.bipush (-3), 2) := by decide +kernel
theorem dX2_add_11 : decode cX2_add 11 = .ok (.ireturn, 1) := by decide +kernel
theorem dX2_add_12 : decode cX2_add 12 = .ok (.aload_n 0, 1) := by decide +kernel
theorem dX2_add_13 : decode cX2_add 13 = .ok (.getfield 9, 3) := by decide +kernel
theorem dX2_add_16 : decode cX2_add 16 = .ok (.aload_n 0, 1) := by decide +kernel
theorem dX2_add_17 : decode cX2_add 17 = .ok (.getfield 27, 3) := by decide +kernel
theorem dX2_add_20 : decode cX2_add 20 = .ok (.iload_n 1, 1) := by decide +kernel
theorem dX2_add_21 : decode cX2_add 21 = .ok (.iastore, 1) := by decide +kernel
theorem dX2_add_22 : decode cX2_add 22 = .ok (.aload_n 0, 1) := by decide +kernel
theorem dX2_add_23 : decode cX2_add 23 = .ok (.getfield 15, 3) := by decide +kernel
theorem dX2_add_26 : decode cX2_add 26 = .ok (.aload_n 0, 1) := by decide +kernel
theorem dX2_add_27 : decode cX2_add 27 = .ok (.getfield 27, 3) := by decide +kernel
theorem dX2_add_30 : decode cX2_add 30 = .ok (.iload_n 2, 1) := by decide +kernel
theorem dX2_add_31 : decode cX2_add 31 = .ok (.iastore, 1) := by decide +kernel
theorem dX2_add_32 : decode cX2_add 32 = .ok (.aload_n 0, 1) := by decide +kernel
theorem dX2_add_33 : decode cX2_add 33 = .ok (.getfield 18, 3) := by decide +kernel
theorem dX2_add_36 : decode cX2_add 36 = .ok (.aload_n 0, 1) := by decide +kernel
theorem dX2_add_37 : decode cX2_add 37 = .ok (.getfield 27, 3) := by decide +kernel
theorem dX2_add_40 : decode cX2_add 40 = .ok (.iload_n 3, 1) := by decide +kernel
theorem dX2_add_41 : decode cX2_add 41 = .ok (.iastore, 1) := by decide +kernel
theorem dX2_add_42 : decode cX2_add 42 = .ok (.aload_n 0, 1) := by decide +kernel
theorem dX2_add_43 : decode cX2_add 43 = .ok (.getfield 21, 3) := by decide +kernel
theorem dX2_add_46 : decode cX2_add 46 = .ok (.aload_n 0, 1) := by decide +kernel
theorem dX2_add_47 : decode cX2_add 47 = .ok (.getfield 27, 3) := by decide +kernel
theorem dX2_add_50 : decode cX2_add 50 = .ok (.iload 4, 2) := by decide +kernel
theorem dX2_add_52 : decode cX2_add 52 = .ok (.iastore, 1) := by decide +kernel
theorem dX2_add_53 : decode cX2_add 53 = .ok (.aload_n 0, 1) := by decide +kernel
theorem dX2_add_54 : decode cX2_add 54 = .ok (.getfield 24, 3) := by decide +kernel
theorem dX2_add_57 : decode cX2_add 57 = .ok (.aload_n 0, 1) := by decide +kernel
theorem dX2_add_58 : decode cX2_add 58 = .ok (.getfield 27, 3) := by decide +kernel
theorem dX2_add_61 : decode cX2_add 61 = .ok (.iload 5, 2) := by decide +kernel
theorem dX2_add_63 : decode cX2_add 63 = .ok (.iastore, 1) := by decide +kernel
theorem dX2_add_64 : decode cX2_add 64 = .ok (.aload_n 0, 1) := by decide +kernel
theorem dX2_add_65 : decode cX2_add 65 = .ok (.getfield 54, 3) := by decide +kernel
theorem dX2_add_68 : decode cX2_add 68 = .ok (.aload_n 0, 1) := by decide +kernel
theorem dX2_add_69 : decode cX2_add 69 = .ok (.getfield 27, 3) := by decide +kernel
theorem dX2_add_72 : decode cX2_add 72 = .ok (.iconst 1, 1) := by decide +kernel
theorem dX2_add_73 : decode cX2_add 73 = .ok (.bastore, 1) := by decide +kernel
theorem dX2_add_74 : decode cX2_add 74 = .ok (.aload_n 0, 1) := by decide +kernel
theorem dX2_add_75 : decode cX2_add 75 = .ok (.dup, 1) := by decide +kernel
theorem dX2_add_76 : decode cX2_add 76 = .ok (.getfield 27, 3) := by decide +kernel
theorem dX2_add_79 : decode cX2_add 79 = .ok (.iconst 1, 1) := by decide +kernel
theorem dX2_add_80 : decode cX2_add 80 = .ok (.iadd, 1) := by decide +kernel
theorem dX2_add_81 : decode cX2_add 81 = .ok (.putfield 27, 3) := by decide +kernel
theorem dX2_add_84 : decode cX2_add 84 = .ok (.aload_n 0, 1) := by decide +kernel
theorem dX2_add_85 : decode cX2_add 85 = .ok (.getfield 27, 3) := by decide +kernel
theorem dX2_add_88 : decode cX2_add 88 = .ok (.iconst 1, 1) := by decide +kernel
theorem dX2_add_89 : decode cX2_add 89 = .ok (.isub, 1) := by decide +kernel
theorem dX2_add_90 : decode cX2_add 90 = .ok (.ireturn, 1) := by decide +kernel
theorem dX2_told_0 : decode cX2_told 0 = .ok (.aload_n 0, 1) := by decide +kernel
theorem dX2_told_1 : decode cX2_told 1 = .ok (.iload_n 1, 1) := by decide +kernel
theorem dX2_told_2 : decode cX2_told 2 = .ok (.invokevirtual 67, 3) := by decide +kernel
theorem dX2_told_5 : decode cX2_told 5 = .ok (.ifCond .ne 6, 3) := by decide +kernel
theorem dX2_told_8 : decode cX2_told 8 = .ok (.ldc 71, 2) := by decide +kernel
theorem dX2_told_10 : decode cX2_told 10 = .ok (.ireturn, 1) := by decide +kernel
theorem dX2_told_11 : decode cX2_told 11 = .ok (.iload_n 2, 1) := by decide +kernel
theorem dX2_told_12 : decode cX2_told 12 = .ok (.tableswitch 71 0 4 #[36, 43, 50, 57, 64], 36) := by decide +kernel
theorem dX2_told_48 : decode cX2_told 48 = .ok (.aload_n 0, 1) := by decide +kernel
theorem dX2_told_49 : decode cX2_told 49 = .ok (.getfield 9, 3) := by decide +kernel
theorem dX2_told_52 : decode cX2_told 52 = .ok (.iload_n 1, 1) := by decide +kernel
theorem dX2_told_53 : decode cX2_told 53 = .ok (.iaload, 1) := by decide +kernel
theorem dX2_told_54 : decode cX2_told 54 = .ok (.ireturn, 1) := by decide +kernel
theorem dX2_told_55 : decode cX2_told 55 = .ok (.aload_n 0, 1) := by decide +kernel
theorem dX2_told_56 : decode cX2_told 56 = .ok (.getfield 15, 3) := by decide +kernel
theorem dX2_told_59 : decode cX2_told 59 = .ok (.iload_n 1, 1) := by decide +kernel
theorem dX2_told_60 : decode cX2_told 60 = .ok (.iaload, 1) := by decide +kernel
theorem dX2_told_61 : decode cX2_told 61 = .ok (.ireturn, 1) := by decide +kernel
theorem dX2_told_62 : decode cX2_told 62 = .ok (.aload_n 0, 1) := by decide +kernel
theorem dX2_told_63 : decode cX2_told 63 = .ok (.getfield 18, 3) := by decide +kernel
theorem dX2_told_66 : decode cX2_told 66 = .ok (.iload_n 1, 1) := by decide +kernel
theorem dX2_told_67 : decode cX2_told 67 = .ok (.iaload, 1) := by decide +kernel
theorem dX2_told_68 : decode cX2_told 68 = .ok (.ireturn, 1) := by decide +kernel
theorem dX2_told_69 : decode cX2_told 69 = .ok (.aload_n 0, 1) := by decide +kernel
theorem dX2_told_70 : decode cX2_told 70 = .ok (.getfield 21, 3) := by decide +kernel
theorem dX2_told_73 : decode cX2_told 73 = .ok (.iload_n 1, 1) := by decide +kernel
theorem dX2_told_74 : decode cX2_told 74 = .ok (.iaload, 1) := by decide +kernel
theorem dX2_told_75 : decode cX2_told 75 = .ok (.ireturn, 1) := by decide +kernel
theorem dX2_told_76 : decode cX2_told 76 = .ok (.aload_n 0, 1) := by decide +kernel
theorem dX2_told_77 : decode cX2_told 77 = .ok (.getfield 24, 3) := by decide +kernel
theorem dX2_told_80 : decode cX2_told 80 = .ok (.iload_n 1, 1) := by decide +kernel
theorem dX2_told_81 : decode cX2_told 81 = .ok (.iaload, 1) := by decide +kernel
theorem dX2_told_82 : decode cX2_told 82 = .ok (.ireturn, 1) := by decide +kernel
theorem dX2_told_83 : decode cX2_told 83 = .ok (.ldc 71, 2) := by decide +kernel
theorem dX2_told_85 : decode cX2_told 85 = .ok (.ireturn, 1) := by decide +kernel
theorem dX2_bornIn_0 : decode cX2_bornIn 0 = .ok (.aload_n 0, 1) := by decide +kernel
theorem dX2_bornIn_1 : decode cX2_bornIn 1 = .ok (.iload_n 1, 1) := by decide +kernel
theorem dX2_bornIn_2 : decode cX2_bornIn 2 = .ok (.invokevirtual 67, 3) := by decide +kernel
theorem dX2_bornIn_5 : decode cX2_bornIn 5 = .ok (.ifCond .eq 12, 3) := by decide +kernel
theorem dX2_bornIn_8 : decode cX2_bornIn 8 = .ok (.aload_n 0, 1) := by decide +kernel
theorem dX2_bornIn_9 : decode cX2_bornIn 9 = .ok (.getfield 9, 3) := by decide +kernel
theorem dX2_bornIn_12 : decode cX2_bornIn 12 = .ok (.iload_n 1, 1) := by decide +kernel
theorem dX2_bornIn_13 : decode cX2_bornIn 13 = .ok (.iaload, 1) := by decide +kernel
theorem dX2_bornIn_14 : decode cX2_bornIn 14 = .ok (.goto 6, 3) := by decide +kernel
theorem dX2_bornIn_17 : decode cX2_bornIn 17 = .ok (.sipush 600, 3) := by decide +kernel
theorem dX2_bornIn_20 : decode cX2_bornIn 20 = .ok (.ireturn, 1) := by decide +kernel
theorem dX2_isBorn_0 : decode cX2_isBorn 0 = .ok (.aload_n 0, 1) := by decide +kernel
theorem dX2_isBorn_1 : decode cX2_isBorn 1 = .ok (.iload_n 1, 1) := by decide +kernel
theorem dX2_isBorn_2 : decode cX2_isBorn 2 = .ok (.invokevirtual 67, 3) := by decide +kernel
theorem dX2_isBorn_5 : decode cX2_isBorn 5 = .ok (.ifCond .eq 17, 3) := by decide +kernel
theorem dX2_isBorn_8 : decode cX2_isBorn 8 = .ok (.iload_n 2, 1) := by decide +kernel
theorem dX2_isBorn_9 : decode cX2_isBorn 9 = .ok (.aload_n 0, 1) := by decide +kernel
theorem dX2_isBorn_10 : decode cX2_isBorn 10 = .ok (.getfield 9, 3) := by decide +kernel
theorem dX2_isBorn_13 : decode cX2_isBorn 13 = .ok (.iload_n 1, 1) := by decide +kernel
theorem dX2_isBorn_14 : decode cX2_isBorn 14 = .ok (.iaload, 1) := by decide +kernel
theorem dX2_isBorn_15 : decode cX2_isBorn 15 = .ok (.if_icmp .lt 7, 3) := by decide +kernel
theorem dX2_isBorn_18 : decode cX2_isBorn 18 = .ok (.iconst 1, 1) := by decide +kernel
theorem dX2_isBorn_19 : decode cX2_isBorn 19 = .ok (.goto 4, 3) := by decide +kernel
theorem dX2_isBorn_22 : decode cX2_isBorn 22 = .ok (.iconst 0, 1) := by decide +kernel
theorem dX2_isBorn_23 : decode cX2_isBorn 23 = .ok (.ireturn, 1) := by decide +kernel
theorem dX2_becomeLate_0 : decode cX2_becomeLate 0 = .ok (.aload_n 0, 1) := by decide +kernel
theorem dX2_becomeLate_1 : decode cX2_becomeLate 1 = .ok (.iload_n 1, 1) := by decide +kernel
theorem dX2_becomeLate_2 : decode cX2_becomeLate 2 = .ok (.invokevirtual 67, 3) := by decide +kernel
theorem dX2_becomeLate_5 : decode cX2_becomeLate 5 = .ok (.ifCond .eq 17, 3) := by decide +kernel
theorem dX2_becomeLate_8 : decode cX2_becomeLate 8 = .ok (.aload_n 0, 1) := by decide +kernel
theorem dX2_becomeLate_9 : decode cX2_becomeLate 9 = .ok (.getfield 21, 3) := by decide +kernel
theorem dX2_becomeLate_12 : decode cX2_becomeLate 12 = .ok (.iload_n 1, 1) := by decide +kernel
theorem dX2_becomeLate_13 : decode cX2_becomeLate 13 = .ok (.iload_n 2, 1) := by decide +kernel
theorem dX2_becomeLate_14 : decode cX2_becomeLate 14 = .ok (.iastore, 1) := by decide +kernel
theorem dX2_becomeLate_15 : decode cX2_becomeLate 15 = .ok (.aload_n 0, 1) := by decide +kernel
theorem dX2_becomeLate_16 : decode cX2_becomeLate 16 = .ok (.getfield 54, 3) := by decide +kernel
theorem dX2_becomeLate_19 : decode cX2_becomeLate 19 = .ok (.iload_n 1, 1) := by decide +kernel
theorem dX2_becomeLate_20 : decode cX2_becomeLate 20 = .ok (.iconst 1, 1) := by decide +kernel
theorem dX2_becomeLate_21 : decode cX2_becomeLate 21 = .ok (.bastore, 1) := by decide +kernel
theorem dX2_becomeLate_22 : decode cX2_becomeLate 22 = .ok (.return_, 1) := by decide +kernel
theorem dX2_becomeParents_0 : decode cX2_becomeParents 0 = .ok (.aload_n 0, 1) := by decide +kernel
theorem dX2_becomeParents_1 : decode cX2_becomeParents 1 = .ok (.iload_n 1, 1) := by decide +kernel
theorem dX2_becomeParents_2 : decode cX2_becomeParents 2 = .ok (.invokevirtual 67, 3) := by decide +kernel
theorem dX2_becomeParents_5 : decode cX2_becomeParents 5 = .ok (.ifCond .eq 17, 3) := by decide +kernel
theorem dX2_becomeParents_8 : decode cX2_becomeParents 8 = .ok (.aload_n 0, 1) := by decide +kernel
theorem dX2_becomeParents_9 : decode cX2_becomeParents 9 = .ok (.getfield 24, 3) := by decide +kernel
theorem dX2_becomeParents_12 : decode cX2_becomeParents 12 = .ok (.iload_n 1, 1) := by decide +kernel
theorem dX2_becomeParents_13 : decode cX2_becomeParents 13 = .ok (.iload_n 2, 1) := by decide +kernel
theorem dX2_becomeParents_14 : decode cX2_becomeParents 14 = .ok (.iastore, 1) := by decide +kernel
theorem dX2_becomeParents_15 : decode cX2_becomeParents 15 = .ok (.aload_n 0, 1) := by decide +kernel
theorem dX2_becomeParents_16 : decode cX2_becomeParents 16 = .ok (.getfield 54, 3) := by decide +kernel
theorem dX2_becomeParents_19 : decode cX2_becomeParents 19 = .ok (.iload_n 1, 1) := by decide +kernel
theorem dX2_becomeParents_20 : decode cX2_becomeParents 20 = .ok (.iconst 1, 1) := by decide +kernel
theorem dX2_becomeParents_21 : decode cX2_becomeParents 21 = .ok (.bastore, 1) := by decide +kernel
theorem dX2_becomeParents_22 : decode cX2_becomeParents 22 = .ok (.return_, 1) := by decide +kernel
theorem dX2_wantsTold_0 : decode cX2_wantsTold 0 = .ok (.aload_n 0, 1) := by decide +kernel
theorem dX2_wantsTold_1 : decode cX2_wantsTold 1 = .ok (.getfield 40, 3) := by decide +kernel
theorem dX2_wantsTold_4 : decode cX2_wantsTold 4 = .ok (.ireturn, 1) := by decide +kernel
theorem dX2_wantAt_0 : decode cX2_wantAt 0 = .ok (.iload_n 1, 1) := by decide +kernel
theorem dX2_wantAt_1 : decode cX2_wantAt 1 = .ok (.invokestatic 72, 3) := by decide +kernel
theorem dX2_wantAt_4 : decode cX2_wantAt 4 = .ok (.ifCond .eq 12, 3) := by decide +kernel
theorem dX2_wantAt_7 : decode cX2_wantAt 7 = .ok (.aload_n 0, 1) := by decide +kernel
theorem dX2_wantAt_8 : decode cX2_wantAt 8 = .ok (.getfield 31, 3) := by decide +kernel
theorem dX2_wantAt_11 : decode cX2_wantAt 11 = .ok (.iload_n 1, 1) := by decide +kernel
theorem dX2_wantAt_12 : decode cX2_wantAt 12 = .ok (.iaload, 1) := by decide +kernel
theorem dX2_wantAt_13 : decode cX2_wantAt 13 = .ok (.goto 4, 3) := by decide +kernel
theorem dX2_wantAt_16 : decode cX2_wantAt 16 = .ok (.iconst 0, 1) := by decide +kernel
theorem dX2_wantAt_17 : decode cX2_wantAt 17 = .ok (.ireturn, 1) := by decide +kernel
theorem dX2_addWant_0 : decode cX2_addWant 0 = .ok (.aload_n 0, 1) := by decide +kernel
theorem dX2_addWant_1 : decode cX2_addWant 1 = .ok (.getfield 31, 3) := by decide +kernel
theorem dX2_addWant_4 : decode cX2_addWant 4 = .ok (.iload_n 1, 1) := by decide +kernel
theorem dX2_addWant_5 : decode cX2_addWant 5 = .ok (.iload_n 2, 1) := by decide +kernel
theorem dX2_addWant_6 : decode cX2_addWant 6 = .ok (.iload_n 3, 1) := by decide +kernel
theorem dX2_addWant_7 : decode cX2_addWant 7 = .ok (.invokestatic 75, 3) := by decide +kernel
theorem dX2_addWant_10 : decode cX2_addWant 10 = .ok (.aload_n 0, 1) := by decide +kernel
theorem dX2_addWant_11 : decode cX2_addWant 11 = .ok (.invokevirtual 79, 3) := by decide +kernel
theorem dX2_addWant_14 : decode cX2_addWant 14 = .ok (.aload_n 0, 1) := by decide +kernel
theorem dX2_addWant_15 : decode cX2_addWant 15 = .ok (.dup, 1) := by decide +kernel
theorem dX2_addWant_16 : decode cX2_addWant 16 = .ok (.getfield 40, 3) := by decide +kernel
theorem dX2_addWant_19 : decode cX2_addWant 19 = .ok (.iconst 1, 1) := by decide +kernel
theorem dX2_addWant_20 : decode cX2_addWant 20 = .ok (.iadd, 1) := by decide +kernel
theorem dX2_addWant_21 : decode cX2_addWant 21 = .ok (.putfield 40, 3) := by decide +kernel
theorem dX2_addWant_24 : decode cX2_addWant 24 = .ok (.aload_n 0, 1) := by decide +kernel
theorem dX2_addWant_25 : decode cX2_addWant 25 = .ok (.getfield 40, 3) := by decide +kernel
theorem dX2_addWant_28 : decode cX2_addWant 28 = .ok (.iconst 1, 1) := by decide +kernel
theorem dX2_addWant_29 : decode cX2_addWant 29 = .ok (.isub, 1) := by decide +kernel
theorem dX2_addWant_30 : decode cX2_addWant 30 = .ok (.ireturn, 1) := by decide +kernel
theorem dX2_raise_0 : decode cX2_raise 0 = .ok (.iconst 0, 1) := by decide +kernel
theorem dX2_raise_1 : decode cX2_raise 1 = .ok (.iload_n 1, 1) := by decide +kernel
theorem dX2_raise_2 : decode cX2_raise 2 = .ok (.invokestatic 82, 3) := by decide +kernel
theorem dX2_raise_5 : decode cX2_raise 5 = .ok (.istore 4, 2) := by decide +kernel
theorem dX2_raise_7 : decode cX2_raise 7 = .ok (.iload 4, 2) := by decide +kernel
theorem dX2_raise_9 : decode cX2_raise 9 = .ok (.iload_n 2, 1) := by decide +kernel
theorem dX2_raise_10 : decode cX2_raise 10 = .ok (.if_icmp .gt 28, 3) := by decide +kernel
theorem dX2_raise_13 : decode cX2_raise 13 = .ok (.iload 4, 2) := by decide +kernel
theorem dX2_raise_15 : decode cX2_raise 15 = .ok (.aload_n 0, 1) := by decide +kernel
theorem dX2_raise_16 : decode cX2_raise 16 = .ok (.arraylength, 1) := by decide +kernel
theorem dX2_raise_17 : decode cX2_raise 17 = .ok (.if_icmp .ge 21, 3) := by decide +kernel
theorem dX2_raise_20 : decode cX2_raise 20 = .ok (.aload_n 0, 1) := by decide +kernel
theorem dX2_raise_21 : decode cX2_raise 21 = .ok (.iload 4, 2) := by decide +kernel
theorem dX2_raise_23 : decode cX2_raise 23 = .ok (.aload_n 0, 1) := by decide +kernel
theorem dX2_raise_24 : decode cX2_raise 24 = .ok (.iload 4, 2) := by decide +kernel
theorem dX2_raise_26 : decode cX2_raise 26 = .ok (.iaload, 1) := by decide +kernel
theorem dX2_raise_27 : decode cX2_raise 27 = .ok (.iload_n 3, 1) := by decide +kernel
theorem dX2_raise_28 : decode cX2_raise 28 = .ok (.invokestatic 82, 3) := by decide +kernel
theorem dX2_raise_31 : decode cX2_raise 31 = .ok (.iastore, 1) := by decide +kernel
theorem dX2_raise_32 : decode cX2_raise 32 = .ok (.iinc 4 1, 3) := by decide +kernel
theorem dX2_raise_35 : decode cX2_raise 35 = .ok (.goto (-28), 3) := by decide +kernel
theorem dX2_raise_38 : decode cX2_raise 38 = .ok (.return_, 1) := by decide +kernel
theorem dX2_forgetHeights_0 : decode cX2_forgetHeights 0 = .ok (.iconst 0, 1) := by decide +kernel
theorem dX2_forgetHeights_1 : decode cX2_forgetHeights 1 = .ok (.istore_n 1, 1) := by decide +kernel
theorem dX2_forgetHeights_2 : decode cX2_forgetHeights 2 = .ok (.iload_n 1, 1) := by decide +kernel
theorem dX2_forgetHeights_3 : decode cX2_forgetHeights 3 = .ok (.aload_n 0, 1) := by decide +kernel
theorem dX2_forgetHeights_4 : decode cX2_forgetHeights 4 = .ok (.getfield 27, 3) := by decide +kernel
theorem dX2_forgetHeights_7 : decode cX2_forgetHeights 7 = .ok (.if_icmp .ge 22, 3) := by decide +kernel
theorem dX2_forgetHeights_10 : decode cX2_forgetHeights 10 = .ok (.iload_n 1, 1) := by decide +kernel
theorem dX2_forgetHeights_11 : decode cX2_forgetHeights 11 = .ok (.bipush 6, 2) := by decide +kernel
theorem dX2_forgetHeights_13 : decode cX2_forgetHeights 13 = .ok (.if_icmp .ge 16, 3) := by decide +kernel
theorem dX2_forgetHeights_16 : decode cX2_forgetHeights 16 = .ok (.aload_n 0, 1) := by decide +kernel
theorem dX2_forgetHeights_17 : decode cX2_forgetHeights 17 = .ok (.getfield 54, 3) := by decide +kernel
theorem dX2_forgetHeights_20 : decode cX2_forgetHeights 20 = .ok (.iload_n 1, 1) := by decide +kernel
theorem dX2_forgetHeights_21 : decode cX2_forgetHeights 21 = .ok (.iconst 1, 1) := by decide +kernel
theorem dX2_forgetHeights_22 : decode cX2_forgetHeights 22 = .ok (.bastore, 1) := by decide +kernel
theorem dX2_forgetHeights_23 : decode cX2_forgetHeights 23 = .ok (.iinc 1 1, 3) := by decide +kernel
theorem dX2_forgetHeights_26 : decode cX2_forgetHeights 26 = .ok (.goto (-24), 3) := by decide +kernel
theorem dX2_forgetHeights_29 : decode cX2_forgetHeights 29 = .ok (.return_, 1) := by decide +kernel
theorem dX2_refresh_0 : decode cX2_refresh 0 = .ok (.iconst 0, 1) := by decide +kernel
theorem dX2_refresh_1 : decode cX2_refresh 1 = .ok (.istore_n 1, 1) := by decide +kernel
theorem dX2_refresh_2 : decode cX2_refresh 2 = .ok (.iload_n 1, 1) := by decide +kernel
theorem dX2_refresh_3 : decode cX2_refresh 3 = .ok (.aload_n 0, 1) := by decide +kernel
theorem dX2_refresh_4 : decode cX2_refresh 4 = .ok (.getfield 27, 3) := by decide +kernel
theorem dX2_refresh_7 : decode cX2_refresh 7 = .ok (.if_icmp .ge 119, 3) := by decide +kernel
theorem dX2_refresh_10 : decode cX2_refresh 10 = .ok (.iload_n 1, 1) := by decide +kernel
theorem dX2_refresh_11 : decode cX2_refresh 11 = .ok (.bipush 6, 2) := by decide +kernel
theorem dX2_refresh_13 : decode cX2_refresh 13 = .ok (.if_icmp .ge 113, 3) := by decide +kernel
theorem dX2_refresh_16 : decode cX2_refresh 16 = .ok (.aload_n 0, 1) := by decide +kernel
theorem dX2_refresh_17 : decode cX2_refresh 17 = .ok (.getfield 54, 3) := by decide +kernel
theorem dX2_refresh_20 : decode cX2_refresh 20 = .ok (.iload_n 1, 1) := by decide +kernel
theorem dX2_refresh_21 : decode cX2_refresh 21 = .ok (.baload, 1) := by decide +kernel
theorem dX2_refresh_22 : decode cX2_refresh 22 = .ok (.ifCond .eq 98, 3) := by decide +kernel
theorem dX2_refresh_25 : decode cX2_refresh 25 = .ok (.aload_n 0, 1) := by decide +kernel
theorem dX2_refresh_26 : decode cX2_refresh 26 = .ok (.aload_n 0, 1) := by decide +kernel
theorem dX2_refresh_27 : decode cX2_refresh 27 = .ok (.getfield 15, 3) := by decide +kernel
theorem dX2_refresh_30 : decode cX2_refresh 30 = .ok (.iload_n 1, 1) := by decide +kernel
theorem dX2_refresh_31 : decode cX2_refresh 31 = .ok (.iaload, 1) := by decide +kernel
theorem dX2_refresh_32 : decode cX2_refresh 32 = .ok (.aload_n 0, 1) := by decide +kernel
theorem dX2_refresh_33 : decode cX2_refresh 33 = .ok (.getfield 24, 3) := by decide +kernel
theorem dX2_refresh_36 : decode cX2_refresh 36 = .ok (.iload_n 1, 1) := by decide +kernel
theorem dX2_refresh_37 : decode cX2_refresh 37 = .ok (.iaload, 1) := by decide +kernel
theorem dX2_refresh_38 : decode cX2_refresh 38 = .ok (.iload_n 1, 1) := by decide +kernel
theorem dX2_refresh_39 : decode cX2_refresh 39 = .ok (.invokevirtual 88, 3) := by decide +kernel
theorem dX2_refresh_42 : decode cX2_refresh 42 = .ok (.aload_n 0, 1) := by decide +kernel
theorem dX2_refresh_43 : decode cX2_refresh 43 = .ok (.aload_n 0, 1) := by decide +kernel
theorem dX2_refresh_44 : decode cX2_refresh 44 = .ok (.getfield 45, 3) := by decide +kernel
theorem dX2_refresh_47 : decode cX2_refresh 47 = .ok (.iload_n 1, 1) := by decide +kernel
theorem dX2_refresh_48 : decode cX2_refresh 48 = .ok (.aaload, 1) := by decide +kernel
theorem dX2_refresh_49 : decode cX2_refresh 49 = .ok (.aload_n 0, 1) := by decide +kernel
theorem dX2_refresh_50 : decode cX2_refresh 50 = .ok (.getfield 9, 3) := by decide +kernel
theorem dX2_refresh_53 : decode cX2_refresh 53 = .ok (.iload_n 1, 1) := by decide +kernel
theorem dX2_refresh_54 : decode cX2_refresh 54 = .ok (.iaload, 1) := by decide +kernel
theorem dX2_refresh_55 : decode cX2_refresh 55 = .ok (.aload_n 0, 1) := by decide +kernel
theorem dX2_refresh_56 : decode cX2_refresh 56 = .ok (.getfield 18, 3) := by decide +kernel
theorem dX2_refresh_59 : decode cX2_refresh 59 = .ok (.iload_n 1, 1) := by decide +kernel
theorem dX2_refresh_60 : decode cX2_refresh 60 = .ok (.iaload, 1) := by decide +kernel
theorem dX2_refresh_61 : decode cX2_refresh 61 = .ok (.aload_n 0, 1) := by decide +kernel
theorem dX2_refresh_62 : decode cX2_refresh 62 = .ok (.getfield 21, 3) := by decide +kernel
theorem dX2_refresh_65 : decode cX2_refresh 65 = .ok (.iload_n 1, 1) := by decide +kernel
theorem dX2_refresh_66 : decode cX2_refresh 66 = .ok (.iaload, 1) := by decide +kernel
theorem dX2_refresh_67 : decode cX2_refresh 67 = .ok (.aload_n 0, 1) := by decide +kernel
theorem dX2_refresh_68 : decode cX2_refresh 68 = .ok (.getfield 31, 3) := by decide +kernel
theorem dX2_refresh_71 : decode cX2_refresh 71 = .ok (.invokevirtual 92, 3) := by decide +kernel
theorem dX2_refresh_74 : decode cX2_refresh 74 = .ok (.aload_n 0, 1) := by decide +kernel
theorem dX2_refresh_75 : decode cX2_refresh 75 = .ok (.aload_n 0, 1) := by decide +kernel
theorem dX2_refresh_76 : decode cX2_refresh 76 = .ok (.getfield 15, 3) := by decide +kernel
theorem dX2_refresh_79 : decode cX2_refresh 79 = .ok (.iload_n 1, 1) := by decide +kernel
theorem dX2_refresh_80 : decode cX2_refresh 80 = .ok (.iaload, 1) := by decide +kernel
theorem dX2_refresh_81 : decode cX2_refresh 81 = .ok (.sipush 4300, 3) := by decide +kernel
theorem dX2_refresh_84 : decode cX2_refresh 84 = .ok (.bipush 6, 2) := by decide +kernel
theorem dX2_refresh_86 : decode cX2_refresh 86 = .ok (.invokevirtual 88, 3) := by decide +kernel
theorem dX2_refresh_89 : decode cX2_refresh 89 = .ok (.aload_n 0, 1) := by decide +kernel
theorem dX2_refresh_90 : decode cX2_refresh 90 = .ok (.aload_n 0, 1) := by decide +kernel
theorem dX2_refresh_91 : decode cX2_refresh 91 = .ok (.getfield 48, 3) := by decide +kernel
theorem dX2_refresh_94 : decode cX2_refresh 94 = .ok (.iload_n 1, 1) := by decide +kernel
theorem dX2_refresh_95 : decode cX2_refresh 95 = .ok (.aaload, 1) := by decide +kernel
theorem dX2_refresh_96 : decode cX2_refresh 96 = .ok (.aload_n 0, 1) := by decide +kernel
theorem dX2_refresh_97 : decode cX2_refresh 97 = .ok (.getfield 9, 3) := by decide +kernel
theorem dX2_refresh_100 : decode cX2_refresh 100 = .ok (.iload_n 1, 1) := by decide +kernel
theorem dX2_refresh_101 : decode cX2_refresh 101 = .ok (.iaload, 1) := by decide +kernel
theorem dX2_refresh_102 : decode cX2_refresh 102 = .ok (.sipush 1280, 3) := by decide +kernel
theorem dX2_refresh_105 : decode cX2_refresh 105 = .ok (.iconst 0, 1) := by decide +kernel
theorem dX2_refresh_106 : decode cX2_refresh 106 = .ok (.aload_n 0, 1) := by decide +kernel
theorem dX2_refresh_107 : decode cX2_refresh 107 = .ok (.getfield 34, 3) := by decide +kernel
theorem dX2_refresh_110 : decode cX2_refresh 110 = .ok (.invokevirtual 92, 3) := by decide +kernel
theorem dX2_refresh_113 : decode cX2_refresh 113 = .ok (.aload_n 0, 1) := by decide +kernel
theorem dX2_refresh_114 : decode cX2_refresh 114 = .ok (.getfield 54, 3) := by decide +kernel
theorem dX2_refresh_117 : decode cX2_refresh 117 = .ok (.iload_n 1, 1) := by decide +kernel
theorem dX2_refresh_118 : decode cX2_refresh 118 = .ok (.iconst 0, 1) := by decide +kernel
theorem dX2_refresh_119 : decode cX2_refresh 119 = .ok (.bastore, 1) := by decide +kernel
theorem dX2_refresh_120 : decode cX2_refresh 120 = .ok (.iinc 1 1, 3) := by decide +kernel
theorem dX2_refresh_123 : decode cX2_refresh 123 = .ok (.goto (-121), 3) := by decide +kernel
theorem dX2_refresh_126 : decode cX2_refresh 126 = .ok (.return_, 1) := by decide +kernel
theorem dX2_heightAt_0 : decode cX2_heightAt 0 = .ok (.aload_n 0, 1) := by decide +kernel
theorem dX2_heightAt_1 : decode cX2_heightAt 1 = .ok (.iload_n 1, 1) := by decide +kernel
theorem dX2_heightAt_2 : decode cX2_heightAt 2 = .ok (.invokevirtual 67, 3) := by decide +kernel
theorem dX2_heightAt_5 : decode cX2_heightAt 5 = .ok (.ifCond .eq 26, 3) := by decide +kernel
theorem dX2_heightAt_8 : decode cX2_heightAt 8 = .ok (.iconst 0, 1) := by decide +kernel
theorem dX2_heightAt_9 : decode cX2_heightAt 9 = .ok (.iload_n 2, 1) := by decide +kernel
theorem dX2_heightAt_10 : decode cX2_heightAt 10 = .ok (.if_icmp .gt 21, 3) := by decide +kernel
theorem dX2_heightAt_13 : decode cX2_heightAt 13 = .ok (.iload_n 2, 1) := by decide +kernel
theorem dX2_heightAt_14 : decode cX2_heightAt 14 = .ok (.sipush 600, 3) := by decide +kernel
theorem dX2_heightAt_17 : decode cX2_heightAt 17 = .ok (.if_icmp .ge 14, 3) := by decide +kernel
theorem dX2_heightAt_20 : decode cX2_heightAt 20 = .ok (.aload_n 0, 1) := by decide +kernel
theorem dX2_heightAt_21 : decode cX2_heightAt 21 = .ok (.getfield 45, 3) := by decide +kernel
theorem dX2_heightAt_24 : decode cX2_heightAt 24 = .ok (.iload_n 1, 1) := by decide +kernel
theorem dX2_heightAt_25 : decode cX2_heightAt 25 = .ok (.aaload, 1) := by decide +kernel
theorem dX2_heightAt_26 : decode cX2_heightAt 26 = .ok (.iload_n 2, 1) := by decide +kernel
theorem dX2_heightAt_27 : decode cX2_heightAt 27 = .ok (.iaload, 1) := by decide +kernel
theorem dX2_heightAt_28 : decode cX2_heightAt 28 = .ok (.goto 4, 3) := by decide +kernel
theorem dX2_heightAt_31 : decode cX2_heightAt 31 = .ok (.iconst 0, 1) := by decide +kernel
theorem dX2_heightAt_32 : decode cX2_heightAt 32 = .ok (.ireturn, 1) := by decide +kernel
theorem dX2_modelHeightAt_0 : decode cX2_modelHeightAt 0 = .ok (.aload_n 0, 1) := by decide +kernel
theorem dX2_modelHeightAt_1 : decode cX2_modelHeightAt 1 = .ok (.iload_n 1, 1) := by decide +kernel
theorem dX2_modelHeightAt_2 : decode cX2_modelHeightAt 2 = .ok (.invokevirtual 67, 3) := by decide +kernel
theorem dX2_modelHeightAt_5 : decode cX2_modelHeightAt 5 = .ok (.ifCond .eq 26, 3) := by decide +kernel
theorem dX2_modelHeightAt_8 : decode cX2_modelHeightAt 8 = .ok (.iconst 0, 1) := by decide +kernel
theorem dX2_modelHeightAt_9 : decode cX2_modelHeightAt 9 = .ok (.iload_n 2, 1) := by decide +kernel
theorem dX2_modelHeightAt_10 : decode cX2_modelHeightAt 10 = .ok (.if_icmp .gt 21, 3) := by decide +kernel
theorem dX2_modelHeightAt_13 : decode cX2_modelHeightAt 13 = .ok (.iload_n 2, 1) := by decide +kernel
theorem dX2_modelHeightAt_14 : decode cX2_modelHeightAt 14 = .ok (.sipush 600, 3) := by decide +kernel
theorem dX2_modelHeightAt_17 : decode cX2_modelHeightAt 17 = .ok (.if_icmp .ge 14, 3) := by decide +kernel
theorem dX2_modelHeightAt_20 : decode cX2_modelHeightAt 20 = .ok (.aload_n 0, 1) := by decide +kernel
theorem dX2_modelHeightAt_21 : decode cX2_modelHeightAt 21 = .ok (.getfield 48, 3) := by decide +kernel
theorem dX2_modelHeightAt_24 : decode cX2_modelHeightAt 24 = .ok (.iload_n 1, 1) := by decide +kernel
theorem dX2_modelHeightAt_25 : decode cX2_modelHeightAt 25 = .ok (.aaload, 1) := by decide +kernel
theorem dX2_modelHeightAt_26 : decode cX2_modelHeightAt 26 = .ok (.iload_n 2, 1) := by decide +kernel
theorem dX2_modelHeightAt_27 : decode cX2_modelHeightAt 27 = .ok (.iaload, 1) := by decide +kernel
theorem dX2_modelHeightAt_28 : decode cX2_modelHeightAt 28 = .ok (.goto 4, 3) := by decide +kernel
theorem dX2_modelHeightAt_31 : decode cX2_modelHeightAt 31 = .ok (.iconst 0, 1) := by decide +kernel
theorem dX2_modelHeightAt_32 : decode cX2_modelHeightAt 32 = .ok (.ireturn, 1) := by decide +kernel
theorem dX2_think_0 : decode cX2_think 0 = .ok (.aload_n 0, 1) := by decide +kernel
theorem dX2_think_1 : decode cX2_think 1 = .ok (.iload_n 1, 1) := by decide +kernel
theorem dX2_think_2 : decode cX2_think 2 = .ok (.invokevirtual 67, 3) := by decide +kernel
theorem dX2_think_5 : decode cX2_think 5 = .ok (.ifCond .eq 77, 3) := by decide +kernel
theorem dX2_think_8 : decode cX2_think 8 = .ok (.aload_n 0, 1) := by decide +kernel
theorem dX2_think_9 : decode cX2_think 9 = .ok (.getfield 31, 3) := by decide +kernel
theorem dX2_think_12 : decode cX2_think 12 = .ok (.iconst 0, 1) := by decide +kernel
theorem dX2_think_13 : decode cX2_think 13 = .ok (.aload_n 0, 1) := by decide +kernel
theorem dX2_think_14 : decode cX2_think 14 = .ok (.getfield 37, 3) := by decide +kernel
theorem dX2_think_17 : decode cX2_think 17 = .ok (.iconst 0, 1) := by decide +kernel
theorem dX2_think_18 : decode cX2_think 18 = .ok (.sipush 600, 3) := by decide +kernel
theorem dX2_think_21 : decode cX2_think 21 = .ok (.invokestatic 96, 3) := by decide +kernel
theorem dX2_think_24 : decode cX2_think 24 = .ok (.aload_n 0, 1) := by decide +kernel
theorem dX2_think_25 : decode cX2_think 25 = .ok (.getfield 37, 3) := by decide +kernel
theorem dX2_think_28 : decode cX2_think 28 = .ok (.iload_n 2, 1) := by decide +kernel
theorem dX2_think_29 : decode cX2_think 29 = .ok (.iload_n 3, 1) := by decide +kernel
theorem dX2_think_30 : decode cX2_think 30 = .ok (.iload 4, 2) := by decide +kernel
theorem dX2_think_32 : decode cX2_think 32 = .ok (.invokestatic 75, 3) := by decide +kernel
theorem dX2_think_35 : decode cX2_think 35 = .ok (.aload_n 0, 1) := by decide +kernel
theorem dX2_think_36 : decode cX2_think 36 = .ok (.aload_n 0, 1) := by decide +kernel
theorem dX2_think_37 : decode cX2_think 37 = .ok (.getfield 15, 3) := by decide +kernel
theorem dX2_think_40 : decode cX2_think 40 = .ok (.iload_n 1, 1) := by decide +kernel
theorem dX2_think_41 : decode cX2_think 41 = .ok (.iaload, 1) := by decide +kernel
theorem dX2_think_42 : decode cX2_think 42 = .ok (.aload_n 0, 1) := by decide +kernel
theorem dX2_think_43 : decode cX2_think 43 = .ok (.getfield 24, 3) := by decide +kernel
theorem dX2_think_46 : decode cX2_think 46 = .ok (.iload_n 1, 1) := by decide +kernel
theorem dX2_think_47 : decode cX2_think 47 = .ok (.iaload, 1) := by decide +kernel
theorem dX2_think_48 : decode cX2_think 48 = .ok (.iload_n 1, 1) := by decide +kernel
theorem dX2_think_49 : decode cX2_think 49 = .ok (.invokevirtual 88, 3) := by decide +kernel
theorem dX2_think_52 : decode cX2_think 52 = .ok (.aload_n 0, 1) := by decide +kernel
theorem dX2_think_53 : decode cX2_think 53 = .ok (.aload_n 0, 1) := by decide +kernel
theorem dX2_think_54 : decode cX2_think 54 = .ok (.getfield 51, 3) := by decide +kernel
theorem dX2_think_57 : decode cX2_think 57 = .ok (.aload_n 0, 1) := by decide +kernel
theorem dX2_think_58 : decode cX2_think 58 = .ok (.getfield 9, 3) := by decide +kernel
theorem dX2_think_61 : decode cX2_think 61 = .ok (.iload_n 1, 1) := by decide +kernel
theorem dX2_think_62 : decode cX2_think 62 = .ok (.iaload, 1) := by decide +kernel
theorem dX2_think_63 : decode cX2_think 63 = .ok (.aload_n 0, 1) := by decide +kernel
theorem dX2_think_64 : decode cX2_think 64 = .ok (.getfield 18, 3) := by decide +kernel
theorem dX2_think_67 : decode cX2_think 67 = .ok (.iload_n 1, 1) := by decide +kernel
theorem dX2_think_68 : decode cX2_think 68 = .ok (.iaload, 1) := by decide +kernel
theorem dX2_think_69 : decode cX2_think 69 = .ok (.aload_n 0, 1) := by decide +kernel
theorem dX2_think_70 : decode cX2_think 70 = .ok (.getfield 21, 3) := by decide +kernel
theorem dX2_think_73 : decode cX2_think 73 = .ok (.iload_n 1, 1) := by decide +kernel
theorem dX2_think_74 : decode cX2_think 74 = .ok (.iaload, 1) := by decide +kernel
theorem dX2_think_75 : decode cX2_think 75 = .ok (.aload_n 0, 1) := by decide +kernel
theorem dX2_think_76 : decode cX2_think 76 = .ok (.getfield 37, 3) := by decide +kernel
theorem dX2_think_79 : decode cX2_think 79 = .ok (.invokevirtual 92, 3) := by decide +kernel
theorem dX2_think_82 : decode cX2_think 82 = .ok (.return_, 1) := by decide +kernel
theorem dX2_thoughtHeightAt_0 : decode cX2_thoughtHeightAt 0 = .ok (.iconst 0, 1) := by decide +kernel
theorem dX2_thoughtHeightAt_1 : decode cX2_thoughtHeightAt 1 = .ok (.iload_n 1, 1) := by decide +kernel
theorem dX2_thoughtHeightAt_2 : decode cX2_thoughtHeightAt 2 = .ok (.if_icmp .gt 19, 3) := by decide +kernel
theorem dX2_thoughtHeightAt_5 : decode cX2_thoughtHeightAt 5 = .ok (.iload_n 1, 1) := by decide +kernel
theorem dX2_thoughtHeightAt_6 : decode cX2_thoughtHeightAt 6 = .ok (.sipush 600, 3) := by decide +kernel
theorem dX2_thoughtHeightAt_9 : decode cX2_thoughtHeightAt 9 = .ok (.if_icmp .ge 12, 3) := by decide +kernel
theorem dX2_thoughtHeightAt_12 : decode cX2_thoughtHeightAt 12 = .ok (.aload_n 0, 1) := by decide +kernel
theorem dX2_thoughtHeightAt_13 : decode cX2_thoughtHeightAt 13 = .ok (.getfield 51, 3) := by decide +kernel
theorem dX2_thoughtHeightAt_16 : decode cX2_thoughtHeightAt 16 = .ok (.iload_n 1, 1) := by decide +kernel
theorem dX2_thoughtHeightAt_17 : decode cX2_thoughtHeightAt 17 = .ok (.iaload, 1) := by decide +kernel
theorem dX2_thoughtHeightAt_18 : decode cX2_thoughtHeightAt 18 = .ok (.goto 4, 3) := by decide +kernel
theorem dX2_thoughtHeightAt_21 : decode cX2_thoughtHeightAt 21 = .ok (.iconst 0, 1) := by decide +kernel
theorem dX2_thoughtHeightAt_22 : decode cX2_thoughtHeightAt 22 = .ok (.ireturn, 1) := by decide +kernel
theorem dX2_name_0 : decode cX2_name 0 = .ok (.aload_n 0, 1) := by decide +kernel
theorem dX2_name_1 : decode cX2_name 1 = .ok (.getfield 60, 3) := by decide +kernel
theorem dX2_name_4 : decode cX2_name 4 = .ok (.iconst 1, 1) := by decide +kernel
theorem dX2_name_5 : decode cX2_name 5 = .ok (.iload_n 1, 1) := by decide +kernel
theorem dX2_name_6 : decode cX2_name 6 = .ok (.iastore, 1) := by decide +kernel
theorem dX2_name_7 : decode cX2_name 7 = .ok (.aload_n 0, 1) := by decide +kernel
theorem dX2_name_8 : decode cX2_name 8 = .ok (.getfield 60, 3) := by decide +kernel
theorem dX2_name_11 : decode cX2_name 11 = .ok (.iconst 4, 1) := by decide +kernel
theorem dX2_name_12 : decode cX2_name 12 = .ok (.iload_n 2, 1) := by decide +kernel
theorem dX2_name_13 : decode cX2_name 13 = .ok (.bipush 64, 2) := by decide +kernel
theorem dX2_name_15 : decode cX2_name 15 = .ok (.idiv, 1) := by decide +kernel
theorem dX2_name_16 : decode cX2_name 16 = .ok (.iastore, 1) := by decide +kernel
theorem dX2_name_17 : decode cX2_name 17 = .ok (.aload_n 0, 1) := by decide +kernel
theorem dX2_name_18 : decode cX2_name 18 = .ok (.getfield 60, 3) := by decide +kernel
theorem dX2_name_21 : decode cX2_name 21 = .ok (.bipush 6, 2) := by decide +kernel
theorem dX2_name_23 : decode cX2_name 23 = .ok (.iload_n 3, 1) := by decide +kernel
theorem dX2_name_24 : decode cX2_name 24 = .ok (.iastore, 1) := by decide +kernel
theorem dX2_name_25 : decode cX2_name 25 = .ok (.return_, 1) := by decide +kernel
theorem dX2_grow_0 : decode cX2_grow 0 = .ok (.iconst 0, 1) := by decide +kernel
theorem dX2_grow_1 : decode cX2_grow 1 = .ok (.istore 6, 2) := by decide +kernel
theorem dX2_grow_3 : decode cX2_grow 3 = .ok (.iconst 0, 1) := by decide +kernel
theorem dX2_grow_4 : decode cX2_grow 4 = .ok (.istore 7, 2) := by decide +kernel
theorem dX2_grow_6 : decode cX2_grow 6 = .ok (.iload 7, 2) := by decide +kernel
theorem dX2_grow_8 : decode cX2_grow 8 = .ok (.aload_n 1, 1) := by decide +kernel
theorem dX2_grow_9 : decode cX2_grow 9 = .ok (.arraylength, 1) := by decide +kernel
theorem dX2_grow_10 : decode cX2_grow 10 = .ok (.if_icmp .ge 109, 3) := by decide +kernel
theorem dX2_grow_13 : decode cX2_grow 13 = .ok (.iload 7, 2) := by decide +kernel
theorem dX2_grow_15 : decode cX2_grow 15 = .ok (.aload 5, 2) := by decide +kernel
theorem dX2_grow_17 : decode cX2_grow 17 = .ok (.arraylength, 1) := by decide +kernel
theorem dX2_grow_18 : decode cX2_grow 18 = .ok (.if_icmp .ge 101, 3) := by decide +kernel
theorem dX2_grow_21 : decode cX2_grow 21 = .ok (.iload 7, 2) := by decide +kernel
theorem dX2_grow_23 : decode cX2_grow 23 = .ok (.iload_n 2, 1) := by decide +kernel
theorem dX2_grow_24 : decode cX2_grow 24 = .ok (.if_icmp .ne 9, 3) := by decide +kernel
theorem dX2_grow_27 : decode cX2_grow 27 = .ok (.iload_n 3, 1) := by decide +kernel
theorem dX2_grow_28 : decode cX2_grow 28 = .ok (.istore 6, 2) := by decide +kernel
theorem dX2_grow_30 : decode cX2_grow 30 = .ok (.goto 77, 3) := by decide +kernel
theorem dX2_grow_33 : decode cX2_grow 33 = .ok (.iload 7, 2) := by decide +kernel
theorem dX2_grow_35 : decode cX2_grow 35 = .ok (.iload_n 2, 1) := by decide +kernel
theorem dX2_grow_36 : decode cX2_grow 36 = .ok (.if_icmp .le 71, 3) := by decide +kernel
theorem dX2_grow_39 : decode cX2_grow 39 = .ok (.aload_n 0, 1) := by decide +kernel
theorem dX2_grow_40 : decode cX2_grow 40 = .ok (.getfield 60, 3) := by decide +kernel
theorem dX2_grow_43 : decode cX2_grow 43 = .ok (.iconst 0, 1) := by decide +kernel
theorem dX2_grow_44 : decode cX2_grow 44 = .ok (.iload 7, 2) := by decide +kernel
theorem dX2_grow_46 : decode cX2_grow 46 = .ok (.iload_n 2, 1) := by decide +kernel
theorem dX2_grow_47 : decode cX2_grow 47 = .ok (.isub, 1) := by decide +kernel
theorem dX2_grow_48 : decode cX2_grow 48 = .ok (.iload 4, 2) := by decide +kernel
theorem dX2_grow_50 : decode cX2_grow 50 = .ok (.isub, 1) := by decide +kernel
theorem dX2_grow_51 : decode cX2_grow 51 = .ok (.iastore, 1) := by decide +kernel
theorem dX2_grow_52 : decode cX2_grow 52 = .ok (.aload_n 0, 1) := by decide +kernel
theorem dX2_grow_53 : decode cX2_grow 53 = .ok (.getfield 60, 3) := by decide +kernel
theorem dX2_grow_56 : decode cX2_grow 56 = .ok (.iconst 2, 1) := by decide +kernel
theorem dX2_grow_57 : decode cX2_grow 57 = .ok (.aload 5, 2) := by decide +kernel
theorem dX2_grow_59 : decode cX2_grow 59 = .ok (.iload 7, 2) := by decide +kernel
theorem dX2_grow_61 : decode cX2_grow 61 = .ok (.iaload, 1) := by decide +kernel
theorem dX2_grow_62 : decode cX2_grow 62 = .ok (.iastore, 1) := by decide +kernel
theorem dX2_grow_63 : decode cX2_grow 63 = .ok (.aload_n 0, 1) := by decide +kernel
theorem dX2_grow_64 : decode cX2_grow 64 = .ok (.getfield 60, 3) := by decide +kernel
theorem dX2_grow_67 : decode cX2_grow 67 = .ok (.iconst 3, 1) := by decide +kernel
theorem dX2_grow_68 : decode cX2_grow 68 = .ok (.iload 6, 2) := by decide +kernel
theorem dX2_grow_70 : decode cX2_grow 70 = .ok (.bipush 64, 2) := by decide +kernel
theorem dX2_grow_72 : decode cX2_grow 72 = .ok (.idiv, 1) := by decide +kernel
theorem dX2_grow_73 : decode cX2_grow 73 = .ok (.iastore, 1) := by decide +kernel
theorem dX2_grow_74 : decode cX2_grow 74 = .ok (.aload_n 0, 1) := by decide +kernel
theorem dX2_grow_75 : decode cX2_grow 75 = .ok (.getfield 60, 3) := by decide +kernel
theorem dX2_grow_78 : decode cX2_grow 78 = .ok (.iconst 5, 1) := by decide +kernel
theorem dX2_grow_79 : decode cX2_grow 79 = .ok (.iload 7, 2) := by decide +kernel
theorem dX2_grow_81 : decode cX2_grow 81 = .ok (.bipush 12, 2) := by decide +kernel
theorem dX2_grow_83 : decode cX2_grow 83 = .ok (.irem, 1) := by decide +kernel
theorem dX2_grow_84 : decode cX2_grow 84 = .ok (.iastore, 1) := by decide +kernel
theorem dX2_grow_85 : decode cX2_grow 85 = .ok (.sipush 8000, 3) := by decide +kernel
theorem dX2_grow_88 : decode cX2_grow 88 = .ok (.iload 6, 2) := by decide +kernel
theorem dX2_grow_90 : decode cX2_grow 90 = .ok (.aload_n 0, 1) := by decide +kernel
theorem dX2_grow_91 : decode cX2_grow 91 = .ok (.getfield 63, 3) := by decide +kernel
theorem dX2_grow_94 : decode cX2_grow 94 = .ok (.aload_n 0, 1) := by decide +kernel
theorem dX2_grow_95 : decode cX2_grow 95 = .ok (.getfield 60, 3) := by decide +kernel
theorem dX2_grow_98 : decode cX2_grow 98 = .ok (.invokevirtual 102, 3) := by decide +kernel
theorem dX2_grow_101 : decode cX2_grow 101 = .ok (.iadd, 1) := by decide +kernel
theorem dX2_grow_102 : decode cX2_grow 102 = .ok (.invokestatic 106, 3) := by decide +kernel
theorem dX2_grow_105 : decode cX2_grow 105 = .ok (.istore 6, 2) := by decide +kernel
theorem dX2_grow_107 : decode cX2_grow 107 = .ok (.aload_n 1, 1) := by decide +kernel
theorem dX2_grow_108 : decode cX2_grow 108 = .ok (.iload 7, 2) := by decide +kernel
theorem dX2_grow_110 : decode cX2_grow 110 = .ok (.iload 6, 2) := by decide +kernel
theorem dX2_grow_112 : decode cX2_grow 112 = .ok (.iastore, 1) := by decide +kernel
theorem dX2_grow_113 : decode cX2_grow 113 = .ok (.iinc 7 1, 3) := by decide +kernel
theorem dX2_grow_116 : decode cX2_grow 116 = .ok (.goto (-110), 3) := by decide +kernel
theorem dX2_grow_119 : decode cX2_grow 119 = .ok (.return_, 1) := by decide +kernel
theorem dX3_init_0 : decode cX3_init 0 = .ok (.aload_n 0, 1) := by decide +kernel
theorem dX3_init_1 : decode cX3_init 1 = .ok (.invokespecial 3, 3) := by decide +kernel
theorem dX3_init_4 : decode cX3_init 4 = .ok (.aload_n 0, 1) := by decide +kernel
theorem dX3_init_5 : decode cX3_init 5 = .ok (.iconst (-1), 1) := by decide +kernel
theorem dX3_init_6 : decode cX3_init 6 = .ok (.putfield 9, 3) := by decide +kernel
theorem dX3_init_9 : decode cX3_init 9 = .ok (.aload_n 0, 1) := by decide +kernel
theorem dX3_init_10 : decode cX3_init 10 = .ok (.iconst (-1), 1) := by decide +kernel
theorem dX3_init_11 : decode cX3_init 11 = .ok (.putfield 15, 3) := by decide +kernel
theorem dX3_init_14 : decode cX3_init 14 = .ok (.aload_n 0, 1) := by decide +kernel
theorem dX3_init_15 : decode cX3_init 15 = .ok (.iconst 0, 1) := by decide +kernel
theorem dX3_init_16 : decode cX3_init 16 = .ok (.putfield 18, 3) := by decide +kernel
theorem dX3_init_19 : decode cX3_init 19 = .ok (.aload_n 0, 1) := by decide +kernel
theorem dX3_init_20 : decode cX3_init 20 = .ok (.iconst 4, 1) := by decide +kernel
theorem dX3_init_21 : decode cX3_init 21 = .ok (.newarray .int, 2) := by decide +kernel
theorem dX3_init_23 : decode cX3_init 23 = .ok (.putfield 21, 3) := by decide +kernel
theorem dX3_init_26 : decode cX3_init 26 = .ok (.aload_n 0, 1) := by decide +kernel
theorem dX3_init_27 : decode cX3_init 27 = .ok (.iconst 0, 1) := by decide +kernel
theorem dX3_init_28 : decode cX3_init 28 = .ok (.putfield 25, 3) := by decide +kernel
theorem dX3_init_31 : decode cX3_init 31 = .ok (.aload_n 0, 1) := by decide +kernel
theorem dX3_init_32 : decode cX3_init 32 = .ok (.iconst 4, 1) := by decide +kernel
theorem dX3_init_33 : decode cX3_init 33 = .ok (.newarray .int, 2) := by decide +kernel
theorem dX3_init_35 : decode cX3_init 35 = .ok (.putfield 28, 3) := by decide +kernel
theorem dX3_init_38 : decode cX3_init 38 = .ok (.aload_n 0, 1) := by decide +kernel
theorem dX3_init_39 : decode cX3_init 39 = .ok (.iconst 4, 1) := by decide +kernel
theorem dX3_init_40 : decode cX3_init 40 = .ok (.newarray .int, 2) := by decide +kernel
theorem dX3_init_42 : decode cX3_init 42 = .ok (.putfield 31, 3) := by decide +kernel
theorem dX3_init_45 : decode cX3_init 45 = .ok (.aload_n 0, 1) := by decide +kernel
theorem dX3_init_46 : decode cX3_init 46 = .ok (.iconst 0, 1) := by decide +kernel
theorem dX3_init_47 : decode cX3_init 47 = .ok (.putfield 34, 3) := by decide +kernel
theorem dX3_init_50 : decode cX3_init 50 = .ok (.aload_n 0, 1) := by decide +kernel
theorem dX3_init_51 : decode cX3_init 51 = .ok (.aload_n 1, 1) := by decide +kernel
theorem dX3_init_52 : decode cX3_init 52 = .ok (.putfield 37, 3) := by decide +kernel
theorem dX3_init_55 : decode cX3_init 55 = .ok (.aload_n 0, 1) := by decide +kernel
theorem dX3_init_56 : decode cX3_init 56 = .ok (.aload_n 2, 1) := by decide +kernel
theorem dX3_init_57 : decode cX3_init 57 = .ok (.putfield 41, 3) := by decide +kernel
theorem dX3_init_60 : decode cX3_init 60 = .ok (.return_, 1) := by decide +kernel
theorem dX3_foundChild_0 : decode cX3_foundChild 0 = .ok (.aload_n 0, 1) := by decide +kernel
theorem dX3_foundChild_1 : decode cX3_foundChild 1 = .ok (.getfield 9, 3) := by decide +kernel
theorem dX3_foundChild_4 : decode cX3_foundChild 4 = .ok (.ireturn, 1) := by decide +kernel
theorem dX3_foundMonth_0 : decode cX3_foundMonth 0 = .ok (.aload_n 0, 1) := by decide +kernel
theorem dX3_foundMonth_1 : decode cX3_foundMonth 1 = .ok (.getfield 15, 3) := by decide +kernel
theorem dX3_foundMonth_4 : decode cX3_foundMonth 4 = .ok (.ireturn, 1) := by decide +kernel
theorem dX3_foundDistance_0 : decode cX3_foundDistance 0 = .ok (.aload_n 0, 1) := by decide +kernel
theorem dX3_foundDistance_1 : decode cX3_foundDistance 1 = .ok (.getfield 18, 3) := by decide +kernel
theorem dX3_foundDistance_4 : decode cX3_foundDistance 4 = .ok (.ireturn, 1) := by decide +kernel
theorem dX3_distance_0 : decode cX3_distance 0 = .ok (.aload_n 0, 1) := by decide +kernel
theorem dX3_distance_1 : decode cX3_distance 1 = .ok (.getfield 37, 3) := by decide +kernel
theorem dX3_distance_4 : decode cX3_distance 4 = .ok (.iload_n 2, 1) := by decide +kernel
theorem dX3_distance_5 : decode cX3_distance 5 = .ok (.iload_n 3, 1) := by decide +kernel
theorem dX3_distance_6 : decode cX3_distance 6 = .ok (.invokevirtual 45, 3) := by decide +kernel
theorem dX3_distance_9 : decode cX3_distance 9 = .ok (.ifCond .ne 6, 3) := by decide +kernel
theorem dX3_distance_12 : decode cX3_distance 12 = .ok (.bipush (-2), 2) := by decide +kernel
theorem dX3_distance_14 : decode cX3_distance 14 = .ok (.ireturn, 1) := by decide +kernel
theorem dX3_distance_15 : decode cX3_distance 15 = .ok (.iload_n 1, 1) := by decide +kernel
theorem dX3_distance_16 : decode cX3_distance 16 = .ok (.aload_n 0, 1) := by decide +kernel
theorem dX3_distance_17 : decode cX3_distance 17 = .ok (.getfield 37, 3) := by decide +kernel
theorem dX3_distance_20 : decode cX3_distance 20 = .ok (.iload_n 2, 1) := by decide +kernel
theorem dX3_distance_21 : decode cX3_distance 21 = .ok (.iload_n 3, 1) := by decide +kernel
theorem dX3_distance_22 : decode cX3_distance 22 = .ok (.invokevirtual 51, 3) := by decide +kernel
theorem dX3_distance_25 : decode cX3_distance 25 = .ok (.iload 4, 2) := by decide +kernel
theorem dX3_distance_27 : decode cX3_distance 27 = .ok (.invokestatic 55, 3) := by decide +kernel
theorem dX3_distance_30 : decode cX3_distance 30 = .ok (.isub, 1) := by decide +kernel
theorem dX3_distance_31 : decode cX3_distance 31 = .ok (.invokestatic 58, 3) := by decide +kernel
theorem dX3_distance_34 : decode cX3_distance 34 = .ok (.ireturn, 1) := by decide +kernel
theorem dX3_made_0 : decode cX3_made 0 = .ok (.iload_n 1, 1) := by decide +kernel
theorem dX3_made_1 : decode cX3_made 1 = .ok (.tableswitch 62 1 4 #[31, 36, 42, 51], 31) := by decide +kernel
theorem dX3_made_32 : decode cX3_made 32 = .ok (.iload_n 0, 1) := by decide +kernel
theorem dX3_made_33 : decode cX3_made 33 = .ok (.bipush 48, 2) := by decide +kernel
theorem dX3_made_35 : decode cX3_made 35 = .ok (.iadd, 1) := by decide +kernel
theorem dX3_made_36 : decode cX3_made 36 = .ok (.ireturn, 1) := by decide +kernel
theorem dX3_made_37 : decode cX3_made 37 = .ok (.iload_n 0, 1) := by decide +kernel
theorem dX3_made_38 : decode cX3_made 38 = .ok (.sipush 128, 3) := by decide +kernel
theorem dX3_made_41 : decode cX3_made 41 = .ok (.iadd, 1) := by decide +kernel
theorem dX3_made_42 : decode cX3_made 42 = .ok (.ireturn, 1) := by decide +kernel
theorem dX3_made_43 : decode cX3_made 43 = .ok (.iconst 0, 1) := by decide +kernel
theorem dX3_made_44 : decode cX3_made 44 = .ok (.iload_n 0, 1) := by decide +kernel
theorem dX3_made_45 : decode cX3_made 45 = .ok (.bipush 24, 2) := by decide +kernel
theorem dX3_made_47 : decode cX3_made 47 = .ok (.isub, 1) := by decide +kernel
theorem dX3_made_48 : decode cX3_made 48 = .ok (.invokestatic 64, 3) := by decide +kernel
theorem dX3_made_51 : decode cX3_made 51 = .ok (.ireturn, 1) := by decide +kernel
theorem dX3_made_52 : decode cX3_made 52 = .ok (.iload_n 0, 1) := by decide +kernel
theorem dX3_made_53 : decode cX3_made 53 = .ok (.bipush 32, 2) := by decide +kernel
theorem dX3_made_55 : decode cX3_made 55 = .ok (.iadd, 1) := by decide +kernel
theorem dX3_made_56 : decode cX3_made 56 = .ok (.bipush 64, 2) := by decide +kernel
theorem dX3_made_58 : decode cX3_made 58 = .ok (.idiv, 1) := by decide +kernel
theorem dX3_made_59 : decode cX3_made 59 = .ok (.bipush 64, 2) := by decide +kernel
theorem dX3_made_61 : decode cX3_made 61 = .ok (.imul, 1) := by decide +kernel
theorem dX3_made_62 : decode cX3_made 62 = .ok (.ireturn, 1) := by decide +kernel
theorem dX3_made_63 : decode cX3_made 63 = .ok (.iload_n 0, 1) := by decide +kernel
theorem dX3_made_64 : decode cX3_made 64 = .ok (.ireturn, 1) := by decide +kernel
theorem dX3_findFor_0 : decode cX3_findFor 0 = .ok (.aload_n 0, 1) := by decide +kernel
theorem dX3_findFor_1 : decode cX3_findFor 1 = .ok (.aload_n 0, 1) := by decide +kernel
theorem dX3_findFor_2 : decode cX3_findFor 2 = .ok (.getfield 41, 3) := by decide +kernel
theorem dX3_findFor_5 : decode cX3_findFor 5 = .ok (.iload_n 1, 1) := by decide +kernel
theorem dX3_findFor_6 : decode cX3_findFor 6 = .ok (.invokevirtual 67, 3) := by decide +kernel
theorem dX3_findFor_9 : decode cX3_findFor 9 = .ok (.aload_n 0, 1) := by decide +kernel
theorem dX3_findFor_10 : decode cX3_findFor 10 = .ok (.getfield 41, 3) := by decide +kernel
theorem dX3_findFor_13 : decode cX3_findFor 13 = .ok (.iload_n 1, 1) := by decide +kernel
theorem dX3_findFor_14 : decode cX3_findFor 14 = .ok (.invokevirtual 72, 3) := by decide +kernel
theorem dX3_findFor_17 : decode cX3_findFor 17 = .ok (.aload_n 0, 1) := by decide +kernel
theorem dX3_findFor_18 : decode cX3_findFor 18 = .ok (.getfield 41, 3) := by decide +kernel
theorem dX3_findFor_21 : decode cX3_findFor 21 = .ok (.iload_n 1, 1) := by decide +kernel
theorem dX3_findFor_22 : decode cX3_findFor 22 = .ok (.invokevirtual 75, 3) := by decide +kernel
theorem dX3_findFor_25 : decode cX3_findFor 25 = .ok (.aload_n 0, 1) := by decide +kernel
theorem dX3_findFor_26 : decode cX3_findFor 26 = .ok (.getfield 41, 3) := by decide +kernel
theorem dX3_findFor_29 : decode cX3_findFor 29 = .ok (.iload_n 1, 1) := by decide +kernel
theorem dX3_findFor_30 : decode cX3_findFor 30 = .ok (.invokevirtual 78, 3) := by decide +kernel
theorem dX3_findFor_33 : decode cX3_findFor 33 = .ok (.invokevirtual 81, 3) := by decide +kernel
theorem dX3_findFor_36 : decode cX3_findFor 36 = .ok (.ireturn, 1) := by decide +kernel
theorem dX3_find_0 : decode cX3_find 0 = .ok (.aload_n 0, 1) := by decide +kernel
theorem dX3_find_1 : decode cX3_find 1 = .ok (.iconst (-1), 1) := by decide +kernel
theorem dX3_find_2 : decode cX3_find 2 = .ok (.putfield 9, 3) := by decide +kernel
theorem dX3_find_5 : decode cX3_find 5 = .ok (.iload_n 3, 1) := by decide +kernel
theorem dX3_find_6 : decode cX3_find 6 = .ok (.invokestatic 85, 3) := by decide +kernel
theorem dX3_find_9 : decode cX3_find 9 = .ok (.ifCond .eq 7, 3) := by decide +kernel
theorem dX3_find_12 : decode cX3_find 12 = .ok (.iload_n 3, 1) := by decide +kernel
theorem dX3_find_13 : decode cX3_find 13 = .ok (.goto 4, 3) := by decide +kernel
theorem dX3_find_16 : decode cX3_find 16 = .ok (.iconst 0, 1) := by decide +kernel
theorem dX3_find_17 : decode cX3_find 17 = .ok (.istore 5, 2) := by decide +kernel
theorem dX3_find_19 : decode cX3_find 19 = .ok (.iload_n 3, 1) := by decide +kernel
theorem dX3_find_20 : decode cX3_find 20 = .ok (.invokestatic 85, 3) := by decide +kernel
theorem dX3_find_23 : decode cX3_find 23 = .ok (.ifCond .eq 7, 3) := by decide +kernel
theorem dX3_find_26 : decode cX3_find 26 = .ok (.iload_n 3, 1) := by decide +kernel
theorem dX3_find_27 : decode cX3_find 27 = .ok (.goto 6, 3) := by decide +kernel
theorem dX3_find_30 : decode cX3_find 30 = .ok (.sipush 599, 3) := by decide +kernel
theorem dX3_find_33 : decode cX3_find 33 = .ok (.istore 6, 2) := by decide +kernel
theorem dX3_find_35 : decode cX3_find 35 = .ok (.aload_n 0, 1) := by decide +kernel
theorem dX3_find_36 : decode cX3_find 36 = .ok (.getfield 37, 3) := by decide +kernel
theorem dX3_find_39 : decode cX3_find 39 = .ok (.iload_n 2, 1) := by decide +kernel
theorem dX3_find_40 : decode cX3_find 40 = .ok (.invokevirtual 89, 3) := by decide +kernel
theorem dX3_find_43 : decode cX3_find 43 = .ok (.ifCond .eq 7, 3) := by decide +kernel
theorem dX3_find_46 : decode cX3_find 46 = .ok (.iload_n 2, 1) := by decide +kernel
theorem dX3_find_47 : decode cX3_find 47 = .ok (.goto 4, 3) := by decide +kernel
theorem dX3_find_50 : decode cX3_find 50 = .ok (.iconst 0, 1) := by decide +kernel
theorem dX3_find_51 : decode cX3_find 51 = .ok (.istore 7, 2) := by decide +kernel
theorem dX3_find_53 : decode cX3_find 53 = .ok (.aload_n 0, 1) := by decide +kernel
theorem dX3_find_54 : decode cX3_find 54 = .ok (.getfield 37, 3) := by decide +kernel
theorem dX3_find_57 : decode cX3_find 57 = .ok (.iload_n 2, 1) := by decide +kernel
theorem dX3_find_58 : decode cX3_find 58 = .ok (.invokevirtual 89, 3) := by decide +kernel
theorem dX3_find_61 : decode cX3_find 61 = .ok (.ifCond .eq 7, 3) := by decide +kernel
theorem dX3_find_64 : decode cX3_find 64 = .ok (.iload_n 2, 1) := by decide +kernel
theorem dX3_find_65 : decode cX3_find 65 = .ok (.goto 12, 3) := by decide +kernel
theorem dX3_find_68 : decode cX3_find 68 = .ok (.aload_n 0, 1) := by decide +kernel
theorem dX3_find_69 : decode cX3_find 69 = .ok (.getfield 37, 3) := by decide +kernel
theorem dX3_find_72 : decode cX3_find 72 = .ok (.invokevirtual 92, 3) := by decide +kernel
theorem dX3_find_75 : decode cX3_find 75 = .ok (.iconst 1, 1) := by decide +kernel
theorem dX3_find_76 : decode cX3_find 76 = .ok (.isub, 1) := by decide +kernel
theorem dX3_find_77 : decode cX3_find 77 = .ok (.istore 8, 2) := by decide +kernel
theorem dX3_find_79 : decode cX3_find 79 = .ok (.iload 5, 2) := by decide +kernel
theorem dX3_find_81 : decode cX3_find 81 = .ok (.istore 9, 2) := by decide +kernel
theorem dX3_find_83 : decode cX3_find 83 = .ok (.iload 9, 2) := by decide +kernel
theorem dX3_find_85 : decode cX3_find 85 = .ok (.iload 6, 2) := by decide +kernel
theorem dX3_find_87 : decode cX3_find 87 = .ok (.if_icmp .gt 80, 3) := by decide +kernel
theorem dX3_find_90 : decode cX3_find 90 = .ok (.iload 7, 2) := by decide +kernel
theorem dX3_find_92 : decode cX3_find 92 = .ok (.istore 10, 2) := by decide +kernel
theorem dX3_find_94 : decode cX3_find 94 = .ok (.iload 10, 2) := by decide +kernel
theorem dX3_find_96 : decode cX3_find 96 = .ok (.iload 8, 2) := by decide +kernel
theorem dX3_find_98 : decode cX3_find 98 = .ok (.if_icmp .gt 63, 3) := by decide +kernel
theorem dX3_find_101 : decode cX3_find 101 = .ok (.aload_n 0, 1) := by decide +kernel
theorem dX3_find_102 : decode cX3_find 102 = .ok (.iload_n 1, 1) := by decide +kernel
theorem dX3_find_103 : decode cX3_find 103 = .ok (.iload 10, 2) := by decide +kernel
theorem dX3_find_105 : decode cX3_find 105 = .ok (.iload 9, 2) := by decide +kernel
theorem dX3_find_107 : decode cX3_find 107 = .ok (.iload 4, 2) := by decide +kernel
theorem dX3_find_109 : decode cX3_find 109 = .ok (.invokevirtual 96, 3) := by decide +kernel
theorem dX3_find_112 : decode cX3_find 112 = .ok (.istore 11, 2) := by decide +kernel
theorem dX3_find_114 : decode cX3_find 114 = .ok (.iload 11, 2) := by decide +kernel
theorem dX3_find_116 : decode cX3_find 116 = .ok (.bipush (-2), 2) := by decide +kernel
theorem dX3_find_118 : decode cX3_find 118 = .ok (.if_icmp .eq 37, 3) := by decide +kernel
theorem dX3_find_121 : decode cX3_find 121 = .ok (.aload_n 0, 1) := by decide +kernel
theorem dX3_find_122 : decode cX3_find 122 = .ok (.getfield 9, 3) := by decide +kernel
theorem dX3_find_125 : decode cX3_find 125 = .ok (.ifCond .lt 12, 3) := by decide +kernel
theorem dX3_find_128 : decode cX3_find 128 = .ok (.iload 11, 2) := by decide +kernel
theorem dX3_find_130 : decode cX3_find 130 = .ok (.aload_n 0, 1) := by decide +kernel
theorem dX3_find_131 : decode cX3_find 131 = .ok (.getfield 18, 3) := by decide +kernel
theorem dX3_find_134 : decode cX3_find 134 = .ok (.if_icmp .ge 21, 3) := by decide +kernel
theorem dX3_find_137 : decode cX3_find 137 = .ok (.aload_n 0, 1) := by decide +kernel
theorem dX3_find_138 : decode cX3_find 138 = .ok (.iload 10, 2) := by decide +kernel
theorem dX3_find_140 : decode cX3_find 140 = .ok (.putfield 9, 3) := by decide +kernel
theorem dX3_find_143 : decode cX3_find 143 = .ok (.aload_n 0, 1) := by decide +kernel
theorem dX3_find_144 : decode cX3_find 144 = .ok (.iload 9, 2) := by decide +kernel
theorem dX3_find_146 : decode cX3_find 146 = .ok (.putfield 15, 3) := by decide +kernel
theorem dX3_find_149 : decode cX3_find 149 = .ok (.aload_n 0, 1) := by decide +kernel
theorem dX3_find_150 : decode cX3_find 150 = .ok (.iload 11, 2) := by decide +kernel
theorem dX3_find_152 : decode cX3_find 152 = .ok (.putfield 18, 3) := by decide +kernel
theorem dX3_find_155 : decode cX3_find 155 = .ok (.iinc 10 1, 3) := by decide +kernel
theorem dX3_find_158 : decode cX3_find 158 = .ok (.goto (-64), 3) := by decide +kernel
theorem dX3_find_161 : decode cX3_find 161 = .ok (.iinc 9 1, 3) := by decide +kernel
theorem dX3_find_164 : decode cX3_find 164 = .ok (.goto (-81), 3) := by decide +kernel
theorem dX3_find_167 : decode cX3_find 167 = .ok (.aload_n 0, 1) := by decide +kernel
theorem dX3_find_168 : decode cX3_find 168 = .ok (.getfield 9, 3) := by decide +kernel
theorem dX3_find_171 : decode cX3_find 171 = .ok (.ifCond .lt 7, 3) := by decide +kernel
theorem dX3_find_174 : decode cX3_find 174 = .ok (.iconst 1, 1) := by decide +kernel
theorem dX3_find_175 : decode cX3_find 175 = .ok (.goto 4, 3) := by decide +kernel
theorem dX3_find_178 : decode cX3_find 178 = .ok (.iconst 0, 1) := by decide +kernel
theorem dX3_find_179 : decode cX3_find 179 = .ok (.ireturn, 1) := by decide +kernel
theorem dX3_leadingTo_0 : decode cX3_leadingTo 0 = .ok (.iconst 0, 1) := by decide +kernel
theorem dX3_leadingTo_1 : decode cX3_leadingTo 1 = .ok (.istore_n 2, 1) := by decide +kernel
theorem dX3_leadingTo_2 : decode cX3_leadingTo 2 = .ok (.iconst 0, 1) := by decide +kernel
theorem dX3_leadingTo_3 : decode cX3_leadingTo 3 = .ok (.istore_n 3, 1) := by decide +kernel
theorem dX3_leadingTo_4 : decode cX3_leadingTo 4 = .ok (.iload_n 3, 1) := by decide +kernel
theorem dX3_leadingTo_5 : decode cX3_leadingTo 5 = .ok (.aload_n 0, 1) := by decide +kernel
theorem dX3_leadingTo_6 : decode cX3_leadingTo 6 = .ok (.getfield 41, 3) := by decide +kernel
theorem dX3_leadingTo_9 : decode cX3_leadingTo 9 = .ok (.invokevirtual 100, 3) := by decide +kernel
theorem dX3_leadingTo_12 : decode cX3_leadingTo 12 = .ok (.if_icmp .ge 28, 3) := by decide +kernel
theorem dX3_leadingTo_15 : decode cX3_leadingTo 15 = .ok (.aload_n 0, 1) := by decide +kernel
theorem dX3_leadingTo_16 : decode cX3_leadingTo 16 = .ok (.iload_n 3, 1) := by decide +kernel
theorem dX3_leadingTo_17 : decode cX3_leadingTo 17 = .ok (.invokevirtual 101, 3) := by decide +kernel
theorem dX3_leadingTo_20 : decode cX3_leadingTo 20 = .ok (.ifCond .eq 14, 3) := by decide +kernel
theorem dX3_leadingTo_23 : decode cX3_leadingTo 23 = .ok (.aload_n 0, 1) := by decide +kernel
theorem dX3_leadingTo_24 : decode cX3_leadingTo 24 = .ok (.getfield 9, 3) := by decide +kernel
theorem dX3_leadingTo_27 : decode cX3_leadingTo 27 = .ok (.iload_n 1, 1) := by decide +kernel
theorem dX3_leadingTo_28 : decode cX3_leadingTo 28 = .ok (.if_icmp .ne 6, 3) := by decide +kernel
theorem dX3_leadingTo_31 : decode cX3_leadingTo 31 = .ok (.iinc 2 1, 3) := by decide +kernel
theorem dX3_leadingTo_34 : decode cX3_leadingTo 34 = .ok (.iinc 3 1, 3) := by decide +kernel
theorem dX3_leadingTo_37 : decode cX3_leadingTo 37 = .ok (.goto (-33), 3) := by decide +kernel
theorem dX3_leadingTo_40 : decode cX3_leadingTo 40 = .ok (.iload_n 2, 1) := by decide +kernel
theorem dX3_leadingTo_41 : decode cX3_leadingTo 41 = .ok (.ireturn, 1) := by decide +kernel
theorem dX3_chance_0 : decode cX3_chance 0 = .ok (.iconst 0, 1) := by decide +kernel
theorem dX3_chance_1 : decode cX3_chance 1 = .ok (.istore_n 3, 1) := by decide +kernel
theorem dX3_chance_2 : decode cX3_chance 2 = .ok (.iconst 0, 1) := by decide +kernel
theorem dX3_chance_3 : decode cX3_chance 3 = .ok (.istore 4, 2) := by decide +kernel
theorem dX3_chance_5 : decode cX3_chance 5 = .ok (.iconst 0, 1) := by decide +kernel
theorem dX3_chance_6 : decode cX3_chance 6 = .ok (.istore 5, 2) := by decide +kernel
theorem dX3_chance_8 : decode cX3_chance 8 = .ok (.iload 5, 2) := by decide +kernel
theorem dX3_chance_10 : decode cX3_chance 10 = .ok (.aload_n 0, 1) := by decide +kernel
theorem dX3_chance_11 : decode cX3_chance 11 = .ok (.getfield 37, 3) := by decide +kernel
theorem dX3_chance_14 : decode cX3_chance 14 = .ok (.invokevirtual 92, 3) := by decide +kernel
theorem dX3_chance_17 : decode cX3_chance 17 = .ok (.if_icmp .ge 34, 3) := by decide +kernel
theorem dX3_chance_20 : decode cX3_chance 20 = .ok (.aload_n 0, 1) := by decide +kernel
theorem dX3_chance_21 : decode cX3_chance 21 = .ok (.iload_n 1, 1) := by decide +kernel
theorem dX3_chance_22 : decode cX3_chance 22 = .ok (.iload 5, 2) := by decide +kernel
theorem dX3_chance_24 : decode cX3_chance 24 = .ok (.invokevirtual 104, 3) := by decide +kernel
theorem dX3_chance_27 : decode cX3_chance 27 = .ok (.istore 6, 2) := by decide +kernel
theorem dX3_chance_29 : decode cX3_chance 29 = .ok (.iload 4, 2) := by decide +kernel
theorem dX3_chance_31 : decode cX3_chance 31 = .ok (.iload 6, 2) := by decide +kernel
theorem dX3_chance_33 : decode cX3_chance 33 = .ok (.iadd, 1) := by decide +kernel
theorem dX3_chance_34 : decode cX3_chance 34 = .ok (.istore 4, 2) := by decide +kernel
theorem dX3_chance_36 : decode cX3_chance 36 = .ok (.iload 5, 2) := by decide +kernel
theorem dX3_chance_38 : decode cX3_chance 38 = .ok (.iload_n 2, 1) := by decide +kernel
theorem dX3_chance_39 : decode cX3_chance 39 = .ok (.if_icmp .ne 6, 3) := by decide +kernel
theorem dX3_chance_42 : decode cX3_chance 42 = .ok (.iload 6, 2) := by decide +kernel
theorem dX3_chance_44 : decode cX3_chance 44 = .ok (.istore_n 3, 1) := by decide +kernel
theorem dX3_chance_45 : decode cX3_chance 45 = .ok (.iinc 5 1, 3) := by decide +kernel
theorem dX3_chance_48 : decode cX3_chance 48 = .ok (.goto (-40), 3) := by decide +kernel
theorem dX3_chance_51 : decode cX3_chance 51 = .ok (.iload 4, 2) := by decide +kernel
theorem dX3_chance_53 : decode cX3_chance 53 = .ok (.ifCond .ne 8, 3) := by decide +kernel
theorem dX3_chance_56 : decode cX3_chance 56 = .ok (.bipush (-2), 2) := by decide +kernel
theorem dX3_chance_58 : decode cX3_chance 58 = .ok (.goto 11, 3) := by decide +kernel
theorem dX3_chance_61 : decode cX3_chance 61 = .ok (.sipush 1000, 3) := by decide +kernel
theorem dX3_chance_64 : decode cX3_chance 64 = .ok (.iload_n 3, 1) := by decide +kernel
theorem dX3_chance_65 : decode cX3_chance 65 = .ok (.imul, 1) := by decide +kernel
theorem dX3_chance_66 : decode cX3_chance 66 = .ok (.iload 4, 2) := by decide +kernel
theorem dX3_chance_68 : decode cX3_chance 68 = .ok (.idiv, 1) := by decide +kernel
theorem dX3_chance_69 : decode cX3_chance 69 = .ok (.ireturn, 1) := by decide +kernel
theorem dX3_weight_0 : decode cX3_weight 0 = .ok (.aload_n 0, 1) := by decide +kernel
theorem dX3_weight_1 : decode cX3_weight 1 = .ok (.getfield 41, 3) := by decide +kernel
theorem dX3_weight_4 : decode cX3_weight 4 = .ok (.iload_n 1, 1) := by decide +kernel
theorem dX3_weight_5 : decode cX3_weight 5 = .ok (.invokevirtual 72, 3) := by decide +kernel
theorem dX3_weight_8 : decode cX3_weight 8 = .ok (.istore_n 3, 1) := by decide +kernel
theorem dX3_weight_9 : decode cX3_weight 9 = .ok (.aload_n 0, 1) := by decide +kernel
theorem dX3_weight_10 : decode cX3_weight 10 = .ok (.getfield 41, 3) := by decide +kernel
theorem dX3_weight_13 : decode cX3_weight 13 = .ok (.iload_n 1, 1) := by decide +kernel
theorem dX3_weight_14 : decode cX3_weight 14 = .ok (.invokevirtual 75, 3) := by decide +kernel
theorem dX3_weight_17 : decode cX3_weight 17 = .ok (.istore 4, 2) := by decide +kernel
theorem dX3_weight_19 : decode cX3_weight 19 = .ok (.iload 4, 2) := by decide +kernel
theorem dX3_weight_21 : decode cX3_weight 21 = .ok (.invokestatic 85, 3) := by decide +kernel
theorem dX3_weight_24 : decode cX3_weight 24 = .ok (.ifCond .eq 19, 3) := by decide +kernel
theorem dX3_weight_27 : decode cX3_weight 27 = .ok (.aload_n 0, 1) := by decide +kernel
theorem dX3_weight_28 : decode cX3_weight 28 = .ok (.getfield 37, 3) := by decide +kernel
theorem dX3_weight_31 : decode cX3_weight 31 = .ok (.iload_n 3, 1) := by decide +kernel
theorem dX3_weight_32 : decode cX3_weight 32 = .ok (.invokevirtual 89, 3) := by decide +kernel
theorem dX3_weight_35 : decode cX3_weight 35 = .ok (.ifCond .eq 10, 3) := by decide +kernel
theorem dX3_weight_38 : decode cX3_weight 38 = .ok (.iload_n 3, 1) := by decide +kernel
theorem dX3_weight_39 : decode cX3_weight 39 = .ok (.iload_n 2, 1) := by decide +kernel
theorem dX3_weight_40 : decode cX3_weight 40 = .ok (.if_icmp .eq 5, 3) := by decide +kernel
theorem dX3_weight_43 : decode cX3_weight 43 = .ok (.iconst 0, 1) := by decide +kernel
theorem dX3_weight_44 : decode cX3_weight 44 = .ok (.ireturn, 1) := by decide +kernel
theorem dX3_weight_45 : decode cX3_weight 45 = .ok (.aload_n 0, 1) := by decide +kernel
theorem dX3_weight_46 : decode cX3_weight 46 = .ok (.aload_n 0, 1) := by decide +kernel
theorem dX3_weight_47 : decode cX3_weight 47 = .ok (.getfield 41, 3) := by decide +kernel
theorem dX3_weight_50 : decode cX3_weight 50 = .ok (.iload_n 1, 1) := by decide +kernel
theorem dX3_weight_51 : decode cX3_weight 51 = .ok (.invokevirtual 67, 3) := by decide +kernel
theorem dX3_weight_54 : decode cX3_weight 54 = .ok (.iload_n 2, 1) := by decide +kernel
theorem dX3_weight_55 : decode cX3_weight 55 = .ok (.iload 4, 2) := by decide +kernel
theorem dX3_weight_57 : decode cX3_weight 57 = .ok (.aload_n 0, 1) := by decide +kernel
theorem dX3_weight_58 : decode cX3_weight 58 = .ok (.getfield 41, 3) := by decide +kernel
theorem dX3_weight_61 : decode cX3_weight 61 = .ok (.iload_n 1, 1) := by decide +kernel
theorem dX3_weight_62 : decode cX3_weight 62 = .ok (.invokevirtual 78, 3) := by decide +kernel
theorem dX3_weight_65 : decode cX3_weight 65 = .ok (.invokevirtual 96, 3) := by decide +kernel
theorem dX3_weight_68 : decode cX3_weight 68 = .ok (.istore 5, 2) := by decide +kernel
theorem dX3_weight_70 : decode cX3_weight 70 = .ok (.iload 5, 2) := by decide +kernel
theorem dX3_weight_72 : decode cX3_weight 72 = .ok (.ifCond .ge 7, 3) := by decide +kernel
theorem dX3_weight_75 : decode cX3_weight 75 = .ok (.iconst 0, 1) := by decide +kernel
theorem dX3_weight_76 : decode cX3_weight 76 = .ok (.goto 11, 3) := by decide +kernel
theorem dX3_weight_79 : decode cX3_weight 79 = .ok (.sipush 10000, 3) := by decide +kernel
theorem dX3_weight_82 : decode cX3_weight 82 = .ok (.iconst 1, 1) := by decide +kernel
theorem dX3_weight_83 : decode cX3_weight 83 = .ok (.iload 5, 2) := by decide +kernel
theorem dX3_weight_85 : decode cX3_weight 85 = .ok (.iadd, 1) := by decide +kernel
theorem dX3_weight_86 : decode cX3_weight 86 = .ok (.idiv, 1) := by decide +kernel
theorem dX3_weight_87 : decode cX3_weight 87 = .ok (.ireturn, 1) := by decide +kernel
theorem dX3_likeliestWay_0 : decode cX3_likeliestWay 0 = .ok (.iconst 0, 1) := by decide +kernel
theorem dX3_likeliestWay_1 : decode cX3_likeliestWay 1 = .ok (.istore_n 2, 1) := by decide +kernel
theorem dX3_likeliestWay_2 : decode cX3_likeliestWay 2 = .ok (.iconst 1, 1) := by decide +kernel
theorem dX3_likeliestWay_3 : decode cX3_likeliestWay 3 = .ok (.istore_n 3, 1) := by decide +kernel
theorem dX3_likeliestWay_4 : decode cX3_likeliestWay 4 = .ok (.iload_n 3, 1) := by decide +kernel
theorem dX3_likeliestWay_5 : decode cX3_likeliestWay 5 = .ok (.iconst 4, 1) := by decide +kernel
theorem dX3_likeliestWay_6 : decode cX3_likeliestWay 6 = .ok (.if_icmp .gt 26, 3) := by decide +kernel
theorem dX3_likeliestWay_9 : decode cX3_likeliestWay 9 = .ok (.aload_n 0, 1) := by decide +kernel
theorem dX3_likeliestWay_10 : decode cX3_likeliestWay 10 = .ok (.iload_n 1, 1) := by decide +kernel
theorem dX3_likeliestWay_11 : decode cX3_likeliestWay 11 = .ok (.iload_n 3, 1) := by decide +kernel
theorem dX3_likeliestWay_12 : decode cX3_likeliestWay 12 = .ok (.invokevirtual 107, 3) := by decide +kernel
theorem dX3_likeliestWay_15 : decode cX3_likeliestWay 15 = .ok (.aload_n 0, 1) := by decide +kernel
theorem dX3_likeliestWay_16 : decode cX3_likeliestWay 16 = .ok (.iload_n 1, 1) := by decide +kernel
theorem dX3_likeliestWay_17 : decode cX3_likeliestWay 17 = .ok (.iload_n 2, 1) := by decide +kernel
theorem dX3_likeliestWay_18 : decode cX3_likeliestWay 18 = .ok (.invokevirtual 107, 3) := by decide +kernel
theorem dX3_likeliestWay_21 : decode cX3_likeliestWay 21 = .ok (.if_icmp .ge 5, 3) := by decide +kernel
theorem dX3_likeliestWay_24 : decode cX3_likeliestWay 24 = .ok (.iload_n 3, 1) := by decide +kernel
theorem dX3_likeliestWay_25 : decode cX3_likeliestWay 25 = .ok (.istore_n 2, 1) := by decide +kernel
theorem dX3_likeliestWay_26 : decode cX3_likeliestWay 26 = .ok (.iinc 3 1, 3) := by decide +kernel
theorem dX3_likeliestWay_29 : decode cX3_likeliestWay 29 = .ok (.goto (-25), 3) := by decide +kernel
theorem dX3_likeliestWay_32 : decode cX3_likeliestWay 32 = .ok (.iload_n 2, 1) := by decide +kernel
theorem dX3_likeliestWay_33 : decode cX3_likeliestWay 33 = .ok (.ireturn, 1) := by decide +kernel
theorem dX3_wrongWay_0 : decode cX3_wrongWay 0 = .ok (.aload_n 0, 1) := by decide +kernel
theorem dX3_wrongWay_1 : decode cX3_wrongWay 1 = .ok (.iload_n 1, 1) := by decide +kernel
theorem dX3_wrongWay_2 : decode cX3_wrongWay 2 = .ok (.aload_n 0, 1) := by decide +kernel
theorem dX3_wrongWay_3 : decode cX3_wrongWay 3 = .ok (.iload_n 1, 1) := by decide +kernel
theorem dX3_wrongWay_4 : decode cX3_wrongWay 4 = .ok (.invokevirtual 110, 3) := by decide +kernel
theorem dX3_wrongWay_7 : decode cX3_wrongWay 7 = .ok (.invokevirtual 107, 3) := by decide +kernel
theorem dX3_wrongWay_10 : decode cX3_wrongWay 10 = .ok (.istore_n 2, 1) := by decide +kernel
theorem dX3_wrongWay_11 : decode cX3_wrongWay 11 = .ok (.aload_n 0, 1) := by decide +kernel
theorem dX3_wrongWay_12 : decode cX3_wrongWay 12 = .ok (.iload_n 1, 1) := by decide +kernel
theorem dX3_wrongWay_13 : decode cX3_wrongWay 13 = .ok (.aload_n 0, 1) := by decide +kernel
theorem dX3_wrongWay_14 : decode cX3_wrongWay 14 = .ok (.getfield 41, 3) := by decide +kernel
theorem dX3_wrongWay_17 : decode cX3_wrongWay 17 = .ok (.iload_n 1, 1) := by decide +kernel
theorem dX3_wrongWay_18 : decode cX3_wrongWay 18 = .ok (.invokevirtual 78, 3) := by decide +kernel
theorem dX3_wrongWay_21 : decode cX3_wrongWay 21 = .ok (.invokevirtual 107, 3) := by decide +kernel
theorem dX3_wrongWay_24 : decode cX3_wrongWay 24 = .ok (.iload_n 2, 1) := by decide +kernel
theorem dX3_wrongWay_25 : decode cX3_wrongWay 25 = .ok (.isub, 1) := by decide +kernel
theorem dX3_wrongWay_26 : decode cX3_wrongWay 26 = .ok (.bipush 32, 2) := by decide +kernel
theorem dX3_wrongWay_28 : decode cX3_wrongWay 28 = .ok (.if_icmp .lt 7, 3) := by decide +kernel
theorem dX3_wrongWay_31 : decode cX3_wrongWay 31 = .ok (.iconst 1, 1) := by decide +kernel
theorem dX3_wrongWay_32 : decode cX3_wrongWay 32 = .ok (.goto 4, 3) := by decide +kernel
theorem dX3_wrongWay_35 : decode cX3_wrongWay 35 = .ok (.iconst 0, 1) := by decide +kernel
theorem dX3_wrongWay_36 : decode cX3_wrongWay 36 = .ok (.ireturn, 1) := by decide +kernel
theorem dX3_foundDistanceBy_0 : decode cX3_foundDistanceBy 0 = .ok (.aload_n 0, 1) := by decide +kernel
theorem dX3_foundDistanceBy_1 : decode cX3_foundDistanceBy 1 = .ok (.aload_n 0, 1) := by decide +kernel
theorem dX3_foundDistanceBy_2 : decode cX3_foundDistanceBy 2 = .ok (.getfield 41, 3) := by decide +kernel
theorem dX3_foundDistanceBy_5 : decode cX3_foundDistanceBy 5 = .ok (.iload_n 1, 1) := by decide +kernel
theorem dX3_foundDistanceBy_6 : decode cX3_foundDistanceBy 6 = .ok (.invokevirtual 67, 3) := by decide +kernel
theorem dX3_foundDistanceBy_9 : decode cX3_foundDistanceBy 9 = .ok (.aload_n 0, 1) := by decide +kernel
theorem dX3_foundDistanceBy_10 : decode cX3_foundDistanceBy 10 = .ok (.getfield 9, 3) := by decide +kernel
theorem dX3_foundDistanceBy_13 : decode cX3_foundDistanceBy 13 = .ok (.aload_n 0, 1) := by decide +kernel
theorem dX3_foundDistanceBy_14 : decode cX3_foundDistanceBy 14 = .ok (.getfield 15, 3) := by decide +kernel
theorem dX3_foundDistanceBy_17 : decode cX3_foundDistanceBy 17 = .ok (.iload_n 2, 1) := by decide +kernel
theorem dX3_foundDistanceBy_18 : decode cX3_foundDistanceBy 18 = .ok (.invokevirtual 96, 3) := by decide +kernel
theorem dX3_foundDistanceBy_21 : decode cX3_foundDistanceBy 21 = .ok (.ireturn, 1) := by decide +kernel
theorem dX3_gather_0 : decode cX3_gather 0 = .ok (.aload_n 0, 1) := by decide +kernel
theorem dX3_gather_1 : decode cX3_gather 1 = .ok (.iconst 0, 1) := by decide +kernel
theorem dX3_gather_2 : decode cX3_gather 2 = .ok (.putfield 25, 3) := by decide +kernel
theorem dX3_gather_5 : decode cX3_gather 5 = .ok (.iconst 0, 1) := by decide +kernel
theorem dX3_gather_6 : decode cX3_gather 6 = .ok (.istore_n 2, 1) := by decide +kernel
theorem dX3_gather_7 : decode cX3_gather 7 = .ok (.iload_n 2, 1) := by decide +kernel
theorem dX3_gather_8 : decode cX3_gather 8 = .ok (.aload_n 0, 1) := by decide +kernel
theorem dX3_gather_9 : decode cX3_gather 9 = .ok (.getfield 41, 3) := by decide +kernel
theorem dX3_gather_12 : decode cX3_gather 12 = .ok (.invokevirtual 100, 3) := by decide +kernel
theorem dX3_gather_15 : decode cX3_gather 15 = .ok (.if_icmp .ge 62, 3) := by decide +kernel
theorem dX3_gather_18 : decode cX3_gather 18 = .ok (.aload_n 0, 1) := by decide +kernel
theorem dX3_gather_19 : decode cX3_gather 19 = .ok (.getfield 25, 3) := by decide +kernel
theorem dX3_gather_22 : decode cX3_gather 22 = .ok (.iconst 4, 1) := by decide +kernel
theorem dX3_gather_23 : decode cX3_gather 23 = .ok (.if_icmp .ge 54, 3) := by decide +kernel
theorem dX3_gather_26 : decode cX3_gather 26 = .ok (.aload_n 0, 1) := by decide +kernel
theorem dX3_gather_27 : decode cX3_gather 27 = .ok (.getfield 41, 3) := by decide +kernel
theorem dX3_gather_30 : decode cX3_gather 30 = .ok (.iload_n 2, 1) := by decide +kernel
theorem dX3_gather_31 : decode cX3_gather 31 = .ok (.invokevirtual 75, 3) := by decide +kernel
theorem dX3_gather_34 : decode cX3_gather 34 = .ok (.iload_n 1, 1) := by decide +kernel
theorem dX3_gather_35 : decode cX3_gather 35 = .ok (.if_icmp .ne 36, 3) := by decide +kernel
theorem dX3_gather_38 : decode cX3_gather 38 = .ok (.aload_n 0, 1) := by decide +kernel
theorem dX3_gather_39 : decode cX3_gather 39 = .ok (.getfield 41, 3) := by decide +kernel
theorem dX3_gather_42 : decode cX3_gather 42 = .ok (.iload_n 2, 1) := by decide +kernel
theorem dX3_gather_43 : decode cX3_gather 43 = .ok (.invokevirtual 72, 3) := by decide +kernel
theorem dX3_gather_46 : decode cX3_gather 46 = .ok (.bipush 6, 2) := by decide +kernel
theorem dX3_gather_48 : decode cX3_gather 48 = .ok (.if_icmp .ne 23, 3) := by decide +kernel
theorem dX3_gather_51 : decode cX3_gather 51 = .ok (.aload_n 0, 1) := by decide +kernel
theorem dX3_gather_52 : decode cX3_gather 52 = .ok (.getfield 21, 3) := by decide +kernel
theorem dX3_gather_55 : decode cX3_gather 55 = .ok (.aload_n 0, 1) := by decide +kernel
theorem dX3_gather_56 : decode cX3_gather 56 = .ok (.getfield 25, 3) := by decide +kernel
theorem dX3_gather_59 : decode cX3_gather 59 = .ok (.iload_n 2, 1) := by decide +kernel
theorem dX3_gather_60 : decode cX3_gather 60 = .ok (.iastore, 1) := by decide +kernel
theorem dX3_gather_61 : decode cX3_gather 61 = .ok (.aload_n 0, 1) := by decide +kernel
theorem dX3_gather_62 : decode cX3_gather 62 = .ok (.dup, 1) := by decide +kernel
theorem dX3_gather_63 : decode cX3_gather 63 = .ok (.getfield 25, 3) := by decide +kernel
theorem dX3_gather_66 : decode cX3_gather 66 = .ok (.iconst 1, 1) := by decide +kernel
theorem dX3_gather_67 : decode cX3_gather 67 = .ok (.iadd, 1) := by decide +kernel
theorem dX3_gather_68 : decode cX3_gather 68 = .ok (.putfield 25, 3) := by decide +kernel
theorem dX3_gather_71 : decode cX3_gather 71 = .ok (.iinc 2 1, 3) := by decide +kernel
theorem dX3_gather_74 : decode cX3_gather 74 = .ok (.goto (-67), 3) := by decide +kernel
theorem dX3_gather_77 : decode cX3_gather 77 = .ok (.aload_n 0, 1) := by decide +kernel
theorem dX3_gather_78 : decode cX3_gather 78 = .ok (.getfield 25, 3) := by decide +kernel
theorem dX3_gather_81 : decode cX3_gather 81 = .ok (.ireturn, 1) := by decide +kernel
theorem dX3_shareOut_0 : decode cX3_shareOut 0 = .ok (.iconst 1, 1) := by decide +kernel
theorem dX3_shareOut_1 : decode cX3_shareOut 1 = .ok (.istore_n 2, 1) := by decide +kernel
theorem dX3_shareOut_2 : decode cX3_shareOut 2 = .ok (.iconst 0, 1) := by decide +kernel
theorem dX3_shareOut_3 : decode cX3_shareOut 3 = .ok (.istore_n 3, 1) := by decide +kernel
theorem dX3_shareOut_4 : decode cX3_shareOut 4 = .ok (.iload_n 3, 1) := by decide +kernel
theorem dX3_shareOut_5 : decode cX3_shareOut 5 = .ok (.aload_n 0, 1) := by decide +kernel
theorem dX3_shareOut_6 : decode cX3_shareOut 6 = .ok (.getfield 25, 3) := by decide +kernel
theorem dX3_shareOut_9 : decode cX3_shareOut 9 = .ok (.if_icmp .ge 19, 3) := by decide +kernel
theorem dX3_shareOut_12 : decode cX3_shareOut 12 = .ok (.iload_n 2, 1) := by decide +kernel
theorem dX3_shareOut_13 : decode cX3_shareOut 13 = .ok (.aload_n 0, 1) := by decide +kernel
theorem dX3_shareOut_14 : decode cX3_shareOut 14 = .ok (.getfield 37, 3) := by decide +kernel
theorem dX3_shareOut_17 : decode cX3_shareOut 17 = .ok (.invokevirtual 92, 3) := by decide +kernel
theorem dX3_shareOut_20 : decode cX3_shareOut 20 = .ok (.imul, 1) := by decide +kernel
theorem dX3_shareOut_21 : decode cX3_shareOut 21 = .ok (.istore_n 2, 1) := by decide +kernel
theorem dX3_shareOut_22 : decode cX3_shareOut 22 = .ok (.iinc 3 1, 3) := by decide +kernel
theorem dX3_shareOut_25 : decode cX3_shareOut 25 = .ok (.goto (-21), 3) := by decide +kernel
theorem dX3_shareOut_28 : decode cX3_shareOut 28 = .ok (.iconst 0, 1) := by decide +kernel
theorem dX3_shareOut_29 : decode cX3_shareOut 29 = .ok (.istore_n 3, 1) := by decide +kernel
theorem dX3_shareOut_30 : decode cX3_shareOut 30 = .ok (.iconst 0, 1) := by decide +kernel
theorem dX3_shareOut_31 : decode cX3_shareOut 31 = .ok (.istore 4, 2) := by decide +kernel
theorem dX3_shareOut_33 : decode cX3_shareOut 33 = .ok (.iload 4, 2) := by decide +kernel
theorem dX3_shareOut_35 : decode cX3_shareOut 35 = .ok (.iload_n 2, 1) := by decide +kernel
theorem dX3_shareOut_36 : decode cX3_shareOut 36 = .ok (.if_icmp .ge 60, 3) := by decide +kernel
theorem dX3_shareOut_39 : decode cX3_shareOut 39 = .ok (.aload_n 0, 1) := by decide +kernel
theorem dX3_shareOut_40 : decode cX3_shareOut 40 = .ok (.iload 4, 2) := by decide +kernel
theorem dX3_shareOut_42 : decode cX3_shareOut 42 = .ok (.iload_n 1, 1) := by decide +kernel
theorem dX3_shareOut_43 : decode cX3_shareOut 43 = .ok (.invokevirtual 113, 3) := by decide +kernel
theorem dX3_shareOut_46 : decode cX3_shareOut 46 = .ok (.istore 5, 2) := by decide +kernel
theorem dX3_shareOut_48 : decode cX3_shareOut 48 = .ok (.iload 5, 2) := by decide +kernel
theorem dX3_shareOut_50 : decode cX3_shareOut 50 = .ok (.bipush (-2), 2) := by decide +kernel
theorem dX3_shareOut_52 : decode cX3_shareOut 52 = .ok (.if_icmp .eq 38, 3) := by decide +kernel
theorem dX3_shareOut_55 : decode cX3_shareOut 55 = .ok (.iload_n 3, 1) := by decide +kernel
theorem dX3_shareOut_56 : decode cX3_shareOut 56 = .ok (.ifCond .eq 12, 3) := by decide +kernel
theorem dX3_shareOut_59 : decode cX3_shareOut 59 = .ok (.iload 5, 2) := by decide +kernel
theorem dX3_shareOut_61 : decode cX3_shareOut 61 = .ok (.aload_n 0, 1) := by decide +kernel
theorem dX3_shareOut_62 : decode cX3_shareOut 62 = .ok (.getfield 34, 3) := by decide +kernel
theorem dX3_shareOut_65 : decode cX3_shareOut 65 = .ok (.if_icmp .ge 25, 3) := by decide +kernel
theorem dX3_shareOut_68 : decode cX3_shareOut 68 = .ok (.iconst 1, 1) := by decide +kernel
theorem dX3_shareOut_69 : decode cX3_shareOut 69 = .ok (.istore_n 3, 1) := by decide +kernel
theorem dX3_shareOut_70 : decode cX3_shareOut 70 = .ok (.aload_n 0, 1) := by decide +kernel
theorem dX3_shareOut_71 : decode cX3_shareOut 71 = .ok (.iload 5, 2) := by decide +kernel
theorem dX3_shareOut_73 : decode cX3_shareOut 73 = .ok (.putfield 34, 3) := by decide +kernel
theorem dX3_shareOut_76 : decode cX3_shareOut 76 = .ok (.aload_n 0, 1) := by decide +kernel
theorem dX3_shareOut_77 : decode cX3_shareOut 77 = .ok (.getfield 28, 3) := by decide +kernel
theorem dX3_shareOut_80 : decode cX3_shareOut 80 = .ok (.iconst 0, 1) := by decide +kernel
theorem dX3_shareOut_81 : decode cX3_shareOut 81 = .ok (.aload_n 0, 1) := by decide +kernel
theorem dX3_shareOut_82 : decode cX3_shareOut 82 = .ok (.getfield 31, 3) := by decide +kernel
theorem dX3_shareOut_85 : decode cX3_shareOut 85 = .ok (.iconst 0, 1) := by decide +kernel
theorem dX3_shareOut_86 : decode cX3_shareOut 86 = .ok (.iconst 4, 1) := by decide +kernel
theorem dX3_shareOut_87 : decode cX3_shareOut 87 = .ok (.invokestatic 116, 3) := by decide +kernel
theorem dX3_shareOut_90 : decode cX3_shareOut 90 = .ok (.iinc 4 1, 3) := by decide +kernel
theorem dX3_shareOut_93 : decode cX3_shareOut 93 = .ok (.goto (-60), 3) := by decide +kernel
theorem dX3_shareOut_96 : decode cX3_shareOut 96 = .ok (.iload_n 3, 1) := by decide +kernel
theorem dX3_shareOut_97 : decode cX3_shareOut 97 = .ok (.ireturn, 1) := by decide +kernel
theorem dX3_sumOfRow_0 : decode cX3_sumOfRow 0 = .ok (.iconst 1, 1) := by decide +kernel
theorem dX3_sumOfRow_1 : decode cX3_sumOfRow 1 = .ok (.aload_n 0, 1) := by decide +kernel
theorem dX3_sumOfRow_2 : decode cX3_sumOfRow 2 = .ok (.getfield 37, 3) := by decide +kernel
theorem dX3_sumOfRow_5 : decode cX3_sumOfRow 5 = .ok (.invokevirtual 92, 3) := by decide +kernel
theorem dX3_sumOfRow_8 : decode cX3_sumOfRow 8 = .ok (.invokestatic 64, 3) := by decide +kernel
theorem dX3_sumOfRow_11 : decode cX3_sumOfRow 11 = .ok (.istore_n 3, 1) := by decide +kernel
theorem dX3_sumOfRow_12 : decode cX3_sumOfRow 12 = .ok (.iload_n 1, 1) := by decide +kernel
theorem dX3_sumOfRow_13 : decode cX3_sumOfRow 13 = .ok (.istore 4, 2) := by decide +kernel
theorem dX3_sumOfRow_15 : decode cX3_sumOfRow 15 = .ok (.iconst 0, 1) := by decide +kernel
theorem dX3_sumOfRow_16 : decode cX3_sumOfRow 16 = .ok (.istore 5, 2) := by decide +kernel
theorem dX3_sumOfRow_18 : decode cX3_sumOfRow 18 = .ok (.aload_n 0, 1) := by decide +kernel
theorem dX3_sumOfRow_19 : decode cX3_sumOfRow 19 = .ok (.getfield 25, 3) := by decide +kernel
theorem dX3_sumOfRow_22 : decode cX3_sumOfRow 22 = .ok (.iconst 4, 1) := by decide +kernel
theorem dX3_sumOfRow_23 : decode cX3_sumOfRow 23 = .ok (.invokestatic 122, 3) := by decide +kernel
theorem dX3_sumOfRow_26 : decode cX3_sumOfRow 26 = .ok (.iconst 1, 1) := by decide +kernel
theorem dX3_sumOfRow_27 : decode cX3_sumOfRow 27 = .ok (.isub, 1) := by decide +kernel
theorem dX3_sumOfRow_28 : decode cX3_sumOfRow 28 = .ok (.istore 6, 2) := by decide +kernel
theorem dX3_sumOfRow_30 : decode cX3_sumOfRow 30 = .ok (.iload 6, 2) := by decide +kernel
theorem dX3_sumOfRow_32 : decode cX3_sumOfRow 32 = .ok (.ifCond .lt 94, 3) := by decide +kernel
theorem dX3_sumOfRow_35 : decode cX3_sumOfRow 35 = .ok (.iload 4, 2) := by decide +kernel
theorem dX3_sumOfRow_37 : decode cX3_sumOfRow 37 = .ok (.iload_n 3, 1) := by decide +kernel
theorem dX3_sumOfRow_38 : decode cX3_sumOfRow 38 = .ok (.irem, 1) := by decide +kernel
theorem dX3_sumOfRow_39 : decode cX3_sumOfRow 39 = .ok (.istore 7, 2) := by decide +kernel
theorem dX3_sumOfRow_41 : decode cX3_sumOfRow 41 = .ok (.iload 4, 2) := by decide +kernel
theorem dX3_sumOfRow_43 : decode cX3_sumOfRow 43 = .ok (.iload_n 3, 1) := by decide +kernel
theorem dX3_sumOfRow_44 : decode cX3_sumOfRow 44 = .ok (.idiv, 1) := by decide +kernel
theorem dX3_sumOfRow_45 : decode cX3_sumOfRow 45 = .ok (.istore 4, 2) := by decide +kernel
theorem dX3_sumOfRow_47 : decode cX3_sumOfRow 47 = .ok (.aload_n 0, 1) := by decide +kernel
theorem dX3_sumOfRow_48 : decode cX3_sumOfRow 48 = .ok (.getfield 21, 3) := by decide +kernel
theorem dX3_sumOfRow_51 : decode cX3_sumOfRow 51 = .ok (.iload 6, 2) := by decide +kernel
theorem dX3_sumOfRow_53 : decode cX3_sumOfRow 53 = .ok (.iaload, 1) := by decide +kernel
theorem dX3_sumOfRow_54 : decode cX3_sumOfRow 54 = .ok (.istore 8, 2) := by decide +kernel
theorem dX3_sumOfRow_56 : decode cX3_sumOfRow 56 = .ok (.aload_n 0, 1) := by decide +kernel
theorem dX3_sumOfRow_57 : decode cX3_sumOfRow 57 = .ok (.aload_n 0, 1) := by decide +kernel
theorem dX3_sumOfRow_58 : decode cX3_sumOfRow 58 = .ok (.getfield 41, 3) := by decide +kernel
theorem dX3_sumOfRow_61 : decode cX3_sumOfRow 61 = .ok (.iload 8, 2) := by decide +kernel
theorem dX3_sumOfRow_63 : decode cX3_sumOfRow 63 = .ok (.invokevirtual 67, 3) := by decide +kernel
theorem dX3_sumOfRow_66 : decode cX3_sumOfRow 66 = .ok (.iload 7, 2) := by decide +kernel
theorem dX3_sumOfRow_68 : decode cX3_sumOfRow 68 = .ok (.iload_n 2, 1) := by decide +kernel
theorem dX3_sumOfRow_69 : decode cX3_sumOfRow 69 = .ok (.aload_n 0, 1) := by decide +kernel
theorem dX3_sumOfRow_70 : decode cX3_sumOfRow 70 = .ok (.getfield 41, 3) := by decide +kernel
theorem dX3_sumOfRow_73 : decode cX3_sumOfRow 73 = .ok (.iload 8, 2) := by decide +kernel
theorem dX3_sumOfRow_75 : decode cX3_sumOfRow 75 = .ok (.invokevirtual 78, 3) := by decide +kernel
theorem dX3_sumOfRow_78 : decode cX3_sumOfRow 78 = .ok (.invokevirtual 96, 3) := by decide +kernel
theorem dX3_sumOfRow_81 : decode cX3_sumOfRow 81 = .ok (.istore 9, 2) := by decide +kernel
theorem dX3_sumOfRow_83 : decode cX3_sumOfRow 83 = .ok (.iload 9, 2) := by decide +kernel
theorem dX3_sumOfRow_85 : decode cX3_sumOfRow 85 = .ok (.bipush (-2), 2) := by decide +kernel
theorem dX3_sumOfRow_87 : decode cX3_sumOfRow 87 = .ok (.if_icmp .eq 14, 3) := by decide +kernel
theorem dX3_sumOfRow_90 : decode cX3_sumOfRow 90 = .ok (.aload_n 0, 1) := by decide +kernel
theorem dX3_sumOfRow_91 : decode cX3_sumOfRow 91 = .ok (.iload 6, 2) := by decide +kernel
theorem dX3_sumOfRow_93 : decode cX3_sumOfRow 93 = .ok (.iload 7, 2) := by decide +kernel
theorem dX3_sumOfRow_95 : decode cX3_sumOfRow 95 = .ok (.invokevirtual 125, 3) := by decide +kernel
theorem dX3_sumOfRow_98 : decode cX3_sumOfRow 98 = .ok (.ifCond .eq 6, 3) := by decide +kernel
theorem dX3_sumOfRow_101 : decode cX3_sumOfRow 101 = .ok (.bipush (-2), 2) := by decide +kernel
theorem dX3_sumOfRow_103 : decode cX3_sumOfRow 103 = .ok (.ireturn, 1) := by decide +kernel
theorem dX3_sumOfRow_104 : decode cX3_sumOfRow 104 = .ok (.aload_n 0, 1) := by decide +kernel
theorem dX3_sumOfRow_105 : decode cX3_sumOfRow 105 = .ok (.getfield 28, 3) := by decide +kernel
theorem dX3_sumOfRow_108 : decode cX3_sumOfRow 108 = .ok (.iload 6, 2) := by decide +kernel
theorem dX3_sumOfRow_110 : decode cX3_sumOfRow 110 = .ok (.iload 7, 2) := by decide +kernel
theorem dX3_sumOfRow_112 : decode cX3_sumOfRow 112 = .ok (.iastore, 1) := by decide +kernel
theorem dX3_sumOfRow_113 : decode cX3_sumOfRow 113 = .ok (.iload 5, 2) := by decide +kernel
theorem dX3_sumOfRow_115 : decode cX3_sumOfRow 115 = .ok (.iload 9, 2) := by decide +kernel
theorem dX3_sumOfRow_117 : decode cX3_sumOfRow 117 = .ok (.iadd, 1) := by decide +kernel
theorem dX3_sumOfRow_118 : decode cX3_sumOfRow 118 = .ok (.istore 5, 2) := by decide +kernel
theorem dX3_sumOfRow_120 : decode cX3_sumOfRow 120 = .ok (.iinc 6 (-1), 3) := by decide +kernel
theorem dX3_sumOfRow_123 : decode cX3_sumOfRow 123 = .ok (.goto (-93), 3) := by decide +kernel
theorem dX3_sumOfRow_126 : decode cX3_sumOfRow 126 = .ok (.iload 5, 2) := by decide +kernel
theorem dX3_sumOfRow_128 : decode cX3_sumOfRow 128 = .ok (.ireturn, 1) := by decide +kernel
theorem dX3_isTriedBehind_0 : decode cX3_isTriedBehind 0 = .ok (.iconst (-1), 1) := by decide +kernel
theorem dX3_isTriedBehind_1 : decode cX3_isTriedBehind 1 = .ok (.iload_n 1, 1) := by decide +kernel
theorem dX3_isTriedBehind_2 : decode cX3_isTriedBehind 2 = .ok (.invokestatic 64, 3) := by decide +kernel
theorem dX3_isTriedBehind_5 : decode cX3_isTriedBehind 5 = .ok (.iconst 1, 1) := by decide +kernel
theorem dX3_isTriedBehind_6 : decode cX3_isTriedBehind 6 = .ok (.iadd, 1) := by decide +kernel
theorem dX3_isTriedBehind_7 : decode cX3_isTriedBehind 7 = .ok (.istore_n 3, 1) := by decide +kernel
theorem dX3_isTriedBehind_8 : decode cX3_isTriedBehind 8 = .ok (.iload_n 3, 1) := by decide +kernel
theorem dX3_isTriedBehind_9 : decode cX3_isTriedBehind 9 = .ok (.aload_n 0, 1) := by decide +kernel
theorem dX3_isTriedBehind_10 : decode cX3_isTriedBehind 10 = .ok (.getfield 25, 3) := by decide +kernel
theorem dX3_isTriedBehind_13 : decode cX3_isTriedBehind 13 = .ok (.if_icmp .ge 26, 3) := by decide +kernel
theorem dX3_isTriedBehind_16 : decode cX3_isTriedBehind 16 = .ok (.iload_n 3, 1) := by decide +kernel
theorem dX3_isTriedBehind_17 : decode cX3_isTriedBehind 17 = .ok (.iconst 4, 1) := by decide +kernel
theorem dX3_isTriedBehind_18 : decode cX3_isTriedBehind 18 = .ok (.if_icmp .ge 21, 3) := by decide +kernel
theorem dX3_isTriedBehind_21 : decode cX3_isTriedBehind 21 = .ok (.aload_n 0, 1) := by decide +kernel
theorem dX3_isTriedBehind_22 : decode cX3_isTriedBehind 22 = .ok (.getfield 28, 3) := by decide +kernel
theorem dX3_isTriedBehind_25 : decode cX3_isTriedBehind 25 = .ok (.iload_n 3, 1) := by decide +kernel
theorem dX3_isTriedBehind_26 : decode cX3_isTriedBehind 26 = .ok (.iaload, 1) := by decide +kernel
theorem dX3_isTriedBehind_27 : decode cX3_isTriedBehind 27 = .ok (.iload_n 2, 1) := by decide +kernel
theorem dX3_isTriedBehind_28 : decode cX3_isTriedBehind 28 = .ok (.if_icmp .ne 5, 3) := by decide +kernel
theorem dX3_isTriedBehind_31 : decode cX3_isTriedBehind 31 = .ok (.iconst 1, 1) := by decide +kernel
theorem dX3_isTriedBehind_32 : decode cX3_isTriedBehind 32 = .ok (.ireturn, 1) := by decide +kernel
theorem dX3_isTriedBehind_33 : decode cX3_isTriedBehind 33 = .ok (.iinc 3 1, 3) := by decide +kernel
theorem dX3_isTriedBehind_36 : decode cX3_isTriedBehind 36 = .ok (.goto (-28), 3) := by decide +kernel
theorem dX3_isTriedBehind_39 : decode cX3_isTriedBehind 39 = .ok (.iconst 0, 1) := by decide +kernel
theorem dX3_isTriedBehind_40 : decode cX3_isTriedBehind 40 = .ok (.ireturn, 1) := by decide +kernel
theorem dX3_sharedSum_0 : decode cX3_sharedSum 0 = .ok (.aload_n 0, 1) := by decide +kernel
theorem dX3_sharedSum_1 : decode cX3_sharedSum 1 = .ok (.getfield 34, 3) := by decide +kernel
theorem dX3_sharedSum_4 : decode cX3_sharedSum 4 = .ok (.ireturn, 1) := by decide +kernel
theorem dX3_sharedChild_0 : decode cX3_sharedChild 0 = .ok (.iconst 0, 1) := by decide +kernel
theorem dX3_sharedChild_1 : decode cX3_sharedChild 1 = .ok (.iload_n 1, 1) := by decide +kernel
theorem dX3_sharedChild_2 : decode cX3_sharedChild 2 = .ok (.if_icmp .gt 25, 3) := by decide +kernel
theorem dX3_sharedChild_5 : decode cX3_sharedChild 5 = .ok (.iload_n 1, 1) := by decide +kernel
theorem dX3_sharedChild_6 : decode cX3_sharedChild 6 = .ok (.aload_n 0, 1) := by decide +kernel
theorem dX3_sharedChild_7 : decode cX3_sharedChild 7 = .ok (.getfield 25, 3) := by decide +kernel
theorem dX3_sharedChild_10 : decode cX3_sharedChild 10 = .ok (.if_icmp .ge 17, 3) := by decide +kernel
theorem dX3_sharedChild_13 : decode cX3_sharedChild 13 = .ok (.iload_n 1, 1) := by decide +kernel
theorem dX3_sharedChild_14 : decode cX3_sharedChild 14 = .ok (.iconst 4, 1) := by decide +kernel
theorem dX3_sharedChild_15 : decode cX3_sharedChild 15 = .ok (.if_icmp .ge 12, 3) := by decide +kernel
theorem dX3_sharedChild_18 : decode cX3_sharedChild 18 = .ok (.aload_n 0, 1) := by decide +kernel
theorem dX3_sharedChild_19 : decode cX3_sharedChild 19 = .ok (.getfield 31, 3) := by decide +kernel
theorem dX3_sharedChild_22 : decode cX3_sharedChild 22 = .ok (.iload_n 1, 1) := by decide +kernel
theorem dX3_sharedChild_23 : decode cX3_sharedChild 23 = .ok (.iaload, 1) := by decide +kernel
theorem dX3_sharedChild_24 : decode cX3_sharedChild 24 = .ok (.goto 4, 3) := by decide +kernel
theorem dX3_sharedChild_27 : decode cX3_sharedChild 27 = .ok (.iconst (-1), 1) := by decide +kernel
theorem dX3_sharedChild_28 : decode cX3_sharedChild 28 = .ok (.ireturn, 1) := by decide +kernel
theorem dX3_slipsFound_0 : decode cX3_slipsFound 0 = .ok (.aload_n 0, 1) := by decide +kernel
theorem dX3_slipsFound_1 : decode cX3_slipsFound 1 = .ok (.getfield 37, 3) := by decide +kernel
theorem dX3_slipsFound_4 : decode cX3_slipsFound 4 = .ok (.iload_n 1, 1) := by decide +kernel
theorem dX3_slipsFound_5 : decode cX3_slipsFound 5 = .ok (.iload_n 2, 1) := by decide +kernel
theorem dX3_slipsFound_6 : decode cX3_slipsFound 6 = .ok (.invokevirtual 51, 3) := by decide +kernel
theorem dX3_slipsFound_9 : decode cX3_slipsFound 9 = .ok (.istore 6, 2) := by decide +kernel
theorem dX3_slipsFound_11 : decode cX3_slipsFound 11 = .ok (.iconst 1, 1) := by decide +kernel
theorem dX3_slipsFound_12 : decode cX3_slipsFound 12 = .ok (.iconst 2, 1) := by decide +kernel
theorem dX3_slipsFound_13 : decode cX3_slipsFound 13 = .ok (.iload 5, 2) := by decide +kernel
theorem dX3_slipsFound_15 : decode cX3_slipsFound 15 = .ok (.imul, 1) := by decide +kernel
theorem dX3_slipsFound_16 : decode cX3_slipsFound 16 = .ok (.iconst 1, 1) := by decide +kernel
theorem dX3_slipsFound_17 : decode cX3_slipsFound 17 = .ok (.iadd, 1) := by decide +kernel
theorem dX3_slipsFound_18 : decode cX3_slipsFound 18 = .ok (.invokestatic 64, 3) := by decide +kernel
theorem dX3_slipsFound_21 : decode cX3_slipsFound 21 = .ok (.istore 7, 2) := by decide +kernel
theorem dX3_slipsFound_23 : decode cX3_slipsFound 23 = .ok (.iload_n 3, 1) := by decide +kernel
theorem dX3_slipsFound_24 : decode cX3_slipsFound 24 = .ok (.istore 8, 2) := by decide +kernel
theorem dX3_slipsFound_26 : decode cX3_slipsFound 26 = .ok (.iconst 0, 1) := by decide +kernel
theorem dX3_slipsFound_27 : decode cX3_slipsFound 27 = .ok (.istore 9, 2) := by decide +kernel
theorem dX3_slipsFound_29 : decode cX3_slipsFound 29 = .ok (.iconst 0, 1) := by decide +kernel
theorem dX3_slipsFound_30 : decode cX3_slipsFound 30 = .ok (.istore 10, 2) := by decide +kernel
theorem dX3_slipsFound_32 : decode cX3_slipsFound 32 = .ok (.iload 10, 2) := by decide +kernel
theorem dX3_slipsFound_34 : decode cX3_slipsFound 34 = .ok (.iload 4, 2) := by decide +kernel
theorem dX3_slipsFound_36 : decode cX3_slipsFound 36 = .ok (.if_icmp .ge 60, 3) := by decide +kernel
theorem dX3_slipsFound_39 : decode cX3_slipsFound 39 = .ok (.iload 8, 2) := by decide +kernel
theorem dX3_slipsFound_41 : decode cX3_slipsFound 41 = .ok (.ldc 128, 2) := by decide +kernel
theorem dX3_slipsFound_43 : decode cX3_slipsFound 43 = .ok (.imul, 1) := by decide +kernel
theorem dX3_slipsFound_44 : decode cX3_slipsFound 44 = .ok (.sipush 12345, 3) := by decide +kernel
theorem dX3_slipsFound_47 : decode cX3_slipsFound 47 = .ok (.iadd, 1) := by decide +kernel
theorem dX3_slipsFound_48 : decode cX3_slipsFound 48 = .ok (.istore 8, 2) := by decide +kernel
theorem dX3_slipsFound_50 : decode cX3_slipsFound 50 = .ok (.iload 8, 2) := by decide +kernel
theorem dX3_slipsFound_52 : decode cX3_slipsFound 52 = .ok (.bipush 8, 2) := by decide +kernel
theorem dX3_slipsFound_54 : decode cX3_slipsFound 54 = .ok (.iushr, 1) := by decide +kernel
theorem dX3_slipsFound_55 : decode cX3_slipsFound 55 = .ok (.iload 7, 2) := by decide +kernel
theorem dX3_slipsFound_57 : decode cX3_slipsFound 57 = .ok (.irem, 1) := by decide +kernel
theorem dX3_slipsFound_58 : decode cX3_slipsFound 58 = .ok (.iload 5, 2) := by decide +kernel
theorem dX3_slipsFound_60 : decode cX3_slipsFound 60 = .ok (.isub, 1) := by decide +kernel
theorem dX3_slipsFound_61 : decode cX3_slipsFound 61 = .ok (.istore 11, 2) := by decide +kernel
theorem dX3_slipsFound_63 : decode cX3_slipsFound 63 = .ok (.aload_n 0, 1) := by decide +kernel
theorem dX3_slipsFound_64 : decode cX3_slipsFound 64 = .ok (.iload 6, 2) := by decide +kernel
theorem dX3_slipsFound_66 : decode cX3_slipsFound 66 = .ok (.iload 11, 2) := by decide +kernel
theorem dX3_slipsFound_68 : decode cX3_slipsFound 68 = .ok (.iadd, 1) := by decide +kernel
theorem dX3_slipsFound_69 : decode cX3_slipsFound 69 = .ok (.bipush 6, 2) := by decide +kernel
theorem dX3_slipsFound_71 : decode cX3_slipsFound 71 = .ok (.iload_n 2, 1) := by decide +kernel
theorem dX3_slipsFound_72 : decode cX3_slipsFound 72 = .ok (.iconst 0, 1) := by decide +kernel
theorem dX3_slipsFound_73 : decode cX3_slipsFound 73 = .ok (.invokevirtual 81, 3) := by decide +kernel
theorem dX3_slipsFound_76 : decode cX3_slipsFound 76 = .ok (.ifCond .eq 14, 3) := by decide +kernel
theorem dX3_slipsFound_79 : decode cX3_slipsFound 79 = .ok (.aload_n 0, 1) := by decide +kernel
theorem dX3_slipsFound_80 : decode cX3_slipsFound 80 = .ok (.getfield 9, 3) := by decide +kernel
theorem dX3_slipsFound_83 : decode cX3_slipsFound 83 = .ok (.iload_n 1, 1) := by decide +kernel
theorem dX3_slipsFound_84 : decode cX3_slipsFound 84 = .ok (.if_icmp .ne 6, 3) := by decide +kernel
theorem dX3_slipsFound_87 : decode cX3_slipsFound 87 = .ok (.iinc 9 1, 3) := by decide +kernel
theorem dX3_slipsFound_90 : decode cX3_slipsFound 90 = .ok (.iinc 10 1, 3) := by decide +kernel
theorem dX3_slipsFound_93 : decode cX3_slipsFound 93 = .ok (.goto (-61), 3) := by decide +kernel
theorem dX3_slipsFound_96 : decode cX3_slipsFound 96 = .ok (.iload 9, 2) := by decide +kernel
theorem dX3_slipsFound_98 : decode cX3_slipsFound 98 = .ok (.ireturn, 1) := by decide +kernel
theorem dX4_init_0 : decode cX4_init 0 = .ok (.aload_n 0, 1) := by decide +kernel
theorem dX4_init_1 : decode cX4_init 1 = .ok (.invokespecial 3, 3) := by decide +kernel
theorem dX4_init_4 : decode cX4_init 4 = .ok (.aload_n 0, 1) := by decide +kernel
theorem dX4_init_5 : decode cX4_init 5 = .ok (.bipush 121, 2) := by decide +kernel
theorem dX4_init_7 : decode cX4_init 7 = .ok (.newarray .int, 2) := by decide +kernel
theorem dX4_init_9 : decode cX4_init 9 = .ok (.putfield 11, 3) := by decide +kernel
theorem dX4_init_12 : decode cX4_init 12 = .ok (.aload_n 0, 1) := by decide +kernel
theorem dX4_init_13 : decode cX4_init 13 = .ok (.bipush 121, 2) := by decide +kernel
theorem dX4_init_15 : decode cX4_init 15 = .ok (.newarray .int, 2) := by decide +kernel
theorem dX4_init_17 : decode cX4_init 17 = .ok (.putfield 15, 3) := by decide +kernel
theorem dX4_init_20 : decode cX4_init 20 = .ok (.aload_n 0, 1) := by decide +kernel
theorem dX4_init_21 : decode cX4_init 21 = .ok (.bipush 121, 2) := by decide +kernel
theorem dX4_init_23 : decode cX4_init 23 = .ok (.newarray .int, 2) := by decide +kernel
theorem dX4_init_25 : decode cX4_init 25 = .ok (.putfield 18, 3) := by decide +kernel
theorem dX4_init_28 : decode cX4_init 28 = .ok (.aload_n 0, 1) := by decide +kernel
theorem dX4_init_29 : decode cX4_init 29 = .ok (.iconst 0, 1) := by decide +kernel
theorem dX4_init_30 : decode cX4_init 30 = .ok (.putfield 21, 3) := by decide +kernel
theorem dX4_init_33 : decode cX4_init 33 = .ok (.aload_n 0, 1) := by decide +kernel
theorem dX4_init_34 : decode cX4_init 34 = .ok (.iconst 0, 1) := by decide +kernel
theorem dX4_init_35 : decode cX4_init 35 = .ok (.putfield 25, 3) := by decide +kernel
theorem dX4_init_38 : decode cX4_init 38 = .ok (.aload_n 0, 1) := by decide +kernel
theorem dX4_init_39 : decode cX4_init 39 = .ok (.iconst 0, 1) := by decide +kernel
theorem dX4_init_40 : decode cX4_init 40 = .ok (.putfield 28, 3) := by decide +kernel
theorem dX4_init_43 : decode cX4_init 43 = .ok (.return_, 1) := by decide +kernel
theorem dX4_become_0 : decode cX4_become 0 = .ok (.aload_n 0, 1) := by decide +kernel
theorem dX4_become_1 : decode cX4_become 1 = .ok (.iload_n 3, 1) := by decide +kernel
theorem dX4_become_2 : decode cX4_become 2 = .ok (.bipush 121, 2) := by decide +kernel
theorem dX4_become_4 : decode cX4_become 4 = .ok (.aload_n 1, 1) := by decide +kernel
theorem dX4_become_5 : decode cX4_become 5 = .ok (.arraylength, 1) := by decide +kernel
theorem dX4_become_6 : decode cX4_become 6 = .ok (.aload_n 2, 1) := by decide +kernel
theorem dX4_become_7 : decode cX4_become 7 = .ok (.arraylength, 1) := by decide +kernel
theorem dX4_become_8 : decode cX4_become 8 = .ok (.invokestatic 32, 3) := by decide +kernel
theorem dX4_become_11 : decode cX4_become 11 = .ok (.invokestatic 32, 3) := by decide +kernel
theorem dX4_become_14 : decode cX4_become 14 = .ok (.invokestatic 32, 3) := by decide +kernel
theorem dX4_become_17 : decode cX4_become 17 = .ok (.putfield 21, 3) := by decide +kernel
theorem dX4_become_20 : decode cX4_become 20 = .ok (.iconst 0, 1) := by decide +kernel
theorem dX4_become_21 : decode cX4_become 21 = .ok (.istore 4, 2) := by decide +kernel
theorem dX4_become_23 : decode cX4_become 23 = .ok (.iload 4, 2) := by decide +kernel
theorem dX4_become_25 : decode cX4_become 25 = .ok (.aload_n 0, 1) := by decide +kernel
theorem dX4_become_26 : decode cX4_become 26 = .ok (.getfield 21, 3) := by decide +kernel
theorem dX4_become_29 : decode cX4_become 29 = .ok (.if_icmp .ge 31, 3) := by decide +kernel
theorem dX4_become_32 : decode cX4_become 32 = .ok (.aload_n 0, 1) := by decide +kernel
theorem dX4_become_33 : decode cX4_become 33 = .ok (.getfield 11, 3) := by decide +kernel
theorem dX4_become_36 : decode cX4_become 36 = .ok (.iload 4, 2) := by decide +kernel
theorem dX4_become_38 : decode cX4_become 38 = .ok (.aload_n 1, 1) := by decide +kernel
theorem dX4_become_39 : decode cX4_become 39 = .ok (.iload 4, 2) := by decide +kernel
theorem dX4_become_41 : decode cX4_become 41 = .ok (.iaload, 1) := by decide +kernel
theorem dX4_become_42 : decode cX4_become 42 = .ok (.iastore, 1) := by decide +kernel
theorem dX4_become_43 : decode cX4_become 43 = .ok (.aload_n 0, 1) := by decide +kernel
theorem dX4_become_44 : decode cX4_become 44 = .ok (.getfield 15, 3) := by decide +kernel
theorem dX4_become_47 : decode cX4_become 47 = .ok (.iload 4, 2) := by decide +kernel
theorem dX4_become_49 : decode cX4_become 49 = .ok (.aload_n 2, 1) := by decide +kernel
theorem dX4_become_50 : decode cX4_become 50 = .ok (.iload 4, 2) := by decide +kernel
theorem dX4_become_52 : decode cX4_become 52 = .ok (.iaload, 1) := by decide +kernel
theorem dX4_become_53 : decode cX4_become 53 = .ok (.iastore, 1) := by decide +kernel
theorem dX4_become_54 : decode cX4_become 54 = .ok (.iinc 4 1, 3) := by decide +kernel
theorem dX4_become_57 : decode cX4_become 57 = .ok (.goto (-34), 3) := by decide +kernel
theorem dX4_become_60 : decode cX4_become 60 = .ok (.aload_n 0, 1) := by decide +kernel
theorem dX4_become_61 : decode cX4_become 61 = .ok (.iconst 1, 1) := by decide +kernel
theorem dX4_become_62 : decode cX4_become 62 = .ok (.putfield 28, 3) := by decide +kernel
theorem dX4_become_65 : decode cX4_become 65 = .ok (.return_, 1) := by decide +kernel
theorem dX4_growth_0 : decode cX4_growth 0 = .ok (.aload_n 1, 1) := by decide +kernel
theorem dX4_growth_1 : decode cX4_growth 1 = .ok (.arraylength, 1) := by decide +kernel
theorem dX4_growth_2 : decode cX4_growth 2 = .ok (.bipush 7, 2) := by decide +kernel
theorem dX4_growth_4 : decode cX4_growth 4 = .ok (.if_icmp .ge 5, 3) := by decide +kernel
theorem dX4_growth_7 : decode cX4_growth 7 = .ok (.iconst 0, 1) := by decide +kernel
theorem dX4_growth_8 : decode cX4_growth 8 = .ok (.ireturn, 1) := by decide +kernel
theorem dX4_growth_9 : decode cX4_growth 9 = .ok (.aload_n 0, 1) := by decide +kernel
theorem dX4_growth_10 : decode cX4_growth 10 = .ok (.getfield 28, 3) := by decide +kernel
theorem dX4_growth_13 : decode cX4_growth 13 = .ok (.ifCond .eq 11, 3) := by decide +kernel
theorem dX4_growth_16 : decode cX4_growth 16 = .ok (.aload_n 0, 1) := by decide +kernel
theorem dX4_growth_17 : decode cX4_growth 17 = .ok (.aload_n 1, 1) := by decide +kernel
theorem dX4_growth_18 : decode cX4_growth 18 = .ok (.invokevirtual 38, 3) := by decide +kernel
theorem dX4_growth_21 : decode cX4_growth 21 = .ok (.goto 9, 3) := by decide +kernel
theorem dX4_growth_24 : decode cX4_growth 24 = .ok (.aload_n 1, 1) := by decide +kernel
theorem dX4_growth_25 : decode cX4_growth 25 = .ok (.iconst 0, 1) := by decide +kernel
theorem dX4_growth_26 : decode cX4_growth 26 = .ok (.iaload, 1) := by decide +kernel
theorem dX4_growth_27 : decode cX4_growth 27 = .ok (.invokestatic 42, 3) := by decide +kernel
theorem dX4_growth_30 : decode cX4_growth 30 = .ok (.istore_n 2, 1) := by decide +kernel
theorem dX4_growth_31 : decode cX4_growth 31 = .ok (.iconst 0, 1) := by decide +kernel
theorem dX4_growth_32 : decode cX4_growth 32 = .ok (.bipush 99, 2) := by decide +kernel
theorem dX4_growth_34 : decode cX4_growth 34 = .ok (.iload_n 2, 1) := by decide +kernel
theorem dX4_growth_35 : decode cX4_growth 35 = .ok (.invokestatic 32, 3) := by decide +kernel
theorem dX4_growth_38 : decode cX4_growth 38 = .ok (.invokestatic 46, 3) := by decide +kernel
theorem dX4_growth_41 : decode cX4_growth 41 = .ok (.ireturn, 1) := by decide +kernel
theorem dX4_withoutText_0 : decode cX4_withoutText 0 = .ok (.iload_n 0, 1) := by decide +kernel
theorem dX4_withoutText_1 : decode cX4_withoutText 1 = .ok (.bipush 12, 2) := by decide +kernel
theorem dX4_withoutText_3 : decode cX4_withoutText 3 = .ok (.if_icmp .ge 6, 3) := by decide +kernel
theorem dX4_withoutText_6 : decode cX4_withoutText 6 = .ok (.bipush 40, 2) := by decide +kernel
theorem dX4_withoutText_8 : decode cX4_withoutText 8 = .ok (.ireturn, 1) := by decide +kernel
theorem dX4_withoutText_9 : decode cX4_withoutText 9 = .ok (.iload_n 0, 1) := by decide +kernel
theorem dX4_withoutText_10 : decode cX4_withoutText 10 = .ok (.sipush 132, 3) := by decide +kernel
theorem dX4_withoutText_13 : decode cX4_withoutText 13 = .ok (.if_icmp .ge 6, 3) := by decide +kernel
theorem dX4_withoutText_16 : decode cX4_withoutText 16 = .ok (.bipush 16, 2) := by decide +kernel
theorem dX4_withoutText_18 : decode cX4_withoutText 18 = .ok (.ireturn, 1) := by decide +kernel
theorem dX4_withoutText_19 : decode cX4_withoutText 19 = .ok (.iload_n 0, 1) := by decide +kernel
theorem dX4_withoutText_20 : decode cX4_withoutText 20 = .ok (.sipush 168, 3) := by decide +kernel
theorem dX4_withoutText_23 : decode cX4_withoutText 23 = .ok (.if_icmp .ge 6, 3) := by decide +kernel
theorem dX4_withoutText_26 : decode cX4_withoutText 26 = .ok (.bipush 20, 2) := by decide +kernel
theorem dX4_withoutText_28 : decode cX4_withoutText 28 = .ok (.ireturn, 1) := by decide +kernel
theorem dX4_withoutText_29 : decode cX4_withoutText 29 = .ok (.iload_n 0, 1) := by decide +kernel
theorem dX4_withoutText_30 : decode cX4_withoutText 30 = .ok (.sipush 204, 3) := by decide +kernel
theorem dX4_withoutText_33 : decode cX4_withoutText 33 = .ok (.if_icmp .ge 7, 3) := by decide +kernel
theorem dX4_withoutText_36 : decode cX4_withoutText 36 = .ok (.iconst 4, 1) := by decide +kernel
theorem dX4_withoutText_37 : decode cX4_withoutText 37 = .ok (.goto 4, 3) := by decide +kernel
theorem dX4_withoutText_40 : decode cX4_withoutText 40 = .ok (.iconst 0, 1) := by decide +kernel
theorem dX4_withoutText_41 : decode cX4_withoutText 41 = .ok (.ireturn, 1) := by decide +kernel
theorem dX4_workOut_0 : decode cX4_workOut 0 = .ok (.aload_n 0, 1) := by decide +kernel
theorem dX4_workOut_1 : decode cX4_workOut 1 = .ok (.iconst 0, 1) := by decide +kernel
theorem dX4_workOut_2 : decode cX4_workOut 2 = .ok (.putfield 25, 3) := by decide +kernel
theorem dX4_workOut_5 : decode cX4_workOut 5 = .ok (.iconst 0, 1) := by decide +kernel
theorem dX4_workOut_6 : decode cX4_workOut 6 = .ok (.istore_n 2, 1) := by decide +kernel
theorem dX4_workOut_7 : decode cX4_workOut 7 = .ok (.iconst 0, 1) := by decide +kernel
theorem dX4_workOut_8 : decode cX4_workOut 8 = .ok (.istore_n 3, 1) := by decide +kernel
theorem dX4_workOut_9 : decode cX4_workOut 9 = .ok (.iload_n 3, 1) := by decide +kernel
theorem dX4_workOut_10 : decode cX4_workOut 10 = .ok (.aload_n 0, 1) := by decide +kernel
theorem dX4_workOut_11 : decode cX4_workOut 11 = .ok (.getfield 21, 3) := by decide +kernel
theorem dX4_workOut_14 : decode cX4_workOut 14 = .ok (.if_icmp .ge 78, 3) := by decide +kernel
theorem dX4_workOut_17 : decode cX4_workOut 17 = .ok (.aload_n 0, 1) := by decide +kernel
theorem dX4_workOut_18 : decode cX4_workOut 18 = .ok (.getfield 11, 3) := by decide +kernel
theorem dX4_workOut_21 : decode cX4_workOut 21 = .ok (.iload_n 3, 1) := by decide +kernel
theorem dX4_workOut_22 : decode cX4_workOut 22 = .ok (.iaload, 1) := by decide +kernel
theorem dX4_workOut_23 : decode cX4_workOut 23 = .ok (.istore 4, 2) := by decide +kernel
theorem dX4_workOut_25 : decode cX4_workOut 25 = .ok (.iload_n 3, 1) := by decide +kernel
theorem dX4_workOut_26 : decode cX4_workOut 26 = .ok (.iload_n 2, 1) := by decide +kernel
theorem dX4_workOut_27 : decode cX4_workOut 27 = .ok (.if_icmp .ge 6, 3) := by decide +kernel
theorem dX4_workOut_30 : decode cX4_workOut 30 = .ok (.goto 56, 3) := by decide +kernel
theorem dX4_workOut_33 : decode cX4_workOut 33 = .ok (.iload 4, 2) := by decide +kernel
theorem dX4_workOut_35 : decode cX4_workOut 35 = .ok (.bipush 59, 2) := by decide +kernel
theorem dX4_workOut_37 : decode cX4_workOut 37 = .ok (.if_icmp .ne 8, 3) := by decide +kernel
theorem dX4_workOut_40 : decode cX4_workOut 40 = .ok (.aload_n 0, 1) := by decide +kernel
theorem dX4_workOut_41 : decode cX4_workOut 41 = .ok (.invokevirtual 49, 3) := by decide +kernel
theorem dX4_workOut_44 : decode cX4_workOut 44 = .ok (.ireturn, 1) := by decide +kernel
theorem dX4_workOut_45 : decode cX4_workOut 45 = .ok (.iload 4, 2) := by decide +kernel
theorem dX4_workOut_47 : decode cX4_workOut 47 = .ok (.bipush 63, 2) := by decide +kernel
theorem dX4_workOut_49 : decode cX4_workOut 49 = .ok (.if_icmp .ne 24, 3) := by decide +kernel
theorem dX4_workOut_52 : decode cX4_workOut 52 = .ok (.aload_n 0, 1) := by decide +kernel
theorem dX4_workOut_53 : decode cX4_workOut 53 = .ok (.invokevirtual 49, 3) := by decide +kernel
theorem dX4_workOut_56 : decode cX4_workOut 56 = .ok (.ifCond .ne 12, 3) := by decide +kernel
theorem dX4_workOut_59 : decode cX4_workOut 59 = .ok (.aload_n 0, 1) := by decide +kernel
theorem dX4_workOut_60 : decode cX4_workOut 60 = .ok (.getfield 15, 3) := by decide +kernel
theorem dX4_workOut_63 : decode cX4_workOut 63 = .ok (.iload_n 3, 1) := by decide +kernel
theorem dX4_workOut_64 : decode cX4_workOut 64 = .ok (.iaload, 1) := by decide +kernel
theorem dX4_workOut_65 : decode cX4_workOut 65 = .ok (.goto 4, 3) := by decide +kernel
theorem dX4_workOut_68 : decode cX4_workOut 68 = .ok (.iload_n 3, 1) := by decide +kernel
theorem dX4_workOut_69 : decode cX4_workOut 69 = .ok (.istore_n 2, 1) := by decide +kernel
theorem dX4_workOut_70 : decode cX4_workOut 70 = .ok (.goto 16, 3) := by decide +kernel
theorem dX4_workOut_73 : decode cX4_workOut 73 = .ok (.aload_n 0, 1) := by decide +kernel
theorem dX4_workOut_74 : decode cX4_workOut 74 = .ok (.iload 4, 2) := by decide +kernel
theorem dX4_workOut_76 : decode cX4_workOut 76 = .ok (.aload_n 0, 1) := by decide +kernel
theorem dX4_workOut_77 : decode cX4_workOut 77 = .ok (.getfield 15, 3) := by decide +kernel
theorem dX4_workOut_80 : decode cX4_workOut 80 = .ok (.iload_n 3, 1) := by decide +kernel
theorem dX4_workOut_81 : decode cX4_workOut 81 = .ok (.iaload, 1) := by decide +kernel
theorem dX4_workOut_82 : decode cX4_workOut 82 = .ok (.aload_n 1, 1) := by decide +kernel
theorem dX4_workOut_83 : decode cX4_workOut 83 = .ok (.invokevirtual 53, 3) := by decide +kernel
theorem dX4_workOut_86 : decode cX4_workOut 86 = .ok (.iinc 3 1, 3) := by decide +kernel
theorem dX4_workOut_89 : decode cX4_workOut 89 = .ok (.goto (-80), 3) := by decide +kernel
theorem dX4_workOut_92 : decode cX4_workOut 92 = .ok (.iconst 0, 1) := by decide +kernel
theorem dX4_workOut_93 : decode cX4_workOut 93 = .ok (.ireturn, 1) := by decide +kernel
theorem dX4_takeStep_0 : decode cX4_takeStep 0 = .ok (.iload_n 1, 1) := by decide +kernel
theorem dX4_takeStep_1 : decode cX4_takeStep 1 = .ok (.lookupswitch 107 #[(33, 88), (48, 43), (97, 51), (110, 76)], 43) := by decide +kernel
theorem dX4_takeStep_44 : decode cX4_takeStep 44 = .ok (.aload_n 0, 1) := by decide +kernel
theorem dX4_takeStep_45 : decode cX4_takeStep 45 = .ok (.iload_n 2, 1) := by decide +kernel
theorem dX4_takeStep_46 : decode cX4_takeStep 46 = .ok (.invokevirtual 57, 3) := by decide +kernel
theorem dX4_takeStep_49 : decode cX4_takeStep 49 = .ok (.goto 79, 3) := by decide +kernel
theorem dX4_takeStep_52 : decode cX4_takeStep 52 = .ok (.aload_n 0, 1) := by decide +kernel
theorem dX4_takeStep_53 : decode cX4_takeStep 53 = .ok (.iconst 0, 1) := by decide +kernel
theorem dX4_takeStep_54 : decode cX4_takeStep 54 = .ok (.iload_n 2, 1) := by decide +kernel
theorem dX4_takeStep_55 : decode cX4_takeStep 55 = .ok (.if_icmp .gt 15, 3) := by decide +kernel
theorem dX4_takeStep_58 : decode cX4_takeStep 58 = .ok (.iload_n 2, 1) := by decide +kernel
theorem dX4_takeStep_59 : decode cX4_takeStep 59 = .ok (.aload_n 3, 1) := by decide +kernel
theorem dX4_takeStep_60 : decode cX4_takeStep 60 = .ok (.arraylength, 1) := by decide +kernel
theorem dX4_takeStep_61 : decode cX4_takeStep 61 = .ok (.if_icmp .ge 9, 3) := by decide +kernel
theorem dX4_takeStep_64 : decode cX4_takeStep 64 = .ok (.aload_n 3, 1) := by decide +kernel
theorem dX4_takeStep_65 : decode cX4_takeStep 65 = .ok (.iload_n 2, 1) := by decide +kernel
theorem dX4_takeStep_66 : decode cX4_takeStep 66 = .ok (.iaload, 1) := by decide +kernel
theorem dX4_takeStep_67 : decode cX4_takeStep 67 = .ok (.goto 4, 3) := by decide +kernel
theorem dX4_takeStep_70 : decode cX4_takeStep 70 = .ok (.iconst 0, 1) := by decide +kernel
theorem dX4_takeStep_71 : decode cX4_takeStep 71 = .ok (.invokevirtual 57, 3) := by decide +kernel
theorem dX4_takeStep_74 : decode cX4_takeStep 74 = .ok (.goto 54, 3) := by decide +kernel
theorem dX4_takeStep_77 : decode cX4_takeStep 77 = .ok (.aload_n 0, 1) := by decide +kernel
theorem dX4_takeStep_78 : decode cX4_takeStep 78 = .ok (.aload_n 0, 1) := by decide +kernel
theorem dX4_takeStep_79 : decode cX4_takeStep 79 = .ok (.invokevirtual 49, 3) := by decide +kernel
theorem dX4_takeStep_82 : decode cX4_takeStep 82 = .ok (.ineg, 1) := by decide +kernel
theorem dX4_takeStep_83 : decode cX4_takeStep 83 = .ok (.invokevirtual 57, 3) := by decide +kernel
theorem dX4_takeStep_86 : decode cX4_takeStep 86 = .ok (.goto 42, 3) := by decide +kernel
theorem dX4_takeStep_89 : decode cX4_takeStep 89 = .ok (.aload_n 0, 1) := by decide +kernel
theorem dX4_takeStep_90 : decode cX4_takeStep 90 = .ok (.aload_n 0, 1) := by decide +kernel
theorem dX4_takeStep_91 : decode cX4_takeStep 91 = .ok (.invokevirtual 49, 3) := by decide +kernel
theorem dX4_takeStep_94 : decode cX4_takeStep 94 = .ok (.ifCond .ne 7, 3) := by decide +kernel
theorem dX4_takeStep_97 : decode cX4_takeStep 97 = .ok (.iconst 1, 1) := by decide +kernel
theorem dX4_takeStep_98 : decode cX4_takeStep 98 = .ok (.goto 4, 3) := by decide +kernel
theorem dX4_takeStep_101 : decode cX4_takeStep 101 = .ok (.iconst 0, 1) := by decide +kernel
theorem dX4_takeStep_102 : decode cX4_takeStep 102 = .ok (.invokevirtual 57, 3) := by decide +kernel
theorem dX4_takeStep_105 : decode cX4_takeStep 105 = .ok (.goto 23, 3) := by decide +kernel
theorem dX4_takeStep_108 : decode cX4_takeStep 108 = .ok (.aload_n 0, 1) := by decide +kernel
theorem dX4_takeStep_109 : decode cX4_takeStep 109 = .ok (.invokevirtual 49, 3) := by decide +kernel
theorem dX4_takeStep_112 : decode cX4_takeStep 112 = .ok (.istore 4, 2) := by decide +kernel
theorem dX4_takeStep_114 : decode cX4_takeStep 114 = .ok (.aload_n 0, 1) := by decide +kernel
theorem dX4_takeStep_115 : decode cX4_takeStep 115 = .ok (.iload_n 1, 1) := by decide +kernel
theorem dX4_takeStep_116 : decode cX4_takeStep 116 = .ok (.aload_n 0, 1) := by decide +kernel
theorem dX4_takeStep_117 : decode cX4_takeStep 117 = .ok (.invokevirtual 49, 3) := by decide +kernel
theorem dX4_takeStep_120 : decode cX4_takeStep 120 = .ok (.iload 4, 2) := by decide +kernel
theorem dX4_takeStep_122 : decode cX4_takeStep 122 = .ok (.invokestatic 61, 3) := by decide +kernel
theorem dX4_takeStep_125 : decode cX4_takeStep 125 = .ok (.invokevirtual 57, 3) := by decide +kernel
theorem dX4_takeStep_128 : decode cX4_takeStep 128 = .ok (.return_, 1) := by decide +kernel
theorem dX4_joined_0 : decode cX4_joined 0 = .ok (.iload_n 0, 1) := by decide +kernel
theorem dX4_joined_1 : decode cX4_joined 1 = .ok (.lookupswitch 188 #[(37, 176), (38, 105), (42, 160), (43, 152), (45, 156), (47, 164), (60, 119), (61, 130), (62, 141), (124, 91)], 91) := by decide +kernel
theorem dX4_joined_92 : decode cX4_joined 92 = .ok (.iload_n 1, 1) := by decide +kernel
theorem dX4_joined_93 : decode cX4_joined 93 = .ok (.ifCond .ne 7, 3) := by decide +kernel
theorem dX4_joined_96 : decode cX4_joined 96 = .ok (.iload_n 2, 1) := by decide +kernel
theorem dX4_joined_97 : decode cX4_joined 97 = .ok (.ifCond .eq 7, 3) := by decide +kernel
theorem dX4_joined_100 : decode cX4_joined 100 = .ok (.iconst 1, 1) := by decide +kernel
theorem dX4_joined_101 : decode cX4_joined 101 = .ok (.goto 4, 3) := by decide +kernel
theorem dX4_joined_104 : decode cX4_joined 104 = .ok (.iconst 0, 1) := by decide +kernel
theorem dX4_joined_105 : decode cX4_joined 105 = .ok (.ireturn, 1) := by decide +kernel
theorem dX4_joined_106 : decode cX4_joined 106 = .ok (.iload_n 1, 1) := by decide +kernel
theorem dX4_joined_107 : decode cX4_joined 107 = .ok (.ifCond .eq 11, 3) := by decide +kernel
theorem dX4_joined_110 : decode cX4_joined 110 = .ok (.iload_n 2, 1) := by decide +kernel
theorem dX4_joined_111 : decode cX4_joined 111 = .ok (.ifCond .eq 7, 3) := by decide +kernel
theorem dX4_joined_114 : decode cX4_joined 114 = .ok (.iconst 1, 1) := by decide +kernel
theorem dX4_joined_115 : decode cX4_joined 115 = .ok (.goto 4, 3) := by decide +kernel
theorem dX4_joined_118 : decode cX4_joined 118 = .ok (.iconst 0, 1) := by decide +kernel
theorem dX4_joined_119 : decode cX4_joined 119 = .ok (.ireturn, 1) := by decide +kernel
theorem dX4_joined_120 : decode cX4_joined 120 = .ok (.iload_n 1, 1) := by decide +kernel
theorem dX4_joined_121 : decode cX4_joined 121 = .ok (.iload_n 2, 1) := by decide +kernel
theorem dX4_joined_122 : decode cX4_joined 122 = .ok (.if_icmp .ge 7, 3) := by decide +kernel
theorem dX4_joined_125 : decode cX4_joined 125 = .ok (.iconst 1, 1) := by decide +kernel
theorem dX4_joined_126 : decode cX4_joined 126 = .ok (.goto 4, 3) := by decide +kernel
theorem dX4_joined_129 : decode cX4_joined 129 = .ok (.iconst 0, 1) := by decide +kernel
theorem dX4_joined_130 : decode cX4_joined 130 = .ok (.ireturn, 1) := by decide +kernel
theorem dX4_joined_131 : decode cX4_joined 131 = .ok (.iload_n 1, 1) := by decide +kernel
theorem dX4_joined_132 : decode cX4_joined 132 = .ok (.iload_n 2, 1) := by decide +kernel
theorem dX4_joined_133 : decode cX4_joined 133 = .ok (.if_icmp .ne 7, 3) := by decide +kernel
theorem dX4_joined_136 : decode cX4_joined 136 = .ok (.iconst 1, 1) := by decide +kernel
theorem dX4_joined_137 : decode cX4_joined 137 = .ok (.goto 4, 3) := by decide +kernel
theorem dX4_joined_140 : decode cX4_joined 140 = .ok (.iconst 0, 1) := by decide +kernel
theorem dX4_joined_141 : decode cX4_joined 141 = .ok (.ireturn, 1) := by decide +kernel
theorem dX4_joined_142 : decode cX4_joined 142 = .ok (.iload_n 1, 1) := by decide +kernel
theorem dX4_joined_143 : decode cX4_joined 143 = .ok (.iload_n 2, 1) := by decide +kernel
theorem dX4_joined_144 : decode cX4_joined 144 = .ok (.if_icmp .le 7, 3) := by decide +kernel
theorem dX4_joined_147 : decode cX4_joined 147 = .ok (.iconst 1, 1) := by decide +kernel
theorem dX4_joined_148 : decode cX4_joined 148 = .ok (.goto 4, 3) := by decide +kernel
theorem dX4_joined_151 : decode cX4_joined 151 = .ok (.iconst 0, 1) := by decide +kernel
theorem dX4_joined_152 : decode cX4_joined 152 = .ok (.ireturn, 1) := by decide +kernel
theorem dX4_joined_153 : decode cX4_joined 153 = .ok (.iload_n 1, 1) := by decide +kernel
theorem dX4_joined_154 : decode cX4_joined 154 = .ok (.iload_n 2, 1) := by decide +kernel
theorem dX4_joined_155 : decode cX4_joined 155 = .ok (.iadd, 1) := by decide +kernel
theorem dX4_joined_156 : decode cX4_joined 156 = .ok (.ireturn, 1) := by decide +kernel
theorem dX4_joined_157 : decode cX4_joined 157 = .ok (.iload_n 1, 1) := by decide +kernel
theorem dX4_joined_158 : decode cX4_joined 158 = .ok (.iload_n 2, 1) := by decide +kernel
theorem dX4_joined_159 : decode cX4_joined 159 = .ok (.isub, 1) := by decide +kernel
theorem dX4_joined_160 : decode cX4_joined 160 = .ok (.ireturn, 1) := by decide +kernel
theorem dX4_joined_161 : decode cX4_joined 161 = .ok (.iload_n 1, 1) := by decide +kernel
theorem dX4_joined_162 : decode cX4_joined 162 = .ok (.iload_n 2, 1) := by decide +kernel
theorem dX4_joined_163 : decode cX4_joined 163 = .ok (.imul, 1) := by decide +kernel
theorem dX4_joined_164 : decode cX4_joined 164 = .ok (.ireturn, 1) := by decide +kernel
theorem dX4_joined_165 : decode cX4_joined 165 = .ok (.iload_n 2, 1) := by decide +kernel
theorem dX4_joined_166 : decode cX4_joined 166 = .ok (.ifCond .ne 7, 3) := by decide +kernel
theorem dX4_joined_169 : decode cX4_joined 169 = .ok (.iconst 0, 1) := by decide +kernel
theorem dX4_joined_170 : decode cX4_joined 170 = .ok (.goto 6, 3) := by decide +kernel
theorem dX4_joined_173 : decode cX4_joined 173 = .ok (.iload_n 1, 1) := by decide +kernel
theorem dX4_joined_174 : decode cX4_joined 174 = .ok (.iload_n 2, 1) := by decide +kernel
theorem dX4_joined_175 : decode cX4_joined 175 = .ok (.idiv, 1) := by decide +kernel
theorem dX4_joined_176 : decode cX4_joined 176 = .ok (.ireturn, 1) := by decide +kernel
theorem dX4_joined_177 : decode cX4_joined 177 = .ok (.iload_n 2, 1) := by decide +kernel
theorem dX4_joined_178 : decode cX4_joined 178 = .ok (.ifCond .ne 7, 3) := by decide +kernel
theorem dX4_joined_181 : decode cX4_joined 181 = .ok (.iconst 0, 1) := by decide +kernel
theorem dX4_joined_182 : decode cX4_joined 182 = .ok (.goto 6, 3) := by decide +kernel
theorem dX4_joined_185 : decode cX4_joined 185 = .ok (.iload_n 1, 1) := by decide +kernel
theorem dX4_joined_186 : decode cX4_joined 186 = .ok (.iload_n 2, 1) := by decide +kernel
theorem dX4_joined_187 : decode cX4_joined 187 = .ok (.irem, 1) := by decide +kernel
theorem dX4_joined_188 : decode cX4_joined 188 = .ok (.ireturn, 1) := by decide +kernel
theorem dX4_joined_189 : decode cX4_joined 189 = .ok (.iconst 0, 1) := by decide +kernel
theorem dX4_joined_190 : decode cX4_joined 190 = .ok (.ireturn, 1) := by decide +kernel
theorem dX4_push_0 : decode cX4_push 0 = .ok (.aload_n 0, 1) := by decide +kernel
theorem dX4_push_1 : decode cX4_push 1 = .ok (.getfield 25, 3) := by decide +kernel
theorem dX4_push_4 : decode cX4_push 4 = .ok (.bipush 121, 2) := by decide +kernel
theorem dX4_push_6 : decode cX4_push 6 = .ok (.if_icmp .ge 23, 3) := by decide +kernel
theorem dX4_push_9 : decode cX4_push 9 = .ok (.aload_n 0, 1) := by decide +kernel
theorem dX4_push_10 : decode cX4_push 10 = .ok (.getfield 18, 3) := by decide +kernel
theorem dX4_push_13 : decode cX4_push 13 = .ok (.aload_n 0, 1) := by decide +kernel
theorem dX4_push_14 : decode cX4_push 14 = .ok (.getfield 25, 3) := by decide +kernel
theorem dX4_push_17 : decode cX4_push 17 = .ok (.iload_n 1, 1) := by decide +kernel
theorem dX4_push_18 : decode cX4_push 18 = .ok (.iastore, 1) := by decide +kernel
theorem dX4_push_19 : decode cX4_push 19 = .ok (.aload_n 0, 1) := by decide +kernel
theorem dX4_push_20 : decode cX4_push 20 = .ok (.dup, 1) := by decide +kernel
theorem dX4_push_21 : decode cX4_push 21 = .ok (.getfield 25, 3) := by decide +kernel
theorem dX4_push_24 : decode cX4_push 24 = .ok (.iconst 1, 1) := by decide +kernel
theorem dX4_push_25 : decode cX4_push 25 = .ok (.iadd, 1) := by decide +kernel
theorem dX4_push_26 : decode cX4_push 26 = .ok (.putfield 25, 3) := by decide +kernel
theorem dX4_push_29 : decode cX4_push 29 = .ok (.return_, 1) := by decide +kernel
theorem dX4_pop_0 : decode cX4_pop 0 = .ok (.aload_n 0, 1) := by decide +kernel
theorem dX4_pop_1 : decode cX4_pop 1 = .ok (.getfield 25, 3) := by decide +kernel
theorem dX4_pop_4 : decode cX4_pop 4 = .ok (.ifCond .gt 5, 3) := by decide +kernel
theorem dX4_pop_7 : decode cX4_pop 7 = .ok (.iconst 0, 1) := by decide +kernel
theorem dX4_pop_8 : decode cX4_pop 8 = .ok (.ireturn, 1) := by decide +kernel
theorem dX4_pop_9 : decode cX4_pop 9 = .ok (.aload_n 0, 1) := by decide +kernel
theorem dX4_pop_10 : decode cX4_pop 10 = .ok (.dup, 1) := by decide +kernel
theorem dX4_pop_11 : decode cX4_pop 11 = .ok (.getfield 25, 3) := by decide +kernel
theorem dX4_pop_14 : decode cX4_pop 14 = .ok (.iconst 1, 1) := by decide +kernel
theorem dX4_pop_15 : decode cX4_pop 15 = .ok (.isub, 1) := by decide +kernel
theorem dX4_pop_16 : decode cX4_pop 16 = .ok (.putfield 25, 3) := by decide +kernel
theorem dX4_pop_19 : decode cX4_pop 19 = .ok (.aload_n 0, 1) := by decide +kernel
theorem dX4_pop_20 : decode cX4_pop 20 = .ok (.getfield 18, 3) := by decide +kernel
theorem dX4_pop_23 : decode cX4_pop 23 = .ok (.aload_n 0, 1) := by decide +kernel
theorem dX4_pop_24 : decode cX4_pop 24 = .ok (.getfield 25, 3) := by decide +kernel
theorem dX4_pop_27 : decode cX4_pop 27 = .ok (.iaload, 1) := by decide +kernel
theorem dX4_pop_28 : decode cX4_pop 28 = .ok (.ireturn, 1) := by decide +kernel
theorem dX5_init_0 : decode cX5_init 0 = .ok (.aload_n 0, 1) := by decide +kernel
theorem dX5_init_1 : decode cX5_init 1 = .ok (.invokespecial 3, 3) := by decide +kernel
theorem dX5_init_4 : decode cX5_init 4 = .ok (.aload_n 0, 1) := by decide +kernel
theorem dX5_init_5 : decode cX5_init 5 = .ok (.bipush 30, 2) := by decide +kernel
theorem dX5_init_7 : decode cX5_init 7 = .ok (.newarray .int, 2) := by decide +kernel
theorem dX5_init_9 : decode cX5_init 9 = .ok (.putfield 9, 3) := by decide +kernel
theorem dX5_init_12 : decode cX5_init 12 = .ok (.aload_n 0, 1) := by decide +kernel
theorem dX5_init_13 : decode cX5_init 13 = .ok (.bipush 30, 2) := by decide +kernel
theorem dX5_init_15 : decode cX5_init 15 = .ok (.newarray .int, 2) := by decide +kernel
theorem dX5_init_17 : decode cX5_init 17 = .ok (.putfield 15, 3) := by decide +kernel
theorem dX5_init_20 : decode cX5_init 20 = .ok (.aload_n 0, 1) := by decide +kernel
theorem dX5_init_21 : decode cX5_init 21 = .ok (.bipush 30, 2) := by decide +kernel
theorem dX5_init_23 : decode cX5_init 23 = .ok (.newarray .int, 2) := by decide +kernel
theorem dX5_init_25 : decode cX5_init 25 = .ok (.putfield 18, 3) := by decide +kernel
theorem dX5_init_28 : decode cX5_init 28 = .ok (.aload_n 0, 1) := by decide +kernel
theorem dX5_init_29 : decode cX5_init 29 = .ok (.bipush 30, 2) := by decide +kernel
theorem dX5_init_31 : decode cX5_init 31 = .ok (.newarray .int, 2) := by decide +kernel
theorem dX5_init_33 : decode cX5_init 33 = .ok (.putfield 21, 3) := by decide +kernel
theorem dX5_init_36 : decode cX5_init 36 = .ok (.aload_n 0, 1) := by decide +kernel
theorem dX5_init_37 : decode cX5_init 37 = .ok (.iconst 0, 1) := by decide +kernel
theorem dX5_init_38 : decode cX5_init 38 = .ok (.putfield 24, 3) := by decide +kernel
theorem dX5_init_41 : decode cX5_init 41 = .ok (.aload_n 0, 1) := by decide +kernel
theorem dX5_init_42 : decode cX5_init 42 = .ok (.iconst (-1), 1) := by decide +kernel
theorem dX5_init_43 : decode cX5_init 43 = .ok (.putfield 28, 3) := by decide +kernel
theorem dX5_init_46 : decode cX5_init 46 = .ok (.aload_n 0, 1) := by decide +kernel
theorem dX5_init_47 : decode cX5_init 47 = .ok (.iconst 0, 1) := by decide +kernel
theorem dX5_init_48 : decode cX5_init 48 = .ok (.putfield 31, 3) := by decide +kernel
theorem dX5_init_51 : decode cX5_init 51 = .ok (.return_, 1) := by decide +kernel
theorem dX5_size_0 : decode cX5_size 0 = .ok (.aload_n 0, 1) := by decide +kernel
theorem dX5_size_1 : decode cX5_size 1 = .ok (.getfield 24, 3) := by decide +kernel
theorem dX5_size_4 : decode cX5_size 4 = .ok (.ireturn, 1) := by decide +kernel
theorem dX5_has_0 : decode cX5_has 0 = .ok (.iconst 0, 1) := by decide +kernel
theorem dX5_has_1 : decode cX5_has 1 = .ok (.iload_n 1, 1) := by decide +kernel
theorem dX5_has_2 : decode cX5_has 2 = .ok (.if_icmp .gt 15, 3) := by decide +kernel
theorem dX5_has_5 : decode cX5_has 5 = .ok (.iload_n 1, 1) := by decide +kernel
theorem dX5_has_6 : decode cX5_has 6 = .ok (.aload_n 0, 1) := by decide +kernel
theorem dX5_has_7 : decode cX5_has 7 = .ok (.getfield 24, 3) := by decide +kernel
theorem dX5_has_10 : decode cX5_has 10 = .ok (.if_icmp .ge 7, 3) := by decide +kernel
theorem dX5_has_13 : decode cX5_has 13 = .ok (.iconst 1, 1) := by decide +kernel
theorem dX5_has_14 : decode cX5_has 14 = .ok (.goto 4, 3) := by decide +kernel
theorem dX5_has_17 : decode cX5_has 17 = .ok (.iconst 0, 1) := by decide +kernel
theorem dX5_has_18 : decode cX5_has 18 = .ok (.ireturn, 1) := by decide +kernel
theorem dX5_add_0 : decode cX5_add 0 = .ok (.aload_n 0, 1) := by decide +kernel
theorem dX5_add_1 : decode cX5_add 1 = .ok (.getfield 24, 3) := by decide +kernel
theorem dX5_add_4 : decode cX5_add 4 = .ok (.bipush 30, 2) := by decide +kernel
theorem dX5_add_6 : decode cX5_add 6 = .ok (.if_icmp .lt 6, 3) := by decide +kernel
theorem dX5_add_9 : decode cX5_add 9 = .ok (.bipush (-3), 2) := by decide +kernel
theorem dX5_add_11 : decode cX5_add 11 = .ok (.ireturn, 1) := by decide +kernel
theorem dX5_add_12 : decode cX5_add 12 = .ok (.aload_n 0, 1) := by decide +kernel
theorem dX5_add_13 : decode cX5_add 13 = .ok (.getfield 9, 3) := by decide +kernel
theorem dX5_add_16 : decode cX5_add 16 = .ok (.aload_n 0, 1) := by decide +kernel
theorem dX5_add_17 : decode cX5_add 17 = .ok (.getfield 24, 3) := by decide +kernel
theorem dX5_add_20 : decode cX5_add 20 = .ok (.iload_n 1, 1) := by decide +kernel
theorem dX5_add_21 : decode cX5_add 21 = .ok (.iastore, 1) := by decide +kernel
theorem dX5_add_22 : decode cX5_add 22 = .ok (.aload_n 0, 1) := by decide +kernel
theorem dX5_add_23 : decode cX5_add 23 = .ok (.getfield 15, 3) := by decide +kernel
theorem dX5_add_26 : decode cX5_add 26 = .ok (.aload_n 0, 1) := by decide +kernel
theorem dX5_add_27 : decode cX5_add 27 = .ok (.getfield 24, 3) := by decide +kernel
theorem dX5_add_30 : decode cX5_add 30 = .ok (.iload_n 2, 1) := by decide +kernel
theorem dX5_add_31 : decode cX5_add 31 = .ok (.iastore, 1) := by decide +kernel
theorem dX5_add_32 : decode cX5_add 32 = .ok (.aload_n 0, 1) := by decide +kernel
theorem dX5_add_33 : decode cX5_add 33 = .ok (.getfield 18, 3) := by decide +kernel
theorem dX5_add_36 : decode cX5_add 36 = .ok (.aload_n 0, 1) := by decide +kernel
theorem dX5_add_37 : decode cX5_add 37 = .ok (.getfield 24, 3) := by decide +kernel
theorem dX5_add_40 : decode cX5_add 40 = .ok (.iload_n 3, 1) := by decide +kernel
theorem dX5_add_41 : decode cX5_add 41 = .ok (.iastore, 1) := by decide +kernel
theorem dX5_add_42 : decode cX5_add 42 = .ok (.aload_n 0, 1) := by decide +kernel
theorem dX5_add_43 : decode cX5_add 43 = .ok (.getfield 21, 3) := by decide +kernel
theorem dX5_add_46 : decode cX5_add 46 = .ok (.aload_n 0, 1) := by decide +kernel
theorem dX5_add_47 : decode cX5_add 47 = .ok (.getfield 24, 3) := by decide +kernel
theorem dX5_add_50 : decode cX5_add 50 = .ok (.iload 4, 2) := by decide +kernel
theorem dX5_add_52 : decode cX5_add 52 = .ok (.iastore, 1) := by decide +kernel
theorem dX5_add_53 : decode cX5_add 53 = .ok (.aload_n 0, 1) := by decide +kernel
theorem dX5_add_54 : decode cX5_add 54 = .ok (.dup, 1) := by decide +kernel
theorem dX5_add_55 : decode cX5_add 55 = .ok (.getfield 24, 3) := by decide +kernel
theorem dX5_add_58 : decode cX5_add 58 = .ok (.iconst 1, 1) := by decide +kernel
theorem dX5_add_59 : decode cX5_add 59 = .ok (.iadd, 1) := by decide +kernel
theorem dX5_add_60 : decode cX5_add 60 = .ok (.putfield 24, 3) := by decide +kernel
theorem dX5_add_63 : decode cX5_add 63 = .ok (.aload_n 0, 1) := by decide +kernel
theorem dX5_add_64 : decode cX5_add 64 = .ok (.getfield 24, 3) := by decide +kernel
theorem dX5_add_67 : decode cX5_add 67 = .ok (.iconst 1, 1) := by decide +kernel
theorem dX5_add_68 : decode cX5_add 68 = .ok (.isub, 1) := by decide +kernel
theorem dX5_add_69 : decode cX5_add 69 = .ok (.ireturn, 1) := by decide +kernel
theorem dX5_told_0 : decode cX5_told 0 = .ok (.iload_n 2, 1) := by decide +kernel
theorem dX5_told_1 : decode cX5_told 1 = .ok (.tableswitch 73 0 4 #[35, 41, 47, 53, 59], 35) := by decide +kernel
theorem dX5_told_36 : decode cX5_told 36 = .ok (.aload_n 0, 1) := by decide +kernel
theorem dX5_told_37 : decode cX5_told 37 = .ok (.iload_n 1, 1) := by decide +kernel
theorem dX5_told_38 : decode cX5_told 38 = .ok (.invokevirtual 34, 3) := by decide +kernel
theorem dX5_told_41 : decode cX5_told 41 = .ok (.ireturn, 1) := by decide +kernel
theorem dX5_told_42 : decode cX5_told 42 = .ok (.aload_n 0, 1) := by decide +kernel
theorem dX5_told_43 : decode cX5_told 43 = .ok (.iload_n 1, 1) := by decide +kernel
theorem dX5_told_44 : decode cX5_told 44 = .ok (.invokevirtual 38, 3) := by decide +kernel
theorem dX5_told_47 : decode cX5_told 47 = .ok (.ireturn, 1) := by decide +kernel
theorem dX5_told_48 : decode cX5_told 48 = .ok (.aload_n 0, 1) := by decide +kernel
theorem dX5_told_49 : decode cX5_told 49 = .ok (.iload_n 1, 1) := by decide +kernel
theorem dX5_told_50 : decode cX5_told 50 = .ok (.invokevirtual 41, 3) := by decide +kernel
theorem dX5_told_53 : decode cX5_told 53 = .ok (.ireturn, 1) := by decide +kernel
theorem dX5_told_54 : decode cX5_told 54 = .ok (.aload_n 0, 1) := by decide +kernel
theorem dX5_told_55 : decode cX5_told 55 = .ok (.iload_n 1, 1) := by decide +kernel
theorem dX5_told_56 : decode cX5_told 56 = .ok (.invokevirtual 44, 3) := by decide +kernel
theorem dX5_told_59 : decode cX5_told 59 = .ok (.ireturn, 1) := by decide +kernel
theorem dX5_told_60 : decode cX5_told 60 = .ok (.aload_n 0, 1) := by decide +kernel
theorem dX5_told_61 : decode cX5_told 61 = .ok (.iload_n 1, 1) := by decide +kernel
theorem dX5_told_62 : decode cX5_told 62 = .ok (.invokevirtual 47, 3) := by decide +kernel
theorem dX5_told_65 : decode cX5_told 65 = .ok (.ifCond .eq 7, 3) := by decide +kernel
theorem dX5_told_68 : decode cX5_told 68 = .ok (.iconst 1, 1) := by decide +kernel
theorem dX5_told_69 : decode cX5_told 69 = .ok (.goto 4, 3) := by decide +kernel
theorem dX5_told_72 : decode cX5_told 72 = .ok (.iconst 0, 1) := by decide +kernel
theorem dX5_told_73 : decode cX5_told 73 = .ok (.ireturn, 1) := by decide +kernel
theorem dX5_told_74 : decode cX5_told 74 = .ok (.ldc 51, 2) := by decide +kernel
theorem dX5_told_76 : decode cX5_told 76 = .ok (.ireturn, 1) := by decide +kernel
theorem dX5_heightOf_0 : decode cX5_heightOf 0 = .ok (.aload_n 0, 1) := by decide +kernel
theorem dX5_heightOf_1 : decode cX5_heightOf 1 = .ok (.iload_n 1, 1) := by decide +kernel
theorem dX5_heightOf_2 : decode cX5_heightOf 2 = .ok (.invokevirtual 52, 3) := by decide +kernel
theorem dX5_heightOf_5 : decode cX5_heightOf 5 = .ok (.ifCond .eq 12, 3) := by decide +kernel
theorem dX5_heightOf_8 : decode cX5_heightOf 8 = .ok (.aload_n 0, 1) := by decide +kernel
theorem dX5_heightOf_9 : decode cX5_heightOf 9 = .ok (.getfield 9, 3) := by decide +kernel
theorem dX5_heightOf_12 : decode cX5_heightOf 12 = .ok (.iload_n 1, 1) := by decide +kernel
theorem dX5_heightOf_13 : decode cX5_heightOf 13 = .ok (.iaload, 1) := by decide +kernel
theorem dX5_heightOf_14 : decode cX5_heightOf 14 = .ok (.goto 4, 3) := by decide +kernel
theorem dX5_heightOf_17 : decode cX5_heightOf 17 = .ok (.iconst 0, 1) := by decide +kernel
theorem dX5_heightOf_18 : decode cX5_heightOf 18 = .ok (.ireturn, 1) := by decide +kernel
theorem dX5_nameOf_0 : decode cX5_nameOf 0 = .ok (.aload_n 0, 1) := by decide +kernel
theorem dX5_nameOf_1 : decode cX5_nameOf 1 = .ok (.iload_n 1, 1) := by decide +kernel
theorem dX5_nameOf_2 : decode cX5_nameOf 2 = .ok (.invokevirtual 52, 3) := by decide +kernel
theorem dX5_nameOf_5 : decode cX5_nameOf 5 = .ok (.ifCond .eq 12, 3) := by decide +kernel
theorem dX5_nameOf_8 : decode cX5_nameOf 8 = .ok (.aload_n 0, 1) := by decide +kernel
theorem dX5_nameOf_9 : decode cX5_nameOf 9 = .ok (.getfield 15, 3) := by decide +kernel
theorem dX5_nameOf_12 : decode cX5_nameOf 12 = .ok (.iload_n 1, 1) := by decide +kernel
theorem dX5_nameOf_13 : decode cX5_nameOf 13 = .ok (.iaload, 1) := by decide +kernel
theorem dX5_nameOf_14 : decode cX5_nameOf 14 = .ok (.goto 5, 3) := by decide +kernel
theorem dX5_nameOf_17 : decode cX5_nameOf 17 = .ok (.bipush 6, 2) := by decide +kernel
theorem dX5_nameOf_19 : decode cX5_nameOf 19 = .ok (.ireturn, 1) := by decide +kernel
theorem dX5_monthOf_0 : decode cX5_monthOf 0 = .ok (.aload_n 0, 1) := by decide +kernel
theorem dX5_monthOf_1 : decode cX5_monthOf 1 = .ok (.iload_n 1, 1) := by decide +kernel
theorem dX5_monthOf_2 : decode cX5_monthOf 2 = .ok (.invokevirtual 52, 3) := by decide +kernel
theorem dX5_monthOf_5 : decode cX5_monthOf 5 = .ok (.ifCond .eq 12, 3) := by decide +kernel
theorem dX5_monthOf_8 : decode cX5_monthOf 8 = .ok (.aload_n 0, 1) := by decide +kernel
theorem dX5_monthOf_9 : decode cX5_monthOf 9 = .ok (.getfield 18, 3) := by decide +kernel
theorem dX5_monthOf_12 : decode cX5_monthOf 12 = .ok (.iload_n 1, 1) := by decide +kernel
theorem dX5_monthOf_13 : decode cX5_monthOf 13 = .ok (.iaload, 1) := by decide +kernel
theorem dX5_monthOf_14 : decode cX5_monthOf 14 = .ok (.goto 6, 3) := by decide +kernel
theorem dX5_monthOf_17 : decode cX5_monthOf 17 = .ok (.sipush 600, 3) := by decide +kernel
theorem dX5_monthOf_20 : decode cX5_monthOf 20 = .ok (.ireturn, 1) := by decide +kernel
theorem dX5_wayOf_0 : decode cX5_wayOf 0 = .ok (.aload_n 0, 1) := by decide +kernel
theorem dX5_wayOf_1 : decode cX5_wayOf 1 = .ok (.iload_n 1, 1) := by decide +kernel
theorem dX5_wayOf_2 : decode cX5_wayOf 2 = .ok (.invokevirtual 52, 3) := by decide +kernel
theorem dX5_wayOf_5 : decode cX5_wayOf 5 = .ok (.ifCond .eq 12, 3) := by decide +kernel
theorem dX5_wayOf_8 : decode cX5_wayOf 8 = .ok (.aload_n 0, 1) := by decide +kernel
theorem dX5_wayOf_9 : decode cX5_wayOf 9 = .ok (.getfield 21, 3) := by decide +kernel
theorem dX5_wayOf_12 : decode cX5_wayOf 12 = .ok (.iload_n 1, 1) := by decide +kernel
theorem dX5_wayOf_13 : decode cX5_wayOf 13 = .ok (.iaload, 1) := by decide +kernel
theorem dX5_wayOf_14 : decode cX5_wayOf 14 = .ok (.goto 4, 3) := by decide +kernel
theorem dX5_wayOf_17 : decode cX5_wayOf 17 = .ok (.iconst 0, 1) := by decide +kernel
theorem dX5_wayOf_18 : decode cX5_wayOf 18 = .ok (.ireturn, 1) := by decide +kernel
theorem dX5_becomeHeight_0 : decode cX5_becomeHeight 0 = .ok (.aload_n 0, 1) := by decide +kernel
theorem dX5_becomeHeight_1 : decode cX5_becomeHeight 1 = .ok (.iload_n 1, 1) := by decide +kernel
theorem dX5_becomeHeight_2 : decode cX5_becomeHeight 2 = .ok (.invokevirtual 52, 3) := by decide +kernel
theorem dX5_becomeHeight_5 : decode cX5_becomeHeight 5 = .ok (.ifCond .eq 10, 3) := by decide +kernel
theorem dX5_becomeHeight_8 : decode cX5_becomeHeight 8 = .ok (.aload_n 0, 1) := by decide +kernel
theorem dX5_becomeHeight_9 : decode cX5_becomeHeight 9 = .ok (.getfield 9, 3) := by decide +kernel
theorem dX5_becomeHeight_12 : decode cX5_becomeHeight 12 = .ok (.iload_n 1, 1) := by decide +kernel
theorem dX5_becomeHeight_13 : decode cX5_becomeHeight 13 = .ok (.iload_n 2, 1) := by decide +kernel
theorem dX5_becomeHeight_14 : decode cX5_becomeHeight 14 = .ok (.iastore, 1) := by decide +kernel
theorem dX5_becomeHeight_15 : decode cX5_becomeHeight 15 = .ok (.return_, 1) := by decide +kernel
theorem dX5_becomeWay_0 : decode cX5_becomeWay 0 = .ok (.aload_n 0, 1) := by decide +kernel
theorem dX5_becomeWay_1 : decode cX5_becomeWay 1 = .ok (.iload_n 1, 1) := by decide +kernel
theorem dX5_becomeWay_2 : decode cX5_becomeWay 2 = .ok (.invokevirtual 52, 3) := by decide +kernel
theorem dX5_becomeWay_5 : decode cX5_becomeWay 5 = .ok (.ifCond .eq 10, 3) := by decide +kernel
theorem dX5_becomeWay_8 : decode cX5_becomeWay 8 = .ok (.aload_n 0, 1) := by decide +kernel
theorem dX5_becomeWay_9 : decode cX5_becomeWay 9 = .ok (.getfield 21, 3) := by decide +kernel
theorem dX5_becomeWay_12 : decode cX5_becomeWay 12 = .ok (.iload_n 1, 1) := by decide +kernel
theorem dX5_becomeWay_13 : decode cX5_becomeWay 13 = .ok (.iload_n 2, 1) := by decide +kernel
theorem dX5_becomeWay_14 : decode cX5_becomeWay 14 = .ok (.iastore, 1) := by decide +kernel
theorem dX5_becomeWay_15 : decode cX5_becomeWay 15 = .ok (.return_, 1) := by decide +kernel
theorem dX5_cover_0 : decode cX5_cover 0 = .ok (.aload_n 0, 1) := by decide +kernel
theorem dX5_cover_1 : decode cX5_cover 1 = .ok (.aload_n 0, 1) := by decide +kernel
theorem dX5_cover_2 : decode cX5_cover 2 = .ok (.getfield 28, 3) := by decide +kernel
theorem dX5_cover_5 : decode cX5_cover 5 = .ok (.iload_n 1, 1) := by decide +kernel
theorem dX5_cover_6 : decode cX5_cover 6 = .ok (.invokestatic 55, 3) := by decide +kernel
theorem dX5_cover_9 : decode cX5_cover 9 = .ok (.putfield 28, 3) := by decide +kernel
theorem dX5_cover_12 : decode cX5_cover 12 = .ok (.aload_n 0, 1) := by decide +kernel
theorem dX5_cover_13 : decode cX5_cover 13 = .ok (.aload_n 0, 1) := by decide +kernel
theorem dX5_cover_14 : decode cX5_cover 14 = .ok (.getfield 24, 3) := by decide +kernel
theorem dX5_cover_17 : decode cX5_cover 17 = .ok (.putfield 31, 3) := by decide +kernel
theorem dX5_cover_20 : decode cX5_cover 20 = .ok (.return_, 1) := by decide +kernel
theorem dX5_covered_0 : decode cX5_covered 0 = .ok (.iconst 0, 1) := by decide +kernel
theorem dX5_covered_1 : decode cX5_covered 1 = .ok (.istore_n 1, 1) := by decide +kernel
theorem dX5_covered_2 : decode cX5_covered 2 = .ok (.iconst 0, 1) := by decide +kernel
theorem dX5_covered_3 : decode cX5_covered 3 = .ok (.istore_n 2, 1) := by decide +kernel
theorem dX5_covered_4 : decode cX5_covered 4 = .ok (.iload_n 2, 1) := by decide +kernel
theorem dX5_covered_5 : decode cX5_covered 5 = .ok (.aload_n 0, 1) := by decide +kernel
theorem dX5_covered_6 : decode cX5_covered 6 = .ok (.getfield 24, 3) := by decide +kernel
theorem dX5_covered_9 : decode cX5_covered 9 = .ok (.if_icmp .ge 20, 3) := by decide +kernel
theorem dX5_covered_12 : decode cX5_covered 12 = .ok (.aload_n 0, 1) := by decide +kernel
theorem dX5_covered_13 : decode cX5_covered 13 = .ok (.iload_n 2, 1) := by decide +kernel
theorem dX5_covered_14 : decode cX5_covered 14 = .ok (.invokevirtual 47, 3) := by decide +kernel
theorem dX5_covered_17 : decode cX5_covered 17 = .ok (.ifCond .eq 6, 3) := by decide +kernel
theorem dX5_covered_20 : decode cX5_covered 20 = .ok (.iinc 1 1, 3) := by decide +kernel
theorem dX5_covered_23 : decode cX5_covered 23 = .ok (.iinc 2 1, 3) := by decide +kernel
theorem dX5_covered_26 : decode cX5_covered 26 = .ok (.goto (-22), 3) := by decide +kernel
theorem dX5_covered_29 : decode cX5_covered 29 = .ok (.iload_n 1, 1) := by decide +kernel
theorem dX5_covered_30 : decode cX5_covered 30 = .ok (.ireturn, 1) := by decide +kernel
theorem dX5_isCovered_0 : decode cX5_isCovered 0 = .ok (.aload_n 0, 1) := by decide +kernel
theorem dX5_isCovered_1 : decode cX5_isCovered 1 = .ok (.iload_n 1, 1) := by decide +kernel
theorem dX5_isCovered_2 : decode cX5_isCovered 2 = .ok (.invokevirtual 41, 3) := by decide +kernel
theorem dX5_isCovered_5 : decode cX5_isCovered 5 = .ok (.istore_n 2, 1) := by decide +kernel
theorem dX5_isCovered_6 : decode cX5_isCovered 6 = .ok (.iload_n 2, 1) := by decide +kernel
theorem dX5_isCovered_7 : decode cX5_isCovered 7 = .ok (.sipush 600, 3) := by decide +kernel
theorem dX5_isCovered_10 : decode cX5_isCovered 10 = .ok (.if_icmp .ne 19, 3) := by decide +kernel
theorem dX5_isCovered_13 : decode cX5_isCovered 13 = .ok (.iload_n 1, 1) := by decide +kernel
theorem dX5_isCovered_14 : decode cX5_isCovered 14 = .ok (.aload_n 0, 1) := by decide +kernel
theorem dX5_isCovered_15 : decode cX5_isCovered 15 = .ok (.getfield 31, 3) := by decide +kernel
theorem dX5_isCovered_18 : decode cX5_isCovered 18 = .ok (.if_icmp .ge 7, 3) := by decide +kernel
theorem dX5_isCovered_21 : decode cX5_isCovered 21 = .ok (.iconst 1, 1) := by decide +kernel
theorem dX5_isCovered_22 : decode cX5_isCovered 22 = .ok (.goto 20, 3) := by decide +kernel
theorem dX5_isCovered_25 : decode cX5_isCovered 25 = .ok (.iconst 0, 1) := by decide +kernel
theorem dX5_isCovered_26 : decode cX5_isCovered 26 = .ok (.goto 16, 3) := by decide +kernel
theorem dX5_isCovered_29 : decode cX5_isCovered 29 = .ok (.iload_n 2, 1) := by decide +kernel
theorem dX5_isCovered_30 : decode cX5_isCovered 30 = .ok (.aload_n 0, 1) := by decide +kernel
theorem dX5_isCovered_31 : decode cX5_isCovered 31 = .ok (.getfield 28, 3) := by decide +kernel
theorem dX5_isCovered_34 : decode cX5_isCovered 34 = .ok (.if_icmp .gt 7, 3) := by decide +kernel
theorem dX5_isCovered_37 : decode cX5_isCovered 37 = .ok (.iconst 1, 1) := by decide +kernel
theorem dX5_isCovered_38 : decode cX5_isCovered 38 = .ok (.goto 4, 3) := by decide +kernel
theorem dX5_isCovered_41 : decode cX5_isCovered 41 = .ok (.iconst 0, 1) := by decide +kernel
theorem dX5_isCovered_42 : decode cX5_isCovered 42 = .ok (.ireturn, 1) := by decide +kernel
theorem dX5_turnedMarks_0 : decode cX5_turnedMarks 0 = .ok (.iconst 0, 1) := by decide +kernel
theorem dX5_turnedMarks_1 : decode cX5_turnedMarks 1 = .ok (.istore_n 2, 1) := by decide +kernel
theorem dX5_turnedMarks_2 : decode cX5_turnedMarks 2 = .ok (.iconst 0, 1) := by decide +kernel
theorem dX5_turnedMarks_3 : decode cX5_turnedMarks 3 = .ok (.istore_n 3, 1) := by decide +kernel
theorem dX5_turnedMarks_4 : decode cX5_turnedMarks 4 = .ok (.iload_n 3, 1) := by decide +kernel
theorem dX5_turnedMarks_5 : decode cX5_turnedMarks 5 = .ok (.aload_n 0, 1) := by decide +kernel
theorem dX5_turnedMarks_6 : decode cX5_turnedMarks 6 = .ok (.getfield 24, 3) := by decide +kernel
theorem dX5_turnedMarks_9 : decode cX5_turnedMarks 9 = .ok (.if_icmp .ge 21, 3) := by decide +kernel
theorem dX5_turnedMarks_12 : decode cX5_turnedMarks 12 = .ok (.aload_n 0, 1) := by decide +kernel
theorem dX5_turnedMarks_13 : decode cX5_turnedMarks 13 = .ok (.iload_n 3, 1) := by decide +kernel
theorem dX5_turnedMarks_14 : decode cX5_turnedMarks 14 = .ok (.iload_n 1, 1) := by decide +kernel
theorem dX5_turnedMarks_15 : decode cX5_turnedMarks 15 = .ok (.invokevirtual 61, 3) := by decide +kernel
theorem dX5_turnedMarks_18 : decode cX5_turnedMarks 18 = .ok (.ifCond .eq 6, 3) := by decide +kernel
theorem dX5_turnedMarks_21 : decode cX5_turnedMarks 21 = .ok (.iinc 2 1, 3) := by decide +kernel
theorem dX5_turnedMarks_24 : decode cX5_turnedMarks 24 = .ok (.iinc 3 1, 3) := by decide +kernel
theorem dX5_turnedMarks_27 : decode cX5_turnedMarks 27 = .ok (.goto (-23), 3) := by decide +kernel
theorem dX5_turnedMarks_30 : decode cX5_turnedMarks 30 = .ok (.iload_n 2, 1) := by decide +kernel
theorem dX5_turnedMarks_31 : decode cX5_turnedMarks 31 = .ok (.ireturn, 1) := by decide +kernel
theorem dX5_firstTurned_0 : decode cX5_firstTurned 0 = .ok (.iconst 0, 1) := by decide +kernel
theorem dX5_firstTurned_1 : decode cX5_firstTurned 1 = .ok (.istore_n 2, 1) := by decide +kernel
theorem dX5_firstTurned_2 : decode cX5_firstTurned 2 = .ok (.iload_n 2, 1) := by decide +kernel
theorem dX5_firstTurned_3 : decode cX5_firstTurned 3 = .ok (.aload_n 0, 1) := by decide +kernel
theorem dX5_firstTurned_4 : decode cX5_firstTurned 4 = .ok (.getfield 24, 3) := by decide +kernel
theorem dX5_firstTurned_7 : decode cX5_firstTurned 7 = .ok (.if_icmp .ge 20, 3) := by decide +kernel
theorem dX5_firstTurned_10 : decode cX5_firstTurned 10 = .ok (.aload_n 0, 1) := by decide +kernel
theorem dX5_firstTurned_11 : decode cX5_firstTurned 11 = .ok (.iload_n 2, 1) := by decide +kernel
theorem dX5_firstTurned_12 : decode cX5_firstTurned 12 = .ok (.iload_n 1, 1) := by decide +kernel
theorem dX5_firstTurned_13 : decode cX5_firstTurned 13 = .ok (.invokevirtual 61, 3) := by decide +kernel
theorem dX5_firstTurned_16 : decode cX5_firstTurned 16 = .ok (.ifCond .eq 5, 3) := by decide +kernel
theorem dX5_firstTurned_19 : decode cX5_firstTurned 19 = .ok (.iload_n 2, 1) := by decide +kernel
theorem dX5_firstTurned_20 : decode cX5_firstTurned 20 = .ok (.ireturn, 1) := by decide +kernel
theorem dX5_firstTurned_21 : decode cX5_firstTurned 21 = .ok (.iinc 2 1, 3) := by decide +kernel
theorem dX5_firstTurned_24 : decode cX5_firstTurned 24 = .ok (.goto (-22), 3) := by decide +kernel
theorem dX5_firstTurned_27 : decode cX5_firstTurned 27 = .ok (.bipush (-2), 2) := by decide +kernel
theorem dX5_firstTurned_29 : decode cX5_firstTurned 29 = .ok (.ireturn, 1) := by decide +kernel
theorem dX5_isTurned_0 : decode cX5_isTurned 0 = .ok (.aload_n 0, 1) := by decide +kernel
theorem dX5_isTurned_1 : decode cX5_isTurned 1 = .ok (.iload_n 1, 1) := by decide +kernel
theorem dX5_isTurned_2 : decode cX5_isTurned 2 = .ok (.iload_n 2, 1) := by decide +kernel
theorem dX5_isTurned_3 : decode cX5_isTurned 3 = .ok (.invokevirtual 65, 3) := by decide +kernel
theorem dX5_isTurned_6 : decode cX5_isTurned 6 = .ok (.ifCond .ne 5, 3) := by decide +kernel
theorem dX5_isTurned_9 : decode cX5_isTurned 9 = .ok (.iconst 0, 1) := by decide +kernel
theorem dX5_isTurned_10 : decode cX5_isTurned 10 = .ok (.ireturn, 1) := by decide +kernel
theorem dX5_isTurned_11 : decode cX5_isTurned 11 = .ok (.iconst 0, 1) := by decide +kernel
theorem dX5_isTurned_12 : decode cX5_isTurned 12 = .ok (.istore_n 3, 1) := by decide +kernel
theorem dX5_isTurned_13 : decode cX5_isTurned 13 = .ok (.iload_n 3, 1) := by decide +kernel
theorem dX5_isTurned_14 : decode cX5_isTurned 14 = .ok (.aload_n 0, 1) := by decide +kernel
theorem dX5_isTurned_15 : decode cX5_isTurned 15 = .ok (.getfield 24, 3) := by decide +kernel
theorem dX5_isTurned_18 : decode cX5_isTurned 18 = .ok (.if_icmp .ge 46, 3) := by decide +kernel
theorem dX5_isTurned_21 : decode cX5_isTurned 21 = .ok (.aload_n 0, 1) := by decide +kernel
theorem dX5_isTurned_22 : decode cX5_isTurned 22 = .ok (.iload_n 3, 1) := by decide +kernel
theorem dX5_isTurned_23 : decode cX5_isTurned 23 = .ok (.iload_n 2, 1) := by decide +kernel
theorem dX5_isTurned_24 : decode cX5_isTurned 24 = .ok (.invokevirtual 65, 3) := by decide +kernel
theorem dX5_isTurned_27 : decode cX5_isTurned 27 = .ok (.ifCond .eq 31, 3) := by decide +kernel
theorem dX5_isTurned_30 : decode cX5_isTurned 30 = .ok (.aload_n 0, 1) := by decide +kernel
theorem dX5_isTurned_31 : decode cX5_isTurned 31 = .ok (.iload_n 3, 1) := by decide +kernel
theorem dX5_isTurned_32 : decode cX5_isTurned 32 = .ok (.invokevirtual 41, 3) := by decide +kernel
theorem dX5_isTurned_35 : decode cX5_isTurned 35 = .ok (.aload_n 0, 1) := by decide +kernel
theorem dX5_isTurned_36 : decode cX5_isTurned 36 = .ok (.iload_n 1, 1) := by decide +kernel
theorem dX5_isTurned_37 : decode cX5_isTurned 37 = .ok (.invokevirtual 41, 3) := by decide +kernel
theorem dX5_isTurned_40 : decode cX5_isTurned 40 = .ok (.if_icmp .ge 18, 3) := by decide +kernel
theorem dX5_isTurned_43 : decode cX5_isTurned 43 = .ok (.aload_n 0, 1) := by decide +kernel
theorem dX5_isTurned_44 : decode cX5_isTurned 44 = .ok (.iload_n 1, 1) := by decide +kernel
theorem dX5_isTurned_45 : decode cX5_isTurned 45 = .ok (.invokevirtual 34, 3) := by decide +kernel
theorem dX5_isTurned_48 : decode cX5_isTurned 48 = .ok (.aload_n 0, 1) := by decide +kernel
theorem dX5_isTurned_49 : decode cX5_isTurned 49 = .ok (.iload_n 3, 1) := by decide +kernel
theorem dX5_isTurned_50 : decode cX5_isTurned 50 = .ok (.invokevirtual 34, 3) := by decide +kernel
theorem dX5_isTurned_53 : decode cX5_isTurned 53 = .ok (.if_icmp .gt 5, 3) := by decide +kernel
theorem dX5_isTurned_56 : decode cX5_isTurned 56 = .ok (.iconst 1, 1) := by decide +kernel
theorem dX5_isTurned_57 : decode cX5_isTurned 57 = .ok (.ireturn, 1) := by decide +kernel
theorem dX5_isTurned_58 : decode cX5_isTurned 58 = .ok (.iinc 3 1, 3) := by decide +kernel
theorem dX5_isTurned_61 : decode cX5_isTurned 61 = .ok (.goto (-48), 3) := by decide +kernel
theorem dX5_isTurned_64 : decode cX5_isTurned 64 = .ok (.iconst 0, 1) := by decide +kernel
theorem dX5_isTurned_65 : decode cX5_isTurned 65 = .ok (.ireturn, 1) := by decide +kernel
theorem dX5_isToldOf_0 : decode cX5_isToldOf 0 = .ok (.aload_n 0, 1) := by decide +kernel
theorem dX5_isToldOf_1 : decode cX5_isToldOf 1 = .ok (.iload_n 1, 1) := by decide +kernel
theorem dX5_isToldOf_2 : decode cX5_isToldOf 2 = .ok (.invokevirtual 38, 3) := by decide +kernel
theorem dX5_isToldOf_5 : decode cX5_isToldOf 5 = .ok (.iload_n 2, 1) := by decide +kernel
theorem dX5_isToldOf_6 : decode cX5_isToldOf 6 = .ok (.if_icmp .ne 18, 3) := by decide +kernel
theorem dX5_isToldOf_9 : decode cX5_isToldOf 9 = .ok (.aload_n 0, 1) := by decide +kernel
theorem dX5_isToldOf_10 : decode cX5_isToldOf 10 = .ok (.iload_n 1, 1) := by decide +kernel
theorem dX5_isToldOf_11 : decode cX5_isToldOf 11 = .ok (.invokevirtual 41, 3) := by decide +kernel
theorem dX5_isToldOf_14 : decode cX5_isToldOf 14 = .ok (.sipush 600, 3) := by decide +kernel
theorem dX5_isToldOf_17 : decode cX5_isToldOf 17 = .ok (.if_icmp .eq 7, 3) := by decide +kernel
theorem dX5_isToldOf_20 : decode cX5_isToldOf 20 = .ok (.iconst 1, 1) := by decide +kernel
theorem dX5_isToldOf_21 : decode cX5_isToldOf 21 = .ok (.goto 4, 3) := by decide +kernel
theorem dX5_isToldOf_24 : decode cX5_isToldOf 24 = .ok (.iconst 0, 1) := by decide +kernel
theorem dX5_isToldOf_25 : decode cX5_isToldOf 25 = .ok (.ireturn, 1) := by decide +kernel
theorem dX6_init_0 : decode cX6_init 0 = .ok (.aload_n 0, 1) := by decide +kernel
theorem dX6_init_1 : decode cX6_init 1 = .ok (.invokespecial 3, 3) := by decide +kernel
theorem dX6_init_4 : decode cX6_init 4 = .ok (.aload_n 0, 1) := by decide +kernel
theorem dX6_init_5 : decode cX6_init 5 = .ok (.aload_n 1, 1) := by decide +kernel
theorem dX6_init_6 : decode cX6_init 6 = .ok (.putfield 9, 3) := by decide +kernel
theorem dX6_init_9 : decode cX6_init 9 = .ok (.return_, 1) := by decide +kernel
theorem dX6_endMonth_0 : decode cX6_endMonth 0 = .ok (.aload_n 0, 1) := by decide +kernel
theorem dX6_endMonth_1 : decode cX6_endMonth 1 = .ok (.getfield 9, 3) := by decide +kernel
theorem dX6_endMonth_4 : decode cX6_endMonth 4 = .ok (.iload_n 1, 1) := by decide +kernel
theorem dX6_endMonth_5 : decode cX6_endMonth 5 = .ok (.invokevirtual 15, 3) := by decide +kernel
theorem dX6_endMonth_8 : decode cX6_endMonth 8 = .ok (.sipush 240, 3) := by decide +kernel
theorem dX6_endMonth_11 : decode cX6_endMonth 11 = .ok (.iadd, 1) := by decide +kernel
theorem dX6_endMonth_12 : decode cX6_endMonth 12 = .ok (.sipush 599, 3) := by decide +kernel
theorem dX6_endMonth_15 : decode cX6_endMonth 15 = .ok (.invokestatic 21, 3) := by decide +kernel
theorem dX6_endMonth_18 : decode cX6_endMonth 18 = .ok (.ireturn, 1) := by decide +kernel
theorem dX6_endOf_0 : decode cX6_endOf 0 = .ok (.aload_n 0, 1) := by decide +kernel
theorem dX6_endOf_1 : decode cX6_endOf 1 = .ok (.getfield 9, 3) := by decide +kernel
theorem dX6_endOf_4 : decode cX6_endOf 4 = .ok (.iload_n 1, 1) := by decide +kernel
theorem dX6_endOf_5 : decode cX6_endOf 5 = .ok (.aload_n 0, 1) := by decide +kernel
theorem dX6_endOf_6 : decode cX6_endOf 6 = .ok (.iload_n 1, 1) := by decide +kernel
theorem dX6_endOf_7 : decode cX6_endOf 7 = .ok (.invokevirtual 27, 3) := by decide +kernel
theorem dX6_endOf_10 : decode cX6_endOf 10 = .ok (.invokevirtual 30, 3) := by decide +kernel
theorem dX6_endOf_13 : decode cX6_endOf 13 = .ok (.ireturn, 1) := by decide +kernel
theorem dX6_twiceAtTwo_0 : decode cX6_twiceAtTwo 0 = .ok (.aload_n 0, 1) := by decide +kernel
theorem dX6_twiceAtTwo_1 : decode cX6_twiceAtTwo 1 = .ok (.getfield 9, 3) := by decide +kernel
theorem dX6_twiceAtTwo_4 : decode cX6_twiceAtTwo 4 = .ok (.iload_n 1, 1) := by decide +kernel
theorem dX6_twiceAtTwo_5 : decode cX6_twiceAtTwo 5 = .ok (.invokevirtual 15, 3) := by decide +kernel
theorem dX6_twiceAtTwo_8 : decode cX6_twiceAtTwo 8 = .ok (.bipush 24, 2) := by decide +kernel
theorem dX6_twiceAtTwo_10 : decode cX6_twiceAtTwo 10 = .ok (.iadd, 1) := by decide +kernel
theorem dX6_twiceAtTwo_11 : decode cX6_twiceAtTwo 11 = .ok (.istore_n 2, 1) := by decide +kernel
theorem dX6_twiceAtTwo_12 : decode cX6_twiceAtTwo 12 = .ok (.iload_n 2, 1) := by decide +kernel
theorem dX6_twiceAtTwo_13 : decode cX6_twiceAtTwo 13 = .ok (.invokestatic 33, 3) := by decide +kernel
theorem dX6_twiceAtTwo_16 : decode cX6_twiceAtTwo 16 = .ok (.ifCond .eq 17, 3) := by decide +kernel
theorem dX6_twiceAtTwo_19 : decode cX6_twiceAtTwo 19 = .ok (.iconst 2, 1) := by decide +kernel
theorem dX6_twiceAtTwo_20 : decode cX6_twiceAtTwo 20 = .ok (.aload_n 0, 1) := by decide +kernel
theorem dX6_twiceAtTwo_21 : decode cX6_twiceAtTwo 21 = .ok (.getfield 9, 3) := by decide +kernel
theorem dX6_twiceAtTwo_24 : decode cX6_twiceAtTwo 24 = .ok (.iload_n 1, 1) := by decide +kernel
theorem dX6_twiceAtTwo_25 : decode cX6_twiceAtTwo 25 = .ok (.iload_n 2, 1) := by decide +kernel
theorem dX6_twiceAtTwo_26 : decode cX6_twiceAtTwo 26 = .ok (.invokevirtual 30, 3) := by decide +kernel
theorem dX6_twiceAtTwo_29 : decode cX6_twiceAtTwo 29 = .ok (.imul, 1) := by decide +kernel
theorem dX6_twiceAtTwo_30 : decode cX6_twiceAtTwo 30 = .ok (.goto 5, 3) := by decide +kernel
theorem dX6_twiceAtTwo_33 : decode cX6_twiceAtTwo 33 = .ok (.bipush (-2), 2) := by decide +kernel
theorem dX6_twiceAtTwo_35 : decode cX6_twiceAtTwo 35 = .ok (.ireturn, 1) := by decide +kernel
theorem dX6_byParents_0 : decode cX6_byParents 0 = .ok (.aload_n 0, 1) := by decide +kernel
theorem dX6_byParents_1 : decode cX6_byParents 1 = .ok (.getfield 9, 3) := by decide +kernel
theorem dX6_byParents_4 : decode cX6_byParents 4 = .ok (.iload_n 1, 1) := by decide +kernel
theorem dX6_byParents_5 : decode cX6_byParents 5 = .ok (.iconst 4, 1) := by decide +kernel
theorem dX6_byParents_6 : decode cX6_byParents 6 = .ok (.invokevirtual 37, 3) := by decide +kernel
theorem dX6_byParents_9 : decode cX6_byParents 9 = .ok (.istore_n 2, 1) := by decide +kernel
theorem dX6_byParents_10 : decode cX6_byParents 10 = .ok (.aload_n 0, 1) := by decide +kernel
theorem dX6_byParents_11 : decode cX6_byParents 11 = .ok (.getfield 9, 3) := by decide +kernel
theorem dX6_byParents_14 : decode cX6_byParents 14 = .ok (.iload_n 1, 1) := by decide +kernel
theorem dX6_byParents_15 : decode cX6_byParents 15 = .ok (.iconst 1, 1) := by decide +kernel
theorem dX6_byParents_16 : decode cX6_byParents 16 = .ok (.invokevirtual 37, 3) := by decide +kernel
theorem dX6_byParents_19 : decode cX6_byParents 19 = .ok (.iconst 1, 1) := by decide +kernel
theorem dX6_byParents_20 : decode cX6_byParents 20 = .ok (.if_icmp .ne 11, 3) := by decide +kernel
theorem dX6_byParents_23 : decode cX6_byParents 23 = .ok (.iload_n 2, 1) := by decide +kernel
theorem dX6_byParents_24 : decode cX6_byParents 24 = .ok (.sipush 160, 3) := by decide +kernel
theorem dX6_byParents_27 : decode cX6_byParents 27 = .ok (.iadd, 1) := by decide +kernel
theorem dX6_byParents_28 : decode cX6_byParents 28 = .ok (.goto 8, 3) := by decide +kernel
theorem dX6_byParents_31 : decode cX6_byParents 31 = .ok (.iload_n 2, 1) := by decide +kernel
theorem dX6_byParents_32 : decode cX6_byParents 32 = .ok (.sipush 160, 3) := by decide +kernel
theorem dX6_byParents_35 : decode cX6_byParents 35 = .ok (.isub, 1) := by decide +kernel
theorem dX6_byParents_36 : decode cX6_byParents 36 = .ok (.ireturn, 1) := by decide +kernel
theorem dX6_yearOf_0 : decode cX6_yearOf 0 = .ok (.bipush (-2), 2) := by decide +kernel
theorem dX6_yearOf_2 : decode cX6_yearOf 2 = .ok (.istore_n 3, 1) := by decide +kernel
theorem dX6_yearOf_3 : decode cX6_yearOf 3 = .ok (.iconst 0, 1) := by decide +kernel
theorem dX6_yearOf_4 : decode cX6_yearOf 4 = .ok (.istore 4, 2) := by decide +kernel
theorem dX6_yearOf_6 : decode cX6_yearOf 6 = .ok (.iload 4, 2) := by decide +kernel
theorem dX6_yearOf_8 : decode cX6_yearOf 8 = .ok (.bipush 20, 2) := by decide +kernel
theorem dX6_yearOf_10 : decode cX6_yearOf 10 = .ok (.if_icmp .ge 48, 3) := by decide +kernel
theorem dX6_yearOf_13 : decode cX6_yearOf 13 = .ok (.aload_n 0, 1) := by decide +kernel
theorem dX6_yearOf_14 : decode cX6_yearOf 14 = .ok (.iload_n 1, 1) := by decide +kernel
theorem dX6_yearOf_15 : decode cX6_yearOf 15 = .ok (.iload 4, 2) := by decide +kernel
theorem dX6_yearOf_17 : decode cX6_yearOf 17 = .ok (.invokevirtual 40, 3) := by decide +kernel
theorem dX6_yearOf_20 : decode cX6_yearOf 20 = .ok (.ifCond .eq 38, 3) := by decide +kernel
theorem dX6_yearOf_23 : decode cX6_yearOf 23 = .ok (.iload_n 3, 1) := by decide +kernel
theorem dX6_yearOf_24 : decode cX6_yearOf 24 = .ok (.bipush (-2), 2) := by decide +kernel
theorem dX6_yearOf_26 : decode cX6_yearOf 26 = .ok (.if_icmp .eq 23, 3) := by decide +kernel
theorem dX6_yearOf_29 : decode cX6_yearOf 29 = .ok (.aload_n 0, 1) := by decide +kernel
theorem dX6_yearOf_30 : decode cX6_yearOf 30 = .ok (.iload_n 1, 1) := by decide +kernel
theorem dX6_yearOf_31 : decode cX6_yearOf 31 = .ok (.iload 4, 2) := by decide +kernel
theorem dX6_yearOf_33 : decode cX6_yearOf 33 = .ok (.invokevirtual 44, 3) := by decide +kernel
theorem dX6_yearOf_36 : decode cX6_yearOf 36 = .ok (.aload_n 0, 1) := by decide +kernel
theorem dX6_yearOf_37 : decode cX6_yearOf 37 = .ok (.iload_n 1, 1) := by decide +kernel
theorem dX6_yearOf_38 : decode cX6_yearOf 38 = .ok (.iload_n 3, 1) := by decide +kernel
theorem dX6_yearOf_39 : decode cX6_yearOf 39 = .ok (.invokevirtual 44, 3) := by decide +kernel
theorem dX6_yearOf_42 : decode cX6_yearOf 42 = .ok (.iload_n 2, 1) := by decide +kernel
theorem dX6_yearOf_43 : decode cX6_yearOf 43 = .ok (.invokestatic 47, 3) := by decide +kernel
theorem dX6_yearOf_46 : decode cX6_yearOf 46 = .ok (.ifCond .eq 6, 3) := by decide +kernel
theorem dX6_yearOf_49 : decode cX6_yearOf 49 = .ok (.iload 4, 2) := by decide +kernel
theorem dX6_yearOf_51 : decode cX6_yearOf 51 = .ok (.istore_n 3, 1) := by decide +kernel
theorem dX6_yearOf_52 : decode cX6_yearOf 52 = .ok (.iinc 4 1, 3) := by decide +kernel
theorem dX6_yearOf_55 : decode cX6_yearOf 55 = .ok (.goto (-49), 3) := by decide +kernel
theorem dX6_yearOf_58 : decode cX6_yearOf 58 = .ok (.iload_n 3, 1) := by decide +kernel
theorem dX6_yearOf_59 : decode cX6_yearOf 59 = .ok (.ireturn, 1) := by decide +kernel
theorem dX6_isBetter_0 : decode cX6_isBetter 0 = .ok (.iload_n 2, 1) := by decide +kernel
theorem dX6_isBetter_1 : decode cX6_isBetter 1 = .ok (.ifCond .eq 16, 3) := by decide +kernel
theorem dX6_isBetter_4 : decode cX6_isBetter 4 = .ok (.iload_n 0, 1) := by decide +kernel
theorem dX6_isBetter_5 : decode cX6_isBetter 5 = .ok (.iload_n 1, 1) := by decide +kernel
theorem dX6_isBetter_6 : decode cX6_isBetter 6 = .ok (.if_icmp .le 7, 3) := by decide +kernel
theorem dX6_isBetter_9 : decode cX6_isBetter 9 = .ok (.iconst 1, 1) := by decide +kernel
theorem dX6_isBetter_10 : decode cX6_isBetter 10 = .ok (.goto 17, 3) := by decide +kernel
theorem dX6_isBetter_13 : decode cX6_isBetter 13 = .ok (.iconst 0, 1) := by decide +kernel
theorem dX6_isBetter_14 : decode cX6_isBetter 14 = .ok (.goto 13, 3) := by decide +kernel
theorem dX6_isBetter_17 : decode cX6_isBetter 17 = .ok (.iload_n 0, 1) := by decide +kernel
theorem dX6_isBetter_18 : decode cX6_isBetter 18 = .ok (.iload_n 1, 1) := by decide +kernel
theorem dX6_isBetter_19 : decode cX6_isBetter 19 = .ok (.if_icmp .ge 7, 3) := by decide +kernel
theorem dX6_isBetter_22 : decode cX6_isBetter 22 = .ok (.iconst 1, 1) := by decide +kernel
theorem dX6_isBetter_23 : decode cX6_isBetter 23 = .ok (.goto 4, 3) := by decide +kernel
theorem dX6_isBetter_26 : decode cX6_isBetter 26 = .ok (.iconst 0, 1) := by decide +kernel
theorem dX6_isBetter_27 : decode cX6_isBetter 27 = .ok (.ireturn, 1) := by decide +kernel
theorem dX6_isWholeYear_0 : decode cX6_isWholeYear 0 = .ok (.aload_n 0, 1) := by decide +kernel
theorem dX6_isWholeYear_1 : decode cX6_isWholeYear 1 = .ok (.getfield 9, 3) := by decide +kernel
theorem dX6_isWholeYear_4 : decode cX6_isWholeYear 4 = .ok (.iload_n 1, 1) := by decide +kernel
theorem dX6_isWholeYear_5 : decode cX6_isWholeYear 5 = .ok (.invokevirtual 15, 3) := by decide +kernel
theorem dX6_isWholeYear_8 : decode cX6_isWholeYear 8 = .ok (.bipush 12, 2) := by decide +kernel
theorem dX6_isWholeYear_10 : decode cX6_isWholeYear 10 = .ok (.iload_n 2, 1) := by decide +kernel
theorem dX6_isWholeYear_11 : decode cX6_isWholeYear 11 = .ok (.iconst 1, 1) := by decide +kernel
theorem dX6_isWholeYear_12 : decode cX6_isWholeYear 12 = .ok (.iadd, 1) := by decide +kernel
theorem dX6_isWholeYear_13 : decode cX6_isWholeYear 13 = .ok (.imul, 1) := by decide +kernel
theorem dX6_isWholeYear_14 : decode cX6_isWholeYear 14 = .ok (.iadd, 1) := by decide +kernel
theorem dX6_isWholeYear_15 : decode cX6_isWholeYear 15 = .ok (.invokestatic 33, 3) := by decide +kernel
theorem dX6_isWholeYear_18 : decode cX6_isWholeYear 18 = .ok (.ireturn, 1) := by decide +kernel
theorem dX6_growthInYear_0 : decode cX6_growthInYear 0 = .ok (.aload_n 0, 1) := by decide +kernel
theorem dX6_growthInYear_1 : decode cX6_growthInYear 1 = .ok (.getfield 9, 3) := by decide +kernel
theorem dX6_growthInYear_4 : decode cX6_growthInYear 4 = .ok (.iload_n 1, 1) := by decide +kernel
theorem dX6_growthInYear_5 : decode cX6_growthInYear 5 = .ok (.invokevirtual 15, 3) := by decide +kernel
theorem dX6_growthInYear_8 : decode cX6_growthInYear 8 = .ok (.bipush 12, 2) := by decide +kernel
theorem dX6_growthInYear_10 : decode cX6_growthInYear 10 = .ok (.iload_n 2, 1) := by decide +kernel
theorem dX6_growthInYear_11 : decode cX6_growthInYear 11 = .ok (.imul, 1) := by decide +kernel
theorem dX6_growthInYear_12 : decode cX6_growthInYear 12 = .ok (.iadd, 1) := by decide +kernel
theorem dX6_growthInYear_13 : decode cX6_growthInYear 13 = .ok (.istore_n 3, 1) := by decide +kernel
theorem dX6_growthInYear_14 : decode cX6_growthInYear 14 = .ok (.aload_n 0, 1) := by decide +kernel
theorem dX6_growthInYear_15 : decode cX6_growthInYear 15 = .ok (.getfield 9, 3) := by decide +kernel
theorem dX6_growthInYear_18 : decode cX6_growthInYear 18 = .ok (.iload_n 1, 1) := by decide +kernel
theorem dX6_growthInYear_19 : decode cX6_growthInYear 19 = .ok (.iload_n 3, 1) := by decide +kernel
theorem dX6_growthInYear_20 : decode cX6_growthInYear 20 = .ok (.bipush 12, 2) := by decide +kernel
theorem dX6_growthInYear_22 : decode cX6_growthInYear 22 = .ok (.iadd, 1) := by decide +kernel
theorem dX6_growthInYear_23 : decode cX6_growthInYear 23 = .ok (.invokevirtual 30, 3) := by decide +kernel
theorem dX6_growthInYear_26 : decode cX6_growthInYear 26 = .ok (.aload_n 0, 1) := by decide +kernel
theorem dX6_growthInYear_27 : decode cX6_growthInYear 27 = .ok (.getfield 9, 3) := by decide +kernel
theorem dX6_growthInYear_30 : decode cX6_growthInYear 30 = .ok (.iload_n 1, 1) := by decide +kernel
theorem dX6_growthInYear_31 : decode cX6_growthInYear 31 = .ok (.iload_n 3, 1) := by decide +kernel
theorem dX6_growthInYear_32 : decode cX6_growthInYear 32 = .ok (.invokevirtual 30, 3) := by decide +kernel
theorem dX6_growthInYear_35 : decode cX6_growthInYear 35 = .ok (.isub, 1) := by decide +kernel
theorem dX6_growthInYear_36 : decode cX6_growthInYear 36 = .ok (.ireturn, 1) := by decide +kernel
theorem dX6_lineAt_0 : decode cX6_lineAt 0 = .ok (.aload_n 0, 1) := by decide +kernel
theorem dX6_lineAt_1 : decode cX6_lineAt 1 = .ok (.getfield 9, 3) := by decide +kernel
theorem dX6_lineAt_4 : decode cX6_lineAt 4 = .ok (.iload_n 1, 1) := by decide +kernel
theorem dX6_lineAt_5 : decode cX6_lineAt 5 = .ok (.iload_n 2, 1) := by decide +kernel
theorem dX6_lineAt_6 : decode cX6_lineAt 6 = .ok (.invokevirtual 51, 3) := by decide +kernel
theorem dX6_lineAt_9 : decode cX6_lineAt 9 = .ok (.istore_n 3, 1) := by decide +kernel
theorem dX6_lineAt_10 : decode cX6_lineAt 10 = .ok (.iload_n 3, 1) := by decide +kernel
theorem dX6_lineAt_11 : decode cX6_lineAt 11 = .ok (.ifCond .ne 7, 3) := by decide +kernel
theorem dX6_lineAt_14 : decode cX6_lineAt 14 = .ok (.iconst 0, 1) := by decide +kernel
theorem dX6_lineAt_15 : decode cX6_lineAt 15 = .ok (.goto 22, 3) := by decide +kernel
theorem dX6_lineAt_18 : decode cX6_lineAt 18 = .ok (.bipush 100, 2) := by decide +kernel
theorem dX6_lineAt_20 : decode cX6_lineAt 20 = .ok (.aload_n 0, 1) := by decide +kernel
theorem dX6_lineAt_21 : decode cX6_lineAt 21 = .ok (.getfield 9, 3) := by decide +kernel
theorem dX6_lineAt_24 : decode cX6_lineAt 24 = .ok (.iload_n 1, 1) := by decide +kernel
theorem dX6_lineAt_25 : decode cX6_lineAt 25 = .ok (.iload_n 2, 1) := by decide +kernel
theorem dX6_lineAt_26 : decode cX6_lineAt 26 = .ok (.invokevirtual 30, 3) := by decide +kernel
theorem dX6_lineAt_29 : decode cX6_lineAt 29 = .ok (.imul, 1) := by decide +kernel
theorem dX6_lineAt_30 : decode cX6_lineAt 30 = .ok (.iload_n 3, 1) := by decide +kernel
theorem dX6_lineAt_31 : decode cX6_lineAt 31 = .ok (.idiv, 1) := by decide +kernel
theorem dX6_lineAt_32 : decode cX6_lineAt 32 = .ok (.bipush 100, 2) := by decide +kernel
theorem dX6_lineAt_34 : decode cX6_lineAt 34 = .ok (.isub, 1) := by decide +kernel
theorem dX6_lineAt_35 : decode cX6_lineAt 35 = .ok (.iconst 4, 1) := by decide +kernel
theorem dX6_lineAt_36 : decode cX6_lineAt 36 = .ok (.idiv, 1) := by decide +kernel
theorem dX6_lineAt_37 : decode cX6_lineAt 37 = .ok (.ireturn, 1) := by decide +kernel
theorem dX6_firstFall_0 : decode cX6_firstFall 0 = .ok (.aload_n 0, 1) := by decide +kernel
theorem dX6_firstFall_1 : decode cX6_firstFall 1 = .ok (.getfield 9, 3) := by decide +kernel
theorem dX6_firstFall_4 : decode cX6_firstFall 4 = .ok (.iload_n 1, 1) := by decide +kernel
theorem dX6_firstFall_5 : decode cX6_firstFall 5 = .ok (.invokevirtual 15, 3) := by decide +kernel
theorem dX6_firstFall_8 : decode cX6_firstFall 8 = .ok (.istore_n 2, 1) := by decide +kernel
theorem dX6_firstFall_9 : decode cX6_firstFall 9 = .ok (.aload_n 0, 1) := by decide +kernel
theorem dX6_firstFall_10 : decode cX6_firstFall 10 = .ok (.iload_n 1, 1) := by decide +kernel
theorem dX6_firstFall_11 : decode cX6_firstFall 11 = .ok (.iload_n 2, 1) := by decide +kernel
theorem dX6_firstFall_12 : decode cX6_firstFall 12 = .ok (.invokevirtual 54, 3) := by decide +kernel
theorem dX6_firstFall_15 : decode cX6_firstFall 15 = .ok (.istore_n 3, 1) := by decide +kernel
theorem dX6_firstFall_16 : decode cX6_firstFall 16 = .ok (.iload_n 2, 1) := by decide +kernel
theorem dX6_firstFall_17 : decode cX6_firstFall 17 = .ok (.iconst 1, 1) := by decide +kernel
theorem dX6_firstFall_18 : decode cX6_firstFall 18 = .ok (.iadd, 1) := by decide +kernel
theorem dX6_firstFall_19 : decode cX6_firstFall 19 = .ok (.istore 4, 2) := by decide +kernel
theorem dX6_firstFall_21 : decode cX6_firstFall 21 = .ok (.iload 4, 2) := by decide +kernel
theorem dX6_firstFall_23 : decode cX6_firstFall 23 = .ok (.sipush 600, 3) := by decide +kernel
theorem dX6_firstFall_26 : decode cX6_firstFall 26 = .ok (.if_icmp .ge 36, 3) := by decide +kernel
theorem dX6_firstFall_29 : decode cX6_firstFall 29 = .ok (.aload_n 0, 1) := by decide +kernel
theorem dX6_firstFall_30 : decode cX6_firstFall 30 = .ok (.iload_n 1, 1) := by decide +kernel
theorem dX6_firstFall_31 : decode cX6_firstFall 31 = .ok (.iload 4, 2) := by decide +kernel
theorem dX6_firstFall_33 : decode cX6_firstFall 33 = .ok (.invokevirtual 54, 3) := by decide +kernel
theorem dX6_firstFall_36 : decode cX6_firstFall 36 = .ok (.istore 5, 2) := by decide +kernel
theorem dX6_firstFall_38 : decode cX6_firstFall 38 = .ok (.iload_n 3, 1) := by decide +kernel
theorem dX6_firstFall_39 : decode cX6_firstFall 39 = .ok (.iload 5, 2) := by decide +kernel
theorem dX6_firstFall_41 : decode cX6_firstFall 41 = .ok (.isub, 1) := by decide +kernel
theorem dX6_firstFall_42 : decode cX6_firstFall 42 = .ok (.iconst 2, 1) := by decide +kernel
theorem dX6_firstFall_43 : decode cX6_firstFall 43 = .ok (.if_icmp .lt 6, 3) := by decide +kernel
theorem dX6_firstFall_46 : decode cX6_firstFall 46 = .ok (.iload 4, 2) := by decide +kernel
theorem dX6_firstFall_48 : decode cX6_firstFall 48 = .ok (.ireturn, 1) := by decide +kernel
theorem dX6_firstFall_49 : decode cX6_firstFall 49 = .ok (.iload_n 3, 1) := by decide +kernel
theorem dX6_firstFall_50 : decode cX6_firstFall 50 = .ok (.iload 5, 2) := by decide +kernel
theorem dX6_firstFall_52 : decode cX6_firstFall 52 = .ok (.invokestatic 57, 3) := by decide +kernel
theorem dX6_firstFall_55 : decode cX6_firstFall 55 = .ok (.istore_n 3, 1) := by decide +kernel
theorem dX6_firstFall_56 : decode cX6_firstFall 56 = .ok (.iinc 4 1, 3) := by decide +kernel
theorem dX6_firstFall_59 : decode cX6_firstFall 59 = .ok (.goto (-38), 3) := by decide +kernel
theorem dX6_firstFall_62 : decode cX6_firstFall 62 = .ok (.bipush (-2), 2) := by decide +kernel
theorem dX6_firstFall_64 : decode cX6_firstFall 64 = .ok (.ireturn, 1) := by decide +kernel
theorem dX6_firstOvertaking_0 : decode cX6_firstOvertaking 0 = .ok (.aload_n 0, 1) := by decide +kernel
theorem dX6_firstOvertaking_1 : decode cX6_firstOvertaking 1 = .ok (.getfield 9, 3) := by decide +kernel
theorem dX6_firstOvertaking_4 : decode cX6_firstOvertaking 4 = .ok (.iload_n 1, 1) := by decide +kernel
theorem dX6_firstOvertaking_5 : decode cX6_firstOvertaking 5 = .ok (.invokevirtual 15, 3) := by decide +kernel
theorem dX6_firstOvertaking_8 : decode cX6_firstOvertaking 8 = .ok (.aload_n 0, 1) := by decide +kernel
theorem dX6_firstOvertaking_9 : decode cX6_firstOvertaking 9 = .ok (.getfield 9, 3) := by decide +kernel
theorem dX6_firstOvertaking_12 : decode cX6_firstOvertaking 12 = .ok (.iload_n 2, 1) := by decide +kernel
theorem dX6_firstOvertaking_13 : decode cX6_firstOvertaking 13 = .ok (.invokevirtual 15, 3) := by decide +kernel
theorem dX6_firstOvertaking_16 : decode cX6_firstOvertaking 16 = .ok (.invokestatic 57, 3) := by decide +kernel
theorem dX6_firstOvertaking_19 : decode cX6_firstOvertaking 19 = .ok (.istore_n 3, 1) := by decide +kernel
theorem dX6_firstOvertaking_20 : decode cX6_firstOvertaking 20 = .ok (.iload_n 3, 1) := by decide +kernel
theorem dX6_firstOvertaking_21 : decode cX6_firstOvertaking 21 = .ok (.iconst 1, 1) := by decide +kernel
theorem dX6_firstOvertaking_22 : decode cX6_firstOvertaking 22 = .ok (.iadd, 1) := by decide +kernel
theorem dX6_firstOvertaking_23 : decode cX6_firstOvertaking 23 = .ok (.istore 4, 2) := by decide +kernel
theorem dX6_firstOvertaking_25 : decode cX6_firstOvertaking 25 = .ok (.iload 4, 2) := by decide +kernel
theorem dX6_firstOvertaking_27 : decode cX6_firstOvertaking 27 = .ok (.sipush 600, 3) := by decide +kernel
theorem dX6_firstOvertaking_30 : decode cX6_firstOvertaking 30 = .ok (.if_icmp .ge 36, 3) := by decide +kernel
theorem dX6_firstOvertaking_33 : decode cX6_firstOvertaking 33 = .ok (.aload_n 0, 1) := by decide +kernel
theorem dX6_firstOvertaking_34 : decode cX6_firstOvertaking 34 = .ok (.iload_n 1, 1) := by decide +kernel
theorem dX6_firstOvertaking_35 : decode cX6_firstOvertaking 35 = .ok (.iload_n 2, 1) := by decide +kernel
theorem dX6_firstOvertaking_36 : decode cX6_firstOvertaking 36 = .ok (.iload 4, 2) := by decide +kernel
theorem dX6_firstOvertaking_38 : decode cX6_firstOvertaking 38 = .ok (.invokevirtual 60, 3) := by decide +kernel
theorem dX6_firstOvertaking_41 : decode cX6_firstOvertaking 41 = .ok (.ifCond .eq 19, 3) := by decide +kernel
theorem dX6_firstOvertaking_44 : decode cX6_firstOvertaking 44 = .ok (.aload_n 0, 1) := by decide +kernel
theorem dX6_firstOvertaking_45 : decode cX6_firstOvertaking 45 = .ok (.iload_n 1, 1) := by decide +kernel
theorem dX6_firstOvertaking_46 : decode cX6_firstOvertaking 46 = .ok (.iload_n 2, 1) := by decide +kernel
theorem dX6_firstOvertaking_47 : decode cX6_firstOvertaking 47 = .ok (.iload 4, 2) := by decide +kernel
theorem dX6_firstOvertaking_49 : decode cX6_firstOvertaking 49 = .ok (.iconst 1, 1) := by decide +kernel
theorem dX6_firstOvertaking_50 : decode cX6_firstOvertaking 50 = .ok (.isub, 1) := by decide +kernel
theorem dX6_firstOvertaking_51 : decode cX6_firstOvertaking 51 = .ok (.invokevirtual 60, 3) := by decide +kernel
theorem dX6_firstOvertaking_54 : decode cX6_firstOvertaking 54 = .ok (.ifCond .ne 6, 3) := by decide +kernel
theorem dX6_firstOvertaking_57 : decode cX6_firstOvertaking 57 = .ok (.iload 4, 2) := by decide +kernel
theorem dX6_firstOvertaking_59 : decode cX6_firstOvertaking 59 = .ok (.ireturn, 1) := by decide +kernel
theorem dX6_firstOvertaking_60 : decode cX6_firstOvertaking 60 = .ok (.iinc 4 1, 3) := by decide +kernel
theorem dX6_firstOvertaking_63 : decode cX6_firstOvertaking 63 = .ok (.goto (-38), 3) := by decide +kernel
theorem dX6_firstOvertaking_66 : decode cX6_firstOvertaking 66 = .ok (.bipush (-2), 2) := by decide +kernel
theorem dX6_firstOvertaking_68 : decode cX6_firstOvertaking 68 = .ok (.ireturn, 1) := by decide +kernel
theorem dX6_isHigher_0 : decode cX6_isHigher 0 = .ok (.aload_n 0, 1) := by decide +kernel
theorem dX6_isHigher_1 : decode cX6_isHigher 1 = .ok (.getfield 9, 3) := by decide +kernel
theorem dX6_isHigher_4 : decode cX6_isHigher 4 = .ok (.iload_n 1, 1) := by decide +kernel
theorem dX6_isHigher_5 : decode cX6_isHigher 5 = .ok (.iload_n 3, 1) := by decide +kernel
theorem dX6_isHigher_6 : decode cX6_isHigher 6 = .ok (.invokevirtual 30, 3) := by decide +kernel
theorem dX6_isHigher_9 : decode cX6_isHigher 9 = .ok (.aload_n 0, 1) := by decide +kernel
theorem dX6_isHigher_10 : decode cX6_isHigher 10 = .ok (.getfield 9, 3) := by decide +kernel
theorem dX6_isHigher_13 : decode cX6_isHigher 13 = .ok (.iload_n 2, 1) := by decide +kernel
theorem dX6_isHigher_14 : decode cX6_isHigher 14 = .ok (.iload_n 3, 1) := by decide +kernel
theorem dX6_isHigher_15 : decode cX6_isHigher 15 = .ok (.invokevirtual 30, 3) := by decide +kernel
theorem dX6_isHigher_18 : decode cX6_isHigher 18 = .ok (.if_icmp .le 7, 3) := by decide +kernel
theorem dX6_isHigher_21 : decode cX6_isHigher 21 = .ok (.iconst 1, 1) := by decide +kernel
theorem dX6_isHigher_22 : decode cX6_isHigher 22 = .ok (.goto 4, 3) := by decide +kernel
theorem dX6_isHigher_25 : decode cX6_isHigher 25 = .ok (.iconst 0, 1) := by decide +kernel
theorem dX6_isHigher_26 : decode cX6_isHigher 26 = .ok (.ireturn, 1) := by decide +kernel
theorem dX7_init_0 : decode cX7_init 0 = .ok (.aload_n 0, 1) := by decide +kernel
theorem dX7_init_1 : decode cX7_init 1 = .ok (.invokespecial 1, 3) := by decide +kernel
theorem dX7_init_4 : decode cX7_init 4 = .ok (.aload_n 0, 1) := by decide +kernel
theorem dX7_init_5 : decode cX7_init 5 = .ok (.bipush 120, 2) := by decide +kernel
theorem dX7_init_7 : decode cX7_init 7 = .ok (.newarray .int, 2) := by decide +kernel
theorem dX7_init_9 : decode cX7_init 9 = .ok (.putfield 9, 3) := by decide +kernel
theorem dX7_init_12 : decode cX7_init 12 = .ok (.aload_n 0, 1) := by decide +kernel
theorem dX7_init_13 : decode cX7_init 13 = .ok (.bipush 121, 2) := by decide +kernel
theorem dX7_init_15 : decode cX7_init 15 = .ok (.newarray .int, 2) := by decide +kernel
theorem dX7_init_17 : decode cX7_init 17 = .ok (.putfield 15, 3) := by decide +kernel
theorem dX7_init_20 : decode cX7_init 20 = .ok (.aload_n 0, 1) := by decide +kernel
theorem dX7_init_21 : decode cX7_init 21 = .ok (.bipush 121, 2) := by decide +kernel
theorem dX7_init_23 : decode cX7_init 23 = .ok (.newarray .int, 2) := by decide +kernel
theorem dX7_init_25 : decode cX7_init 25 = .ok (.putfield 18, 3) := by decide +kernel
theorem dX7_init_28 : decode cX7_init 28 = .ok (.aload_n 0, 1) := by decide +kernel
theorem dX7_init_29 : decode cX7_init 29 = .ok (.iconst 0, 1) := by decide +kernel
theorem dX7_init_30 : decode cX7_init 30 = .ok (.putfield 21, 3) := by decide +kernel
theorem dX7_init_33 : decode cX7_init 33 = .ok (.aload_n 0, 1) := by decide +kernel
theorem dX7_init_34 : decode cX7_init 34 = .ok (.iconst 0, 1) := by decide +kernel
theorem dX7_init_35 : decode cX7_init 35 = .ok (.putfield 25, 3) := by decide +kernel
theorem dX7_init_38 : decode cX7_init 38 = .ok (.aload_n 0, 1) := by decide +kernel
theorem dX7_init_39 : decode cX7_init 39 = .ok (.iconst 0, 1) := by decide +kernel
theorem dX7_init_40 : decode cX7_init 40 = .ok (.putfield 28, 3) := by decide +kernel
theorem dX7_init_43 : decode cX7_init 43 = .ok (.return_, 1) := by decide +kernel
theorem dX7_tapeLength_0 : decode cX7_tapeLength 0 = .ok (.aload_n 0, 1) := by decide +kernel
theorem dX7_tapeLength_1 : decode cX7_tapeLength 1 = .ok (.getfield 21, 3) := by decide +kernel
theorem dX7_tapeLength_4 : decode cX7_tapeLength 4 = .ok (.ireturn, 1) := by decide +kernel
theorem dX7_take_0 : decode cX7_take 0 = .ok (.aload_n 0, 1) := by decide +kernel
theorem dX7_take_1 : decode cX7_take 1 = .ok (.getfield 21, 3) := by decide +kernel
theorem dX7_take_4 : decode cX7_take 4 = .ok (.bipush 120, 2) := by decide +kernel
theorem dX7_take_6 : decode cX7_take 6 = .ok (.if_icmp .ge 23, 3) := by decide +kernel
theorem dX7_take_9 : decode cX7_take 9 = .ok (.aload_n 0, 1) := by decide +kernel
theorem dX7_take_10 : decode cX7_take 10 = .ok (.getfield 9, 3) := by decide +kernel
theorem dX7_take_13 : decode cX7_take 13 = .ok (.aload_n 0, 1) := by decide +kernel
theorem dX7_take_14 : decode cX7_take 14 = .ok (.getfield 21, 3) := by decide +kernel
theorem dX7_take_17 : decode cX7_take 17 = .ok (.iload_n 1, 1) := by decide +kernel
theorem dX7_take_18 : decode cX7_take 18 = .ok (.iastore, 1) := by decide +kernel
theorem dX7_take_19 : decode cX7_take 19 = .ok (.aload_n 0, 1) := by decide +kernel
theorem dX7_take_20 : decode cX7_take 20 = .ok (.dup, 1) := by decide +kernel
theorem dX7_take_21 : decode cX7_take 21 = .ok (.getfield 21, 3) := by decide +kernel
theorem dX7_take_24 : decode cX7_take 24 = .ok (.iconst 1, 1) := by decide +kernel
theorem dX7_take_25 : decode cX7_take 25 = .ok (.iadd, 1) := by decide +kernel
theorem dX7_take_26 : decode cX7_take 26 = .ok (.putfield 21, 3) := by decide +kernel
theorem dX7_take_29 : decode cX7_take 29 = .ok (.aload_n 0, 1) := by decide +kernel
theorem dX7_take_30 : decode cX7_take 30 = .ok (.getfield 21, 3) := by decide +kernel
theorem dX7_take_33 : decode cX7_take 33 = .ok (.ireturn, 1) := by decide +kernel
theorem dX7_emptyTape_0 : decode cX7_emptyTape 0 = .ok (.aload_n 0, 1) := by decide +kernel
theorem dX7_emptyTape_1 : decode cX7_emptyTape 1 = .ok (.iconst 0, 1) := by decide +kernel
theorem dX7_emptyTape_2 : decode cX7_emptyTape 2 = .ok (.putfield 21, 3) := by decide +kernel
theorem dX7_emptyTape_5 : decode cX7_emptyTape 5 = .ok (.return_, 1) := by decide +kernel
theorem dX7_giveTo_0 : decode cX7_giveTo 0 = .ok (.aload_n 1, 1) := by decide +kernel
theorem dX7_giveTo_1 : decode cX7_giveTo 1 = .ok (.aload_n 0, 1) := by decide +kernel
theorem dX7_giveTo_2 : decode cX7_giveTo 2 = .ok (.getfield 15, 3) := by decide +kernel
theorem dX7_giveTo_5 : decode cX7_giveTo 5 = .ok (.aload_n 0, 1) := by decide +kernel
theorem dX7_giveTo_6 : decode cX7_giveTo 6 = .ok (.getfield 18, 3) := by decide +kernel
theorem dX7_giveTo_9 : decode cX7_giveTo 9 = .ok (.aload_n 0, 1) := by decide +kernel
theorem dX7_giveTo_10 : decode cX7_giveTo 10 = .ok (.getfield 28, 3) := by decide +kernel
theorem dX7_giveTo_13 : decode cX7_giveTo 13 = .ok (.invokevirtual 31, 3) := by decide +kernel
theorem dX7_giveTo_16 : decode cX7_giveTo 16 = .ok (.return_, 1) := by decide +kernel
theorem dX7_read_0 : decode cX7_read 0 = .ok (.aload_n 0, 1) := by decide +kernel
theorem dX7_read_1 : decode cX7_read 1 = .ok (.iconst 0, 1) := by decide +kernel
theorem dX7_read_2 : decode cX7_read 2 = .ok (.putfield 25, 3) := by decide +kernel
theorem dX7_read_5 : decode cX7_read 5 = .ok (.aload_n 0, 1) := by decide +kernel
theorem dX7_read_6 : decode cX7_read 6 = .ok (.iconst 0, 1) := by decide +kernel
theorem dX7_read_7 : decode cX7_read 7 = .ok (.putfield 28, 3) := by decide +kernel
theorem dX7_read_10 : decode cX7_read 10 = .ok (.aload_n 0, 1) := by decide +kernel
theorem dX7_read_11 : decode cX7_read 11 = .ok (.invokevirtual 35, 3) := by decide +kernel
theorem dX7_read_14 : decode cX7_read 14 = .ok (.istore_n 1, 1) := by decide +kernel
theorem dX7_read_15 : decode cX7_read 15 = .ok (.iconst 0, 1) := by decide +kernel
theorem dX7_read_16 : decode cX7_read 16 = .ok (.istore_n 2, 1) := by decide +kernel
theorem dX7_read_17 : decode cX7_read 17 = .ok (.iload_n 2, 1) := by decide +kernel
theorem dX7_read_18 : decode cX7_read 18 = .ok (.bipush 120, 2) := by decide +kernel
theorem dX7_read_20 : decode cX7_read 20 = .ok (.if_icmp .ge 46, 3) := by decide +kernel
theorem dX7_read_23 : decode cX7_read 23 = .ok (.iload_n 1, 1) := by decide +kernel
theorem dX7_read_24 : decode cX7_read 24 = .ok (.ifCond .eq 42, 3) := by decide +kernel
theorem dX7_read_27 : decode cX7_read 27 = .ok (.aload_n 0, 1) := by decide +kernel
theorem dX7_read_28 : decode cX7_read 28 = .ok (.getfield 25, 3) := by decide +kernel
theorem dX7_read_31 : decode cX7_read 31 = .ok (.aload_n 0, 1) := by decide +kernel
theorem dX7_read_32 : decode cX7_read 32 = .ok (.getfield 21, 3) := by decide +kernel
theorem dX7_read_35 : decode cX7_read 35 = .ok (.if_icmp .ge 31, 3) := by decide +kernel
theorem dX7_read_38 : decode cX7_read 38 = .ok (.aload_n 0, 1) := by decide +kernel
theorem dX7_read_39 : decode cX7_read 39 = .ok (.bipush 59, 2) := by decide +kernel
theorem dX7_read_41 : decode cX7_read 41 = .ok (.invokevirtual 39, 3) := by decide +kernel
theorem dX7_read_44 : decode cX7_read 44 = .ok (.ifCond .eq 14, 3) := by decide +kernel
theorem dX7_read_47 : decode cX7_read 47 = .ok (.aload_n 0, 1) := by decide +kernel
theorem dX7_read_48 : decode cX7_read 48 = .ok (.invokevirtual 35, 3) := by decide +kernel
theorem dX7_read_51 : decode cX7_read 51 = .ok (.ifCond .eq 7, 3) := by decide +kernel
theorem dX7_read_54 : decode cX7_read 54 = .ok (.iconst 1, 1) := by decide +kernel
theorem dX7_read_55 : decode cX7_read 55 = .ok (.goto 4, 3) := by decide +kernel
theorem dX7_read_58 : decode cX7_read 58 = .ok (.iconst 0, 1) := by decide +kernel
theorem dX7_read_59 : decode cX7_read 59 = .ok (.istore_n 1, 1) := by decide +kernel
theorem dX7_read_60 : decode cX7_read 60 = .ok (.iinc 2 1, 3) := by decide +kernel
theorem dX7_read_63 : decode cX7_read 63 = .ok (.goto (-46), 3) := by decide +kernel
theorem dX7_read_66 : decode cX7_read 66 = .ok (.iload_n 1, 1) := by decide +kernel
theorem dX7_read_67 : decode cX7_read 67 = .ok (.ifCond .eq 7, 3) := by decide +kernel
theorem dX7_read_70 : decode cX7_read 70 = .ok (.iconst (-1), 1) := by decide +kernel
theorem dX7_read_71 : decode cX7_read 71 = .ok (.goto 7, 3) := by decide +kernel
theorem dX7_read_74 : decode cX7_read 74 = .ok (.aload_n 0, 1) := by decide +kernel
theorem dX7_read_75 : decode cX7_read 75 = .ok (.getfield 25, 3) := by decide +kernel
theorem dX7_read_78 : decode cX7_read 78 = .ok (.ireturn, 1) := by decide +kernel
theorem dX7_readLine_0 : decode cX7_readLine 0 = .ok (.aload_n 0, 1) := by decide +kernel
theorem dX7_readLine_1 : decode cX7_readLine 1 = .ok (.iconst 0, 1) := by decide +kernel
theorem dX7_readLine_2 : decode cX7_readLine 2 = .ok (.iconst 0, 1) := by decide +kernel
theorem dX7_readLine_3 : decode cX7_readLine 3 = .ok (.invokevirtual 43, 3) := by decide +kernel
theorem dX7_readLine_6 : decode cX7_readLine 6 = .ok (.ifCond .ne 5, 3) := by decide +kernel
theorem dX7_readLine_9 : decode cX7_readLine 9 = .ok (.iconst 0, 1) := by decide +kernel
theorem dX7_readLine_10 : decode cX7_readLine 10 = .ok (.ireturn, 1) := by decide +kernel
theorem dX7_readLine_11 : decode cX7_readLine 11 = .ok (.aload_n 0, 1) := by decide +kernel
theorem dX7_readLine_12 : decode cX7_readLine 12 = .ok (.bipush 63, 2) := by decide +kernel
theorem dX7_readLine_14 : decode cX7_readLine 14 = .ok (.invokevirtual 39, 3) := by decide +kernel
theorem dX7_readLine_17 : decode cX7_readLine 17 = .ok (.ifCond .eq 47, 3) := by decide +kernel
theorem dX7_readLine_20 : decode cX7_readLine 20 = .ok (.aload_n 0, 1) := by decide +kernel
theorem dX7_readLine_21 : decode cX7_readLine 21 = .ok (.getfield 28, 3) := by decide +kernel
theorem dX7_readLine_24 : decode cX7_readLine 24 = .ok (.istore_n 1, 1) := by decide +kernel
theorem dX7_readLine_25 : decode cX7_readLine 25 = .ok (.aload_n 0, 1) := by decide +kernel
theorem dX7_readLine_26 : decode cX7_readLine 26 = .ok (.bipush 63, 2) := by decide +kernel
theorem dX7_readLine_28 : decode cX7_readLine 28 = .ok (.iconst 0, 1) := by decide +kernel
theorem dX7_readLine_29 : decode cX7_readLine 29 = .ok (.invokevirtual 47, 3) := by decide +kernel
theorem dX7_readLine_32 : decode cX7_readLine 32 = .ok (.aload_n 0, 1) := by decide +kernel
theorem dX7_readLine_33 : decode cX7_readLine 33 = .ok (.iconst 0, 1) := by decide +kernel
theorem dX7_readLine_34 : decode cX7_readLine 34 = .ok (.iconst 0, 1) := by decide +kernel
theorem dX7_readLine_35 : decode cX7_readLine 35 = .ok (.invokevirtual 43, 3) := by decide +kernel
theorem dX7_readLine_38 : decode cX7_readLine 38 = .ok (.ifCond .ne 5, 3) := by decide +kernel
theorem dX7_readLine_41 : decode cX7_readLine 41 = .ok (.iconst 0, 1) := by decide +kernel
theorem dX7_readLine_42 : decode cX7_readLine 42 = .ok (.ireturn, 1) := by decide +kernel
theorem dX7_readLine_43 : decode cX7_readLine 43 = .ok (.iload_n 1, 1) := by decide +kernel
theorem dX7_readLine_44 : decode cX7_readLine 44 = .ok (.aload_n 0, 1) := by decide +kernel
theorem dX7_readLine_45 : decode cX7_readLine 45 = .ok (.getfield 18, 3) := by decide +kernel
theorem dX7_readLine_48 : decode cX7_readLine 48 = .ok (.arraylength, 1) := by decide +kernel
theorem dX7_readLine_49 : decode cX7_readLine 49 = .ok (.if_icmp .ge 15, 3) := by decide +kernel
theorem dX7_readLine_52 : decode cX7_readLine 52 = .ok (.aload_n 0, 1) := by decide +kernel
theorem dX7_readLine_53 : decode cX7_readLine 53 = .ok (.getfield 18, 3) := by decide +kernel
theorem dX7_readLine_56 : decode cX7_readLine 56 = .ok (.iload_n 1, 1) := by decide +kernel
theorem dX7_readLine_57 : decode cX7_readLine 57 = .ok (.aload_n 0, 1) := by decide +kernel
theorem dX7_readLine_58 : decode cX7_readLine 58 = .ok (.getfield 28, 3) := by decide +kernel
theorem dX7_readLine_61 : decode cX7_readLine 61 = .ok (.iconst 1, 1) := by decide +kernel
theorem dX7_readLine_62 : decode cX7_readLine 62 = .ok (.iadd, 1) := by decide +kernel
theorem dX7_readLine_63 : decode cX7_readLine 63 = .ok (.iastore, 1) := by decide +kernel
theorem dX7_readLine_64 : decode cX7_readLine 64 = .ok (.aload_n 0, 1) := by decide +kernel
theorem dX7_readLine_65 : decode cX7_readLine 65 = .ok (.bipush 59, 2) := by decide +kernel
theorem dX7_readLine_67 : decode cX7_readLine 67 = .ok (.iconst 0, 1) := by decide +kernel
theorem dX7_readLine_68 : decode cX7_readLine 68 = .ok (.invokevirtual 47, 3) := by decide +kernel
theorem dX7_readLine_71 : decode cX7_readLine 71 = .ok (.iconst 1, 1) := by decide +kernel
theorem dX7_readLine_72 : decode cX7_readLine 72 = .ok (.ireturn, 1) := by decide +kernel
theorem dX7_readJoined_0 : decode cX7_readJoined 0 = .ok (.aload_n 0, 1) := by decide +kernel
theorem dX7_readJoined_1 : decode cX7_readJoined 1 = .ok (.iload_n 1, 1) := by decide +kernel
theorem dX7_readJoined_2 : decode cX7_readJoined 2 = .ok (.iload_n 2, 1) := by decide +kernel
theorem dX7_readJoined_3 : decode cX7_readJoined 3 = .ok (.invokevirtual 51, 3) := by decide +kernel
theorem dX7_readJoined_6 : decode cX7_readJoined 6 = .ok (.istore_n 3, 1) := by decide +kernel
theorem dX7_readJoined_7 : decode cX7_readJoined 7 = .ok (.iload_n 1, 1) := by decide +kernel
theorem dX7_readJoined_8 : decode cX7_readJoined 8 = .ok (.iconst 2, 1) := by decide +kernel
theorem dX7_readJoined_9 : decode cX7_readJoined 9 = .ok (.if_icmp .ne 7, 3) := by decide +kernel
theorem dX7_readJoined_12 : decode cX7_readJoined 12 = .ok (.iconst 1, 1) := by decide +kernel
theorem dX7_readJoined_13 : decode cX7_readJoined 13 = .ok (.goto 5, 3) := by decide +kernel
theorem dX7_readJoined_16 : decode cX7_readJoined 16 = .ok (.bipush 120, 2) := by decide +kernel
theorem dX7_readJoined_18 : decode cX7_readJoined 18 = .ok (.istore 4, 2) := by decide +kernel
theorem dX7_readJoined_20 : decode cX7_readJoined 20 = .ok (.iconst 0, 1) := by decide +kernel
theorem dX7_readJoined_21 : decode cX7_readJoined 21 = .ok (.istore 5, 2) := by decide +kernel
theorem dX7_readJoined_23 : decode cX7_readJoined 23 = .ok (.iload 5, 2) := by decide +kernel
theorem dX7_readJoined_25 : decode cX7_readJoined 25 = .ok (.iload 4, 2) := by decide +kernel
theorem dX7_readJoined_27 : decode cX7_readJoined 27 = .ok (.if_icmp .ge 54, 3) := by decide +kernel
theorem dX7_readJoined_30 : decode cX7_readJoined 30 = .ok (.iload_n 3, 1) := by decide +kernel
theorem dX7_readJoined_31 : decode cX7_readJoined 31 = .ok (.ifCond .eq 50, 3) := by decide +kernel
theorem dX7_readJoined_34 : decode cX7_readJoined 34 = .ok (.iload_n 1, 1) := by decide +kernel
theorem dX7_readJoined_35 : decode cX7_readJoined 35 = .ok (.aload_n 0, 1) := by decide +kernel
theorem dX7_readJoined_36 : decode cX7_readJoined 36 = .ok (.invokevirtual 54, 3) := by decide +kernel
theorem dX7_readJoined_39 : decode cX7_readJoined 39 = .ok (.invokestatic 58, 3) := by decide +kernel
theorem dX7_readJoined_42 : decode cX7_readJoined 42 = .ok (.ifCond .eq 39, 3) := by decide +kernel
theorem dX7_readJoined_45 : decode cX7_readJoined 45 = .ok (.aload_n 0, 1) := by decide +kernel
theorem dX7_readJoined_46 : decode cX7_readJoined 46 = .ok (.invokevirtual 54, 3) := by decide +kernel
theorem dX7_readJoined_49 : decode cX7_readJoined 49 = .ok (.istore 6, 2) := by decide +kernel
theorem dX7_readJoined_51 : decode cX7_readJoined 51 = .ok (.aload_n 0, 1) := by decide +kernel
theorem dX7_readJoined_52 : decode cX7_readJoined 52 = .ok (.dup, 1) := by decide +kernel
theorem dX7_readJoined_53 : decode cX7_readJoined 53 = .ok (.getfield 25, 3) := by decide +kernel
theorem dX7_readJoined_56 : decode cX7_readJoined 56 = .ok (.iconst 1, 1) := by decide +kernel
theorem dX7_readJoined_57 : decode cX7_readJoined 57 = .ok (.iadd, 1) := by decide +kernel
theorem dX7_readJoined_58 : decode cX7_readJoined 58 = .ok (.putfield 25, 3) := by decide +kernel
theorem dX7_readJoined_61 : decode cX7_readJoined 61 = .ok (.aload_n 0, 1) := by decide +kernel
theorem dX7_readJoined_62 : decode cX7_readJoined 62 = .ok (.iload_n 1, 1) := by decide +kernel
theorem dX7_readJoined_63 : decode cX7_readJoined 63 = .ok (.iload_n 2, 1) := by decide +kernel
theorem dX7_readJoined_64 : decode cX7_readJoined 64 = .ok (.invokevirtual 51, 3) := by decide +kernel
theorem dX7_readJoined_67 : decode cX7_readJoined 67 = .ok (.istore_n 3, 1) := by decide +kernel
theorem dX7_readJoined_68 : decode cX7_readJoined 68 = .ok (.aload_n 0, 1) := by decide +kernel
theorem dX7_readJoined_69 : decode cX7_readJoined 69 = .ok (.iload 6, 2) := by decide +kernel
theorem dX7_readJoined_71 : decode cX7_readJoined 71 = .ok (.iconst 0, 1) := by decide +kernel
theorem dX7_readJoined_72 : decode cX7_readJoined 72 = .ok (.invokevirtual 47, 3) := by decide +kernel
theorem dX7_readJoined_75 : decode cX7_readJoined 75 = .ok (.iinc 5 1, 3) := by decide +kernel
theorem dX7_readJoined_78 : decode cX7_readJoined 78 = .ok (.goto (-55), 3) := by decide +kernel
theorem dX7_readJoined_81 : decode cX7_readJoined 81 = .ok (.iload_n 3, 1) := by decide +kernel
theorem dX7_readJoined_82 : decode cX7_readJoined 82 = .ok (.ireturn, 1) := by decide +kernel
theorem dX7_readTighter_0 : decode cX7_readTighter 0 = .ok (.iload_n 1, 1) := by decide +kernel
theorem dX7_readTighter_1 : decode cX7_readTighter 1 = .ok (.iconst 4, 1) := by decide +kernel
theorem dX7_readTighter_2 : decode cX7_readTighter 2 = .ok (.if_icmp .ge 14, 3) := by decide +kernel
theorem dX7_readTighter_5 : decode cX7_readTighter 5 = .ok (.aload_n 0, 1) := by decide +kernel
theorem dX7_readTighter_6 : decode cX7_readTighter 6 = .ok (.iload_n 1, 1) := by decide +kernel
theorem dX7_readTighter_7 : decode cX7_readTighter 7 = .ok (.iconst 1, 1) := by decide +kernel
theorem dX7_readTighter_8 : decode cX7_readTighter 8 = .ok (.iadd, 1) := by decide +kernel
theorem dX7_readTighter_9 : decode cX7_readTighter 9 = .ok (.iload_n 2, 1) := by decide +kernel
theorem dX7_readTighter_10 : decode cX7_readTighter 10 = .ok (.invokevirtual 43, 3) := by decide +kernel
theorem dX7_readTighter_13 : decode cX7_readTighter 13 = .ok (.goto 8, 3) := by decide +kernel
theorem dX7_readTighter_16 : decode cX7_readTighter 16 = .ok (.aload_n 0, 1) := by decide +kernel
theorem dX7_readTighter_17 : decode cX7_readTighter 17 = .ok (.iload_n 2, 1) := by decide +kernel
theorem dX7_readTighter_18 : decode cX7_readTighter 18 = .ok (.invokevirtual 61, 3) := by decide +kernel
theorem dX7_readTighter_21 : decode cX7_readTighter 21 = .ok (.ireturn, 1) := by decide +kernel
theorem dX7_readOperand_0 : decode cX7_readOperand 0 = .ok (.aload_n 0, 1) := by decide +kernel
theorem dX7_readOperand_1 : decode cX7_readOperand 1 = .ok (.invokevirtual 54, 3) := by decide +kernel
theorem dX7_readOperand_4 : decode cX7_readOperand 4 = .ok (.istore_n 2, 1) := by decide +kernel
theorem dX7_readOperand_5 : decode cX7_readOperand 5 = .ok (.iload_n 2, 1) := by decide +kernel
theorem dX7_readOperand_6 : decode cX7_readOperand 6 = .ok (.bipush 40, 2) := by decide +kernel
theorem dX7_readOperand_8 : decode cX7_readOperand 8 = .ok (.if_icmp .eq 15, 3) := by decide +kernel
theorem dX7_readOperand_11 : decode cX7_readOperand 11 = .ok (.iload_n 2, 1) := by decide +kernel
theorem dX7_readOperand_12 : decode cX7_readOperand 12 = .ok (.bipush 33, 2) := by decide +kernel
theorem dX7_readOperand_14 : decode cX7_readOperand 14 = .ok (.if_icmp .eq 9, 3) := by decide +kernel
theorem dX7_readOperand_17 : decode cX7_readOperand 17 = .ok (.iload_n 2, 1) := by decide +kernel
theorem dX7_readOperand_18 : decode cX7_readOperand 18 = .ok (.bipush 45, 2) := by decide +kernel
theorem dX7_readOperand_20 : decode cX7_readOperand 20 = .ok (.if_icmp .ne 26, 3) := by decide +kernel
theorem dX7_readOperand_23 : decode cX7_readOperand 23 = .ok (.iload_n 1, 1) := by decide +kernel
theorem dX7_readOperand_24 : decode cX7_readOperand 24 = .ok (.bipush 6, 2) := by decide +kernel
theorem dX7_readOperand_26 : decode cX7_readOperand 26 = .ok (.if_icmp .ge 18, 3) := by decide +kernel
theorem dX7_readOperand_29 : decode cX7_readOperand 29 = .ok (.aload_n 0, 1) := by decide +kernel
theorem dX7_readOperand_30 : decode cX7_readOperand 30 = .ok (.iload_n 2, 1) := by decide +kernel
theorem dX7_readOperand_31 : decode cX7_readOperand 31 = .ok (.iload_n 1, 1) := by decide +kernel
theorem dX7_readOperand_32 : decode cX7_readOperand 32 = .ok (.iconst 1, 1) := by decide +kernel
theorem dX7_readOperand_33 : decode cX7_readOperand 33 = .ok (.iadd, 1) := by decide +kernel
theorem dX7_readOperand_34 : decode cX7_readOperand 34 = .ok (.invokevirtual 64, 3) := by decide +kernel
theorem dX7_readOperand_37 : decode cX7_readOperand 37 = .ok (.ifCond .eq 7, 3) := by decide +kernel
theorem dX7_readOperand_40 : decode cX7_readOperand 40 = .ok (.iconst 1, 1) := by decide +kernel
theorem dX7_readOperand_41 : decode cX7_readOperand 41 = .ok (.goto 4, 3) := by decide +kernel
theorem dX7_readOperand_44 : decode cX7_readOperand 44 = .ok (.iconst 0, 1) := by decide +kernel
theorem dX7_readOperand_45 : decode cX7_readOperand 45 = .ok (.ireturn, 1) := by decide +kernel
theorem dX7_readOperand_46 : decode cX7_readOperand 46 = .ok (.iload_n 2, 1) := by decide +kernel
theorem dX7_readOperand_47 : decode cX7_readOperand 47 = .ok (.invokestatic 67, 3) := by decide +kernel
theorem dX7_readOperand_50 : decode cX7_readOperand 50 = .ok (.ifCond .eq 9, 3) := by decide +kernel
theorem dX7_readOperand_53 : decode cX7_readOperand 53 = .ok (.aload_n 0, 1) := by decide +kernel
theorem dX7_readOperand_54 : decode cX7_readOperand 54 = .ok (.invokevirtual 70, 3) := by decide +kernel
theorem dX7_readOperand_57 : decode cX7_readOperand 57 = .ok (.iconst 1, 1) := by decide +kernel
theorem dX7_readOperand_58 : decode cX7_readOperand 58 = .ok (.ireturn, 1) := by decide +kernel
theorem dX7_readOperand_59 : decode cX7_readOperand 59 = .ok (.iload_n 2, 1) := by decide +kernel
theorem dX7_readOperand_60 : decode cX7_readOperand 60 = .ok (.ifCond .ge 7, 3) := by decide +kernel
theorem dX7_readOperand_63 : decode cX7_readOperand 63 = .ok (.iconst (-1), 1) := by decide +kernel
theorem dX7_readOperand_64 : decode cX7_readOperand 64 = .ok (.goto 10, 3) := by decide +kernel
theorem dX7_readOperand_67 : decode cX7_readOperand 67 = .ok (.ldc 73, 2) := by decide +kernel
theorem dX7_readOperand_69 : decode cX7_readOperand 69 = .ok (.iload_n 2, 1) := by decide +kernel
theorem dX7_readOperand_70 : decode cX7_readOperand 70 = .ok (.i2c, 1) := by decide +kernel
theorem dX7_readOperand_71 : decode cX7_readOperand 71 = .ok (.invokevirtual 75, 3) := by decide +kernel
theorem dX7_readOperand_74 : decode cX7_readOperand 74 = .ok (.istore_n 3, 1) := by decide +kernel
theorem dX7_readOperand_75 : decode cX7_readOperand 75 = .ok (.iload_n 3, 1) := by decide +kernel
theorem dX7_readOperand_76 : decode cX7_readOperand 76 = .ok (.ifCond .ge 5, 3) := by decide +kernel
theorem dX7_readOperand_79 : decode cX7_readOperand 79 = .ok (.iconst 0, 1) := by decide +kernel
theorem dX7_readOperand_80 : decode cX7_readOperand 80 = .ok (.ireturn, 1) := by decide +kernel
theorem dX7_readOperand_81 : decode cX7_readOperand 81 = .ok (.aload_n 0, 1) := by decide +kernel
theorem dX7_readOperand_82 : decode cX7_readOperand 82 = .ok (.dup, 1) := by decide +kernel
theorem dX7_readOperand_83 : decode cX7_readOperand 83 = .ok (.getfield 25, 3) := by decide +kernel
theorem dX7_readOperand_86 : decode cX7_readOperand 86 = .ok (.iconst 1, 1) := by decide +kernel
theorem dX7_readOperand_87 : decode cX7_readOperand 87 = .ok (.iadd, 1) := by decide +kernel
theorem dX7_readOperand_88 : decode cX7_readOperand 88 = .ok (.putfield 25, 3) := by decide +kernel
theorem dX7_readOperand_91 : decode cX7_readOperand 91 = .ok (.aload_n 0, 1) := by decide +kernel
theorem dX7_readOperand_92 : decode cX7_readOperand 92 = .ok (.bipush 97, 2) := by decide +kernel
theorem dX7_readOperand_94 : decode cX7_readOperand 94 = .ok (.iload_n 3, 1) := by decide +kernel
theorem dX7_readOperand_95 : decode cX7_readOperand 95 = .ok (.invokevirtual 47, 3) := by decide +kernel
theorem dX7_readOperand_98 : decode cX7_readOperand 98 = .ok (.iconst 1, 1) := by decide +kernel
theorem dX7_readOperand_99 : decode cX7_readOperand 99 = .ok (.ireturn, 1) := by decide +kernel
theorem dX7_readOpened_0 : decode cX7_readOpened 0 = .ok (.aload_n 0, 1) := by decide +kernel
theorem dX7_readOpened_1 : decode cX7_readOpened 1 = .ok (.dup, 1) := by decide +kernel
theorem dX7_readOpened_2 : decode cX7_readOpened 2 = .ok (.getfield 25, 3) := by decide +kernel
theorem dX7_readOpened_5 : decode cX7_readOpened 5 = .ok (.iconst 1, 1) := by decide +kernel
theorem dX7_readOpened_6 : decode cX7_readOpened 6 = .ok (.iadd, 1) := by decide +kernel
theorem dX7_readOpened_7 : decode cX7_readOpened 7 = .ok (.putfield 25, 3) := by decide +kernel
theorem dX7_readOpened_10 : decode cX7_readOpened 10 = .ok (.iload_n 1, 1) := by decide +kernel
theorem dX7_readOpened_11 : decode cX7_readOpened 11 = .ok (.bipush 40, 2) := by decide +kernel
theorem dX7_readOpened_13 : decode cX7_readOpened 13 = .ok (.if_icmp .ne 27, 3) := by decide +kernel
theorem dX7_readOpened_16 : decode cX7_readOpened 16 = .ok (.aload_n 0, 1) := by decide +kernel
theorem dX7_readOpened_17 : decode cX7_readOpened 17 = .ok (.iconst 0, 1) := by decide +kernel
theorem dX7_readOpened_18 : decode cX7_readOpened 18 = .ok (.iload_n 2, 1) := by decide +kernel
theorem dX7_readOpened_19 : decode cX7_readOpened 19 = .ok (.invokevirtual 43, 3) := by decide +kernel
theorem dX7_readOpened_22 : decode cX7_readOpened 22 = .ok (.ifCond .eq 16, 3) := by decide +kernel
theorem dX7_readOpened_25 : decode cX7_readOpened 25 = .ok (.aload_n 0, 1) := by decide +kernel
theorem dX7_readOpened_26 : decode cX7_readOpened 26 = .ok (.bipush 41, 2) := by decide +kernel
theorem dX7_readOpened_28 : decode cX7_readOpened 28 = .ok (.invokevirtual 39, 3) := by decide +kernel
theorem dX7_readOpened_31 : decode cX7_readOpened 31 = .ok (.ifCond .eq 7, 3) := by decide +kernel
theorem dX7_readOpened_34 : decode cX7_readOpened 34 = .ok (.iconst 1, 1) := by decide +kernel
theorem dX7_readOpened_35 : decode cX7_readOpened 35 = .ok (.goto 4, 3) := by decide +kernel
theorem dX7_readOpened_38 : decode cX7_readOpened 38 = .ok (.iconst 0, 1) := by decide +kernel
theorem dX7_readOpened_39 : decode cX7_readOpened 39 = .ok (.ireturn, 1) := by decide +kernel
theorem dX7_readOpened_40 : decode cX7_readOpened 40 = .ok (.aload_n 0, 1) := by decide +kernel
theorem dX7_readOpened_41 : decode cX7_readOpened 41 = .ok (.iload_n 2, 1) := by decide +kernel
theorem dX7_readOpened_42 : decode cX7_readOpened 42 = .ok (.invokevirtual 61, 3) := by decide +kernel
theorem dX7_readOpened_45 : decode cX7_readOpened 45 = .ok (.istore_n 3, 1) := by decide +kernel
theorem dX7_readOpened_46 : decode cX7_readOpened 46 = .ok (.aload_n 0, 1) := by decide +kernel
theorem dX7_readOpened_47 : decode cX7_readOpened 47 = .ok (.iload_n 1, 1) := by decide +kernel
theorem dX7_readOpened_48 : decode cX7_readOpened 48 = .ok (.bipush 45, 2) := by decide +kernel
theorem dX7_readOpened_50 : decode cX7_readOpened 50 = .ok (.if_icmp .ne 8, 3) := by decide +kernel
theorem dX7_readOpened_53 : decode cX7_readOpened 53 = .ok (.bipush 110, 2) := by decide +kernel
theorem dX7_readOpened_55 : decode cX7_readOpened 55 = .ok (.goto 4, 3) := by decide +kernel
theorem dX7_readOpened_58 : decode cX7_readOpened 58 = .ok (.iload_n 1, 1) := by decide +kernel
theorem dX7_readOpened_59 : decode cX7_readOpened 59 = .ok (.iconst 0, 1) := by decide +kernel
theorem dX7_readOpened_60 : decode cX7_readOpened 60 = .ok (.invokevirtual 47, 3) := by decide +kernel
theorem dX7_readOpened_63 : decode cX7_readOpened 63 = .ok (.iload_n 3, 1) := by decide +kernel
theorem dX7_readOpened_64 : decode cX7_readOpened 64 = .ok (.ireturn, 1) := by decide +kernel
theorem dX7_readNumber_0 : decode cX7_readNumber 0 = .ok (.iconst 0, 1) := by decide +kernel
theorem dX7_readNumber_1 : decode cX7_readNumber 1 = .ok (.istore_n 1, 1) := by decide +kernel
theorem dX7_readNumber_2 : decode cX7_readNumber 2 = .ok (.iconst 0, 1) := by decide +kernel
theorem dX7_readNumber_3 : decode cX7_readNumber 3 = .ok (.istore_n 2, 1) := by decide +kernel
theorem dX7_readNumber_4 : decode cX7_readNumber 4 = .ok (.iload_n 2, 1) := by decide +kernel
theorem dX7_readNumber_5 : decode cX7_readNumber 5 = .ok (.iconst 4, 1) := by decide +kernel
theorem dX7_readNumber_6 : decode cX7_readNumber 6 = .ok (.if_icmp .ge 42, 3) := by decide +kernel
theorem dX7_readNumber_9 : decode cX7_readNumber 9 = .ok (.aload_n 0, 1) := by decide +kernel
theorem dX7_readNumber_10 : decode cX7_readNumber 10 = .ok (.invokevirtual 54, 3) := by decide +kernel
theorem dX7_readNumber_13 : decode cX7_readNumber 13 = .ok (.invokestatic 67, 3) := by decide +kernel
theorem dX7_readNumber_16 : decode cX7_readNumber 16 = .ok (.ifCond .eq 32, 3) := by decide +kernel
theorem dX7_readNumber_19 : decode cX7_readNumber 19 = .ok (.iload_n 1, 1) := by decide +kernel
theorem dX7_readNumber_20 : decode cX7_readNumber 20 = .ok (.bipush 10, 2) := by decide +kernel
theorem dX7_readNumber_22 : decode cX7_readNumber 22 = .ok (.imul, 1) := by decide +kernel
theorem dX7_readNumber_23 : decode cX7_readNumber 23 = .ok (.aload_n 0, 1) := by decide +kernel
theorem dX7_readNumber_24 : decode cX7_readNumber 24 = .ok (.invokevirtual 54, 3) := by decide +kernel
theorem dX7_readNumber_27 : decode cX7_readNumber 27 = .ok (.iadd, 1) := by decide +kernel
theorem dX7_readNumber_28 : decode cX7_readNumber 28 = .ok (.bipush 48, 2) := by decide +kernel
theorem dX7_readNumber_30 : decode cX7_readNumber 30 = .ok (.isub, 1) := by decide +kernel
theorem dX7_readNumber_31 : decode cX7_readNumber 31 = .ok (.istore_n 1, 1) := by decide +kernel
theorem dX7_readNumber_32 : decode cX7_readNumber 32 = .ok (.aload_n 0, 1) := by decide +kernel
theorem dX7_readNumber_33 : decode cX7_readNumber 33 = .ok (.dup, 1) := by decide +kernel
theorem dX7_readNumber_34 : decode cX7_readNumber 34 = .ok (.getfield 25, 3) := by decide +kernel
theorem dX7_readNumber_37 : decode cX7_readNumber 37 = .ok (.iconst 1, 1) := by decide +kernel
theorem dX7_readNumber_38 : decode cX7_readNumber 38 = .ok (.iadd, 1) := by decide +kernel
theorem dX7_readNumber_39 : decode cX7_readNumber 39 = .ok (.putfield 25, 3) := by decide +kernel
theorem dX7_readNumber_42 : decode cX7_readNumber 42 = .ok (.iinc 2 1, 3) := by decide +kernel
theorem dX7_readNumber_45 : decode cX7_readNumber 45 = .ok (.goto (-41), 3) := by decide +kernel
theorem dX7_readNumber_48 : decode cX7_readNumber 48 = .ok (.aload_n 0, 1) := by decide +kernel
theorem dX7_readNumber_49 : decode cX7_readNumber 49 = .ok (.bipush 48, 2) := by decide +kernel
theorem dX7_readNumber_51 : decode cX7_readNumber 51 = .ok (.iload_n 1, 1) := by decide +kernel
theorem dX7_readNumber_52 : decode cX7_readNumber 52 = .ok (.invokevirtual 47, 3) := by decide +kernel
theorem dX7_readNumber_55 : decode cX7_readNumber 55 = .ok (.return_, 1) := by decide +kernel
theorem dX7_isOperator_0 : decode cX7_isOperator 0 = .ok (.iload_n 0, 1) := by decide +kernel
theorem dX7_isOperator_1 : decode cX7_isOperator 1 = .ok (.tableswitch 125 0 4 #[35, 47, 59, 83, 101], 35) := by decide +kernel
theorem dX7_isOperator_36 : decode cX7_isOperator 36 = .ok (.iload_n 1, 1) := by decide +kernel
theorem dX7_isOperator_37 : decode cX7_isOperator 37 = .ok (.bipush 124, 2) := by decide +kernel
theorem dX7_isOperator_39 : decode cX7_isOperator 39 = .ok (.if_icmp .ne 7, 3) := by decide +kernel
theorem dX7_isOperator_42 : decode cX7_isOperator 42 = .ok (.iconst 1, 1) := by decide +kernel
theorem dX7_isOperator_43 : decode cX7_isOperator 43 = .ok (.goto 4, 3) := by decide +kernel
theorem dX7_isOperator_46 : decode cX7_isOperator 46 = .ok (.iconst 0, 1) := by decide +kernel
theorem dX7_isOperator_47 : decode cX7_isOperator 47 = .ok (.ireturn, 1) := by decide +kernel
theorem dX7_isOperator_48 : decode cX7_isOperator 48 = .ok (.iload_n 1, 1) := by decide +kernel
theorem dX7_isOperator_49 : decode cX7_isOperator 49 = .ok (.bipush 38, 2) := by decide +kernel
theorem dX7_isOperator_51 : decode cX7_isOperator 51 = .ok (.if_icmp .ne 7, 3) := by decide +kernel
theorem dX7_isOperator_54 : decode cX7_isOperator 54 = .ok (.iconst 1, 1) := by decide +kernel
theorem dX7_isOperator_55 : decode cX7_isOperator 55 = .ok (.goto 4, 3) := by decide +kernel
theorem dX7_isOperator_58 : decode cX7_isOperator 58 = .ok (.iconst 0, 1) := by decide +kernel
theorem dX7_isOperator_59 : decode cX7_isOperator 59 = .ok (.ireturn, 1) := by decide +kernel
theorem dX7_isOperator_60 : decode cX7_isOperator 60 = .ok (.iload_n 1, 1) := by decide +kernel
theorem dX7_isOperator_61 : decode cX7_isOperator 61 = .ok (.bipush 60, 2) := by decide +kernel
theorem dX7_isOperator_63 : decode cX7_isOperator 63 = .ok (.if_icmp .eq 15, 3) := by decide +kernel
theorem dX7_isOperator_66 : decode cX7_isOperator 66 = .ok (.iload_n 1, 1) := by decide +kernel
theorem dX7_isOperator_67 : decode cX7_isOperator 67 = .ok (.bipush 61, 2) := by decide +kernel
theorem dX7_isOperator_69 : decode cX7_isOperator 69 = .ok (.if_icmp .eq 9, 3) := by decide +kernel
theorem dX7_isOperator_72 : decode cX7_isOperator 72 = .ok (.iload_n 1, 1) := by decide +kernel
theorem dX7_isOperator_73 : decode cX7_isOperator 73 = .ok (.bipush 62, 2) := by decide +kernel
theorem dX7_isOperator_75 : decode cX7_isOperator 75 = .ok (.if_icmp .ne 7, 3) := by decide +kernel
theorem dX7_isOperator_78 : decode cX7_isOperator 78 = .ok (.iconst 1, 1) := by decide +kernel
theorem dX7_isOperator_79 : decode cX7_isOperator 79 = .ok (.goto 4, 3) := by decide +kernel
theorem dX7_isOperator_82 : decode cX7_isOperator 82 = .ok (.iconst 0, 1) := by decide +kernel
theorem dX7_isOperator_83 : decode cX7_isOperator 83 = .ok (.ireturn, 1) := by decide +kernel
theorem dX7_isOperator_84 : decode cX7_isOperator 84 = .ok (.iload_n 1, 1) := by decide +kernel
theorem dX7_isOperator_85 : decode cX7_isOperator 85 = .ok (.bipush 43, 2) := by decide +kernel
theorem dX7_isOperator_87 : decode cX7_isOperator 87 = .ok (.if_icmp .eq 9, 3) := by decide +kernel
theorem dX7_isOperator_90 : decode cX7_isOperator 90 = .ok (.iload_n 1, 1) := by decide +kernel
theorem dX7_isOperator_91 : decode cX7_isOperator 91 = .ok (.bipush 45, 2) := by decide +kernel
theorem dX7_isOperator_93 : decode cX7_isOperator 93 = .ok (.if_icmp .ne 7, 3) := by decide +kernel
theorem dX7_isOperator_96 : decode cX7_isOperator 96 = .ok (.iconst 1, 1) := by decide +kernel
theorem dX7_isOperator_97 : decode cX7_isOperator 97 = .ok (.goto 4, 3) := by decide +kernel
theorem dX7_isOperator_100 : decode cX7_isOperator 100 = .ok (.iconst 0, 1) := by decide +kernel
theorem dX7_isOperator_101 : decode cX7_isOperator 101 = .ok (.ireturn, 1) := by decide +kernel
theorem dX7_isOperator_102 : decode cX7_isOperator 102 = .ok (.iload_n 1, 1) := by decide +kernel
theorem dX7_isOperator_103 : decode cX7_isOperator 103 = .ok (.bipush 42, 2) := by decide +kernel
theorem dX7_isOperator_105 : decode cX7_isOperator 105 = .ok (.if_icmp .eq 15, 3) := by decide +kernel
theorem dX7_isOperator_108 : decode cX7_isOperator 108 = .ok (.iload_n 1, 1) := by decide +kernel
theorem dX7_isOperator_109 : decode cX7_isOperator 109 = .ok (.bipush 47, 2) := by decide +kernel
theorem dX7_isOperator_111 : decode cX7_isOperator 111 = .ok (.if_icmp .eq 9, 3) := by decide +kernel
theorem dX7_isOperator_114 : decode cX7_isOperator 114 = .ok (.iload_n 1, 1) := by decide +kernel
theorem dX7_isOperator_115 : decode cX7_isOperator 115 = .ok (.bipush 37, 2) := by decide +kernel
theorem dX7_isOperator_117 : decode cX7_isOperator 117 = .ok (.if_icmp .ne 7, 3) := by decide +kernel
theorem dX7_isOperator_120 : decode cX7_isOperator 120 = .ok (.iconst 1, 1) := by decide +kernel
theorem dX7_isOperator_121 : decode cX7_isOperator 121 = .ok (.goto 4, 3) := by decide +kernel
theorem dX7_isOperator_124 : decode cX7_isOperator 124 = .ok (.iconst 0, 1) := by decide +kernel
theorem dX7_isOperator_125 : decode cX7_isOperator 125 = .ok (.ireturn, 1) := by decide +kernel
theorem dX7_isOperator_126 : decode cX7_isOperator 126 = .ok (.iconst 0, 1) := by decide +kernel
theorem dX7_isOperator_127 : decode cX7_isOperator 127 = .ok (.ireturn, 1) := by decide +kernel
theorem dX7_isDigit_0 : decode cX7_isDigit 0 = .ok (.bipush 48, 2) := by decide +kernel
theorem dX7_isDigit_2 : decode cX7_isDigit 2 = .ok (.iload_n 0, 1) := by decide +kernel
theorem dX7_isDigit_3 : decode cX7_isDigit 3 = .ok (.if_icmp .gt 13, 3) := by decide +kernel
theorem dX7_isDigit_6 : decode cX7_isDigit 6 = .ok (.iload_n 0, 1) := by decide +kernel
theorem dX7_isDigit_7 : decode cX7_isDigit 7 = .ok (.bipush 57, 2) := by decide +kernel
theorem dX7_isDigit_9 : decode cX7_isDigit 9 = .ok (.if_icmp .gt 7, 3) := by decide +kernel
theorem dX7_isDigit_12 : decode cX7_isDigit 12 = .ok (.iconst 1, 1) := by decide +kernel
theorem dX7_isDigit_13 : decode cX7_isDigit 13 = .ok (.goto 4, 3) := by decide +kernel
theorem dX7_isDigit_16 : decode cX7_isDigit 16 = .ok (.iconst 0, 1) := by decide +kernel
theorem dX7_isDigit_17 : decode cX7_isDigit 17 = .ok (.ireturn, 1) := by decide +kernel
theorem dX7_seen_0 : decode cX7_seen 0 = .ok (.iconst 0, 1) := by decide +kernel
theorem dX7_seen_1 : decode cX7_seen 1 = .ok (.aload_n 0, 1) := by decide +kernel
theorem dX7_seen_2 : decode cX7_seen 2 = .ok (.getfield 25, 3) := by decide +kernel
theorem dX7_seen_5 : decode cX7_seen 5 = .ok (.if_icmp .gt 35, 3) := by decide +kernel
theorem dX7_seen_8 : decode cX7_seen 8 = .ok (.aload_n 0, 1) := by decide +kernel
theorem dX7_seen_9 : decode cX7_seen 9 = .ok (.getfield 25, 3) := by decide +kernel
theorem dX7_seen_12 : decode cX7_seen 12 = .ok (.aload_n 0, 1) := by decide +kernel
theorem dX7_seen_13 : decode cX7_seen 13 = .ok (.getfield 21, 3) := by decide +kernel
theorem dX7_seen_16 : decode cX7_seen 16 = .ok (.if_icmp .ge 24, 3) := by decide +kernel
theorem dX7_seen_19 : decode cX7_seen 19 = .ok (.aload_n 0, 1) := by decide +kernel
theorem dX7_seen_20 : decode cX7_seen 20 = .ok (.getfield 25, 3) := by decide +kernel
theorem dX7_seen_23 : decode cX7_seen 23 = .ok (.bipush 120, 2) := by decide +kernel
theorem dX7_seen_25 : decode cX7_seen 25 = .ok (.if_icmp .ge 15, 3) := by decide +kernel
theorem dX7_seen_28 : decode cX7_seen 28 = .ok (.aload_n 0, 1) := by decide +kernel
theorem dX7_seen_29 : decode cX7_seen 29 = .ok (.getfield 9, 3) := by decide +kernel
theorem dX7_seen_32 : decode cX7_seen 32 = .ok (.aload_n 0, 1) := by decide +kernel
theorem dX7_seen_33 : decode cX7_seen 33 = .ok (.getfield 25, 3) := by decide +kernel
theorem dX7_seen_36 : decode cX7_seen 36 = .ok (.iaload, 1) := by decide +kernel
theorem dX7_seen_37 : decode cX7_seen 37 = .ok (.goto 4, 3) := by decide +kernel
theorem dX7_seen_40 : decode cX7_seen 40 = .ok (.iconst (-1), 1) := by decide +kernel
theorem dX7_seen_41 : decode cX7_seen 41 = .ok (.ireturn, 1) := by decide +kernel
theorem dX7_skip_0 : decode cX7_skip 0 = .ok (.aload_n 0, 1) := by decide +kernel
theorem dX7_skip_1 : decode cX7_skip 1 = .ok (.invokevirtual 54, 3) := by decide +kernel
theorem dX7_skip_4 : decode cX7_skip 4 = .ok (.iload_n 1, 1) := by decide +kernel
theorem dX7_skip_5 : decode cX7_skip 5 = .ok (.if_icmp .eq 5, 3) := by decide +kernel
theorem dX7_skip_8 : decode cX7_skip 8 = .ok (.iconst 0, 1) := by decide +kernel
theorem dX7_skip_9 : decode cX7_skip 9 = .ok (.ireturn, 1) := by decide +kernel
theorem dX7_skip_10 : decode cX7_skip 10 = .ok (.aload_n 0, 1) := by decide +kernel
theorem dX7_skip_11 : decode cX7_skip 11 = .ok (.dup, 1) := by decide +kernel
theorem dX7_skip_12 : decode cX7_skip 12 = .ok (.getfield 25, 3) := by decide +kernel
theorem dX7_skip_15 : decode cX7_skip 15 = .ok (.iconst 1, 1) := by decide +kernel
theorem dX7_skip_16 : decode cX7_skip 16 = .ok (.iadd, 1) := by decide +kernel
theorem dX7_skip_17 : decode cX7_skip 17 = .ok (.putfield 25, 3) := by decide +kernel
theorem dX7_skip_20 : decode cX7_skip 20 = .ok (.iconst 1, 1) := by decide +kernel
theorem dX7_skip_21 : decode cX7_skip 21 = .ok (.ireturn, 1) := by decide +kernel
theorem dX7_write_0 : decode cX7_write 0 = .ok (.aload_n 0, 1) := by decide +kernel
theorem dX7_write_1 : decode cX7_write 1 = .ok (.getfield 28, 3) := by decide +kernel
theorem dX7_write_4 : decode cX7_write 4 = .ok (.aload_n 0, 1) := by decide +kernel
theorem dX7_write_5 : decode cX7_write 5 = .ok (.getfield 15, 3) := by decide +kernel
theorem dX7_write_8 : decode cX7_write 8 = .ok (.arraylength, 1) := by decide +kernel
theorem dX7_write_9 : decode cX7_write 9 = .ok (.if_icmp .ge 45, 3) := by decide +kernel
theorem dX7_write_12 : decode cX7_write 12 = .ok (.aload_n 0, 1) := by decide +kernel
theorem dX7_write_13 : decode cX7_write 13 = .ok (.getfield 28, 3) := by decide +kernel
theorem dX7_write_16 : decode cX7_write 16 = .ok (.aload_n 0, 1) := by decide +kernel
theorem dX7_write_17 : decode cX7_write 17 = .ok (.getfield 18, 3) := by decide +kernel
theorem dX7_write_20 : decode cX7_write 20 = .ok (.arraylength, 1) := by decide +kernel
theorem dX7_write_21 : decode cX7_write 21 = .ok (.if_icmp .ge 33, 3) := by decide +kernel
theorem dX7_write_24 : decode cX7_write 24 = .ok (.aload_n 0, 1) := by decide +kernel
theorem dX7_write_25 : decode cX7_write 25 = .ok (.getfield 15, 3) := by decide +kernel
theorem dX7_write_28 : decode cX7_write 28 = .ok (.aload_n 0, 1) := by decide +kernel
theorem dX7_write_29 : decode cX7_write 29 = .ok (.getfield 28, 3) := by decide +kernel
theorem dX7_write_32 : decode cX7_write 32 = .ok (.iload_n 1, 1) := by decide +kernel
theorem dX7_write_33 : decode cX7_write 33 = .ok (.iastore, 1) := by decide +kernel
theorem dX7_write_34 : decode cX7_write 34 = .ok (.aload_n 0, 1) := by decide +kernel
theorem dX7_write_35 : decode cX7_write 35 = .ok (.getfield 18, 3) := by decide +kernel
theorem dX7_write_38 : decode cX7_write 38 = .ok (.aload_n 0, 1) := by decide +kernel
theorem dX7_write_39 : decode cX7_write 39 = .ok (.getfield 28, 3) := by decide +kernel
theorem dX7_write_42 : decode cX7_write 42 = .ok (.iload_n 2, 1) := by decide +kernel
theorem dX7_write_43 : decode cX7_write 43 = .ok (.iastore, 1) := by decide +kernel
theorem dX7_write_44 : decode cX7_write 44 = .ok (.aload_n 0, 1) := by decide +kernel
theorem dX7_write_45 : decode cX7_write 45 = .ok (.dup, 1) := by decide +kernel
theorem dX7_write_46 : decode cX7_write 46 = .ok (.getfield 28, 3) := by decide +kernel
theorem dX7_write_49 : decode cX7_write 49 = .ok (.iconst 1, 1) := by decide +kernel
theorem dX7_write_50 : decode cX7_write 50 = .ok (.iadd, 1) := by decide +kernel
theorem dX7_write_51 : decode cX7_write 51 = .ok (.putfield 28, 3) := by decide +kernel
theorem dX7_write_54 : decode cX7_write 54 = .ok (.return_, 1) := by decide +kernel
theorem dX8_init_0 : decode cX8_init 0 = .ok (.aload_n 0, 1) := by decide +kernel
theorem dX8_init_1 : decode cX8_init 1 = .ok (.invokespecial 1, 3) := by decide +kernel
theorem dX8_init_4 : decode cX8_init 4 = .ok (.aload_n 0, 1) := by decide +kernel
theorem dX8_init_5 : decode cX8_init 5 = .ok (.bipush 6, 2) := by decide +kernel
theorem dX8_init_7 : decode cX8_init 7 = .ok (.newarray .int, 2) := by decide +kernel
theorem dX8_init_9 : decode cX8_init 9 = .ok (.putfield 9, 3) := by decide +kernel
theorem dX8_init_12 : decode cX8_init 12 = .ok (.aload_n 0, 1) := by decide +kernel
theorem dX8_init_13 : decode cX8_init 13 = .ok (.bipush 6, 2) := by decide +kernel
theorem dX8_init_15 : decode cX8_init 15 = .ok (.newarray .int, 2) := by decide +kernel
theorem dX8_init_17 : decode cX8_init 17 = .ok (.putfield 13, 3) := by decide +kernel
theorem dX8_init_20 : decode cX8_init 20 = .ok (.aload_n 0, 1) := by decide +kernel
theorem dX8_init_21 : decode cX8_init 21 = .ok (.bipush 6, 2) := by decide +kernel
theorem dX8_init_23 : decode cX8_init 23 = .ok (.newarray .int, 2) := by decide +kernel
theorem dX8_init_25 : decode cX8_init 25 = .ok (.putfield 16, 3) := by decide +kernel
theorem dX8_init_28 : decode cX8_init 28 = .ok (.aload_n 0, 1) := by decide +kernel
theorem dX8_init_29 : decode cX8_init 29 = .ok (.bipush 6, 2) := by decide +kernel
theorem dX8_init_31 : decode cX8_init 31 = .ok (.bipush 60, 2) := by decide +kernel
theorem dX8_init_33 : decode cX8_init 33 = .ok (.multianewarray 19 2, 4) := by decide +kernel
theorem dX8_init_37 : decode cX8_init 37 = .ok (.putfield 21, 3) := by decide +kernel
theorem dX8_init_40 : decode cX8_init 40 = .ok (.iconst 0, 1) := by decide +kernel
theorem dX8_init_41 : decode cX8_init 41 = .ok (.istore_n 1, 1) := by decide +kernel
theorem dX8_init_42 : decode cX8_init 42 = .ok (.iload_n 1, 1) := by decide +kernel
theorem dX8_init_43 : decode cX8_init 43 = .ok (.bipush 6, 2) := by decide +kernel
theorem dX8_init_45 : decode cX8_init 45 = .ok (.if_icmp .ge 23, 3) := by decide +kernel
theorem dX8_init_48 : decode cX8_init 48 = .ok (.aload_n 0, 1) := by decide +kernel
theorem dX8_init_49 : decode cX8_init 49 = .ok (.getfield 9, 3) := by decide +kernel
theorem dX8_init_52 : decode cX8_init 52 = .ok (.iload_n 1, 1) := by decide +kernel
theorem dX8_init_53 : decode cX8_init 53 = .ok (.iconst (-1), 1) := by decide +kernel
theorem dX8_init_54 : decode cX8_init 54 = .ok (.iastore, 1) := by decide +kernel
theorem dX8_init_55 : decode cX8_init 55 = .ok (.aload_n 0, 1) := by decide +kernel
theorem dX8_init_56 : decode cX8_init 56 = .ok (.getfield 13, 3) := by decide +kernel
theorem dX8_init_59 : decode cX8_init 59 = .ok (.iload_n 1, 1) := by decide +kernel
theorem dX8_init_60 : decode cX8_init 60 = .ok (.iconst (-1), 1) := by decide +kernel
theorem dX8_init_61 : decode cX8_init 61 = .ok (.iastore, 1) := by decide +kernel
theorem dX8_init_62 : decode cX8_init 62 = .ok (.iinc 1 1, 3) := by decide +kernel
theorem dX8_init_65 : decode cX8_init 65 = .ok (.goto (-23), 3) := by decide +kernel
theorem dX8_init_68 : decode cX8_init 68 = .ok (.return_, 1) := by decide +kernel
theorem dX8_isSort_0 : decode cX8_isSort 0 = .ok (.iload_n 0, 1) := by decide +kernel
theorem dX8_isSort_1 : decode cX8_isSort 1 = .ok (.iconst 0, 1) := by decide +kernel
theorem dX8_isSort_2 : decode cX8_isSort 2 = .ok (.iconst 4, 1) := by decide +kernel
theorem dX8_isSort_3 : decode cX8_isSort 3 = .ok (.invokestatic 24, 3) := by decide +kernel
theorem dX8_isSort_6 : decode cX8_isSort 6 = .ok (.ireturn, 1) := by decide +kernel
theorem dX8_has_0 : decode cX8_has 0 = .ok (.iconst 0, 1) := by decide +kernel
theorem dX8_has_1 : decode cX8_has 1 = .ok (.iload_n 1, 1) := by decide +kernel
theorem dX8_has_2 : decode cX8_has 2 = .ok (.if_icmp .gt 13, 3) := by decide +kernel
theorem dX8_has_5 : decode cX8_has 5 = .ok (.iload_n 1, 1) := by decide +kernel
theorem dX8_has_6 : decode cX8_has 6 = .ok (.bipush 6, 2) := by decide +kernel
theorem dX8_has_8 : decode cX8_has 8 = .ok (.if_icmp .ge 7, 3) := by decide +kernel
theorem dX8_has_11 : decode cX8_has 11 = .ok (.iconst 1, 1) := by decide +kernel
theorem dX8_has_12 : decode cX8_has 12 = .ok (.goto 4, 3) := by decide +kernel
theorem dX8_has_15 : decode cX8_has 15 = .ok (.iconst 0, 1) := by decide +kernel
theorem dX8_has_16 : decode cX8_has 16 = .ok (.ireturn, 1) := by decide +kernel
theorem dX8_holdsRow_0 : decode cX8_holdsRow 0 = .ok (.aload_n 0, 1) := by decide +kernel
theorem dX8_holdsRow_1 : decode cX8_holdsRow 1 = .ok (.iload_n 1, 1) := by decide +kernel
theorem dX8_holdsRow_2 : decode cX8_holdsRow 2 = .ok (.invokevirtual 30, 3) := by decide +kernel
theorem dX8_holdsRow_5 : decode cX8_holdsRow 5 = .ok (.ifCond .eq 17, 3) := by decide +kernel
theorem dX8_holdsRow_8 : decode cX8_holdsRow 8 = .ok (.aload_n 0, 1) := by decide +kernel
theorem dX8_holdsRow_9 : decode cX8_holdsRow 9 = .ok (.getfield 13, 3) := by decide +kernel
theorem dX8_holdsRow_12 : decode cX8_holdsRow 12 = .ok (.iload_n 1, 1) := by decide +kernel
theorem dX8_holdsRow_13 : decode cX8_holdsRow 13 = .ok (.iaload, 1) := by decide +kernel
theorem dX8_holdsRow_14 : decode cX8_holdsRow 14 = .ok (.iconst (-1), 1) := by decide +kernel
theorem dX8_holdsRow_15 : decode cX8_holdsRow 15 = .ok (.if_icmp .eq 7, 3) := by decide +kernel
theorem dX8_holdsRow_18 : decode cX8_holdsRow 18 = .ok (.iconst 1, 1) := by decide +kernel
theorem dX8_holdsRow_19 : decode cX8_holdsRow 19 = .ok (.goto 4, 3) := by decide +kernel
theorem dX8_holdsRow_22 : decode cX8_holdsRow 22 = .ok (.iconst 0, 1) := by decide +kernel
theorem dX8_holdsRow_23 : decode cX8_holdsRow 23 = .ok (.ireturn, 1) := by decide +kernel
theorem dX8_holdsShorts_0 : decode cX8_holdsShorts 0 = .ok (.aload_n 0, 1) := by decide +kernel
theorem dX8_holdsShorts_1 : decode cX8_holdsShorts 1 = .ok (.iload_n 1, 1) := by decide +kernel
theorem dX8_holdsShorts_2 : decode cX8_holdsShorts 2 = .ok (.invokevirtual 30, 3) := by decide +kernel
theorem dX8_holdsShorts_5 : decode cX8_holdsShorts 5 = .ok (.ifCond .eq 17, 3) := by decide +kernel
theorem dX8_holdsShorts_8 : decode cX8_holdsShorts 8 = .ok (.aload_n 0, 1) := by decide +kernel
theorem dX8_holdsShorts_9 : decode cX8_holdsShorts 9 = .ok (.getfield 13, 3) := by decide +kernel
theorem dX8_holdsShorts_12 : decode cX8_holdsShorts 12 = .ok (.iload_n 1, 1) := by decide +kernel
theorem dX8_holdsShorts_13 : decode cX8_holdsShorts 13 = .ok (.iaload, 1) := by decide +kernel
theorem dX8_holdsShorts_14 : decode cX8_holdsShorts 14 = .ok (.iconst 1, 1) := by decide +kernel
theorem dX8_holdsShorts_15 : decode cX8_holdsShorts 15 = .ok (.if_icmp .ne 7, 3) := by decide +kernel
theorem dX8_holdsShorts_18 : decode cX8_holdsShorts 18 = .ok (.iconst 1, 1) := by decide +kernel
theorem dX8_holdsShorts_19 : decode cX8_holdsShorts 19 = .ok (.goto 4, 3) := by decide +kernel
theorem dX8_holdsShorts_22 : decode cX8_holdsShorts 22 = .ok (.iconst 0, 1) := by decide +kernel
theorem dX8_holdsShorts_23 : decode cX8_holdsShorts 23 = .ok (.ireturn, 1) := by decide +kernel
theorem dX8_holdsNothing_0 : decode cX8_holdsNothing 0 = .ok (.aload_n 0, 1) := by decide +kernel
theorem dX8_holdsNothing_1 : decode cX8_holdsNothing 1 = .ok (.iload_n 1, 1) := by decide +kernel
theorem dX8_holdsNothing_2 : decode cX8_holdsNothing 2 = .ok (.invokevirtual 30, 3) := by decide +kernel
theorem dX8_holdsNothing_5 : decode cX8_holdsNothing 5 = .ok (.ifCond .eq 27, 3) := by decide +kernel
theorem dX8_holdsNothing_8 : decode cX8_holdsNothing 8 = .ok (.aload_n 0, 1) := by decide +kernel
theorem dX8_holdsNothing_9 : decode cX8_holdsNothing 9 = .ok (.getfield 13, 3) := by decide +kernel
theorem dX8_holdsNothing_12 : decode cX8_holdsNothing 12 = .ok (.iload_n 1, 1) := by decide +kernel
theorem dX8_holdsNothing_13 : decode cX8_holdsNothing 13 = .ok (.iaload, 1) := by decide +kernel
theorem dX8_holdsNothing_14 : decode cX8_holdsNothing 14 = .ok (.iconst (-1), 1) := by decide +kernel
theorem dX8_holdsNothing_15 : decode cX8_holdsNothing 15 = .ok (.if_icmp .ne 17, 3) := by decide +kernel
theorem dX8_holdsNothing_18 : decode cX8_holdsNothing 18 = .ok (.aload_n 0, 1) := by decide +kernel
theorem dX8_holdsNothing_19 : decode cX8_holdsNothing 19 = .ok (.getfield 9, 3) := by decide +kernel
theorem dX8_holdsNothing_22 : decode cX8_holdsNothing 22 = .ok (.iload_n 1, 1) := by decide +kernel
theorem dX8_holdsNothing_23 : decode cX8_holdsNothing 23 = .ok (.iaload, 1) := by decide +kernel
theorem dX8_holdsNothing_24 : decode cX8_holdsNothing 24 = .ok (.iconst (-1), 1) := by decide +kernel
theorem dX8_holdsNothing_25 : decode cX8_holdsNothing 25 = .ok (.if_icmp .ne 7, 3) := by decide +kernel
theorem dX8_holdsNothing_28 : decode cX8_holdsNothing 28 = .ok (.iconst 1, 1) := by decide +kernel
theorem dX8_holdsNothing_29 : decode cX8_holdsNothing 29 = .ok (.goto 4, 3) := by decide +kernel
theorem dX8_holdsNothing_32 : decode cX8_holdsNothing 32 = .ok (.iconst 0, 1) := by decide +kernel
theorem dX8_holdsNothing_33 : decode cX8_holdsNothing 33 = .ok (.ireturn, 1) := by decide +kernel
theorem dX8_bodyOn_0 : decode cX8_bodyOn 0 = .ok (.aload_n 0, 1) := by decide +kernel
theorem dX8_bodyOn_1 : decode cX8_bodyOn 1 = .ok (.iload_n 1, 1) := by decide +kernel
theorem dX8_bodyOn_2 : decode cX8_bodyOn 2 = .ok (.invokevirtual 30, 3) := by decide +kernel
theorem dX8_bodyOn_5 : decode cX8_bodyOn 5 = .ok (.ifCond .eq 12, 3) := by decide +kernel
theorem dX8_bodyOn_8 : decode cX8_bodyOn 8 = .ok (.aload_n 0, 1) := by decide +kernel
theorem dX8_bodyOn_9 : decode cX8_bodyOn 9 = .ok (.getfield 9, 3) := by decide +kernel
theorem dX8_bodyOn_12 : decode cX8_bodyOn 12 = .ok (.iload_n 1, 1) := by decide +kernel
theorem dX8_bodyOn_13 : decode cX8_bodyOn 13 = .ok (.iaload, 1) := by decide +kernel
theorem dX8_bodyOn_14 : decode cX8_bodyOn 14 = .ok (.goto 4, 3) := by decide +kernel
theorem dX8_bodyOn_17 : decode cX8_bodyOn 17 = .ok (.iconst (-1), 1) := by decide +kernel
theorem dX8_bodyOn_18 : decode cX8_bodyOn 18 = .ok (.ireturn, 1) := by decide +kernel
theorem dX8_holdBody_0 : decode cX8_holdBody 0 = .ok (.aload_n 0, 1) := by decide +kernel
theorem dX8_holdBody_1 : decode cX8_holdBody 1 = .ok (.iload_n 1, 1) := by decide +kernel
theorem dX8_holdBody_2 : decode cX8_holdBody 2 = .ok (.invokevirtual 30, 3) := by decide +kernel
theorem dX8_holdBody_5 : decode cX8_holdBody 5 = .ok (.ifCond .eq 24, 3) := by decide +kernel
theorem dX8_holdBody_8 : decode cX8_holdBody 8 = .ok (.aload_n 0, 1) := by decide +kernel
theorem dX8_holdBody_9 : decode cX8_holdBody 9 = .ok (.getfield 9, 3) := by decide +kernel
theorem dX8_holdBody_12 : decode cX8_holdBody 12 = .ok (.iload_n 1, 1) := by decide +kernel
theorem dX8_holdBody_13 : decode cX8_holdBody 13 = .ok (.iload_n 2, 1) := by decide +kernel
theorem dX8_holdBody_14 : decode cX8_holdBody 14 = .ok (.iastore, 1) := by decide +kernel
theorem dX8_holdBody_15 : decode cX8_holdBody 15 = .ok (.aload_n 0, 1) := by decide +kernel
theorem dX8_holdBody_16 : decode cX8_holdBody 16 = .ok (.getfield 13, 3) := by decide +kernel
theorem dX8_holdBody_19 : decode cX8_holdBody 19 = .ok (.iload_n 1, 1) := by decide +kernel
theorem dX8_holdBody_20 : decode cX8_holdBody 20 = .ok (.iconst (-1), 1) := by decide +kernel
theorem dX8_holdBody_21 : decode cX8_holdBody 21 = .ok (.iastore, 1) := by decide +kernel
theorem dX8_holdBody_22 : decode cX8_holdBody 22 = .ok (.aload_n 0, 1) := by decide +kernel
theorem dX8_holdBody_23 : decode cX8_holdBody 23 = .ok (.getfield 16, 3) := by decide +kernel
theorem dX8_holdBody_26 : decode cX8_holdBody 26 = .ok (.iload_n 1, 1) := by decide +kernel
theorem dX8_holdBody_27 : decode cX8_holdBody 27 = .ok (.iconst 0, 1) := by decide +kernel
theorem dX8_holdBody_28 : decode cX8_holdBody 28 = .ok (.iastore, 1) := by decide +kernel
theorem dX8_holdBody_29 : decode cX8_holdBody 29 = .ok (.return_, 1) := by decide +kernel
theorem dX8_holdRow_0 : decode cX8_holdRow 0 = .ok (.aload_n 0, 1) := by decide +kernel
theorem dX8_holdRow_1 : decode cX8_holdRow 1 = .ok (.iload_n 1, 1) := by decide +kernel
theorem dX8_holdRow_2 : decode cX8_holdRow 2 = .ok (.invokevirtual 30, 3) := by decide +kernel
theorem dX8_holdRow_5 : decode cX8_holdRow 5 = .ok (.ifCond .eq 13, 3) := by decide +kernel
theorem dX8_holdRow_8 : decode cX8_holdRow 8 = .ok (.iload_n 3, 1) := by decide +kernel
theorem dX8_holdRow_9 : decode cX8_holdRow 9 = .ok (.iconst 0, 1) := by decide +kernel
theorem dX8_holdRow_10 : decode cX8_holdRow 10 = .ok (.bipush 60, 2) := by decide +kernel
theorem dX8_holdRow_12 : decode cX8_holdRow 12 = .ok (.invokestatic 24, 3) := by decide +kernel
theorem dX8_holdRow_15 : decode cX8_holdRow 15 = .ok (.ifCond .ne 4, 3) := by decide +kernel
theorem dX8_holdRow_18 : decode cX8_holdRow 18 = .ok (.return_, 1) := by decide +kernel
theorem dX8_holdRow_19 : decode cX8_holdRow 19 = .ok (.aload_n 0, 1) := by decide +kernel
theorem dX8_holdRow_20 : decode cX8_holdRow 20 = .ok (.getfield 9, 3) := by decide +kernel
theorem dX8_holdRow_23 : decode cX8_holdRow 23 = .ok (.iload_n 1, 1) := by decide +kernel
theorem dX8_holdRow_24 : decode cX8_holdRow 24 = .ok (.iconst (-1), 1) := by decide +kernel
theorem dX8_holdRow_25 : decode cX8_holdRow 25 = .ok (.iastore, 1) := by decide +kernel
theorem dX8_holdRow_26 : decode cX8_holdRow 26 = .ok (.aload_n 0, 1) := by decide +kernel
theorem dX8_holdRow_27 : decode cX8_holdRow 27 = .ok (.getfield 13, 3) := by decide +kernel
theorem dX8_holdRow_30 : decode cX8_holdRow 30 = .ok (.iload_n 1, 1) := by decide +kernel
theorem dX8_holdRow_31 : decode cX8_holdRow 31 = .ok (.iload_n 2, 1) := by decide +kernel
theorem dX8_holdRow_32 : decode cX8_holdRow 32 = .ok (.iastore, 1) := by decide +kernel
theorem dX8_holdRow_33 : decode cX8_holdRow 33 = .ok (.aload_n 0, 1) := by decide +kernel
theorem dX8_holdRow_34 : decode cX8_holdRow 34 = .ok (.getfield 16, 3) := by decide +kernel
theorem dX8_holdRow_37 : decode cX8_holdRow 37 = .ok (.iload_n 1, 1) := by decide +kernel
theorem dX8_holdRow_38 : decode cX8_holdRow 38 = .ok (.iload_n 3, 1) := by decide +kernel
theorem dX8_holdRow_39 : decode cX8_holdRow 39 = .ok (.iastore, 1) := by decide +kernel
theorem dX8_holdRow_40 : decode cX8_holdRow 40 = .ok (.iconst 0, 1) := by decide +kernel
theorem dX8_holdRow_41 : decode cX8_holdRow 41 = .ok (.istore 4, 2) := by decide +kernel
theorem dX8_holdRow_43 : decode cX8_holdRow 43 = .ok (.iload 4, 2) := by decide +kernel
theorem dX8_holdRow_45 : decode cX8_holdRow 45 = .ok (.bipush 60, 2) := by decide +kernel
theorem dX8_holdRow_47 : decode cX8_holdRow 47 = .ok (.if_icmp .ge 19, 3) := by decide +kernel
theorem dX8_holdRow_50 : decode cX8_holdRow 50 = .ok (.aload_n 0, 1) := by decide +kernel
theorem dX8_holdRow_51 : decode cX8_holdRow 51 = .ok (.getfield 21, 3) := by decide +kernel
theorem dX8_holdRow_54 : decode cX8_holdRow 54 = .ok (.iload_n 1, 1) := by decide +kernel
theorem dX8_holdRow_55 : decode cX8_holdRow 55 = .ok (.aaload, 1) := by decide +kernel
theorem dX8_holdRow_56 : decode cX8_holdRow 56 = .ok (.iload 4, 2) := by decide +kernel
theorem dX8_holdRow_58 : decode cX8_holdRow 58 = .ok (.lconst 0, 1) := by decide +kernel
theorem dX8_holdRow_59 : decode cX8_holdRow 59 = .ok (.lastore, 1) := by decide +kernel
theorem dX8_holdRow_60 : decode cX8_holdRow 60 = .ok (.iinc 4 1, 3) := by decide +kernel
theorem dX8_holdRow_63 : decode cX8_holdRow 63 = .ok (.goto (-20), 3) := by decide +kernel
theorem dX8_holdRow_66 : decode cX8_holdRow 66 = .ok (.return_, 1) := by decide +kernel
theorem dX8_areAlike_0 : decode cX8_areAlike 0 = .ok (.aload_n 0, 1) := by decide +kernel
theorem dX8_areAlike_1 : decode cX8_areAlike 1 = .ok (.iload_n 1, 1) := by decide +kernel
theorem dX8_areAlike_2 : decode cX8_areAlike 2 = .ok (.invokevirtual 30, 3) := by decide +kernel
theorem dX8_areAlike_5 : decode cX8_areAlike 5 = .ok (.ifCond .eq 30, 3) := by decide +kernel
theorem dX8_areAlike_8 : decode cX8_areAlike 8 = .ok (.aload_n 0, 1) := by decide +kernel
theorem dX8_areAlike_9 : decode cX8_areAlike 9 = .ok (.iload_n 2, 1) := by decide +kernel
theorem dX8_areAlike_10 : decode cX8_areAlike 10 = .ok (.invokevirtual 30, 3) := by decide +kernel
theorem dX8_areAlike_13 : decode cX8_areAlike 13 = .ok (.ifCond .eq 22, 3) := by decide +kernel
theorem dX8_areAlike_16 : decode cX8_areAlike 16 = .ok (.aload_n 0, 1) := by decide +kernel
theorem dX8_areAlike_17 : decode cX8_areAlike 17 = .ok (.getfield 13, 3) := by decide +kernel
theorem dX8_areAlike_20 : decode cX8_areAlike 20 = .ok (.iload_n 1, 1) := by decide +kernel
theorem dX8_areAlike_21 : decode cX8_areAlike 21 = .ok (.iaload, 1) := by decide +kernel
theorem dX8_areAlike_22 : decode cX8_areAlike 22 = .ok (.aload_n 0, 1) := by decide +kernel
theorem dX8_areAlike_23 : decode cX8_areAlike 23 = .ok (.getfield 13, 3) := by decide +kernel
theorem dX8_areAlike_26 : decode cX8_areAlike 26 = .ok (.iload_n 2, 1) := by decide +kernel
theorem dX8_areAlike_27 : decode cX8_areAlike 27 = .ok (.iaload, 1) := by decide +kernel
theorem dX8_areAlike_28 : decode cX8_areAlike 28 = .ok (.if_icmp .ne 7, 3) := by decide +kernel
theorem dX8_areAlike_31 : decode cX8_areAlike 31 = .ok (.iconst 1, 1) := by decide +kernel
theorem dX8_areAlike_32 : decode cX8_areAlike 32 = .ok (.goto 4, 3) := by decide +kernel
theorem dX8_areAlike_35 : decode cX8_areAlike 35 = .ok (.iconst 0, 1) := by decide +kernel
theorem dX8_areAlike_36 : decode cX8_areAlike 36 = .ok (.ireturn, 1) := by decide +kernel
theorem dX8_hasPlaces_0 : decode cX8_hasPlaces 0 = .ok (.aload_n 0, 1) := by decide +kernel
theorem dX8_hasPlaces_1 : decode cX8_hasPlaces 1 = .ok (.iload_n 1, 1) := by decide +kernel
theorem dX8_hasPlaces_2 : decode cX8_hasPlaces 2 = .ok (.invokevirtual 30, 3) := by decide +kernel
theorem dX8_hasPlaces_5 : decode cX8_hasPlaces 5 = .ok (.ifCond .eq 37, 3) := by decide +kernel
theorem dX8_hasPlaces_8 : decode cX8_hasPlaces 8 = .ok (.iload_n 2, 1) := by decide +kernel
theorem dX8_hasPlaces_9 : decode cX8_hasPlaces 9 = .ok (.ifCond .lt 33, 3) := by decide +kernel
theorem dX8_hasPlaces_12 : decode cX8_hasPlaces 12 = .ok (.iload_n 3, 1) := by decide +kernel
theorem dX8_hasPlaces_13 : decode cX8_hasPlaces 13 = .ok (.ifCond .lt 29, 3) := by decide +kernel
theorem dX8_hasPlaces_16 : decode cX8_hasPlaces 16 = .ok (.iload_n 2, 1) := by decide +kernel
theorem dX8_hasPlaces_17 : decode cX8_hasPlaces 17 = .ok (.aload_n 0, 1) := by decide +kernel
theorem dX8_hasPlaces_18 : decode cX8_hasPlaces 18 = .ok (.getfield 16, 3) := by decide +kernel
theorem dX8_hasPlaces_21 : decode cX8_hasPlaces 21 = .ok (.iload_n 1, 1) := by decide +kernel
theorem dX8_hasPlaces_22 : decode cX8_hasPlaces 22 = .ok (.iaload, 1) := by decide +kernel
theorem dX8_hasPlaces_23 : decode cX8_hasPlaces 23 = .ok (.if_icmp .gt 19, 3) := by decide +kernel
theorem dX8_hasPlaces_26 : decode cX8_hasPlaces 26 = .ok (.iload_n 3, 1) := by decide +kernel
theorem dX8_hasPlaces_27 : decode cX8_hasPlaces 27 = .ok (.aload_n 0, 1) := by decide +kernel
theorem dX8_hasPlaces_28 : decode cX8_hasPlaces 28 = .ok (.getfield 16, 3) := by decide +kernel
theorem dX8_hasPlaces_31 : decode cX8_hasPlaces 31 = .ok (.iload_n 1, 1) := by decide +kernel
theorem dX8_hasPlaces_32 : decode cX8_hasPlaces 32 = .ok (.iaload, 1) := by decide +kernel
theorem dX8_hasPlaces_33 : decode cX8_hasPlaces 33 = .ok (.iload_n 2, 1) := by decide +kernel
theorem dX8_hasPlaces_34 : decode cX8_hasPlaces 34 = .ok (.isub, 1) := by decide +kernel
theorem dX8_hasPlaces_35 : decode cX8_hasPlaces 35 = .ok (.if_icmp .gt 7, 3) := by decide +kernel
theorem dX8_hasPlaces_38 : decode cX8_hasPlaces 38 = .ok (.iconst 1, 1) := by decide +kernel
theorem dX8_hasPlaces_39 : decode cX8_hasPlaces 39 = .ok (.goto 4, 3) := by decide +kernel
theorem dX8_hasPlaces_42 : decode cX8_hasPlaces 42 = .ok (.iconst 0, 1) := by decide +kernel
theorem dX8_hasPlaces_43 : decode cX8_hasPlaces 43 = .ok (.ireturn, 1) := by decide +kernel
theorem dX8_get_0 : decode cX8_get 0 = .ok (.aload_n 0, 1) := by decide +kernel
theorem dX8_get_1 : decode cX8_get 1 = .ok (.iload_n 1, 1) := by decide +kernel
theorem dX8_get_2 : decode cX8_get 2 = .ok (.iload_n 2, 1) := by decide +kernel
theorem dX8_get_3 : decode cX8_get 3 = .ok (.iconst 1, 1) := by decide +kernel
theorem dX8_get_4 : decode cX8_get 4 = .ok (.invokevirtual 34, 3) := by decide +kernel
theorem dX8_get_7 : decode cX8_get 7 = .ok (.ifCond .eq 14, 3) := by decide +kernel
theorem dX8_get_10 : decode cX8_get 10 = .ok (.aload_n 0, 1) := by decide +kernel
theorem dX8_get_11 : decode cX8_get 11 = .ok (.getfield 21, 3) := by decide +kernel
theorem dX8_get_14 : decode cX8_get 14 = .ok (.iload_n 1, 1) := by decide +kernel
theorem dX8_get_15 : decode cX8_get 15 = .ok (.aaload, 1) := by decide +kernel
theorem dX8_get_16 : decode cX8_get 16 = .ok (.iload_n 2, 1) := by decide +kernel
theorem dX8_get_17 : decode cX8_get 17 = .ok (.laload, 1) := by decide +kernel
theorem dX8_get_18 : decode cX8_get 18 = .ok (.goto 4, 3) := by decide +kernel
theorem dX8_get_21 : decode cX8_get 21 = .ok (.lconst 0, 1) := by decide +kernel
theorem dX8_get_22 : decode cX8_get 22 = .ok (.lreturn, 1) := by decide +kernel
theorem dX8_set_0 : decode cX8_set 0 = .ok (.aload_n 0, 1) := by decide +kernel
theorem dX8_set_1 : decode cX8_set 1 = .ok (.iload_n 1, 1) := by decide +kernel
theorem dX8_set_2 : decode cX8_set 2 = .ok (.iload_n 2, 1) := by decide +kernel
theorem dX8_set_3 : decode cX8_set 3 = .ok (.iconst 1, 1) := by decide +kernel
theorem dX8_set_4 : decode cX8_set 4 = .ok (.invokevirtual 34, 3) := by decide +kernel
theorem dX8_set_7 : decode cX8_set 7 = .ok (.ifCond .eq 21, 3) := by decide +kernel
theorem dX8_set_10 : decode cX8_set 10 = .ok (.aload_n 0, 1) := by decide +kernel
theorem dX8_set_11 : decode cX8_set 11 = .ok (.getfield 21, 3) := by decide +kernel
theorem dX8_set_14 : decode cX8_set 14 = .ok (.iload_n 1, 1) := by decide +kernel
theorem dX8_set_15 : decode cX8_set 15 = .ok (.aaload, 1) := by decide +kernel
theorem dX8_set_16 : decode cX8_set 16 = .ok (.iload_n 2, 1) := by decide +kernel
theorem dX8_set_17 : decode cX8_set 17 = .ok (.aload_n 0, 1) := by decide +kernel
theorem dX8_set_18 : decode cX8_set 18 = .ok (.getfield 13, 3) := by decide +kernel
theorem dX8_set_21 : decode cX8_set 21 = .ok (.iload_n 1, 1) := by decide +kernel
theorem dX8_set_22 : decode cX8_set 22 = .ok (.iaload, 1) := by decide +kernel
theorem dX8_set_23 : decode cX8_set 23 = .ok (.lload_n 3, 1) := by decide +kernel
theorem dX8_set_24 : decode cX8_set 24 = .ok (.invokestatic 37, 3) := by decide +kernel
theorem dX8_set_27 : decode cX8_set 27 = .ok (.lastore, 1) := by decide +kernel
theorem dX8_set_28 : decode cX8_set 28 = .ok (.return_, 1) := by decide +kernel
theorem dX8_lowestBits_0 : decode cX8_lowestBits 0 = .ok (.iload_n 0, 1) := by decide +kernel
theorem dX8_lowestBits_1 : decode cX8_lowestBits 1 = .ok (.tableswitch 63 0 4 #[35, 40, 45, 49, 51], 35) := by decide +kernel
theorem dX8_lowestBits_36 : decode cX8_lowestBits 36 = .ok (.lload_n 1, 1) := by decide +kernel
theorem dX8_lowestBits_37 : decode cX8_lowestBits 37 = .ok (.l2i, 1) := by decide +kernel
theorem dX8_lowestBits_38 : decode cX8_lowestBits 38 = .ok (.i2b, 1) := by decide +kernel
theorem dX8_lowestBits_39 : decode cX8_lowestBits 39 = .ok (.i2l, 1) := by decide +kernel
theorem dX8_lowestBits_40 : decode cX8_lowestBits 40 = .ok (.lreturn, 1) := by decide +kernel
theorem dX8_lowestBits_41 : decode cX8_lowestBits 41 = .ok (.lload_n 1, 1) := by decide +kernel
theorem dX8_lowestBits_42 : decode cX8_lowestBits 42 = .ok (.l2i, 1) := by decide +kernel
theorem dX8_lowestBits_43 : decode cX8_lowestBits 43 = .ok (.i2s, 1) := by decide +kernel
theorem dX8_lowestBits_44 : decode cX8_lowestBits 44 = .ok (.i2l, 1) := by decide +kernel
theorem dX8_lowestBits_45 : decode cX8_lowestBits 45 = .ok (.lreturn, 1) := by decide +kernel
theorem dX8_lowestBits_46 : decode cX8_lowestBits 46 = .ok (.lload_n 1, 1) := by decide +kernel
theorem dX8_lowestBits_47 : decode cX8_lowestBits 47 = .ok (.l2i, 1) := by decide +kernel
theorem dX8_lowestBits_48 : decode cX8_lowestBits 48 = .ok (.i2l, 1) := by decide +kernel
theorem dX8_lowestBits_49 : decode cX8_lowestBits 49 = .ok (.lreturn, 1) := by decide +kernel
theorem dX8_lowestBits_50 : decode cX8_lowestBits 50 = .ok (.lload_n 1, 1) := by decide +kernel
theorem dX8_lowestBits_51 : decode cX8_lowestBits 51 = .ok (.lreturn, 1) := by decide +kernel
theorem dX8_lowestBits_52 : decode cX8_lowestBits 52 = .ok (.lload_n 1, 1) := by decide +kernel
theorem dX8_lowestBits_53 : decode cX8_lowestBits 53 = .ok (.lconst 0, 1) := by decide +kernel
theorem dX8_lowestBits_54 : decode cX8_lowestBits 54 = .ok (.lcmp, 1) := by decide +kernel
theorem dX8_lowestBits_55 : decode cX8_lowestBits 55 = .ok (.ifCond .eq 7, 3) := by decide +kernel
theorem dX8_lowestBits_58 : decode cX8_lowestBits 58 = .ok (.lconst 1, 1) := by decide +kernel
theorem dX8_lowestBits_59 : decode cX8_lowestBits 59 = .ok (.goto 4, 3) := by decide +kernel
theorem dX8_lowestBits_62 : decode cX8_lowestBits 62 = .ok (.lconst 0, 1) := by decide +kernel
theorem dX8_lowestBits_63 : decode cX8_lowestBits 63 = .ok (.lreturn, 1) := by decide +kernel
theorem dX8_lowestBits_64 : decode cX8_lowestBits 64 = .ok (.lconst 0, 1) := by decide +kernel
theorem dX8_lowestBits_65 : decode cX8_lowestBits 65 = .ok (.lreturn, 1) := by decide +kernel
theorem dX8_move_0 : decode cX8_move 0 = .ok (.aload_n 0, 1) := by decide +kernel
theorem dX8_move_1 : decode cX8_move 1 = .ok (.iload_n 1, 1) := by decide +kernel
theorem dX8_move_2 : decode cX8_move 2 = .ok (.iload_n 2, 1) := by decide +kernel
theorem dX8_move_3 : decode cX8_move 3 = .ok (.iload 5, 2) := by decide +kernel
theorem dX8_move_5 : decode cX8_move 5 = .ok (.invokevirtual 34, 3) := by decide +kernel
theorem dX8_move_8 : decode cX8_move 8 = .ok (.ifCond .eq 35, 3) := by decide +kernel
theorem dX8_move_11 : decode cX8_move 11 = .ok (.aload_n 0, 1) := by decide +kernel
theorem dX8_move_12 : decode cX8_move 12 = .ok (.iload_n 3, 1) := by decide +kernel
theorem dX8_move_13 : decode cX8_move 13 = .ok (.iload 4, 2) := by decide +kernel
theorem dX8_move_15 : decode cX8_move 15 = .ok (.iload 5, 2) := by decide +kernel
theorem dX8_move_17 : decode cX8_move 17 = .ok (.invokevirtual 34, 3) := by decide +kernel
theorem dX8_move_20 : decode cX8_move 20 = .ok (.ifCond .eq 23, 3) := by decide +kernel
theorem dX8_move_23 : decode cX8_move 23 = .ok (.aload_n 0, 1) := by decide +kernel
theorem dX8_move_24 : decode cX8_move 24 = .ok (.getfield 21, 3) := by decide +kernel
theorem dX8_move_27 : decode cX8_move 27 = .ok (.iload_n 1, 1) := by decide +kernel
theorem dX8_move_28 : decode cX8_move 28 = .ok (.aaload, 1) := by decide +kernel
theorem dX8_move_29 : decode cX8_move 29 = .ok (.iload_n 2, 1) := by decide +kernel
theorem dX8_move_30 : decode cX8_move 30 = .ok (.aload_n 0, 1) := by decide +kernel
theorem dX8_move_31 : decode cX8_move 31 = .ok (.getfield 21, 3) := by decide +kernel
theorem dX8_move_34 : decode cX8_move 34 = .ok (.iload_n 3, 1) := by decide +kernel
theorem dX8_move_35 : decode cX8_move 35 = .ok (.aaload, 1) := by decide +kernel
theorem dX8_move_36 : decode cX8_move 36 = .ok (.iload 4, 2) := by decide +kernel
theorem dX8_move_38 : decode cX8_move 38 = .ok (.iload 5, 2) := by decide +kernel
theorem dX8_move_40 : decode cX8_move 40 = .ok (.invokestatic 41, 3) := by decide +kernel
theorem dX8_move_43 : decode cX8_move 43 = .ok (.return_, 1) := by decide +kernel
theorem dX9_init_0 : decode cX9_init 0 = .ok (.aload_n 0, 1) := by decide +kernel
theorem dX9_init_1 : decode cX9_init 1 = .ok (.invokespecial 1, 3) := by decide +kernel
theorem dX9_init_4 : decode cX9_init 4 = .ok (.aload_n 0, 1) := by decide +kernel
theorem dX9_init_5 : decode cX9_init 5 = .ok (.new 7, 3) := by decide +kernel
theorem dX9_init_8 : decode cX9_init 8 = .ok (.dup, 1) := by decide +kernel
theorem dX9_init_9 : decode cX9_init 9 = .ok (.invokespecial 9, 3) := by decide +kernel
theorem dX9_init_12 : decode cX9_init 12 = .ok (.putfield 10, 3) := by decide +kernel
theorem dX9_init_15 : decode cX9_init 15 = .ok (.aload_n 0, 1) := by decide +kernel
theorem dX9_init_16 : decode cX9_init 16 = .ok (.new 16, 3) := by decide +kernel
theorem dX9_init_19 : decode cX9_init 19 = .ok (.dup, 1) := by decide +kernel
theorem dX9_init_20 : decode cX9_init 20 = .ok (.invokespecial 18, 3) := by decide +kernel
theorem dX9_init_23 : decode cX9_init 23 = .ok (.putfield 19, 3) := by decide +kernel
theorem dX9_init_26 : decode cX9_init 26 = .ok (.aload_n 0, 1) := by decide +kernel
theorem dX9_init_27 : decode cX9_init 27 = .ok (.new 23, 3) := by decide +kernel
theorem dX9_init_30 : decode cX9_init 30 = .ok (.dup, 1) := by decide +kernel
theorem dX9_init_31 : decode cX9_init 31 = .ok (.aload_n 0, 1) := by decide +kernel
theorem dX9_init_32 : decode cX9_init 32 = .ok (.getfield 10, 3) := by decide +kernel
theorem dX9_init_35 : decode cX9_init 35 = .ok (.invokespecial 25, 3) := by decide +kernel
theorem dX9_init_38 : decode cX9_init 38 = .ok (.putfield 28, 3) := by decide +kernel
theorem dX9_init_41 : decode cX9_init 41 = .ok (.aload_n 0, 1) := by decide +kernel
theorem dX9_init_42 : decode cX9_init 42 = .ok (.new 32, 3) := by decide +kernel
theorem dX9_init_45 : decode cX9_init 45 = .ok (.dup, 1) := by decide +kernel
theorem dX9_init_46 : decode cX9_init 46 = .ok (.invokespecial 34, 3) := by decide +kernel
theorem dX9_init_49 : decode cX9_init 49 = .ok (.putfield 35, 3) := by decide +kernel
theorem dX9_init_52 : decode cX9_init 52 = .ok (.aload_n 0, 1) := by decide +kernel
theorem dX9_init_53 : decode cX9_init 53 = .ok (.new 39, 3) := by decide +kernel
theorem dX9_init_56 : decode cX9_init 56 = .ok (.dup, 1) := by decide +kernel
theorem dX9_init_57 : decode cX9_init 57 = .ok (.aload_n 0, 1) := by decide +kernel
theorem dX9_init_58 : decode cX9_init 58 = .ok (.getfield 28, 3) := by decide +kernel
theorem dX9_init_61 : decode cX9_init 61 = .ok (.aload_n 0, 1) := by decide +kernel
theorem dX9_init_62 : decode cX9_init 62 = .ok (.getfield 35, 3) := by decide +kernel
theorem dX9_init_65 : decode cX9_init 65 = .ok (.invokespecial 41, 3) := by decide +kernel
theorem dX9_init_68 : decode cX9_init 68 = .ok (.putfield 44, 3) := by decide +kernel
theorem dX9_init_71 : decode cX9_init 71 = .ok (.aload_n 0, 1) := by decide +kernel
theorem dX9_init_72 : decode cX9_init 72 = .ok (.new 48, 3) := by decide +kernel
theorem dX9_init_75 : decode cX9_init 75 = .ok (.dup, 1) := by decide +kernel
theorem dX9_init_76 : decode cX9_init 76 = .ok (.aload_n 0, 1) := by decide +kernel
theorem dX9_init_77 : decode cX9_init 77 = .ok (.getfield 28, 3) := by decide +kernel
theorem dX9_init_80 : decode cX9_init 80 = .ok (.invokespecial 50, 3) := by decide +kernel
theorem dX9_init_83 : decode cX9_init 83 = .ok (.putfield 53, 3) := by decide +kernel
theorem dX9_init_86 : decode cX9_init 86 = .ok (.aload_n 0, 1) := by decide +kernel
theorem dX9_init_87 : decode cX9_init 87 = .ok (.new 57, 3) := by decide +kernel
theorem dX9_init_90 : decode cX9_init 90 = .ok (.dup, 1) := by decide +kernel
theorem dX9_init_91 : decode cX9_init 91 = .ok (.aload_n 0, 1) := by decide +kernel
theorem dX9_init_92 : decode cX9_init 92 = .ok (.getfield 28, 3) := by decide +kernel
theorem dX9_init_95 : decode cX9_init 95 = .ok (.aload_n 0, 1) := by decide +kernel
theorem dX9_init_96 : decode cX9_init 96 = .ok (.getfield 35, 3) := by decide +kernel
theorem dX9_init_99 : decode cX9_init 99 = .ok (.invokespecial 59, 3) := by decide +kernel
theorem dX9_init_102 : decode cX9_init 102 = .ok (.putfield 60, 3) := by decide +kernel
theorem dX9_init_105 : decode cX9_init 105 = .ok (.aload_n 0, 1) := by decide +kernel
theorem dX9_init_106 : decode cX9_init 106 = .ok (.new 64, 3) := by decide +kernel
theorem dX9_init_109 : decode cX9_init 109 = .ok (.dup, 1) := by decide +kernel
theorem dX9_init_110 : decode cX9_init 110 = .ok (.invokespecial 66, 3) := by decide +kernel
theorem dX9_init_113 : decode cX9_init 113 = .ok (.putfield 67, 3) := by decide +kernel
theorem dX9_init_116 : decode cX9_init 116 = .ok (.aload_n 0, 1) := by decide +kernel
theorem dX9_init_117 : decode cX9_init 117 = .ok (.new 71, 3) := by decide +kernel
theorem dX9_init_120 : decode cX9_init 120 = .ok (.dup, 1) := by decide +kernel
theorem dX9_init_121 : decode cX9_init 121 = .ok (.invokespecial 73, 3) := by decide +kernel
theorem dX9_init_124 : decode cX9_init 124 = .ok (.putfield 74, 3) := by decide +kernel
theorem dX9_init_127 : decode cX9_init 127 = .ok (.return_, 1) := by decide +kernel
theorem dX9_child_0 : decode cX9_child 0 = .ok (.iload_n 1, 1) := by decide +kernel
theorem dX9_child_1 : decode cX9_child 1 = .ok (.ifCond .lt 7, 3) := by decide +kernel
theorem dX9_child_4 : decode cX9_child 4 = .ok (.iload_n 3, 1) := by decide +kernel
theorem dX9_child_5 : decode cX9_child 5 = .ok (.ifCond .ge 5, 3) := by decide +kernel
theorem dX9_child_8 : decode cX9_child 8 = .ok (.iconst (-1), 1) := by decide +kernel
theorem dX9_child_9 : decode cX9_child 9 = .ok (.ireturn, 1) := by decide +kernel
theorem dX9_child_10 : decode cX9_child 10 = .ok (.iload_n 1, 1) := by decide +kernel
theorem dX9_child_11 : decode cX9_child 11 = .ok (.bipush 10, 2) := by decide +kernel
theorem dX9_child_13 : decode cX9_child 13 = .ok (.idiv, 1) := by decide +kernel
theorem dX9_child_14 : decode cX9_child 14 = .ok (.istore 4, 2) := by decide +kernel
theorem dX9_child_16 : decode cX9_child 16 = .ok (.iload_n 1, 1) := by decide +kernel
theorem dX9_child_17 : decode cX9_child 17 = .ok (.bipush 10, 2) := by decide +kernel
theorem dX9_child_19 : decode cX9_child 19 = .ok (.irem, 1) := by decide +kernel
theorem dX9_child_20 : decode cX9_child 20 = .ok (.istore 5, 2) := by decide +kernel
theorem dX9_child_22 : decode cX9_child 22 = .ok (.iload_n 3, 1) := by decide +kernel
theorem dX9_child_23 : decode cX9_child 23 = .ok (.sipush 10000, 3) := by decide +kernel
theorem dX9_child_26 : decode cX9_child 26 = .ok (.idiv, 1) := by decide +kernel
theorem dX9_child_27 : decode cX9_child 27 = .ok (.bipush 24, 2) := by decide +kernel
theorem dX9_child_29 : decode cX9_child 29 = .ok (.isub, 1) := by decide +kernel
theorem dX9_child_30 : decode cX9_child 30 = .ok (.istore 6, 2) := by decide +kernel
theorem dX9_child_32 : decode cX9_child 32 = .ok (.iload_n 3, 1) := by decide +kernel
theorem dX9_child_33 : decode cX9_child 33 = .ok (.sipush 10000, 3) := by decide +kernel
theorem dX9_child_36 : decode cX9_child 36 = .ok (.irem, 1) := by decide +kernel
theorem dX9_child_37 : decode cX9_child 37 = .ok (.istore 7, 2) := by decide +kernel
theorem dX9_child_39 : decode cX9_child 39 = .ok (.iload 4, 2) := by decide +kernel
theorem dX9_child_41 : decode cX9_child 41 = .ok (.invokestatic 78, 3) := by decide +kernel
theorem dX9_child_44 : decode cX9_child 44 = .ok (.ifCond .eq 38, 3) := by decide +kernel
theorem dX9_child_47 : decode cX9_child 47 = .ok (.iload 5, 2) := by decide +kernel
theorem dX9_child_49 : decode cX9_child 49 = .ok (.iconst 1, 1) := by decide +kernel
theorem dX9_child_50 : decode cX9_child 50 = .ok (.if_icmp .gt 32, 3) := by decide +kernel
theorem dX9_child_53 : decode cX9_child 53 = .ok (.iload_n 2, 1) := by decide +kernel
theorem dX9_child_54 : decode cX9_child 54 = .ok (.sipush 500, 3) := by decide +kernel
theorem dX9_child_57 : decode cX9_child 57 = .ok (.sipush 2000, 3) := by decide +kernel
theorem dX9_child_60 : decode cX9_child 60 = .ok (.invokestatic 82, 3) := by decide +kernel
theorem dX9_child_63 : decode cX9_child 63 = .ok (.ifCond .eq 19, 3) := by decide +kernel
theorem dX9_child_66 : decode cX9_child 66 = .ok (.iload 6, 2) := by decide +kernel
theorem dX9_child_68 : decode cX9_child 68 = .ok (.invokestatic 86, 3) := by decide +kernel
theorem dX9_child_71 : decode cX9_child 71 = .ok (.ifCond .eq 11, 3) := by decide +kernel
theorem dX9_child_74 : decode cX9_child 74 = .ok (.iload 7, 2) := by decide +kernel
theorem dX9_child_76 : decode cX9_child 76 = .ok (.invokestatic 89, 3) := by decide +kernel
theorem dX9_child_79 : decode cX9_child 79 = .ok (.ifCond .ne 5, 3) := by decide +kernel
theorem dX9_child_82 : decode cX9_child 82 = .ok (.iconst (-1), 1) := by decide +kernel
theorem dX9_child_83 : decode cX9_child 83 = .ok (.ireturn, 1) := by decide +kernel
theorem dX9_child_84 : decode cX9_child 84 = .ok (.aload_n 0, 1) := by decide +kernel
theorem dX9_child_85 : decode cX9_child 85 = .ok (.getfield 28, 3) := by decide +kernel
theorem dX9_child_88 : decode cX9_child 88 = .ok (.invokevirtual 92, 3) := by decide +kernel
theorem dX9_child_91 : decode cX9_child 91 = .ok (.bipush 6, 2) := by decide +kernel
theorem dX9_child_93 : decode cX9_child 93 = .ok (.if_icmp .lt 6, 3) := by decide +kernel
theorem dX9_child_96 : decode cX9_child 96 = .ok (.bipush (-3), 2) := by decide +kernel
theorem dX9_child_98 : decode cX9_child 98 = .ok (.ireturn, 1) := by decide +kernel
theorem dX9_child_99 : decode cX9_child 99 = .ok (.aload_n 0, 1) := by decide +kernel
theorem dX9_child_100 : decode cX9_child 100 = .ok (.getfield 28, 3) := by decide +kernel
theorem dX9_child_103 : decode cX9_child 103 = .ok (.iload 4, 2) := by decide +kernel
theorem dX9_child_105 : decode cX9_child 105 = .ok (.iload 5, 2) := by decide +kernel
theorem dX9_child_107 : decode cX9_child 107 = .ok (.iload_n 2, 1) := by decide +kernel
theorem dX9_child_108 : decode cX9_child 108 = .ok (.iload 6, 2) := by decide +kernel
theorem dX9_child_110 : decode cX9_child 110 = .ok (.iload 7, 2) := by decide +kernel
theorem dX9_child_112 : decode cX9_child 112 = .ok (.invokevirtual 96, 3) := by decide +kernel
theorem dX9_child_115 : decode cX9_child 115 = .ok (.istore 8, 2) := by decide +kernel
theorem dX9_child_117 : decode cX9_child 117 = .ok (.aload_n 0, 1) := by decide +kernel
theorem dX9_child_118 : decode cX9_child 118 = .ok (.getfield 28, 3) := by decide +kernel
theorem dX9_child_121 : decode cX9_child 121 = .ok (.invokevirtual 100, 3) := by decide +kernel
theorem dX9_child_124 : decode cX9_child 124 = .ok (.iload 8, 2) := by decide +kernel
theorem dX9_child_126 : decode cX9_child 126 = .ok (.ireturn, 1) := by decide +kernel
theorem dX9_want_0 : decode cX9_want 0 = .ok (.iload_n 1, 1) := by decide +kernel
theorem dX9_want_1 : decode cX9_want 1 = .ok (.invokestatic 103, 3) := by decide +kernel
theorem dX9_want_4 : decode cX9_want 4 = .ok (.ifCond .eq 13, 3) := by decide +kernel
theorem dX9_want_7 : decode cX9_want 7 = .ok (.iload_n 2, 1) := by decide +kernel
theorem dX9_want_8 : decode cX9_want 8 = .ok (.iconst 1, 1) := by decide +kernel
theorem dX9_want_9 : decode cX9_want 9 = .ok (.bipush 9, 2) := by decide +kernel
theorem dX9_want_11 : decode cX9_want 11 = .ok (.invokestatic 82, 3) := by decide +kernel
theorem dX9_want_14 : decode cX9_want 14 = .ok (.ifCond .ne 5, 3) := by decide +kernel
theorem dX9_want_17 : decode cX9_want 17 = .ok (.iconst (-1), 1) := by decide +kernel
theorem dX9_want_18 : decode cX9_want 18 = .ok (.ireturn, 1) := by decide +kernel
theorem dX9_want_19 : decode cX9_want 19 = .ok (.aload_n 0, 1) := by decide +kernel
theorem dX9_want_20 : decode cX9_want 20 = .ok (.getfield 28, 3) := by decide +kernel
theorem dX9_want_23 : decode cX9_want 23 = .ok (.invokevirtual 106, 3) := by decide +kernel
theorem dX9_want_26 : decode cX9_want 26 = .ok (.bipush 10, 2) := by decide +kernel
theorem dX9_want_28 : decode cX9_want 28 = .ok (.if_icmp .lt 6, 3) := by decide +kernel
theorem dX9_want_31 : decode cX9_want 31 = .ok (.bipush (-3), 2) := by decide +kernel
theorem dX9_want_33 : decode cX9_want 33 = .ok (.ireturn, 1) := by decide +kernel
theorem dX9_want_34 : decode cX9_want 34 = .ok (.aload_n 0, 1) := by decide +kernel
theorem dX9_want_35 : decode cX9_want 35 = .ok (.getfield 28, 3) := by decide +kernel
theorem dX9_want_38 : decode cX9_want 38 = .ok (.iload_n 1, 1) := by decide +kernel
theorem dX9_want_39 : decode cX9_want 39 = .ok (.sipush 1000, 3) := by decide +kernel
theorem dX9_want_42 : decode cX9_want 42 = .ok (.idiv, 1) := by decide +kernel
theorem dX9_want_43 : decode cX9_want 43 = .ok (.iload_n 1, 1) := by decide +kernel
theorem dX9_want_44 : decode cX9_want 44 = .ok (.sipush 1000, 3) := by decide +kernel
theorem dX9_want_47 : decode cX9_want 47 = .ok (.irem, 1) := by decide +kernel
theorem dX9_want_48 : decode cX9_want 48 = .ok (.iload_n 2, 1) := by decide +kernel
theorem dX9_want_49 : decode cX9_want 49 = .ok (.invokevirtual 109, 3) := by decide +kernel
theorem dX9_want_52 : decode cX9_want 52 = .ok (.istore_n 3, 1) := by decide +kernel
theorem dX9_want_53 : decode cX9_want 53 = .ok (.aload_n 0, 1) := by decide +kernel
theorem dX9_want_54 : decode cX9_want 54 = .ok (.getfield 28, 3) := by decide +kernel
theorem dX9_want_57 : decode cX9_want 57 = .ok (.invokevirtual 100, 3) := by decide +kernel
theorem dX9_want_60 : decode cX9_want 60 = .ok (.iload_n 3, 1) := by decide +kernel
theorem dX9_want_61 : decode cX9_want 61 = .ok (.ireturn, 1) := by decide +kernel
theorem dX9_feed_0 : decode cX9_feed 0 = .ok (.iload_n 1, 1) := by decide +kernel
theorem dX9_feed_1 : decode cX9_feed 1 = .ok (.iconst 0, 1) := by decide +kernel
theorem dX9_feed_2 : decode cX9_feed 2 = .ok (.sipush 255, 3) := by decide +kernel
theorem dX9_feed_5 : decode cX9_feed 5 = .ok (.invokestatic 82, 3) := by decide +kernel
theorem dX9_feed_8 : decode cX9_feed 8 = .ok (.ifCond .ne 5, 3) := by decide +kernel
theorem dX9_feed_11 : decode cX9_feed 11 = .ok (.iconst (-1), 1) := by decide +kernel
theorem dX9_feed_12 : decode cX9_feed 12 = .ok (.ireturn, 1) := by decide +kernel
theorem dX9_feed_13 : decode cX9_feed 13 = .ok (.aload_n 0, 1) := by decide +kernel
theorem dX9_feed_14 : decode cX9_feed 14 = .ok (.getfield 19, 3) := by decide +kernel
theorem dX9_feed_17 : decode cX9_feed 17 = .ok (.invokevirtual 113, 3) := by decide +kernel
theorem dX9_feed_20 : decode cX9_feed 20 = .ok (.bipush 120, 2) := by decide +kernel
theorem dX9_feed_22 : decode cX9_feed 22 = .ok (.if_icmp .lt 6, 3) := by decide +kernel
theorem dX9_feed_25 : decode cX9_feed 25 = .ok (.bipush (-3), 2) := by decide +kernel
theorem dX9_feed_27 : decode cX9_feed 27 = .ok (.ireturn, 1) := by decide +kernel
theorem dX9_feed_28 : decode cX9_feed 28 = .ok (.aload_n 0, 1) := by decide +kernel
theorem dX9_feed_29 : decode cX9_feed 29 = .ok (.getfield 19, 3) := by decide +kernel
theorem dX9_feed_32 : decode cX9_feed 32 = .ok (.iload_n 1, 1) := by decide +kernel
theorem dX9_feed_33 : decode cX9_feed 33 = .ok (.invokevirtual 116, 3) := by decide +kernel
theorem dX9_feed_36 : decode cX9_feed 36 = .ok (.ireturn, 1) := by decide +kernel
theorem dX9_law_0 : decode cX9_law 0 = .ok (.aload_n 0, 1) := by decide +kernel
theorem dX9_law_1 : decode cX9_law 1 = .ok (.getfield 19, 3) := by decide +kernel
theorem dX9_law_4 : decode cX9_law 4 = .ok (.invokevirtual 120, 3) := by decide +kernel
theorem dX9_law_7 : decode cX9_law 7 = .ok (.istore_n 1, 1) := by decide +kernel
theorem dX9_law_8 : decode cX9_law 8 = .ok (.iload_n 1, 1) := by decide +kernel
theorem dX9_law_9 : decode cX9_law 9 = .ok (.ifCond .ge 28, 3) := by decide +kernel
theorem dX9_law_12 : decode cX9_law 12 = .ok (.aload_n 0, 1) := by decide +kernel
theorem dX9_law_13 : decode cX9_law 13 = .ok (.getfield 19, 3) := by decide +kernel
theorem dX9_law_16 : decode cX9_law 16 = .ok (.aload_n 0, 1) := by decide +kernel
theorem dX9_law_17 : decode cX9_law 17 = .ok (.getfield 10, 3) := by decide +kernel
theorem dX9_law_20 : decode cX9_law 20 = .ok (.invokevirtual 123, 3) := by decide +kernel
theorem dX9_law_23 : decode cX9_law 23 = .ok (.aload_n 0, 1) := by decide +kernel
theorem dX9_law_24 : decode cX9_law 24 = .ok (.getfield 28, 3) := by decide +kernel
theorem dX9_law_27 : decode cX9_law 27 = .ok (.invokevirtual 126, 3) := by decide +kernel
theorem dX9_law_30 : decode cX9_law 30 = .ok (.aload_n 0, 1) := by decide +kernel
theorem dX9_law_31 : decode cX9_law 31 = .ok (.getfield 28, 3) := by decide +kernel
theorem dX9_law_34 : decode cX9_law 34 = .ok (.invokevirtual 100, 3) := by decide +kernel
theorem dX9_law_37 : decode cX9_law 37 = .ok (.aload_n 0, 1) := by decide +kernel
theorem dX9_law_38 : decode cX9_law 38 = .ok (.getfield 19, 3) := by decide +kernel
theorem dX9_law_41 : decode cX9_law 41 = .ok (.invokevirtual 129, 3) := by decide +kernel
theorem dX9_law_44 : decode cX9_law 44 = .ok (.iload_n 1, 1) := by decide +kernel
theorem dX9_law_45 : decode cX9_law 45 = .ok (.ifCond .ge 7, 3) := by decide +kernel
theorem dX9_law_48 : decode cX9_law 48 = .ok (.iconst 1, 1) := by decide +kernel
theorem dX9_law_49 : decode cX9_law 49 = .ok (.goto 7, 3) := by decide +kernel
theorem dX9_law_52 : decode cX9_law 52 = .ok (.bipush (-100), 2) := by decide +kernel
theorem dX9_law_54 : decode cX9_law 54 = .ok (.iload_n 1, 1) := by decide +kernel
theorem dX9_law_55 : decode cX9_law 55 = .ok (.isub, 1) := by decide +kernel
theorem dX9_law_56 : decode cX9_law 56 = .ok (.ireturn, 1) := by decide +kernel
theorem dX9_height_0 : decode cX9_height 0 = .ok (.aload_n 0, 1) := by decide +kernel
theorem dX9_height_1 : decode cX9_height 1 = .ok (.getfield 28, 3) := by decide +kernel
theorem dX9_height_4 : decode cX9_height 4 = .ok (.iload_n 1, 1) := by decide +kernel
theorem dX9_height_5 : decode cX9_height 5 = .ok (.invokevirtual 132, 3) := by decide +kernel
theorem dX9_height_8 : decode cX9_height 8 = .ok (.ifCond .eq 10, 3) := by decide +kernel
theorem dX9_height_11 : decode cX9_height 11 = .ok (.iload_n 2, 1) := by decide +kernel
theorem dX9_height_12 : decode cX9_height 12 = .ok (.invokestatic 78, 3) := by decide +kernel
theorem dX9_height_15 : decode cX9_height 15 = .ok (.ifCond .ne 5, 3) := by decide +kernel
theorem dX9_height_18 : decode cX9_height 18 = .ok (.iconst (-1), 1) := by decide +kernel
theorem dX9_height_19 : decode cX9_height 19 = .ok (.ireturn, 1) := by decide +kernel
theorem dX9_height_20 : decode cX9_height 20 = .ok (.aload_n 0, 1) := by decide +kernel
theorem dX9_height_21 : decode cX9_height 21 = .ok (.getfield 28, 3) := by decide +kernel
theorem dX9_height_24 : decode cX9_height 24 = .ok (.iload_n 1, 1) := by decide +kernel
theorem dX9_height_25 : decode cX9_height 25 = .ok (.iload_n 2, 1) := by decide +kernel
theorem dX9_height_26 : decode cX9_height 26 = .ok (.invokevirtual 135, 3) := by decide +kernel
theorem dX9_height_29 : decode cX9_height 29 = .ok (.ireturn, 1) := by decide +kernel
theorem dX9_wants_0 : decode cX9_wants 0 = .ok (.iload_n 1, 1) := by decide +kernel
theorem dX9_wants_1 : decode cX9_wants 1 = .ok (.invokestatic 78, 3) := by decide +kernel
theorem dX9_wants_4 : decode cX9_wants 4 = .ok (.ifCond .eq 14, 3) := by decide +kernel
theorem dX9_wants_7 : decode cX9_wants 7 = .ok (.aload_n 0, 1) := by decide +kernel
theorem dX9_wants_8 : decode cX9_wants 8 = .ok (.getfield 28, 3) := by decide +kernel
theorem dX9_wants_11 : decode cX9_wants 11 = .ok (.iload_n 1, 1) := by decide +kernel
theorem dX9_wants_12 : decode cX9_wants 12 = .ok (.invokevirtual 139, 3) := by decide +kernel
theorem dX9_wants_15 : decode cX9_wants 15 = .ok (.goto 4, 3) := by decide +kernel
theorem dX9_wants_18 : decode cX9_wants 18 = .ok (.iconst (-1), 1) := by decide +kernel
theorem dX9_wants_19 : decode cX9_wants 19 = .ok (.ireturn, 1) := by decide +kernel
theorem dX9_mark_0 : decode cX9_mark 0 = .ok (.iload_n 2, 1) := by decide +kernel
theorem dX9_mark_1 : decode cX9_mark 1 = .ok (.ifCond .lt 19, 3) := by decide +kernel
theorem dX9_mark_4 : decode cX9_mark 4 = .ok (.iload_n 1, 1) := by decide +kernel
theorem dX9_mark_5 : decode cX9_mark 5 = .ok (.iload_n 2, 1) := by decide +kernel
theorem dX9_mark_6 : decode cX9_mark 6 = .ok (.bipush 10, 2) := by decide +kernel
theorem dX9_mark_8 : decode cX9_mark 8 = .ok (.idiv, 1) := by decide +kernel
theorem dX9_mark_9 : decode cX9_mark 9 = .ok (.iload_n 3, 1) := by decide +kernel
theorem dX9_mark_10 : decode cX9_mark 10 = .ok (.iload_n 2, 1) := by decide +kernel
theorem dX9_mark_11 : decode cX9_mark 11 = .ok (.bipush 10, 2) := by decide +kernel
theorem dX9_mark_13 : decode cX9_mark 13 = .ok (.irem, 1) := by decide +kernel
theorem dX9_mark_14 : decode cX9_mark 14 = .ok (.invokestatic 142, 3) := by decide +kernel
theorem dX9_mark_17 : decode cX9_mark 17 = .ok (.ifCond .ne 5, 3) := by decide +kernel
theorem dX9_mark_20 : decode cX9_mark 20 = .ok (.iconst (-1), 1) := by decide +kernel
theorem dX9_mark_21 : decode cX9_mark 21 = .ok (.ireturn, 1) := by decide +kernel
theorem dX9_mark_22 : decode cX9_mark 22 = .ok (.aload_n 0, 1) := by decide +kernel
theorem dX9_mark_23 : decode cX9_mark 23 = .ok (.getfield 35, 3) := by decide +kernel
theorem dX9_mark_26 : decode cX9_mark 26 = .ok (.invokevirtual 146, 3) := by decide +kernel
theorem dX9_mark_29 : decode cX9_mark 29 = .ok (.bipush 30, 2) := by decide +kernel
theorem dX9_mark_31 : decode cX9_mark 31 = .ok (.if_icmp .lt 6, 3) := by decide +kernel
theorem dX9_mark_34 : decode cX9_mark 34 = .ok (.bipush (-3), 2) := by decide +kernel
theorem dX9_mark_36 : decode cX9_mark 36 = .ok (.ireturn, 1) := by decide +kernel
theorem dX9_mark_37 : decode cX9_mark 37 = .ok (.aload_n 0, 1) := by decide +kernel
theorem dX9_mark_38 : decode cX9_mark 38 = .ok (.getfield 35, 3) := by decide +kernel
theorem dX9_mark_41 : decode cX9_mark 41 = .ok (.iload_n 1, 1) := by decide +kernel
theorem dX9_mark_42 : decode cX9_mark 42 = .ok (.iload_n 2, 1) := by decide +kernel
theorem dX9_mark_43 : decode cX9_mark 43 = .ok (.bipush 10, 2) := by decide +kernel
theorem dX9_mark_45 : decode cX9_mark 45 = .ok (.idiv, 1) := by decide +kernel
theorem dX9_mark_46 : decode cX9_mark 46 = .ok (.iload_n 3, 1) := by decide +kernel
theorem dX9_mark_47 : decode cX9_mark 47 = .ok (.iload_n 2, 1) := by decide +kernel
theorem dX9_mark_48 : decode cX9_mark 48 = .ok (.bipush 10, 2) := by decide +kernel
theorem dX9_mark_50 : decode cX9_mark 50 = .ok (.irem, 1) := by decide +kernel
theorem dX9_mark_51 : decode cX9_mark 51 = .ok (.invokevirtual 147, 3) := by decide +kernel
theorem dX9_mark_54 : decode cX9_mark 54 = .ok (.ireturn, 1) := by decide +kernel
theorem dX9_marks_0 : decode cX9_marks 0 = .ok (.aload_n 0, 1) := by decide +kernel
theorem dX9_marks_1 : decode cX9_marks 1 = .ok (.getfield 74, 3) := by decide +kernel
theorem dX9_marks_4 : decode cX9_marks 4 = .ok (.iload_n 1, 1) := by decide +kernel
theorem dX9_marks_5 : decode cX9_marks 5 = .ok (.invokevirtual 150, 3) := by decide +kernel
theorem dX9_marks_8 : decode cX9_marks 8 = .ok (.ifCond .eq 13, 3) := by decide +kernel
theorem dX9_marks_11 : decode cX9_marks 11 = .ok (.iload_n 3, 1) := by decide +kernel
theorem dX9_marks_12 : decode cX9_marks 12 = .ok (.iconst 1, 1) := by decide +kernel
theorem dX9_marks_13 : decode cX9_marks 13 = .ok (.bipush 15, 2) := by decide +kernel
theorem dX9_marks_15 : decode cX9_marks 15 = .ok (.invokestatic 82, 3) := by decide +kernel
theorem dX9_marks_18 : decode cX9_marks 18 = .ok (.ifCond .ne 5, 3) := by decide +kernel
theorem dX9_marks_21 : decode cX9_marks 21 = .ok (.iconst (-1), 1) := by decide +kernel
theorem dX9_marks_22 : decode cX9_marks 22 = .ok (.ireturn, 1) := by decide +kernel
theorem dX9_marks_23 : decode cX9_marks 23 = .ok (.aload_n 0, 1) := by decide +kernel
theorem dX9_marks_24 : decode cX9_marks 24 = .ok (.getfield 74, 3) := by decide +kernel
theorem dX9_marks_27 : decode cX9_marks 27 = .ok (.iload_n 1, 1) := by decide +kernel
theorem dX9_marks_28 : decode cX9_marks 28 = .ok (.invokevirtual 151, 3) := by decide +kernel
theorem dX9_marks_31 : decode cX9_marks 31 = .ok (.ifCond .ne 17, 3) := by decide +kernel
theorem dX9_marks_34 : decode cX9_marks 34 = .ok (.aload_n 0, 1) := by decide +kernel
theorem dX9_marks_35 : decode cX9_marks 35 = .ok (.getfield 74, 3) := by decide +kernel
theorem dX9_marks_38 : decode cX9_marks 38 = .ok (.iload_n 1, 1) := by decide +kernel
theorem dX9_marks_39 : decode cX9_marks 39 = .ok (.invokevirtual 154, 3) := by decide +kernel
theorem dX9_marks_42 : decode cX9_marks 42 = .ok (.ifCond .ne 6, 3) := by decide +kernel
theorem dX9_marks_45 : decode cX9_marks 45 = .ok (.bipush (-12), 2) := by decide +kernel
theorem dX9_marks_47 : decode cX9_marks 47 = .ok (.ireturn, 1) := by decide +kernel
theorem dX9_marks_48 : decode cX9_marks 48 = .ok (.iconst 0, 1) := by decide +kernel
theorem dX9_marks_49 : decode cX9_marks 49 = .ok (.istore 4, 2) := by decide +kernel
theorem dX9_marks_51 : decode cX9_marks 51 = .ok (.iconst 0, 1) := by decide +kernel
theorem dX9_marks_52 : decode cX9_marks 52 = .ok (.istore 5, 2) := by decide +kernel
theorem dX9_marks_54 : decode cX9_marks 54 = .ok (.iload 5, 2) := by decide +kernel
theorem dX9_marks_56 : decode cX9_marks 56 = .ok (.iload_n 3, 1) := by decide +kernel
theorem dX9_marks_57 : decode cX9_marks 57 = .ok (.if_icmp .ge 26, 3) := by decide +kernel
theorem dX9_marks_60 : decode cX9_marks 60 = .ok (.aload_n 0, 1) := by decide +kernel
theorem dX9_marks_61 : decode cX9_marks 61 = .ok (.iload_n 1, 1) := by decide +kernel
theorem dX9_marks_62 : decode cX9_marks 62 = .ok (.iload_n 2, 1) := by decide +kernel
theorem dX9_marks_63 : decode cX9_marks 63 = .ok (.iconst 4, 1) := by decide +kernel
theorem dX9_marks_64 : decode cX9_marks 64 = .ok (.iload 5, 2) := by decide +kernel
theorem dX9_marks_66 : decode cX9_marks 66 = .ok (.imul, 1) := by decide +kernel
theorem dX9_marks_67 : decode cX9_marks 67 = .ok (.iadd, 1) := by decide +kernel
theorem dX9_marks_68 : decode cX9_marks 68 = .ok (.invokevirtual 157, 3) := by decide +kernel
theorem dX9_marks_71 : decode cX9_marks 71 = .ok (.ifCond .eq 12, 3) := by decide +kernel
theorem dX9_marks_74 : decode cX9_marks 74 = .ok (.iinc 4 1, 3) := by decide +kernel
theorem dX9_marks_77 : decode cX9_marks 77 = .ok (.iinc 5 1, 3) := by decide +kernel
theorem dX9_marks_80 : decode cX9_marks 80 = .ok (.goto (-26), 3) := by decide +kernel
theorem dX9_marks_83 : decode cX9_marks 83 = .ok (.iload 4, 2) := by decide +kernel
theorem dX9_marks_85 : decode cX9_marks 85 = .ok (.ireturn, 1) := by decide +kernel
theorem dX9_paint_0 : decode cX9_paint 0 = .ok (.iload_n 1, 1) := by decide +kernel
theorem dX9_paint_1 : decode cX9_paint 1 = .ok (.invokestatic 78, 3) := by decide +kernel
theorem dX9_paint_4 : decode cX9_paint 4 = .ok (.ifCond .ne 5, 3) := by decide +kernel
theorem dX9_paint_7 : decode cX9_paint 7 = .ok (.iconst (-1), 1) := by decide +kernel
theorem dX9_paint_8 : decode cX9_paint 8 = .ok (.ireturn, 1) := by decide +kernel
theorem dX9_paint_9 : decode cX9_paint 9 = .ok (.aload_n 0, 1) := by decide +kernel
theorem dX9_paint_10 : decode cX9_paint 10 = .ok (.getfield 35, 3) := by decide +kernel
theorem dX9_paint_13 : decode cX9_paint 13 = .ok (.iload_n 1, 1) := by decide +kernel
theorem dX9_paint_14 : decode cX9_paint 14 = .ok (.invokevirtual 161, 3) := by decide +kernel
theorem dX9_paint_17 : decode cX9_paint 17 = .ok (.aload_n 0, 1) := by decide +kernel
theorem dX9_paint_18 : decode cX9_paint 18 = .ok (.getfield 35, 3) := by decide +kernel
theorem dX9_paint_21 : decode cX9_paint 21 = .ok (.invokevirtual 165, 3) := by decide +kernel
theorem dX9_paint_24 : decode cX9_paint 24 = .ok (.ireturn, 1) := by decide +kernel
theorem dX9_of_0 : decode cX9_of 0 = .ok (.iload_n 2, 1) := by decide +kernel
theorem dX9_of_1 : decode cX9_of 1 = .ok (.iconst 0, 1) := by decide +kernel
theorem dX9_of_2 : decode cX9_of 2 = .ok (.iconst 4, 1) := by decide +kernel
theorem dX9_of_3 : decode cX9_of 3 = .ok (.invokestatic 82, 3) := by decide +kernel
theorem dX9_of_6 : decode cX9_of 6 = .ok (.ifCond .eq 24, 3) := by decide +kernel
theorem dX9_of_9 : decode cX9_of 9 = .ok (.aload_n 0, 1) := by decide +kernel
theorem dX9_of_10 : decode cX9_of 10 = .ok (.getfield 35, 3) := by decide +kernel
theorem dX9_of_13 : decode cX9_of 13 = .ok (.iload_n 1, 1) := by decide +kernel
theorem dX9_of_14 : decode cX9_of 14 = .ok (.invokevirtual 168, 3) := by decide +kernel
theorem dX9_of_17 : decode cX9_of 17 = .ok (.ifCond .eq 13, 3) := by decide +kernel
theorem dX9_of_20 : decode cX9_of 20 = .ok (.aload_n 0, 1) := by decide +kernel
theorem dX9_of_21 : decode cX9_of 21 = .ok (.getfield 35, 3) := by decide +kernel
theorem dX9_of_24 : decode cX9_of 24 = .ok (.iload_n 1, 1) := by decide +kernel
theorem dX9_of_25 : decode cX9_of 25 = .ok (.iload_n 2, 1) := by decide +kernel
theorem dX9_of_26 : decode cX9_of 26 = .ok (.invokevirtual 169, 3) := by decide +kernel
theorem dX9_of_29 : decode cX9_of 29 = .ok (.ireturn, 1) := by decide +kernel
theorem dX9_of_30 : decode cX9_of 30 = .ok (.iload_n 2, 1) := by decide +kernel
theorem dX9_of_31 : decode cX9_of 31 = .ok (.bipush 10, 2) := by decide +kernel
theorem dX9_of_33 : decode cX9_of 33 = .ok (.bipush 14, 2) := by decide +kernel
theorem dX9_of_35 : decode cX9_of 35 = .ok (.invokestatic 82, 3) := by decide +kernel
theorem dX9_of_38 : decode cX9_of 38 = .ok (.ifCond .eq 27, 3) := by decide +kernel
theorem dX9_of_41 : decode cX9_of 41 = .ok (.aload_n 0, 1) := by decide +kernel
theorem dX9_of_42 : decode cX9_of 42 = .ok (.getfield 28, 3) := by decide +kernel
theorem dX9_of_45 : decode cX9_of 45 = .ok (.iload_n 1, 1) := by decide +kernel
theorem dX9_of_46 : decode cX9_of 46 = .ok (.invokevirtual 132, 3) := by decide +kernel
theorem dX9_of_49 : decode cX9_of 49 = .ok (.ifCond .eq 16, 3) := by decide +kernel
theorem dX9_of_52 : decode cX9_of 52 = .ok (.aload_n 0, 1) := by decide +kernel
theorem dX9_of_53 : decode cX9_of 53 = .ok (.getfield 28, 3) := by decide +kernel
theorem dX9_of_56 : decode cX9_of 56 = .ok (.iload_n 1, 1) := by decide +kernel
theorem dX9_of_57 : decode cX9_of 57 = .ok (.iload_n 2, 1) := by decide +kernel
theorem dX9_of_58 : decode cX9_of 58 = .ok (.bipush 10, 2) := by decide +kernel
theorem dX9_of_60 : decode cX9_of 60 = .ok (.isub, 1) := by decide +kernel
theorem dX9_of_61 : decode cX9_of 61 = .ok (.invokevirtual 172, 3) := by decide +kernel
theorem dX9_of_64 : decode cX9_of 64 = .ok (.ireturn, 1) := by decide +kernel
theorem dX9_of_65 : decode cX9_of 65 = .ok (.ldc 173, 2) := by decide +kernel
theorem dX9_of_67 : decode cX9_of 67 = .ok (.ireturn, 1) := by decide +kernel
theorem dX9_mend_0 : decode cX9_mend 0 = .ok (.aload_n 0, 1) := by decide +kernel
theorem dX9_mend_1 : decode cX9_mend 1 = .ok (.iload_n 1, 1) := by decide +kernel
theorem dX9_mend_2 : decode cX9_mend 2 = .ok (.iload_n 2, 1) := by decide +kernel
theorem dX9_mend_3 : decode cX9_mend 3 = .ok (.iload_n 3, 1) := by decide +kernel
theorem dX9_mend_4 : decode cX9_mend 4 = .ok (.invokevirtual 174, 3) := by decide +kernel
theorem dX9_mend_7 : decode cX9_mend 7 = .ok (.ifCond .ne 6, 3) := by decide +kernel
theorem dX9_mend_10 : decode cX9_mend 10 = .ok (.ldc 173, 2) := by decide +kernel
theorem dX9_mend_12 : decode cX9_mend 12 = .ok (.ireturn, 1) := by decide +kernel
theorem dX9_mend_13 : decode cX9_mend 13 = .ok (.aload_n 0, 1) := by decide +kernel
theorem dX9_mend_14 : decode cX9_mend 14 = .ok (.getfield 60, 3) := by decide +kernel
theorem dX9_mend_17 : decode cX9_mend 17 = .ok (.iload_n 1, 1) := by decide +kernel
theorem dX9_mend_18 : decode cX9_mend 18 = .ok (.iload_n 2, 1) := by decide +kernel
theorem dX9_mend_19 : decode cX9_mend 19 = .ok (.iload_n 3, 1) := by decide +kernel
theorem dX9_mend_20 : decode cX9_mend 20 = .ok (.invokevirtual 177, 3) := by decide +kernel
theorem dX9_mend_23 : decode cX9_mend 23 = .ok (.istore 4, 2) := by decide +kernel
theorem dX9_mend_25 : decode cX9_mend 25 = .ok (.aload_n 0, 1) := by decide +kernel
theorem dX9_mend_26 : decode cX9_mend 26 = .ok (.getfield 28, 3) := by decide +kernel
theorem dX9_mend_29 : decode cX9_mend 29 = .ok (.invokevirtual 100, 3) := by decide +kernel
theorem dX9_mend_32 : decode cX9_mend 32 = .ok (.iload 4, 2) := by decide +kernel
theorem dX9_mend_34 : decode cX9_mend 34 = .ok (.ireturn, 1) := by decide +kernel
theorem dX9_off_0 : decode cX9_off 0 = .ok (.aload_n 0, 1) := by decide +kernel
theorem dX9_off_1 : decode cX9_off 1 = .ok (.iload_n 1, 1) := by decide +kernel
theorem dX9_off_2 : decode cX9_off 2 = .ok (.invokevirtual 180, 3) := by decide +kernel
theorem dX9_off_5 : decode cX9_off 5 = .ok (.ifCond .eq 19, 3) := by decide +kernel
theorem dX9_off_8 : decode cX9_off 8 = .ok (.iload_n 2, 1) := by decide +kernel
theorem dX9_off_9 : decode cX9_off 9 = .ok (.invokestatic 78, 3) := by decide +kernel
theorem dX9_off_12 : decode cX9_off 12 = .ok (.ifCond .eq 12, 3) := by decide +kernel
theorem dX9_off_15 : decode cX9_off 15 = .ok (.iload_n 3, 1) := by decide +kernel
theorem dX9_off_16 : decode cX9_off 16 = .ok (.iconst 0, 1) := by decide +kernel
theorem dX9_off_17 : decode cX9_off 17 = .ok (.iconst 4, 1) := by decide +kernel
theorem dX9_off_18 : decode cX9_off 18 = .ok (.invokestatic 82, 3) := by decide +kernel
theorem dX9_off_21 : decode cX9_off 21 = .ok (.ifCond .ne 5, 3) := by decide +kernel
theorem dX9_off_24 : decode cX9_off 24 = .ok (.iconst (-1), 1) := by decide +kernel
theorem dX9_off_25 : decode cX9_off 25 = .ok (.ireturn, 1) := by decide +kernel
theorem dX9_off_26 : decode cX9_off 26 = .ok (.aload_n 0, 1) := by decide +kernel
theorem dX9_off_27 : decode cX9_off 27 = .ok (.getfield 44, 3) := by decide +kernel
theorem dX9_off_30 : decode cX9_off 30 = .ok (.aload_n 0, 1) := by decide +kernel
theorem dX9_off_31 : decode cX9_off 31 = .ok (.getfield 35, 3) := by decide +kernel
theorem dX9_off_34 : decode cX9_off 34 = .ok (.iload_n 1, 1) := by decide +kernel
theorem dX9_off_35 : decode cX9_off 35 = .ok (.bipush 10, 2) := by decide +kernel
theorem dX9_off_37 : decode cX9_off 37 = .ok (.idiv, 1) := by decide +kernel
theorem dX9_off_38 : decode cX9_off 38 = .ok (.invokevirtual 183, 3) := by decide +kernel
theorem dX9_off_41 : decode cX9_off 41 = .ok (.iload_n 1, 1) := by decide +kernel
theorem dX9_off_42 : decode cX9_off 42 = .ok (.bipush 10, 2) := by decide +kernel
theorem dX9_off_44 : decode cX9_off 44 = .ok (.irem, 1) := by decide +kernel
theorem dX9_off_45 : decode cX9_off 45 = .ok (.iload_n 2, 1) := by decide +kernel
theorem dX9_off_46 : decode cX9_off 46 = .ok (.iload_n 3, 1) := by decide +kernel
theorem dX9_off_47 : decode cX9_off 47 = .ok (.invokevirtual 186, 3) := by decide +kernel
theorem dX9_off_50 : decode cX9_off 50 = .ok (.ireturn, 1) := by decide +kernel
theorem dX9_whose_0 : decode cX9_whose 0 = .ok (.aload_n 0, 1) := by decide +kernel
theorem dX9_whose_1 : decode cX9_whose 1 = .ok (.getfield 35, 3) := by decide +kernel
theorem dX9_whose_4 : decode cX9_whose 4 = .ok (.iload_n 1, 1) := by decide +kernel
theorem dX9_whose_5 : decode cX9_whose 5 = .ok (.invokevirtual 168, 3) := by decide +kernel
theorem dX9_whose_8 : decode cX9_whose 8 = .ok (.ifCond .eq 12, 3) := by decide +kernel
theorem dX9_whose_11 : decode cX9_whose 11 = .ok (.iload_n 2, 1) := by decide +kernel
theorem dX9_whose_12 : decode cX9_whose 12 = .ok (.iconst 0, 1) := by decide +kernel
theorem dX9_whose_13 : decode cX9_whose 13 = .ok (.iconst 2, 1) := by decide +kernel
theorem dX9_whose_14 : decode cX9_whose 14 = .ok (.invokestatic 82, 3) := by decide +kernel
theorem dX9_whose_17 : decode cX9_whose 17 = .ok (.ifCond .ne 5, 3) := by decide +kernel
theorem dX9_whose_20 : decode cX9_whose 20 = .ok (.iconst (-1), 1) := by decide +kernel
theorem dX9_whose_21 : decode cX9_whose 21 = .ok (.ireturn, 1) := by decide +kernel
theorem dX9_whose_22 : decode cX9_whose 22 = .ok (.aload_n 0, 1) := by decide +kernel
theorem dX9_whose_23 : decode cX9_whose 23 = .ok (.getfield 44, 3) := by decide +kernel
theorem dX9_whose_26 : decode cX9_whose 26 = .ok (.iload_n 1, 1) := by decide +kernel
theorem dX9_whose_27 : decode cX9_whose 27 = .ok (.invokevirtual 189, 3) := by decide +kernel
theorem dX9_whose_30 : decode cX9_whose 30 = .ok (.ifCond .ne 6, 3) := by decide +kernel
theorem dX9_whose_33 : decode cX9_whose 33 = .ok (.bipush (-2), 2) := by decide +kernel
theorem dX9_whose_35 : decode cX9_whose 35 = .ok (.ireturn, 1) := by decide +kernel
theorem dX9_whose_36 : decode cX9_whose 36 = .ok (.iload_n 2, 1) := by decide +kernel
theorem dX9_whose_37 : decode cX9_whose 37 = .ok (.lookupswitch 43 #[(0, 27), (1, 35)], 27) := by decide +kernel
theorem dX9_whose_64 : decode cX9_whose 64 = .ok (.aload_n 0, 1) := by decide +kernel
theorem dX9_whose_65 : decode cX9_whose 65 = .ok (.getfield 44, 3) := by decide +kernel
theorem dX9_whose_68 : decode cX9_whose 68 = .ok (.invokevirtual 192, 3) := by decide +kernel
theorem dX9_whose_71 : decode cX9_whose 71 = .ok (.ireturn, 1) := by decide +kernel
theorem dX9_whose_72 : decode cX9_whose 72 = .ok (.aload_n 0, 1) := by decide +kernel
theorem dX9_whose_73 : decode cX9_whose 73 = .ok (.getfield 44, 3) := by decide +kernel
theorem dX9_whose_76 : decode cX9_whose 76 = .ok (.invokevirtual 195, 3) := by decide +kernel
theorem dX9_whose_79 : decode cX9_whose 79 = .ok (.ireturn, 1) := by decide +kernel
theorem dX9_whose_80 : decode cX9_whose 80 = .ok (.aload_n 0, 1) := by decide +kernel
theorem dX9_whose_81 : decode cX9_whose 81 = .ok (.getfield 44, 3) := by decide +kernel
theorem dX9_whose_84 : decode cX9_whose 84 = .ok (.invokevirtual 198, 3) := by decide +kernel
theorem dX9_whose_87 : decode cX9_whose 87 = .ok (.ireturn, 1) := by decide +kernel
theorem dX9_odds_0 : decode cX9_odds 0 = .ok (.aload_n 0, 1) := by decide +kernel
theorem dX9_odds_1 : decode cX9_odds 1 = .ok (.iload_n 1, 1) := by decide +kernel
theorem dX9_odds_2 : decode cX9_odds 2 = .ok (.invokevirtual 180, 3) := by decide +kernel
theorem dX9_odds_5 : decode cX9_odds 5 = .ok (.ifCond .eq 21, 3) := by decide +kernel
theorem dX9_odds_8 : decode cX9_odds 8 = .ok (.aload_n 0, 1) := by decide +kernel
theorem dX9_odds_9 : decode cX9_odds 9 = .ok (.getfield 44, 3) := by decide +kernel
theorem dX9_odds_12 : decode cX9_odds 12 = .ok (.iload_n 1, 1) := by decide +kernel
theorem dX9_odds_13 : decode cX9_odds 13 = .ok (.bipush 10, 2) := by decide +kernel
theorem dX9_odds_15 : decode cX9_odds 15 = .ok (.idiv, 1) := by decide +kernel
theorem dX9_odds_16 : decode cX9_odds 16 = .ok (.iload_n 1, 1) := by decide +kernel
theorem dX9_odds_17 : decode cX9_odds 17 = .ok (.bipush 10, 2) := by decide +kernel
theorem dX9_odds_19 : decode cX9_odds 19 = .ok (.irem, 1) := by decide +kernel
theorem dX9_odds_20 : decode cX9_odds 20 = .ok (.invokevirtual 201, 3) := by decide +kernel
theorem dX9_odds_23 : decode cX9_odds 23 = .ok (.goto 4, 3) := by decide +kernel
theorem dX9_odds_26 : decode cX9_odds 26 = .ok (.iconst (-1), 1) := by decide +kernel
theorem dX9_odds_27 : decode cX9_odds 27 = .ok (.ireturn, 1) := by decide +kernel
theorem dX9_how_0 : decode cX9_how 0 = .ok (.aload_n 0, 1) := by decide +kernel
theorem dX9_how_1 : decode cX9_how 1 = .ok (.getfield 35, 3) := by decide +kernel
theorem dX9_how_4 : decode cX9_how 4 = .ok (.iload_n 1, 1) := by decide +kernel
theorem dX9_how_5 : decode cX9_how 5 = .ok (.invokevirtual 168, 3) := by decide +kernel
theorem dX9_how_8 : decode cX9_how 8 = .ok (.ifCond .eq 12, 3) := by decide +kernel
theorem dX9_how_11 : decode cX9_how 11 = .ok (.iload_n 2, 1) := by decide +kernel
theorem dX9_how_12 : decode cX9_how 12 = .ok (.iconst 0, 1) := by decide +kernel
theorem dX9_how_13 : decode cX9_how 13 = .ok (.iconst 1, 1) := by decide +kernel
theorem dX9_how_14 : decode cX9_how 14 = .ok (.invokestatic 82, 3) := by decide +kernel
theorem dX9_how_17 : decode cX9_how 17 = .ok (.ifCond .ne 5, 3) := by decide +kernel
theorem dX9_how_20 : decode cX9_how 20 = .ok (.iconst (-1), 1) := by decide +kernel
theorem dX9_how_21 : decode cX9_how 21 = .ok (.ireturn, 1) := by decide +kernel
theorem dX9_how_22 : decode cX9_how 22 = .ok (.aload_n 0, 1) := by decide +kernel
theorem dX9_how_23 : decode cX9_how 23 = .ok (.getfield 44, 3) := by decide +kernel
theorem dX9_how_26 : decode cX9_how 26 = .ok (.iload_n 1, 1) := by decide +kernel
theorem dX9_how_27 : decode cX9_how 27 = .ok (.invokevirtual 189, 3) := by decide +kernel
theorem dX9_how_30 : decode cX9_how 30 = .ok (.ifCond .ne 6, 3) := by decide +kernel
theorem dX9_how_33 : decode cX9_how 33 = .ok (.bipush (-2), 2) := by decide +kernel
theorem dX9_how_35 : decode cX9_how 35 = .ok (.ireturn, 1) := by decide +kernel
theorem dX9_how_36 : decode cX9_how 36 = .ok (.iload_n 2, 1) := by decide +kernel
theorem dX9_how_37 : decode cX9_how 37 = .ok (.ifCond .ne 14, 3) := by decide +kernel
theorem dX9_how_40 : decode cX9_how 40 = .ok (.aload_n 0, 1) := by decide +kernel
theorem dX9_how_41 : decode cX9_how 41 = .ok (.getfield 44, 3) := by decide +kernel
theorem dX9_how_44 : decode cX9_how 44 = .ok (.iload_n 1, 1) := by decide +kernel
theorem dX9_how_45 : decode cX9_how 45 = .ok (.invokevirtual 204, 3) := by decide +kernel
theorem dX9_how_48 : decode cX9_how 48 = .ok (.goto 11, 3) := by decide +kernel
theorem dX9_how_51 : decode cX9_how 51 = .ok (.aload_n 0, 1) := by decide +kernel
theorem dX9_how_52 : decode cX9_how 52 = .ok (.getfield 44, 3) := by decide +kernel
theorem dX9_how_55 : decode cX9_how 55 = .ok (.iload_n 1, 1) := by decide +kernel
theorem dX9_how_56 : decode cX9_how 56 = .ok (.invokevirtual 207, 3) := by decide +kernel
theorem dX9_how_59 : decode cX9_how 59 = .ok (.ireturn, 1) := by decide +kernel
theorem dX9_together_0 : decode cX9_together 0 = .ok (.iload_n 1, 1) := by decide +kernel
theorem dX9_together_1 : decode cX9_together 1 = .ok (.invokestatic 78, 3) := by decide +kernel
theorem dX9_together_4 : decode cX9_together 4 = .ok (.ifCond .ne 5, 3) := by decide +kernel
theorem dX9_together_7 : decode cX9_together 7 = .ok (.iconst (-1), 1) := by decide +kernel
theorem dX9_together_8 : decode cX9_together 8 = .ok (.ireturn, 1) := by decide +kernel
theorem dX9_together_9 : decode cX9_together 9 = .ok (.aload_n 0, 1) := by decide +kernel
theorem dX9_together_10 : decode cX9_together 10 = .ok (.getfield 44, 3) := by decide +kernel
theorem dX9_together_13 : decode cX9_together 13 = .ok (.iload_n 1, 1) := by decide +kernel
theorem dX9_together_14 : decode cX9_together 14 = .ok (.invokevirtual 210, 3) := by decide +kernel
theorem dX9_together_17 : decode cX9_together 17 = .ok (.istore_n 3, 1) := by decide +kernel
theorem dX9_together_18 : decode cX9_together 18 = .ok (.iload_n 2, 1) := by decide +kernel
theorem dX9_together_19 : decode cX9_together 19 = .ok (.iconst (-1), 1) := by decide +kernel
theorem dX9_together_20 : decode cX9_together 20 = .ok (.if_icmp .lt 8, 3) := by decide +kernel
theorem dX9_together_23 : decode cX9_together 23 = .ok (.iload_n 2, 1) := by decide +kernel
theorem dX9_together_24 : decode cX9_together 24 = .ok (.iload_n 3, 1) := by decide +kernel
theorem dX9_together_25 : decode cX9_together 25 = .ok (.if_icmp .lt 5, 3) := by decide +kernel
theorem dX9_together_28 : decode cX9_together 28 = .ok (.iconst (-1), 1) := by decide +kernel
theorem dX9_together_29 : decode cX9_together 29 = .ok (.ireturn, 1) := by decide +kernel
theorem dX9_together_30 : decode cX9_together 30 = .ok (.aload_n 0, 1) := by decide +kernel
theorem dX9_together_31 : decode cX9_together 31 = .ok (.getfield 44, 3) := by decide +kernel
theorem dX9_together_34 : decode cX9_together 34 = .ok (.iload_n 1, 1) := by decide +kernel
theorem dX9_together_35 : decode cX9_together 35 = .ok (.invokevirtual 213, 3) := by decide +kernel
theorem dX9_together_38 : decode cX9_together 38 = .ok (.ifCond .ne 6, 3) := by decide +kernel
theorem dX9_together_41 : decode cX9_together 41 = .ok (.bipush (-2), 2) := by decide +kernel
theorem dX9_together_43 : decode cX9_together 43 = .ok (.ireturn, 1) := by decide +kernel
theorem dX9_together_44 : decode cX9_together 44 = .ok (.iload_n 2, 1) := by decide +kernel
theorem dX9_together_45 : decode cX9_together 45 = .ok (.ifCond .ge 13, 3) := by decide +kernel
theorem dX9_together_48 : decode cX9_together 48 = .ok (.aload_n 0, 1) := by decide +kernel
theorem dX9_together_49 : decode cX9_together 49 = .ok (.getfield 44, 3) := by decide +kernel
theorem dX9_together_52 : decode cX9_together 52 = .ok (.invokevirtual 216, 3) := by decide +kernel
theorem dX9_together_55 : decode cX9_together 55 = .ok (.goto 11, 3) := by decide +kernel
theorem dX9_together_58 : decode cX9_together 58 = .ok (.aload_n 0, 1) := by decide +kernel
theorem dX9_together_59 : decode cX9_together 59 = .ok (.getfield 44, 3) := by decide +kernel
theorem dX9_together_62 : decode cX9_together 62 = .ok (.iload_n 2, 1) := by decide +kernel
theorem dX9_together_63 : decode cX9_together 63 = .ok (.invokevirtual 219, 3) := by decide +kernel
theorem dX9_together_66 : decode cX9_together 66 = .ok (.ireturn, 1) := by decide +kernel
theorem dX9_turned_0 : decode cX9_turned 0 = .ok (.aload_n 0, 1) := by decide +kernel
theorem dX9_turned_1 : decode cX9_turned 1 = .ok (.getfield 28, 3) := by decide +kernel
theorem dX9_turned_4 : decode cX9_turned 4 = .ok (.iload_n 1, 1) := by decide +kernel
theorem dX9_turned_5 : decode cX9_turned 5 = .ok (.invokevirtual 132, 3) := by decide +kernel
theorem dX9_turned_8 : decode cX9_turned 8 = .ok (.ifCond .eq 12, 3) := by decide +kernel
theorem dX9_turned_11 : decode cX9_turned 11 = .ok (.iload_n 2, 1) := by decide +kernel
theorem dX9_turned_12 : decode cX9_turned 12 = .ok (.iconst 0, 1) := by decide +kernel
theorem dX9_turned_13 : decode cX9_turned 13 = .ok (.iconst 1, 1) := by decide +kernel
theorem dX9_turned_14 : decode cX9_turned 14 = .ok (.invokestatic 82, 3) := by decide +kernel
theorem dX9_turned_17 : decode cX9_turned 17 = .ok (.ifCond .ne 5, 3) := by decide +kernel
theorem dX9_turned_20 : decode cX9_turned 20 = .ok (.iconst (-1), 1) := by decide +kernel
theorem dX9_turned_21 : decode cX9_turned 21 = .ok (.ireturn, 1) := by decide +kernel
theorem dX9_turned_22 : decode cX9_turned 22 = .ok (.iload_n 2, 1) := by decide +kernel
theorem dX9_turned_23 : decode cX9_turned 23 = .ok (.ifCond .ne 14, 3) := by decide +kernel
theorem dX9_turned_26 : decode cX9_turned 26 = .ok (.aload_n 0, 1) := by decide +kernel
theorem dX9_turned_27 : decode cX9_turned 27 = .ok (.getfield 35, 3) := by decide +kernel
theorem dX9_turned_30 : decode cX9_turned 30 = .ok (.iload_n 1, 1) := by decide +kernel
theorem dX9_turned_31 : decode cX9_turned 31 = .ok (.invokevirtual 222, 3) := by decide +kernel
theorem dX9_turned_34 : decode cX9_turned 34 = .ok (.goto 11, 3) := by decide +kernel
theorem dX9_turned_37 : decode cX9_turned 37 = .ok (.aload_n 0, 1) := by decide +kernel
theorem dX9_turned_38 : decode cX9_turned 38 = .ok (.getfield 35, 3) := by decide +kernel
theorem dX9_turned_41 : decode cX9_turned 41 = .ok (.iload_n 1, 1) := by decide +kernel
theorem dX9_turned_42 : decode cX9_turned 42 = .ok (.invokevirtual 225, 3) := by decide +kernel
theorem dX9_turned_45 : decode cX9_turned 45 = .ok (.ireturn, 1) := by decide +kernel
theorem dX9_led_0 : decode cX9_led 0 = .ok (.aload_n 0, 1) := by decide +kernel
theorem dX9_led_1 : decode cX9_led 1 = .ok (.getfield 28, 3) := by decide +kernel
theorem dX9_led_4 : decode cX9_led 4 = .ok (.iload_n 1, 1) := by decide +kernel
theorem dX9_led_5 : decode cX9_led 5 = .ok (.invokevirtual 132, 3) := by decide +kernel
theorem dX9_led_8 : decode cX9_led 8 = .ok (.ifCond .eq 14, 3) := by decide +kernel
theorem dX9_led_11 : decode cX9_led 11 = .ok (.aload_n 0, 1) := by decide +kernel
theorem dX9_led_12 : decode cX9_led 12 = .ok (.getfield 44, 3) := by decide +kernel
theorem dX9_led_15 : decode cX9_led 15 = .ok (.iload_n 1, 1) := by decide +kernel
theorem dX9_led_16 : decode cX9_led 16 = .ok (.invokevirtual 228, 3) := by decide +kernel
theorem dX9_led_19 : decode cX9_led 19 = .ok (.goto 4, 3) := by decide +kernel
theorem dX9_led_22 : decode cX9_led 22 = .ok (.iconst (-1), 1) := by decide +kernel
theorem dX9_led_23 : decode cX9_led 23 = .ok (.ireturn, 1) := by decide +kernel
theorem dX9_tall_0 : decode cX9_tall 0 = .ok (.aload_n 0, 1) := by decide +kernel
theorem dX9_tall_1 : decode cX9_tall 1 = .ok (.getfield 28, 3) := by decide +kernel
theorem dX9_tall_4 : decode cX9_tall 4 = .ok (.iload_n 1, 1) := by decide +kernel
theorem dX9_tall_5 : decode cX9_tall 5 = .ok (.invokevirtual 132, 3) := by decide +kernel
theorem dX9_tall_8 : decode cX9_tall 8 = .ok (.ifCond .ne 6, 3) := by decide +kernel
theorem dX9_tall_11 : decode cX9_tall 11 = .ok (.ldc 173, 2) := by decide +kernel
theorem dX9_tall_13 : decode cX9_tall 13 = .ok (.ireturn, 1) := by decide +kernel
theorem dX9_tall_14 : decode cX9_tall 14 = .ok (.iload_n 2, 1) := by decide +kernel
theorem dX9_tall_15 : decode cX9_tall 15 = .ok (.tableswitch 109 0 4 #[33, 42, 51, 60, 91], 33) := by decide +kernel
theorem dX9_tall_48 : decode cX9_tall 48 = .ok (.aload_n 0, 1) := by decide +kernel
theorem dX9_tall_49 : decode cX9_tall 49 = .ok (.getfield 53, 3) := by decide +kernel
theorem dX9_tall_52 : decode cX9_tall 52 = .ok (.iload_n 1, 1) := by decide +kernel
theorem dX9_tall_53 : decode cX9_tall 53 = .ok (.invokevirtual 231, 3) := by decide +kernel
theorem dX9_tall_56 : decode cX9_tall 56 = .ok (.ireturn, 1) := by decide +kernel
theorem dX9_tall_57 : decode cX9_tall 57 = .ok (.aload_n 0, 1) := by decide +kernel
theorem dX9_tall_58 : decode cX9_tall 58 = .ok (.getfield 53, 3) := by decide +kernel
theorem dX9_tall_61 : decode cX9_tall 61 = .ok (.iload_n 1, 1) := by decide +kernel
theorem dX9_tall_62 : decode cX9_tall 62 = .ok (.invokevirtual 234, 3) := by decide +kernel
theorem dX9_tall_65 : decode cX9_tall 65 = .ok (.ireturn, 1) := by decide +kernel
theorem dX9_tall_66 : decode cX9_tall 66 = .ok (.aload_n 0, 1) := by decide +kernel
theorem dX9_tall_67 : decode cX9_tall 67 = .ok (.getfield 53, 3) := by decide +kernel
theorem dX9_tall_70 : decode cX9_tall 70 = .ok (.iload_n 1, 1) := by decide +kernel
theorem dX9_tall_71 : decode cX9_tall 71 = .ok (.invokevirtual 237, 3) := by decide +kernel
theorem dX9_tall_74 : decode cX9_tall 74 = .ok (.ireturn, 1) := by decide +kernel
theorem dX9_tall_75 : decode cX9_tall 75 = .ok (.aload_n 0, 1) := by decide +kernel
theorem dX9_tall_76 : decode cX9_tall 76 = .ok (.getfield 53, 3) := by decide +kernel
theorem dX9_tall_79 : decode cX9_tall 79 = .ok (.iload_n 1, 1) := by decide +kernel
theorem dX9_tall_80 : decode cX9_tall 80 = .ok (.invokevirtual 234, 3) := by decide +kernel
theorem dX9_tall_83 : decode cX9_tall 83 = .ok (.istore_n 3, 1) := by decide +kernel
theorem dX9_tall_84 : decode cX9_tall 84 = .ok (.iload_n 3, 1) := by decide +kernel
theorem dX9_tall_85 : decode cX9_tall 85 = .ok (.bipush (-2), 2) := by decide +kernel
theorem dX9_tall_87 : decode cX9_tall 87 = .ok (.if_icmp .ne 8, 3) := by decide +kernel
theorem dX9_tall_90 : decode cX9_tall 90 = .ok (.ldc 173, 2) := by decide +kernel
theorem dX9_tall_92 : decode cX9_tall 92 = .ok (.goto 13, 3) := by decide +kernel
theorem dX9_tall_95 : decode cX9_tall 95 = .ok (.aload_n 0, 1) := by decide +kernel
theorem dX9_tall_96 : decode cX9_tall 96 = .ok (.getfield 53, 3) := by decide +kernel
theorem dX9_tall_99 : decode cX9_tall 99 = .ok (.iload_n 1, 1) := by decide +kernel
theorem dX9_tall_100 : decode cX9_tall 100 = .ok (.invokevirtual 231, 3) := by decide +kernel
theorem dX9_tall_103 : decode cX9_tall 103 = .ok (.iload_n 3, 1) := by decide +kernel
theorem dX9_tall_104 : decode cX9_tall 104 = .ok (.isub, 1) := by decide +kernel
theorem dX9_tall_105 : decode cX9_tall 105 = .ok (.ireturn, 1) := by decide +kernel
theorem dX9_tall_106 : decode cX9_tall 106 = .ok (.aload_n 0, 1) := by decide +kernel
theorem dX9_tall_107 : decode cX9_tall 107 = .ok (.getfield 53, 3) := by decide +kernel
theorem dX9_tall_110 : decode cX9_tall 110 = .ok (.iload_n 1, 1) := by decide +kernel
theorem dX9_tall_111 : decode cX9_tall 111 = .ok (.invokevirtual 231, 3) := by decide +kernel
theorem dX9_tall_114 : decode cX9_tall 114 = .ok (.aload_n 0, 1) := by decide +kernel
theorem dX9_tall_115 : decode cX9_tall 115 = .ok (.getfield 53, 3) := by decide +kernel
theorem dX9_tall_118 : decode cX9_tall 118 = .ok (.iload_n 1, 1) := by decide +kernel
theorem dX9_tall_119 : decode cX9_tall 119 = .ok (.invokevirtual 237, 3) := by decide +kernel
theorem dX9_tall_122 : decode cX9_tall 122 = .ok (.isub, 1) := by decide +kernel
theorem dX9_tall_123 : decode cX9_tall 123 = .ok (.ireturn, 1) := by decide +kernel
theorem dX9_tall_124 : decode cX9_tall 124 = .ok (.ldc 173, 2) := by decide +kernel
theorem dX9_tall_126 : decode cX9_tall 126 = .ok (.ireturn, 1) := by decide +kernel
theorem dX9_year_0 : decode cX9_year 0 = .ok (.aload_n 0, 1) := by decide +kernel
theorem dX9_year_1 : decode cX9_year 1 = .ok (.getfield 28, 3) := by decide +kernel
theorem dX9_year_4 : decode cX9_year 4 = .ok (.iload_n 1, 1) := by decide +kernel
theorem dX9_year_5 : decode cX9_year 5 = .ok (.invokevirtual 132, 3) := by decide +kernel
theorem dX9_year_8 : decode cX9_year 8 = .ok (.ifCond .eq 12, 3) := by decide +kernel
theorem dX9_year_11 : decode cX9_year 11 = .ok (.iload_n 2, 1) := by decide +kernel
theorem dX9_year_12 : decode cX9_year 12 = .ok (.iconst 0, 1) := by decide +kernel
theorem dX9_year_13 : decode cX9_year 13 = .ok (.iconst 3, 1) := by decide +kernel
theorem dX9_year_14 : decode cX9_year 14 = .ok (.invokestatic 82, 3) := by decide +kernel
theorem dX9_year_17 : decode cX9_year 17 = .ok (.ifCond .ne 5, 3) := by decide +kernel
theorem dX9_year_20 : decode cX9_year 20 = .ok (.iconst (-1), 1) := by decide +kernel
theorem dX9_year_21 : decode cX9_year 21 = .ok (.ireturn, 1) := by decide +kernel
theorem dX9_year_22 : decode cX9_year 22 = .ok (.aload_n 0, 1) := by decide +kernel
theorem dX9_year_23 : decode cX9_year 23 = .ok (.getfield 53, 3) := by decide +kernel
theorem dX9_year_26 : decode cX9_year 26 = .ok (.iload_n 1, 1) := by decide +kernel
theorem dX9_year_27 : decode cX9_year 27 = .ok (.iload_n 2, 1) := by decide +kernel
theorem dX9_year_28 : decode cX9_year 28 = .ok (.iconst 2, 1) := by decide +kernel
theorem dX9_year_29 : decode cX9_year 29 = .ok (.if_icmp .ge 7, 3) := by decide +kernel
theorem dX9_year_32 : decode cX9_year 32 = .ok (.iconst 1, 1) := by decide +kernel
theorem dX9_year_33 : decode cX9_year 33 = .ok (.goto 4, 3) := by decide +kernel
theorem dX9_year_36 : decode cX9_year 36 = .ok (.iconst 0, 1) := by decide +kernel
theorem dX9_year_37 : decode cX9_year 37 = .ok (.invokevirtual 240, 3) := by decide +kernel
theorem dX9_year_40 : decode cX9_year 40 = .ok (.istore_n 3, 1) := by decide +kernel
theorem dX9_year_41 : decode cX9_year 41 = .ok (.iload_n 3, 1) := by decide +kernel
theorem dX9_year_42 : decode cX9_year 42 = .ok (.bipush (-2), 2) := by decide +kernel
theorem dX9_year_44 : decode cX9_year 44 = .ok (.if_icmp .ne 6, 3) := by decide +kernel
theorem dX9_year_47 : decode cX9_year 47 = .ok (.bipush (-2), 2) := by decide +kernel
theorem dX9_year_49 : decode cX9_year 49 = .ok (.ireturn, 1) := by decide +kernel
theorem dX9_year_50 : decode cX9_year 50 = .ok (.iload_n 2, 1) := by decide +kernel
theorem dX9_year_51 : decode cX9_year 51 = .ok (.iconst 2, 1) := by decide +kernel
theorem dX9_year_52 : decode cX9_year 52 = .ok (.irem, 1) := by decide +kernel
theorem dX9_year_53 : decode cX9_year 53 = .ok (.ifCond .ne 7, 3) := by decide +kernel
theorem dX9_year_56 : decode cX9_year 56 = .ok (.iload_n 3, 1) := by decide +kernel
theorem dX9_year_57 : decode cX9_year 57 = .ok (.goto 12, 3) := by decide +kernel
theorem dX9_year_60 : decode cX9_year 60 = .ok (.aload_n 0, 1) := by decide +kernel
theorem dX9_year_61 : decode cX9_year 61 = .ok (.getfield 53, 3) := by decide +kernel
theorem dX9_year_64 : decode cX9_year 64 = .ok (.iload_n 1, 1) := by decide +kernel
theorem dX9_year_65 : decode cX9_year 65 = .ok (.iload_n 3, 1) := by decide +kernel
theorem dX9_year_66 : decode cX9_year 66 = .ok (.invokevirtual 244, 3) := by decide +kernel
theorem dX9_year_69 : decode cX9_year 69 = .ok (.ireturn, 1) := by decide +kernel
theorem dX9_line_0 : decode cX9_line 0 = .ok (.aload_n 0, 1) := by decide +kernel
theorem dX9_line_1 : decode cX9_line 1 = .ok (.getfield 28, 3) := by decide +kernel
theorem dX9_line_4 : decode cX9_line 4 = .ok (.iload_n 1, 1) := by decide +kernel
theorem dX9_line_5 : decode cX9_line 5 = .ok (.invokevirtual 132, 3) := by decide +kernel
theorem dX9_line_8 : decode cX9_line 8 = .ok (.ifCond .eq 10, 3) := by decide +kernel
theorem dX9_line_11 : decode cX9_line 11 = .ok (.iload_n 2, 1) := by decide +kernel
theorem dX9_line_12 : decode cX9_line 12 = .ok (.invokestatic 78, 3) := by decide +kernel
theorem dX9_line_15 : decode cX9_line 15 = .ok (.ifCond .ne 6, 3) := by decide +kernel
theorem dX9_line_18 : decode cX9_line 18 = .ok (.ldc 173, 2) := by decide +kernel
theorem dX9_line_20 : decode cX9_line 20 = .ok (.ireturn, 1) := by decide +kernel
theorem dX9_line_21 : decode cX9_line 21 = .ok (.aload_n 0, 1) := by decide +kernel
theorem dX9_line_22 : decode cX9_line 22 = .ok (.getfield 28, 3) := by decide +kernel
theorem dX9_line_25 : decode cX9_line 25 = .ok (.iload_n 1, 1) := by decide +kernel
theorem dX9_line_26 : decode cX9_line 26 = .ok (.iload_n 2, 1) := by decide +kernel
theorem dX9_line_27 : decode cX9_line 27 = .ok (.invokevirtual 247, 3) := by decide +kernel
theorem dX9_line_30 : decode cX9_line 30 = .ok (.ifCond .eq 15, 3) := by decide +kernel
theorem dX9_line_33 : decode cX9_line 33 = .ok (.aload_n 0, 1) := by decide +kernel
theorem dX9_line_34 : decode cX9_line 34 = .ok (.getfield 53, 3) := by decide +kernel
theorem dX9_line_37 : decode cX9_line 37 = .ok (.iload_n 1, 1) := by decide +kernel
theorem dX9_line_38 : decode cX9_line 38 = .ok (.iload_n 2, 1) := by decide +kernel
theorem dX9_line_39 : decode cX9_line 39 = .ok (.invokevirtual 250, 3) := by decide +kernel
theorem dX9_line_42 : decode cX9_line 42 = .ok (.goto 6, 3) := by decide +kernel
theorem dX9_line_45 : decode cX9_line 45 = .ok (.sipush (-1000), 3) := by decide +kernel
theorem dX9_line_48 : decode cX9_line 48 = .ok (.ireturn, 1) := by decide +kernel
theorem dX9_falls_0 : decode cX9_falls 0 = .ok (.aload_n 0, 1) := by decide +kernel
theorem dX9_falls_1 : decode cX9_falls 1 = .ok (.getfield 28, 3) := by decide +kernel
theorem dX9_falls_4 : decode cX9_falls 4 = .ok (.iload_n 1, 1) := by decide +kernel
theorem dX9_falls_5 : decode cX9_falls 5 = .ok (.invokevirtual 132, 3) := by decide +kernel
theorem dX9_falls_8 : decode cX9_falls 8 = .ok (.ifCond .eq 14, 3) := by decide +kernel
theorem dX9_falls_11 : decode cX9_falls 11 = .ok (.aload_n 0, 1) := by decide +kernel
theorem dX9_falls_12 : decode cX9_falls 12 = .ok (.getfield 53, 3) := by decide +kernel
theorem dX9_falls_15 : decode cX9_falls 15 = .ok (.iload_n 1, 1) := by decide +kernel
theorem dX9_falls_16 : decode cX9_falls 16 = .ok (.invokevirtual 253, 3) := by decide +kernel
theorem dX9_falls_19 : decode cX9_falls 19 = .ok (.goto 4, 3) := by decide +kernel
theorem dX9_falls_22 : decode cX9_falls 22 = .ok (.iconst (-1), 1) := by decide +kernel
theorem dX9_falls_23 : decode cX9_falls 23 = .ok (.ireturn, 1) := by decide +kernel
theorem dX9_overtakes_0 : decode cX9_overtakes 0 = .ok (.iload_n 1, 1) := by decide +kernel
theorem dX9_overtakes_1 : decode cX9_overtakes 1 = .ok (.ifCond .lt 42, 3) := by decide +kernel
theorem dX9_overtakes_4 : decode cX9_overtakes 4 = .ok (.aload_n 0, 1) := by decide +kernel
theorem dX9_overtakes_5 : decode cX9_overtakes 5 = .ok (.getfield 28, 3) := by decide +kernel
theorem dX9_overtakes_8 : decode cX9_overtakes 8 = .ok (.iload_n 1, 1) := by decide +kernel
theorem dX9_overtakes_9 : decode cX9_overtakes 9 = .ok (.bipush 10, 2) := by decide +kernel
theorem dX9_overtakes_11 : decode cX9_overtakes 11 = .ok (.idiv, 1) := by decide +kernel
theorem dX9_overtakes_12 : decode cX9_overtakes 12 = .ok (.invokevirtual 132, 3) := by decide +kernel
theorem dX9_overtakes_15 : decode cX9_overtakes 15 = .ok (.ifCond .eq 28, 3) := by decide +kernel
theorem dX9_overtakes_18 : decode cX9_overtakes 18 = .ok (.aload_n 0, 1) := by decide +kernel
theorem dX9_overtakes_19 : decode cX9_overtakes 19 = .ok (.getfield 28, 3) := by decide +kernel
theorem dX9_overtakes_22 : decode cX9_overtakes 22 = .ok (.iload_n 1, 1) := by decide +kernel
theorem dX9_overtakes_23 : decode cX9_overtakes 23 = .ok (.bipush 10, 2) := by decide +kernel
theorem dX9_overtakes_25 : decode cX9_overtakes 25 = .ok (.irem, 1) := by decide +kernel
theorem dX9_overtakes_26 : decode cX9_overtakes 26 = .ok (.invokevirtual 132, 3) := by decide +kernel
theorem dX9_overtakes_29 : decode cX9_overtakes 29 = .ok (.ifCond .eq 14, 3) := by decide +kernel
theorem dX9_overtakes_32 : decode cX9_overtakes 32 = .ok (.iload_n 1, 1) := by decide +kernel
theorem dX9_overtakes_33 : decode cX9_overtakes 33 = .ok (.bipush 10, 2) := by decide +kernel
theorem dX9_overtakes_35 : decode cX9_overtakes 35 = .ok (.idiv, 1) := by decide +kernel
theorem dX9_overtakes_36 : decode cX9_overtakes 36 = .ok (.iload_n 1, 1) := by decide +kernel
theorem dX9_overtakes_37 : decode cX9_overtakes 37 = .ok (.bipush 10, 2) := by decide +kernel
theorem dX9_overtakes_39 : decode cX9_overtakes 39 = .ok (.irem, 1) := by decide +kernel
theorem dX9_overtakes_40 : decode cX9_overtakes 40 = .ok (.if_icmp .ne 5, 3) := by decide +kernel
theorem dX9_overtakes_43 : decode cX9_overtakes 43 = .ok (.iconst (-1), 1) := by decide +kernel
theorem dX9_overtakes_44 : decode cX9_overtakes 44 = .ok (.ireturn, 1) := by decide +kernel
theorem dX9_overtakes_45 : decode cX9_overtakes 45 = .ok (.aload_n 0, 1) := by decide +kernel
theorem dX9_overtakes_46 : decode cX9_overtakes 46 = .ok (.getfield 53, 3) := by decide +kernel
theorem dX9_overtakes_49 : decode cX9_overtakes 49 = .ok (.iload_n 1, 1) := by decide +kernel
theorem dX9_overtakes_50 : decode cX9_overtakes 50 = .ok (.bipush 10, 2) := by decide +kernel
theorem dX9_overtakes_52 : decode cX9_overtakes 52 = .ok (.idiv, 1) := by decide +kernel
theorem dX9_overtakes_53 : decode cX9_overtakes 53 = .ok (.iload_n 1, 1) := by decide +kernel
theorem dX9_overtakes_54 : decode cX9_overtakes 54 = .ok (.bipush 10, 2) := by decide +kernel
theorem dX9_overtakes_56 : decode cX9_overtakes 56 = .ok (.irem, 1) := by decide +kernel
theorem dX9_overtakes_57 : decode cX9_overtakes 57 = .ok (.invokevirtual 256, 3) := by decide +kernel
theorem dX9_overtakes_60 : decode cX9_overtakes 60 = .ok (.ireturn, 1) := by decide +kernel
theorem dX9_enough_0 : decode cX9_enough 0 = .ok (.aload_n 0, 1) := by decide +kernel
theorem dX9_enough_1 : decode cX9_enough 1 = .ok (.getfield 28, 3) := by decide +kernel
theorem dX9_enough_4 : decode cX9_enough 4 = .ok (.iload_n 1, 1) := by decide +kernel
theorem dX9_enough_5 : decode cX9_enough 5 = .ok (.invokevirtual 132, 3) := by decide +kernel
theorem dX9_enough_8 : decode cX9_enough 8 = .ok (.ifCond .eq 20, 3) := by decide +kernel
theorem dX9_enough_11 : decode cX9_enough 11 = .ok (.iload_n 2, 1) := by decide +kernel
theorem dX9_enough_12 : decode cX9_enough 12 = .ok (.invokestatic 103, 3) := by decide +kernel
theorem dX9_enough_15 : decode cX9_enough 15 = .ok (.ifCond .eq 13, 3) := by decide +kernel
theorem dX9_enough_18 : decode cX9_enough 18 = .ok (.iload_n 3, 1) := by decide +kernel
theorem dX9_enough_19 : decode cX9_enough 19 = .ok (.iconst 1, 1) := by decide +kernel
theorem dX9_enough_20 : decode cX9_enough 20 = .ok (.bipush 9, 2) := by decide +kernel
theorem dX9_enough_22 : decode cX9_enough 22 = .ok (.invokestatic 82, 3) := by decide +kernel
theorem dX9_enough_25 : decode cX9_enough 25 = .ok (.ifCond .ne 6, 3) := by decide +kernel
theorem dX9_enough_28 : decode cX9_enough 28 = .ok (.ldc 173, 2) := by decide +kernel
theorem dX9_enough_30 : decode cX9_enough 30 = .ok (.ireturn, 1) := by decide +kernel
theorem dX9_enough_31 : decode cX9_enough 31 = .ok (.aload_n 0, 1) := by decide +kernel
theorem dX9_enough_32 : decode cX9_enough 32 = .ok (.getfield 28, 3) := by decide +kernel
theorem dX9_enough_35 : decode cX9_enough 35 = .ok (.iload_n 1, 1) := by decide +kernel
theorem dX9_enough_36 : decode cX9_enough 36 = .ok (.iload_n 2, 1) := by decide +kernel
theorem dX9_enough_37 : decode cX9_enough 37 = .ok (.sipush 1000, 3) := by decide +kernel
theorem dX9_enough_40 : decode cX9_enough 40 = .ok (.idiv, 1) := by decide +kernel
theorem dX9_enough_41 : decode cX9_enough 41 = .ok (.iload_n 2, 1) := by decide +kernel
theorem dX9_enough_42 : decode cX9_enough 42 = .ok (.sipush 1000, 3) := by decide +kernel
theorem dX9_enough_45 : decode cX9_enough 45 = .ok (.irem, 1) := by decide +kernel
theorem dX9_enough_46 : decode cX9_enough 46 = .ok (.iload_n 3, 1) := by decide +kernel
theorem dX9_enough_47 : decode cX9_enough 47 = .ok (.invokevirtual 259, 3) := by decide +kernel
theorem dX9_enough_50 : decode cX9_enough 50 = .ok (.aload_n 0, 1) := by decide +kernel
theorem dX9_enough_51 : decode cX9_enough 51 = .ok (.getfield 28, 3) := by decide +kernel
theorem dX9_enough_54 : decode cX9_enough 54 = .ok (.aload_n 0, 1) := by decide +kernel
theorem dX9_enough_55 : decode cX9_enough 55 = .ok (.getfield 53, 3) := by decide +kernel
theorem dX9_enough_58 : decode cX9_enough 58 = .ok (.iload_n 1, 1) := by decide +kernel
theorem dX9_enough_59 : decode cX9_enough 59 = .ok (.invokevirtual 263, 3) := by decide +kernel
theorem dX9_enough_62 : decode cX9_enough 62 = .ok (.invokevirtual 266, 3) := by decide +kernel
theorem dX9_enough_65 : decode cX9_enough 65 = .ok (.aload_n 0, 1) := by decide +kernel
theorem dX9_enough_66 : decode cX9_enough 66 = .ok (.getfield 53, 3) := by decide +kernel
theorem dX9_enough_69 : decode cX9_enough 69 = .ok (.iload_n 1, 1) := by decide +kernel
theorem dX9_enough_70 : decode cX9_enough 70 = .ok (.invokevirtual 231, 3) := by decide +kernel
theorem dX9_enough_73 : decode cX9_enough 73 = .ok (.isub, 1) := by decide +kernel
theorem dX9_enough_74 : decode cX9_enough 74 = .ok (.ireturn, 1) := by decide +kernel
theorem dX9_slips_0 : decode cX9_slips 0 = .ok (.aload_n 0, 1) := by decide +kernel
theorem dX9_slips_1 : decode cX9_slips 1 = .ok (.getfield 28, 3) := by decide +kernel
theorem dX9_slips_4 : decode cX9_slips 4 = .ok (.iload_n 1, 1) := by decide +kernel
theorem dX9_slips_5 : decode cX9_slips 5 = .ok (.invokevirtual 132, 3) := by decide +kernel
theorem dX9_slips_8 : decode cX9_slips 8 = .ok (.ifCond .eq 29, 3) := by decide +kernel
theorem dX9_slips_11 : decode cX9_slips 11 = .ok (.iload_n 2, 1) := by decide +kernel
theorem dX9_slips_12 : decode cX9_slips 12 = .ok (.invokestatic 78, 3) := by decide +kernel
theorem dX9_slips_15 : decode cX9_slips 15 = .ok (.ifCond .eq 22, 3) := by decide +kernel
theorem dX9_slips_18 : decode cX9_slips 18 = .ok (.iload 4, 2) := by decide +kernel
theorem dX9_slips_20 : decode cX9_slips 20 = .ok (.ifCond .lt 17, 3) := by decide +kernel
theorem dX9_slips_23 : decode cX9_slips 23 = .ok (.iload 4, 2) := by decide +kernel
theorem dX9_slips_25 : decode cX9_slips 25 = .ok (.bipush 100, 2) := by decide +kernel
theorem dX9_slips_27 : decode cX9_slips 27 = .ok (.idiv, 1) := by decide +kernel
theorem dX9_slips_28 : decode cX9_slips 28 = .ok (.iconst 1, 1) := by decide +kernel
theorem dX9_slips_29 : decode cX9_slips 29 = .ok (.bipush 50, 2) := by decide +kernel
theorem dX9_slips_31 : decode cX9_slips 31 = .ok (.invokestatic 82, 3) := by decide +kernel
theorem dX9_slips_34 : decode cX9_slips 34 = .ok (.ifCond .ne 5, 3) := by decide +kernel
theorem dX9_slips_37 : decode cX9_slips 37 = .ok (.iconst (-1), 1) := by decide +kernel
theorem dX9_slips_38 : decode cX9_slips 38 = .ok (.ireturn, 1) := by decide +kernel
theorem dX9_slips_39 : decode cX9_slips 39 = .ok (.aload_n 0, 1) := by decide +kernel
theorem dX9_slips_40 : decode cX9_slips 40 = .ok (.getfield 28, 3) := by decide +kernel
theorem dX9_slips_43 : decode cX9_slips 43 = .ok (.iload_n 1, 1) := by decide +kernel
theorem dX9_slips_44 : decode cX9_slips 44 = .ok (.iload_n 2, 1) := by decide +kernel
theorem dX9_slips_45 : decode cX9_slips 45 = .ok (.invokevirtual 247, 3) := by decide +kernel
theorem dX9_slips_48 : decode cX9_slips 48 = .ok (.ifCond .ne 6, 3) := by decide +kernel
theorem dX9_slips_51 : decode cX9_slips 51 = .ok (.bipush (-2), 2) := by decide +kernel
theorem dX9_slips_53 : decode cX9_slips 53 = .ok (.ireturn, 1) := by decide +kernel
theorem dX9_slips_54 : decode cX9_slips 54 = .ok (.aload_n 0, 1) := by decide +kernel
theorem dX9_slips_55 : decode cX9_slips 55 = .ok (.getfield 44, 3) := by decide +kernel
theorem dX9_slips_58 : decode cX9_slips 58 = .ok (.iload_n 1, 1) := by decide +kernel
theorem dX9_slips_59 : decode cX9_slips 59 = .ok (.iload_n 2, 1) := by decide +kernel
theorem dX9_slips_60 : decode cX9_slips 60 = .ok (.iload_n 3, 1) := by decide +kernel
theorem dX9_slips_61 : decode cX9_slips 61 = .ok (.iload 4, 2) := by decide +kernel
theorem dX9_slips_63 : decode cX9_slips 63 = .ok (.bipush 100, 2) := by decide +kernel
theorem dX9_slips_65 : decode cX9_slips 65 = .ok (.idiv, 1) := by decide +kernel
theorem dX9_slips_66 : decode cX9_slips 66 = .ok (.iload 4, 2) := by decide +kernel
theorem dX9_slips_68 : decode cX9_slips 68 = .ok (.bipush 100, 2) := by decide +kernel
theorem dX9_slips_70 : decode cX9_slips 70 = .ok (.irem, 1) := by decide +kernel
theorem dX9_slips_71 : decode cX9_slips 71 = .ok (.invokevirtual 269, 3) := by decide +kernel
theorem dX9_slips_74 : decode cX9_slips 74 = .ok (.ireturn, 1) := by decide +kernel
theorem dX9_undo_0 : decode cX9_undo 0 = .ok (.aload_n 0, 1) := by decide +kernel
theorem dX9_undo_1 : decode cX9_undo 1 = .ok (.getfield 60, 3) := by decide +kernel
theorem dX9_undo_4 : decode cX9_undo 4 = .ok (.invokevirtual 272, 3) := by decide +kernel
theorem dX9_undo_7 : decode cX9_undo 7 = .ok (.ifCond .ne 6, 3) := by decide +kernel
theorem dX9_undo_10 : decode cX9_undo 10 = .ok (.bipush (-5), 2) := by decide +kernel
theorem dX9_undo_12 : decode cX9_undo 12 = .ok (.ireturn, 1) := by decide +kernel
theorem dX9_undo_13 : decode cX9_undo 13 = .ok (.aload_n 0, 1) := by decide +kernel
theorem dX9_undo_14 : decode cX9_undo 14 = .ok (.getfield 60, 3) := by decide +kernel
theorem dX9_undo_17 : decode cX9_undo 17 = .ok (.invokevirtual 275, 3) := by decide +kernel
theorem dX9_undo_20 : decode cX9_undo 20 = .ok (.aload_n 0, 1) := by decide +kernel
theorem dX9_undo_21 : decode cX9_undo 21 = .ok (.getfield 28, 3) := by decide +kernel
theorem dX9_undo_24 : decode cX9_undo 24 = .ok (.invokevirtual 100, 3) := by decide +kernel
theorem dX9_undo_27 : decode cX9_undo 27 = .ok (.aload_n 0, 1) := by decide +kernel
theorem dX9_undo_28 : decode cX9_undo 28 = .ok (.getfield 60, 3) := by decide +kernel
theorem dX9_undo_31 : decode cX9_undo 31 = .ok (.invokevirtual 272, 3) := by decide +kernel
theorem dX9_undo_34 : decode cX9_undo 34 = .ok (.ireturn, 1) := by decide +kernel
theorem dX9_redo_0 : decode cX9_redo 0 = .ok (.aload_n 0, 1) := by decide +kernel
theorem dX9_redo_1 : decode cX9_redo 1 = .ok (.getfield 60, 3) := by decide +kernel
theorem dX9_redo_4 : decode cX9_redo 4 = .ok (.invokevirtual 278, 3) := by decide +kernel
theorem dX9_redo_7 : decode cX9_redo 7 = .ok (.ifCond .ne 6, 3) := by decide +kernel
theorem dX9_redo_10 : decode cX9_redo 10 = .ok (.bipush (-5), 2) := by decide +kernel
theorem dX9_redo_12 : decode cX9_redo 12 = .ok (.ireturn, 1) := by decide +kernel
theorem dX9_redo_13 : decode cX9_redo 13 = .ok (.aload_n 0, 1) := by decide +kernel
theorem dX9_redo_14 : decode cX9_redo 14 = .ok (.getfield 60, 3) := by decide +kernel
theorem dX9_redo_17 : decode cX9_redo 17 = .ok (.invokevirtual 281, 3) := by decide +kernel
theorem dX9_redo_20 : decode cX9_redo 20 = .ok (.aload_n 0, 1) := by decide +kernel
theorem dX9_redo_21 : decode cX9_redo 21 = .ok (.getfield 28, 3) := by decide +kernel
theorem dX9_redo_24 : decode cX9_redo 24 = .ok (.invokevirtual 100, 3) := by decide +kernel
theorem dX9_redo_27 : decode cX9_redo 27 = .ok (.aload_n 0, 1) := by decide +kernel
theorem dX9_redo_28 : decode cX9_redo 28 = .ok (.getfield 60, 3) := by decide +kernel
theorem dX9_redo_31 : decode cX9_redo 31 = .ok (.invokevirtual 278, 3) := by decide +kernel
theorem dX9_redo_34 : decode cX9_redo 34 = .ok (.ireturn, 1) := by decide +kernel
theorem dX9_body_0 : decode cX9_body 0 = .ok (.iload_n 1, 1) := by decide +kernel
theorem dX9_body_1 : decode cX9_body 1 = .ok (.invokestatic 284, 3) := by decide +kernel
theorem dX9_body_4 : decode cX9_body 4 = .ok (.ifCond .ne 5, 3) := by decide +kernel
theorem dX9_body_7 : decode cX9_body 7 = .ok (.iconst (-1), 1) := by decide +kernel
theorem dX9_body_8 : decode cX9_body 8 = .ok (.ireturn, 1) := by decide +kernel
theorem dX9_body_9 : decode cX9_body 9 = .ok (.aload_n 0, 1) := by decide +kernel
theorem dX9_body_10 : decode cX9_body 10 = .ok (.getfield 67, 3) := by decide +kernel
theorem dX9_body_13 : decode cX9_body 13 = .ok (.invokevirtual 287, 3) := by decide +kernel
theorem dX9_body_16 : decode cX9_body 16 = .ok (.bipush 50, 2) := by decide +kernel
theorem dX9_body_18 : decode cX9_body 18 = .ok (.if_icmp .ge 14, 3) := by decide +kernel
theorem dX9_body_21 : decode cX9_body 21 = .ok (.aload_n 0, 1) := by decide +kernel
theorem dX9_body_22 : decode cX9_body 22 = .ok (.getfield 67, 3) := by decide +kernel
theorem dX9_body_25 : decode cX9_body 25 = .ok (.iload_n 1, 1) := by decide +kernel
theorem dX9_body_26 : decode cX9_body 26 = .ok (.invokevirtual 288, 3) := by decide +kernel
theorem dX9_body_29 : decode cX9_body 29 = .ok (.goto 5, 3) := by decide +kernel
theorem dX9_body_32 : decode cX9_body 32 = .ok (.bipush (-3), 2) := by decide +kernel
theorem dX9_body_34 : decode cX9_body 34 = .ok (.ireturn, 1) := by decide +kernel
theorem dX9_act_0 : decode cX9_act 0 = .ok (.aload_n 0, 1) := by decide +kernel
theorem dX9_act_1 : decode cX9_act 1 = .ok (.getfield 67, 3) := by decide +kernel
theorem dX9_act_4 : decode cX9_act 4 = .ok (.iload_n 1, 1) := by decide +kernel
theorem dX9_act_5 : decode cX9_act 5 = .ok (.iload_n 2, 1) := by decide +kernel
theorem dX9_act_6 : decode cX9_act 6 = .ok (.iload_n 3, 1) := by decide +kernel
theorem dX9_act_7 : decode cX9_act 7 = .ok (.invokevirtual 290, 3) := by decide +kernel
theorem dX9_act_10 : decode cX9_act 10 = .ok (.ireturn, 1) := by decide +kernel
theorem dX9_trace_0 : decode cX9_trace 0 = .ok (.aload_n 0, 1) := by decide +kernel
theorem dX9_trace_1 : decode cX9_trace 1 = .ok (.getfield 67, 3) := by decide +kernel
theorem dX9_trace_4 : decode cX9_trace 4 = .ok (.iload_n 1, 1) := by decide +kernel
theorem dX9_trace_5 : decode cX9_trace 5 = .ok (.invokevirtual 293, 3) := by decide +kernel
theorem dX9_trace_8 : decode cX9_trace 8 = .ok (.ireturn, 1) := by decide +kernel
theorem dX9_keep_0 : decode cX9_keep 0 = .ok (.aload_n 0, 1) := by decide +kernel
theorem dX9_keep_1 : decode cX9_keep 1 = .ok (.getfield 74, 3) := by decide +kernel
theorem dX9_keep_4 : decode cX9_keep 4 = .ok (.iload_n 1, 1) := by decide +kernel
theorem dX9_keep_5 : decode cX9_keep 5 = .ok (.invokevirtual 150, 3) := by decide +kernel
theorem dX9_keep_8 : decode cX9_keep 8 = .ok (.ifCond .eq 19, 3) := by decide +kernel
theorem dX9_keep_11 : decode cX9_keep 11 = .ok (.iload_n 2, 1) := by decide +kernel
theorem dX9_keep_12 : decode cX9_keep 12 = .ok (.iconst (-1), 1) := by decide +kernel
theorem dX9_keep_13 : decode cX9_keep 13 = .ok (.if_icmp .eq 16, 3) := by decide +kernel
theorem dX9_keep_16 : decode cX9_keep 16 = .ok (.aload_n 0, 1) := by decide +kernel
theorem dX9_keep_17 : decode cX9_keep 17 = .ok (.getfield 67, 3) := by decide +kernel
theorem dX9_keep_20 : decode cX9_keep 20 = .ok (.iload_n 2, 1) := by decide +kernel
theorem dX9_keep_21 : decode cX9_keep 21 = .ok (.invokevirtual 296, 3) := by decide +kernel
theorem dX9_keep_24 : decode cX9_keep 24 = .ok (.ifCond .ne 5, 3) := by decide +kernel
theorem dX9_keep_27 : decode cX9_keep 27 = .ok (.iconst (-1), 1) := by decide +kernel
theorem dX9_keep_28 : decode cX9_keep 28 = .ok (.ireturn, 1) := by decide +kernel
theorem dX9_keep_29 : decode cX9_keep 29 = .ok (.aload_n 0, 1) := by decide +kernel
theorem dX9_keep_30 : decode cX9_keep 30 = .ok (.getfield 74, 3) := by decide +kernel
theorem dX9_keep_33 : decode cX9_keep 33 = .ok (.iload_n 1, 1) := by decide +kernel
theorem dX9_keep_34 : decode cX9_keep 34 = .ok (.iload_n 2, 1) := by decide +kernel
theorem dX9_keep_35 : decode cX9_keep 35 = .ok (.invokevirtual 297, 3) := by decide +kernel
theorem dX9_keep_38 : decode cX9_keep 38 = .ok (.iconst 1, 1) := by decide +kernel
theorem dX9_keep_39 : decode cX9_keep 39 = .ok (.ireturn, 1) := by decide +kernel
theorem dX9_row_0 : decode cX9_row 0 = .ok (.aload_n 0, 1) := by decide +kernel
theorem dX9_row_1 : decode cX9_row 1 = .ok (.getfield 74, 3) := by decide +kernel
theorem dX9_row_4 : decode cX9_row 4 = .ok (.iload_n 1, 1) := by decide +kernel
theorem dX9_row_5 : decode cX9_row 5 = .ok (.invokevirtual 150, 3) := by decide +kernel
theorem dX9_row_8 : decode cX9_row 8 = .ok (.ifCond .eq 16, 3) := by decide +kernel
theorem dX9_row_11 : decode cX9_row 11 = .ok (.iload_n 2, 1) := by decide +kernel
theorem dX9_row_12 : decode cX9_row 12 = .ok (.invokestatic 301, 3) := by decide +kernel
theorem dX9_row_15 : decode cX9_row 15 = .ok (.ifCond .eq 9, 3) := by decide +kernel
theorem dX9_row_18 : decode cX9_row 18 = .ok (.iload_n 3, 1) := by decide +kernel
theorem dX9_row_19 : decode cX9_row 19 = .ok (.bipush 60, 2) := by decide +kernel
theorem dX9_row_21 : decode cX9_row 21 = .ok (.if_icmp .le 5, 3) := by decide +kernel
theorem dX9_row_24 : decode cX9_row 24 = .ok (.iconst (-1), 1) := by decide +kernel
theorem dX9_row_25 : decode cX9_row 25 = .ok (.ireturn, 1) := by decide +kernel
theorem dX9_row_26 : decode cX9_row 26 = .ok (.iload_n 3, 1) := by decide +kernel
theorem dX9_row_27 : decode cX9_row 27 = .ok (.ifCond .ge 6, 3) := by decide +kernel
theorem dX9_row_30 : decode cX9_row 30 = .ok (.bipush (-14), 2) := by decide +kernel
theorem dX9_row_32 : decode cX9_row 32 = .ok (.ireturn, 1) := by decide +kernel
theorem dX9_row_33 : decode cX9_row 33 = .ok (.aload_n 0, 1) := by decide +kernel
theorem dX9_row_34 : decode cX9_row 34 = .ok (.getfield 74, 3) := by decide +kernel
theorem dX9_row_37 : decode cX9_row 37 = .ok (.iload_n 1, 1) := by decide +kernel
theorem dX9_row_38 : decode cX9_row 38 = .ok (.iload_n 2, 1) := by decide +kernel
theorem dX9_row_39 : decode cX9_row 39 = .ok (.iload_n 3, 1) := by decide +kernel
theorem dX9_row_40 : decode cX9_row 40 = .ok (.invokevirtual 304, 3) := by decide +kernel
theorem dX9_row_43 : decode cX9_row 43 = .ok (.iconst 1, 1) := by decide +kernel
theorem dX9_row_44 : decode cX9_row 44 = .ok (.ireturn, 1) := by decide +kernel
theorem dX9_put_0 : decode cX9_put 0 = .ok (.aload_n 0, 1) := by decide +kernel
theorem dX9_put_1 : decode cX9_put 1 = .ok (.iload_n 1, 1) := by decide +kernel
theorem dX9_put_2 : decode cX9_put 2 = .ok (.iload_n 2, 1) := by decide +kernel
theorem dX9_put_3 : decode cX9_put 3 = .ok (.invokevirtual 308, 3) := by decide +kernel
theorem dX9_put_6 : decode cX9_put 6 = .ok (.istore 5, 2) := by decide +kernel
theorem dX9_put_8 : decode cX9_put 8 = .ok (.iload 5, 2) := by decide +kernel
theorem dX9_put_10 : decode cX9_put 10 = .ok (.ifCond .eq 6, 3) := by decide +kernel
theorem dX9_put_13 : decode cX9_put 13 = .ok (.iload 5, 2) := by decide +kernel
theorem dX9_put_15 : decode cX9_put 15 = .ok (.ireturn, 1) := by decide +kernel
theorem dX9_put_16 : decode cX9_put 16 = .ok (.aload_n 0, 1) := by decide +kernel
theorem dX9_put_17 : decode cX9_put 17 = .ok (.getfield 74, 3) := by decide +kernel
theorem dX9_put_20 : decode cX9_put 20 = .ok (.iload_n 1, 1) := by decide +kernel
theorem dX9_put_21 : decode cX9_put 21 = .ok (.iload_n 2, 1) := by decide +kernel
theorem dX9_put_22 : decode cX9_put 22 = .ok (.lload_n 3, 1) := by decide +kernel
theorem dX9_put_23 : decode cX9_put 23 = .ok (.invokevirtual 311, 3) := by decide +kernel
theorem dX9_put_26 : decode cX9_put 26 = .ok (.iconst 1, 1) := by decide +kernel
theorem dX9_put_27 : decode cX9_put 27 = .ok (.ireturn, 1) := by decide +kernel
theorem dX9_element_0 : decode cX9_element 0 = .ok (.aload_n 0, 1) := by decide +kernel
theorem dX9_element_1 : decode cX9_element 1 = .ok (.iload_n 1, 1) := by decide +kernel
theorem dX9_element_2 : decode cX9_element 2 = .ok (.iload_n 2, 1) := by decide +kernel
theorem dX9_element_3 : decode cX9_element 3 = .ok (.invokevirtual 308, 3) := by decide +kernel
theorem dX9_element_6 : decode cX9_element 6 = .ok (.ifCond .eq 9, 3) := by decide +kernel
theorem dX9_element_9 : decode cX9_element 9 = .ok (.ldc2_w 317, 3) := by decide +kernel
theorem dX9_element_12 : decode cX9_element 12 = .ok (.goto 12, 3) := by decide +kernel
theorem dX9_element_15 : decode cX9_element 15 = .ok (.aload_n 0, 1) := by decide +kernel
theorem dX9_element_16 : decode cX9_element 16 = .ok (.getfield 74, 3) := by decide +kernel
theorem dX9_element_19 : decode cX9_element 19 = .ok (.iload_n 1, 1) := by decide +kernel
theorem dX9_element_20 : decode cX9_element 20 = .ok (.iload_n 2, 1) := by decide +kernel
theorem dX9_element_21 : decode cX9_element 21 = .ok (.invokevirtual 319, 3) := by decide +kernel
theorem dX9_element_24 : decode cX9_element 24 = .ok (.lreturn, 1) := by decide +kernel
theorem dX9_shift_0 : decode cX9_shift 0 = .ok (.aload_n 0, 1) := by decide +kernel
theorem dX9_shift_1 : decode cX9_shift 1 = .ok (.getfield 74, 3) := by decide +kernel
theorem dX9_shift_4 : decode cX9_shift 4 = .ok (.iload_n 1, 1) := by decide +kernel
theorem dX9_shift_5 : decode cX9_shift 5 = .ok (.invokevirtual 150, 3) := by decide +kernel
theorem dX9_shift_8 : decode cX9_shift 8 = .ok (.ifCond .eq 14, 3) := by decide +kernel
theorem dX9_shift_11 : decode cX9_shift 11 = .ok (.aload_n 0, 1) := by decide +kernel
theorem dX9_shift_12 : decode cX9_shift 12 = .ok (.getfield 74, 3) := by decide +kernel
theorem dX9_shift_15 : decode cX9_shift 15 = .ok (.iload_n 3, 1) := by decide +kernel
theorem dX9_shift_16 : decode cX9_shift 16 = .ok (.invokevirtual 150, 3) := by decide +kernel
theorem dX9_shift_19 : decode cX9_shift 19 = .ok (.ifCond .ne 5, 3) := by decide +kernel
theorem dX9_shift_22 : decode cX9_shift 22 = .ok (.iconst (-1), 1) := by decide +kernel
theorem dX9_shift_23 : decode cX9_shift 23 = .ok (.ireturn, 1) := by decide +kernel
theorem dX9_shift_24 : decode cX9_shift 24 = .ok (.aload_n 0, 1) := by decide +kernel
theorem dX9_shift_25 : decode cX9_shift 25 = .ok (.getfield 74, 3) := by decide +kernel
theorem dX9_shift_28 : decode cX9_shift 28 = .ok (.iload_n 1, 1) := by decide +kernel
theorem dX9_shift_29 : decode cX9_shift 29 = .ok (.invokevirtual 151, 3) := by decide +kernel
theorem dX9_shift_32 : decode cX9_shift 32 = .ok (.ifCond .ne 14, 3) := by decide +kernel
theorem dX9_shift_35 : decode cX9_shift 35 = .ok (.aload_n 0, 1) := by decide +kernel
theorem dX9_shift_36 : decode cX9_shift 36 = .ok (.getfield 74, 3) := by decide +kernel
theorem dX9_shift_39 : decode cX9_shift 39 = .ok (.iload_n 3, 1) := by decide +kernel
theorem dX9_shift_40 : decode cX9_shift 40 = .ok (.invokevirtual 151, 3) := by decide +kernel
theorem dX9_shift_43 : decode cX9_shift 43 = .ok (.ifCond .eq 6, 3) := by decide +kernel
theorem dX9_shift_46 : decode cX9_shift 46 = .ok (.bipush (-11), 2) := by decide +kernel
theorem dX9_shift_48 : decode cX9_shift 48 = .ok (.ireturn, 1) := by decide +kernel
theorem dX9_shift_49 : decode cX9_shift 49 = .ok (.aload_n 0, 1) := by decide +kernel
theorem dX9_shift_50 : decode cX9_shift 50 = .ok (.getfield 74, 3) := by decide +kernel
theorem dX9_shift_53 : decode cX9_shift 53 = .ok (.iload_n 1, 1) := by decide +kernel
theorem dX9_shift_54 : decode cX9_shift 54 = .ok (.invokevirtual 323, 3) := by decide +kernel
theorem dX9_shift_57 : decode cX9_shift 57 = .ok (.ifCond .eq 26, 3) := by decide +kernel
theorem dX9_shift_60 : decode cX9_shift 60 = .ok (.aload_n 0, 1) := by decide +kernel
theorem dX9_shift_61 : decode cX9_shift 61 = .ok (.getfield 74, 3) := by decide +kernel
theorem dX9_shift_64 : decode cX9_shift 64 = .ok (.iload_n 3, 1) := by decide +kernel
theorem dX9_shift_65 : decode cX9_shift 65 = .ok (.invokevirtual 323, 3) := by decide +kernel
theorem dX9_shift_68 : decode cX9_shift 68 = .ok (.ifCond .eq 15, 3) := by decide +kernel
theorem dX9_shift_71 : decode cX9_shift 71 = .ok (.aload_n 0, 1) := by decide +kernel
theorem dX9_shift_72 : decode cX9_shift 72 = .ok (.getfield 74, 3) := by decide +kernel
theorem dX9_shift_75 : decode cX9_shift 75 = .ok (.iload_n 1, 1) := by decide +kernel
theorem dX9_shift_76 : decode cX9_shift 76 = .ok (.iload_n 3, 1) := by decide +kernel
theorem dX9_shift_77 : decode cX9_shift 77 = .ok (.invokevirtual 326, 3) := by decide +kernel
theorem dX9_shift_80 : decode cX9_shift 80 = .ok (.ifCond .ne 6, 3) := by decide +kernel
theorem dX9_shift_83 : decode cX9_shift 83 = .ok (.bipush (-12), 2) := by decide +kernel
theorem dX9_shift_85 : decode cX9_shift 85 = .ok (.ireturn, 1) := by decide +kernel
theorem dX9_shift_86 : decode cX9_shift 86 = .ok (.aload_n 0, 1) := by decide +kernel
theorem dX9_shift_87 : decode cX9_shift 87 = .ok (.getfield 74, 3) := by decide +kernel
theorem dX9_shift_90 : decode cX9_shift 90 = .ok (.iload_n 1, 1) := by decide +kernel
theorem dX9_shift_91 : decode cX9_shift 91 = .ok (.iload_n 2, 1) := by decide +kernel
theorem dX9_shift_92 : decode cX9_shift 92 = .ok (.iload 5, 2) := by decide +kernel
theorem dX9_shift_94 : decode cX9_shift 94 = .ok (.invokevirtual 329, 3) := by decide +kernel
theorem dX9_shift_97 : decode cX9_shift 97 = .ok (.ifCond .eq 18, 3) := by decide +kernel
theorem dX9_shift_100 : decode cX9_shift 100 = .ok (.aload_n 0, 1) := by decide +kernel
theorem dX9_shift_101 : decode cX9_shift 101 = .ok (.getfield 74, 3) := by decide +kernel
theorem dX9_shift_104 : decode cX9_shift 104 = .ok (.iload_n 3, 1) := by decide +kernel
theorem dX9_shift_105 : decode cX9_shift 105 = .ok (.iload 4, 2) := by decide +kernel
theorem dX9_shift_107 : decode cX9_shift 107 = .ok (.iload 5, 2) := by decide +kernel
theorem dX9_shift_109 : decode cX9_shift 109 = .ok (.invokevirtual 329, 3) := by decide +kernel
theorem dX9_shift_112 : decode cX9_shift 112 = .ok (.ifCond .ne 6, 3) := by decide +kernel
theorem dX9_shift_115 : decode cX9_shift 115 = .ok (.bipush (-13), 2) := by decide +kernel
theorem dX9_shift_117 : decode cX9_shift 117 = .ok (.ireturn, 1) := by decide +kernel
theorem dX9_shift_118 : decode cX9_shift 118 = .ok (.aload_n 0, 1) := by decide +kernel
theorem dX9_shift_119 : decode cX9_shift 119 = .ok (.getfield 74, 3) := by decide +kernel
theorem dX9_shift_122 : decode cX9_shift 122 = .ok (.iload_n 1, 1) := by decide +kernel
theorem dX9_shift_123 : decode cX9_shift 123 = .ok (.iload_n 2, 1) := by decide +kernel
theorem dX9_shift_124 : decode cX9_shift 124 = .ok (.iload_n 3, 1) := by decide +kernel
theorem dX9_shift_125 : decode cX9_shift 125 = .ok (.iload 4, 2) := by decide +kernel
theorem dX9_shift_127 : decode cX9_shift 127 = .ok (.iload 5, 2) := by decide +kernel
theorem dX9_shift_129 : decode cX9_shift 129 = .ok (.invokevirtual 332, 3) := by decide +kernel
theorem dX9_shift_132 : decode cX9_shift 132 = .ok (.iload 5, 2) := by decide +kernel
theorem dX9_shift_134 : decode cX9_shift 134 = .ok (.ireturn, 1) := by decide +kernel
theorem dX9_taken_0 : decode cX9_taken 0 = .ok (.aload_n 0, 1) := by decide +kernel
theorem dX9_taken_1 : decode cX9_taken 1 = .ok (.getfield 74, 3) := by decide +kernel
theorem dX9_taken_4 : decode cX9_taken 4 = .ok (.iload_n 1, 1) := by decide +kernel
theorem dX9_taken_5 : decode cX9_taken 5 = .ok (.invokevirtual 150, 3) := by decide +kernel
theorem dX9_taken_8 : decode cX9_taken 8 = .ok (.ifCond .eq 10, 3) := by decide +kernel
theorem dX9_taken_11 : decode cX9_taken 11 = .ok (.iload_n 2, 1) := by decide +kernel
theorem dX9_taken_12 : decode cX9_taken 12 = .ok (.invokestatic 284, 3) := by decide +kernel
theorem dX9_taken_15 : decode cX9_taken 15 = .ok (.ifCond .ne 5, 3) := by decide +kernel
theorem dX9_taken_18 : decode cX9_taken 18 = .ok (.iconst (-1), 1) := by decide +kernel
theorem dX9_taken_19 : decode cX9_taken 19 = .ok (.ireturn, 1) := by decide +kernel
theorem dX9_taken_20 : decode cX9_taken 20 = .ok (.aload_n 0, 1) := by decide +kernel
theorem dX9_taken_21 : decode cX9_taken 21 = .ok (.getfield 74, 3) := by decide +kernel
theorem dX9_taken_24 : decode cX9_taken 24 = .ok (.iload_n 1, 1) := by decide +kernel
theorem dX9_taken_25 : decode cX9_taken 25 = .ok (.invokevirtual 151, 3) := by decide +kernel
theorem dX9_taken_28 : decode cX9_taken 28 = .ok (.ifCond .eq 6, 3) := by decide +kernel
theorem dX9_taken_31 : decode cX9_taken 31 = .ok (.bipush (-11), 2) := by decide +kernel
theorem dX9_taken_33 : decode cX9_taken 33 = .ok (.ireturn, 1) := by decide +kernel
theorem dX9_taken_34 : decode cX9_taken 34 = .ok (.aload_n 0, 1) := by decide +kernel
theorem dX9_taken_35 : decode cX9_taken 35 = .ok (.getfield 74, 3) := by decide +kernel
theorem dX9_taken_38 : decode cX9_taken 38 = .ok (.iload_n 1, 1) := by decide +kernel
theorem dX9_taken_39 : decode cX9_taken 39 = .ok (.invokevirtual 323, 3) := by decide +kernel
theorem dX9_taken_42 : decode cX9_taken 42 = .ok (.ifCond .eq 6, 3) := by decide +kernel
theorem dX9_taken_45 : decode cX9_taken 45 = .ok (.bipush (-12), 2) := by decide +kernel
theorem dX9_taken_47 : decode cX9_taken 47 = .ok (.ireturn, 1) := by decide +kernel
theorem dX9_taken_48 : decode cX9_taken 48 = .ok (.aload_n 0, 1) := by decide +kernel
theorem dX9_taken_49 : decode cX9_taken 49 = .ok (.getfield 67, 3) := by decide +kernel
theorem dX9_taken_52 : decode cX9_taken 52 = .ok (.aload_n 0, 1) := by decide +kernel
theorem dX9_taken_53 : decode cX9_taken 53 = .ok (.getfield 74, 3) := by decide +kernel
theorem dX9_taken_56 : decode cX9_taken 56 = .ok (.iload_n 1, 1) := by decide +kernel
theorem dX9_taken_57 : decode cX9_taken 57 = .ok (.invokevirtual 336, 3) := by decide +kernel
theorem dX9_taken_60 : decode cX9_taken 60 = .ok (.invokevirtual 339, 3) := by decide +kernel
theorem dX9_taken_63 : decode cX9_taken 63 = .ok (.istore_n 3, 1) := by decide +kernel
theorem dX9_taken_64 : decode cX9_taken 64 = .ok (.iload_n 3, 1) := by decide +kernel
theorem dX9_taken_65 : decode cX9_taken 65 = .ok (.iload_n 2, 1) := by decide +kernel
theorem dX9_taken_66 : decode cX9_taken 66 = .ok (.invokestatic 342, 3) := by decide +kernel
theorem dX9_taken_69 : decode cX9_taken 69 = .ok (.ifCond .eq 7, 3) := by decide +kernel
theorem dX9_taken_72 : decode cX9_taken 72 = .ok (.iload_n 3, 1) := by decide +kernel
theorem dX9_taken_73 : decode cX9_taken 73 = .ok (.goto 5, 3) := by decide +kernel
theorem dX9_taken_76 : decode cX9_taken 76 = .ok (.bipush (-12), 2) := by decide +kernel
theorem dX9_taken_78 : decode cX9_taken 78 = .ok (.ireturn, 1) := by decide +kernel
theorem dX9_count_0 : decode cX9_count 0 = .ok (.iload_n 1, 1) := by decide +kernel
theorem dX9_count_1 : decode cX9_count 1 = .ok (.tableswitch 99 0 6 #[43, 51, 59, 67, 75, 83, 91], 43) := by decide +kernel
theorem dX9_count_44 : decode cX9_count 44 = .ok (.aload_n 0, 1) := by decide +kernel
theorem dX9_count_45 : decode cX9_count 45 = .ok (.getfield 28, 3) := by decide +kernel
theorem dX9_count_48 : decode cX9_count 48 = .ok (.invokevirtual 92, 3) := by decide +kernel
theorem dX9_count_51 : decode cX9_count 51 = .ok (.ireturn, 1) := by decide +kernel
theorem dX9_count_52 : decode cX9_count 52 = .ok (.aload_n 0, 1) := by decide +kernel
theorem dX9_count_53 : decode cX9_count 53 = .ok (.getfield 28, 3) := by decide +kernel
theorem dX9_count_56 : decode cX9_count 56 = .ok (.invokevirtual 106, 3) := by decide +kernel
theorem dX9_count_59 : decode cX9_count 59 = .ok (.ireturn, 1) := by decide +kernel
theorem dX9_count_60 : decode cX9_count 60 = .ok (.aload_n 0, 1) := by decide +kernel
theorem dX9_count_61 : decode cX9_count 61 = .ok (.getfield 35, 3) := by decide +kernel
theorem dX9_count_64 : decode cX9_count 64 = .ok (.invokevirtual 146, 3) := by decide +kernel
theorem dX9_count_67 : decode cX9_count 67 = .ok (.ireturn, 1) := by decide +kernel
theorem dX9_count_68 : decode cX9_count 68 = .ok (.aload_n 0, 1) := by decide +kernel
theorem dX9_count_69 : decode cX9_count 69 = .ok (.getfield 19, 3) := by decide +kernel
theorem dX9_count_72 : decode cX9_count 72 = .ok (.invokevirtual 113, 3) := by decide +kernel
theorem dX9_count_75 : decode cX9_count 75 = .ok (.ireturn, 1) := by decide +kernel
theorem dX9_count_76 : decode cX9_count 76 = .ok (.aload_n 0, 1) := by decide +kernel
theorem dX9_count_77 : decode cX9_count 77 = .ok (.getfield 60, 3) := by decide +kernel
theorem dX9_count_80 : decode cX9_count 80 = .ok (.invokevirtual 272, 3) := by decide +kernel
theorem dX9_count_83 : decode cX9_count 83 = .ok (.ireturn, 1) := by decide +kernel
theorem dX9_count_84 : decode cX9_count 84 = .ok (.aload_n 0, 1) := by decide +kernel
theorem dX9_count_85 : decode cX9_count 85 = .ok (.getfield 67, 3) := by decide +kernel
theorem dX9_count_88 : decode cX9_count 88 = .ok (.invokevirtual 287, 3) := by decide +kernel
theorem dX9_count_91 : decode cX9_count 91 = .ok (.ireturn, 1) := by decide +kernel
theorem dX9_count_92 : decode cX9_count 92 = .ok (.aload_n 0, 1) := by decide +kernel
theorem dX9_count_93 : decode cX9_count 93 = .ok (.getfield 67, 3) := by decide +kernel
theorem dX9_count_96 : decode cX9_count 96 = .ok (.invokevirtual 345, 3) := by decide +kernel
theorem dX9_count_99 : decode cX9_count 99 = .ok (.ireturn, 1) := by decide +kernel
theorem dX9_count_100 : decode cX9_count 100 = .ok (.iconst (-1), 1) := by decide +kernel
theorem dX9_count_101 : decode cX9_count 101 = .ok (.ireturn, 1) := by decide +kernel
theorem dX9_within_0 : decode cX9_within 0 = .ok (.iload_n 1, 1) := by decide +kernel
theorem dX9_within_1 : decode cX9_within 1 = .ok (.iload_n 0, 1) := by decide +kernel
theorem dX9_within_2 : decode cX9_within 2 = .ok (.if_icmp .gt 12, 3) := by decide +kernel
theorem dX9_within_5 : decode cX9_within 5 = .ok (.iload_n 0, 1) := by decide +kernel
theorem dX9_within_6 : decode cX9_within 6 = .ok (.iload_n 2, 1) := by decide +kernel
theorem dX9_within_7 : decode cX9_within 7 = .ok (.if_icmp .gt 7, 3) := by decide +kernel
theorem dX9_within_10 : decode cX9_within 10 = .ok (.iconst 1, 1) := by decide +kernel
theorem dX9_within_11 : decode cX9_within 11 = .ok (.goto 4, 3) := by decide +kernel
theorem dX9_within_14 : decode cX9_within 14 = .ok (.iconst 0, 1) := by decide +kernel
theorem dX9_within_15 : decode cX9_within 15 = .ok (.ireturn, 1) := by decide +kernel
theorem dX9_isMonth_0 : decode cX9_isMonth 0 = .ok (.iload_n 0, 1) := by decide +kernel
theorem dX9_isMonth_1 : decode cX9_isMonth 1 = .ok (.iconst 0, 1) := by decide +kernel
theorem dX9_isMonth_2 : decode cX9_isMonth 2 = .ok (.sipush 599, 3) := by decide +kernel
theorem dX9_isMonth_5 : decode cX9_isMonth 5 = .ok (.invokestatic 82, 3) := by decide +kernel
theorem dX9_isMonth_8 : decode cX9_isMonth 8 = .ok (.ireturn, 1) := by decide +kernel
theorem dX9_isLate_0 : decode cX9_isLate 0 = .ok (.iload_n 0, 1) := by decide +kernel
theorem dX9_isLate_1 : decode cX9_isLate 1 = .ok (.bipush (-24), 2) := by decide +kernel
theorem dX9_isLate_3 : decode cX9_isLate 3 = .ok (.bipush 24, 2) := by decide +kernel
theorem dX9_isLate_5 : decode cX9_isLate 5 = .ok (.invokestatic 82, 3) := by decide +kernel
theorem dX9_isLate_8 : decode cX9_isLate 8 = .ok (.ireturn, 1) := by decide +kernel
theorem dX9_isParents_0 : decode cX9_isParents 0 = .ok (.iload_n 0, 1) := by decide +kernel
theorem dX9_isParents_1 : decode cX9_isParents 1 = .ok (.sipush 3000, 3) := by decide +kernel
theorem dX9_isParents_4 : decode cX9_isParents 4 = .ok (.sipush 6000, 3) := by decide +kernel
theorem dX9_isParents_7 : decode cX9_isParents 7 = .ok (.invokestatic 82, 3) := by decide +kernel
theorem dX9_isParents_10 : decode cX9_isParents 10 = .ok (.ireturn, 1) := by decide +kernel
theorem dX9_isSpan_0 : decode cX9_isSpan 0 = .ok (.iload_n 0, 1) := by decide +kernel
theorem dX9_isSpan_1 : decode cX9_isSpan 1 = .ok (.ifCond .lt 42, 3) := by decide +kernel
theorem dX9_isSpan_4 : decode cX9_isSpan 4 = .ok (.iload_n 0, 1) := by decide +kernel
theorem dX9_isSpan_5 : decode cX9_isSpan 5 = .ok (.sipush 1000, 3) := by decide +kernel
theorem dX9_isSpan_8 : decode cX9_isSpan 8 = .ok (.idiv, 1) := by decide +kernel
theorem dX9_isSpan_9 : decode cX9_isSpan 9 = .ok (.invokestatic 78, 3) := by decide +kernel
theorem dX9_isSpan_12 : decode cX9_isSpan 12 = .ok (.ifCond .eq 31, 3) := by decide +kernel
theorem dX9_isSpan_15 : decode cX9_isSpan 15 = .ok (.iload_n 0, 1) := by decide +kernel
theorem dX9_isSpan_16 : decode cX9_isSpan 16 = .ok (.sipush 1000, 3) := by decide +kernel
theorem dX9_isSpan_19 : decode cX9_isSpan 19 = .ok (.irem, 1) := by decide +kernel
theorem dX9_isSpan_20 : decode cX9_isSpan 20 = .ok (.invokestatic 78, 3) := by decide +kernel
theorem dX9_isSpan_23 : decode cX9_isSpan 23 = .ok (.ifCond .eq 20, 3) := by decide +kernel
theorem dX9_isSpan_26 : decode cX9_isSpan 26 = .ok (.iload_n 0, 1) := by decide +kernel
theorem dX9_isSpan_27 : decode cX9_isSpan 27 = .ok (.sipush 1000, 3) := by decide +kernel
theorem dX9_isSpan_30 : decode cX9_isSpan 30 = .ok (.idiv, 1) := by decide +kernel
theorem dX9_isSpan_31 : decode cX9_isSpan 31 = .ok (.iload_n 0, 1) := by decide +kernel
theorem dX9_isSpan_32 : decode cX9_isSpan 32 = .ok (.sipush 1000, 3) := by decide +kernel
theorem dX9_isSpan_35 : decode cX9_isSpan 35 = .ok (.irem, 1) := by decide +kernel
theorem dX9_isSpan_36 : decode cX9_isSpan 36 = .ok (.if_icmp .gt 7, 3) := by decide +kernel
theorem dX9_isSpan_39 : decode cX9_isSpan 39 = .ok (.iconst 1, 1) := by decide +kernel
theorem dX9_isSpan_40 : decode cX9_isSpan 40 = .ok (.goto 4, 3) := by decide +kernel
theorem dX9_isSpan_43 : decode cX9_isSpan 43 = .ok (.iconst 0, 1) := by decide +kernel
theorem dX9_isSpan_44 : decode cX9_isSpan 44 = .ok (.ireturn, 1) := by decide +kernel
theorem dX9_isMark_0 : decode cX9_isMark 0 = .ok (.iload_n 0, 1) := by decide +kernel
theorem dX9_isMark_1 : decode cX9_isMark 1 = .ok (.iconst 0, 1) := by decide +kernel
theorem dX9_isMark_2 : decode cX9_isMark 2 = .ok (.sipush 9999, 3) := by decide +kernel
theorem dX9_isMark_5 : decode cX9_isMark 5 = .ok (.invokestatic 82, 3) := by decide +kernel
theorem dX9_isMark_8 : decode cX9_isMark 8 = .ok (.ifCond .eq 37, 3) := by decide +kernel
theorem dX9_isMark_11 : decode cX9_isMark 11 = .ok (.iload_n 1, 1) := by decide +kernel
theorem dX9_isMark_12 : decode cX9_isMark 12 = .ok (.iconst 0, 1) := by decide +kernel
theorem dX9_isMark_13 : decode cX9_isMark 13 = .ok (.bipush 6, 2) := by decide +kernel
theorem dX9_isMark_15 : decode cX9_isMark 15 = .ok (.invokestatic 82, 3) := by decide +kernel
theorem dX9_isMark_18 : decode cX9_isMark 18 = .ok (.ifCond .eq 27, 3) := by decide +kernel
theorem dX9_isMark_21 : decode cX9_isMark 21 = .ok (.iload_n 2, 1) := by decide +kernel
theorem dX9_isMark_22 : decode cX9_isMark 22 = .ok (.iconst 0, 1) := by decide +kernel
theorem dX9_isMark_23 : decode cX9_isMark 23 = .ok (.sipush 600, 3) := by decide +kernel
theorem dX9_isMark_26 : decode cX9_isMark 26 = .ok (.invokestatic 82, 3) := by decide +kernel
theorem dX9_isMark_29 : decode cX9_isMark 29 = .ok (.ifCond .eq 16, 3) := by decide +kernel
theorem dX9_isMark_32 : decode cX9_isMark 32 = .ok (.iload_n 3, 1) := by decide +kernel
theorem dX9_isMark_33 : decode cX9_isMark 33 = .ok (.iconst 0, 1) := by decide +kernel
theorem dX9_isMark_34 : decode cX9_isMark 34 = .ok (.iconst 4, 1) := by decide +kernel
theorem dX9_isMark_35 : decode cX9_isMark 35 = .ok (.invokestatic 82, 3) := by decide +kernel
theorem dX9_isMark_38 : decode cX9_isMark 38 = .ok (.ifCond .eq 7, 3) := by decide +kernel
theorem dX9_isMark_41 : decode cX9_isMark 41 = .ok (.iconst 1, 1) := by decide +kernel
theorem dX9_isMark_42 : decode cX9_isMark 42 = .ok (.goto 4, 3) := by decide +kernel
theorem dX9_isMark_45 : decode cX9_isMark 45 = .ok (.iconst 0, 1) := by decide +kernel
theorem dX9_isMark_46 : decode cX9_isMark 46 = .ok (.ireturn, 1) := by decide +kernel
theorem dX9_isMarkAndChild_0 : decode cX9_isMarkAndChild 0 = .ok (.iload_n 1, 1) := by decide +kernel
theorem dX9_isMarkAndChild_1 : decode cX9_isMarkAndChild 1 = .ok (.ifCond .lt 35, 3) := by decide +kernel
theorem dX9_isMarkAndChild_4 : decode cX9_isMarkAndChild 4 = .ok (.aload_n 0, 1) := by decide +kernel
theorem dX9_isMarkAndChild_5 : decode cX9_isMarkAndChild 5 = .ok (.getfield 35, 3) := by decide +kernel
theorem dX9_isMarkAndChild_8 : decode cX9_isMarkAndChild 8 = .ok (.iload_n 1, 1) := by decide +kernel
theorem dX9_isMarkAndChild_9 : decode cX9_isMarkAndChild 9 = .ok (.bipush 10, 2) := by decide +kernel
theorem dX9_isMarkAndChild_11 : decode cX9_isMarkAndChild 11 = .ok (.idiv, 1) := by decide +kernel
theorem dX9_isMarkAndChild_12 : decode cX9_isMarkAndChild 12 = .ok (.invokevirtual 168, 3) := by decide +kernel
theorem dX9_isMarkAndChild_15 : decode cX9_isMarkAndChild 15 = .ok (.ifCond .eq 21, 3) := by decide +kernel
theorem dX9_isMarkAndChild_18 : decode cX9_isMarkAndChild 18 = .ok (.aload_n 0, 1) := by decide +kernel
theorem dX9_isMarkAndChild_19 : decode cX9_isMarkAndChild 19 = .ok (.getfield 28, 3) := by decide +kernel
theorem dX9_isMarkAndChild_22 : decode cX9_isMarkAndChild 22 = .ok (.iload_n 1, 1) := by decide +kernel
theorem dX9_isMarkAndChild_23 : decode cX9_isMarkAndChild 23 = .ok (.bipush 10, 2) := by decide +kernel
theorem dX9_isMarkAndChild_25 : decode cX9_isMarkAndChild 25 = .ok (.irem, 1) := by decide +kernel
theorem dX9_isMarkAndChild_26 : decode cX9_isMarkAndChild 26 = .ok (.invokevirtual 132, 3) := by decide +kernel
theorem dX9_isMarkAndChild_29 : decode cX9_isMarkAndChild 29 = .ok (.ifCond .eq 7, 3) := by decide +kernel
theorem dX9_isMarkAndChild_32 : decode cX9_isMarkAndChild 32 = .ok (.iconst 1, 1) := by decide +kernel
theorem dX9_isMarkAndChild_33 : decode cX9_isMarkAndChild 33 = .ok (.goto 4, 3) := by decide +kernel
theorem dX9_isMarkAndChild_36 : decode cX9_isMarkAndChild 36 = .ok (.iconst 0, 1) := by decide +kernel
theorem dX9_isMarkAndChild_37 : decode cX9_isMarkAndChild 37 = .ok (.ireturn, 1) := by decide +kernel
theorem dX9_isMendable_0 : decode cX9_isMendable 0 = .ok (.iload_n 2, 1) := by decide +kernel
theorem dX9_isMendable_1 : decode cX9_isMendable 1 = .ok (.tableswitch 133 0 3 #[31, 59, 85, 109], 31) := by decide +kernel
theorem dX9_isMendable_32 : decode cX9_isMendable 32 = .ok (.aload_n 0, 1) := by decide +kernel
theorem dX9_isMendable_33 : decode cX9_isMendable 33 = .ok (.getfield 35, 3) := by decide +kernel
theorem dX9_isMendable_36 : decode cX9_isMendable 36 = .ok (.iload_n 1, 1) := by decide +kernel
theorem dX9_isMendable_37 : decode cX9_isMendable 37 = .ok (.invokevirtual 168, 3) := by decide +kernel
theorem dX9_isMendable_40 : decode cX9_isMendable 40 = .ok (.ifCond .eq 18, 3) := by decide +kernel
theorem dX9_isMendable_43 : decode cX9_isMendable 43 = .ok (.iload_n 3, 1) := by decide +kernel
theorem dX9_isMendable_44 : decode cX9_isMendable 44 = .ok (.iconst 0, 1) := by decide +kernel
theorem dX9_isMendable_45 : decode cX9_isMendable 45 = .ok (.sipush 9999, 3) := by decide +kernel
theorem dX9_isMendable_48 : decode cX9_isMendable 48 = .ok (.invokestatic 82, 3) := by decide +kernel
theorem dX9_isMendable_51 : decode cX9_isMendable 51 = .ok (.ifCond .eq 7, 3) := by decide +kernel
theorem dX9_isMendable_54 : decode cX9_isMendable 54 = .ok (.iconst 1, 1) := by decide +kernel
theorem dX9_isMendable_55 : decode cX9_isMendable 55 = .ok (.goto 4, 3) := by decide +kernel
theorem dX9_isMendable_58 : decode cX9_isMendable 58 = .ok (.iconst 0, 1) := by decide +kernel
theorem dX9_isMendable_59 : decode cX9_isMendable 59 = .ok (.ireturn, 1) := by decide +kernel
theorem dX9_isMendable_60 : decode cX9_isMendable 60 = .ok (.aload_n 0, 1) := by decide +kernel
theorem dX9_isMendable_61 : decode cX9_isMendable 61 = .ok (.getfield 35, 3) := by decide +kernel
theorem dX9_isMendable_64 : decode cX9_isMendable 64 = .ok (.iload_n 1, 1) := by decide +kernel
theorem dX9_isMendable_65 : decode cX9_isMendable 65 = .ok (.invokevirtual 168, 3) := by decide +kernel
theorem dX9_isMendable_68 : decode cX9_isMendable 68 = .ok (.ifCond .eq 16, 3) := by decide +kernel
theorem dX9_isMendable_71 : decode cX9_isMendable 71 = .ok (.iload_n 3, 1) := by decide +kernel
theorem dX9_isMendable_72 : decode cX9_isMendable 72 = .ok (.iconst 0, 1) := by decide +kernel
theorem dX9_isMendable_73 : decode cX9_isMendable 73 = .ok (.iconst 4, 1) := by decide +kernel
theorem dX9_isMendable_74 : decode cX9_isMendable 74 = .ok (.invokestatic 82, 3) := by decide +kernel
theorem dX9_isMendable_77 : decode cX9_isMendable 77 = .ok (.ifCond .eq 7, 3) := by decide +kernel
theorem dX9_isMendable_80 : decode cX9_isMendable 80 = .ok (.iconst 1, 1) := by decide +kernel
theorem dX9_isMendable_81 : decode cX9_isMendable 81 = .ok (.goto 4, 3) := by decide +kernel
theorem dX9_isMendable_84 : decode cX9_isMendable 84 = .ok (.iconst 0, 1) := by decide +kernel
theorem dX9_isMendable_85 : decode cX9_isMendable 85 = .ok (.ireturn, 1) := by decide +kernel
theorem dX9_isMendable_86 : decode cX9_isMendable 86 = .ok (.aload_n 0, 1) := by decide +kernel
theorem dX9_isMendable_87 : decode cX9_isMendable 87 = .ok (.getfield 28, 3) := by decide +kernel
theorem dX9_isMendable_90 : decode cX9_isMendable 90 = .ok (.iload_n 1, 1) := by decide +kernel
theorem dX9_isMendable_91 : decode cX9_isMendable 91 = .ok (.invokevirtual 132, 3) := by decide +kernel
theorem dX9_isMendable_94 : decode cX9_isMendable 94 = .ok (.ifCond .eq 14, 3) := by decide +kernel
theorem dX9_isMendable_97 : decode cX9_isMendable 97 = .ok (.iload_n 3, 1) := by decide +kernel
theorem dX9_isMendable_98 : decode cX9_isMendable 98 = .ok (.invokestatic 86, 3) := by decide +kernel
theorem dX9_isMendable_101 : decode cX9_isMendable 101 = .ok (.ifCond .eq 7, 3) := by decide +kernel
theorem dX9_isMendable_104 : decode cX9_isMendable 104 = .ok (.iconst 1, 1) := by decide +kernel
theorem dX9_isMendable_105 : decode cX9_isMendable 105 = .ok (.goto 4, 3) := by decide +kernel
theorem dX9_isMendable_108 : decode cX9_isMendable 108 = .ok (.iconst 0, 1) := by decide +kernel
theorem dX9_isMendable_109 : decode cX9_isMendable 109 = .ok (.ireturn, 1) := by decide +kernel
theorem dX9_isMendable_110 : decode cX9_isMendable 110 = .ok (.aload_n 0, 1) := by decide +kernel
theorem dX9_isMendable_111 : decode cX9_isMendable 111 = .ok (.getfield 28, 3) := by decide +kernel
theorem dX9_isMendable_114 : decode cX9_isMendable 114 = .ok (.iload_n 1, 1) := by decide +kernel
theorem dX9_isMendable_115 : decode cX9_isMendable 115 = .ok (.invokevirtual 132, 3) := by decide +kernel
theorem dX9_isMendable_118 : decode cX9_isMendable 118 = .ok (.ifCond .eq 14, 3) := by decide +kernel
theorem dX9_isMendable_121 : decode cX9_isMendable 121 = .ok (.iload_n 3, 1) := by decide +kernel
theorem dX9_isMendable_122 : decode cX9_isMendable 122 = .ok (.invokestatic 89, 3) := by decide +kernel
theorem dX9_isMendable_125 : decode cX9_isMendable 125 = .ok (.ifCond .eq 7, 3) := by decide +kernel
theorem dX9_isMendable_128 : decode cX9_isMendable 128 = .ok (.iconst 1, 1) := by decide +kernel
theorem dX9_isMendable_129 : decode cX9_isMendable 129 = .ok (.goto 4, 3) := by decide +kernel
theorem dX9_isMendable_132 : decode cX9_isMendable 132 = .ok (.iconst 0, 1) := by decide +kernel
theorem dX9_isMendable_133 : decode cX9_isMendable 133 = .ok (.ireturn, 1) := by decide +kernel
theorem dX9_isMendable_134 : decode cX9_isMendable 134 = .ok (.iconst 0, 1) := by decide +kernel
theorem dX9_isMendable_135 : decode cX9_isMendable 135 = .ok (.ireturn, 1) := by decide +kernel
theorem dX9_markFromRow_0 : decode cX9_markFromRow 0 = .ok (.aload_n 0, 1) := by decide +kernel
theorem dX9_markFromRow_1 : decode cX9_markFromRow 1 = .ok (.getfield 35, 3) := by decide +kernel
theorem dX9_markFromRow_4 : decode cX9_markFromRow 4 = .ok (.invokevirtual 146, 3) := by decide +kernel
theorem dX9_markFromRow_7 : decode cX9_markFromRow 7 = .ok (.bipush 30, 2) := by decide +kernel
theorem dX9_markFromRow_9 : decode cX9_markFromRow 9 = .ok (.if_icmp .ge 16, 3) := by decide +kernel
theorem dX9_markFromRow_12 : decode cX9_markFromRow 12 = .ok (.aload_n 0, 1) := by decide +kernel
theorem dX9_markFromRow_13 : decode cX9_markFromRow 13 = .ok (.getfield 74, 3) := by decide +kernel
theorem dX9_markFromRow_16 : decode cX9_markFromRow 16 = .ok (.iload_n 1, 1) := by decide +kernel
theorem dX9_markFromRow_17 : decode cX9_markFromRow 17 = .ok (.iload_n 2, 1) := by decide +kernel
theorem dX9_markFromRow_18 : decode cX9_markFromRow 18 = .ok (.iconst 4, 1) := by decide +kernel
theorem dX9_markFromRow_19 : decode cX9_markFromRow 19 = .ok (.invokevirtual 329, 3) := by decide +kernel
theorem dX9_markFromRow_22 : decode cX9_markFromRow 22 = .ok (.ifCond .ne 5, 3) := by decide +kernel
theorem dX9_markFromRow_25 : decode cX9_markFromRow 25 = .ok (.iconst 0, 1) := by decide +kernel
theorem dX9_markFromRow_26 : decode cX9_markFromRow 26 = .ok (.ireturn, 1) := by decide +kernel
theorem dX9_markFromRow_27 : decode cX9_markFromRow 27 = .ok (.aload_n 0, 1) := by decide +kernel
theorem dX9_markFromRow_28 : decode cX9_markFromRow 28 = .ok (.getfield 74, 3) := by decide +kernel
theorem dX9_markFromRow_31 : decode cX9_markFromRow 31 = .ok (.iload_n 1, 1) := by decide +kernel
theorem dX9_markFromRow_32 : decode cX9_markFromRow 32 = .ok (.iload_n 2, 1) := by decide +kernel
theorem dX9_markFromRow_33 : decode cX9_markFromRow 33 = .ok (.invokevirtual 319, 3) := by decide +kernel
theorem dX9_markFromRow_36 : decode cX9_markFromRow 36 = .ok (.l2i, 1) := by decide +kernel
theorem dX9_markFromRow_37 : decode cX9_markFromRow 37 = .ok (.istore_n 3, 1) := by decide +kernel
theorem dX9_markFromRow_38 : decode cX9_markFromRow 38 = .ok (.aload_n 0, 1) := by decide +kernel
theorem dX9_markFromRow_39 : decode cX9_markFromRow 39 = .ok (.getfield 74, 3) := by decide +kernel
theorem dX9_markFromRow_42 : decode cX9_markFromRow 42 = .ok (.iload_n 1, 1) := by decide +kernel
theorem dX9_markFromRow_43 : decode cX9_markFromRow 43 = .ok (.iload_n 2, 1) := by decide +kernel
theorem dX9_markFromRow_44 : decode cX9_markFromRow 44 = .ok (.iconst 1, 1) := by decide +kernel
theorem dX9_markFromRow_45 : decode cX9_markFromRow 45 = .ok (.iadd, 1) := by decide +kernel
theorem dX9_markFromRow_46 : decode cX9_markFromRow 46 = .ok (.invokevirtual 319, 3) := by decide +kernel
theorem dX9_markFromRow_49 : decode cX9_markFromRow 49 = .ok (.l2i, 1) := by decide +kernel
theorem dX9_markFromRow_50 : decode cX9_markFromRow 50 = .ok (.istore 4, 2) := by decide +kernel
theorem dX9_markFromRow_52 : decode cX9_markFromRow 52 = .ok (.aload_n 0, 1) := by decide +kernel
theorem dX9_markFromRow_53 : decode cX9_markFromRow 53 = .ok (.getfield 74, 3) := by decide +kernel
theorem dX9_markFromRow_56 : decode cX9_markFromRow 56 = .ok (.iload_n 1, 1) := by decide +kernel
theorem dX9_markFromRow_57 : decode cX9_markFromRow 57 = .ok (.iload_n 2, 1) := by decide +kernel
theorem dX9_markFromRow_58 : decode cX9_markFromRow 58 = .ok (.iconst 2, 1) := by decide +kernel
theorem dX9_markFromRow_59 : decode cX9_markFromRow 59 = .ok (.iadd, 1) := by decide +kernel
theorem dX9_markFromRow_60 : decode cX9_markFromRow 60 = .ok (.invokevirtual 319, 3) := by decide +kernel
theorem dX9_markFromRow_63 : decode cX9_markFromRow 63 = .ok (.l2i, 1) := by decide +kernel
theorem dX9_markFromRow_64 : decode cX9_markFromRow 64 = .ok (.istore 5, 2) := by decide +kernel
theorem dX9_markFromRow_66 : decode cX9_markFromRow 66 = .ok (.aload_n 0, 1) := by decide +kernel
theorem dX9_markFromRow_67 : decode cX9_markFromRow 67 = .ok (.getfield 74, 3) := by decide +kernel
theorem dX9_markFromRow_70 : decode cX9_markFromRow 70 = .ok (.iload_n 1, 1) := by decide +kernel
theorem dX9_markFromRow_71 : decode cX9_markFromRow 71 = .ok (.iload_n 2, 1) := by decide +kernel
theorem dX9_markFromRow_72 : decode cX9_markFromRow 72 = .ok (.iconst 3, 1) := by decide +kernel
theorem dX9_markFromRow_73 : decode cX9_markFromRow 73 = .ok (.iadd, 1) := by decide +kernel
theorem dX9_markFromRow_74 : decode cX9_markFromRow 74 = .ok (.invokevirtual 319, 3) := by decide +kernel
theorem dX9_markFromRow_77 : decode cX9_markFromRow 77 = .ok (.l2i, 1) := by decide +kernel
theorem dX9_markFromRow_78 : decode cX9_markFromRow 78 = .ok (.istore 6, 2) := by decide +kernel
theorem dX9_markFromRow_80 : decode cX9_markFromRow 80 = .ok (.iload_n 3, 1) := by decide +kernel
theorem dX9_markFromRow_81 : decode cX9_markFromRow 81 = .ok (.iload 4, 2) := by decide +kernel
theorem dX9_markFromRow_83 : decode cX9_markFromRow 83 = .ok (.iload 5, 2) := by decide +kernel
theorem dX9_markFromRow_85 : decode cX9_markFromRow 85 = .ok (.iload 6, 2) := by decide +kernel
theorem dX9_markFromRow_87 : decode cX9_markFromRow 87 = .ok (.invokestatic 142, 3) := by decide +kernel
theorem dX9_markFromRow_90 : decode cX9_markFromRow 90 = .ok (.ifCond .ne 5, 3) := by decide +kernel
theorem dX9_markFromRow_93 : decode cX9_markFromRow 93 = .ok (.iconst 0, 1) := by decide +kernel
theorem dX9_markFromRow_94 : decode cX9_markFromRow 94 = .ok (.ireturn, 1) := by decide +kernel
theorem dX9_markFromRow_95 : decode cX9_markFromRow 95 = .ok (.aload_n 0, 1) := by decide +kernel
theorem dX9_markFromRow_96 : decode cX9_markFromRow 96 = .ok (.getfield 35, 3) := by decide +kernel
theorem dX9_markFromRow_99 : decode cX9_markFromRow 99 = .ok (.iload_n 3, 1) := by decide +kernel
theorem dX9_markFromRow_100 : decode cX9_markFromRow 100 = .ok (.iload 4, 2) := by decide +kernel
theorem dX9_markFromRow_102 : decode cX9_markFromRow 102 = .ok (.iload 5, 2) := by decide +kernel
theorem dX9_markFromRow_104 : decode cX9_markFromRow 104 = .ok (.iload 6, 2) := by decide +kernel
theorem dX9_markFromRow_106 : decode cX9_markFromRow 106 = .ok (.invokevirtual 147, 3) := by decide +kernel
theorem dX9_markFromRow_109 : decode cX9_markFromRow 109 = .ok (.pop, 1) := by decide +kernel
theorem dX9_markFromRow_110 : decode cX9_markFromRow 110 = .ok (.iconst 1, 1) := by decide +kernel
theorem dX9_markFromRow_111 : decode cX9_markFromRow 111 = .ok (.ireturn, 1) := by decide +kernel
theorem dX9_refusalAt_0 : decode cX9_refusalAt 0 = .ok (.aload_n 0, 1) := by decide +kernel
theorem dX9_refusalAt_1 : decode cX9_refusalAt 1 = .ok (.getfield 74, 3) := by decide +kernel
theorem dX9_refusalAt_4 : decode cX9_refusalAt 4 = .ok (.iload_n 1, 1) := by decide +kernel
theorem dX9_refusalAt_5 : decode cX9_refusalAt 5 = .ok (.invokevirtual 150, 3) := by decide +kernel
theorem dX9_refusalAt_8 : decode cX9_refusalAt 8 = .ok (.ifCond .ne 5, 3) := by decide +kernel
theorem dX9_refusalAt_11 : decode cX9_refusalAt 11 = .ok (.iconst (-1), 1) := by decide +kernel
theorem dX9_refusalAt_12 : decode cX9_refusalAt 12 = .ok (.ireturn, 1) := by decide +kernel
theorem dX9_refusalAt_13 : decode cX9_refusalAt 13 = .ok (.aload_n 0, 1) := by decide +kernel
theorem dX9_refusalAt_14 : decode cX9_refusalAt 14 = .ok (.getfield 74, 3) := by decide +kernel
theorem dX9_refusalAt_17 : decode cX9_refusalAt 17 = .ok (.iload_n 1, 1) := by decide +kernel
theorem dX9_refusalAt_18 : decode cX9_refusalAt 18 = .ok (.invokevirtual 151, 3) := by decide +kernel
theorem dX9_refusalAt_21 : decode cX9_refusalAt 21 = .ok (.ifCond .eq 6, 3) := by decide +kernel
theorem dX9_refusalAt_24 : decode cX9_refusalAt 24 = .ok (.bipush (-11), 2) := by decide +kernel
theorem dX9_refusalAt_26 : decode cX9_refusalAt 26 = .ok (.ireturn, 1) := by decide +kernel
theorem dX9_refusalAt_27 : decode cX9_refusalAt 27 = .ok (.aload_n 0, 1) := by decide +kernel
theorem dX9_refusalAt_28 : decode cX9_refusalAt 28 = .ok (.getfield 74, 3) := by decide +kernel
theorem dX9_refusalAt_31 : decode cX9_refusalAt 31 = .ok (.iload_n 1, 1) := by decide +kernel
theorem dX9_refusalAt_32 : decode cX9_refusalAt 32 = .ok (.invokevirtual 323, 3) := by decide +kernel
theorem dX9_refusalAt_35 : decode cX9_refusalAt 35 = .ok (.ifCond .ne 6, 3) := by decide +kernel
theorem dX9_refusalAt_38 : decode cX9_refusalAt 38 = .ok (.bipush (-12), 2) := by decide +kernel
theorem dX9_refusalAt_40 : decode cX9_refusalAt 40 = .ok (.ireturn, 1) := by decide +kernel
theorem dX9_refusalAt_41 : decode cX9_refusalAt 41 = .ok (.aload_n 0, 1) := by decide +kernel
theorem dX9_refusalAt_42 : decode cX9_refusalAt 42 = .ok (.getfield 74, 3) := by decide +kernel
theorem dX9_refusalAt_45 : decode cX9_refusalAt 45 = .ok (.iload_n 1, 1) := by decide +kernel
theorem dX9_refusalAt_46 : decode cX9_refusalAt 46 = .ok (.iload_n 2, 1) := by decide +kernel
theorem dX9_refusalAt_47 : decode cX9_refusalAt 47 = .ok (.iconst 1, 1) := by decide +kernel
theorem dX9_refusalAt_48 : decode cX9_refusalAt 48 = .ok (.invokevirtual 329, 3) := by decide +kernel
theorem dX9_refusalAt_51 : decode cX9_refusalAt 51 = .ok (.ifCond .eq 7, 3) := by decide +kernel
theorem dX9_refusalAt_54 : decode cX9_refusalAt 54 = .ok (.iconst 0, 1) := by decide +kernel
theorem dX9_refusalAt_55 : decode cX9_refusalAt 55 = .ok (.goto 5, 3) := by decide +kernel
theorem dX9_refusalAt_58 : decode cX9_refusalAt 58 = .ok (.bipush (-13), 2) := by decide +kernel
theorem dX9_refusalAt_60 : decode cX9_refusalAt 60 = .ok (.ireturn, 1) := by decide +kernel
theorem dX10_within_0 : decode cX10_within 0 = .ok (.lload_n 0, 1) := by decide +kernel
theorem dX10_within_1 : decode cX10_within 1 = .ok (.lload_n 2, 1) := by decide +kernel
theorem dX10_within_2 : decode cX10_within 2 = .ok (.lcmp, 1) := by decide +kernel
theorem dX10_within_3 : decode cX10_within 3 = .ok (.ifCond .lt 14, 3) := by decide +kernel
theorem dX10_within_6 : decode cX10_within 6 = .ok (.lload_n 0, 1) := by decide +kernel
theorem dX10_within_7 : decode cX10_within 7 = .ok (.lload 4, 2) := by decide +kernel
theorem dX10_within_9 : decode cX10_within 9 = .ok (.lcmp, 1) := by decide +kernel
theorem dX10_within_10 : decode cX10_within 10 = .ok (.ifCond .gt 7, 3) := by decide +kernel
theorem dX10_within_13 : decode cX10_within 13 = .ok (.iconst 1, 1) := by decide +kernel
theorem dX10_within_14 : decode cX10_within 14 = .ok (.goto 4, 3) := by decide +kernel
theorem dX10_within_17 : decode cX10_within 17 = .ok (.iconst 0, 1) := by decide +kernel
theorem dX10_within_18 : decode cX10_within 18 = .ok (.ireturn, 1) := by decide +kernel
theorem dX10_size_0 : decode cX10_size 0 = .ok (.iload_n 0, 1) := by decide +kernel
theorem dX10_size_1 : decode cX10_size 1 = .ok (.ifCond .ge 8, 3) := by decide +kernel
theorem dX10_size_4 : decode cX10_size 4 = .ok (.iload_n 0, 1) := by decide +kernel
theorem dX10_size_5 : decode cX10_size 5 = .ok (.ineg, 1) := by decide +kernel
theorem dX10_size_6 : decode cX10_size 6 = .ok (.goto 4, 3) := by decide +kernel
theorem dX10_size_9 : decode cX10_size 9 = .ok (.iload_n 0, 1) := by decide +kernel
theorem dX10_size_10 : decode cX10_size 10 = .ok (.ireturn, 1) := by decide +kernel
theorem dX10_init_0 : decode cX10_init 0 = .ok (.aload_n 0, 1) := by decide +kernel
theorem dX10_init_1 : decode cX10_init 1 = .ok (.invokespecial 3, 3) := by decide +kernel
theorem dX10_init_4 : decode cX10_init 4 = .ok (.aload_n 0, 1) := by decide +kernel
theorem dX10_init_5 : decode cX10_init 5 = .ok (.bipush 72, 2) := by decide +kernel
theorem dX10_init_7 : decode cX10_init 7 = .ok (.newarray .int, 2) := by decide +kernel
theorem dX10_init_9 : decode cX10_init 9 = .ok (.putfield 9, 3) := by decide +kernel
theorem dX10_init_12 : decode cX10_init 12 = .ok (.aload_n 0, 1) := by decide +kernel
theorem dX10_init_13 : decode cX10_init 13 = .ok (.bipush 40, 2) := by decide +kernel
theorem dX10_init_15 : decode cX10_init 15 = .ok (.newarray .int, 2) := by decide +kernel
theorem dX10_init_17 : decode cX10_init 17 = .ok (.putfield 13, 3) := by decide +kernel
theorem dX10_init_20 : decode cX10_init 20 = .ok (.aload_n 0, 1) := by decide +kernel
theorem dX10_init_21 : decode cX10_init 21 = .ok (.bipush 40, 2) := by decide +kernel
theorem dX10_init_23 : decode cX10_init 23 = .ok (.newarray .int, 2) := by decide +kernel
theorem dX10_init_25 : decode cX10_init 25 = .ok (.putfield 16, 3) := by decide +kernel
theorem dX10_init_28 : decode cX10_init 28 = .ok (.aload_n 0, 1) := by decide +kernel
theorem dX10_init_29 : decode cX10_init 29 = .ok (.bipush 40, 2) := by decide +kernel
theorem dX10_init_31 : decode cX10_init 31 = .ok (.newarray .int, 2) := by decide +kernel
theorem dX10_init_33 : decode cX10_init 33 = .ok (.putfield 19, 3) := by decide +kernel
theorem dX10_init_36 : decode cX10_init 36 = .ok (.aload_n 0, 1) := by decide +kernel
theorem dX10_init_37 : decode cX10_init 37 = .ok (.bipush 7, 2) := by decide +kernel
theorem dX10_init_39 : decode cX10_init 39 = .ok (.newarray .int, 2) := by decide +kernel
theorem dX10_init_41 : decode cX10_init 41 = .ok (.putfield 22, 3) := by decide +kernel
theorem dX10_init_44 : decode cX10_init 44 = .ok (.aload_n 0, 1) := by decide +kernel
theorem dX10_init_45 : decode cX10_init 45 = .ok (.bipush 7, 2) := by decide +kernel
theorem dX10_init_47 : decode cX10_init 47 = .ok (.newarray .int, 2) := by decide +kernel
theorem dX10_init_49 : decode cX10_init 49 = .ok (.putfield 25, 3) := by decide +kernel
theorem dX10_init_52 : decode cX10_init 52 = .ok (.aload_n 0, 1) := by decide +kernel
theorem dX10_init_53 : decode cX10_init 53 = .ok (.bipush 7, 2) := by decide +kernel
theorem dX10_init_55 : decode cX10_init 55 = .ok (.newarray .int, 2) := by decide +kernel
theorem dX10_init_57 : decode cX10_init 57 = .ok (.putfield 28, 3) := by decide +kernel
theorem dX10_init_60 : decode cX10_init 60 = .ok (.aload_n 0, 1) := by decide +kernel
theorem dX10_init_61 : decode cX10_init 61 = .ok (.bipush 11, 2) := by decide +kernel
theorem dX10_init_63 : decode cX10_init 63 = .ok (.newarray .int, 2) := by decide +kernel
theorem dX10_init_65 : decode cX10_init 65 = .ok (.putfield 31, 3) := by decide +kernel
theorem dX10_init_68 : decode cX10_init 68 = .ok (.aload_n 0, 1) := by decide +kernel
theorem dX10_init_69 : decode cX10_init 69 = .ok (.bipush 11, 2) := by decide +kernel
theorem dX10_init_71 : decode cX10_init 71 = .ok (.newarray .int, 2) := by decide +kernel
theorem dX10_init_73 : decode cX10_init 73 = .ok (.putfield 34, 3) := by decide +kernel
theorem dX10_init_76 : decode cX10_init 76 = .ok (.aload_n 0, 1) := by decide +kernel
theorem dX10_init_77 : decode cX10_init 77 = .ok (.bipush 11, 2) := by decide +kernel
theorem dX10_init_79 : decode cX10_init 79 = .ok (.newarray .int, 2) := by decide +kernel
theorem dX10_init_81 : decode cX10_init 81 = .ok (.putfield 37, 3) := by decide +kernel
theorem dX10_init_84 : decode cX10_init 84 = .ok (.aload_n 0, 1) := by decide +kernel
theorem dX10_init_85 : decode cX10_init 85 = .ok (.bipush 120, 2) := by decide +kernel
theorem dX10_init_87 : decode cX10_init 87 = .ok (.newarray .int, 2) := by decide +kernel
theorem dX10_init_89 : decode cX10_init 89 = .ok (.putfield 40, 3) := by decide +kernel
theorem dX10_init_92 : decode cX10_init 92 = .ok (.aload_n 0, 1) := by decide +kernel
theorem dX10_init_93 : decode cX10_init 93 = .ok (.bipush 120, 2) := by decide +kernel
theorem dX10_init_95 : decode cX10_init 95 = .ok (.newarray .int, 2) := by decide +kernel
theorem dX10_init_97 : decode cX10_init 97 = .ok (.putfield 43, 3) := by decide +kernel
theorem dX10_init_100 : decode cX10_init 100 = .ok (.aload_n 0, 1) := by decide +kernel
theorem dX10_init_101 : decode cX10_init 101 = .ok (.bipush 7, 2) := by decide +kernel
theorem dX10_init_103 : decode cX10_init 103 = .ok (.newarray .int, 2) := by decide +kernel
theorem dX10_init_105 : decode cX10_init 105 = .ok (.putfield 46, 3) := by decide +kernel
theorem dX10_init_108 : decode cX10_init 108 = .ok (.aload_n 0, 1) := by decide +kernel
theorem dX10_init_109 : decode cX10_init 109 = .ok (.sipush 4200, 3) := by decide +kernel
theorem dX10_init_112 : decode cX10_init 112 = .ok (.newarray .int, 2) := by decide +kernel
theorem dX10_init_114 : decode cX10_init 114 = .ok (.putfield 49, 3) := by decide +kernel
theorem dX10_init_117 : decode cX10_init 117 = .ok (.aload_n 0, 1) := by decide +kernel
theorem dX10_init_118 : decode cX10_init 118 = .ok (.bipush 30, 2) := by decide +kernel
theorem dX10_init_120 : decode cX10_init 120 = .ok (.newarray .int, 2) := by decide +kernel
theorem dX10_init_122 : decode cX10_init 122 = .ok (.putfield 52, 3) := by decide +kernel
theorem dX10_init_125 : decode cX10_init 125 = .ok (.aload_n 0, 1) := by decide +kernel
theorem dX10_init_126 : decode cX10_init 126 = .ok (.bipush 30, 2) := by decide +kernel
theorem dX10_init_128 : decode cX10_init 128 = .ok (.newarray .int, 2) := by decide +kernel
theorem dX10_init_130 : decode cX10_init 130 = .ok (.putfield 55, 3) := by decide +kernel
theorem dX10_init_133 : decode cX10_init 133 = .ok (.aload_n 0, 1) := by decide +kernel
theorem dX10_init_134 : decode cX10_init 134 = .ok (.bipush 30, 2) := by decide +kernel
theorem dX10_init_136 : decode cX10_init 136 = .ok (.newarray .boolean, 2) := by decide +kernel
theorem dX10_init_138 : decode cX10_init 138 = .ok (.putfield 58, 3) := by decide +kernel
theorem dX10_init_141 : decode cX10_init 141 = .ok (.aload_n 0, 1) := by decide +kernel
theorem dX10_init_142 : decode cX10_init 142 = .ok (.iconst 4, 1) := by decide +kernel
theorem dX10_init_143 : decode cX10_init 143 = .ok (.newarray .int, 2) := by decide +kernel
theorem dX10_init_145 : decode cX10_init 145 = .ok (.putfield 62, 3) := by decide +kernel
theorem dX10_init_148 : decode cX10_init 148 = .ok (.aload_n 0, 1) := by decide +kernel
theorem dX10_init_149 : decode cX10_init 149 = .ok (.iconst 4, 1) := by decide +kernel
theorem dX10_init_150 : decode cX10_init 150 = .ok (.newarray .int, 2) := by decide +kernel
theorem dX10_init_152 : decode cX10_init 152 = .ok (.putfield 65, 3) := by decide +kernel
theorem dX10_init_155 : decode cX10_init 155 = .ok (.aload_n 0, 1) := by decide +kernel
theorem dX10_init_156 : decode cX10_init 156 = .ok (.iconst 4, 1) := by decide +kernel
theorem dX10_init_157 : decode cX10_init 157 = .ok (.newarray .int, 2) := by decide +kernel
theorem dX10_init_159 : decode cX10_init 159 = .ok (.putfield 68, 3) := by decide +kernel
theorem dX10_init_162 : decode cX10_init 162 = .ok (.aload_n 0, 1) := by decide +kernel
theorem dX10_init_163 : decode cX10_init 163 = .ok (.bipush 50, 2) := by decide +kernel
theorem dX10_init_165 : decode cX10_init 165 = .ok (.newarray .int, 2) := by decide +kernel
theorem dX10_init_167 : decode cX10_init 167 = .ok (.putfield 71, 3) := by decide +kernel
theorem dX10_init_170 : decode cX10_init 170 = .ok (.aload_n 0, 1) := by decide +kernel
theorem dX10_init_171 : decode cX10_init 171 = .ok (.bipush 24, 2) := by decide +kernel
theorem dX10_init_173 : decode cX10_init 173 = .ok (.newarray .int, 2) := by decide +kernel
theorem dX10_init_175 : decode cX10_init 175 = .ok (.putfield 74, 3) := by decide +kernel
theorem dX10_init_178 : decode cX10_init 178 = .ok (.aload_n 0, 1) := by decide +kernel
theorem dX10_init_179 : decode cX10_init 179 = .ok (.bipush 6, 2) := by decide +kernel
theorem dX10_init_181 : decode cX10_init 181 = .ok (.newarray .int, 2) := by decide +kernel
theorem dX10_init_183 : decode cX10_init 183 = .ok (.putfield 77, 3) := by decide +kernel
theorem dX10_init_186 : decode cX10_init 186 = .ok (.aload_n 0, 1) := by decide +kernel
theorem dX10_init_187 : decode cX10_init 187 = .ok (.bipush 6, 2) := by decide +kernel
theorem dX10_init_189 : decode cX10_init 189 = .ok (.newarray .int, 2) := by decide +kernel
theorem dX10_init_191 : decode cX10_init 191 = .ok (.putfield 80, 3) := by decide +kernel
theorem dX10_init_194 : decode cX10_init 194 = .ok (.aload_n 0, 1) := by decide +kernel
theorem dX10_init_195 : decode cX10_init 195 = .ok (.sipush 360, 3) := by decide +kernel
theorem dX10_init_198 : decode cX10_init 198 = .ok (.newarray .long, 2) := by decide +kernel
theorem dX10_init_200 : decode cX10_init 200 = .ok (.putfield 83, 3) := by decide +kernel
theorem dX10_init_203 : decode cX10_init 203 = .ok (.aload_n 0, 1) := by decide +kernel
theorem dX10_init_204 : decode cX10_init 204 = .ok (.bipush 60, 2) := by decide +kernel
theorem dX10_init_206 : decode cX10_init 206 = .ok (.newarray .long, 2) := by decide +kernel
theorem dX10_init_208 : decode cX10_init 208 = .ok (.putfield 87, 3) := by decide +kernel
theorem dX10_init_211 : decode cX10_init 211 = .ok (.iconst 0, 1) := by decide +kernel
theorem dX10_init_212 : decode cX10_init 212 = .ok (.istore_n 1, 1) := by decide +kernel
theorem dX10_init_213 : decode cX10_init 213 = .ok (.iload_n 1, 1) := by decide +kernel
theorem dX10_init_214 : decode cX10_init 214 = .ok (.bipush 6, 2) := by decide +kernel
theorem dX10_init_216 : decode cX10_init 216 = .ok (.if_icmp .ge 16, 3) := by decide +kernel
theorem dX10_init_219 : decode cX10_init 219 = .ok (.aload_n 0, 1) := by decide +kernel
theorem dX10_init_220 : decode cX10_init 220 = .ok (.getfield 77, 3) := by decide +kernel
theorem dX10_init_223 : decode cX10_init 223 = .ok (.iload_n 1, 1) := by decide +kernel
theorem dX10_init_224 : decode cX10_init 224 = .ok (.iconst (-1), 1) := by decide +kernel
theorem dX10_init_225 : decode cX10_init 225 = .ok (.iastore, 1) := by decide +kernel
theorem dX10_init_226 : decode cX10_init 226 = .ok (.iinc 1 1, 3) := by decide +kernel
theorem dX10_init_229 : decode cX10_init 229 = .ok (.goto (-16), 3) := by decide +kernel
theorem dX10_init_232 : decode cX10_init 232 = .ok (.aload_n 0, 1) := by decide +kernel
theorem dX10_init_233 : decode cX10_init 233 = .ok (.iconst (-1), 1) := by decide +kernel
theorem dX10_init_234 : decode cX10_init 234 = .ok (.putfield 90, 3) := by decide +kernel
theorem dX10_init_237 : decode cX10_init 237 = .ok (.aload_n 0, 1) := by decide +kernel
theorem dX10_init_238 : decode cX10_init 238 = .ok (.iconst (-1), 1) := by decide +kernel
theorem dX10_init_239 : decode cX10_init 239 = .ok (.putfield 94, 3) := by decide +kernel
theorem dX10_init_242 : decode cX10_init 242 = .ok (.return_, 1) := by decide +kernel
theorem dX10_becomes_0 : decode cX10_becomes 0 = .ok (.aload_n 0, 1) := by decide +kernel
theorem dX10_becomes_1 : decode cX10_becomes 1 = .ok (.getfield 9, 3) := by decide +kernel
theorem dX10_becomes_4 : decode cX10_becomes 4 = .ok (.iload_n 1, 1) := by decide +kernel
theorem dX10_becomes_5 : decode cX10_becomes 5 = .ok (.iaload, 1) := by decide +kernel
theorem dX10_becomes_6 : decode cX10_becomes 6 = .ok (.istore_n 3, 1) := by decide +kernel
theorem dX10_becomes_7 : decode cX10_becomes 7 = .ok (.iload_n 3, 1) := by decide +kernel
theorem dX10_becomes_8 : decode cX10_becomes 8 = .ok (.iload_n 2, 1) := by decide +kernel
theorem dX10_becomes_9 : decode cX10_becomes 9 = .ok (.if_icmp .ne 5, 3) := by decide +kernel
theorem dX10_becomes_12 : decode cX10_becomes 12 = .ok (.iload_n 3, 1) := by decide +kernel
theorem dX10_becomes_13 : decode cX10_becomes 13 = .ok (.ireturn, 1) := by decide +kernel
theorem dX10_becomes_14 : decode cX10_becomes 14 = .ok (.aload_n 0, 1) := by decide +kernel
theorem dX10_becomes_15 : decode cX10_becomes 15 = .ok (.getfield 97, 3) := by decide +kernel
theorem dX10_becomes_18 : decode cX10_becomes 18 = .ok (.bipush 40, 2) := by decide +kernel
theorem dX10_becomes_20 : decode cX10_becomes 20 = .ok (.if_icmp .ne 77, 3) := by decide +kernel
theorem dX10_becomes_23 : decode cX10_becomes 23 = .ok (.iconst 1, 1) := by decide +kernel
theorem dX10_becomes_24 : decode cX10_becomes 24 = .ok (.istore 4, 2) := by decide +kernel
theorem dX10_becomes_26 : decode cX10_becomes 26 = .ok (.iload 4, 2) := by decide +kernel
theorem dX10_becomes_28 : decode cX10_becomes 28 = .ok (.bipush 40, 2) := by decide +kernel
theorem dX10_becomes_30 : decode cX10_becomes 30 = .ok (.if_icmp .ge 57, 3) := by decide +kernel
theorem dX10_becomes_33 : decode cX10_becomes 33 = .ok (.aload_n 0, 1) := by decide +kernel
theorem dX10_becomes_34 : decode cX10_becomes 34 = .ok (.getfield 13, 3) := by decide +kernel
theorem dX10_becomes_37 : decode cX10_becomes 37 = .ok (.iload 4, 2) := by decide +kernel
theorem dX10_becomes_39 : decode cX10_becomes 39 = .ok (.iconst 1, 1) := by decide +kernel
theorem dX10_becomes_40 : decode cX10_becomes 40 = .ok (.isub, 1) := by decide +kernel
theorem dX10_becomes_41 : decode cX10_becomes 41 = .ok (.aload_n 0, 1) := by decide +kernel
theorem dX10_becomes_42 : decode cX10_becomes 42 = .ok (.getfield 13, 3) := by decide +kernel
theorem dX10_becomes_45 : decode cX10_becomes 45 = .ok (.iload 4, 2) := by decide +kernel
theorem dX10_becomes_47 : decode cX10_becomes 47 = .ok (.iaload, 1) := by decide +kernel
theorem dX10_becomes_48 : decode cX10_becomes 48 = .ok (.iastore, 1) := by decide +kernel
theorem dX10_becomes_49 : decode cX10_becomes 49 = .ok (.aload_n 0, 1) := by decide +kernel
theorem dX10_becomes_50 : decode cX10_becomes 50 = .ok (.getfield 16, 3) := by decide +kernel
theorem dX10_becomes_53 : decode cX10_becomes 53 = .ok (.iload 4, 2) := by decide +kernel
theorem dX10_becomes_55 : decode cX10_becomes 55 = .ok (.iconst 1, 1) := by decide +kernel
theorem dX10_becomes_56 : decode cX10_becomes 56 = .ok (.isub, 1) := by decide +kernel
theorem dX10_becomes_57 : decode cX10_becomes 57 = .ok (.aload_n 0, 1) := by decide +kernel
theorem dX10_becomes_58 : decode cX10_becomes 58 = .ok (.getfield 16, 3) := by decide +kernel
theorem dX10_becomes_61 : decode cX10_becomes 61 = .ok (.iload 4, 2) := by decide +kernel
theorem dX10_becomes_63 : decode cX10_becomes 63 = .ok (.iaload, 1) := by decide +kernel
theorem dX10_becomes_64 : decode cX10_becomes 64 = .ok (.iastore, 1) := by decide +kernel
theorem dX10_becomes_65 : decode cX10_becomes 65 = .ok (.aload_n 0, 1) := by decide +kernel
theorem dX10_becomes_66 : decode cX10_becomes 66 = .ok (.getfield 19, 3) := by decide +kernel
theorem dX10_becomes_69 : decode cX10_becomes 69 = .ok (.iload 4, 2) := by decide +kernel
theorem dX10_becomes_71 : decode cX10_becomes 71 = .ok (.iconst 1, 1) := by decide +kernel
theorem dX10_becomes_72 : decode cX10_becomes 72 = .ok (.isub, 1) := by decide +kernel
theorem dX10_becomes_73 : decode cX10_becomes 73 = .ok (.aload_n 0, 1) := by decide +kernel
theorem dX10_becomes_74 : decode cX10_becomes 74 = .ok (.getfield 19, 3) := by decide +kernel
theorem dX10_becomes_77 : decode cX10_becomes 77 = .ok (.iload 4, 2) := by decide +kernel
theorem dX10_becomes_79 : decode cX10_becomes 79 = .ok (.iaload, 1) := by decide +kernel
theorem dX10_becomes_80 : decode cX10_becomes 80 = .ok (.iastore, 1) := by decide +kernel
theorem dX10_becomes_81 : decode cX10_becomes 81 = .ok (.iinc 4 1, 3) := by decide +kernel
theorem dX10_becomes_84 : decode cX10_becomes 84 = .ok (.goto (-58), 3) := by decide +kernel
theorem dX10_becomes_87 : decode cX10_becomes 87 = .ok (.aload_n 0, 1) := by decide +kernel
theorem dX10_becomes_88 : decode cX10_becomes 88 = .ok (.dup, 1) := by decide +kernel
theorem dX10_becomes_89 : decode cX10_becomes 89 = .ok (.getfield 97, 3) := by decide +kernel
theorem dX10_becomes_92 : decode cX10_becomes 92 = .ok (.iconst 1, 1) := by decide +kernel
theorem dX10_becomes_93 : decode cX10_becomes 93 = .ok (.isub, 1) := by decide +kernel
theorem dX10_becomes_94 : decode cX10_becomes 94 = .ok (.putfield 97, 3) := by decide +kernel
theorem dX10_becomes_97 : decode cX10_becomes 97 = .ok (.aload_n 0, 1) := by decide +kernel
theorem dX10_becomes_98 : decode cX10_becomes 98 = .ok (.getfield 13, 3) := by decide +kernel
theorem dX10_becomes_101 : decode cX10_becomes 101 = .ok (.aload_n 0, 1) := by decide +kernel
theorem dX10_becomes_102 : decode cX10_becomes 102 = .ok (.getfield 97, 3) := by decide +kernel
theorem dX10_becomes_105 : decode cX10_becomes 105 = .ok (.iload_n 1, 1) := by decide +kernel
theorem dX10_becomes_106 : decode cX10_becomes 106 = .ok (.iastore, 1) := by decide +kernel
theorem dX10_becomes_107 : decode cX10_becomes 107 = .ok (.aload_n 0, 1) := by decide +kernel
theorem dX10_becomes_108 : decode cX10_becomes 108 = .ok (.getfield 16, 3) := by decide +kernel
theorem dX10_becomes_111 : decode cX10_becomes 111 = .ok (.aload_n 0, 1) := by decide +kernel
theorem dX10_becomes_112 : decode cX10_becomes 112 = .ok (.getfield 97, 3) := by decide +kernel
theorem dX10_becomes_115 : decode cX10_becomes 115 = .ok (.iload_n 3, 1) := by decide +kernel
theorem dX10_becomes_116 : decode cX10_becomes 116 = .ok (.iastore, 1) := by decide +kernel
theorem dX10_becomes_117 : decode cX10_becomes 117 = .ok (.aload_n 0, 1) := by decide +kernel
theorem dX10_becomes_118 : decode cX10_becomes 118 = .ok (.getfield 19, 3) := by decide +kernel
theorem dX10_becomes_121 : decode cX10_becomes 121 = .ok (.aload_n 0, 1) := by decide +kernel
theorem dX10_becomes_122 : decode cX10_becomes 122 = .ok (.getfield 97, 3) := by decide +kernel
theorem dX10_becomes_125 : decode cX10_becomes 125 = .ok (.iload_n 2, 1) := by decide +kernel
theorem dX10_becomes_126 : decode cX10_becomes 126 = .ok (.iastore, 1) := by decide +kernel
theorem dX10_becomes_127 : decode cX10_becomes 127 = .ok (.aload_n 0, 1) := by decide +kernel
theorem dX10_becomes_128 : decode cX10_becomes 128 = .ok (.dup, 1) := by decide +kernel
theorem dX10_becomes_129 : decode cX10_becomes 129 = .ok (.getfield 97, 3) := by decide +kernel
theorem dX10_becomes_132 : decode cX10_becomes 132 = .ok (.iconst 1, 1) := by decide +kernel
theorem dX10_becomes_133 : decode cX10_becomes 133 = .ok (.iadd, 1) := by decide +kernel
theorem dX10_becomes_134 : decode cX10_becomes 134 = .ok (.putfield 97, 3) := by decide +kernel
theorem dX10_becomes_137 : decode cX10_becomes 137 = .ok (.aload_n 0, 1) := by decide +kernel
theorem dX10_becomes_138 : decode cX10_becomes 138 = .ok (.aload_n 0, 1) := by decide +kernel
theorem dX10_becomes_139 : decode cX10_becomes 139 = .ok (.getfield 97, 3) := by decide +kernel
theorem dX10_becomes_142 : decode cX10_becomes 142 = .ok (.putfield 100, 3) := by decide +kernel
theorem dX10_becomes_145 : decode cX10_becomes 145 = .ok (.aload_n 0, 1) := by decide +kernel
theorem dX10_becomes_146 : decode cX10_becomes 146 = .ok (.getfield 9, 3) := by decide +kernel
theorem dX10_becomes_149 : decode cX10_becomes 149 = .ok (.iload_n 1, 1) := by decide +kernel
theorem dX10_becomes_150 : decode cX10_becomes 150 = .ok (.iload_n 2, 1) := by decide +kernel
theorem dX10_becomes_151 : decode cX10_becomes 151 = .ok (.iastore, 1) := by decide +kernel
theorem dX10_becomes_152 : decode cX10_becomes 152 = .ok (.aload_n 0, 1) := by decide +kernel
theorem dX10_becomes_153 : decode cX10_becomes 153 = .ok (.iconst 0, 1) := by decide +kernel
theorem dX10_becomes_154 : decode cX10_becomes 154 = .ok (.putfield 103, 3) := by decide +kernel
theorem dX10_becomes_157 : decode cX10_becomes 157 = .ok (.iload_n 3, 1) := by decide +kernel
theorem dX10_becomes_158 : decode cX10_becomes 158 = .ok (.ireturn, 1) := by decide +kernel
theorem dX10_undo_0 : decode cX10_undo 0 = .ok (.aload_n 0, 1) := by decide +kernel
theorem dX10_undo_1 : decode cX10_undo 1 = .ok (.getfield 97, 3) := by decide +kernel
theorem dX10_undo_4 : decode cX10_undo 4 = .ok (.ifCond .ne 6, 3) := by decide +kernel
theorem dX10_undo_7 : decode cX10_undo 7 = .ok (.bipush (-5), 2) := by decide +kernel
theorem dX10_undo_9 : decode cX10_undo 9 = .ok (.ireturn, 1) := by decide +kernel
theorem dX10_undo_10 : decode cX10_undo 10 = .ok (.aload_n 0, 1) := by decide +kernel
theorem dX10_undo_11 : decode cX10_undo 11 = .ok (.dup, 1) := by decide +kernel
theorem dX10_undo_12 : decode cX10_undo 12 = .ok (.getfield 97, 3) := by decide +kernel
theorem dX10_undo_15 : decode cX10_undo 15 = .ok (.iconst 1, 1) := by decide +kernel
theorem dX10_undo_16 : decode cX10_undo 16 = .ok (.isub, 1) := by decide +kernel
theorem dX10_undo_17 : decode cX10_undo 17 = .ok (.putfield 97, 3) := by decide +kernel
theorem dX10_undo_20 : decode cX10_undo 20 = .ok (.aload_n 0, 1) := by decide +kernel
theorem dX10_undo_21 : decode cX10_undo 21 = .ok (.getfield 9, 3) := by decide +kernel
theorem dX10_undo_24 : decode cX10_undo 24 = .ok (.aload_n 0, 1) := by decide +kernel
theorem dX10_undo_25 : decode cX10_undo 25 = .ok (.getfield 13, 3) := by decide +kernel
theorem dX10_undo_28 : decode cX10_undo 28 = .ok (.aload_n 0, 1) := by decide +kernel
theorem dX10_undo_29 : decode cX10_undo 29 = .ok (.getfield 97, 3) := by decide +kernel
theorem dX10_undo_32 : decode cX10_undo 32 = .ok (.iaload, 1) := by decide +kernel
theorem dX10_undo_33 : decode cX10_undo 33 = .ok (.aload_n 0, 1) := by decide +kernel
theorem dX10_undo_34 : decode cX10_undo 34 = .ok (.getfield 16, 3) := by decide +kernel
theorem dX10_undo_37 : decode cX10_undo 37 = .ok (.aload_n 0, 1) := by decide +kernel
theorem dX10_undo_38 : decode cX10_undo 38 = .ok (.getfield 97, 3) := by decide +kernel
theorem dX10_undo_41 : decode cX10_undo 41 = .ok (.iaload, 1) := by decide +kernel
theorem dX10_undo_42 : decode cX10_undo 42 = .ok (.iastore, 1) := by decide +kernel
theorem dX10_undo_43 : decode cX10_undo 43 = .ok (.aload_n 0, 1) := by decide +kernel
theorem dX10_undo_44 : decode cX10_undo 44 = .ok (.iconst 0, 1) := by decide +kernel
theorem dX10_undo_45 : decode cX10_undo 45 = .ok (.putfield 103, 3) := by decide +kernel
theorem dX10_undo_48 : decode cX10_undo 48 = .ok (.aload_n 0, 1) := by decide +kernel
theorem dX10_undo_49 : decode cX10_undo 49 = .ok (.getfield 97, 3) := by decide +kernel
theorem dX10_undo_52 : decode cX10_undo 52 = .ok (.ireturn, 1) := by decide +kernel
theorem dX10_redo_0 : decode cX10_redo 0 = .ok (.aload_n 0, 1) := by decide +kernel
theorem dX10_redo_1 : decode cX10_redo 1 = .ok (.getfield 97, 3) := by decide +kernel
theorem dX10_redo_4 : decode cX10_redo 4 = .ok (.aload_n 0, 1) := by decide +kernel
theorem dX10_redo_5 : decode cX10_redo 5 = .ok (.getfield 100, 3) := by decide +kernel
theorem dX10_redo_8 : decode cX10_redo 8 = .ok (.if_icmp .ne 6, 3) := by decide +kernel
theorem dX10_redo_11 : decode cX10_redo 11 = .ok (.bipush (-5), 2) := by decide +kernel
theorem dX10_redo_13 : decode cX10_redo 13 = .ok (.ireturn, 1) := by decide +kernel
theorem dX10_redo_14 : decode cX10_redo 14 = .ok (.aload_n 0, 1) := by decide +kernel
theorem dX10_redo_15 : decode cX10_redo 15 = .ok (.getfield 9, 3) := by decide +kernel
theorem dX10_redo_18 : decode cX10_redo 18 = .ok (.aload_n 0, 1) := by decide +kernel
theorem dX10_redo_19 : decode cX10_redo 19 = .ok (.getfield 13, 3) := by decide +kernel
theorem dX10_redo_22 : decode cX10_redo 22 = .ok (.aload_n 0, 1) := by decide +kernel
theorem dX10_redo_23 : decode cX10_redo 23 = .ok (.getfield 97, 3) := by decide +kernel
theorem dX10_redo_26 : decode cX10_redo 26 = .ok (.iaload, 1) := by decide +kernel
theorem dX10_redo_27 : decode cX10_redo 27 = .ok (.aload_n 0, 1) := by decide +kernel
theorem dX10_redo_28 : decode cX10_redo 28 = .ok (.getfield 19, 3) := by decide +kernel
theorem dX10_redo_31 : decode cX10_redo 31 = .ok (.aload_n 0, 1) := by decide +kernel
theorem dX10_redo_32 : decode cX10_redo 32 = .ok (.getfield 97, 3) := by decide +kernel
theorem dX10_redo_35 : decode cX10_redo 35 = .ok (.iaload, 1) := by decide +kernel
theorem dX10_redo_36 : decode cX10_redo 36 = .ok (.iastore, 1) := by decide +kernel
theorem dX10_redo_37 : decode cX10_redo 37 = .ok (.aload_n 0, 1) := by decide +kernel
theorem dX10_redo_38 : decode cX10_redo 38 = .ok (.dup, 1) := by decide +kernel
theorem dX10_redo_39 : decode cX10_redo 39 = .ok (.getfield 97, 3) := by decide +kernel
theorem dX10_redo_42 : decode cX10_redo 42 = .ok (.iconst 1, 1) := by decide +kernel
theorem dX10_redo_43 : decode cX10_redo 43 = .ok (.iadd, 1) := by decide +kernel
theorem dX10_redo_44 : decode cX10_redo 44 = .ok (.putfield 97, 3) := by decide +kernel
theorem dX10_redo_47 : decode cX10_redo 47 = .ok (.aload_n 0, 1) := by decide +kernel
theorem dX10_redo_48 : decode cX10_redo 48 = .ok (.iconst 0, 1) := by decide +kernel
theorem dX10_redo_49 : decode cX10_redo 49 = .ok (.putfield 103, 3) := by decide +kernel
theorem dX10_redo_52 : decode cX10_redo 52 = .ok (.aload_n 0, 1) := by decide +kernel
theorem dX10_redo_53 : decode cX10_redo 53 = .ok (.getfield 100, 3) := by decide +kernel
theorem dX10_redo_56 : decode cX10_redo 56 = .ok (.aload_n 0, 1) := by decide +kernel
theorem dX10_redo_57 : decode cX10_redo 57 = .ok (.getfield 97, 3) := by decide +kernel
theorem dX10_redo_60 : decode cX10_redo 60 = .ok (.isub, 1) := by decide +kernel
theorem dX10_redo_61 : decode cX10_redo 61 = .ok (.ireturn, 1) := by decide +kernel
theorem dX10_isChild_0 : decode cX10_isChild 0 = .ok (.iload_n 1, 1) := by decide +kernel
theorem dX10_isChild_1 : decode cX10_isChild 1 = .ok (.i2l, 1) := by decide +kernel
theorem dX10_isChild_2 : decode cX10_isChild 2 = .ok (.lconst 0, 1) := by decide +kernel
theorem dX10_isChild_3 : decode cX10_isChild 3 = .ok (.aload_n 0, 1) := by decide +kernel
theorem dX10_isChild_4 : decode cX10_isChild 4 = .ok (.getfield 107, 3) := by decide +kernel
theorem dX10_isChild_7 : decode cX10_isChild 7 = .ok (.iconst 1, 1) := by decide +kernel
theorem dX10_isChild_8 : decode cX10_isChild 8 = .ok (.isub, 1) := by decide +kernel
theorem dX10_isChild_9 : decode cX10_isChild 9 = .ok (.i2l, 1) := by decide +kernel
theorem dX10_isChild_10 : decode cX10_isChild 10 = .ok (.invokestatic 110, 3) := by decide +kernel
theorem dX10_isChild_13 : decode cX10_isChild 13 = .ok (.ireturn, 1) := by decide +kernel
theorem dX10_isMonth_0 : decode cX10_isMonth 0 = .ok (.iload_n 0, 1) := by decide +kernel
theorem dX10_isMonth_1 : decode cX10_isMonth 1 = .ok (.i2l, 1) := by decide +kernel
theorem dX10_isMonth_2 : decode cX10_isMonth 2 = .ok (.lconst 0, 1) := by decide +kernel
theorem dX10_isMonth_3 : decode cX10_isMonth 3 = .ok (.ldc2_w 114, 3) := by decide +kernel
theorem dX10_isMonth_6 : decode cX10_isMonth 6 = .ok (.invokestatic 110, 3) := by decide +kernel
theorem dX10_isMonth_9 : decode cX10_isMonth 9 = .ok (.ireturn, 1) := by decide +kernel
theorem dX10_isLate_0 : decode cX10_isLate 0 = .ok (.iload_n 0, 1) := by decide +kernel
theorem dX10_isLate_1 : decode cX10_isLate 1 = .ok (.i2l, 1) := by decide +kernel
theorem dX10_isLate_2 : decode cX10_isLate 2 = .ok (.ldc2_w 116, 3) := by decide +kernel
theorem dX10_isLate_5 : decode cX10_isLate 5 = .ok (.ldc2_w 118, 3) := by decide +kernel
theorem dX10_isLate_8 : decode cX10_isLate 8 = .ok (.invokestatic 110, 3) := by decide +kernel
theorem dX10_isLate_11 : decode cX10_isLate 11 = .ok (.ireturn, 1) := by decide +kernel
theorem dX10_areParents_0 : decode cX10_areParents 0 = .ok (.iload_n 0, 1) := by decide +kernel
theorem dX10_areParents_1 : decode cX10_areParents 1 = .ok (.i2l, 1) := by decide +kernel
theorem dX10_areParents_2 : decode cX10_areParents 2 = .ok (.ldc2_w 120, 3) := by decide +kernel
theorem dX10_areParents_5 : decode cX10_areParents 5 = .ok (.ldc2_w 122, 3) := by decide +kernel
theorem dX10_areParents_8 : decode cX10_areParents 8 = .ok (.invokestatic 110, 3) := by decide +kernel
theorem dX10_areParents_11 : decode cX10_areParents 11 = .ok (.ireturn, 1) := by decide +kernel
theorem dX10_child_0 : decode cX10_child 0 = .ok (.iload_n 1, 1) := by decide +kernel
theorem dX10_child_1 : decode cX10_child 1 = .ok (.ifCond .lt 64, 3) := by decide +kernel
theorem dX10_child_4 : decode cX10_child 4 = .ok (.iload_n 1, 1) := by decide +kernel
theorem dX10_child_5 : decode cX10_child 5 = .ok (.bipush 10, 2) := by decide +kernel
theorem dX10_child_7 : decode cX10_child 7 = .ok (.idiv, 1) := by decide +kernel
theorem dX10_child_8 : decode cX10_child 8 = .ok (.invokestatic 124, 3) := by decide +kernel
theorem dX10_child_11 : decode cX10_child 11 = .ok (.ifCond .eq 54, 3) := by decide +kernel
theorem dX10_child_14 : decode cX10_child 14 = .ok (.iload_n 1, 1) := by decide +kernel
theorem dX10_child_15 : decode cX10_child 15 = .ok (.bipush 10, 2) := by decide +kernel
theorem dX10_child_17 : decode cX10_child 17 = .ok (.irem, 1) := by decide +kernel
theorem dX10_child_18 : decode cX10_child 18 = .ok (.iconst 1, 1) := by decide +kernel
theorem dX10_child_19 : decode cX10_child 19 = .ok (.if_icmp .gt 46, 3) := by decide +kernel
theorem dX10_child_22 : decode cX10_child 22 = .ok (.iload_n 2, 1) := by decide +kernel
theorem dX10_child_23 : decode cX10_child 23 = .ok (.i2l, 1) := by decide +kernel
theorem dX10_child_24 : decode cX10_child 24 = .ok (.ldc2_w 128, 3) := by decide +kernel
theorem dX10_child_27 : decode cX10_child 27 = .ok (.ldc2_w 130, 3) := by decide +kernel
theorem dX10_child_30 : decode cX10_child 30 = .ok (.invokestatic 110, 3) := by decide +kernel
theorem dX10_child_33 : decode cX10_child 33 = .ok (.ifCond .eq 32, 3) := by decide +kernel
theorem dX10_child_36 : decode cX10_child 36 = .ok (.iload_n 3, 1) := by decide +kernel
theorem dX10_child_37 : decode cX10_child 37 = .ok (.ifCond .lt 28, 3) := by decide +kernel
theorem dX10_child_40 : decode cX10_child 40 = .ok (.iload_n 3, 1) := by decide +kernel
theorem dX10_child_41 : decode cX10_child 41 = .ok (.sipush 10000, 3) := by decide +kernel
theorem dX10_child_44 : decode cX10_child 44 = .ok (.idiv, 1) := by decide +kernel
theorem dX10_child_45 : decode cX10_child 45 = .ok (.bipush 24, 2) := by decide +kernel
theorem dX10_child_47 : decode cX10_child 47 = .ok (.isub, 1) := by decide +kernel
theorem dX10_child_48 : decode cX10_child 48 = .ok (.invokestatic 132, 3) := by decide +kernel
theorem dX10_child_51 : decode cX10_child 51 = .ok (.ifCond .eq 14, 3) := by decide +kernel
theorem dX10_child_54 : decode cX10_child 54 = .ok (.iload_n 3, 1) := by decide +kernel
theorem dX10_child_55 : decode cX10_child 55 = .ok (.sipush 10000, 3) := by decide +kernel
theorem dX10_child_58 : decode cX10_child 58 = .ok (.irem, 1) := by decide +kernel
theorem dX10_child_59 : decode cX10_child 59 = .ok (.invokestatic 135, 3) := by decide +kernel
theorem dX10_child_62 : decode cX10_child 62 = .ok (.ifCond .ne 5, 3) := by decide +kernel
theorem dX10_child_65 : decode cX10_child 65 = .ok (.iconst (-1), 1) := by decide +kernel
theorem dX10_child_66 : decode cX10_child 66 = .ok (.ireturn, 1) := by decide +kernel
theorem dX10_child_67 : decode cX10_child 67 = .ok (.aload_n 0, 1) := by decide +kernel
theorem dX10_child_68 : decode cX10_child 68 = .ok (.getfield 107, 3) := by decide +kernel
theorem dX10_child_71 : decode cX10_child 71 = .ok (.bipush 6, 2) := by decide +kernel
theorem dX10_child_73 : decode cX10_child 73 = .ok (.if_icmp .ne 6, 3) := by decide +kernel
theorem dX10_child_76 : decode cX10_child 76 = .ok (.bipush (-3), 2) := by decide +kernel
theorem dX10_child_78 : decode cX10_child 78 = .ok (.ireturn, 1) := by decide +kernel
theorem dX10_child_79 : decode cX10_child 79 = .ok (.aload_n 0, 1) := by decide +kernel
theorem dX10_child_80 : decode cX10_child 80 = .ok (.getfield 22, 3) := by decide +kernel
theorem dX10_child_83 : decode cX10_child 83 = .ok (.aload_n 0, 1) := by decide +kernel
theorem dX10_child_84 : decode cX10_child 84 = .ok (.getfield 107, 3) := by decide +kernel
theorem dX10_child_87 : decode cX10_child 87 = .ok (.iload_n 1, 1) := by decide +kernel
theorem dX10_child_88 : decode cX10_child 88 = .ok (.bipush 10, 2) := by decide +kernel
theorem dX10_child_90 : decode cX10_child 90 = .ok (.idiv, 1) := by decide +kernel
theorem dX10_child_91 : decode cX10_child 91 = .ok (.iastore, 1) := by decide +kernel
theorem dX10_child_92 : decode cX10_child 92 = .ok (.aload_n 0, 1) := by decide +kernel
theorem dX10_child_93 : decode cX10_child 93 = .ok (.getfield 25, 3) := by decide +kernel
theorem dX10_child_96 : decode cX10_child 96 = .ok (.aload_n 0, 1) := by decide +kernel
theorem dX10_child_97 : decode cX10_child 97 = .ok (.getfield 107, 3) := by decide +kernel
theorem dX10_child_100 : decode cX10_child 100 = .ok (.iload_n 1, 1) := by decide +kernel
theorem dX10_child_101 : decode cX10_child 101 = .ok (.bipush 10, 2) := by decide +kernel
theorem dX10_child_103 : decode cX10_child 103 = .ok (.irem, 1) := by decide +kernel
theorem dX10_child_104 : decode cX10_child 104 = .ok (.iastore, 1) := by decide +kernel
theorem dX10_child_105 : decode cX10_child 105 = .ok (.aload_n 0, 1) := by decide +kernel
theorem dX10_child_106 : decode cX10_child 106 = .ok (.getfield 28, 3) := by decide +kernel
theorem dX10_child_109 : decode cX10_child 109 = .ok (.aload_n 0, 1) := by decide +kernel
theorem dX10_child_110 : decode cX10_child 110 = .ok (.getfield 107, 3) := by decide +kernel
theorem dX10_child_113 : decode cX10_child 113 = .ok (.iload_n 2, 1) := by decide +kernel
theorem dX10_child_114 : decode cX10_child 114 = .ok (.iastore, 1) := by decide +kernel
theorem dX10_child_115 : decode cX10_child 115 = .ok (.aload_n 0, 1) := by decide +kernel
theorem dX10_child_116 : decode cX10_child 116 = .ok (.getfield 9, 3) := by decide +kernel
theorem dX10_child_119 : decode cX10_child 119 = .ok (.aload_n 0, 1) := by decide +kernel
theorem dX10_child_120 : decode cX10_child 120 = .ok (.getfield 107, 3) := by decide +kernel
theorem dX10_child_123 : decode cX10_child 123 = .ok (.iload_n 3, 1) := by decide +kernel
theorem dX10_child_124 : decode cX10_child 124 = .ok (.sipush 10000, 3) := by decide +kernel
theorem dX10_child_127 : decode cX10_child 127 = .ok (.idiv, 1) := by decide +kernel
theorem dX10_child_128 : decode cX10_child 128 = .ok (.bipush 24, 2) := by decide +kernel
theorem dX10_child_130 : decode cX10_child 130 = .ok (.isub, 1) := by decide +kernel
theorem dX10_child_131 : decode cX10_child 131 = .ok (.iastore, 1) := by decide +kernel
theorem dX10_child_132 : decode cX10_child 132 = .ok (.aload_n 0, 1) := by decide +kernel
theorem dX10_child_133 : decode cX10_child 133 = .ok (.getfield 9, 3) := by decide +kernel
theorem dX10_child_136 : decode cX10_child 136 = .ok (.bipush 6, 2) := by decide +kernel
theorem dX10_child_138 : decode cX10_child 138 = .ok (.aload_n 0, 1) := by decide +kernel
theorem dX10_child_139 : decode cX10_child 139 = .ok (.getfield 107, 3) := by decide +kernel
theorem dX10_child_142 : decode cX10_child 142 = .ok (.iadd, 1) := by decide +kernel
theorem dX10_child_143 : decode cX10_child 143 = .ok (.iload_n 3, 1) := by decide +kernel
theorem dX10_child_144 : decode cX10_child 144 = .ok (.sipush 10000, 3) := by decide +kernel
theorem dX10_child_147 : decode cX10_child 147 = .ok (.irem, 1) := by decide +kernel
theorem dX10_child_148 : decode cX10_child 148 = .ok (.iastore, 1) := by decide +kernel
theorem dX10_child_149 : decode cX10_child 149 = .ok (.aload_n 0, 1) := by decide +kernel
theorem dX10_child_150 : decode cX10_child 150 = .ok (.dup, 1) := by decide +kernel
theorem dX10_child_151 : decode cX10_child 151 = .ok (.getfield 107, 3) := by decide +kernel
theorem dX10_child_154 : decode cX10_child 154 = .ok (.iconst 1, 1) := by decide +kernel
theorem dX10_child_155 : decode cX10_child 155 = .ok (.iadd, 1) := by decide +kernel
theorem dX10_child_156 : decode cX10_child 156 = .ok (.putfield 107, 3) := by decide +kernel
theorem dX10_child_159 : decode cX10_child 159 = .ok (.aload_n 0, 1) := by decide +kernel
theorem dX10_child_160 : decode cX10_child 160 = .ok (.iconst 0, 1) := by decide +kernel
theorem dX10_child_161 : decode cX10_child 161 = .ok (.putfield 103, 3) := by decide +kernel
theorem dX10_child_164 : decode cX10_child 164 = .ok (.aload_n 0, 1) := by decide +kernel
theorem dX10_child_165 : decode cX10_child 165 = .ok (.getfield 107, 3) := by decide +kernel
theorem dX10_child_168 : decode cX10_child 168 = .ok (.iconst 1, 1) := by decide +kernel
theorem dX10_child_169 : decode cX10_child 169 = .ok (.isub, 1) := by decide +kernel
theorem dX10_child_170 : decode cX10_child 170 = .ok (.ireturn, 1) := by decide +kernel
theorem dX10_isSpan_0 : decode cX10_isSpan 0 = .ok (.iload_n 0, 1) := by decide +kernel
theorem dX10_isSpan_1 : decode cX10_isSpan 1 = .ok (.ifCond .lt 42, 3) := by decide +kernel
theorem dX10_isSpan_4 : decode cX10_isSpan 4 = .ok (.iload_n 0, 1) := by decide +kernel
theorem dX10_isSpan_5 : decode cX10_isSpan 5 = .ok (.sipush 1000, 3) := by decide +kernel
theorem dX10_isSpan_8 : decode cX10_isSpan 8 = .ok (.idiv, 1) := by decide +kernel
theorem dX10_isSpan_9 : decode cX10_isSpan 9 = .ok (.invokestatic 124, 3) := by decide +kernel
theorem dX10_isSpan_12 : decode cX10_isSpan 12 = .ok (.ifCond .eq 31, 3) := by decide +kernel
theorem dX10_isSpan_15 : decode cX10_isSpan 15 = .ok (.iload_n 0, 1) := by decide +kernel
theorem dX10_isSpan_16 : decode cX10_isSpan 16 = .ok (.sipush 1000, 3) := by decide +kernel
theorem dX10_isSpan_19 : decode cX10_isSpan 19 = .ok (.irem, 1) := by decide +kernel
theorem dX10_isSpan_20 : decode cX10_isSpan 20 = .ok (.invokestatic 124, 3) := by decide +kernel
theorem dX10_isSpan_23 : decode cX10_isSpan 23 = .ok (.ifCond .eq 20, 3) := by decide +kernel
theorem dX10_isSpan_26 : decode cX10_isSpan 26 = .ok (.iload_n 0, 1) := by decide +kernel
theorem dX10_isSpan_27 : decode cX10_isSpan 27 = .ok (.sipush 1000, 3) := by decide +kernel
theorem dX10_isSpan_30 : decode cX10_isSpan 30 = .ok (.idiv, 1) := by decide +kernel
theorem dX10_isSpan_31 : decode cX10_isSpan 31 = .ok (.iload_n 0, 1) := by decide +kernel
theorem dX10_isSpan_32 : decode cX10_isSpan 32 = .ok (.sipush 1000, 3) := by decide +kernel
theorem dX10_isSpan_35 : decode cX10_isSpan 35 = .ok (.irem, 1) := by decide +kernel
theorem dX10_isSpan_36 : decode cX10_isSpan 36 = .ok (.if_icmp .gt 7, 3) := by decide +kernel
theorem dX10_isSpan_39 : decode cX10_isSpan 39 = .ok (.iconst 1, 1) := by decide +kernel
theorem dX10_isSpan_40 : decode cX10_isSpan 40 = .ok (.goto 4, 3) := by decide +kernel
theorem dX10_isSpan_43 : decode cX10_isSpan 43 = .ok (.iconst 0, 1) := by decide +kernel
theorem dX10_isSpan_44 : decode cX10_isSpan 44 = .ok (.ireturn, 1) := by decide +kernel
theorem dX10_want_0 : decode cX10_want 0 = .ok (.iload_n 1, 1) := by decide +kernel
theorem dX10_want_1 : decode cX10_want 1 = .ok (.invokestatic 138, 3) := by decide +kernel
theorem dX10_want_4 : decode cX10_want 4 = .ok (.ifCond .eq 15, 3) := by decide +kernel
theorem dX10_want_7 : decode cX10_want 7 = .ok (.iload_n 2, 1) := by decide +kernel
theorem dX10_want_8 : decode cX10_want 8 = .ok (.i2l, 1) := by decide +kernel
theorem dX10_want_9 : decode cX10_want 9 = .ok (.lconst 1, 1) := by decide +kernel
theorem dX10_want_10 : decode cX10_want 10 = .ok (.ldc2_w 141, 3) := by decide +kernel
theorem dX10_want_13 : decode cX10_want 13 = .ok (.invokestatic 110, 3) := by decide +kernel
theorem dX10_want_16 : decode cX10_want 16 = .ok (.ifCond .ne 5, 3) := by decide +kernel
theorem dX10_want_19 : decode cX10_want 19 = .ok (.iconst (-1), 1) := by decide +kernel
theorem dX10_want_20 : decode cX10_want 20 = .ok (.ireturn, 1) := by decide +kernel
theorem dX10_want_21 : decode cX10_want 21 = .ok (.aload_n 0, 1) := by decide +kernel
theorem dX10_want_22 : decode cX10_want 22 = .ok (.getfield 143, 3) := by decide +kernel
theorem dX10_want_25 : decode cX10_want 25 = .ok (.bipush 10, 2) := by decide +kernel
theorem dX10_want_27 : decode cX10_want 27 = .ok (.if_icmp .ne 6, 3) := by decide +kernel
theorem dX10_want_30 : decode cX10_want 30 = .ok (.bipush (-3), 2) := by decide +kernel
theorem dX10_want_32 : decode cX10_want 32 = .ok (.ireturn, 1) := by decide +kernel
theorem dX10_want_33 : decode cX10_want 33 = .ok (.aload_n 0, 1) := by decide +kernel
theorem dX10_want_34 : decode cX10_want 34 = .ok (.iload_n 1, 1) := by decide +kernel
theorem dX10_want_35 : decode cX10_want 35 = .ok (.iload_n 2, 1) := by decide +kernel
theorem dX10_want_36 : decode cX10_want 36 = .ok (.invokevirtual 146, 3) := by decide +kernel
theorem dX10_want_39 : decode cX10_want 39 = .ok (.aload_n 0, 1) := by decide +kernel
theorem dX10_want_40 : decode cX10_want 40 = .ok (.getfield 143, 3) := by decide +kernel
theorem dX10_want_43 : decode cX10_want 43 = .ok (.iconst 1, 1) := by decide +kernel
theorem dX10_want_44 : decode cX10_want 44 = .ok (.isub, 1) := by decide +kernel
theorem dX10_want_45 : decode cX10_want 45 = .ok (.ireturn, 1) := by decide +kernel
theorem dX10_tellsWant_0 : decode cX10_tellsWant 0 = .ok (.aload_n 0, 1) := by decide +kernel
theorem dX10_tellsWant_1 : decode cX10_tellsWant 1 = .ok (.getfield 31, 3) := by decide +kernel
theorem dX10_tellsWant_4 : decode cX10_tellsWant 4 = .ok (.aload_n 0, 1) := by decide +kernel
theorem dX10_tellsWant_5 : decode cX10_tellsWant 5 = .ok (.getfield 143, 3) := by decide +kernel
theorem dX10_tellsWant_8 : decode cX10_tellsWant 8 = .ok (.iload_n 1, 1) := by decide +kernel
theorem dX10_tellsWant_9 : decode cX10_tellsWant 9 = .ok (.sipush 1000, 3) := by decide +kernel
theorem dX10_tellsWant_12 : decode cX10_tellsWant 12 = .ok (.idiv, 1) := by decide +kernel
theorem dX10_tellsWant_13 : decode cX10_tellsWant 13 = .ok (.iastore, 1) := by decide +kernel
theorem dX10_tellsWant_14 : decode cX10_tellsWant 14 = .ok (.aload_n 0, 1) := by decide +kernel
theorem dX10_tellsWant_15 : decode cX10_tellsWant 15 = .ok (.getfield 34, 3) := by decide +kernel
theorem dX10_tellsWant_18 : decode cX10_tellsWant 18 = .ok (.aload_n 0, 1) := by decide +kernel
theorem dX10_tellsWant_19 : decode cX10_tellsWant 19 = .ok (.getfield 143, 3) := by decide +kernel
theorem dX10_tellsWant_22 : decode cX10_tellsWant 22 = .ok (.iload_n 1, 1) := by decide +kernel
theorem dX10_tellsWant_23 : decode cX10_tellsWant 23 = .ok (.sipush 1000, 3) := by decide +kernel
theorem dX10_tellsWant_26 : decode cX10_tellsWant 26 = .ok (.irem, 1) := by decide +kernel
theorem dX10_tellsWant_27 : decode cX10_tellsWant 27 = .ok (.iastore, 1) := by decide +kernel
theorem dX10_tellsWant_28 : decode cX10_tellsWant 28 = .ok (.aload_n 0, 1) := by decide +kernel
theorem dX10_tellsWant_29 : decode cX10_tellsWant 29 = .ok (.getfield 37, 3) := by decide +kernel
theorem dX10_tellsWant_32 : decode cX10_tellsWant 32 = .ok (.aload_n 0, 1) := by decide +kernel
theorem dX10_tellsWant_33 : decode cX10_tellsWant 33 = .ok (.getfield 143, 3) := by decide +kernel
theorem dX10_tellsWant_36 : decode cX10_tellsWant 36 = .ok (.iload_n 2, 1) := by decide +kernel
theorem dX10_tellsWant_37 : decode cX10_tellsWant 37 = .ok (.iastore, 1) := by decide +kernel
theorem dX10_tellsWant_38 : decode cX10_tellsWant 38 = .ok (.aload_n 0, 1) := by decide +kernel
theorem dX10_tellsWant_39 : decode cX10_tellsWant 39 = .ok (.dup, 1) := by decide +kernel
theorem dX10_tellsWant_40 : decode cX10_tellsWant 40 = .ok (.getfield 143, 3) := by decide +kernel
theorem dX10_tellsWant_43 : decode cX10_tellsWant 43 = .ok (.iconst 1, 1) := by decide +kernel
theorem dX10_tellsWant_44 : decode cX10_tellsWant 44 = .ok (.iadd, 1) := by decide +kernel
theorem dX10_tellsWant_45 : decode cX10_tellsWant 45 = .ok (.putfield 143, 3) := by decide +kernel
theorem dX10_tellsWant_48 : decode cX10_tellsWant 48 = .ok (.aload_n 0, 1) := by decide +kernel
theorem dX10_tellsWant_49 : decode cX10_tellsWant 49 = .ok (.iconst 0, 1) := by decide +kernel
theorem dX10_tellsWant_50 : decode cX10_tellsWant 50 = .ok (.putfield 103, 3) := by decide +kernel
theorem dX10_tellsWant_53 : decode cX10_tellsWant 53 = .ok (.return_, 1) := by decide +kernel
theorem dX10_wantOf_0 : decode cX10_wantOf 0 = .ok (.iconst 0, 1) := by decide +kernel
theorem dX10_wantOf_1 : decode cX10_wantOf 1 = .ok (.istore_n 2, 1) := by decide +kernel
theorem dX10_wantOf_2 : decode cX10_wantOf 2 = .ok (.iconst 0, 1) := by decide +kernel
theorem dX10_wantOf_3 : decode cX10_wantOf 3 = .ok (.istore_n 3, 1) := by decide +kernel
theorem dX10_wantOf_4 : decode cX10_wantOf 4 = .ok (.iload_n 3, 1) := by decide +kernel
theorem dX10_wantOf_5 : decode cX10_wantOf 5 = .ok (.aload_n 0, 1) := by decide +kernel
theorem dX10_wantOf_6 : decode cX10_wantOf 6 = .ok (.getfield 143, 3) := by decide +kernel
theorem dX10_wantOf_9 : decode cX10_wantOf 9 = .ok (.if_icmp .ge 52, 3) := by decide +kernel
theorem dX10_wantOf_12 : decode cX10_wantOf 12 = .ok (.iload_n 1, 1) := by decide +kernel
theorem dX10_wantOf_13 : decode cX10_wantOf 13 = .ok (.i2l, 1) := by decide +kernel
theorem dX10_wantOf_14 : decode cX10_wantOf 14 = .ok (.aload_n 0, 1) := by decide +kernel
theorem dX10_wantOf_15 : decode cX10_wantOf 15 = .ok (.getfield 31, 3) := by decide +kernel
theorem dX10_wantOf_18 : decode cX10_wantOf 18 = .ok (.iload_n 3, 1) := by decide +kernel
theorem dX10_wantOf_19 : decode cX10_wantOf 19 = .ok (.iaload, 1) := by decide +kernel
theorem dX10_wantOf_20 : decode cX10_wantOf 20 = .ok (.i2l, 1) := by decide +kernel
theorem dX10_wantOf_21 : decode cX10_wantOf 21 = .ok (.aload_n 0, 1) := by decide +kernel
theorem dX10_wantOf_22 : decode cX10_wantOf 22 = .ok (.getfield 34, 3) := by decide +kernel
theorem dX10_wantOf_25 : decode cX10_wantOf 25 = .ok (.iload_n 3, 1) := by decide +kernel
theorem dX10_wantOf_26 : decode cX10_wantOf 26 = .ok (.iaload, 1) := by decide +kernel
theorem dX10_wantOf_27 : decode cX10_wantOf 27 = .ok (.i2l, 1) := by decide +kernel
theorem dX10_wantOf_28 : decode cX10_wantOf 28 = .ok (.invokestatic 110, 3) := by decide +kernel
theorem dX10_wantOf_31 : decode cX10_wantOf 31 = .ok (.ifCond .eq 22, 3) := by decide +kernel
theorem dX10_wantOf_34 : decode cX10_wantOf 34 = .ok (.aload_n 0, 1) := by decide +kernel
theorem dX10_wantOf_35 : decode cX10_wantOf 35 = .ok (.getfield 37, 3) := by decide +kernel
theorem dX10_wantOf_38 : decode cX10_wantOf 38 = .ok (.iload_n 3, 1) := by decide +kernel
theorem dX10_wantOf_39 : decode cX10_wantOf 39 = .ok (.iaload, 1) := by decide +kernel
theorem dX10_wantOf_40 : decode cX10_wantOf 40 = .ok (.iload_n 2, 1) := by decide +kernel
theorem dX10_wantOf_41 : decode cX10_wantOf 41 = .ok (.if_icmp .le 12, 3) := by decide +kernel
theorem dX10_wantOf_44 : decode cX10_wantOf 44 = .ok (.aload_n 0, 1) := by decide +kernel
theorem dX10_wantOf_45 : decode cX10_wantOf 45 = .ok (.getfield 37, 3) := by decide +kernel
theorem dX10_wantOf_48 : decode cX10_wantOf 48 = .ok (.iload_n 3, 1) := by decide +kernel
theorem dX10_wantOf_49 : decode cX10_wantOf 49 = .ok (.iaload, 1) := by decide +kernel
theorem dX10_wantOf_50 : decode cX10_wantOf 50 = .ok (.goto 4, 3) := by decide +kernel
theorem dX10_wantOf_53 : decode cX10_wantOf 53 = .ok (.iload_n 2, 1) := by decide +kernel
theorem dX10_wantOf_54 : decode cX10_wantOf 54 = .ok (.istore_n 2, 1) := by decide +kernel
theorem dX10_wantOf_55 : decode cX10_wantOf 55 = .ok (.iinc 3 1, 3) := by decide +kernel
theorem dX10_wantOf_58 : decode cX10_wantOf 58 = .ok (.goto (-54), 3) := by decide +kernel
theorem dX10_wantOf_61 : decode cX10_wantOf 61 = .ok (.iload_n 2, 1) := by decide +kernel
theorem dX10_wantOf_62 : decode cX10_wantOf 62 = .ok (.ireturn, 1) := by decide +kernel
theorem dX10_wants_0 : decode cX10_wants 0 = .ok (.iload_n 1, 1) := by decide +kernel
theorem dX10_wants_1 : decode cX10_wants 1 = .ok (.invokestatic 124, 3) := by decide +kernel
theorem dX10_wants_4 : decode cX10_wants 4 = .ok (.ifCond .eq 11, 3) := by decide +kernel
theorem dX10_wants_7 : decode cX10_wants 7 = .ok (.aload_n 0, 1) := by decide +kernel
theorem dX10_wants_8 : decode cX10_wants 8 = .ok (.iload_n 1, 1) := by decide +kernel
theorem dX10_wants_9 : decode cX10_wants 9 = .ok (.invokevirtual 150, 3) := by decide +kernel
theorem dX10_wants_12 : decode cX10_wants 12 = .ok (.goto 4, 3) := by decide +kernel
theorem dX10_wants_15 : decode cX10_wants 15 = .ok (.iconst (-1), 1) := by decide +kernel
theorem dX10_wants_16 : decode cX10_wants 16 = .ok (.ireturn, 1) := by decide +kernel
theorem dX10_feed_0 : decode cX10_feed 0 = .ok (.iload_n 1, 1) := by decide +kernel
theorem dX10_feed_1 : decode cX10_feed 1 = .ok (.i2l, 1) := by decide +kernel
theorem dX10_feed_2 : decode cX10_feed 2 = .ok (.lconst 0, 1) := by decide +kernel
theorem dX10_feed_3 : decode cX10_feed 3 = .ok (.ldc2_w 154, 3) := by decide +kernel
theorem dX10_feed_6 : decode cX10_feed 6 = .ok (.invokestatic 110, 3) := by decide +kernel
theorem dX10_feed_9 : decode cX10_feed 9 = .ok (.ifCond .ne 5, 3) := by decide +kernel
theorem dX10_feed_12 : decode cX10_feed 12 = .ok (.iconst (-1), 1) := by decide +kernel
theorem dX10_feed_13 : decode cX10_feed 13 = .ok (.ireturn, 1) := by decide +kernel
theorem dX10_feed_14 : decode cX10_feed 14 = .ok (.aload_n 0, 1) := by decide +kernel
theorem dX10_feed_15 : decode cX10_feed 15 = .ok (.getfield 156, 3) := by decide +kernel
theorem dX10_feed_18 : decode cX10_feed 18 = .ok (.bipush 120, 2) := by decide +kernel
theorem dX10_feed_20 : decode cX10_feed 20 = .ok (.if_icmp .ne 6, 3) := by decide +kernel
theorem dX10_feed_23 : decode cX10_feed 23 = .ok (.bipush (-3), 2) := by decide +kernel
theorem dX10_feed_25 : decode cX10_feed 25 = .ok (.ireturn, 1) := by decide +kernel
theorem dX10_feed_26 : decode cX10_feed 26 = .ok (.aload_n 0, 1) := by decide +kernel
theorem dX10_feed_27 : decode cX10_feed 27 = .ok (.getfield 40, 3) := by decide +kernel
theorem dX10_feed_30 : decode cX10_feed 30 = .ok (.aload_n 0, 1) := by decide +kernel
theorem dX10_feed_31 : decode cX10_feed 31 = .ok (.getfield 156, 3) := by decide +kernel
theorem dX10_feed_34 : decode cX10_feed 34 = .ok (.iload_n 1, 1) := by decide +kernel
theorem dX10_feed_35 : decode cX10_feed 35 = .ok (.iastore, 1) := by decide +kernel
theorem dX10_feed_36 : decode cX10_feed 36 = .ok (.aload_n 0, 1) := by decide +kernel
theorem dX10_feed_37 : decode cX10_feed 37 = .ok (.dup, 1) := by decide +kernel
theorem dX10_feed_38 : decode cX10_feed 38 = .ok (.getfield 156, 3) := by decide +kernel
theorem dX10_feed_41 : decode cX10_feed 41 = .ok (.iconst 1, 1) := by decide +kernel
theorem dX10_feed_42 : decode cX10_feed 42 = .ok (.iadd, 1) := by decide +kernel
theorem dX10_feed_43 : decode cX10_feed 43 = .ok (.putfield 156, 3) := by decide +kernel
theorem dX10_feed_46 : decode cX10_feed 46 = .ok (.aload_n 0, 1) := by decide +kernel
theorem dX10_feed_47 : decode cX10_feed 47 = .ok (.getfield 156, 3) := by decide +kernel
theorem dX10_feed_50 : decode cX10_feed 50 = .ok (.ireturn, 1) := by decide +kernel
theorem dX10_byteAt_0 : decode cX10_byteAt 0 = .ok (.aload_n 0, 1) := by decide +kernel
theorem dX10_byteAt_1 : decode cX10_byteAt 1 = .ok (.getfield 159, 3) := by decide +kernel
theorem dX10_byteAt_4 : decode cX10_byteAt 4 = .ok (.aload_n 0, 1) := by decide +kernel
theorem dX10_byteAt_5 : decode cX10_byteAt 5 = .ok (.getfield 162, 3) := by decide +kernel
theorem dX10_byteAt_8 : decode cX10_byteAt 8 = .ok (.if_icmp .ge 39, 3) := by decide +kernel
theorem dX10_byteAt_11 : decode cX10_byteAt 11 = .ok (.aload_n 0, 1) := by decide +kernel
theorem dX10_byteAt_12 : decode cX10_byteAt 12 = .ok (.getfield 165, 3) := by decide +kernel
theorem dX10_byteAt_15 : decode cX10_byteAt 15 = .ok (.ifCond .ge 15, 3) := by decide +kernel
theorem dX10_byteAt_18 : decode cX10_byteAt 18 = .ok (.aload_n 0, 1) := by decide +kernel
theorem dX10_byteAt_19 : decode cX10_byteAt 19 = .ok (.getfield 40, 3) := by decide +kernel
theorem dX10_byteAt_22 : decode cX10_byteAt 22 = .ok (.aload_n 0, 1) := by decide +kernel
theorem dX10_byteAt_23 : decode cX10_byteAt 23 = .ok (.getfield 159, 3) := by decide +kernel
theorem dX10_byteAt_26 : decode cX10_byteAt 26 = .ok (.iaload, 1) := by decide +kernel
theorem dX10_byteAt_27 : decode cX10_byteAt 27 = .ok (.goto 21, 3) := by decide +kernel
theorem dX10_byteAt_30 : decode cX10_byteAt 30 = .ok (.aload_n 0, 1) := by decide +kernel
theorem dX10_byteAt_31 : decode cX10_byteAt 31 = .ok (.getfield 43, 3) := by decide +kernel
theorem dX10_byteAt_34 : decode cX10_byteAt 34 = .ok (.aload_n 0, 1) := by decide +kernel
theorem dX10_byteAt_35 : decode cX10_byteAt 35 = .ok (.getfield 165, 3) := by decide +kernel
theorem dX10_byteAt_38 : decode cX10_byteAt 38 = .ok (.aload_n 0, 1) := by decide +kernel
theorem dX10_byteAt_39 : decode cX10_byteAt 39 = .ok (.getfield 159, 3) := by decide +kernel
theorem dX10_byteAt_42 : decode cX10_byteAt 42 = .ok (.iadd, 1) := by decide +kernel
theorem dX10_byteAt_43 : decode cX10_byteAt 43 = .ok (.iaload, 1) := by decide +kernel
theorem dX10_byteAt_44 : decode cX10_byteAt 44 = .ok (.goto 4, 3) := by decide +kernel
theorem dX10_byteAt_47 : decode cX10_byteAt 47 = .ok (.iconst 0, 1) := by decide +kernel
theorem dX10_byteAt_48 : decode cX10_byteAt 48 = .ok (.ireturn, 1) := by decide +kernel
theorem dX10_wrong_0 : decode cX10_wrong 0 = .ok (.aload_n 0, 1) := by decide +kernel
theorem dX10_wrong_1 : decode cX10_wrong 1 = .ok (.aload_n 0, 1) := by decide +kernel
theorem dX10_wrong_2 : decode cX10_wrong 2 = .ok (.getfield 168, 3) := by decide +kernel
theorem dX10_wrong_5 : decode cX10_wrong 5 = .ok (.ifCond .ge 10, 3) := by decide +kernel
theorem dX10_wrong_8 : decode cX10_wrong 8 = .ok (.aload_n 0, 1) := by decide +kernel
theorem dX10_wrong_9 : decode cX10_wrong 9 = .ok (.getfield 159, 3) := by decide +kernel
theorem dX10_wrong_12 : decode cX10_wrong 12 = .ok (.goto 7, 3) := by decide +kernel
theorem dX10_wrong_15 : decode cX10_wrong 15 = .ok (.aload_n 0, 1) := by decide +kernel
theorem dX10_wrong_16 : decode cX10_wrong 16 = .ok (.getfield 168, 3) := by decide +kernel
theorem dX10_wrong_19 : decode cX10_wrong 19 = .ok (.putfield 168, 3) := by decide +kernel
theorem dX10_wrong_22 : decode cX10_wrong 22 = .ok (.iconst 0, 1) := by decide +kernel
theorem dX10_wrong_23 : decode cX10_wrong 23 = .ok (.ireturn, 1) := by decide +kernel
theorem dX10_takes_0 : decode cX10_takes 0 = .ok (.aload_n 0, 1) := by decide +kernel
theorem dX10_takes_1 : decode cX10_takes 1 = .ok (.getfield 168, 3) := by decide +kernel
theorem dX10_takes_4 : decode cX10_takes 4 = .ok (.ifCond .ge 11, 3) := by decide +kernel
theorem dX10_takes_7 : decode cX10_takes 7 = .ok (.aload_n 0, 1) := by decide +kernel
theorem dX10_takes_8 : decode cX10_takes 8 = .ok (.invokevirtual 171, 3) := by decide +kernel
theorem dX10_takes_11 : decode cX10_takes 11 = .ok (.iload_n 1, 1) := by decide +kernel
theorem dX10_takes_12 : decode cX10_takes 12 = .ok (.if_icmp .eq 5, 3) := by decide +kernel
theorem dX10_takes_15 : decode cX10_takes 15 = .ok (.iconst 0, 1) := by decide +kernel
theorem dX10_takes_16 : decode cX10_takes 16 = .ok (.ireturn, 1) := by decide +kernel
theorem dX10_takes_17 : decode cX10_takes 17 = .ok (.aload_n 0, 1) := by decide +kernel
theorem dX10_takes_18 : decode cX10_takes 18 = .ok (.dup, 1) := by decide +kernel
theorem dX10_takes_19 : decode cX10_takes 19 = .ok (.getfield 159, 3) := by decide +kernel
theorem dX10_takes_22 : decode cX10_takes 22 = .ok (.iconst 1, 1) := by decide +kernel
theorem dX10_takes_23 : decode cX10_takes 23 = .ok (.iadd, 1) := by decide +kernel
theorem dX10_takes_24 : decode cX10_takes 24 = .ok (.putfield 159, 3) := by decide +kernel
theorem dX10_takes_27 : decode cX10_takes 27 = .ok (.iconst 1, 1) := by decide +kernel
theorem dX10_takes_28 : decode cX10_takes 28 = .ok (.ireturn, 1) := by decide +kernel
theorem dX10_either_0 : decode cX10_either 0 = .ok (.aload_n 0, 1) := by decide +kernel
theorem dX10_either_1 : decode cX10_either 1 = .ok (.invokevirtual 175, 3) := by decide +kernel
theorem dX10_either_4 : decode cX10_either 4 = .ok (.istore_n 1, 1) := by decide +kernel
theorem dX10_either_5 : decode cX10_either 5 = .ok (.aload_n 0, 1) := by decide +kernel
theorem dX10_either_6 : decode cX10_either 6 = .ok (.bipush 124, 2) := by decide +kernel
theorem dX10_either_8 : decode cX10_either 8 = .ok (.invokevirtual 178, 3) := by decide +kernel
theorem dX10_either_11 : decode cX10_either 11 = .ok (.ifCond .eq 25, 3) := by decide +kernel
theorem dX10_either_14 : decode cX10_either 14 = .ok (.aload_n 0, 1) := by decide +kernel
theorem dX10_either_15 : decode cX10_either 15 = .ok (.invokevirtual 175, 3) := by decide +kernel
theorem dX10_either_18 : decode cX10_either 18 = .ok (.istore_n 2, 1) := by decide +kernel
theorem dX10_either_19 : decode cX10_either 19 = .ok (.iload_n 1, 1) := by decide +kernel
theorem dX10_either_20 : decode cX10_either 20 = .ok (.ifCond .ne 7, 3) := by decide +kernel
theorem dX10_either_23 : decode cX10_either 23 = .ok (.iload_n 2, 1) := by decide +kernel
theorem dX10_either_24 : decode cX10_either 24 = .ok (.ifCond .eq 7, 3) := by decide +kernel
theorem dX10_either_27 : decode cX10_either 27 = .ok (.iconst 1, 1) := by decide +kernel
theorem dX10_either_28 : decode cX10_either 28 = .ok (.goto 4, 3) := by decide +kernel
theorem dX10_either_31 : decode cX10_either 31 = .ok (.iconst 0, 1) := by decide +kernel
theorem dX10_either_32 : decode cX10_either 32 = .ok (.istore_n 1, 1) := by decide +kernel
theorem dX10_either_33 : decode cX10_either 33 = .ok (.goto (-28), 3) := by decide +kernel
theorem dX10_either_36 : decode cX10_either 36 = .ok (.iload_n 1, 1) := by decide +kernel
theorem dX10_either_37 : decode cX10_either 37 = .ok (.ireturn, 1) := by decide +kernel
theorem dX10_both_0 : decode cX10_both 0 = .ok (.aload_n 0, 1) := by decide +kernel
theorem dX10_both_1 : decode cX10_both 1 = .ok (.invokevirtual 181, 3) := by decide +kernel
theorem dX10_both_4 : decode cX10_both 4 = .ok (.istore_n 1, 1) := by decide +kernel
theorem dX10_both_5 : decode cX10_both 5 = .ok (.aload_n 0, 1) := by decide +kernel
theorem dX10_both_6 : decode cX10_both 6 = .ok (.bipush 38, 2) := by decide +kernel
theorem dX10_both_8 : decode cX10_both 8 = .ok (.invokevirtual 178, 3) := by decide +kernel
theorem dX10_both_11 : decode cX10_both 11 = .ok (.ifCond .eq 25, 3) := by decide +kernel
theorem dX10_both_14 : decode cX10_both 14 = .ok (.aload_n 0, 1) := by decide +kernel
theorem dX10_both_15 : decode cX10_both 15 = .ok (.invokevirtual 181, 3) := by decide +kernel
theorem dX10_both_18 : decode cX10_both 18 = .ok (.istore_n 2, 1) := by decide +kernel
theorem dX10_both_19 : decode cX10_both 19 = .ok (.iload_n 1, 1) := by decide +kernel
theorem dX10_both_20 : decode cX10_both 20 = .ok (.ifCond .eq 11, 3) := by decide +kernel
theorem dX10_both_23 : decode cX10_both 23 = .ok (.iload_n 2, 1) := by decide +kernel
theorem dX10_both_24 : decode cX10_both 24 = .ok (.ifCond .eq 7, 3) := by decide +kernel
theorem dX10_both_27 : decode cX10_both 27 = .ok (.iconst 1, 1) := by decide +kernel
theorem dX10_both_28 : decode cX10_both 28 = .ok (.goto 4, 3) := by decide +kernel
theorem dX10_both_31 : decode cX10_both 31 = .ok (.iconst 0, 1) := by decide +kernel
theorem dX10_both_32 : decode cX10_both 32 = .ok (.istore_n 1, 1) := by decide +kernel
theorem dX10_both_33 : decode cX10_both 33 = .ok (.goto (-28), 3) := by decide +kernel
theorem dX10_both_36 : decode cX10_both 36 = .ok (.iload_n 1, 1) := by decide +kernel
theorem dX10_both_37 : decode cX10_both 37 = .ok (.ireturn, 1) := by decide +kernel
theorem dX10_compared_0 : decode cX10_compared 0 = .ok (.aload_n 0, 1) := by decide +kernel
theorem dX10_compared_1 : decode cX10_compared 1 = .ok (.invokevirtual 184, 3) := by decide +kernel
theorem dX10_compared_4 : decode cX10_compared 4 = .ok (.istore_n 1, 1) := by decide +kernel
theorem dX10_compared_5 : decode cX10_compared 5 = .ok (.aload_n 0, 1) := by decide +kernel
theorem dX10_compared_6 : decode cX10_compared 6 = .ok (.invokevirtual 171, 3) := by decide +kernel
theorem dX10_compared_9 : decode cX10_compared 9 = .ok (.istore_n 2, 1) := by decide +kernel
theorem dX10_compared_10 : decode cX10_compared 10 = .ok (.aload_n 0, 1) := by decide +kernel
theorem dX10_compared_11 : decode cX10_compared 11 = .ok (.getfield 168, 3) := by decide +kernel
theorem dX10_compared_14 : decode cX10_compared 14 = .ok (.ifCond .ge 21, 3) := by decide +kernel
theorem dX10_compared_17 : decode cX10_compared 17 = .ok (.iload_n 2, 1) := by decide +kernel
theorem dX10_compared_18 : decode cX10_compared 18 = .ok (.bipush 60, 2) := by decide +kernel
theorem dX10_compared_20 : decode cX10_compared 20 = .ok (.if_icmp .eq 17, 3) := by decide +kernel
theorem dX10_compared_23 : decode cX10_compared 23 = .ok (.iload_n 2, 1) := by decide +kernel
theorem dX10_compared_24 : decode cX10_compared 24 = .ok (.bipush 61, 2) := by decide +kernel
theorem dX10_compared_26 : decode cX10_compared 26 = .ok (.if_icmp .eq 11, 3) := by decide +kernel
theorem dX10_compared_29 : decode cX10_compared 29 = .ok (.iload_n 2, 1) := by decide +kernel
theorem dX10_compared_30 : decode cX10_compared 30 = .ok (.bipush 62, 2) := by decide +kernel
theorem dX10_compared_32 : decode cX10_compared 32 = .ok (.if_icmp .eq 5, 3) := by decide +kernel
theorem dX10_compared_35 : decode cX10_compared 35 = .ok (.iload_n 1, 1) := by decide +kernel
theorem dX10_compared_36 : decode cX10_compared 36 = .ok (.ireturn, 1) := by decide +kernel
theorem dX10_compared_37 : decode cX10_compared 37 = .ok (.aload_n 0, 1) := by decide +kernel
theorem dX10_compared_38 : decode cX10_compared 38 = .ok (.dup, 1) := by decide +kernel
theorem dX10_compared_39 : decode cX10_compared 39 = .ok (.getfield 159, 3) := by decide +kernel
theorem dX10_compared_42 : decode cX10_compared 42 = .ok (.iconst 1, 1) := by decide +kernel
theorem dX10_compared_43 : decode cX10_compared 43 = .ok (.iadd, 1) := by decide +kernel
theorem dX10_compared_44 : decode cX10_compared 44 = .ok (.putfield 159, 3) := by decide +kernel
theorem dX10_compared_47 : decode cX10_compared 47 = .ok (.aload_n 0, 1) := by decide +kernel
theorem dX10_compared_48 : decode cX10_compared 48 = .ok (.invokevirtual 184, 3) := by decide +kernel
theorem dX10_compared_51 : decode cX10_compared 51 = .ok (.istore_n 3, 1) := by decide +kernel
theorem dX10_compared_52 : decode cX10_compared 52 = .ok (.iload_n 2, 1) := by decide +kernel
theorem dX10_compared_53 : decode cX10_compared 53 = .ok (.bipush 60, 2) := by decide +kernel
theorem dX10_compared_55 : decode cX10_compared 55 = .ok (.if_icmp .ne 11, 3) := by decide +kernel
theorem dX10_compared_58 : decode cX10_compared 58 = .ok (.iload_n 1, 1) := by decide +kernel
theorem dX10_compared_59 : decode cX10_compared 59 = .ok (.iload_n 3, 1) := by decide +kernel
theorem dX10_compared_60 : decode cX10_compared 60 = .ok (.if_icmp .ge 29, 3) := by decide +kernel
theorem dX10_compared_63 : decode cX10_compared 63 = .ok (.goto 22, 3) := by decide +kernel
theorem dX10_compared_66 : decode cX10_compared 66 = .ok (.iload_n 2, 1) := by decide +kernel
theorem dX10_compared_67 : decode cX10_compared 67 = .ok (.bipush 61, 2) := by decide +kernel
theorem dX10_compared_69 : decode cX10_compared 69 = .ok (.if_icmp .ne 11, 3) := by decide +kernel
theorem dX10_compared_72 : decode cX10_compared 72 = .ok (.iload_n 1, 1) := by decide +kernel
theorem dX10_compared_73 : decode cX10_compared 73 = .ok (.iload_n 3, 1) := by decide +kernel
theorem dX10_compared_74 : decode cX10_compared 74 = .ok (.if_icmp .ne 15, 3) := by decide +kernel
theorem dX10_compared_77 : decode cX10_compared 77 = .ok (.goto 8, 3) := by decide +kernel
theorem dX10_compared_80 : decode cX10_compared 80 = .ok (.iload_n 1, 1) := by decide +kernel
theorem dX10_compared_81 : decode cX10_compared 81 = .ok (.iload_n 3, 1) := by decide +kernel
theorem dX10_compared_82 : decode cX10_compared 82 = .ok (.if_icmp .le 7, 3) := by decide +kernel
theorem dX10_compared_85 : decode cX10_compared 85 = .ok (.iconst 1, 1) := by decide +kernel
theorem dX10_compared_86 : decode cX10_compared 86 = .ok (.goto 4, 3) := by decide +kernel
theorem dX10_compared_89 : decode cX10_compared 89 = .ok (.iconst 0, 1) := by decide +kernel
theorem dX10_compared_90 : decode cX10_compared 90 = .ok (.ireturn, 1) := by decide +kernel
theorem dX10_sums_0 : decode cX10_sums 0 = .ok (.aload_n 0, 1) := by decide +kernel
theorem dX10_sums_1 : decode cX10_sums 1 = .ok (.invokevirtual 187, 3) := by decide +kernel
theorem dX10_sums_4 : decode cX10_sums 4 = .ok (.istore_n 1, 1) := by decide +kernel
theorem dX10_sums_5 : decode cX10_sums 5 = .ok (.aload_n 0, 1) := by decide +kernel
theorem dX10_sums_6 : decode cX10_sums 6 = .ok (.getfield 168, 3) := by decide +kernel
theorem dX10_sums_9 : decode cX10_sums 9 = .ok (.ifCond .ge 68, 3) := by decide +kernel
theorem dX10_sums_12 : decode cX10_sums 12 = .ok (.aload_n 0, 1) := by decide +kernel
theorem dX10_sums_13 : decode cX10_sums 13 = .ok (.invokevirtual 171, 3) := by decide +kernel
theorem dX10_sums_16 : decode cX10_sums 16 = .ok (.bipush 43, 2) := by decide +kernel
theorem dX10_sums_18 : decode cX10_sums 18 = .ok (.if_icmp .eq 12, 3) := by decide +kernel
theorem dX10_sums_21 : decode cX10_sums 21 = .ok (.aload_n 0, 1) := by decide +kernel
theorem dX10_sums_22 : decode cX10_sums 22 = .ok (.invokevirtual 171, 3) := by decide +kernel
theorem dX10_sums_25 : decode cX10_sums 25 = .ok (.bipush 45, 2) := by decide +kernel
theorem dX10_sums_27 : decode cX10_sums 27 = .ok (.if_icmp .ne 50, 3) := by decide +kernel
theorem dX10_sums_30 : decode cX10_sums 30 = .ok (.aload_n 0, 1) := by decide +kernel
theorem dX10_sums_31 : decode cX10_sums 31 = .ok (.invokevirtual 171, 3) := by decide +kernel
theorem dX10_sums_34 : decode cX10_sums 34 = .ok (.bipush 43, 2) := by decide +kernel
theorem dX10_sums_36 : decode cX10_sums 36 = .ok (.if_icmp .ne 7, 3) := by decide +kernel
theorem dX10_sums_39 : decode cX10_sums 39 = .ok (.iconst 1, 1) := by decide +kernel
theorem dX10_sums_40 : decode cX10_sums 40 = .ok (.goto 4, 3) := by decide +kernel
theorem dX10_sums_43 : decode cX10_sums 43 = .ok (.iconst 0, 1) := by decide +kernel
theorem dX10_sums_44 : decode cX10_sums 44 = .ok (.istore_n 2, 1) := by decide +kernel
theorem dX10_sums_45 : decode cX10_sums 45 = .ok (.aload_n 0, 1) := by decide +kernel
theorem dX10_sums_46 : decode cX10_sums 46 = .ok (.dup, 1) := by decide +kernel
theorem dX10_sums_47 : decode cX10_sums 47 = .ok (.getfield 159, 3) := by decide +kernel
theorem dX10_sums_50 : decode cX10_sums 50 = .ok (.iconst 1, 1) := by decide +kernel
theorem dX10_sums_51 : decode cX10_sums 51 = .ok (.iadd, 1) := by decide +kernel
theorem dX10_sums_52 : decode cX10_sums 52 = .ok (.putfield 159, 3) := by decide +kernel
theorem dX10_sums_55 : decode cX10_sums 55 = .ok (.aload_n 0, 1) := by decide +kernel
theorem dX10_sums_56 : decode cX10_sums 56 = .ok (.invokevirtual 187, 3) := by decide +kernel
theorem dX10_sums_59 : decode cX10_sums 59 = .ok (.istore_n 3, 1) := by decide +kernel
theorem dX10_sums_60 : decode cX10_sums 60 = .ok (.iload_n 2, 1) := by decide +kernel
theorem dX10_sums_61 : decode cX10_sums 61 = .ok (.ifCond .eq 9, 3) := by decide +kernel
theorem dX10_sums_64 : decode cX10_sums 64 = .ok (.iload_n 1, 1) := by decide +kernel
theorem dX10_sums_65 : decode cX10_sums 65 = .ok (.iload_n 3, 1) := by decide +kernel
theorem dX10_sums_66 : decode cX10_sums 66 = .ok (.iadd, 1) := by decide +kernel
theorem dX10_sums_67 : decode cX10_sums 67 = .ok (.goto 6, 3) := by decide +kernel
theorem dX10_sums_70 : decode cX10_sums 70 = .ok (.iload_n 1, 1) := by decide +kernel
theorem dX10_sums_71 : decode cX10_sums 71 = .ok (.iload_n 3, 1) := by decide +kernel
theorem dX10_sums_72 : decode cX10_sums 72 = .ok (.isub, 1) := by decide +kernel
theorem dX10_sums_73 : decode cX10_sums 73 = .ok (.istore_n 1, 1) := by decide +kernel
theorem dX10_sums_74 : decode cX10_sums 74 = .ok (.goto (-69), 3) := by decide +kernel
theorem dX10_sums_77 : decode cX10_sums 77 = .ok (.iload_n 1, 1) := by decide +kernel
theorem dX10_sums_78 : decode cX10_sums 78 = .ok (.ireturn, 1) := by decide +kernel
theorem dX10_product_0 : decode cX10_product 0 = .ok (.aload_n 0, 1) := by decide +kernel
theorem dX10_product_1 : decode cX10_product 1 = .ok (.invokevirtual 190, 3) := by decide +kernel
theorem dX10_product_4 : decode cX10_product 4 = .ok (.istore_n 1, 1) := by decide +kernel
theorem dX10_product_5 : decode cX10_product 5 = .ok (.aload_n 0, 1) := by decide +kernel
theorem dX10_product_6 : decode cX10_product 6 = .ok (.invokevirtual 171, 3) := by decide +kernel
theorem dX10_product_9 : decode cX10_product 9 = .ok (.istore_n 2, 1) := by decide +kernel
theorem dX10_product_10 : decode cX10_product 10 = .ok (.aload_n 0, 1) := by decide +kernel
theorem dX10_product_11 : decode cX10_product 11 = .ok (.getfield 168, 3) := by decide +kernel
theorem dX10_product_14 : decode cX10_product 14 = .ok (.ifCond .ge 80, 3) := by decide +kernel
theorem dX10_product_17 : decode cX10_product 17 = .ok (.iload_n 2, 1) := by decide +kernel
theorem dX10_product_18 : decode cX10_product 18 = .ok (.bipush 42, 2) := by decide +kernel
theorem dX10_product_20 : decode cX10_product 20 = .ok (.if_icmp .eq 15, 3) := by decide +kernel
theorem dX10_product_23 : decode cX10_product 23 = .ok (.iload_n 2, 1) := by decide +kernel
theorem dX10_product_24 : decode cX10_product 24 = .ok (.bipush 47, 2) := by decide +kernel
theorem dX10_product_26 : decode cX10_product 26 = .ok (.if_icmp .eq 9, 3) := by decide +kernel
theorem dX10_product_29 : decode cX10_product 29 = .ok (.iload_n 2, 1) := by decide +kernel
theorem dX10_product_30 : decode cX10_product 30 = .ok (.bipush 37, 2) := by decide +kernel
theorem dX10_product_32 : decode cX10_product 32 = .ok (.if_icmp .ne 62, 3) := by decide +kernel
theorem dX10_product_35 : decode cX10_product 35 = .ok (.aload_n 0, 1) := by decide +kernel
theorem dX10_product_36 : decode cX10_product 36 = .ok (.dup, 1) := by decide +kernel
theorem dX10_product_37 : decode cX10_product 37 = .ok (.getfield 159, 3) := by decide +kernel
theorem dX10_product_40 : decode cX10_product 40 = .ok (.iconst 1, 1) := by decide +kernel
theorem dX10_product_41 : decode cX10_product 41 = .ok (.iadd, 1) := by decide +kernel
theorem dX10_product_42 : decode cX10_product 42 = .ok (.putfield 159, 3) := by decide +kernel
theorem dX10_product_45 : decode cX10_product 45 = .ok (.aload_n 0, 1) := by decide +kernel
theorem dX10_product_46 : decode cX10_product 46 = .ok (.invokevirtual 190, 3) := by decide +kernel
theorem dX10_product_49 : decode cX10_product 49 = .ok (.istore_n 3, 1) := by decide +kernel
theorem dX10_product_50 : decode cX10_product 50 = .ok (.iload_n 2, 1) := by decide +kernel
theorem dX10_product_51 : decode cX10_product 51 = .ok (.bipush 42, 2) := by decide +kernel
theorem dX10_product_53 : decode cX10_product 53 = .ok (.if_icmp .ne 9, 3) := by decide +kernel
theorem dX10_product_56 : decode cX10_product 56 = .ok (.iload_n 1, 1) := by decide +kernel
theorem dX10_product_57 : decode cX10_product 57 = .ok (.iload_n 3, 1) := by decide +kernel
theorem dX10_product_58 : decode cX10_product 58 = .ok (.imul, 1) := by decide +kernel
theorem dX10_product_59 : decode cX10_product 59 = .ok (.goto 26, 3) := by decide +kernel
theorem dX10_product_62 : decode cX10_product 62 = .ok (.iload_n 3, 1) := by decide +kernel
theorem dX10_product_63 : decode cX10_product 63 = .ok (.ifCond .ne 7, 3) := by decide +kernel
theorem dX10_product_66 : decode cX10_product 66 = .ok (.iconst 0, 1) := by decide +kernel
theorem dX10_product_67 : decode cX10_product 67 = .ok (.goto 18, 3) := by decide +kernel
theorem dX10_product_70 : decode cX10_product 70 = .ok (.iload_n 2, 1) := by decide +kernel
theorem dX10_product_71 : decode cX10_product 71 = .ok (.bipush 47, 2) := by decide +kernel
theorem dX10_product_73 : decode cX10_product 73 = .ok (.if_icmp .ne 9, 3) := by decide +kernel
theorem dX10_product_76 : decode cX10_product 76 = .ok (.iload_n 1, 1) := by decide +kernel
theorem dX10_product_77 : decode cX10_product 77 = .ok (.iload_n 3, 1) := by decide +kernel
theorem dX10_product_78 : decode cX10_product 78 = .ok (.idiv, 1) := by decide +kernel
theorem dX10_product_79 : decode cX10_product 79 = .ok (.goto 6, 3) := by decide +kernel
theorem dX10_product_82 : decode cX10_product 82 = .ok (.iload_n 1, 1) := by decide +kernel
theorem dX10_product_83 : decode cX10_product 83 = .ok (.iload_n 3, 1) := by decide +kernel
theorem dX10_product_84 : decode cX10_product 84 = .ok (.irem, 1) := by decide +kernel
theorem dX10_product_85 : decode cX10_product 85 = .ok (.istore_n 1, 1) := by decide +kernel
theorem dX10_product_86 : decode cX10_product 86 = .ok (.aload_n 0, 1) := by decide +kernel
theorem dX10_product_87 : decode cX10_product 87 = .ok (.invokevirtual 171, 3) := by decide +kernel
theorem dX10_product_90 : decode cX10_product 90 = .ok (.istore_n 2, 1) := by decide +kernel
theorem dX10_product_91 : decode cX10_product 91 = .ok (.goto (-81), 3) := by decide +kernel
theorem dX10_product_94 : decode cX10_product 94 = .ok (.iload_n 1, 1) := by decide +kernel
theorem dX10_product_95 : decode cX10_product 95 = .ok (.ireturn, 1) := by decide +kernel
theorem dX10_nameOf_0 : decode cX10_nameOf 0 = .ok (.iload_n 0, 1) := by decide +kernel
theorem dX10_nameOf_1 : decode cX10_nameOf 1 = .ok (.tableswitch 122 97 119 #[107, 122, 122, 122, 122, 122, 122, 113, 122, 122, 119, 122, 117, 122, 122, 115, 122, 122, 109, 122, 122, 122, 111], 107) := by decide +kernel
theorem dX10_nameOf_108 : decode cX10_nameOf 108 = .ok (.iconst 0, 1) := by decide +kernel
theorem dX10_nameOf_109 : decode cX10_nameOf 109 = .ok (.ireturn, 1) := by decide +kernel
theorem dX10_nameOf_110 : decode cX10_nameOf 110 = .ok (.iconst 1, 1) := by decide +kernel
theorem dX10_nameOf_111 : decode cX10_nameOf 111 = .ok (.ireturn, 1) := by decide +kernel
theorem dX10_nameOf_112 : decode cX10_nameOf 112 = .ok (.iconst 2, 1) := by decide +kernel
theorem dX10_nameOf_113 : decode cX10_nameOf 113 = .ok (.ireturn, 1) := by decide +kernel
theorem dX10_nameOf_114 : decode cX10_nameOf 114 = .ok (.iconst 3, 1) := by decide +kernel
theorem dX10_nameOf_115 : decode cX10_nameOf 115 = .ok (.ireturn, 1) := by decide +kernel
theorem dX10_nameOf_116 : decode cX10_nameOf 116 = .ok (.iconst 4, 1) := by decide +kernel
theorem dX10_nameOf_117 : decode cX10_nameOf 117 = .ok (.ireturn, 1) := by decide +kernel
theorem dX10_nameOf_118 : decode cX10_nameOf 118 = .ok (.iconst 5, 1) := by decide +kernel
theorem dX10_nameOf_119 : decode cX10_nameOf 119 = .ok (.ireturn, 1) := by decide +kernel
theorem dX10_nameOf_120 : decode cX10_nameOf 120 = .ok (.bipush 6, 2) := by decide +kernel
theorem dX10_nameOf_122 : decode cX10_nameOf 122 = .ok (.ireturn, 1) := by decide +kernel
theorem dX10_nameOf_123 : decode cX10_nameOf 123 = .ok (.iconst (-1), 1) := by decide +kernel
theorem dX10_nameOf_124 : decode cX10_nameOf 124 = .ok (.ireturn, 1) := by decide +kernel
theorem dX10_one_0 : decode cX10_one 0 = .ok (.aload_n 0, 1) := by decide +kernel
theorem dX10_one_1 : decode cX10_one 1 = .ok (.getfield 168, 3) := by decide +kernel
theorem dX10_one_4 : decode cX10_one 4 = .ok (.ifCond .lt 5, 3) := by decide +kernel
theorem dX10_one_7 : decode cX10_one 7 = .ok (.iconst 0, 1) := by decide +kernel
theorem dX10_one_8 : decode cX10_one 8 = .ok (.ireturn, 1) := by decide +kernel
theorem dX10_one_9 : decode cX10_one 9 = .ok (.aload_n 0, 1) := by decide +kernel
theorem dX10_one_10 : decode cX10_one 10 = .ok (.invokevirtual 171, 3) := by decide +kernel
theorem dX10_one_13 : decode cX10_one 13 = .ok (.istore_n 1, 1) := by decide +kernel
theorem dX10_one_14 : decode cX10_one 14 = .ok (.iload_n 1, 1) := by decide +kernel
theorem dX10_one_15 : decode cX10_one 15 = .ok (.bipush 33, 2) := by decide +kernel
theorem dX10_one_17 : decode cX10_one 17 = .ok (.if_icmp .eq 15, 3) := by decide +kernel
theorem dX10_one_20 : decode cX10_one 20 = .ok (.iload_n 1, 1) := by decide +kernel
theorem dX10_one_21 : decode cX10_one 21 = .ok (.bipush 45, 2) := by decide +kernel
theorem dX10_one_23 : decode cX10_one 23 = .ok (.if_icmp .eq 9, 3) := by decide +kernel
theorem dX10_one_26 : decode cX10_one 26 = .ok (.iload_n 1, 1) := by decide +kernel
theorem dX10_one_27 : decode cX10_one 27 = .ok (.bipush 40, 2) := by decide +kernel
theorem dX10_one_29 : decode cX10_one 29 = .ok (.if_icmp .ne 116, 3) := by decide +kernel
theorem dX10_one_32 : decode cX10_one 32 = .ok (.aload_n 0, 1) := by decide +kernel
theorem dX10_one_33 : decode cX10_one 33 = .ok (.getfield 193, 3) := by decide +kernel
theorem dX10_one_36 : decode cX10_one 36 = .ok (.bipush 6, 2) := by decide +kernel
theorem dX10_one_38 : decode cX10_one 38 = .ok (.if_icmp .ne 8, 3) := by decide +kernel
theorem dX10_one_41 : decode cX10_one 41 = .ok (.aload_n 0, 1) := by decide +kernel
theorem dX10_one_42 : decode cX10_one 42 = .ok (.invokevirtual 196, 3) := by decide +kernel
theorem dX10_one_45 : decode cX10_one 45 = .ok (.ireturn, 1) := by decide +kernel
theorem dX10_one_46 : decode cX10_one 46 = .ok (.aload_n 0, 1) := by decide +kernel
theorem dX10_one_47 : decode cX10_one 47 = .ok (.dup, 1) := by decide +kernel
theorem dX10_one_48 : decode cX10_one 48 = .ok (.getfield 193, 3) := by decide +kernel
theorem dX10_one_51 : decode cX10_one 51 = .ok (.iconst 1, 1) := by decide +kernel
theorem dX10_one_52 : decode cX10_one 52 = .ok (.iadd, 1) := by decide +kernel
theorem dX10_one_53 : decode cX10_one 53 = .ok (.putfield 193, 3) := by decide +kernel
theorem dX10_one_56 : decode cX10_one 56 = .ok (.aload_n 0, 1) := by decide +kernel
theorem dX10_one_57 : decode cX10_one 57 = .ok (.dup, 1) := by decide +kernel
theorem dX10_one_58 : decode cX10_one 58 = .ok (.getfield 159, 3) := by decide +kernel
theorem dX10_one_61 : decode cX10_one 61 = .ok (.iconst 1, 1) := by decide +kernel
theorem dX10_one_62 : decode cX10_one 62 = .ok (.iadd, 1) := by decide +kernel
theorem dX10_one_63 : decode cX10_one 63 = .ok (.putfield 159, 3) := by decide +kernel
theorem dX10_one_66 : decode cX10_one 66 = .ok (.iload_n 1, 1) := by decide +kernel
theorem dX10_one_67 : decode cX10_one 67 = .ok (.bipush 40, 2) := by decide +kernel
theorem dX10_one_69 : decode cX10_one 69 = .ok (.if_icmp .ne 10, 3) := by decide +kernel
theorem dX10_one_72 : decode cX10_one 72 = .ok (.aload_n 0, 1) := by decide +kernel
theorem dX10_one_73 : decode cX10_one 73 = .ok (.invokevirtual 199, 3) := by decide +kernel
theorem dX10_one_76 : decode cX10_one 76 = .ok (.goto 7, 3) := by decide +kernel
theorem dX10_one_79 : decode cX10_one 79 = .ok (.aload_n 0, 1) := by decide +kernel
theorem dX10_one_80 : decode cX10_one 80 = .ok (.invokevirtual 190, 3) := by decide +kernel
theorem dX10_one_83 : decode cX10_one 83 = .ok (.istore_n 2, 1) := by decide +kernel
theorem dX10_one_84 : decode cX10_one 84 = .ok (.iload_n 1, 1) := by decide +kernel
theorem dX10_one_85 : decode cX10_one 85 = .ok (.bipush 40, 2) := by decide +kernel
theorem dX10_one_87 : decode cX10_one 87 = .ok (.if_icmp .ne 17, 3) := by decide +kernel
theorem dX10_one_90 : decode cX10_one 90 = .ok (.aload_n 0, 1) := by decide +kernel
theorem dX10_one_91 : decode cX10_one 91 = .ok (.bipush 41, 2) := by decide +kernel
theorem dX10_one_93 : decode cX10_one 93 = .ok (.invokevirtual 178, 3) := by decide +kernel
theorem dX10_one_96 : decode cX10_one 96 = .ok (.ifCond .ne 8, 3) := by decide +kernel
theorem dX10_one_99 : decode cX10_one 99 = .ok (.aload_n 0, 1) := by decide +kernel
theorem dX10_one_100 : decode cX10_one 100 = .ok (.invokevirtual 196, 3) := by decide +kernel
theorem dX10_one_103 : decode cX10_one 103 = .ok (.ireturn, 1) := by decide +kernel
theorem dX10_one_104 : decode cX10_one 104 = .ok (.aload_n 0, 1) := by decide +kernel
theorem dX10_one_105 : decode cX10_one 105 = .ok (.dup, 1) := by decide +kernel
theorem dX10_one_106 : decode cX10_one 106 = .ok (.getfield 193, 3) := by decide +kernel
theorem dX10_one_109 : decode cX10_one 109 = .ok (.iconst 1, 1) := by decide +kernel
theorem dX10_one_110 : decode cX10_one 110 = .ok (.isub, 1) := by decide +kernel
theorem dX10_one_111 : decode cX10_one 111 = .ok (.putfield 193, 3) := by decide +kernel
theorem dX10_one_114 : decode cX10_one 114 = .ok (.iload_n 1, 1) := by decide +kernel
theorem dX10_one_115 : decode cX10_one 115 = .ok (.bipush 40, 2) := by decide +kernel
theorem dX10_one_117 : decode cX10_one 117 = .ok (.if_icmp .ne 7, 3) := by decide +kernel
theorem dX10_one_120 : decode cX10_one 120 = .ok (.iload_n 2, 1) := by decide +kernel
theorem dX10_one_121 : decode cX10_one 121 = .ok (.goto 23, 3) := by decide +kernel
theorem dX10_one_124 : decode cX10_one 124 = .ok (.iload_n 1, 1) := by decide +kernel
theorem dX10_one_125 : decode cX10_one 125 = .ok (.bipush 45, 2) := by decide +kernel
theorem dX10_one_127 : decode cX10_one 127 = .ok (.if_icmp .ne 8, 3) := by decide +kernel
theorem dX10_one_130 : decode cX10_one 130 = .ok (.iload_n 2, 1) := by decide +kernel
theorem dX10_one_131 : decode cX10_one 131 = .ok (.ineg, 1) := by decide +kernel
theorem dX10_one_132 : decode cX10_one 132 = .ok (.goto 12, 3) := by decide +kernel
theorem dX10_one_135 : decode cX10_one 135 = .ok (.iload_n 2, 1) := by decide +kernel
theorem dX10_one_136 : decode cX10_one 136 = .ok (.ifCond .ne 7, 3) := by decide +kernel
theorem dX10_one_139 : decode cX10_one 139 = .ok (.iconst 1, 1) := by decide +kernel
theorem dX10_one_140 : decode cX10_one 140 = .ok (.goto 4, 3) := by decide +kernel
theorem dX10_one_143 : decode cX10_one 143 = .ok (.iconst 0, 1) := by decide +kernel
theorem dX10_one_144 : decode cX10_one 144 = .ok (.ireturn, 1) := by decide +kernel
theorem dX10_one_145 : decode cX10_one 145 = .ok (.iload_n 1, 1) := by decide +kernel
theorem dX10_one_146 : decode cX10_one 146 = .ok (.invokestatic 202, 3) := by decide +kernel
theorem dX10_one_149 : decode cX10_one 149 = .ok (.istore_n 2, 1) := by decide +kernel
theorem dX10_one_150 : decode cX10_one 150 = .ok (.iload_n 2, 1) := by decide +kernel
theorem dX10_one_151 : decode cX10_one 151 = .ok (.ifCond .lt 20, 3) := by decide +kernel
theorem dX10_one_154 : decode cX10_one 154 = .ok (.aload_n 0, 1) := by decide +kernel
theorem dX10_one_155 : decode cX10_one 155 = .ok (.dup, 1) := by decide +kernel
theorem dX10_one_156 : decode cX10_one 156 = .ok (.getfield 159, 3) := by decide +kernel
theorem dX10_one_159 : decode cX10_one 159 = .ok (.iconst 1, 1) := by decide +kernel
theorem dX10_one_160 : decode cX10_one 160 = .ok (.iadd, 1) := by decide +kernel
theorem dX10_one_161 : decode cX10_one 161 = .ok (.putfield 159, 3) := by decide +kernel
theorem dX10_one_164 : decode cX10_one 164 = .ok (.aload_n 0, 1) := by decide +kernel
theorem dX10_one_165 : decode cX10_one 165 = .ok (.getfield 46, 3) := by decide +kernel
theorem dX10_one_168 : decode cX10_one 168 = .ok (.iload_n 2, 1) := by decide +kernel
theorem dX10_one_169 : decode cX10_one 169 = .ok (.iaload, 1) := by decide +kernel
theorem dX10_one_170 : decode cX10_one 170 = .ok (.ireturn, 1) := by decide +kernel
theorem dX10_one_171 : decode cX10_one 171 = .ok (.iconst 0, 1) := by decide +kernel
theorem dX10_one_172 : decode cX10_one 172 = .ok (.istore_n 3, 1) := by decide +kernel
theorem dX10_one_173 : decode cX10_one 173 = .ok (.iconst 0, 1) := by decide +kernel
theorem dX10_one_174 : decode cX10_one 174 = .ok (.istore 4, 2) := by decide +kernel
theorem dX10_one_176 : decode cX10_one 176 = .ok (.iload 4, 2) := by decide +kernel
theorem dX10_one_178 : decode cX10_one 178 = .ok (.iconst 4, 1) := by decide +kernel
theorem dX10_one_179 : decode cX10_one 179 = .ok (.if_icmp .ge 50, 3) := by decide +kernel
theorem dX10_one_182 : decode cX10_one 182 = .ok (.aload_n 0, 1) := by decide +kernel
theorem dX10_one_183 : decode cX10_one 183 = .ok (.invokevirtual 171, 3) := by decide +kernel
theorem dX10_one_186 : decode cX10_one 186 = .ok (.bipush 48, 2) := by decide +kernel
theorem dX10_one_188 : decode cX10_one 188 = .ok (.if_icmp .lt 41, 3) := by decide +kernel
theorem dX10_one_191 : decode cX10_one 191 = .ok (.aload_n 0, 1) := by decide +kernel
theorem dX10_one_192 : decode cX10_one 192 = .ok (.invokevirtual 171, 3) := by decide +kernel
theorem dX10_one_195 : decode cX10_one 195 = .ok (.bipush 57, 2) := by decide +kernel
theorem dX10_one_197 : decode cX10_one 197 = .ok (.if_icmp .gt 32, 3) := by decide +kernel
theorem dX10_one_200 : decode cX10_one 200 = .ok (.bipush 10, 2) := by decide +kernel
theorem dX10_one_202 : decode cX10_one 202 = .ok (.iload_n 3, 1) := by decide +kernel
theorem dX10_one_203 : decode cX10_one 203 = .ok (.imul, 1) := by decide +kernel
theorem dX10_one_204 : decode cX10_one 204 = .ok (.aload_n 0, 1) := by decide +kernel
theorem dX10_one_205 : decode cX10_one 205 = .ok (.invokevirtual 171, 3) := by decide +kernel
theorem dX10_one_208 : decode cX10_one 208 = .ok (.iadd, 1) := by decide +kernel
theorem dX10_one_209 : decode cX10_one 209 = .ok (.bipush 48, 2) := by decide +kernel
theorem dX10_one_211 : decode cX10_one 211 = .ok (.isub, 1) := by decide +kernel
theorem dX10_one_212 : decode cX10_one 212 = .ok (.istore_n 3, 1) := by decide +kernel
theorem dX10_one_213 : decode cX10_one 213 = .ok (.iinc 4 1, 3) := by decide +kernel
theorem dX10_one_216 : decode cX10_one 216 = .ok (.aload_n 0, 1) := by decide +kernel
theorem dX10_one_217 : decode cX10_one 217 = .ok (.dup, 1) := by decide +kernel
theorem dX10_one_218 : decode cX10_one 218 = .ok (.getfield 159, 3) := by decide +kernel
theorem dX10_one_221 : decode cX10_one 221 = .ok (.iconst 1, 1) := by decide +kernel
theorem dX10_one_222 : decode cX10_one 222 = .ok (.iadd, 1) := by decide +kernel
theorem dX10_one_223 : decode cX10_one 223 = .ok (.putfield 159, 3) := by decide +kernel
theorem dX10_one_226 : decode cX10_one 226 = .ok (.goto (-50), 3) := by decide +kernel
theorem dX10_one_229 : decode cX10_one 229 = .ok (.iload 4, 2) := by decide +kernel
theorem dX10_one_231 : decode cX10_one 231 = .ok (.ifCond .ne 10, 3) := by decide +kernel
theorem dX10_one_234 : decode cX10_one 234 = .ok (.aload_n 0, 1) := by decide +kernel
theorem dX10_one_235 : decode cX10_one 235 = .ok (.invokevirtual 196, 3) := by decide +kernel
theorem dX10_one_238 : decode cX10_one 238 = .ok (.goto 4, 3) := by decide +kernel
theorem dX10_one_241 : decode cX10_one 241 = .ok (.iload_n 3, 1) := by decide +kernel
theorem dX10_one_242 : decode cX10_one 242 = .ok (.ireturn, 1) := by decide +kernel
theorem dX10_workOut_0 : decode cX10_workOut 0 = .ok (.aload_n 0, 1) := by decide +kernel
theorem dX10_workOut_1 : decode cX10_workOut 1 = .ok (.iload_n 1, 1) := by decide +kernel
theorem dX10_workOut_2 : decode cX10_workOut 2 = .ok (.putfield 165, 3) := by decide +kernel
theorem dX10_workOut_5 : decode cX10_workOut 5 = .ok (.aload_n 0, 1) := by decide +kernel
theorem dX10_workOut_6 : decode cX10_workOut 6 = .ok (.iconst 0, 1) := by decide +kernel
theorem dX10_workOut_7 : decode cX10_workOut 7 = .ok (.putfield 159, 3) := by decide +kernel
theorem dX10_workOut_10 : decode cX10_workOut 10 = .ok (.aload_n 0, 1) := by decide +kernel
theorem dX10_workOut_11 : decode cX10_workOut 11 = .ok (.iload_n 2, 1) := by decide +kernel
theorem dX10_workOut_12 : decode cX10_workOut 12 = .ok (.putfield 162, 3) := by decide +kernel
theorem dX10_workOut_15 : decode cX10_workOut 15 = .ok (.aload_n 0, 1) := by decide +kernel
theorem dX10_workOut_16 : decode cX10_workOut 16 = .ok (.iconst (-1), 1) := by decide +kernel
theorem dX10_workOut_17 : decode cX10_workOut 17 = .ok (.putfield 168, 3) := by decide +kernel
theorem dX10_workOut_20 : decode cX10_workOut 20 = .ok (.aload_n 0, 1) := by decide +kernel
theorem dX10_workOut_21 : decode cX10_workOut 21 = .ok (.iconst 0, 1) := by decide +kernel
theorem dX10_workOut_22 : decode cX10_workOut 22 = .ok (.putfield 193, 3) := by decide +kernel
theorem dX10_workOut_25 : decode cX10_workOut 25 = .ok (.iconst 0, 1) := by decide +kernel
theorem dX10_workOut_26 : decode cX10_workOut 26 = .ok (.istore_n 3, 1) := by decide +kernel
theorem dX10_workOut_27 : decode cX10_workOut 27 = .ok (.iconst 0, 1) := by decide +kernel
theorem dX10_workOut_28 : decode cX10_workOut 28 = .ok (.istore 4, 2) := by decide +kernel
theorem dX10_workOut_30 : decode cX10_workOut 30 = .ok (.iconst 1, 1) := by decide +kernel
theorem dX10_workOut_31 : decode cX10_workOut 31 = .ok (.istore 5, 2) := by decide +kernel
theorem dX10_workOut_33 : decode cX10_workOut 33 = .ok (.iload 5, 2) := by decide +kernel
theorem dX10_workOut_35 : decode cX10_workOut 35 = .ok (.ifCond .eq 72, 3) := by decide +kernel
theorem dX10_workOut_38 : decode cX10_workOut 38 = .ok (.aload_n 0, 1) := by decide +kernel
theorem dX10_workOut_39 : decode cX10_workOut 39 = .ok (.invokevirtual 199, 3) := by decide +kernel
theorem dX10_workOut_42 : decode cX10_workOut 42 = .ok (.istore 6, 2) := by decide +kernel
theorem dX10_workOut_44 : decode cX10_workOut 44 = .ok (.iconst 1, 1) := by decide +kernel
theorem dX10_workOut_45 : decode cX10_workOut 45 = .ok (.istore 7, 2) := by decide +kernel
theorem dX10_workOut_47 : decode cX10_workOut 47 = .ok (.aload_n 0, 1) := by decide +kernel
theorem dX10_workOut_48 : decode cX10_workOut 48 = .ok (.bipush 63, 2) := by decide +kernel
theorem dX10_workOut_50 : decode cX10_workOut 50 = .ok (.invokevirtual 178, 3) := by decide +kernel
theorem dX10_workOut_53 : decode cX10_workOut 53 = .ok (.ifCond .eq 21, 3) := by decide +kernel
theorem dX10_workOut_56 : decode cX10_workOut 56 = .ok (.iload 6, 2) := by decide +kernel
theorem dX10_workOut_58 : decode cX10_workOut 58 = .ok (.ifCond .eq 7, 3) := by decide +kernel
theorem dX10_workOut_61 : decode cX10_workOut 61 = .ok (.iconst 1, 1) := by decide +kernel
theorem dX10_workOut_62 : decode cX10_workOut 62 = .ok (.goto 4, 3) := by decide +kernel
theorem dX10_workOut_65 : decode cX10_workOut 65 = .ok (.iconst 0, 1) := by decide +kernel
theorem dX10_workOut_66 : decode cX10_workOut 66 = .ok (.istore 7, 2) := by decide +kernel
theorem dX10_workOut_68 : decode cX10_workOut 68 = .ok (.aload_n 0, 1) := by decide +kernel
theorem dX10_workOut_69 : decode cX10_workOut 69 = .ok (.invokevirtual 199, 3) := by decide +kernel
theorem dX10_workOut_72 : decode cX10_workOut 72 = .ok (.istore 6, 2) := by decide +kernel
theorem dX10_workOut_74 : decode cX10_workOut 74 = .ok (.aload_n 0, 1) := by decide +kernel
theorem dX10_workOut_75 : decode cX10_workOut 75 = .ok (.getfield 168, 3) := by decide +kernel
theorem dX10_workOut_78 : decode cX10_workOut 78 = .ok (.ifCond .ge 18, 3) := by decide +kernel
theorem dX10_workOut_81 : decode cX10_workOut 81 = .ok (.iload 7, 2) := by decide +kernel
theorem dX10_workOut_83 : decode cX10_workOut 83 = .ok (.ifCond .eq 13, 3) := by decide +kernel
theorem dX10_workOut_86 : decode cX10_workOut 86 = .ok (.iload_n 3, 1) := by decide +kernel
theorem dX10_workOut_87 : decode cX10_workOut 87 = .ok (.ifCond .ne 9, 3) := by decide +kernel
theorem dX10_workOut_90 : decode cX10_workOut 90 = .ok (.iconst 1, 1) := by decide +kernel
theorem dX10_workOut_91 : decode cX10_workOut 91 = .ok (.istore_n 3, 1) := by decide +kernel
theorem dX10_workOut_92 : decode cX10_workOut 92 = .ok (.iload 6, 2) := by decide +kernel
theorem dX10_workOut_94 : decode cX10_workOut 94 = .ok (.istore 4, 2) := by decide +kernel
theorem dX10_workOut_96 : decode cX10_workOut 96 = .ok (.aload_n 0, 1) := by decide +kernel
theorem dX10_workOut_97 : decode cX10_workOut 97 = .ok (.bipush 59, 2) := by decide +kernel
theorem dX10_workOut_99 : decode cX10_workOut 99 = .ok (.invokevirtual 178, 3) := by decide +kernel
theorem dX10_workOut_102 : decode cX10_workOut 102 = .ok (.istore 5, 2) := by decide +kernel
theorem dX10_workOut_104 : decode cX10_workOut 104 = .ok (.goto (-71), 3) := by decide +kernel
theorem dX10_workOut_107 : decode cX10_workOut 107 = .ok (.aload_n 0, 1) := by decide +kernel
theorem dX10_workOut_108 : decode cX10_workOut 108 = .ok (.getfield 168, 3) := by decide +kernel
theorem dX10_workOut_111 : decode cX10_workOut 111 = .ok (.ifCond .ge 19, 3) := by decide +kernel
theorem dX10_workOut_114 : decode cX10_workOut 114 = .ok (.aload_n 0, 1) := by decide +kernel
theorem dX10_workOut_115 : decode cX10_workOut 115 = .ok (.getfield 159, 3) := by decide +kernel
theorem dX10_workOut_118 : decode cX10_workOut 118 = .ok (.aload_n 0, 1) := by decide +kernel
theorem dX10_workOut_119 : decode cX10_workOut 119 = .ok (.getfield 162, 3) := by decide +kernel
theorem dX10_workOut_122 : decode cX10_workOut 122 = .ok (.if_icmp .ge 8, 3) := by decide +kernel
theorem dX10_workOut_125 : decode cX10_workOut 125 = .ok (.aload_n 0, 1) := by decide +kernel
theorem dX10_workOut_126 : decode cX10_workOut 126 = .ok (.invokevirtual 196, 3) := by decide +kernel
theorem dX10_workOut_129 : decode cX10_workOut 129 = .ok (.ireturn, 1) := by decide +kernel
theorem dX10_workOut_130 : decode cX10_workOut 130 = .ok (.iload 4, 2) := by decide +kernel
theorem dX10_workOut_132 : decode cX10_workOut 132 = .ok (.ireturn, 1) := by decide +kernel
theorem dX10_law_0 : decode cX10_law 0 = .ok (.aload_n 0, 1) := by decide +kernel
theorem dX10_law_1 : decode cX10_law 1 = .ok (.iconst (-1), 1) := by decide +kernel
theorem dX10_law_2 : decode cX10_law 2 = .ok (.aload_n 0, 1) := by decide +kernel
theorem dX10_law_3 : decode cX10_law 3 = .ok (.getfield 156, 3) := by decide +kernel
theorem dX10_law_6 : decode cX10_law 6 = .ok (.invokevirtual 205, 3) := by decide +kernel
theorem dX10_law_9 : decode cX10_law 9 = .ok (.istore_n 1, 1) := by decide +kernel
theorem dX10_law_10 : decode cX10_law 10 = .ok (.aload_n 0, 1) := by decide +kernel
theorem dX10_law_11 : decode cX10_law 11 = .ok (.getfield 156, 3) := by decide +kernel
theorem dX10_law_14 : decode cX10_law 14 = .ok (.istore_n 2, 1) := by decide +kernel
theorem dX10_law_15 : decode cX10_law 15 = .ok (.aload_n 0, 1) := by decide +kernel
theorem dX10_law_16 : decode cX10_law 16 = .ok (.iconst 0, 1) := by decide +kernel
theorem dX10_law_17 : decode cX10_law 17 = .ok (.putfield 156, 3) := by decide +kernel
theorem dX10_law_20 : decode cX10_law 20 = .ok (.aload_n 0, 1) := by decide +kernel
theorem dX10_law_21 : decode cX10_law 21 = .ok (.getfield 168, 3) := by decide +kernel
theorem dX10_law_24 : decode cX10_law 24 = .ok (.ifCond .lt 11, 3) := by decide +kernel
theorem dX10_law_27 : decode cX10_law 27 = .ok (.bipush (-100), 2) := by decide +kernel
theorem dX10_law_29 : decode cX10_law 29 = .ok (.aload_n 0, 1) := by decide +kernel
theorem dX10_law_30 : decode cX10_law 30 = .ok (.getfield 168, 3) := by decide +kernel
theorem dX10_law_33 : decode cX10_law 33 = .ok (.isub, 1) := by decide +kernel
theorem dX10_law_34 : decode cX10_law 34 = .ok (.ireturn, 1) := by decide +kernel
theorem dX10_law_35 : decode cX10_law 35 = .ok (.iconst 0, 1) := by decide +kernel
theorem dX10_law_36 : decode cX10_law 36 = .ok (.istore_n 3, 1) := by decide +kernel
theorem dX10_law_37 : decode cX10_law 37 = .ok (.iload_n 3, 1) := by decide +kernel
theorem dX10_law_38 : decode cX10_law 38 = .ok (.iload_n 2, 1) := by decide +kernel
theorem dX10_law_39 : decode cX10_law 39 = .ok (.if_icmp .ge 21, 3) := by decide +kernel
theorem dX10_law_42 : decode cX10_law 42 = .ok (.aload_n 0, 1) := by decide +kernel
theorem dX10_law_43 : decode cX10_law 43 = .ok (.getfield 43, 3) := by decide +kernel
theorem dX10_law_46 : decode cX10_law 46 = .ok (.iload_n 3, 1) := by decide +kernel
theorem dX10_law_47 : decode cX10_law 47 = .ok (.aload_n 0, 1) := by decide +kernel
theorem dX10_law_48 : decode cX10_law 48 = .ok (.getfield 40, 3) := by decide +kernel
theorem dX10_law_51 : decode cX10_law 51 = .ok (.iload_n 3, 1) := by decide +kernel
theorem dX10_law_52 : decode cX10_law 52 = .ok (.iaload, 1) := by decide +kernel
theorem dX10_law_53 : decode cX10_law 53 = .ok (.iastore, 1) := by decide +kernel
theorem dX10_law_54 : decode cX10_law 54 = .ok (.iinc 3 1, 3) := by decide +kernel
theorem dX10_law_57 : decode cX10_law 57 = .ok (.goto (-20), 3) := by decide +kernel
theorem dX10_law_60 : decode cX10_law 60 = .ok (.aload_n 0, 1) := by decide +kernel
theorem dX10_law_61 : decode cX10_law 61 = .ok (.iload_n 2, 1) := by decide +kernel
theorem dX10_law_62 : decode cX10_law 62 = .ok (.putfield 90, 3) := by decide +kernel
theorem dX10_law_65 : decode cX10_law 65 = .ok (.aload_n 0, 1) := by decide +kernel
theorem dX10_law_66 : decode cX10_law 66 = .ok (.iconst 0, 1) := by decide +kernel
theorem dX10_law_67 : decode cX10_law 67 = .ok (.putfield 103, 3) := by decide +kernel
theorem dX10_law_70 : decode cX10_law 70 = .ok (.iconst 1, 1) := by decide +kernel
theorem dX10_law_71 : decode cX10_law 71 = .ok (.ireturn, 1) := by decide +kernel
theorem dX10_growsBy_0 : decode cX10_growsBy 0 = .ok (.iload 6, 2) := by decide +kernel
theorem dX10_growsBy_2 : decode cX10_growsBy 2 = .ok (.aload_n 0, 1) := by decide +kernel
theorem dX10_growsBy_3 : decode cX10_growsBy 3 = .ok (.getfield 22, 3) := by decide +kernel
theorem dX10_growsBy_6 : decode cX10_growsBy 6 = .ok (.iload_n 1, 1) := by decide +kernel
theorem dX10_growsBy_7 : decode cX10_growsBy 7 = .ok (.iaload, 1) := by decide +kernel
theorem dX10_growsBy_8 : decode cX10_growsBy 8 = .ok (.isub, 1) := by decide +kernel
theorem dX10_growsBy_9 : decode cX10_growsBy 9 = .ok (.iload_n 2, 1) := by decide +kernel
theorem dX10_growsBy_10 : decode cX10_growsBy 10 = .ok (.isub, 1) := by decide +kernel
theorem dX10_growsBy_11 : decode cX10_growsBy 11 = .ok (.istore 7, 2) := by decide +kernel
theorem dX10_growsBy_13 : decode cX10_growsBy 13 = .ok (.aload_n 0, 1) := by decide +kernel
theorem dX10_growsBy_14 : decode cX10_growsBy 14 = .ok (.getfield 90, 3) := by decide +kernel
theorem dX10_growsBy_17 : decode cX10_growsBy 17 = .ok (.ifCond .ge 55, 3) := by decide +kernel
theorem dX10_growsBy_20 : decode cX10_growsBy 20 = .ok (.iload 7, 2) := by decide +kernel
theorem dX10_growsBy_22 : decode cX10_growsBy 22 = .ok (.bipush 12, 2) := by decide +kernel
theorem dX10_growsBy_24 : decode cX10_growsBy 24 = .ok (.if_icmp .ge 8, 3) := by decide +kernel
theorem dX10_growsBy_27 : decode cX10_growsBy 27 = .ok (.bipush 40, 2) := by decide +kernel
theorem dX10_growsBy_29 : decode cX10_growsBy 29 = .ok (.goto 42, 3) := by decide +kernel
theorem dX10_growsBy_32 : decode cX10_growsBy 32 = .ok (.iload 7, 2) := by decide +kernel
theorem dX10_growsBy_34 : decode cX10_growsBy 34 = .ok (.sipush 132, 3) := by decide +kernel
theorem dX10_growsBy_37 : decode cX10_growsBy 37 = .ok (.if_icmp .ge 8, 3) := by decide +kernel
theorem dX10_growsBy_40 : decode cX10_growsBy 40 = .ok (.bipush 16, 2) := by decide +kernel
theorem dX10_growsBy_42 : decode cX10_growsBy 42 = .ok (.goto 29, 3) := by decide +kernel
theorem dX10_growsBy_45 : decode cX10_growsBy 45 = .ok (.iload 7, 2) := by decide +kernel
theorem dX10_growsBy_47 : decode cX10_growsBy 47 = .ok (.sipush 168, 3) := by decide +kernel
theorem dX10_growsBy_50 : decode cX10_growsBy 50 = .ok (.if_icmp .ge 8, 3) := by decide +kernel
theorem dX10_growsBy_53 : decode cX10_growsBy 53 = .ok (.bipush 20, 2) := by decide +kernel
theorem dX10_growsBy_55 : decode cX10_growsBy 55 = .ok (.goto 16, 3) := by decide +kernel
theorem dX10_growsBy_58 : decode cX10_growsBy 58 = .ok (.iload 7, 2) := by decide +kernel
theorem dX10_growsBy_60 : decode cX10_growsBy 60 = .ok (.sipush 204, 3) := by decide +kernel
theorem dX10_growsBy_63 : decode cX10_growsBy 63 = .ok (.if_icmp .ge 7, 3) := by decide +kernel
theorem dX10_growsBy_66 : decode cX10_growsBy 66 = .ok (.iconst 4, 1) := by decide +kernel
theorem dX10_growsBy_67 : decode cX10_growsBy 67 = .ok (.goto 4, 3) := by decide +kernel
theorem dX10_growsBy_70 : decode cX10_growsBy 70 = .ok (.iconst 0, 1) := by decide +kernel
theorem dX10_growsBy_71 : decode cX10_growsBy 71 = .ok (.ireturn, 1) := by decide +kernel
theorem dX10_growsBy_72 : decode cX10_growsBy 72 = .ok (.aload_n 0, 1) := by decide +kernel
theorem dX10_growsBy_73 : decode cX10_growsBy 73 = .ok (.getfield 46, 3) := by decide +kernel
theorem dX10_growsBy_76 : decode cX10_growsBy 76 = .ok (.iconst 0, 1) := by decide +kernel
theorem dX10_growsBy_77 : decode cX10_growsBy 77 = .ok (.iload 7, 2) := by decide +kernel
theorem dX10_growsBy_79 : decode cX10_growsBy 79 = .ok (.iastore, 1) := by decide +kernel
theorem dX10_growsBy_80 : decode cX10_growsBy 80 = .ok (.aload_n 0, 1) := by decide +kernel
theorem dX10_growsBy_81 : decode cX10_growsBy 81 = .ok (.getfield 46, 3) := by decide +kernel
theorem dX10_growsBy_84 : decode cX10_growsBy 84 = .ok (.iconst 1, 1) := by decide +kernel
theorem dX10_growsBy_85 : decode cX10_growsBy 85 = .ok (.aload_n 0, 1) := by decide +kernel
theorem dX10_growsBy_86 : decode cX10_growsBy 86 = .ok (.getfield 25, 3) := by decide +kernel
theorem dX10_growsBy_89 : decode cX10_growsBy 89 = .ok (.iload_n 1, 1) := by decide +kernel
theorem dX10_growsBy_90 : decode cX10_growsBy 90 = .ok (.iaload, 1) := by decide +kernel
theorem dX10_growsBy_91 : decode cX10_growsBy 91 = .ok (.iastore, 1) := by decide +kernel
theorem dX10_growsBy_92 : decode cX10_growsBy 92 = .ok (.aload_n 0, 1) := by decide +kernel
theorem dX10_growsBy_93 : decode cX10_growsBy 93 = .ok (.getfield 46, 3) := by decide +kernel
theorem dX10_growsBy_96 : decode cX10_growsBy 96 = .ok (.iconst 2, 1) := by decide +kernel
theorem dX10_growsBy_97 : decode cX10_growsBy 97 = .ok (.iload_n 3, 1) := by decide +kernel
theorem dX10_growsBy_98 : decode cX10_growsBy 98 = .ok (.iastore, 1) := by decide +kernel
theorem dX10_growsBy_99 : decode cX10_growsBy 99 = .ok (.aload_n 0, 1) := by decide +kernel
theorem dX10_growsBy_100 : decode cX10_growsBy 100 = .ok (.getfield 46, 3) := by decide +kernel
theorem dX10_growsBy_103 : decode cX10_growsBy 103 = .ok (.iconst 3, 1) := by decide +kernel
theorem dX10_growsBy_104 : decode cX10_growsBy 104 = .ok (.iload 4, 2) := by decide +kernel
theorem dX10_growsBy_106 : decode cX10_growsBy 106 = .ok (.bipush 64, 2) := by decide +kernel
theorem dX10_growsBy_108 : decode cX10_growsBy 108 = .ok (.idiv, 1) := by decide +kernel
theorem dX10_growsBy_109 : decode cX10_growsBy 109 = .ok (.iastore, 1) := by decide +kernel
theorem dX10_growsBy_110 : decode cX10_growsBy 110 = .ok (.aload_n 0, 1) := by decide +kernel
theorem dX10_growsBy_111 : decode cX10_growsBy 111 = .ok (.getfield 46, 3) := by decide +kernel
theorem dX10_growsBy_114 : decode cX10_growsBy 114 = .ok (.iconst 4, 1) := by decide +kernel
theorem dX10_growsBy_115 : decode cX10_growsBy 115 = .ok (.iload 5, 2) := by decide +kernel
theorem dX10_growsBy_117 : decode cX10_growsBy 117 = .ok (.bipush 64, 2) := by decide +kernel
theorem dX10_growsBy_119 : decode cX10_growsBy 119 = .ok (.idiv, 1) := by decide +kernel
theorem dX10_growsBy_120 : decode cX10_growsBy 120 = .ok (.iastore, 1) := by decide +kernel
theorem dX10_growsBy_121 : decode cX10_growsBy 121 = .ok (.aload_n 0, 1) := by decide +kernel
theorem dX10_growsBy_122 : decode cX10_growsBy 122 = .ok (.getfield 46, 3) := by decide +kernel
theorem dX10_growsBy_125 : decode cX10_growsBy 125 = .ok (.iconst 5, 1) := by decide +kernel
theorem dX10_growsBy_126 : decode cX10_growsBy 126 = .ok (.iload 6, 2) := by decide +kernel
theorem dX10_growsBy_128 : decode cX10_growsBy 128 = .ok (.bipush 12, 2) := by decide +kernel
theorem dX10_growsBy_130 : decode cX10_growsBy 130 = .ok (.irem, 1) := by decide +kernel
theorem dX10_growsBy_131 : decode cX10_growsBy 131 = .ok (.iastore, 1) := by decide +kernel
theorem dX10_growsBy_132 : decode cX10_growsBy 132 = .ok (.aload_n 0, 1) := by decide +kernel
theorem dX10_growsBy_133 : decode cX10_growsBy 133 = .ok (.getfield 46, 3) := by decide +kernel
theorem dX10_growsBy_136 : decode cX10_growsBy 136 = .ok (.bipush 6, 2) := by decide +kernel
theorem dX10_growsBy_138 : decode cX10_growsBy 138 = .ok (.iload_n 1, 1) := by decide +kernel
theorem dX10_growsBy_139 : decode cX10_growsBy 139 = .ok (.iastore, 1) := by decide +kernel
theorem dX10_growsBy_140 : decode cX10_growsBy 140 = .ok (.aload_n 0, 1) := by decide +kernel
theorem dX10_growsBy_141 : decode cX10_growsBy 141 = .ok (.iconst 0, 1) := by decide +kernel
theorem dX10_growsBy_142 : decode cX10_growsBy 142 = .ok (.aload_n 0, 1) := by decide +kernel
theorem dX10_growsBy_143 : decode cX10_growsBy 143 = .ok (.getfield 90, 3) := by decide +kernel
theorem dX10_growsBy_146 : decode cX10_growsBy 146 = .ok (.invokevirtual 205, 3) := by decide +kernel
theorem dX10_growsBy_149 : decode cX10_growsBy 149 = .ok (.istore 8, 2) := by decide +kernel
theorem dX10_growsBy_151 : decode cX10_growsBy 151 = .ok (.iload 8, 2) := by decide +kernel
theorem dX10_growsBy_153 : decode cX10_growsBy 153 = .ok (.ifCond .ge 7, 3) := by decide +kernel
theorem dX10_growsBy_156 : decode cX10_growsBy 156 = .ok (.iconst 0, 1) := by decide +kernel
theorem dX10_growsBy_157 : decode cX10_growsBy 157 = .ok (.goto 17, 3) := by decide +kernel
theorem dX10_growsBy_160 : decode cX10_growsBy 160 = .ok (.iload 8, 2) := by decide +kernel
theorem dX10_growsBy_162 : decode cX10_growsBy 162 = .ok (.bipush 99, 2) := by decide +kernel
theorem dX10_growsBy_164 : decode cX10_growsBy 164 = .ok (.if_icmp .le 8, 3) := by decide +kernel
theorem dX10_growsBy_167 : decode cX10_growsBy 167 = .ok (.bipush 99, 2) := by decide +kernel
theorem dX10_growsBy_169 : decode cX10_growsBy 169 = .ok (.goto 5, 3) := by decide +kernel
theorem dX10_growsBy_172 : decode cX10_growsBy 172 = .ok (.iload 8, 2) := by decide +kernel
theorem dX10_growsBy_174 : decode cX10_growsBy 174 = .ok (.ireturn, 1) := by decide +kernel
theorem dX10_growsUp_0 : decode cX10_growsUp 0 = .ok (.aload_n 0, 1) := by decide +kernel
theorem dX10_growsUp_1 : decode cX10_growsUp 1 = .ok (.getfield 28, 3) := by decide +kernel
theorem dX10_growsUp_4 : decode cX10_growsUp 4 = .ok (.iload_n 1, 1) := by decide +kernel
theorem dX10_growsUp_5 : decode cX10_growsUp 5 = .ok (.iaload, 1) := by decide +kernel
theorem dX10_growsUp_6 : decode cX10_growsUp 6 = .ok (.istore 5, 2) := by decide +kernel
theorem dX10_growsUp_8 : decode cX10_growsUp 8 = .ok (.iconst 0, 1) := by decide +kernel
theorem dX10_growsUp_9 : decode cX10_growsUp 9 = .ok (.istore 6, 2) := by decide +kernel
theorem dX10_growsUp_11 : decode cX10_growsUp 11 = .ok (.iload 6, 2) := by decide +kernel
theorem dX10_growsUp_13 : decode cX10_growsUp 13 = .ok (.sipush 600, 3) := by decide +kernel
theorem dX10_growsUp_16 : decode cX10_growsUp 16 = .ok (.if_icmp .ge 99, 3) := by decide +kernel
theorem dX10_growsUp_19 : decode cX10_growsUp 19 = .ok (.iload 6, 2) := by decide +kernel
theorem dX10_growsUp_21 : decode cX10_growsUp 21 = .ok (.aload_n 0, 1) := by decide +kernel
theorem dX10_growsUp_22 : decode cX10_growsUp 22 = .ok (.getfield 22, 3) := by decide +kernel
theorem dX10_growsUp_25 : decode cX10_growsUp 25 = .ok (.iload_n 1, 1) := by decide +kernel
theorem dX10_growsUp_26 : decode cX10_growsUp 26 = .ok (.iaload, 1) := by decide +kernel
theorem dX10_growsUp_27 : decode cX10_growsUp 27 = .ok (.if_icmp .le 52, 3) := by decide +kernel
theorem dX10_growsUp_30 : decode cX10_growsUp 30 = .ok (.iload 5, 2) := by decide +kernel
theorem dX10_growsUp_32 : decode cX10_growsUp 32 = .ok (.aload_n 0, 1) := by decide +kernel
theorem dX10_growsUp_33 : decode cX10_growsUp 33 = .ok (.iload_n 1, 1) := by decide +kernel
theorem dX10_growsUp_34 : decode cX10_growsUp 34 = .ok (.iload_n 2, 1) := by decide +kernel
theorem dX10_growsUp_35 : decode cX10_growsUp 35 = .ok (.iload 4, 2) := by decide +kernel
theorem dX10_growsUp_37 : decode cX10_growsUp 37 = .ok (.ifCond .eq 12, 3) := by decide +kernel
theorem dX10_growsUp_40 : decode cX10_growsUp 40 = .ok (.aload_n 0, 1) := by decide +kernel
theorem dX10_growsUp_41 : decode cX10_growsUp 41 = .ok (.iload 6, 2) := by decide +kernel
theorem dX10_growsUp_43 : decode cX10_growsUp 43 = .ok (.invokevirtual 150, 3) := by decide +kernel
theorem dX10_growsUp_46 : decode cX10_growsUp 46 = .ok (.goto 4, 3) := by decide +kernel
theorem dX10_growsUp_49 : decode cX10_growsUp 49 = .ok (.iconst 0, 1) := by decide +kernel
theorem dX10_growsUp_50 : decode cX10_growsUp 50 = .ok (.iload 5, 2) := by decide +kernel
theorem dX10_growsUp_52 : decode cX10_growsUp 52 = .ok (.iload_n 3, 1) := by decide +kernel
theorem dX10_growsUp_53 : decode cX10_growsUp 53 = .ok (.iload 6, 2) := by decide +kernel
theorem dX10_growsUp_55 : decode cX10_growsUp 55 = .ok (.invokevirtual 209, 3) := by decide +kernel
theorem dX10_growsUp_58 : decode cX10_growsUp 58 = .ok (.iadd, 1) := by decide +kernel
theorem dX10_growsUp_59 : decode cX10_growsUp 59 = .ok (.istore 5, 2) := by decide +kernel
theorem dX10_growsUp_61 : decode cX10_growsUp 61 = .ok (.iload 5, 2) := by decide +kernel
theorem dX10_growsUp_63 : decode cX10_growsUp 63 = .ok (.sipush 8000, 3) := by decide +kernel
theorem dX10_growsUp_66 : decode cX10_growsUp 66 = .ok (.if_icmp .le 9, 3) := by decide +kernel
theorem dX10_growsUp_69 : decode cX10_growsUp 69 = .ok (.sipush 8000, 3) := by decide +kernel
theorem dX10_growsUp_72 : decode cX10_growsUp 72 = .ok (.goto 5, 3) := by decide +kernel
theorem dX10_growsUp_75 : decode cX10_growsUp 75 = .ok (.iload 5, 2) := by decide +kernel
theorem dX10_growsUp_77 : decode cX10_growsUp 77 = .ok (.istore 5, 2) := by decide +kernel
theorem dX10_growsUp_79 : decode cX10_growsUp 79 = .ok (.aload_n 0, 1) := by decide +kernel
theorem dX10_growsUp_80 : decode cX10_growsUp 80 = .ok (.getfield 49, 3) := by decide +kernel
theorem dX10_growsUp_83 : decode cX10_growsUp 83 = .ok (.sipush 600, 3) := by decide +kernel
theorem dX10_growsUp_86 : decode cX10_growsUp 86 = .ok (.iload_n 1, 1) := by decide +kernel
theorem dX10_growsUp_87 : decode cX10_growsUp 87 = .ok (.imul, 1) := by decide +kernel
theorem dX10_growsUp_88 : decode cX10_growsUp 88 = .ok (.iload 6, 2) := by decide +kernel
theorem dX10_growsUp_90 : decode cX10_growsUp 90 = .ok (.iadd, 1) := by decide +kernel
theorem dX10_growsUp_91 : decode cX10_growsUp 91 = .ok (.iload 6, 2) := by decide +kernel
theorem dX10_growsUp_93 : decode cX10_growsUp 93 = .ok (.aload_n 0, 1) := by decide +kernel
theorem dX10_growsUp_94 : decode cX10_growsUp 94 = .ok (.getfield 22, 3) := by decide +kernel
theorem dX10_growsUp_97 : decode cX10_growsUp 97 = .ok (.iload_n 1, 1) := by decide +kernel
theorem dX10_growsUp_98 : decode cX10_growsUp 98 = .ok (.iaload, 1) := by decide +kernel
theorem dX10_growsUp_99 : decode cX10_growsUp 99 = .ok (.if_icmp .ge 7, 3) := by decide +kernel
theorem dX10_growsUp_102 : decode cX10_growsUp 102 = .ok (.iconst 0, 1) := by decide +kernel
theorem dX10_growsUp_103 : decode cX10_growsUp 103 = .ok (.goto 5, 3) := by decide +kernel
theorem dX10_growsUp_106 : decode cX10_growsUp 106 = .ok (.iload 5, 2) := by decide +kernel
theorem dX10_growsUp_108 : decode cX10_growsUp 108 = .ok (.iastore, 1) := by decide +kernel
theorem dX10_growsUp_109 : decode cX10_growsUp 109 = .ok (.iinc 6 1, 3) := by decide +kernel
theorem dX10_growsUp_112 : decode cX10_growsUp 112 = .ok (.goto (-101), 3) := by decide +kernel
theorem dX10_growsUp_115 : decode cX10_growsUp 115 = .ok (.return_, 1) := by decide +kernel
theorem dX10_allGrow_0 : decode cX10_allGrow 0 = .ok (.aload_n 0, 1) := by decide +kernel
theorem dX10_allGrow_1 : decode cX10_allGrow 1 = .ok (.getfield 103, 3) := by decide +kernel
theorem dX10_allGrow_4 : decode cX10_allGrow 4 = .ok (.ifCond .eq 4, 3) := by decide +kernel
theorem dX10_allGrow_7 : decode cX10_allGrow 7 = .ok (.return_, 1) := by decide +kernel
theorem dX10_allGrow_8 : decode cX10_allGrow 8 = .ok (.iconst 0, 1) := by decide +kernel
theorem dX10_allGrow_9 : decode cX10_allGrow 9 = .ok (.istore_n 1, 1) := by decide +kernel
theorem dX10_allGrow_10 : decode cX10_allGrow 10 = .ok (.iload_n 1, 1) := by decide +kernel
theorem dX10_allGrow_11 : decode cX10_allGrow 11 = .ok (.aload_n 0, 1) := by decide +kernel
theorem dX10_allGrow_12 : decode cX10_allGrow 12 = .ok (.getfield 107, 3) := by decide +kernel
theorem dX10_allGrow_15 : decode cX10_allGrow 15 = .ok (.if_icmp .ge 30, 3) := by decide +kernel
theorem dX10_allGrow_18 : decode cX10_allGrow 18 = .ok (.aload_n 0, 1) := by decide +kernel
theorem dX10_allGrow_19 : decode cX10_allGrow 19 = .ok (.iload_n 1, 1) := by decide +kernel
theorem dX10_allGrow_20 : decode cX10_allGrow 20 = .ok (.aload_n 0, 1) := by decide +kernel
theorem dX10_allGrow_21 : decode cX10_allGrow 21 = .ok (.getfield 9, 3) := by decide +kernel
theorem dX10_allGrow_24 : decode cX10_allGrow 24 = .ok (.iload_n 1, 1) := by decide +kernel
theorem dX10_allGrow_25 : decode cX10_allGrow 25 = .ok (.iaload, 1) := by decide +kernel
theorem dX10_allGrow_26 : decode cX10_allGrow 26 = .ok (.aload_n 0, 1) := by decide +kernel
theorem dX10_allGrow_27 : decode cX10_allGrow 27 = .ok (.getfield 9, 3) := by decide +kernel
theorem dX10_allGrow_30 : decode cX10_allGrow 30 = .ok (.bipush 6, 2) := by decide +kernel
theorem dX10_allGrow_32 : decode cX10_allGrow 32 = .ok (.iload_n 1, 1) := by decide +kernel
theorem dX10_allGrow_33 : decode cX10_allGrow 33 = .ok (.iadd, 1) := by decide +kernel
theorem dX10_allGrow_34 : decode cX10_allGrow 34 = .ok (.iaload, 1) := by decide +kernel
theorem dX10_allGrow_35 : decode cX10_allGrow 35 = .ok (.iconst 1, 1) := by decide +kernel
theorem dX10_allGrow_36 : decode cX10_allGrow 36 = .ok (.invokevirtual 213, 3) := by decide +kernel
theorem dX10_allGrow_39 : decode cX10_allGrow 39 = .ok (.iinc 1 1, 3) := by decide +kernel
theorem dX10_allGrow_42 : decode cX10_allGrow 42 = .ok (.goto (-32), 3) := by decide +kernel
theorem dX10_allGrow_45 : decode cX10_allGrow 45 = .ok (.aload_n 0, 1) := by decide +kernel
theorem dX10_allGrow_46 : decode cX10_allGrow 46 = .ok (.iconst 1, 1) := by decide +kernel
theorem dX10_allGrow_47 : decode cX10_allGrow 47 = .ok (.putfield 103, 3) := by decide +kernel
theorem dX10_allGrow_50 : decode cX10_allGrow 50 = .ok (.return_, 1) := by decide +kernel
theorem dX10_heightOf_0 : decode cX10_heightOf 0 = .ok (.aload_n 0, 1) := by decide +kernel
theorem dX10_heightOf_1 : decode cX10_heightOf 1 = .ok (.invokevirtual 217, 3) := by decide +kernel
theorem dX10_heightOf_4 : decode cX10_heightOf 4 = .ok (.aload_n 0, 1) := by decide +kernel
theorem dX10_heightOf_5 : decode cX10_heightOf 5 = .ok (.getfield 49, 3) := by decide +kernel
theorem dX10_heightOf_8 : decode cX10_heightOf 8 = .ok (.sipush 600, 3) := by decide +kernel
theorem dX10_heightOf_11 : decode cX10_heightOf 11 = .ok (.iload_n 1, 1) := by decide +kernel
theorem dX10_heightOf_12 : decode cX10_heightOf 12 = .ok (.imul, 1) := by decide +kernel
theorem dX10_heightOf_13 : decode cX10_heightOf 13 = .ok (.iload_n 2, 1) := by decide +kernel
theorem dX10_heightOf_14 : decode cX10_heightOf 14 = .ok (.iadd, 1) := by decide +kernel
theorem dX10_heightOf_15 : decode cX10_heightOf 15 = .ok (.iaload, 1) := by decide +kernel
theorem dX10_heightOf_16 : decode cX10_heightOf 16 = .ok (.ireturn, 1) := by decide +kernel
theorem dX10_height_0 : decode cX10_height 0 = .ok (.aload_n 0, 1) := by decide +kernel
theorem dX10_height_1 : decode cX10_height 1 = .ok (.iload_n 1, 1) := by decide +kernel
theorem dX10_height_2 : decode cX10_height 2 = .ok (.invokevirtual 220, 3) := by decide +kernel
theorem dX10_height_5 : decode cX10_height 5 = .ok (.ifCond .eq 19, 3) := by decide +kernel
theorem dX10_height_8 : decode cX10_height 8 = .ok (.iload_n 2, 1) := by decide +kernel
theorem dX10_height_9 : decode cX10_height 9 = .ok (.invokestatic 124, 3) := by decide +kernel
theorem dX10_height_12 : decode cX10_height 12 = .ok (.ifCond .eq 12, 3) := by decide +kernel
theorem dX10_height_15 : decode cX10_height 15 = .ok (.aload_n 0, 1) := by decide +kernel
theorem dX10_height_16 : decode cX10_height 16 = .ok (.iload_n 1, 1) := by decide +kernel
theorem dX10_height_17 : decode cX10_height 17 = .ok (.iload_n 2, 1) := by decide +kernel
theorem dX10_height_18 : decode cX10_height 18 = .ok (.invokevirtual 223, 3) := by decide +kernel
theorem dX10_height_21 : decode cX10_height 21 = .ok (.goto 4, 3) := by decide +kernel
theorem dX10_height_24 : decode cX10_height 24 = .ok (.iconst (-1), 1) := by decide +kernel
theorem dX10_height_25 : decode cX10_height 25 = .ok (.ireturn, 1) := by decide +kernel
theorem dX10_isMark_0 : decode cX10_isMark 0 = .ok (.iload_n 1, 1) := by decide +kernel
theorem dX10_isMark_1 : decode cX10_isMark 1 = .ok (.i2l, 1) := by decide +kernel
theorem dX10_isMark_2 : decode cX10_isMark 2 = .ok (.lconst 0, 1) := by decide +kernel
theorem dX10_isMark_3 : decode cX10_isMark 3 = .ok (.aload_n 0, 1) := by decide +kernel
theorem dX10_isMark_4 : decode cX10_isMark 4 = .ok (.getfield 226, 3) := by decide +kernel
theorem dX10_isMark_7 : decode cX10_isMark 7 = .ok (.iconst 1, 1) := by decide +kernel
theorem dX10_isMark_8 : decode cX10_isMark 8 = .ok (.isub, 1) := by decide +kernel
theorem dX10_isMark_9 : decode cX10_isMark 9 = .ok (.i2l, 1) := by decide +kernel
theorem dX10_isMark_10 : decode cX10_isMark 10 = .ok (.invokestatic 110, 3) := by decide +kernel
theorem dX10_isMark_13 : decode cX10_isMark 13 = .ok (.ireturn, 1) := by decide +kernel
theorem dX10_isOne_0 : decode cX10_isOne 0 = .ok (.lload_n 0, 1) := by decide +kernel
theorem dX10_isOne_1 : decode cX10_isOne 1 = .ok (.lconst 0, 1) := by decide +kernel
theorem dX10_isOne_2 : decode cX10_isOne 2 = .ok (.ldc2_w 229, 3) := by decide +kernel
theorem dX10_isOne_5 : decode cX10_isOne 5 = .ok (.invokestatic 110, 3) := by decide +kernel
theorem dX10_isOne_8 : decode cX10_isOne 8 = .ok (.ifCond .eq 42, 3) := by decide +kernel
theorem dX10_isOne_11 : decode cX10_isOne 11 = .ok (.lload_n 2, 1) := by decide +kernel
theorem dX10_isOne_12 : decode cX10_isOne 12 = .ok (.lconst 0, 1) := by decide +kernel
theorem dX10_isOne_13 : decode cX10_isOne 13 = .ok (.ldc2_w 231, 3) := by decide +kernel
theorem dX10_isOne_16 : decode cX10_isOne 16 = .ok (.invokestatic 110, 3) := by decide +kernel
theorem dX10_isOne_19 : decode cX10_isOne 19 = .ok (.ifCond .eq 31, 3) := by decide +kernel
theorem dX10_isOne_22 : decode cX10_isOne 22 = .ok (.lload 4, 2) := by decide +kernel
theorem dX10_isOne_24 : decode cX10_isOne 24 = .ok (.lconst 0, 1) := by decide +kernel
theorem dX10_isOne_25 : decode cX10_isOne 25 = .ok (.ldc2_w 233, 3) := by decide +kernel
theorem dX10_isOne_28 : decode cX10_isOne 28 = .ok (.invokestatic 110, 3) := by decide +kernel
theorem dX10_isOne_31 : decode cX10_isOne 31 = .ok (.ifCond .eq 19, 3) := by decide +kernel
theorem dX10_isOne_34 : decode cX10_isOne 34 = .ok (.lload 6, 2) := by decide +kernel
theorem dX10_isOne_36 : decode cX10_isOne 36 = .ok (.lconst 0, 1) := by decide +kernel
theorem dX10_isOne_37 : decode cX10_isOne 37 = .ok (.ldc2_w 235, 3) := by decide +kernel
theorem dX10_isOne_40 : decode cX10_isOne 40 = .ok (.invokestatic 110, 3) := by decide +kernel
theorem dX10_isOne_43 : decode cX10_isOne 43 = .ok (.ifCond .eq 7, 3) := by decide +kernel
theorem dX10_isOne_46 : decode cX10_isOne 46 = .ok (.iconst 1, 1) := by decide +kernel
theorem dX10_isOne_47 : decode cX10_isOne 47 = .ok (.goto 4, 3) := by decide +kernel
theorem dX10_isOne_50 : decode cX10_isOne 50 = .ok (.iconst 0, 1) := by decide +kernel
theorem dX10_isOne_51 : decode cX10_isOne 51 = .ok (.ireturn, 1) := by decide +kernel
theorem dX10_adds_0 : decode cX10_adds 0 = .ok (.aload_n 0, 1) := by decide +kernel
theorem dX10_adds_1 : decode cX10_adds 1 = .ok (.getfield 9, 3) := by decide +kernel
theorem dX10_adds_4 : decode cX10_adds 4 = .ok (.bipush 12, 2) := by decide +kernel
theorem dX10_adds_6 : decode cX10_adds 6 = .ok (.aload_n 0, 1) := by decide +kernel
theorem dX10_adds_7 : decode cX10_adds 7 = .ok (.getfield 226, 3) := by decide +kernel
theorem dX10_adds_10 : decode cX10_adds 10 = .ok (.iadd, 1) := by decide +kernel
theorem dX10_adds_11 : decode cX10_adds 11 = .ok (.iload_n 1, 1) := by decide +kernel
theorem dX10_adds_12 : decode cX10_adds 12 = .ok (.iastore, 1) := by decide +kernel
theorem dX10_adds_13 : decode cX10_adds 13 = .ok (.aload_n 0, 1) := by decide +kernel
theorem dX10_adds_14 : decode cX10_adds 14 = .ok (.getfield 52, 3) := by decide +kernel
theorem dX10_adds_17 : decode cX10_adds 17 = .ok (.aload_n 0, 1) := by decide +kernel
theorem dX10_adds_18 : decode cX10_adds 18 = .ok (.getfield 226, 3) := by decide +kernel
theorem dX10_adds_21 : decode cX10_adds 21 = .ok (.iload_n 2, 1) := by decide +kernel
theorem dX10_adds_22 : decode cX10_adds 22 = .ok (.iastore, 1) := by decide +kernel
theorem dX10_adds_23 : decode cX10_adds 23 = .ok (.aload_n 0, 1) := by decide +kernel
theorem dX10_adds_24 : decode cX10_adds 24 = .ok (.getfield 55, 3) := by decide +kernel
theorem dX10_adds_27 : decode cX10_adds 27 = .ok (.aload_n 0, 1) := by decide +kernel
theorem dX10_adds_28 : decode cX10_adds 28 = .ok (.getfield 226, 3) := by decide +kernel
theorem dX10_adds_31 : decode cX10_adds 31 = .ok (.iload_n 3, 1) := by decide +kernel
theorem dX10_adds_32 : decode cX10_adds 32 = .ok (.iastore, 1) := by decide +kernel
theorem dX10_adds_33 : decode cX10_adds 33 = .ok (.aload_n 0, 1) := by decide +kernel
theorem dX10_adds_34 : decode cX10_adds 34 = .ok (.getfield 9, 3) := by decide +kernel
theorem dX10_adds_37 : decode cX10_adds 37 = .ok (.bipush 42, 2) := by decide +kernel
theorem dX10_adds_39 : decode cX10_adds 39 = .ok (.aload_n 0, 1) := by decide +kernel
theorem dX10_adds_40 : decode cX10_adds 40 = .ok (.getfield 226, 3) := by decide +kernel
theorem dX10_adds_43 : decode cX10_adds 43 = .ok (.iadd, 1) := by decide +kernel
theorem dX10_adds_44 : decode cX10_adds 44 = .ok (.iload 4, 2) := by decide +kernel
theorem dX10_adds_46 : decode cX10_adds 46 = .ok (.iastore, 1) := by decide +kernel
theorem dX10_adds_47 : decode cX10_adds 47 = .ok (.aload_n 0, 1) := by decide +kernel
theorem dX10_adds_48 : decode cX10_adds 48 = .ok (.getfield 58, 3) := by decide +kernel
theorem dX10_adds_51 : decode cX10_adds 51 = .ok (.aload_n 0, 1) := by decide +kernel
theorem dX10_adds_52 : decode cX10_adds 52 = .ok (.getfield 226, 3) := by decide +kernel
theorem dX10_adds_55 : decode cX10_adds 55 = .ok (.iconst 0, 1) := by decide +kernel
theorem dX10_adds_56 : decode cX10_adds 56 = .ok (.bastore, 1) := by decide +kernel
theorem dX10_adds_57 : decode cX10_adds 57 = .ok (.aload_n 0, 1) := by decide +kernel
theorem dX10_adds_58 : decode cX10_adds 58 = .ok (.dup, 1) := by decide +kernel
theorem dX10_adds_59 : decode cX10_adds 59 = .ok (.getfield 226, 3) := by decide +kernel
theorem dX10_adds_62 : decode cX10_adds 62 = .ok (.iconst 1, 1) := by decide +kernel
theorem dX10_adds_63 : decode cX10_adds 63 = .ok (.iadd, 1) := by decide +kernel
theorem dX10_adds_64 : decode cX10_adds 64 = .ok (.putfield 226, 3) := by decide +kernel
theorem dX10_adds_67 : decode cX10_adds 67 = .ok (.return_, 1) := by decide +kernel
theorem dX10_mark_0 : decode cX10_mark 0 = .ok (.iload_n 2, 1) := by decide +kernel
theorem dX10_mark_1 : decode cX10_mark 1 = .ok (.ifCond .lt 23, 3) := by decide +kernel
theorem dX10_mark_4 : decode cX10_mark 4 = .ok (.iload_n 1, 1) := by decide +kernel
theorem dX10_mark_5 : decode cX10_mark 5 = .ok (.i2l, 1) := by decide +kernel
theorem dX10_mark_6 : decode cX10_mark 6 = .ok (.iload_n 2, 1) := by decide +kernel
theorem dX10_mark_7 : decode cX10_mark 7 = .ok (.bipush 10, 2) := by decide +kernel
theorem dX10_mark_9 : decode cX10_mark 9 = .ok (.idiv, 1) := by decide +kernel
theorem dX10_mark_10 : decode cX10_mark 10 = .ok (.i2l, 1) := by decide +kernel
theorem dX10_mark_11 : decode cX10_mark 11 = .ok (.iload_n 3, 1) := by decide +kernel
theorem dX10_mark_12 : decode cX10_mark 12 = .ok (.i2l, 1) := by decide +kernel
theorem dX10_mark_13 : decode cX10_mark 13 = .ok (.iload_n 2, 1) := by decide +kernel
theorem dX10_mark_14 : decode cX10_mark 14 = .ok (.bipush 10, 2) := by decide +kernel
theorem dX10_mark_16 : decode cX10_mark 16 = .ok (.irem, 1) := by decide +kernel
theorem dX10_mark_17 : decode cX10_mark 17 = .ok (.i2l, 1) := by decide +kernel
theorem dX10_mark_18 : decode cX10_mark 18 = .ok (.invokestatic 237, 3) := by decide +kernel
theorem dX10_mark_21 : decode cX10_mark 21 = .ok (.ifCond .ne 5, 3) := by decide +kernel
theorem dX10_mark_24 : decode cX10_mark 24 = .ok (.iconst (-1), 1) := by decide +kernel
theorem dX10_mark_25 : decode cX10_mark 25 = .ok (.ireturn, 1) := by decide +kernel
theorem dX10_mark_26 : decode cX10_mark 26 = .ok (.aload_n 0, 1) := by decide +kernel
theorem dX10_mark_27 : decode cX10_mark 27 = .ok (.getfield 226, 3) := by decide +kernel
theorem dX10_mark_30 : decode cX10_mark 30 = .ok (.bipush 30, 2) := by decide +kernel
theorem dX10_mark_32 : decode cX10_mark 32 = .ok (.if_icmp .ne 6, 3) := by decide +kernel
theorem dX10_mark_35 : decode cX10_mark 35 = .ok (.bipush (-3), 2) := by decide +kernel
theorem dX10_mark_37 : decode cX10_mark 37 = .ok (.ireturn, 1) := by decide +kernel
theorem dX10_mark_38 : decode cX10_mark 38 = .ok (.aload_n 0, 1) := by decide +kernel
theorem dX10_mark_39 : decode cX10_mark 39 = .ok (.iload_n 1, 1) := by decide +kernel
theorem dX10_mark_40 : decode cX10_mark 40 = .ok (.iload_n 2, 1) := by decide +kernel
theorem dX10_mark_41 : decode cX10_mark 41 = .ok (.bipush 10, 2) := by decide +kernel
theorem dX10_mark_43 : decode cX10_mark 43 = .ok (.idiv, 1) := by decide +kernel
theorem dX10_mark_44 : decode cX10_mark 44 = .ok (.iload_n 3, 1) := by decide +kernel
theorem dX10_mark_45 : decode cX10_mark 45 = .ok (.iload_n 2, 1) := by decide +kernel
theorem dX10_mark_46 : decode cX10_mark 46 = .ok (.bipush 10, 2) := by decide +kernel
theorem dX10_mark_48 : decode cX10_mark 48 = .ok (.irem, 1) := by decide +kernel
theorem dX10_mark_49 : decode cX10_mark 49 = .ok (.invokevirtual 241, 3) := by decide +kernel
theorem dX10_mark_52 : decode cX10_mark 52 = .ok (.aload_n 0, 1) := by decide +kernel
theorem dX10_mark_53 : decode cX10_mark 53 = .ok (.getfield 226, 3) := by decide +kernel
theorem dX10_mark_56 : decode cX10_mark 56 = .ok (.iconst 1, 1) := by decide +kernel
theorem dX10_mark_57 : decode cX10_mark 57 = .ok (.isub, 1) := by decide +kernel
theorem dX10_mark_58 : decode cX10_mark 58 = .ok (.ireturn, 1) := by decide +kernel
theorem dX10_marks_0 : decode cX10_marks 0 = .ok (.iload_n 1, 1) := by decide +kernel
theorem dX10_marks_1 : decode cX10_marks 1 = .ok (.invokestatic 245, 3) := by decide +kernel
theorem dX10_marks_4 : decode cX10_marks 4 = .ok (.ifCond .eq 15, 3) := by decide +kernel
theorem dX10_marks_7 : decode cX10_marks 7 = .ok (.iload_n 3, 1) := by decide +kernel
theorem dX10_marks_8 : decode cX10_marks 8 = .ok (.i2l, 1) := by decide +kernel
theorem dX10_marks_9 : decode cX10_marks 9 = .ok (.lconst 1, 1) := by decide +kernel
theorem dX10_marks_10 : decode cX10_marks 10 = .ok (.ldc2_w 248, 3) := by decide +kernel
theorem dX10_marks_13 : decode cX10_marks 13 = .ok (.invokestatic 110, 3) := by decide +kernel
theorem dX10_marks_16 : decode cX10_marks 16 = .ok (.ifCond .ne 5, 3) := by decide +kernel
theorem dX10_marks_19 : decode cX10_marks 19 = .ok (.iconst (-1), 1) := by decide +kernel
theorem dX10_marks_20 : decode cX10_marks 20 = .ok (.ireturn, 1) := by decide +kernel
theorem dX10_marks_21 : decode cX10_marks 21 = .ok (.aload_n 0, 1) := by decide +kernel
theorem dX10_marks_22 : decode cX10_marks 22 = .ok (.getfield 77, 3) := by decide +kernel
theorem dX10_marks_25 : decode cX10_marks 25 = .ok (.iload_n 1, 1) := by decide +kernel
theorem dX10_marks_26 : decode cX10_marks 26 = .ok (.iaload, 1) := by decide +kernel
theorem dX10_marks_27 : decode cX10_marks 27 = .ok (.ifCond .lt 17, 3) := by decide +kernel
theorem dX10_marks_30 : decode cX10_marks 30 = .ok (.aload_n 0, 1) := by decide +kernel
theorem dX10_marks_31 : decode cX10_marks 31 = .ok (.getfield 77, 3) := by decide +kernel
theorem dX10_marks_34 : decode cX10_marks 34 = .ok (.iload_n 1, 1) := by decide +kernel
theorem dX10_marks_35 : decode cX10_marks 35 = .ok (.iaload, 1) := by decide +kernel
theorem dX10_marks_36 : decode cX10_marks 36 = .ok (.bipush 51, 2) := by decide +kernel
theorem dX10_marks_38 : decode cX10_marks 38 = .ok (.if_icmp .eq 6, 3) := by decide +kernel
theorem dX10_marks_41 : decode cX10_marks 41 = .ok (.bipush (-12), 2) := by decide +kernel
theorem dX10_marks_43 : decode cX10_marks 43 = .ok (.ireturn, 1) := by decide +kernel
theorem dX10_marks_44 : decode cX10_marks 44 = .ok (.iconst 0, 1) := by decide +kernel
theorem dX10_marks_45 : decode cX10_marks 45 = .ok (.istore 4, 2) := by decide +kernel
theorem dX10_marks_47 : decode cX10_marks 47 = .ok (.aload_n 0, 1) := by decide +kernel
theorem dX10_marks_48 : decode cX10_marks 48 = .ok (.getfield 77, 3) := by decide +kernel
theorem dX10_marks_51 : decode cX10_marks 51 = .ok (.iload_n 1, 1) := by decide +kernel
theorem dX10_marks_52 : decode cX10_marks 52 = .ok (.iaload, 1) := by decide +kernel
theorem dX10_marks_53 : decode cX10_marks 53 = .ok (.bipush 51, 2) := by decide +kernel
theorem dX10_marks_55 : decode cX10_marks 55 = .ok (.if_icmp .ne 11, 3) := by decide +kernel
theorem dX10_marks_58 : decode cX10_marks 58 = .ok (.iload_n 2, 1) := by decide +kernel
theorem dX10_marks_59 : decode cX10_marks 59 = .ok (.ifCond .lt 7, 3) := by decide +kernel
theorem dX10_marks_62 : decode cX10_marks 62 = .ok (.iconst 1, 1) := by decide +kernel
theorem dX10_marks_63 : decode cX10_marks 63 = .ok (.goto 4, 3) := by decide +kernel
theorem dX10_marks_66 : decode cX10_marks 66 = .ok (.iconst 0, 1) := by decide +kernel
theorem dX10_marks_67 : decode cX10_marks 67 = .ok (.istore 5, 2) := by decide +kernel
theorem dX10_marks_69 : decode cX10_marks 69 = .ok (.iload 5, 2) := by decide +kernel
theorem dX10_marks_71 : decode cX10_marks 71 = .ok (.ifCond .eq 160, 3) := by decide +kernel
theorem dX10_marks_74 : decode cX10_marks 74 = .ok (.iload 4, 2) := by decide +kernel
theorem dX10_marks_76 : decode cX10_marks 76 = .ok (.iload_n 3, 1) := by decide +kernel
theorem dX10_marks_77 : decode cX10_marks 77 = .ok (.if_icmp .ge 154, 3) := by decide +kernel
theorem dX10_marks_80 : decode cX10_marks 80 = .ok (.iload_n 2, 1) := by decide +kernel
theorem dX10_marks_81 : decode cX10_marks 81 = .ok (.aload_n 0, 1) := by decide +kernel
theorem dX10_marks_82 : decode cX10_marks 82 = .ok (.getfield 80, 3) := by decide +kernel
theorem dX10_marks_85 : decode cX10_marks 85 = .ok (.iload_n 1, 1) := by decide +kernel
theorem dX10_marks_86 : decode cX10_marks 86 = .ok (.iaload, 1) := by decide +kernel
theorem dX10_marks_87 : decode cX10_marks 87 = .ok (.iconst 4, 1) := by decide +kernel
theorem dX10_marks_88 : decode cX10_marks 88 = .ok (.isub, 1) := by decide +kernel
theorem dX10_marks_89 : decode cX10_marks 89 = .ok (.iconst 4, 1) := by decide +kernel
theorem dX10_marks_90 : decode cX10_marks 90 = .ok (.iload 4, 2) := by decide +kernel
theorem dX10_marks_92 : decode cX10_marks 92 = .ok (.imul, 1) := by decide +kernel
theorem dX10_marks_93 : decode cX10_marks 93 = .ok (.isub, 1) := by decide +kernel
theorem dX10_marks_94 : decode cX10_marks 94 = .ok (.if_icmp .gt 16, 3) := by decide +kernel
theorem dX10_marks_97 : decode cX10_marks 97 = .ok (.aload_n 0, 1) := by decide +kernel
theorem dX10_marks_98 : decode cX10_marks 98 = .ok (.getfield 226, 3) := by decide +kernel
theorem dX10_marks_101 : decode cX10_marks 101 = .ok (.bipush 30, 2) := by decide +kernel
theorem dX10_marks_103 : decode cX10_marks 103 = .ok (.if_icmp .ge 7, 3) := by decide +kernel
theorem dX10_marks_106 : decode cX10_marks 106 = .ok (.iconst 1, 1) := by decide +kernel
theorem dX10_marks_107 : decode cX10_marks 107 = .ok (.goto 4, 3) := by decide +kernel
theorem dX10_marks_110 : decode cX10_marks 110 = .ok (.iconst 0, 1) := by decide +kernel
theorem dX10_marks_111 : decode cX10_marks 111 = .ok (.istore 5, 2) := by decide +kernel
theorem dX10_marks_113 : decode cX10_marks 113 = .ok (.bipush 60, 2) := by decide +kernel
theorem dX10_marks_115 : decode cX10_marks 115 = .ok (.iload_n 1, 1) := by decide +kernel
theorem dX10_marks_116 : decode cX10_marks 116 = .ok (.imul, 1) := by decide +kernel
theorem dX10_marks_117 : decode cX10_marks 117 = .ok (.iload_n 2, 1) := by decide +kernel
theorem dX10_marks_118 : decode cX10_marks 118 = .ok (.iadd, 1) := by decide +kernel
theorem dX10_marks_119 : decode cX10_marks 119 = .ok (.iconst 4, 1) := by decide +kernel
theorem dX10_marks_120 : decode cX10_marks 120 = .ok (.iload 4, 2) := by decide +kernel
theorem dX10_marks_122 : decode cX10_marks 122 = .ok (.imul, 1) := by decide +kernel
theorem dX10_marks_123 : decode cX10_marks 123 = .ok (.iadd, 1) := by decide +kernel
theorem dX10_marks_124 : decode cX10_marks 124 = .ok (.istore 6, 2) := by decide +kernel
theorem dX10_marks_126 : decode cX10_marks 126 = .ok (.iload 5, 2) := by decide +kernel
theorem dX10_marks_128 : decode cX10_marks 128 = .ok (.ifCond .eq 47, 3) := by decide +kernel
theorem dX10_marks_131 : decode cX10_marks 131 = .ok (.aload_n 0, 1) := by decide +kernel
theorem dX10_marks_132 : decode cX10_marks 132 = .ok (.getfield 83, 3) := by decide +kernel
theorem dX10_marks_135 : decode cX10_marks 135 = .ok (.iload 6, 2) := by decide +kernel
theorem dX10_marks_137 : decode cX10_marks 137 = .ok (.laload, 1) := by decide +kernel
theorem dX10_marks_138 : decode cX10_marks 138 = .ok (.aload_n 0, 1) := by decide +kernel
theorem dX10_marks_139 : decode cX10_marks 139 = .ok (.getfield 83, 3) := by decide +kernel
theorem dX10_marks_142 : decode cX10_marks 142 = .ok (.iload 6, 2) := by decide +kernel
theorem dX10_marks_144 : decode cX10_marks 144 = .ok (.iconst 1, 1) := by decide +kernel
theorem dX10_marks_145 : decode cX10_marks 145 = .ok (.iadd, 1) := by decide +kernel
theorem dX10_marks_146 : decode cX10_marks 146 = .ok (.laload, 1) := by decide +kernel
theorem dX10_marks_147 : decode cX10_marks 147 = .ok (.aload_n 0, 1) := by decide +kernel
theorem dX10_marks_148 : decode cX10_marks 148 = .ok (.getfield 83, 3) := by decide +kernel
theorem dX10_marks_151 : decode cX10_marks 151 = .ok (.iload 6, 2) := by decide +kernel
theorem dX10_marks_153 : decode cX10_marks 153 = .ok (.iconst 2, 1) := by decide +kernel
theorem dX10_marks_154 : decode cX10_marks 154 = .ok (.iadd, 1) := by decide +kernel
theorem dX10_marks_155 : decode cX10_marks 155 = .ok (.laload, 1) := by decide +kernel
theorem dX10_marks_156 : decode cX10_marks 156 = .ok (.aload_n 0, 1) := by decide +kernel
theorem dX10_marks_157 : decode cX10_marks 157 = .ok (.getfield 83, 3) := by decide +kernel
theorem dX10_marks_160 : decode cX10_marks 160 = .ok (.iload 6, 2) := by decide +kernel
theorem dX10_marks_162 : decode cX10_marks 162 = .ok (.iconst 3, 1) := by decide +kernel
theorem dX10_marks_163 : decode cX10_marks 163 = .ok (.iadd, 1) := by decide +kernel
theorem dX10_marks_164 : decode cX10_marks 164 = .ok (.laload, 1) := by decide +kernel
theorem dX10_marks_165 : decode cX10_marks 165 = .ok (.invokestatic 237, 3) := by decide +kernel
theorem dX10_marks_168 : decode cX10_marks 168 = .ok (.ifCond .eq 7, 3) := by decide +kernel
theorem dX10_marks_171 : decode cX10_marks 171 = .ok (.iconst 1, 1) := by decide +kernel
theorem dX10_marks_172 : decode cX10_marks 172 = .ok (.goto 4, 3) := by decide +kernel
theorem dX10_marks_175 : decode cX10_marks 175 = .ok (.iconst 0, 1) := by decide +kernel
theorem dX10_marks_176 : decode cX10_marks 176 = .ok (.istore 5, 2) := by decide +kernel
theorem dX10_marks_178 : decode cX10_marks 178 = .ok (.iload 5, 2) := by decide +kernel
theorem dX10_marks_180 : decode cX10_marks 180 = .ok (.ifCond .eq 48, 3) := by decide +kernel
theorem dX10_marks_183 : decode cX10_marks 183 = .ok (.aload_n 0, 1) := by decide +kernel
theorem dX10_marks_184 : decode cX10_marks 184 = .ok (.aload_n 0, 1) := by decide +kernel
theorem dX10_marks_185 : decode cX10_marks 185 = .ok (.getfield 83, 3) := by decide +kernel
theorem dX10_marks_188 : decode cX10_marks 188 = .ok (.iload 6, 2) := by decide +kernel
theorem dX10_marks_190 : decode cX10_marks 190 = .ok (.laload, 1) := by decide +kernel
theorem dX10_marks_191 : decode cX10_marks 191 = .ok (.l2i, 1) := by decide +kernel
theorem dX10_marks_192 : decode cX10_marks 192 = .ok (.aload_n 0, 1) := by decide +kernel
theorem dX10_marks_193 : decode cX10_marks 193 = .ok (.getfield 83, 3) := by decide +kernel
theorem dX10_marks_196 : decode cX10_marks 196 = .ok (.iload 6, 2) := by decide +kernel
theorem dX10_marks_198 : decode cX10_marks 198 = .ok (.iconst 1, 1) := by decide +kernel
theorem dX10_marks_199 : decode cX10_marks 199 = .ok (.iadd, 1) := by decide +kernel
theorem dX10_marks_200 : decode cX10_marks 200 = .ok (.laload, 1) := by decide +kernel
theorem dX10_marks_201 : decode cX10_marks 201 = .ok (.l2i, 1) := by decide +kernel
theorem dX10_marks_202 : decode cX10_marks 202 = .ok (.aload_n 0, 1) := by decide +kernel
theorem dX10_marks_203 : decode cX10_marks 203 = .ok (.getfield 83, 3) := by decide +kernel
theorem dX10_marks_206 : decode cX10_marks 206 = .ok (.iload 6, 2) := by decide +kernel
theorem dX10_marks_208 : decode cX10_marks 208 = .ok (.iconst 2, 1) := by decide +kernel
theorem dX10_marks_209 : decode cX10_marks 209 = .ok (.iadd, 1) := by decide +kernel
theorem dX10_marks_210 : decode cX10_marks 210 = .ok (.laload, 1) := by decide +kernel
theorem dX10_marks_211 : decode cX10_marks 211 = .ok (.l2i, 1) := by decide +kernel
theorem dX10_marks_212 : decode cX10_marks 212 = .ok (.aload_n 0, 1) := by decide +kernel
theorem dX10_marks_213 : decode cX10_marks 213 = .ok (.getfield 83, 3) := by decide +kernel
theorem dX10_marks_216 : decode cX10_marks 216 = .ok (.iload 6, 2) := by decide +kernel
theorem dX10_marks_218 : decode cX10_marks 218 = .ok (.iconst 3, 1) := by decide +kernel
theorem dX10_marks_219 : decode cX10_marks 219 = .ok (.iadd, 1) := by decide +kernel
theorem dX10_marks_220 : decode cX10_marks 220 = .ok (.laload, 1) := by decide +kernel
theorem dX10_marks_221 : decode cX10_marks 221 = .ok (.l2i, 1) := by decide +kernel
theorem dX10_marks_222 : decode cX10_marks 222 = .ok (.invokevirtual 241, 3) := by decide +kernel
theorem dX10_marks_225 : decode cX10_marks 225 = .ok (.iinc 4 1, 3) := by decide +kernel
theorem dX10_marks_228 : decode cX10_marks 228 = .ok (.goto (-159), 3) := by decide +kernel
theorem dX10_marks_231 : decode cX10_marks 231 = .ok (.iload 4, 2) := by decide +kernel
theorem dX10_marks_233 : decode cX10_marks 233 = .ok (.ireturn, 1) := by decide +kernel
theorem dX10_isCovered_0 : decode cX10_isCovered 0 = .ok (.aload_n 0, 1) := by decide +kernel
theorem dX10_isCovered_1 : decode cX10_isCovered 1 = .ok (.getfield 55, 3) := by decide +kernel
theorem dX10_isCovered_4 : decode cX10_isCovered 4 = .ok (.iload_n 1, 1) := by decide +kernel
theorem dX10_isCovered_5 : decode cX10_isCovered 5 = .ok (.iaload, 1) := by decide +kernel
theorem dX10_isCovered_6 : decode cX10_isCovered 6 = .ok (.sipush 600, 3) := by decide +kernel
theorem dX10_isCovered_9 : decode cX10_isCovered 9 = .ok (.if_icmp .ne 12, 3) := by decide +kernel
theorem dX10_isCovered_12 : decode cX10_isCovered 12 = .ok (.aload_n 0, 1) := by decide +kernel
theorem dX10_isCovered_13 : decode cX10_isCovered 13 = .ok (.getfield 58, 3) := by decide +kernel
theorem dX10_isCovered_16 : decode cX10_isCovered 16 = .ok (.iload_n 1, 1) := by decide +kernel
theorem dX10_isCovered_17 : decode cX10_isCovered 17 = .ok (.baload, 1) := by decide +kernel
theorem dX10_isCovered_18 : decode cX10_isCovered 18 = .ok (.goto 21, 3) := by decide +kernel
theorem dX10_isCovered_21 : decode cX10_isCovered 21 = .ok (.aload_n 0, 1) := by decide +kernel
theorem dX10_isCovered_22 : decode cX10_isCovered 22 = .ok (.getfield 55, 3) := by decide +kernel
theorem dX10_isCovered_25 : decode cX10_isCovered 25 = .ok (.iload_n 1, 1) := by decide +kernel
theorem dX10_isCovered_26 : decode cX10_isCovered 26 = .ok (.iaload, 1) := by decide +kernel
theorem dX10_isCovered_27 : decode cX10_isCovered 27 = .ok (.aload_n 0, 1) := by decide +kernel
theorem dX10_isCovered_28 : decode cX10_isCovered 28 = .ok (.getfield 94, 3) := by decide +kernel
theorem dX10_isCovered_31 : decode cX10_isCovered 31 = .ok (.if_icmp .gt 7, 3) := by decide +kernel
theorem dX10_isCovered_34 : decode cX10_isCovered 34 = .ok (.iconst 1, 1) := by decide +kernel
theorem dX10_isCovered_35 : decode cX10_isCovered 35 = .ok (.goto 4, 3) := by decide +kernel
theorem dX10_isCovered_38 : decode cX10_isCovered 38 = .ok (.iconst 0, 1) := by decide +kernel
theorem dX10_isCovered_39 : decode cX10_isCovered 39 = .ok (.ireturn, 1) := by decide +kernel
theorem dX10_paint_0 : decode cX10_paint 0 = .ok (.iload_n 1, 1) := by decide +kernel
theorem dX10_paint_1 : decode cX10_paint 1 = .ok (.invokestatic 124, 3) := by decide +kernel
theorem dX10_paint_4 : decode cX10_paint 4 = .ok (.ifCond .ne 5, 3) := by decide +kernel
theorem dX10_paint_7 : decode cX10_paint 7 = .ok (.iconst (-1), 1) := by decide +kernel
theorem dX10_paint_8 : decode cX10_paint 8 = .ok (.ireturn, 1) := by decide +kernel
theorem dX10_paint_9 : decode cX10_paint 9 = .ok (.aload_n 0, 1) := by decide +kernel
theorem dX10_paint_10 : decode cX10_paint 10 = .ok (.iload_n 1, 1) := by decide +kernel
theorem dX10_paint_11 : decode cX10_paint 11 = .ok (.aload_n 0, 1) := by decide +kernel
theorem dX10_paint_12 : decode cX10_paint 12 = .ok (.getfield 94, 3) := by decide +kernel
theorem dX10_paint_15 : decode cX10_paint 15 = .ok (.if_icmp .le 7, 3) := by decide +kernel
theorem dX10_paint_18 : decode cX10_paint 18 = .ok (.iload_n 1, 1) := by decide +kernel
theorem dX10_paint_19 : decode cX10_paint 19 = .ok (.goto 7, 3) := by decide +kernel
theorem dX10_paint_22 : decode cX10_paint 22 = .ok (.aload_n 0, 1) := by decide +kernel
theorem dX10_paint_23 : decode cX10_paint 23 = .ok (.getfield 94, 3) := by decide +kernel
theorem dX10_paint_26 : decode cX10_paint 26 = .ok (.putfield 94, 3) := by decide +kernel
theorem dX10_paint_29 : decode cX10_paint 29 = .ok (.iconst 0, 1) := by decide +kernel
theorem dX10_paint_30 : decode cX10_paint 30 = .ok (.istore_n 2, 1) := by decide +kernel
theorem dX10_paint_31 : decode cX10_paint 31 = .ok (.iconst 0, 1) := by decide +kernel
theorem dX10_paint_32 : decode cX10_paint 32 = .ok (.istore_n 3, 1) := by decide +kernel
theorem dX10_paint_33 : decode cX10_paint 33 = .ok (.iload_n 3, 1) := by decide +kernel
theorem dX10_paint_34 : decode cX10_paint 34 = .ok (.aload_n 0, 1) := by decide +kernel
theorem dX10_paint_35 : decode cX10_paint 35 = .ok (.getfield 226, 3) := by decide +kernel
theorem dX10_paint_38 : decode cX10_paint 38 = .ok (.if_icmp .ge 32, 3) := by decide +kernel
theorem dX10_paint_41 : decode cX10_paint 41 = .ok (.aload_n 0, 1) := by decide +kernel
theorem dX10_paint_42 : decode cX10_paint 42 = .ok (.getfield 58, 3) := by decide +kernel
theorem dX10_paint_45 : decode cX10_paint 45 = .ok (.iload_n 3, 1) := by decide +kernel
theorem dX10_paint_46 : decode cX10_paint 46 = .ok (.iconst 1, 1) := by decide +kernel
theorem dX10_paint_47 : decode cX10_paint 47 = .ok (.bastore, 1) := by decide +kernel
theorem dX10_paint_48 : decode cX10_paint 48 = .ok (.iload_n 2, 1) := by decide +kernel
theorem dX10_paint_49 : decode cX10_paint 49 = .ok (.aload_n 0, 1) := by decide +kernel
theorem dX10_paint_50 : decode cX10_paint 50 = .ok (.iload_n 3, 1) := by decide +kernel
theorem dX10_paint_51 : decode cX10_paint 51 = .ok (.invokevirtual 250, 3) := by decide +kernel
theorem dX10_paint_54 : decode cX10_paint 54 = .ok (.ifCond .eq 7, 3) := by decide +kernel
theorem dX10_paint_57 : decode cX10_paint 57 = .ok (.iconst 1, 1) := by decide +kernel
theorem dX10_paint_58 : decode cX10_paint 58 = .ok (.goto 4, 3) := by decide +kernel
theorem dX10_paint_61 : decode cX10_paint 61 = .ok (.iconst 0, 1) := by decide +kernel
theorem dX10_paint_62 : decode cX10_paint 62 = .ok (.iadd, 1) := by decide +kernel
theorem dX10_paint_63 : decode cX10_paint 63 = .ok (.istore_n 2, 1) := by decide +kernel
theorem dX10_paint_64 : decode cX10_paint 64 = .ok (.iinc 3 1, 3) := by decide +kernel
theorem dX10_paint_67 : decode cX10_paint 67 = .ok (.goto (-34), 3) := by decide +kernel
theorem dX10_paint_70 : decode cX10_paint 70 = .ok (.iload_n 2, 1) := by decide +kernel
theorem dX10_paint_71 : decode cX10_paint 71 = .ok (.ireturn, 1) := by decide +kernel
theorem dX10_ofMark_0 : decode cX10_ofMark 0 = .ok (.iload_n 2, 1) := by decide +kernel
theorem dX10_ofMark_1 : decode cX10_ofMark 1 = .ok (.ifCond .ne 15, 3) := by decide +kernel
theorem dX10_ofMark_4 : decode cX10_ofMark 4 = .ok (.aload_n 0, 1) := by decide +kernel
theorem dX10_ofMark_5 : decode cX10_ofMark 5 = .ok (.getfield 9, 3) := by decide +kernel
theorem dX10_ofMark_8 : decode cX10_ofMark 8 = .ok (.bipush 12, 2) := by decide +kernel
theorem dX10_ofMark_10 : decode cX10_ofMark 10 = .ok (.iload_n 1, 1) := by decide +kernel
theorem dX10_ofMark_11 : decode cX10_ofMark 11 = .ok (.iadd, 1) := by decide +kernel
theorem dX10_ofMark_12 : decode cX10_ofMark 12 = .ok (.iaload, 1) := by decide +kernel
theorem dX10_ofMark_13 : decode cX10_ofMark 13 = .ok (.goto 61, 3) := by decide +kernel
theorem dX10_ofMark_16 : decode cX10_ofMark 16 = .ok (.iload_n 2, 1) := by decide +kernel
theorem dX10_ofMark_17 : decode cX10_ofMark 17 = .ok (.iconst 1, 1) := by decide +kernel
theorem dX10_ofMark_18 : decode cX10_ofMark 18 = .ok (.if_icmp .ne 12, 3) := by decide +kernel
theorem dX10_ofMark_21 : decode cX10_ofMark 21 = .ok (.aload_n 0, 1) := by decide +kernel
theorem dX10_ofMark_22 : decode cX10_ofMark 22 = .ok (.getfield 52, 3) := by decide +kernel
theorem dX10_ofMark_25 : decode cX10_ofMark 25 = .ok (.iload_n 1, 1) := by decide +kernel
theorem dX10_ofMark_26 : decode cX10_ofMark 26 = .ok (.iaload, 1) := by decide +kernel
theorem dX10_ofMark_27 : decode cX10_ofMark 27 = .ok (.goto 47, 3) := by decide +kernel
theorem dX10_ofMark_30 : decode cX10_ofMark 30 = .ok (.iload_n 2, 1) := by decide +kernel
theorem dX10_ofMark_31 : decode cX10_ofMark 31 = .ok (.iconst 2, 1) := by decide +kernel
theorem dX10_ofMark_32 : decode cX10_ofMark 32 = .ok (.if_icmp .ne 12, 3) := by decide +kernel
theorem dX10_ofMark_35 : decode cX10_ofMark 35 = .ok (.aload_n 0, 1) := by decide +kernel
theorem dX10_ofMark_36 : decode cX10_ofMark 36 = .ok (.getfield 55, 3) := by decide +kernel
theorem dX10_ofMark_39 : decode cX10_ofMark 39 = .ok (.iload_n 1, 1) := by decide +kernel
theorem dX10_ofMark_40 : decode cX10_ofMark 40 = .ok (.iaload, 1) := by decide +kernel
theorem dX10_ofMark_41 : decode cX10_ofMark 41 = .ok (.goto 33, 3) := by decide +kernel
theorem dX10_ofMark_44 : decode cX10_ofMark 44 = .ok (.iload_n 2, 1) := by decide +kernel
theorem dX10_ofMark_45 : decode cX10_ofMark 45 = .ok (.iconst 3, 1) := by decide +kernel
theorem dX10_ofMark_46 : decode cX10_ofMark 46 = .ok (.if_icmp .ne 15, 3) := by decide +kernel
theorem dX10_ofMark_49 : decode cX10_ofMark 49 = .ok (.aload_n 0, 1) := by decide +kernel
theorem dX10_ofMark_50 : decode cX10_ofMark 50 = .ok (.getfield 9, 3) := by decide +kernel
theorem dX10_ofMark_53 : decode cX10_ofMark 53 = .ok (.bipush 42, 2) := by decide +kernel
theorem dX10_ofMark_55 : decode cX10_ofMark 55 = .ok (.iload_n 1, 1) := by decide +kernel
theorem dX10_ofMark_56 : decode cX10_ofMark 56 = .ok (.iadd, 1) := by decide +kernel
theorem dX10_ofMark_57 : decode cX10_ofMark 57 = .ok (.iaload, 1) := by decide +kernel
theorem dX10_ofMark_58 : decode cX10_ofMark 58 = .ok (.goto 16, 3) := by decide +kernel
theorem dX10_ofMark_61 : decode cX10_ofMark 61 = .ok (.aload_n 0, 1) := by decide +kernel
theorem dX10_ofMark_62 : decode cX10_ofMark 62 = .ok (.iload_n 1, 1) := by decide +kernel
theorem dX10_ofMark_63 : decode cX10_ofMark 63 = .ok (.invokevirtual 250, 3) := by decide +kernel
theorem dX10_ofMark_66 : decode cX10_ofMark 66 = .ok (.ifCond .eq 7, 3) := by decide +kernel
theorem dX10_ofMark_69 : decode cX10_ofMark 69 = .ok (.iconst 1, 1) := by decide +kernel
theorem dX10_ofMark_70 : decode cX10_ofMark 70 = .ok (.goto 4, 3) := by decide +kernel
theorem dX10_ofMark_73 : decode cX10_ofMark 73 = .ok (.iconst 0, 1) := by decide +kernel
theorem dX10_ofMark_74 : decode cX10_ofMark 74 = .ok (.ireturn, 1) := by decide +kernel
theorem dX10_ofChild_0 : decode cX10_ofChild 0 = .ok (.iload_n 2, 1) := by decide +kernel
theorem dX10_ofChild_1 : decode cX10_ofChild 1 = .ok (.bipush 10, 2) := by decide +kernel
theorem dX10_ofChild_3 : decode cX10_ofChild 3 = .ok (.if_icmp .ne 12, 3) := by decide +kernel
theorem dX10_ofChild_6 : decode cX10_ofChild 6 = .ok (.aload_n 0, 1) := by decide +kernel
theorem dX10_ofChild_7 : decode cX10_ofChild 7 = .ok (.getfield 22, 3) := by decide +kernel
theorem dX10_ofChild_10 : decode cX10_ofChild 10 = .ok (.iload_n 1, 1) := by decide +kernel
theorem dX10_ofChild_11 : decode cX10_ofChild 11 = .ok (.iaload, 1) := by decide +kernel
theorem dX10_ofChild_12 : decode cX10_ofChild 12 = .ok (.goto 57, 3) := by decide +kernel
theorem dX10_ofChild_15 : decode cX10_ofChild 15 = .ok (.iload_n 2, 1) := by decide +kernel
theorem dX10_ofChild_16 : decode cX10_ofChild 16 = .ok (.bipush 11, 2) := by decide +kernel
theorem dX10_ofChild_18 : decode cX10_ofChild 18 = .ok (.if_icmp .ne 12, 3) := by decide +kernel
theorem dX10_ofChild_21 : decode cX10_ofChild 21 = .ok (.aload_n 0, 1) := by decide +kernel
theorem dX10_ofChild_22 : decode cX10_ofChild 22 = .ok (.getfield 25, 3) := by decide +kernel
theorem dX10_ofChild_25 : decode cX10_ofChild 25 = .ok (.iload_n 1, 1) := by decide +kernel
theorem dX10_ofChild_26 : decode cX10_ofChild 26 = .ok (.iaload, 1) := by decide +kernel
theorem dX10_ofChild_27 : decode cX10_ofChild 27 = .ok (.goto 42, 3) := by decide +kernel
theorem dX10_ofChild_30 : decode cX10_ofChild 30 = .ok (.iload_n 2, 1) := by decide +kernel
theorem dX10_ofChild_31 : decode cX10_ofChild 31 = .ok (.bipush 12, 2) := by decide +kernel
theorem dX10_ofChild_33 : decode cX10_ofChild 33 = .ok (.if_icmp .ne 12, 3) := by decide +kernel
theorem dX10_ofChild_36 : decode cX10_ofChild 36 = .ok (.aload_n 0, 1) := by decide +kernel
theorem dX10_ofChild_37 : decode cX10_ofChild 37 = .ok (.getfield 28, 3) := by decide +kernel
theorem dX10_ofChild_40 : decode cX10_ofChild 40 = .ok (.iload_n 1, 1) := by decide +kernel
theorem dX10_ofChild_41 : decode cX10_ofChild 41 = .ok (.iaload, 1) := by decide +kernel
theorem dX10_ofChild_42 : decode cX10_ofChild 42 = .ok (.goto 27, 3) := by decide +kernel
theorem dX10_ofChild_45 : decode cX10_ofChild 45 = .ok (.iload_n 2, 1) := by decide +kernel
theorem dX10_ofChild_46 : decode cX10_ofChild 46 = .ok (.bipush 13, 2) := by decide +kernel
theorem dX10_ofChild_48 : decode cX10_ofChild 48 = .ok (.if_icmp .ne 12, 3) := by decide +kernel
theorem dX10_ofChild_51 : decode cX10_ofChild 51 = .ok (.aload_n 0, 1) := by decide +kernel
theorem dX10_ofChild_52 : decode cX10_ofChild 52 = .ok (.getfield 9, 3) := by decide +kernel
theorem dX10_ofChild_55 : decode cX10_ofChild 55 = .ok (.iload_n 1, 1) := by decide +kernel
theorem dX10_ofChild_56 : decode cX10_ofChild 56 = .ok (.iaload, 1) := by decide +kernel
theorem dX10_ofChild_57 : decode cX10_ofChild 57 = .ok (.goto 12, 3) := by decide +kernel
theorem dX10_ofChild_60 : decode cX10_ofChild 60 = .ok (.aload_n 0, 1) := by decide +kernel
theorem dX10_ofChild_61 : decode cX10_ofChild 61 = .ok (.getfield 9, 3) := by decide +kernel
theorem dX10_ofChild_64 : decode cX10_ofChild 64 = .ok (.bipush 6, 2) := by decide +kernel
theorem dX10_ofChild_66 : decode cX10_ofChild 66 = .ok (.iload_n 1, 1) := by decide +kernel
theorem dX10_ofChild_67 : decode cX10_ofChild 67 = .ok (.iadd, 1) := by decide +kernel
theorem dX10_ofChild_68 : decode cX10_ofChild 68 = .ok (.iaload, 1) := by decide +kernel
theorem dX10_ofChild_69 : decode cX10_ofChild 69 = .ok (.ireturn, 1) := by decide +kernel
theorem dX10_of_0 : decode cX10_of 0 = .ok (.iload_n 2, 1) := by decide +kernel
theorem dX10_of_1 : decode cX10_of 1 = .ok (.i2l, 1) := by decide +kernel
theorem dX10_of_2 : decode cX10_of 2 = .ok (.lconst 0, 1) := by decide +kernel
theorem dX10_of_3 : decode cX10_of 3 = .ok (.ldc2_w 235, 3) := by decide +kernel
theorem dX10_of_6 : decode cX10_of 6 = .ok (.invokestatic 110, 3) := by decide +kernel
theorem dX10_of_9 : decode cX10_of 9 = .ok (.ifCond .eq 24, 3) := by decide +kernel
theorem dX10_of_12 : decode cX10_of 12 = .ok (.aload_n 0, 1) := by decide +kernel
theorem dX10_of_13 : decode cX10_of 13 = .ok (.iload_n 1, 1) := by decide +kernel
theorem dX10_of_14 : decode cX10_of 14 = .ok (.invokevirtual 253, 3) := by decide +kernel
theorem dX10_of_17 : decode cX10_of 17 = .ok (.ifCond .eq 12, 3) := by decide +kernel
theorem dX10_of_20 : decode cX10_of 20 = .ok (.aload_n 0, 1) := by decide +kernel
theorem dX10_of_21 : decode cX10_of 21 = .ok (.iload_n 1, 1) := by decide +kernel
theorem dX10_of_22 : decode cX10_of 22 = .ok (.iload_n 2, 1) := by decide +kernel
theorem dX10_of_23 : decode cX10_of 23 = .ok (.invokevirtual 256, 3) := by decide +kernel
theorem dX10_of_26 : decode cX10_of 26 = .ok (.goto 6, 3) := by decide +kernel
theorem dX10_of_29 : decode cX10_of 29 = .ok (.ldc_w 259, 3) := by decide +kernel
theorem dX10_of_32 : decode cX10_of 32 = .ok (.ireturn, 1) := by decide +kernel
theorem dX10_of_33 : decode cX10_of 33 = .ok (.iload_n 2, 1) := by decide +kernel
theorem dX10_of_34 : decode cX10_of 34 = .ok (.i2l, 1) := by decide +kernel
theorem dX10_of_35 : decode cX10_of 35 = .ok (.ldc2_w 260, 3) := by decide +kernel
theorem dX10_of_38 : decode cX10_of 38 = .ok (.ldc2_w 262, 3) := by decide +kernel
theorem dX10_of_41 : decode cX10_of 41 = .ok (.invokestatic 110, 3) := by decide +kernel
theorem dX10_of_44 : decode cX10_of 44 = .ok (.ifCond .eq 20, 3) := by decide +kernel
theorem dX10_of_47 : decode cX10_of 47 = .ok (.aload_n 0, 1) := by decide +kernel
theorem dX10_of_48 : decode cX10_of 48 = .ok (.iload_n 1, 1) := by decide +kernel
theorem dX10_of_49 : decode cX10_of 49 = .ok (.invokevirtual 220, 3) := by decide +kernel
theorem dX10_of_52 : decode cX10_of 52 = .ok (.ifCond .eq 12, 3) := by decide +kernel
theorem dX10_of_55 : decode cX10_of 55 = .ok (.aload_n 0, 1) := by decide +kernel
theorem dX10_of_56 : decode cX10_of 56 = .ok (.iload_n 1, 1) := by decide +kernel
theorem dX10_of_57 : decode cX10_of 57 = .ok (.iload_n 2, 1) := by decide +kernel
theorem dX10_of_58 : decode cX10_of 58 = .ok (.invokevirtual 264, 3) := by decide +kernel
theorem dX10_of_61 : decode cX10_of 61 = .ok (.goto 6, 3) := by decide +kernel
theorem dX10_of_64 : decode cX10_of 64 = .ok (.ldc_w 259, 3) := by decide +kernel
theorem dX10_of_67 : decode cX10_of 67 = .ok (.ireturn, 1) := by decide +kernel
theorem dX10_mend_0 : decode cX10_mend 0 = .ok (.iload_n 2, 1) := by decide +kernel
theorem dX10_mend_1 : decode cX10_mend 1 = .ok (.tableswitch 162 0 3 #[31, 67, 103, 131], 31) := by decide +kernel
theorem dX10_mend_32 : decode cX10_mend 32 = .ok (.aload_n 0, 1) := by decide +kernel
theorem dX10_mend_33 : decode cX10_mend 33 = .ok (.iload_n 1, 1) := by decide +kernel
theorem dX10_mend_34 : decode cX10_mend 34 = .ok (.invokevirtual 253, 3) := by decide +kernel
theorem dX10_mend_37 : decode cX10_mend 37 = .ok (.ifCond .eq 27, 3) := by decide +kernel
theorem dX10_mend_40 : decode cX10_mend 40 = .ok (.iload_n 3, 1) := by decide +kernel
theorem dX10_mend_41 : decode cX10_mend 41 = .ok (.i2l, 1) := by decide +kernel
theorem dX10_mend_42 : decode cX10_mend 42 = .ok (.lconst 0, 1) := by decide +kernel
theorem dX10_mend_43 : decode cX10_mend 43 = .ok (.ldc2_w 229, 3) := by decide +kernel
theorem dX10_mend_46 : decode cX10_mend 46 = .ok (.invokestatic 110, 3) := by decide +kernel
theorem dX10_mend_49 : decode cX10_mend 49 = .ok (.ifCond .eq 15, 3) := by decide +kernel
theorem dX10_mend_52 : decode cX10_mend 52 = .ok (.aload_n 0, 1) := by decide +kernel
theorem dX10_mend_53 : decode cX10_mend 53 = .ok (.bipush 12, 2) := by decide +kernel
theorem dX10_mend_55 : decode cX10_mend 55 = .ok (.iload_n 1, 1) := by decide +kernel
theorem dX10_mend_56 : decode cX10_mend 56 = .ok (.iadd, 1) := by decide +kernel
theorem dX10_mend_57 : decode cX10_mend 57 = .ok (.iload_n 3, 1) := by decide +kernel
theorem dX10_mend_58 : decode cX10_mend 58 = .ok (.invokevirtual 267, 3) := by decide +kernel
theorem dX10_mend_61 : decode cX10_mend 61 = .ok (.goto 6, 3) := by decide +kernel
theorem dX10_mend_64 : decode cX10_mend 64 = .ok (.ldc_w 259, 3) := by decide +kernel
theorem dX10_mend_67 : decode cX10_mend 67 = .ok (.ireturn, 1) := by decide +kernel
theorem dX10_mend_68 : decode cX10_mend 68 = .ok (.aload_n 0, 1) := by decide +kernel
theorem dX10_mend_69 : decode cX10_mend 69 = .ok (.iload_n 1, 1) := by decide +kernel
theorem dX10_mend_70 : decode cX10_mend 70 = .ok (.invokevirtual 253, 3) := by decide +kernel
theorem dX10_mend_73 : decode cX10_mend 73 = .ok (.ifCond .eq 27, 3) := by decide +kernel
theorem dX10_mend_76 : decode cX10_mend 76 = .ok (.iload_n 3, 1) := by decide +kernel
theorem dX10_mend_77 : decode cX10_mend 77 = .ok (.i2l, 1) := by decide +kernel
theorem dX10_mend_78 : decode cX10_mend 78 = .ok (.lconst 0, 1) := by decide +kernel
theorem dX10_mend_79 : decode cX10_mend 79 = .ok (.ldc2_w 235, 3) := by decide +kernel
theorem dX10_mend_82 : decode cX10_mend 82 = .ok (.invokestatic 110, 3) := by decide +kernel
theorem dX10_mend_85 : decode cX10_mend 85 = .ok (.ifCond .eq 15, 3) := by decide +kernel
theorem dX10_mend_88 : decode cX10_mend 88 = .ok (.aload_n 0, 1) := by decide +kernel
theorem dX10_mend_89 : decode cX10_mend 89 = .ok (.bipush 42, 2) := by decide +kernel
theorem dX10_mend_91 : decode cX10_mend 91 = .ok (.iload_n 1, 1) := by decide +kernel
theorem dX10_mend_92 : decode cX10_mend 92 = .ok (.iadd, 1) := by decide +kernel
theorem dX10_mend_93 : decode cX10_mend 93 = .ok (.iload_n 3, 1) := by decide +kernel
theorem dX10_mend_94 : decode cX10_mend 94 = .ok (.invokevirtual 267, 3) := by decide +kernel
theorem dX10_mend_97 : decode cX10_mend 97 = .ok (.goto 6, 3) := by decide +kernel
theorem dX10_mend_100 : decode cX10_mend 100 = .ok (.ldc_w 259, 3) := by decide +kernel
theorem dX10_mend_103 : decode cX10_mend 103 = .ok (.ireturn, 1) := by decide +kernel
theorem dX10_mend_104 : decode cX10_mend 104 = .ok (.aload_n 0, 1) := by decide +kernel
theorem dX10_mend_105 : decode cX10_mend 105 = .ok (.iload_n 1, 1) := by decide +kernel
theorem dX10_mend_106 : decode cX10_mend 106 = .ok (.invokevirtual 220, 3) := by decide +kernel
theorem dX10_mend_109 : decode cX10_mend 109 = .ok (.ifCond .eq 19, 3) := by decide +kernel
theorem dX10_mend_112 : decode cX10_mend 112 = .ok (.iload_n 3, 1) := by decide +kernel
theorem dX10_mend_113 : decode cX10_mend 113 = .ok (.invokestatic 132, 3) := by decide +kernel
theorem dX10_mend_116 : decode cX10_mend 116 = .ok (.ifCond .eq 12, 3) := by decide +kernel
theorem dX10_mend_119 : decode cX10_mend 119 = .ok (.aload_n 0, 1) := by decide +kernel
theorem dX10_mend_120 : decode cX10_mend 120 = .ok (.iload_n 1, 1) := by decide +kernel
theorem dX10_mend_121 : decode cX10_mend 121 = .ok (.iload_n 3, 1) := by decide +kernel
theorem dX10_mend_122 : decode cX10_mend 122 = .ok (.invokevirtual 267, 3) := by decide +kernel
theorem dX10_mend_125 : decode cX10_mend 125 = .ok (.goto 6, 3) := by decide +kernel
theorem dX10_mend_128 : decode cX10_mend 128 = .ok (.ldc_w 259, 3) := by decide +kernel
theorem dX10_mend_131 : decode cX10_mend 131 = .ok (.ireturn, 1) := by decide +kernel
theorem dX10_mend_132 : decode cX10_mend 132 = .ok (.aload_n 0, 1) := by decide +kernel
theorem dX10_mend_133 : decode cX10_mend 133 = .ok (.iload_n 1, 1) := by decide +kernel
theorem dX10_mend_134 : decode cX10_mend 134 = .ok (.invokevirtual 220, 3) := by decide +kernel
theorem dX10_mend_137 : decode cX10_mend 137 = .ok (.ifCond .eq 22, 3) := by decide +kernel
theorem dX10_mend_140 : decode cX10_mend 140 = .ok (.iload_n 3, 1) := by decide +kernel
theorem dX10_mend_141 : decode cX10_mend 141 = .ok (.invokestatic 135, 3) := by decide +kernel
theorem dX10_mend_144 : decode cX10_mend 144 = .ok (.ifCond .eq 15, 3) := by decide +kernel
theorem dX10_mend_147 : decode cX10_mend 147 = .ok (.aload_n 0, 1) := by decide +kernel
theorem dX10_mend_148 : decode cX10_mend 148 = .ok (.bipush 6, 2) := by decide +kernel
theorem dX10_mend_150 : decode cX10_mend 150 = .ok (.iload_n 1, 1) := by decide +kernel
theorem dX10_mend_151 : decode cX10_mend 151 = .ok (.iadd, 1) := by decide +kernel
theorem dX10_mend_152 : decode cX10_mend 152 = .ok (.iload_n 3, 1) := by decide +kernel
theorem dX10_mend_153 : decode cX10_mend 153 = .ok (.invokevirtual 267, 3) := by decide +kernel
theorem dX10_mend_156 : decode cX10_mend 156 = .ok (.goto 6, 3) := by decide +kernel
theorem dX10_mend_159 : decode cX10_mend 159 = .ok (.ldc_w 259, 3) := by decide +kernel
theorem dX10_mend_162 : decode cX10_mend 162 = .ok (.ireturn, 1) := by decide +kernel
theorem dX10_mend_163 : decode cX10_mend 163 = .ok (.ldc_w 259, 3) := by decide +kernel
theorem dX10_mend_166 : decode cX10_mend 166 = .ok (.ireturn, 1) := by decide +kernel
theorem dX10_byWay_0 : decode cX10_byWay 0 = .ok (.iload_n 1, 1) := by decide +kernel
theorem dX10_byWay_1 : decode cX10_byWay 1 = .ok (.tableswitch 68 1 4 #[31, 36, 42, 57], 31) := by decide +kernel
theorem dX10_byWay_32 : decode cX10_byWay 32 = .ok (.iload_n 0, 1) := by decide +kernel
theorem dX10_byWay_33 : decode cX10_byWay 33 = .ok (.bipush 48, 2) := by decide +kernel
theorem dX10_byWay_35 : decode cX10_byWay 35 = .ok (.iadd, 1) := by decide +kernel
theorem dX10_byWay_36 : decode cX10_byWay 36 = .ok (.ireturn, 1) := by decide +kernel
theorem dX10_byWay_37 : decode cX10_byWay 37 = .ok (.iload_n 0, 1) := by decide +kernel
theorem dX10_byWay_38 : decode cX10_byWay 38 = .ok (.sipush 128, 3) := by decide +kernel
theorem dX10_byWay_41 : decode cX10_byWay 41 = .ok (.iadd, 1) := by decide +kernel
theorem dX10_byWay_42 : decode cX10_byWay 42 = .ok (.ireturn, 1) := by decide +kernel
theorem dX10_byWay_43 : decode cX10_byWay 43 = .ok (.iload_n 0, 1) := by decide +kernel
theorem dX10_byWay_44 : decode cX10_byWay 44 = .ok (.bipush 24, 2) := by decide +kernel
theorem dX10_byWay_46 : decode cX10_byWay 46 = .ok (.if_icmp .ge 7, 3) := by decide +kernel
theorem dX10_byWay_49 : decode cX10_byWay 49 = .ok (.iconst 0, 1) := by decide +kernel
theorem dX10_byWay_50 : decode cX10_byWay 50 = .ok (.goto 7, 3) := by decide +kernel
theorem dX10_byWay_53 : decode cX10_byWay 53 = .ok (.iload_n 0, 1) := by decide +kernel
theorem dX10_byWay_54 : decode cX10_byWay 54 = .ok (.bipush 24, 2) := by decide +kernel
theorem dX10_byWay_56 : decode cX10_byWay 56 = .ok (.isub, 1) := by decide +kernel
theorem dX10_byWay_57 : decode cX10_byWay 57 = .ok (.ireturn, 1) := by decide +kernel
theorem dX10_byWay_58 : decode cX10_byWay 58 = .ok (.iload_n 0, 1) := by decide +kernel
theorem dX10_byWay_59 : decode cX10_byWay 59 = .ok (.bipush 32, 2) := by decide +kernel
theorem dX10_byWay_61 : decode cX10_byWay 61 = .ok (.iadd, 1) := by decide +kernel
theorem dX10_byWay_62 : decode cX10_byWay 62 = .ok (.bipush 64, 2) := by decide +kernel
theorem dX10_byWay_64 : decode cX10_byWay 64 = .ok (.idiv, 1) := by decide +kernel
theorem dX10_byWay_65 : decode cX10_byWay 65 = .ok (.bipush 64, 2) := by decide +kernel
theorem dX10_byWay_67 : decode cX10_byWay 67 = .ok (.imul, 1) := by decide +kernel
theorem dX10_byWay_68 : decode cX10_byWay 68 = .ok (.ireturn, 1) := by decide +kernel
theorem dX10_byWay_69 : decode cX10_byWay 69 = .ok (.iload_n 0, 1) := by decide +kernel
theorem dX10_byWay_70 : decode cX10_byWay 70 = .ok (.ireturn, 1) := by decide +kernel
theorem dX10_offBy_0 : decode cX10_offBy 0 = .ok (.iload_n 3, 1) := by decide +kernel
theorem dX10_offBy_1 : decode cX10_offBy 1 = .ok (.aload_n 0, 1) := by decide +kernel
theorem dX10_offBy_2 : decode cX10_offBy 2 = .ok (.getfield 22, 3) := by decide +kernel
theorem dX10_offBy_5 : decode cX10_offBy 5 = .ok (.iload_n 2, 1) := by decide +kernel
theorem dX10_offBy_6 : decode cX10_offBy 6 = .ok (.iaload, 1) := by decide +kernel
theorem dX10_offBy_7 : decode cX10_offBy 7 = .ok (.if_icmp .ge 8, 3) := by decide +kernel
theorem dX10_offBy_10 : decode cX10_offBy 10 = .ok (.bipush (-2), 2) := by decide +kernel
theorem dX10_offBy_12 : decode cX10_offBy 12 = .ok (.goto 19, 3) := by decide +kernel
theorem dX10_offBy_15 : decode cX10_offBy 15 = .ok (.iload_n 1, 1) := by decide +kernel
theorem dX10_offBy_16 : decode cX10_offBy 16 = .ok (.aload_n 0, 1) := by decide +kernel
theorem dX10_offBy_17 : decode cX10_offBy 17 = .ok (.iload_n 2, 1) := by decide +kernel
theorem dX10_offBy_18 : decode cX10_offBy 18 = .ok (.iload_n 3, 1) := by decide +kernel
theorem dX10_offBy_19 : decode cX10_offBy 19 = .ok (.invokevirtual 223, 3) := by decide +kernel
theorem dX10_offBy_22 : decode cX10_offBy 22 = .ok (.iload 4, 2) := by decide +kernel
theorem dX10_offBy_24 : decode cX10_offBy 24 = .ok (.invokestatic 270, 3) := by decide +kernel
theorem dX10_offBy_27 : decode cX10_offBy 27 = .ok (.isub, 1) := by decide +kernel
theorem dX10_offBy_28 : decode cX10_offBy 28 = .ok (.invokestatic 273, 3) := by decide +kernel
theorem dX10_offBy_31 : decode cX10_offBy 31 = .ok (.ireturn, 1) := by decide +kernel
theorem dX10_offOf_0 : decode cX10_offOf 0 = .ok (.aload_n 0, 1) := by decide +kernel
theorem dX10_offOf_1 : decode cX10_offOf 1 = .ok (.aload_n 0, 1) := by decide +kernel
theorem dX10_offOf_2 : decode cX10_offOf 2 = .ok (.getfield 9, 3) := by decide +kernel
theorem dX10_offOf_5 : decode cX10_offOf 5 = .ok (.bipush 12, 2) := by decide +kernel
theorem dX10_offOf_7 : decode cX10_offOf 7 = .ok (.iload_n 1, 1) := by decide +kernel
theorem dX10_offOf_8 : decode cX10_offOf 8 = .ok (.iadd, 1) := by decide +kernel
theorem dX10_offOf_9 : decode cX10_offOf 9 = .ok (.iaload, 1) := by decide +kernel
theorem dX10_offOf_10 : decode cX10_offOf 10 = .ok (.iload_n 2, 1) := by decide +kernel
theorem dX10_offOf_11 : decode cX10_offOf 11 = .ok (.iload_n 3, 1) := by decide +kernel
theorem dX10_offOf_12 : decode cX10_offOf 12 = .ok (.aload_n 0, 1) := by decide +kernel
theorem dX10_offOf_13 : decode cX10_offOf 13 = .ok (.getfield 9, 3) := by decide +kernel
theorem dX10_offOf_16 : decode cX10_offOf 16 = .ok (.bipush 42, 2) := by decide +kernel
theorem dX10_offOf_18 : decode cX10_offOf 18 = .ok (.iload_n 1, 1) := by decide +kernel
theorem dX10_offOf_19 : decode cX10_offOf 19 = .ok (.iadd, 1) := by decide +kernel
theorem dX10_offOf_20 : decode cX10_offOf 20 = .ok (.iaload, 1) := by decide +kernel
theorem dX10_offOf_21 : decode cX10_offOf 21 = .ok (.invokevirtual 276, 3) := by decide +kernel
theorem dX10_offOf_24 : decode cX10_offOf 24 = .ok (.ireturn, 1) := by decide +kernel
theorem dX10_isMc_0 : decode cX10_isMc 0 = .ok (.iload_n 1, 1) := by decide +kernel
theorem dX10_isMc_1 : decode cX10_isMc 1 = .ok (.ifCond .lt 29, 3) := by decide +kernel
theorem dX10_isMc_4 : decode cX10_isMc 4 = .ok (.aload_n 0, 1) := by decide +kernel
theorem dX10_isMc_5 : decode cX10_isMc 5 = .ok (.iload_n 1, 1) := by decide +kernel
theorem dX10_isMc_6 : decode cX10_isMc 6 = .ok (.bipush 10, 2) := by decide +kernel
theorem dX10_isMc_8 : decode cX10_isMc 8 = .ok (.idiv, 1) := by decide +kernel
theorem dX10_isMc_9 : decode cX10_isMc 9 = .ok (.invokevirtual 253, 3) := by decide +kernel
theorem dX10_isMc_12 : decode cX10_isMc 12 = .ok (.ifCond .eq 18, 3) := by decide +kernel
theorem dX10_isMc_15 : decode cX10_isMc 15 = .ok (.aload_n 0, 1) := by decide +kernel
theorem dX10_isMc_16 : decode cX10_isMc 16 = .ok (.iload_n 1, 1) := by decide +kernel
theorem dX10_isMc_17 : decode cX10_isMc 17 = .ok (.bipush 10, 2) := by decide +kernel
theorem dX10_isMc_19 : decode cX10_isMc 19 = .ok (.irem, 1) := by decide +kernel
theorem dX10_isMc_20 : decode cX10_isMc 20 = .ok (.invokevirtual 220, 3) := by decide +kernel
theorem dX10_isMc_23 : decode cX10_isMc 23 = .ok (.ifCond .eq 7, 3) := by decide +kernel
theorem dX10_isMc_26 : decode cX10_isMc 26 = .ok (.iconst 1, 1) := by decide +kernel
theorem dX10_isMc_27 : decode cX10_isMc 27 = .ok (.goto 4, 3) := by decide +kernel
theorem dX10_isMc_30 : decode cX10_isMc 30 = .ok (.iconst 0, 1) := by decide +kernel
theorem dX10_isMc_31 : decode cX10_isMc 31 = .ok (.ireturn, 1) := by decide +kernel
theorem dX10_off_0 : decode cX10_off 0 = .ok (.aload_n 0, 1) := by decide +kernel
theorem dX10_off_1 : decode cX10_off 1 = .ok (.iload_n 1, 1) := by decide +kernel
theorem dX10_off_2 : decode cX10_off 2 = .ok (.invokevirtual 280, 3) := by decide +kernel
theorem dX10_off_5 : decode cX10_off 5 = .ok (.ifCond .eq 47, 3) := by decide +kernel
theorem dX10_off_8 : decode cX10_off 8 = .ok (.iload_n 2, 1) := by decide +kernel
theorem dX10_off_9 : decode cX10_off 9 = .ok (.invokestatic 124, 3) := by decide +kernel
theorem dX10_off_12 : decode cX10_off 12 = .ok (.ifCond .eq 40, 3) := by decide +kernel
theorem dX10_off_15 : decode cX10_off 15 = .ok (.iload_n 3, 1) := by decide +kernel
theorem dX10_off_16 : decode cX10_off 16 = .ok (.i2l, 1) := by decide +kernel
theorem dX10_off_17 : decode cX10_off 17 = .ok (.lconst 0, 1) := by decide +kernel
theorem dX10_off_18 : decode cX10_off 18 = .ok (.ldc2_w 235, 3) := by decide +kernel
theorem dX10_off_21 : decode cX10_off 21 = .ok (.invokestatic 110, 3) := by decide +kernel
theorem dX10_off_24 : decode cX10_off 24 = .ok (.ifCond .eq 28, 3) := by decide +kernel
theorem dX10_off_27 : decode cX10_off 27 = .ok (.aload_n 0, 1) := by decide +kernel
theorem dX10_off_28 : decode cX10_off 28 = .ok (.aload_n 0, 1) := by decide +kernel
theorem dX10_off_29 : decode cX10_off 29 = .ok (.getfield 9, 3) := by decide +kernel
theorem dX10_off_32 : decode cX10_off 32 = .ok (.bipush 12, 2) := by decide +kernel
theorem dX10_off_34 : decode cX10_off 34 = .ok (.iload_n 1, 1) := by decide +kernel
theorem dX10_off_35 : decode cX10_off 35 = .ok (.bipush 10, 2) := by decide +kernel
theorem dX10_off_37 : decode cX10_off 37 = .ok (.idiv, 1) := by decide +kernel
theorem dX10_off_38 : decode cX10_off 38 = .ok (.iadd, 1) := by decide +kernel
theorem dX10_off_39 : decode cX10_off 39 = .ok (.iaload, 1) := by decide +kernel
theorem dX10_off_40 : decode cX10_off 40 = .ok (.iload_n 1, 1) := by decide +kernel
theorem dX10_off_41 : decode cX10_off 41 = .ok (.bipush 10, 2) := by decide +kernel
theorem dX10_off_43 : decode cX10_off 43 = .ok (.irem, 1) := by decide +kernel
theorem dX10_off_44 : decode cX10_off 44 = .ok (.iload_n 2, 1) := by decide +kernel
theorem dX10_off_45 : decode cX10_off 45 = .ok (.iload_n 3, 1) := by decide +kernel
theorem dX10_off_46 : decode cX10_off 46 = .ok (.invokevirtual 276, 3) := by decide +kernel
theorem dX10_off_49 : decode cX10_off 49 = .ok (.goto 4, 3) := by decide +kernel
theorem dX10_off_52 : decode cX10_off 52 = .ok (.iconst (-1), 1) := by decide +kernel
theorem dX10_off_53 : decode cX10_off 53 = .ok (.ireturn, 1) := by decide +kernel
theorem dX10_mayBe_0 : decode cX10_mayBe 0 = .ok (.aload_n 0, 1) := by decide +kernel
theorem dX10_mayBe_1 : decode cX10_mayBe 1 = .ok (.aload_n 0, 1) := by decide +kernel
theorem dX10_mayBe_2 : decode cX10_mayBe 2 = .ok (.getfield 52, 3) := by decide +kernel
theorem dX10_mayBe_5 : decode cX10_mayBe 5 = .ok (.iload_n 1, 1) := by decide +kernel
theorem dX10_mayBe_6 : decode cX10_mayBe 6 = .ok (.iaload, 1) := by decide +kernel
theorem dX10_mayBe_7 : decode cX10_mayBe 7 = .ok (.invokevirtual 220, 3) := by decide +kernel
theorem dX10_mayBe_10 : decode cX10_mayBe 10 = .ok (.ifCond .eq 13, 3) := by decide +kernel
theorem dX10_mayBe_13 : decode cX10_mayBe 13 = .ok (.aload_n 0, 1) := by decide +kernel
theorem dX10_mayBe_14 : decode cX10_mayBe 14 = .ok (.getfield 52, 3) := by decide +kernel
theorem dX10_mayBe_17 : decode cX10_mayBe 17 = .ok (.iload_n 1, 1) := by decide +kernel
theorem dX10_mayBe_18 : decode cX10_mayBe 18 = .ok (.iaload, 1) := by decide +kernel
theorem dX10_mayBe_19 : decode cX10_mayBe 19 = .ok (.iload_n 2, 1) := by decide +kernel
theorem dX10_mayBe_20 : decode cX10_mayBe 20 = .ok (.if_icmp .ne 7, 3) := by decide +kernel
theorem dX10_mayBe_23 : decode cX10_mayBe 23 = .ok (.iconst 1, 1) := by decide +kernel
theorem dX10_mayBe_24 : decode cX10_mayBe 24 = .ok (.goto 4, 3) := by decide +kernel
theorem dX10_mayBe_27 : decode cX10_mayBe 27 = .ok (.iconst 0, 1) := by decide +kernel
theorem dX10_mayBe_28 : decode cX10_mayBe 28 = .ok (.ireturn, 1) := by decide +kernel
theorem dX10_findWhose_0 : decode cX10_findWhose 0 = .ok (.aload_n 0, 1) := by decide +kernel
theorem dX10_findWhose_1 : decode cX10_findWhose 1 = .ok (.bipush (-2), 2) := by decide +kernel
theorem dX10_findWhose_3 : decode cX10_findWhose 3 = .ok (.putfield 283, 3) := by decide +kernel
theorem dX10_findWhose_6 : decode cX10_findWhose 6 = .ok (.aload_n 0, 1) := by decide +kernel
theorem dX10_findWhose_7 : decode cX10_findWhose 7 = .ok (.bipush (-2), 2) := by decide +kernel
theorem dX10_findWhose_9 : decode cX10_findWhose 9 = .ok (.putfield 286, 3) := by decide +kernel
theorem dX10_findWhose_12 : decode cX10_findWhose 12 = .ok (.aload_n 0, 1) := by decide +kernel
theorem dX10_findWhose_13 : decode cX10_findWhose 13 = .ok (.bipush (-2), 2) := by decide +kernel
theorem dX10_findWhose_15 : decode cX10_findWhose 15 = .ok (.putfield 289, 3) := by decide +kernel
theorem dX10_findWhose_18 : decode cX10_findWhose 18 = .ok (.aload_n 0, 1) := by decide +kernel
theorem dX10_findWhose_19 : decode cX10_findWhose 19 = .ok (.getfield 55, 3) := by decide +kernel
theorem dX10_findWhose_22 : decode cX10_findWhose 22 = .ok (.iload_n 1, 1) := by decide +kernel
theorem dX10_findWhose_23 : decode cX10_findWhose 23 = .ok (.iaload, 1) := by decide +kernel
theorem dX10_findWhose_24 : decode cX10_findWhose 24 = .ok (.sipush 600, 3) := by decide +kernel
theorem dX10_findWhose_27 : decode cX10_findWhose 27 = .ok (.if_icmp .ne 7, 3) := by decide +kernel
theorem dX10_findWhose_30 : decode cX10_findWhose 30 = .ok (.iconst 0, 1) := by decide +kernel
theorem dX10_findWhose_31 : decode cX10_findWhose 31 = .ok (.goto 9, 3) := by decide +kernel
theorem dX10_findWhose_34 : decode cX10_findWhose 34 = .ok (.aload_n 0, 1) := by decide +kernel
theorem dX10_findWhose_35 : decode cX10_findWhose 35 = .ok (.getfield 55, 3) := by decide +kernel
theorem dX10_findWhose_38 : decode cX10_findWhose 38 = .ok (.iload_n 1, 1) := by decide +kernel
theorem dX10_findWhose_39 : decode cX10_findWhose 39 = .ok (.iaload, 1) := by decide +kernel
theorem dX10_findWhose_40 : decode cX10_findWhose 40 = .ok (.istore_n 2, 1) := by decide +kernel
theorem dX10_findWhose_41 : decode cX10_findWhose 41 = .ok (.aload_n 0, 1) := by decide +kernel
theorem dX10_findWhose_42 : decode cX10_findWhose 42 = .ok (.getfield 55, 3) := by decide +kernel
theorem dX10_findWhose_45 : decode cX10_findWhose 45 = .ok (.iload_n 1, 1) := by decide +kernel
theorem dX10_findWhose_46 : decode cX10_findWhose 46 = .ok (.iaload, 1) := by decide +kernel
theorem dX10_findWhose_47 : decode cX10_findWhose 47 = .ok (.sipush 600, 3) := by decide +kernel
theorem dX10_findWhose_50 : decode cX10_findWhose 50 = .ok (.if_icmp .ne 9, 3) := by decide +kernel
theorem dX10_findWhose_53 : decode cX10_findWhose 53 = .ok (.sipush 599, 3) := by decide +kernel
theorem dX10_findWhose_56 : decode cX10_findWhose 56 = .ok (.goto 9, 3) := by decide +kernel
theorem dX10_findWhose_59 : decode cX10_findWhose 59 = .ok (.aload_n 0, 1) := by decide +kernel
theorem dX10_findWhose_60 : decode cX10_findWhose 60 = .ok (.getfield 55, 3) := by decide +kernel
theorem dX10_findWhose_63 : decode cX10_findWhose 63 = .ok (.iload_n 1, 1) := by decide +kernel
theorem dX10_findWhose_64 : decode cX10_findWhose 64 = .ok (.iaload, 1) := by decide +kernel
theorem dX10_findWhose_65 : decode cX10_findWhose 65 = .ok (.istore_n 3, 1) := by decide +kernel
theorem dX10_findWhose_66 : decode cX10_findWhose 66 = .ok (.iload_n 2, 1) := by decide +kernel
theorem dX10_findWhose_67 : decode cX10_findWhose 67 = .ok (.istore 4, 2) := by decide +kernel
theorem dX10_findWhose_69 : decode cX10_findWhose 69 = .ok (.iload 4, 2) := by decide +kernel
theorem dX10_findWhose_71 : decode cX10_findWhose 71 = .ok (.iload_n 3, 1) := by decide +kernel
theorem dX10_findWhose_72 : decode cX10_findWhose 72 = .ok (.if_icmp .gt 92, 3) := by decide +kernel
theorem dX10_findWhose_75 : decode cX10_findWhose 75 = .ok (.iconst 0, 1) := by decide +kernel
theorem dX10_findWhose_76 : decode cX10_findWhose 76 = .ok (.istore 5, 2) := by decide +kernel
theorem dX10_findWhose_78 : decode cX10_findWhose 78 = .ok (.iload 5, 2) := by decide +kernel
theorem dX10_findWhose_80 : decode cX10_findWhose 80 = .ok (.aload_n 0, 1) := by decide +kernel
theorem dX10_findWhose_81 : decode cX10_findWhose 81 = .ok (.getfield 107, 3) := by decide +kernel
theorem dX10_findWhose_84 : decode cX10_findWhose 84 = .ok (.if_icmp .ge 74, 3) := by decide +kernel
theorem dX10_findWhose_87 : decode cX10_findWhose 87 = .ok (.aload_n 0, 1) := by decide +kernel
theorem dX10_findWhose_88 : decode cX10_findWhose 88 = .ok (.iload_n 1, 1) := by decide +kernel
theorem dX10_findWhose_89 : decode cX10_findWhose 89 = .ok (.iload 5, 2) := by decide +kernel
theorem dX10_findWhose_91 : decode cX10_findWhose 91 = .ok (.invokevirtual 292, 3) := by decide +kernel
theorem dX10_findWhose_94 : decode cX10_findWhose 94 = .ok (.ifCond .eq 15, 3) := by decide +kernel
theorem dX10_findWhose_97 : decode cX10_findWhose 97 = .ok (.aload_n 0, 1) := by decide +kernel
theorem dX10_findWhose_98 : decode cX10_findWhose 98 = .ok (.iload_n 1, 1) := by decide +kernel
theorem dX10_findWhose_99 : decode cX10_findWhose 99 = .ok (.iload 5, 2) := by decide +kernel
theorem dX10_findWhose_101 : decode cX10_findWhose 101 = .ok (.iload 4, 2) := by decide +kernel
theorem dX10_findWhose_103 : decode cX10_findWhose 103 = .ok (.invokevirtual 296, 3) := by decide +kernel
theorem dX10_findWhose_106 : decode cX10_findWhose 106 = .ok (.goto 5, 3) := by decide +kernel
theorem dX10_findWhose_109 : decode cX10_findWhose 109 = .ok (.bipush (-2), 2) := by decide +kernel
theorem dX10_findWhose_111 : decode cX10_findWhose 111 = .ok (.istore 6, 2) := by decide +kernel
theorem dX10_findWhose_113 : decode cX10_findWhose 113 = .ok (.iload 6, 2) := by decide +kernel
theorem dX10_findWhose_115 : decode cX10_findWhose 115 = .ok (.ifCond .lt 37, 3) := by decide +kernel
theorem dX10_findWhose_118 : decode cX10_findWhose 118 = .ok (.aload_n 0, 1) := by decide +kernel
theorem dX10_findWhose_119 : decode cX10_findWhose 119 = .ok (.getfield 283, 3) := by decide +kernel
theorem dX10_findWhose_122 : decode cX10_findWhose 122 = .ok (.ifCond .lt 12, 3) := by decide +kernel
theorem dX10_findWhose_125 : decode cX10_findWhose 125 = .ok (.iload 6, 2) := by decide +kernel
theorem dX10_findWhose_127 : decode cX10_findWhose 127 = .ok (.aload_n 0, 1) := by decide +kernel
theorem dX10_findWhose_128 : decode cX10_findWhose 128 = .ok (.getfield 289, 3) := by decide +kernel
theorem dX10_findWhose_131 : decode cX10_findWhose 131 = .ok (.if_icmp .ge 21, 3) := by decide +kernel
theorem dX10_findWhose_134 : decode cX10_findWhose 134 = .ok (.aload_n 0, 1) := by decide +kernel
theorem dX10_findWhose_135 : decode cX10_findWhose 135 = .ok (.iload 5, 2) := by decide +kernel
theorem dX10_findWhose_137 : decode cX10_findWhose 137 = .ok (.putfield 283, 3) := by decide +kernel
theorem dX10_findWhose_140 : decode cX10_findWhose 140 = .ok (.aload_n 0, 1) := by decide +kernel
theorem dX10_findWhose_141 : decode cX10_findWhose 141 = .ok (.iload 4, 2) := by decide +kernel
theorem dX10_findWhose_143 : decode cX10_findWhose 143 = .ok (.putfield 286, 3) := by decide +kernel
theorem dX10_findWhose_146 : decode cX10_findWhose 146 = .ok (.aload_n 0, 1) := by decide +kernel
theorem dX10_findWhose_147 : decode cX10_findWhose 147 = .ok (.iload 6, 2) := by decide +kernel
theorem dX10_findWhose_149 : decode cX10_findWhose 149 = .ok (.putfield 289, 3) := by decide +kernel
theorem dX10_findWhose_152 : decode cX10_findWhose 152 = .ok (.iinc 5 1, 3) := by decide +kernel
theorem dX10_findWhose_155 : decode cX10_findWhose 155 = .ok (.goto (-77), 3) := by decide +kernel
theorem dX10_findWhose_158 : decode cX10_findWhose 158 = .ok (.iinc 4 1, 3) := by decide +kernel
theorem dX10_findWhose_161 : decode cX10_findWhose 161 = .ok (.goto (-92), 3) := by decide +kernel
theorem dX10_findWhose_164 : decode cX10_findWhose 164 = .ok (.return_, 1) := by decide +kernel
theorem dX10_whose_0 : decode cX10_whose 0 = .ok (.aload_n 0, 1) := by decide +kernel
theorem dX10_whose_1 : decode cX10_whose 1 = .ok (.iload_n 1, 1) := by decide +kernel
theorem dX10_whose_2 : decode cX10_whose 2 = .ok (.invokevirtual 253, 3) := by decide +kernel
theorem dX10_whose_5 : decode cX10_whose 5 = .ok (.ifCond .eq 15, 3) := by decide +kernel
theorem dX10_whose_8 : decode cX10_whose 8 = .ok (.iload_n 2, 1) := by decide +kernel
theorem dX10_whose_9 : decode cX10_whose 9 = .ok (.i2l, 1) := by decide +kernel
theorem dX10_whose_10 : decode cX10_whose 10 = .ok (.lconst 0, 1) := by decide +kernel
theorem dX10_whose_11 : decode cX10_whose 11 = .ok (.ldc2_w 300, 3) := by decide +kernel
theorem dX10_whose_14 : decode cX10_whose 14 = .ok (.invokestatic 110, 3) := by decide +kernel
theorem dX10_whose_17 : decode cX10_whose 17 = .ok (.ifCond .ne 5, 3) := by decide +kernel
theorem dX10_whose_20 : decode cX10_whose 20 = .ok (.iconst (-1), 1) := by decide +kernel
theorem dX10_whose_21 : decode cX10_whose 21 = .ok (.ireturn, 1) := by decide +kernel
theorem dX10_whose_22 : decode cX10_whose 22 = .ok (.aload_n 0, 1) := by decide +kernel
theorem dX10_whose_23 : decode cX10_whose 23 = .ok (.iload_n 1, 1) := by decide +kernel
theorem dX10_whose_24 : decode cX10_whose 24 = .ok (.invokevirtual 302, 3) := by decide +kernel
theorem dX10_whose_27 : decode cX10_whose 27 = .ok (.iload_n 2, 1) := by decide +kernel
theorem dX10_whose_28 : decode cX10_whose 28 = .ok (.ifCond .ne 10, 3) := by decide +kernel
theorem dX10_whose_31 : decode cX10_whose 31 = .ok (.aload_n 0, 1) := by decide +kernel
theorem dX10_whose_32 : decode cX10_whose 32 = .ok (.getfield 283, 3) := by decide +kernel
theorem dX10_whose_35 : decode cX10_whose 35 = .ok (.goto 19, 3) := by decide +kernel
theorem dX10_whose_38 : decode cX10_whose 38 = .ok (.iload_n 2, 1) := by decide +kernel
theorem dX10_whose_39 : decode cX10_whose 39 = .ok (.iconst 1, 1) := by decide +kernel
theorem dX10_whose_40 : decode cX10_whose 40 = .ok (.if_icmp .ne 10, 3) := by decide +kernel
theorem dX10_whose_43 : decode cX10_whose 43 = .ok (.aload_n 0, 1) := by decide +kernel
theorem dX10_whose_44 : decode cX10_whose 44 = .ok (.getfield 286, 3) := by decide +kernel
theorem dX10_whose_47 : decode cX10_whose 47 = .ok (.goto 7, 3) := by decide +kernel
theorem dX10_whose_50 : decode cX10_whose 50 = .ok (.aload_n 0, 1) := by decide +kernel
theorem dX10_whose_51 : decode cX10_whose 51 = .ok (.getfield 289, 3) := by decide +kernel
theorem dX10_whose_54 : decode cX10_whose 54 = .ok (.ireturn, 1) := by decide +kernel
theorem dX10_odds_0 : decode cX10_odds 0 = .ok (.aload_n 0, 1) := by decide +kernel
theorem dX10_odds_1 : decode cX10_odds 1 = .ok (.iload_n 1, 1) := by decide +kernel
theorem dX10_odds_2 : decode cX10_odds 2 = .ok (.invokevirtual 280, 3) := by decide +kernel
theorem dX10_odds_5 : decode cX10_odds 5 = .ok (.ifCond .ne 5, 3) := by decide +kernel
theorem dX10_odds_8 : decode cX10_odds 8 = .ok (.iconst (-1), 1) := by decide +kernel
theorem dX10_odds_9 : decode cX10_odds 9 = .ok (.ireturn, 1) := by decide +kernel
theorem dX10_odds_10 : decode cX10_odds 10 = .ok (.iload_n 1, 1) := by decide +kernel
theorem dX10_odds_11 : decode cX10_odds 11 = .ok (.bipush 10, 2) := by decide +kernel
theorem dX10_odds_13 : decode cX10_odds 13 = .ok (.idiv, 1) := by decide +kernel
theorem dX10_odds_14 : decode cX10_odds 14 = .ok (.istore_n 2, 1) := by decide +kernel
theorem dX10_odds_15 : decode cX10_odds 15 = .ok (.aload_n 0, 1) := by decide +kernel
theorem dX10_odds_16 : decode cX10_odds 16 = .ok (.getfield 55, 3) := by decide +kernel
theorem dX10_odds_19 : decode cX10_odds 19 = .ok (.iload_n 2, 1) := by decide +kernel
theorem dX10_odds_20 : decode cX10_odds 20 = .ok (.iaload, 1) := by decide +kernel
theorem dX10_odds_21 : decode cX10_odds 21 = .ok (.sipush 600, 3) := by decide +kernel
theorem dX10_odds_24 : decode cX10_odds 24 = .ok (.if_icmp .ne 6, 3) := by decide +kernel
theorem dX10_odds_27 : decode cX10_odds 27 = .ok (.bipush (-2), 2) := by decide +kernel
theorem dX10_odds_29 : decode cX10_odds 29 = .ok (.ireturn, 1) := by decide +kernel
theorem dX10_odds_30 : decode cX10_odds 30 = .ok (.iconst 0, 1) := by decide +kernel
theorem dX10_odds_31 : decode cX10_odds 31 = .ok (.istore_n 3, 1) := by decide +kernel
theorem dX10_odds_32 : decode cX10_odds 32 = .ok (.iconst 0, 1) := by decide +kernel
theorem dX10_odds_33 : decode cX10_odds 33 = .ok (.istore 4, 2) := by decide +kernel
theorem dX10_odds_35 : decode cX10_odds 35 = .ok (.iconst 0, 1) := by decide +kernel
theorem dX10_odds_36 : decode cX10_odds 36 = .ok (.istore 5, 2) := by decide +kernel
theorem dX10_odds_38 : decode cX10_odds 38 = .ok (.iload 5, 2) := by decide +kernel
theorem dX10_odds_40 : decode cX10_odds 40 = .ok (.aload_n 0, 1) := by decide +kernel
theorem dX10_odds_41 : decode cX10_odds 41 = .ok (.getfield 107, 3) := by decide +kernel
theorem dX10_odds_44 : decode cX10_odds 44 = .ok (.if_icmp .ge 81, 3) := by decide +kernel
theorem dX10_odds_47 : decode cX10_odds 47 = .ok (.aload_n 0, 1) := by decide +kernel
theorem dX10_odds_48 : decode cX10_odds 48 = .ok (.iload_n 2, 1) := by decide +kernel
theorem dX10_odds_49 : decode cX10_odds 49 = .ok (.iload 5, 2) := by decide +kernel
theorem dX10_odds_51 : decode cX10_odds 51 = .ok (.invokevirtual 292, 3) := by decide +kernel
theorem dX10_odds_54 : decode cX10_odds 54 = .ok (.ifCond .eq 19, 3) := by decide +kernel
theorem dX10_odds_57 : decode cX10_odds 57 = .ok (.aload_n 0, 1) := by decide +kernel
theorem dX10_odds_58 : decode cX10_odds 58 = .ok (.iload_n 2, 1) := by decide +kernel
theorem dX10_odds_59 : decode cX10_odds 59 = .ok (.iload 5, 2) := by decide +kernel
theorem dX10_odds_61 : decode cX10_odds 61 = .ok (.aload_n 0, 1) := by decide +kernel
theorem dX10_odds_62 : decode cX10_odds 62 = .ok (.getfield 55, 3) := by decide +kernel
theorem dX10_odds_65 : decode cX10_odds 65 = .ok (.iload_n 2, 1) := by decide +kernel
theorem dX10_odds_66 : decode cX10_odds 66 = .ok (.iaload, 1) := by decide +kernel
theorem dX10_odds_67 : decode cX10_odds 67 = .ok (.invokevirtual 296, 3) := by decide +kernel
theorem dX10_odds_70 : decode cX10_odds 70 = .ok (.goto 5, 3) := by decide +kernel
theorem dX10_odds_73 : decode cX10_odds 73 = .ok (.bipush (-2), 2) := by decide +kernel
theorem dX10_odds_75 : decode cX10_odds 75 = .ok (.istore 6, 2) := by decide +kernel
theorem dX10_odds_77 : decode cX10_odds 77 = .ok (.iload 6, 2) := by decide +kernel
theorem dX10_odds_79 : decode cX10_odds 79 = .ok (.ifCond .ge 7, 3) := by decide +kernel
theorem dX10_odds_82 : decode cX10_odds 82 = .ok (.iconst 0, 1) := by decide +kernel
theorem dX10_odds_83 : decode cX10_odds 83 = .ok (.goto 11, 3) := by decide +kernel
theorem dX10_odds_86 : decode cX10_odds 86 = .ok (.sipush 10000, 3) := by decide +kernel
theorem dX10_odds_89 : decode cX10_odds 89 = .ok (.iconst 1, 1) := by decide +kernel
theorem dX10_odds_90 : decode cX10_odds 90 = .ok (.iload 6, 2) := by decide +kernel
theorem dX10_odds_92 : decode cX10_odds 92 = .ok (.iadd, 1) := by decide +kernel
theorem dX10_odds_93 : decode cX10_odds 93 = .ok (.idiv, 1) := by decide +kernel
theorem dX10_odds_94 : decode cX10_odds 94 = .ok (.istore 7, 2) := by decide +kernel
theorem dX10_odds_96 : decode cX10_odds 96 = .ok (.iload_n 3, 1) := by decide +kernel
theorem dX10_odds_97 : decode cX10_odds 97 = .ok (.iload 7, 2) := by decide +kernel
theorem dX10_odds_99 : decode cX10_odds 99 = .ok (.iadd, 1) := by decide +kernel
theorem dX10_odds_100 : decode cX10_odds 100 = .ok (.istore_n 3, 1) := by decide +kernel
theorem dX10_odds_101 : decode cX10_odds 101 = .ok (.iload 5, 2) := by decide +kernel
theorem dX10_odds_103 : decode cX10_odds 103 = .ok (.iload_n 1, 1) := by decide +kernel
theorem dX10_odds_104 : decode cX10_odds 104 = .ok (.bipush 10, 2) := by decide +kernel
theorem dX10_odds_106 : decode cX10_odds 106 = .ok (.irem, 1) := by decide +kernel
theorem dX10_odds_107 : decode cX10_odds 107 = .ok (.if_icmp .ne 8, 3) := by decide +kernel
theorem dX10_odds_110 : decode cX10_odds 110 = .ok (.iload 7, 2) := by decide +kernel
theorem dX10_odds_112 : decode cX10_odds 112 = .ok (.goto 5, 3) := by decide +kernel
theorem dX10_odds_115 : decode cX10_odds 115 = .ok (.iload 4, 2) := by decide +kernel
theorem dX10_odds_117 : decode cX10_odds 117 = .ok (.istore 4, 2) := by decide +kernel
theorem dX10_odds_119 : decode cX10_odds 119 = .ok (.iinc 5 1, 3) := by decide +kernel
theorem dX10_odds_122 : decode cX10_odds 122 = .ok (.goto (-84), 3) := by decide +kernel
theorem dX10_odds_125 : decode cX10_odds 125 = .ok (.iload_n 3, 1) := by decide +kernel
theorem dX10_odds_126 : decode cX10_odds 126 = .ok (.ifCond .ne 8, 3) := by decide +kernel
theorem dX10_odds_129 : decode cX10_odds 129 = .ok (.bipush (-2), 2) := by decide +kernel
theorem dX10_odds_131 : decode cX10_odds 131 = .ok (.goto 11, 3) := by decide +kernel
theorem dX10_odds_134 : decode cX10_odds 134 = .ok (.sipush 1000, 3) := by decide +kernel
theorem dX10_odds_137 : decode cX10_odds 137 = .ok (.iload 4, 2) := by decide +kernel
theorem dX10_odds_139 : decode cX10_odds 139 = .ok (.imul, 1) := by decide +kernel
theorem dX10_odds_140 : decode cX10_odds 140 = .ok (.iload_n 3, 1) := by decide +kernel
theorem dX10_odds_141 : decode cX10_odds 141 = .ok (.idiv, 1) := by decide +kernel
theorem dX10_odds_142 : decode cX10_odds 142 = .ok (.ireturn, 1) := by decide +kernel
theorem dX10_how_0 : decode cX10_how 0 = .ok (.aload_n 0, 1) := by decide +kernel
theorem dX10_how_1 : decode cX10_how 1 = .ok (.iload_n 1, 1) := by decide +kernel
theorem dX10_how_2 : decode cX10_how 2 = .ok (.invokevirtual 253, 3) := by decide +kernel
theorem dX10_how_5 : decode cX10_how 5 = .ok (.ifCond .eq 13, 3) := by decide +kernel
theorem dX10_how_8 : decode cX10_how 8 = .ok (.iload_n 2, 1) := by decide +kernel
theorem dX10_how_9 : decode cX10_how 9 = .ok (.i2l, 1) := by decide +kernel
theorem dX10_how_10 : decode cX10_how 10 = .ok (.lconst 0, 1) := by decide +kernel
theorem dX10_how_11 : decode cX10_how 11 = .ok (.lconst 1, 1) := by decide +kernel
theorem dX10_how_12 : decode cX10_how 12 = .ok (.invokestatic 110, 3) := by decide +kernel
theorem dX10_how_15 : decode cX10_how 15 = .ok (.ifCond .ne 5, 3) := by decide +kernel
theorem dX10_how_18 : decode cX10_how 18 = .ok (.iconst (-1), 1) := by decide +kernel
theorem dX10_how_19 : decode cX10_how 19 = .ok (.ireturn, 1) := by decide +kernel
theorem dX10_how_20 : decode cX10_how 20 = .ok (.aload_n 0, 1) := by decide +kernel
theorem dX10_how_21 : decode cX10_how 21 = .ok (.iload_n 1, 1) := by decide +kernel
theorem dX10_how_22 : decode cX10_how 22 = .ok (.invokevirtual 302, 3) := by decide +kernel
theorem dX10_how_25 : decode cX10_how 25 = .ok (.aload_n 0, 1) := by decide +kernel
theorem dX10_how_26 : decode cX10_how 26 = .ok (.getfield 283, 3) := by decide +kernel
theorem dX10_how_29 : decode cX10_how 29 = .ok (.ifCond .ge 6, 3) := by decide +kernel
theorem dX10_how_32 : decode cX10_how 32 = .ok (.bipush (-2), 2) := by decide +kernel
theorem dX10_how_34 : decode cX10_how 34 = .ok (.ireturn, 1) := by decide +kernel
theorem dX10_how_35 : decode cX10_how 35 = .ok (.iconst 0, 1) := by decide +kernel
theorem dX10_how_36 : decode cX10_how 36 = .ok (.istore_n 3, 1) := by decide +kernel
theorem dX10_how_37 : decode cX10_how 37 = .ok (.iconst 1, 1) := by decide +kernel
theorem dX10_how_38 : decode cX10_how 38 = .ok (.istore 4, 2) := by decide +kernel
theorem dX10_how_40 : decode cX10_how 40 = .ok (.iload 4, 2) := by decide +kernel
theorem dX10_how_42 : decode cX10_how 42 = .ok (.iconst 5, 1) := by decide +kernel
theorem dX10_how_43 : decode cX10_how 43 = .ok (.if_icmp .ge 64, 3) := by decide +kernel
theorem dX10_how_46 : decode cX10_how 46 = .ok (.aload_n 0, 1) := by decide +kernel
theorem dX10_how_47 : decode cX10_how 47 = .ok (.aload_n 0, 1) := by decide +kernel
theorem dX10_how_48 : decode cX10_how 48 = .ok (.getfield 9, 3) := by decide +kernel
theorem dX10_how_51 : decode cX10_how 51 = .ok (.bipush 12, 2) := by decide +kernel
theorem dX10_how_53 : decode cX10_how 53 = .ok (.iload_n 1, 1) := by decide +kernel
theorem dX10_how_54 : decode cX10_how 54 = .ok (.iadd, 1) := by decide +kernel
theorem dX10_how_55 : decode cX10_how 55 = .ok (.iaload, 1) := by decide +kernel
theorem dX10_how_56 : decode cX10_how 56 = .ok (.aload_n 0, 1) := by decide +kernel
theorem dX10_how_57 : decode cX10_how 57 = .ok (.getfield 283, 3) := by decide +kernel
theorem dX10_how_60 : decode cX10_how 60 = .ok (.aload_n 0, 1) := by decide +kernel
theorem dX10_how_61 : decode cX10_how 61 = .ok (.getfield 286, 3) := by decide +kernel
theorem dX10_how_64 : decode cX10_how 64 = .ok (.iload 4, 2) := by decide +kernel
theorem dX10_how_66 : decode cX10_how 66 = .ok (.invokevirtual 276, 3) := by decide +kernel
theorem dX10_how_69 : decode cX10_how 69 = .ok (.aload_n 0, 1) := by decide +kernel
theorem dX10_how_70 : decode cX10_how 70 = .ok (.aload_n 0, 1) := by decide +kernel
theorem dX10_how_71 : decode cX10_how 71 = .ok (.getfield 9, 3) := by decide +kernel
theorem dX10_how_74 : decode cX10_how 74 = .ok (.bipush 12, 2) := by decide +kernel
theorem dX10_how_76 : decode cX10_how 76 = .ok (.iload_n 1, 1) := by decide +kernel
theorem dX10_how_77 : decode cX10_how 77 = .ok (.iadd, 1) := by decide +kernel
theorem dX10_how_78 : decode cX10_how 78 = .ok (.iaload, 1) := by decide +kernel
theorem dX10_how_79 : decode cX10_how 79 = .ok (.aload_n 0, 1) := by decide +kernel
theorem dX10_how_80 : decode cX10_how 80 = .ok (.getfield 283, 3) := by decide +kernel
theorem dX10_how_83 : decode cX10_how 83 = .ok (.aload_n 0, 1) := by decide +kernel
theorem dX10_how_84 : decode cX10_how 84 = .ok (.getfield 286, 3) := by decide +kernel
theorem dX10_how_87 : decode cX10_how 87 = .ok (.iload_n 3, 1) := by decide +kernel
theorem dX10_how_88 : decode cX10_how 88 = .ok (.invokevirtual 276, 3) := by decide +kernel
theorem dX10_how_91 : decode cX10_how 91 = .ok (.if_icmp .ge 8, 3) := by decide +kernel
theorem dX10_how_94 : decode cX10_how 94 = .ok (.iload 4, 2) := by decide +kernel
theorem dX10_how_96 : decode cX10_how 96 = .ok (.goto 4, 3) := by decide +kernel
theorem dX10_how_99 : decode cX10_how 99 = .ok (.iload_n 3, 1) := by decide +kernel
theorem dX10_how_100 : decode cX10_how 100 = .ok (.istore_n 3, 1) := by decide +kernel
theorem dX10_how_101 : decode cX10_how 101 = .ok (.iinc 4 1, 3) := by decide +kernel
theorem dX10_how_104 : decode cX10_how 104 = .ok (.goto (-64), 3) := by decide +kernel
theorem dX10_how_107 : decode cX10_how 107 = .ok (.aload_n 0, 1) := by decide +kernel
theorem dX10_how_108 : decode cX10_how 108 = .ok (.aload_n 0, 1) := by decide +kernel
theorem dX10_how_109 : decode cX10_how 109 = .ok (.getfield 9, 3) := by decide +kernel
theorem dX10_how_112 : decode cX10_how 112 = .ok (.bipush 12, 2) := by decide +kernel
theorem dX10_how_114 : decode cX10_how 114 = .ok (.iload_n 1, 1) := by decide +kernel
theorem dX10_how_115 : decode cX10_how 115 = .ok (.iadd, 1) := by decide +kernel
theorem dX10_how_116 : decode cX10_how 116 = .ok (.iaload, 1) := by decide +kernel
theorem dX10_how_117 : decode cX10_how 117 = .ok (.aload_n 0, 1) := by decide +kernel
theorem dX10_how_118 : decode cX10_how 118 = .ok (.getfield 283, 3) := by decide +kernel
theorem dX10_how_121 : decode cX10_how 121 = .ok (.aload_n 0, 1) := by decide +kernel
theorem dX10_how_122 : decode cX10_how 122 = .ok (.getfield 286, 3) := by decide +kernel
theorem dX10_how_125 : decode cX10_how 125 = .ok (.iload_n 3, 1) := by decide +kernel
theorem dX10_how_126 : decode cX10_how 126 = .ok (.invokevirtual 276, 3) := by decide +kernel
theorem dX10_how_129 : decode cX10_how 129 = .ok (.istore 4, 2) := by decide +kernel
theorem dX10_how_131 : decode cX10_how 131 = .ok (.iload_n 2, 1) := by decide +kernel
theorem dX10_how_132 : decode cX10_how 132 = .ok (.ifCond .ne 7, 3) := by decide +kernel
theorem dX10_how_135 : decode cX10_how 135 = .ok (.iload_n 3, 1) := by decide +kernel
theorem dX10_how_136 : decode cX10_how 136 = .ok (.goto 20, 3) := by decide +kernel
theorem dX10_how_139 : decode cX10_how 139 = .ok (.aload_n 0, 1) := by decide +kernel
theorem dX10_how_140 : decode cX10_how 140 = .ok (.getfield 289, 3) := by decide +kernel
theorem dX10_how_143 : decode cX10_how 143 = .ok (.iload 4, 2) := by decide +kernel
theorem dX10_how_145 : decode cX10_how 145 = .ok (.isub, 1) := by decide +kernel
theorem dX10_how_146 : decode cX10_how 146 = .ok (.bipush 32, 2) := by decide +kernel
theorem dX10_how_148 : decode cX10_how 148 = .ok (.if_icmp .lt 7, 3) := by decide +kernel
theorem dX10_how_151 : decode cX10_how 151 = .ok (.iconst 1, 1) := by decide +kernel
theorem dX10_how_152 : decode cX10_how 152 = .ok (.goto 4, 3) := by decide +kernel
theorem dX10_how_155 : decode cX10_how 155 = .ok (.iconst 0, 1) := by decide +kernel
theorem dX10_how_156 : decode cX10_how 156 = .ok (.ireturn, 1) := by decide +kernel
theorem dX10_goesTogether_0 : decode cX10_goesTogether 0 = .ok (.aload_n 0, 1) := by decide +kernel
theorem dX10_goesTogether_1 : decode cX10_goesTogether 1 = .ok (.getfield 306, 3) := by decide +kernel
theorem dX10_goesTogether_4 : decode cX10_goesTogether 4 = .ok (.ifCond .lt 13, 3) := by decide +kernel
theorem dX10_goesTogether_7 : decode cX10_goesTogether 7 = .ok (.iload 5, 2) := by decide +kernel
theorem dX10_goesTogether_9 : decode cX10_goesTogether 9 = .ok (.aload_n 0, 1) := by decide +kernel
theorem dX10_goesTogether_10 : decode cX10_goesTogether 10 = .ok (.getfield 306, 3) := by decide +kernel
theorem dX10_goesTogether_13 : decode cX10_goesTogether 13 = .ok (.if_icmp .lt 4, 3) := by decide +kernel
theorem dX10_goesTogether_16 : decode cX10_goesTogether 16 = .ok (.return_, 1) := by decide +kernel
theorem dX10_goesTogether_17 : decode cX10_goesTogether 17 = .ok (.iload_n 3, 1) := by decide +kernel
theorem dX10_goesTogether_18 : decode cX10_goesTogether 18 = .ok (.iload_n 2, 1) := by decide +kernel
theorem dX10_goesTogether_19 : decode cX10_goesTogether 19 = .ok (.if_icmp .ne 39, 3) := by decide +kernel
theorem dX10_goesTogether_22 : decode cX10_goesTogether 22 = .ok (.aload_n 0, 1) := by decide +kernel
theorem dX10_goesTogether_23 : decode cX10_goesTogether 23 = .ok (.iload 5, 2) := by decide +kernel
theorem dX10_goesTogether_25 : decode cX10_goesTogether 25 = .ok (.putfield 306, 3) := by decide +kernel
theorem dX10_goesTogether_28 : decode cX10_goesTogether 28 = .ok (.iconst 0, 1) := by decide +kernel
theorem dX10_goesTogether_29 : decode cX10_goesTogether 29 = .ok (.istore 6, 2) := by decide +kernel
theorem dX10_goesTogether_31 : decode cX10_goesTogether 31 = .ok (.iload 6, 2) := by decide +kernel
theorem dX10_goesTogether_33 : decode cX10_goesTogether 33 = .ok (.iload_n 2, 1) := by decide +kernel
theorem dX10_goesTogether_34 : decode cX10_goesTogether 34 = .ok (.if_icmp .ge 23, 3) := by decide +kernel
theorem dX10_goesTogether_37 : decode cX10_goesTogether 37 = .ok (.aload_n 0, 1) := by decide +kernel
theorem dX10_goesTogether_38 : decode cX10_goesTogether 38 = .ok (.getfield 68, 3) := by decide +kernel
theorem dX10_goesTogether_41 : decode cX10_goesTogether 41 = .ok (.iload 6, 2) := by decide +kernel
theorem dX10_goesTogether_43 : decode cX10_goesTogether 43 = .ok (.aload_n 0, 1) := by decide +kernel
theorem dX10_goesTogether_44 : decode cX10_goesTogether 44 = .ok (.getfield 65, 3) := by decide +kernel
theorem dX10_goesTogether_47 : decode cX10_goesTogether 47 = .ok (.iload 6, 2) := by decide +kernel
theorem dX10_goesTogether_49 : decode cX10_goesTogether 49 = .ok (.iaload, 1) := by decide +kernel
theorem dX10_goesTogether_50 : decode cX10_goesTogether 50 = .ok (.iastore, 1) := by decide +kernel
theorem dX10_goesTogether_51 : decode cX10_goesTogether 51 = .ok (.iinc 6 1, 3) := by decide +kernel
theorem dX10_goesTogether_54 : decode cX10_goesTogether 54 = .ok (.goto (-23), 3) := by decide +kernel
theorem dX10_goesTogether_57 : decode cX10_goesTogether 57 = .ok (.return_, 1) := by decide +kernel
theorem dX10_goesTogether_58 : decode cX10_goesTogether 58 = .ok (.iconst 0, 1) := by decide +kernel
theorem dX10_goesTogether_59 : decode cX10_goesTogether 59 = .ok (.istore 6, 2) := by decide +kernel
theorem dX10_goesTogether_61 : decode cX10_goesTogether 61 = .ok (.iload 6, 2) := by decide +kernel
theorem dX10_goesTogether_63 : decode cX10_goesTogether 63 = .ok (.aload_n 0, 1) := by decide +kernel
theorem dX10_goesTogether_64 : decode cX10_goesTogether 64 = .ok (.getfield 107, 3) := by decide +kernel
theorem dX10_goesTogether_67 : decode cX10_goesTogether 67 = .ok (.if_icmp .ge 70, 3) := by decide +kernel
theorem dX10_goesTogether_70 : decode cX10_goesTogether 70 = .ok (.iload 4, 2) := by decide +kernel
theorem dX10_goesTogether_72 : decode cX10_goesTogether 72 = .ok (.iload 6, 2) := by decide +kernel
theorem dX10_goesTogether_74 : decode cX10_goesTogether 74 = .ok (.ishr, 1) := by decide +kernel
theorem dX10_goesTogether_75 : decode cX10_goesTogether 75 = .ok (.iconst 1, 1) := by decide +kernel
theorem dX10_goesTogether_76 : decode cX10_goesTogether 76 = .ok (.iand, 1) := by decide +kernel
theorem dX10_goesTogether_77 : decode cX10_goesTogether 77 = .ok (.ifCond .ne 54, 3) := by decide +kernel
theorem dX10_goesTogether_80 : decode cX10_goesTogether 80 = .ok (.iload_n 1, 1) := by decide +kernel
theorem dX10_goesTogether_81 : decode cX10_goesTogether 81 = .ok (.aload_n 0, 1) := by decide +kernel
theorem dX10_goesTogether_82 : decode cX10_goesTogether 82 = .ok (.getfield 22, 3) := by decide +kernel
theorem dX10_goesTogether_85 : decode cX10_goesTogether 85 = .ok (.iload 6, 2) := by decide +kernel
theorem dX10_goesTogether_87 : decode cX10_goesTogether 87 = .ok (.iaload, 1) := by decide +kernel
theorem dX10_goesTogether_88 : decode cX10_goesTogether 88 = .ok (.if_icmp .lt 43, 3) := by decide +kernel
theorem dX10_goesTogether_91 : decode cX10_goesTogether 91 = .ok (.aload_n 0, 1) := by decide +kernel
theorem dX10_goesTogether_92 : decode cX10_goesTogether 92 = .ok (.getfield 65, 3) := by decide +kernel
theorem dX10_goesTogether_95 : decode cX10_goesTogether 95 = .ok (.iload_n 3, 1) := by decide +kernel
theorem dX10_goesTogether_96 : decode cX10_goesTogether 96 = .ok (.iload 6, 2) := by decide +kernel
theorem dX10_goesTogether_98 : decode cX10_goesTogether 98 = .ok (.iastore, 1) := by decide +kernel
theorem dX10_goesTogether_99 : decode cX10_goesTogether 99 = .ok (.aload_n 0, 1) := by decide +kernel
theorem dX10_goesTogether_100 : decode cX10_goesTogether 100 = .ok (.iload_n 1, 1) := by decide +kernel
theorem dX10_goesTogether_101 : decode cX10_goesTogether 101 = .ok (.iload_n 2, 1) := by decide +kernel
theorem dX10_goesTogether_102 : decode cX10_goesTogether 102 = .ok (.iload_n 3, 1) := by decide +kernel
theorem dX10_goesTogether_103 : decode cX10_goesTogether 103 = .ok (.iconst 1, 1) := by decide +kernel
theorem dX10_goesTogether_104 : decode cX10_goesTogether 104 = .ok (.iadd, 1) := by decide +kernel
theorem dX10_goesTogether_105 : decode cX10_goesTogether 105 = .ok (.iload 4, 2) := by decide +kernel
theorem dX10_goesTogether_107 : decode cX10_goesTogether 107 = .ok (.iconst 1, 1) := by decide +kernel
theorem dX10_goesTogether_108 : decode cX10_goesTogether 108 = .ok (.iload 6, 2) := by decide +kernel
theorem dX10_goesTogether_110 : decode cX10_goesTogether 110 = .ok (.ishl, 1) := by decide +kernel
theorem dX10_goesTogether_111 : decode cX10_goesTogether 111 = .ok (.ior, 1) := by decide +kernel
theorem dX10_goesTogether_112 : decode cX10_goesTogether 112 = .ok (.iload 5, 2) := by decide +kernel
theorem dX10_goesTogether_114 : decode cX10_goesTogether 114 = .ok (.aload_n 0, 1) := by decide +kernel
theorem dX10_goesTogether_115 : decode cX10_goesTogether 115 = .ok (.aload_n 0, 1) := by decide +kernel
theorem dX10_goesTogether_116 : decode cX10_goesTogether 116 = .ok (.getfield 62, 3) := by decide +kernel
theorem dX10_goesTogether_119 : decode cX10_goesTogether 119 = .ok (.iload_n 3, 1) := by decide +kernel
theorem dX10_goesTogether_120 : decode cX10_goesTogether 120 = .ok (.iaload, 1) := by decide +kernel
theorem dX10_goesTogether_121 : decode cX10_goesTogether 121 = .ok (.iload 6, 2) := by decide +kernel
theorem dX10_goesTogether_123 : decode cX10_goesTogether 123 = .ok (.iload_n 1, 1) := by decide +kernel
theorem dX10_goesTogether_124 : decode cX10_goesTogether 124 = .ok (.invokevirtual 296, 3) := by decide +kernel
theorem dX10_goesTogether_127 : decode cX10_goesTogether 127 = .ok (.iadd, 1) := by decide +kernel
theorem dX10_goesTogether_128 : decode cX10_goesTogether 128 = .ok (.invokevirtual 309, 3) := by decide +kernel
theorem dX10_goesTogether_131 : decode cX10_goesTogether 131 = .ok (.iinc 6 1, 3) := by decide +kernel
theorem dX10_goesTogether_134 : decode cX10_goesTogether 134 = .ok (.goto (-73), 3) := by decide +kernel
theorem dX10_goesTogether_137 : decode cX10_goesTogether 137 = .ok (.return_, 1) := by decide +kernel
theorem dX10_together_0 : decode cX10_together 0 = .ok (.iload_n 1, 1) := by decide +kernel
theorem dX10_together_1 : decode cX10_together 1 = .ok (.invokestatic 124, 3) := by decide +kernel
theorem dX10_together_4 : decode cX10_together 4 = .ok (.ifCond .eq 8, 3) := by decide +kernel
theorem dX10_together_7 : decode cX10_together 7 = .ok (.iload_n 2, 1) := by decide +kernel
theorem dX10_together_8 : decode cX10_together 8 = .ok (.iconst (-1), 1) := by decide +kernel
theorem dX10_together_9 : decode cX10_together 9 = .ok (.if_icmp .ge 5, 3) := by decide +kernel
theorem dX10_together_12 : decode cX10_together 12 = .ok (.iconst (-1), 1) := by decide +kernel
theorem dX10_together_13 : decode cX10_together 13 = .ok (.ireturn, 1) := by decide +kernel
theorem dX10_together_14 : decode cX10_together 14 = .ok (.iconst 0, 1) := by decide +kernel
theorem dX10_together_15 : decode cX10_together 15 = .ok (.istore_n 3, 1) := by decide +kernel
theorem dX10_together_16 : decode cX10_together 16 = .ok (.iconst 0, 1) := by decide +kernel
theorem dX10_together_17 : decode cX10_together 17 = .ok (.istore 4, 2) := by decide +kernel
theorem dX10_together_19 : decode cX10_together 19 = .ok (.iload 4, 2) := by decide +kernel
theorem dX10_together_21 : decode cX10_together 21 = .ok (.aload_n 0, 1) := by decide +kernel
theorem dX10_together_22 : decode cX10_together 22 = .ok (.getfield 226, 3) := by decide +kernel
theorem dX10_together_25 : decode cX10_together 25 = .ok (.if_icmp .ge 48, 3) := by decide +kernel
theorem dX10_together_28 : decode cX10_together 28 = .ok (.aload_n 0, 1) := by decide +kernel
theorem dX10_together_29 : decode cX10_together 29 = .ok (.getfield 55, 3) := by decide +kernel
theorem dX10_together_32 : decode cX10_together 32 = .ok (.iload 4, 2) := by decide +kernel
theorem dX10_together_34 : decode cX10_together 34 = .ok (.iaload, 1) := by decide +kernel
theorem dX10_together_35 : decode cX10_together 35 = .ok (.iload_n 1, 1) := by decide +kernel
theorem dX10_together_36 : decode cX10_together 36 = .ok (.if_icmp .ne 31, 3) := by decide +kernel
theorem dX10_together_39 : decode cX10_together 39 = .ok (.aload_n 0, 1) := by decide +kernel
theorem dX10_together_40 : decode cX10_together 40 = .ok (.getfield 52, 3) := by decide +kernel
theorem dX10_together_43 : decode cX10_together 43 = .ok (.iload 4, 2) := by decide +kernel
theorem dX10_together_45 : decode cX10_together 45 = .ok (.iaload, 1) := by decide +kernel
theorem dX10_together_46 : decode cX10_together 46 = .ok (.bipush 6, 2) := by decide +kernel
theorem dX10_together_48 : decode cX10_together 48 = .ok (.if_icmp .ne 19, 3) := by decide +kernel
theorem dX10_together_51 : decode cX10_together 51 = .ok (.iload_n 3, 1) := by decide +kernel
theorem dX10_together_52 : decode cX10_together 52 = .ok (.iconst 4, 1) := by decide +kernel
theorem dX10_together_53 : decode cX10_together 53 = .ok (.if_icmp .ge 14, 3) := by decide +kernel
theorem dX10_together_56 : decode cX10_together 56 = .ok (.aload_n 0, 1) := by decide +kernel
theorem dX10_together_57 : decode cX10_together 57 = .ok (.getfield 62, 3) := by decide +kernel
theorem dX10_together_60 : decode cX10_together 60 = .ok (.iload_n 3, 1) := by decide +kernel
theorem dX10_together_61 : decode cX10_together 61 = .ok (.iload 4, 2) := by decide +kernel
theorem dX10_together_63 : decode cX10_together 63 = .ok (.iastore, 1) := by decide +kernel
theorem dX10_together_64 : decode cX10_together 64 = .ok (.iinc 3 1, 3) := by decide +kernel
theorem dX10_together_67 : decode cX10_together 67 = .ok (.iinc 4 1, 3) := by decide +kernel
theorem dX10_together_70 : decode cX10_together 70 = .ok (.goto (-51), 3) := by decide +kernel
theorem dX10_together_73 : decode cX10_together 73 = .ok (.iload_n 2, 1) := by decide +kernel
theorem dX10_together_74 : decode cX10_together 74 = .ok (.iload_n 3, 1) := by decide +kernel
theorem dX10_together_75 : decode cX10_together 75 = .ok (.if_icmp .lt 5, 3) := by decide +kernel
theorem dX10_together_78 : decode cX10_together 78 = .ok (.iconst (-1), 1) := by decide +kernel
theorem dX10_together_79 : decode cX10_together 79 = .ok (.ireturn, 1) := by decide +kernel
theorem dX10_together_80 : decode cX10_together 80 = .ok (.aload_n 0, 1) := by decide +kernel
theorem dX10_together_81 : decode cX10_together 81 = .ok (.iconst (-1), 1) := by decide +kernel
theorem dX10_together_82 : decode cX10_together 82 = .ok (.putfield 306, 3) := by decide +kernel
theorem dX10_together_85 : decode cX10_together 85 = .ok (.aload_n 0, 1) := by decide +kernel
theorem dX10_together_86 : decode cX10_together 86 = .ok (.iload_n 1, 1) := by decide +kernel
theorem dX10_together_87 : decode cX10_together 87 = .ok (.iload_n 3, 1) := by decide +kernel
theorem dX10_together_88 : decode cX10_together 88 = .ok (.iconst 0, 1) := by decide +kernel
theorem dX10_together_89 : decode cX10_together 89 = .ok (.iconst 0, 1) := by decide +kernel
theorem dX10_together_90 : decode cX10_together 90 = .ok (.iconst 0, 1) := by decide +kernel
theorem dX10_together_91 : decode cX10_together 91 = .ok (.invokevirtual 309, 3) := by decide +kernel
theorem dX10_together_94 : decode cX10_together 94 = .ok (.aload_n 0, 1) := by decide +kernel
theorem dX10_together_95 : decode cX10_together 95 = .ok (.getfield 306, 3) := by decide +kernel
theorem dX10_together_98 : decode cX10_together 98 = .ok (.ifCond .ge 8, 3) := by decide +kernel
theorem dX10_together_101 : decode cX10_together 101 = .ok (.bipush (-2), 2) := by decide +kernel
theorem dX10_together_103 : decode cX10_together 103 = .ok (.goto 21, 3) := by decide +kernel
theorem dX10_together_106 : decode cX10_together 106 = .ok (.iload_n 2, 1) := by decide +kernel
theorem dX10_together_107 : decode cX10_together 107 = .ok (.iconst (-1), 1) := by decide +kernel
theorem dX10_together_108 : decode cX10_together 108 = .ok (.if_icmp .ne 10, 3) := by decide +kernel
theorem dX10_together_111 : decode cX10_together 111 = .ok (.aload_n 0, 1) := by decide +kernel
theorem dX10_together_112 : decode cX10_together 112 = .ok (.getfield 306, 3) := by decide +kernel
theorem dX10_together_115 : decode cX10_together 115 = .ok (.goto 9, 3) := by decide +kernel
theorem dX10_together_118 : decode cX10_together 118 = .ok (.aload_n 0, 1) := by decide +kernel
theorem dX10_together_119 : decode cX10_together 119 = .ok (.getfield 68, 3) := by decide +kernel
theorem dX10_together_122 : decode cX10_together 122 = .ok (.iload_n 2, 1) := by decide +kernel
theorem dX10_together_123 : decode cX10_together 123 = .ok (.iaload, 1) := by decide +kernel
theorem dX10_together_124 : decode cX10_together 124 = .ok (.ireturn, 1) := by decide +kernel
theorem dX10_isTurned_0 : decode cX10_isTurned 0 = .ok (.iconst 0, 1) := by decide +kernel
theorem dX10_isTurned_1 : decode cX10_isTurned 1 = .ok (.istore_n 2, 1) := by decide +kernel
theorem dX10_isTurned_2 : decode cX10_isTurned 2 = .ok (.iload_n 2, 1) := by decide +kernel
theorem dX10_isTurned_3 : decode cX10_isTurned 3 = .ok (.aload_n 0, 1) := by decide +kernel
theorem dX10_isTurned_4 : decode cX10_isTurned 4 = .ok (.getfield 226, 3) := by decide +kernel
theorem dX10_isTurned_7 : decode cX10_isTurned 7 = .ok (.if_icmp .ge 62, 3) := by decide +kernel
theorem dX10_isTurned_10 : decode cX10_isTurned 10 = .ok (.aload_n 0, 1) := by decide +kernel
theorem dX10_isTurned_11 : decode cX10_isTurned 11 = .ok (.getfield 52, 3) := by decide +kernel
theorem dX10_isTurned_14 : decode cX10_isTurned 14 = .ok (.iload_n 2, 1) := by decide +kernel
theorem dX10_isTurned_15 : decode cX10_isTurned 15 = .ok (.iaload, 1) := by decide +kernel
theorem dX10_isTurned_16 : decode cX10_isTurned 16 = .ok (.aload_n 0, 1) := by decide +kernel
theorem dX10_isTurned_17 : decode cX10_isTurned 17 = .ok (.getfield 52, 3) := by decide +kernel
theorem dX10_isTurned_20 : decode cX10_isTurned 20 = .ok (.iload_n 1, 1) := by decide +kernel
theorem dX10_isTurned_21 : decode cX10_isTurned 21 = .ok (.iaload, 1) := by decide +kernel
theorem dX10_isTurned_22 : decode cX10_isTurned 22 = .ok (.if_icmp .ne 41, 3) := by decide +kernel
theorem dX10_isTurned_25 : decode cX10_isTurned 25 = .ok (.aload_n 0, 1) := by decide +kernel
theorem dX10_isTurned_26 : decode cX10_isTurned 26 = .ok (.getfield 55, 3) := by decide +kernel
theorem dX10_isTurned_29 : decode cX10_isTurned 29 = .ok (.iload_n 2, 1) := by decide +kernel
theorem dX10_isTurned_30 : decode cX10_isTurned 30 = .ok (.iaload, 1) := by decide +kernel
theorem dX10_isTurned_31 : decode cX10_isTurned 31 = .ok (.aload_n 0, 1) := by decide +kernel
theorem dX10_isTurned_32 : decode cX10_isTurned 32 = .ok (.getfield 55, 3) := by decide +kernel
theorem dX10_isTurned_35 : decode cX10_isTurned 35 = .ok (.iload_n 1, 1) := by decide +kernel
theorem dX10_isTurned_36 : decode cX10_isTurned 36 = .ok (.iaload, 1) := by decide +kernel
theorem dX10_isTurned_37 : decode cX10_isTurned 37 = .ok (.if_icmp .ge 26, 3) := by decide +kernel
theorem dX10_isTurned_40 : decode cX10_isTurned 40 = .ok (.aload_n 0, 1) := by decide +kernel
theorem dX10_isTurned_41 : decode cX10_isTurned 41 = .ok (.getfield 9, 3) := by decide +kernel
theorem dX10_isTurned_44 : decode cX10_isTurned 44 = .ok (.bipush 12, 2) := by decide +kernel
theorem dX10_isTurned_46 : decode cX10_isTurned 46 = .ok (.iload_n 1, 1) := by decide +kernel
theorem dX10_isTurned_47 : decode cX10_isTurned 47 = .ok (.iadd, 1) := by decide +kernel
theorem dX10_isTurned_48 : decode cX10_isTurned 48 = .ok (.iaload, 1) := by decide +kernel
theorem dX10_isTurned_49 : decode cX10_isTurned 49 = .ok (.aload_n 0, 1) := by decide +kernel
theorem dX10_isTurned_50 : decode cX10_isTurned 50 = .ok (.getfield 9, 3) := by decide +kernel
theorem dX10_isTurned_53 : decode cX10_isTurned 53 = .ok (.bipush 12, 2) := by decide +kernel
theorem dX10_isTurned_55 : decode cX10_isTurned 55 = .ok (.iload_n 2, 1) := by decide +kernel
theorem dX10_isTurned_56 : decode cX10_isTurned 56 = .ok (.iadd, 1) := by decide +kernel
theorem dX10_isTurned_57 : decode cX10_isTurned 57 = .ok (.iaload, 1) := by decide +kernel
theorem dX10_isTurned_58 : decode cX10_isTurned 58 = .ok (.if_icmp .gt 5, 3) := by decide +kernel
theorem dX10_isTurned_61 : decode cX10_isTurned 61 = .ok (.iconst 1, 1) := by decide +kernel
theorem dX10_isTurned_62 : decode cX10_isTurned 62 = .ok (.ireturn, 1) := by decide +kernel
theorem dX10_isTurned_63 : decode cX10_isTurned 63 = .ok (.iinc 2 1, 3) := by decide +kernel
theorem dX10_isTurned_66 : decode cX10_isTurned 66 = .ok (.goto (-64), 3) := by decide +kernel
theorem dX10_isTurned_69 : decode cX10_isTurned 69 = .ok (.iconst 0, 1) := by decide +kernel
theorem dX10_isTurned_70 : decode cX10_isTurned 70 = .ok (.ireturn, 1) := by decide +kernel
theorem dX10_turned_0 : decode cX10_turned 0 = .ok (.aload_n 0, 1) := by decide +kernel
theorem dX10_turned_1 : decode cX10_turned 1 = .ok (.iload_n 1, 1) := by decide +kernel
theorem dX10_turned_2 : decode cX10_turned 2 = .ok (.invokevirtual 220, 3) := by decide +kernel
theorem dX10_turned_5 : decode cX10_turned 5 = .ok (.ifCond .eq 13, 3) := by decide +kernel
theorem dX10_turned_8 : decode cX10_turned 8 = .ok (.iload_n 2, 1) := by decide +kernel
theorem dX10_turned_9 : decode cX10_turned 9 = .ok (.i2l, 1) := by decide +kernel
theorem dX10_turned_10 : decode cX10_turned 10 = .ok (.lconst 0, 1) := by decide +kernel
theorem dX10_turned_11 : decode cX10_turned 11 = .ok (.lconst 1, 1) := by decide +kernel
theorem dX10_turned_12 : decode cX10_turned 12 = .ok (.invokestatic 110, 3) := by decide +kernel
theorem dX10_turned_15 : decode cX10_turned 15 = .ok (.ifCond .ne 5, 3) := by decide +kernel
theorem dX10_turned_18 : decode cX10_turned 18 = .ok (.iconst (-1), 1) := by decide +kernel
theorem dX10_turned_19 : decode cX10_turned 19 = .ok (.ireturn, 1) := by decide +kernel
theorem dX10_turned_20 : decode cX10_turned 20 = .ok (.iconst 0, 1) := by decide +kernel
theorem dX10_turned_21 : decode cX10_turned 21 = .ok (.istore_n 3, 1) := by decide +kernel
theorem dX10_turned_22 : decode cX10_turned 22 = .ok (.bipush (-2), 2) := by decide +kernel
theorem dX10_turned_24 : decode cX10_turned 24 = .ok (.istore 4, 2) := by decide +kernel
theorem dX10_turned_26 : decode cX10_turned 26 = .ok (.aload_n 0, 1) := by decide +kernel
theorem dX10_turned_27 : decode cX10_turned 27 = .ok (.getfield 226, 3) := by decide +kernel
theorem dX10_turned_30 : decode cX10_turned 30 = .ok (.iconst 1, 1) := by decide +kernel
theorem dX10_turned_31 : decode cX10_turned 31 = .ok (.isub, 1) := by decide +kernel
theorem dX10_turned_32 : decode cX10_turned 32 = .ok (.istore 5, 2) := by decide +kernel
theorem dX10_turned_34 : decode cX10_turned 34 = .ok (.iload 5, 2) := by decide +kernel
theorem dX10_turned_36 : decode cX10_turned 36 = .ok (.ifCond .lt 49, 3) := by decide +kernel
theorem dX10_turned_39 : decode cX10_turned 39 = .ok (.aload_n 0, 1) := by decide +kernel
theorem dX10_turned_40 : decode cX10_turned 40 = .ok (.getfield 52, 3) := by decide +kernel
theorem dX10_turned_43 : decode cX10_turned 43 = .ok (.iload 5, 2) := by decide +kernel
theorem dX10_turned_45 : decode cX10_turned 45 = .ok (.iaload, 1) := by decide +kernel
theorem dX10_turned_46 : decode cX10_turned 46 = .ok (.iload_n 1, 1) := by decide +kernel
theorem dX10_turned_47 : decode cX10_turned 47 = .ok (.if_icmp .ne 32, 3) := by decide +kernel
theorem dX10_turned_50 : decode cX10_turned 50 = .ok (.aload_n 0, 1) := by decide +kernel
theorem dX10_turned_51 : decode cX10_turned 51 = .ok (.getfield 55, 3) := by decide +kernel
theorem dX10_turned_54 : decode cX10_turned 54 = .ok (.iload 5, 2) := by decide +kernel
theorem dX10_turned_56 : decode cX10_turned 56 = .ok (.iaload, 1) := by decide +kernel
theorem dX10_turned_57 : decode cX10_turned 57 = .ok (.sipush 600, 3) := by decide +kernel
theorem dX10_turned_60 : decode cX10_turned 60 = .ok (.if_icmp .ge 19, 3) := by decide +kernel
theorem dX10_turned_63 : decode cX10_turned 63 = .ok (.aload_n 0, 1) := by decide +kernel
theorem dX10_turned_64 : decode cX10_turned 64 = .ok (.iload 5, 2) := by decide +kernel
theorem dX10_turned_66 : decode cX10_turned 66 = .ok (.invokevirtual 313, 3) := by decide +kernel
theorem dX10_turned_69 : decode cX10_turned 69 = .ok (.ifCond .eq 10, 3) := by decide +kernel
theorem dX10_turned_72 : decode cX10_turned 72 = .ok (.iinc 3 1, 3) := by decide +kernel
theorem dX10_turned_75 : decode cX10_turned 75 = .ok (.iload 5, 2) := by decide +kernel
theorem dX10_turned_77 : decode cX10_turned 77 = .ok (.istore 4, 2) := by decide +kernel
theorem dX10_turned_79 : decode cX10_turned 79 = .ok (.iinc 5 (-1), 3) := by decide +kernel
theorem dX10_turned_82 : decode cX10_turned 82 = .ok (.goto (-48), 3) := by decide +kernel
theorem dX10_turned_85 : decode cX10_turned 85 = .ok (.iload_n 2, 1) := by decide +kernel
theorem dX10_turned_86 : decode cX10_turned 86 = .ok (.ifCond .ne 7, 3) := by decide +kernel
theorem dX10_turned_89 : decode cX10_turned 89 = .ok (.iload_n 3, 1) := by decide +kernel
theorem dX10_turned_90 : decode cX10_turned 90 = .ok (.goto 5, 3) := by decide +kernel
theorem dX10_turned_93 : decode cX10_turned 93 = .ok (.iload 4, 2) := by decide +kernel
theorem dX10_turned_95 : decode cX10_turned 95 = .ok (.ireturn, 1) := by decide +kernel
theorem dX10_led_0 : decode cX10_led 0 = .ok (.aload_n 0, 1) := by decide +kernel
theorem dX10_led_1 : decode cX10_led 1 = .ok (.iload_n 1, 1) := by decide +kernel
theorem dX10_led_2 : decode cX10_led 2 = .ok (.invokevirtual 220, 3) := by decide +kernel
theorem dX10_led_5 : decode cX10_led 5 = .ok (.ifCond .ne 5, 3) := by decide +kernel
theorem dX10_led_8 : decode cX10_led 8 = .ok (.iconst (-1), 1) := by decide +kernel
theorem dX10_led_9 : decode cX10_led 9 = .ok (.ireturn, 1) := by decide +kernel
theorem dX10_led_10 : decode cX10_led 10 = .ok (.iconst 0, 1) := by decide +kernel
theorem dX10_led_11 : decode cX10_led 11 = .ok (.istore_n 2, 1) := by decide +kernel
theorem dX10_led_12 : decode cX10_led 12 = .ok (.iconst 0, 1) := by decide +kernel
theorem dX10_led_13 : decode cX10_led 13 = .ok (.istore_n 3, 1) := by decide +kernel
theorem dX10_led_14 : decode cX10_led 14 = .ok (.iload_n 3, 1) := by decide +kernel
theorem dX10_led_15 : decode cX10_led 15 = .ok (.aload_n 0, 1) := by decide +kernel
theorem dX10_led_16 : decode cX10_led 16 = .ok (.getfield 226, 3) := by decide +kernel
theorem dX10_led_19 : decode cX10_led 19 = .ok (.if_icmp .ge 30, 3) := by decide +kernel
theorem dX10_led_22 : decode cX10_led 22 = .ok (.aload_n 0, 1) := by decide +kernel
theorem dX10_led_23 : decode cX10_led 23 = .ok (.iload_n 3, 1) := by decide +kernel
theorem dX10_led_24 : decode cX10_led 24 = .ok (.invokevirtual 302, 3) := by decide +kernel
theorem dX10_led_27 : decode cX10_led 27 = .ok (.iload_n 2, 1) := by decide +kernel
theorem dX10_led_28 : decode cX10_led 28 = .ok (.aload_n 0, 1) := by decide +kernel
theorem dX10_led_29 : decode cX10_led 29 = .ok (.getfield 283, 3) := by decide +kernel
theorem dX10_led_32 : decode cX10_led 32 = .ok (.iload_n 1, 1) := by decide +kernel
theorem dX10_led_33 : decode cX10_led 33 = .ok (.if_icmp .ne 7, 3) := by decide +kernel
theorem dX10_led_36 : decode cX10_led 36 = .ok (.iconst 1, 1) := by decide +kernel
theorem dX10_led_37 : decode cX10_led 37 = .ok (.goto 4, 3) := by decide +kernel
theorem dX10_led_40 : decode cX10_led 40 = .ok (.iconst 0, 1) := by decide +kernel
theorem dX10_led_41 : decode cX10_led 41 = .ok (.iadd, 1) := by decide +kernel
theorem dX10_led_42 : decode cX10_led 42 = .ok (.istore_n 2, 1) := by decide +kernel
theorem dX10_led_43 : decode cX10_led 43 = .ok (.iinc 3 1, 3) := by decide +kernel
theorem dX10_led_46 : decode cX10_led 46 = .ok (.goto (-32), 3) := by decide +kernel
theorem dX10_led_49 : decode cX10_led 49 = .ok (.iload_n 2, 1) := by decide +kernel
theorem dX10_led_50 : decode cX10_led 50 = .ok (.ireturn, 1) := by decide +kernel
theorem dX10_endOf_0 : decode cX10_endOf 0 = .ok (.aload_n 0, 1) := by decide +kernel
theorem dX10_endOf_1 : decode cX10_endOf 1 = .ok (.getfield 22, 3) := by decide +kernel
theorem dX10_endOf_4 : decode cX10_endOf 4 = .ok (.iload_n 1, 1) := by decide +kernel
theorem dX10_endOf_5 : decode cX10_endOf 5 = .ok (.iaload, 1) := by decide +kernel
theorem dX10_endOf_6 : decode cX10_endOf 6 = .ok (.sipush 240, 3) := by decide +kernel
theorem dX10_endOf_9 : decode cX10_endOf 9 = .ok (.iadd, 1) := by decide +kernel
theorem dX10_endOf_10 : decode cX10_endOf 10 = .ok (.istore_n 2, 1) := by decide +kernel
theorem dX10_endOf_11 : decode cX10_endOf 11 = .ok (.aload_n 0, 1) := by decide +kernel
theorem dX10_endOf_12 : decode cX10_endOf 12 = .ok (.iload_n 1, 1) := by decide +kernel
theorem dX10_endOf_13 : decode cX10_endOf 13 = .ok (.iload_n 2, 1) := by decide +kernel
theorem dX10_endOf_14 : decode cX10_endOf 14 = .ok (.sipush 599, 3) := by decide +kernel
theorem dX10_endOf_17 : decode cX10_endOf 17 = .ok (.if_icmp .le 9, 3) := by decide +kernel
theorem dX10_endOf_20 : decode cX10_endOf 20 = .ok (.sipush 599, 3) := by decide +kernel
theorem dX10_endOf_23 : decode cX10_endOf 23 = .ok (.goto 4, 3) := by decide +kernel
theorem dX10_endOf_26 : decode cX10_endOf 26 = .ok (.iload_n 2, 1) := by decide +kernel
theorem dX10_endOf_27 : decode cX10_endOf 27 = .ok (.invokevirtual 223, 3) := by decide +kernel
theorem dX10_endOf_30 : decode cX10_endOf 30 = .ok (.ireturn, 1) := by decide +kernel
theorem dX10_twiceOf_0 : decode cX10_twiceOf 0 = .ok (.aload_n 0, 1) := by decide +kernel
theorem dX10_twiceOf_1 : decode cX10_twiceOf 1 = .ok (.getfield 22, 3) := by decide +kernel
theorem dX10_twiceOf_4 : decode cX10_twiceOf 4 = .ok (.iload_n 1, 1) := by decide +kernel
theorem dX10_twiceOf_5 : decode cX10_twiceOf 5 = .ok (.iaload, 1) := by decide +kernel
theorem dX10_twiceOf_6 : decode cX10_twiceOf 6 = .ok (.bipush 24, 2) := by decide +kernel
theorem dX10_twiceOf_8 : decode cX10_twiceOf 8 = .ok (.iadd, 1) := by decide +kernel
theorem dX10_twiceOf_9 : decode cX10_twiceOf 9 = .ok (.sipush 600, 3) := by decide +kernel
theorem dX10_twiceOf_12 : decode cX10_twiceOf 12 = .ok (.if_icmp .ge 22, 3) := by decide +kernel
theorem dX10_twiceOf_15 : decode cX10_twiceOf 15 = .ok (.iconst 2, 1) := by decide +kernel
theorem dX10_twiceOf_16 : decode cX10_twiceOf 16 = .ok (.aload_n 0, 1) := by decide +kernel
theorem dX10_twiceOf_17 : decode cX10_twiceOf 17 = .ok (.iload_n 1, 1) := by decide +kernel
theorem dX10_twiceOf_18 : decode cX10_twiceOf 18 = .ok (.aload_n 0, 1) := by decide +kernel
theorem dX10_twiceOf_19 : decode cX10_twiceOf 19 = .ok (.getfield 22, 3) := by decide +kernel
theorem dX10_twiceOf_22 : decode cX10_twiceOf 22 = .ok (.iload_n 1, 1) := by decide +kernel
theorem dX10_twiceOf_23 : decode cX10_twiceOf 23 = .ok (.iaload, 1) := by decide +kernel
theorem dX10_twiceOf_24 : decode cX10_twiceOf 24 = .ok (.bipush 24, 2) := by decide +kernel
theorem dX10_twiceOf_26 : decode cX10_twiceOf 26 = .ok (.iadd, 1) := by decide +kernel
theorem dX10_twiceOf_27 : decode cX10_twiceOf 27 = .ok (.invokevirtual 223, 3) := by decide +kernel
theorem dX10_twiceOf_30 : decode cX10_twiceOf 30 = .ok (.imul, 1) := by decide +kernel
theorem dX10_twiceOf_31 : decode cX10_twiceOf 31 = .ok (.goto 5, 3) := by decide +kernel
theorem dX10_twiceOf_34 : decode cX10_twiceOf 34 = .ok (.bipush (-2), 2) := by decide +kernel
theorem dX10_twiceOf_36 : decode cX10_twiceOf 36 = .ok (.ireturn, 1) := by decide +kernel
theorem dX10_byParents_0 : decode cX10_byParents 0 = .ok (.aload_n 0, 1) := by decide +kernel
theorem dX10_byParents_1 : decode cX10_byParents 1 = .ok (.getfield 9, 3) := by decide +kernel
theorem dX10_byParents_4 : decode cX10_byParents 4 = .ok (.bipush 6, 2) := by decide +kernel
theorem dX10_byParents_6 : decode cX10_byParents 6 = .ok (.iload_n 1, 1) := by decide +kernel
theorem dX10_byParents_7 : decode cX10_byParents 7 = .ok (.iadd, 1) := by decide +kernel
theorem dX10_byParents_8 : decode cX10_byParents 8 = .ok (.iaload, 1) := by decide +kernel
theorem dX10_byParents_9 : decode cX10_byParents 9 = .ok (.aload_n 0, 1) := by decide +kernel
theorem dX10_byParents_10 : decode cX10_byParents 10 = .ok (.getfield 25, 3) := by decide +kernel
theorem dX10_byParents_13 : decode cX10_byParents 13 = .ok (.iload_n 1, 1) := by decide +kernel
theorem dX10_byParents_14 : decode cX10_byParents 14 = .ok (.iaload, 1) := by decide +kernel
theorem dX10_byParents_15 : decode cX10_byParents 15 = .ok (.iconst 1, 1) := by decide +kernel
theorem dX10_byParents_16 : decode cX10_byParents 16 = .ok (.if_icmp .ne 9, 3) := by decide +kernel
theorem dX10_byParents_19 : decode cX10_byParents 19 = .ok (.sipush 160, 3) := by decide +kernel
theorem dX10_byParents_22 : decode cX10_byParents 22 = .ok (.goto 6, 3) := by decide +kernel
theorem dX10_byParents_25 : decode cX10_byParents 25 = .ok (.sipush (-160), 3) := by decide +kernel
theorem dX10_byParents_28 : decode cX10_byParents 28 = .ok (.iadd, 1) := by decide +kernel
theorem dX10_byParents_29 : decode cX10_byParents 29 = .ok (.ireturn, 1) := by decide +kernel
theorem dX10_tall_0 : decode cX10_tall 0 = .ok (.aload_n 0, 1) := by decide +kernel
theorem dX10_tall_1 : decode cX10_tall 1 = .ok (.iload_n 1, 1) := by decide +kernel
theorem dX10_tall_2 : decode cX10_tall 2 = .ok (.invokevirtual 220, 3) := by decide +kernel
theorem dX10_tall_5 : decode cX10_tall 5 = .ok (.ifCond .ne 7, 3) := by decide +kernel
theorem dX10_tall_8 : decode cX10_tall 8 = .ok (.ldc_w 259, 3) := by decide +kernel
theorem dX10_tall_11 : decode cX10_tall 11 = .ok (.ireturn, 1) := by decide +kernel
theorem dX10_tall_12 : decode cX10_tall 12 = .ok (.iload_n 2, 1) := by decide +kernel
theorem dX10_tall_13 : decode cX10_tall 13 = .ok (.tableswitch 91 0 4 #[35, 41, 47, 53, 79], 35) := by decide +kernel
theorem dX10_tall_48 : decode cX10_tall 48 = .ok (.aload_n 0, 1) := by decide +kernel
theorem dX10_tall_49 : decode cX10_tall 49 = .ok (.iload_n 1, 1) := by decide +kernel
theorem dX10_tall_50 : decode cX10_tall 50 = .ok (.invokevirtual 316, 3) := by decide +kernel
theorem dX10_tall_53 : decode cX10_tall 53 = .ok (.ireturn, 1) := by decide +kernel
theorem dX10_tall_54 : decode cX10_tall 54 = .ok (.aload_n 0, 1) := by decide +kernel
theorem dX10_tall_55 : decode cX10_tall 55 = .ok (.iload_n 1, 1) := by decide +kernel
theorem dX10_tall_56 : decode cX10_tall 56 = .ok (.invokevirtual 319, 3) := by decide +kernel
theorem dX10_tall_59 : decode cX10_tall 59 = .ok (.ireturn, 1) := by decide +kernel
theorem dX10_tall_60 : decode cX10_tall 60 = .ok (.aload_n 0, 1) := by decide +kernel
theorem dX10_tall_61 : decode cX10_tall 61 = .ok (.iload_n 1, 1) := by decide +kernel
theorem dX10_tall_62 : decode cX10_tall 62 = .ok (.invokevirtual 322, 3) := by decide +kernel
theorem dX10_tall_65 : decode cX10_tall 65 = .ok (.ireturn, 1) := by decide +kernel
theorem dX10_tall_66 : decode cX10_tall 66 = .ok (.aload_n 0, 1) := by decide +kernel
theorem dX10_tall_67 : decode cX10_tall 67 = .ok (.iload_n 1, 1) := by decide +kernel
theorem dX10_tall_68 : decode cX10_tall 68 = .ok (.invokevirtual 319, 3) := by decide +kernel
theorem dX10_tall_71 : decode cX10_tall 71 = .ok (.ifCond .ge 9, 3) := by decide +kernel
theorem dX10_tall_74 : decode cX10_tall 74 = .ok (.ldc_w 259, 3) := by decide +kernel
theorem dX10_tall_77 : decode cX10_tall 77 = .ok (.goto 14, 3) := by decide +kernel
theorem dX10_tall_80 : decode cX10_tall 80 = .ok (.aload_n 0, 1) := by decide +kernel
theorem dX10_tall_81 : decode cX10_tall 81 = .ok (.iload_n 1, 1) := by decide +kernel
theorem dX10_tall_82 : decode cX10_tall 82 = .ok (.invokevirtual 316, 3) := by decide +kernel
theorem dX10_tall_85 : decode cX10_tall 85 = .ok (.aload_n 0, 1) := by decide +kernel
theorem dX10_tall_86 : decode cX10_tall 86 = .ok (.iload_n 1, 1) := by decide +kernel
theorem dX10_tall_87 : decode cX10_tall 87 = .ok (.invokevirtual 319, 3) := by decide +kernel
theorem dX10_tall_90 : decode cX10_tall 90 = .ok (.isub, 1) := by decide +kernel
theorem dX10_tall_91 : decode cX10_tall 91 = .ok (.ireturn, 1) := by decide +kernel
theorem dX10_tall_92 : decode cX10_tall 92 = .ok (.aload_n 0, 1) := by decide +kernel
theorem dX10_tall_93 : decode cX10_tall 93 = .ok (.iload_n 1, 1) := by decide +kernel
theorem dX10_tall_94 : decode cX10_tall 94 = .ok (.invokevirtual 316, 3) := by decide +kernel
theorem dX10_tall_97 : decode cX10_tall 97 = .ok (.aload_n 0, 1) := by decide +kernel
theorem dX10_tall_98 : decode cX10_tall 98 = .ok (.iload_n 1, 1) := by decide +kernel
theorem dX10_tall_99 : decode cX10_tall 99 = .ok (.invokevirtual 322, 3) := by decide +kernel
theorem dX10_tall_102 : decode cX10_tall 102 = .ok (.isub, 1) := by decide +kernel
theorem dX10_tall_103 : decode cX10_tall 103 = .ok (.ireturn, 1) := by decide +kernel
theorem dX10_tall_104 : decode cX10_tall 104 = .ok (.ldc_w 259, 3) := by decide +kernel
theorem dX10_tall_107 : decode cX10_tall 107 = .ok (.ireturn, 1) := by decide +kernel
theorem dX10_year_0 : decode cX10_year 0 = .ok (.aload_n 0, 1) := by decide +kernel
theorem dX10_year_1 : decode cX10_year 1 = .ok (.iload_n 1, 1) := by decide +kernel
theorem dX10_year_2 : decode cX10_year 2 = .ok (.invokevirtual 220, 3) := by decide +kernel
theorem dX10_year_5 : decode cX10_year 5 = .ok (.ifCond .eq 15, 3) := by decide +kernel
theorem dX10_year_8 : decode cX10_year 8 = .ok (.iload_n 2, 1) := by decide +kernel
theorem dX10_year_9 : decode cX10_year 9 = .ok (.i2l, 1) := by decide +kernel
theorem dX10_year_10 : decode cX10_year 10 = .ok (.lconst 0, 1) := by decide +kernel
theorem dX10_year_11 : decode cX10_year 11 = .ok (.ldc2_w 325, 3) := by decide +kernel
theorem dX10_year_14 : decode cX10_year 14 = .ok (.invokestatic 110, 3) := by decide +kernel
theorem dX10_year_17 : decode cX10_year 17 = .ok (.ifCond .ne 5, 3) := by decide +kernel
theorem dX10_year_20 : decode cX10_year 20 = .ok (.iconst (-1), 1) := by decide +kernel
theorem dX10_year_21 : decode cX10_year 21 = .ok (.ireturn, 1) := by decide +kernel
theorem dX10_year_22 : decode cX10_year 22 = .ok (.bipush (-2), 2) := by decide +kernel
theorem dX10_year_24 : decode cX10_year 24 = .ok (.istore_n 3, 1) := by decide +kernel
theorem dX10_year_25 : decode cX10_year 25 = .ok (.bipush (-2), 2) := by decide +kernel
theorem dX10_year_27 : decode cX10_year 27 = .ok (.istore 4, 2) := by decide +kernel
theorem dX10_year_29 : decode cX10_year 29 = .ok (.bipush (-2), 2) := by decide +kernel
theorem dX10_year_31 : decode cX10_year 31 = .ok (.istore 5, 2) := by decide +kernel
theorem dX10_year_33 : decode cX10_year 33 = .ok (.bipush (-2), 2) := by decide +kernel
theorem dX10_year_35 : decode cX10_year 35 = .ok (.istore 6, 2) := by decide +kernel
theorem dX10_year_37 : decode cX10_year 37 = .ok (.iconst 0, 1) := by decide +kernel
theorem dX10_year_38 : decode cX10_year 38 = .ok (.istore 7, 2) := by decide +kernel
theorem dX10_year_40 : decode cX10_year 40 = .ok (.iload 7, 2) := by decide +kernel
theorem dX10_year_42 : decode cX10_year 42 = .ok (.bipush 20, 2) := by decide +kernel
theorem dX10_year_44 : decode cX10_year 44 = .ok (.if_icmp .ge 103, 3) := by decide +kernel
theorem dX10_year_47 : decode cX10_year 47 = .ok (.aload_n 0, 1) := by decide +kernel
theorem dX10_year_48 : decode cX10_year 48 = .ok (.getfield 22, 3) := by decide +kernel
theorem dX10_year_51 : decode cX10_year 51 = .ok (.iload_n 1, 1) := by decide +kernel
theorem dX10_year_52 : decode cX10_year 52 = .ok (.iaload, 1) := by decide +kernel
theorem dX10_year_53 : decode cX10_year 53 = .ok (.bipush 12, 2) := by decide +kernel
theorem dX10_year_55 : decode cX10_year 55 = .ok (.iload 7, 2) := by decide +kernel
theorem dX10_year_57 : decode cX10_year 57 = .ok (.imul, 1) := by decide +kernel
theorem dX10_year_58 : decode cX10_year 58 = .ok (.iadd, 1) := by decide +kernel
theorem dX10_year_59 : decode cX10_year 59 = .ok (.bipush 12, 2) := by decide +kernel
theorem dX10_year_61 : decode cX10_year 61 = .ok (.iadd, 1) := by decide +kernel
theorem dX10_year_62 : decode cX10_year 62 = .ok (.sipush 600, 3) := by decide +kernel
theorem dX10_year_65 : decode cX10_year 65 = .ok (.if_icmp .ge 82, 3) := by decide +kernel
theorem dX10_year_68 : decode cX10_year 68 = .ok (.aload_n 0, 1) := by decide +kernel
theorem dX10_year_69 : decode cX10_year 69 = .ok (.iload_n 1, 1) := by decide +kernel
theorem dX10_year_70 : decode cX10_year 70 = .ok (.aload_n 0, 1) := by decide +kernel
theorem dX10_year_71 : decode cX10_year 71 = .ok (.getfield 22, 3) := by decide +kernel
theorem dX10_year_74 : decode cX10_year 74 = .ok (.iload_n 1, 1) := by decide +kernel
theorem dX10_year_75 : decode cX10_year 75 = .ok (.iaload, 1) := by decide +kernel
theorem dX10_year_76 : decode cX10_year 76 = .ok (.bipush 12, 2) := by decide +kernel
theorem dX10_year_78 : decode cX10_year 78 = .ok (.iload 7, 2) := by decide +kernel
theorem dX10_year_80 : decode cX10_year 80 = .ok (.imul, 1) := by decide +kernel
theorem dX10_year_81 : decode cX10_year 81 = .ok (.iadd, 1) := by decide +kernel
theorem dX10_year_82 : decode cX10_year 82 = .ok (.bipush 12, 2) := by decide +kernel
theorem dX10_year_84 : decode cX10_year 84 = .ok (.iadd, 1) := by decide +kernel
theorem dX10_year_85 : decode cX10_year 85 = .ok (.invokevirtual 223, 3) := by decide +kernel
theorem dX10_year_88 : decode cX10_year 88 = .ok (.aload_n 0, 1) := by decide +kernel
theorem dX10_year_89 : decode cX10_year 89 = .ok (.iload_n 1, 1) := by decide +kernel
theorem dX10_year_90 : decode cX10_year 90 = .ok (.aload_n 0, 1) := by decide +kernel
theorem dX10_year_91 : decode cX10_year 91 = .ok (.getfield 22, 3) := by decide +kernel
theorem dX10_year_94 : decode cX10_year 94 = .ok (.iload_n 1, 1) := by decide +kernel
theorem dX10_year_95 : decode cX10_year 95 = .ok (.iaload, 1) := by decide +kernel
theorem dX10_year_96 : decode cX10_year 96 = .ok (.bipush 12, 2) := by decide +kernel
theorem dX10_year_98 : decode cX10_year 98 = .ok (.iload 7, 2) := by decide +kernel
theorem dX10_year_100 : decode cX10_year 100 = .ok (.imul, 1) := by decide +kernel
theorem dX10_year_101 : decode cX10_year 101 = .ok (.iadd, 1) := by decide +kernel
theorem dX10_year_102 : decode cX10_year 102 = .ok (.invokevirtual 223, 3) := by decide +kernel
theorem dX10_year_105 : decode cX10_year 105 = .ok (.isub, 1) := by decide +kernel
theorem dX10_year_106 : decode cX10_year 106 = .ok (.istore 8, 2) := by decide +kernel
theorem dX10_year_108 : decode cX10_year 108 = .ok (.iload 8, 2) := by decide +kernel
theorem dX10_year_110 : decode cX10_year 110 = .ok (.iload_n 3, 1) := by decide +kernel
theorem dX10_year_111 : decode cX10_year 111 = .ok (.if_icmp .le 10, 3) := by decide +kernel
theorem dX10_year_114 : decode cX10_year 114 = .ok (.iload 8, 2) := by decide +kernel
theorem dX10_year_116 : decode cX10_year 116 = .ok (.istore_n 3, 1) := by decide +kernel
theorem dX10_year_117 : decode cX10_year 117 = .ok (.iload 7, 2) := by decide +kernel
theorem dX10_year_119 : decode cX10_year 119 = .ok (.istore 4, 2) := by decide +kernel
theorem dX10_year_121 : decode cX10_year 121 = .ok (.iload 5, 2) := by decide +kernel
theorem dX10_year_123 : decode cX10_year 123 = .ok (.ifCond .lt 10, 3) := by decide +kernel
theorem dX10_year_126 : decode cX10_year 126 = .ok (.iload 8, 2) := by decide +kernel
theorem dX10_year_128 : decode cX10_year 128 = .ok (.iload 5, 2) := by decide +kernel
theorem dX10_year_130 : decode cX10_year 130 = .ok (.if_icmp .ge 11, 3) := by decide +kernel
theorem dX10_year_133 : decode cX10_year 133 = .ok (.iload 8, 2) := by decide +kernel
theorem dX10_year_135 : decode cX10_year 135 = .ok (.istore 5, 2) := by decide +kernel
theorem dX10_year_137 : decode cX10_year 137 = .ok (.iload 7, 2) := by decide +kernel
theorem dX10_year_139 : decode cX10_year 139 = .ok (.istore 6, 2) := by decide +kernel
theorem dX10_year_141 : decode cX10_year 141 = .ok (.iinc 7 1, 3) := by decide +kernel
theorem dX10_year_144 : decode cX10_year 144 = .ok (.goto (-104), 3) := by decide +kernel
theorem dX10_year_147 : decode cX10_year 147 = .ok (.iload_n 2, 1) := by decide +kernel
theorem dX10_year_148 : decode cX10_year 148 = .ok (.ifCond .ne 8, 3) := by decide +kernel
theorem dX10_year_151 : decode cX10_year 151 = .ok (.iload 4, 2) := by decide +kernel
theorem dX10_year_153 : decode cX10_year 153 = .ok (.goto 24, 3) := by decide +kernel
theorem dX10_year_156 : decode cX10_year 156 = .ok (.iload_n 2, 1) := by decide +kernel
theorem dX10_year_157 : decode cX10_year 157 = .ok (.iconst 1, 1) := by decide +kernel
theorem dX10_year_158 : decode cX10_year 158 = .ok (.if_icmp .ne 7, 3) := by decide +kernel
theorem dX10_year_161 : decode cX10_year 161 = .ok (.iload_n 3, 1) := by decide +kernel
theorem dX10_year_162 : decode cX10_year 162 = .ok (.goto 15, 3) := by decide +kernel
theorem dX10_year_165 : decode cX10_year 165 = .ok (.iload_n 2, 1) := by decide +kernel
theorem dX10_year_166 : decode cX10_year 166 = .ok (.iconst 2, 1) := by decide +kernel
theorem dX10_year_167 : decode cX10_year 167 = .ok (.if_icmp .ne 8, 3) := by decide +kernel
theorem dX10_year_170 : decode cX10_year 170 = .ok (.iload 6, 2) := by decide +kernel
theorem dX10_year_172 : decode cX10_year 172 = .ok (.goto 5, 3) := by decide +kernel
theorem dX10_year_175 : decode cX10_year 175 = .ok (.iload 5, 2) := by decide +kernel
theorem dX10_year_177 : decode cX10_year 177 = .ok (.ireturn, 1) := by decide +kernel
theorem dX10_growsOther_0 : decode cX10_growsOther 0 = .ok (.aload_n 0, 1) := by decide +kernel
theorem dX10_growsOther_1 : decode cX10_growsOther 1 = .ok (.getfield 22, 3) := by decide +kernel
theorem dX10_growsOther_4 : decode cX10_growsOther 4 = .ok (.bipush 6, 2) := by decide +kernel
theorem dX10_growsOther_6 : decode cX10_growsOther 6 = .ok (.aload_n 0, 1) := by decide +kernel
theorem dX10_growsOther_7 : decode cX10_growsOther 7 = .ok (.getfield 22, 3) := by decide +kernel
theorem dX10_growsOther_10 : decode cX10_growsOther 10 = .ok (.iload_n 1, 1) := by decide +kernel
theorem dX10_growsOther_11 : decode cX10_growsOther 11 = .ok (.iaload, 1) := by decide +kernel
theorem dX10_growsOther_12 : decode cX10_growsOther 12 = .ok (.iastore, 1) := by decide +kernel
theorem dX10_growsOther_13 : decode cX10_growsOther 13 = .ok (.aload_n 0, 1) := by decide +kernel
theorem dX10_growsOther_14 : decode cX10_growsOther 14 = .ok (.getfield 25, 3) := by decide +kernel
theorem dX10_growsOther_17 : decode cX10_growsOther 17 = .ok (.bipush 6, 2) := by decide +kernel
theorem dX10_growsOther_19 : decode cX10_growsOther 19 = .ok (.aload_n 0, 1) := by decide +kernel
theorem dX10_growsOther_20 : decode cX10_growsOther 20 = .ok (.getfield 25, 3) := by decide +kernel
theorem dX10_growsOther_23 : decode cX10_growsOther 23 = .ok (.iload_n 1, 1) := by decide +kernel
theorem dX10_growsOther_24 : decode cX10_growsOther 24 = .ok (.iaload, 1) := by decide +kernel
theorem dX10_growsOther_25 : decode cX10_growsOther 25 = .ok (.iastore, 1) := by decide +kernel
theorem dX10_growsOther_26 : decode cX10_growsOther 26 = .ok (.aload_n 0, 1) := by decide +kernel
theorem dX10_growsOther_27 : decode cX10_growsOther 27 = .ok (.getfield 28, 3) := by decide +kernel
theorem dX10_growsOther_30 : decode cX10_growsOther 30 = .ok (.bipush 6, 2) := by decide +kernel
theorem dX10_growsOther_32 : decode cX10_growsOther 32 = .ok (.sipush 1280, 3) := by decide +kernel
theorem dX10_growsOther_35 : decode cX10_growsOther 35 = .ok (.iastore, 1) := by decide +kernel
theorem dX10_growsOther_36 : decode cX10_growsOther 36 = .ok (.aload_n 0, 1) := by decide +kernel
theorem dX10_growsOther_37 : decode cX10_growsOther 37 = .ok (.bipush 6, 2) := by decide +kernel
theorem dX10_growsOther_39 : decode cX10_growsOther 39 = .ok (.iconst 0, 1) := by decide +kernel
theorem dX10_growsOther_40 : decode cX10_growsOther 40 = .ok (.sipush 4300, 3) := by decide +kernel
theorem dX10_growsOther_43 : decode cX10_growsOther 43 = .ok (.iconst 0, 1) := by decide +kernel
theorem dX10_growsOther_44 : decode cX10_growsOther 44 = .ok (.invokevirtual 213, 3) := by decide +kernel
theorem dX10_growsOther_47 : decode cX10_growsOther 47 = .ok (.return_, 1) := by decide +kernel
theorem dX10_lineOf_0 : decode cX10_lineOf 0 = .ok (.bipush 100, 2) := by decide +kernel
theorem dX10_lineOf_2 : decode cX10_lineOf 2 = .ok (.aload_n 0, 1) := by decide +kernel
theorem dX10_lineOf_3 : decode cX10_lineOf 3 = .ok (.iload_n 1, 1) := by decide +kernel
theorem dX10_lineOf_4 : decode cX10_lineOf 4 = .ok (.iload_n 2, 1) := by decide +kernel
theorem dX10_lineOf_5 : decode cX10_lineOf 5 = .ok (.invokevirtual 223, 3) := by decide +kernel
theorem dX10_lineOf_8 : decode cX10_lineOf 8 = .ok (.imul, 1) := by decide +kernel
theorem dX10_lineOf_9 : decode cX10_lineOf 9 = .ok (.aload_n 0, 1) := by decide +kernel
theorem dX10_lineOf_10 : decode cX10_lineOf 10 = .ok (.getfield 49, 3) := by decide +kernel
theorem dX10_lineOf_13 : decode cX10_lineOf 13 = .ok (.sipush 3600, 3) := by decide +kernel
theorem dX10_lineOf_16 : decode cX10_lineOf 16 = .ok (.iload_n 2, 1) := by decide +kernel
theorem dX10_lineOf_17 : decode cX10_lineOf 17 = .ok (.iadd, 1) := by decide +kernel
theorem dX10_lineOf_18 : decode cX10_lineOf 18 = .ok (.iaload, 1) := by decide +kernel
theorem dX10_lineOf_19 : decode cX10_lineOf 19 = .ok (.idiv, 1) := by decide +kernel
theorem dX10_lineOf_20 : decode cX10_lineOf 20 = .ok (.bipush 100, 2) := by decide +kernel
theorem dX10_lineOf_22 : decode cX10_lineOf 22 = .ok (.isub, 1) := by decide +kernel
theorem dX10_lineOf_23 : decode cX10_lineOf 23 = .ok (.iconst 4, 1) := by decide +kernel
theorem dX10_lineOf_24 : decode cX10_lineOf 24 = .ok (.idiv, 1) := by decide +kernel
theorem dX10_lineOf_25 : decode cX10_lineOf 25 = .ok (.ireturn, 1) := by decide +kernel
theorem dX10_line_0 : decode cX10_line 0 = .ok (.aload_n 0, 1) := by decide +kernel
theorem dX10_line_1 : decode cX10_line 1 = .ok (.iload_n 1, 1) := by decide +kernel
theorem dX10_line_2 : decode cX10_line 2 = .ok (.invokevirtual 220, 3) := by decide +kernel
theorem dX10_line_5 : decode cX10_line 5 = .ok (.ifCond .eq 10, 3) := by decide +kernel
theorem dX10_line_8 : decode cX10_line 8 = .ok (.iload_n 2, 1) := by decide +kernel
theorem dX10_line_9 : decode cX10_line 9 = .ok (.invokestatic 124, 3) := by decide +kernel
theorem dX10_line_12 : decode cX10_line 12 = .ok (.ifCond .ne 7, 3) := by decide +kernel
theorem dX10_line_15 : decode cX10_line 15 = .ok (.ldc_w 259, 3) := by decide +kernel
theorem dX10_line_18 : decode cX10_line 18 = .ok (.ireturn, 1) := by decide +kernel
theorem dX10_line_19 : decode cX10_line 19 = .ok (.iload_n 2, 1) := by decide +kernel
theorem dX10_line_20 : decode cX10_line 20 = .ok (.aload_n 0, 1) := by decide +kernel
theorem dX10_line_21 : decode cX10_line 21 = .ok (.getfield 22, 3) := by decide +kernel
theorem dX10_line_24 : decode cX10_line 24 = .ok (.iload_n 1, 1) := by decide +kernel
theorem dX10_line_25 : decode cX10_line 25 = .ok (.iaload, 1) := by decide +kernel
theorem dX10_line_26 : decode cX10_line 26 = .ok (.if_icmp .ge 7, 3) := by decide +kernel
theorem dX10_line_29 : decode cX10_line 29 = .ok (.sipush (-1000), 3) := by decide +kernel
theorem dX10_line_32 : decode cX10_line 32 = .ok (.ireturn, 1) := by decide +kernel
theorem dX10_line_33 : decode cX10_line 33 = .ok (.aload_n 0, 1) := by decide +kernel
theorem dX10_line_34 : decode cX10_line 34 = .ok (.iload_n 1, 1) := by decide +kernel
theorem dX10_line_35 : decode cX10_line 35 = .ok (.invokevirtual 327, 3) := by decide +kernel
theorem dX10_line_38 : decode cX10_line 38 = .ok (.aload_n 0, 1) := by decide +kernel
theorem dX10_line_39 : decode cX10_line 39 = .ok (.iload_n 1, 1) := by decide +kernel
theorem dX10_line_40 : decode cX10_line 40 = .ok (.iload_n 2, 1) := by decide +kernel
theorem dX10_line_41 : decode cX10_line 41 = .ok (.invokevirtual 330, 3) := by decide +kernel
theorem dX10_line_44 : decode cX10_line 44 = .ok (.ireturn, 1) := by decide +kernel
theorem dX10_falls_0 : decode cX10_falls 0 = .ok (.aload_n 0, 1) := by decide +kernel
theorem dX10_falls_1 : decode cX10_falls 1 = .ok (.iload_n 1, 1) := by decide +kernel
theorem dX10_falls_2 : decode cX10_falls 2 = .ok (.invokevirtual 220, 3) := by decide +kernel
theorem dX10_falls_5 : decode cX10_falls 5 = .ok (.ifCond .ne 5, 3) := by decide +kernel
theorem dX10_falls_8 : decode cX10_falls 8 = .ok (.iconst (-1), 1) := by decide +kernel
theorem dX10_falls_9 : decode cX10_falls 9 = .ok (.ireturn, 1) := by decide +kernel
theorem dX10_falls_10 : decode cX10_falls 10 = .ok (.aload_n 0, 1) := by decide +kernel
theorem dX10_falls_11 : decode cX10_falls 11 = .ok (.iload_n 1, 1) := by decide +kernel
theorem dX10_falls_12 : decode cX10_falls 12 = .ok (.invokevirtual 327, 3) := by decide +kernel
theorem dX10_falls_15 : decode cX10_falls 15 = .ok (.aload_n 0, 1) := by decide +kernel
theorem dX10_falls_16 : decode cX10_falls 16 = .ok (.iload_n 1, 1) := by decide +kernel
theorem dX10_falls_17 : decode cX10_falls 17 = .ok (.aload_n 0, 1) := by decide +kernel
theorem dX10_falls_18 : decode cX10_falls 18 = .ok (.getfield 22, 3) := by decide +kernel
theorem dX10_falls_21 : decode cX10_falls 21 = .ok (.iload_n 1, 1) := by decide +kernel
theorem dX10_falls_22 : decode cX10_falls 22 = .ok (.iaload, 1) := by decide +kernel
theorem dX10_falls_23 : decode cX10_falls 23 = .ok (.invokevirtual 330, 3) := by decide +kernel
theorem dX10_falls_26 : decode cX10_falls 26 = .ok (.istore_n 2, 1) := by decide +kernel
theorem dX10_falls_27 : decode cX10_falls 27 = .ok (.aload_n 0, 1) := by decide +kernel
theorem dX10_falls_28 : decode cX10_falls 28 = .ok (.getfield 22, 3) := by decide +kernel
theorem dX10_falls_31 : decode cX10_falls 31 = .ok (.iload_n 1, 1) := by decide +kernel
theorem dX10_falls_32 : decode cX10_falls 32 = .ok (.iaload, 1) := by decide +kernel
theorem dX10_falls_33 : decode cX10_falls 33 = .ok (.iconst 1, 1) := by decide +kernel
theorem dX10_falls_34 : decode cX10_falls 34 = .ok (.iadd, 1) := by decide +kernel
theorem dX10_falls_35 : decode cX10_falls 35 = .ok (.istore_n 3, 1) := by decide +kernel
theorem dX10_falls_36 : decode cX10_falls 36 = .ok (.iload_n 3, 1) := by decide +kernel
theorem dX10_falls_37 : decode cX10_falls 37 = .ok (.sipush 600, 3) := by decide +kernel
theorem dX10_falls_40 : decode cX10_falls 40 = .ok (.if_icmp .ge 40, 3) := by decide +kernel
theorem dX10_falls_43 : decode cX10_falls 43 = .ok (.aload_n 0, 1) := by decide +kernel
theorem dX10_falls_44 : decode cX10_falls 44 = .ok (.iload_n 1, 1) := by decide +kernel
theorem dX10_falls_45 : decode cX10_falls 45 = .ok (.iload_n 3, 1) := by decide +kernel
theorem dX10_falls_46 : decode cX10_falls 46 = .ok (.invokevirtual 330, 3) := by decide +kernel
theorem dX10_falls_49 : decode cX10_falls 49 = .ok (.istore 4, 2) := by decide +kernel
theorem dX10_falls_51 : decode cX10_falls 51 = .ok (.iload 4, 2) := by decide +kernel
theorem dX10_falls_53 : decode cX10_falls 53 = .ok (.iload_n 2, 1) := by decide +kernel
theorem dX10_falls_54 : decode cX10_falls 54 = .ok (.iconst 2, 1) := by decide +kernel
theorem dX10_falls_55 : decode cX10_falls 55 = .ok (.isub, 1) := by decide +kernel
theorem dX10_falls_56 : decode cX10_falls 56 = .ok (.if_icmp .gt 5, 3) := by decide +kernel
theorem dX10_falls_59 : decode cX10_falls 59 = .ok (.iload_n 3, 1) := by decide +kernel
theorem dX10_falls_60 : decode cX10_falls 60 = .ok (.ireturn, 1) := by decide +kernel
theorem dX10_falls_61 : decode cX10_falls 61 = .ok (.iload 4, 2) := by decide +kernel
theorem dX10_falls_63 : decode cX10_falls 63 = .ok (.iload_n 2, 1) := by decide +kernel
theorem dX10_falls_64 : decode cX10_falls 64 = .ok (.if_icmp .le 8, 3) := by decide +kernel
theorem dX10_falls_67 : decode cX10_falls 67 = .ok (.iload 4, 2) := by decide +kernel
theorem dX10_falls_69 : decode cX10_falls 69 = .ok (.goto 4, 3) := by decide +kernel
theorem dX10_falls_72 : decode cX10_falls 72 = .ok (.iload_n 2, 1) := by decide +kernel
theorem dX10_falls_73 : decode cX10_falls 73 = .ok (.istore_n 2, 1) := by decide +kernel
theorem dX10_falls_74 : decode cX10_falls 74 = .ok (.iinc 3 1, 3) := by decide +kernel
theorem dX10_falls_77 : decode cX10_falls 77 = .ok (.goto (-41), 3) := by decide +kernel
theorem dX10_falls_80 : decode cX10_falls 80 = .ok (.bipush (-2), 2) := by decide +kernel
theorem dX10_falls_82 : decode cX10_falls 82 = .ok (.ireturn, 1) := by decide +kernel
theorem dX10_overtakes_0 : decode cX10_overtakes 0 = .ok (.iload_n 1, 1) := by decide +kernel
theorem dX10_overtakes_1 : decode cX10_overtakes 1 = .ok (.ifCond .lt 36, 3) := by decide +kernel
theorem dX10_overtakes_4 : decode cX10_overtakes 4 = .ok (.aload_n 0, 1) := by decide +kernel
theorem dX10_overtakes_5 : decode cX10_overtakes 5 = .ok (.iload_n 1, 1) := by decide +kernel
theorem dX10_overtakes_6 : decode cX10_overtakes 6 = .ok (.bipush 10, 2) := by decide +kernel
theorem dX10_overtakes_8 : decode cX10_overtakes 8 = .ok (.idiv, 1) := by decide +kernel
theorem dX10_overtakes_9 : decode cX10_overtakes 9 = .ok (.invokevirtual 220, 3) := by decide +kernel
theorem dX10_overtakes_12 : decode cX10_overtakes 12 = .ok (.ifCond .eq 25, 3) := by decide +kernel
theorem dX10_overtakes_15 : decode cX10_overtakes 15 = .ok (.aload_n 0, 1) := by decide +kernel
theorem dX10_overtakes_16 : decode cX10_overtakes 16 = .ok (.iload_n 1, 1) := by decide +kernel
theorem dX10_overtakes_17 : decode cX10_overtakes 17 = .ok (.bipush 10, 2) := by decide +kernel
theorem dX10_overtakes_19 : decode cX10_overtakes 19 = .ok (.irem, 1) := by decide +kernel
theorem dX10_overtakes_20 : decode cX10_overtakes 20 = .ok (.invokevirtual 220, 3) := by decide +kernel
theorem dX10_overtakes_23 : decode cX10_overtakes 23 = .ok (.ifCond .eq 14, 3) := by decide +kernel
theorem dX10_overtakes_26 : decode cX10_overtakes 26 = .ok (.iload_n 1, 1) := by decide +kernel
theorem dX10_overtakes_27 : decode cX10_overtakes 27 = .ok (.bipush 10, 2) := by decide +kernel
theorem dX10_overtakes_29 : decode cX10_overtakes 29 = .ok (.idiv, 1) := by decide +kernel
theorem dX10_overtakes_30 : decode cX10_overtakes 30 = .ok (.iload_n 1, 1) := by decide +kernel
theorem dX10_overtakes_31 : decode cX10_overtakes 31 = .ok (.bipush 10, 2) := by decide +kernel
theorem dX10_overtakes_33 : decode cX10_overtakes 33 = .ok (.irem, 1) := by decide +kernel
theorem dX10_overtakes_34 : decode cX10_overtakes 34 = .ok (.if_icmp .ne 5, 3) := by decide +kernel
theorem dX10_overtakes_37 : decode cX10_overtakes 37 = .ok (.iconst (-1), 1) := by decide +kernel
theorem dX10_overtakes_38 : decode cX10_overtakes 38 = .ok (.ireturn, 1) := by decide +kernel
theorem dX10_overtakes_39 : decode cX10_overtakes 39 = .ok (.iload_n 1, 1) := by decide +kernel
theorem dX10_overtakes_40 : decode cX10_overtakes 40 = .ok (.bipush 10, 2) := by decide +kernel
theorem dX10_overtakes_42 : decode cX10_overtakes 42 = .ok (.idiv, 1) := by decide +kernel
theorem dX10_overtakes_43 : decode cX10_overtakes 43 = .ok (.istore_n 2, 1) := by decide +kernel
theorem dX10_overtakes_44 : decode cX10_overtakes 44 = .ok (.iload_n 1, 1) := by decide +kernel
theorem dX10_overtakes_45 : decode cX10_overtakes 45 = .ok (.bipush 10, 2) := by decide +kernel
theorem dX10_overtakes_47 : decode cX10_overtakes 47 = .ok (.irem, 1) := by decide +kernel
theorem dX10_overtakes_48 : decode cX10_overtakes 48 = .ok (.istore_n 3, 1) := by decide +kernel
theorem dX10_overtakes_49 : decode cX10_overtakes 49 = .ok (.aload_n 0, 1) := by decide +kernel
theorem dX10_overtakes_50 : decode cX10_overtakes 50 = .ok (.getfield 22, 3) := by decide +kernel
theorem dX10_overtakes_53 : decode cX10_overtakes 53 = .ok (.iload_n 2, 1) := by decide +kernel
theorem dX10_overtakes_54 : decode cX10_overtakes 54 = .ok (.iaload, 1) := by decide +kernel
theorem dX10_overtakes_55 : decode cX10_overtakes 55 = .ok (.aload_n 0, 1) := by decide +kernel
theorem dX10_overtakes_56 : decode cX10_overtakes 56 = .ok (.getfield 22, 3) := by decide +kernel
theorem dX10_overtakes_59 : decode cX10_overtakes 59 = .ok (.iload_n 3, 1) := by decide +kernel
theorem dX10_overtakes_60 : decode cX10_overtakes 60 = .ok (.iaload, 1) := by decide +kernel
theorem dX10_overtakes_61 : decode cX10_overtakes 61 = .ok (.if_icmp .le 12, 3) := by decide +kernel
theorem dX10_overtakes_64 : decode cX10_overtakes 64 = .ok (.aload_n 0, 1) := by decide +kernel
theorem dX10_overtakes_65 : decode cX10_overtakes 65 = .ok (.getfield 22, 3) := by decide +kernel
theorem dX10_overtakes_68 : decode cX10_overtakes 68 = .ok (.iload_n 2, 1) := by decide +kernel
theorem dX10_overtakes_69 : decode cX10_overtakes 69 = .ok (.iaload, 1) := by decide +kernel
theorem dX10_overtakes_70 : decode cX10_overtakes 70 = .ok (.goto 9, 3) := by decide +kernel
theorem dX10_overtakes_73 : decode cX10_overtakes 73 = .ok (.aload_n 0, 1) := by decide +kernel
theorem dX10_overtakes_74 : decode cX10_overtakes 74 = .ok (.getfield 22, 3) := by decide +kernel
theorem dX10_overtakes_77 : decode cX10_overtakes 77 = .ok (.iload_n 3, 1) := by decide +kernel
theorem dX10_overtakes_78 : decode cX10_overtakes 78 = .ok (.iaload, 1) := by decide +kernel
theorem dX10_overtakes_79 : decode cX10_overtakes 79 = .ok (.istore 4, 2) := by decide +kernel
theorem dX10_overtakes_81 : decode cX10_overtakes 81 = .ok (.iload 4, 2) := by decide +kernel
theorem dX10_overtakes_83 : decode cX10_overtakes 83 = .ok (.iconst 1, 1) := by decide +kernel
theorem dX10_overtakes_84 : decode cX10_overtakes 84 = .ok (.iadd, 1) := by decide +kernel
theorem dX10_overtakes_85 : decode cX10_overtakes 85 = .ok (.istore 5, 2) := by decide +kernel
theorem dX10_overtakes_87 : decode cX10_overtakes 87 = .ok (.iload 5, 2) := by decide +kernel
theorem dX10_overtakes_89 : decode cX10_overtakes 89 = .ok (.sipush 600, 3) := by decide +kernel
theorem dX10_overtakes_92 : decode cX10_overtakes 92 = .ok (.if_icmp .ge 50, 3) := by decide +kernel
theorem dX10_overtakes_95 : decode cX10_overtakes 95 = .ok (.aload_n 0, 1) := by decide +kernel
theorem dX10_overtakes_96 : decode cX10_overtakes 96 = .ok (.iload_n 2, 1) := by decide +kernel
theorem dX10_overtakes_97 : decode cX10_overtakes 97 = .ok (.iload 5, 2) := by decide +kernel
theorem dX10_overtakes_99 : decode cX10_overtakes 99 = .ok (.invokevirtual 223, 3) := by decide +kernel
theorem dX10_overtakes_102 : decode cX10_overtakes 102 = .ok (.aload_n 0, 1) := by decide +kernel
theorem dX10_overtakes_103 : decode cX10_overtakes 103 = .ok (.iload_n 3, 1) := by decide +kernel
theorem dX10_overtakes_104 : decode cX10_overtakes 104 = .ok (.iload 5, 2) := by decide +kernel
theorem dX10_overtakes_106 : decode cX10_overtakes 106 = .ok (.invokevirtual 223, 3) := by decide +kernel
theorem dX10_overtakes_109 : decode cX10_overtakes 109 = .ok (.if_icmp .le 27, 3) := by decide +kernel
theorem dX10_overtakes_112 : decode cX10_overtakes 112 = .ok (.aload_n 0, 1) := by decide +kernel
theorem dX10_overtakes_113 : decode cX10_overtakes 113 = .ok (.iload_n 2, 1) := by decide +kernel
theorem dX10_overtakes_114 : decode cX10_overtakes 114 = .ok (.iload 5, 2) := by decide +kernel
theorem dX10_overtakes_116 : decode cX10_overtakes 116 = .ok (.iconst 1, 1) := by decide +kernel
theorem dX10_overtakes_117 : decode cX10_overtakes 117 = .ok (.isub, 1) := by decide +kernel
theorem dX10_overtakes_118 : decode cX10_overtakes 118 = .ok (.invokevirtual 223, 3) := by decide +kernel
theorem dX10_overtakes_121 : decode cX10_overtakes 121 = .ok (.aload_n 0, 1) := by decide +kernel
theorem dX10_overtakes_122 : decode cX10_overtakes 122 = .ok (.iload_n 3, 1) := by decide +kernel
theorem dX10_overtakes_123 : decode cX10_overtakes 123 = .ok (.iload 5, 2) := by decide +kernel
theorem dX10_overtakes_125 : decode cX10_overtakes 125 = .ok (.iconst 1, 1) := by decide +kernel
theorem dX10_overtakes_126 : decode cX10_overtakes 126 = .ok (.isub, 1) := by decide +kernel
theorem dX10_overtakes_127 : decode cX10_overtakes 127 = .ok (.invokevirtual 223, 3) := by decide +kernel
theorem dX10_overtakes_130 : decode cX10_overtakes 130 = .ok (.if_icmp .gt 6, 3) := by decide +kernel
theorem dX10_overtakes_133 : decode cX10_overtakes 133 = .ok (.iload 5, 2) := by decide +kernel
theorem dX10_overtakes_135 : decode cX10_overtakes 135 = .ok (.ireturn, 1) := by decide +kernel
theorem dX10_overtakes_136 : decode cX10_overtakes 136 = .ok (.iinc 5 1, 3) := by decide +kernel
theorem dX10_overtakes_139 : decode cX10_overtakes 139 = .ok (.goto (-52), 3) := by decide +kernel
theorem dX10_overtakes_142 : decode cX10_overtakes 142 = .ok (.bipush (-2), 2) := by decide +kernel
theorem dX10_overtakes_144 : decode cX10_overtakes 144 = .ok (.ireturn, 1) := by decide +kernel
theorem dX10_enough_0 : decode cX10_enough 0 = .ok (.aload_n 0, 1) := by decide +kernel
theorem dX10_enough_1 : decode cX10_enough 1 = .ok (.iload_n 1, 1) := by decide +kernel
theorem dX10_enough_2 : decode cX10_enough 2 = .ok (.invokevirtual 220, 3) := by decide +kernel
theorem dX10_enough_5 : decode cX10_enough 5 = .ok (.ifCond .eq 22, 3) := by decide +kernel
theorem dX10_enough_8 : decode cX10_enough 8 = .ok (.iload_n 2, 1) := by decide +kernel
theorem dX10_enough_9 : decode cX10_enough 9 = .ok (.invokestatic 138, 3) := by decide +kernel
theorem dX10_enough_12 : decode cX10_enough 12 = .ok (.ifCond .eq 15, 3) := by decide +kernel
theorem dX10_enough_15 : decode cX10_enough 15 = .ok (.iload_n 3, 1) := by decide +kernel
theorem dX10_enough_16 : decode cX10_enough 16 = .ok (.i2l, 1) := by decide +kernel
theorem dX10_enough_17 : decode cX10_enough 17 = .ok (.lconst 1, 1) := by decide +kernel
theorem dX10_enough_18 : decode cX10_enough 18 = .ok (.ldc2_w 141, 3) := by decide +kernel
theorem dX10_enough_21 : decode cX10_enough 21 = .ok (.invokestatic 110, 3) := by decide +kernel
theorem dX10_enough_24 : decode cX10_enough 24 = .ok (.ifCond .ne 7, 3) := by decide +kernel
theorem dX10_enough_27 : decode cX10_enough 27 = .ok (.ldc_w 259, 3) := by decide +kernel
theorem dX10_enough_30 : decode cX10_enough 30 = .ok (.ireturn, 1) := by decide +kernel
theorem dX10_enough_31 : decode cX10_enough 31 = .ok (.aload_n 0, 1) := by decide +kernel
theorem dX10_enough_32 : decode cX10_enough 32 = .ok (.iload_n 1, 1) := by decide +kernel
theorem dX10_enough_33 : decode cX10_enough 33 = .ok (.invokevirtual 316, 3) := by decide +kernel
theorem dX10_enough_36 : decode cX10_enough 36 = .ok (.istore 4, 2) := by decide +kernel
theorem dX10_enough_38 : decode cX10_enough 38 = .ok (.aload_n 0, 1) := by decide +kernel
theorem dX10_enough_39 : decode cX10_enough 39 = .ok (.iload_n 2, 1) := by decide +kernel
theorem dX10_enough_40 : decode cX10_enough 40 = .ok (.iload_n 3, 1) := by decide +kernel
theorem dX10_enough_41 : decode cX10_enough 41 = .ok (.invokevirtual 146, 3) := by decide +kernel
theorem dX10_enough_44 : decode cX10_enough 44 = .ok (.aload_n 0, 1) := by decide +kernel
theorem dX10_enough_45 : decode cX10_enough 45 = .ok (.iload_n 1, 1) := by decide +kernel
theorem dX10_enough_46 : decode cX10_enough 46 = .ok (.invokevirtual 316, 3) := by decide +kernel
theorem dX10_enough_49 : decode cX10_enough 49 = .ok (.istore 5, 2) := by decide +kernel
theorem dX10_enough_51 : decode cX10_enough 51 = .ok (.aload_n 0, 1) := by decide +kernel
theorem dX10_enough_52 : decode cX10_enough 52 = .ok (.dup, 1) := by decide +kernel
theorem dX10_enough_53 : decode cX10_enough 53 = .ok (.getfield 143, 3) := by decide +kernel
theorem dX10_enough_56 : decode cX10_enough 56 = .ok (.iconst 1, 1) := by decide +kernel
theorem dX10_enough_57 : decode cX10_enough 57 = .ok (.isub, 1) := by decide +kernel
theorem dX10_enough_58 : decode cX10_enough 58 = .ok (.putfield 143, 3) := by decide +kernel
theorem dX10_enough_61 : decode cX10_enough 61 = .ok (.aload_n 0, 1) := by decide +kernel
theorem dX10_enough_62 : decode cX10_enough 62 = .ok (.iconst 0, 1) := by decide +kernel
theorem dX10_enough_63 : decode cX10_enough 63 = .ok (.putfield 103, 3) := by decide +kernel
theorem dX10_enough_66 : decode cX10_enough 66 = .ok (.iload 5, 2) := by decide +kernel
theorem dX10_enough_68 : decode cX10_enough 68 = .ok (.iload 4, 2) := by decide +kernel
theorem dX10_enough_70 : decode cX10_enough 70 = .ok (.isub, 1) := by decide +kernel
theorem dX10_enough_71 : decode cX10_enough 71 = .ok (.ireturn, 1) := by decide +kernel
theorem dX10_nearest_0 : decode cX10_nearest 0 = .ok (.bipush (-2), 2) := by decide +kernel
theorem dX10_nearest_2 : decode cX10_nearest 2 = .ok (.istore_n 3, 1) := by decide +kernel
theorem dX10_nearest_3 : decode cX10_nearest 3 = .ok (.iconst 0, 1) := by decide +kernel
theorem dX10_nearest_4 : decode cX10_nearest 4 = .ok (.istore 4, 2) := by decide +kernel
theorem dX10_nearest_6 : decode cX10_nearest 6 = .ok (.iconst 0, 1) := by decide +kernel
theorem dX10_nearest_7 : decode cX10_nearest 7 = .ok (.istore 5, 2) := by decide +kernel
theorem dX10_nearest_9 : decode cX10_nearest 9 = .ok (.iload 5, 2) := by decide +kernel
theorem dX10_nearest_11 : decode cX10_nearest 11 = .ok (.aload_n 0, 1) := by decide +kernel
theorem dX10_nearest_12 : decode cX10_nearest 12 = .ok (.getfield 107, 3) := by decide +kernel
theorem dX10_nearest_15 : decode cX10_nearest 15 = .ok (.if_icmp .ge 43, 3) := by decide +kernel
theorem dX10_nearest_18 : decode cX10_nearest 18 = .ok (.aload_n 0, 1) := by decide +kernel
theorem dX10_nearest_19 : decode cX10_nearest 19 = .ok (.iload_n 1, 1) := by decide +kernel
theorem dX10_nearest_20 : decode cX10_nearest 20 = .ok (.iload 5, 2) := by decide +kernel
theorem dX10_nearest_22 : decode cX10_nearest 22 = .ok (.iload_n 2, 1) := by decide +kernel
theorem dX10_nearest_23 : decode cX10_nearest 23 = .ok (.iconst 0, 1) := by decide +kernel
theorem dX10_nearest_24 : decode cX10_nearest 24 = .ok (.invokevirtual 276, 3) := by decide +kernel
theorem dX10_nearest_27 : decode cX10_nearest 27 = .ok (.istore 6, 2) := by decide +kernel
theorem dX10_nearest_29 : decode cX10_nearest 29 = .ok (.iload 6, 2) := by decide +kernel
theorem dX10_nearest_31 : decode cX10_nearest 31 = .ok (.ifCond .lt 21, 3) := by decide +kernel
theorem dX10_nearest_34 : decode cX10_nearest 34 = .ok (.iload_n 3, 1) := by decide +kernel
theorem dX10_nearest_35 : decode cX10_nearest 35 = .ok (.ifCond .lt 10, 3) := by decide +kernel
theorem dX10_nearest_38 : decode cX10_nearest 38 = .ok (.iload 6, 2) := by decide +kernel
theorem dX10_nearest_40 : decode cX10_nearest 40 = .ok (.iload 4, 2) := by decide +kernel
theorem dX10_nearest_42 : decode cX10_nearest 42 = .ok (.if_icmp .ge 10, 3) := by decide +kernel
theorem dX10_nearest_45 : decode cX10_nearest 45 = .ok (.iload 5, 2) := by decide +kernel
theorem dX10_nearest_47 : decode cX10_nearest 47 = .ok (.istore_n 3, 1) := by decide +kernel
theorem dX10_nearest_48 : decode cX10_nearest 48 = .ok (.iload 6, 2) := by decide +kernel
theorem dX10_nearest_50 : decode cX10_nearest 50 = .ok (.istore 4, 2) := by decide +kernel
theorem dX10_nearest_52 : decode cX10_nearest 52 = .ok (.iinc 5 1, 3) := by decide +kernel
theorem dX10_nearest_55 : decode cX10_nearest 55 = .ok (.goto (-46), 3) := by decide +kernel
theorem dX10_nearest_58 : decode cX10_nearest 58 = .ok (.iload_n 3, 1) := by decide +kernel
theorem dX10_nearest_59 : decode cX10_nearest 59 = .ok (.ireturn, 1) := by decide +kernel
theorem dX10_slips_0 : decode cX10_slips 0 = .ok (.aload_n 0, 1) := by decide +kernel
theorem dX10_slips_1 : decode cX10_slips 1 = .ok (.iload_n 1, 1) := by decide +kernel
theorem dX10_slips_2 : decode cX10_slips 2 = .ok (.invokevirtual 220, 3) := by decide +kernel
theorem dX10_slips_5 : decode cX10_slips 5 = .ok (.ifCond .eq 31, 3) := by decide +kernel
theorem dX10_slips_8 : decode cX10_slips 8 = .ok (.iload_n 2, 1) := by decide +kernel
theorem dX10_slips_9 : decode cX10_slips 9 = .ok (.invokestatic 124, 3) := by decide +kernel
theorem dX10_slips_12 : decode cX10_slips 12 = .ok (.ifCond .eq 24, 3) := by decide +kernel
theorem dX10_slips_15 : decode cX10_slips 15 = .ok (.iload 4, 2) := by decide +kernel
theorem dX10_slips_17 : decode cX10_slips 17 = .ok (.ifCond .lt 19, 3) := by decide +kernel
theorem dX10_slips_20 : decode cX10_slips 20 = .ok (.iload 4, 2) := by decide +kernel
theorem dX10_slips_22 : decode cX10_slips 22 = .ok (.bipush 100, 2) := by decide +kernel
theorem dX10_slips_24 : decode cX10_slips 24 = .ok (.idiv, 1) := by decide +kernel
theorem dX10_slips_25 : decode cX10_slips 25 = .ok (.i2l, 1) := by decide +kernel
theorem dX10_slips_26 : decode cX10_slips 26 = .ok (.lconst 1, 1) := by decide +kernel
theorem dX10_slips_27 : decode cX10_slips 27 = .ok (.ldc2_w 333, 3) := by decide +kernel
theorem dX10_slips_30 : decode cX10_slips 30 = .ok (.invokestatic 110, 3) := by decide +kernel
theorem dX10_slips_33 : decode cX10_slips 33 = .ok (.ifCond .ne 5, 3) := by decide +kernel
theorem dX10_slips_36 : decode cX10_slips 36 = .ok (.iconst (-1), 1) := by decide +kernel
theorem dX10_slips_37 : decode cX10_slips 37 = .ok (.ireturn, 1) := by decide +kernel
theorem dX10_slips_38 : decode cX10_slips 38 = .ok (.iload_n 2, 1) := by decide +kernel
theorem dX10_slips_39 : decode cX10_slips 39 = .ok (.aload_n 0, 1) := by decide +kernel
theorem dX10_slips_40 : decode cX10_slips 40 = .ok (.getfield 22, 3) := by decide +kernel
theorem dX10_slips_43 : decode cX10_slips 43 = .ok (.iload_n 1, 1) := by decide +kernel
theorem dX10_slips_44 : decode cX10_slips 44 = .ok (.iaload, 1) := by decide +kernel
theorem dX10_slips_45 : decode cX10_slips 45 = .ok (.if_icmp .ge 6, 3) := by decide +kernel
theorem dX10_slips_48 : decode cX10_slips 48 = .ok (.bipush (-2), 2) := by decide +kernel
theorem dX10_slips_50 : decode cX10_slips 50 = .ok (.ireturn, 1) := by decide +kernel
theorem dX10_slips_51 : decode cX10_slips 51 = .ok (.iload 4, 2) := by decide +kernel
theorem dX10_slips_53 : decode cX10_slips 53 = .ok (.bipush 100, 2) := by decide +kernel
theorem dX10_slips_55 : decode cX10_slips 55 = .ok (.irem, 1) := by decide +kernel
theorem dX10_slips_56 : decode cX10_slips 56 = .ok (.istore 5, 2) := by decide +kernel
theorem dX10_slips_58 : decode cX10_slips 58 = .ok (.iload_n 3, 1) := by decide +kernel
theorem dX10_slips_59 : decode cX10_slips 59 = .ok (.istore 6, 2) := by decide +kernel
theorem dX10_slips_61 : decode cX10_slips 61 = .ok (.iconst 0, 1) := by decide +kernel
theorem dX10_slips_62 : decode cX10_slips 62 = .ok (.istore 7, 2) := by decide +kernel
theorem dX10_slips_64 : decode cX10_slips 64 = .ok (.iconst 0, 1) := by decide +kernel
theorem dX10_slips_65 : decode cX10_slips 65 = .ok (.istore 8, 2) := by decide +kernel
theorem dX10_slips_67 : decode cX10_slips 67 = .ok (.iload 8, 2) := by decide +kernel
theorem dX10_slips_69 : decode cX10_slips 69 = .ok (.iload 4, 2) := by decide +kernel
theorem dX10_slips_71 : decode cX10_slips 71 = .ok (.bipush 100, 2) := by decide +kernel
theorem dX10_slips_73 : decode cX10_slips 73 = .ok (.idiv, 1) := by decide +kernel
theorem dX10_slips_74 : decode cX10_slips 74 = .ok (.if_icmp .ge 62, 3) := by decide +kernel
theorem dX10_slips_77 : decode cX10_slips 77 = .ok (.iload 6, 2) := by decide +kernel
theorem dX10_slips_79 : decode cX10_slips 79 = .ok (.ldc_w 335, 3) := by decide +kernel
theorem dX10_slips_82 : decode cX10_slips 82 = .ok (.imul, 1) := by decide +kernel
theorem dX10_slips_83 : decode cX10_slips 83 = .ok (.sipush 12345, 3) := by decide +kernel
theorem dX10_slips_86 : decode cX10_slips 86 = .ok (.iadd, 1) := by decide +kernel
theorem dX10_slips_87 : decode cX10_slips 87 = .ok (.istore 6, 2) := by decide +kernel
theorem dX10_slips_89 : decode cX10_slips 89 = .ok (.iload 7, 2) := by decide +kernel
theorem dX10_slips_91 : decode cX10_slips 91 = .ok (.aload_n 0, 1) := by decide +kernel
theorem dX10_slips_92 : decode cX10_slips 92 = .ok (.aload_n 0, 1) := by decide +kernel
theorem dX10_slips_93 : decode cX10_slips 93 = .ok (.iload_n 1, 1) := by decide +kernel
theorem dX10_slips_94 : decode cX10_slips 94 = .ok (.iload_n 2, 1) := by decide +kernel
theorem dX10_slips_95 : decode cX10_slips 95 = .ok (.invokevirtual 223, 3) := by decide +kernel
theorem dX10_slips_98 : decode cX10_slips 98 = .ok (.iload 6, 2) := by decide +kernel
theorem dX10_slips_100 : decode cX10_slips 100 = .ok (.bipush 8, 2) := by decide +kernel
theorem dX10_slips_102 : decode cX10_slips 102 = .ok (.iushr, 1) := by decide +kernel
theorem dX10_slips_103 : decode cX10_slips 103 = .ok (.iconst 2, 1) := by decide +kernel
theorem dX10_slips_104 : decode cX10_slips 104 = .ok (.iload 5, 2) := by decide +kernel
theorem dX10_slips_106 : decode cX10_slips 106 = .ok (.imul, 1) := by decide +kernel
theorem dX10_slips_107 : decode cX10_slips 107 = .ok (.iconst 1, 1) := by decide +kernel
theorem dX10_slips_108 : decode cX10_slips 108 = .ok (.iadd, 1) := by decide +kernel
theorem dX10_slips_109 : decode cX10_slips 109 = .ok (.irem, 1) := by decide +kernel
theorem dX10_slips_110 : decode cX10_slips 110 = .ok (.iadd, 1) := by decide +kernel
theorem dX10_slips_111 : decode cX10_slips 111 = .ok (.iload 5, 2) := by decide +kernel
theorem dX10_slips_113 : decode cX10_slips 113 = .ok (.isub, 1) := by decide +kernel
theorem dX10_slips_114 : decode cX10_slips 114 = .ok (.iload_n 2, 1) := by decide +kernel
theorem dX10_slips_115 : decode cX10_slips 115 = .ok (.invokevirtual 336, 3) := by decide +kernel
theorem dX10_slips_118 : decode cX10_slips 118 = .ok (.iload_n 1, 1) := by decide +kernel
theorem dX10_slips_119 : decode cX10_slips 119 = .ok (.if_icmp .ne 7, 3) := by decide +kernel
theorem dX10_slips_122 : decode cX10_slips 122 = .ok (.iconst 1, 1) := by decide +kernel
theorem dX10_slips_123 : decode cX10_slips 123 = .ok (.goto 4, 3) := by decide +kernel
theorem dX10_slips_126 : decode cX10_slips 126 = .ok (.iconst 0, 1) := by decide +kernel
theorem dX10_slips_127 : decode cX10_slips 127 = .ok (.iadd, 1) := by decide +kernel
theorem dX10_slips_128 : decode cX10_slips 128 = .ok (.istore 7, 2) := by decide +kernel
theorem dX10_slips_130 : decode cX10_slips 130 = .ok (.iinc 8 1, 3) := by decide +kernel
theorem dX10_slips_133 : decode cX10_slips 133 = .ok (.goto (-66), 3) := by decide +kernel
theorem dX10_slips_136 : decode cX10_slips 136 = .ok (.iload 7, 2) := by decide +kernel
theorem dX10_slips_138 : decode cX10_slips 138 = .ok (.ireturn, 1) := by decide +kernel
theorem dX10_isBody_0 : decode cX10_isBody 0 = .ok (.iload_n 1, 1) := by decide +kernel
theorem dX10_isBody_1 : decode cX10_isBody 1 = .ok (.i2l, 1) := by decide +kernel
theorem dX10_isBody_2 : decode cX10_isBody 2 = .ok (.lconst 0, 1) := by decide +kernel
theorem dX10_isBody_3 : decode cX10_isBody 3 = .ok (.aload_n 0, 1) := by decide +kernel
theorem dX10_isBody_4 : decode cX10_isBody 4 = .ok (.getfield 339, 3) := by decide +kernel
theorem dX10_isBody_7 : decode cX10_isBody 7 = .ok (.iconst 1, 1) := by decide +kernel
theorem dX10_isBody_8 : decode cX10_isBody 8 = .ok (.isub, 1) := by decide +kernel
theorem dX10_isBody_9 : decode cX10_isBody 9 = .ok (.i2l, 1) := by decide +kernel
theorem dX10_isBody_10 : decode cX10_isBody 10 = .ok (.invokestatic 110, 3) := by decide +kernel
theorem dX10_isBody_13 : decode cX10_isBody 13 = .ok (.ireturn, 1) := by decide +kernel
theorem dX10_kindOf_0 : decode cX10_kindOf 0 = .ok (.aload_n 0, 1) := by decide +kernel
theorem dX10_kindOf_1 : decode cX10_kindOf 1 = .ok (.getfield 71, 3) := by decide +kernel
theorem dX10_kindOf_4 : decode cX10_kindOf 4 = .ok (.iload_n 1, 1) := by decide +kernel
theorem dX10_kindOf_5 : decode cX10_kindOf 5 = .ok (.iaload, 1) := by decide +kernel
theorem dX10_kindOf_6 : decode cX10_kindOf 6 = .ok (.ireturn, 1) := by decide +kernel
theorem dX10_body_0 : decode cX10_body 0 = .ok (.iload_n 1, 1) := by decide +kernel
theorem dX10_body_1 : decode cX10_body 1 = .ok (.i2l, 1) := by decide +kernel
theorem dX10_body_2 : decode cX10_body 2 = .ok (.lconst 0, 1) := by decide +kernel
theorem dX10_body_3 : decode cX10_body 3 = .ok (.ldc2_w 342, 3) := by decide +kernel
theorem dX10_body_6 : decode cX10_body 6 = .ok (.invokestatic 110, 3) := by decide +kernel
theorem dX10_body_9 : decode cX10_body 9 = .ok (.ifCond .ne 5, 3) := by decide +kernel
theorem dX10_body_12 : decode cX10_body 12 = .ok (.iconst (-1), 1) := by decide +kernel
theorem dX10_body_13 : decode cX10_body 13 = .ok (.ireturn, 1) := by decide +kernel
theorem dX10_body_14 : decode cX10_body 14 = .ok (.aload_n 0, 1) := by decide +kernel
theorem dX10_body_15 : decode cX10_body 15 = .ok (.getfield 339, 3) := by decide +kernel
theorem dX10_body_18 : decode cX10_body 18 = .ok (.bipush 50, 2) := by decide +kernel
theorem dX10_body_20 : decode cX10_body 20 = .ok (.if_icmp .ne 6, 3) := by decide +kernel
theorem dX10_body_23 : decode cX10_body 23 = .ok (.bipush (-3), 2) := by decide +kernel
theorem dX10_body_25 : decode cX10_body 25 = .ok (.ireturn, 1) := by decide +kernel
theorem dX10_body_26 : decode cX10_body 26 = .ok (.aload_n 0, 1) := by decide +kernel
theorem dX10_body_27 : decode cX10_body 27 = .ok (.getfield 71, 3) := by decide +kernel
theorem dX10_body_30 : decode cX10_body 30 = .ok (.aload_n 0, 1) := by decide +kernel
theorem dX10_body_31 : decode cX10_body 31 = .ok (.getfield 339, 3) := by decide +kernel
theorem dX10_body_34 : decode cX10_body 34 = .ok (.iload_n 1, 1) := by decide +kernel
theorem dX10_body_35 : decode cX10_body 35 = .ok (.iastore, 1) := by decide +kernel
theorem dX10_body_36 : decode cX10_body 36 = .ok (.aload_n 0, 1) := by decide +kernel
theorem dX10_body_37 : decode cX10_body 37 = .ok (.dup, 1) := by decide +kernel
theorem dX10_body_38 : decode cX10_body 38 = .ok (.getfield 339, 3) := by decide +kernel
theorem dX10_body_41 : decode cX10_body 41 = .ok (.iconst 1, 1) := by decide +kernel
theorem dX10_body_42 : decode cX10_body 42 = .ok (.iadd, 1) := by decide +kernel
theorem dX10_body_43 : decode cX10_body 43 = .ok (.putfield 339, 3) := by decide +kernel
theorem dX10_body_46 : decode cX10_body 46 = .ok (.aload_n 0, 1) := by decide +kernel
theorem dX10_body_47 : decode cX10_body 47 = .ok (.getfield 339, 3) := by decide +kernel
theorem dX10_body_50 : decode cX10_body 50 = .ok (.iconst 1, 1) := by decide +kernel
theorem dX10_body_51 : decode cX10_body 51 = .ok (.isub, 1) := by decide +kernel
theorem dX10_body_52 : decode cX10_body 52 = .ok (.ireturn, 1) := by decide +kernel
theorem dX10_above_0 : decode cX10_above 0 = .ok (.iload_n 0, 1) := by decide +kernel
theorem dX10_above_1 : decode cX10_above 1 = .ok (.iconst 3, 1) := by decide +kernel
theorem dX10_above_2 : decode cX10_above 2 = .ok (.if_icmp .ne 7, 3) := by decide +kernel
theorem dX10_above_5 : decode cX10_above 5 = .ok (.iconst 1, 1) := by decide +kernel
theorem dX10_above_6 : decode cX10_above 6 = .ok (.goto 33, 3) := by decide +kernel
theorem dX10_above_9 : decode cX10_above 9 = .ok (.iload_n 0, 1) := by decide +kernel
theorem dX10_above_10 : decode cX10_above 10 = .ok (.iconst 5, 1) := by decide +kernel
theorem dX10_above_11 : decode cX10_above 11 = .ok (.if_icmp .ne 7, 3) := by decide +kernel
theorem dX10_above_14 : decode cX10_above 14 = .ok (.iconst 4, 1) := by decide +kernel
theorem dX10_above_15 : decode cX10_above 15 = .ok (.goto 24, 3) := by decide +kernel
theorem dX10_above_18 : decode cX10_above 18 = .ok (.iload_n 0, 1) := by decide +kernel
theorem dX10_above_19 : decode cX10_above 19 = .ok (.bipush 6, 2) := by decide +kernel
theorem dX10_above_21 : decode cX10_above 21 = .ok (.if_icmp .ne 7, 3) := by decide +kernel
theorem dX10_above_24 : decode cX10_above 24 = .ok (.iconst 3, 1) := by decide +kernel
theorem dX10_above_25 : decode cX10_above 25 = .ok (.goto 14, 3) := by decide +kernel
theorem dX10_above_28 : decode cX10_above 28 = .ok (.iload_n 0, 1) := by decide +kernel
theorem dX10_above_29 : decode cX10_above 29 = .ok (.bipush 7, 2) := by decide +kernel
theorem dX10_above_31 : decode cX10_above 31 = .ok (.if_icmp .ne 7, 3) := by decide +kernel
theorem dX10_above_34 : decode cX10_above 34 = .ok (.iconst 2, 1) := by decide +kernel
theorem dX10_above_35 : decode cX10_above 35 = .ok (.goto 4, 3) := by decide +kernel
theorem dX10_above_38 : decode cX10_above 38 = .ok (.iconst 0, 1) := by decide +kernel
theorem dX10_above_39 : decode cX10_above 39 = .ok (.ireturn, 1) := by decide +kernel
theorem dX10_begins_0 : decode cX10_begins 0 = .ok (.aload_n 0, 1) := by decide +kernel
theorem dX10_begins_1 : decode cX10_begins 1 = .ok (.getfield 344, 3) := by decide +kernel
theorem dX10_begins_4 : decode cX10_begins 4 = .ok (.bipush 24, 2) := by decide +kernel
theorem dX10_begins_6 : decode cX10_begins 6 = .ok (.if_icmp .ge 13, 3) := by decide +kernel
theorem dX10_begins_9 : decode cX10_begins 9 = .ok (.aload_n 0, 1) := by decide +kernel
theorem dX10_begins_10 : decode cX10_begins 10 = .ok (.getfield 74, 3) := by decide +kernel
theorem dX10_begins_13 : decode cX10_begins 13 = .ok (.aload_n 0, 1) := by decide +kernel
theorem dX10_begins_14 : decode cX10_begins 14 = .ok (.getfield 344, 3) := by decide +kernel
theorem dX10_begins_17 : decode cX10_begins 17 = .ok (.iload_n 1, 1) := by decide +kernel
theorem dX10_begins_18 : decode cX10_begins 18 = .ok (.iastore, 1) := by decide +kernel
theorem dX10_begins_19 : decode cX10_begins 19 = .ok (.aload_n 0, 1) := by decide +kernel
theorem dX10_begins_20 : decode cX10_begins 20 = .ok (.dup, 1) := by decide +kernel
theorem dX10_begins_21 : decode cX10_begins 21 = .ok (.getfield 344, 3) := by decide +kernel
theorem dX10_begins_24 : decode cX10_begins 24 = .ok (.iconst 1, 1) := by decide +kernel
theorem dX10_begins_25 : decode cX10_begins 25 = .ok (.iadd, 1) := by decide +kernel
theorem dX10_begins_26 : decode cX10_begins 26 = .ok (.putfield 344, 3) := by decide +kernel
theorem dX10_begins_29 : decode cX10_begins 29 = .ok (.return_, 1) := by decide +kernel
theorem dX10_growsAs_0 : decode cX10_growsAs 0 = .ok (.iload_n 1, 1) := by decide +kernel
theorem dX10_growsAs_1 : decode cX10_growsAs 1 = .ok (.bipush 6, 2) := by decide +kernel
theorem dX10_growsAs_3 : decode cX10_growsAs 3 = .ok (.if_icmp .ne 18, 3) := by decide +kernel
theorem dX10_growsAs_6 : decode cX10_growsAs 6 = .ok (.aload_n 0, 1) := by decide +kernel
theorem dX10_growsAs_7 : decode cX10_growsAs 7 = .ok (.bipush 70, 2) := by decide +kernel
theorem dX10_growsAs_9 : decode cX10_growsAs 9 = .ok (.invokevirtual 347, 3) := by decide +kernel
theorem dX10_growsAs_12 : decode cX10_growsAs 12 = .ok (.aload_n 0, 1) := by decide +kernel
theorem dX10_growsAs_13 : decode cX10_growsAs 13 = .ok (.iconst 3, 1) := by decide +kernel
theorem dX10_growsAs_14 : decode cX10_growsAs 14 = .ok (.iload_n 2, 1) := by decide +kernel
theorem dX10_growsAs_15 : decode cX10_growsAs 15 = .ok (.invokevirtual 350, 3) := by decide +kernel
theorem dX10_growsAs_18 : decode cX10_growsAs 18 = .ok (.iconst 2, 1) := by decide +kernel
theorem dX10_growsAs_19 : decode cX10_growsAs 19 = .ok (.imul, 1) := by decide +kernel
theorem dX10_growsAs_20 : decode cX10_growsAs 20 = .ok (.ireturn, 1) := by decide +kernel
theorem dX10_growsAs_21 : decode cX10_growsAs 21 = .ok (.iload_n 1, 1) := by decide +kernel
theorem dX10_growsAs_22 : decode cX10_growsAs 22 = .ok (.iconst 1, 1) := by decide +kernel
theorem dX10_growsAs_23 : decode cX10_growsAs 23 = .ok (.if_icmp .eq 8, 3) := by decide +kernel
theorem dX10_growsAs_26 : decode cX10_growsAs 26 = .ok (.iload_n 1, 1) := by decide +kernel
theorem dX10_growsAs_27 : decode cX10_growsAs 27 = .ok (.iconst 3, 1) := by decide +kernel
theorem dX10_growsAs_28 : decode cX10_growsAs 28 = .ok (.if_icmp .ne 18, 3) := by decide +kernel
theorem dX10_growsAs_31 : decode cX10_growsAs 31 = .ok (.aload_n 0, 1) := by decide +kernel
theorem dX10_growsAs_32 : decode cX10_growsAs 32 = .ok (.bipush 20, 2) := by decide +kernel
theorem dX10_growsAs_34 : decode cX10_growsAs 34 = .ok (.invokevirtual 347, 3) := by decide +kernel
theorem dX10_growsAs_37 : decode cX10_growsAs 37 = .ok (.aload_n 0, 1) := by decide +kernel
theorem dX10_growsAs_38 : decode cX10_growsAs 38 = .ok (.iconst 0, 1) := by decide +kernel
theorem dX10_growsAs_39 : decode cX10_growsAs 39 = .ok (.iload_n 2, 1) := by decide +kernel
theorem dX10_growsAs_40 : decode cX10_growsAs 40 = .ok (.invokevirtual 350, 3) := by decide +kernel
theorem dX10_growsAs_43 : decode cX10_growsAs 43 = .ok (.iconst 3, 1) := by decide +kernel
theorem dX10_growsAs_44 : decode cX10_growsAs 44 = .ok (.iadd, 1) := by decide +kernel
theorem dX10_growsAs_45 : decode cX10_growsAs 45 = .ok (.ireturn, 1) := by decide +kernel
theorem dX10_growsAs_46 : decode cX10_growsAs 46 = .ok (.aload_n 0, 1) := by decide +kernel
theorem dX10_growsAs_47 : decode cX10_growsAs 47 = .ok (.iconst 1, 1) := by decide +kernel
theorem dX10_growsAs_48 : decode cX10_growsAs 48 = .ok (.invokevirtual 347, 3) := by decide +kernel
theorem dX10_growsAs_51 : decode cX10_growsAs 51 = .ok (.iload_n 2, 1) := by decide +kernel
theorem dX10_growsAs_52 : decode cX10_growsAs 52 = .ok (.aload_n 0, 1) := by decide +kernel
theorem dX10_growsAs_53 : decode cX10_growsAs 53 = .ok (.getfield 353, 3) := by decide +kernel
theorem dX10_growsAs_56 : decode cX10_growsAs 56 = .ok (.iadd, 1) := by decide +kernel
theorem dX10_growsAs_57 : decode cX10_growsAs 57 = .ok (.ireturn, 1) := by decide +kernel
theorem dX10_standsAs_0 : decode cX10_standsAs 0 = .ok (.iload_n 1, 1) := by decide +kernel
theorem dX10_standsAs_1 : decode cX10_standsAs 1 = .ok (.iconst 3, 1) := by decide +kernel
theorem dX10_standsAs_2 : decode cX10_standsAs 2 = .ok (.if_icmp .eq 9, 3) := by decide +kernel
theorem dX10_standsAs_5 : decode cX10_standsAs 5 = .ok (.iload_n 1, 1) := by decide +kernel
theorem dX10_standsAs_6 : decode cX10_standsAs 6 = .ok (.bipush 6, 2) := by decide +kernel
theorem dX10_standsAs_8 : decode cX10_standsAs 8 = .ok (.if_icmp .ne 18, 3) := by decide +kernel
theorem dX10_standsAs_11 : decode cX10_standsAs 11 = .ok (.aload_n 0, 1) := by decide +kernel
theorem dX10_standsAs_12 : decode cX10_standsAs 12 = .ok (.bipush 41, 2) := by decide +kernel
theorem dX10_standsAs_14 : decode cX10_standsAs 14 = .ok (.invokevirtual 347, 3) := by decide +kernel
theorem dX10_standsAs_17 : decode cX10_standsAs 17 = .ok (.aload_n 0, 1) := by decide +kernel
theorem dX10_standsAs_18 : decode cX10_standsAs 18 = .ok (.iconst 1, 1) := by decide +kernel
theorem dX10_standsAs_19 : decode cX10_standsAs 19 = .ok (.iload_n 2, 1) := by decide +kernel
theorem dX10_standsAs_20 : decode cX10_standsAs 20 = .ok (.iconst 1, 1) := by decide +kernel
theorem dX10_standsAs_21 : decode cX10_standsAs 21 = .ok (.iadd, 1) := by decide +kernel
theorem dX10_standsAs_22 : decode cX10_standsAs 22 = .ok (.invokevirtual 356, 3) := by decide +kernel
theorem dX10_standsAs_25 : decode cX10_standsAs 25 = .ok (.ireturn, 1) := by decide +kernel
theorem dX10_standsAs_26 : decode cX10_standsAs 26 = .ok (.iload_n 1, 1) := by decide +kernel
theorem dX10_standsAs_27 : decode cX10_standsAs 27 = .ok (.bipush 7, 2) := by decide +kernel
theorem dX10_standsAs_29 : decode cX10_standsAs 29 = .ok (.if_icmp .ne 28, 3) := by decide +kernel
theorem dX10_standsAs_32 : decode cX10_standsAs 32 = .ok (.aload_n 0, 1) := by decide +kernel
theorem dX10_standsAs_33 : decode cX10_standsAs 33 = .ok (.bipush 80, 2) := by decide +kernel
theorem dX10_standsAs_35 : decode cX10_standsAs 35 = .ok (.invokevirtual 347, 3) := by decide +kernel
theorem dX10_standsAs_38 : decode cX10_standsAs 38 = .ok (.aload_n 0, 1) := by decide +kernel
theorem dX10_standsAs_39 : decode cX10_standsAs 39 = .ok (.iconst 2, 1) := by decide +kernel
theorem dX10_standsAs_40 : decode cX10_standsAs 40 = .ok (.iload_n 2, 1) := by decide +kernel
theorem dX10_standsAs_41 : decode cX10_standsAs 41 = .ok (.invokevirtual 356, 3) := by decide +kernel
theorem dX10_standsAs_44 : decode cX10_standsAs 44 = .ok (.istore_n 3, 1) := by decide +kernel
theorem dX10_standsAs_45 : decode cX10_standsAs 45 = .ok (.iload_n 3, 1) := by decide +kernel
theorem dX10_standsAs_46 : decode cX10_standsAs 46 = .ok (.aload_n 0, 1) := by decide +kernel
theorem dX10_standsAs_47 : decode cX10_standsAs 47 = .ok (.aload_n 0, 1) := by decide +kernel
theorem dX10_standsAs_48 : decode cX10_standsAs 48 = .ok (.getfield 359, 3) := by decide +kernel
theorem dX10_standsAs_51 : decode cX10_standsAs 51 = .ok (.iconst 2, 1) := by decide +kernel
theorem dX10_standsAs_52 : decode cX10_standsAs 52 = .ok (.invokevirtual 362, 3) := by decide +kernel
theorem dX10_standsAs_55 : decode cX10_standsAs 55 = .ok (.iadd, 1) := by decide +kernel
theorem dX10_standsAs_56 : decode cX10_standsAs 56 = .ok (.ireturn, 1) := by decide +kernel
theorem dX10_standsAs_57 : decode cX10_standsAs 57 = .ok (.iload_n 1, 1) := by decide +kernel
theorem dX10_standsAs_58 : decode cX10_standsAs 58 = .ok (.iconst 2, 1) := by decide +kernel
theorem dX10_standsAs_59 : decode cX10_standsAs 59 = .ok (.if_icmp .ne 17, 3) := by decide +kernel
theorem dX10_standsAs_62 : decode cX10_standsAs 62 = .ok (.aload_n 0, 1) := by decide +kernel
theorem dX10_standsAs_63 : decode cX10_standsAs 63 = .ok (.bipush 30, 2) := by decide +kernel
theorem dX10_standsAs_65 : decode cX10_standsAs 65 = .ok (.invokevirtual 347, 3) := by decide +kernel
theorem dX10_standsAs_68 : decode cX10_standsAs 68 = .ok (.aload_n 0, 1) := by decide +kernel
theorem dX10_standsAs_69 : decode cX10_standsAs 69 = .ok (.iconst 0, 1) := by decide +kernel
theorem dX10_standsAs_70 : decode cX10_standsAs 70 = .ok (.iload_n 2, 1) := by decide +kernel
theorem dX10_standsAs_71 : decode cX10_standsAs 71 = .ok (.invokevirtual 356, 3) := by decide +kernel
theorem dX10_standsAs_74 : decode cX10_standsAs 74 = .ok (.ineg, 1) := by decide +kernel
theorem dX10_standsAs_75 : decode cX10_standsAs 75 = .ok (.ireturn, 1) := by decide +kernel
theorem dX10_standsAs_76 : decode cX10_standsAs 76 = .ok (.aload_n 0, 1) := by decide +kernel
theorem dX10_standsAs_77 : decode cX10_standsAs 77 = .ok (.bipush 10, 2) := by decide +kernel
theorem dX10_standsAs_79 : decode cX10_standsAs 79 = .ok (.invokevirtual 347, 3) := by decide +kernel
theorem dX10_standsAs_82 : decode cX10_standsAs 82 = .ok (.aload_n 0, 1) := by decide +kernel
theorem dX10_standsAs_83 : decode cX10_standsAs 83 = .ok (.aload_n 0, 1) := by decide +kernel
theorem dX10_standsAs_84 : decode cX10_standsAs 84 = .ok (.getfield 359, 3) := by decide +kernel
theorem dX10_standsAs_87 : decode cX10_standsAs 87 = .ok (.iload_n 2, 1) := by decide +kernel
theorem dX10_standsAs_88 : decode cX10_standsAs 88 = .ok (.invokevirtual 350, 3) := by decide +kernel
theorem dX10_standsAs_91 : decode cX10_standsAs 91 = .ok (.iconst 2, 1) := by decide +kernel
theorem dX10_standsAs_92 : decode cX10_standsAs 92 = .ok (.imul, 1) := by decide +kernel
theorem dX10_standsAs_93 : decode cX10_standsAs 93 = .ok (.ireturn, 1) := by decide +kernel
theorem dX10_marksAs_0 : decode cX10_marksAs 0 = .ok (.iload_n 1, 1) := by decide +kernel
theorem dX10_marksAs_1 : decode cX10_marksAs 1 = .ok (.iconst 3, 1) := by decide +kernel
theorem dX10_marksAs_2 : decode cX10_marksAs 2 = .ok (.if_icmp .eq 9, 3) := by decide +kernel
theorem dX10_marksAs_5 : decode cX10_marksAs 5 = .ok (.iload_n 1, 1) := by decide +kernel
theorem dX10_marksAs_6 : decode cX10_marksAs 6 = .ok (.bipush 6, 2) := by decide +kernel
theorem dX10_marksAs_8 : decode cX10_marksAs 8 = .ok (.if_icmp .ne 18, 3) := by decide +kernel
theorem dX10_marksAs_11 : decode cX10_marksAs 11 = .ok (.aload_n 0, 1) := by decide +kernel
theorem dX10_marksAs_12 : decode cX10_marksAs 12 = .ok (.bipush 40, 2) := by decide +kernel
theorem dX10_marksAs_14 : decode cX10_marksAs 14 = .ok (.invokevirtual 347, 3) := by decide +kernel
theorem dX10_marksAs_17 : decode cX10_marksAs 17 = .ok (.aload_n 0, 1) := by decide +kernel
theorem dX10_marksAs_18 : decode cX10_marksAs 18 = .ok (.iconst 1, 1) := by decide +kernel
theorem dX10_marksAs_19 : decode cX10_marksAs 19 = .ok (.iload_n 2, 1) := by decide +kernel
theorem dX10_marksAs_20 : decode cX10_marksAs 20 = .ok (.invokevirtual 362, 3) := by decide +kernel
theorem dX10_marksAs_23 : decode cX10_marksAs 23 = .ok (.iconst 3, 1) := by decide +kernel
theorem dX10_marksAs_24 : decode cX10_marksAs 24 = .ok (.imul, 1) := by decide +kernel
theorem dX10_marksAs_25 : decode cX10_marksAs 25 = .ok (.ireturn, 1) := by decide +kernel
theorem dX10_marksAs_26 : decode cX10_marksAs 26 = .ok (.iload_n 1, 1) := by decide +kernel
theorem dX10_marksAs_27 : decode cX10_marksAs 27 = .ok (.iconst 4, 1) := by decide +kernel
theorem dX10_marksAs_28 : decode cX10_marksAs 28 = .ok (.if_icmp .eq 8, 3) := by decide +kernel
theorem dX10_marksAs_31 : decode cX10_marksAs 31 = .ok (.iload_n 1, 1) := by decide +kernel
theorem dX10_marksAs_32 : decode cX10_marksAs 32 = .ok (.iconst 5, 1) := by decide +kernel
theorem dX10_marksAs_33 : decode cX10_marksAs 33 = .ok (.if_icmp .ne 28, 3) := by decide +kernel
theorem dX10_marksAs_36 : decode cX10_marksAs 36 = .ok (.aload_n 0, 1) := by decide +kernel
theorem dX10_marksAs_37 : decode cX10_marksAs 37 = .ok (.bipush 50, 2) := by decide +kernel
theorem dX10_marksAs_39 : decode cX10_marksAs 39 = .ok (.invokevirtual 347, 3) := by decide +kernel
theorem dX10_marksAs_42 : decode cX10_marksAs 42 = .ok (.aload_n 0, 1) := by decide +kernel
theorem dX10_marksAs_43 : decode cX10_marksAs 43 = .ok (.iconst 0, 1) := by decide +kernel
theorem dX10_marksAs_44 : decode cX10_marksAs 44 = .ok (.iload_n 2, 1) := by decide +kernel
theorem dX10_marksAs_45 : decode cX10_marksAs 45 = .ok (.invokevirtual 362, 3) := by decide +kernel
theorem dX10_marksAs_48 : decode cX10_marksAs 48 = .ok (.istore_n 3, 1) := by decide +kernel
theorem dX10_marksAs_49 : decode cX10_marksAs 49 = .ok (.iload_n 3, 1) := by decide +kernel
theorem dX10_marksAs_50 : decode cX10_marksAs 50 = .ok (.aload_n 0, 1) := by decide +kernel
theorem dX10_marksAs_51 : decode cX10_marksAs 51 = .ok (.aload_n 0, 1) := by decide +kernel
theorem dX10_marksAs_52 : decode cX10_marksAs 52 = .ok (.getfield 359, 3) := by decide +kernel
theorem dX10_marksAs_55 : decode cX10_marksAs 55 = .ok (.iconst 2, 1) := by decide +kernel
theorem dX10_marksAs_56 : decode cX10_marksAs 56 = .ok (.invokevirtual 350, 3) := by decide +kernel
theorem dX10_marksAs_59 : decode cX10_marksAs 59 = .ok (.isub, 1) := by decide +kernel
theorem dX10_marksAs_60 : decode cX10_marksAs 60 = .ok (.ireturn, 1) := by decide +kernel
theorem dX10_marksAs_61 : decode cX10_marksAs 61 = .ok (.aload_n 0, 1) := by decide +kernel
theorem dX10_marksAs_62 : decode cX10_marksAs 62 = .ok (.bipush 11, 2) := by decide +kernel
theorem dX10_marksAs_64 : decode cX10_marksAs 64 = .ok (.invokevirtual 347, 3) := by decide +kernel
theorem dX10_marksAs_67 : decode cX10_marksAs 67 = .ok (.iload_n 2, 1) := by decide +kernel
theorem dX10_marksAs_68 : decode cX10_marksAs 68 = .ok (.aload_n 0, 1) := by decide +kernel
theorem dX10_marksAs_69 : decode cX10_marksAs 69 = .ok (.getfield 353, 3) := by decide +kernel
theorem dX10_marksAs_72 : decode cX10_marksAs 72 = .ok (.ixor, 1) := by decide +kernel
theorem dX10_marksAs_73 : decode cX10_marksAs 73 = .ok (.ireturn, 1) := by decide +kernel
theorem dX10_tellsAs_0 : decode cX10_tellsAs 0 = .ok (.iload_n 1, 1) := by decide +kernel
theorem dX10_tellsAs_1 : decode cX10_tellsAs 1 = .ok (.iconst 5, 1) := by decide +kernel
theorem dX10_tellsAs_2 : decode cX10_tellsAs 2 = .ok (.if_icmp .ne 18, 3) := by decide +kernel
theorem dX10_tellsAs_5 : decode cX10_tellsAs 5 = .ok (.aload_n 0, 1) := by decide +kernel
theorem dX10_tellsAs_6 : decode cX10_tellsAs 6 = .ok (.bipush 60, 2) := by decide +kernel
theorem dX10_tellsAs_8 : decode cX10_tellsAs 8 = .ok (.invokevirtual 347, 3) := by decide +kernel
theorem dX10_tellsAs_11 : decode cX10_tellsAs 11 = .ok (.aload_n 0, 1) := by decide +kernel
theorem dX10_tellsAs_12 : decode cX10_tellsAs 12 = .ok (.iconst 4, 1) := by decide +kernel
theorem dX10_tellsAs_13 : decode cX10_tellsAs 13 = .ok (.iload_n 2, 1) := by decide +kernel
theorem dX10_tellsAs_14 : decode cX10_tellsAs 14 = .ok (.invokevirtual 365, 3) := by decide +kernel
theorem dX10_tellsAs_17 : decode cX10_tellsAs 17 = .ok (.iconst 5, 1) := by decide +kernel
theorem dX10_tellsAs_18 : decode cX10_tellsAs 18 = .ok (.ixor, 1) := by decide +kernel
theorem dX10_tellsAs_19 : decode cX10_tellsAs 19 = .ok (.ireturn, 1) := by decide +kernel
theorem dX10_tellsAs_20 : decode cX10_tellsAs 20 = .ok (.iload_n 1, 1) := by decide +kernel
theorem dX10_tellsAs_21 : decode cX10_tellsAs 21 = .ok (.bipush 7, 2) := by decide +kernel
theorem dX10_tellsAs_23 : decode cX10_tellsAs 23 = .ok (.if_icmp .ne 18, 3) := by decide +kernel
theorem dX10_tellsAs_26 : decode cX10_tellsAs 26 = .ok (.aload_n 0, 1) := by decide +kernel
theorem dX10_tellsAs_27 : decode cX10_tellsAs 27 = .ok (.bipush 81, 2) := by decide +kernel
theorem dX10_tellsAs_29 : decode cX10_tellsAs 29 = .ok (.invokevirtual 347, 3) := by decide +kernel
theorem dX10_tellsAs_32 : decode cX10_tellsAs 32 = .ok (.aload_n 0, 1) := by decide +kernel
theorem dX10_tellsAs_33 : decode cX10_tellsAs 33 = .ok (.iconst 2, 1) := by decide +kernel
theorem dX10_tellsAs_34 : decode cX10_tellsAs 34 = .ok (.iload_n 2, 1) := by decide +kernel
theorem dX10_tellsAs_35 : decode cX10_tellsAs 35 = .ok (.invokevirtual 365, 3) := by decide +kernel
theorem dX10_tellsAs_38 : decode cX10_tellsAs 38 = .ok (.iconst 1, 1) := by decide +kernel
theorem dX10_tellsAs_39 : decode cX10_tellsAs 39 = .ok (.isub, 1) := by decide +kernel
theorem dX10_tellsAs_40 : decode cX10_tellsAs 40 = .ok (.ireturn, 1) := by decide +kernel
theorem dX10_tellsAs_41 : decode cX10_tellsAs 41 = .ok (.aload_n 0, 1) := by decide +kernel
theorem dX10_tellsAs_42 : decode cX10_tellsAs 42 = .ok (.iconst 2, 1) := by decide +kernel
theorem dX10_tellsAs_43 : decode cX10_tellsAs 43 = .ok (.invokevirtual 347, 3) := by decide +kernel
theorem dX10_tellsAs_46 : decode cX10_tellsAs 46 = .ok (.aload_n 0, 1) := by decide +kernel
theorem dX10_tellsAs_47 : decode cX10_tellsAs 47 = .ok (.aload_n 0, 1) := by decide +kernel
theorem dX10_tellsAs_48 : decode cX10_tellsAs 48 = .ok (.getfield 359, 3) := by decide +kernel
theorem dX10_tellsAs_51 : decode cX10_tellsAs 51 = .ok (.iload_n 2, 1) := by decide +kernel
theorem dX10_tellsAs_52 : decode cX10_tellsAs 52 = .ok (.invokevirtual 356, 3) := by decide +kernel
theorem dX10_tellsAs_55 : decode cX10_tellsAs 55 = .ok (.istore_n 3, 1) := by decide +kernel
theorem dX10_tellsAs_56 : decode cX10_tellsAs 56 = .ok (.iload_n 3, 1) := by decide +kernel
theorem dX10_tellsAs_57 : decode cX10_tellsAs 57 = .ok (.aload_n 0, 1) := by decide +kernel
theorem dX10_tellsAs_58 : decode cX10_tellsAs 58 = .ok (.aload_n 0, 1) := by decide +kernel
theorem dX10_tellsAs_59 : decode cX10_tellsAs 59 = .ok (.getfield 359, 3) := by decide +kernel
theorem dX10_tellsAs_62 : decode cX10_tellsAs 62 = .ok (.iconst 1, 1) := by decide +kernel
theorem dX10_tellsAs_63 : decode cX10_tellsAs 63 = .ok (.invokevirtual 362, 3) := by decide +kernel
theorem dX10_tellsAs_66 : decode cX10_tellsAs 66 = .ok (.isub, 1) := by decide +kernel
theorem dX10_tellsAs_67 : decode cX10_tellsAs 67 = .ok (.ireturn, 1) := by decide +kernel
theorem dX10_act_0 : decode cX10_act 0 = .ok (.aload_n 0, 1) := by decide +kernel
theorem dX10_act_1 : decode cX10_act 1 = .ok (.iconst 0, 1) := by decide +kernel
theorem dX10_act_2 : decode cX10_act 2 = .ok (.putfield 344, 3) := by decide +kernel
theorem dX10_act_5 : decode cX10_act 5 = .ok (.aload_n 0, 1) := by decide +kernel
theorem dX10_act_6 : decode cX10_act 6 = .ok (.iload_n 1, 1) := by decide +kernel
theorem dX10_act_7 : decode cX10_act 7 = .ok (.invokevirtual 368, 3) := by decide +kernel
theorem dX10_act_10 : decode cX10_act 10 = .ok (.ifCond .ne 5, 3) := by decide +kernel
theorem dX10_act_13 : decode cX10_act 13 = .ok (.iconst 0, 1) := by decide +kernel
theorem dX10_act_14 : decode cX10_act 14 = .ok (.ireturn, 1) := by decide +kernel
theorem dX10_act_15 : decode cX10_act 15 = .ok (.aload_n 0, 1) := by decide +kernel
theorem dX10_act_16 : decode cX10_act 16 = .ok (.aload_n 0, 1) := by decide +kernel
theorem dX10_act_17 : decode cX10_act 17 = .ok (.getfield 71, 3) := by decide +kernel
theorem dX10_act_20 : decode cX10_act 20 = .ok (.iload_n 1, 1) := by decide +kernel
theorem dX10_act_21 : decode cX10_act 21 = .ok (.iaload, 1) := by decide +kernel
theorem dX10_act_22 : decode cX10_act 22 = .ok (.putfield 359, 3) := by decide +kernel
theorem dX10_act_25 : decode cX10_act 25 = .ok (.aload_n 0, 1) := by decide +kernel
theorem dX10_act_26 : decode cX10_act 26 = .ok (.iload_n 1, 1) := by decide +kernel
theorem dX10_act_27 : decode cX10_act 27 = .ok (.putfield 353, 3) := by decide +kernel
theorem dX10_act_30 : decode cX10_act 30 = .ok (.iload_n 2, 1) := by decide +kernel
theorem dX10_act_31 : decode cX10_act 31 = .ok (.tableswitch 69 0 3 #[29, 39, 49, 59], 29) := by decide +kernel
theorem dX10_act_60 : decode cX10_act 60 = .ok (.aload_n 0, 1) := by decide +kernel
theorem dX10_act_61 : decode cX10_act 61 = .ok (.aload_n 0, 1) := by decide +kernel
theorem dX10_act_62 : decode cX10_act 62 = .ok (.getfield 359, 3) := by decide +kernel
theorem dX10_act_65 : decode cX10_act 65 = .ok (.iload_n 3, 1) := by decide +kernel
theorem dX10_act_66 : decode cX10_act 66 = .ok (.invokevirtual 350, 3) := by decide +kernel
theorem dX10_act_69 : decode cX10_act 69 = .ok (.ireturn, 1) := by decide +kernel
theorem dX10_act_70 : decode cX10_act 70 = .ok (.aload_n 0, 1) := by decide +kernel
theorem dX10_act_71 : decode cX10_act 71 = .ok (.aload_n 0, 1) := by decide +kernel
theorem dX10_act_72 : decode cX10_act 72 = .ok (.getfield 359, 3) := by decide +kernel
theorem dX10_act_75 : decode cX10_act 75 = .ok (.iload_n 3, 1) := by decide +kernel
theorem dX10_act_76 : decode cX10_act 76 = .ok (.invokevirtual 356, 3) := by decide +kernel
theorem dX10_act_79 : decode cX10_act 79 = .ok (.ireturn, 1) := by decide +kernel
theorem dX10_act_80 : decode cX10_act 80 = .ok (.aload_n 0, 1) := by decide +kernel
theorem dX10_act_81 : decode cX10_act 81 = .ok (.aload_n 0, 1) := by decide +kernel
theorem dX10_act_82 : decode cX10_act 82 = .ok (.getfield 359, 3) := by decide +kernel
theorem dX10_act_85 : decode cX10_act 85 = .ok (.iload_n 3, 1) := by decide +kernel
theorem dX10_act_86 : decode cX10_act 86 = .ok (.invokevirtual 362, 3) := by decide +kernel
theorem dX10_act_89 : decode cX10_act 89 = .ok (.ireturn, 1) := by decide +kernel
theorem dX10_act_90 : decode cX10_act 90 = .ok (.aload_n 0, 1) := by decide +kernel
theorem dX10_act_91 : decode cX10_act 91 = .ok (.aload_n 0, 1) := by decide +kernel
theorem dX10_act_92 : decode cX10_act 92 = .ok (.getfield 359, 3) := by decide +kernel
theorem dX10_act_95 : decode cX10_act 95 = .ok (.iload_n 3, 1) := by decide +kernel
theorem dX10_act_96 : decode cX10_act 96 = .ok (.invokevirtual 365, 3) := by decide +kernel
theorem dX10_act_99 : decode cX10_act 99 = .ok (.ireturn, 1) := by decide +kernel
theorem dX10_act_100 : decode cX10_act 100 = .ok (.iconst 0, 1) := by decide +kernel
theorem dX10_act_101 : decode cX10_act 101 = .ok (.ireturn, 1) := by decide +kernel
theorem dX10_trace_0 : decode cX10_trace 0 = .ok (.iload_n 1, 1) := by decide +kernel
theorem dX10_trace_1 : decode cX10_trace 1 = .ok (.ifCond .lt 26, 3) := by decide +kernel
theorem dX10_trace_4 : decode cX10_trace 4 = .ok (.iload_n 1, 1) := by decide +kernel
theorem dX10_trace_5 : decode cX10_trace 5 = .ok (.aload_n 0, 1) := by decide +kernel
theorem dX10_trace_6 : decode cX10_trace 6 = .ok (.getfield 344, 3) := by decide +kernel
theorem dX10_trace_9 : decode cX10_trace 9 = .ok (.if_icmp .ge 18, 3) := by decide +kernel
theorem dX10_trace_12 : decode cX10_trace 12 = .ok (.iload_n 1, 1) := by decide +kernel
theorem dX10_trace_13 : decode cX10_trace 13 = .ok (.bipush 24, 2) := by decide +kernel
theorem dX10_trace_15 : decode cX10_trace 15 = .ok (.if_icmp .ge 12, 3) := by decide +kernel
theorem dX10_trace_18 : decode cX10_trace 18 = .ok (.aload_n 0, 1) := by decide +kernel
theorem dX10_trace_19 : decode cX10_trace 19 = .ok (.getfield 74, 3) := by decide +kernel
theorem dX10_trace_22 : decode cX10_trace 22 = .ok (.iload_n 1, 1) := by decide +kernel
theorem dX10_trace_23 : decode cX10_trace 23 = .ok (.iaload, 1) := by decide +kernel
theorem dX10_trace_24 : decode cX10_trace 24 = .ok (.goto 4, 3) := by decide +kernel
theorem dX10_trace_27 : decode cX10_trace 27 = .ok (.iconst (-1), 1) := by decide +kernel
theorem dX10_trace_28 : decode cX10_trace 28 = .ok (.ireturn, 1) := by decide +kernel
theorem dX10_isShelf_0 : decode cX10_isShelf 0 = .ok (.iload_n 0, 1) := by decide +kernel
theorem dX10_isShelf_1 : decode cX10_isShelf 1 = .ok (.i2l, 1) := by decide +kernel
theorem dX10_isShelf_2 : decode cX10_isShelf 2 = .ok (.lconst 0, 1) := by decide +kernel
theorem dX10_isShelf_3 : decode cX10_isShelf 3 = .ok (.ldc2_w 371, 3) := by decide +kernel
theorem dX10_isShelf_6 : decode cX10_isShelf 6 = .ok (.invokestatic 110, 3) := by decide +kernel
theorem dX10_isShelf_9 : decode cX10_isShelf 9 = .ok (.ireturn, 1) := by decide +kernel
theorem dX10_keep_0 : decode cX10_keep 0 = .ok (.iload_n 1, 1) := by decide +kernel
theorem dX10_keep_1 : decode cX10_keep 1 = .ok (.invokestatic 245, 3) := by decide +kernel
theorem dX10_keep_4 : decode cX10_keep 4 = .ok (.ifCond .eq 16, 3) := by decide +kernel
theorem dX10_keep_7 : decode cX10_keep 7 = .ok (.iload_n 2, 1) := by decide +kernel
theorem dX10_keep_8 : decode cX10_keep 8 = .ok (.iconst (-1), 1) := by decide +kernel
theorem dX10_keep_9 : decode cX10_keep 9 = .ok (.if_icmp .eq 13, 3) := by decide +kernel
theorem dX10_keep_12 : decode cX10_keep 12 = .ok (.aload_n 0, 1) := by decide +kernel
theorem dX10_keep_13 : decode cX10_keep 13 = .ok (.iload_n 2, 1) := by decide +kernel
theorem dX10_keep_14 : decode cX10_keep 14 = .ok (.invokevirtual 368, 3) := by decide +kernel
theorem dX10_keep_17 : decode cX10_keep 17 = .ok (.ifCond .ne 5, 3) := by decide +kernel
theorem dX10_keep_20 : decode cX10_keep 20 = .ok (.iconst (-1), 1) := by decide +kernel
theorem dX10_keep_21 : decode cX10_keep 21 = .ok (.ireturn, 1) := by decide +kernel
theorem dX10_keep_22 : decode cX10_keep 22 = .ok (.aload_n 0, 1) := by decide +kernel
theorem dX10_keep_23 : decode cX10_keep 23 = .ok (.getfield 77, 3) := by decide +kernel
theorem dX10_keep_26 : decode cX10_keep 26 = .ok (.iload_n 1, 1) := by decide +kernel
theorem dX10_keep_27 : decode cX10_keep 27 = .ok (.iload_n 2, 1) := by decide +kernel
theorem dX10_keep_28 : decode cX10_keep 28 = .ok (.iastore, 1) := by decide +kernel
theorem dX10_keep_29 : decode cX10_keep 29 = .ok (.aload_n 0, 1) := by decide +kernel
theorem dX10_keep_30 : decode cX10_keep 30 = .ok (.getfield 80, 3) := by decide +kernel
theorem dX10_keep_33 : decode cX10_keep 33 = .ok (.iload_n 1, 1) := by decide +kernel
theorem dX10_keep_34 : decode cX10_keep 34 = .ok (.iconst 0, 1) := by decide +kernel
theorem dX10_keep_35 : decode cX10_keep 35 = .ok (.iastore, 1) := by decide +kernel
theorem dX10_keep_36 : decode cX10_keep 36 = .ok (.iconst 1, 1) := by decide +kernel
theorem dX10_keep_37 : decode cX10_keep 37 = .ok (.ireturn, 1) := by decide +kernel
theorem dX10_row_0 : decode cX10_row 0 = .ok (.iload_n 1, 1) := by decide +kernel
theorem dX10_row_1 : decode cX10_row 1 = .ok (.invokestatic 245, 3) := by decide +kernel
theorem dX10_row_4 : decode cX10_row 4 = .ok (.ifCond .eq 21, 3) := by decide +kernel
theorem dX10_row_7 : decode cX10_row 7 = .ok (.iload_n 2, 1) := by decide +kernel
theorem dX10_row_8 : decode cX10_row 8 = .ok (.i2l, 1) := by decide +kernel
theorem dX10_row_9 : decode cX10_row 9 = .ok (.lconst 0, 1) := by decide +kernel
theorem dX10_row_10 : decode cX10_row 10 = .ok (.ldc2_w 235, 3) := by decide +kernel
theorem dX10_row_13 : decode cX10_row 13 = .ok (.invokestatic 110, 3) := by decide +kernel
theorem dX10_row_16 : decode cX10_row 16 = .ok (.ifCond .eq 9, 3) := by decide +kernel
theorem dX10_row_19 : decode cX10_row 19 = .ok (.iload_n 3, 1) := by decide +kernel
theorem dX10_row_20 : decode cX10_row 20 = .ok (.bipush 60, 2) := by decide +kernel
theorem dX10_row_22 : decode cX10_row 22 = .ok (.if_icmp .le 5, 3) := by decide +kernel
theorem dX10_row_25 : decode cX10_row 25 = .ok (.iconst (-1), 1) := by decide +kernel
theorem dX10_row_26 : decode cX10_row 26 = .ok (.ireturn, 1) := by decide +kernel
theorem dX10_row_27 : decode cX10_row 27 = .ok (.iload_n 3, 1) := by decide +kernel
theorem dX10_row_28 : decode cX10_row 28 = .ok (.ifCond .ge 6, 3) := by decide +kernel
theorem dX10_row_31 : decode cX10_row 31 = .ok (.bipush (-14), 2) := by decide +kernel
theorem dX10_row_33 : decode cX10_row 33 = .ok (.ireturn, 1) := by decide +kernel
theorem dX10_row_34 : decode cX10_row 34 = .ok (.aload_n 0, 1) := by decide +kernel
theorem dX10_row_35 : decode cX10_row 35 = .ok (.getfield 77, 3) := by decide +kernel
theorem dX10_row_38 : decode cX10_row 38 = .ok (.iload_n 1, 1) := by decide +kernel
theorem dX10_row_39 : decode cX10_row 39 = .ok (.bipush 50, 2) := by decide +kernel
theorem dX10_row_41 : decode cX10_row 41 = .ok (.iload_n 2, 1) := by decide +kernel
theorem dX10_row_42 : decode cX10_row 42 = .ok (.iadd, 1) := by decide +kernel
theorem dX10_row_43 : decode cX10_row 43 = .ok (.iastore, 1) := by decide +kernel
theorem dX10_row_44 : decode cX10_row 44 = .ok (.aload_n 0, 1) := by decide +kernel
theorem dX10_row_45 : decode cX10_row 45 = .ok (.getfield 80, 3) := by decide +kernel
theorem dX10_row_48 : decode cX10_row 48 = .ok (.iload_n 1, 1) := by decide +kernel
theorem dX10_row_49 : decode cX10_row 49 = .ok (.iload_n 3, 1) := by decide +kernel
theorem dX10_row_50 : decode cX10_row 50 = .ok (.iastore, 1) := by decide +kernel
theorem dX10_row_51 : decode cX10_row 51 = .ok (.bipush 60, 2) := by decide +kernel
theorem dX10_row_53 : decode cX10_row 53 = .ok (.iload_n 1, 1) := by decide +kernel
theorem dX10_row_54 : decode cX10_row 54 = .ok (.imul, 1) := by decide +kernel
theorem dX10_row_55 : decode cX10_row 55 = .ok (.istore 4, 2) := by decide +kernel
theorem dX10_row_57 : decode cX10_row 57 = .ok (.iload 4, 2) := by decide +kernel
theorem dX10_row_59 : decode cX10_row 59 = .ok (.bipush 60, 2) := by decide +kernel
theorem dX10_row_61 : decode cX10_row 61 = .ok (.iload_n 1, 1) := by decide +kernel
theorem dX10_row_62 : decode cX10_row 62 = .ok (.imul, 1) := by decide +kernel
theorem dX10_row_63 : decode cX10_row 63 = .ok (.bipush 60, 2) := by decide +kernel
theorem dX10_row_65 : decode cX10_row 65 = .ok (.iadd, 1) := by decide +kernel
theorem dX10_row_66 : decode cX10_row 66 = .ok (.if_icmp .ge 17, 3) := by decide +kernel
theorem dX10_row_69 : decode cX10_row 69 = .ok (.aload_n 0, 1) := by decide +kernel
theorem dX10_row_70 : decode cX10_row 70 = .ok (.getfield 83, 3) := by decide +kernel
theorem dX10_row_73 : decode cX10_row 73 = .ok (.iload 4, 2) := by decide +kernel
theorem dX10_row_75 : decode cX10_row 75 = .ok (.lconst 0, 1) := by decide +kernel
theorem dX10_row_76 : decode cX10_row 76 = .ok (.lastore, 1) := by decide +kernel
theorem dX10_row_77 : decode cX10_row 77 = .ok (.iinc 4 1, 3) := by decide +kernel
theorem dX10_row_80 : decode cX10_row 80 = .ok (.goto (-23), 3) := by decide +kernel
theorem dX10_row_83 : decode cX10_row 83 = .ok (.iconst 1, 1) := by decide +kernel
theorem dX10_row_84 : decode cX10_row 84 = .ok (.ireturn, 1) := by decide +kernel
theorem dX10_refusal_0 : decode cX10_refusal 0 = .ok (.iload_n 1, 1) := by decide +kernel
theorem dX10_refusal_1 : decode cX10_refusal 1 = .ok (.invokestatic 245, 3) := by decide +kernel
theorem dX10_refusal_4 : decode cX10_refusal 4 = .ok (.ifCond .ne 5, 3) := by decide +kernel
theorem dX10_refusal_7 : decode cX10_refusal 7 = .ok (.iconst (-1), 1) := by decide +kernel
theorem dX10_refusal_8 : decode cX10_refusal 8 = .ok (.ireturn, 1) := by decide +kernel
theorem dX10_refusal_9 : decode cX10_refusal 9 = .ok (.aload_n 0, 1) := by decide +kernel
theorem dX10_refusal_10 : decode cX10_refusal 10 = .ok (.getfield 77, 3) := by decide +kernel
theorem dX10_refusal_13 : decode cX10_refusal 13 = .ok (.iload_n 1, 1) := by decide +kernel
theorem dX10_refusal_14 : decode cX10_refusal 14 = .ok (.iaload, 1) := by decide +kernel
theorem dX10_refusal_15 : decode cX10_refusal 15 = .ok (.ifCond .ge 6, 3) := by decide +kernel
theorem dX10_refusal_18 : decode cX10_refusal 18 = .ok (.bipush (-11), 2) := by decide +kernel
theorem dX10_refusal_20 : decode cX10_refusal 20 = .ok (.ireturn, 1) := by decide +kernel
theorem dX10_refusal_21 : decode cX10_refusal 21 = .ok (.aload_n 0, 1) := by decide +kernel
theorem dX10_refusal_22 : decode cX10_refusal 22 = .ok (.getfield 77, 3) := by decide +kernel
theorem dX10_refusal_25 : decode cX10_refusal 25 = .ok (.iload_n 1, 1) := by decide +kernel
theorem dX10_refusal_26 : decode cX10_refusal 26 = .ok (.iaload, 1) := by decide +kernel
theorem dX10_refusal_27 : decode cX10_refusal 27 = .ok (.bipush 50, 2) := by decide +kernel
theorem dX10_refusal_29 : decode cX10_refusal 29 = .ok (.if_icmp .ge 6, 3) := by decide +kernel
theorem dX10_refusal_32 : decode cX10_refusal 32 = .ok (.bipush (-12), 2) := by decide +kernel
theorem dX10_refusal_34 : decode cX10_refusal 34 = .ok (.ireturn, 1) := by decide +kernel
theorem dX10_refusal_35 : decode cX10_refusal 35 = .ok (.iload_n 2, 1) := by decide +kernel
theorem dX10_refusal_36 : decode cX10_refusal 36 = .ok (.ifCond .lt 17, 3) := by decide +kernel
theorem dX10_refusal_39 : decode cX10_refusal 39 = .ok (.iload_n 2, 1) := by decide +kernel
theorem dX10_refusal_40 : decode cX10_refusal 40 = .ok (.aload_n 0, 1) := by decide +kernel
theorem dX10_refusal_41 : decode cX10_refusal 41 = .ok (.getfield 80, 3) := by decide +kernel
theorem dX10_refusal_44 : decode cX10_refusal 44 = .ok (.iload_n 1, 1) := by decide +kernel
theorem dX10_refusal_45 : decode cX10_refusal 45 = .ok (.iaload, 1) := by decide +kernel
theorem dX10_refusal_46 : decode cX10_refusal 46 = .ok (.if_icmp .ge 7, 3) := by decide +kernel
theorem dX10_refusal_49 : decode cX10_refusal 49 = .ok (.iconst 0, 1) := by decide +kernel
theorem dX10_refusal_50 : decode cX10_refusal 50 = .ok (.goto 5, 3) := by decide +kernel
theorem dX10_refusal_53 : decode cX10_refusal 53 = .ok (.bipush (-13), 2) := by decide +kernel
theorem dX10_refusal_55 : decode cX10_refusal 55 = .ok (.ireturn, 1) := by decide +kernel
theorem dX10_asSort_0 : decode cX10_asSort 0 = .ok (.iload_n 0, 1) := by decide +kernel
theorem dX10_asSort_1 : decode cX10_asSort 1 = .ok (.ifCond .ne 10, 3) := by decide +kernel
theorem dX10_asSort_4 : decode cX10_asSort 4 = .ok (.lload_n 1, 1) := by decide +kernel
theorem dX10_asSort_5 : decode cX10_asSort 5 = .ok (.l2i, 1) := by decide +kernel
theorem dX10_asSort_6 : decode cX10_asSort 6 = .ok (.i2b, 1) := by decide +kernel
theorem dX10_asSort_7 : decode cX10_asSort 7 = .ok (.i2l, 1) := by decide +kernel
theorem dX10_asSort_8 : decode cX10_asSort 8 = .ok (.goto 46, 3) := by decide +kernel
theorem dX10_asSort_11 : decode cX10_asSort 11 = .ok (.iload_n 0, 1) := by decide +kernel
theorem dX10_asSort_12 : decode cX10_asSort 12 = .ok (.iconst 1, 1) := by decide +kernel
theorem dX10_asSort_13 : decode cX10_asSort 13 = .ok (.if_icmp .ne 10, 3) := by decide +kernel
theorem dX10_asSort_16 : decode cX10_asSort 16 = .ok (.lload_n 1, 1) := by decide +kernel
theorem dX10_asSort_17 : decode cX10_asSort 17 = .ok (.l2i, 1) := by decide +kernel
theorem dX10_asSort_18 : decode cX10_asSort 18 = .ok (.i2s, 1) := by decide +kernel
theorem dX10_asSort_19 : decode cX10_asSort 19 = .ok (.i2l, 1) := by decide +kernel
theorem dX10_asSort_20 : decode cX10_asSort 20 = .ok (.goto 34, 3) := by decide +kernel
theorem dX10_asSort_23 : decode cX10_asSort 23 = .ok (.iload_n 0, 1) := by decide +kernel
theorem dX10_asSort_24 : decode cX10_asSort 24 = .ok (.iconst 2, 1) := by decide +kernel
theorem dX10_asSort_25 : decode cX10_asSort 25 = .ok (.if_icmp .ne 9, 3) := by decide +kernel
theorem dX10_asSort_28 : decode cX10_asSort 28 = .ok (.lload_n 1, 1) := by decide +kernel
theorem dX10_asSort_29 : decode cX10_asSort 29 = .ok (.l2i, 1) := by decide +kernel
theorem dX10_asSort_30 : decode cX10_asSort 30 = .ok (.i2l, 1) := by decide +kernel
theorem dX10_asSort_31 : decode cX10_asSort 31 = .ok (.goto 23, 3) := by decide +kernel
theorem dX10_asSort_34 : decode cX10_asSort 34 = .ok (.iload_n 0, 1) := by decide +kernel
theorem dX10_asSort_35 : decode cX10_asSort 35 = .ok (.iconst 4, 1) := by decide +kernel
theorem dX10_asSort_36 : decode cX10_asSort 36 = .ok (.if_icmp .ne 17, 3) := by decide +kernel
theorem dX10_asSort_39 : decode cX10_asSort 39 = .ok (.lload_n 1, 1) := by decide +kernel
theorem dX10_asSort_40 : decode cX10_asSort 40 = .ok (.lconst 0, 1) := by decide +kernel
theorem dX10_asSort_41 : decode cX10_asSort 41 = .ok (.lcmp, 1) := by decide +kernel
theorem dX10_asSort_42 : decode cX10_asSort 42 = .ok (.ifCond .eq 7, 3) := by decide +kernel
theorem dX10_asSort_45 : decode cX10_asSort 45 = .ok (.lconst 1, 1) := by decide +kernel
theorem dX10_asSort_46 : decode cX10_asSort 46 = .ok (.goto 8, 3) := by decide +kernel
theorem dX10_asSort_49 : decode cX10_asSort 49 = .ok (.lconst 0, 1) := by decide +kernel
theorem dX10_asSort_50 : decode cX10_asSort 50 = .ok (.goto 4, 3) := by decide +kernel
theorem dX10_asSort_53 : decode cX10_asSort 53 = .ok (.lload_n 1, 1) := by decide +kernel
theorem dX10_asSort_54 : decode cX10_asSort 54 = .ok (.lreturn, 1) := by decide +kernel
theorem dX10_put_0 : decode cX10_put 0 = .ok (.aload_n 0, 1) := by decide +kernel
theorem dX10_put_1 : decode cX10_put 1 = .ok (.iload_n 1, 1) := by decide +kernel
theorem dX10_put_2 : decode cX10_put 2 = .ok (.iload_n 2, 1) := by decide +kernel
theorem dX10_put_3 : decode cX10_put 3 = .ok (.invokevirtual 373, 3) := by decide +kernel
theorem dX10_put_6 : decode cX10_put 6 = .ok (.istore 5, 2) := by decide +kernel
theorem dX10_put_8 : decode cX10_put 8 = .ok (.iload 5, 2) := by decide +kernel
theorem dX10_put_10 : decode cX10_put 10 = .ok (.ifCond .ne 27, 3) := by decide +kernel
theorem dX10_put_13 : decode cX10_put 13 = .ok (.aload_n 0, 1) := by decide +kernel
theorem dX10_put_14 : decode cX10_put 14 = .ok (.getfield 83, 3) := by decide +kernel
theorem dX10_put_17 : decode cX10_put 17 = .ok (.bipush 60, 2) := by decide +kernel
theorem dX10_put_19 : decode cX10_put 19 = .ok (.iload_n 1, 1) := by decide +kernel
theorem dX10_put_20 : decode cX10_put 20 = .ok (.imul, 1) := by decide +kernel
theorem dX10_put_21 : decode cX10_put 21 = .ok (.iload_n 2, 1) := by decide +kernel
theorem dX10_put_22 : decode cX10_put 22 = .ok (.iadd, 1) := by decide +kernel
theorem dX10_put_23 : decode cX10_put 23 = .ok (.aload_n 0, 1) := by decide +kernel
theorem dX10_put_24 : decode cX10_put 24 = .ok (.getfield 77, 3) := by decide +kernel
theorem dX10_put_27 : decode cX10_put 27 = .ok (.iload_n 1, 1) := by decide +kernel
theorem dX10_put_28 : decode cX10_put 28 = .ok (.iaload, 1) := by decide +kernel
theorem dX10_put_29 : decode cX10_put 29 = .ok (.bipush 50, 2) := by decide +kernel
theorem dX10_put_31 : decode cX10_put 31 = .ok (.isub, 1) := by decide +kernel
theorem dX10_put_32 : decode cX10_put 32 = .ok (.lload_n 3, 1) := by decide +kernel
theorem dX10_put_33 : decode cX10_put 33 = .ok (.invokestatic 376, 3) := by decide +kernel
theorem dX10_put_36 : decode cX10_put 36 = .ok (.lastore, 1) := by decide +kernel
theorem dX10_put_37 : decode cX10_put 37 = .ok (.iload 5, 2) := by decide +kernel
theorem dX10_put_39 : decode cX10_put 39 = .ok (.ifCond .ne 7, 3) := by decide +kernel
theorem dX10_put_42 : decode cX10_put 42 = .ok (.iconst 1, 1) := by decide +kernel
theorem dX10_put_43 : decode cX10_put 43 = .ok (.goto 5, 3) := by decide +kernel
theorem dX10_put_46 : decode cX10_put 46 = .ok (.iload 5, 2) := by decide +kernel
theorem dX10_put_48 : decode cX10_put 48 = .ok (.ireturn, 1) := by decide +kernel
theorem dX10_element_0 : decode cX10_element 0 = .ok (.aload_n 0, 1) := by decide +kernel
theorem dX10_element_1 : decode cX10_element 1 = .ok (.iload_n 1, 1) := by decide +kernel
theorem dX10_element_2 : decode cX10_element 2 = .ok (.iload_n 2, 1) := by decide +kernel
theorem dX10_element_3 : decode cX10_element 3 = .ok (.invokevirtual 373, 3) := by decide +kernel
theorem dX10_element_6 : decode cX10_element 6 = .ok (.ifCond .eq 9, 3) := by decide +kernel
theorem dX10_element_9 : decode cX10_element 9 = .ok (.ldc2_w 382, 3) := by decide +kernel
theorem dX10_element_12 : decode cX10_element 12 = .ok (.goto 14, 3) := by decide +kernel
theorem dX10_element_15 : decode cX10_element 15 = .ok (.aload_n 0, 1) := by decide +kernel
theorem dX10_element_16 : decode cX10_element 16 = .ok (.getfield 83, 3) := by decide +kernel
theorem dX10_element_19 : decode cX10_element 19 = .ok (.bipush 60, 2) := by decide +kernel
theorem dX10_element_21 : decode cX10_element 21 = .ok (.iload_n 1, 1) := by decide +kernel
theorem dX10_element_22 : decode cX10_element 22 = .ok (.imul, 1) := by decide +kernel
theorem dX10_element_23 : decode cX10_element 23 = .ok (.iload_n 2, 1) := by decide +kernel
theorem dX10_element_24 : decode cX10_element 24 = .ok (.iadd, 1) := by decide +kernel
theorem dX10_element_25 : decode cX10_element 25 = .ok (.laload, 1) := by decide +kernel
theorem dX10_element_26 : decode cX10_element 26 = .ok (.lreturn, 1) := by decide +kernel
theorem dX10_shift_0 : decode cX10_shift 0 = .ok (.iload_n 1, 1) := by decide +kernel
theorem dX10_shift_1 : decode cX10_shift 1 = .ok (.invokestatic 245, 3) := by decide +kernel
theorem dX10_shift_4 : decode cX10_shift 4 = .ok (.ifCond .eq 10, 3) := by decide +kernel
theorem dX10_shift_7 : decode cX10_shift 7 = .ok (.iload_n 3, 1) := by decide +kernel
theorem dX10_shift_8 : decode cX10_shift 8 = .ok (.invokestatic 245, 3) := by decide +kernel
theorem dX10_shift_11 : decode cX10_shift 11 = .ok (.ifCond .ne 5, 3) := by decide +kernel
theorem dX10_shift_14 : decode cX10_shift 14 = .ok (.iconst (-1), 1) := by decide +kernel
theorem dX10_shift_15 : decode cX10_shift 15 = .ok (.ireturn, 1) := by decide +kernel
theorem dX10_shift_16 : decode cX10_shift 16 = .ok (.aload_n 0, 1) := by decide +kernel
theorem dX10_shift_17 : decode cX10_shift 17 = .ok (.getfield 77, 3) := by decide +kernel
theorem dX10_shift_20 : decode cX10_shift 20 = .ok (.iload_n 1, 1) := by decide +kernel
theorem dX10_shift_21 : decode cX10_shift 21 = .ok (.iaload, 1) := by decide +kernel
theorem dX10_shift_22 : decode cX10_shift 22 = .ok (.ifCond .lt 12, 3) := by decide +kernel
theorem dX10_shift_25 : decode cX10_shift 25 = .ok (.aload_n 0, 1) := by decide +kernel
theorem dX10_shift_26 : decode cX10_shift 26 = .ok (.getfield 77, 3) := by decide +kernel
theorem dX10_shift_29 : decode cX10_shift 29 = .ok (.iload_n 3, 1) := by decide +kernel
theorem dX10_shift_30 : decode cX10_shift 30 = .ok (.iaload, 1) := by decide +kernel
theorem dX10_shift_31 : decode cX10_shift 31 = .ok (.ifCond .ge 6, 3) := by decide +kernel
theorem dX10_shift_34 : decode cX10_shift 34 = .ok (.bipush (-11), 2) := by decide +kernel
theorem dX10_shift_36 : decode cX10_shift 36 = .ok (.ireturn, 1) := by decide +kernel
theorem dX10_shift_37 : decode cX10_shift 37 = .ok (.aload_n 0, 1) := by decide +kernel
theorem dX10_shift_38 : decode cX10_shift 38 = .ok (.getfield 77, 3) := by decide +kernel
theorem dX10_shift_41 : decode cX10_shift 41 = .ok (.iload_n 1, 1) := by decide +kernel
theorem dX10_shift_42 : decode cX10_shift 42 = .ok (.iaload, 1) := by decide +kernel
theorem dX10_shift_43 : decode cX10_shift 43 = .ok (.bipush 50, 2) := by decide +kernel
theorem dX10_shift_45 : decode cX10_shift 45 = .ok (.if_icmp .lt 18, 3) := by decide +kernel
theorem dX10_shift_48 : decode cX10_shift 48 = .ok (.aload_n 0, 1) := by decide +kernel
theorem dX10_shift_49 : decode cX10_shift 49 = .ok (.getfield 77, 3) := by decide +kernel
theorem dX10_shift_52 : decode cX10_shift 52 = .ok (.iload_n 1, 1) := by decide +kernel
theorem dX10_shift_53 : decode cX10_shift 53 = .ok (.iaload, 1) := by decide +kernel
theorem dX10_shift_54 : decode cX10_shift 54 = .ok (.aload_n 0, 1) := by decide +kernel
theorem dX10_shift_55 : decode cX10_shift 55 = .ok (.getfield 77, 3) := by decide +kernel
theorem dX10_shift_58 : decode cX10_shift 58 = .ok (.iload_n 3, 1) := by decide +kernel
theorem dX10_shift_59 : decode cX10_shift 59 = .ok (.iaload, 1) := by decide +kernel
theorem dX10_shift_60 : decode cX10_shift 60 = .ok (.if_icmp .eq 6, 3) := by decide +kernel
theorem dX10_shift_63 : decode cX10_shift 63 = .ok (.bipush (-12), 2) := by decide +kernel
theorem dX10_shift_65 : decode cX10_shift 65 = .ok (.ireturn, 1) := by decide +kernel
theorem dX10_shift_66 : decode cX10_shift 66 = .ok (.iload 5, 2) := by decide +kernel
theorem dX10_shift_68 : decode cX10_shift 68 = .ok (.ifCond .lt 39, 3) := by decide +kernel
theorem dX10_shift_71 : decode cX10_shift 71 = .ok (.iload_n 2, 1) := by decide +kernel
theorem dX10_shift_72 : decode cX10_shift 72 = .ok (.ifCond .lt 35, 3) := by decide +kernel
theorem dX10_shift_75 : decode cX10_shift 75 = .ok (.iload 4, 2) := by decide +kernel
theorem dX10_shift_77 : decode cX10_shift 77 = .ok (.ifCond .lt 30, 3) := by decide +kernel
theorem dX10_shift_80 : decode cX10_shift 80 = .ok (.iload_n 2, 1) := by decide +kernel
theorem dX10_shift_81 : decode cX10_shift 81 = .ok (.aload_n 0, 1) := by decide +kernel
theorem dX10_shift_82 : decode cX10_shift 82 = .ok (.getfield 80, 3) := by decide +kernel
theorem dX10_shift_85 : decode cX10_shift 85 = .ok (.iload_n 1, 1) := by decide +kernel
theorem dX10_shift_86 : decode cX10_shift 86 = .ok (.iaload, 1) := by decide +kernel
theorem dX10_shift_87 : decode cX10_shift 87 = .ok (.iload 5, 2) := by decide +kernel
theorem dX10_shift_89 : decode cX10_shift 89 = .ok (.isub, 1) := by decide +kernel
theorem dX10_shift_90 : decode cX10_shift 90 = .ok (.if_icmp .gt 17, 3) := by decide +kernel
theorem dX10_shift_93 : decode cX10_shift 93 = .ok (.iload 4, 2) := by decide +kernel
theorem dX10_shift_95 : decode cX10_shift 95 = .ok (.aload_n 0, 1) := by decide +kernel
theorem dX10_shift_96 : decode cX10_shift 96 = .ok (.getfield 80, 3) := by decide +kernel
theorem dX10_shift_99 : decode cX10_shift 99 = .ok (.iload_n 3, 1) := by decide +kernel
theorem dX10_shift_100 : decode cX10_shift 100 = .ok (.iaload, 1) := by decide +kernel
theorem dX10_shift_101 : decode cX10_shift 101 = .ok (.iload 5, 2) := by decide +kernel
theorem dX10_shift_103 : decode cX10_shift 103 = .ok (.isub, 1) := by decide +kernel
theorem dX10_shift_104 : decode cX10_shift 104 = .ok (.if_icmp .le 6, 3) := by decide +kernel
theorem dX10_shift_107 : decode cX10_shift 107 = .ok (.bipush (-13), 2) := by decide +kernel
theorem dX10_shift_109 : decode cX10_shift 109 = .ok (.ireturn, 1) := by decide +kernel
theorem dX10_shift_110 : decode cX10_shift 110 = .ok (.iconst 0, 1) := by decide +kernel
theorem dX10_shift_111 : decode cX10_shift 111 = .ok (.istore 6, 2) := by decide +kernel
theorem dX10_shift_113 : decode cX10_shift 113 = .ok (.iload 6, 2) := by decide +kernel
theorem dX10_shift_115 : decode cX10_shift 115 = .ok (.iload 5, 2) := by decide +kernel
theorem dX10_shift_117 : decode cX10_shift 117 = .ok (.if_icmp .ge 30, 3) := by decide +kernel
theorem dX10_shift_120 : decode cX10_shift 120 = .ok (.aload_n 0, 1) := by decide +kernel
theorem dX10_shift_121 : decode cX10_shift 121 = .ok (.getfield 87, 3) := by decide +kernel
theorem dX10_shift_124 : decode cX10_shift 124 = .ok (.iload 6, 2) := by decide +kernel
theorem dX10_shift_126 : decode cX10_shift 126 = .ok (.aload_n 0, 1) := by decide +kernel
theorem dX10_shift_127 : decode cX10_shift 127 = .ok (.getfield 83, 3) := by decide +kernel
theorem dX10_shift_130 : decode cX10_shift 130 = .ok (.bipush 60, 2) := by decide +kernel
theorem dX10_shift_132 : decode cX10_shift 132 = .ok (.iload_n 1, 1) := by decide +kernel
theorem dX10_shift_133 : decode cX10_shift 133 = .ok (.imul, 1) := by decide +kernel
theorem dX10_shift_134 : decode cX10_shift 134 = .ok (.iload_n 2, 1) := by decide +kernel
theorem dX10_shift_135 : decode cX10_shift 135 = .ok (.iadd, 1) := by decide +kernel
theorem dX10_shift_136 : decode cX10_shift 136 = .ok (.iload 6, 2) := by decide +kernel
theorem dX10_shift_138 : decode cX10_shift 138 = .ok (.iadd, 1) := by decide +kernel
theorem dX10_shift_139 : decode cX10_shift 139 = .ok (.laload, 1) := by decide +kernel
theorem dX10_shift_140 : decode cX10_shift 140 = .ok (.lastore, 1) := by decide +kernel
theorem dX10_shift_141 : decode cX10_shift 141 = .ok (.iinc 6 1, 3) := by decide +kernel
theorem dX10_shift_144 : decode cX10_shift 144 = .ok (.goto (-31), 3) := by decide +kernel
theorem dX10_shift_147 : decode cX10_shift 147 = .ok (.iconst 0, 1) := by decide +kernel
theorem dX10_shift_148 : decode cX10_shift 148 = .ok (.istore 6, 2) := by decide +kernel
theorem dX10_shift_150 : decode cX10_shift 150 = .ok (.iload 6, 2) := by decide +kernel
theorem dX10_shift_152 : decode cX10_shift 152 = .ok (.iload 5, 2) := by decide +kernel
theorem dX10_shift_154 : decode cX10_shift 154 = .ok (.if_icmp .ge 31, 3) := by decide +kernel
theorem dX10_shift_157 : decode cX10_shift 157 = .ok (.aload_n 0, 1) := by decide +kernel
theorem dX10_shift_158 : decode cX10_shift 158 = .ok (.getfield 83, 3) := by decide +kernel
theorem dX10_shift_161 : decode cX10_shift 161 = .ok (.bipush 60, 2) := by decide +kernel
theorem dX10_shift_163 : decode cX10_shift 163 = .ok (.iload_n 3, 1) := by decide +kernel
theorem dX10_shift_164 : decode cX10_shift 164 = .ok (.imul, 1) := by decide +kernel
theorem dX10_shift_165 : decode cX10_shift 165 = .ok (.iload 4, 2) := by decide +kernel
theorem dX10_shift_167 : decode cX10_shift 167 = .ok (.iadd, 1) := by decide +kernel
theorem dX10_shift_168 : decode cX10_shift 168 = .ok (.iload 6, 2) := by decide +kernel
theorem dX10_shift_170 : decode cX10_shift 170 = .ok (.iadd, 1) := by decide +kernel
theorem dX10_shift_171 : decode cX10_shift 171 = .ok (.aload_n 0, 1) := by decide +kernel
theorem dX10_shift_172 : decode cX10_shift 172 = .ok (.getfield 87, 3) := by decide +kernel
theorem dX10_shift_175 : decode cX10_shift 175 = .ok (.iload 6, 2) := by decide +kernel
theorem dX10_shift_177 : decode cX10_shift 177 = .ok (.laload, 1) := by decide +kernel
theorem dX10_shift_178 : decode cX10_shift 178 = .ok (.lastore, 1) := by decide +kernel
theorem dX10_shift_179 : decode cX10_shift 179 = .ok (.iinc 6 1, 3) := by decide +kernel
theorem dX10_shift_182 : decode cX10_shift 182 = .ok (.goto (-32), 3) := by decide +kernel
theorem dX10_shift_185 : decode cX10_shift 185 = .ok (.iload 5, 2) := by decide +kernel
theorem dX10_shift_187 : decode cX10_shift 187 = .ok (.ireturn, 1) := by decide +kernel
theorem dX10_taken_0 : decode cX10_taken 0 = .ok (.iload_n 1, 1) := by decide +kernel
theorem dX10_taken_1 : decode cX10_taken 1 = .ok (.invokestatic 245, 3) := by decide +kernel
theorem dX10_taken_4 : decode cX10_taken 4 = .ok (.ifCond .eq 15, 3) := by decide +kernel
theorem dX10_taken_7 : decode cX10_taken 7 = .ok (.iload_n 2, 1) := by decide +kernel
theorem dX10_taken_8 : decode cX10_taken 8 = .ok (.i2l, 1) := by decide +kernel
theorem dX10_taken_9 : decode cX10_taken 9 = .ok (.lconst 0, 1) := by decide +kernel
theorem dX10_taken_10 : decode cX10_taken 10 = .ok (.ldc2_w 342, 3) := by decide +kernel
theorem dX10_taken_13 : decode cX10_taken 13 = .ok (.invokestatic 110, 3) := by decide +kernel
theorem dX10_taken_16 : decode cX10_taken 16 = .ok (.ifCond .ne 5, 3) := by decide +kernel
theorem dX10_taken_19 : decode cX10_taken 19 = .ok (.iconst (-1), 1) := by decide +kernel
theorem dX10_taken_20 : decode cX10_taken 20 = .ok (.ireturn, 1) := by decide +kernel
theorem dX10_taken_21 : decode cX10_taken 21 = .ok (.aload_n 0, 1) := by decide +kernel
theorem dX10_taken_22 : decode cX10_taken 22 = .ok (.getfield 77, 3) := by decide +kernel
theorem dX10_taken_25 : decode cX10_taken 25 = .ok (.iload_n 1, 1) := by decide +kernel
theorem dX10_taken_26 : decode cX10_taken 26 = .ok (.iaload, 1) := by decide +kernel
theorem dX10_taken_27 : decode cX10_taken 27 = .ok (.ifCond .ge 6, 3) := by decide +kernel
theorem dX10_taken_30 : decode cX10_taken 30 = .ok (.bipush (-11), 2) := by decide +kernel
theorem dX10_taken_32 : decode cX10_taken 32 = .ok (.ireturn, 1) := by decide +kernel
theorem dX10_taken_33 : decode cX10_taken 33 = .ok (.aload_n 0, 1) := by decide +kernel
theorem dX10_taken_34 : decode cX10_taken 34 = .ok (.getfield 77, 3) := by decide +kernel
theorem dX10_taken_37 : decode cX10_taken 37 = .ok (.iload_n 1, 1) := by decide +kernel
theorem dX10_taken_38 : decode cX10_taken 38 = .ok (.iaload, 1) := by decide +kernel
theorem dX10_taken_39 : decode cX10_taken 39 = .ok (.bipush 50, 2) := by decide +kernel
theorem dX10_taken_41 : decode cX10_taken 41 = .ok (.if_icmp .lt 6, 3) := by decide +kernel
theorem dX10_taken_44 : decode cX10_taken 44 = .ok (.bipush (-12), 2) := by decide +kernel
theorem dX10_taken_46 : decode cX10_taken 46 = .ok (.ireturn, 1) := by decide +kernel
theorem dX10_taken_47 : decode cX10_taken 47 = .ok (.aload_n 0, 1) := by decide +kernel
theorem dX10_taken_48 : decode cX10_taken 48 = .ok (.aload_n 0, 1) := by decide +kernel
theorem dX10_taken_49 : decode cX10_taken 49 = .ok (.getfield 77, 3) := by decide +kernel
theorem dX10_taken_52 : decode cX10_taken 52 = .ok (.iload_n 1, 1) := by decide +kernel
theorem dX10_taken_53 : decode cX10_taken 53 = .ok (.iaload, 1) := by decide +kernel
theorem dX10_taken_54 : decode cX10_taken 54 = .ok (.invokevirtual 384, 3) := by decide +kernel
theorem dX10_taken_57 : decode cX10_taken 57 = .ok (.istore_n 3, 1) := by decide +kernel
theorem dX10_taken_58 : decode cX10_taken 58 = .ok (.iload_n 3, 1) := by decide +kernel
theorem dX10_taken_59 : decode cX10_taken 59 = .ok (.iload_n 2, 1) := by decide +kernel
theorem dX10_taken_60 : decode cX10_taken 60 = .ok (.if_icmp .eq 15, 3) := by decide +kernel
theorem dX10_taken_63 : decode cX10_taken 63 = .ok (.iload_n 3, 1) := by decide +kernel
theorem dX10_taken_64 : decode cX10_taken 64 = .ok (.ifCond .le 11, 3) := by decide +kernel
theorem dX10_taken_67 : decode cX10_taken 67 = .ok (.iload_n 3, 1) := by decide +kernel
theorem dX10_taken_68 : decode cX10_taken 68 = .ok (.invokestatic 387, 3) := by decide +kernel
theorem dX10_taken_71 : decode cX10_taken 71 = .ok (.istore_n 3, 1) := by decide +kernel
theorem dX10_taken_72 : decode cX10_taken 72 = .ok (.goto (-14), 3) := by decide +kernel
theorem dX10_taken_75 : decode cX10_taken 75 = .ok (.iload_n 3, 1) := by decide +kernel
theorem dX10_taken_76 : decode cX10_taken 76 = .ok (.iload_n 2, 1) := by decide +kernel
theorem dX10_taken_77 : decode cX10_taken 77 = .ok (.if_icmp .ne 16, 3) := by decide +kernel
theorem dX10_taken_80 : decode cX10_taken 80 = .ok (.aload_n 0, 1) := by decide +kernel
theorem dX10_taken_81 : decode cX10_taken 81 = .ok (.aload_n 0, 1) := by decide +kernel
theorem dX10_taken_82 : decode cX10_taken 82 = .ok (.getfield 77, 3) := by decide +kernel
theorem dX10_taken_85 : decode cX10_taken 85 = .ok (.iload_n 1, 1) := by decide +kernel
theorem dX10_taken_86 : decode cX10_taken 86 = .ok (.iaload, 1) := by decide +kernel
theorem dX10_taken_87 : decode cX10_taken 87 = .ok (.invokevirtual 384, 3) := by decide +kernel
theorem dX10_taken_90 : decode cX10_taken 90 = .ok (.goto 5, 3) := by decide +kernel
theorem dX10_taken_93 : decode cX10_taken 93 = .ok (.bipush (-12), 2) := by decide +kernel
theorem dX10_taken_95 : decode cX10_taken 95 = .ok (.ireturn, 1) := by decide +kernel
theorem dX10_count_0 : decode cX10_count 0 = .ok (.iload_n 1, 1) := by decide +kernel
theorem dX10_count_1 : decode cX10_count 1 = .ok (.tableswitch 78 0 6 #[43, 48, 53, 58, 63, 68, 73], 43) := by decide +kernel
theorem dX10_count_44 : decode cX10_count 44 = .ok (.aload_n 0, 1) := by decide +kernel
theorem dX10_count_45 : decode cX10_count 45 = .ok (.getfield 107, 3) := by decide +kernel
theorem dX10_count_48 : decode cX10_count 48 = .ok (.ireturn, 1) := by decide +kernel
theorem dX10_count_49 : decode cX10_count 49 = .ok (.aload_n 0, 1) := by decide +kernel
theorem dX10_count_50 : decode cX10_count 50 = .ok (.getfield 143, 3) := by decide +kernel
theorem dX10_count_53 : decode cX10_count 53 = .ok (.ireturn, 1) := by decide +kernel
theorem dX10_count_54 : decode cX10_count 54 = .ok (.aload_n 0, 1) := by decide +kernel
theorem dX10_count_55 : decode cX10_count 55 = .ok (.getfield 226, 3) := by decide +kernel
theorem dX10_count_58 : decode cX10_count 58 = .ok (.ireturn, 1) := by decide +kernel
theorem dX10_count_59 : decode cX10_count 59 = .ok (.aload_n 0, 1) := by decide +kernel
theorem dX10_count_60 : decode cX10_count 60 = .ok (.getfield 156, 3) := by decide +kernel
theorem dX10_count_63 : decode cX10_count 63 = .ok (.ireturn, 1) := by decide +kernel
theorem dX10_count_64 : decode cX10_count 64 = .ok (.aload_n 0, 1) := by decide +kernel
theorem dX10_count_65 : decode cX10_count 65 = .ok (.getfield 97, 3) := by decide +kernel
theorem dX10_count_68 : decode cX10_count 68 = .ok (.ireturn, 1) := by decide +kernel
theorem dX10_count_69 : decode cX10_count 69 = .ok (.aload_n 0, 1) := by decide +kernel
theorem dX10_count_70 : decode cX10_count 70 = .ok (.getfield 339, 3) := by decide +kernel
theorem dX10_count_73 : decode cX10_count 73 = .ok (.ireturn, 1) := by decide +kernel
theorem dX10_count_74 : decode cX10_count 74 = .ok (.aload_n 0, 1) := by decide +kernel
theorem dX10_count_75 : decode cX10_count 75 = .ok (.getfield 344, 3) := by decide +kernel
theorem dX10_count_78 : decode cX10_count 78 = .ok (.ireturn, 1) := by decide +kernel
theorem dX10_count_79 : decode cX10_count 79 = .ok (.iconst (-1), 1) := by decide +kernel
theorem dX10_count_80 : decode cX10_count 80 = .ok (.ireturn, 1) := by decide +kernel
theorem dL_law_0 : decode cL_law 0 = .ok (.new 7, 3) := by decide +kernel
theorem dL_law_3 : decode cL_law 3 = .ok (.dup, 1) := by decide +kernel
theorem dL_law_4 : decode cL_law 4 = .ok (.invokespecial 9, 3) := by decide +kernel
theorem dL_law_7 : decode cL_law 7 = .ok (.astore_n 1, 1) := by decide +kernel
theorem dL_law_8 : decode cL_law 8 = .ok (.new 10, 3) := by decide +kernel
theorem dL_law_11 : decode cL_law 11 = .ok (.dup, 1) := by decide +kernel
theorem dL_law_12 : decode cL_law 12 = .ok (.invokespecial 12, 3) := by decide +kernel
theorem dL_law_15 : decode cL_law 15 = .ok (.astore_n 2, 1) := by decide +kernel
theorem dL_law_16 : decode cL_law 16 = .ok (.iconst 0, 1) := by decide +kernel
theorem dL_law_17 : decode cL_law 17 = .ok (.istore_n 3, 1) := by decide +kernel
theorem dL_law_18 : decode cL_law 18 = .ok (.iload_n 3, 1) := by decide +kernel
theorem dL_law_19 : decode cL_law 19 = .ok (.aload_n 0, 1) := by decide +kernel
theorem dL_law_20 : decode cL_law 20 = .ok (.arraylength, 1) := by decide +kernel
theorem dL_law_21 : decode cL_law 21 = .ok (.bipush 6, 2) := by decide +kernel
theorem dL_law_23 : decode cL_law 23 = .ok (.isub, 1) := by decide +kernel
theorem dL_law_24 : decode cL_law 24 = .ok (.if_icmp .gt 1410, 3) := by decide +kernel
theorem dL_law_27 : decode cL_law 27 = .ok (.aload_n 0, 1) := by decide +kernel
theorem dL_law_28 : decode cL_law 28 = .ok (.iload_n 3, 1) := by decide +kernel
theorem dL_law_29 : decode cL_law 29 = .ok (.iaload, 1) := by decide +kernel
theorem dL_law_30 : decode cL_law 30 = .ok (.bipush 63, 2) := by decide +kernel
theorem dL_law_32 : decode cL_law 32 = .ok (.iand, 1) := by decide +kernel
theorem dL_law_33 : decode cL_law 33 = .ok (.tableswitch 1395 0 36 #[163, 206, 239, 262, 275, 308, 331, 374, 417, 440, 473, 516, 559, 592, 615, 648, 681, 714, 737, 770, 803, 836, 859, 882, 925, 978, 991, 1004, 1027, 1070, 1093, 1126, 1169, 1242, 1276, 1339, 1372], 163) := by decide +kernel
theorem dL_law_196 : decode cL_law 196 = .ok (.aload_n 1, 1) := by decide +kernel
theorem dL_law_197 : decode cL_law 197 = .ok (.aload_n 0, 1) := by decide +kernel
theorem dL_law_198 : decode cL_law 198 = .ok (.iload_n 3, 1) := by decide +kernel
theorem dL_law_199 : decode cL_law 199 = .ok (.iconst 1, 1) := by decide +kernel
theorem dL_law_200 : decode cL_law 200 = .ok (.iadd, 1) := by decide +kernel
theorem dL_law_201 : decode cL_law 201 = .ok (.iaload, 1) := by decide +kernel
theorem dL_law_202 : decode cL_law 202 = .ok (.aload_n 0, 1) := by decide +kernel
theorem dL_law_203 : decode cL_law 203 = .ok (.iload_n 3, 1) := by decide +kernel
theorem dL_law_204 : decode cL_law 204 = .ok (.iconst 2, 1) := by decide +kernel
theorem dL_law_205 : decode cL_law 205 = .ok (.iadd, 1) := by decide +kernel
theorem dL_law_206 : decode cL_law 206 = .ok (.iaload, 1) := by decide +kernel
theorem dL_law_207 : decode cL_law 207 = .ok (.aload_n 0, 1) := by decide +kernel
theorem dL_law_208 : decode cL_law 208 = .ok (.iload_n 3, 1) := by decide +kernel
theorem dL_law_209 : decode cL_law 209 = .ok (.iconst 3, 1) := by decide +kernel
theorem dL_law_210 : decode cL_law 210 = .ok (.iadd, 1) := by decide +kernel
theorem dL_law_211 : decode cL_law 211 = .ok (.iaload, 1) := by decide +kernel
theorem dL_law_212 : decode cL_law 212 = .ok (.invokevirtual 13, 3) := by decide +kernel
theorem dL_law_215 : decode cL_law 215 = .ok (.aload_n 2, 1) := by decide +kernel
theorem dL_law_216 : decode cL_law 216 = .ok (.aload_n 0, 1) := by decide +kernel
theorem dL_law_217 : decode cL_law 217 = .ok (.iload_n 3, 1) := by decide +kernel
theorem dL_law_218 : decode cL_law 218 = .ok (.iconst 1, 1) := by decide +kernel
theorem dL_law_219 : decode cL_law 219 = .ok (.iadd, 1) := by decide +kernel
theorem dL_law_220 : decode cL_law 220 = .ok (.iaload, 1) := by decide +kernel
theorem dL_law_221 : decode cL_law 221 = .ok (.aload_n 0, 1) := by decide +kernel
theorem dL_law_222 : decode cL_law 222 = .ok (.iload_n 3, 1) := by decide +kernel
theorem dL_law_223 : decode cL_law 223 = .ok (.iconst 2, 1) := by decide +kernel
theorem dL_law_224 : decode cL_law 224 = .ok (.iadd, 1) := by decide +kernel
theorem dL_law_225 : decode cL_law 225 = .ok (.iaload, 1) := by decide +kernel
theorem dL_law_226 : decode cL_law 226 = .ok (.aload_n 0, 1) := by decide +kernel
theorem dL_law_227 : decode cL_law 227 = .ok (.iload_n 3, 1) := by decide +kernel
theorem dL_law_228 : decode cL_law 228 = .ok (.iconst 3, 1) := by decide +kernel
theorem dL_law_229 : decode cL_law 229 = .ok (.iadd, 1) := by decide +kernel
theorem dL_law_230 : decode cL_law 230 = .ok (.iaload, 1) := by decide +kernel
theorem dL_law_231 : decode cL_law 231 = .ok (.invokevirtual 17, 3) := by decide +kernel
theorem dL_law_234 : decode cL_law 234 = .ok (.if_icmp .eq 1194, 3) := by decide +kernel
theorem dL_law_237 : decode cL_law 237 = .ok (.iconst 0, 1) := by decide +kernel
theorem dL_law_238 : decode cL_law 238 = .ok (.ireturn, 1) := by decide +kernel
theorem dL_law_239 : decode cL_law 239 = .ok (.aload_n 1, 1) := by decide +kernel
theorem dL_law_240 : decode cL_law 240 = .ok (.aload_n 0, 1) := by decide +kernel
theorem dL_law_241 : decode cL_law 241 = .ok (.iload_n 3, 1) := by decide +kernel
theorem dL_law_242 : decode cL_law 242 = .ok (.iconst 1, 1) := by decide +kernel
theorem dL_law_243 : decode cL_law 243 = .ok (.iadd, 1) := by decide +kernel
theorem dL_law_244 : decode cL_law 244 = .ok (.iaload, 1) := by decide +kernel
theorem dL_law_245 : decode cL_law 245 = .ok (.aload_n 0, 1) := by decide +kernel
theorem dL_law_246 : decode cL_law 246 = .ok (.iload_n 3, 1) := by decide +kernel
theorem dL_law_247 : decode cL_law 247 = .ok (.iconst 2, 1) := by decide +kernel
theorem dL_law_248 : decode cL_law 248 = .ok (.iadd, 1) := by decide +kernel
theorem dL_law_249 : decode cL_law 249 = .ok (.iaload, 1) := by decide +kernel
theorem dL_law_250 : decode cL_law 250 = .ok (.invokevirtual 18, 3) := by decide +kernel
theorem dL_law_253 : decode cL_law 253 = .ok (.aload_n 2, 1) := by decide +kernel
theorem dL_law_254 : decode cL_law 254 = .ok (.aload_n 0, 1) := by decide +kernel
theorem dL_law_255 : decode cL_law 255 = .ok (.iload_n 3, 1) := by decide +kernel
theorem dL_law_256 : decode cL_law 256 = .ok (.iconst 1, 1) := by decide +kernel
theorem dL_law_257 : decode cL_law 257 = .ok (.iadd, 1) := by decide +kernel
theorem dL_law_258 : decode cL_law 258 = .ok (.iaload, 1) := by decide +kernel
theorem dL_law_259 : decode cL_law 259 = .ok (.aload_n 0, 1) := by decide +kernel
theorem dL_law_260 : decode cL_law 260 = .ok (.iload_n 3, 1) := by decide +kernel
theorem dL_law_261 : decode cL_law 261 = .ok (.iconst 2, 1) := by decide +kernel
theorem dL_law_262 : decode cL_law 262 = .ok (.iadd, 1) := by decide +kernel
theorem dL_law_263 : decode cL_law 263 = .ok (.iaload, 1) := by decide +kernel
theorem dL_law_264 : decode cL_law 264 = .ok (.invokevirtual 22, 3) := by decide +kernel
theorem dL_law_267 : decode cL_law 267 = .ok (.if_icmp .eq 1161, 3) := by decide +kernel
theorem dL_law_270 : decode cL_law 270 = .ok (.iconst 0, 1) := by decide +kernel
theorem dL_law_271 : decode cL_law 271 = .ok (.ireturn, 1) := by decide +kernel
theorem dL_law_272 : decode cL_law 272 = .ok (.aload_n 1, 1) := by decide +kernel
theorem dL_law_273 : decode cL_law 273 = .ok (.aload_n 0, 1) := by decide +kernel
theorem dL_law_274 : decode cL_law 274 = .ok (.iload_n 3, 1) := by decide +kernel
theorem dL_law_275 : decode cL_law 275 = .ok (.iconst 1, 1) := by decide +kernel
theorem dL_law_276 : decode cL_law 276 = .ok (.iadd, 1) := by decide +kernel
theorem dL_law_277 : decode cL_law 277 = .ok (.iaload, 1) := by decide +kernel
theorem dL_law_278 : decode cL_law 278 = .ok (.invokevirtual 23, 3) := by decide +kernel
theorem dL_law_281 : decode cL_law 281 = .ok (.aload_n 2, 1) := by decide +kernel
theorem dL_law_282 : decode cL_law 282 = .ok (.aload_n 0, 1) := by decide +kernel
theorem dL_law_283 : decode cL_law 283 = .ok (.iload_n 3, 1) := by decide +kernel
theorem dL_law_284 : decode cL_law 284 = .ok (.iconst 1, 1) := by decide +kernel
theorem dL_law_285 : decode cL_law 285 = .ok (.iadd, 1) := by decide +kernel
theorem dL_law_286 : decode cL_law 286 = .ok (.iaload, 1) := by decide +kernel
theorem dL_law_287 : decode cL_law 287 = .ok (.invokevirtual 27, 3) := by decide +kernel
theorem dL_law_290 : decode cL_law 290 = .ok (.if_icmp .eq 1138, 3) := by decide +kernel
theorem dL_law_293 : decode cL_law 293 = .ok (.iconst 0, 1) := by decide +kernel
theorem dL_law_294 : decode cL_law 294 = .ok (.ireturn, 1) := by decide +kernel
theorem dL_law_295 : decode cL_law 295 = .ok (.aload_n 1, 1) := by decide +kernel
theorem dL_law_296 : decode cL_law 296 = .ok (.invokevirtual 28, 3) := by decide +kernel
theorem dL_law_299 : decode cL_law 299 = .ok (.aload_n 2, 1) := by decide +kernel
theorem dL_law_300 : decode cL_law 300 = .ok (.invokevirtual 32, 3) := by decide +kernel
theorem dL_law_303 : decode cL_law 303 = .ok (.if_icmp .eq 1125, 3) := by decide +kernel
theorem dL_law_306 : decode cL_law 306 = .ok (.iconst 0, 1) := by decide +kernel
theorem dL_law_307 : decode cL_law 307 = .ok (.ireturn, 1) := by decide +kernel
theorem dL_law_308 : decode cL_law 308 = .ok (.aload_n 1, 1) := by decide +kernel
theorem dL_law_309 : decode cL_law 309 = .ok (.aload_n 0, 1) := by decide +kernel
theorem dL_law_310 : decode cL_law 310 = .ok (.iload_n 3, 1) := by decide +kernel
theorem dL_law_311 : decode cL_law 311 = .ok (.iconst 1, 1) := by decide +kernel
theorem dL_law_312 : decode cL_law 312 = .ok (.iadd, 1) := by decide +kernel
theorem dL_law_313 : decode cL_law 313 = .ok (.iaload, 1) := by decide +kernel
theorem dL_law_314 : decode cL_law 314 = .ok (.aload_n 0, 1) := by decide +kernel
theorem dL_law_315 : decode cL_law 315 = .ok (.iload_n 3, 1) := by decide +kernel
theorem dL_law_316 : decode cL_law 316 = .ok (.iconst 2, 1) := by decide +kernel
theorem dL_law_317 : decode cL_law 317 = .ok (.iadd, 1) := by decide +kernel
theorem dL_law_318 : decode cL_law 318 = .ok (.iaload, 1) := by decide +kernel
theorem dL_law_319 : decode cL_law 319 = .ok (.invokevirtual 33, 3) := by decide +kernel
theorem dL_law_322 : decode cL_law 322 = .ok (.aload_n 2, 1) := by decide +kernel
theorem dL_law_323 : decode cL_law 323 = .ok (.aload_n 0, 1) := by decide +kernel
theorem dL_law_324 : decode cL_law 324 = .ok (.iload_n 3, 1) := by decide +kernel
theorem dL_law_325 : decode cL_law 325 = .ok (.iconst 1, 1) := by decide +kernel
theorem dL_law_326 : decode cL_law 326 = .ok (.iadd, 1) := by decide +kernel
theorem dL_law_327 : decode cL_law 327 = .ok (.iaload, 1) := by decide +kernel
theorem dL_law_328 : decode cL_law 328 = .ok (.aload_n 0, 1) := by decide +kernel
theorem dL_law_329 : decode cL_law 329 = .ok (.iload_n 3, 1) := by decide +kernel
theorem dL_law_330 : decode cL_law 330 = .ok (.iconst 2, 1) := by decide +kernel
theorem dL_law_331 : decode cL_law 331 = .ok (.iadd, 1) := by decide +kernel
theorem dL_law_332 : decode cL_law 332 = .ok (.iaload, 1) := by decide +kernel
theorem dL_law_333 : decode cL_law 333 = .ok (.invokevirtual 36, 3) := by decide +kernel
theorem dL_law_336 : decode cL_law 336 = .ok (.if_icmp .eq 1092, 3) := by decide +kernel
theorem dL_law_339 : decode cL_law 339 = .ok (.iconst 0, 1) := by decide +kernel
theorem dL_law_340 : decode cL_law 340 = .ok (.ireturn, 1) := by decide +kernel
theorem dL_law_341 : decode cL_law 341 = .ok (.aload_n 1, 1) := by decide +kernel
theorem dL_law_342 : decode cL_law 342 = .ok (.aload_n 0, 1) := by decide +kernel
theorem dL_law_343 : decode cL_law 343 = .ok (.iload_n 3, 1) := by decide +kernel
theorem dL_law_344 : decode cL_law 344 = .ok (.iconst 1, 1) := by decide +kernel
theorem dL_law_345 : decode cL_law 345 = .ok (.iadd, 1) := by decide +kernel
theorem dL_law_346 : decode cL_law 346 = .ok (.iaload, 1) := by decide +kernel
theorem dL_law_347 : decode cL_law 347 = .ok (.invokevirtual 37, 3) := by decide +kernel
theorem dL_law_350 : decode cL_law 350 = .ok (.aload_n 2, 1) := by decide +kernel
theorem dL_law_351 : decode cL_law 351 = .ok (.aload_n 0, 1) := by decide +kernel
theorem dL_law_352 : decode cL_law 352 = .ok (.iload_n 3, 1) := by decide +kernel
theorem dL_law_353 : decode cL_law 353 = .ok (.iconst 1, 1) := by decide +kernel
theorem dL_law_354 : decode cL_law 354 = .ok (.iadd, 1) := by decide +kernel
theorem dL_law_355 : decode cL_law 355 = .ok (.iaload, 1) := by decide +kernel
theorem dL_law_356 : decode cL_law 356 = .ok (.invokevirtual 40, 3) := by decide +kernel
theorem dL_law_359 : decode cL_law 359 = .ok (.if_icmp .eq 1069, 3) := by decide +kernel
theorem dL_law_362 : decode cL_law 362 = .ok (.iconst 0, 1) := by decide +kernel
theorem dL_law_363 : decode cL_law 363 = .ok (.ireturn, 1) := by decide +kernel
theorem dL_law_364 : decode cL_law 364 = .ok (.aload_n 1, 1) := by decide +kernel
theorem dL_law_365 : decode cL_law 365 = .ok (.aload_n 0, 1) := by decide +kernel
theorem dL_law_366 : decode cL_law 366 = .ok (.iload_n 3, 1) := by decide +kernel
theorem dL_law_367 : decode cL_law 367 = .ok (.iconst 1, 1) := by decide +kernel
theorem dL_law_368 : decode cL_law 368 = .ok (.iadd, 1) := by decide +kernel
theorem dL_law_369 : decode cL_law 369 = .ok (.iaload, 1) := by decide +kernel
theorem dL_law_370 : decode cL_law 370 = .ok (.aload_n 0, 1) := by decide +kernel
theorem dL_law_371 : decode cL_law 371 = .ok (.iload_n 3, 1) := by decide +kernel
theorem dL_law_372 : decode cL_law 372 = .ok (.iconst 2, 1) := by decide +kernel
theorem dL_law_373 : decode cL_law 373 = .ok (.iadd, 1) := by decide +kernel
theorem dL_law_374 : decode cL_law 374 = .ok (.iaload, 1) := by decide +kernel
theorem dL_law_375 : decode cL_law 375 = .ok (.aload_n 0, 1) := by decide +kernel
theorem dL_law_376 : decode cL_law 376 = .ok (.iload_n 3, 1) := by decide +kernel
theorem dL_law_377 : decode cL_law 377 = .ok (.iconst 3, 1) := by decide +kernel
theorem dL_law_378 : decode cL_law 378 = .ok (.iadd, 1) := by decide +kernel
theorem dL_law_379 : decode cL_law 379 = .ok (.iaload, 1) := by decide +kernel
theorem dL_law_380 : decode cL_law 380 = .ok (.invokevirtual 41, 3) := by decide +kernel
theorem dL_law_383 : decode cL_law 383 = .ok (.aload_n 2, 1) := by decide +kernel
theorem dL_law_384 : decode cL_law 384 = .ok (.aload_n 0, 1) := by decide +kernel
theorem dL_law_385 : decode cL_law 385 = .ok (.iload_n 3, 1) := by decide +kernel
theorem dL_law_386 : decode cL_law 386 = .ok (.iconst 1, 1) := by decide +kernel
theorem dL_law_387 : decode cL_law 387 = .ok (.iadd, 1) := by decide +kernel
theorem dL_law_388 : decode cL_law 388 = .ok (.iaload, 1) := by decide +kernel
theorem dL_law_389 : decode cL_law 389 = .ok (.aload_n 0, 1) := by decide +kernel
theorem dL_law_390 : decode cL_law 390 = .ok (.iload_n 3, 1) := by decide +kernel
theorem dL_law_391 : decode cL_law 391 = .ok (.iconst 2, 1) := by decide +kernel
theorem dL_law_392 : decode cL_law 392 = .ok (.iadd, 1) := by decide +kernel
theorem dL_law_393 : decode cL_law 393 = .ok (.iaload, 1) := by decide +kernel
theorem dL_law_394 : decode cL_law 394 = .ok (.aload_n 0, 1) := by decide +kernel
theorem dL_law_395 : decode cL_law 395 = .ok (.iload_n 3, 1) := by decide +kernel
theorem dL_law_396 : decode cL_law 396 = .ok (.iconst 3, 1) := by decide +kernel
theorem dL_law_397 : decode cL_law 397 = .ok (.iadd, 1) := by decide +kernel
theorem dL_law_398 : decode cL_law 398 = .ok (.iaload, 1) := by decide +kernel
theorem dL_law_399 : decode cL_law 399 = .ok (.invokevirtual 44, 3) := by decide +kernel
theorem dL_law_402 : decode cL_law 402 = .ok (.if_icmp .eq 1026, 3) := by decide +kernel
theorem dL_law_405 : decode cL_law 405 = .ok (.iconst 0, 1) := by decide +kernel
theorem dL_law_406 : decode cL_law 406 = .ok (.ireturn, 1) := by decide +kernel
theorem dL_law_407 : decode cL_law 407 = .ok (.aload_n 1, 1) := by decide +kernel
theorem dL_law_408 : decode cL_law 408 = .ok (.aload_n 0, 1) := by decide +kernel
theorem dL_law_409 : decode cL_law 409 = .ok (.iload_n 3, 1) := by decide +kernel
theorem dL_law_410 : decode cL_law 410 = .ok (.iconst 1, 1) := by decide +kernel
theorem dL_law_411 : decode cL_law 411 = .ok (.iadd, 1) := by decide +kernel
theorem dL_law_412 : decode cL_law 412 = .ok (.iaload, 1) := by decide +kernel
theorem dL_law_413 : decode cL_law 413 = .ok (.aload_n 0, 1) := by decide +kernel
theorem dL_law_414 : decode cL_law 414 = .ok (.iload_n 3, 1) := by decide +kernel
theorem dL_law_415 : decode cL_law 415 = .ok (.iconst 2, 1) := by decide +kernel
theorem dL_law_416 : decode cL_law 416 = .ok (.iadd, 1) := by decide +kernel
theorem dL_law_417 : decode cL_law 417 = .ok (.iaload, 1) := by decide +kernel
theorem dL_law_418 : decode cL_law 418 = .ok (.aload_n 0, 1) := by decide +kernel
theorem dL_law_419 : decode cL_law 419 = .ok (.iload_n 3, 1) := by decide +kernel
theorem dL_law_420 : decode cL_law 420 = .ok (.iconst 3, 1) := by decide +kernel
theorem dL_law_421 : decode cL_law 421 = .ok (.iadd, 1) := by decide +kernel
theorem dL_law_422 : decode cL_law 422 = .ok (.iaload, 1) := by decide +kernel
theorem dL_law_423 : decode cL_law 423 = .ok (.invokevirtual 45, 3) := by decide +kernel
theorem dL_law_426 : decode cL_law 426 = .ok (.aload_n 2, 1) := by decide +kernel
theorem dL_law_427 : decode cL_law 427 = .ok (.aload_n 0, 1) := by decide +kernel
theorem dL_law_428 : decode cL_law 428 = .ok (.iload_n 3, 1) := by decide +kernel
theorem dL_law_429 : decode cL_law 429 = .ok (.iconst 1, 1) := by decide +kernel
theorem dL_law_430 : decode cL_law 430 = .ok (.iadd, 1) := by decide +kernel
theorem dL_law_431 : decode cL_law 431 = .ok (.iaload, 1) := by decide +kernel
theorem dL_law_432 : decode cL_law 432 = .ok (.aload_n 0, 1) := by decide +kernel
theorem dL_law_433 : decode cL_law 433 = .ok (.iload_n 3, 1) := by decide +kernel
theorem dL_law_434 : decode cL_law 434 = .ok (.iconst 2, 1) := by decide +kernel
theorem dL_law_435 : decode cL_law 435 = .ok (.iadd, 1) := by decide +kernel
theorem dL_law_436 : decode cL_law 436 = .ok (.iaload, 1) := by decide +kernel
theorem dL_law_437 : decode cL_law 437 = .ok (.aload_n 0, 1) := by decide +kernel
theorem dL_law_438 : decode cL_law 438 = .ok (.iload_n 3, 1) := by decide +kernel
theorem dL_law_439 : decode cL_law 439 = .ok (.iconst 3, 1) := by decide +kernel
theorem dL_law_440 : decode cL_law 440 = .ok (.iadd, 1) := by decide +kernel
theorem dL_law_441 : decode cL_law 441 = .ok (.iaload, 1) := by decide +kernel
theorem dL_law_442 : decode cL_law 442 = .ok (.invokevirtual 48, 3) := by decide +kernel
theorem dL_law_445 : decode cL_law 445 = .ok (.if_icmp .eq 983, 3) := by decide +kernel
theorem dL_law_448 : decode cL_law 448 = .ok (.iconst 0, 1) := by decide +kernel
theorem dL_law_449 : decode cL_law 449 = .ok (.ireturn, 1) := by decide +kernel
theorem dL_law_450 : decode cL_law 450 = .ok (.aload_n 1, 1) := by decide +kernel
theorem dL_law_451 : decode cL_law 451 = .ok (.aload_n 0, 1) := by decide +kernel
theorem dL_law_452 : decode cL_law 452 = .ok (.iload_n 3, 1) := by decide +kernel
theorem dL_law_453 : decode cL_law 453 = .ok (.iconst 1, 1) := by decide +kernel
theorem dL_law_454 : decode cL_law 454 = .ok (.iadd, 1) := by decide +kernel
theorem dL_law_455 : decode cL_law 455 = .ok (.iaload, 1) := by decide +kernel
theorem dL_law_456 : decode cL_law 456 = .ok (.invokevirtual 49, 3) := by decide +kernel
theorem dL_law_459 : decode cL_law 459 = .ok (.aload_n 2, 1) := by decide +kernel
theorem dL_law_460 : decode cL_law 460 = .ok (.aload_n 0, 1) := by decide +kernel
theorem dL_law_461 : decode cL_law 461 = .ok (.iload_n 3, 1) := by decide +kernel
theorem dL_law_462 : decode cL_law 462 = .ok (.iconst 1, 1) := by decide +kernel
theorem dL_law_463 : decode cL_law 463 = .ok (.iadd, 1) := by decide +kernel
theorem dL_law_464 : decode cL_law 464 = .ok (.iaload, 1) := by decide +kernel
theorem dL_law_465 : decode cL_law 465 = .ok (.invokevirtual 52, 3) := by decide +kernel
theorem dL_law_468 : decode cL_law 468 = .ok (.if_icmp .eq 960, 3) := by decide +kernel
theorem dL_law_471 : decode cL_law 471 = .ok (.iconst 0, 1) := by decide +kernel
theorem dL_law_472 : decode cL_law 472 = .ok (.ireturn, 1) := by decide +kernel
theorem dL_law_473 : decode cL_law 473 = .ok (.aload_n 1, 1) := by decide +kernel
theorem dL_law_474 : decode cL_law 474 = .ok (.aload_n 0, 1) := by decide +kernel
theorem dL_law_475 : decode cL_law 475 = .ok (.iload_n 3, 1) := by decide +kernel
theorem dL_law_476 : decode cL_law 476 = .ok (.iconst 1, 1) := by decide +kernel
theorem dL_law_477 : decode cL_law 477 = .ok (.iadd, 1) := by decide +kernel
theorem dL_law_478 : decode cL_law 478 = .ok (.iaload, 1) := by decide +kernel
theorem dL_law_479 : decode cL_law 479 = .ok (.aload_n 0, 1) := by decide +kernel
theorem dL_law_480 : decode cL_law 480 = .ok (.iload_n 3, 1) := by decide +kernel
theorem dL_law_481 : decode cL_law 481 = .ok (.iconst 2, 1) := by decide +kernel
theorem dL_law_482 : decode cL_law 482 = .ok (.iadd, 1) := by decide +kernel
theorem dL_law_483 : decode cL_law 483 = .ok (.iaload, 1) := by decide +kernel
theorem dL_law_484 : decode cL_law 484 = .ok (.invokevirtual 53, 3) := by decide +kernel
theorem dL_law_487 : decode cL_law 487 = .ok (.aload_n 2, 1) := by decide +kernel
theorem dL_law_488 : decode cL_law 488 = .ok (.aload_n 0, 1) := by decide +kernel
theorem dL_law_489 : decode cL_law 489 = .ok (.iload_n 3, 1) := by decide +kernel
theorem dL_law_490 : decode cL_law 490 = .ok (.iconst 1, 1) := by decide +kernel
theorem dL_law_491 : decode cL_law 491 = .ok (.iadd, 1) := by decide +kernel
theorem dL_law_492 : decode cL_law 492 = .ok (.iaload, 1) := by decide +kernel
theorem dL_law_493 : decode cL_law 493 = .ok (.aload_n 0, 1) := by decide +kernel
theorem dL_law_494 : decode cL_law 494 = .ok (.iload_n 3, 1) := by decide +kernel
theorem dL_law_495 : decode cL_law 495 = .ok (.iconst 2, 1) := by decide +kernel
theorem dL_law_496 : decode cL_law 496 = .ok (.iadd, 1) := by decide +kernel
theorem dL_law_497 : decode cL_law 497 = .ok (.iaload, 1) := by decide +kernel
theorem dL_law_498 : decode cL_law 498 = .ok (.invokevirtual 56, 3) := by decide +kernel
theorem dL_law_501 : decode cL_law 501 = .ok (.if_icmp .eq 927, 3) := by decide +kernel
theorem dL_law_504 : decode cL_law 504 = .ok (.iconst 0, 1) := by decide +kernel
theorem dL_law_505 : decode cL_law 505 = .ok (.ireturn, 1) := by decide +kernel
theorem dL_law_506 : decode cL_law 506 = .ok (.aload_n 1, 1) := by decide +kernel
theorem dL_law_507 : decode cL_law 507 = .ok (.aload_n 0, 1) := by decide +kernel
theorem dL_law_508 : decode cL_law 508 = .ok (.iload_n 3, 1) := by decide +kernel
theorem dL_law_509 : decode cL_law 509 = .ok (.iconst 1, 1) := by decide +kernel
theorem dL_law_510 : decode cL_law 510 = .ok (.iadd, 1) := by decide +kernel
theorem dL_law_511 : decode cL_law 511 = .ok (.iaload, 1) := by decide +kernel
theorem dL_law_512 : decode cL_law 512 = .ok (.aload_n 0, 1) := by decide +kernel
theorem dL_law_513 : decode cL_law 513 = .ok (.iload_n 3, 1) := by decide +kernel
theorem dL_law_514 : decode cL_law 514 = .ok (.iconst 2, 1) := by decide +kernel
theorem dL_law_515 : decode cL_law 515 = .ok (.iadd, 1) := by decide +kernel
theorem dL_law_516 : decode cL_law 516 = .ok (.iaload, 1) := by decide +kernel
theorem dL_law_517 : decode cL_law 517 = .ok (.aload_n 0, 1) := by decide +kernel
theorem dL_law_518 : decode cL_law 518 = .ok (.iload_n 3, 1) := by decide +kernel
theorem dL_law_519 : decode cL_law 519 = .ok (.iconst 3, 1) := by decide +kernel
theorem dL_law_520 : decode cL_law 520 = .ok (.iadd, 1) := by decide +kernel
theorem dL_law_521 : decode cL_law 521 = .ok (.iaload, 1) := by decide +kernel
theorem dL_law_522 : decode cL_law 522 = .ok (.invokevirtual 57, 3) := by decide +kernel
theorem dL_law_525 : decode cL_law 525 = .ok (.aload_n 2, 1) := by decide +kernel
theorem dL_law_526 : decode cL_law 526 = .ok (.aload_n 0, 1) := by decide +kernel
theorem dL_law_527 : decode cL_law 527 = .ok (.iload_n 3, 1) := by decide +kernel
theorem dL_law_528 : decode cL_law 528 = .ok (.iconst 1, 1) := by decide +kernel
theorem dL_law_529 : decode cL_law 529 = .ok (.iadd, 1) := by decide +kernel
theorem dL_law_530 : decode cL_law 530 = .ok (.iaload, 1) := by decide +kernel
theorem dL_law_531 : decode cL_law 531 = .ok (.aload_n 0, 1) := by decide +kernel
theorem dL_law_532 : decode cL_law 532 = .ok (.iload_n 3, 1) := by decide +kernel
theorem dL_law_533 : decode cL_law 533 = .ok (.iconst 2, 1) := by decide +kernel
theorem dL_law_534 : decode cL_law 534 = .ok (.iadd, 1) := by decide +kernel
theorem dL_law_535 : decode cL_law 535 = .ok (.iaload, 1) := by decide +kernel
theorem dL_law_536 : decode cL_law 536 = .ok (.aload_n 0, 1) := by decide +kernel
theorem dL_law_537 : decode cL_law 537 = .ok (.iload_n 3, 1) := by decide +kernel
theorem dL_law_538 : decode cL_law 538 = .ok (.iconst 3, 1) := by decide +kernel
theorem dL_law_539 : decode cL_law 539 = .ok (.iadd, 1) := by decide +kernel
theorem dL_law_540 : decode cL_law 540 = .ok (.iaload, 1) := by decide +kernel
theorem dL_law_541 : decode cL_law 541 = .ok (.invokevirtual 60, 3) := by decide +kernel
theorem dL_law_544 : decode cL_law 544 = .ok (.if_icmp .eq 884, 3) := by decide +kernel
theorem dL_law_547 : decode cL_law 547 = .ok (.iconst 0, 1) := by decide +kernel
theorem dL_law_548 : decode cL_law 548 = .ok (.ireturn, 1) := by decide +kernel
theorem dL_law_549 : decode cL_law 549 = .ok (.aload_n 1, 1) := by decide +kernel
theorem dL_law_550 : decode cL_law 550 = .ok (.aload_n 0, 1) := by decide +kernel
theorem dL_law_551 : decode cL_law 551 = .ok (.iload_n 3, 1) := by decide +kernel
theorem dL_law_552 : decode cL_law 552 = .ok (.iconst 1, 1) := by decide +kernel
theorem dL_law_553 : decode cL_law 553 = .ok (.iadd, 1) := by decide +kernel
theorem dL_law_554 : decode cL_law 554 = .ok (.iaload, 1) := by decide +kernel
theorem dL_law_555 : decode cL_law 555 = .ok (.aload_n 0, 1) := by decide +kernel
theorem dL_law_556 : decode cL_law 556 = .ok (.iload_n 3, 1) := by decide +kernel
theorem dL_law_557 : decode cL_law 557 = .ok (.iconst 2, 1) := by decide +kernel
theorem dL_law_558 : decode cL_law 558 = .ok (.iadd, 1) := by decide +kernel
theorem dL_law_559 : decode cL_law 559 = .ok (.iaload, 1) := by decide +kernel
theorem dL_law_560 : decode cL_law 560 = .ok (.aload_n 0, 1) := by decide +kernel
theorem dL_law_561 : decode cL_law 561 = .ok (.iload_n 3, 1) := by decide +kernel
theorem dL_law_562 : decode cL_law 562 = .ok (.iconst 3, 1) := by decide +kernel
theorem dL_law_563 : decode cL_law 563 = .ok (.iadd, 1) := by decide +kernel
theorem dL_law_564 : decode cL_law 564 = .ok (.iaload, 1) := by decide +kernel
theorem dL_law_565 : decode cL_law 565 = .ok (.invokevirtual 61, 3) := by decide +kernel
theorem dL_law_568 : decode cL_law 568 = .ok (.aload_n 2, 1) := by decide +kernel
theorem dL_law_569 : decode cL_law 569 = .ok (.aload_n 0, 1) := by decide +kernel
theorem dL_law_570 : decode cL_law 570 = .ok (.iload_n 3, 1) := by decide +kernel
theorem dL_law_571 : decode cL_law 571 = .ok (.iconst 1, 1) := by decide +kernel
theorem dL_law_572 : decode cL_law 572 = .ok (.iadd, 1) := by decide +kernel
theorem dL_law_573 : decode cL_law 573 = .ok (.iaload, 1) := by decide +kernel
theorem dL_law_574 : decode cL_law 574 = .ok (.aload_n 0, 1) := by decide +kernel
theorem dL_law_575 : decode cL_law 575 = .ok (.iload_n 3, 1) := by decide +kernel
theorem dL_law_576 : decode cL_law 576 = .ok (.iconst 2, 1) := by decide +kernel
theorem dL_law_577 : decode cL_law 577 = .ok (.iadd, 1) := by decide +kernel
theorem dL_law_578 : decode cL_law 578 = .ok (.iaload, 1) := by decide +kernel
theorem dL_law_579 : decode cL_law 579 = .ok (.aload_n 0, 1) := by decide +kernel
theorem dL_law_580 : decode cL_law 580 = .ok (.iload_n 3, 1) := by decide +kernel
theorem dL_law_581 : decode cL_law 581 = .ok (.iconst 3, 1) := by decide +kernel
theorem dL_law_582 : decode cL_law 582 = .ok (.iadd, 1) := by decide +kernel
theorem dL_law_583 : decode cL_law 583 = .ok (.iaload, 1) := by decide +kernel
theorem dL_law_584 : decode cL_law 584 = .ok (.invokevirtual 64, 3) := by decide +kernel
theorem dL_law_587 : decode cL_law 587 = .ok (.if_icmp .eq 841, 3) := by decide +kernel
theorem dL_law_590 : decode cL_law 590 = .ok (.iconst 0, 1) := by decide +kernel
theorem dL_law_591 : decode cL_law 591 = .ok (.ireturn, 1) := by decide +kernel
theorem dL_law_592 : decode cL_law 592 = .ok (.aload_n 1, 1) := by decide +kernel
theorem dL_law_593 : decode cL_law 593 = .ok (.aload_n 0, 1) := by decide +kernel
theorem dL_law_594 : decode cL_law 594 = .ok (.iload_n 3, 1) := by decide +kernel
theorem dL_law_595 : decode cL_law 595 = .ok (.iconst 1, 1) := by decide +kernel
theorem dL_law_596 : decode cL_law 596 = .ok (.iadd, 1) := by decide +kernel
theorem dL_law_597 : decode cL_law 597 = .ok (.iaload, 1) := by decide +kernel
theorem dL_law_598 : decode cL_law 598 = .ok (.aload_n 0, 1) := by decide +kernel
theorem dL_law_599 : decode cL_law 599 = .ok (.iload_n 3, 1) := by decide +kernel
theorem dL_law_600 : decode cL_law 600 = .ok (.iconst 2, 1) := by decide +kernel
theorem dL_law_601 : decode cL_law 601 = .ok (.iadd, 1) := by decide +kernel
theorem dL_law_602 : decode cL_law 602 = .ok (.iaload, 1) := by decide +kernel
theorem dL_law_603 : decode cL_law 603 = .ok (.invokevirtual 65, 3) := by decide +kernel
theorem dL_law_606 : decode cL_law 606 = .ok (.aload_n 2, 1) := by decide +kernel
theorem dL_law_607 : decode cL_law 607 = .ok (.aload_n 0, 1) := by decide +kernel
theorem dL_law_608 : decode cL_law 608 = .ok (.iload_n 3, 1) := by decide +kernel
theorem dL_law_609 : decode cL_law 609 = .ok (.iconst 1, 1) := by decide +kernel
theorem dL_law_610 : decode cL_law 610 = .ok (.iadd, 1) := by decide +kernel
theorem dL_law_611 : decode cL_law 611 = .ok (.iaload, 1) := by decide +kernel
theorem dL_law_612 : decode cL_law 612 = .ok (.aload_n 0, 1) := by decide +kernel
theorem dL_law_613 : decode cL_law 613 = .ok (.iload_n 3, 1) := by decide +kernel
theorem dL_law_614 : decode cL_law 614 = .ok (.iconst 2, 1) := by decide +kernel
theorem dL_law_615 : decode cL_law 615 = .ok (.iadd, 1) := by decide +kernel
theorem dL_law_616 : decode cL_law 616 = .ok (.iaload, 1) := by decide +kernel
theorem dL_law_617 : decode cL_law 617 = .ok (.invokevirtual 68, 3) := by decide +kernel
theorem dL_law_620 : decode cL_law 620 = .ok (.if_icmp .eq 808, 3) := by decide +kernel
theorem dL_law_623 : decode cL_law 623 = .ok (.iconst 0, 1) := by decide +kernel
theorem dL_law_624 : decode cL_law 624 = .ok (.ireturn, 1) := by decide +kernel
theorem dL_law_625 : decode cL_law 625 = .ok (.aload_n 1, 1) := by decide +kernel
theorem dL_law_626 : decode cL_law 626 = .ok (.aload_n 0, 1) := by decide +kernel
theorem dL_law_627 : decode cL_law 627 = .ok (.iload_n 3, 1) := by decide +kernel
theorem dL_law_628 : decode cL_law 628 = .ok (.iconst 1, 1) := by decide +kernel
theorem dL_law_629 : decode cL_law 629 = .ok (.iadd, 1) := by decide +kernel
theorem dL_law_630 : decode cL_law 630 = .ok (.iaload, 1) := by decide +kernel
theorem dL_law_631 : decode cL_law 631 = .ok (.invokevirtual 69, 3) := by decide +kernel
theorem dL_law_634 : decode cL_law 634 = .ok (.aload_n 2, 1) := by decide +kernel
theorem dL_law_635 : decode cL_law 635 = .ok (.aload_n 0, 1) := by decide +kernel
theorem dL_law_636 : decode cL_law 636 = .ok (.iload_n 3, 1) := by decide +kernel
theorem dL_law_637 : decode cL_law 637 = .ok (.iconst 1, 1) := by decide +kernel
theorem dL_law_638 : decode cL_law 638 = .ok (.iadd, 1) := by decide +kernel
theorem dL_law_639 : decode cL_law 639 = .ok (.iaload, 1) := by decide +kernel
theorem dL_law_640 : decode cL_law 640 = .ok (.invokevirtual 72, 3) := by decide +kernel
theorem dL_law_643 : decode cL_law 643 = .ok (.if_icmp .eq 785, 3) := by decide +kernel
theorem dL_law_646 : decode cL_law 646 = .ok (.iconst 0, 1) := by decide +kernel
theorem dL_law_647 : decode cL_law 647 = .ok (.ireturn, 1) := by decide +kernel
theorem dL_law_648 : decode cL_law 648 = .ok (.aload_n 1, 1) := by decide +kernel
theorem dL_law_649 : decode cL_law 649 = .ok (.aload_n 0, 1) := by decide +kernel
theorem dL_law_650 : decode cL_law 650 = .ok (.iload_n 3, 1) := by decide +kernel
theorem dL_law_651 : decode cL_law 651 = .ok (.iconst 1, 1) := by decide +kernel
theorem dL_law_652 : decode cL_law 652 = .ok (.iadd, 1) := by decide +kernel
theorem dL_law_653 : decode cL_law 653 = .ok (.iaload, 1) := by decide +kernel
theorem dL_law_654 : decode cL_law 654 = .ok (.aload_n 0, 1) := by decide +kernel
theorem dL_law_655 : decode cL_law 655 = .ok (.iload_n 3, 1) := by decide +kernel
theorem dL_law_656 : decode cL_law 656 = .ok (.iconst 2, 1) := by decide +kernel
theorem dL_law_657 : decode cL_law 657 = .ok (.iadd, 1) := by decide +kernel
theorem dL_law_658 : decode cL_law 658 = .ok (.iaload, 1) := by decide +kernel
theorem dL_law_659 : decode cL_law 659 = .ok (.invokevirtual 73, 3) := by decide +kernel
theorem dL_law_662 : decode cL_law 662 = .ok (.aload_n 2, 1) := by decide +kernel
theorem dL_law_663 : decode cL_law 663 = .ok (.aload_n 0, 1) := by decide +kernel
theorem dL_law_664 : decode cL_law 664 = .ok (.iload_n 3, 1) := by decide +kernel
theorem dL_law_665 : decode cL_law 665 = .ok (.iconst 1, 1) := by decide +kernel
theorem dL_law_666 : decode cL_law 666 = .ok (.iadd, 1) := by decide +kernel
theorem dL_law_667 : decode cL_law 667 = .ok (.iaload, 1) := by decide +kernel
theorem dL_law_668 : decode cL_law 668 = .ok (.aload_n 0, 1) := by decide +kernel
theorem dL_law_669 : decode cL_law 669 = .ok (.iload_n 3, 1) := by decide +kernel
theorem dL_law_670 : decode cL_law 670 = .ok (.iconst 2, 1) := by decide +kernel
theorem dL_law_671 : decode cL_law 671 = .ok (.iadd, 1) := by decide +kernel
theorem dL_law_672 : decode cL_law 672 = .ok (.iaload, 1) := by decide +kernel
theorem dL_law_673 : decode cL_law 673 = .ok (.invokevirtual 76, 3) := by decide +kernel
theorem dL_law_676 : decode cL_law 676 = .ok (.if_icmp .eq 752, 3) := by decide +kernel
theorem dL_law_679 : decode cL_law 679 = .ok (.iconst 0, 1) := by decide +kernel
theorem dL_law_680 : decode cL_law 680 = .ok (.ireturn, 1) := by decide +kernel
theorem dL_law_681 : decode cL_law 681 = .ok (.aload_n 1, 1) := by decide +kernel
theorem dL_law_682 : decode cL_law 682 = .ok (.aload_n 0, 1) := by decide +kernel
theorem dL_law_683 : decode cL_law 683 = .ok (.iload_n 3, 1) := by decide +kernel
theorem dL_law_684 : decode cL_law 684 = .ok (.iconst 1, 1) := by decide +kernel
theorem dL_law_685 : decode cL_law 685 = .ok (.iadd, 1) := by decide +kernel
theorem dL_law_686 : decode cL_law 686 = .ok (.iaload, 1) := by decide +kernel
theorem dL_law_687 : decode cL_law 687 = .ok (.aload_n 0, 1) := by decide +kernel
theorem dL_law_688 : decode cL_law 688 = .ok (.iload_n 3, 1) := by decide +kernel
theorem dL_law_689 : decode cL_law 689 = .ok (.iconst 2, 1) := by decide +kernel
theorem dL_law_690 : decode cL_law 690 = .ok (.iadd, 1) := by decide +kernel
theorem dL_law_691 : decode cL_law 691 = .ok (.iaload, 1) := by decide +kernel
theorem dL_law_692 : decode cL_law 692 = .ok (.invokevirtual 77, 3) := by decide +kernel
theorem dL_law_695 : decode cL_law 695 = .ok (.aload_n 2, 1) := by decide +kernel
theorem dL_law_696 : decode cL_law 696 = .ok (.aload_n 0, 1) := by decide +kernel
theorem dL_law_697 : decode cL_law 697 = .ok (.iload_n 3, 1) := by decide +kernel
theorem dL_law_698 : decode cL_law 698 = .ok (.iconst 1, 1) := by decide +kernel
theorem dL_law_699 : decode cL_law 699 = .ok (.iadd, 1) := by decide +kernel
theorem dL_law_700 : decode cL_law 700 = .ok (.iaload, 1) := by decide +kernel
theorem dL_law_701 : decode cL_law 701 = .ok (.aload_n 0, 1) := by decide +kernel
theorem dL_law_702 : decode cL_law 702 = .ok (.iload_n 3, 1) := by decide +kernel
theorem dL_law_703 : decode cL_law 703 = .ok (.iconst 2, 1) := by decide +kernel
theorem dL_law_704 : decode cL_law 704 = .ok (.iadd, 1) := by decide +kernel
theorem dL_law_705 : decode cL_law 705 = .ok (.iaload, 1) := by decide +kernel
theorem dL_law_706 : decode cL_law 706 = .ok (.invokevirtual 80, 3) := by decide +kernel
theorem dL_law_709 : decode cL_law 709 = .ok (.if_icmp .eq 719, 3) := by decide +kernel
theorem dL_law_712 : decode cL_law 712 = .ok (.iconst 0, 1) := by decide +kernel
theorem dL_law_713 : decode cL_law 713 = .ok (.ireturn, 1) := by decide +kernel
theorem dL_law_714 : decode cL_law 714 = .ok (.aload_n 1, 1) := by decide +kernel
theorem dL_law_715 : decode cL_law 715 = .ok (.aload_n 0, 1) := by decide +kernel
theorem dL_law_716 : decode cL_law 716 = .ok (.iload_n 3, 1) := by decide +kernel
theorem dL_law_717 : decode cL_law 717 = .ok (.iconst 1, 1) := by decide +kernel
theorem dL_law_718 : decode cL_law 718 = .ok (.iadd, 1) := by decide +kernel
theorem dL_law_719 : decode cL_law 719 = .ok (.iaload, 1) := by decide +kernel
theorem dL_law_720 : decode cL_law 720 = .ok (.aload_n 0, 1) := by decide +kernel
theorem dL_law_721 : decode cL_law 721 = .ok (.iload_n 3, 1) := by decide +kernel
theorem dL_law_722 : decode cL_law 722 = .ok (.iconst 2, 1) := by decide +kernel
theorem dL_law_723 : decode cL_law 723 = .ok (.iadd, 1) := by decide +kernel
theorem dL_law_724 : decode cL_law 724 = .ok (.iaload, 1) := by decide +kernel
theorem dL_law_725 : decode cL_law 725 = .ok (.invokevirtual 81, 3) := by decide +kernel
theorem dL_law_728 : decode cL_law 728 = .ok (.aload_n 2, 1) := by decide +kernel
theorem dL_law_729 : decode cL_law 729 = .ok (.aload_n 0, 1) := by decide +kernel
theorem dL_law_730 : decode cL_law 730 = .ok (.iload_n 3, 1) := by decide +kernel
theorem dL_law_731 : decode cL_law 731 = .ok (.iconst 1, 1) := by decide +kernel
theorem dL_law_732 : decode cL_law 732 = .ok (.iadd, 1) := by decide +kernel
theorem dL_law_733 : decode cL_law 733 = .ok (.iaload, 1) := by decide +kernel
theorem dL_law_734 : decode cL_law 734 = .ok (.aload_n 0, 1) := by decide +kernel
theorem dL_law_735 : decode cL_law 735 = .ok (.iload_n 3, 1) := by decide +kernel
theorem dL_law_736 : decode cL_law 736 = .ok (.iconst 2, 1) := by decide +kernel
theorem dL_law_737 : decode cL_law 737 = .ok (.iadd, 1) := by decide +kernel
theorem dL_law_738 : decode cL_law 738 = .ok (.iaload, 1) := by decide +kernel
theorem dL_law_739 : decode cL_law 739 = .ok (.invokevirtual 84, 3) := by decide +kernel
theorem dL_law_742 : decode cL_law 742 = .ok (.if_icmp .eq 686, 3) := by decide +kernel
theorem dL_law_745 : decode cL_law 745 = .ok (.iconst 0, 1) := by decide +kernel
theorem dL_law_746 : decode cL_law 746 = .ok (.ireturn, 1) := by decide +kernel
theorem dL_law_747 : decode cL_law 747 = .ok (.aload_n 1, 1) := by decide +kernel
theorem dL_law_748 : decode cL_law 748 = .ok (.aload_n 0, 1) := by decide +kernel
theorem dL_law_749 : decode cL_law 749 = .ok (.iload_n 3, 1) := by decide +kernel
theorem dL_law_750 : decode cL_law 750 = .ok (.iconst 1, 1) := by decide +kernel
theorem dL_law_751 : decode cL_law 751 = .ok (.iadd, 1) := by decide +kernel
theorem dL_law_752 : decode cL_law 752 = .ok (.iaload, 1) := by decide +kernel
theorem dL_law_753 : decode cL_law 753 = .ok (.invokevirtual 85, 3) := by decide +kernel
theorem dL_law_756 : decode cL_law 756 = .ok (.aload_n 2, 1) := by decide +kernel
theorem dL_law_757 : decode cL_law 757 = .ok (.aload_n 0, 1) := by decide +kernel
theorem dL_law_758 : decode cL_law 758 = .ok (.iload_n 3, 1) := by decide +kernel
theorem dL_law_759 : decode cL_law 759 = .ok (.iconst 1, 1) := by decide +kernel
theorem dL_law_760 : decode cL_law 760 = .ok (.iadd, 1) := by decide +kernel
theorem dL_law_761 : decode cL_law 761 = .ok (.iaload, 1) := by decide +kernel
theorem dL_law_762 : decode cL_law 762 = .ok (.invokevirtual 88, 3) := by decide +kernel
theorem dL_law_765 : decode cL_law 765 = .ok (.if_icmp .eq 663, 3) := by decide +kernel
theorem dL_law_768 : decode cL_law 768 = .ok (.iconst 0, 1) := by decide +kernel
theorem dL_law_769 : decode cL_law 769 = .ok (.ireturn, 1) := by decide +kernel
theorem dL_law_770 : decode cL_law 770 = .ok (.aload_n 1, 1) := by decide +kernel
theorem dL_law_771 : decode cL_law 771 = .ok (.aload_n 0, 1) := by decide +kernel
theorem dL_law_772 : decode cL_law 772 = .ok (.iload_n 3, 1) := by decide +kernel
theorem dL_law_773 : decode cL_law 773 = .ok (.iconst 1, 1) := by decide +kernel
theorem dL_law_774 : decode cL_law 774 = .ok (.iadd, 1) := by decide +kernel
theorem dL_law_775 : decode cL_law 775 = .ok (.iaload, 1) := by decide +kernel
theorem dL_law_776 : decode cL_law 776 = .ok (.aload_n 0, 1) := by decide +kernel
theorem dL_law_777 : decode cL_law 777 = .ok (.iload_n 3, 1) := by decide +kernel
theorem dL_law_778 : decode cL_law 778 = .ok (.iconst 2, 1) := by decide +kernel
theorem dL_law_779 : decode cL_law 779 = .ok (.iadd, 1) := by decide +kernel
theorem dL_law_780 : decode cL_law 780 = .ok (.iaload, 1) := by decide +kernel
theorem dL_law_781 : decode cL_law 781 = .ok (.invokevirtual 89, 3) := by decide +kernel
theorem dL_law_784 : decode cL_law 784 = .ok (.aload_n 2, 1) := by decide +kernel
theorem dL_law_785 : decode cL_law 785 = .ok (.aload_n 0, 1) := by decide +kernel
theorem dL_law_786 : decode cL_law 786 = .ok (.iload_n 3, 1) := by decide +kernel
theorem dL_law_787 : decode cL_law 787 = .ok (.iconst 1, 1) := by decide +kernel
theorem dL_law_788 : decode cL_law 788 = .ok (.iadd, 1) := by decide +kernel
theorem dL_law_789 : decode cL_law 789 = .ok (.iaload, 1) := by decide +kernel
theorem dL_law_790 : decode cL_law 790 = .ok (.aload_n 0, 1) := by decide +kernel
theorem dL_law_791 : decode cL_law 791 = .ok (.iload_n 3, 1) := by decide +kernel
theorem dL_law_792 : decode cL_law 792 = .ok (.iconst 2, 1) := by decide +kernel
theorem dL_law_793 : decode cL_law 793 = .ok (.iadd, 1) := by decide +kernel
theorem dL_law_794 : decode cL_law 794 = .ok (.iaload, 1) := by decide +kernel
theorem dL_law_795 : decode cL_law 795 = .ok (.invokevirtual 92, 3) := by decide +kernel
theorem dL_law_798 : decode cL_law 798 = .ok (.if_icmp .eq 630, 3) := by decide +kernel
theorem dL_law_801 : decode cL_law 801 = .ok (.iconst 0, 1) := by decide +kernel
theorem dL_law_802 : decode cL_law 802 = .ok (.ireturn, 1) := by decide +kernel
theorem dL_law_803 : decode cL_law 803 = .ok (.aload_n 1, 1) := by decide +kernel
theorem dL_law_804 : decode cL_law 804 = .ok (.aload_n 0, 1) := by decide +kernel
theorem dL_law_805 : decode cL_law 805 = .ok (.iload_n 3, 1) := by decide +kernel
theorem dL_law_806 : decode cL_law 806 = .ok (.iconst 1, 1) := by decide +kernel
theorem dL_law_807 : decode cL_law 807 = .ok (.iadd, 1) := by decide +kernel
theorem dL_law_808 : decode cL_law 808 = .ok (.iaload, 1) := by decide +kernel
theorem dL_law_809 : decode cL_law 809 = .ok (.aload_n 0, 1) := by decide +kernel
theorem dL_law_810 : decode cL_law 810 = .ok (.iload_n 3, 1) := by decide +kernel
theorem dL_law_811 : decode cL_law 811 = .ok (.iconst 2, 1) := by decide +kernel
theorem dL_law_812 : decode cL_law 812 = .ok (.iadd, 1) := by decide +kernel
theorem dL_law_813 : decode cL_law 813 = .ok (.iaload, 1) := by decide +kernel
theorem dL_law_814 : decode cL_law 814 = .ok (.invokevirtual 93, 3) := by decide +kernel
theorem dL_law_817 : decode cL_law 817 = .ok (.aload_n 2, 1) := by decide +kernel
theorem dL_law_818 : decode cL_law 818 = .ok (.aload_n 0, 1) := by decide +kernel
theorem dL_law_819 : decode cL_law 819 = .ok (.iload_n 3, 1) := by decide +kernel
theorem dL_law_820 : decode cL_law 820 = .ok (.iconst 1, 1) := by decide +kernel
theorem dL_law_821 : decode cL_law 821 = .ok (.iadd, 1) := by decide +kernel
theorem dL_law_822 : decode cL_law 822 = .ok (.iaload, 1) := by decide +kernel
theorem dL_law_823 : decode cL_law 823 = .ok (.aload_n 0, 1) := by decide +kernel
theorem dL_law_824 : decode cL_law 824 = .ok (.iload_n 3, 1) := by decide +kernel
theorem dL_law_825 : decode cL_law 825 = .ok (.iconst 2, 1) := by decide +kernel
theorem dL_law_826 : decode cL_law 826 = .ok (.iadd, 1) := by decide +kernel
theorem dL_law_827 : decode cL_law 827 = .ok (.iaload, 1) := by decide +kernel
theorem dL_law_828 : decode cL_law 828 = .ok (.invokevirtual 96, 3) := by decide +kernel
theorem dL_law_831 : decode cL_law 831 = .ok (.if_icmp .eq 597, 3) := by decide +kernel
theorem dL_law_834 : decode cL_law 834 = .ok (.iconst 0, 1) := by decide +kernel
theorem dL_law_835 : decode cL_law 835 = .ok (.ireturn, 1) := by decide +kernel
theorem dL_law_836 : decode cL_law 836 = .ok (.aload_n 1, 1) := by decide +kernel
theorem dL_law_837 : decode cL_law 837 = .ok (.aload_n 0, 1) := by decide +kernel
theorem dL_law_838 : decode cL_law 838 = .ok (.iload_n 3, 1) := by decide +kernel
theorem dL_law_839 : decode cL_law 839 = .ok (.iconst 1, 1) := by decide +kernel
theorem dL_law_840 : decode cL_law 840 = .ok (.iadd, 1) := by decide +kernel
theorem dL_law_841 : decode cL_law 841 = .ok (.iaload, 1) := by decide +kernel
theorem dL_law_842 : decode cL_law 842 = .ok (.aload_n 0, 1) := by decide +kernel
theorem dL_law_843 : decode cL_law 843 = .ok (.iload_n 3, 1) := by decide +kernel
theorem dL_law_844 : decode cL_law 844 = .ok (.iconst 2, 1) := by decide +kernel
theorem dL_law_845 : decode cL_law 845 = .ok (.iadd, 1) := by decide +kernel
theorem dL_law_846 : decode cL_law 846 = .ok (.iaload, 1) := by decide +kernel
theorem dL_law_847 : decode cL_law 847 = .ok (.invokevirtual 97, 3) := by decide +kernel
theorem dL_law_850 : decode cL_law 850 = .ok (.aload_n 2, 1) := by decide +kernel
theorem dL_law_851 : decode cL_law 851 = .ok (.aload_n 0, 1) := by decide +kernel
theorem dL_law_852 : decode cL_law 852 = .ok (.iload_n 3, 1) := by decide +kernel
theorem dL_law_853 : decode cL_law 853 = .ok (.iconst 1, 1) := by decide +kernel
theorem dL_law_854 : decode cL_law 854 = .ok (.iadd, 1) := by decide +kernel
theorem dL_law_855 : decode cL_law 855 = .ok (.iaload, 1) := by decide +kernel
theorem dL_law_856 : decode cL_law 856 = .ok (.aload_n 0, 1) := by decide +kernel
theorem dL_law_857 : decode cL_law 857 = .ok (.iload_n 3, 1) := by decide +kernel
theorem dL_law_858 : decode cL_law 858 = .ok (.iconst 2, 1) := by decide +kernel
theorem dL_law_859 : decode cL_law 859 = .ok (.iadd, 1) := by decide +kernel
theorem dL_law_860 : decode cL_law 860 = .ok (.iaload, 1) := by decide +kernel
theorem dL_law_861 : decode cL_law 861 = .ok (.invokevirtual 100, 3) := by decide +kernel
theorem dL_law_864 : decode cL_law 864 = .ok (.if_icmp .eq 564, 3) := by decide +kernel
theorem dL_law_867 : decode cL_law 867 = .ok (.iconst 0, 1) := by decide +kernel
theorem dL_law_868 : decode cL_law 868 = .ok (.ireturn, 1) := by decide +kernel
theorem dL_law_869 : decode cL_law 869 = .ok (.aload_n 1, 1) := by decide +kernel
theorem dL_law_870 : decode cL_law 870 = .ok (.aload_n 0, 1) := by decide +kernel
theorem dL_law_871 : decode cL_law 871 = .ok (.iload_n 3, 1) := by decide +kernel
theorem dL_law_872 : decode cL_law 872 = .ok (.iconst 1, 1) := by decide +kernel
theorem dL_law_873 : decode cL_law 873 = .ok (.iadd, 1) := by decide +kernel
theorem dL_law_874 : decode cL_law 874 = .ok (.iaload, 1) := by decide +kernel
theorem dL_law_875 : decode cL_law 875 = .ok (.invokevirtual 101, 3) := by decide +kernel
theorem dL_law_878 : decode cL_law 878 = .ok (.aload_n 2, 1) := by decide +kernel
theorem dL_law_879 : decode cL_law 879 = .ok (.aload_n 0, 1) := by decide +kernel
theorem dL_law_880 : decode cL_law 880 = .ok (.iload_n 3, 1) := by decide +kernel
theorem dL_law_881 : decode cL_law 881 = .ok (.iconst 1, 1) := by decide +kernel
theorem dL_law_882 : decode cL_law 882 = .ok (.iadd, 1) := by decide +kernel
theorem dL_law_883 : decode cL_law 883 = .ok (.iaload, 1) := by decide +kernel
theorem dL_law_884 : decode cL_law 884 = .ok (.invokevirtual 104, 3) := by decide +kernel
theorem dL_law_887 : decode cL_law 887 = .ok (.if_icmp .eq 541, 3) := by decide +kernel
theorem dL_law_890 : decode cL_law 890 = .ok (.iconst 0, 1) := by decide +kernel
theorem dL_law_891 : decode cL_law 891 = .ok (.ireturn, 1) := by decide +kernel
theorem dL_law_892 : decode cL_law 892 = .ok (.aload_n 1, 1) := by decide +kernel
theorem dL_law_893 : decode cL_law 893 = .ok (.aload_n 0, 1) := by decide +kernel
theorem dL_law_894 : decode cL_law 894 = .ok (.iload_n 3, 1) := by decide +kernel
theorem dL_law_895 : decode cL_law 895 = .ok (.iconst 1, 1) := by decide +kernel
theorem dL_law_896 : decode cL_law 896 = .ok (.iadd, 1) := by decide +kernel
theorem dL_law_897 : decode cL_law 897 = .ok (.iaload, 1) := by decide +kernel
theorem dL_law_898 : decode cL_law 898 = .ok (.invokevirtual 105, 3) := by decide +kernel
theorem dL_law_901 : decode cL_law 901 = .ok (.aload_n 2, 1) := by decide +kernel
theorem dL_law_902 : decode cL_law 902 = .ok (.aload_n 0, 1) := by decide +kernel
theorem dL_law_903 : decode cL_law 903 = .ok (.iload_n 3, 1) := by decide +kernel
theorem dL_law_904 : decode cL_law 904 = .ok (.iconst 1, 1) := by decide +kernel
theorem dL_law_905 : decode cL_law 905 = .ok (.iadd, 1) := by decide +kernel
theorem dL_law_906 : decode cL_law 906 = .ok (.iaload, 1) := by decide +kernel
theorem dL_law_907 : decode cL_law 907 = .ok (.invokevirtual 108, 3) := by decide +kernel
theorem dL_law_910 : decode cL_law 910 = .ok (.if_icmp .eq 518, 3) := by decide +kernel
theorem dL_law_913 : decode cL_law 913 = .ok (.iconst 0, 1) := by decide +kernel
theorem dL_law_914 : decode cL_law 914 = .ok (.ireturn, 1) := by decide +kernel
theorem dL_law_915 : decode cL_law 915 = .ok (.aload_n 1, 1) := by decide +kernel
theorem dL_law_916 : decode cL_law 916 = .ok (.aload_n 0, 1) := by decide +kernel
theorem dL_law_917 : decode cL_law 917 = .ok (.iload_n 3, 1) := by decide +kernel
theorem dL_law_918 : decode cL_law 918 = .ok (.iconst 1, 1) := by decide +kernel
theorem dL_law_919 : decode cL_law 919 = .ok (.iadd, 1) := by decide +kernel
theorem dL_law_920 : decode cL_law 920 = .ok (.iaload, 1) := by decide +kernel
theorem dL_law_921 : decode cL_law 921 = .ok (.aload_n 0, 1) := by decide +kernel
theorem dL_law_922 : decode cL_law 922 = .ok (.iload_n 3, 1) := by decide +kernel
theorem dL_law_923 : decode cL_law 923 = .ok (.iconst 2, 1) := by decide +kernel
theorem dL_law_924 : decode cL_law 924 = .ok (.iadd, 1) := by decide +kernel
theorem dL_law_925 : decode cL_law 925 = .ok (.iaload, 1) := by decide +kernel
theorem dL_law_926 : decode cL_law 926 = .ok (.aload_n 0, 1) := by decide +kernel
theorem dL_law_927 : decode cL_law 927 = .ok (.iload_n 3, 1) := by decide +kernel
theorem dL_law_928 : decode cL_law 928 = .ok (.iconst 3, 1) := by decide +kernel
theorem dL_law_929 : decode cL_law 929 = .ok (.iadd, 1) := by decide +kernel
theorem dL_law_930 : decode cL_law 930 = .ok (.iaload, 1) := by decide +kernel
theorem dL_law_931 : decode cL_law 931 = .ok (.invokevirtual 109, 3) := by decide +kernel
theorem dL_law_934 : decode cL_law 934 = .ok (.aload_n 2, 1) := by decide +kernel
theorem dL_law_935 : decode cL_law 935 = .ok (.aload_n 0, 1) := by decide +kernel
theorem dL_law_936 : decode cL_law 936 = .ok (.iload_n 3, 1) := by decide +kernel
theorem dL_law_937 : decode cL_law 937 = .ok (.iconst 1, 1) := by decide +kernel
theorem dL_law_938 : decode cL_law 938 = .ok (.iadd, 1) := by decide +kernel
theorem dL_law_939 : decode cL_law 939 = .ok (.iaload, 1) := by decide +kernel
theorem dL_law_940 : decode cL_law 940 = .ok (.aload_n 0, 1) := by decide +kernel
theorem dL_law_941 : decode cL_law 941 = .ok (.iload_n 3, 1) := by decide +kernel
theorem dL_law_942 : decode cL_law 942 = .ok (.iconst 2, 1) := by decide +kernel
theorem dL_law_943 : decode cL_law 943 = .ok (.iadd, 1) := by decide +kernel
theorem dL_law_944 : decode cL_law 944 = .ok (.iaload, 1) := by decide +kernel
theorem dL_law_945 : decode cL_law 945 = .ok (.aload_n 0, 1) := by decide +kernel
theorem dL_law_946 : decode cL_law 946 = .ok (.iload_n 3, 1) := by decide +kernel
theorem dL_law_947 : decode cL_law 947 = .ok (.iconst 3, 1) := by decide +kernel
theorem dL_law_948 : decode cL_law 948 = .ok (.iadd, 1) := by decide +kernel
theorem dL_law_949 : decode cL_law 949 = .ok (.iaload, 1) := by decide +kernel
theorem dL_law_950 : decode cL_law 950 = .ok (.invokevirtual 112, 3) := by decide +kernel
theorem dL_law_953 : decode cL_law 953 = .ok (.if_icmp .eq 475, 3) := by decide +kernel
theorem dL_law_956 : decode cL_law 956 = .ok (.iconst 0, 1) := by decide +kernel
theorem dL_law_957 : decode cL_law 957 = .ok (.ireturn, 1) := by decide +kernel
theorem dL_law_958 : decode cL_law 958 = .ok (.aload_n 1, 1) := by decide +kernel
theorem dL_law_959 : decode cL_law 959 = .ok (.aload_n 0, 1) := by decide +kernel
theorem dL_law_960 : decode cL_law 960 = .ok (.iload_n 3, 1) := by decide +kernel
theorem dL_law_961 : decode cL_law 961 = .ok (.iconst 1, 1) := by decide +kernel
theorem dL_law_962 : decode cL_law 962 = .ok (.iadd, 1) := by decide +kernel
theorem dL_law_963 : decode cL_law 963 = .ok (.iaload, 1) := by decide +kernel
theorem dL_law_964 : decode cL_law 964 = .ok (.aload_n 0, 1) := by decide +kernel
theorem dL_law_965 : decode cL_law 965 = .ok (.iload_n 3, 1) := by decide +kernel
theorem dL_law_966 : decode cL_law 966 = .ok (.iconst 2, 1) := by decide +kernel
theorem dL_law_967 : decode cL_law 967 = .ok (.iadd, 1) := by decide +kernel
theorem dL_law_968 : decode cL_law 968 = .ok (.iaload, 1) := by decide +kernel
theorem dL_law_969 : decode cL_law 969 = .ok (.aload_n 0, 1) := by decide +kernel
theorem dL_law_970 : decode cL_law 970 = .ok (.iload_n 3, 1) := by decide +kernel
theorem dL_law_971 : decode cL_law 971 = .ok (.iconst 3, 1) := by decide +kernel
theorem dL_law_972 : decode cL_law 972 = .ok (.iadd, 1) := by decide +kernel
theorem dL_law_973 : decode cL_law 973 = .ok (.iaload, 1) := by decide +kernel
theorem dL_law_974 : decode cL_law 974 = .ok (.aload_n 0, 1) := by decide +kernel
theorem dL_law_975 : decode cL_law 975 = .ok (.iload_n 3, 1) := by decide +kernel
theorem dL_law_976 : decode cL_law 976 = .ok (.iconst 4, 1) := by decide +kernel
theorem dL_law_977 : decode cL_law 977 = .ok (.iadd, 1) := by decide +kernel
theorem dL_law_978 : decode cL_law 978 = .ok (.iaload, 1) := by decide +kernel
theorem dL_law_979 : decode cL_law 979 = .ok (.invokevirtual 113, 3) := by decide +kernel
theorem dL_law_982 : decode cL_law 982 = .ok (.aload_n 2, 1) := by decide +kernel
theorem dL_law_983 : decode cL_law 983 = .ok (.aload_n 0, 1) := by decide +kernel
theorem dL_law_984 : decode cL_law 984 = .ok (.iload_n 3, 1) := by decide +kernel
theorem dL_law_985 : decode cL_law 985 = .ok (.iconst 1, 1) := by decide +kernel
theorem dL_law_986 : decode cL_law 986 = .ok (.iadd, 1) := by decide +kernel
theorem dL_law_987 : decode cL_law 987 = .ok (.iaload, 1) := by decide +kernel
theorem dL_law_988 : decode cL_law 988 = .ok (.aload_n 0, 1) := by decide +kernel
theorem dL_law_989 : decode cL_law 989 = .ok (.iload_n 3, 1) := by decide +kernel
theorem dL_law_990 : decode cL_law 990 = .ok (.iconst 2, 1) := by decide +kernel
theorem dL_law_991 : decode cL_law 991 = .ok (.iadd, 1) := by decide +kernel
theorem dL_law_992 : decode cL_law 992 = .ok (.iaload, 1) := by decide +kernel
theorem dL_law_993 : decode cL_law 993 = .ok (.aload_n 0, 1) := by decide +kernel
theorem dL_law_994 : decode cL_law 994 = .ok (.iload_n 3, 1) := by decide +kernel
theorem dL_law_995 : decode cL_law 995 = .ok (.iconst 3, 1) := by decide +kernel
theorem dL_law_996 : decode cL_law 996 = .ok (.iadd, 1) := by decide +kernel
theorem dL_law_997 : decode cL_law 997 = .ok (.iaload, 1) := by decide +kernel
theorem dL_law_998 : decode cL_law 998 = .ok (.aload_n 0, 1) := by decide +kernel
theorem dL_law_999 : decode cL_law 999 = .ok (.iload_n 3, 1) := by decide +kernel
theorem dL_law_1000 : decode cL_law 1000 = .ok (.iconst 4, 1) := by decide +kernel
theorem dL_law_1001 : decode cL_law 1001 = .ok (.iadd, 1) := by decide +kernel
theorem dL_law_1002 : decode cL_law 1002 = .ok (.iaload, 1) := by decide +kernel
theorem dL_law_1003 : decode cL_law 1003 = .ok (.invokevirtual 117, 3) := by decide +kernel
theorem dL_law_1006 : decode cL_law 1006 = .ok (.if_icmp .eq 422, 3) := by decide +kernel
theorem dL_law_1009 : decode cL_law 1009 = .ok (.iconst 0, 1) := by decide +kernel
theorem dL_law_1010 : decode cL_law 1010 = .ok (.ireturn, 1) := by decide +kernel
theorem dL_law_1011 : decode cL_law 1011 = .ok (.aload_n 1, 1) := by decide +kernel
theorem dL_law_1012 : decode cL_law 1012 = .ok (.invokevirtual 118, 3) := by decide +kernel
theorem dL_law_1015 : decode cL_law 1015 = .ok (.aload_n 2, 1) := by decide +kernel
theorem dL_law_1016 : decode cL_law 1016 = .ok (.invokevirtual 121, 3) := by decide +kernel
theorem dL_law_1019 : decode cL_law 1019 = .ok (.if_icmp .eq 409, 3) := by decide +kernel
theorem dL_law_1022 : decode cL_law 1022 = .ok (.iconst 0, 1) := by decide +kernel
theorem dL_law_1023 : decode cL_law 1023 = .ok (.ireturn, 1) := by decide +kernel
theorem dL_law_1024 : decode cL_law 1024 = .ok (.aload_n 1, 1) := by decide +kernel
theorem dL_law_1025 : decode cL_law 1025 = .ok (.invokevirtual 122, 3) := by decide +kernel
theorem dL_law_1028 : decode cL_law 1028 = .ok (.aload_n 2, 1) := by decide +kernel
theorem dL_law_1029 : decode cL_law 1029 = .ok (.invokevirtual 125, 3) := by decide +kernel
theorem dL_law_1032 : decode cL_law 1032 = .ok (.if_icmp .eq 396, 3) := by decide +kernel
theorem dL_law_1035 : decode cL_law 1035 = .ok (.iconst 0, 1) := by decide +kernel
theorem dL_law_1036 : decode cL_law 1036 = .ok (.ireturn, 1) := by decide +kernel
theorem dL_law_1037 : decode cL_law 1037 = .ok (.aload_n 1, 1) := by decide +kernel
theorem dL_law_1038 : decode cL_law 1038 = .ok (.aload_n 0, 1) := by decide +kernel
theorem dL_law_1039 : decode cL_law 1039 = .ok (.iload_n 3, 1) := by decide +kernel
theorem dL_law_1040 : decode cL_law 1040 = .ok (.iconst 1, 1) := by decide +kernel
theorem dL_law_1041 : decode cL_law 1041 = .ok (.iadd, 1) := by decide +kernel
theorem dL_law_1042 : decode cL_law 1042 = .ok (.iaload, 1) := by decide +kernel
theorem dL_law_1043 : decode cL_law 1043 = .ok (.invokevirtual 126, 3) := by decide +kernel
theorem dL_law_1046 : decode cL_law 1046 = .ok (.aload_n 2, 1) := by decide +kernel
theorem dL_law_1047 : decode cL_law 1047 = .ok (.aload_n 0, 1) := by decide +kernel
theorem dL_law_1048 : decode cL_law 1048 = .ok (.iload_n 3, 1) := by decide +kernel
theorem dL_law_1049 : decode cL_law 1049 = .ok (.iconst 1, 1) := by decide +kernel
theorem dL_law_1050 : decode cL_law 1050 = .ok (.iadd, 1) := by decide +kernel
theorem dL_law_1051 : decode cL_law 1051 = .ok (.iaload, 1) := by decide +kernel
theorem dL_law_1052 : decode cL_law 1052 = .ok (.invokevirtual 129, 3) := by decide +kernel
theorem dL_law_1055 : decode cL_law 1055 = .ok (.if_icmp .eq 373, 3) := by decide +kernel
theorem dL_law_1058 : decode cL_law 1058 = .ok (.iconst 0, 1) := by decide +kernel
theorem dL_law_1059 : decode cL_law 1059 = .ok (.ireturn, 1) := by decide +kernel
theorem dL_law_1060 : decode cL_law 1060 = .ok (.aload_n 1, 1) := by decide +kernel
theorem dL_law_1061 : decode cL_law 1061 = .ok (.aload_n 0, 1) := by decide +kernel
theorem dL_law_1062 : decode cL_law 1062 = .ok (.iload_n 3, 1) := by decide +kernel
theorem dL_law_1063 : decode cL_law 1063 = .ok (.iconst 1, 1) := by decide +kernel
theorem dL_law_1064 : decode cL_law 1064 = .ok (.iadd, 1) := by decide +kernel
theorem dL_law_1065 : decode cL_law 1065 = .ok (.iaload, 1) := by decide +kernel
theorem dL_law_1066 : decode cL_law 1066 = .ok (.aload_n 0, 1) := by decide +kernel
theorem dL_law_1067 : decode cL_law 1067 = .ok (.iload_n 3, 1) := by decide +kernel
theorem dL_law_1068 : decode cL_law 1068 = .ok (.iconst 2, 1) := by decide +kernel
theorem dL_law_1069 : decode cL_law 1069 = .ok (.iadd, 1) := by decide +kernel
theorem dL_law_1070 : decode cL_law 1070 = .ok (.iaload, 1) := by decide +kernel
theorem dL_law_1071 : decode cL_law 1071 = .ok (.aload_n 0, 1) := by decide +kernel
theorem dL_law_1072 : decode cL_law 1072 = .ok (.iload_n 3, 1) := by decide +kernel
theorem dL_law_1073 : decode cL_law 1073 = .ok (.iconst 3, 1) := by decide +kernel
theorem dL_law_1074 : decode cL_law 1074 = .ok (.iadd, 1) := by decide +kernel
theorem dL_law_1075 : decode cL_law 1075 = .ok (.iaload, 1) := by decide +kernel
theorem dL_law_1076 : decode cL_law 1076 = .ok (.invokevirtual 130, 3) := by decide +kernel
theorem dL_law_1079 : decode cL_law 1079 = .ok (.aload_n 2, 1) := by decide +kernel
theorem dL_law_1080 : decode cL_law 1080 = .ok (.aload_n 0, 1) := by decide +kernel
theorem dL_law_1081 : decode cL_law 1081 = .ok (.iload_n 3, 1) := by decide +kernel
theorem dL_law_1082 : decode cL_law 1082 = .ok (.iconst 1, 1) := by decide +kernel
theorem dL_law_1083 : decode cL_law 1083 = .ok (.iadd, 1) := by decide +kernel
theorem dL_law_1084 : decode cL_law 1084 = .ok (.iaload, 1) := by decide +kernel
theorem dL_law_1085 : decode cL_law 1085 = .ok (.aload_n 0, 1) := by decide +kernel
theorem dL_law_1086 : decode cL_law 1086 = .ok (.iload_n 3, 1) := by decide +kernel
theorem dL_law_1087 : decode cL_law 1087 = .ok (.iconst 2, 1) := by decide +kernel
theorem dL_law_1088 : decode cL_law 1088 = .ok (.iadd, 1) := by decide +kernel
theorem dL_law_1089 : decode cL_law 1089 = .ok (.iaload, 1) := by decide +kernel
theorem dL_law_1090 : decode cL_law 1090 = .ok (.aload_n 0, 1) := by decide +kernel
theorem dL_law_1091 : decode cL_law 1091 = .ok (.iload_n 3, 1) := by decide +kernel
theorem dL_law_1092 : decode cL_law 1092 = .ok (.iconst 3, 1) := by decide +kernel
theorem dL_law_1093 : decode cL_law 1093 = .ok (.iadd, 1) := by decide +kernel
theorem dL_law_1094 : decode cL_law 1094 = .ok (.iaload, 1) := by decide +kernel
theorem dL_law_1095 : decode cL_law 1095 = .ok (.invokevirtual 133, 3) := by decide +kernel
theorem dL_law_1098 : decode cL_law 1098 = .ok (.if_icmp .eq 330, 3) := by decide +kernel
theorem dL_law_1101 : decode cL_law 1101 = .ok (.iconst 0, 1) := by decide +kernel
theorem dL_law_1102 : decode cL_law 1102 = .ok (.ireturn, 1) := by decide +kernel
theorem dL_law_1103 : decode cL_law 1103 = .ok (.aload_n 1, 1) := by decide +kernel
theorem dL_law_1104 : decode cL_law 1104 = .ok (.aload_n 0, 1) := by decide +kernel
theorem dL_law_1105 : decode cL_law 1105 = .ok (.iload_n 3, 1) := by decide +kernel
theorem dL_law_1106 : decode cL_law 1106 = .ok (.iconst 1, 1) := by decide +kernel
theorem dL_law_1107 : decode cL_law 1107 = .ok (.iadd, 1) := by decide +kernel
theorem dL_law_1108 : decode cL_law 1108 = .ok (.iaload, 1) := by decide +kernel
theorem dL_law_1109 : decode cL_law 1109 = .ok (.invokevirtual 134, 3) := by decide +kernel
theorem dL_law_1112 : decode cL_law 1112 = .ok (.aload_n 2, 1) := by decide +kernel
theorem dL_law_1113 : decode cL_law 1113 = .ok (.aload_n 0, 1) := by decide +kernel
theorem dL_law_1114 : decode cL_law 1114 = .ok (.iload_n 3, 1) := by decide +kernel
theorem dL_law_1115 : decode cL_law 1115 = .ok (.iconst 1, 1) := by decide +kernel
theorem dL_law_1116 : decode cL_law 1116 = .ok (.iadd, 1) := by decide +kernel
theorem dL_law_1117 : decode cL_law 1117 = .ok (.iaload, 1) := by decide +kernel
theorem dL_law_1118 : decode cL_law 1118 = .ok (.invokevirtual 137, 3) := by decide +kernel
theorem dL_law_1121 : decode cL_law 1121 = .ok (.if_icmp .eq 307, 3) := by decide +kernel
theorem dL_law_1124 : decode cL_law 1124 = .ok (.iconst 0, 1) := by decide +kernel
theorem dL_law_1125 : decode cL_law 1125 = .ok (.ireturn, 1) := by decide +kernel
theorem dL_law_1126 : decode cL_law 1126 = .ok (.aload_n 1, 1) := by decide +kernel
theorem dL_law_1127 : decode cL_law 1127 = .ok (.aload_n 0, 1) := by decide +kernel
theorem dL_law_1128 : decode cL_law 1128 = .ok (.iload_n 3, 1) := by decide +kernel
theorem dL_law_1129 : decode cL_law 1129 = .ok (.iconst 1, 1) := by decide +kernel
theorem dL_law_1130 : decode cL_law 1130 = .ok (.iadd, 1) := by decide +kernel
theorem dL_law_1131 : decode cL_law 1131 = .ok (.iaload, 1) := by decide +kernel
theorem dL_law_1132 : decode cL_law 1132 = .ok (.aload_n 0, 1) := by decide +kernel
theorem dL_law_1133 : decode cL_law 1133 = .ok (.iload_n 3, 1) := by decide +kernel
theorem dL_law_1134 : decode cL_law 1134 = .ok (.iconst 2, 1) := by decide +kernel
theorem dL_law_1135 : decode cL_law 1135 = .ok (.iadd, 1) := by decide +kernel
theorem dL_law_1136 : decode cL_law 1136 = .ok (.iaload, 1) := by decide +kernel
theorem dL_law_1137 : decode cL_law 1137 = .ok (.invokevirtual 138, 3) := by decide +kernel
theorem dL_law_1140 : decode cL_law 1140 = .ok (.aload_n 2, 1) := by decide +kernel
theorem dL_law_1141 : decode cL_law 1141 = .ok (.aload_n 0, 1) := by decide +kernel
theorem dL_law_1142 : decode cL_law 1142 = .ok (.iload_n 3, 1) := by decide +kernel
theorem dL_law_1143 : decode cL_law 1143 = .ok (.iconst 1, 1) := by decide +kernel
theorem dL_law_1144 : decode cL_law 1144 = .ok (.iadd, 1) := by decide +kernel
theorem dL_law_1145 : decode cL_law 1145 = .ok (.iaload, 1) := by decide +kernel
theorem dL_law_1146 : decode cL_law 1146 = .ok (.aload_n 0, 1) := by decide +kernel
theorem dL_law_1147 : decode cL_law 1147 = .ok (.iload_n 3, 1) := by decide +kernel
theorem dL_law_1148 : decode cL_law 1148 = .ok (.iconst 2, 1) := by decide +kernel
theorem dL_law_1149 : decode cL_law 1149 = .ok (.iadd, 1) := by decide +kernel
theorem dL_law_1150 : decode cL_law 1150 = .ok (.iaload, 1) := by decide +kernel
theorem dL_law_1151 : decode cL_law 1151 = .ok (.invokevirtual 141, 3) := by decide +kernel
theorem dL_law_1154 : decode cL_law 1154 = .ok (.if_icmp .eq 274, 3) := by decide +kernel
theorem dL_law_1157 : decode cL_law 1157 = .ok (.iconst 0, 1) := by decide +kernel
theorem dL_law_1158 : decode cL_law 1158 = .ok (.ireturn, 1) := by decide +kernel
theorem dL_law_1159 : decode cL_law 1159 = .ok (.aload_n 1, 1) := by decide +kernel
theorem dL_law_1160 : decode cL_law 1160 = .ok (.aload_n 0, 1) := by decide +kernel
theorem dL_law_1161 : decode cL_law 1161 = .ok (.iload_n 3, 1) := by decide +kernel
theorem dL_law_1162 : decode cL_law 1162 = .ok (.iconst 1, 1) := by decide +kernel
theorem dL_law_1163 : decode cL_law 1163 = .ok (.iadd, 1) := by decide +kernel
theorem dL_law_1164 : decode cL_law 1164 = .ok (.iaload, 1) := by decide +kernel
theorem dL_law_1165 : decode cL_law 1165 = .ok (.aload_n 0, 1) := by decide +kernel
theorem dL_law_1166 : decode cL_law 1166 = .ok (.iload_n 3, 1) := by decide +kernel
theorem dL_law_1167 : decode cL_law 1167 = .ok (.iconst 2, 1) := by decide +kernel
theorem dL_law_1168 : decode cL_law 1168 = .ok (.iadd, 1) := by decide +kernel
theorem dL_law_1169 : decode cL_law 1169 = .ok (.iaload, 1) := by decide +kernel
theorem dL_law_1170 : decode cL_law 1170 = .ok (.aload_n 0, 1) := by decide +kernel
theorem dL_law_1171 : decode cL_law 1171 = .ok (.iload_n 3, 1) := by decide +kernel
theorem dL_law_1172 : decode cL_law 1172 = .ok (.iconst 3, 1) := by decide +kernel
theorem dL_law_1173 : decode cL_law 1173 = .ok (.iadd, 1) := by decide +kernel
theorem dL_law_1174 : decode cL_law 1174 = .ok (.iaload, 1) := by decide +kernel
theorem dL_law_1175 : decode cL_law 1175 = .ok (.invokevirtual 142, 3) := by decide +kernel
theorem dL_law_1178 : decode cL_law 1178 = .ok (.aload_n 2, 1) := by decide +kernel
theorem dL_law_1179 : decode cL_law 1179 = .ok (.aload_n 0, 1) := by decide +kernel
theorem dL_law_1180 : decode cL_law 1180 = .ok (.iload_n 3, 1) := by decide +kernel
theorem dL_law_1181 : decode cL_law 1181 = .ok (.iconst 1, 1) := by decide +kernel
theorem dL_law_1182 : decode cL_law 1182 = .ok (.iadd, 1) := by decide +kernel
theorem dL_law_1183 : decode cL_law 1183 = .ok (.iaload, 1) := by decide +kernel
theorem dL_law_1184 : decode cL_law 1184 = .ok (.aload_n 0, 1) := by decide +kernel
theorem dL_law_1185 : decode cL_law 1185 = .ok (.iload_n 3, 1) := by decide +kernel
theorem dL_law_1186 : decode cL_law 1186 = .ok (.iconst 2, 1) := by decide +kernel
theorem dL_law_1187 : decode cL_law 1187 = .ok (.iadd, 1) := by decide +kernel
theorem dL_law_1188 : decode cL_law 1188 = .ok (.iaload, 1) := by decide +kernel
theorem dL_law_1189 : decode cL_law 1189 = .ok (.aload_n 0, 1) := by decide +kernel
theorem dL_law_1190 : decode cL_law 1190 = .ok (.iload_n 3, 1) := by decide +kernel
theorem dL_law_1191 : decode cL_law 1191 = .ok (.iconst 3, 1) := by decide +kernel
theorem dL_law_1192 : decode cL_law 1192 = .ok (.iadd, 1) := by decide +kernel
theorem dL_law_1193 : decode cL_law 1193 = .ok (.iaload, 1) := by decide +kernel
theorem dL_law_1194 : decode cL_law 1194 = .ok (.invokevirtual 145, 3) := by decide +kernel
theorem dL_law_1197 : decode cL_law 1197 = .ok (.if_icmp .eq 231, 3) := by decide +kernel
theorem dL_law_1200 : decode cL_law 1200 = .ok (.iconst 0, 1) := by decide +kernel
theorem dL_law_1201 : decode cL_law 1201 = .ok (.ireturn, 1) := by decide +kernel
theorem dL_law_1202 : decode cL_law 1202 = .ok (.aload_n 1, 1) := by decide +kernel
theorem dL_law_1203 : decode cL_law 1203 = .ok (.aload_n 0, 1) := by decide +kernel
theorem dL_law_1204 : decode cL_law 1204 = .ok (.iload_n 3, 1) := by decide +kernel
theorem dL_law_1205 : decode cL_law 1205 = .ok (.iconst 1, 1) := by decide +kernel
theorem dL_law_1206 : decode cL_law 1206 = .ok (.iadd, 1) := by decide +kernel
theorem dL_law_1207 : decode cL_law 1207 = .ok (.iaload, 1) := by decide +kernel
theorem dL_law_1208 : decode cL_law 1208 = .ok (.aload_n 0, 1) := by decide +kernel
theorem dL_law_1209 : decode cL_law 1209 = .ok (.iload_n 3, 1) := by decide +kernel
theorem dL_law_1210 : decode cL_law 1210 = .ok (.iconst 2, 1) := by decide +kernel
theorem dL_law_1211 : decode cL_law 1211 = .ok (.iadd, 1) := by decide +kernel
theorem dL_law_1212 : decode cL_law 1212 = .ok (.iaload, 1) := by decide +kernel
theorem dL_law_1213 : decode cL_law 1213 = .ok (.aload_n 0, 1) := by decide +kernel
theorem dL_law_1214 : decode cL_law 1214 = .ok (.iload_n 3, 1) := by decide +kernel
theorem dL_law_1215 : decode cL_law 1215 = .ok (.iconst 3, 1) := by decide +kernel
theorem dL_law_1216 : decode cL_law 1216 = .ok (.iadd, 1) := by decide +kernel
theorem dL_law_1217 : decode cL_law 1217 = .ok (.iaload, 1) := by decide +kernel
theorem dL_law_1218 : decode cL_law 1218 = .ok (.i2l, 1) := by decide +kernel
theorem dL_law_1219 : decode cL_law 1219 = .ok (.bipush 32, 2) := by decide +kernel
theorem dL_law_1221 : decode cL_law 1221 = .ok (.lshl, 1) := by decide +kernel
theorem dL_law_1222 : decode cL_law 1222 = .ok (.aload_n 0, 1) := by decide +kernel
theorem dL_law_1223 : decode cL_law 1223 = .ok (.iload_n 3, 1) := by decide +kernel
theorem dL_law_1224 : decode cL_law 1224 = .ok (.iconst 4, 1) := by decide +kernel
theorem dL_law_1225 : decode cL_law 1225 = .ok (.iadd, 1) := by decide +kernel
theorem dL_law_1226 : decode cL_law 1226 = .ok (.iaload, 1) := by decide +kernel
theorem dL_law_1227 : decode cL_law 1227 = .ok (.i2l, 1) := by decide +kernel
theorem dL_law_1228 : decode cL_law 1228 = .ok (.ldc2_w 146, 3) := by decide +kernel
theorem dL_law_1231 : decode cL_law 1231 = .ok (.land, 1) := by decide +kernel
theorem dL_law_1232 : decode cL_law 1232 = .ok (.lor, 1) := by decide +kernel
theorem dL_law_1233 : decode cL_law 1233 = .ok (.invokevirtual 148, 3) := by decide +kernel
theorem dL_law_1236 : decode cL_law 1236 = .ok (.aload_n 2, 1) := by decide +kernel
theorem dL_law_1237 : decode cL_law 1237 = .ok (.aload_n 0, 1) := by decide +kernel
theorem dL_law_1238 : decode cL_law 1238 = .ok (.iload_n 3, 1) := by decide +kernel
theorem dL_law_1239 : decode cL_law 1239 = .ok (.iconst 1, 1) := by decide +kernel
theorem dL_law_1240 : decode cL_law 1240 = .ok (.iadd, 1) := by decide +kernel
theorem dL_law_1241 : decode cL_law 1241 = .ok (.iaload, 1) := by decide +kernel
theorem dL_law_1242 : decode cL_law 1242 = .ok (.aload_n 0, 1) := by decide +kernel
theorem dL_law_1243 : decode cL_law 1243 = .ok (.iload_n 3, 1) := by decide +kernel
theorem dL_law_1244 : decode cL_law 1244 = .ok (.iconst 2, 1) := by decide +kernel
theorem dL_law_1245 : decode cL_law 1245 = .ok (.iadd, 1) := by decide +kernel
theorem dL_law_1246 : decode cL_law 1246 = .ok (.iaload, 1) := by decide +kernel
theorem dL_law_1247 : decode cL_law 1247 = .ok (.aload_n 0, 1) := by decide +kernel
theorem dL_law_1248 : decode cL_law 1248 = .ok (.iload_n 3, 1) := by decide +kernel
theorem dL_law_1249 : decode cL_law 1249 = .ok (.iconst 3, 1) := by decide +kernel
theorem dL_law_1250 : decode cL_law 1250 = .ok (.iadd, 1) := by decide +kernel
theorem dL_law_1251 : decode cL_law 1251 = .ok (.iaload, 1) := by decide +kernel
theorem dL_law_1252 : decode cL_law 1252 = .ok (.i2l, 1) := by decide +kernel
theorem dL_law_1253 : decode cL_law 1253 = .ok (.bipush 32, 2) := by decide +kernel
theorem dL_law_1255 : decode cL_law 1255 = .ok (.lshl, 1) := by decide +kernel
theorem dL_law_1256 : decode cL_law 1256 = .ok (.aload_n 0, 1) := by decide +kernel
theorem dL_law_1257 : decode cL_law 1257 = .ok (.iload_n 3, 1) := by decide +kernel
theorem dL_law_1258 : decode cL_law 1258 = .ok (.iconst 4, 1) := by decide +kernel
theorem dL_law_1259 : decode cL_law 1259 = .ok (.iadd, 1) := by decide +kernel
theorem dL_law_1260 : decode cL_law 1260 = .ok (.iaload, 1) := by decide +kernel
theorem dL_law_1261 : decode cL_law 1261 = .ok (.i2l, 1) := by decide +kernel
theorem dL_law_1262 : decode cL_law 1262 = .ok (.ldc2_w 146, 3) := by decide +kernel
theorem dL_law_1265 : decode cL_law 1265 = .ok (.land, 1) := by decide +kernel
theorem dL_law_1266 : decode cL_law 1266 = .ok (.lor, 1) := by decide +kernel
theorem dL_law_1267 : decode cL_law 1267 = .ok (.invokevirtual 152, 3) := by decide +kernel
theorem dL_law_1270 : decode cL_law 1270 = .ok (.if_icmp .eq 158, 3) := by decide +kernel
theorem dL_law_1273 : decode cL_law 1273 = .ok (.iconst 0, 1) := by decide +kernel
theorem dL_law_1274 : decode cL_law 1274 = .ok (.ireturn, 1) := by decide +kernel
theorem dL_law_1275 : decode cL_law 1275 = .ok (.aload_n 1, 1) := by decide +kernel
theorem dL_law_1276 : decode cL_law 1276 = .ok (.aload_n 0, 1) := by decide +kernel
theorem dL_law_1277 : decode cL_law 1277 = .ok (.iload_n 3, 1) := by decide +kernel
theorem dL_law_1278 : decode cL_law 1278 = .ok (.iconst 1, 1) := by decide +kernel
theorem dL_law_1279 : decode cL_law 1279 = .ok (.iadd, 1) := by decide +kernel
theorem dL_law_1280 : decode cL_law 1280 = .ok (.iaload, 1) := by decide +kernel
theorem dL_law_1281 : decode cL_law 1281 = .ok (.aload_n 0, 1) := by decide +kernel
theorem dL_law_1282 : decode cL_law 1282 = .ok (.iload_n 3, 1) := by decide +kernel
theorem dL_law_1283 : decode cL_law 1283 = .ok (.iconst 2, 1) := by decide +kernel
theorem dL_law_1284 : decode cL_law 1284 = .ok (.iadd, 1) := by decide +kernel
theorem dL_law_1285 : decode cL_law 1285 = .ok (.iaload, 1) := by decide +kernel
theorem dL_law_1286 : decode cL_law 1286 = .ok (.invokevirtual 153, 3) := by decide +kernel
theorem dL_law_1289 : decode cL_law 1289 = .ok (.aload_n 2, 1) := by decide +kernel
theorem dL_law_1290 : decode cL_law 1290 = .ok (.aload_n 0, 1) := by decide +kernel
theorem dL_law_1291 : decode cL_law 1291 = .ok (.iload_n 3, 1) := by decide +kernel
theorem dL_law_1292 : decode cL_law 1292 = .ok (.iconst 1, 1) := by decide +kernel
theorem dL_law_1293 : decode cL_law 1293 = .ok (.iadd, 1) := by decide +kernel
theorem dL_law_1294 : decode cL_law 1294 = .ok (.iaload, 1) := by decide +kernel
theorem dL_law_1295 : decode cL_law 1295 = .ok (.aload_n 0, 1) := by decide +kernel
theorem dL_law_1296 : decode cL_law 1296 = .ok (.iload_n 3, 1) := by decide +kernel
theorem dL_law_1297 : decode cL_law 1297 = .ok (.iconst 2, 1) := by decide +kernel
theorem dL_law_1298 : decode cL_law 1298 = .ok (.iadd, 1) := by decide +kernel
theorem dL_law_1299 : decode cL_law 1299 = .ok (.iaload, 1) := by decide +kernel
theorem dL_law_1300 : decode cL_law 1300 = .ok (.invokevirtual 157, 3) := by decide +kernel
theorem dL_law_1303 : decode cL_law 1303 = .ok (.lcmp, 1) := by decide +kernel
theorem dL_law_1304 : decode cL_law 1304 = .ok (.ifCond .eq 124, 3) := by decide +kernel
theorem dL_law_1307 : decode cL_law 1307 = .ok (.iconst 0, 1) := by decide +kernel
theorem dL_law_1308 : decode cL_law 1308 = .ok (.ireturn, 1) := by decide +kernel
theorem dL_law_1309 : decode cL_law 1309 = .ok (.aload_n 1, 1) := by decide +kernel
theorem dL_law_1310 : decode cL_law 1310 = .ok (.aload_n 0, 1) := by decide +kernel
theorem dL_law_1311 : decode cL_law 1311 = .ok (.iload_n 3, 1) := by decide +kernel
theorem dL_law_1312 : decode cL_law 1312 = .ok (.iconst 1, 1) := by decide +kernel
theorem dL_law_1313 : decode cL_law 1313 = .ok (.iadd, 1) := by decide +kernel
theorem dL_law_1314 : decode cL_law 1314 = .ok (.iaload, 1) := by decide +kernel
theorem dL_law_1315 : decode cL_law 1315 = .ok (.aload_n 0, 1) := by decide +kernel
theorem dL_law_1316 : decode cL_law 1316 = .ok (.iload_n 3, 1) := by decide +kernel
theorem dL_law_1317 : decode cL_law 1317 = .ok (.iconst 2, 1) := by decide +kernel
theorem dL_law_1318 : decode cL_law 1318 = .ok (.iadd, 1) := by decide +kernel
theorem dL_law_1319 : decode cL_law 1319 = .ok (.iaload, 1) := by decide +kernel
theorem dL_law_1320 : decode cL_law 1320 = .ok (.aload_n 0, 1) := by decide +kernel
theorem dL_law_1321 : decode cL_law 1321 = .ok (.iload_n 3, 1) := by decide +kernel
theorem dL_law_1322 : decode cL_law 1322 = .ok (.iconst 3, 1) := by decide +kernel
theorem dL_law_1323 : decode cL_law 1323 = .ok (.iadd, 1) := by decide +kernel
theorem dL_law_1324 : decode cL_law 1324 = .ok (.iaload, 1) := by decide +kernel
theorem dL_law_1325 : decode cL_law 1325 = .ok (.aload_n 0, 1) := by decide +kernel
theorem dL_law_1326 : decode cL_law 1326 = .ok (.iload_n 3, 1) := by decide +kernel
theorem dL_law_1327 : decode cL_law 1327 = .ok (.iconst 4, 1) := by decide +kernel
theorem dL_law_1328 : decode cL_law 1328 = .ok (.iadd, 1) := by decide +kernel
theorem dL_law_1329 : decode cL_law 1329 = .ok (.iaload, 1) := by decide +kernel
theorem dL_law_1330 : decode cL_law 1330 = .ok (.aload_n 0, 1) := by decide +kernel
theorem dL_law_1331 : decode cL_law 1331 = .ok (.iload_n 3, 1) := by decide +kernel
theorem dL_law_1332 : decode cL_law 1332 = .ok (.iconst 5, 1) := by decide +kernel
theorem dL_law_1333 : decode cL_law 1333 = .ok (.iadd, 1) := by decide +kernel
theorem dL_law_1334 : decode cL_law 1334 = .ok (.iaload, 1) := by decide +kernel
theorem dL_law_1335 : decode cL_law 1335 = .ok (.invokevirtual 158, 3) := by decide +kernel
theorem dL_law_1338 : decode cL_law 1338 = .ok (.aload_n 2, 1) := by decide +kernel
theorem dL_law_1339 : decode cL_law 1339 = .ok (.aload_n 0, 1) := by decide +kernel
theorem dL_law_1340 : decode cL_law 1340 = .ok (.iload_n 3, 1) := by decide +kernel
theorem dL_law_1341 : decode cL_law 1341 = .ok (.iconst 1, 1) := by decide +kernel
theorem dL_law_1342 : decode cL_law 1342 = .ok (.iadd, 1) := by decide +kernel
theorem dL_law_1343 : decode cL_law 1343 = .ok (.iaload, 1) := by decide +kernel
theorem dL_law_1344 : decode cL_law 1344 = .ok (.aload_n 0, 1) := by decide +kernel
theorem dL_law_1345 : decode cL_law 1345 = .ok (.iload_n 3, 1) := by decide +kernel
theorem dL_law_1346 : decode cL_law 1346 = .ok (.iconst 2, 1) := by decide +kernel
theorem dL_law_1347 : decode cL_law 1347 = .ok (.iadd, 1) := by decide +kernel
theorem dL_law_1348 : decode cL_law 1348 = .ok (.iaload, 1) := by decide +kernel
theorem dL_law_1349 : decode cL_law 1349 = .ok (.aload_n 0, 1) := by decide +kernel
theorem dL_law_1350 : decode cL_law 1350 = .ok (.iload_n 3, 1) := by decide +kernel
theorem dL_law_1351 : decode cL_law 1351 = .ok (.iconst 3, 1) := by decide +kernel
theorem dL_law_1352 : decode cL_law 1352 = .ok (.iadd, 1) := by decide +kernel
theorem dL_law_1353 : decode cL_law 1353 = .ok (.iaload, 1) := by decide +kernel
theorem dL_law_1354 : decode cL_law 1354 = .ok (.aload_n 0, 1) := by decide +kernel
theorem dL_law_1355 : decode cL_law 1355 = .ok (.iload_n 3, 1) := by decide +kernel
theorem dL_law_1356 : decode cL_law 1356 = .ok (.iconst 4, 1) := by decide +kernel
theorem dL_law_1357 : decode cL_law 1357 = .ok (.iadd, 1) := by decide +kernel
theorem dL_law_1358 : decode cL_law 1358 = .ok (.iaload, 1) := by decide +kernel
theorem dL_law_1359 : decode cL_law 1359 = .ok (.aload_n 0, 1) := by decide +kernel
theorem dL_law_1360 : decode cL_law 1360 = .ok (.iload_n 3, 1) := by decide +kernel
theorem dL_law_1361 : decode cL_law 1361 = .ok (.iconst 5, 1) := by decide +kernel
theorem dL_law_1362 : decode cL_law 1362 = .ok (.iadd, 1) := by decide +kernel
theorem dL_law_1363 : decode cL_law 1363 = .ok (.iaload, 1) := by decide +kernel
theorem dL_law_1364 : decode cL_law 1364 = .ok (.invokevirtual 162, 3) := by decide +kernel
theorem dL_law_1367 : decode cL_law 1367 = .ok (.if_icmp .eq 61, 3) := by decide +kernel
theorem dL_law_1370 : decode cL_law 1370 = .ok (.iconst 0, 1) := by decide +kernel
theorem dL_law_1371 : decode cL_law 1371 = .ok (.ireturn, 1) := by decide +kernel
theorem dL_law_1372 : decode cL_law 1372 = .ok (.aload_n 1, 1) := by decide +kernel
theorem dL_law_1373 : decode cL_law 1373 = .ok (.aload_n 0, 1) := by decide +kernel
theorem dL_law_1374 : decode cL_law 1374 = .ok (.iload_n 3, 1) := by decide +kernel
theorem dL_law_1375 : decode cL_law 1375 = .ok (.iconst 1, 1) := by decide +kernel
theorem dL_law_1376 : decode cL_law 1376 = .ok (.iadd, 1) := by decide +kernel
theorem dL_law_1377 : decode cL_law 1377 = .ok (.iaload, 1) := by decide +kernel
theorem dL_law_1378 : decode cL_law 1378 = .ok (.aload_n 0, 1) := by decide +kernel
theorem dL_law_1379 : decode cL_law 1379 = .ok (.iload_n 3, 1) := by decide +kernel
theorem dL_law_1380 : decode cL_law 1380 = .ok (.iconst 2, 1) := by decide +kernel
theorem dL_law_1381 : decode cL_law 1381 = .ok (.iadd, 1) := by decide +kernel
theorem dL_law_1382 : decode cL_law 1382 = .ok (.iaload, 1) := by decide +kernel
theorem dL_law_1383 : decode cL_law 1383 = .ok (.invokevirtual 163, 3) := by decide +kernel
theorem dL_law_1386 : decode cL_law 1386 = .ok (.aload_n 2, 1) := by decide +kernel
theorem dL_law_1387 : decode cL_law 1387 = .ok (.aload_n 0, 1) := by decide +kernel
theorem dL_law_1388 : decode cL_law 1388 = .ok (.iload_n 3, 1) := by decide +kernel
theorem dL_law_1389 : decode cL_law 1389 = .ok (.iconst 1, 1) := by decide +kernel
theorem dL_law_1390 : decode cL_law 1390 = .ok (.iadd, 1) := by decide +kernel
theorem dL_law_1391 : decode cL_law 1391 = .ok (.iaload, 1) := by decide +kernel
theorem dL_law_1392 : decode cL_law 1392 = .ok (.aload_n 0, 1) := by decide +kernel
theorem dL_law_1393 : decode cL_law 1393 = .ok (.iload_n 3, 1) := by decide +kernel
theorem dL_law_1394 : decode cL_law 1394 = .ok (.iconst 2, 1) := by decide +kernel
theorem dL_law_1395 : decode cL_law 1395 = .ok (.iadd, 1) := by decide +kernel
theorem dL_law_1396 : decode cL_law 1396 = .ok (.iaload, 1) := by decide +kernel
theorem dL_law_1397 : decode cL_law 1397 = .ok (.invokevirtual 166, 3) := by decide +kernel
theorem dL_law_1400 : decode cL_law 1400 = .ok (.if_icmp .eq 28, 3) := by decide +kernel
theorem dL_law_1403 : decode cL_law 1403 = .ok (.iconst 0, 1) := by decide +kernel
theorem dL_law_1404 : decode cL_law 1404 = .ok (.ireturn, 1) := by decide +kernel
theorem dL_law_1405 : decode cL_law 1405 = .ok (.aload_n 1, 1) := by decide +kernel
theorem dL_law_1406 : decode cL_law 1406 = .ok (.aload_n 0, 1) := by decide +kernel
theorem dL_law_1407 : decode cL_law 1407 = .ok (.iload_n 3, 1) := by decide +kernel
theorem dL_law_1408 : decode cL_law 1408 = .ok (.iconst 1, 1) := by decide +kernel
theorem dL_law_1409 : decode cL_law 1409 = .ok (.iadd, 1) := by decide +kernel
theorem dL_law_1410 : decode cL_law 1410 = .ok (.iaload, 1) := by decide +kernel
theorem dL_law_1411 : decode cL_law 1411 = .ok (.invokevirtual 167, 3) := by decide +kernel
theorem dL_law_1414 : decode cL_law 1414 = .ok (.aload_n 2, 1) := by decide +kernel
theorem dL_law_1415 : decode cL_law 1415 = .ok (.aload_n 0, 1) := by decide +kernel
theorem dL_law_1416 : decode cL_law 1416 = .ok (.iload_n 3, 1) := by decide +kernel
theorem dL_law_1417 : decode cL_law 1417 = .ok (.iconst 1, 1) := by decide +kernel
theorem dL_law_1418 : decode cL_law 1418 = .ok (.iadd, 1) := by decide +kernel
theorem dL_law_1419 : decode cL_law 1419 = .ok (.iaload, 1) := by decide +kernel
theorem dL_law_1420 : decode cL_law 1420 = .ok (.invokevirtual 170, 3) := by decide +kernel
theorem dL_law_1423 : decode cL_law 1423 = .ok (.if_icmp .eq 5, 3) := by decide +kernel
theorem dL_law_1426 : decode cL_law 1426 = .ok (.iconst 0, 1) := by decide +kernel
theorem dL_law_1427 : decode cL_law 1427 = .ok (.ireturn, 1) := by decide +kernel
theorem dL_law_1428 : decode cL_law 1428 = .ok (.iinc 3 6, 3) := by decide +kernel
theorem dL_law_1431 : decode cL_law 1431 = .ok (.goto (-1413), 3) := by decide +kernel
theorem dL_law_1434 : decode cL_law 1434 = .ok (.iconst 1, 1) := by decide +kernel
theorem dL_law_1435 : decode cL_law 1435 = .ok (.ireturn, 1) := by decide +kernel
