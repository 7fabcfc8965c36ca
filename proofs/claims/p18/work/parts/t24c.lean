theorem dX12_divisor_0 : decode cX12_divisor 0 = .ok (.iload_n 0, 1) := by decide +kernel
theorem dX12_divisor_1 : decode cX12_divisor 1 = .ok (.istore_n 2, 1) := by decide +kernel
theorem dX12_divisor_2 : decode cX12_divisor 2 = .ok (.iload_n 1, 1) := by decide +kernel
theorem dX12_divisor_3 : decode cX12_divisor 3 = .ok (.istore_n 3, 1) := by decide +kernel
theorem dX12_divisor_4 : decode cX12_divisor 4 = .ok (.iload_n 3, 1) := by decide +kernel
theorem dX12_divisor_5 : decode cX12_divisor 5 = .ok (.ifCond .eq 16, 3) := by decide +kernel
theorem dX12_divisor_21 : decode cX12_divisor 21 = .ok (.iload_n 2, 1) := by decide +kernel
theorem dX12_divisor_22 : decode cX12_divisor 22 = .ok (.ireturn, 1) := by decide +kernel
theorem dX12_divisor_8 : decode cX12_divisor 8 = .ok (.iload_n 2, 1) := by decide +kernel
theorem dX12_divisor_9 : decode cX12_divisor 9 = .ok (.iload_n 3, 1) := by decide +kernel
theorem dX12_divisor_10 : decode cX12_divisor 10 = .ok (.irem, 1) := by decide +kernel
theorem dX12_divisor_11 : decode cX12_divisor 11 = .ok (.istore 4, 2) := by decide +kernel
theorem dX12_divisor_13 : decode cX12_divisor 13 = .ok (.iload_n 3, 1) := by decide +kernel
theorem dX12_divisor_14 : decode cX12_divisor 14 = .ok (.istore_n 2, 1) := by decide +kernel
theorem dX12_divisor_15 : decode cX12_divisor 15 = .ok (.iload 4, 2) := by decide +kernel
theorem dX12_divisor_17 : decode cX12_divisor 17 = .ok (.istore_n 3, 1) := by decide +kernel
theorem dX12_divisor_18 : decode cX12_divisor 18 = .ok (.goto (-14), 3) := by decide +kernel
theorem dX12_allPurses_0 : decode cX12_allPurses 0 = .ok (.iconst 0, 1) := by decide +kernel
theorem dX12_allPurses_1 : decode cX12_allPurses 1 = .ok (.istore_n 1, 1) := by decide +kernel
theorem dX12_allPurses_2 : decode cX12_allPurses 2 = .ok (.iconst 0, 1) := by decide +kernel
theorem dX12_allPurses_3 : decode cX12_allPurses 3 = .ok (.istore_n 2, 1) := by decide +kernel
theorem dX12_allPurses_4 : decode cX12_allPurses 4 = .ok (.iload_n 2, 1) := by decide +kernel
theorem dX12_allPurses_5 : decode cX12_allPurses 5 = .ok (.aload_n 0, 1) := by decide +kernel
theorem dX12_allPurses_6 : decode cX12_allPurses 6 = .ok (.getfield 136, 3) := by decide +kernel
theorem dX12_allPurses_9 : decode cX12_allPurses 9 = .ok (.if_icmp .ge 18, 3) := by decide +kernel
theorem dX12_allPurses_27 : decode cX12_allPurses 27 = .ok (.iload_n 1, 1) := by decide +kernel
theorem dX12_allPurses_28 : decode cX12_allPurses 28 = .ok (.ireturn, 1) := by decide +kernel
theorem dX12_allPurses_12 : decode cX12_allPurses 12 = .ok (.iload_n 1, 1) := by decide +kernel
theorem dX12_allPurses_13 : decode cX12_allPurses 13 = .ok (.aload_n 0, 1) := by decide +kernel
theorem dX12_allPurses_14 : decode cX12_allPurses 14 = .ok (.getfield 31, 3) := by decide +kernel
theorem dX12_allPurses_17 : decode cX12_allPurses 17 = .ok (.iload_n 2, 1) := by decide +kernel
theorem dX12_allPurses_18 : decode cX12_allPurses 18 = .ok (.iaload, 1) := by decide +kernel
theorem dX12_allPurses_19 : decode cX12_allPurses 19 = .ok (.iadd, 1) := by decide +kernel
theorem dX12_allPurses_20 : decode cX12_allPurses 20 = .ok (.istore_n 1, 1) := by decide +kernel
theorem dX12_allPurses_21 : decode cX12_allPurses 21 = .ok (.iinc 2 1, 3) := by decide +kernel
theorem dX12_allPurses_24 : decode cX12_allPurses 24 = .ok (.goto (-20), 3) := by decide +kernel
theorem dX12_richest_0 : decode cX12_richest 0 = .ok (.iconst 0, 1) := by decide +kernel
theorem dX12_richest_1 : decode cX12_richest 1 = .ok (.istore_n 1, 1) := by decide +kernel
theorem dX12_richest_2 : decode cX12_richest 2 = .ok (.iconst 0, 1) := by decide +kernel
theorem dX12_richest_3 : decode cX12_richest 3 = .ok (.istore_n 2, 1) := by decide +kernel
theorem dX12_richest_4 : decode cX12_richest 4 = .ok (.iload_n 2, 1) := by decide +kernel
theorem dX12_richest_5 : decode cX12_richest 5 = .ok (.aload_n 0, 1) := by decide +kernel
theorem dX12_richest_6 : decode cX12_richest 6 = .ok (.getfield 136, 3) := by decide +kernel
theorem dX12_richest_9 : decode cX12_richest 9 = .ok (.if_icmp .ge 30, 3) := by decide +kernel
theorem dX12_richest_39 : decode cX12_richest 39 = .ok (.iload_n 1, 1) := by decide +kernel
theorem dX12_richest_40 : decode cX12_richest 40 = .ok (.ireturn, 1) := by decide +kernel
theorem dX12_richest_12 : decode cX12_richest 12 = .ok (.aload_n 0, 1) := by decide +kernel
theorem dX12_richest_13 : decode cX12_richest 13 = .ok (.getfield 31, 3) := by decide +kernel
theorem dX12_richest_16 : decode cX12_richest 16 = .ok (.iload_n 2, 1) := by decide +kernel
theorem dX12_richest_17 : decode cX12_richest 17 = .ok (.iaload, 1) := by decide +kernel
theorem dX12_richest_18 : decode cX12_richest 18 = .ok (.iload_n 1, 1) := by decide +kernel
theorem dX12_richest_19 : decode cX12_richest 19 = .ok (.if_icmp .le 12, 3) := by decide +kernel
theorem dX12_richest_31 : decode cX12_richest 31 = .ok (.iload_n 1, 1) := by decide +kernel
theorem dX12_richest_32 : decode cX12_richest 32 = .ok (.istore_n 1, 1) := by decide +kernel
theorem dX12_richest_33 : decode cX12_richest 33 = .ok (.iinc 2 1, 3) := by decide +kernel
theorem dX12_richest_36 : decode cX12_richest 36 = .ok (.goto (-32), 3) := by decide +kernel
theorem dX12_richest_22 : decode cX12_richest 22 = .ok (.aload_n 0, 1) := by decide +kernel
theorem dX12_richest_23 : decode cX12_richest 23 = .ok (.getfield 31, 3) := by decide +kernel
theorem dX12_richest_26 : decode cX12_richest 26 = .ok (.iload_n 2, 1) := by decide +kernel
theorem dX12_richest_27 : decode cX12_richest 27 = .ok (.iaload, 1) := by decide +kernel
theorem dX12_richest_28 : decode cX12_richest 28 = .ok (.goto 4, 3) := by decide +kernel
theorem dX12_asked_0 : decode cX12_asked 0 = .ok (.aload_n 0, 1) := by decide +kernel
theorem dX12_asked_1 : decode cX12_asked 1 = .ok (.getfield 74, 3) := by decide +kernel
theorem dX12_asked_4 : decode cX12_asked 4 = .ok (.ireturn, 1) := by decide +kernel
theorem dX12_upper_0 : decode cX12_upper 0 = .ok (.aload_n 0, 1) := by decide +kernel
theorem dX12_upper_1 : decode cX12_upper 1 = .ok (.invokevirtual 299, 3) := by decide +kernel
theorem dX12_upper_4 : decode cX12_upper 4 = .ok (.istore_n 1, 1) := by decide +kernel
theorem dX12_upper_5 : decode cX12_upper 5 = .ok (.iload_n 1, 1) := by decide +kernel
theorem dX12_upper_6 : decode cX12_upper 6 = .ok (.ifCond .ne 7, 3) := by decide +kernel
theorem dX12_upper_13 : decode cX12_upper 13 = .ok (.aload_n 0, 1) := by decide +kernel
theorem dX12_upper_14 : decode cX12_upper 14 = .ok (.invokevirtual 303, 3) := by decide +kernel
theorem dX12_upper_17 : decode cX12_upper 17 = .ok (.aload_n 0, 1) := by decide +kernel
theorem dX12_upper_18 : decode cX12_upper 18 = .ok (.invokevirtual 303, 3) := by decide +kernel
theorem dX12_upper_21 : decode cX12_upper 21 = .ok (.iload_n 1, 1) := by decide +kernel
theorem dX12_upper_22 : decode cX12_upper 22 = .ok (.invokestatic 306, 3) := by decide +kernel
theorem dX12_upper_25 : decode cX12_upper 25 = .ok (.idiv, 1) := by decide +kernel
theorem dX12_upper_26 : decode cX12_upper 26 = .ok (.i2l, 1) := by decide +kernel
theorem dX12_upper_27 : decode cX12_upper 27 = .ok (.lreturn, 1) := by decide +kernel
theorem dX12_upper_9 : decode cX12_upper 9 = .ok (.lconst 0, 1) := by decide +kernel
theorem dX12_upper_10 : decode cX12_upper 10 = .ok (.goto 17, 3) := by decide +kernel
theorem dX12_lower_0 : decode cX12_lower 0 = .ok (.aload_n 0, 1) := by decide +kernel
theorem dX12_lower_1 : decode cX12_lower 1 = .ok (.invokevirtual 299, 3) := by decide +kernel
theorem dX12_lower_4 : decode cX12_lower 4 = .ok (.istore_n 1, 1) := by decide +kernel
theorem dX12_lower_5 : decode cX12_lower 5 = .ok (.iload_n 1, 1) := by decide +kernel
theorem dX12_lower_6 : decode cX12_lower 6 = .ok (.ifCond .ne 7, 3) := by decide +kernel
theorem dX12_lower_13 : decode cX12_lower 13 = .ok (.iload_n 1, 1) := by decide +kernel
theorem dX12_lower_14 : decode cX12_lower 14 = .ok (.aload_n 0, 1) := by decide +kernel
theorem dX12_lower_15 : decode cX12_lower 15 = .ok (.invokevirtual 303, 3) := by decide +kernel
theorem dX12_lower_18 : decode cX12_lower 18 = .ok (.iload_n 1, 1) := by decide +kernel
theorem dX12_lower_19 : decode cX12_lower 19 = .ok (.invokestatic 306, 3) := by decide +kernel
theorem dX12_lower_22 : decode cX12_lower 22 = .ok (.idiv, 1) := by decide +kernel
theorem dX12_lower_23 : decode cX12_lower 23 = .ok (.i2l, 1) := by decide +kernel
theorem dX12_lower_24 : decode cX12_lower 24 = .ok (.lreturn, 1) := by decide +kernel
theorem dX12_lower_9 : decode cX12_lower 9 = .ok (.lconst 1, 1) := by decide +kernel
theorem dX12_lower_10 : decode cX12_lower 10 = .ok (.goto 14, 3) := by decide +kernel
theorem dX12_tells_0 : decode cX12_tells 0 = .ok (.iconst 0, 1) := by decide +kernel
theorem dX12_tells_1 : decode cX12_tells 1 = .ok (.istore_n 2, 1) := by decide +kernel
theorem dX12_tells_2 : decode cX12_tells 2 = .ok (.iconst 0, 1) := by decide +kernel
theorem dX12_tells_3 : decode cX12_tells 3 = .ok (.istore_n 3, 1) := by decide +kernel
theorem dX12_tells_4 : decode cX12_tells 4 = .ok (.iload_n 3, 1) := by decide +kernel
theorem dX12_tells_5 : decode cX12_tells 5 = .ok (.bipush 6, 2) := by decide +kernel
theorem dX12_tells_7 : decode cX12_tells 7 = .ok (.if_icmp .ge 77, 3) := by decide +kernel
theorem dX12_tells_84 : decode cX12_tells 84 = .ok (.iload_n 1, 1) := by decide +kernel
theorem dX12_tells_85 : decode cX12_tells 85 = .ok (.tableswitch 72 0 5 #[39, 44, 49, 54, 59, 64], 39) := by decide +kernel
theorem dX12_tells_157 : decode cX12_tells 157 = .ok (.iload_n 2, 1) := by decide +kernel
theorem dX12_tells_158 : decode cX12_tells 158 = .ok (.ireturn, 1) := by decide +kernel
theorem dX12_tells_124 : decode cX12_tells 124 = .ok (.aload_n 0, 1) := by decide +kernel
theorem dX12_tells_125 : decode cX12_tells 125 = .ok (.getfield 136, 3) := by decide +kernel
theorem dX12_tells_128 : decode cX12_tells 128 = .ok (.ireturn, 1) := by decide +kernel
theorem dX12_tells_129 : decode cX12_tells 129 = .ok (.aload_n 0, 1) := by decide +kernel
theorem dX12_tells_130 : decode cX12_tells 130 = .ok (.getfield 139, 3) := by decide +kernel
theorem dX12_tells_133 : decode cX12_tells 133 = .ok (.ireturn, 1) := by decide +kernel
theorem dX12_tells_134 : decode cX12_tells 134 = .ok (.aload_n 0, 1) := by decide +kernel
theorem dX12_tells_135 : decode cX12_tells 135 = .ok (.getfield 145, 3) := by decide +kernel
theorem dX12_tells_138 : decode cX12_tells 138 = .ok (.ireturn, 1) := by decide +kernel
theorem dX12_tells_139 : decode cX12_tells 139 = .ok (.aload_n 0, 1) := by decide +kernel
theorem dX12_tells_140 : decode cX12_tells 140 = .ok (.getfield 148, 3) := by decide +kernel
theorem dX12_tells_143 : decode cX12_tells 143 = .ok (.ireturn, 1) := by decide +kernel
theorem dX12_tells_144 : decode cX12_tells 144 = .ok (.aload_n 0, 1) := by decide +kernel
theorem dX12_tells_145 : decode cX12_tells 145 = .ok (.getfield 151, 3) := by decide +kernel
theorem dX12_tells_148 : decode cX12_tells 148 = .ok (.ireturn, 1) := by decide +kernel
theorem dX12_tells_149 : decode cX12_tells 149 = .ok (.aload_n 0, 1) := by decide +kernel
theorem dX12_tells_150 : decode cX12_tells 150 = .ok (.getfield 142, 3) := by decide +kernel
theorem dX12_tells_153 : decode cX12_tells 153 = .ok (.invokestatic 170, 3) := by decide +kernel
theorem dX12_tells_156 : decode cX12_tells 156 = .ok (.ireturn, 1) := by decide +kernel
theorem dX12_tells_10 : decode cX12_tells 10 = .ok (.iload_n 2, 1) := by decide +kernel
theorem dX12_tells_11 : decode cX12_tells 11 = .ok (.iload_n 1, 1) := by decide +kernel
theorem dX12_tells_12 : decode cX12_tells 12 = .ok (.bipush 6, 2) := by decide +kernel
theorem dX12_tells_14 : decode cX12_tells 14 = .ok (.if_icmp .ne 12, 3) := by decide +kernel
theorem dX12_tells_26 : decode cX12_tells 26 = .ok (.iload_n 1, 1) := by decide +kernel
theorem dX12_tells_27 : decode cX12_tells 27 = .ok (.bipush 7, 2) := by decide +kernel
theorem dX12_tells_29 : decode cX12_tells 29 = .ok (.if_icmp .ne 17, 3) := by decide +kernel
theorem dX12_tells_46 : decode cX12_tells 46 = .ok (.iload_n 1, 1) := by decide +kernel
theorem dX12_tells_47 : decode cX12_tells 47 = .ok (.bipush 8, 2) := by decide +kernel
theorem dX12_tells_49 : decode cX12_tells 49 = .ok (.if_icmp .ne 26, 3) := by decide +kernel
theorem dX12_tells_75 : decode cX12_tells 75 = .ok (.iconst 0, 1) := by decide +kernel
theorem dX12_tells_76 : decode cX12_tells 76 = .ok (.iadd, 1) := by decide +kernel
theorem dX12_tells_77 : decode cX12_tells 77 = .ok (.istore_n 2, 1) := by decide +kernel
theorem dX12_tells_78 : decode cX12_tells 78 = .ok (.iinc 3 1, 3) := by decide +kernel
theorem dX12_tells_81 : decode cX12_tells 81 = .ok (.goto (-77), 3) := by decide +kernel
theorem dX12_tells_52 : decode cX12_tells 52 = .ok (.iload_n 3, 1) := by decide +kernel
theorem dX12_tells_53 : decode cX12_tells 53 = .ok (.iconst 3, 1) := by decide +kernel
theorem dX12_tells_54 : decode cX12_tells 54 = .ok (.if_icmp .ge 21, 3) := by decide +kernel
theorem dX12_tells_57 : decode cX12_tells 57 = .ok (.aload_n 0, 1) := by decide +kernel
theorem dX12_tells_58 : decode cX12_tells 58 = .ok (.getfield 52, 3) := by decide +kernel
theorem dX12_tells_61 : decode cX12_tells 61 = .ok (.bipush 64, 2) := by decide +kernel
theorem dX12_tells_63 : decode cX12_tells 63 = .ok (.iload_n 3, 1) := by decide +kernel
theorem dX12_tells_64 : decode cX12_tells 64 = .ok (.imul, 1) := by decide +kernel
theorem dX12_tells_65 : decode cX12_tells 65 = .ok (.iaload, 1) := by decide +kernel
theorem dX12_tells_66 : decode cX12_tells 66 = .ok (.bipush (-9), 2) := by decide +kernel
theorem dX12_tells_68 : decode cX12_tells 68 = .ok (.if_icmp .eq 7, 3) := by decide +kernel
theorem dX12_tells_71 : decode cX12_tells 71 = .ok (.iconst 1, 1) := by decide +kernel
theorem dX12_tells_72 : decode cX12_tells 72 = .ok (.goto 4, 3) := by decide +kernel
theorem dX12_tells_32 : decode cX12_tells 32 = .ok (.iload_n 3, 1) := by decide +kernel
theorem dX12_tells_33 : decode cX12_tells 33 = .ok (.iconst 4, 1) := by decide +kernel
theorem dX12_tells_34 : decode cX12_tells 34 = .ok (.if_icmp .ge 12, 3) := by decide +kernel
theorem dX12_tells_37 : decode cX12_tells 37 = .ok (.aload_n 0, 1) := by decide +kernel
theorem dX12_tells_38 : decode cX12_tells 38 = .ok (.getfield 22, 3) := by decide +kernel
theorem dX12_tells_41 : decode cX12_tells 41 = .ok (.iload_n 3, 1) := by decide +kernel
theorem dX12_tells_42 : decode cX12_tells 42 = .ok (.iaload, 1) := by decide +kernel
theorem dX12_tells_43 : decode cX12_tells 43 = .ok (.ifCond .ge 28, 3) := by decide +kernel
theorem dX12_tells_17 : decode cX12_tells 17 = .ok (.aload_n 0, 1) := by decide +kernel
theorem dX12_tells_18 : decode cX12_tells 18 = .ok (.getfield 13, 3) := by decide +kernel
theorem dX12_tells_21 : decode cX12_tells 21 = .ok (.iload_n 3, 1) := by decide +kernel
theorem dX12_tells_22 : decode cX12_tells 22 = .ok (.iaload, 1) := by decide +kernel
theorem dX12_tells_23 : decode cX12_tells 23 = .ok (.ifCond .ge 48, 3) := by decide +kernel
theorem dX12_count_0 : decode cX12_count 0 = .ok (.iload_n 1, 1) := by decide +kernel
theorem dX12_count_1 : decode cX12_count 1 = .ok (.iconst 0, 1) := by decide +kernel
theorem dX12_count_2 : decode cX12_count 2 = .ok (.bipush 8, 2) := by decide +kernel
theorem dX12_count_4 : decode cX12_count 4 = .ok (.invokestatic 77, 3) := by decide +kernel
theorem dX12_count_7 : decode cX12_count 7 = .ok (.ifCond .eq 11, 3) := by decide +kernel
theorem dX12_count_10 : decode cX12_count 10 = .ok (.aload_n 0, 1) := by decide +kernel
theorem dX12_count_11 : decode cX12_count 11 = .ok (.iload_n 1, 1) := by decide +kernel
theorem dX12_count_12 : decode cX12_count 12 = .ok (.invokevirtual 309, 3) := by decide +kernel
theorem dX12_count_15 : decode cX12_count 15 = .ok (.goto 4, 3) := by decide +kernel
theorem dX12_count_19 : decode cX12_count 19 = .ok (.ireturn, 1) := by decide +kernel
theorem dX12_count_18 : decode cX12_count 18 = .ok (.iconst (-1), 1) := by decide +kernel
theorem dX12_finding_0 : decode cX12_finding 0 = .ok (.aload_n 0, 1) := by decide +kernel
theorem dX12_finding_1 : decode cX12_finding 1 = .ok (.getfield 70, 3) := by decide +kernel
theorem dX12_finding_4 : decode cX12_finding 4 = .ok (.ireturn, 1) := by decide +kernel
theorem dX12_findings_0 : decode cX12_findings 0 = .ok (.iload_n 1, 1) := by decide +kernel
theorem dX12_findings_1 : decode cX12_findings 1 = .ok (.iconst 1, 1) := by decide +kernel
theorem dX12_findings_2 : decode cX12_findings 2 = .ok (.iconst 5, 1) := by decide +kernel
theorem dX12_findings_3 : decode cX12_findings 3 = .ok (.invokestatic 77, 3) := by decide +kernel
theorem dX12_findings_6 : decode cX12_findings 6 = .ok (.ifCond .eq 12, 3) := by decide +kernel
theorem dX12_findings_9 : decode cX12_findings 9 = .ok (.aload_n 0, 1) := by decide +kernel
theorem dX12_findings_10 : decode cX12_findings 10 = .ok (.getfield 7, 3) := by decide +kernel
theorem dX12_findings_13 : decode cX12_findings 13 = .ok (.iload_n 1, 1) := by decide +kernel
theorem dX12_findings_14 : decode cX12_findings 14 = .ok (.iaload, 1) := by decide +kernel
theorem dX12_findings_15 : decode cX12_findings 15 = .ok (.goto 4, 3) := by decide +kernel
theorem dX12_findings_19 : decode cX12_findings 19 = .ok (.ireturn, 1) := by decide +kernel
theorem dX12_findings_18 : decode cX12_findings 18 = .ok (.iconst (-1), 1) := by decide +kernel
theorem dX12_mix_0 : decode cX12_mix 0 = .ok (.aload_n 0, 1) := by decide +kernel
theorem dX12_mix_1 : decode cX12_mix 1 = .ok (.ldc2_w 312, 3) := by decide +kernel
theorem dX12_mix_4 : decode cX12_mix 4 = .ok (.aload_n 0, 1) := by decide +kernel
theorem dX12_mix_5 : decode cX12_mix 5 = .ok (.getfield 314, 3) := by decide +kernel
theorem dX12_mix_8 : decode cX12_mix 8 = .ok (.lmul, 1) := by decide +kernel
theorem dX12_mix_9 : decode cX12_mix 9 = .ok (.iload_n 1, 1) := by decide +kernel
theorem dX12_mix_10 : decode cX12_mix 10 = .ok (.i2l, 1) := by decide +kernel
theorem dX12_mix_11 : decode cX12_mix 11 = .ok (.ladd, 1) := by decide +kernel
theorem dX12_mix_12 : decode cX12_mix 12 = .ok (.putfield 314, 3) := by decide +kernel
theorem dX12_mix_15 : decode cX12_mix 15 = .ok (.return_, 1) := by decide +kernel
theorem dX12_mixTown_0 : decode cX12_mixTown 0 = .ok (.iconst 0, 1) := by decide +kernel
theorem dX12_mixTown_1 : decode cX12_mixTown 1 = .ok (.istore_n 1, 1) := by decide +kernel
theorem dX12_mixTown_2 : decode cX12_mixTown 2 = .ok (.iload_n 1, 1) := by decide +kernel
theorem dX12_mixTown_3 : decode cX12_mixTown 3 = .ok (.aload_n 0, 1) := by decide +kernel
theorem dX12_mixTown_4 : decode cX12_mixTown 4 = .ok (.getfield 136, 3) := by decide +kernel
theorem dX12_mixTown_7 : decode cX12_mixTown 7 = .ok (.if_icmp .ge 32, 3) := by decide +kernel
theorem dX12_mixTown_39 : decode cX12_mixTown 39 = .ok (.iconst 0, 1) := by decide +kernel
theorem dX12_mixTown_40 : decode cX12_mixTown 40 = .ok (.istore_n 1, 1) := by decide +kernel
theorem dX12_mixTown_41 : decode cX12_mixTown 41 = .ok (.iload_n 1, 1) := by decide +kernel
theorem dX12_mixTown_42 : decode cX12_mixTown 42 = .ok (.aload_n 0, 1) := by decide +kernel
theorem dX12_mixTown_43 : decode cX12_mixTown 43 = .ok (.getfield 139, 3) := by decide +kernel
theorem dX12_mixTown_46 : decode cX12_mixTown 46 = .ok (.if_icmp .ge 47, 3) := by decide +kernel
theorem dX12_mixTown_93 : decode cX12_mixTown 93 = .ok (.iconst 0, 1) := by decide +kernel
theorem dX12_mixTown_94 : decode cX12_mixTown 94 = .ok (.istore_n 1, 1) := by decide +kernel
theorem dX12_mixTown_95 : decode cX12_mixTown 95 = .ok (.iload_n 1, 1) := by decide +kernel
theorem dX12_mixTown_96 : decode cX12_mixTown 96 = .ok (.aload_n 0, 1) := by decide +kernel
theorem dX12_mixTown_97 : decode cX12_mixTown 97 = .ok (.getfield 148, 3) := by decide +kernel
theorem dX12_mixTown_100 : decode cX12_mixTown 100 = .ok (.if_icmp .ge 53, 3) := by decide +kernel
theorem dX12_mixTown_153 : decode cX12_mixTown 153 = .ok (.iconst 0, 1) := by decide +kernel
theorem dX12_mixTown_154 : decode cX12_mixTown 154 = .ok (.istore_n 1, 1) := by decide +kernel
theorem dX12_mixTown_155 : decode cX12_mixTown 155 = .ok (.iload_n 1, 1) := by decide +kernel
theorem dX12_mixTown_156 : decode cX12_mixTown 156 = .ok (.iconst 3, 1) := by decide +kernel
theorem dX12_mixTown_157 : decode cX12_mixTown 157 = .ok (.if_icmp .ge 40, 3) := by decide +kernel
theorem dX12_mixTown_197 : decode cX12_mixTown 197 = .ok (.return_, 1) := by decide +kernel
theorem dX12_mixTown_160 : decode cX12_mixTown 160 = .ok (.aload_n 0, 1) := by decide +kernel
theorem dX12_mixTown_161 : decode cX12_mixTown 161 = .ok (.aload_n 0, 1) := by decide +kernel
theorem dX12_mixTown_162 : decode cX12_mixTown 162 = .ok (.getfield 52, 3) := by decide +kernel
theorem dX12_mixTown_165 : decode cX12_mixTown 165 = .ok (.bipush 64, 2) := by decide +kernel
theorem dX12_mixTown_167 : decode cX12_mixTown 167 = .ok (.iload_n 1, 1) := by decide +kernel
theorem dX12_mixTown_168 : decode cX12_mixTown 168 = .ok (.imul, 1) := by decide +kernel
theorem dX12_mixTown_169 : decode cX12_mixTown 169 = .ok (.iaload, 1) := by decide +kernel
theorem dX12_mixTown_170 : decode cX12_mixTown 170 = .ok (.bipush (-9), 2) := by decide +kernel
theorem dX12_mixTown_172 : decode cX12_mixTown 172 = .ok (.if_icmp .ne 7, 3) := by decide +kernel
theorem dX12_mixTown_179 : decode cX12_mixTown 179 = .ok (.aload_n 0, 1) := by decide +kernel
theorem dX12_mixTown_180 : decode cX12_mixTown 180 = .ok (.getfield 52, 3) := by decide +kernel
theorem dX12_mixTown_183 : decode cX12_mixTown 183 = .ok (.bipush 64, 2) := by decide +kernel
theorem dX12_mixTown_185 : decode cX12_mixTown 185 = .ok (.iload_n 1, 1) := by decide +kernel
theorem dX12_mixTown_186 : decode cX12_mixTown 186 = .ok (.imul, 1) := by decide +kernel
theorem dX12_mixTown_187 : decode cX12_mixTown 187 = .ok (.iaload, 1) := by decide +kernel
theorem dX12_mixTown_188 : decode cX12_mixTown 188 = .ok (.invokevirtual 318, 3) := by decide +kernel
theorem dX12_mixTown_191 : decode cX12_mixTown 191 = .ok (.iinc 1 1, 3) := by decide +kernel
theorem dX12_mixTown_194 : decode cX12_mixTown 194 = .ok (.goto (-39), 3) := by decide +kernel
theorem dX12_mixTown_175 : decode cX12_mixTown 175 = .ok (.iconst (-1), 1) := by decide +kernel
theorem dX12_mixTown_176 : decode cX12_mixTown 176 = .ok (.goto 12, 3) := by decide +kernel
theorem dX12_mixTown_103 : decode cX12_mixTown 103 = .ok (.iconst 0, 1) := by decide +kernel
theorem dX12_mixTown_104 : decode cX12_mixTown 104 = .ok (.istore_n 2, 1) := by decide +kernel
theorem dX12_mixTown_105 : decode cX12_mixTown 105 = .ok (.iload_n 2, 1) := by decide +kernel
theorem dX12_mixTown_106 : decode cX12_mixTown 106 = .ok (.iconst 4, 1) := by decide +kernel
theorem dX12_mixTown_107 : decode cX12_mixTown 107 = .ok (.if_icmp .gt 19, 3) := by decide +kernel
theorem dX12_mixTown_126 : decode cX12_mixTown 126 = .ok (.aload_n 0, 1) := by decide +kernel
theorem dX12_mixTown_127 : decode cX12_mixTown 127 = .ok (.aload_n 0, 1) := by decide +kernel
theorem dX12_mixTown_128 : decode cX12_mixTown 128 = .ok (.iload_n 1, 1) := by decide +kernel
theorem dX12_mixTown_129 : decode cX12_mixTown 129 = .ok (.iconst 5, 1) := by decide +kernel
theorem dX12_mixTown_130 : decode cX12_mixTown 130 = .ok (.invokevirtual 161, 3) := by decide +kernel
theorem dX12_mixTown_133 : decode cX12_mixTown 133 = .ok (.invokevirtual 318, 3) := by decide +kernel
theorem dX12_mixTown_136 : decode cX12_mixTown 136 = .ok (.aload_n 0, 1) := by decide +kernel
theorem dX12_mixTown_137 : decode cX12_mixTown 137 = .ok (.aload_n 0, 1) := by decide +kernel
theorem dX12_mixTown_138 : decode cX12_mixTown 138 = .ok (.iload_n 1, 1) := by decide +kernel
theorem dX12_mixTown_139 : decode cX12_mixTown 139 = .ok (.bipush 6, 2) := by decide +kernel
theorem dX12_mixTown_141 : decode cX12_mixTown 141 = .ok (.invokevirtual 161, 3) := by decide +kernel
theorem dX12_mixTown_144 : decode cX12_mixTown 144 = .ok (.invokevirtual 318, 3) := by decide +kernel
theorem dX12_mixTown_147 : decode cX12_mixTown 147 = .ok (.iinc 1 1, 3) := by decide +kernel
theorem dX12_mixTown_150 : decode cX12_mixTown 150 = .ok (.goto (-55), 3) := by decide +kernel
theorem dX12_mixTown_110 : decode cX12_mixTown 110 = .ok (.aload_n 0, 1) := by decide +kernel
theorem dX12_mixTown_111 : decode cX12_mixTown 111 = .ok (.aload_n 0, 1) := by decide +kernel
theorem dX12_mixTown_112 : decode cX12_mixTown 112 = .ok (.iload_n 1, 1) := by decide +kernel
theorem dX12_mixTown_113 : decode cX12_mixTown 113 = .ok (.iload_n 2, 1) := by decide +kernel
theorem dX12_mixTown_114 : decode cX12_mixTown 114 = .ok (.invokevirtual 207, 3) := by decide +kernel
theorem dX12_mixTown_117 : decode cX12_mixTown 117 = .ok (.invokevirtual 318, 3) := by decide +kernel
theorem dX12_mixTown_120 : decode cX12_mixTown 120 = .ok (.iinc 2 1, 3) := by decide +kernel
theorem dX12_mixTown_123 : decode cX12_mixTown 123 = .ok (.goto (-18), 3) := by decide +kernel
theorem dX12_mixTown_49 : decode cX12_mixTown 49 = .ok (.aload_n 0, 1) := by decide +kernel
theorem dX12_mixTown_50 : decode cX12_mixTown 50 = .ok (.aload_n 0, 1) := by decide +kernel
theorem dX12_mixTown_51 : decode cX12_mixTown 51 = .ok (.getfield 34, 3) := by decide +kernel
theorem dX12_mixTown_54 : decode cX12_mixTown 54 = .ok (.iconst 2, 1) := by decide +kernel
theorem dX12_mixTown_55 : decode cX12_mixTown 55 = .ok (.iload_n 1, 1) := by decide +kernel
theorem dX12_mixTown_56 : decode cX12_mixTown 56 = .ok (.imul, 1) := by decide +kernel
theorem dX12_mixTown_57 : decode cX12_mixTown 57 = .ok (.iaload, 1) := by decide +kernel
theorem dX12_mixTown_58 : decode cX12_mixTown 58 = .ok (.invokevirtual 318, 3) := by decide +kernel
theorem dX12_mixTown_61 : decode cX12_mixTown 61 = .ok (.aload_n 0, 1) := by decide +kernel
theorem dX12_mixTown_62 : decode cX12_mixTown 62 = .ok (.aload_n 0, 1) := by decide +kernel
theorem dX12_mixTown_63 : decode cX12_mixTown 63 = .ok (.getfield 34, 3) := by decide +kernel
theorem dX12_mixTown_66 : decode cX12_mixTown 66 = .ok (.iconst 2, 1) := by decide +kernel
theorem dX12_mixTown_67 : decode cX12_mixTown 67 = .ok (.iload_n 1, 1) := by decide +kernel
theorem dX12_mixTown_68 : decode cX12_mixTown 68 = .ok (.imul, 1) := by decide +kernel
theorem dX12_mixTown_69 : decode cX12_mixTown 69 = .ok (.iconst 1, 1) := by decide +kernel
theorem dX12_mixTown_70 : decode cX12_mixTown 70 = .ok (.iadd, 1) := by decide +kernel
theorem dX12_mixTown_71 : decode cX12_mixTown 71 = .ok (.iaload, 1) := by decide +kernel
theorem dX12_mixTown_72 : decode cX12_mixTown 72 = .ok (.invokevirtual 318, 3) := by decide +kernel
theorem dX12_mixTown_75 : decode cX12_mixTown 75 = .ok (.aload_n 0, 1) := by decide +kernel
theorem dX12_mixTown_76 : decode cX12_mixTown 76 = .ok (.aload_n 0, 1) := by decide +kernel
theorem dX12_mixTown_77 : decode cX12_mixTown 77 = .ok (.getfield 142, 3) := by decide +kernel
theorem dX12_mixTown_80 : decode cX12_mixTown 80 = .ok (.iload_n 1, 1) := by decide +kernel
theorem dX12_mixTown_81 : decode cX12_mixTown 81 = .ok (.ishr, 1) := by decide +kernel
theorem dX12_mixTown_82 : decode cX12_mixTown 82 = .ok (.iconst 1, 1) := by decide +kernel
theorem dX12_mixTown_83 : decode cX12_mixTown 83 = .ok (.iand, 1) := by decide +kernel
theorem dX12_mixTown_84 : decode cX12_mixTown 84 = .ok (.invokevirtual 318, 3) := by decide +kernel
theorem dX12_mixTown_87 : decode cX12_mixTown 87 = .ok (.iinc 1 1, 3) := by decide +kernel
theorem dX12_mixTown_90 : decode cX12_mixTown 90 = .ok (.goto (-49), 3) := by decide +kernel
theorem dX12_mixTown_10 : decode cX12_mixTown 10 = .ok (.iconst 0, 1) := by decide +kernel
theorem dX12_mixTown_11 : decode cX12_mixTown 11 = .ok (.istore_n 2, 1) := by decide +kernel
theorem dX12_mixTown_12 : decode cX12_mixTown 12 = .ok (.iload_n 2, 1) := by decide +kernel
theorem dX12_mixTown_13 : decode cX12_mixTown 13 = .ok (.iconst 3, 1) := by decide +kernel
theorem dX12_mixTown_14 : decode cX12_mixTown 14 = .ok (.if_icmp .gt 19, 3) := by decide +kernel
theorem dX12_mixTown_33 : decode cX12_mixTown 33 = .ok (.iinc 1 1, 3) := by decide +kernel
theorem dX12_mixTown_36 : decode cX12_mixTown 36 = .ok (.goto (-34), 3) := by decide +kernel
theorem dX12_mixTown_17 : decode cX12_mixTown 17 = .ok (.aload_n 0, 1) := by decide +kernel
theorem dX12_mixTown_18 : decode cX12_mixTown 18 = .ok (.aload_n 0, 1) := by decide +kernel
theorem dX12_mixTown_19 : decode cX12_mixTown 19 = .ok (.iload_n 1, 1) := by decide +kernel
theorem dX12_mixTown_20 : decode cX12_mixTown 20 = .ok (.iload_n 2, 1) := by decide +kernel
theorem dX12_mixTown_21 : decode cX12_mixTown 21 = .ok (.invokevirtual 173, 3) := by decide +kernel
theorem dX12_mixTown_24 : decode cX12_mixTown 24 = .ok (.invokevirtual 318, 3) := by decide +kernel
theorem dX12_mixTown_27 : decode cX12_mixTown 27 = .ok (.iinc 2 1, 3) := by decide +kernel
theorem dX12_mixTown_30 : decode cX12_mixTown 30 = .ok (.goto (-18), 3) := by decide +kernel
theorem dX12_digest_0 : decode cX12_digest 0 = .ok (.aload_n 0, 1) := by decide +kernel
theorem dX12_digest_1 : decode cX12_digest 1 = .ok (.ldc2_w 321, 3) := by decide +kernel
theorem dX12_digest_4 : decode cX12_digest 4 = .ok (.putfield 314, 3) := by decide +kernel
theorem dX12_digest_7 : decode cX12_digest 7 = .ok (.iconst 0, 1) := by decide +kernel
theorem dX12_digest_8 : decode cX12_digest 8 = .ok (.istore_n 1, 1) := by decide +kernel
theorem dX12_digest_9 : decode cX12_digest 9 = .ok (.iload_n 1, 1) := by decide +kernel
theorem dX12_digest_10 : decode cX12_digest 10 = .ok (.bipush 8, 2) := by decide +kernel
theorem dX12_digest_12 : decode cX12_digest 12 = .ok (.if_icmp .gt 18, 3) := by decide +kernel
theorem dX12_digest_30 : decode cX12_digest 30 = .ok (.aload_n 0, 1) := by decide +kernel
theorem dX12_digest_31 : decode cX12_digest 31 = .ok (.invokevirtual 323, 3) := by decide +kernel
theorem dX12_digest_34 : decode cX12_digest 34 = .ok (.iconst 0, 1) := by decide +kernel
theorem dX12_digest_35 : decode cX12_digest 35 = .ok (.istore_n 1, 1) := by decide +kernel
theorem dX12_digest_36 : decode cX12_digest 36 = .ok (.iload_n 1, 1) := by decide +kernel
theorem dX12_digest_37 : decode cX12_digest 37 = .ok (.bipush 6, 2) := by decide +kernel
theorem dX12_digest_39 : decode cX12_digest 39 = .ok (.if_icmp .ge 60, 3) := by decide +kernel
theorem dX12_digest_99 : decode cX12_digest 99 = .ok (.iconst 0, 1) := by decide +kernel
theorem dX12_digest_100 : decode cX12_digest 100 = .ok (.istore_n 1, 1) := by decide +kernel
theorem dX12_digest_101 : decode cX12_digest 101 = .ok (.iload_n 1, 1) := by decide +kernel
theorem dX12_digest_102 : decode cX12_digest 102 = .ok (.iconst 4, 1) := by decide +kernel
theorem dX12_digest_103 : decode cX12_digest 103 = .ok (.if_icmp .ge 65, 3) := by decide +kernel
theorem dX12_digest_168 : decode cX12_digest 168 = .ok (.aload_n 0, 1) := by decide +kernel
theorem dX12_digest_169 : decode cX12_digest 169 = .ok (.getfield 314, 3) := by decide +kernel
theorem dX12_digest_172 : decode cX12_digest 172 = .ok (.lreturn, 1) := by decide +kernel
theorem dX12_digest_106 : decode cX12_digest 106 = .ok (.aload_n 0, 1) := by decide +kernel
theorem dX12_digest_107 : decode cX12_digest 107 = .ok (.aload_n 0, 1) := by decide +kernel
theorem dX12_digest_108 : decode cX12_digest 108 = .ok (.getfield 22, 3) := by decide +kernel
theorem dX12_digest_111 : decode cX12_digest 111 = .ok (.iload_n 1, 1) := by decide +kernel
theorem dX12_digest_112 : decode cX12_digest 112 = .ok (.iaload, 1) := by decide +kernel
theorem dX12_digest_113 : decode cX12_digest 113 = .ok (.ifCond .ge 7, 3) := by decide +kernel
theorem dX12_digest_120 : decode cX12_digest 120 = .ok (.aload_n 0, 1) := by decide +kernel
theorem dX12_digest_121 : decode cX12_digest 121 = .ok (.getfield 22, 3) := by decide +kernel
theorem dX12_digest_124 : decode cX12_digest 124 = .ok (.iload_n 1, 1) := by decide +kernel
theorem dX12_digest_125 : decode cX12_digest 125 = .ok (.iaload, 1) := by decide +kernel
theorem dX12_digest_126 : decode cX12_digest 126 = .ok (.invokevirtual 318, 3) := by decide +kernel
theorem dX12_digest_129 : decode cX12_digest 129 = .ok (.iconst 0, 1) := by decide +kernel
theorem dX12_digest_130 : decode cX12_digest 130 = .ok (.istore_n 2, 1) := by decide +kernel
theorem dX12_digest_131 : decode cX12_digest 131 = .ok (.iload_n 2, 1) := by decide +kernel
theorem dX12_digest_132 : decode cX12_digest 132 = .ok (.aload_n 0, 1) := by decide +kernel
theorem dX12_digest_133 : decode cX12_digest 133 = .ok (.getfield 22, 3) := by decide +kernel
theorem dX12_digest_136 : decode cX12_digest 136 = .ok (.iload_n 1, 1) := by decide +kernel
theorem dX12_digest_137 : decode cX12_digest 137 = .ok (.iaload, 1) := by decide +kernel
theorem dX12_digest_138 : decode cX12_digest 138 = .ok (.if_icmp .ge 24, 3) := by decide +kernel
theorem dX12_digest_162 : decode cX12_digest 162 = .ok (.iinc 1 1, 3) := by decide +kernel
theorem dX12_digest_165 : decode cX12_digest 165 = .ok (.goto (-64), 3) := by decide +kernel
theorem dX12_digest_141 : decode cX12_digest 141 = .ok (.aload_n 0, 1) := by decide +kernel
theorem dX12_digest_142 : decode cX12_digest 142 = .ok (.aload_n 0, 1) := by decide +kernel
theorem dX12_digest_143 : decode cX12_digest 143 = .ok (.getfield 25, 3) := by decide +kernel
theorem dX12_digest_146 : decode cX12_digest 146 = .ok (.bipush 80, 2) := by decide +kernel
theorem dX12_digest_148 : decode cX12_digest 148 = .ok (.iload_n 1, 1) := by decide +kernel
theorem dX12_digest_149 : decode cX12_digest 149 = .ok (.imul, 1) := by decide +kernel
theorem dX12_digest_150 : decode cX12_digest 150 = .ok (.iload_n 2, 1) := by decide +kernel
theorem dX12_digest_151 : decode cX12_digest 151 = .ok (.iadd, 1) := by decide +kernel
theorem dX12_digest_152 : decode cX12_digest 152 = .ok (.iaload, 1) := by decide +kernel
theorem dX12_digest_153 : decode cX12_digest 153 = .ok (.invokevirtual 318, 3) := by decide +kernel
theorem dX12_digest_156 : decode cX12_digest 156 = .ok (.iinc 2 1, 3) := by decide +kernel
theorem dX12_digest_159 : decode cX12_digest 159 = .ok (.goto (-28), 3) := by decide +kernel
theorem dX12_digest_116 : decode cX12_digest 116 = .ok (.iconst (-1), 1) := by decide +kernel
theorem dX12_digest_117 : decode cX12_digest 117 = .ok (.goto 9, 3) := by decide +kernel
theorem dX12_digest_42 : decode cX12_digest 42 = .ok (.aload_n 0, 1) := by decide +kernel
theorem dX12_digest_43 : decode cX12_digest 43 = .ok (.aload_n 0, 1) := by decide +kernel
theorem dX12_digest_44 : decode cX12_digest 44 = .ok (.getfield 13, 3) := by decide +kernel
theorem dX12_digest_47 : decode cX12_digest 47 = .ok (.iload_n 1, 1) := by decide +kernel
theorem dX12_digest_48 : decode cX12_digest 48 = .ok (.iaload, 1) := by decide +kernel
theorem dX12_digest_49 : decode cX12_digest 49 = .ok (.ifCond .ge 7, 3) := by decide +kernel
theorem dX12_digest_56 : decode cX12_digest 56 = .ok (.aload_n 0, 1) := by decide +kernel
theorem dX12_digest_57 : decode cX12_digest 57 = .ok (.getfield 13, 3) := by decide +kernel
theorem dX12_digest_60 : decode cX12_digest 60 = .ok (.iload_n 1, 1) := by decide +kernel
theorem dX12_digest_61 : decode cX12_digest 61 = .ok (.iaload, 1) := by decide +kernel
theorem dX12_digest_62 : decode cX12_digest 62 = .ok (.invokevirtual 318, 3) := by decide +kernel
theorem dX12_digest_65 : decode cX12_digest 65 = .ok (.iconst 0, 1) := by decide +kernel
theorem dX12_digest_66 : decode cX12_digest 66 = .ok (.istore_n 2, 1) := by decide +kernel
theorem dX12_digest_67 : decode cX12_digest 67 = .ok (.iload_n 2, 1) := by decide +kernel
theorem dX12_digest_68 : decode cX12_digest 68 = .ok (.aload_n 0, 1) := by decide +kernel
theorem dX12_digest_69 : decode cX12_digest 69 = .ok (.getfield 13, 3) := by decide +kernel
theorem dX12_digest_72 : decode cX12_digest 72 = .ok (.iload_n 1, 1) := by decide +kernel
theorem dX12_digest_73 : decode cX12_digest 73 = .ok (.iaload, 1) := by decide +kernel
theorem dX12_digest_74 : decode cX12_digest 74 = .ok (.if_icmp .ge 19, 3) := by decide +kernel
theorem dX12_digest_93 : decode cX12_digest 93 = .ok (.iinc 1 1, 3) := by decide +kernel
theorem dX12_digest_96 : decode cX12_digest 96 = .ok (.goto (-60), 3) := by decide +kernel
theorem dX12_digest_77 : decode cX12_digest 77 = .ok (.aload_n 0, 1) := by decide +kernel
theorem dX12_digest_78 : decode cX12_digest 78 = .ok (.aload_n 0, 1) := by decide +kernel
theorem dX12_digest_79 : decode cX12_digest 79 = .ok (.iload_n 1, 1) := by decide +kernel
theorem dX12_digest_80 : decode cX12_digest 80 = .ok (.iload_n 2, 1) := by decide +kernel
theorem dX12_digest_81 : decode cX12_digest 81 = .ok (.invokevirtual 99, 3) := by decide +kernel
theorem dX12_digest_84 : decode cX12_digest 84 = .ok (.invokevirtual 318, 3) := by decide +kernel
theorem dX12_digest_87 : decode cX12_digest 87 = .ok (.iinc 2 1, 3) := by decide +kernel
theorem dX12_digest_90 : decode cX12_digest 90 = .ok (.goto (-23), 3) := by decide +kernel
theorem dX12_digest_52 : decode cX12_digest 52 = .ok (.iconst (-1), 1) := by decide +kernel
theorem dX12_digest_53 : decode cX12_digest 53 = .ok (.goto 9, 3) := by decide +kernel
theorem dX12_digest_15 : decode cX12_digest 15 = .ok (.aload_n 0, 1) := by decide +kernel
theorem dX12_digest_16 : decode cX12_digest 16 = .ok (.aload_n 0, 1) := by decide +kernel
theorem dX12_digest_17 : decode cX12_digest 17 = .ok (.iload_n 1, 1) := by decide +kernel
theorem dX12_digest_18 : decode cX12_digest 18 = .ok (.invokevirtual 309, 3) := by decide +kernel
theorem dX12_digest_21 : decode cX12_digest 21 = .ok (.invokevirtual 318, 3) := by decide +kernel
theorem dX12_digest_24 : decode cX12_digest 24 = .ok (.iinc 1 1, 3) := by decide +kernel
theorem dX12_digest_27 : decode cX12_digest 27 = .ok (.goto (-18), 3) := by decide +kernel
