theorem dX12_cheapest_0 : decode cX12_cheapest 0 = .ok (.iload_n 2, 1) := by decide +kernel
theorem dX12_cheapest_1 : decode cX12_cheapest 1 = .ok (.invokestatic 81, 3) := by decide +kernel
theorem dX12_cheapest_4 : decode cX12_cheapest 4 = .ok (.ifCond .ne 7, 3) := by decide +kernel
theorem dX12_cheapest_11 : decode cX12_cheapest 11 = .ok (.aload_n 0, 1) := by decide +kernel
theorem dX12_cheapest_12 : decode cX12_cheapest 12 = .ok (.iload_n 1, 1) := by decide +kernel
theorem dX12_cheapest_13 : decode cX12_cheapest 13 = .ok (.invokevirtual 266, 3) := by decide +kernel
theorem dX12_cheapest_16 : decode cX12_cheapest 16 = .ok (.istore_n 3, 1) := by decide +kernel
theorem dX12_cheapest_17 : decode cX12_cheapest 17 = .ok (.iload_n 3, 1) := by decide +kernel
theorem dX12_cheapest_18 : decode cX12_cheapest 18 = .ok (.ifCond .ge 5, 3) := by decide +kernel
theorem dX12_cheapest_23 : decode cX12_cheapest 23 = .ok (.aload_n 0, 1) := by decide +kernel
theorem dX12_cheapest_24 : decode cX12_cheapest 24 = .ok (.getfield 210, 3) := by decide +kernel
theorem dX12_cheapest_27 : decode cX12_cheapest 27 = .ok (.ifCond .ne 6, 3) := by decide +kernel
theorem dX12_cheapest_33 : decode cX12_cheapest 33 = .ok (.aload_n 0, 1) := by decide +kernel
theorem dX12_cheapest_34 : decode cX12_cheapest 34 = .ok (.iload_n 2, 1) := by decide +kernel
theorem dX12_cheapest_35 : decode cX12_cheapest 35 = .ok (.aload_n 0, 1) := by decide +kernel
theorem dX12_cheapest_36 : decode cX12_cheapest 36 = .ok (.getfield 58, 3) := by decide +kernel
theorem dX12_cheapest_39 : decode cX12_cheapest 39 = .ok (.aload_n 0, 1) := by decide +kernel
theorem dX12_cheapest_40 : decode cX12_cheapest 40 = .ok (.getfield 216, 3) := by decide +kernel
theorem dX12_cheapest_43 : decode cX12_cheapest 43 = .ok (.invokevirtual 269, 3) := by decide +kernel
theorem dX12_cheapest_46 : decode cX12_cheapest 46 = .ok (.aload_n 0, 1) := by decide +kernel
theorem dX12_cheapest_47 : decode cX12_cheapest 47 = .ok (.getfield 213, 3) := by decide +kernel
theorem dX12_cheapest_50 : decode cX12_cheapest 50 = .ok (.ireturn, 1) := by decide +kernel
theorem dX12_cheapest_30 : decode cX12_cheapest 30 = .ok (.bipush (-9), 2) := by decide +kernel
theorem dX12_cheapest_32 : decode cX12_cheapest 32 = .ok (.ireturn, 1) := by decide +kernel
theorem dX12_cheapest_21 : decode cX12_cheapest 21 = .ok (.iload_n 3, 1) := by decide +kernel
theorem dX12_cheapest_22 : decode cX12_cheapest 22 = .ok (.ireturn, 1) := by decide +kernel
theorem dX12_cheapest_7 : decode cX12_cheapest 7 = .ok (.iconst (-1), 1) := by decide +kernel
theorem dX12_cheapest_8 : decode cX12_cheapest 8 = .ok (.goto 8, 3) := by decide +kernel
theorem dX12_soonest_0 : decode cX12_soonest 0 = .ok (.iload_n 2, 1) := by decide +kernel
theorem dX12_soonest_1 : decode cX12_soonest 1 = .ok (.invokestatic 81, 3) := by decide +kernel
theorem dX12_soonest_4 : decode cX12_soonest 4 = .ok (.ifCond .ne 7, 3) := by decide +kernel
theorem dX12_soonest_11 : decode cX12_soonest 11 = .ok (.aload_n 0, 1) := by decide +kernel
theorem dX12_soonest_12 : decode cX12_soonest 12 = .ok (.iload_n 1, 1) := by decide +kernel
theorem dX12_soonest_13 : decode cX12_soonest 13 = .ok (.invokevirtual 266, 3) := by decide +kernel
theorem dX12_soonest_16 : decode cX12_soonest 16 = .ok (.istore_n 3, 1) := by decide +kernel
theorem dX12_soonest_17 : decode cX12_soonest 17 = .ok (.iload_n 3, 1) := by decide +kernel
theorem dX12_soonest_18 : decode cX12_soonest 18 = .ok (.ifCond .ge 5, 3) := by decide +kernel
theorem dX12_soonest_23 : decode cX12_soonest 23 = .ok (.aload_n 0, 1) := by decide +kernel
theorem dX12_soonest_24 : decode cX12_soonest 24 = .ok (.getfield 229, 3) := by decide +kernel
theorem dX12_soonest_27 : decode cX12_soonest 27 = .ok (.ifCond .ne 6, 3) := by decide +kernel
theorem dX12_soonest_33 : decode cX12_soonest 33 = .ok (.aload_n 0, 1) := by decide +kernel
theorem dX12_soonest_34 : decode cX12_soonest 34 = .ok (.iload_n 2, 1) := by decide +kernel
theorem dX12_soonest_35 : decode cX12_soonest 35 = .ok (.aload_n 0, 1) := by decide +kernel
theorem dX12_soonest_36 : decode cX12_soonest 36 = .ok (.getfield 61, 3) := by decide +kernel
theorem dX12_soonest_39 : decode cX12_soonest 39 = .ok (.aload_n 0, 1) := by decide +kernel
theorem dX12_soonest_40 : decode cX12_soonest 40 = .ok (.getfield 235, 3) := by decide +kernel
theorem dX12_soonest_43 : decode cX12_soonest 43 = .ok (.invokevirtual 269, 3) := by decide +kernel
theorem dX12_soonest_46 : decode cX12_soonest 46 = .ok (.aload_n 0, 1) := by decide +kernel
theorem dX12_soonest_47 : decode cX12_soonest 47 = .ok (.aload_n 0, 1) := by decide +kernel
theorem dX12_soonest_48 : decode cX12_soonest 48 = .ok (.getfield 238, 3) := by decide +kernel
theorem dX12_soonest_51 : decode cX12_soonest 51 = .ok (.aload_n 0, 1) := by decide +kernel
theorem dX12_soonest_52 : decode cX12_soonest 52 = .ok (.getfield 235, 3) := by decide +kernel
theorem dX12_soonest_55 : decode cX12_soonest 55 = .ok (.iconst 1, 1) := by decide +kernel
theorem dX12_soonest_56 : decode cX12_soonest 56 = .ok (.isub, 1) := by decide +kernel
theorem dX12_soonest_57 : decode cX12_soonest 57 = .ok (.invokevirtual 103, 3) := by decide +kernel
theorem dX12_soonest_60 : decode cX12_soonest 60 = .ok (.ireturn, 1) := by decide +kernel
theorem dX12_soonest_30 : decode cX12_soonest 30 = .ok (.bipush (-9), 2) := by decide +kernel
theorem dX12_soonest_32 : decode cX12_soonest 32 = .ok (.ireturn, 1) := by decide +kernel
theorem dX12_soonest_21 : decode cX12_soonest 21 = .ok (.iload_n 3, 1) := by decide +kernel
theorem dX12_soonest_22 : decode cX12_soonest 22 = .ok (.ireturn, 1) := by decide +kernel
theorem dX12_soonest_7 : decode cX12_soonest 7 = .ok (.iconst (-1), 1) := by decide +kernel
theorem dX12_soonest_8 : decode cX12_soonest 8 = .ok (.goto 8, 3) := by decide +kernel
theorem dX12_comes_0 : decode cX12_comes 0 = .ok (.aload_n 0, 1) := by decide +kernel
theorem dX12_comes_1 : decode cX12_comes 1 = .ok (.iload_n 1, 1) := by decide +kernel
theorem dX12_comes_2 : decode cX12_comes 2 = .ok (.invokevirtual 266, 3) := by decide +kernel
theorem dX12_comes_5 : decode cX12_comes 5 = .ok (.istore_n 2, 1) := by decide +kernel
theorem dX12_comes_6 : decode cX12_comes 6 = .ok (.iload_n 2, 1) := by decide +kernel
theorem dX12_comes_7 : decode cX12_comes 7 = .ok (.ifCond .ge 7, 3) := by decide +kernel
theorem dX12_comes_14 : decode cX12_comes 14 = .ok (.aload_n 0, 1) := by decide +kernel
theorem dX12_comes_15 : decode cX12_comes 15 = .ok (.aload_n 0, 1) := by decide +kernel
theorem dX12_comes_16 : decode cX12_comes 16 = .ok (.getfield 210, 3) := by decide +kernel
theorem dX12_comes_19 : decode cX12_comes 19 = .ok (.aload_n 0, 1) := by decide +kernel
theorem dX12_comes_20 : decode cX12_comes 20 = .ok (.getfield 229, 3) := by decide +kernel
theorem dX12_comes_23 : decode cX12_comes 23 = .ok (.invokevirtual 103, 3) := by decide +kernel
theorem dX12_comes_26 : decode cX12_comes 26 = .ok (.ireturn, 1) := by decide +kernel
theorem dX12_comes_10 : decode cX12_comes 10 = .ok (.iload_n 2, 1) := by decide +kernel
theorem dX12_comes_11 : decode cX12_comes 11 = .ok (.goto 15, 3) := by decide +kernel
theorem dX12_bars_0 : decode cX12_bars 0 = .ok (.aload_n 0, 1) := by decide +kernel
theorem dX12_bars_1 : decode cX12_bars 1 = .ok (.iload_n 1, 1) := by decide +kernel
theorem dX12_bars_2 : decode cX12_bars 2 = .ok (.invokevirtual 266, 3) := by decide +kernel
theorem dX12_bars_5 : decode cX12_bars 5 = .ok (.istore_n 2, 1) := by decide +kernel
theorem dX12_bars_6 : decode cX12_bars 6 = .ok (.iload_n 2, 1) := by decide +kernel
theorem dX12_bars_7 : decode cX12_bars 7 = .ok (.ifCond .ge 7, 3) := by decide +kernel
theorem dX12_bars_14 : decode cX12_bars 14 = .ok (.aload_n 0, 1) := by decide +kernel
theorem dX12_bars_15 : decode cX12_bars 15 = .ok (.getfield 229, 3) := by decide +kernel
theorem dX12_bars_18 : decode cX12_bars 18 = .ok (.ifCond .ne 7, 3) := by decide +kernel
theorem dX12_bars_25 : decode cX12_bars 25 = .ok (.aload_n 0, 1) := by decide +kernel
theorem dX12_bars_26 : decode cX12_bars 26 = .ok (.getfield 232, 3) := by decide +kernel
theorem dX12_bars_29 : decode cX12_bars 29 = .ok (.ireturn, 1) := by decide +kernel
theorem dX12_bars_21 : decode cX12_bars 21 = .ok (.iconst 0, 1) := by decide +kernel
theorem dX12_bars_22 : decode cX12_bars 22 = .ok (.goto 7, 3) := by decide +kernel
theorem dX12_bars_10 : decode cX12_bars 10 = .ok (.iload_n 2, 1) := by decide +kernel
theorem dX12_bars_11 : decode cX12_bars 11 = .ok (.goto 18, 3) := by decide +kernel
theorem dX12_why_0 : decode cX12_why 0 = .ok (.aload_n 0, 1) := by decide +kernel
theorem dX12_why_1 : decode cX12_why 1 = .ok (.iload_n 1, 1) := by decide +kernel
theorem dX12_why_2 : decode cX12_why 2 = .ok (.invokevirtual 266, 3) := by decide +kernel
theorem dX12_why_5 : decode cX12_why 5 = .ok (.istore_n 2, 1) := by decide +kernel
theorem dX12_why_6 : decode cX12_why 6 = .ok (.iload_n 2, 1) := by decide +kernel
theorem dX12_why_7 : decode cX12_why 7 = .ok (.ifCond .ge 5, 3) := by decide +kernel
theorem dX12_why_12 : decode cX12_why 12 = .ok (.aload_n 0, 1) := by decide +kernel
theorem dX12_why_13 : decode cX12_why 13 = .ok (.getfield 229, 3) := by decide +kernel
theorem dX12_why_16 : decode cX12_why 16 = .ok (.ifCond .le 5, 3) := by decide +kernel
theorem dX12_why_21 : decode cX12_why 21 = .ok (.aload_n 0, 1) := by decide +kernel
theorem dX12_why_22 : decode cX12_why 22 = .ok (.getfield 210, 3) := by decide +kernel
theorem dX12_why_25 : decode cX12_why 25 = .ok (.ifCond .le 5, 3) := by decide +kernel
theorem dX12_why_30 : decode cX12_why 30 = .ok (.aload_n 0, 1) := by decide +kernel
theorem dX12_why_31 : decode cX12_why 31 = .ok (.iconst 0, 1) := by decide +kernel
theorem dX12_why_32 : decode cX12_why 32 = .ok (.putfield 241, 3) := by decide +kernel
theorem dX12_why_35 : decode cX12_why 35 = .ok (.aload_n 0, 1) := by decide +kernel
theorem dX12_why_36 : decode cX12_why 36 = .ok (.iload_n 1, 1) := by decide +kernel
theorem dX12_why_37 : decode cX12_why 37 = .ok (.invokevirtual 259, 3) := by decide +kernel
theorem dX12_why_40 : decode cX12_why 40 = .ok (.aload_n 0, 1) := by decide +kernel
theorem dX12_why_41 : decode cX12_why 41 = .ok (.getfield 210, 3) := by decide +kernel
theorem dX12_why_44 : decode cX12_why 44 = .ok (.ifCond .le 7, 3) := by decide +kernel
theorem dX12_why_51 : decode cX12_why 51 = .ok (.iconst 1, 1) := by decide +kernel
theorem dX12_why_52 : decode cX12_why 52 = .ok (.ireturn, 1) := by decide +kernel
theorem dX12_why_47 : decode cX12_why 47 = .ok (.iconst 2, 1) := by decide +kernel
theorem dX12_why_48 : decode cX12_why 48 = .ok (.goto 4, 3) := by decide +kernel
theorem dX12_why_28 : decode cX12_why 28 = .ok (.iconst 3, 1) := by decide +kernel
theorem dX12_why_29 : decode cX12_why 29 = .ok (.ireturn, 1) := by decide +kernel
theorem dX12_why_19 : decode cX12_why 19 = .ok (.iconst 0, 1) := by decide +kernel
theorem dX12_why_20 : decode cX12_why 20 = .ok (.ireturn, 1) := by decide +kernel
theorem dX12_why_10 : decode cX12_why 10 = .ok (.iload_n 2, 1) := by decide +kernel
theorem dX12_why_11 : decode cX12_why 11 = .ok (.ireturn, 1) := by decide +kernel
theorem dX12_needs_0 : decode cX12_needs 0 = .ok (.aload_n 0, 1) := by decide +kernel
theorem dX12_needs_1 : decode cX12_needs 1 = .ok (.iload_n 1, 1) := by decide +kernel
theorem dX12_needs_2 : decode cX12_needs 2 = .ok (.invokevirtual 266, 3) := by decide +kernel
theorem dX12_needs_5 : decode cX12_needs 5 = .ok (.istore_n 2, 1) := by decide +kernel
theorem dX12_needs_6 : decode cX12_needs 6 = .ok (.iload_n 2, 1) := by decide +kernel
theorem dX12_needs_7 : decode cX12_needs 7 = .ok (.ifCond .ge 7, 3) := by decide +kernel
theorem dX12_needs_14 : decode cX12_needs 14 = .ok (.aload_n 0, 1) := by decide +kernel
theorem dX12_needs_15 : decode cX12_needs 15 = .ok (.getfield 226, 3) := by decide +kernel
theorem dX12_needs_18 : decode cX12_needs 18 = .ok (.sipush 999, 3) := by decide +kernel
theorem dX12_needs_21 : decode cX12_needs 21 = .ok (.if_icmp .le 8, 3) := by decide +kernel
theorem dX12_needs_29 : decode cX12_needs 29 = .ok (.aload_n 0, 1) := by decide +kernel
theorem dX12_needs_30 : decode cX12_needs 30 = .ok (.getfield 226, 3) := by decide +kernel
theorem dX12_needs_33 : decode cX12_needs 33 = .ok (.ireturn, 1) := by decide +kernel
theorem dX12_needs_24 : decode cX12_needs 24 = .ok (.bipush (-9), 2) := by decide +kernel
theorem dX12_needs_26 : decode cX12_needs 26 = .ok (.goto 7, 3) := by decide +kernel
theorem dX12_needs_10 : decode cX12_needs 10 = .ok (.iload_n 2, 1) := by decide +kernel
theorem dX12_needs_11 : decode cX12_needs 11 = .ok (.goto 22, 3) := by decide +kernel
theorem dX12_lend_0 : decode cX12_lend 0 = .ok (.aload_n 0, 1) := by decide +kernel
theorem dX12_lend_1 : decode cX12_lend 1 = .ok (.iload_n 1, 1) := by decide +kernel
theorem dX12_lend_2 : decode cX12_lend 2 = .ok (.invokevirtual 266, 3) := by decide +kernel
theorem dX12_lend_5 : decode cX12_lend 5 = .ok (.istore_n 2, 1) := by decide +kernel
theorem dX12_lend_6 : decode cX12_lend 6 = .ok (.iload_n 2, 1) := by decide +kernel
theorem dX12_lend_7 : decode cX12_lend 7 = .ok (.ifCond .ge 5, 3) := by decide +kernel
theorem dX12_lend_12 : decode cX12_lend 12 = .ok (.bipush (-9), 2) := by decide +kernel
theorem dX12_lend_14 : decode cX12_lend 14 = .ok (.istore_n 3, 1) := by decide +kernel
theorem dX12_lend_15 : decode cX12_lend 15 = .ok (.ldc 254, 2) := by decide +kernel
theorem dX12_lend_17 : decode cX12_lend 17 = .ok (.istore 4, 2) := by decide +kernel
theorem dX12_lend_19 : decode cX12_lend 19 = .ok (.iconst 0, 1) := by decide +kernel
theorem dX12_lend_20 : decode cX12_lend 20 = .ok (.istore 5, 2) := by decide +kernel
theorem dX12_lend_22 : decode cX12_lend 22 = .ok (.iload 5, 2) := by decide +kernel
theorem dX12_lend_24 : decode cX12_lend 24 = .ok (.aload_n 0, 1) := by decide +kernel
theorem dX12_lend_25 : decode cX12_lend 25 = .ok (.getfield 136, 3) := by decide +kernel
theorem dX12_lend_28 : decode cX12_lend 28 = .ok (.if_icmp .ge 130, 3) := by decide +kernel
theorem dX12_lend_158 : decode cX12_lend 158 = .ok (.iload_n 3, 1) := by decide +kernel
theorem dX12_lend_159 : decode cX12_lend 159 = .ok (.bipush (-9), 2) := by decide +kernel
theorem dX12_lend_161 : decode cX12_lend 161 = .ok (.if_icmp .ne 8, 3) := by decide +kernel
theorem dX12_lend_169 : decode cX12_lend 169 = .ok (.aload_n 0, 1) := by decide +kernel
theorem dX12_lend_170 : decode cX12_lend 170 = .ok (.iload 4, 2) := by decide +kernel
theorem dX12_lend_172 : decode cX12_lend 172 = .ok (.iload_n 3, 1) := by decide +kernel
theorem dX12_lend_173 : decode cX12_lend 173 = .ok (.invokevirtual 103, 3) := by decide +kernel
theorem dX12_lend_176 : decode cX12_lend 176 = .ok (.ireturn, 1) := by decide +kernel
theorem dX12_lend_164 : decode cX12_lend 164 = .ok (.bipush (-9), 2) := by decide +kernel
theorem dX12_lend_166 : decode cX12_lend 166 = .ok (.goto 10, 3) := by decide +kernel
theorem dX12_lend_31 : decode cX12_lend 31 = .ok (.iload 5, 2) := by decide +kernel
theorem dX12_lend_33 : decode cX12_lend 33 = .ok (.aload_n 0, 1) := by decide +kernel
theorem dX12_lend_34 : decode cX12_lend 34 = .ok (.iload_n 1, 1) := by decide +kernel
theorem dX12_lend_35 : decode cX12_lend 35 = .ok (.iconst 5, 1) := by decide +kernel
theorem dX12_lend_36 : decode cX12_lend 36 = .ok (.invokevirtual 161, 3) := by decide +kernel
theorem dX12_lend_39 : decode cX12_lend 39 = .ok (.if_icmp .eq 29, 3) := by decide +kernel
theorem dX12_lend_68 : decode cX12_lend 68 = .ok (.iconst 0, 1) := by decide +kernel
theorem dX12_lend_69 : decode cX12_lend 69 = .ok (.istore 6, 2) := by decide +kernel
theorem dX12_lend_71 : decode cX12_lend 71 = .ok (.aload_n 0, 1) := by decide +kernel
theorem dX12_lend_72 : decode cX12_lend 72 = .ok (.getfield 31, 3) := by decide +kernel
theorem dX12_lend_75 : decode cX12_lend 75 = .ok (.iload 5, 2) := by decide +kernel
theorem dX12_lend_77 : decode cX12_lend 77 = .ok (.iaload, 1) := by decide +kernel
theorem dX12_lend_78 : decode cX12_lend 78 = .ok (.istore 7, 2) := by decide +kernel
theorem dX12_lend_80 : decode cX12_lend 80 = .ok (.aload_n 0, 1) := by decide +kernel
theorem dX12_lend_81 : decode cX12_lend 81 = .ok (.getfield 31, 3) := by decide +kernel
theorem dX12_lend_84 : decode cX12_lend 84 = .ok (.iload 5, 2) := by decide +kernel
theorem dX12_lend_86 : decode cX12_lend 86 = .ok (.bipush 99, 2) := by decide +kernel
theorem dX12_lend_88 : decode cX12_lend 88 = .ok (.iastore, 1) := by decide +kernel
theorem dX12_lend_89 : decode cX12_lend 89 = .ok (.aload_n 0, 1) := by decide +kernel
theorem dX12_lend_90 : decode cX12_lend 90 = .ok (.iload_n 1, 1) := by decide +kernel
theorem dX12_lend_91 : decode cX12_lend 91 = .ok (.invokevirtual 259, 3) := by decide +kernel
theorem dX12_lend_94 : decode cX12_lend 94 = .ok (.aload_n 0, 1) := by decide +kernel
theorem dX12_lend_95 : decode cX12_lend 95 = .ok (.getfield 31, 3) := by decide +kernel
theorem dX12_lend_98 : decode cX12_lend 98 = .ok (.iload 5, 2) := by decide +kernel
theorem dX12_lend_100 : decode cX12_lend 100 = .ok (.iload 7, 2) := by decide +kernel
theorem dX12_lend_102 : decode cX12_lend 102 = .ok (.iastore, 1) := by decide +kernel
theorem dX12_lend_103 : decode cX12_lend 103 = .ok (.iload 6, 2) := by decide +kernel
theorem dX12_lend_105 : decode cX12_lend 105 = .ok (.ifCond .eq 16, 3) := by decide +kernel
theorem dX12_lend_121 : decode cX12_lend 121 = .ok (.iconst 0, 1) := by decide +kernel
theorem dX12_lend_122 : decode cX12_lend 122 = .ok (.istore 8, 2) := by decide +kernel
theorem dX12_lend_124 : decode cX12_lend 124 = .ok (.iload 8, 2) := by decide +kernel
theorem dX12_lend_126 : decode cX12_lend 126 = .ok (.ifCond .eq 8, 3) := by decide +kernel
theorem dX12_lend_134 : decode cX12_lend 134 = .ok (.iload_n 3, 1) := by decide +kernel
theorem dX12_lend_135 : decode cX12_lend 135 = .ok (.istore_n 3, 1) := by decide +kernel
theorem dX12_lend_136 : decode cX12_lend 136 = .ok (.iload 8, 2) := by decide +kernel
theorem dX12_lend_138 : decode cX12_lend 138 = .ok (.ifCond .eq 10, 3) := by decide +kernel
theorem dX12_lend_148 : decode cX12_lend 148 = .ok (.iload 4, 2) := by decide +kernel
theorem dX12_lend_150 : decode cX12_lend 150 = .ok (.istore 4, 2) := by decide +kernel
theorem dX12_lend_152 : decode cX12_lend 152 = .ok (.iinc 5 1, 3) := by decide +kernel
theorem dX12_lend_155 : decode cX12_lend 155 = .ok (.goto (-133), 3) := by decide +kernel
theorem dX12_lend_42 : decode cX12_lend 42 = .ok (.aload_n 0, 1) := by decide +kernel
theorem dX12_lend_43 : decode cX12_lend 43 = .ok (.getfield 28, 3) := by decide +kernel
theorem dX12_lend_46 : decode cX12_lend 46 = .ok (.iload 5, 2) := by decide +kernel
theorem dX12_lend_48 : decode cX12_lend 48 = .ok (.iaload, 1) := by decide +kernel
theorem dX12_lend_49 : decode cX12_lend 49 = .ok (.iconst 3, 1) := by decide +kernel
theorem dX12_lend_50 : decode cX12_lend 50 = .ok (.if_icmp .ne 14, 3) := by decide +kernel
theorem dX12_lend_64 : decode cX12_lend 64 = .ok (.iconst 1, 1) := by decide +kernel
theorem dX12_lend_65 : decode cX12_lend 65 = .ok (.goto 4, 3) := by decide +kernel
theorem dX12_lend_108 : decode cX12_lend 108 = .ok (.aload_n 0, 1) := by decide +kernel
theorem dX12_lend_109 : decode cX12_lend 109 = .ok (.getfield 213, 3) := by decide +kernel
theorem dX12_lend_112 : decode cX12_lend 112 = .ok (.iload 4, 2) := by decide +kernel
theorem dX12_lend_114 : decode cX12_lend 114 = .ok (.if_icmp .ge 7, 3) := by decide +kernel
theorem dX12_lend_117 : decode cX12_lend 117 = .ok (.iconst 1, 1) := by decide +kernel
theorem dX12_lend_118 : decode cX12_lend 118 = .ok (.goto 4, 3) := by decide +kernel
theorem dX12_lend_129 : decode cX12_lend 129 = .ok (.iload 5, 2) := by decide +kernel
theorem dX12_lend_131 : decode cX12_lend 131 = .ok (.goto 4, 3) := by decide +kernel
theorem dX12_lend_141 : decode cX12_lend 141 = .ok (.aload_n 0, 1) := by decide +kernel
theorem dX12_lend_142 : decode cX12_lend 142 = .ok (.getfield 213, 3) := by decide +kernel
theorem dX12_lend_145 : decode cX12_lend 145 = .ok (.goto 5, 3) := by decide +kernel
theorem dX12_lend_53 : decode cX12_lend 53 = .ok (.iload 5, 2) := by decide +kernel
theorem dX12_lend_55 : decode cX12_lend 55 = .ok (.aload_n 0, 1) := by decide +kernel
theorem dX12_lend_56 : decode cX12_lend 56 = .ok (.iload_n 1, 1) := by decide +kernel
theorem dX12_lend_57 : decode cX12_lend 57 = .ok (.iconst 1, 1) := by decide +kernel
theorem dX12_lend_58 : decode cX12_lend 58 = .ok (.invokevirtual 161, 3) := by decide +kernel
theorem dX12_lend_61 : decode cX12_lend 61 = .ok (.if_icmp .ne 7, 3) := by decide +kernel
theorem dX12_lend_10 : decode cX12_lend 10 = .ok (.iload_n 2, 1) := by decide +kernel
theorem dX12_lend_11 : decode cX12_lend 11 = .ok (.ireturn, 1) := by decide +kernel
